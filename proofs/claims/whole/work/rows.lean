section
-- ===== PART A: goes FIRST, ahead of the names: the tables' words, and 'selects' of the private methods out of them =====
/-- a private method of a class that the tables say can be made, by its rows of tables_1 -/
def lw_okq (q : MethodName × Nat) : Prop := (q.1.cls ≠ "java/lang/invoke/MethodHandle" ∧ q.1.cls ≠ "java/lang/invoke/VarHandle") ∧ Cond.instantiable q.1.cls q.2 ∈ tables_1 ∧ Cond.privateMethod q.1 ∈ tables_1 ∧ Cond.instanceMethod q.1 ∈ tables_1
theorem lw_p0 : lw_okq (⟨"StrokeBook$Draft", "placeEven", "(II)V"⟩, 6) := ⟨⟨by decide +kernel, by decide +kernel⟩, List.mem_of_getElem? (i := 22) (by decide +kernel), List.mem_of_getElem? (i := 273) (by decide +kernel), List.mem_of_getElem? (i := 274) (by decide +kernel)⟩
theorem lw_p1 : lw_okq (⟨"StrokeBook$Draft", "takeMiddleOff", "(I)V"⟩, 6) := ⟨⟨by decide +kernel, by decide +kernel⟩, List.mem_of_getElem? (i := 22) (by decide +kernel), List.mem_of_getElem? (i := 293) (by decide +kernel), List.mem_of_getElem? (i := 294) (by decide +kernel)⟩
theorem lw_p2 : lw_okq (⟨"StrokeBook$Draft", "greatestSize", "()I"⟩, 6) := ⟨⟨by decide +kernel, by decide +kernel⟩, List.mem_of_getElem? (i := 22) (by decide +kernel), List.mem_of_getElem? (i := 303) (by decide +kernel), List.mem_of_getElem? (i := 304) (by decide +kernel)⟩
theorem lw_p3 : lw_okq (⟨"StrokeBook$Measure", "distanceUnturned", "(I[II)I"⟩, 3) := ⟨⟨by decide +kernel, by decide +kernel⟩, List.mem_of_getElem? (i := 111) (by decide +kernel), List.mem_of_getElem? (i := 375) (by decide +kernel), List.mem_of_getElem? (i := 376) (by decide +kernel)⟩
theorem lw_p4 : lw_okq (⟨"StrokeBook$Measure", "leastPairing", "([II)I"⟩, 3) := ⟨⟨by decide +kernel, by decide +kernel⟩, List.mem_of_getElem? (i := 111) (by decide +kernel), List.mem_of_getElem? (i := 379) (by decide +kernel), List.mem_of_getElem? (i := 380) (by decide +kernel)⟩
theorem lw_p5 : lw_okq (⟨"StrokeBook$Measure", "pointsApart", "(I[III)I"⟩, 3) := ⟨⟨by decide +kernel, by decide +kernel⟩, List.mem_of_getElem? (i := 111) (by decide +kernel), List.mem_of_getElem? (i := 383) (by decide +kernel), List.mem_of_getElem? (i := 384) (by decide +kernel)⟩
theorem lw_p6 : lw_okq (⟨"StrokeBook$Measure", "leastSum", "(I)I"⟩, 3) := ⟨⟨by decide +kernel, by decide +kernel⟩, List.mem_of_getElem? (i := 111) (by decide +kernel), List.mem_of_getElem? (i := 388) (by decide +kernel), List.mem_of_getElem? (i := 389) (by decide +kernel)⟩
theorem lw_p7 : lw_okq (⟨"StrokeBook$Measure", "turnQuarter", "()V"⟩, 3) := ⟨⟨by decide +kernel, by decide +kernel⟩, List.mem_of_getElem? (i := 111) (by decide +kernel), List.mem_of_getElem? (i := 400) (by decide +kernel), List.mem_of_getElem? (i := 401) (by decide +kernel)⟩
theorem lw_p8 : lw_okq (⟨"StrokeBook", "measureDraft", "()I"⟩, 10) := ⟨⟨by decide +kernel, by decide +kernel⟩, List.mem_of_getElem? (i := 14) (by decide +kernel), List.mem_of_getElem? (i := 408) (by decide +kernel), List.mem_of_getElem? (i := 409) (by decide +kernel)⟩
theorem lw_p9 : lw_okq (⟨"StrokeBook", "labelRead", "(I)I"⟩, 10) := ⟨⟨by decide +kernel, by decide +kernel⟩, List.mem_of_getElem? (i := 14) (by decide +kernel), List.mem_of_getElem? (i := 416) (by decide +kernel), List.mem_of_getElem? (i := 417) (by decide +kernel)⟩
theorem lw_p10 : lw_okq (⟨"StrokeBook", "isConfused", "(II)Z"⟩, 10) := ⟨⟨by decide +kernel, by decide +kernel⟩, List.mem_of_getElem? (i := 14) (by decide +kernel), List.mem_of_getElem? (i := 432) (by decide +kernel), List.mem_of_getElem? (i := 433) (by decide +kernel)⟩
theorem lw_p11 : lw_okq (⟨"StrokeBook$LabelLine", "commandAt", "(LStrokeBook$Commands;II)I"⟩, 5) := ⟨⟨by decide +kernel, by decide +kernel⟩, List.mem_of_getElem? (i := 152) (by decide +kernel), List.mem_of_getElem? (i := 460) (by decide +kernel), List.mem_of_getElem? (i := 461) (by decide +kernel)⟩
theorem lw_p12 : lw_okq (⟨"StrokeBook$LabelLine", "standsAt", "(LStrokeBook$Commands;II)Z"⟩, 5) := ⟨⟨by decide +kernel, by decide +kernel⟩, List.mem_of_getElem? (i := 152) (by decide +kernel), List.mem_of_getElem? (i := 468) (by decide +kernel), List.mem_of_getElem? (i := 469) (by decide +kernel)⟩
theorem lw_p13 : lw_okq (⟨"StrokeBook$Commands", "haveSameLabels", "(II)Z"⟩, 5) := ⟨⟨by decide +kernel, by decide +kernel⟩, List.mem_of_getElem? (i := 127) (by decide +kernel), List.mem_of_getElem? (i := 494) (by decide +kernel), List.mem_of_getElem? (i := 495) (by decide +kernel)⟩
theorem lw_p14 : lw_okq (⟨"StrokeBook", "scanPoint", "(III)I"⟩, 10) := ⟨⟨by decide +kernel, by decide +kernel⟩, List.mem_of_getElem? (i := 14) (by decide +kernel), List.mem_of_getElem? (i := 549) (by decide +kernel), List.mem_of_getElem? (i := 550) (by decide +kernel)⟩
theorem lw_p15 : lw_okq (⟨"StrokeBookModel", "drawn", "(I)I"⟩, 32) := ⟨⟨by decide +kernel, by decide +kernel⟩, List.mem_of_getElem? (i := 565) (by decide +kernel), List.mem_of_getElem? (i := 685) (by decide +kernel), List.mem_of_getElem? (i := 686) (by decide +kernel)⟩
def lw_privs_1 : List (MethodName × Nat) := [(⟨"StrokeBook$Draft", "placeEven", "(II)V"⟩, 6), (⟨"StrokeBook$Draft", "takeMiddleOff", "(I)V"⟩, 6), (⟨"StrokeBook$Draft", "greatestSize", "()I"⟩, 6), (⟨"StrokeBook$Measure", "distanceUnturned", "(I[II)I"⟩, 3), (⟨"StrokeBook$Measure", "leastPairing", "([II)I"⟩, 3), (⟨"StrokeBook$Measure", "pointsApart", "(I[III)I"⟩, 3), (⟨"StrokeBook$Measure", "leastSum", "(I)I"⟩, 3), (⟨"StrokeBook$Measure", "turnQuarter", "()V"⟩, 3), (⟨"StrokeBook", "measureDraft", "()I"⟩, 10), (⟨"StrokeBook", "labelRead", "(I)I"⟩, 10), (⟨"StrokeBook", "isConfused", "(II)Z"⟩, 10), (⟨"StrokeBook$LabelLine", "commandAt", "(LStrokeBook$Commands;II)I"⟩, 5), (⟨"StrokeBook$LabelLine", "standsAt", "(LStrokeBook$Commands;II)Z"⟩, 5), (⟨"StrokeBook$Commands", "haveSameLabels", "(II)Z"⟩, 5), (⟨"StrokeBook", "scanPoint", "(III)I"⟩, 10), (⟨"StrokeBookModel", "drawn", "(I)I"⟩, 32)]
theorem lw_r1 : ∀ q ∈ lw_privs_1, lw_okq q := List.forall_mem_cons.mpr ⟨lw_p0, List.forall_mem_cons.mpr ⟨lw_p1, List.forall_mem_cons.mpr ⟨lw_p2, List.forall_mem_cons.mpr ⟨lw_p3, List.forall_mem_cons.mpr ⟨lw_p4, List.forall_mem_cons.mpr ⟨lw_p5, List.forall_mem_cons.mpr ⟨lw_p6, List.forall_mem_cons.mpr ⟨lw_p7, List.forall_mem_cons.mpr ⟨lw_p8, List.forall_mem_cons.mpr ⟨lw_p9, List.forall_mem_cons.mpr ⟨lw_p10, List.forall_mem_cons.mpr ⟨lw_p11, List.forall_mem_cons.mpr ⟨lw_p12, List.forall_mem_cons.mpr ⟨lw_p13, List.forall_mem_cons.mpr ⟨lw_p14, List.forall_mem_cons.mpr ⟨lw_p15, fun _ h => absurd h List.not_mem_nil⟩⟩⟩⟩⟩⟩⟩⟩⟩⟩⟩⟩⟩⟩⟩⟩
theorem lw_p16 : lw_okq (⟨"StrokeBookModel", "findEvens", "()V"⟩, 32) := ⟨⟨by decide +kernel, by decide +kernel⟩, List.mem_of_getElem? (i := 565) (by decide +kernel), List.mem_of_getElem? (i := 699) (by decide +kernel), List.mem_of_getElem? (i := 700) (by decide +kernel)⟩
theorem lw_p17 : lw_okq (⟨"StrokeBookModel", "findNorms", "()V"⟩, 32) := ⟨⟨by decide +kernel, by decide +kernel⟩, List.mem_of_getElem? (i := 565) (by decide +kernel), List.mem_of_getElem? (i := 710) (by decide +kernel), List.mem_of_getElem? (i := 711) (by decide +kernel)⟩
theorem lw_p18 : lw_okq (⟨"StrokeBookModel", "keeps", "(II)V"⟩, 32) := ⟨⟨by decide +kernel, by decide +kernel⟩, List.mem_of_getElem? (i := 565) (by decide +kernel), List.mem_of_getElem? (i := 722) (by decide +kernel), List.mem_of_getElem? (i := 723) (by decide +kernel)⟩
theorem lw_p19 : lw_okq (⟨"StrokeBookModel", "isTaught", "(I)Z"⟩, 32) := ⟨⟨by decide +kernel, by decide +kernel⟩, List.mem_of_getElem? (i := 565) (by decide +kernel), List.mem_of_getElem? (i := 730) (by decide +kernel), List.mem_of_getElem? (i := 731) (by decide +kernel)⟩
theorem lw_p20 : lw_okq (⟨"StrokeBookModel", "goes", "(I)V"⟩, 32) := ⟨⟨by decide +kernel, by decide +kernel⟩, List.mem_of_getElem? (i := 565) (by decide +kernel), List.mem_of_getElem? (i := 734) (by decide +kernel), List.mem_of_getElem? (i := 735) (by decide +kernel)⟩
theorem lw_p21 : lw_okq (⟨"StrokeBookModel", "moves", "(II)V"⟩, 32) := ⟨⟨by decide +kernel, by decide +kernel⟩, List.mem_of_getElem? (i := 565) (by decide +kernel), List.mem_of_getElem? (i := 738) (by decide +kernel), List.mem_of_getElem? (i := 739) (by decide +kernel)⟩
theorem lw_p22 : lw_okq (⟨"StrokeBookModel", "holdsDraft", "()V"⟩, 32) := ⟨⟨by decide +kernel, by decide +kernel⟩, List.mem_of_getElem? (i := 565) (by decide +kernel), List.mem_of_getElem? (i := 767) (by decide +kernel), List.mem_of_getElem? (i := 768) (by decide +kernel)⟩
theorem lw_p23 : lw_okq (⟨"StrokeBookModel", "distanceOf", "(I)I"⟩, 32) := ⟨⟨by decide +kernel, by decide +kernel⟩, List.mem_of_getElem? (i := 565) (by decide +kernel), List.mem_of_getElem? (i := 771) (by decide +kernel), List.mem_of_getElem? (i := 772) (by decide +kernel)⟩
theorem lw_p24 : lw_okq (⟨"StrokeBookModel", "cloud", "(I)I"⟩, 32) := ⟨⟨by decide +kernel, by decide +kernel⟩, List.mem_of_getElem? (i := 565) (by decide +kernel), List.mem_of_getElem? (i := 775) (by decide +kernel), List.mem_of_getElem? (i := 776) (by decide +kernel)⟩
theorem lw_p25 : lw_okq (⟨"StrokeBookModel", "far", "(III)I"⟩, 32) := ⟨⟨by decide +kernel, by decide +kernel⟩, List.mem_of_getElem? (i := 565) (by decide +kernel), List.mem_of_getElem? (i := 779) (by decide +kernel), List.mem_of_getElem? (i := 780) (by decide +kernel)⟩
theorem lw_p26 : lw_okq (⟨"StrokeBookModel", "straight", "(IZ)I"⟩, 32) := ⟨⟨by decide +kernel, by decide +kernel⟩, List.mem_of_getElem? (i := 565) (by decide +kernel), List.mem_of_getElem? (i := 783) (by decide +kernel), List.mem_of_getElem? (i := 784) (by decide +kernel)⟩
theorem lw_p27 : lw_okq (⟨"StrokeBookModel", "turns", "()V"⟩, 32) := ⟨⟨by decide +kernel, by decide +kernel⟩, List.mem_of_getElem? (i := 565) (by decide +kernel), List.mem_of_getElem? (i := 787) (by decide +kernel), List.mem_of_getElem? (i := 788) (by decide +kernel)⟩
theorem lw_p28 : lw_okq (⟨"StrokeBookModel", "betweenOf", "(II)I"⟩, 32) := ⟨⟨by decide +kernel, by decide +kernel⟩, List.mem_of_getElem? (i := 565) (by decide +kernel), List.mem_of_getElem? (i := 809) (by decide +kernel), List.mem_of_getElem? (i := 810) (by decide +kernel)⟩
theorem lw_p29 : lw_okq (⟨"StrokeBookModel", "parsed", "(II)I"⟩, 32) := ⟨⟨by decide +kernel, by decide +kernel⟩, List.mem_of_getElem? (i := 565) (by decide +kernel), List.mem_of_getElem? (i := 826) (by decide +kernel), List.mem_of_getElem? (i := 827) (by decide +kernel)⟩
theorem lw_p30 : lw_okq (⟨"StrokeBookModel", "commandAt", "(II)I"⟩, 32) := ⟨⟨by decide +kernel, by decide +kernel⟩, List.mem_of_getElem? (i := 565) (by decide +kernel), List.mem_of_getElem? (i := 830) (by decide +kernel), List.mem_of_getElem? (i := 831) (by decide +kernel)⟩
theorem lw_p31 : lw_okq (⟨"StrokeBookModel", "stands", "(II)Z"⟩, 32) := ⟨⟨by decide +kernel, by decide +kernel⟩, List.mem_of_getElem? (i := 565) (by decide +kernel), List.mem_of_getElem? (i := 834) (by decide +kernel), List.mem_of_getElem? (i := 835) (by decide +kernel)⟩
def lw_privs_2 : List (MethodName × Nat) := [(⟨"StrokeBookModel", "findEvens", "()V"⟩, 32), (⟨"StrokeBookModel", "findNorms", "()V"⟩, 32), (⟨"StrokeBookModel", "keeps", "(II)V"⟩, 32), (⟨"StrokeBookModel", "isTaught", "(I)Z"⟩, 32), (⟨"StrokeBookModel", "goes", "(I)V"⟩, 32), (⟨"StrokeBookModel", "moves", "(II)V"⟩, 32), (⟨"StrokeBookModel", "holdsDraft", "()V"⟩, 32), (⟨"StrokeBookModel", "distanceOf", "(I)I"⟩, 32), (⟨"StrokeBookModel", "cloud", "(I)I"⟩, 32), (⟨"StrokeBookModel", "far", "(III)I"⟩, 32), (⟨"StrokeBookModel", "straight", "(IZ)I"⟩, 32), (⟨"StrokeBookModel", "turns", "()V"⟩, 32), (⟨"StrokeBookModel", "betweenOf", "(II)I"⟩, 32), (⟨"StrokeBookModel", "parsed", "(II)I"⟩, 32), (⟨"StrokeBookModel", "commandAt", "(II)I"⟩, 32), (⟨"StrokeBookModel", "stands", "(II)Z"⟩, 32)]
theorem lw_r2 : ∀ q ∈ lw_privs_2, lw_okq q := List.forall_mem_cons.mpr ⟨lw_p16, List.forall_mem_cons.mpr ⟨lw_p17, List.forall_mem_cons.mpr ⟨lw_p18, List.forall_mem_cons.mpr ⟨lw_p19, List.forall_mem_cons.mpr ⟨lw_p20, List.forall_mem_cons.mpr ⟨lw_p21, List.forall_mem_cons.mpr ⟨lw_p22, List.forall_mem_cons.mpr ⟨lw_p23, List.forall_mem_cons.mpr ⟨lw_p24, List.forall_mem_cons.mpr ⟨lw_p25, List.forall_mem_cons.mpr ⟨lw_p26, List.forall_mem_cons.mpr ⟨lw_p27, List.forall_mem_cons.mpr ⟨lw_p28, List.forall_mem_cons.mpr ⟨lw_p29, List.forall_mem_cons.mpr ⟨lw_p30, List.forall_mem_cons.mpr ⟨lw_p31, fun _ h => absurd h List.not_mem_nil⟩⟩⟩⟩⟩⟩⟩⟩⟩⟩⟩⟩⟩⟩⟩⟩
theorem lw_p32 : lw_okq (⟨"StrokeBookModel", "isHidden", "(II)Z"⟩, 32) := ⟨⟨by decide +kernel, by decide +kernel⟩, List.mem_of_getElem? (i := 565) (by decide +kernel), List.mem_of_getElem? (i := 846) (by decide +kernel), List.mem_of_getElem? (i := 847) (by decide +kernel)⟩
def lw_privs_3 : List (MethodName × Nat) := [(⟨"StrokeBookModel", "isHidden", "(II)Z"⟩, 32)]
theorem lw_r3 : ∀ q ∈ lw_privs_3, lw_okq q := List.forall_mem_cons.mpr ⟨lw_p32, fun _ h => absurd h List.not_mem_nil⟩
def lw_privs : List (MethodName × Nat) := lw_privs_1 ++ (lw_privs_2 ++ (lw_privs_3))
def lw_tbl : List Cond := k2_sels lw_privs ++ tables_1
theorem lw_privs_ok : ∀ q ∈ lw_privs, lw_okq q := by
  show ∀ q ∈ lw_privs_1 ++ (lw_privs_2 ++ (lw_privs_3)), lw_okq q
  exact List.forall_mem_append.mpr ⟨lw_r1, List.forall_mem_append.mpr ⟨lw_r2, lw_r3⟩⟩
/-! ===== BEGIN words of one list among another's, by their places ===== -/
theorem goodIn_r {big : List Cond} (ws : List Cond) (ps : List Nat) (hp : ws = ps.filterMap (fun i => big[i]?)) (h : ws.all goodWord = true) : GoodIn big ws := by
  intro w hw
  have h1 := List.all_eq_true.mp h w hw
  rw [hp] at hw
  obtain ⟨i, -, hi⟩ := List.mem_filterMap.mp hw
  have hm : w ∈ big := by first | exact List.mem_of_getElem? hi | exact List.getElem?_mem hi
  exact ⟨hm, good_of_word h1⟩
theorem goodIn_app {big a b : List Cond} (ha : GoodIn big a) (hb : GoodIn big b) : GoodIn big (a ++ b) := fun w h => (List.mem_append.mp h).elim (ha w) (hb w)
theorem goodIn_ca {big a b : List Cond} {c : Cond} (ha : GoodIn big (c :: a)) (hb : GoodIn big b) : GoodIn big (c :: (a ++ b)) := fun w h => (List.mem_cons.mp h).elim (fun e => ha w (List.mem_cons.mpr (Or.inl e))) (fun h => (List.mem_append.mp h).elim (fun h => ha w (List.mem_cons.mpr (Or.inr h))) (hb w))
theorem goodIn_sub {big ws : List Cond} (hm : ∀ w ∈ ws, w ∈ big) (h : ws.all goodWord = true) : GoodIn big ws := fun w hw => ⟨hm w hw, good_of_word (List.all_eq_true.mp h w hw)⟩
/-! ===== END ===== -/

/-! ===== BEGIN printed: names, fields, word lists, decode rows ===== -/
def RX0 : String := "StrokeBook$Acts"
def TX0 : u_T := fun k => match k with
  | 0 => ("StrokeBook$Acts", "sorts", "[I", true)
  | 1 => ("StrokeBook$Acts", "numbers", "[I", true)
  | 2 => ("StrokeBook$Acts", "labels", "[I", true)
  | 3 => ("StrokeBook$Acts", "kinds", "[I", true)
  | 4 => ("StrokeBook$Acts", "points", "[I", true)
  | 5 => ("StrokeBook$Acts", "size", "I", false)
  | _ => ("StrokeBook$Acts", "next", "I", false)
def tyX0 : Nat → FieldType := fun k => match k with
  | 0 => .array .int
  | 1 => .array .int
  | 2 => .array .int
  | 3 => .array .int
  | 4 => .array .int
  | 5 => .int
  | _ => .int
abbrev wsX00 : List Cond := u_ws RX0 TX0 7
theorem nmX0 : ∀ a, a < 7 → ∀ b, b < 7 → a ≠ b → (TX0 a).2.1 ≠ (TX0 b).2.1 := by decide +kernel
theorem tyX0_ok : ∀ k, k < 7 → parseFieldDescriptor (TX0 k).2.2.1 = some (tyX0 k) := by decide +kernel
abbrev cX0_init : ByteArray := prog_2_method_1_code
def yX0_init : MethodName := ⟨RX0, "<init>", "()V"⟩
abbrev cX0_push : ByteArray := prog_2_method_2_code
def yX0_push : MethodName := ⟨RX0, "push", "(IIII)I"⟩
abbrev cX0_pop : ByteArray := prog_2_method_3_code
def yX0_pop : MethodName := ⟨RX0, "pop", "()I"⟩
def RX1 : String := "StrokeBook$Commands"
def TX1 : u_T := fun k => match k with
  | 0 => ("StrokeBook$Commands", "contexts", "[I", true)
  | 1 => ("StrokeBook$Commands", "ranks", "[I", true)
  | 2 => ("StrokeBook$Commands", "lengths", "[I", true)
  | 3 => ("StrokeBook$Commands", "labels", "[I", true)
  | _ => ("StrokeBook$Commands", "size", "I", false)
def tyX1 : Nat → FieldType := fun k => match k with
  | 0 => .array .int
  | 1 => .array .int
  | 2 => .array .int
  | 3 => .array .int
  | _ => .int
abbrev wsX10 : List Cond := u_ws RX1 TX1 5
theorem nmX1 : ∀ a, a < 5 → ∀ b, b < 5 → a ≠ b → (TX1 a).2.1 ≠ (TX1 b).2.1 := by decide +kernel
theorem tyX1_ok : ∀ k, k < 5 → parseFieldDescriptor (TX1 k).2.2.1 = some (tyX1 k) := by decide +kernel
abbrev cX1_init : ByteArray := prog_3_method_1_code
def yX1_init : MethodName := ⟨RX1, "<init>", "()V"⟩
abbrev cX1_open : ByteArray := prog_3_method_2_code
def yX1_open : MethodName := ⟨RX1, "open", "(III)I"⟩
abbrev cX1_put : ByteArray := prog_3_method_3_code
def yX1_put : MethodName := ⟨RX1, "put", "(III)V"⟩
abbrev cX1_labelAt : ByteArray := prog_3_method_4_code
def yX1_labelAt : MethodName := ⟨RX1, "labelAt", "(II)I"⟩
abbrev cX1_isOf : ByteArray := prog_3_method_5_code
def yX1_isOf : MethodName := ⟨RX1, "isOf", "(II)Z"⟩
abbrev cX1_goesBefore : ByteArray := prog_3_method_6_code
def yX1_goesBefore : MethodName := ⟨RX1, "goesBefore", "(II)Z"⟩
abbrev cX1_isHidden : ByteArray := prog_3_method_7_code
def yX1_isHidden : MethodName := ⟨RX1, "isHidden", "(I)Z"⟩
abbrev cX1_haveSameLabels : ByteArray := prog_3_method_8_code
def yX1_haveSameLabels : MethodName := ⟨RX1, "haveSameLabels", "(II)Z"⟩
def RX2 : String := "StrokeBook$Draft"
def TX2 : u_T := fun k => match k with
  | 0 => ("StrokeBook$Draft", "xs", "[I", true)
  | 1 => ("StrokeBook$Draft", "ys", "[I", true)
  | 2 => ("StrokeBook$Draft", "liftedTo", "[Z", true)
  | 3 => ("StrokeBook$Draft", "evenRow", "[I", true)
  | 4 => ("StrokeBook$Draft", "normalRow", "[I", true)
  | _ => ("StrokeBook$Draft", "size", "I", false)
def tyX2 : Nat → FieldType := fun k => match k with
  | 0 => .array .int
  | 1 => .array .int
  | 2 => .array .boolean
  | 3 => .array .int
  | 4 => .array .int
  | _ => .int
abbrev wsX20 : List Cond := u_ws RX2 TX2 6
theorem nmX2 : ∀ a, a < 6 → ∀ b, b < 6 → a ≠ b → (TX2 a).2.1 ≠ (TX2 b).2.1 := by decide +kernel
theorem tyX2_ok : ∀ k, k < 6 → parseFieldDescriptor (TX2 k).2.2.1 = some (tyX2 k) := by decide +kernel
abbrev cX2_init : ByteArray := prog_4_method_1_code
def yX2_init : MethodName := ⟨RX2, "<init>", "()V"⟩
abbrev cX2_add : ByteArray := prog_4_method_2_code
def yX2_add : MethodName := ⟨RX2, "add", "(IIZ)I"⟩
abbrev cX2_empty : ByteArray := prog_4_method_3_code
def yX2_empty : MethodName := ⟨RX2, "empty", "()I"⟩
abbrev cX2_cutTo : ByteArray := prog_4_method_4_code
def yX2_cutTo : MethodName := ⟨RX2, "cutTo", "(I)V"⟩
abbrev cX2_drawnTo : ByteArray := prog_4_method_5_code
def yX2_drawnTo : MethodName := ⟨RX2, "drawnTo", "(I)I"⟩
abbrev cX2_length : ByteArray := prog_4_method_6_code
def yX2_length : MethodName := ⟨RX2, "length", "()I"⟩
abbrev cX2_makeEven : ByteArray := prog_4_method_7_code
def yX2_makeEven : MethodName := ⟨RX2, "makeEven", "()Z"⟩
abbrev cX2_placeEven : ByteArray := prog_4_method_8_code
def yX2_placeEven : MethodName := ⟨RX2, "placeEven", "(II)V"⟩
abbrev cX2_partWay : ByteArray := prog_4_method_9_code
def yX2_partWay : MethodName := ⟨RX2, "partWay", "(IIII)I"⟩
abbrev cX2_makeNormal : ByteArray := prog_4_method_10_code
def yX2_makeNormal : MethodName := ⟨RX2, "makeNormal", "()Z"⟩
abbrev cX2_takeMiddleOff : ByteArray := prog_4_method_11_code
def yX2_takeMiddleOff : MethodName := ⟨RX2, "takeMiddleOff", "(I)V"⟩
abbrev cX2_greatestSize : ByteArray := prog_4_method_12_code
def yX2_greatestSize : MethodName := ⟨RX2, "greatestSize", "()I"⟩
def RX3 : String := "StrokeBook$LabelLine"
def TX3 : u_T := fun k => match k with
  | 0 => ("StrokeBook$LabelLine", "row", "[I", true)
  | 1 => ("StrokeBook$LabelLine", "foundNumbers", "[I", true)
  | 2 => ("StrokeBook$LabelLine", "foundPlaces", "[I", true)
  | 3 => ("StrokeBook$LabelLine", "size", "I", false)
  | _ => ("StrokeBook$LabelLine", "foundSize", "I", false)
def tyX3 : Nat → FieldType := fun k => match k with
  | 0 => .array .int
  | 1 => .array .int
  | 2 => .array .int
  | 3 => .int
  | _ => .int
abbrev wsX30 : List Cond := u_ws RX3 TX3 5
theorem nmX3 : ∀ a, a < 5 → ∀ b, b < 5 → a ≠ b → (TX3 a).2.1 ≠ (TX3 b).2.1 := by decide +kernel
theorem tyX3_ok : ∀ k, k < 5 → parseFieldDescriptor (TX3 k).2.2.1 = some (tyX3 k) := by decide +kernel
abbrev cX3_init : ByteArray := prog_5_method_1_code
def yX3_init : MethodName := ⟨RX3, "<init>", "()V"⟩
abbrev cX3_add : ByteArray := prog_5_method_2_code
def yX3_add : MethodName := ⟨RX3, "add", "(I)Z"⟩
abbrev cX3_empty : ByteArray := prog_5_method_3_code
def yX3_empty : MethodName := ⟨RX3, "empty", "()I"⟩
abbrev cX3_findCommands : ByteArray := prog_5_method_4_code
def yX3_findCommands : MethodName := ⟨RX3, "findCommands", "(LStrokeBook$Commands;I)V"⟩
abbrev cX3_commandAt : ByteArray := prog_5_method_5_code
def yX3_commandAt : MethodName := ⟨RX3, "commandAt", "(LStrokeBook$Commands;II)I"⟩
abbrev cX3_standsAt : ByteArray := prog_5_method_6_code
def yX3_standsAt : MethodName := ⟨RX3, "standsAt", "(LStrokeBook$Commands;II)Z"⟩
def RX4 : String := "StrokeBook$Measure"
def TX4 : u_T := fun k => match k with
  | 0 => ("StrokeBook$Measure", "held", "[I", true)
  | 1 => ("StrokeBook$Measure", "apart", "[I", true)
  | _ => ("StrokeBook$Measure", "leastSums", "[I", true)
def tyX4 : Nat → FieldType := fun k => match k with
  | 0 => .array .int
  | 1 => .array .int
  | _ => .array .int
abbrev wsX40 : List Cond := u_ws RX4 TX4 3
theorem nmX4 : ∀ a, a < 3 → ∀ b, b < 3 → a ≠ b → (TX4 a).2.1 ≠ (TX4 b).2.1 := by decide +kernel
theorem tyX4_ok : ∀ k, k < 3 → parseFieldDescriptor (TX4 k).2.2.1 = some (tyX4 k) := by decide +kernel
abbrev cX4_init : ByteArray := prog_6_method_1_code
def yX4_init : MethodName := ⟨RX4, "<init>", "()V"⟩
abbrev cX4_distanceFrom : ByteArray := prog_6_method_2_code
def yX4_distanceFrom : MethodName := ⟨RX4, "distanceFrom", "([IILStrokeBook$TaughtMarks;I)I"⟩
abbrev cX4_turnQuarter : ByteArray := prog_6_method_3_code
def yX4_turnQuarter : MethodName := ⟨RX4, "turnQuarter", "()V"⟩
abbrev cX4_distanceUnturned : ByteArray := prog_6_method_4_code
def yX4_distanceUnturned : MethodName := ⟨RX4, "distanceUnturned", "(I[II)I"⟩
abbrev cX4_pointsApart : ByteArray := prog_6_method_5_code
def yX4_pointsApart : MethodName := ⟨RX4, "pointsApart", "(I[III)I"⟩
abbrev cX4_leastPairing : ByteArray := prog_6_method_6_code
def yX4_leastPairing : MethodName := ⟨RX4, "leastPairing", "([II)I"⟩
abbrev cX4_leastSum : ByteArray := prog_6_method_7_code
def yX4_leastSum : MethodName := ⟨RX4, "leastSum", "(I)I"⟩
def RX5 : String := "StrokeBook$Sheets"
def TX5 : u_T := fun k => match k with
  | 0 => ("StrokeBook$Sheets", "lanes", "[I", true)
  | 1 => ("StrokeBook$Sheets", "made", "[Z", true)
  | 2 => ("StrokeBook$Sheets", "sizes", "[I", true)
  | _ => ("StrokeBook$Sheets", "cells", "[I", true)
def tyX5 : Nat → FieldType := fun k => match k with
  | 0 => .array .int
  | 1 => .array .boolean
  | 2 => .array .int
  | _ => .array .int
abbrev wsX50 : List Cond := u_ws RX5 TX5 4
theorem nmX5 : ∀ a, a < 4 → ∀ b, b < 4 → a ≠ b → (TX5 a).2.1 ≠ (TX5 b).2.1 := by decide +kernel
theorem tyX5_ok : ∀ k, k < 4 → parseFieldDescriptor (TX5 k).2.2.1 = some (tyX5 k) := by decide +kernel
abbrev cX5_init : ByteArray := prog_7_method_1_code
def yX5_init : MethodName := ⟨RX5, "<init>", "()V"⟩
abbrev cX5_isNumber : ByteArray := prog_7_method_2_code
def yX5_isNumber : MethodName := ⟨RX5, "isNumber", "(I)Z"⟩
abbrev cX5_isLane : ByteArray := prog_7_method_3_code
def yX5_isLane : MethodName := ⟨RX5, "isLane", "(I)Z"⟩
abbrev cX5_isNothing : ByteArray := prog_7_method_4_code
def yX5_isNothing : MethodName := ⟨RX5, "isNothing", "(I)Z"⟩
abbrev cX5_makeNew : ByteArray := prog_7_method_5_code
def yX5_makeNew : MethodName := ⟨RX5, "makeNew", "(III)V"⟩
abbrev cX5_hasCells : ByteArray := prog_7_method_6_code
def yX5_hasCells : MethodName := ⟨RX5, "hasCells", "(III)Z"⟩
abbrev cX5_cell : ByteArray := prog_7_method_7_code
def yX5_cell : MethodName := ⟨RX5, "cell", "(II)I"⟩
abbrev cX5_put : ByteArray := prog_7_method_8_code
def yX5_put : MethodName := ⟨RX5, "put", "(III)V"⟩
abbrev cX5_lowestBits : ByteArray := prog_7_method_9_code
def yX5_lowestBits : MethodName := ⟨RX5, "lowestBits", "(II)I"⟩
def RX6 : String := "StrokeBook$TaughtMarks"
def TX6 : u_T := fun k => match k with
  | 0 => ("StrokeBook$TaughtMarks", "labels", "[I", true)
  | 1 => ("StrokeBook$TaughtMarks", "kinds", "[I", true)
  | 2 => ("StrokeBook$TaughtMarks", "points", "[I", true)
  | _ => ("StrokeBook$TaughtMarks", "size", "I", false)
def tyX6 : Nat → FieldType := fun k => match k with
  | 0 => .array .int
  | 1 => .array .int
  | 2 => .array .int
  | _ => .int
abbrev wsX60 : List Cond := u_ws RX6 TX6 4
theorem nmX6 : ∀ a, a < 4 → ∀ b, b < 4 → a ≠ b → (TX6 a).2.1 ≠ (TX6 b).2.1 := by decide +kernel
theorem tyX6_ok : ∀ k, k < 4 → parseFieldDescriptor (TX6 k).2.2.1 = some (tyX6 k) := by decide +kernel
abbrev cX6_init : ByteArray := prog_8_method_1_code
def yX6_init : MethodName := ⟨RX6, "<init>", "()V"⟩
abbrev cX6_has : ByteArray := prog_8_method_2_code
def yX6_has : MethodName := ⟨RX6, "has", "(I)Z"⟩
abbrev cX6_insert : ByteArray := prog_8_method_3_code
def yX6_insert : MethodName := ⟨RX6, "insert", "(III[II)V"⟩
abbrev cX6_remove : ByteArray := prog_8_method_4_code
def yX6_remove : MethodName := ⟨RX6, "remove", "(I)V"⟩
def RX7 : String := "StrokeBook"
def TX7 : u_T := fun k => match k with
  | 0 => ("StrokeBook", "draft", "LStrokeBook$Draft;", true)
  | 1 => ("StrokeBook", "marks", "LStrokeBook$TaughtMarks;", true)
  | 2 => ("StrokeBook", "acts", "LStrokeBook$Acts;", true)
  | 3 => ("StrokeBook", "measure", "LStrokeBook$Measure;", true)
  | 4 => ("StrokeBook", "commands", "LStrokeBook$Commands;", true)
  | 5 => ("StrokeBook", "labels", "LStrokeBook$LabelLine;", true)
  | 6 => ("StrokeBook", "sheets", "LStrokeBook$Sheets;", true)
  | 7 => ("StrokeBook", "distances", "[I", true)
  | 8 => ("StrokeBook", "end", "I", false)
  | _ => ("StrokeBook", "margin", "I", false)
def tyX7 : Nat → FieldType := fun k => match k with
  | 0 => .object "StrokeBook$Draft"
  | 1 => .object "StrokeBook$TaughtMarks"
  | 2 => .object "StrokeBook$Acts"
  | 3 => .object "StrokeBook$Measure"
  | 4 => .object "StrokeBook$Commands"
  | 5 => .object "StrokeBook$LabelLine"
  | 6 => .object "StrokeBook$Sheets"
  | 7 => .array .int
  | 8 => .int
  | _ => .int
abbrev wsX70 : List Cond := u_ws RX7 TX7 10
theorem nmX7 : ∀ a, a < 10 → ∀ b, b < 10 → a ≠ b → (TX7 a).2.1 ≠ (TX7 b).2.1 := by decide +kernel
theorem tyX7_ok : ∀ k, k < 10 → parseFieldDescriptor (TX7 k).2.2.1 = some (tyX7 k) := by decide +kernel
abbrev cX7_init : ByteArray := prog_1_method_1_code
def yX7_init : MethodName := ⟨RX7, "<init>", "()V"⟩
abbrev cX7_point : ByteArray := prog_1_method_2_code
def yX7_point : MethodName := ⟨RX7, "point", "(IIZ)I"⟩
abbrev cX7_clear : ByteArray := prog_1_method_3_code
def yX7_clear : MethodName := ⟨RX7, "clear", "()I"⟩
abbrev cX7_way : ByteArray := prog_1_method_4_code
def yX7_way : MethodName := ⟨RX7, "way", "()I"⟩
abbrev cX7_even : ByteArray := prog_1_method_5_code
def yX7_even : MethodName := ⟨RX7, "even", "(II)I"⟩
abbrev cX7_normal : ByteArray := prog_1_method_6_code
def yX7_normal : MethodName := ⟨RX7, "normal", "(II)I"⟩
abbrev cX7_teach : ByteArray := prog_1_method_7_code
def yX7_teach : MethodName := ⟨RX7, "teach", "(II)I"⟩
abbrev cX7_forget : ByteArray := prog_1_method_8_code
def yX7_forget : MethodName := ⟨RX7, "forget", "(I)I"⟩
abbrev cX7_undo : ByteArray := prog_1_method_9_code
def yX7_undo : MethodName := ⟨RX7, "undo", "()I"⟩
abbrev cX7_label : ByteArray := prog_1_method_10_code
def yX7_label : MethodName := ⟨RX7, "label", "(II)I"⟩
abbrev cX7_told : ByteArray := prog_1_method_11_code
def yX7_told : MethodName := ⟨RX7, "told", "(II)I"⟩
abbrev cX7_taught : ByteArray := prog_1_method_12_code
def yX7_taught : MethodName := ⟨RX7, "taught", "(III)I"⟩
abbrev cX7_ends : ByteArray := prog_1_method_13_code
def yX7_ends : MethodName := ⟨RX7, "ends", "(II)I"⟩
abbrev cX7_distance : ByteArray := prog_1_method_14_code
def yX7_distance : MethodName := ⟨RX7, "distance", "(I)I"⟩
abbrev cX7_nearest : ByteArray := prog_1_method_15_code
def yX7_nearest : MethodName := ⟨RX7, "nearest", "()I"⟩
abbrev cX7_read : ByteArray := prog_1_method_16_code
def yX7_read : MethodName := ⟨RX7, "read", "()I"⟩
abbrev cX7_mark : ByteArray := prog_1_method_17_code
def yX7_mark : MethodName := ⟨RX7, "mark", "()I"⟩
abbrev cX7_confused : ByteArray := prog_1_method_18_code
def yX7_confused : MethodName := ⟨RX7, "confused", "(II)I"⟩
abbrev cX7_between : ByteArray := prog_1_method_19_code
def yX7_between : MethodName := ⟨RX7, "between", "(II)I"⟩
abbrev cX7_command : ByteArray := prog_1_method_20_code
def yX7_command : MethodName := ⟨RX7, "command", "(IIIIIII)I"⟩
abbrev cX7_parse : ByteArray := prog_1_method_21_code
def yX7_parse : MethodName := ⟨RX7, "parse", "(I)I"⟩
abbrev cX7_found : ByteArray := prog_1_method_22_code
def yX7_found : MethodName := ⟨RX7, "found", "(III)I"⟩
abbrev cX7_hidden : ByteArray := prog_1_method_23_code
def yX7_hidden : MethodName := ⟨RX7, "hidden", "()I"⟩
abbrev cX7_line : ByteArray := prog_1_method_24_code
def yX7_line : MethodName := ⟨RX7, "line", "(I)I"⟩
abbrev cX7_wipe : ByteArray := prog_1_method_25_code
def yX7_wipe : MethodName := ⟨RX7, "wipe", "()I"⟩
abbrev cX7_sheet : ByteArray := prog_1_method_26_code
def yX7_sheet : MethodName := ⟨RX7, "sheet", "(III)I"⟩
abbrev cX7_lay : ByteArray := prog_1_method_27_code
def yX7_lay : MethodName := ⟨RX7, "lay", "(III)I"⟩
abbrev cX7_scan : ByteArray := prog_1_method_28_code
def yX7_scan : MethodName := ⟨RX7, "scan", "(IIII)I"⟩
abbrev cX7_count : ByteArray := prog_1_method_29_code
def yX7_count : MethodName := ⟨RX7, "count", "(I)I"⟩
abbrev cX7_isWithin : ByteArray := prog_1_method_30_code
def yX7_isWithin : MethodName := ⟨RX7, "isWithin", "(II)Z"⟩
abbrev cX7_measureDraft : ByteArray := prog_1_method_31_code
def yX7_measureDraft : MethodName := ⟨RX7, "measureDraft", "()I"⟩
abbrev cX7_labelRead : ByteArray := prog_1_method_32_code
def yX7_labelRead : MethodName := ⟨RX7, "labelRead", "(I)I"⟩
abbrev cX7_isConfused : ByteArray := prog_1_method_33_code
def yX7_isConfused : MethodName := ⟨RX7, "isConfused", "(II)Z"⟩
abbrev cX7_scanPoint : ByteArray := prog_1_method_34_code
def yX7_scanPoint : MethodName := ⟨RX7, "scanPoint", "(III)I"⟩
def RX8 : String := "StrokeBookModel"
def TX8 : u_T := fun k => match k with
  | 0 => ("StrokeBookModel", "points", "I", false)
  | 1 => ("StrokeBookModel", "px", "[I", true)
  | 2 => ("StrokeBookModel", "py", "[I", true)
  | 3 => ("StrokeBookModel", "isLifted", "[Z", true)
  | 4 => ("StrokeBookModel", "evens", "[I", true)
  | 5 => ("StrokeBookModel", "norms", "[I", true)
  | 6 => ("StrokeBookModel", "taught", "I", false)
  | 7 => ("StrokeBookModel", "labels", "[I", true)
  | 8 => ("StrokeBookModel", "kinds", "[I", true)
  | 9 => ("StrokeBookModel", "marks", "[I", true)
  | 10 => ("StrokeBookModel", "acts", "I", false)
  | 11 => ("StrokeBookModel", "aSort", "[I", true)
  | 12 => ("StrokeBookModel", "aWhich", "[I", true)
  | 13 => ("StrokeBookModel", "aLabel", "[I", true)
  | 14 => ("StrokeBookModel", "aKind", "[I", true)
  | 15 => ("StrokeBookModel", "aMark", "[I", true)
  | 16 => ("StrokeBookModel", "end", "I", false)
  | 17 => ("StrokeBookModel", "margin", "I", false)
  | 18 => ("StrokeBookModel", "held", "[I", true)
  | 19 => ("StrokeBookModel", "leasts", "[I", true)
  | 20 => ("StrokeBookModel", "lineMany", "I", false)
  | 21 => ("StrokeBookModel", "line", "[I", true)
  | 22 => ("StrokeBookModel", "commands", "I", false)
  | 23 => ("StrokeBookModel", "cContext", "[I", true)
  | 24 => ("StrokeBookModel", "cRank", "[I", true)
  | 25 => ("StrokeBookModel", "cMany", "[I", true)
  | 26 => ("StrokeBookModel", "cLabels", "[I", true)
  | 27 => ("StrokeBookModel", "wantedCommand", "I", false)
  | 28 => ("StrokeBookModel", "wantedPlace", "I", false)
  | 29 => ("StrokeBookModel", "lanes", "[I", true)
  | 30 => ("StrokeBookModel", "sizes", "[I", true)
  | _ => ("StrokeBookModel", "cells", "[I", true)
def tyX8 : Nat → FieldType := fun k => match k with
  | 0 => .int
  | 1 => .array .int
  | 2 => .array .int
  | 3 => .array .boolean
  | 4 => .array .int
  | 5 => .array .int
  | 6 => .int
  | 7 => .array .int
  | 8 => .array .int
  | 9 => .array .int
  | 10 => .int
  | 11 => .array .int
  | 12 => .array .int
  | 13 => .array .int
  | 14 => .array .int
  | 15 => .array .int
  | 16 => .int
  | 17 => .int
  | 18 => .array .int
  | 19 => .array .int
  | 20 => .int
  | 21 => .array .int
  | 22 => .int
  | 23 => .array .int
  | 24 => .array .int
  | 25 => .array .int
  | 26 => .array .int
  | 27 => .int
  | 28 => .int
  | 29 => .array .int
  | 30 => .array .int
  | _ => .array .int
abbrev wsX80 : List Cond := u_ws RX8 TX8 32
theorem nmX8 : ∀ a, a < 32 → ∀ b, b < 32 → a ≠ b → (TX8 a).2.1 ≠ (TX8 b).2.1 := by decide +kernel
theorem tyX8_ok : ∀ k, k < 32 → parseFieldDescriptor (TX8 k).2.2.1 = some (tyX8 k) := by decide +kernel
abbrev cX8_init : ByteArray := prog_10_method_1_code
def yX8_init : MethodName := ⟨RX8, "<init>", "()V"⟩
abbrev cX8_in : ByteArray := prog_10_method_3_code
def yX8_in : MethodName := ⟨RX8, "in", "(JJJ)Z"⟩
abbrev cX8_down : ByteArray := prog_10_method_4_code
def yX8_down : MethodName := ⟨RX8, "down", "(JJ)J"⟩
abbrev cX8_plain : ByteArray := prog_10_method_5_code
def yX8_plain : MethodName := ⟨RX8, "plain", "(I)I"⟩
abbrev cX8_point : ByteArray := prog_10_method_6_code
def yX8_point : MethodName := ⟨RX8, "point", "(IIZ)I"⟩
abbrev cX8_clear : ByteArray := prog_10_method_7_code
def yX8_clear : MethodName := ⟨RX8, "clear", "()I"⟩
abbrev cX8_drawn : ByteArray := prog_10_method_8_code
def yX8_drawn : MethodName := ⟨RX8, "drawn", "(I)I"⟩
abbrev cX8_way : ByteArray := prog_10_method_9_code
def yX8_way : MethodName := ⟨RX8, "way", "()I"⟩
abbrev cX8_findEvens : ByteArray := prog_10_method_10_code
def yX8_findEvens : MethodName := ⟨RX8, "findEvens", "()V"⟩
abbrev cX8_findNorms : ByteArray := prog_10_method_11_code
def yX8_findNorms : MethodName := ⟨RX8, "findNorms", "()V"⟩
abbrev cX8_even : ByteArray := prog_10_method_12_code
def yX8_even : MethodName := ⟨RX8, "even", "(II)I"⟩
abbrev cX8_normal : ByteArray := prog_10_method_13_code
def yX8_normal : MethodName := ⟨RX8, "normal", "(II)I"⟩
abbrev cX8_isTaught : ByteArray := prog_10_method_14_code
def yX8_isTaught : MethodName := ⟨RX8, "isTaught", "(I)Z"⟩
abbrev cX8_keeps : ByteArray := prog_10_method_15_code
def yX8_keeps : MethodName := ⟨RX8, "keeps", "(II)V"⟩
abbrev cX8_moves : ByteArray := prog_10_method_16_code
def yX8_moves : MethodName := ⟨RX8, "moves", "(II)V"⟩
abbrev cX8_teach : ByteArray := prog_10_method_17_code
def yX8_teach : MethodName := ⟨RX8, "teach", "(II)I"⟩
abbrev cX8_goes : ByteArray := prog_10_method_18_code
def yX8_goes : MethodName := ⟨RX8, "goes", "(I)V"⟩
abbrev cX8_forget : ByteArray := prog_10_method_19_code
def yX8_forget : MethodName := ⟨RX8, "forget", "(I)I"⟩
abbrev cX8_undo : ByteArray := prog_10_method_20_code
def yX8_undo : MethodName := ⟨RX8, "undo", "()I"⟩
abbrev cX8_label : ByteArray := prog_10_method_21_code
def yX8_label : MethodName := ⟨RX8, "label", "(II)I"⟩
abbrev cX8_told : ByteArray := prog_10_method_22_code
def yX8_told : MethodName := ⟨RX8, "told", "(II)I"⟩
abbrev cX8_taught : ByteArray := prog_10_method_23_code
def yX8_taught : MethodName := ⟨RX8, "taught", "(III)I"⟩
abbrev cX8_ends : ByteArray := prog_10_method_24_code
def yX8_ends : MethodName := ⟨RX8, "ends", "(II)I"⟩
abbrev cX8_turns : ByteArray := prog_10_method_25_code
def yX8_turns : MethodName := ⟨RX8, "turns", "()V"⟩
abbrev cX8_far : ByteArray := prog_10_method_26_code
def yX8_far : MethodName := ⟨RX8, "far", "(III)I"⟩
abbrev cX8_straight : ByteArray := prog_10_method_27_code
def yX8_straight : MethodName := ⟨RX8, "straight", "(IZ)I"⟩
abbrev cX8_cloud : ByteArray := prog_10_method_28_code
def yX8_cloud : MethodName := ⟨RX8, "cloud", "(I)I"⟩
abbrev cX8_distanceOf : ByteArray := prog_10_method_29_code
def yX8_distanceOf : MethodName := ⟨RX8, "distanceOf", "(I)I"⟩
abbrev cX8_holdsDraft : ByteArray := prog_10_method_30_code
def yX8_holdsDraft : MethodName := ⟨RX8, "holdsDraft", "()V"⟩
abbrev cX8_distance : ByteArray := prog_10_method_31_code
def yX8_distance : MethodName := ⟨RX8, "distance", "(I)I"⟩
abbrev cX8_nearest : ByteArray := prog_10_method_32_code
def yX8_nearest : MethodName := ⟨RX8, "nearest", "()I"⟩
abbrev cX8_read : ByteArray := prog_10_method_33_code
def yX8_read : MethodName := ⟨RX8, "read", "()I"⟩
abbrev cX8_mark : ByteArray := prog_10_method_34_code
def yX8_mark : MethodName := ⟨RX8, "mark", "()I"⟩
abbrev cX8_betweenOf : ByteArray := prog_10_method_35_code
def yX8_betweenOf : MethodName := ⟨RX8, "betweenOf", "(II)I"⟩
abbrev cX8_confused : ByteArray := prog_10_method_36_code
def yX8_confused : MethodName := ⟨RX8, "confused", "(II)I"⟩
abbrev cX8_between : ByteArray := prog_10_method_37_code
def yX8_between : MethodName := ⟨RX8, "between", "(II)I"⟩
abbrev cX8_command : ByteArray := prog_10_method_38_code
def yX8_command : MethodName := ⟨RX8, "command", "(IIIIIII)I"⟩
abbrev cX8_stands : ByteArray := prog_10_method_39_code
def yX8_stands : MethodName := ⟨RX8, "stands", "(II)Z"⟩
abbrev cX8_commandAt : ByteArray := prog_10_method_40_code
def yX8_commandAt : MethodName := ⟨RX8, "commandAt", "(II)I"⟩
abbrev cX8_parsed : ByteArray := prog_10_method_41_code
def yX8_parsed : MethodName := ⟨RX8, "parsed", "(II)I"⟩
abbrev cX8_parse : ByteArray := prog_10_method_42_code
def yX8_parse : MethodName := ⟨RX8, "parse", "(I)I"⟩
abbrev cX8_found : ByteArray := prog_10_method_43_code
def yX8_found : MethodName := ⟨RX8, "found", "(III)I"⟩
abbrev cX8_isHidden : ByteArray := prog_10_method_44_code
def yX8_isHidden : MethodName := ⟨RX8, "isHidden", "(II)Z"⟩
abbrev cX8_hidden : ByteArray := prog_10_method_45_code
def yX8_hidden : MethodName := ⟨RX8, "hidden", "()I"⟩
abbrev cX8_line : ByteArray := prog_10_method_46_code
def yX8_line : MethodName := ⟨RX8, "line", "(I)I"⟩
abbrev cX8_wipe : ByteArray := prog_10_method_47_code
def yX8_wipe : MethodName := ⟨RX8, "wipe", "()I"⟩
abbrev cX8_isSheet : ByteArray := prog_10_method_48_code
def yX8_isSheet : MethodName := ⟨RX8, "isSheet", "(II)Z"⟩
abbrev cX8_sheet : ByteArray := prog_10_method_49_code
def yX8_sheet : MethodName := ⟨RX8, "sheet", "(III)I"⟩
abbrev cX8_lay : ByteArray := prog_10_method_50_code
def yX8_lay : MethodName := ⟨RX8, "lay", "(III)I"⟩
abbrev cX8_scan : ByteArray := prog_10_method_51_code
def yX8_scan : MethodName := ⟨RX8, "scan", "(IIII)I"⟩
abbrev cX8_count : ByteArray := prog_10_method_52_code
def yX8_count : MethodName := ⟨RX8, "count", "(I)I"⟩
def RJ6 : String := "java/lang/Integer"
def TJ6 : u_T := fun k => match k with
  | _ => ("", "", "", false)
def tyJ6 : Nat → FieldType := fun k => match k with
  | _ => .int
abbrev wsJ60 : List Cond := u_ws RJ6 TJ6 0
theorem nmJ6 : ∀ a, a < 0 → ∀ b, b < 0 → a ≠ b → (TJ6 a).2.1 ≠ (TJ6 b).2.1 := by decide +kernel
theorem tyJ6_ok : ∀ k, k < 0 → parseFieldDescriptor (TJ6 k).2.2.1 = some (tyJ6 k) := by decide +kernel
abbrev cJ6_bitCount_0f7a4 : ByteArray := prog_11_method_49_code
def yJ6_bitCount_0f7a4 : MethodName := ⟨RJ6, "bitCount", "(I)I"⟩
def RJ9 : String := "java/lang/Math"
def TJ9 : u_T := fun k => match k with
  | _ => ("", "", "", false)
def tyJ9 : Nat → FieldType := fun k => match k with
  | _ => .int
abbrev wsJ90 : List Cond := u_ws RJ9 TJ9 0
theorem nmJ9 : ∀ a, a < 0 → ∀ b, b < 0 → a ≠ b → (TJ9 a).2.1 ≠ (TJ9 b).2.1 := by decide +kernel
theorem tyJ9_ok : ∀ k, k < 0 → parseFieldDescriptor (TJ9 k).2.2.1 = some (tyJ9 k) := by decide +kernel
abbrev cJ9_floorDiv_7cf53 : ByteArray := prog_12_method_47_code
def yJ9_floorDiv_7cf53 : MethodName := ⟨RJ9, "floorDiv", "(II)I"⟩
abbrev cJ9_floorMod_7cf53 : ByteArray := prog_12_method_50_code
def yJ9_floorMod_7cf53 : MethodName := ⟨RJ9, "floorMod", "(II)I"⟩
abbrev cJ9_abs_0f7a4 : ByteArray := prog_12_method_59_code
def yJ9_abs_0f7a4 : MethodName := ⟨RJ9, "abs", "(I)I"⟩
abbrev cJ9_max_7cf53 : ByteArray := prog_12_method_65_code
def yJ9_max_7cf53 : MethodName := ⟨RJ9, "max", "(II)I"⟩
abbrev cJ9_min_7cf53 : ByteArray := prog_12_method_69_code
def yJ9_min_7cf53 : MethodName := ⟨RJ9, "min", "(II)I"⟩
def RJ10 : String := "java/lang/System"
def TJ10 : u_T := fun k => match k with
  | _ => ("", "", "", false)
def tyJ10 : Nat → FieldType := fun k => match k with
  | _ => .int
abbrev wsJ100 : List Cond := u_ws RJ10 TJ10 0
theorem nmJ10 : ∀ a, a < 0 → ∀ b, b < 0 → a ≠ b → (TJ10 a).2.1 ≠ (TJ10 b).2.1 := by decide +kernel
theorem tyJ10_ok : ∀ k, k < 0 → parseFieldDescriptor (TJ10 k).2.2.1 = some (tyJ10 k) := by decide +kernel
def RL : String := "StrokeBookLaw"
abbrev cL_law : ByteArray := code
def yL_law : MethodName := ⟨RL, "law", "([I)Z"⟩
def wsX0_init : List Cond := .code yX0_init cX0_init 1 none :: ([.methodLink RX0 3 objectInit, .instanceMethod objectInit, .code objectInit ⟨#[0xb1]⟩ 1 none, .arrayClass .int, .fieldLink RX0 11 "StrokeBook$Acts" "sorts" "[I", .fieldLink RX0 15 "StrokeBook$Acts" "numbers" "[I", .fieldLink RX0 18 "StrokeBook$Acts" "labels" "[I", .fieldLink RX0 21 "StrokeBook$Acts" "kinds" "[I", .fieldLink RX0 24 "StrokeBook$Acts" "points" "[I", .fieldLink RX0 27 "StrokeBook$Acts" "size" "I", .fieldLink RX0 31 "StrokeBook$Acts" "next" "I"] ++ wsX00)
def wsJ9_floorMod_7cf53 : List Cond := .code yJ9_floorMod_7cf53 cJ9_floorMod_7cf53 3 (some .int) :: ([])
def wsX0_push : List Cond := .code yX0_push cX0_push 6 (some .int) :: ([.fieldLink RX0 31 "StrokeBook$Acts" "next" "I", .fieldLink RX0 11 "StrokeBook$Acts" "sorts" "[I", .fieldLink RX0 15 "StrokeBook$Acts" "numbers" "[I", .fieldLink RX0 18 "StrokeBook$Acts" "labels" "[I", .fieldLink RX0 21 "StrokeBook$Acts" "kinds" "[I", .fieldLink RX0 27 "StrokeBook$Acts" "size" "I", .methodLink RX0 40 Lib.Math.min.name, .static Lib.Math.min.name, .initialized "java/lang/Math", .code Lib.Math.min.name Lib.Math.min.code 2 (some .int), .methodLink RX0 34 yJ9_floorMod_7cf53, .static yJ9_floorMod_7cf53, .initialized RJ9, .code yJ9_floorMod_7cf53 cJ9_floorMod_7cf53 3 (some .int)] ++ wsX00)
def wsX0_pop : List Cond := .code yX0_pop cX0_pop 1 (some .int) :: ([.fieldLink RX0 31 "StrokeBook$Acts" "next" "I", .fieldLink RX0 27 "StrokeBook$Acts" "size" "I", .methodLink RX0 43 Lib.Math.max.name, .static Lib.Math.max.name, .initialized "java/lang/Math", .code Lib.Math.max.name Lib.Math.max.code 2 (some .int), .methodLink RX0 34 yJ9_floorMod_7cf53, .static yJ9_floorMod_7cf53, .initialized RJ9, .code yJ9_floorMod_7cf53 cJ9_floorMod_7cf53 3 (some .int)] ++ wsX00)
def wsX1_init : List Cond := .code yX1_init cX1_init 1 none :: ([.methodLink RX1 1 objectInit, .instanceMethod objectInit, .code objectInit ⟨#[0xb1]⟩ 1 none, .arrayClass .int, .fieldLink RX1 9 "StrokeBook$Commands" "contexts" "[I", .fieldLink RX1 13 "StrokeBook$Commands" "ranks" "[I", .fieldLink RX1 16 "StrokeBook$Commands" "lengths" "[I", .fieldLink RX1 19 "StrokeBook$Commands" "labels" "[I", .fieldLink RX1 22 "StrokeBook$Commands" "size" "I"] ++ wsX10)
def wsX1_open : List Cond := .code yX1_open cX1_open 5 (some .int) :: ([.fieldLink RX1 22 "StrokeBook$Commands" "size" "I", .fieldLink RX1 9 "StrokeBook$Commands" "contexts" "[I", .fieldLink RX1 13 "StrokeBook$Commands" "ranks" "[I", .fieldLink RX1 16 "StrokeBook$Commands" "lengths" "[I"] ++ wsX10)
def wsX1_put : List Cond := .code yX1_put cX1_put 4 none :: ([.fieldLink RX1 19 "StrokeBook$Commands" "labels" "[I"] ++ wsX10)
def wsX1_labelAt : List Cond := .code yX1_labelAt cX1_labelAt 3 (some .int) :: ([.fieldLink RX1 19 "StrokeBook$Commands" "labels" "[I"] ++ wsX10)
def wsX1_isOf : List Cond := .code yX1_isOf cX1_isOf 3 (some .boolean) :: ([.fieldLink RX1 9 "StrokeBook$Commands" "contexts" "[I"] ++ wsX10)
def wsX1_goesBefore : List Cond := .code yX1_goesBefore cX1_goesBefore 3 (some .boolean) :: ([.fieldLink RX1 16 "StrokeBook$Commands" "lengths" "[I", .fieldLink RX1 13 "StrokeBook$Commands" "ranks" "[I"] ++ wsX10)
def wsX1_haveSameLabels : List Cond := .code yX1_haveSameLabels cX1_haveSameLabels 4 (some .boolean) :: ([.fieldLink RX1 16 "StrokeBook$Commands" "lengths" "[I", .methodLink RX1 36 yX1_labelAt, .instanceMethod yX1_labelAt, .selects RX1 yX1_labelAt yX1_labelAt, .initialized RX1, .code yX1_labelAt cX1_labelAt 3 (some .int), .fieldLink RX1 19 "StrokeBook$Commands" "labels" "[I"] ++ wsX10)
def wsX1_isHidden : List Cond := .code yX1_isHidden cX1_isHidden 3 (some .boolean) :: ([.fieldLink RX1 22 "StrokeBook$Commands" "size" "I", .fieldLink RX1 9 "StrokeBook$Commands" "contexts" "[I", .methodLink RX1 26 yX1_isOf, .instanceMethod yX1_isOf, .selects RX1 yX1_isOf yX1_isOf, .initialized RX1, .code yX1_isOf cX1_isOf 3 (some .boolean), .methodLink RX1 30 yX1_haveSameLabels, .instanceMethod yX1_haveSameLabels, .selects RX1 yX1_haveSameLabels yX1_haveSameLabels, .code yX1_haveSameLabels cX1_haveSameLabels 4 (some .boolean), .fieldLink RX1 16 "StrokeBook$Commands" "lengths" "[I", .methodLink RX1 36 yX1_labelAt, .instanceMethod yX1_labelAt, .selects RX1 yX1_labelAt yX1_labelAt, .code yX1_labelAt cX1_labelAt 3 (some .int), .fieldLink RX1 19 "StrokeBook$Commands" "labels" "[I", .methodLink RX1 33 yX1_goesBefore, .instanceMethod yX1_goesBefore, .selects RX1 yX1_goesBefore yX1_goesBefore, .code yX1_goesBefore cX1_goesBefore 3 (some .boolean), .fieldLink RX1 13 "StrokeBook$Commands" "ranks" "[I"] ++ wsX10)
def wsX2_init : List Cond := .code yX2_init cX2_init 1 none :: ([.methodLink RX2 3 objectInit, .instanceMethod objectInit, .code objectInit ⟨#[0xb1]⟩ 1 none, .arrayClass .int, .fieldLink RX2 11 "StrokeBook$Draft" "xs" "[I", .fieldLink RX2 15 "StrokeBook$Draft" "ys" "[I", .arrayClass .boolean, .fieldLink RX2 18 "StrokeBook$Draft" "liftedTo" "[Z", .fieldLink RX2 22 "StrokeBook$Draft" "evenRow" "[I", .fieldLink RX2 25 "StrokeBook$Draft" "normalRow" "[I", .fieldLink RX2 28 "StrokeBook$Draft" "size" "I"] ++ wsX20)
def wsX2_add : List Cond := .code yX2_add cX2_add 4 (some .int) :: ([.fieldLink RX2 28 "StrokeBook$Draft" "size" "I", .fieldLink RX2 11 "StrokeBook$Draft" "xs" "[I", .fieldLink RX2 15 "StrokeBook$Draft" "ys" "[I", .fieldLink RX2 18 "StrokeBook$Draft" "liftedTo" "[Z"] ++ wsX20)
def wsX2_empty : List Cond := .code yX2_empty cX2_empty 2 (some .int) :: ([.fieldLink RX2 28 "StrokeBook$Draft" "size" "I"] ++ wsX20)
def wsX2_cutTo : List Cond := .code yX2_cutTo cX2_cutTo 2 none :: ([.fieldLink RX2 28 "StrokeBook$Draft" "size" "I"] ++ wsX20)
def wsX2_drawnTo : List Cond := .code yX2_drawnTo cX2_drawnTo 2 (some .int) :: ([.fieldLink RX2 18 "StrokeBook$Draft" "liftedTo" "[Z", .fieldLink RX2 11 "StrokeBook$Draft" "xs" "[I", .methodLink RX2 32 Lib.Math.abs.name, .static Lib.Math.abs.name, .initialized "java/lang/Math", .code Lib.Math.abs.name Lib.Math.abs.code 1 (some .int), .fieldLink RX2 15 "StrokeBook$Draft" "ys" "[I"] ++ wsX20)
def wsX2_length : List Cond := .code yX2_length cX2_length 3 (some .int) :: ([.fieldLink RX2 28 "StrokeBook$Draft" "size" "I", .methodLink RX2 38 yX2_drawnTo, .instanceMethod yX2_drawnTo, .selects RX2 yX2_drawnTo yX2_drawnTo, .initialized RX2, .code yX2_drawnTo cX2_drawnTo 2 (some .int), .fieldLink RX2 18 "StrokeBook$Draft" "liftedTo" "[Z", .fieldLink RX2 11 "StrokeBook$Draft" "xs" "[I", .methodLink RX2 32 Lib.Math.abs.name, .static Lib.Math.abs.name, .initialized "java/lang/Math", .code Lib.Math.abs.name Lib.Math.abs.code 1 (some .int), .fieldLink RX2 15 "StrokeBook$Draft" "ys" "[I"] ++ wsX20)
def wsJ9_floorDiv_7cf53 : List Cond := .code yJ9_floorDiv_7cf53 cJ9_floorDiv_7cf53 3 (some .int) :: ([])
def wsX2_partWay : List Cond := .code yX2_partWay cX2_partWay 4 (some .int) :: ([.methodLink RX2 53 yJ9_floorDiv_7cf53, .static yJ9_floorDiv_7cf53, .initialized RJ9, .code yJ9_floorDiv_7cf53 cJ9_floorDiv_7cf53 3 (some .int)])
def wsX2_placeEven : List Cond := .code yX2_placeEven cX2_placeEven 6 none :: ([.fieldLink RX2 28 "StrokeBook$Draft" "size" "I", .fieldLink RX2 22 "StrokeBook$Draft" "evenRow" "[I", .fieldLink RX2 11 "StrokeBook$Draft" "xs" "[I", .fieldLink RX2 15 "StrokeBook$Draft" "ys" "[I", .methodLink RX2 38 yX2_drawnTo, .instanceMethod yX2_drawnTo, .selects RX2 yX2_drawnTo yX2_drawnTo, .initialized RX2, .code yX2_drawnTo cX2_drawnTo 2 (some .int), .fieldLink RX2 18 "StrokeBook$Draft" "liftedTo" "[Z", .methodLink RX2 32 Lib.Math.abs.name, .static Lib.Math.abs.name, .initialized "java/lang/Math", .code Lib.Math.abs.name Lib.Math.abs.code 1 (some .int), .methodLink RX2 49 yX2_partWay, .static yX2_partWay, .code yX2_partWay cX2_partWay 4 (some .int), .methodLink RX2 53 yJ9_floorDiv_7cf53, .static yJ9_floorDiv_7cf53, .initialized RJ9, .code yJ9_floorDiv_7cf53 cJ9_floorDiv_7cf53 3 (some .int)] ++ wsX20)
def wsX2_makeEven_r1 : List Cond := [Cond.methodLink RX2 41 yX2_length, Cond.instanceMethod yX2_length, Cond.selects RX2 yX2_length yX2_length, Cond.initialized RX2, Cond.code yX2_length cX2_length 3 (some .int), Cond.fieldLink RX2 28 "StrokeBook$Draft" "size" "I", Cond.methodLink RX2 38 yX2_drawnTo, Cond.instanceMethod yX2_drawnTo, Cond.selects RX2 yX2_drawnTo yX2_drawnTo, Cond.code yX2_drawnTo cX2_drawnTo 2 (some .int), Cond.fieldLink RX2 18 "StrokeBook$Draft" "liftedTo" "[Z", Cond.fieldLink RX2 11 "StrokeBook$Draft" "xs" "[I", Cond.methodLink RX2 32 Lib.Math.abs.name, Cond.static Lib.Math.abs.name, Cond.initialized "java/lang/Math", Cond.code Lib.Math.abs.name Lib.Math.abs.code 1 (some .int), Cond.fieldLink RX2 15 "StrokeBook$Draft" "ys" "[I", Cond.methodLink RX2 45 yX2_placeEven, Cond.instanceMethod yX2_placeEven, Cond.selects RX2 yX2_placeEven yX2_placeEven, Cond.code yX2_placeEven cX2_placeEven 6 none, Cond.fieldLink RX2 22 "StrokeBook$Draft" "evenRow" "[I", Cond.methodLink RX2 49 yX2_partWay, Cond.static yX2_partWay]
def wsX2_makeEven_r2 : List Cond := [Cond.code yX2_partWay cX2_partWay 4 (some .int), Cond.methodLink RX2 53 yJ9_floorDiv_7cf53, Cond.static yJ9_floorDiv_7cf53, Cond.initialized RJ9, Cond.code yJ9_floorDiv_7cf53 cJ9_floorDiv_7cf53 3 (some .int)]
def wsX2_makeEven : List Cond := .code yX2_makeEven cX2_makeEven 3 (some .boolean) :: ((wsX2_makeEven_r1 ++ wsX2_makeEven_r2) ++ wsX20)
def wsX2_takeMiddleOff : List Cond := .code yX2_takeMiddleOff cX2_takeMiddleOff 6 none :: ([.fieldLink RX2 22 "StrokeBook$Draft" "evenRow" "[I", .methodLink RX2 68 Lib.Math.min.name, .static Lib.Math.min.name, .initialized "java/lang/Math", .code Lib.Math.min.name Lib.Math.min.code 2 (some .int), .methodLink RX2 71 Lib.Math.max.name, .static Lib.Math.max.name, .code Lib.Math.max.name Lib.Math.max.code 2 (some .int), .fieldLink RX2 25 "StrokeBook$Draft" "normalRow" "[I", .methodLink RX2 53 yJ9_floorDiv_7cf53, .static yJ9_floorDiv_7cf53, .initialized RJ9, .code yJ9_floorDiv_7cf53 cJ9_floorDiv_7cf53 3 (some .int)] ++ wsX20)
def wsX2_greatestSize : List Cond := .code yX2_greatestSize cX2_greatestSize 3 (some .int) :: ([.fieldLink RX2 25 "StrokeBook$Draft" "normalRow" "[I", .methodLink RX2 32 Lib.Math.abs.name, .static Lib.Math.abs.name, .initialized "java/lang/Math", .code Lib.Math.abs.name Lib.Math.abs.code 1 (some .int), .methodLink RX2 71 Lib.Math.max.name, .static Lib.Math.max.name, .code Lib.Math.max.name Lib.Math.max.code 2 (some .int)] ++ wsX20)
def wsX2_makeNormal_r1 : List Cond := [Cond.fieldLink RX2 25 "StrokeBook$Draft" "normalRow" "[I", Cond.methodLink RX2 57 yX2_makeEven, Cond.instanceMethod yX2_makeEven, Cond.selects RX2 yX2_makeEven yX2_makeEven, Cond.initialized RX2, Cond.code yX2_makeEven cX2_makeEven 3 (some .boolean), Cond.methodLink RX2 41 yX2_length, Cond.instanceMethod yX2_length, Cond.selects RX2 yX2_length yX2_length, Cond.code yX2_length cX2_length 3 (some .int), Cond.fieldLink RX2 28 "StrokeBook$Draft" "size" "I", Cond.methodLink RX2 38 yX2_drawnTo, Cond.instanceMethod yX2_drawnTo, Cond.selects RX2 yX2_drawnTo yX2_drawnTo, Cond.code yX2_drawnTo cX2_drawnTo 2 (some .int), Cond.fieldLink RX2 18 "StrokeBook$Draft" "liftedTo" "[Z", Cond.fieldLink RX2 11 "StrokeBook$Draft" "xs" "[I", Cond.methodLink RX2 32 Lib.Math.abs.name, Cond.static Lib.Math.abs.name, Cond.initialized "java/lang/Math", Cond.code Lib.Math.abs.name Lib.Math.abs.code 1 (some .int), Cond.fieldLink RX2 15 "StrokeBook$Draft" "ys" "[I", Cond.methodLink RX2 45 yX2_placeEven, Cond.instanceMethod yX2_placeEven]
def wsX2_makeNormal_r2 : List Cond := [Cond.selects RX2 yX2_placeEven yX2_placeEven, Cond.code yX2_placeEven cX2_placeEven 6 none, Cond.fieldLink RX2 22 "StrokeBook$Draft" "evenRow" "[I", Cond.methodLink RX2 49 yX2_partWay, Cond.static yX2_partWay, Cond.code yX2_partWay cX2_partWay 4 (some .int), Cond.methodLink RX2 53 yJ9_floorDiv_7cf53, Cond.static yJ9_floorDiv_7cf53, Cond.initialized RJ9, Cond.code yJ9_floorDiv_7cf53 cJ9_floorDiv_7cf53 3 (some .int), Cond.methodLink RX2 61 yX2_takeMiddleOff, Cond.instanceMethod yX2_takeMiddleOff, Cond.selects RX2 yX2_takeMiddleOff yX2_takeMiddleOff, Cond.code yX2_takeMiddleOff cX2_takeMiddleOff 6 none, Cond.methodLink RX2 68 Lib.Math.min.name, Cond.static Lib.Math.min.name, Cond.code Lib.Math.min.name Lib.Math.min.code 2 (some .int), Cond.methodLink RX2 71 Lib.Math.max.name, Cond.static Lib.Math.max.name, Cond.code Lib.Math.max.name Lib.Math.max.code 2 (some .int), Cond.methodLink RX2 65 yX2_greatestSize, Cond.instanceMethod yX2_greatestSize, Cond.selects RX2 yX2_greatestSize yX2_greatestSize, Cond.code yX2_greatestSize cX2_greatestSize 3 (some .int)]
def wsX2_makeNormal : List Cond := .code yX2_makeNormal cX2_makeNormal 3 (some .boolean) :: ((wsX2_makeNormal_r1 ++ wsX2_makeNormal_r2) ++ wsX20)
def wsX3_init : List Cond := .code yX3_init cX3_init 1 none :: ([.methodLink RX3 3 objectInit, .instanceMethod objectInit, .code objectInit ⟨#[0xb1]⟩ 1 none, .arrayClass .int, .fieldLink RX3 11 "StrokeBook$LabelLine" "row" "[I", .fieldLink RX3 15 "StrokeBook$LabelLine" "foundNumbers" "[I", .fieldLink RX3 18 "StrokeBook$LabelLine" "foundPlaces" "[I", .fieldLink RX3 21 "StrokeBook$LabelLine" "size" "I", .fieldLink RX3 25 "StrokeBook$LabelLine" "foundSize" "I"] ++ wsX30)
def wsX3_add : List Cond := .code yX3_add cX3_add 2 (some .boolean) :: ([.fieldLink RX3 21 "StrokeBook$LabelLine" "size" "I", .fieldLink RX3 11 "StrokeBook$LabelLine" "row" "[I"] ++ wsX30)
def wsX3_empty : List Cond := .code yX3_empty cX3_empty 2 (some .int) :: ([.fieldLink RX3 21 "StrokeBook$LabelLine" "size" "I"] ++ wsX30)
def wsX3_standsAt : List Cond := .code yX3_standsAt cX3_standsAt 5 (some .boolean) :: ([.fieldLink RX3 32 "StrokeBook$Commands" "lengths" "[I", .fieldLink RX3 21 "StrokeBook$LabelLine" "size" "I", .fieldLink RX3 11 "StrokeBook$LabelLine" "row" "[I", .methodLink RX3 55 yX1_labelAt, .instanceMethod yX1_labelAt, .selects RX1 yX1_labelAt yX1_labelAt, .initialized RX1, .code yX1_labelAt cX1_labelAt 3 (some .int), .fieldLink RX1 19 "StrokeBook$Commands" "labels" "[I"] ++ wsX10 ++ wsX30)
def wsX3_commandAt_r1 : List Cond := [Cond.fieldLink RX3 43 "StrokeBook$Commands" "size" "I", Cond.methodLink RX3 44 yX1_isOf, Cond.instanceMethod yX1_isOf, Cond.selects RX1 yX1_isOf yX1_isOf, Cond.initialized RX1, Cond.code yX1_isOf cX1_isOf 3 (some .boolean), Cond.fieldLink RX1 9 "StrokeBook$Commands" "contexts" "[I", Cond.methodLink RX3 48 yX3_standsAt, Cond.instanceMethod yX3_standsAt, Cond.selects RX3 yX3_standsAt yX3_standsAt, Cond.initialized RX3, Cond.code yX3_standsAt cX3_standsAt 5 (some .boolean), Cond.fieldLink RX3 32 "StrokeBook$Commands" "lengths" "[I", Cond.fieldLink RX3 21 "StrokeBook$LabelLine" "size" "I", Cond.fieldLink RX3 11 "StrokeBook$LabelLine" "row" "[I", Cond.methodLink RX3 55 yX1_labelAt, Cond.instanceMethod yX1_labelAt, Cond.selects RX1 yX1_labelAt yX1_labelAt, Cond.code yX1_labelAt cX1_labelAt 3 (some .int), Cond.fieldLink RX1 19 "StrokeBook$Commands" "labels" "[I", Cond.methodLink RX3 52 yX1_goesBefore, Cond.instanceMethod yX1_goesBefore, Cond.selects RX1 yX1_goesBefore yX1_goesBefore, Cond.code yX1_goesBefore cX1_goesBefore 3 (some .boolean)]
def wsX3_commandAt_r2 : List Cond := [Cond.fieldLink RX1 16 "StrokeBook$Commands" "lengths" "[I", Cond.fieldLink RX1 13 "StrokeBook$Commands" "ranks" "[I"]
def wsX3_commandAt : List Cond := .code yX3_commandAt cX3_commandAt 6 (some .int) :: ((wsX3_commandAt_r1 ++ wsX3_commandAt_r2) ++ wsX10 ++ wsX30)
def wsX3_findCommands_r1 : List Cond := [Cond.fieldLink RX3 25 "StrokeBook$LabelLine" "foundSize" "I", Cond.fieldLink RX3 21 "StrokeBook$LabelLine" "size" "I", Cond.fieldLink RX3 15 "StrokeBook$LabelLine" "foundNumbers" "[I", Cond.fieldLink RX3 18 "StrokeBook$LabelLine" "foundPlaces" "[I", Cond.fieldLink RX3 32 "StrokeBook$Commands" "lengths" "[I", Cond.methodLink RX3 37 Lib.Math.max.name, Cond.static Lib.Math.max.name, Cond.initialized "java/lang/Math", Cond.code Lib.Math.max.name Lib.Math.max.code 2 (some .int), Cond.methodLink RX3 28 yX3_commandAt, Cond.instanceMethod yX3_commandAt, Cond.selects RX3 yX3_commandAt yX3_commandAt, Cond.initialized RX3, Cond.code yX3_commandAt cX3_commandAt 6 (some .int), Cond.fieldLink RX3 43 "StrokeBook$Commands" "size" "I", Cond.methodLink RX3 44 yX1_isOf, Cond.instanceMethod yX1_isOf, Cond.selects RX1 yX1_isOf yX1_isOf, Cond.initialized RX1, Cond.code yX1_isOf cX1_isOf 3 (some .boolean), Cond.fieldLink RX1 9 "StrokeBook$Commands" "contexts" "[I", Cond.methodLink RX3 48 yX3_standsAt, Cond.instanceMethod yX3_standsAt, Cond.selects RX3 yX3_standsAt yX3_standsAt]
def wsX3_findCommands_r2 : List Cond := [Cond.code yX3_standsAt cX3_standsAt 5 (some .boolean), Cond.fieldLink RX3 11 "StrokeBook$LabelLine" "row" "[I", Cond.methodLink RX3 55 yX1_labelAt, Cond.instanceMethod yX1_labelAt, Cond.selects RX1 yX1_labelAt yX1_labelAt, Cond.code yX1_labelAt cX1_labelAt 3 (some .int), Cond.fieldLink RX1 19 "StrokeBook$Commands" "labels" "[I", Cond.methodLink RX3 52 yX1_goesBefore, Cond.instanceMethod yX1_goesBefore, Cond.selects RX1 yX1_goesBefore yX1_goesBefore, Cond.code yX1_goesBefore cX1_goesBefore 3 (some .boolean), Cond.fieldLink RX1 16 "StrokeBook$Commands" "lengths" "[I", Cond.fieldLink RX1 13 "StrokeBook$Commands" "ranks" "[I"]
def wsX3_findCommands : List Cond := .code yX3_findCommands cX3_findCommands 5 none :: ((wsX3_findCommands_r1 ++ wsX3_findCommands_r2) ++ wsX30 ++ wsX10)
def wsX4_init : List Cond := .code yX4_init cX4_init 1 none :: ([.methodLink RX4 3 objectInit, .instanceMethod objectInit, .code objectInit ⟨#[0xb1]⟩ 1 none, .arrayClass .int, .fieldLink RX4 9 "StrokeBook$Measure" "held" "[I", .fieldLink RX4 15 "StrokeBook$Measure" "apart" "[I", .fieldLink RX4 18 "StrokeBook$Measure" "leastSums" "[I"] ++ wsX40)
def wsX4_pointsApart : List Cond := .code yX4_pointsApart cX4_pointsApart 5 (some .int) :: ([.fieldLink RX4 9 "StrokeBook$Measure" "held" "[I", .methodLink RX4 56 Lib.Math.abs.name, .static Lib.Math.abs.name, .initialized "java/lang/Math", .code Lib.Math.abs.name Lib.Math.abs.code 1 (some .int)] ++ wsX40)
def wsJ6_bitCount_0f7a4 : List Cond := .code yJ6_bitCount_0f7a4 cJ6_bitCount_0f7a4 1 (some .int) :: ([.constant RJ6 265 (1431655765), .constant RJ6 266 (858993459), .constant RJ6 267 (252645135)])
def wsX4_leastSum : List Cond := .code yX4_leastSum cX4_leastSum 6 (some .int) :: ([.constant RX4 68 (1000000), .fieldLink RX4 18 "StrokeBook$Measure" "leastSums" "[I", .fieldLink RX4 15 "StrokeBook$Measure" "apart" "[I", .methodLink RX4 42 Lib.Math.min.name, .static Lib.Math.min.name, .initialized "java/lang/Math", .code Lib.Math.min.name Lib.Math.min.code 2 (some .int), .methodLink RX4 63 yJ6_bitCount_0f7a4, .static yJ6_bitCount_0f7a4, .initialized RJ6, .code yJ6_bitCount_0f7a4 cJ6_bitCount_0f7a4 1 (some .int), .constant RJ6 265 (1431655765), .constant RJ6 266 (858993459), .constant RJ6 267 (252645135)] ++ wsX40)
def wsX4_leastPairing_r1 : List Cond := [Cond.fieldLink RX4 15 "StrokeBook$Measure" "apart" "[I", Cond.fieldLink RX4 18 "StrokeBook$Measure" "leastSums" "[I", Cond.methodLink RX4 52 yX4_pointsApart, Cond.instanceMethod yX4_pointsApart, Cond.selects RX4 yX4_pointsApart yX4_pointsApart, Cond.initialized RX4, Cond.code yX4_pointsApart cX4_pointsApart 5 (some .int), Cond.fieldLink RX4 9 "StrokeBook$Measure" "held" "[I", Cond.methodLink RX4 56 Lib.Math.abs.name, Cond.static Lib.Math.abs.name, Cond.initialized "java/lang/Math", Cond.code Lib.Math.abs.name Lib.Math.abs.code 1 (some .int), Cond.methodLink RX4 60 yX4_leastSum, Cond.instanceMethod yX4_leastSum, Cond.selects RX4 yX4_leastSum yX4_leastSum, Cond.code yX4_leastSum cX4_leastSum 6 (some .int), Cond.constant RX4 68 (1000000), Cond.methodLink RX4 42 Lib.Math.min.name, Cond.static Lib.Math.min.name, Cond.code Lib.Math.min.name Lib.Math.min.code 2 (some .int), Cond.methodLink RX4 63 yJ6_bitCount_0f7a4, Cond.static yJ6_bitCount_0f7a4, Cond.initialized RJ6, Cond.code yJ6_bitCount_0f7a4 cJ6_bitCount_0f7a4 1 (some .int)]
def wsX4_leastPairing_r2 : List Cond := [Cond.constant RJ6 265 (1431655765), Cond.constant RJ6 266 (858993459), Cond.constant RJ6 267 (252645135)]
def wsX4_leastPairing : List Cond := .code yX4_leastPairing cX4_leastPairing 5 (some .int) :: ((wsX4_leastPairing_r1 ++ wsX4_leastPairing_r2) ++ wsX40)
def wsX4_distanceUnturned_r1 : List Cond := [Cond.methodLink RX4 42 Lib.Math.min.name, Cond.static Lib.Math.min.name, Cond.initialized "java/lang/Math", Cond.code Lib.Math.min.name Lib.Math.min.code 2 (some .int), Cond.methodLink RX4 48 yX4_leastPairing, Cond.instanceMethod yX4_leastPairing, Cond.selects RX4 yX4_leastPairing yX4_leastPairing, Cond.initialized RX4, Cond.code yX4_leastPairing cX4_leastPairing 5 (some .int), Cond.fieldLink RX4 15 "StrokeBook$Measure" "apart" "[I", Cond.fieldLink RX4 18 "StrokeBook$Measure" "leastSums" "[I", Cond.methodLink RX4 52 yX4_pointsApart, Cond.instanceMethod yX4_pointsApart, Cond.selects RX4 yX4_pointsApart yX4_pointsApart, Cond.code yX4_pointsApart cX4_pointsApart 5 (some .int), Cond.fieldLink RX4 9 "StrokeBook$Measure" "held" "[I", Cond.methodLink RX4 56 Lib.Math.abs.name, Cond.static Lib.Math.abs.name, Cond.code Lib.Math.abs.name Lib.Math.abs.code 1 (some .int), Cond.methodLink RX4 60 yX4_leastSum, Cond.instanceMethod yX4_leastSum, Cond.selects RX4 yX4_leastSum yX4_leastSum, Cond.code yX4_leastSum cX4_leastSum 6 (some .int), Cond.constant RX4 68 (1000000)]
def wsX4_distanceUnturned_r2 : List Cond := [Cond.methodLink RX4 63 yJ6_bitCount_0f7a4, Cond.static yJ6_bitCount_0f7a4, Cond.initialized RJ6, Cond.code yJ6_bitCount_0f7a4 cJ6_bitCount_0f7a4 1 (some .int), Cond.constant RJ6 265 (1431655765), Cond.constant RJ6 266 (858993459), Cond.constant RJ6 267 (252645135)]
def wsX4_distanceUnturned : List Cond := .code yX4_distanceUnturned cX4_distanceUnturned 7 (some .int) :: ((wsX4_distanceUnturned_r1 ++ wsX4_distanceUnturned_r2) ++ wsX40)
def wsX4_turnQuarter : List Cond := .code yX4_turnQuarter cX4_turnQuarter 3 none :: ([.fieldLink RX4 9 "StrokeBook$Measure" "held" "[I"] ++ wsX40)
def wsX4_distanceFrom_r1 : List Cond := [Cond.fieldLink RX4 9 "StrokeBook$Measure" "held" "[I", Cond.methodLink RX4 21 arraycopyName, Cond.native arraycopyName, Cond.static arraycopyName, Cond.initialized "java/lang/System", Cond.fieldLink RX4 27 "StrokeBook$TaughtMarks" "kinds" "[I", Cond.fieldLink RX4 32 "StrokeBook$TaughtMarks" "points" "[I", Cond.methodLink RX4 42 Lib.Math.min.name, Cond.static Lib.Math.min.name, Cond.initialized "java/lang/Math", Cond.code Lib.Math.min.name Lib.Math.min.code 2 (some .int), Cond.methodLink RX4 35 yX4_distanceUnturned, Cond.instanceMethod yX4_distanceUnturned, Cond.selects RX4 yX4_distanceUnturned yX4_distanceUnturned, Cond.initialized RX4, Cond.code yX4_distanceUnturned cX4_distanceUnturned 7 (some .int), Cond.methodLink RX4 48 yX4_leastPairing, Cond.instanceMethod yX4_leastPairing, Cond.selects RX4 yX4_leastPairing yX4_leastPairing, Cond.code yX4_leastPairing cX4_leastPairing 5 (some .int), Cond.fieldLink RX4 15 "StrokeBook$Measure" "apart" "[I", Cond.fieldLink RX4 18 "StrokeBook$Measure" "leastSums" "[I", Cond.methodLink RX4 52 yX4_pointsApart, Cond.instanceMethod yX4_pointsApart]
def wsX4_distanceFrom_r2 : List Cond := [Cond.selects RX4 yX4_pointsApart yX4_pointsApart, Cond.code yX4_pointsApart cX4_pointsApart 5 (some .int), Cond.methodLink RX4 56 Lib.Math.abs.name, Cond.static Lib.Math.abs.name, Cond.code Lib.Math.abs.name Lib.Math.abs.code 1 (some .int), Cond.methodLink RX4 60 yX4_leastSum, Cond.instanceMethod yX4_leastSum, Cond.selects RX4 yX4_leastSum yX4_leastSum, Cond.code yX4_leastSum cX4_leastSum 6 (some .int), Cond.constant RX4 68 (1000000), Cond.methodLink RX4 63 yJ6_bitCount_0f7a4, Cond.static yJ6_bitCount_0f7a4, Cond.initialized RJ6, Cond.code yJ6_bitCount_0f7a4 cJ6_bitCount_0f7a4 1 (some .int), Cond.constant RJ6 265 (1431655765), Cond.constant RJ6 266 (858993459), Cond.constant RJ6 267 (252645135), Cond.methodLink RX4 39 yX4_turnQuarter, Cond.instanceMethod yX4_turnQuarter, Cond.selects RX4 yX4_turnQuarter yX4_turnQuarter, Cond.code yX4_turnQuarter cX4_turnQuarter 3 none]
def wsX4_distanceFrom : List Cond := .code yX4_distanceFrom cX4_distanceFrom 9 (some .int) :: ((wsX4_distanceFrom_r1 ++ wsX4_distanceFrom_r2) ++ wsX40 ++ wsX60)
def wsX5_init : List Cond := .code yX5_init cX5_init 1 none :: ([.methodLink RX5 1 objectInit, .instanceMethod objectInit, .code objectInit ⟨#[0xb1]⟩ 1 none, .arrayClass .int, .fieldLink RX5 9 "StrokeBook$Sheets" "lanes" "[I", .arrayClass .boolean, .fieldLink RX5 13 "StrokeBook$Sheets" "made" "[Z", .fieldLink RX5 17 "StrokeBook$Sheets" "sizes" "[I", .fieldLink RX5 20 "StrokeBook$Sheets" "cells" "[I"] ++ wsX50)
def wsX5_isNumber : List Cond := .code yX5_isNumber cX5_isNumber 1 (some .boolean) :: ([])
def wsX5_isLane : List Cond := .code yX5_isLane cX5_isLane 1 (some .boolean) :: ([])
def wsX5_isNothing : List Cond := .code yX5_isNothing cX5_isNothing 2 (some .boolean) :: ([.fieldLink RX5 13 "StrokeBook$Sheets" "made" "[Z"] ++ wsX50)
def wsX5_makeNew : List Cond := .code yX5_makeNew cX5_makeNew 5 none :: ([.fieldLink RX5 13 "StrokeBook$Sheets" "made" "[Z", .fieldLink RX5 9 "StrokeBook$Sheets" "lanes" "[I", .fieldLink RX5 17 "StrokeBook$Sheets" "sizes" "[I", .fieldLink RX5 20 "StrokeBook$Sheets" "cells" "[I"] ++ wsX50)
def wsX5_hasCells : List Cond := .code yX5_hasCells cX5_hasCells 4 (some .boolean) :: ([.fieldLink RX5 17 "StrokeBook$Sheets" "sizes" "[I"] ++ wsX50)
def wsX5_cell : List Cond := .code yX5_cell cX5_cell 3 (some .int) :: ([.fieldLink RX5 20 "StrokeBook$Sheets" "cells" "[I"] ++ wsX50)
def wsX5_lowestBits : List Cond := .code yX5_lowestBits cX5_lowestBits 2 (some .int) :: ([])
def wsX5_put : List Cond := .code yX5_put cX5_put 4 none :: ([.fieldLink RX5 20 "StrokeBook$Sheets" "cells" "[I", .fieldLink RX5 9 "StrokeBook$Sheets" "lanes" "[I", .methodLink RX5 23 yX5_lowestBits, .static yX5_lowestBits, .initialized RX5, .code yX5_lowestBits cX5_lowestBits 2 (some .int)] ++ wsX50)
def wsX6_init : List Cond := .code yX6_init cX6_init 1 none :: ([.methodLink RX6 3 objectInit, .instanceMethod objectInit, .code objectInit ⟨#[0xb1]⟩ 1 none, .arrayClass .int, .fieldLink RX6 11 "StrokeBook$TaughtMarks" "labels" "[I", .fieldLink RX6 15 "StrokeBook$TaughtMarks" "kinds" "[I", .fieldLink RX6 18 "StrokeBook$TaughtMarks" "points" "[I", .fieldLink RX6 21 "StrokeBook$TaughtMarks" "size" "I"] ++ wsX60)
def wsX6_has : List Cond := .code yX6_has cX6_has 2 (some .boolean) :: ([.fieldLink RX6 21 "StrokeBook$TaughtMarks" "size" "I"] ++ wsX60)
def wsX6_insert : List Cond := .code yX6_insert cX6_insert 7 none :: ([.fieldLink RX6 21 "StrokeBook$TaughtMarks" "size" "I", .fieldLink RX6 11 "StrokeBook$TaughtMarks" "labels" "[I", .methodLink RX6 25 arraycopyName, .native arraycopyName, .static arraycopyName, .initialized "java/lang/System", .fieldLink RX6 15 "StrokeBook$TaughtMarks" "kinds" "[I", .fieldLink RX6 18 "StrokeBook$TaughtMarks" "points" "[I"] ++ wsX60)
def wsX6_remove : List Cond := .code yX6_remove cX6_remove 3 none :: ([.fieldLink RX6 21 "StrokeBook$TaughtMarks" "size" "I", .fieldLink RX6 11 "StrokeBook$TaughtMarks" "labels" "[I", .methodLink RX6 25 arraycopyName, .native arraycopyName, .static arraycopyName, .initialized "java/lang/System", .fieldLink RX6 15 "StrokeBook$TaughtMarks" "kinds" "[I", .fieldLink RX6 18 "StrokeBook$TaughtMarks" "points" "[I", .methodLink RX6 31 yX6_has, .instanceMethod yX6_has, .selects RX6 yX6_has yX6_has, .initialized RX6, .code yX6_has cX6_has 2 (some .boolean)] ++ wsX60)
def wsX7_init_r1 : List Cond := [Cond.methodLink RX7 1 objectInit, Cond.instanceMethod objectInit, Cond.code objectInit ⟨#[0xb1]⟩ 1 none, Cond.classLink RX7 7 RX2, Cond.instantiable RX2 6, Cond.initialized RX2, Cond.fieldLink RX7 10 "StrokeBook" "draft" "LStrokeBook$Draft;", Cond.classLink RX7 16 RX6, Cond.instantiable RX6 4, Cond.initialized RX6, Cond.fieldLink RX7 19 "StrokeBook" "marks" "LStrokeBook$TaughtMarks;", Cond.classLink RX7 23 RX0, Cond.instantiable RX0 7, Cond.initialized RX0, Cond.fieldLink RX7 26 "StrokeBook" "acts" "LStrokeBook$Acts;", Cond.classLink RX7 30 RX4, Cond.instantiable RX4 3, Cond.initialized RX4, Cond.fieldLink RX7 33 "StrokeBook" "measure" "LStrokeBook$Measure;", Cond.classLink RX7 37 RX1, Cond.instantiable RX1 5, Cond.initialized RX1, Cond.fieldLink RX7 40 "StrokeBook" "commands" "LStrokeBook$Commands;", Cond.classLink RX7 44 RX3]
def wsX7_init_r2 : List Cond := [Cond.instantiable RX3 5, Cond.initialized RX3, Cond.fieldLink RX7 47 "StrokeBook" "labels" "LStrokeBook$LabelLine;", Cond.classLink RX7 51 RX5, Cond.instantiable RX5 4, Cond.initialized RX5, Cond.fieldLink RX7 54 "StrokeBook" "sheets" "LStrokeBook$Sheets;", Cond.arrayClass .int, Cond.fieldLink RX7 58 "StrokeBook" "distances" "[I", Cond.fieldLink RX7 62 "StrokeBook" "end" "I", Cond.fieldLink RX7 66 "StrokeBook" "margin" "I", Cond.instanceMethod yX2_init, Cond.code yX2_init cX2_init 1 none, Cond.methodLink RX2 3 objectInit, Cond.fieldLink RX2 11 "StrokeBook$Draft" "xs" "[I", Cond.fieldLink RX2 15 "StrokeBook$Draft" "ys" "[I", Cond.arrayClass .boolean, Cond.fieldLink RX2 18 "StrokeBook$Draft" "liftedTo" "[Z", Cond.fieldLink RX2 22 "StrokeBook$Draft" "evenRow" "[I", Cond.fieldLink RX2 25 "StrokeBook$Draft" "normalRow" "[I", Cond.fieldLink RX2 28 "StrokeBook$Draft" "size" "I", Cond.instanceMethod yX6_init, Cond.code yX6_init cX6_init 1 none, Cond.methodLink RX6 3 objectInit]
def wsX7_init_r3 : List Cond := [Cond.fieldLink RX6 11 "StrokeBook$TaughtMarks" "labels" "[I", Cond.fieldLink RX6 15 "StrokeBook$TaughtMarks" "kinds" "[I", Cond.fieldLink RX6 18 "StrokeBook$TaughtMarks" "points" "[I", Cond.fieldLink RX6 21 "StrokeBook$TaughtMarks" "size" "I", Cond.instanceMethod yX0_init, Cond.code yX0_init cX0_init 1 none, Cond.methodLink RX0 3 objectInit, Cond.fieldLink RX0 11 "StrokeBook$Acts" "sorts" "[I", Cond.fieldLink RX0 15 "StrokeBook$Acts" "numbers" "[I", Cond.fieldLink RX0 18 "StrokeBook$Acts" "labels" "[I", Cond.fieldLink RX0 21 "StrokeBook$Acts" "kinds" "[I", Cond.fieldLink RX0 24 "StrokeBook$Acts" "points" "[I", Cond.fieldLink RX0 27 "StrokeBook$Acts" "size" "I", Cond.fieldLink RX0 31 "StrokeBook$Acts" "next" "I", Cond.instanceMethod yX4_init, Cond.code yX4_init cX4_init 1 none, Cond.methodLink RX4 3 objectInit, Cond.fieldLink RX4 9 "StrokeBook$Measure" "held" "[I", Cond.fieldLink RX4 15 "StrokeBook$Measure" "apart" "[I", Cond.fieldLink RX4 18 "StrokeBook$Measure" "leastSums" "[I", Cond.instanceMethod yX1_init, Cond.code yX1_init cX1_init 1 none, Cond.methodLink RX1 1 objectInit, Cond.fieldLink RX1 9 "StrokeBook$Commands" "contexts" "[I"]
def wsX7_init_r4 : List Cond := [Cond.fieldLink RX1 13 "StrokeBook$Commands" "ranks" "[I", Cond.fieldLink RX1 16 "StrokeBook$Commands" "lengths" "[I", Cond.fieldLink RX1 19 "StrokeBook$Commands" "labels" "[I", Cond.fieldLink RX1 22 "StrokeBook$Commands" "size" "I", Cond.instanceMethod yX3_init, Cond.code yX3_init cX3_init 1 none, Cond.methodLink RX3 3 objectInit, Cond.fieldLink RX3 11 "StrokeBook$LabelLine" "row" "[I", Cond.fieldLink RX3 15 "StrokeBook$LabelLine" "foundNumbers" "[I", Cond.fieldLink RX3 18 "StrokeBook$LabelLine" "foundPlaces" "[I", Cond.fieldLink RX3 21 "StrokeBook$LabelLine" "size" "I", Cond.fieldLink RX3 25 "StrokeBook$LabelLine" "foundSize" "I", Cond.instanceMethod yX5_init, Cond.code yX5_init cX5_init 1 none, Cond.methodLink RX5 1 objectInit, Cond.fieldLink RX5 9 "StrokeBook$Sheets" "lanes" "[I", Cond.fieldLink RX5 13 "StrokeBook$Sheets" "made" "[Z", Cond.fieldLink RX5 17 "StrokeBook$Sheets" "sizes" "[I", Cond.fieldLink RX5 20 "StrokeBook$Sheets" "cells" "[I"]
def wsX7_init : List Cond := .code yX7_init cX7_init 1 none :: ((wsX7_init_r1 ++ (wsX7_init_r2 ++ (wsX7_init_r3 ++ wsX7_init_r4))) ++ wsX20 ++ wsX70 ++ wsX60 ++ wsX00 ++ wsX40 ++ wsX10 ++ wsX30 ++ wsX50)
def wsX7_point : List Cond := .code yX7_point cX7_point 4 (some .int) :: ([.fieldLink RX7 10 "StrokeBook" "draft" "LStrokeBook$Draft;", .methodLink RX7 69 yX2_add, .instanceMethod yX2_add, .selects RX2 yX2_add yX2_add, .initialized RX2, .code yX2_add cX2_add 4 (some .int), .fieldLink RX2 28 "StrokeBook$Draft" "size" "I", .fieldLink RX2 11 "StrokeBook$Draft" "xs" "[I", .fieldLink RX2 15 "StrokeBook$Draft" "ys" "[I", .fieldLink RX2 18 "StrokeBook$Draft" "liftedTo" "[Z"] ++ wsX70 ++ wsX20)
def wsX7_clear : List Cond := .code yX7_clear cX7_clear 1 (some .int) :: ([.fieldLink RX7 10 "StrokeBook" "draft" "LStrokeBook$Draft;", .methodLink RX7 73 yX2_empty, .instanceMethod yX2_empty, .selects RX2 yX2_empty yX2_empty, .initialized RX2, .code yX2_empty cX2_empty 2 (some .int), .fieldLink RX2 28 "StrokeBook$Draft" "size" "I"] ++ wsX70 ++ wsX20)
def wsX7_way : List Cond := .code yX7_way cX7_way 1 (some .int) :: ([.fieldLink RX7 10 "StrokeBook" "draft" "LStrokeBook$Draft;", .methodLink RX7 77 yX2_length, .instanceMethod yX2_length, .selects RX2 yX2_length yX2_length, .initialized RX2, .code yX2_length cX2_length 3 (some .int), .fieldLink RX2 28 "StrokeBook$Draft" "size" "I", .methodLink RX2 38 yX2_drawnTo, .instanceMethod yX2_drawnTo, .selects RX2 yX2_drawnTo yX2_drawnTo, .code yX2_drawnTo cX2_drawnTo 2 (some .int), .fieldLink RX2 18 "StrokeBook$Draft" "liftedTo" "[Z", .fieldLink RX2 11 "StrokeBook$Draft" "xs" "[I", .methodLink RX2 32 Lib.Math.abs.name, .static Lib.Math.abs.name, .initialized "java/lang/Math", .code Lib.Math.abs.name Lib.Math.abs.code 1 (some .int), .fieldLink RX2 15 "StrokeBook$Draft" "ys" "[I"] ++ wsX70 ++ wsX20)
def wsX7_isWithin : List Cond := .code yX7_isWithin cX7_isWithin 2 (some .boolean) :: ([])
def wsX7_even_r1 : List Cond := [Cond.fieldLink RX7 10 "StrokeBook" "draft" "LStrokeBook$Draft;", Cond.constant RX7 88 (1000000), Cond.fieldLink RX7 89 "StrokeBook$Draft" "evenRow" "[I", Cond.methodLink RX7 80 yX7_isWithin, Cond.static yX7_isWithin, Cond.initialized RX7, Cond.code yX7_isWithin cX7_isWithin 2 (some .boolean), Cond.methodLink RX7 84 yX2_makeEven, Cond.instanceMethod yX2_makeEven, Cond.selects RX2 yX2_makeEven yX2_makeEven, Cond.initialized RX2, Cond.code yX2_makeEven cX2_makeEven 3 (some .boolean), Cond.methodLink RX2 41 yX2_length, Cond.instanceMethod yX2_length, Cond.selects RX2 yX2_length yX2_length, Cond.code yX2_length cX2_length 3 (some .int), Cond.fieldLink RX2 28 "StrokeBook$Draft" "size" "I", Cond.methodLink RX2 38 yX2_drawnTo, Cond.instanceMethod yX2_drawnTo, Cond.selects RX2 yX2_drawnTo yX2_drawnTo, Cond.code yX2_drawnTo cX2_drawnTo 2 (some .int), Cond.fieldLink RX2 18 "StrokeBook$Draft" "liftedTo" "[Z", Cond.fieldLink RX2 11 "StrokeBook$Draft" "xs" "[I", Cond.methodLink RX2 32 Lib.Math.abs.name]
def wsX7_even_r2 : List Cond := [Cond.static Lib.Math.abs.name, Cond.initialized "java/lang/Math", Cond.code Lib.Math.abs.name Lib.Math.abs.code 1 (some .int), Cond.fieldLink RX2 15 "StrokeBook$Draft" "ys" "[I", Cond.methodLink RX2 45 yX2_placeEven, Cond.instanceMethod yX2_placeEven, Cond.selects RX2 yX2_placeEven yX2_placeEven, Cond.code yX2_placeEven cX2_placeEven 6 none, Cond.fieldLink RX2 22 "StrokeBook$Draft" "evenRow" "[I", Cond.methodLink RX2 49 yX2_partWay, Cond.static yX2_partWay, Cond.code yX2_partWay cX2_partWay 4 (some .int), Cond.methodLink RX2 53 yJ9_floorDiv_7cf53, Cond.static yJ9_floorDiv_7cf53, Cond.initialized RJ9, Cond.code yJ9_floorDiv_7cf53 cJ9_floorDiv_7cf53 3 (some .int)]
def wsX7_even : List Cond := .code yX7_even cX7_even 3 (some .int) :: ((wsX7_even_r1 ++ wsX7_even_r2) ++ wsX70 ++ wsX20)
def wsX7_normal_r1 : List Cond := [Cond.fieldLink RX7 10 "StrokeBook" "draft" "LStrokeBook$Draft;", Cond.constant RX7 88 (1000000), Cond.fieldLink RX7 95 "StrokeBook$Draft" "normalRow" "[I", Cond.methodLink RX7 80 yX7_isWithin, Cond.static yX7_isWithin, Cond.initialized RX7, Cond.code yX7_isWithin cX7_isWithin 2 (some .boolean), Cond.methodLink RX7 92 yX2_makeNormal, Cond.instanceMethod yX2_makeNormal, Cond.selects RX2 yX2_makeNormal yX2_makeNormal, Cond.initialized RX2, Cond.code yX2_makeNormal cX2_makeNormal 3 (some .boolean), Cond.fieldLink RX2 25 "StrokeBook$Draft" "normalRow" "[I", Cond.methodLink RX2 57 yX2_makeEven, Cond.instanceMethod yX2_makeEven, Cond.selects RX2 yX2_makeEven yX2_makeEven, Cond.code yX2_makeEven cX2_makeEven 3 (some .boolean), Cond.methodLink RX2 41 yX2_length, Cond.instanceMethod yX2_length, Cond.selects RX2 yX2_length yX2_length, Cond.code yX2_length cX2_length 3 (some .int), Cond.fieldLink RX2 28 "StrokeBook$Draft" "size" "I", Cond.methodLink RX2 38 yX2_drawnTo, Cond.instanceMethod yX2_drawnTo]
def wsX7_normal_r2 : List Cond := [Cond.selects RX2 yX2_drawnTo yX2_drawnTo, Cond.code yX2_drawnTo cX2_drawnTo 2 (some .int), Cond.fieldLink RX2 18 "StrokeBook$Draft" "liftedTo" "[Z", Cond.fieldLink RX2 11 "StrokeBook$Draft" "xs" "[I", Cond.methodLink RX2 32 Lib.Math.abs.name, Cond.static Lib.Math.abs.name, Cond.initialized "java/lang/Math", Cond.code Lib.Math.abs.name Lib.Math.abs.code 1 (some .int), Cond.fieldLink RX2 15 "StrokeBook$Draft" "ys" "[I", Cond.methodLink RX2 45 yX2_placeEven, Cond.instanceMethod yX2_placeEven, Cond.selects RX2 yX2_placeEven yX2_placeEven, Cond.code yX2_placeEven cX2_placeEven 6 none, Cond.fieldLink RX2 22 "StrokeBook$Draft" "evenRow" "[I", Cond.methodLink RX2 49 yX2_partWay, Cond.static yX2_partWay, Cond.code yX2_partWay cX2_partWay 4 (some .int), Cond.methodLink RX2 53 yJ9_floorDiv_7cf53, Cond.static yJ9_floorDiv_7cf53, Cond.initialized RJ9, Cond.code yJ9_floorDiv_7cf53 cJ9_floorDiv_7cf53 3 (some .int), Cond.methodLink RX2 61 yX2_takeMiddleOff, Cond.instanceMethod yX2_takeMiddleOff, Cond.selects RX2 yX2_takeMiddleOff yX2_takeMiddleOff]
def wsX7_normal_r3 : List Cond := [Cond.code yX2_takeMiddleOff cX2_takeMiddleOff 6 none, Cond.methodLink RX2 68 Lib.Math.min.name, Cond.static Lib.Math.min.name, Cond.code Lib.Math.min.name Lib.Math.min.code 2 (some .int), Cond.methodLink RX2 71 Lib.Math.max.name, Cond.static Lib.Math.max.name, Cond.code Lib.Math.max.name Lib.Math.max.code 2 (some .int), Cond.methodLink RX2 65 yX2_greatestSize, Cond.instanceMethod yX2_greatestSize, Cond.selects RX2 yX2_greatestSize yX2_greatestSize, Cond.code yX2_greatestSize cX2_greatestSize 3 (some .int)]
def wsX7_normal : List Cond := .code yX7_normal cX7_normal 3 (some .int) :: ((wsX7_normal_r1 ++ (wsX7_normal_r2 ++ wsX7_normal_r3)) ++ wsX70 ++ wsX20)
def wsX7_teach_r1 : List Cond := [Cond.fieldLink RX7 10 "StrokeBook" "draft" "LStrokeBook$Draft;", Cond.fieldLink RX7 19 "StrokeBook" "marks" "LStrokeBook$TaughtMarks;", Cond.fieldLink RX7 98 "StrokeBook$TaughtMarks" "size" "I", Cond.fieldLink RX7 95 "StrokeBook$Draft" "normalRow" "[I", Cond.fieldLink RX7 26 "StrokeBook" "acts" "LStrokeBook$Acts;", Cond.methodLink RX7 80 yX7_isWithin, Cond.static yX7_isWithin, Cond.initialized RX7, Cond.code yX7_isWithin cX7_isWithin 2 (some .boolean), Cond.methodLink RX7 92 yX2_makeNormal, Cond.instanceMethod yX2_makeNormal, Cond.selects RX2 yX2_makeNormal yX2_makeNormal, Cond.initialized RX2, Cond.code yX2_makeNormal cX2_makeNormal 3 (some .boolean), Cond.fieldLink RX2 25 "StrokeBook$Draft" "normalRow" "[I", Cond.methodLink RX2 57 yX2_makeEven, Cond.instanceMethod yX2_makeEven, Cond.selects RX2 yX2_makeEven yX2_makeEven, Cond.code yX2_makeEven cX2_makeEven 3 (some .boolean), Cond.methodLink RX2 41 yX2_length, Cond.instanceMethod yX2_length, Cond.selects RX2 yX2_length yX2_length, Cond.code yX2_length cX2_length 3 (some .int), Cond.fieldLink RX2 28 "StrokeBook$Draft" "size" "I"]
def wsX7_teach_r2 : List Cond := [Cond.methodLink RX2 38 yX2_drawnTo, Cond.instanceMethod yX2_drawnTo, Cond.selects RX2 yX2_drawnTo yX2_drawnTo, Cond.code yX2_drawnTo cX2_drawnTo 2 (some .int), Cond.fieldLink RX2 18 "StrokeBook$Draft" "liftedTo" "[Z", Cond.fieldLink RX2 11 "StrokeBook$Draft" "xs" "[I", Cond.methodLink RX2 32 Lib.Math.abs.name, Cond.static Lib.Math.abs.name, Cond.initialized "java/lang/Math", Cond.code Lib.Math.abs.name Lib.Math.abs.code 1 (some .int), Cond.fieldLink RX2 15 "StrokeBook$Draft" "ys" "[I", Cond.methodLink RX2 45 yX2_placeEven, Cond.instanceMethod yX2_placeEven, Cond.selects RX2 yX2_placeEven yX2_placeEven, Cond.code yX2_placeEven cX2_placeEven 6 none, Cond.fieldLink RX2 22 "StrokeBook$Draft" "evenRow" "[I", Cond.methodLink RX2 49 yX2_partWay, Cond.static yX2_partWay, Cond.code yX2_partWay cX2_partWay 4 (some .int), Cond.methodLink RX2 53 yJ9_floorDiv_7cf53, Cond.static yJ9_floorDiv_7cf53, Cond.initialized RJ9, Cond.code yJ9_floorDiv_7cf53 cJ9_floorDiv_7cf53 3 (some .int), Cond.methodLink RX2 61 yX2_takeMiddleOff]
def wsX7_teach_r3 : List Cond := [Cond.instanceMethod yX2_takeMiddleOff, Cond.selects RX2 yX2_takeMiddleOff yX2_takeMiddleOff, Cond.code yX2_takeMiddleOff cX2_takeMiddleOff 6 none, Cond.methodLink RX2 68 Lib.Math.min.name, Cond.static Lib.Math.min.name, Cond.code Lib.Math.min.name Lib.Math.min.code 2 (some .int), Cond.methodLink RX2 71 Lib.Math.max.name, Cond.static Lib.Math.max.name, Cond.code Lib.Math.max.name Lib.Math.max.code 2 (some .int), Cond.methodLink RX2 65 yX2_greatestSize, Cond.instanceMethod yX2_greatestSize, Cond.selects RX2 yX2_greatestSize yX2_greatestSize, Cond.code yX2_greatestSize cX2_greatestSize 3 (some .int), Cond.methodLink RX7 101 yX6_insert, Cond.instanceMethod yX6_insert, Cond.selects RX6 yX6_insert yX6_insert, Cond.initialized RX6, Cond.code yX6_insert cX6_insert 7 none, Cond.fieldLink RX6 21 "StrokeBook$TaughtMarks" "size" "I", Cond.fieldLink RX6 11 "StrokeBook$TaughtMarks" "labels" "[I", Cond.methodLink RX6 25 arraycopyName, Cond.native arraycopyName, Cond.static arraycopyName, Cond.initialized "java/lang/System"]
def wsX7_teach_r4 : List Cond := [Cond.fieldLink RX6 15 "StrokeBook$TaughtMarks" "kinds" "[I", Cond.fieldLink RX6 18 "StrokeBook$TaughtMarks" "points" "[I", Cond.methodLink RX7 105 yX0_push, Cond.instanceMethod yX0_push, Cond.selects RX0 yX0_push yX0_push, Cond.initialized RX0, Cond.code yX0_push cX0_push 6 (some .int), Cond.fieldLink RX0 31 "StrokeBook$Acts" "next" "I", Cond.fieldLink RX0 11 "StrokeBook$Acts" "sorts" "[I", Cond.fieldLink RX0 15 "StrokeBook$Acts" "numbers" "[I", Cond.fieldLink RX0 18 "StrokeBook$Acts" "labels" "[I", Cond.fieldLink RX0 21 "StrokeBook$Acts" "kinds" "[I", Cond.fieldLink RX0 27 "StrokeBook$Acts" "size" "I", Cond.methodLink RX0 40 Lib.Math.min.name, Cond.methodLink RX0 34 yJ9_floorMod_7cf53, Cond.static yJ9_floorMod_7cf53, Cond.code yJ9_floorMod_7cf53 cJ9_floorMod_7cf53 3 (some .int)]
def wsX7_teach : List Cond := .code yX7_teach cX7_teach 4 (some .int) :: ((wsX7_teach_r1 ++ (wsX7_teach_r2 ++ (wsX7_teach_r3 ++ wsX7_teach_r4))) ++ wsX70 ++ wsX60 ++ wsX20 ++ wsX00)
def wsX7_forget_r1 : List Cond := [Cond.fieldLink RX7 19 "StrokeBook" "marks" "LStrokeBook$TaughtMarks;", Cond.fieldLink RX7 113 "StrokeBook$TaughtMarks" "labels" "[I", Cond.fieldLink RX7 26 "StrokeBook" "acts" "LStrokeBook$Acts;", Cond.fieldLink RX7 115 "StrokeBook$TaughtMarks" "kinds" "[I", Cond.fieldLink RX7 118 "StrokeBook$TaughtMarks" "points" "[I", Cond.fieldLink RX7 121 "StrokeBook$Acts" "points" "[I", Cond.methodLink RX7 122 arraycopyName, Cond.native arraycopyName, Cond.static arraycopyName, Cond.initialized "java/lang/System", Cond.methodLink RX7 109 yX6_has, Cond.instanceMethod yX6_has, Cond.selects RX6 yX6_has yX6_has, Cond.initialized RX6, Cond.code yX6_has cX6_has 2 (some .boolean), Cond.fieldLink RX6 21 "StrokeBook$TaughtMarks" "size" "I", Cond.methodLink RX7 105 yX0_push, Cond.instanceMethod yX0_push, Cond.selects RX0 yX0_push yX0_push, Cond.initialized RX0, Cond.code yX0_push cX0_push 6 (some .int), Cond.fieldLink RX0 31 "StrokeBook$Acts" "next" "I", Cond.fieldLink RX0 11 "StrokeBook$Acts" "sorts" "[I", Cond.fieldLink RX0 15 "StrokeBook$Acts" "numbers" "[I"]
def wsX7_forget_r2 : List Cond := [Cond.fieldLink RX0 18 "StrokeBook$Acts" "labels" "[I", Cond.fieldLink RX0 21 "StrokeBook$Acts" "kinds" "[I", Cond.fieldLink RX0 27 "StrokeBook$Acts" "size" "I", Cond.methodLink RX0 40 Lib.Math.min.name, Cond.static Lib.Math.min.name, Cond.initialized "java/lang/Math", Cond.code Lib.Math.min.name Lib.Math.min.code 2 (some .int), Cond.methodLink RX0 34 yJ9_floorMod_7cf53, Cond.static yJ9_floorMod_7cf53, Cond.initialized RJ9, Cond.code yJ9_floorMod_7cf53 cJ9_floorMod_7cf53 3 (some .int), Cond.methodLink RX7 128 yX6_remove, Cond.instanceMethod yX6_remove, Cond.selects RX6 yX6_remove yX6_remove, Cond.code yX6_remove cX6_remove 3 none, Cond.fieldLink RX6 11 "StrokeBook$TaughtMarks" "labels" "[I", Cond.methodLink RX6 25 arraycopyName, Cond.fieldLink RX6 15 "StrokeBook$TaughtMarks" "kinds" "[I", Cond.fieldLink RX6 18 "StrokeBook$TaughtMarks" "points" "[I", Cond.methodLink RX6 31 yX6_has]
def wsX7_forget : List Cond := .code yX7_forget cX7_forget 4 (some .int) :: ((wsX7_forget_r1 ++ wsX7_forget_r2) ++ wsX70 ++ wsX60 ++ wsX00)
def wsX7_undo_r1 : List Cond := [Cond.fieldLink RX7 26 "StrokeBook" "acts" "LStrokeBook$Acts;", Cond.fieldLink RX7 132 "StrokeBook$Acts" "size" "I", Cond.fieldLink RX7 136 "StrokeBook$Acts" "numbers" "[I", Cond.fieldLink RX7 139 "StrokeBook$Acts" "sorts" "[I", Cond.fieldLink RX7 19 "StrokeBook" "marks" "LStrokeBook$TaughtMarks;", Cond.fieldLink RX7 142 "StrokeBook$Acts" "labels" "[I", Cond.fieldLink RX7 143 "StrokeBook$Acts" "kinds" "[I", Cond.fieldLink RX7 121 "StrokeBook$Acts" "points" "[I", Cond.fieldLink RX7 113 "StrokeBook$TaughtMarks" "labels" "[I", Cond.methodLink RX7 133 yX0_pop, Cond.instanceMethod yX0_pop, Cond.selects RX0 yX0_pop yX0_pop, Cond.initialized RX0, Cond.code yX0_pop cX0_pop 1 (some .int), Cond.fieldLink RX0 31 "StrokeBook$Acts" "next" "I", Cond.fieldLink RX0 27 "StrokeBook$Acts" "size" "I", Cond.methodLink RX0 43 Lib.Math.max.name, Cond.static Lib.Math.max.name, Cond.initialized "java/lang/Math", Cond.code Lib.Math.max.name Lib.Math.max.code 2 (some .int), Cond.methodLink RX0 34 yJ9_floorMod_7cf53, Cond.static yJ9_floorMod_7cf53, Cond.initialized RJ9, Cond.code yJ9_floorMod_7cf53 cJ9_floorMod_7cf53 3 (some .int)]
def wsX7_undo_r2 : List Cond := [Cond.methodLink RX7 128 yX6_remove, Cond.instanceMethod yX6_remove, Cond.selects RX6 yX6_remove yX6_remove, Cond.initialized RX6, Cond.code yX6_remove cX6_remove 3 none, Cond.fieldLink RX6 21 "StrokeBook$TaughtMarks" "size" "I", Cond.fieldLink RX6 11 "StrokeBook$TaughtMarks" "labels" "[I", Cond.methodLink RX6 25 arraycopyName, Cond.native arraycopyName, Cond.static arraycopyName, Cond.initialized "java/lang/System", Cond.fieldLink RX6 15 "StrokeBook$TaughtMarks" "kinds" "[I", Cond.fieldLink RX6 18 "StrokeBook$TaughtMarks" "points" "[I", Cond.methodLink RX6 31 yX6_has, Cond.instanceMethod yX6_has, Cond.selects RX6 yX6_has yX6_has, Cond.code yX6_has cX6_has 2 (some .boolean), Cond.methodLink RX7 101 yX6_insert, Cond.instanceMethod yX6_insert, Cond.selects RX6 yX6_insert yX6_insert, Cond.code yX6_insert cX6_insert 7 none, Cond.methodLink RX7 109 yX6_has]
def wsX7_undo : List Cond := .code yX7_undo cX7_undo 3 (some .int) :: ((wsX7_undo_r1 ++ wsX7_undo_r2) ++ wsX70 ++ wsX00 ++ wsX60)
def wsX7_label_r1 : List Cond := [Cond.fieldLink RX7 19 "StrokeBook" "marks" "LStrokeBook$TaughtMarks;", Cond.fieldLink RX7 113 "StrokeBook$TaughtMarks" "labels" "[I", Cond.fieldLink RX7 26 "StrokeBook" "acts" "LStrokeBook$Acts;", Cond.fieldLink RX7 115 "StrokeBook$TaughtMarks" "kinds" "[I", Cond.methodLink RX7 109 yX6_has, Cond.instanceMethod yX6_has, Cond.selects RX6 yX6_has yX6_has, Cond.initialized RX6, Cond.code yX6_has cX6_has 2 (some .boolean), Cond.fieldLink RX6 21 "StrokeBook$TaughtMarks" "size" "I", Cond.methodLink RX7 80 yX7_isWithin, Cond.static yX7_isWithin, Cond.initialized RX7, Cond.code yX7_isWithin cX7_isWithin 2 (some .boolean), Cond.methodLink RX7 105 yX0_push, Cond.instanceMethod yX0_push, Cond.selects RX0 yX0_push yX0_push, Cond.initialized RX0, Cond.code yX0_push cX0_push 6 (some .int), Cond.fieldLink RX0 31 "StrokeBook$Acts" "next" "I", Cond.fieldLink RX0 11 "StrokeBook$Acts" "sorts" "[I", Cond.fieldLink RX0 15 "StrokeBook$Acts" "numbers" "[I", Cond.fieldLink RX0 18 "StrokeBook$Acts" "labels" "[I", Cond.fieldLink RX0 21 "StrokeBook$Acts" "kinds" "[I"]
def wsX7_label_r2 : List Cond := [Cond.fieldLink RX0 27 "StrokeBook$Acts" "size" "I", Cond.methodLink RX0 40 Lib.Math.min.name, Cond.static Lib.Math.min.name, Cond.initialized "java/lang/Math", Cond.code Lib.Math.min.name Lib.Math.min.code 2 (some .int), Cond.methodLink RX0 34 yJ9_floorMod_7cf53, Cond.static yJ9_floorMod_7cf53, Cond.initialized RJ9, Cond.code yJ9_floorMod_7cf53 cJ9_floorMod_7cf53 3 (some .int)]
def wsX7_label : List Cond := .code yX7_label cX7_label 4 (some .int) :: ((wsX7_label_r1 ++ wsX7_label_r2) ++ wsX70 ++ wsX60 ++ wsX00)
def wsX7_told : List Cond := .code yX7_told cX7_told 3 (some .int) :: ([.fieldLink RX7 19 "StrokeBook" "marks" "LStrokeBook$TaughtMarks;", .fieldLink RX7 113 "StrokeBook$TaughtMarks" "labels" "[I", .fieldLink RX7 115 "StrokeBook$TaughtMarks" "kinds" "[I", .methodLink RX7 109 yX6_has, .instanceMethod yX6_has, .selects RX6 yX6_has yX6_has, .initialized RX6, .code yX6_has cX6_has 2 (some .boolean), .fieldLink RX6 21 "StrokeBook$TaughtMarks" "size" "I", .methodLink RX7 80 yX7_isWithin, .static yX7_isWithin, .initialized RX7, .code yX7_isWithin cX7_isWithin 2 (some .boolean)] ++ wsX70 ++ wsX60)
def wsX7_taught : List Cond := .code yX7_taught cX7_taught 4 (some .int) :: ([.fieldLink RX7 19 "StrokeBook" "marks" "LStrokeBook$TaughtMarks;", .constant RX7 88 (1000000), .fieldLink RX7 118 "StrokeBook$TaughtMarks" "points" "[I", .methodLink RX7 109 yX6_has, .instanceMethod yX6_has, .selects RX6 yX6_has yX6_has, .initialized RX6, .code yX6_has cX6_has 2 (some .boolean), .fieldLink RX6 21 "StrokeBook$TaughtMarks" "size" "I", .methodLink RX7 80 yX7_isWithin, .static yX7_isWithin, .initialized RX7, .code yX7_isWithin cX7_isWithin 2 (some .boolean)] ++ wsX70 ++ wsX60)
def wsX7_ends : List Cond := .code yX7_ends cX7_ends 3 (some .int) :: ([.constant RX7 144 (100000), .fieldLink RX7 62 "StrokeBook" "end" "I", .fieldLink RX7 66 "StrokeBook" "margin" "I", .methodLink RX7 80 yX7_isWithin, .static yX7_isWithin, .initialized RX7, .code yX7_isWithin cX7_isWithin 2 (some .boolean)] ++ wsX70)
def wsX7_distance_r1 : List Cond := [Cond.fieldLink RX7 19 "StrokeBook" "marks" "LStrokeBook$TaughtMarks;", Cond.fieldLink RX7 10 "StrokeBook" "draft" "LStrokeBook$Draft;", Cond.fieldLink RX7 33 "StrokeBook" "measure" "LStrokeBook$Measure;", Cond.fieldLink RX7 95 "StrokeBook$Draft" "normalRow" "[I", Cond.methodLink RX7 109 yX6_has, Cond.instanceMethod yX6_has, Cond.selects RX6 yX6_has yX6_has, Cond.initialized RX6, Cond.code yX6_has cX6_has 2 (some .boolean), Cond.fieldLink RX6 21 "StrokeBook$TaughtMarks" "size" "I", Cond.methodLink RX7 92 yX2_makeNormal, Cond.instanceMethod yX2_makeNormal, Cond.selects RX2 yX2_makeNormal yX2_makeNormal, Cond.initialized RX2, Cond.code yX2_makeNormal cX2_makeNormal 3 (some .boolean), Cond.fieldLink RX2 25 "StrokeBook$Draft" "normalRow" "[I", Cond.methodLink RX2 57 yX2_makeEven, Cond.instanceMethod yX2_makeEven, Cond.selects RX2 yX2_makeEven yX2_makeEven, Cond.code yX2_makeEven cX2_makeEven 3 (some .boolean), Cond.methodLink RX2 41 yX2_length, Cond.instanceMethod yX2_length, Cond.selects RX2 yX2_length yX2_length, Cond.code yX2_length cX2_length 3 (some .int)]
def wsX7_distance_r2 : List Cond := [Cond.fieldLink RX2 28 "StrokeBook$Draft" "size" "I", Cond.methodLink RX2 38 yX2_drawnTo, Cond.instanceMethod yX2_drawnTo, Cond.selects RX2 yX2_drawnTo yX2_drawnTo, Cond.code yX2_drawnTo cX2_drawnTo 2 (some .int), Cond.fieldLink RX2 18 "StrokeBook$Draft" "liftedTo" "[Z", Cond.fieldLink RX2 11 "StrokeBook$Draft" "xs" "[I", Cond.methodLink RX2 32 Lib.Math.abs.name, Cond.static Lib.Math.abs.name, Cond.initialized "java/lang/Math", Cond.code Lib.Math.abs.name Lib.Math.abs.code 1 (some .int), Cond.fieldLink RX2 15 "StrokeBook$Draft" "ys" "[I", Cond.methodLink RX2 45 yX2_placeEven, Cond.instanceMethod yX2_placeEven, Cond.selects RX2 yX2_placeEven yX2_placeEven, Cond.code yX2_placeEven cX2_placeEven 6 none, Cond.fieldLink RX2 22 "StrokeBook$Draft" "evenRow" "[I", Cond.methodLink RX2 49 yX2_partWay, Cond.static yX2_partWay, Cond.code yX2_partWay cX2_partWay 4 (some .int), Cond.methodLink RX2 53 yJ9_floorDiv_7cf53, Cond.static yJ9_floorDiv_7cf53, Cond.initialized RJ9, Cond.code yJ9_floorDiv_7cf53 cJ9_floorDiv_7cf53 3 (some .int)]
def wsX7_distance_r3 : List Cond := [Cond.methodLink RX2 61 yX2_takeMiddleOff, Cond.instanceMethod yX2_takeMiddleOff, Cond.selects RX2 yX2_takeMiddleOff yX2_takeMiddleOff, Cond.code yX2_takeMiddleOff cX2_takeMiddleOff 6 none, Cond.methodLink RX2 68 Lib.Math.min.name, Cond.static Lib.Math.min.name, Cond.code Lib.Math.min.name Lib.Math.min.code 2 (some .int), Cond.methodLink RX2 71 Lib.Math.max.name, Cond.static Lib.Math.max.name, Cond.code Lib.Math.max.name Lib.Math.max.code 2 (some .int), Cond.methodLink RX2 65 yX2_greatestSize, Cond.instanceMethod yX2_greatestSize, Cond.selects RX2 yX2_greatestSize yX2_greatestSize, Cond.code yX2_greatestSize cX2_greatestSize 3 (some .int), Cond.methodLink RX7 145 yX4_distanceFrom, Cond.instanceMethod yX4_distanceFrom, Cond.selects RX4 yX4_distanceFrom yX4_distanceFrom, Cond.initialized RX4, Cond.code yX4_distanceFrom cX4_distanceFrom 9 (some .int), Cond.fieldLink RX4 9 "StrokeBook$Measure" "held" "[I", Cond.methodLink RX4 21 arraycopyName, Cond.native arraycopyName, Cond.static arraycopyName, Cond.initialized "java/lang/System"]
def wsX7_distance_r4 : List Cond := [Cond.fieldLink RX4 27 "StrokeBook$TaughtMarks" "kinds" "[I", Cond.fieldLink RX4 32 "StrokeBook$TaughtMarks" "points" "[I", Cond.methodLink RX4 42 Lib.Math.min.name, Cond.methodLink RX4 35 yX4_distanceUnturned, Cond.instanceMethod yX4_distanceUnturned, Cond.selects RX4 yX4_distanceUnturned yX4_distanceUnturned, Cond.code yX4_distanceUnturned cX4_distanceUnturned 7 (some .int), Cond.methodLink RX4 48 yX4_leastPairing, Cond.instanceMethod yX4_leastPairing, Cond.selects RX4 yX4_leastPairing yX4_leastPairing, Cond.code yX4_leastPairing cX4_leastPairing 5 (some .int), Cond.fieldLink RX4 15 "StrokeBook$Measure" "apart" "[I", Cond.fieldLink RX4 18 "StrokeBook$Measure" "leastSums" "[I", Cond.methodLink RX4 52 yX4_pointsApart, Cond.instanceMethod yX4_pointsApart, Cond.selects RX4 yX4_pointsApart yX4_pointsApart, Cond.code yX4_pointsApart cX4_pointsApart 5 (some .int), Cond.methodLink RX4 56 Lib.Math.abs.name, Cond.methodLink RX4 60 yX4_leastSum, Cond.instanceMethod yX4_leastSum, Cond.selects RX4 yX4_leastSum yX4_leastSum, Cond.code yX4_leastSum cX4_leastSum 6 (some .int), Cond.constant RX4 68 (1000000), Cond.methodLink RX4 63 yJ6_bitCount_0f7a4]
def wsX7_distance_r5 : List Cond := [Cond.static yJ6_bitCount_0f7a4, Cond.initialized RJ6, Cond.code yJ6_bitCount_0f7a4 cJ6_bitCount_0f7a4 1 (some .int), Cond.constant RJ6 265 (1431655765), Cond.constant RJ6 266 (858993459), Cond.constant RJ6 267 (252645135), Cond.methodLink RX4 39 yX4_turnQuarter, Cond.instanceMethod yX4_turnQuarter, Cond.selects RX4 yX4_turnQuarter yX4_turnQuarter, Cond.code yX4_turnQuarter cX4_turnQuarter 3 none]
def wsX7_distance : List Cond := .code yX7_distance cX7_distance 2 (some .int) :: ((wsX7_distance_r1 ++ (wsX7_distance_r2 ++ (wsX7_distance_r3 ++ (wsX7_distance_r4 ++ wsX7_distance_r5)))) ++ wsX70 ++ wsX20 ++ wsX60 ++ wsX40)
def wsX7_measureDraft_r1 : List Cond := [Cond.fieldLink RX7 10 "StrokeBook" "draft" "LStrokeBook$Draft;", Cond.fieldLink RX7 19 "StrokeBook" "marks" "LStrokeBook$TaughtMarks;", Cond.fieldLink RX7 98 "StrokeBook$TaughtMarks" "size" "I", Cond.fieldLink RX7 58 "StrokeBook" "distances" "[I", Cond.fieldLink RX7 33 "StrokeBook" "measure" "LStrokeBook$Measure;", Cond.fieldLink RX7 95 "StrokeBook$Draft" "normalRow" "[I", Cond.methodLink RX7 92 yX2_makeNormal, Cond.instanceMethod yX2_makeNormal, Cond.selects RX2 yX2_makeNormal yX2_makeNormal, Cond.initialized RX2, Cond.code yX2_makeNormal cX2_makeNormal 3 (some .boolean), Cond.fieldLink RX2 25 "StrokeBook$Draft" "normalRow" "[I", Cond.methodLink RX2 57 yX2_makeEven, Cond.instanceMethod yX2_makeEven, Cond.selects RX2 yX2_makeEven yX2_makeEven, Cond.code yX2_makeEven cX2_makeEven 3 (some .boolean), Cond.methodLink RX2 41 yX2_length, Cond.instanceMethod yX2_length, Cond.selects RX2 yX2_length yX2_length, Cond.code yX2_length cX2_length 3 (some .int), Cond.fieldLink RX2 28 "StrokeBook$Draft" "size" "I", Cond.methodLink RX2 38 yX2_drawnTo, Cond.instanceMethod yX2_drawnTo, Cond.selects RX2 yX2_drawnTo yX2_drawnTo]
def wsX7_measureDraft_r2 : List Cond := [Cond.code yX2_drawnTo cX2_drawnTo 2 (some .int), Cond.fieldLink RX2 18 "StrokeBook$Draft" "liftedTo" "[Z", Cond.fieldLink RX2 11 "StrokeBook$Draft" "xs" "[I", Cond.methodLink RX2 32 Lib.Math.abs.name, Cond.static Lib.Math.abs.name, Cond.initialized "java/lang/Math", Cond.code Lib.Math.abs.name Lib.Math.abs.code 1 (some .int), Cond.fieldLink RX2 15 "StrokeBook$Draft" "ys" "[I", Cond.methodLink RX2 45 yX2_placeEven, Cond.instanceMethod yX2_placeEven, Cond.selects RX2 yX2_placeEven yX2_placeEven, Cond.code yX2_placeEven cX2_placeEven 6 none, Cond.fieldLink RX2 22 "StrokeBook$Draft" "evenRow" "[I", Cond.methodLink RX2 49 yX2_partWay, Cond.static yX2_partWay, Cond.code yX2_partWay cX2_partWay 4 (some .int), Cond.methodLink RX2 53 yJ9_floorDiv_7cf53, Cond.static yJ9_floorDiv_7cf53, Cond.initialized RJ9, Cond.code yJ9_floorDiv_7cf53 cJ9_floorDiv_7cf53 3 (some .int), Cond.methodLink RX2 61 yX2_takeMiddleOff, Cond.instanceMethod yX2_takeMiddleOff, Cond.selects RX2 yX2_takeMiddleOff yX2_takeMiddleOff, Cond.code yX2_takeMiddleOff cX2_takeMiddleOff 6 none]
def wsX7_measureDraft_r3 : List Cond := [Cond.methodLink RX2 68 Lib.Math.min.name, Cond.static Lib.Math.min.name, Cond.code Lib.Math.min.name Lib.Math.min.code 2 (some .int), Cond.methodLink RX2 71 Lib.Math.max.name, Cond.static Lib.Math.max.name, Cond.code Lib.Math.max.name Lib.Math.max.code 2 (some .int), Cond.methodLink RX2 65 yX2_greatestSize, Cond.instanceMethod yX2_greatestSize, Cond.selects RX2 yX2_greatestSize yX2_greatestSize, Cond.code yX2_greatestSize cX2_greatestSize 3 (some .int), Cond.methodLink RX7 145 yX4_distanceFrom, Cond.instanceMethod yX4_distanceFrom, Cond.selects RX4 yX4_distanceFrom yX4_distanceFrom, Cond.initialized RX4, Cond.code yX4_distanceFrom cX4_distanceFrom 9 (some .int), Cond.fieldLink RX4 9 "StrokeBook$Measure" "held" "[I", Cond.methodLink RX4 21 arraycopyName, Cond.native arraycopyName, Cond.static arraycopyName, Cond.initialized "java/lang/System", Cond.fieldLink RX4 27 "StrokeBook$TaughtMarks" "kinds" "[I", Cond.fieldLink RX4 32 "StrokeBook$TaughtMarks" "points" "[I", Cond.methodLink RX4 42 Lib.Math.min.name, Cond.methodLink RX4 35 yX4_distanceUnturned]
def wsX7_measureDraft_r4 : List Cond := [Cond.instanceMethod yX4_distanceUnturned, Cond.selects RX4 yX4_distanceUnturned yX4_distanceUnturned, Cond.code yX4_distanceUnturned cX4_distanceUnturned 7 (some .int), Cond.methodLink RX4 48 yX4_leastPairing, Cond.instanceMethod yX4_leastPairing, Cond.selects RX4 yX4_leastPairing yX4_leastPairing, Cond.code yX4_leastPairing cX4_leastPairing 5 (some .int), Cond.fieldLink RX4 15 "StrokeBook$Measure" "apart" "[I", Cond.fieldLink RX4 18 "StrokeBook$Measure" "leastSums" "[I", Cond.methodLink RX4 52 yX4_pointsApart, Cond.instanceMethod yX4_pointsApart, Cond.selects RX4 yX4_pointsApart yX4_pointsApart, Cond.code yX4_pointsApart cX4_pointsApart 5 (some .int), Cond.methodLink RX4 56 Lib.Math.abs.name, Cond.methodLink RX4 60 yX4_leastSum, Cond.instanceMethod yX4_leastSum, Cond.selects RX4 yX4_leastSum yX4_leastSum, Cond.code yX4_leastSum cX4_leastSum 6 (some .int), Cond.constant RX4 68 (1000000), Cond.methodLink RX4 63 yJ6_bitCount_0f7a4, Cond.static yJ6_bitCount_0f7a4, Cond.initialized RJ6, Cond.code yJ6_bitCount_0f7a4 cJ6_bitCount_0f7a4 1 (some .int), Cond.constant RJ6 265 (1431655765)]
def wsX7_measureDraft_r5 : List Cond := [Cond.constant RJ6 266 (858993459), Cond.constant RJ6 267 (252645135), Cond.methodLink RX4 39 yX4_turnQuarter, Cond.instanceMethod yX4_turnQuarter, Cond.selects RX4 yX4_turnQuarter yX4_turnQuarter, Cond.code yX4_turnQuarter cX4_turnQuarter 3 none]
def wsX7_measureDraft : List Cond := .code yX7_measureDraft cX7_measureDraft 3 (some .int) :: ((wsX7_measureDraft_r1 ++ (wsX7_measureDraft_r2 ++ (wsX7_measureDraft_r3 ++ (wsX7_measureDraft_r4 ++ wsX7_measureDraft_r5)))) ++ wsX70 ++ wsX60 ++ wsX20 ++ wsX40)
def wsX7_nearest_r1 : List Cond := [Cond.methodLink RX7 149 yX7_measureDraft, Cond.instanceMethod yX7_measureDraft, Cond.selects RX7 yX7_measureDraft yX7_measureDraft, Cond.initialized RX7, Cond.code yX7_measureDraft cX7_measureDraft 3 (some .int), Cond.fieldLink RX7 10 "StrokeBook" "draft" "LStrokeBook$Draft;", Cond.fieldLink RX7 19 "StrokeBook" "marks" "LStrokeBook$TaughtMarks;", Cond.fieldLink RX7 98 "StrokeBook$TaughtMarks" "size" "I", Cond.fieldLink RX7 58 "StrokeBook" "distances" "[I", Cond.fieldLink RX7 33 "StrokeBook" "measure" "LStrokeBook$Measure;", Cond.fieldLink RX7 95 "StrokeBook$Draft" "normalRow" "[I", Cond.methodLink RX7 92 yX2_makeNormal, Cond.instanceMethod yX2_makeNormal, Cond.selects RX2 yX2_makeNormal yX2_makeNormal, Cond.initialized RX2, Cond.code yX2_makeNormal cX2_makeNormal 3 (some .boolean), Cond.fieldLink RX2 25 "StrokeBook$Draft" "normalRow" "[I", Cond.methodLink RX2 57 yX2_makeEven, Cond.instanceMethod yX2_makeEven, Cond.selects RX2 yX2_makeEven yX2_makeEven, Cond.code yX2_makeEven cX2_makeEven 3 (some .boolean), Cond.methodLink RX2 41 yX2_length, Cond.instanceMethod yX2_length, Cond.selects RX2 yX2_length yX2_length]
def wsX7_nearest_r2 : List Cond := [Cond.code yX2_length cX2_length 3 (some .int), Cond.fieldLink RX2 28 "StrokeBook$Draft" "size" "I", Cond.methodLink RX2 38 yX2_drawnTo, Cond.instanceMethod yX2_drawnTo, Cond.selects RX2 yX2_drawnTo yX2_drawnTo, Cond.code yX2_drawnTo cX2_drawnTo 2 (some .int), Cond.fieldLink RX2 18 "StrokeBook$Draft" "liftedTo" "[Z", Cond.fieldLink RX2 11 "StrokeBook$Draft" "xs" "[I", Cond.methodLink RX2 32 Lib.Math.abs.name, Cond.static Lib.Math.abs.name, Cond.initialized "java/lang/Math", Cond.code Lib.Math.abs.name Lib.Math.abs.code 1 (some .int), Cond.fieldLink RX2 15 "StrokeBook$Draft" "ys" "[I", Cond.methodLink RX2 45 yX2_placeEven, Cond.instanceMethod yX2_placeEven, Cond.selects RX2 yX2_placeEven yX2_placeEven, Cond.code yX2_placeEven cX2_placeEven 6 none, Cond.fieldLink RX2 22 "StrokeBook$Draft" "evenRow" "[I", Cond.methodLink RX2 49 yX2_partWay, Cond.static yX2_partWay, Cond.code yX2_partWay cX2_partWay 4 (some .int), Cond.methodLink RX2 53 yJ9_floorDiv_7cf53, Cond.static yJ9_floorDiv_7cf53, Cond.initialized RJ9]
def wsX7_nearest_r3 : List Cond := [Cond.code yJ9_floorDiv_7cf53 cJ9_floorDiv_7cf53 3 (some .int), Cond.methodLink RX2 61 yX2_takeMiddleOff, Cond.instanceMethod yX2_takeMiddleOff, Cond.selects RX2 yX2_takeMiddleOff yX2_takeMiddleOff, Cond.code yX2_takeMiddleOff cX2_takeMiddleOff 6 none, Cond.methodLink RX2 68 Lib.Math.min.name, Cond.static Lib.Math.min.name, Cond.code Lib.Math.min.name Lib.Math.min.code 2 (some .int), Cond.methodLink RX2 71 Lib.Math.max.name, Cond.static Lib.Math.max.name, Cond.code Lib.Math.max.name Lib.Math.max.code 2 (some .int), Cond.methodLink RX2 65 yX2_greatestSize, Cond.instanceMethod yX2_greatestSize, Cond.selects RX2 yX2_greatestSize yX2_greatestSize, Cond.code yX2_greatestSize cX2_greatestSize 3 (some .int), Cond.methodLink RX7 145 yX4_distanceFrom, Cond.instanceMethod yX4_distanceFrom, Cond.selects RX4 yX4_distanceFrom yX4_distanceFrom, Cond.initialized RX4, Cond.code yX4_distanceFrom cX4_distanceFrom 9 (some .int), Cond.fieldLink RX4 9 "StrokeBook$Measure" "held" "[I", Cond.methodLink RX4 21 arraycopyName, Cond.native arraycopyName, Cond.static arraycopyName]
def wsX7_nearest_r4 : List Cond := [Cond.initialized "java/lang/System", Cond.fieldLink RX4 27 "StrokeBook$TaughtMarks" "kinds" "[I", Cond.fieldLink RX4 32 "StrokeBook$TaughtMarks" "points" "[I", Cond.methodLink RX4 42 Lib.Math.min.name, Cond.methodLink RX4 35 yX4_distanceUnturned, Cond.instanceMethod yX4_distanceUnturned, Cond.selects RX4 yX4_distanceUnturned yX4_distanceUnturned, Cond.code yX4_distanceUnturned cX4_distanceUnturned 7 (some .int), Cond.methodLink RX4 48 yX4_leastPairing, Cond.instanceMethod yX4_leastPairing, Cond.selects RX4 yX4_leastPairing yX4_leastPairing, Cond.code yX4_leastPairing cX4_leastPairing 5 (some .int), Cond.fieldLink RX4 15 "StrokeBook$Measure" "apart" "[I", Cond.fieldLink RX4 18 "StrokeBook$Measure" "leastSums" "[I", Cond.methodLink RX4 52 yX4_pointsApart, Cond.instanceMethod yX4_pointsApart, Cond.selects RX4 yX4_pointsApart yX4_pointsApart, Cond.code yX4_pointsApart cX4_pointsApart 5 (some .int), Cond.methodLink RX4 56 Lib.Math.abs.name, Cond.methodLink RX4 60 yX4_leastSum, Cond.instanceMethod yX4_leastSum, Cond.selects RX4 yX4_leastSum yX4_leastSum, Cond.code yX4_leastSum cX4_leastSum 6 (some .int), Cond.constant RX4 68 (1000000)]
def wsX7_nearest_r5 : List Cond := [Cond.methodLink RX4 63 yJ6_bitCount_0f7a4, Cond.static yJ6_bitCount_0f7a4, Cond.initialized RJ6, Cond.code yJ6_bitCount_0f7a4 cJ6_bitCount_0f7a4 1 (some .int), Cond.constant RJ6 265 (1431655765), Cond.constant RJ6 266 (858993459), Cond.constant RJ6 267 (252645135), Cond.methodLink RX4 39 yX4_turnQuarter, Cond.instanceMethod yX4_turnQuarter, Cond.selects RX4 yX4_turnQuarter yX4_turnQuarter, Cond.code yX4_turnQuarter cX4_turnQuarter 3 none]
def wsX7_nearest : List Cond := .code yX7_nearest cX7_nearest 1 (some .int) :: ((wsX7_nearest_r1 ++ (wsX7_nearest_r2 ++ (wsX7_nearest_r3 ++ (wsX7_nearest_r4 ++ wsX7_nearest_r5)))) ++ wsX70 ++ wsX60 ++ wsX20 ++ wsX40)
def wsX7_labelRead : List Cond := .code yX7_labelRead cX7_labelRead 4 (some .int) :: ([.fieldLink RX7 19 "StrokeBook" "marks" "LStrokeBook$TaughtMarks;", .fieldLink RX7 113 "StrokeBook$TaughtMarks" "labels" "[I", .fieldLink RX7 58 "StrokeBook" "distances" "[I", .fieldLink RX7 62 "StrokeBook" "end" "I", .fieldLink RX7 98 "StrokeBook$TaughtMarks" "size" "I", .fieldLink RX7 66 "StrokeBook" "margin" "I", .methodLink RX7 109 yX6_has, .instanceMethod yX6_has, .selects RX6 yX6_has yX6_has, .initialized RX6, .code yX6_has cX6_has 2 (some .boolean), .fieldLink RX6 21 "StrokeBook$TaughtMarks" "size" "I"] ++ wsX70 ++ wsX60)
def wsX7_read_r1 : List Cond := [Cond.methodLink RX7 149 yX7_measureDraft, Cond.instanceMethod yX7_measureDraft, Cond.selects RX7 yX7_measureDraft yX7_measureDraft, Cond.initialized RX7, Cond.code yX7_measureDraft cX7_measureDraft 3 (some .int), Cond.fieldLink RX7 10 "StrokeBook" "draft" "LStrokeBook$Draft;", Cond.fieldLink RX7 19 "StrokeBook" "marks" "LStrokeBook$TaughtMarks;", Cond.fieldLink RX7 98 "StrokeBook$TaughtMarks" "size" "I", Cond.fieldLink RX7 58 "StrokeBook" "distances" "[I", Cond.fieldLink RX7 33 "StrokeBook" "measure" "LStrokeBook$Measure;", Cond.fieldLink RX7 95 "StrokeBook$Draft" "normalRow" "[I", Cond.methodLink RX7 92 yX2_makeNormal, Cond.instanceMethod yX2_makeNormal, Cond.selects RX2 yX2_makeNormal yX2_makeNormal, Cond.initialized RX2, Cond.code yX2_makeNormal cX2_makeNormal 3 (some .boolean), Cond.fieldLink RX2 25 "StrokeBook$Draft" "normalRow" "[I", Cond.methodLink RX2 57 yX2_makeEven, Cond.instanceMethod yX2_makeEven, Cond.selects RX2 yX2_makeEven yX2_makeEven, Cond.code yX2_makeEven cX2_makeEven 3 (some .boolean), Cond.methodLink RX2 41 yX2_length, Cond.instanceMethod yX2_length, Cond.selects RX2 yX2_length yX2_length]
def wsX7_read_r2 : List Cond := [Cond.code yX2_length cX2_length 3 (some .int), Cond.fieldLink RX2 28 "StrokeBook$Draft" "size" "I", Cond.methodLink RX2 38 yX2_drawnTo, Cond.instanceMethod yX2_drawnTo, Cond.selects RX2 yX2_drawnTo yX2_drawnTo, Cond.code yX2_drawnTo cX2_drawnTo 2 (some .int), Cond.fieldLink RX2 18 "StrokeBook$Draft" "liftedTo" "[Z", Cond.fieldLink RX2 11 "StrokeBook$Draft" "xs" "[I", Cond.methodLink RX2 32 Lib.Math.abs.name, Cond.static Lib.Math.abs.name, Cond.initialized "java/lang/Math", Cond.code Lib.Math.abs.name Lib.Math.abs.code 1 (some .int), Cond.fieldLink RX2 15 "StrokeBook$Draft" "ys" "[I", Cond.methodLink RX2 45 yX2_placeEven, Cond.instanceMethod yX2_placeEven, Cond.selects RX2 yX2_placeEven yX2_placeEven, Cond.code yX2_placeEven cX2_placeEven 6 none, Cond.fieldLink RX2 22 "StrokeBook$Draft" "evenRow" "[I", Cond.methodLink RX2 49 yX2_partWay, Cond.static yX2_partWay, Cond.code yX2_partWay cX2_partWay 4 (some .int), Cond.methodLink RX2 53 yJ9_floorDiv_7cf53, Cond.static yJ9_floorDiv_7cf53, Cond.initialized RJ9]
def wsX7_read_r3 : List Cond := [Cond.code yJ9_floorDiv_7cf53 cJ9_floorDiv_7cf53 3 (some .int), Cond.methodLink RX2 61 yX2_takeMiddleOff, Cond.instanceMethod yX2_takeMiddleOff, Cond.selects RX2 yX2_takeMiddleOff yX2_takeMiddleOff, Cond.code yX2_takeMiddleOff cX2_takeMiddleOff 6 none, Cond.methodLink RX2 68 Lib.Math.min.name, Cond.static Lib.Math.min.name, Cond.code Lib.Math.min.name Lib.Math.min.code 2 (some .int), Cond.methodLink RX2 71 Lib.Math.max.name, Cond.static Lib.Math.max.name, Cond.code Lib.Math.max.name Lib.Math.max.code 2 (some .int), Cond.methodLink RX2 65 yX2_greatestSize, Cond.instanceMethod yX2_greatestSize, Cond.selects RX2 yX2_greatestSize yX2_greatestSize, Cond.code yX2_greatestSize cX2_greatestSize 3 (some .int), Cond.methodLink RX7 145 yX4_distanceFrom, Cond.instanceMethod yX4_distanceFrom, Cond.selects RX4 yX4_distanceFrom yX4_distanceFrom, Cond.initialized RX4, Cond.code yX4_distanceFrom cX4_distanceFrom 9 (some .int), Cond.fieldLink RX4 9 "StrokeBook$Measure" "held" "[I", Cond.methodLink RX4 21 arraycopyName, Cond.native arraycopyName, Cond.static arraycopyName]
def wsX7_read_r4 : List Cond := [Cond.initialized "java/lang/System", Cond.fieldLink RX4 27 "StrokeBook$TaughtMarks" "kinds" "[I", Cond.fieldLink RX4 32 "StrokeBook$TaughtMarks" "points" "[I", Cond.methodLink RX4 42 Lib.Math.min.name, Cond.methodLink RX4 35 yX4_distanceUnturned, Cond.instanceMethod yX4_distanceUnturned, Cond.selects RX4 yX4_distanceUnturned yX4_distanceUnturned, Cond.code yX4_distanceUnturned cX4_distanceUnturned 7 (some .int), Cond.methodLink RX4 48 yX4_leastPairing, Cond.instanceMethod yX4_leastPairing, Cond.selects RX4 yX4_leastPairing yX4_leastPairing, Cond.code yX4_leastPairing cX4_leastPairing 5 (some .int), Cond.fieldLink RX4 15 "StrokeBook$Measure" "apart" "[I", Cond.fieldLink RX4 18 "StrokeBook$Measure" "leastSums" "[I", Cond.methodLink RX4 52 yX4_pointsApart, Cond.instanceMethod yX4_pointsApart, Cond.selects RX4 yX4_pointsApart yX4_pointsApart, Cond.code yX4_pointsApart cX4_pointsApart 5 (some .int), Cond.methodLink RX4 56 Lib.Math.abs.name, Cond.methodLink RX4 60 yX4_leastSum, Cond.instanceMethod yX4_leastSum, Cond.selects RX4 yX4_leastSum yX4_leastSum, Cond.code yX4_leastSum cX4_leastSum 6 (some .int), Cond.constant RX4 68 (1000000)]
def wsX7_read_r5 : List Cond := [Cond.methodLink RX4 63 yJ6_bitCount_0f7a4, Cond.static yJ6_bitCount_0f7a4, Cond.initialized RJ6, Cond.code yJ6_bitCount_0f7a4 cJ6_bitCount_0f7a4 1 (some .int), Cond.constant RJ6 265 (1431655765), Cond.constant RJ6 266 (858993459), Cond.constant RJ6 267 (252645135), Cond.methodLink RX4 39 yX4_turnQuarter, Cond.instanceMethod yX4_turnQuarter, Cond.selects RX4 yX4_turnQuarter yX4_turnQuarter, Cond.code yX4_turnQuarter cX4_turnQuarter 3 none, Cond.methodLink RX7 152 yX7_labelRead, Cond.instanceMethod yX7_labelRead, Cond.selects RX7 yX7_labelRead yX7_labelRead, Cond.code yX7_labelRead cX7_labelRead 4 (some .int), Cond.fieldLink RX7 113 "StrokeBook$TaughtMarks" "labels" "[I", Cond.fieldLink RX7 62 "StrokeBook" "end" "I", Cond.fieldLink RX7 66 "StrokeBook" "margin" "I", Cond.methodLink RX7 109 yX6_has, Cond.instanceMethod yX6_has, Cond.selects RX6 yX6_has yX6_has, Cond.initialized RX6, Cond.code yX6_has cX6_has 2 (some .boolean), Cond.fieldLink RX6 21 "StrokeBook$TaughtMarks" "size" "I"]
def wsX7_read : List Cond := .code yX7_read cX7_read 1 (some .int) :: ((wsX7_read_r1 ++ (wsX7_read_r2 ++ (wsX7_read_r3 ++ (wsX7_read_r4 ++ wsX7_read_r5)))) ++ wsX70 ++ wsX60 ++ wsX20 ++ wsX40)
def wsX7_mark_r1 : List Cond := [Cond.fieldLink RX7 47 "StrokeBook" "labels" "LStrokeBook$LabelLine;", Cond.fieldLink RX7 10 "StrokeBook" "draft" "LStrokeBook$Draft;", Cond.methodLink RX7 149 yX7_measureDraft, Cond.instanceMethod yX7_measureDraft, Cond.selects RX7 yX7_measureDraft yX7_measureDraft, Cond.initialized RX7, Cond.code yX7_measureDraft cX7_measureDraft 3 (some .int), Cond.fieldLink RX7 19 "StrokeBook" "marks" "LStrokeBook$TaughtMarks;", Cond.fieldLink RX7 98 "StrokeBook$TaughtMarks" "size" "I", Cond.fieldLink RX7 58 "StrokeBook" "distances" "[I", Cond.fieldLink RX7 33 "StrokeBook" "measure" "LStrokeBook$Measure;", Cond.fieldLink RX7 95 "StrokeBook$Draft" "normalRow" "[I", Cond.methodLink RX7 92 yX2_makeNormal, Cond.instanceMethod yX2_makeNormal, Cond.selects RX2 yX2_makeNormal yX2_makeNormal, Cond.initialized RX2, Cond.code yX2_makeNormal cX2_makeNormal 3 (some .boolean), Cond.fieldLink RX2 25 "StrokeBook$Draft" "normalRow" "[I", Cond.methodLink RX2 57 yX2_makeEven, Cond.instanceMethod yX2_makeEven, Cond.selects RX2 yX2_makeEven yX2_makeEven, Cond.code yX2_makeEven cX2_makeEven 3 (some .boolean), Cond.methodLink RX2 41 yX2_length, Cond.instanceMethod yX2_length]
def wsX7_mark_r2 : List Cond := [Cond.selects RX2 yX2_length yX2_length, Cond.code yX2_length cX2_length 3 (some .int), Cond.fieldLink RX2 28 "StrokeBook$Draft" "size" "I", Cond.methodLink RX2 38 yX2_drawnTo, Cond.instanceMethod yX2_drawnTo, Cond.selects RX2 yX2_drawnTo yX2_drawnTo, Cond.code yX2_drawnTo cX2_drawnTo 2 (some .int), Cond.fieldLink RX2 18 "StrokeBook$Draft" "liftedTo" "[Z", Cond.fieldLink RX2 11 "StrokeBook$Draft" "xs" "[I", Cond.methodLink RX2 32 Lib.Math.abs.name, Cond.static Lib.Math.abs.name, Cond.initialized "java/lang/Math", Cond.code Lib.Math.abs.name Lib.Math.abs.code 1 (some .int), Cond.fieldLink RX2 15 "StrokeBook$Draft" "ys" "[I", Cond.methodLink RX2 45 yX2_placeEven, Cond.instanceMethod yX2_placeEven, Cond.selects RX2 yX2_placeEven yX2_placeEven, Cond.code yX2_placeEven cX2_placeEven 6 none, Cond.fieldLink RX2 22 "StrokeBook$Draft" "evenRow" "[I", Cond.methodLink RX2 49 yX2_partWay, Cond.static yX2_partWay, Cond.code yX2_partWay cX2_partWay 4 (some .int), Cond.methodLink RX2 53 yJ9_floorDiv_7cf53, Cond.static yJ9_floorDiv_7cf53]
def wsX7_mark_r3 : List Cond := [Cond.initialized RJ9, Cond.code yJ9_floorDiv_7cf53 cJ9_floorDiv_7cf53 3 (some .int), Cond.methodLink RX2 61 yX2_takeMiddleOff, Cond.instanceMethod yX2_takeMiddleOff, Cond.selects RX2 yX2_takeMiddleOff yX2_takeMiddleOff, Cond.code yX2_takeMiddleOff cX2_takeMiddleOff 6 none, Cond.methodLink RX2 68 Lib.Math.min.name, Cond.static Lib.Math.min.name, Cond.code Lib.Math.min.name Lib.Math.min.code 2 (some .int), Cond.methodLink RX2 71 Lib.Math.max.name, Cond.static Lib.Math.max.name, Cond.code Lib.Math.max.name Lib.Math.max.code 2 (some .int), Cond.methodLink RX2 65 yX2_greatestSize, Cond.instanceMethod yX2_greatestSize, Cond.selects RX2 yX2_greatestSize yX2_greatestSize, Cond.code yX2_greatestSize cX2_greatestSize 3 (some .int), Cond.methodLink RX7 145 yX4_distanceFrom, Cond.instanceMethod yX4_distanceFrom, Cond.selects RX4 yX4_distanceFrom yX4_distanceFrom, Cond.initialized RX4, Cond.code yX4_distanceFrom cX4_distanceFrom 9 (some .int), Cond.fieldLink RX4 9 "StrokeBook$Measure" "held" "[I", Cond.methodLink RX4 21 arraycopyName, Cond.native arraycopyName]
def wsX7_mark_r4 : List Cond := [Cond.static arraycopyName, Cond.initialized "java/lang/System", Cond.fieldLink RX4 27 "StrokeBook$TaughtMarks" "kinds" "[I", Cond.fieldLink RX4 32 "StrokeBook$TaughtMarks" "points" "[I", Cond.methodLink RX4 42 Lib.Math.min.name, Cond.methodLink RX4 35 yX4_distanceUnturned, Cond.instanceMethod yX4_distanceUnturned, Cond.selects RX4 yX4_distanceUnturned yX4_distanceUnturned, Cond.code yX4_distanceUnturned cX4_distanceUnturned 7 (some .int), Cond.methodLink RX4 48 yX4_leastPairing, Cond.instanceMethod yX4_leastPairing, Cond.selects RX4 yX4_leastPairing yX4_leastPairing, Cond.code yX4_leastPairing cX4_leastPairing 5 (some .int), Cond.fieldLink RX4 15 "StrokeBook$Measure" "apart" "[I", Cond.fieldLink RX4 18 "StrokeBook$Measure" "leastSums" "[I", Cond.methodLink RX4 52 yX4_pointsApart, Cond.instanceMethod yX4_pointsApart, Cond.selects RX4 yX4_pointsApart yX4_pointsApart, Cond.code yX4_pointsApart cX4_pointsApart 5 (some .int), Cond.methodLink RX4 56 Lib.Math.abs.name, Cond.methodLink RX4 60 yX4_leastSum, Cond.instanceMethod yX4_leastSum, Cond.selects RX4 yX4_leastSum yX4_leastSum, Cond.code yX4_leastSum cX4_leastSum 6 (some .int)]
def wsX7_mark_r5 : List Cond := [Cond.constant RX4 68 (1000000), Cond.methodLink RX4 63 yJ6_bitCount_0f7a4, Cond.static yJ6_bitCount_0f7a4, Cond.initialized RJ6, Cond.code yJ6_bitCount_0f7a4 cJ6_bitCount_0f7a4 1 (some .int), Cond.constant RJ6 265 (1431655765), Cond.constant RJ6 266 (858993459), Cond.constant RJ6 267 (252645135), Cond.methodLink RX4 39 yX4_turnQuarter, Cond.instanceMethod yX4_turnQuarter, Cond.selects RX4 yX4_turnQuarter yX4_turnQuarter, Cond.code yX4_turnQuarter cX4_turnQuarter 3 none, Cond.methodLink RX7 152 yX7_labelRead, Cond.instanceMethod yX7_labelRead, Cond.selects RX7 yX7_labelRead yX7_labelRead, Cond.code yX7_labelRead cX7_labelRead 4 (some .int), Cond.fieldLink RX7 113 "StrokeBook$TaughtMarks" "labels" "[I", Cond.fieldLink RX7 62 "StrokeBook" "end" "I", Cond.fieldLink RX7 66 "StrokeBook" "margin" "I", Cond.methodLink RX7 109 yX6_has, Cond.instanceMethod yX6_has, Cond.selects RX6 yX6_has yX6_has, Cond.initialized RX6, Cond.code yX6_has cX6_has 2 (some .boolean)]
def wsX7_mark_r6 : List Cond := [Cond.fieldLink RX6 21 "StrokeBook$TaughtMarks" "size" "I", Cond.methodLink RX7 156 yX3_add, Cond.instanceMethod yX3_add, Cond.selects RX3 yX3_add yX3_add, Cond.initialized RX3, Cond.code yX3_add cX3_add 2 (some .boolean), Cond.fieldLink RX3 21 "StrokeBook$LabelLine" "size" "I", Cond.fieldLink RX3 11 "StrokeBook$LabelLine" "row" "[I", Cond.methodLink RX7 73 yX2_empty, Cond.instanceMethod yX2_empty, Cond.selects RX2 yX2_empty yX2_empty, Cond.code yX2_empty cX2_empty 2 (some .int)]
def wsX7_mark : List Cond := .code yX7_mark cX7_mark 2 (some .int) :: ((wsX7_mark_r1 ++ (wsX7_mark_r2 ++ (wsX7_mark_r3 ++ (wsX7_mark_r4 ++ (wsX7_mark_r5 ++ wsX7_mark_r6))))) ++ wsX70 ++ wsX60 ++ wsX20 ++ wsX40 ++ wsX30)
def wsX7_isConfused_r1 : List Cond := [Cond.fieldLink RX7 19 "StrokeBook" "marks" "LStrokeBook$TaughtMarks;", Cond.fieldLink RX7 98 "StrokeBook$TaughtMarks" "size" "I", Cond.fieldLink RX7 113 "StrokeBook$TaughtMarks" "labels" "[I", Cond.fieldLink RX7 33 "StrokeBook" "measure" "LStrokeBook$Measure;", Cond.fieldLink RX7 118 "StrokeBook$TaughtMarks" "points" "[I", Cond.methodLink RX7 145 yX4_distanceFrom, Cond.instanceMethod yX4_distanceFrom, Cond.selects RX4 yX4_distanceFrom yX4_distanceFrom, Cond.initialized RX4, Cond.code yX4_distanceFrom cX4_distanceFrom 9 (some .int), Cond.fieldLink RX4 9 "StrokeBook$Measure" "held" "[I", Cond.methodLink RX4 21 arraycopyName, Cond.native arraycopyName, Cond.static arraycopyName, Cond.initialized "java/lang/System", Cond.fieldLink RX4 27 "StrokeBook$TaughtMarks" "kinds" "[I", Cond.fieldLink RX4 32 "StrokeBook$TaughtMarks" "points" "[I", Cond.methodLink RX4 42 Lib.Math.min.name, Cond.static Lib.Math.min.name, Cond.initialized "java/lang/Math", Cond.code Lib.Math.min.name Lib.Math.min.code 2 (some .int), Cond.methodLink RX4 35 yX4_distanceUnturned, Cond.instanceMethod yX4_distanceUnturned, Cond.selects RX4 yX4_distanceUnturned yX4_distanceUnturned]
def wsX7_isConfused_r2 : List Cond := [Cond.code yX4_distanceUnturned cX4_distanceUnturned 7 (some .int), Cond.methodLink RX4 48 yX4_leastPairing, Cond.instanceMethod yX4_leastPairing, Cond.selects RX4 yX4_leastPairing yX4_leastPairing, Cond.code yX4_leastPairing cX4_leastPairing 5 (some .int), Cond.fieldLink RX4 15 "StrokeBook$Measure" "apart" "[I", Cond.fieldLink RX4 18 "StrokeBook$Measure" "leastSums" "[I", Cond.methodLink RX4 52 yX4_pointsApart, Cond.instanceMethod yX4_pointsApart, Cond.selects RX4 yX4_pointsApart yX4_pointsApart, Cond.code yX4_pointsApart cX4_pointsApart 5 (some .int), Cond.methodLink RX4 56 Lib.Math.abs.name, Cond.static Lib.Math.abs.name, Cond.code Lib.Math.abs.name Lib.Math.abs.code 1 (some .int), Cond.methodLink RX4 60 yX4_leastSum, Cond.instanceMethod yX4_leastSum, Cond.selects RX4 yX4_leastSum yX4_leastSum, Cond.code yX4_leastSum cX4_leastSum 6 (some .int), Cond.constant RX4 68 (1000000), Cond.methodLink RX4 63 yJ6_bitCount_0f7a4, Cond.static yJ6_bitCount_0f7a4, Cond.initialized RJ6, Cond.code yJ6_bitCount_0f7a4 cJ6_bitCount_0f7a4 1 (some .int), Cond.constant RJ6 265 (1431655765)]
def wsX7_isConfused_r3 : List Cond := [Cond.constant RJ6 266 (858993459), Cond.constant RJ6 267 (252645135), Cond.methodLink RX4 39 yX4_turnQuarter, Cond.instanceMethod yX4_turnQuarter, Cond.selects RX4 yX4_turnQuarter yX4_turnQuarter, Cond.code yX4_turnQuarter cX4_turnQuarter 3 none]
def wsX7_isConfused : List Cond := .code yX7_isConfused cX7_isConfused 4 (some .boolean) :: ((wsX7_isConfused_r1 ++ (wsX7_isConfused_r2 ++ wsX7_isConfused_r3)) ++ wsX70 ++ wsX60 ++ wsX40)
def wsX7_confused_r1 : List Cond := [Cond.constant RX7 144 (100000), Cond.fieldLink RX7 19 "StrokeBook" "marks" "LStrokeBook$TaughtMarks;", Cond.fieldLink RX7 98 "StrokeBook$TaughtMarks" "size" "I", Cond.fieldLink RX7 113 "StrokeBook$TaughtMarks" "labels" "[I", Cond.methodLink RX7 80 yX7_isWithin, Cond.static yX7_isWithin, Cond.initialized RX7, Cond.code yX7_isWithin cX7_isWithin 2 (some .boolean), Cond.methodLink RX7 158 yX7_isConfused, Cond.instanceMethod yX7_isConfused, Cond.selects RX7 yX7_isConfused yX7_isConfused, Cond.code yX7_isConfused cX7_isConfused 4 (some .boolean), Cond.fieldLink RX7 33 "StrokeBook" "measure" "LStrokeBook$Measure;", Cond.fieldLink RX7 118 "StrokeBook$TaughtMarks" "points" "[I", Cond.methodLink RX7 145 yX4_distanceFrom, Cond.instanceMethod yX4_distanceFrom, Cond.selects RX4 yX4_distanceFrom yX4_distanceFrom, Cond.initialized RX4, Cond.code yX4_distanceFrom cX4_distanceFrom 9 (some .int), Cond.fieldLink RX4 9 "StrokeBook$Measure" "held" "[I", Cond.methodLink RX4 21 arraycopyName, Cond.native arraycopyName, Cond.static arraycopyName, Cond.initialized "java/lang/System"]
def wsX7_confused_r2 : List Cond := [Cond.fieldLink RX4 27 "StrokeBook$TaughtMarks" "kinds" "[I", Cond.fieldLink RX4 32 "StrokeBook$TaughtMarks" "points" "[I", Cond.methodLink RX4 42 Lib.Math.min.name, Cond.static Lib.Math.min.name, Cond.initialized "java/lang/Math", Cond.code Lib.Math.min.name Lib.Math.min.code 2 (some .int), Cond.methodLink RX4 35 yX4_distanceUnturned, Cond.instanceMethod yX4_distanceUnturned, Cond.selects RX4 yX4_distanceUnturned yX4_distanceUnturned, Cond.code yX4_distanceUnturned cX4_distanceUnturned 7 (some .int), Cond.methodLink RX4 48 yX4_leastPairing, Cond.instanceMethod yX4_leastPairing, Cond.selects RX4 yX4_leastPairing yX4_leastPairing, Cond.code yX4_leastPairing cX4_leastPairing 5 (some .int), Cond.fieldLink RX4 15 "StrokeBook$Measure" "apart" "[I", Cond.fieldLink RX4 18 "StrokeBook$Measure" "leastSums" "[I", Cond.methodLink RX4 52 yX4_pointsApart, Cond.instanceMethod yX4_pointsApart, Cond.selects RX4 yX4_pointsApart yX4_pointsApart, Cond.code yX4_pointsApart cX4_pointsApart 5 (some .int), Cond.methodLink RX4 56 Lib.Math.abs.name, Cond.static Lib.Math.abs.name, Cond.code Lib.Math.abs.name Lib.Math.abs.code 1 (some .int), Cond.methodLink RX4 60 yX4_leastSum]
def wsX7_confused_r3 : List Cond := [Cond.instanceMethod yX4_leastSum, Cond.selects RX4 yX4_leastSum yX4_leastSum, Cond.code yX4_leastSum cX4_leastSum 6 (some .int), Cond.constant RX4 68 (1000000), Cond.methodLink RX4 63 yJ6_bitCount_0f7a4, Cond.static yJ6_bitCount_0f7a4, Cond.initialized RJ6, Cond.code yJ6_bitCount_0f7a4 cJ6_bitCount_0f7a4 1 (some .int), Cond.constant RJ6 265 (1431655765), Cond.constant RJ6 266 (858993459), Cond.constant RJ6 267 (252645135), Cond.methodLink RX4 39 yX4_turnQuarter, Cond.instanceMethod yX4_turnQuarter, Cond.selects RX4 yX4_turnQuarter yX4_turnQuarter, Cond.code yX4_turnQuarter cX4_turnQuarter 3 none]
def wsX7_confused : List Cond := .code yX7_confused cX7_confused 5 (some .int) :: ((wsX7_confused_r1 ++ (wsX7_confused_r2 ++ wsX7_confused_r3)) ++ wsX70 ++ wsX60 ++ wsX40)
def wsX7_between_r1 : List Cond := [Cond.fieldLink RX7 19 "StrokeBook" "marks" "LStrokeBook$TaughtMarks;", Cond.fieldLink RX7 33 "StrokeBook" "measure" "LStrokeBook$Measure;", Cond.fieldLink RX7 118 "StrokeBook$TaughtMarks" "points" "[I", Cond.methodLink RX7 109 yX6_has, Cond.instanceMethod yX6_has, Cond.selects RX6 yX6_has yX6_has, Cond.initialized RX6, Cond.code yX6_has cX6_has 2 (some .boolean), Cond.fieldLink RX6 21 "StrokeBook$TaughtMarks" "size" "I", Cond.methodLink RX7 145 yX4_distanceFrom, Cond.instanceMethod yX4_distanceFrom, Cond.selects RX4 yX4_distanceFrom yX4_distanceFrom, Cond.initialized RX4, Cond.code yX4_distanceFrom cX4_distanceFrom 9 (some .int), Cond.fieldLink RX4 9 "StrokeBook$Measure" "held" "[I", Cond.methodLink RX4 21 arraycopyName, Cond.native arraycopyName, Cond.static arraycopyName, Cond.initialized "java/lang/System", Cond.fieldLink RX4 27 "StrokeBook$TaughtMarks" "kinds" "[I", Cond.fieldLink RX4 32 "StrokeBook$TaughtMarks" "points" "[I", Cond.methodLink RX4 42 Lib.Math.min.name, Cond.static Lib.Math.min.name, Cond.initialized "java/lang/Math"]
def wsX7_between_r2 : List Cond := [Cond.code Lib.Math.min.name Lib.Math.min.code 2 (some .int), Cond.methodLink RX4 35 yX4_distanceUnturned, Cond.instanceMethod yX4_distanceUnturned, Cond.selects RX4 yX4_distanceUnturned yX4_distanceUnturned, Cond.code yX4_distanceUnturned cX4_distanceUnturned 7 (some .int), Cond.methodLink RX4 48 yX4_leastPairing, Cond.instanceMethod yX4_leastPairing, Cond.selects RX4 yX4_leastPairing yX4_leastPairing, Cond.code yX4_leastPairing cX4_leastPairing 5 (some .int), Cond.fieldLink RX4 15 "StrokeBook$Measure" "apart" "[I", Cond.fieldLink RX4 18 "StrokeBook$Measure" "leastSums" "[I", Cond.methodLink RX4 52 yX4_pointsApart, Cond.instanceMethod yX4_pointsApart, Cond.selects RX4 yX4_pointsApart yX4_pointsApart, Cond.code yX4_pointsApart cX4_pointsApart 5 (some .int), Cond.methodLink RX4 56 Lib.Math.abs.name, Cond.static Lib.Math.abs.name, Cond.code Lib.Math.abs.name Lib.Math.abs.code 1 (some .int), Cond.methodLink RX4 60 yX4_leastSum, Cond.instanceMethod yX4_leastSum, Cond.selects RX4 yX4_leastSum yX4_leastSum, Cond.code yX4_leastSum cX4_leastSum 6 (some .int), Cond.constant RX4 68 (1000000), Cond.methodLink RX4 63 yJ6_bitCount_0f7a4]
def wsX7_between_r3 : List Cond := [Cond.static yJ6_bitCount_0f7a4, Cond.initialized RJ6, Cond.code yJ6_bitCount_0f7a4 cJ6_bitCount_0f7a4 1 (some .int), Cond.constant RJ6 265 (1431655765), Cond.constant RJ6 266 (858993459), Cond.constant RJ6 267 (252645135), Cond.methodLink RX4 39 yX4_turnQuarter, Cond.instanceMethod yX4_turnQuarter, Cond.selects RX4 yX4_turnQuarter yX4_turnQuarter, Cond.code yX4_turnQuarter cX4_turnQuarter 3 none]
def wsX7_between : List Cond := .code yX7_between cX7_between 3 (some .int) :: ((wsX7_between_r1 ++ (wsX7_between_r2 ++ wsX7_between_r3)) ++ wsX70 ++ wsX60 ++ wsX40)
def wsX7_command : List Cond := .code yX7_command cX7_command 9 (some .int) :: ([.fieldLink RX7 40 "StrokeBook" "commands" "LStrokeBook$Commands;", .fieldLink RX7 161 "StrokeBook$Commands" "size" "I", .methodLink RX7 80 yX7_isWithin, .static yX7_isWithin, .initialized RX7, .code yX7_isWithin cX7_isWithin 2 (some .boolean), .methodLink RX7 162 yX1_open, .instanceMethod yX1_open, .selects RX1 yX1_open yX1_open, .initialized RX1, .code yX1_open cX1_open 5 (some .int), .fieldLink RX1 22 "StrokeBook$Commands" "size" "I", .fieldLink RX1 9 "StrokeBook$Commands" "contexts" "[I", .fieldLink RX1 13 "StrokeBook$Commands" "ranks" "[I", .fieldLink RX1 16 "StrokeBook$Commands" "lengths" "[I", .methodLink RX7 166 yX1_put, .instanceMethod yX1_put, .selects RX1 yX1_put yX1_put, .code yX1_put cX1_put 4 none, .fieldLink RX1 19 "StrokeBook$Commands" "labels" "[I"] ++ wsX70 ++ wsX10)
def wsX7_parse_r1 : List Cond := [Cond.fieldLink RX7 47 "StrokeBook" "labels" "LStrokeBook$LabelLine;", Cond.fieldLink RX7 40 "StrokeBook" "commands" "LStrokeBook$Commands;", Cond.fieldLink RX7 174 "StrokeBook$LabelLine" "foundSize" "I", Cond.methodLink RX7 80 yX7_isWithin, Cond.static yX7_isWithin, Cond.initialized RX7, Cond.code yX7_isWithin cX7_isWithin 2 (some .boolean), Cond.methodLink RX7 170 yX3_findCommands, Cond.instanceMethod yX3_findCommands, Cond.selects RX3 yX3_findCommands yX3_findCommands, Cond.initialized RX3, Cond.code yX3_findCommands cX3_findCommands 5 none, Cond.fieldLink RX3 25 "StrokeBook$LabelLine" "foundSize" "I", Cond.fieldLink RX3 21 "StrokeBook$LabelLine" "size" "I", Cond.fieldLink RX3 15 "StrokeBook$LabelLine" "foundNumbers" "[I", Cond.fieldLink RX3 18 "StrokeBook$LabelLine" "foundPlaces" "[I", Cond.fieldLink RX3 32 "StrokeBook$Commands" "lengths" "[I", Cond.methodLink RX3 37 Lib.Math.max.name, Cond.static Lib.Math.max.name, Cond.initialized "java/lang/Math", Cond.code Lib.Math.max.name Lib.Math.max.code 2 (some .int), Cond.methodLink RX3 28 yX3_commandAt, Cond.instanceMethod yX3_commandAt, Cond.selects RX3 yX3_commandAt yX3_commandAt]
def wsX7_parse_r2 : List Cond := [Cond.code yX3_commandAt cX3_commandAt 6 (some .int), Cond.fieldLink RX3 43 "StrokeBook$Commands" "size" "I", Cond.methodLink RX3 44 yX1_isOf, Cond.instanceMethod yX1_isOf, Cond.selects RX1 yX1_isOf yX1_isOf, Cond.initialized RX1, Cond.code yX1_isOf cX1_isOf 3 (some .boolean), Cond.fieldLink RX1 9 "StrokeBook$Commands" "contexts" "[I", Cond.methodLink RX3 48 yX3_standsAt, Cond.instanceMethod yX3_standsAt, Cond.selects RX3 yX3_standsAt yX3_standsAt, Cond.code yX3_standsAt cX3_standsAt 5 (some .boolean), Cond.fieldLink RX3 11 "StrokeBook$LabelLine" "row" "[I", Cond.methodLink RX3 55 yX1_labelAt, Cond.instanceMethod yX1_labelAt, Cond.selects RX1 yX1_labelAt yX1_labelAt, Cond.code yX1_labelAt cX1_labelAt 3 (some .int), Cond.fieldLink RX1 19 "StrokeBook$Commands" "labels" "[I", Cond.methodLink RX3 52 yX1_goesBefore, Cond.instanceMethod yX1_goesBefore, Cond.selects RX1 yX1_goesBefore yX1_goesBefore, Cond.code yX1_goesBefore cX1_goesBefore 3 (some .boolean), Cond.fieldLink RX1 16 "StrokeBook$Commands" "lengths" "[I", Cond.fieldLink RX1 13 "StrokeBook$Commands" "ranks" "[I"]
def wsX7_parse : List Cond := .code yX7_parse cX7_parse 2 (some .int) :: ((wsX7_parse_r1 ++ wsX7_parse_r2) ++ wsX70 ++ wsX30 ++ wsX10)
def wsX7_found_r1 : List Cond := [Cond.fieldLink RX7 47 "StrokeBook" "labels" "LStrokeBook$LabelLine;", Cond.fieldLink RX7 40 "StrokeBook" "commands" "LStrokeBook$Commands;", Cond.fieldLink RX7 174 "StrokeBook$LabelLine" "foundSize" "I", Cond.fieldLink RX7 177 "StrokeBook$LabelLine" "foundNumbers" "[I", Cond.fieldLink RX7 180 "StrokeBook$LabelLine" "foundPlaces" "[I", Cond.methodLink RX7 80 yX7_isWithin, Cond.static yX7_isWithin, Cond.initialized RX7, Cond.code yX7_isWithin cX7_isWithin 2 (some .boolean), Cond.methodLink RX7 170 yX3_findCommands, Cond.instanceMethod yX3_findCommands, Cond.selects RX3 yX3_findCommands yX3_findCommands, Cond.initialized RX3, Cond.code yX3_findCommands cX3_findCommands 5 none, Cond.fieldLink RX3 25 "StrokeBook$LabelLine" "foundSize" "I", Cond.fieldLink RX3 21 "StrokeBook$LabelLine" "size" "I", Cond.fieldLink RX3 15 "StrokeBook$LabelLine" "foundNumbers" "[I", Cond.fieldLink RX3 18 "StrokeBook$LabelLine" "foundPlaces" "[I", Cond.fieldLink RX3 32 "StrokeBook$Commands" "lengths" "[I", Cond.methodLink RX3 37 Lib.Math.max.name, Cond.static Lib.Math.max.name, Cond.initialized "java/lang/Math", Cond.code Lib.Math.max.name Lib.Math.max.code 2 (some .int), Cond.methodLink RX3 28 yX3_commandAt]
def wsX7_found_r2 : List Cond := [Cond.instanceMethod yX3_commandAt, Cond.selects RX3 yX3_commandAt yX3_commandAt, Cond.code yX3_commandAt cX3_commandAt 6 (some .int), Cond.fieldLink RX3 43 "StrokeBook$Commands" "size" "I", Cond.methodLink RX3 44 yX1_isOf, Cond.instanceMethod yX1_isOf, Cond.selects RX1 yX1_isOf yX1_isOf, Cond.initialized RX1, Cond.code yX1_isOf cX1_isOf 3 (some .boolean), Cond.fieldLink RX1 9 "StrokeBook$Commands" "contexts" "[I", Cond.methodLink RX3 48 yX3_standsAt, Cond.instanceMethod yX3_standsAt, Cond.selects RX3 yX3_standsAt yX3_standsAt, Cond.code yX3_standsAt cX3_standsAt 5 (some .boolean), Cond.fieldLink RX3 11 "StrokeBook$LabelLine" "row" "[I", Cond.methodLink RX3 55 yX1_labelAt, Cond.instanceMethod yX1_labelAt, Cond.selects RX1 yX1_labelAt yX1_labelAt, Cond.code yX1_labelAt cX1_labelAt 3 (some .int), Cond.fieldLink RX1 19 "StrokeBook$Commands" "labels" "[I", Cond.methodLink RX3 52 yX1_goesBefore, Cond.instanceMethod yX1_goesBefore, Cond.selects RX1 yX1_goesBefore yX1_goesBefore, Cond.code yX1_goesBefore cX1_goesBefore 3 (some .boolean)]
def wsX7_found_r3 : List Cond := [Cond.fieldLink RX1 16 "StrokeBook$Commands" "lengths" "[I", Cond.fieldLink RX1 13 "StrokeBook$Commands" "ranks" "[I"]
def wsX7_found : List Cond := .code yX7_found cX7_found 4 (some .int) :: ((wsX7_found_r1 ++ (wsX7_found_r2 ++ wsX7_found_r3)) ++ wsX70 ++ wsX30 ++ wsX10)
def wsX7_hidden_r1 : List Cond := [Cond.fieldLink RX7 40 "StrokeBook" "commands" "LStrokeBook$Commands;", Cond.fieldLink RX7 161 "StrokeBook$Commands" "size" "I", Cond.methodLink RX7 183 yX1_isHidden, Cond.instanceMethod yX1_isHidden, Cond.selects RX1 yX1_isHidden yX1_isHidden, Cond.initialized RX1, Cond.code yX1_isHidden cX1_isHidden 3 (some .boolean), Cond.fieldLink RX1 22 "StrokeBook$Commands" "size" "I", Cond.fieldLink RX1 9 "StrokeBook$Commands" "contexts" "[I", Cond.methodLink RX1 26 yX1_isOf, Cond.instanceMethod yX1_isOf, Cond.selects RX1 yX1_isOf yX1_isOf, Cond.code yX1_isOf cX1_isOf 3 (some .boolean), Cond.methodLink RX1 30 yX1_haveSameLabels, Cond.instanceMethod yX1_haveSameLabels, Cond.selects RX1 yX1_haveSameLabels yX1_haveSameLabels, Cond.code yX1_haveSameLabels cX1_haveSameLabels 4 (some .boolean), Cond.fieldLink RX1 16 "StrokeBook$Commands" "lengths" "[I", Cond.methodLink RX1 36 yX1_labelAt, Cond.instanceMethod yX1_labelAt, Cond.selects RX1 yX1_labelAt yX1_labelAt, Cond.code yX1_labelAt cX1_labelAt 3 (some .int), Cond.fieldLink RX1 19 "StrokeBook$Commands" "labels" "[I", Cond.methodLink RX1 33 yX1_goesBefore]
def wsX7_hidden_r2 : List Cond := [Cond.instanceMethod yX1_goesBefore, Cond.selects RX1 yX1_goesBefore yX1_goesBefore, Cond.code yX1_goesBefore cX1_goesBefore 3 (some .boolean), Cond.fieldLink RX1 13 "StrokeBook$Commands" "ranks" "[I"]
def wsX7_hidden : List Cond := .code yX7_hidden cX7_hidden 2 (some .int) :: ((wsX7_hidden_r1 ++ wsX7_hidden_r2) ++ wsX70 ++ wsX10)
def wsX7_line : List Cond := .code yX7_line cX7_line 2 (some .int) :: ([.fieldLink RX7 47 "StrokeBook" "labels" "LStrokeBook$LabelLine;", .fieldLink RX7 186 "StrokeBook$LabelLine" "size" "I", .fieldLink RX7 187 "StrokeBook$LabelLine" "row" "[I"] ++ wsX70 ++ wsX30)
def wsX7_wipe : List Cond := .code yX7_wipe cX7_wipe 1 (some .int) :: ([.fieldLink RX7 47 "StrokeBook" "labels" "LStrokeBook$LabelLine;", .methodLink RX7 190 yX3_empty, .instanceMethod yX3_empty, .selects RX3 yX3_empty yX3_empty, .initialized RX3, .code yX3_empty cX3_empty 2 (some .int), .fieldLink RX3 21 "StrokeBook$LabelLine" "size" "I"] ++ wsX70 ++ wsX30)
def wsX7_sheet : List Cond := .code yX7_sheet cX7_sheet 4 (some .int) :: ([.fieldLink RX7 54 "StrokeBook" "sheets" "LStrokeBook$Sheets;", .methodLink RX7 191 yX5_isNumber, .static yX5_isNumber, .initialized RX5, .code yX5_isNumber cX5_isNumber 1 (some .boolean), .methodLink RX7 194 yX5_isLane, .static yX5_isLane, .code yX5_isLane cX5_isLane 1 (some .boolean), .methodLink RX7 197 yX5_makeNew, .instanceMethod yX5_makeNew, .selects RX5 yX5_makeNew yX5_makeNew, .code yX5_makeNew cX5_makeNew 5 none, .fieldLink RX5 13 "StrokeBook$Sheets" "made" "[Z", .fieldLink RX5 9 "StrokeBook$Sheets" "lanes" "[I", .fieldLink RX5 17 "StrokeBook$Sheets" "sizes" "[I", .fieldLink RX5 20 "StrokeBook$Sheets" "cells" "[I"] ++ wsX70 ++ wsX50)
def wsX7_lay : List Cond := .code yX7_lay cX7_lay 4 (some .int) :: ([.fieldLink RX7 54 "StrokeBook" "sheets" "LStrokeBook$Sheets;", .methodLink RX7 191 yX5_isNumber, .static yX5_isNumber, .initialized RX5, .code yX5_isNumber cX5_isNumber 1 (some .boolean), .methodLink RX7 200 yX5_isNothing, .instanceMethod yX5_isNothing, .selects RX5 yX5_isNothing yX5_isNothing, .code yX5_isNothing cX5_isNothing 2 (some .boolean), .fieldLink RX5 13 "StrokeBook$Sheets" "made" "[Z", .methodLink RX7 203 yX5_hasCells, .instanceMethod yX5_hasCells, .selects RX5 yX5_hasCells yX5_hasCells, .code yX5_hasCells cX5_hasCells 4 (some .boolean), .fieldLink RX5 17 "StrokeBook$Sheets" "sizes" "[I", .methodLink RX7 207 yX5_put, .instanceMethod yX5_put, .selects RX5 yX5_put yX5_put, .code yX5_put cX5_put 4 none, .fieldLink RX5 20 "StrokeBook$Sheets" "cells" "[I", .fieldLink RX5 9 "StrokeBook$Sheets" "lanes" "[I", .methodLink RX5 23 yX5_lowestBits, .static yX5_lowestBits, .code yX5_lowestBits cX5_lowestBits 2 (some .int)] ++ wsX70 ++ wsX50)
def wsX7_scanPoint : List Cond := .code yX7_scanPoint cX7_scanPoint 9 (some .int) :: ([.fieldLink RX7 54 "StrokeBook" "sheets" "LStrokeBook$Sheets;", .fieldLink RX7 10 "StrokeBook" "draft" "LStrokeBook$Draft;", .methodLink RX7 203 yX5_hasCells, .instanceMethod yX5_hasCells, .selects RX5 yX5_hasCells yX5_hasCells, .initialized RX5, .code yX5_hasCells cX5_hasCells 4 (some .boolean), .fieldLink RX5 17 "StrokeBook$Sheets" "sizes" "[I", .methodLink RX7 218 yX5_cell, .instanceMethod yX5_cell, .selects RX5 yX5_cell yX5_cell, .code yX5_cell cX5_cell 3 (some .int), .fieldLink RX5 20 "StrokeBook$Sheets" "cells" "[I", .methodLink RX7 69 yX2_add, .instanceMethod yX2_add, .selects RX2 yX2_add yX2_add, .initialized RX2, .code yX2_add cX2_add 4 (some .int), .fieldLink RX2 28 "StrokeBook$Draft" "size" "I", .fieldLink RX2 11 "StrokeBook$Draft" "xs" "[I", .fieldLink RX2 15 "StrokeBook$Draft" "ys" "[I", .fieldLink RX2 18 "StrokeBook$Draft" "liftedTo" "[Z"] ++ wsX70 ++ wsX50 ++ wsX20)
def wsX7_scan_r1 : List Cond := [Cond.fieldLink RX7 54 "StrokeBook" "sheets" "LStrokeBook$Sheets;", Cond.fieldLink RX7 208 "StrokeBook$Sheets" "lanes" "[I", Cond.fieldLink RX7 10 "StrokeBook" "draft" "LStrokeBook$Draft;", Cond.fieldLink RX7 211 "StrokeBook$Draft" "size" "I", Cond.methodLink RX7 191 yX5_isNumber, Cond.static yX5_isNumber, Cond.initialized RX5, Cond.code yX5_isNumber cX5_isNumber 1 (some .boolean), Cond.methodLink RX7 194 yX5_isLane, Cond.static yX5_isLane, Cond.code yX5_isLane cX5_isLane 1 (some .boolean), Cond.methodLink RX7 80 yX7_isWithin, Cond.static yX7_isWithin, Cond.initialized RX7, Cond.code yX7_isWithin cX7_isWithin 2 (some .boolean), Cond.methodLink RX7 200 yX5_isNothing, Cond.instanceMethod yX5_isNothing, Cond.selects RX5 yX5_isNothing yX5_isNothing, Cond.code yX5_isNothing cX5_isNothing 2 (some .boolean), Cond.fieldLink RX5 13 "StrokeBook$Sheets" "made" "[Z", Cond.methodLink RX7 212 yX7_scanPoint, Cond.instanceMethod yX7_scanPoint, Cond.selects RX7 yX7_scanPoint yX7_scanPoint, Cond.code yX7_scanPoint cX7_scanPoint 9 (some .int)]
def wsX7_scan_r2 : List Cond := [Cond.methodLink RX7 203 yX5_hasCells, Cond.instanceMethod yX5_hasCells, Cond.selects RX5 yX5_hasCells yX5_hasCells, Cond.code yX5_hasCells cX5_hasCells 4 (some .boolean), Cond.fieldLink RX5 17 "StrokeBook$Sheets" "sizes" "[I", Cond.methodLink RX7 218 yX5_cell, Cond.instanceMethod yX5_cell, Cond.selects RX5 yX5_cell yX5_cell, Cond.code yX5_cell cX5_cell 3 (some .int), Cond.fieldLink RX5 20 "StrokeBook$Sheets" "cells" "[I", Cond.methodLink RX7 69 yX2_add, Cond.instanceMethod yX2_add, Cond.selects RX2 yX2_add yX2_add, Cond.initialized RX2, Cond.code yX2_add cX2_add 4 (some .int), Cond.fieldLink RX2 28 "StrokeBook$Draft" "size" "I", Cond.fieldLink RX2 11 "StrokeBook$Draft" "xs" "[I", Cond.fieldLink RX2 15 "StrokeBook$Draft" "ys" "[I", Cond.fieldLink RX2 18 "StrokeBook$Draft" "liftedTo" "[Z", Cond.methodLink RX7 215 yX2_cutTo, Cond.instanceMethod yX2_cutTo, Cond.selects RX2 yX2_cutTo yX2_cutTo, Cond.code yX2_cutTo cX2_cutTo 2 none]
def wsX7_scan : List Cond := .code yX7_scan cX7_scan 8 (some .int) :: ((wsX7_scan_r1 ++ wsX7_scan_r2) ++ wsX70 ++ wsX50 ++ wsX20)
def wsX7_count : List Cond := .code yX7_count cX7_count 2 (some .int) :: ([.fieldLink RX7 10 "StrokeBook" "draft" "LStrokeBook$Draft;", .fieldLink RX7 211 "StrokeBook$Draft" "size" "I", .fieldLink RX7 19 "StrokeBook" "marks" "LStrokeBook$TaughtMarks;", .fieldLink RX7 98 "StrokeBook$TaughtMarks" "size" "I", .fieldLink RX7 40 "StrokeBook" "commands" "LStrokeBook$Commands;", .fieldLink RX7 161 "StrokeBook$Commands" "size" "I", .fieldLink RX7 47 "StrokeBook" "labels" "LStrokeBook$LabelLine;", .fieldLink RX7 186 "StrokeBook$LabelLine" "size" "I", .fieldLink RX7 26 "StrokeBook" "acts" "LStrokeBook$Acts;", .fieldLink RX7 132 "StrokeBook$Acts" "size" "I"] ++ wsX70 ++ wsX20 ++ wsX60 ++ wsX10 ++ wsX30 ++ wsX00)
def wsX8_init_r1 : List Cond := [Cond.methodLink RX8 1 objectInit, Cond.instanceMethod objectInit, Cond.code objectInit ⟨#[0xb1]⟩ 1 none, Cond.arrayClass .int, Cond.fieldLink RX8 7 "StrokeBookModel" "px" "[I", Cond.fieldLink RX8 13 "StrokeBookModel" "py" "[I", Cond.arrayClass .boolean, Cond.fieldLink RX8 16 "StrokeBookModel" "isLifted" "[Z", Cond.fieldLink RX8 20 "StrokeBookModel" "evens" "[I", Cond.fieldLink RX8 23 "StrokeBookModel" "norms" "[I", Cond.fieldLink RX8 26 "StrokeBookModel" "labels" "[I", Cond.fieldLink RX8 29 "StrokeBookModel" "kinds" "[I", Cond.fieldLink RX8 32 "StrokeBookModel" "marks" "[I", Cond.fieldLink RX8 35 "StrokeBookModel" "aSort" "[I", Cond.fieldLink RX8 38 "StrokeBookModel" "aWhich" "[I", Cond.fieldLink RX8 41 "StrokeBookModel" "aLabel" "[I", Cond.fieldLink RX8 44 "StrokeBookModel" "aKind" "[I", Cond.fieldLink RX8 47 "StrokeBookModel" "aMark" "[I", Cond.fieldLink RX8 50 "StrokeBookModel" "end" "I", Cond.fieldLink RX8 54 "StrokeBookModel" "held" "[I", Cond.fieldLink RX8 57 "StrokeBookModel" "leasts" "[I", Cond.fieldLink RX8 60 "StrokeBookModel" "line" "[I", Cond.fieldLink RX8 63 "StrokeBookModel" "cContext" "[I", Cond.fieldLink RX8 66 "StrokeBookModel" "cRank" "[I"]
def wsX8_init_r2 : List Cond := [Cond.fieldLink RX8 69 "StrokeBookModel" "cMany" "[I", Cond.fieldLink RX8 72 "StrokeBookModel" "cLabels" "[I", Cond.fieldLink RX8 75 "StrokeBookModel" "lanes" "[I", Cond.fieldLink RX8 78 "StrokeBookModel" "sizes" "[I", Cond.fieldLink RX8 81 "StrokeBookModel" "cells" "[I"]
def wsX8_init : List Cond := .code yX8_init cX8_init 2 none :: ((wsX8_init_r1 ++ wsX8_init_r2) ++ wsX80)
def wsX8_in : List Cond := .code yX8_in cX8_in 6 (some .boolean) :: ([])
def wsX8_down : List Cond := .code yX8_down cX8_down 6 (some .long) :: ([])
def wsX8_plain : List Cond := .code yX8_plain cX8_plain 1 (some .int) :: ([])
def wsX8_point : List Cond := .code yX8_point cX8_point 4 (some .int) :: ([.constantLong RX8 84 (-100), .constantLong RX8 86 (100), .fieldLink RX8 92 "StrokeBookModel" "points" "I", .fieldLink RX8 7 "StrokeBookModel" "px" "[I", .fieldLink RX8 13 "StrokeBookModel" "py" "[I", .fieldLink RX8 16 "StrokeBookModel" "isLifted" "[Z", .methodLink RX8 88 yX8_in, .static yX8_in, .initialized RX8, .code yX8_in cX8_in 6 (some .boolean)] ++ wsX80)
def wsX8_clear : List Cond := .code yX8_clear cX8_clear 2 (some .int) :: ([.fieldLink RX8 92 "StrokeBookModel" "points" "I"] ++ wsX80)
def wsX8_drawn : List Cond := .code yX8_drawn cX8_drawn 2 (some .int) :: ([.fieldLink RX8 16 "StrokeBookModel" "isLifted" "[Z", .fieldLink RX8 7 "StrokeBookModel" "px" "[I", .fieldLink RX8 13 "StrokeBookModel" "py" "[I", .methodLink RX8 95 yX8_plain, .static yX8_plain, .initialized RX8, .code yX8_plain cX8_plain 1 (some .int)] ++ wsX80)
def wsX8_way : List Cond := .code yX8_way cX8_way 3 (some .int) :: ([.fieldLink RX8 92 "StrokeBookModel" "points" "I", .methodLink RX8 99 yX8_drawn, .instanceMethod yX8_drawn, .selects RX8 yX8_drawn yX8_drawn, .initialized RX8, .code yX8_drawn cX8_drawn 2 (some .int), .fieldLink RX8 16 "StrokeBookModel" "isLifted" "[Z", .fieldLink RX8 7 "StrokeBookModel" "px" "[I", .fieldLink RX8 13 "StrokeBookModel" "py" "[I", .methodLink RX8 95 yX8_plain, .static yX8_plain, .code yX8_plain cX8_plain 1 (some .int)] ++ wsX80)
def wsX8_findEvens : List Cond := .code yX8_findEvens cX8_findEvens 8 none :: ([.constantLong RX8 86 (100), .fieldLink RX8 20 "StrokeBookModel" "evens" "[I", .fieldLink RX8 7 "StrokeBookModel" "px" "[I", .fieldLink RX8 13 "StrokeBookModel" "py" "[I", .methodLink RX8 102 yX8_way, .instanceMethod yX8_way, .selects RX8 yX8_way yX8_way, .initialized RX8, .code yX8_way cX8_way 3 (some .int), .fieldLink RX8 92 "StrokeBookModel" "points" "I", .methodLink RX8 99 yX8_drawn, .instanceMethod yX8_drawn, .selects RX8 yX8_drawn yX8_drawn, .code yX8_drawn cX8_drawn 2 (some .int), .fieldLink RX8 16 "StrokeBookModel" "isLifted" "[Z", .methodLink RX8 95 yX8_plain, .static yX8_plain, .code yX8_plain cX8_plain 1 (some .int), .methodLink RX8 106 yX8_down, .static yX8_down, .code yX8_down cX8_down 6 (some .long)] ++ wsX80)
def wsX8_findNorms_r1 : List Cond := [Cond.fieldLink RX8 20 "StrokeBookModel" "evens" "[I", Cond.constantLong RX8 113 (2), Cond.fieldLink RX8 23 "StrokeBookModel" "norms" "[I", Cond.constantLong RX8 115 (1000), Cond.methodLink RX8 110 yX8_findEvens, Cond.instanceMethod yX8_findEvens, Cond.selects RX8 yX8_findEvens yX8_findEvens, Cond.initialized RX8, Cond.code yX8_findEvens cX8_findEvens 8 none, Cond.constantLong RX8 86 (100), Cond.fieldLink RX8 7 "StrokeBookModel" "px" "[I", Cond.fieldLink RX8 13 "StrokeBookModel" "py" "[I", Cond.methodLink RX8 102 yX8_way, Cond.instanceMethod yX8_way, Cond.selects RX8 yX8_way yX8_way, Cond.code yX8_way cX8_way 3 (some .int), Cond.fieldLink RX8 92 "StrokeBookModel" "points" "I", Cond.methodLink RX8 99 yX8_drawn, Cond.instanceMethod yX8_drawn, Cond.selects RX8 yX8_drawn yX8_drawn, Cond.code yX8_drawn cX8_drawn 2 (some .int), Cond.fieldLink RX8 16 "StrokeBookModel" "isLifted" "[Z", Cond.methodLink RX8 95 yX8_plain, Cond.static yX8_plain]
def wsX8_findNorms_r2 : List Cond := [Cond.code yX8_plain cX8_plain 1 (some .int), Cond.methodLink RX8 106 yX8_down, Cond.static yX8_down, Cond.code yX8_down cX8_down 6 (some .long)]
def wsX8_findNorms : List Cond := .code yX8_findNorms cX8_findNorms 7 none :: ((wsX8_findNorms_r1 ++ wsX8_findNorms_r2) ++ wsX80)
def wsX8_even_r1 : List Cond := [Cond.constantLong RX8 117 (7), Cond.constant RX8 119 (1000000), Cond.fieldLink RX8 20 "StrokeBookModel" "evens" "[I", Cond.methodLink RX8 102 yX8_way, Cond.instanceMethod yX8_way, Cond.selects RX8 yX8_way yX8_way, Cond.initialized RX8, Cond.code yX8_way cX8_way 3 (some .int), Cond.fieldLink RX8 92 "StrokeBookModel" "points" "I", Cond.methodLink RX8 99 yX8_drawn, Cond.instanceMethod yX8_drawn, Cond.selects RX8 yX8_drawn yX8_drawn, Cond.code yX8_drawn cX8_drawn 2 (some .int), Cond.fieldLink RX8 16 "StrokeBookModel" "isLifted" "[Z", Cond.fieldLink RX8 7 "StrokeBookModel" "px" "[I", Cond.fieldLink RX8 13 "StrokeBookModel" "py" "[I", Cond.methodLink RX8 95 yX8_plain, Cond.static yX8_plain, Cond.code yX8_plain cX8_plain 1 (some .int), Cond.methodLink RX8 88 yX8_in, Cond.static yX8_in, Cond.code yX8_in cX8_in 6 (some .boolean), Cond.methodLink RX8 110 yX8_findEvens, Cond.instanceMethod yX8_findEvens]
def wsX8_even_r2 : List Cond := [Cond.selects RX8 yX8_findEvens yX8_findEvens, Cond.code yX8_findEvens cX8_findEvens 8 none, Cond.constantLong RX8 86 (100), Cond.methodLink RX8 106 yX8_down, Cond.static yX8_down, Cond.code yX8_down cX8_down 6 (some .long)]
def wsX8_even : List Cond := .code yX8_even cX8_even 3 (some .int) :: ((wsX8_even_r1 ++ wsX8_even_r2) ++ wsX80)
def wsX8_normal_r1 : List Cond := [Cond.constantLong RX8 117 (7), Cond.constant RX8 119 (1000000), Cond.fieldLink RX8 23 "StrokeBookModel" "norms" "[I", Cond.methodLink RX8 102 yX8_way, Cond.instanceMethod yX8_way, Cond.selects RX8 yX8_way yX8_way, Cond.initialized RX8, Cond.code yX8_way cX8_way 3 (some .int), Cond.fieldLink RX8 92 "StrokeBookModel" "points" "I", Cond.methodLink RX8 99 yX8_drawn, Cond.instanceMethod yX8_drawn, Cond.selects RX8 yX8_drawn yX8_drawn, Cond.code yX8_drawn cX8_drawn 2 (some .int), Cond.fieldLink RX8 16 "StrokeBookModel" "isLifted" "[Z", Cond.fieldLink RX8 7 "StrokeBookModel" "px" "[I", Cond.fieldLink RX8 13 "StrokeBookModel" "py" "[I", Cond.methodLink RX8 95 yX8_plain, Cond.static yX8_plain, Cond.code yX8_plain cX8_plain 1 (some .int), Cond.methodLink RX8 88 yX8_in, Cond.static yX8_in, Cond.code yX8_in cX8_in 6 (some .boolean), Cond.methodLink RX8 120 yX8_findNorms, Cond.instanceMethod yX8_findNorms]
def wsX8_normal_r2 : List Cond := [Cond.selects RX8 yX8_findNorms yX8_findNorms, Cond.code yX8_findNorms cX8_findNorms 7 none, Cond.fieldLink RX8 20 "StrokeBookModel" "evens" "[I", Cond.constantLong RX8 113 (2), Cond.constantLong RX8 115 (1000), Cond.methodLink RX8 110 yX8_findEvens, Cond.instanceMethod yX8_findEvens, Cond.selects RX8 yX8_findEvens yX8_findEvens, Cond.code yX8_findEvens cX8_findEvens 8 none, Cond.constantLong RX8 86 (100), Cond.methodLink RX8 106 yX8_down, Cond.static yX8_down, Cond.code yX8_down cX8_down 6 (some .long)]
def wsX8_normal : List Cond := .code yX8_normal cX8_normal 3 (some .int) :: ((wsX8_normal_r1 ++ wsX8_normal_r2) ++ wsX80)
def wsX8_isTaught : List Cond := .code yX8_isTaught cX8_isTaught 2 (some .boolean) :: ([.fieldLink RX8 123 "StrokeBookModel" "taught" "I", .methodLink RX8 88 yX8_in, .static yX8_in, .initialized RX8, .code yX8_in cX8_in 6 (some .boolean)] ++ wsX80)
def wsX8_keeps : List Cond := .code yX8_keeps cX8_keeps 5 none :: ([.fieldLink RX8 126 "StrokeBookModel" "acts" "I", .fieldLink RX8 35 "StrokeBookModel" "aSort" "[I", .fieldLink RX8 38 "StrokeBookModel" "aWhich" "[I", .fieldLink RX8 41 "StrokeBookModel" "aLabel" "[I", .fieldLink RX8 44 "StrokeBookModel" "aKind" "[I", .fieldLink RX8 47 "StrokeBookModel" "aMark" "[I", .fieldLink RX8 26 "StrokeBookModel" "labels" "[I", .fieldLink RX8 29 "StrokeBookModel" "kinds" "[I", .fieldLink RX8 32 "StrokeBookModel" "marks" "[I"] ++ wsX80)
def wsX8_moves : List Cond := .code yX8_moves cX8_moves 4 none :: ([.fieldLink RX8 26 "StrokeBookModel" "labels" "[I", .fieldLink RX8 29 "StrokeBookModel" "kinds" "[I", .fieldLink RX8 32 "StrokeBookModel" "marks" "[I"] ++ wsX80)
def wsX8_teach_r1 : List Cond := [Cond.constantLong RX8 129 (9), Cond.constantLong RX8 131 (4), Cond.fieldLink RX8 123 "StrokeBookModel" "taught" "I", Cond.fieldLink RX8 26 "StrokeBookModel" "labels" "[I", Cond.fieldLink RX8 29 "StrokeBookModel" "kinds" "[I", Cond.fieldLink RX8 32 "StrokeBookModel" "marks" "[I", Cond.fieldLink RX8 23 "StrokeBookModel" "norms" "[I", Cond.methodLink RX8 88 yX8_in, Cond.static yX8_in, Cond.initialized RX8, Cond.code yX8_in cX8_in 6 (some .boolean), Cond.methodLink RX8 102 yX8_way, Cond.instanceMethod yX8_way, Cond.selects RX8 yX8_way yX8_way, Cond.code yX8_way cX8_way 3 (some .int), Cond.fieldLink RX8 92 "StrokeBookModel" "points" "I", Cond.methodLink RX8 99 yX8_drawn, Cond.instanceMethod yX8_drawn, Cond.selects RX8 yX8_drawn yX8_drawn, Cond.code yX8_drawn cX8_drawn 2 (some .int), Cond.fieldLink RX8 16 "StrokeBookModel" "isLifted" "[Z", Cond.fieldLink RX8 7 "StrokeBookModel" "px" "[I", Cond.fieldLink RX8 13 "StrokeBookModel" "py" "[I", Cond.methodLink RX8 95 yX8_plain]
def wsX8_teach_r2 : List Cond := [Cond.static yX8_plain, Cond.code yX8_plain cX8_plain 1 (some .int), Cond.methodLink RX8 120 yX8_findNorms, Cond.instanceMethod yX8_findNorms, Cond.selects RX8 yX8_findNorms yX8_findNorms, Cond.code yX8_findNorms cX8_findNorms 7 none, Cond.fieldLink RX8 20 "StrokeBookModel" "evens" "[I", Cond.constantLong RX8 113 (2), Cond.constantLong RX8 115 (1000), Cond.methodLink RX8 110 yX8_findEvens, Cond.instanceMethod yX8_findEvens, Cond.selects RX8 yX8_findEvens yX8_findEvens, Cond.code yX8_findEvens cX8_findEvens 8 none, Cond.constantLong RX8 86 (100), Cond.methodLink RX8 106 yX8_down, Cond.static yX8_down, Cond.code yX8_down cX8_down 6 (some .long), Cond.methodLink RX8 133 yX8_keeps, Cond.instanceMethod yX8_keeps, Cond.selects RX8 yX8_keeps yX8_keeps, Cond.code yX8_keeps cX8_keeps 5 none, Cond.fieldLink RX8 126 "StrokeBookModel" "acts" "I", Cond.fieldLink RX8 35 "StrokeBookModel" "aSort" "[I", Cond.fieldLink RX8 38 "StrokeBookModel" "aWhich" "[I"]
def wsX8_teach_r3 : List Cond := [Cond.fieldLink RX8 41 "StrokeBookModel" "aLabel" "[I", Cond.fieldLink RX8 44 "StrokeBookModel" "aKind" "[I", Cond.fieldLink RX8 47 "StrokeBookModel" "aMark" "[I"]
def wsX8_teach : List Cond := .code yX8_teach cX8_teach 4 (some .int) :: ((wsX8_teach_r1 ++ (wsX8_teach_r2 ++ wsX8_teach_r3)) ++ wsX80)
def wsX8_goes : List Cond := .code yX8_goes cX8_goes 3 none :: ([.fieldLink RX8 123 "StrokeBookModel" "taught" "I", .methodLink RX8 137 yX8_moves, .instanceMethod yX8_moves, .selects RX8 yX8_moves yX8_moves, .initialized RX8, .code yX8_moves cX8_moves 4 none, .fieldLink RX8 26 "StrokeBookModel" "labels" "[I", .fieldLink RX8 29 "StrokeBookModel" "kinds" "[I", .fieldLink RX8 32 "StrokeBookModel" "marks" "[I"] ++ wsX80)
def wsX8_forget_r1 : List Cond := [Cond.fieldLink RX8 26 "StrokeBookModel" "labels" "[I", Cond.methodLink RX8 140 yX8_isTaught, Cond.instanceMethod yX8_isTaught, Cond.selects RX8 yX8_isTaught yX8_isTaught, Cond.initialized RX8, Cond.code yX8_isTaught cX8_isTaught 2 (some .boolean), Cond.fieldLink RX8 123 "StrokeBookModel" "taught" "I", Cond.methodLink RX8 88 yX8_in, Cond.static yX8_in, Cond.code yX8_in cX8_in 6 (some .boolean), Cond.methodLink RX8 133 yX8_keeps, Cond.instanceMethod yX8_keeps, Cond.selects RX8 yX8_keeps yX8_keeps, Cond.code yX8_keeps cX8_keeps 5 none, Cond.fieldLink RX8 126 "StrokeBookModel" "acts" "I", Cond.fieldLink RX8 35 "StrokeBookModel" "aSort" "[I", Cond.fieldLink RX8 38 "StrokeBookModel" "aWhich" "[I", Cond.fieldLink RX8 41 "StrokeBookModel" "aLabel" "[I", Cond.fieldLink RX8 44 "StrokeBookModel" "aKind" "[I", Cond.fieldLink RX8 47 "StrokeBookModel" "aMark" "[I", Cond.fieldLink RX8 29 "StrokeBookModel" "kinds" "[I", Cond.fieldLink RX8 32 "StrokeBookModel" "marks" "[I", Cond.methodLink RX8 144 yX8_goes, Cond.instanceMethod yX8_goes]
def wsX8_forget_r2 : List Cond := [Cond.selects RX8 yX8_goes yX8_goes, Cond.code yX8_goes cX8_goes 3 none, Cond.methodLink RX8 137 yX8_moves, Cond.instanceMethod yX8_moves, Cond.selects RX8 yX8_moves yX8_moves, Cond.code yX8_moves cX8_moves 4 none]
def wsX8_forget : List Cond := .code yX8_forget cX8_forget 3 (some .int) :: ((wsX8_forget_r1 ++ wsX8_forget_r2) ++ wsX80)
def wsX8_undo : List Cond := .code yX8_undo cX8_undo 3 (some .int) :: ([.fieldLink RX8 126 "StrokeBookModel" "acts" "I", .fieldLink RX8 38 "StrokeBookModel" "aWhich" "[I", .fieldLink RX8 35 "StrokeBookModel" "aSort" "[I", .fieldLink RX8 123 "StrokeBookModel" "taught" "I", .fieldLink RX8 26 "StrokeBookModel" "labels" "[I", .fieldLink RX8 41 "StrokeBookModel" "aLabel" "[I", .fieldLink RX8 29 "StrokeBookModel" "kinds" "[I", .fieldLink RX8 44 "StrokeBookModel" "aKind" "[I", .fieldLink RX8 32 "StrokeBookModel" "marks" "[I", .fieldLink RX8 47 "StrokeBookModel" "aMark" "[I", .methodLink RX8 144 yX8_goes, .instanceMethod yX8_goes, .selects RX8 yX8_goes yX8_goes, .initialized RX8, .code yX8_goes cX8_goes 3 none, .methodLink RX8 137 yX8_moves, .instanceMethod yX8_moves, .selects RX8 yX8_moves yX8_moves, .code yX8_moves cX8_moves 4 none] ++ wsX80)
def wsX8_label : List Cond := .code yX8_label cX8_label 4 (some .int) :: ([.constantLong RX8 129 (9), .fieldLink RX8 26 "StrokeBookModel" "labels" "[I", .methodLink RX8 140 yX8_isTaught, .instanceMethod yX8_isTaught, .selects RX8 yX8_isTaught yX8_isTaught, .initialized RX8, .code yX8_isTaught cX8_isTaught 2 (some .boolean), .fieldLink RX8 123 "StrokeBookModel" "taught" "I", .methodLink RX8 88 yX8_in, .static yX8_in, .code yX8_in cX8_in 6 (some .boolean), .methodLink RX8 133 yX8_keeps, .instanceMethod yX8_keeps, .selects RX8 yX8_keeps yX8_keeps, .code yX8_keeps cX8_keeps 5 none, .fieldLink RX8 126 "StrokeBookModel" "acts" "I", .fieldLink RX8 35 "StrokeBookModel" "aSort" "[I", .fieldLink RX8 38 "StrokeBookModel" "aWhich" "[I", .fieldLink RX8 41 "StrokeBookModel" "aLabel" "[I", .fieldLink RX8 44 "StrokeBookModel" "aKind" "[I", .fieldLink RX8 47 "StrokeBookModel" "aMark" "[I", .fieldLink RX8 29 "StrokeBookModel" "kinds" "[I", .fieldLink RX8 32 "StrokeBookModel" "marks" "[I"] ++ wsX80)
def wsX8_told : List Cond := .code yX8_told cX8_told 3 (some .int) :: ([.fieldLink RX8 26 "StrokeBookModel" "labels" "[I", .fieldLink RX8 29 "StrokeBookModel" "kinds" "[I", .methodLink RX8 140 yX8_isTaught, .instanceMethod yX8_isTaught, .selects RX8 yX8_isTaught yX8_isTaught, .initialized RX8, .code yX8_isTaught cX8_isTaught 2 (some .boolean), .fieldLink RX8 123 "StrokeBookModel" "taught" "I", .methodLink RX8 88 yX8_in, .static yX8_in, .code yX8_in cX8_in 6 (some .boolean)] ++ wsX80)
def wsX8_taught : List Cond := .code yX8_taught cX8_taught 4 (some .int) :: ([.constantLong RX8 117 (7), .fieldLink RX8 32 "StrokeBookModel" "marks" "[I", .constant RX8 119 (1000000), .methodLink RX8 140 yX8_isTaught, .instanceMethod yX8_isTaught, .selects RX8 yX8_isTaught yX8_isTaught, .initialized RX8, .code yX8_isTaught cX8_isTaught 2 (some .boolean), .fieldLink RX8 123 "StrokeBookModel" "taught" "I", .methodLink RX8 88 yX8_in, .static yX8_in, .code yX8_in cX8_in 6 (some .boolean)] ++ wsX80)
def wsX8_ends : List Cond := .code yX8_ends cX8_ends 3 (some .int) :: ([.constantLong RX8 148 (100000), .fieldLink RX8 50 "StrokeBookModel" "end" "I", .fieldLink RX8 150 "StrokeBookModel" "margin" "I", .methodLink RX8 88 yX8_in, .static yX8_in, .initialized RX8, .code yX8_in cX8_in 6 (some .boolean)] ++ wsX80)
def wsX8_turns : List Cond := .code yX8_turns cX8_turns 3 none :: ([.fieldLink RX8 54 "StrokeBookModel" "held" "[I"] ++ wsX80)
def wsX8_far : List Cond := .code yX8_far cX8_far 4 (some .int) :: ([.fieldLink RX8 54 "StrokeBookModel" "held" "[I", .fieldLink RX8 32 "StrokeBookModel" "marks" "[I", .methodLink RX8 95 yX8_plain, .static yX8_plain, .initialized RX8, .code yX8_plain cX8_plain 1 (some .int)] ++ wsX80)
def wsX8_straight : List Cond := .code yX8_straight cX8_straight 5 (some .int) :: ([.methodLink RX8 153 yX8_far, .instanceMethod yX8_far, .selects RX8 yX8_far yX8_far, .initialized RX8, .code yX8_far cX8_far 4 (some .int), .fieldLink RX8 54 "StrokeBookModel" "held" "[I", .fieldLink RX8 32 "StrokeBookModel" "marks" "[I", .methodLink RX8 95 yX8_plain, .static yX8_plain, .code yX8_plain cX8_plain 1 (some .int)] ++ wsX80)
def wsX8_cloud : List Cond := .code yX8_cloud cX8_cloud 7 (some .int) :: ([.fieldLink RX8 57 "StrokeBookModel" "leasts" "[I", .methodLink RX8 153 yX8_far, .instanceMethod yX8_far, .selects RX8 yX8_far yX8_far, .initialized RX8, .code yX8_far cX8_far 4 (some .int), .fieldLink RX8 54 "StrokeBookModel" "held" "[I", .fieldLink RX8 32 "StrokeBookModel" "marks" "[I", .methodLink RX8 95 yX8_plain, .static yX8_plain, .code yX8_plain cX8_plain 1 (some .int)] ++ wsX80)
def wsX8_distanceOf : List Cond := .code yX8_distanceOf cX8_distanceOf 6 (some .int) :: ([.fieldLink RX8 29 "StrokeBookModel" "kinds" "[I", .methodLink RX8 157 yX8_cloud, .instanceMethod yX8_cloud, .selects RX8 yX8_cloud yX8_cloud, .initialized RX8, .code yX8_cloud cX8_cloud 7 (some .int), .fieldLink RX8 57 "StrokeBookModel" "leasts" "[I", .methodLink RX8 153 yX8_far, .instanceMethod yX8_far, .selects RX8 yX8_far yX8_far, .code yX8_far cX8_far 4 (some .int), .fieldLink RX8 54 "StrokeBookModel" "held" "[I", .fieldLink RX8 32 "StrokeBookModel" "marks" "[I", .methodLink RX8 95 yX8_plain, .static yX8_plain, .code yX8_plain cX8_plain 1 (some .int), .methodLink RX8 160 yX8_straight, .instanceMethod yX8_straight, .selects RX8 yX8_straight yX8_straight, .code yX8_straight cX8_straight 5 (some .int), .methodLink RX8 164 yX8_turns, .instanceMethod yX8_turns, .selects RX8 yX8_turns yX8_turns, .code yX8_turns cX8_turns 3 none] ++ wsX80)
def wsX8_holdsDraft_r1 : List Cond := [Cond.fieldLink RX8 54 "StrokeBookModel" "held" "[I", Cond.fieldLink RX8 23 "StrokeBookModel" "norms" "[I", Cond.methodLink RX8 120 yX8_findNorms, Cond.instanceMethod yX8_findNorms, Cond.selects RX8 yX8_findNorms yX8_findNorms, Cond.initialized RX8, Cond.code yX8_findNorms cX8_findNorms 7 none, Cond.fieldLink RX8 20 "StrokeBookModel" "evens" "[I", Cond.constantLong RX8 113 (2), Cond.constantLong RX8 115 (1000), Cond.methodLink RX8 110 yX8_findEvens, Cond.instanceMethod yX8_findEvens, Cond.selects RX8 yX8_findEvens yX8_findEvens, Cond.code yX8_findEvens cX8_findEvens 8 none, Cond.constantLong RX8 86 (100), Cond.fieldLink RX8 7 "StrokeBookModel" "px" "[I", Cond.fieldLink RX8 13 "StrokeBookModel" "py" "[I", Cond.methodLink RX8 102 yX8_way, Cond.instanceMethod yX8_way, Cond.selects RX8 yX8_way yX8_way, Cond.code yX8_way cX8_way 3 (some .int), Cond.fieldLink RX8 92 "StrokeBookModel" "points" "I", Cond.methodLink RX8 99 yX8_drawn, Cond.instanceMethod yX8_drawn]
def wsX8_holdsDraft_r2 : List Cond := [Cond.selects RX8 yX8_drawn yX8_drawn, Cond.code yX8_drawn cX8_drawn 2 (some .int), Cond.fieldLink RX8 16 "StrokeBookModel" "isLifted" "[Z", Cond.methodLink RX8 95 yX8_plain, Cond.static yX8_plain, Cond.code yX8_plain cX8_plain 1 (some .int), Cond.methodLink RX8 106 yX8_down, Cond.static yX8_down, Cond.code yX8_down cX8_down 6 (some .long)]
def wsX8_holdsDraft : List Cond := .code yX8_holdsDraft cX8_holdsDraft 2 none :: ((wsX8_holdsDraft_r1 ++ wsX8_holdsDraft_r2) ++ wsX80)
def wsX8_distance_r1 : List Cond := [Cond.methodLink RX8 140 yX8_isTaught, Cond.instanceMethod yX8_isTaught, Cond.selects RX8 yX8_isTaught yX8_isTaught, Cond.initialized RX8, Cond.code yX8_isTaught cX8_isTaught 2 (some .boolean), Cond.fieldLink RX8 123 "StrokeBookModel" "taught" "I", Cond.methodLink RX8 88 yX8_in, Cond.static yX8_in, Cond.code yX8_in cX8_in 6 (some .boolean), Cond.methodLink RX8 102 yX8_way, Cond.instanceMethod yX8_way, Cond.selects RX8 yX8_way yX8_way, Cond.code yX8_way cX8_way 3 (some .int), Cond.fieldLink RX8 92 "StrokeBookModel" "points" "I", Cond.methodLink RX8 99 yX8_drawn, Cond.instanceMethod yX8_drawn, Cond.selects RX8 yX8_drawn yX8_drawn, Cond.code yX8_drawn cX8_drawn 2 (some .int), Cond.fieldLink RX8 16 "StrokeBookModel" "isLifted" "[Z", Cond.fieldLink RX8 7 "StrokeBookModel" "px" "[I", Cond.fieldLink RX8 13 "StrokeBookModel" "py" "[I", Cond.methodLink RX8 95 yX8_plain, Cond.static yX8_plain, Cond.code yX8_plain cX8_plain 1 (some .int)]
def wsX8_distance_r2 : List Cond := [Cond.methodLink RX8 167 yX8_holdsDraft, Cond.instanceMethod yX8_holdsDraft, Cond.selects RX8 yX8_holdsDraft yX8_holdsDraft, Cond.code yX8_holdsDraft cX8_holdsDraft 2 none, Cond.fieldLink RX8 54 "StrokeBookModel" "held" "[I", Cond.fieldLink RX8 23 "StrokeBookModel" "norms" "[I", Cond.methodLink RX8 120 yX8_findNorms, Cond.instanceMethod yX8_findNorms, Cond.selects RX8 yX8_findNorms yX8_findNorms, Cond.code yX8_findNorms cX8_findNorms 7 none, Cond.fieldLink RX8 20 "StrokeBookModel" "evens" "[I", Cond.constantLong RX8 113 (2), Cond.constantLong RX8 115 (1000), Cond.methodLink RX8 110 yX8_findEvens, Cond.instanceMethod yX8_findEvens, Cond.selects RX8 yX8_findEvens yX8_findEvens, Cond.code yX8_findEvens cX8_findEvens 8 none, Cond.constantLong RX8 86 (100), Cond.methodLink RX8 106 yX8_down, Cond.static yX8_down, Cond.code yX8_down cX8_down 6 (some .long), Cond.methodLink RX8 170 yX8_distanceOf, Cond.instanceMethod yX8_distanceOf, Cond.selects RX8 yX8_distanceOf yX8_distanceOf]
def wsX8_distance_r3 : List Cond := [Cond.code yX8_distanceOf cX8_distanceOf 6 (some .int), Cond.fieldLink RX8 29 "StrokeBookModel" "kinds" "[I", Cond.methodLink RX8 157 yX8_cloud, Cond.instanceMethod yX8_cloud, Cond.selects RX8 yX8_cloud yX8_cloud, Cond.code yX8_cloud cX8_cloud 7 (some .int), Cond.fieldLink RX8 57 "StrokeBookModel" "leasts" "[I", Cond.methodLink RX8 153 yX8_far, Cond.instanceMethod yX8_far, Cond.selects RX8 yX8_far yX8_far, Cond.code yX8_far cX8_far 4 (some .int), Cond.fieldLink RX8 32 "StrokeBookModel" "marks" "[I", Cond.methodLink RX8 160 yX8_straight, Cond.instanceMethod yX8_straight, Cond.selects RX8 yX8_straight yX8_straight, Cond.code yX8_straight cX8_straight 5 (some .int), Cond.methodLink RX8 164 yX8_turns, Cond.instanceMethod yX8_turns, Cond.selects RX8 yX8_turns yX8_turns, Cond.code yX8_turns cX8_turns 3 none]
def wsX8_distance : List Cond := .code yX8_distance cX8_distance 2 (some .int) :: ((wsX8_distance_r1 ++ (wsX8_distance_r2 ++ wsX8_distance_r3)) ++ wsX80)
def wsX8_nearest_r1 : List Cond := [Cond.fieldLink RX8 123 "StrokeBookModel" "taught" "I", Cond.methodLink RX8 102 yX8_way, Cond.instanceMethod yX8_way, Cond.selects RX8 yX8_way yX8_way, Cond.initialized RX8, Cond.code yX8_way cX8_way 3 (some .int), Cond.fieldLink RX8 92 "StrokeBookModel" "points" "I", Cond.methodLink RX8 99 yX8_drawn, Cond.instanceMethod yX8_drawn, Cond.selects RX8 yX8_drawn yX8_drawn, Cond.code yX8_drawn cX8_drawn 2 (some .int), Cond.fieldLink RX8 16 "StrokeBookModel" "isLifted" "[Z", Cond.fieldLink RX8 7 "StrokeBookModel" "px" "[I", Cond.fieldLink RX8 13 "StrokeBookModel" "py" "[I", Cond.methodLink RX8 95 yX8_plain, Cond.static yX8_plain, Cond.code yX8_plain cX8_plain 1 (some .int), Cond.methodLink RX8 167 yX8_holdsDraft, Cond.instanceMethod yX8_holdsDraft, Cond.selects RX8 yX8_holdsDraft yX8_holdsDraft, Cond.code yX8_holdsDraft cX8_holdsDraft 2 none, Cond.fieldLink RX8 54 "StrokeBookModel" "held" "[I", Cond.fieldLink RX8 23 "StrokeBookModel" "norms" "[I", Cond.methodLink RX8 120 yX8_findNorms]
def wsX8_nearest_r2 : List Cond := [Cond.instanceMethod yX8_findNorms, Cond.selects RX8 yX8_findNorms yX8_findNorms, Cond.code yX8_findNorms cX8_findNorms 7 none, Cond.fieldLink RX8 20 "StrokeBookModel" "evens" "[I", Cond.constantLong RX8 113 (2), Cond.constantLong RX8 115 (1000), Cond.methodLink RX8 110 yX8_findEvens, Cond.instanceMethod yX8_findEvens, Cond.selects RX8 yX8_findEvens yX8_findEvens, Cond.code yX8_findEvens cX8_findEvens 8 none, Cond.constantLong RX8 86 (100), Cond.methodLink RX8 106 yX8_down, Cond.static yX8_down, Cond.code yX8_down cX8_down 6 (some .long), Cond.methodLink RX8 170 yX8_distanceOf, Cond.instanceMethod yX8_distanceOf, Cond.selects RX8 yX8_distanceOf yX8_distanceOf, Cond.code yX8_distanceOf cX8_distanceOf 6 (some .int), Cond.fieldLink RX8 29 "StrokeBookModel" "kinds" "[I", Cond.methodLink RX8 157 yX8_cloud, Cond.instanceMethod yX8_cloud, Cond.selects RX8 yX8_cloud yX8_cloud, Cond.code yX8_cloud cX8_cloud 7 (some .int), Cond.fieldLink RX8 57 "StrokeBookModel" "leasts" "[I"]
def wsX8_nearest_r3 : List Cond := [Cond.methodLink RX8 153 yX8_far, Cond.instanceMethod yX8_far, Cond.selects RX8 yX8_far yX8_far, Cond.code yX8_far cX8_far 4 (some .int), Cond.fieldLink RX8 32 "StrokeBookModel" "marks" "[I", Cond.methodLink RX8 160 yX8_straight, Cond.instanceMethod yX8_straight, Cond.selects RX8 yX8_straight yX8_straight, Cond.code yX8_straight cX8_straight 5 (some .int), Cond.methodLink RX8 164 yX8_turns, Cond.instanceMethod yX8_turns, Cond.selects RX8 yX8_turns yX8_turns, Cond.code yX8_turns cX8_turns 3 none]
def wsX8_nearest : List Cond := .code yX8_nearest cX8_nearest 5 (some .int) :: ((wsX8_nearest_r1 ++ (wsX8_nearest_r2 ++ wsX8_nearest_r3)) ++ wsX80)
def wsX8_read_r1 : List Cond := [Cond.fieldLink RX8 50 "StrokeBookModel" "end" "I", Cond.fieldLink RX8 123 "StrokeBookModel" "taught" "I", Cond.fieldLink RX8 26 "StrokeBookModel" "labels" "[I", Cond.fieldLink RX8 150 "StrokeBookModel" "margin" "I", Cond.methodLink RX8 173 yX8_nearest, Cond.instanceMethod yX8_nearest, Cond.selects RX8 yX8_nearest yX8_nearest, Cond.initialized RX8, Cond.code yX8_nearest cX8_nearest 5 (some .int), Cond.methodLink RX8 102 yX8_way, Cond.instanceMethod yX8_way, Cond.selects RX8 yX8_way yX8_way, Cond.code yX8_way cX8_way 3 (some .int), Cond.fieldLink RX8 92 "StrokeBookModel" "points" "I", Cond.methodLink RX8 99 yX8_drawn, Cond.instanceMethod yX8_drawn, Cond.selects RX8 yX8_drawn yX8_drawn, Cond.code yX8_drawn cX8_drawn 2 (some .int), Cond.fieldLink RX8 16 "StrokeBookModel" "isLifted" "[Z", Cond.fieldLink RX8 7 "StrokeBookModel" "px" "[I", Cond.fieldLink RX8 13 "StrokeBookModel" "py" "[I", Cond.methodLink RX8 95 yX8_plain, Cond.static yX8_plain, Cond.code yX8_plain cX8_plain 1 (some .int)]
def wsX8_read_r2 : List Cond := [Cond.methodLink RX8 167 yX8_holdsDraft, Cond.instanceMethod yX8_holdsDraft, Cond.selects RX8 yX8_holdsDraft yX8_holdsDraft, Cond.code yX8_holdsDraft cX8_holdsDraft 2 none, Cond.fieldLink RX8 54 "StrokeBookModel" "held" "[I", Cond.fieldLink RX8 23 "StrokeBookModel" "norms" "[I", Cond.methodLink RX8 120 yX8_findNorms, Cond.instanceMethod yX8_findNorms, Cond.selects RX8 yX8_findNorms yX8_findNorms, Cond.code yX8_findNorms cX8_findNorms 7 none, Cond.fieldLink RX8 20 "StrokeBookModel" "evens" "[I", Cond.constantLong RX8 113 (2), Cond.constantLong RX8 115 (1000), Cond.methodLink RX8 110 yX8_findEvens, Cond.instanceMethod yX8_findEvens, Cond.selects RX8 yX8_findEvens yX8_findEvens, Cond.code yX8_findEvens cX8_findEvens 8 none, Cond.constantLong RX8 86 (100), Cond.methodLink RX8 106 yX8_down, Cond.static yX8_down, Cond.code yX8_down cX8_down 6 (some .long), Cond.methodLink RX8 170 yX8_distanceOf, Cond.instanceMethod yX8_distanceOf, Cond.selects RX8 yX8_distanceOf yX8_distanceOf]
def wsX8_read_r3 : List Cond := [Cond.code yX8_distanceOf cX8_distanceOf 6 (some .int), Cond.fieldLink RX8 29 "StrokeBookModel" "kinds" "[I", Cond.methodLink RX8 157 yX8_cloud, Cond.instanceMethod yX8_cloud, Cond.selects RX8 yX8_cloud yX8_cloud, Cond.code yX8_cloud cX8_cloud 7 (some .int), Cond.fieldLink RX8 57 "StrokeBookModel" "leasts" "[I", Cond.methodLink RX8 153 yX8_far, Cond.instanceMethod yX8_far, Cond.selects RX8 yX8_far yX8_far, Cond.code yX8_far cX8_far 4 (some .int), Cond.fieldLink RX8 32 "StrokeBookModel" "marks" "[I", Cond.methodLink RX8 160 yX8_straight, Cond.instanceMethod yX8_straight, Cond.selects RX8 yX8_straight yX8_straight, Cond.code yX8_straight cX8_straight 5 (some .int), Cond.methodLink RX8 164 yX8_turns, Cond.instanceMethod yX8_turns, Cond.selects RX8 yX8_turns yX8_turns, Cond.code yX8_turns cX8_turns 3 none]
def wsX8_read : List Cond := .code yX8_read cX8_read 5 (some .int) :: ((wsX8_read_r1 ++ (wsX8_read_r2 ++ wsX8_read_r3)) ++ wsX80)
def wsX8_mark_r1 : List Cond := [Cond.fieldLink RX8 179 "StrokeBookModel" "lineMany" "I", Cond.fieldLink RX8 60 "StrokeBookModel" "line" "[I", Cond.fieldLink RX8 92 "StrokeBookModel" "points" "I", Cond.methodLink RX8 176 yX8_read, Cond.instanceMethod yX8_read, Cond.selects RX8 yX8_read yX8_read, Cond.initialized RX8, Cond.code yX8_read cX8_read 5 (some .int), Cond.fieldLink RX8 50 "StrokeBookModel" "end" "I", Cond.fieldLink RX8 123 "StrokeBookModel" "taught" "I", Cond.fieldLink RX8 26 "StrokeBookModel" "labels" "[I", Cond.fieldLink RX8 150 "StrokeBookModel" "margin" "I", Cond.methodLink RX8 173 yX8_nearest, Cond.instanceMethod yX8_nearest, Cond.selects RX8 yX8_nearest yX8_nearest, Cond.code yX8_nearest cX8_nearest 5 (some .int), Cond.methodLink RX8 102 yX8_way, Cond.instanceMethod yX8_way, Cond.selects RX8 yX8_way yX8_way, Cond.code yX8_way cX8_way 3 (some .int), Cond.methodLink RX8 99 yX8_drawn, Cond.instanceMethod yX8_drawn, Cond.selects RX8 yX8_drawn yX8_drawn, Cond.code yX8_drawn cX8_drawn 2 (some .int)]
def wsX8_mark_r2 : List Cond := [Cond.fieldLink RX8 16 "StrokeBookModel" "isLifted" "[Z", Cond.fieldLink RX8 7 "StrokeBookModel" "px" "[I", Cond.fieldLink RX8 13 "StrokeBookModel" "py" "[I", Cond.methodLink RX8 95 yX8_plain, Cond.static yX8_plain, Cond.code yX8_plain cX8_plain 1 (some .int), Cond.methodLink RX8 167 yX8_holdsDraft, Cond.instanceMethod yX8_holdsDraft, Cond.selects RX8 yX8_holdsDraft yX8_holdsDraft, Cond.code yX8_holdsDraft cX8_holdsDraft 2 none, Cond.fieldLink RX8 54 "StrokeBookModel" "held" "[I", Cond.fieldLink RX8 23 "StrokeBookModel" "norms" "[I", Cond.methodLink RX8 120 yX8_findNorms, Cond.instanceMethod yX8_findNorms, Cond.selects RX8 yX8_findNorms yX8_findNorms, Cond.code yX8_findNorms cX8_findNorms 7 none, Cond.fieldLink RX8 20 "StrokeBookModel" "evens" "[I", Cond.constantLong RX8 113 (2), Cond.constantLong RX8 115 (1000), Cond.methodLink RX8 110 yX8_findEvens, Cond.instanceMethod yX8_findEvens, Cond.selects RX8 yX8_findEvens yX8_findEvens, Cond.code yX8_findEvens cX8_findEvens 8 none, Cond.constantLong RX8 86 (100)]
def wsX8_mark_r3 : List Cond := [Cond.methodLink RX8 106 yX8_down, Cond.static yX8_down, Cond.code yX8_down cX8_down 6 (some .long), Cond.methodLink RX8 170 yX8_distanceOf, Cond.instanceMethod yX8_distanceOf, Cond.selects RX8 yX8_distanceOf yX8_distanceOf, Cond.code yX8_distanceOf cX8_distanceOf 6 (some .int), Cond.fieldLink RX8 29 "StrokeBookModel" "kinds" "[I", Cond.methodLink RX8 157 yX8_cloud, Cond.instanceMethod yX8_cloud, Cond.selects RX8 yX8_cloud yX8_cloud, Cond.code yX8_cloud cX8_cloud 7 (some .int), Cond.fieldLink RX8 57 "StrokeBookModel" "leasts" "[I", Cond.methodLink RX8 153 yX8_far, Cond.instanceMethod yX8_far, Cond.selects RX8 yX8_far yX8_far, Cond.code yX8_far cX8_far 4 (some .int), Cond.fieldLink RX8 32 "StrokeBookModel" "marks" "[I", Cond.methodLink RX8 160 yX8_straight, Cond.instanceMethod yX8_straight, Cond.selects RX8 yX8_straight yX8_straight, Cond.code yX8_straight cX8_straight 5 (some .int), Cond.methodLink RX8 164 yX8_turns, Cond.instanceMethod yX8_turns]
def wsX8_mark_r4 : List Cond := [Cond.selects RX8 yX8_turns yX8_turns, Cond.code yX8_turns cX8_turns 3 none]
def wsX8_mark : List Cond := .code yX8_mark cX8_mark 2 (some .int) :: ((wsX8_mark_r1 ++ (wsX8_mark_r2 ++ (wsX8_mark_r3 ++ wsX8_mark_r4))) ++ wsX80)
def wsX8_betweenOf_r1 : List Cond := [Cond.fieldLink RX8 54 "StrokeBookModel" "held" "[I", Cond.fieldLink RX8 32 "StrokeBookModel" "marks" "[I", Cond.methodLink RX8 170 yX8_distanceOf, Cond.instanceMethod yX8_distanceOf, Cond.selects RX8 yX8_distanceOf yX8_distanceOf, Cond.initialized RX8, Cond.code yX8_distanceOf cX8_distanceOf 6 (some .int), Cond.fieldLink RX8 29 "StrokeBookModel" "kinds" "[I", Cond.methodLink RX8 157 yX8_cloud, Cond.instanceMethod yX8_cloud, Cond.selects RX8 yX8_cloud yX8_cloud, Cond.code yX8_cloud cX8_cloud 7 (some .int), Cond.fieldLink RX8 57 "StrokeBookModel" "leasts" "[I", Cond.methodLink RX8 153 yX8_far, Cond.instanceMethod yX8_far, Cond.selects RX8 yX8_far yX8_far, Cond.code yX8_far cX8_far 4 (some .int), Cond.methodLink RX8 95 yX8_plain, Cond.static yX8_plain, Cond.code yX8_plain cX8_plain 1 (some .int), Cond.methodLink RX8 160 yX8_straight, Cond.instanceMethod yX8_straight, Cond.selects RX8 yX8_straight yX8_straight, Cond.code yX8_straight cX8_straight 5 (some .int)]
def wsX8_betweenOf_r2 : List Cond := [Cond.methodLink RX8 164 yX8_turns, Cond.instanceMethod yX8_turns, Cond.selects RX8 yX8_turns yX8_turns, Cond.code yX8_turns cX8_turns 3 none]
def wsX8_betweenOf : List Cond := .code yX8_betweenOf cX8_betweenOf 4 (some .int) :: ((wsX8_betweenOf_r1 ++ wsX8_betweenOf_r2) ++ wsX80)
def wsX8_confused_r1 : List Cond := [Cond.constantLong RX8 129 (9), Cond.constantLong RX8 148 (100000), Cond.fieldLink RX8 123 "StrokeBookModel" "taught" "I", Cond.fieldLink RX8 26 "StrokeBookModel" "labels" "[I", Cond.methodLink RX8 88 yX8_in, Cond.static yX8_in, Cond.initialized RX8, Cond.code yX8_in cX8_in 6 (some .boolean), Cond.methodLink RX8 182 yX8_betweenOf, Cond.instanceMethod yX8_betweenOf, Cond.selects RX8 yX8_betweenOf yX8_betweenOf, Cond.code yX8_betweenOf cX8_betweenOf 4 (some .int), Cond.fieldLink RX8 54 "StrokeBookModel" "held" "[I", Cond.fieldLink RX8 32 "StrokeBookModel" "marks" "[I", Cond.methodLink RX8 170 yX8_distanceOf, Cond.instanceMethod yX8_distanceOf, Cond.selects RX8 yX8_distanceOf yX8_distanceOf, Cond.code yX8_distanceOf cX8_distanceOf 6 (some .int), Cond.fieldLink RX8 29 "StrokeBookModel" "kinds" "[I", Cond.methodLink RX8 157 yX8_cloud, Cond.instanceMethod yX8_cloud, Cond.selects RX8 yX8_cloud yX8_cloud, Cond.code yX8_cloud cX8_cloud 7 (some .int), Cond.fieldLink RX8 57 "StrokeBookModel" "leasts" "[I"]
def wsX8_confused_r2 : List Cond := [Cond.methodLink RX8 153 yX8_far, Cond.instanceMethod yX8_far, Cond.selects RX8 yX8_far yX8_far, Cond.code yX8_far cX8_far 4 (some .int), Cond.methodLink RX8 95 yX8_plain, Cond.static yX8_plain, Cond.code yX8_plain cX8_plain 1 (some .int), Cond.methodLink RX8 160 yX8_straight, Cond.instanceMethod yX8_straight, Cond.selects RX8 yX8_straight yX8_straight, Cond.code yX8_straight cX8_straight 5 (some .int), Cond.methodLink RX8 164 yX8_turns, Cond.instanceMethod yX8_turns, Cond.selects RX8 yX8_turns yX8_turns, Cond.code yX8_turns cX8_turns 3 none]
def wsX8_confused : List Cond := .code yX8_confused cX8_confused 7 (some .int) :: ((wsX8_confused_r1 ++ wsX8_confused_r2) ++ wsX80)
def wsX8_between_r1 : List Cond := [Cond.methodLink RX8 140 yX8_isTaught, Cond.instanceMethod yX8_isTaught, Cond.selects RX8 yX8_isTaught yX8_isTaught, Cond.initialized RX8, Cond.code yX8_isTaught cX8_isTaught 2 (some .boolean), Cond.fieldLink RX8 123 "StrokeBookModel" "taught" "I", Cond.methodLink RX8 88 yX8_in, Cond.static yX8_in, Cond.code yX8_in cX8_in 6 (some .boolean), Cond.methodLink RX8 182 yX8_betweenOf, Cond.instanceMethod yX8_betweenOf, Cond.selects RX8 yX8_betweenOf yX8_betweenOf, Cond.code yX8_betweenOf cX8_betweenOf 4 (some .int), Cond.fieldLink RX8 54 "StrokeBookModel" "held" "[I", Cond.fieldLink RX8 32 "StrokeBookModel" "marks" "[I", Cond.methodLink RX8 170 yX8_distanceOf, Cond.instanceMethod yX8_distanceOf, Cond.selects RX8 yX8_distanceOf yX8_distanceOf, Cond.code yX8_distanceOf cX8_distanceOf 6 (some .int), Cond.fieldLink RX8 29 "StrokeBookModel" "kinds" "[I", Cond.methodLink RX8 157 yX8_cloud, Cond.instanceMethod yX8_cloud, Cond.selects RX8 yX8_cloud yX8_cloud, Cond.code yX8_cloud cX8_cloud 7 (some .int)]
def wsX8_between_r2 : List Cond := [Cond.fieldLink RX8 57 "StrokeBookModel" "leasts" "[I", Cond.methodLink RX8 153 yX8_far, Cond.instanceMethod yX8_far, Cond.selects RX8 yX8_far yX8_far, Cond.code yX8_far cX8_far 4 (some .int), Cond.methodLink RX8 95 yX8_plain, Cond.static yX8_plain, Cond.code yX8_plain cX8_plain 1 (some .int), Cond.methodLink RX8 160 yX8_straight, Cond.instanceMethod yX8_straight, Cond.selects RX8 yX8_straight yX8_straight, Cond.code yX8_straight cX8_straight 5 (some .int), Cond.methodLink RX8 164 yX8_turns, Cond.instanceMethod yX8_turns, Cond.selects RX8 yX8_turns yX8_turns, Cond.code yX8_turns cX8_turns 3 none]
def wsX8_between : List Cond := .code yX8_between cX8_between 3 (some .int) :: ((wsX8_between_r1 ++ wsX8_between_r2) ++ wsX80)
def wsX8_command : List Cond := .code yX8_command cX8_command 8 (some .int) :: ([.constantLong RX8 186 (3), .constantLong RX8 129 (9), .constantLong RX8 131 (4), .fieldLink RX8 188 "StrokeBookModel" "commands" "I", .fieldLink RX8 63 "StrokeBookModel" "cContext" "[I", .fieldLink RX8 66 "StrokeBookModel" "cRank" "[I", .fieldLink RX8 69 "StrokeBookModel" "cMany" "[I", .fieldLink RX8 72 "StrokeBookModel" "cLabels" "[I", .methodLink RX8 88 yX8_in, .static yX8_in, .initialized RX8, .code yX8_in cX8_in 6 (some .boolean)] ++ wsX80)
def wsX8_stands : List Cond := .code yX8_stands cX8_stands 5 (some .boolean) :: ([.fieldLink RX8 69 "StrokeBookModel" "cMany" "[I", .fieldLink RX8 179 "StrokeBookModel" "lineMany" "I", .fieldLink RX8 60 "StrokeBookModel" "line" "[I", .fieldLink RX8 72 "StrokeBookModel" "cLabels" "[I"] ++ wsX80)
def wsX8_commandAt : List Cond := .code yX8_commandAt cX8_commandAt 5 (some .int) :: ([.fieldLink RX8 188 "StrokeBookModel" "commands" "I", .fieldLink RX8 63 "StrokeBookModel" "cContext" "[I", .fieldLink RX8 69 "StrokeBookModel" "cMany" "[I", .fieldLink RX8 66 "StrokeBookModel" "cRank" "[I", .methodLink RX8 191 yX8_stands, .instanceMethod yX8_stands, .selects RX8 yX8_stands yX8_stands, .initialized RX8, .code yX8_stands cX8_stands 5 (some .boolean), .fieldLink RX8 179 "StrokeBookModel" "lineMany" "I", .fieldLink RX8 60 "StrokeBookModel" "line" "[I", .fieldLink RX8 72 "StrokeBookModel" "cLabels" "[I"] ++ wsX80)
def wsX8_parsed : List Cond := .code yX8_parsed cX8_parsed 6 (some .int) :: ([.fieldLink RX8 195 "StrokeBookModel" "wantedCommand" "I", .fieldLink RX8 198 "StrokeBookModel" "wantedPlace" "I", .fieldLink RX8 179 "StrokeBookModel" "lineMany" "I", .fieldLink RX8 69 "StrokeBookModel" "cMany" "[I", .methodLink RX8 201 yX8_commandAt, .instanceMethod yX8_commandAt, .selects RX8 yX8_commandAt yX8_commandAt, .initialized RX8, .code yX8_commandAt cX8_commandAt 5 (some .int), .fieldLink RX8 188 "StrokeBookModel" "commands" "I", .fieldLink RX8 63 "StrokeBookModel" "cContext" "[I", .fieldLink RX8 66 "StrokeBookModel" "cRank" "[I", .methodLink RX8 191 yX8_stands, .instanceMethod yX8_stands, .selects RX8 yX8_stands yX8_stands, .code yX8_stands cX8_stands 5 (some .boolean), .fieldLink RX8 60 "StrokeBookModel" "line" "[I", .fieldLink RX8 72 "StrokeBookModel" "cLabels" "[I"] ++ wsX80)
def wsX8_parse_r1 : List Cond := [Cond.constantLong RX8 186 (3), Cond.methodLink RX8 88 yX8_in, Cond.static yX8_in, Cond.initialized RX8, Cond.code yX8_in cX8_in 6 (some .boolean), Cond.methodLink RX8 204 yX8_parsed, Cond.instanceMethod yX8_parsed, Cond.selects RX8 yX8_parsed yX8_parsed, Cond.code yX8_parsed cX8_parsed 6 (some .int), Cond.fieldLink RX8 195 "StrokeBookModel" "wantedCommand" "I", Cond.fieldLink RX8 198 "StrokeBookModel" "wantedPlace" "I", Cond.fieldLink RX8 179 "StrokeBookModel" "lineMany" "I", Cond.fieldLink RX8 69 "StrokeBookModel" "cMany" "[I", Cond.methodLink RX8 201 yX8_commandAt, Cond.instanceMethod yX8_commandAt, Cond.selects RX8 yX8_commandAt yX8_commandAt, Cond.code yX8_commandAt cX8_commandAt 5 (some .int), Cond.fieldLink RX8 188 "StrokeBookModel" "commands" "I", Cond.fieldLink RX8 63 "StrokeBookModel" "cContext" "[I", Cond.fieldLink RX8 66 "StrokeBookModel" "cRank" "[I", Cond.methodLink RX8 191 yX8_stands, Cond.instanceMethod yX8_stands, Cond.selects RX8 yX8_stands yX8_stands, Cond.code yX8_stands cX8_stands 5 (some .boolean)]
def wsX8_parse_r2 : List Cond := [Cond.fieldLink RX8 60 "StrokeBookModel" "line" "[I", Cond.fieldLink RX8 72 "StrokeBookModel" "cLabels" "[I"]
def wsX8_parse : List Cond := .code yX8_parse cX8_parse 2 (some .int) :: ((wsX8_parse_r1 ++ wsX8_parse_r2) ++ wsX80)
def wsX8_found_r1 : List Cond := [Cond.constantLong RX8 186 (3), Cond.fieldLink RX8 195 "StrokeBookModel" "wantedCommand" "I", Cond.fieldLink RX8 198 "StrokeBookModel" "wantedPlace" "I", Cond.methodLink RX8 88 yX8_in, Cond.static yX8_in, Cond.initialized RX8, Cond.code yX8_in cX8_in 6 (some .boolean), Cond.methodLink RX8 204 yX8_parsed, Cond.instanceMethod yX8_parsed, Cond.selects RX8 yX8_parsed yX8_parsed, Cond.code yX8_parsed cX8_parsed 6 (some .int), Cond.fieldLink RX8 179 "StrokeBookModel" "lineMany" "I", Cond.fieldLink RX8 69 "StrokeBookModel" "cMany" "[I", Cond.methodLink RX8 201 yX8_commandAt, Cond.instanceMethod yX8_commandAt, Cond.selects RX8 yX8_commandAt yX8_commandAt, Cond.code yX8_commandAt cX8_commandAt 5 (some .int), Cond.fieldLink RX8 188 "StrokeBookModel" "commands" "I", Cond.fieldLink RX8 63 "StrokeBookModel" "cContext" "[I", Cond.fieldLink RX8 66 "StrokeBookModel" "cRank" "[I", Cond.methodLink RX8 191 yX8_stands, Cond.instanceMethod yX8_stands, Cond.selects RX8 yX8_stands yX8_stands, Cond.code yX8_stands cX8_stands 5 (some .boolean)]
def wsX8_found_r2 : List Cond := [Cond.fieldLink RX8 60 "StrokeBookModel" "line" "[I", Cond.fieldLink RX8 72 "StrokeBookModel" "cLabels" "[I"]
def wsX8_found : List Cond := .code yX8_found cX8_found 4 (some .int) :: ((wsX8_found_r1 ++ wsX8_found_r2) ++ wsX80)
def wsX8_isHidden : List Cond := .code yX8_isHidden cX8_isHidden 5 (some .boolean) :: ([.fieldLink RX8 69 "StrokeBookModel" "cMany" "[I", .fieldLink RX8 63 "StrokeBookModel" "cContext" "[I", .fieldLink RX8 72 "StrokeBookModel" "cLabels" "[I", .fieldLink RX8 66 "StrokeBookModel" "cRank" "[I"] ++ wsX80)
def wsX8_hidden : List Cond := .code yX8_hidden cX8_hidden 3 (some .int) :: ([.fieldLink RX8 188 "StrokeBookModel" "commands" "I", .methodLink RX8 207 yX8_isHidden, .instanceMethod yX8_isHidden, .selects RX8 yX8_isHidden yX8_isHidden, .initialized RX8, .code yX8_isHidden cX8_isHidden 5 (some .boolean), .fieldLink RX8 69 "StrokeBookModel" "cMany" "[I", .fieldLink RX8 63 "StrokeBookModel" "cContext" "[I", .fieldLink RX8 72 "StrokeBookModel" "cLabels" "[I", .fieldLink RX8 66 "StrokeBookModel" "cRank" "[I"] ++ wsX80)
def wsX8_line : List Cond := .code yX8_line cX8_line 2 (some .int) :: ([.fieldLink RX8 179 "StrokeBookModel" "lineMany" "I", .fieldLink RX8 60 "StrokeBookModel" "line" "[I", .methodLink RX8 88 yX8_in, .static yX8_in, .initialized RX8, .code yX8_in cX8_in 6 (some .boolean)] ++ wsX80)
def wsX8_wipe : List Cond := .code yX8_wipe cX8_wipe 2 (some .int) :: ([.fieldLink RX8 179 "StrokeBookModel" "lineMany" "I"] ++ wsX80)
def wsX8_isSheet : List Cond := .code yX8_isSheet cX8_isSheet 2 (some .boolean) :: ([.constantLong RX8 186 (3), .constantLong RX8 113 (2), .methodLink RX8 88 yX8_in, .static yX8_in, .initialized RX8, .code yX8_in cX8_in 6 (some .boolean)])
def wsX8_sheet : List Cond := .code yX8_sheet cX8_sheet 5 (some .int) :: ([.fieldLink RX8 75 "StrokeBookModel" "lanes" "[I", .fieldLink RX8 78 "StrokeBookModel" "sizes" "[I", .fieldLink RX8 81 "StrokeBookModel" "cells" "[I", .methodLink RX8 210 yX8_isSheet, .static yX8_isSheet, .initialized RX8, .code yX8_isSheet cX8_isSheet 2 (some .boolean), .constantLong RX8 186 (3), .constantLong RX8 113 (2), .methodLink RX8 88 yX8_in, .static yX8_in, .code yX8_in cX8_in 6 (some .boolean)] ++ wsX80)
def wsX8_lay : List Cond := .code yX8_lay cX8_lay 4 (some .int) :: ([.fieldLink RX8 75 "StrokeBookModel" "lanes" "[I", .fieldLink RX8 78 "StrokeBookModel" "sizes" "[I", .fieldLink RX8 81 "StrokeBookModel" "cells" "[I", .methodLink RX8 210 yX8_isSheet, .static yX8_isSheet, .initialized RX8, .code yX8_isSheet cX8_isSheet 2 (some .boolean), .constantLong RX8 186 (3), .constantLong RX8 113 (2), .methodLink RX8 88 yX8_in, .static yX8_in, .code yX8_in cX8_in 6 (some .boolean)] ++ wsX80)
def wsX8_scan : List Cond := .code yX8_scan cX8_scan 12 (some .int) :: ([.constantLong RX8 213 (20), .fieldLink RX8 75 "StrokeBookModel" "lanes" "[I", .fieldLink RX8 92 "StrokeBookModel" "points" "I", .constantLong RX8 186 (3), .fieldLink RX8 78 "StrokeBookModel" "sizes" "[I", .fieldLink RX8 81 "StrokeBookModel" "cells" "[I", .methodLink RX8 210 yX8_isSheet, .static yX8_isSheet, .initialized RX8, .code yX8_isSheet cX8_isSheet 2 (some .boolean), .constantLong RX8 113 (2), .methodLink RX8 88 yX8_in, .static yX8_in, .code yX8_in cX8_in 6 (some .boolean), .methodLink RX8 215 yX8_point, .instanceMethod yX8_point, .selects RX8 yX8_point yX8_point, .code yX8_point cX8_point 4 (some .int), .constantLong RX8 84 (-100), .constantLong RX8 86 (100), .fieldLink RX8 7 "StrokeBookModel" "px" "[I", .fieldLink RX8 13 "StrokeBookModel" "py" "[I", .fieldLink RX8 16 "StrokeBookModel" "isLifted" "[Z"] ++ wsX80)
def wsX8_count : List Cond := .code yX8_count cX8_count 2 (some .int) :: ([.fieldLink RX8 92 "StrokeBookModel" "points" "I", .fieldLink RX8 123 "StrokeBookModel" "taught" "I", .fieldLink RX8 188 "StrokeBookModel" "commands" "I", .fieldLink RX8 179 "StrokeBookModel" "lineMany" "I", .fieldLink RX8 126 "StrokeBookModel" "acts" "I"] ++ wsX80)
def wsJ9_abs_0f7a4 : List Cond := .code yJ9_abs_0f7a4 cJ9_abs_0f7a4 1 (some .int) :: ([])
def wsJ9_max_7cf53 : List Cond := .code yJ9_max_7cf53 cJ9_max_7cf53 2 (some .int) :: ([])
def wsJ9_min_7cf53 : List Cond := .code yJ9_min_7cf53 cJ9_min_7cf53 2 (some .int) :: ([])
def wsL_law_r1 : List Cond := [Cond.classLink RL 7 RX7, Cond.instantiable RX7 10, Cond.initialized RX7, Cond.classLink RL 10 RX8, Cond.instantiable RX8 32, Cond.initialized RX8, Cond.methodLink RL 9 yX7_init, Cond.instanceMethod yX7_init, Cond.code yX7_init cX7_init 1 none, Cond.methodLink RX7 1 objectInit, Cond.instanceMethod objectInit, Cond.code objectInit ⟨#[0xb1]⟩ 1 none, Cond.classLink RX7 7 RX2, Cond.instantiable RX2 6, Cond.initialized RX2, Cond.fieldLink RX7 10 "StrokeBook" "draft" "LStrokeBook$Draft;", Cond.classLink RX7 16 RX6, Cond.instantiable RX6 4, Cond.initialized RX6, Cond.fieldLink RX7 19 "StrokeBook" "marks" "LStrokeBook$TaughtMarks;", Cond.classLink RX7 23 RX0, Cond.instantiable RX0 7, Cond.initialized RX0, Cond.fieldLink RX7 26 "StrokeBook" "acts" "LStrokeBook$Acts;"]
def wsL_law_r2 : List Cond := [Cond.classLink RX7 30 RX4, Cond.instantiable RX4 3, Cond.initialized RX4, Cond.fieldLink RX7 33 "StrokeBook" "measure" "LStrokeBook$Measure;", Cond.classLink RX7 37 RX1, Cond.instantiable RX1 5, Cond.initialized RX1, Cond.fieldLink RX7 40 "StrokeBook" "commands" "LStrokeBook$Commands;", Cond.classLink RX7 44 RX3, Cond.instantiable RX3 5, Cond.initialized RX3, Cond.fieldLink RX7 47 "StrokeBook" "labels" "LStrokeBook$LabelLine;", Cond.classLink RX7 51 RX5, Cond.instantiable RX5 4, Cond.initialized RX5, Cond.fieldLink RX7 54 "StrokeBook" "sheets" "LStrokeBook$Sheets;", Cond.arrayClass .int, Cond.fieldLink RX7 58 "StrokeBook" "distances" "[I", Cond.fieldLink RX7 62 "StrokeBook" "end" "I", Cond.fieldLink RX7 66 "StrokeBook" "margin" "I", Cond.instanceMethod yX2_init, Cond.code yX2_init cX2_init 1 none, Cond.methodLink RX2 3 objectInit, Cond.fieldLink RX2 11 "StrokeBook$Draft" "xs" "[I"]
def wsL_law_r3 : List Cond := [Cond.fieldLink RX2 15 "StrokeBook$Draft" "ys" "[I", Cond.arrayClass .boolean, Cond.fieldLink RX2 18 "StrokeBook$Draft" "liftedTo" "[Z", Cond.fieldLink RX2 22 "StrokeBook$Draft" "evenRow" "[I", Cond.fieldLink RX2 25 "StrokeBook$Draft" "normalRow" "[I", Cond.fieldLink RX2 28 "StrokeBook$Draft" "size" "I", Cond.instanceMethod yX6_init, Cond.code yX6_init cX6_init 1 none, Cond.methodLink RX6 3 objectInit, Cond.fieldLink RX6 11 "StrokeBook$TaughtMarks" "labels" "[I", Cond.fieldLink RX6 15 "StrokeBook$TaughtMarks" "kinds" "[I", Cond.fieldLink RX6 18 "StrokeBook$TaughtMarks" "points" "[I", Cond.fieldLink RX6 21 "StrokeBook$TaughtMarks" "size" "I", Cond.instanceMethod yX0_init, Cond.code yX0_init cX0_init 1 none, Cond.methodLink RX0 3 objectInit, Cond.fieldLink RX0 11 "StrokeBook$Acts" "sorts" "[I", Cond.fieldLink RX0 15 "StrokeBook$Acts" "numbers" "[I", Cond.fieldLink RX0 18 "StrokeBook$Acts" "labels" "[I", Cond.fieldLink RX0 21 "StrokeBook$Acts" "kinds" "[I", Cond.fieldLink RX0 24 "StrokeBook$Acts" "points" "[I", Cond.fieldLink RX0 27 "StrokeBook$Acts" "size" "I", Cond.fieldLink RX0 31 "StrokeBook$Acts" "next" "I", Cond.instanceMethod yX4_init]
def wsL_law_r4 : List Cond := [Cond.code yX4_init cX4_init 1 none, Cond.methodLink RX4 3 objectInit, Cond.fieldLink RX4 9 "StrokeBook$Measure" "held" "[I", Cond.fieldLink RX4 15 "StrokeBook$Measure" "apart" "[I", Cond.fieldLink RX4 18 "StrokeBook$Measure" "leastSums" "[I", Cond.instanceMethod yX1_init, Cond.code yX1_init cX1_init 1 none, Cond.methodLink RX1 1 objectInit, Cond.fieldLink RX1 9 "StrokeBook$Commands" "contexts" "[I", Cond.fieldLink RX1 13 "StrokeBook$Commands" "ranks" "[I", Cond.fieldLink RX1 16 "StrokeBook$Commands" "lengths" "[I", Cond.fieldLink RX1 19 "StrokeBook$Commands" "labels" "[I", Cond.fieldLink RX1 22 "StrokeBook$Commands" "size" "I", Cond.instanceMethod yX3_init, Cond.code yX3_init cX3_init 1 none, Cond.methodLink RX3 3 objectInit, Cond.fieldLink RX3 11 "StrokeBook$LabelLine" "row" "[I", Cond.fieldLink RX3 15 "StrokeBook$LabelLine" "foundNumbers" "[I", Cond.fieldLink RX3 18 "StrokeBook$LabelLine" "foundPlaces" "[I", Cond.fieldLink RX3 21 "StrokeBook$LabelLine" "size" "I", Cond.fieldLink RX3 25 "StrokeBook$LabelLine" "foundSize" "I", Cond.instanceMethod yX5_init, Cond.code yX5_init cX5_init 1 none, Cond.methodLink RX5 1 objectInit]
def wsL_law_r5 : List Cond := [Cond.fieldLink RX5 9 "StrokeBook$Sheets" "lanes" "[I", Cond.fieldLink RX5 13 "StrokeBook$Sheets" "made" "[Z", Cond.fieldLink RX5 17 "StrokeBook$Sheets" "sizes" "[I", Cond.fieldLink RX5 20 "StrokeBook$Sheets" "cells" "[I", Cond.methodLink RL 12 yX8_init, Cond.instanceMethod yX8_init, Cond.code yX8_init cX8_init 2 none, Cond.methodLink RX8 1 objectInit, Cond.fieldLink RX8 7 "StrokeBookModel" "px" "[I", Cond.fieldLink RX8 13 "StrokeBookModel" "py" "[I", Cond.fieldLink RX8 16 "StrokeBookModel" "isLifted" "[Z", Cond.fieldLink RX8 20 "StrokeBookModel" "evens" "[I", Cond.fieldLink RX8 23 "StrokeBookModel" "norms" "[I", Cond.fieldLink RX8 26 "StrokeBookModel" "labels" "[I", Cond.fieldLink RX8 29 "StrokeBookModel" "kinds" "[I", Cond.fieldLink RX8 32 "StrokeBookModel" "marks" "[I", Cond.fieldLink RX8 35 "StrokeBookModel" "aSort" "[I", Cond.fieldLink RX8 38 "StrokeBookModel" "aWhich" "[I", Cond.fieldLink RX8 41 "StrokeBookModel" "aLabel" "[I", Cond.fieldLink RX8 44 "StrokeBookModel" "aKind" "[I", Cond.fieldLink RX8 47 "StrokeBookModel" "aMark" "[I", Cond.fieldLink RX8 50 "StrokeBookModel" "end" "I", Cond.fieldLink RX8 54 "StrokeBookModel" "held" "[I", Cond.fieldLink RX8 57 "StrokeBookModel" "leasts" "[I"]
def wsL_law_r6 : List Cond := [Cond.fieldLink RX8 60 "StrokeBookModel" "line" "[I", Cond.fieldLink RX8 63 "StrokeBookModel" "cContext" "[I", Cond.fieldLink RX8 66 "StrokeBookModel" "cRank" "[I", Cond.fieldLink RX8 69 "StrokeBookModel" "cMany" "[I", Cond.fieldLink RX8 72 "StrokeBookModel" "cLabels" "[I", Cond.fieldLink RX8 75 "StrokeBookModel" "lanes" "[I", Cond.fieldLink RX8 78 "StrokeBookModel" "sizes" "[I", Cond.fieldLink RX8 81 "StrokeBookModel" "cells" "[I", Cond.methodLink RL 13 yX7_point, Cond.instanceMethod yX7_point, Cond.selects RX7 yX7_point yX7_point, Cond.code yX7_point cX7_point 4 (some .int), Cond.methodLink RX7 69 yX2_add, Cond.instanceMethod yX2_add, Cond.selects RX2 yX2_add yX2_add, Cond.code yX2_add cX2_add 4 (some .int), Cond.methodLink RL 17 yX8_point, Cond.instanceMethod yX8_point, Cond.selects RX8 yX8_point yX8_point, Cond.code yX8_point cX8_point 4 (some .int), Cond.constantLong RX8 84 (-100), Cond.constantLong RX8 86 (100), Cond.fieldLink RX8 92 "StrokeBookModel" "points" "I", Cond.methodLink RX8 88 yX8_in]
def wsL_law_r7 : List Cond := [Cond.static yX8_in, Cond.code yX8_in cX8_in 6 (some .boolean), Cond.methodLink RL 18 yX7_clear, Cond.instanceMethod yX7_clear, Cond.selects RX7 yX7_clear yX7_clear, Cond.code yX7_clear cX7_clear 1 (some .int), Cond.methodLink RX7 73 yX2_empty, Cond.instanceMethod yX2_empty, Cond.selects RX2 yX2_empty yX2_empty, Cond.code yX2_empty cX2_empty 2 (some .int), Cond.methodLink RL 22 yX8_clear, Cond.instanceMethod yX8_clear, Cond.selects RX8 yX8_clear yX8_clear, Cond.code yX8_clear cX8_clear 2 (some .int), Cond.methodLink RL 23 yX7_way, Cond.instanceMethod yX7_way, Cond.selects RX7 yX7_way yX7_way, Cond.code yX7_way cX7_way 1 (some .int), Cond.methodLink RX7 77 yX2_length, Cond.instanceMethod yX2_length, Cond.selects RX2 yX2_length yX2_length, Cond.code yX2_length cX2_length 3 (some .int), Cond.methodLink RX2 38 yX2_drawnTo, Cond.instanceMethod yX2_drawnTo]
def wsL_law_r8 : List Cond := [Cond.selects RX2 yX2_drawnTo yX2_drawnTo, Cond.code yX2_drawnTo cX2_drawnTo 2 (some .int), Cond.methodLink RX2 32 Lib.Math.abs.name, Cond.static Lib.Math.abs.name, Cond.initialized "java/lang/Math", Cond.code Lib.Math.abs.name Lib.Math.abs.code 1 (some .int), Cond.methodLink RL 26 yX8_way, Cond.instanceMethod yX8_way, Cond.selects RX8 yX8_way yX8_way, Cond.code yX8_way cX8_way 3 (some .int), Cond.methodLink RX8 99 yX8_drawn, Cond.instanceMethod yX8_drawn, Cond.selects RX8 yX8_drawn yX8_drawn, Cond.code yX8_drawn cX8_drawn 2 (some .int), Cond.methodLink RX8 95 yX8_plain, Cond.static yX8_plain, Cond.code yX8_plain cX8_plain 1 (some .int), Cond.methodLink RL 27 yX7_even, Cond.instanceMethod yX7_even, Cond.selects RX7 yX7_even yX7_even, Cond.code yX7_even cX7_even 3 (some .int), Cond.constant RX7 88 (1000000), Cond.fieldLink RX7 89 "StrokeBook$Draft" "evenRow" "[I", Cond.methodLink RX7 80 yX7_isWithin]
def wsL_law_r9 : List Cond := [Cond.static yX7_isWithin, Cond.code yX7_isWithin cX7_isWithin 2 (some .boolean), Cond.methodLink RX7 84 yX2_makeEven, Cond.instanceMethod yX2_makeEven, Cond.selects RX2 yX2_makeEven yX2_makeEven, Cond.code yX2_makeEven cX2_makeEven 3 (some .boolean), Cond.methodLink RX2 41 yX2_length, Cond.methodLink RX2 45 yX2_placeEven, Cond.instanceMethod yX2_placeEven, Cond.selects RX2 yX2_placeEven yX2_placeEven, Cond.code yX2_placeEven cX2_placeEven 6 none, Cond.methodLink RX2 49 yX2_partWay, Cond.static yX2_partWay, Cond.code yX2_partWay cX2_partWay 4 (some .int), Cond.methodLink RX2 53 yJ9_floorDiv_7cf53, Cond.static yJ9_floorDiv_7cf53, Cond.initialized RJ9, Cond.code yJ9_floorDiv_7cf53 cJ9_floorDiv_7cf53 3 (some .int), Cond.methodLink RL 31 yX8_even, Cond.instanceMethod yX8_even, Cond.selects RX8 yX8_even yX8_even, Cond.code yX8_even cX8_even 3 (some .int), Cond.constantLong RX8 117 (7), Cond.constant RX8 119 (1000000)]
def wsL_law_r10 : List Cond := [Cond.methodLink RX8 102 yX8_way, Cond.methodLink RX8 110 yX8_findEvens, Cond.instanceMethod yX8_findEvens, Cond.selects RX8 yX8_findEvens yX8_findEvens, Cond.code yX8_findEvens cX8_findEvens 8 none, Cond.methodLink RX8 106 yX8_down, Cond.static yX8_down, Cond.code yX8_down cX8_down 6 (some .long), Cond.methodLink RL 32 yX7_normal, Cond.instanceMethod yX7_normal, Cond.selects RX7 yX7_normal yX7_normal, Cond.code yX7_normal cX7_normal 3 (some .int), Cond.fieldLink RX7 95 "StrokeBook$Draft" "normalRow" "[I", Cond.methodLink RX7 92 yX2_makeNormal, Cond.instanceMethod yX2_makeNormal, Cond.selects RX2 yX2_makeNormal yX2_makeNormal, Cond.code yX2_makeNormal cX2_makeNormal 3 (some .boolean), Cond.methodLink RX2 57 yX2_makeEven, Cond.methodLink RX2 61 yX2_takeMiddleOff, Cond.instanceMethod yX2_takeMiddleOff, Cond.selects RX2 yX2_takeMiddleOff yX2_takeMiddleOff, Cond.code yX2_takeMiddleOff cX2_takeMiddleOff 6 none, Cond.methodLink RX2 68 Lib.Math.min.name, Cond.static Lib.Math.min.name]
def wsL_law_r11 : List Cond := [Cond.code Lib.Math.min.name Lib.Math.min.code 2 (some .int), Cond.methodLink RX2 71 Lib.Math.max.name, Cond.static Lib.Math.max.name, Cond.code Lib.Math.max.name Lib.Math.max.code 2 (some .int), Cond.methodLink RX2 65 yX2_greatestSize, Cond.instanceMethod yX2_greatestSize, Cond.selects RX2 yX2_greatestSize yX2_greatestSize, Cond.code yX2_greatestSize cX2_greatestSize 3 (some .int), Cond.methodLink RL 35 yX8_normal, Cond.instanceMethod yX8_normal, Cond.selects RX8 yX8_normal yX8_normal, Cond.code yX8_normal cX8_normal 3 (some .int), Cond.methodLink RX8 120 yX8_findNorms, Cond.instanceMethod yX8_findNorms, Cond.selects RX8 yX8_findNorms yX8_findNorms, Cond.code yX8_findNorms cX8_findNorms 7 none, Cond.constantLong RX8 113 (2), Cond.constantLong RX8 115 (1000), Cond.methodLink RL 36 yX7_teach, Cond.instanceMethod yX7_teach, Cond.selects RX7 yX7_teach yX7_teach, Cond.code yX7_teach cX7_teach 4 (some .int), Cond.fieldLink RX7 98 "StrokeBook$TaughtMarks" "size" "I", Cond.methodLink RX7 101 yX6_insert]
def wsL_law_r12 : List Cond := [Cond.instanceMethod yX6_insert, Cond.selects RX6 yX6_insert yX6_insert, Cond.code yX6_insert cX6_insert 7 none, Cond.methodLink RX6 25 arraycopyName, Cond.native arraycopyName, Cond.static arraycopyName, Cond.initialized "java/lang/System", Cond.methodLink RX7 105 yX0_push, Cond.instanceMethod yX0_push, Cond.selects RX0 yX0_push yX0_push, Cond.code yX0_push cX0_push 6 (some .int), Cond.methodLink RX0 40 Lib.Math.min.name, Cond.methodLink RX0 34 yJ9_floorMod_7cf53, Cond.static yJ9_floorMod_7cf53, Cond.code yJ9_floorMod_7cf53 cJ9_floorMod_7cf53 3 (some .int), Cond.methodLink RL 39 yX8_teach, Cond.instanceMethod yX8_teach, Cond.selects RX8 yX8_teach yX8_teach, Cond.code yX8_teach cX8_teach 4 (some .int), Cond.constantLong RX8 129 (9), Cond.constantLong RX8 131 (4), Cond.fieldLink RX8 123 "StrokeBookModel" "taught" "I", Cond.methodLink RX8 133 yX8_keeps, Cond.instanceMethod yX8_keeps]
def wsL_law_r13 : List Cond := [Cond.selects RX8 yX8_keeps yX8_keeps, Cond.code yX8_keeps cX8_keeps 5 none, Cond.fieldLink RX8 126 "StrokeBookModel" "acts" "I", Cond.methodLink RL 40 yX7_forget, Cond.instanceMethod yX7_forget, Cond.selects RX7 yX7_forget yX7_forget, Cond.code yX7_forget cX7_forget 4 (some .int), Cond.fieldLink RX7 113 "StrokeBook$TaughtMarks" "labels" "[I", Cond.fieldLink RX7 115 "StrokeBook$TaughtMarks" "kinds" "[I", Cond.fieldLink RX7 118 "StrokeBook$TaughtMarks" "points" "[I", Cond.fieldLink RX7 121 "StrokeBook$Acts" "points" "[I", Cond.methodLink RX7 122 arraycopyName, Cond.methodLink RX7 109 yX6_has, Cond.instanceMethod yX6_has, Cond.selects RX6 yX6_has yX6_has, Cond.code yX6_has cX6_has 2 (some .boolean), Cond.methodLink RX7 128 yX6_remove, Cond.instanceMethod yX6_remove, Cond.selects RX6 yX6_remove yX6_remove, Cond.code yX6_remove cX6_remove 3 none, Cond.methodLink RX6 31 yX6_has, Cond.methodLink RL 44 yX8_forget, Cond.instanceMethod yX8_forget, Cond.selects RX8 yX8_forget yX8_forget]
def wsL_law_r14 : List Cond := [Cond.code yX8_forget cX8_forget 3 (some .int), Cond.methodLink RX8 140 yX8_isTaught, Cond.instanceMethod yX8_isTaught, Cond.selects RX8 yX8_isTaught yX8_isTaught, Cond.code yX8_isTaught cX8_isTaught 2 (some .boolean), Cond.methodLink RX8 144 yX8_goes, Cond.instanceMethod yX8_goes, Cond.selects RX8 yX8_goes yX8_goes, Cond.code yX8_goes cX8_goes 3 none, Cond.methodLink RX8 137 yX8_moves, Cond.instanceMethod yX8_moves, Cond.selects RX8 yX8_moves yX8_moves, Cond.code yX8_moves cX8_moves 4 none, Cond.methodLink RL 45 yX7_undo, Cond.instanceMethod yX7_undo, Cond.selects RX7 yX7_undo yX7_undo, Cond.code yX7_undo cX7_undo 3 (some .int), Cond.fieldLink RX7 132 "StrokeBook$Acts" "size" "I", Cond.fieldLink RX7 136 "StrokeBook$Acts" "numbers" "[I", Cond.fieldLink RX7 139 "StrokeBook$Acts" "sorts" "[I", Cond.fieldLink RX7 142 "StrokeBook$Acts" "labels" "[I", Cond.fieldLink RX7 143 "StrokeBook$Acts" "kinds" "[I", Cond.methodLink RX7 133 yX0_pop, Cond.instanceMethod yX0_pop]
def wsL_law_r15 : List Cond := [Cond.selects RX0 yX0_pop yX0_pop, Cond.code yX0_pop cX0_pop 1 (some .int), Cond.methodLink RX0 43 Lib.Math.max.name, Cond.methodLink RL 48 yX8_undo, Cond.instanceMethod yX8_undo, Cond.selects RX8 yX8_undo yX8_undo, Cond.code yX8_undo cX8_undo 3 (some .int), Cond.methodLink RL 49 yX7_label, Cond.instanceMethod yX7_label, Cond.selects RX7 yX7_label yX7_label, Cond.code yX7_label cX7_label 4 (some .int), Cond.methodLink RL 52 yX8_label, Cond.instanceMethod yX8_label, Cond.selects RX8 yX8_label yX8_label, Cond.code yX8_label cX8_label 4 (some .int), Cond.methodLink RL 53 yX7_told, Cond.instanceMethod yX7_told, Cond.selects RX7 yX7_told yX7_told, Cond.code yX7_told cX7_told 3 (some .int), Cond.methodLink RL 56 yX8_told, Cond.instanceMethod yX8_told, Cond.selects RX8 yX8_told yX8_told, Cond.code yX8_told cX8_told 3 (some .int), Cond.methodLink RL 57 yX7_taught]
def wsL_law_r16 : List Cond := [Cond.instanceMethod yX7_taught, Cond.selects RX7 yX7_taught yX7_taught, Cond.code yX7_taught cX7_taught 4 (some .int), Cond.methodLink RL 61 yX8_taught, Cond.instanceMethod yX8_taught, Cond.selects RX8 yX8_taught yX8_taught, Cond.code yX8_taught cX8_taught 4 (some .int), Cond.methodLink RL 62 yX7_ends, Cond.instanceMethod yX7_ends, Cond.selects RX7 yX7_ends yX7_ends, Cond.code yX7_ends cX7_ends 3 (some .int), Cond.constant RX7 144 (100000), Cond.methodLink RL 65 yX8_ends, Cond.instanceMethod yX8_ends, Cond.selects RX8 yX8_ends yX8_ends, Cond.code yX8_ends cX8_ends 3 (some .int), Cond.constantLong RX8 148 (100000), Cond.fieldLink RX8 150 "StrokeBookModel" "margin" "I", Cond.methodLink RL 66 yX7_distance, Cond.instanceMethod yX7_distance, Cond.selects RX7 yX7_distance yX7_distance, Cond.code yX7_distance cX7_distance 2 (some .int), Cond.methodLink RX7 145 yX4_distanceFrom, Cond.instanceMethod yX4_distanceFrom]
def wsL_law_r17 : List Cond := [Cond.selects RX4 yX4_distanceFrom yX4_distanceFrom, Cond.code yX4_distanceFrom cX4_distanceFrom 9 (some .int), Cond.methodLink RX4 21 arraycopyName, Cond.fieldLink RX4 27 "StrokeBook$TaughtMarks" "kinds" "[I", Cond.fieldLink RX4 32 "StrokeBook$TaughtMarks" "points" "[I", Cond.methodLink RX4 42 Lib.Math.min.name, Cond.methodLink RX4 35 yX4_distanceUnturned, Cond.instanceMethod yX4_distanceUnturned, Cond.selects RX4 yX4_distanceUnturned yX4_distanceUnturned, Cond.code yX4_distanceUnturned cX4_distanceUnturned 7 (some .int), Cond.methodLink RX4 48 yX4_leastPairing, Cond.instanceMethod yX4_leastPairing, Cond.selects RX4 yX4_leastPairing yX4_leastPairing, Cond.code yX4_leastPairing cX4_leastPairing 5 (some .int), Cond.methodLink RX4 52 yX4_pointsApart, Cond.instanceMethod yX4_pointsApart, Cond.selects RX4 yX4_pointsApart yX4_pointsApart, Cond.code yX4_pointsApart cX4_pointsApart 5 (some .int), Cond.methodLink RX4 56 Lib.Math.abs.name, Cond.methodLink RX4 60 yX4_leastSum, Cond.instanceMethod yX4_leastSum, Cond.selects RX4 yX4_leastSum yX4_leastSum, Cond.code yX4_leastSum cX4_leastSum 6 (some .int), Cond.constant RX4 68 (1000000)]
def wsL_law_r18 : List Cond := [Cond.methodLink RX4 63 yJ6_bitCount_0f7a4, Cond.static yJ6_bitCount_0f7a4, Cond.initialized RJ6, Cond.code yJ6_bitCount_0f7a4 cJ6_bitCount_0f7a4 1 (some .int), Cond.constant RJ6 265 (1431655765), Cond.constant RJ6 266 (858993459), Cond.constant RJ6 267 (252645135), Cond.methodLink RX4 39 yX4_turnQuarter, Cond.instanceMethod yX4_turnQuarter, Cond.selects RX4 yX4_turnQuarter yX4_turnQuarter, Cond.code yX4_turnQuarter cX4_turnQuarter 3 none, Cond.methodLink RL 69 yX8_distance, Cond.instanceMethod yX8_distance, Cond.selects RX8 yX8_distance yX8_distance, Cond.code yX8_distance cX8_distance 2 (some .int), Cond.methodLink RX8 167 yX8_holdsDraft, Cond.instanceMethod yX8_holdsDraft, Cond.selects RX8 yX8_holdsDraft yX8_holdsDraft, Cond.code yX8_holdsDraft cX8_holdsDraft 2 none, Cond.methodLink RX8 170 yX8_distanceOf, Cond.instanceMethod yX8_distanceOf, Cond.selects RX8 yX8_distanceOf yX8_distanceOf, Cond.code yX8_distanceOf cX8_distanceOf 6 (some .int), Cond.methodLink RX8 157 yX8_cloud]
def wsL_law_r19 : List Cond := [Cond.instanceMethod yX8_cloud, Cond.selects RX8 yX8_cloud yX8_cloud, Cond.code yX8_cloud cX8_cloud 7 (some .int), Cond.methodLink RX8 153 yX8_far, Cond.instanceMethod yX8_far, Cond.selects RX8 yX8_far yX8_far, Cond.code yX8_far cX8_far 4 (some .int), Cond.methodLink RX8 160 yX8_straight, Cond.instanceMethod yX8_straight, Cond.selects RX8 yX8_straight yX8_straight, Cond.code yX8_straight cX8_straight 5 (some .int), Cond.methodLink RX8 164 yX8_turns, Cond.instanceMethod yX8_turns, Cond.selects RX8 yX8_turns yX8_turns, Cond.code yX8_turns cX8_turns 3 none, Cond.methodLink RL 70 yX7_nearest, Cond.instanceMethod yX7_nearest, Cond.selects RX7 yX7_nearest yX7_nearest, Cond.code yX7_nearest cX7_nearest 1 (some .int), Cond.methodLink RX7 149 yX7_measureDraft, Cond.instanceMethod yX7_measureDraft, Cond.selects RX7 yX7_measureDraft yX7_measureDraft, Cond.code yX7_measureDraft cX7_measureDraft 3 (some .int), Cond.methodLink RL 73 yX8_nearest]
def wsL_law_r20 : List Cond := [Cond.instanceMethod yX8_nearest, Cond.selects RX8 yX8_nearest yX8_nearest, Cond.code yX8_nearest cX8_nearest 5 (some .int), Cond.methodLink RL 74 yX7_read, Cond.instanceMethod yX7_read, Cond.selects RX7 yX7_read yX7_read, Cond.code yX7_read cX7_read 1 (some .int), Cond.methodLink RX7 152 yX7_labelRead, Cond.instanceMethod yX7_labelRead, Cond.selects RX7 yX7_labelRead yX7_labelRead, Cond.code yX7_labelRead cX7_labelRead 4 (some .int), Cond.methodLink RL 77 yX8_read, Cond.instanceMethod yX8_read, Cond.selects RX8 yX8_read yX8_read, Cond.code yX8_read cX8_read 5 (some .int), Cond.methodLink RX8 173 yX8_nearest, Cond.methodLink RL 78 yX7_mark, Cond.instanceMethod yX7_mark, Cond.selects RX7 yX7_mark yX7_mark, Cond.code yX7_mark cX7_mark 2 (some .int), Cond.methodLink RX7 156 yX3_add, Cond.instanceMethod yX3_add, Cond.selects RX3 yX3_add yX3_add, Cond.code yX3_add cX3_add 2 (some .boolean)]
def wsL_law_r21 : List Cond := [Cond.methodLink RL 81 yX8_mark, Cond.instanceMethod yX8_mark, Cond.selects RX8 yX8_mark yX8_mark, Cond.code yX8_mark cX8_mark 2 (some .int), Cond.fieldLink RX8 179 "StrokeBookModel" "lineMany" "I", Cond.methodLink RX8 176 yX8_read, Cond.methodLink RL 82 yX7_confused, Cond.instanceMethod yX7_confused, Cond.selects RX7 yX7_confused yX7_confused, Cond.code yX7_confused cX7_confused 5 (some .int), Cond.methodLink RX7 158 yX7_isConfused, Cond.instanceMethod yX7_isConfused, Cond.selects RX7 yX7_isConfused yX7_isConfused, Cond.code yX7_isConfused cX7_isConfused 4 (some .boolean), Cond.methodLink RL 85 yX8_confused, Cond.instanceMethod yX8_confused, Cond.selects RX8 yX8_confused yX8_confused, Cond.code yX8_confused cX8_confused 7 (some .int), Cond.methodLink RX8 182 yX8_betweenOf, Cond.instanceMethod yX8_betweenOf, Cond.selects RX8 yX8_betweenOf yX8_betweenOf, Cond.code yX8_betweenOf cX8_betweenOf 4 (some .int), Cond.methodLink RL 86 yX7_between, Cond.instanceMethod yX7_between]
def wsL_law_r22 : List Cond := [Cond.selects RX7 yX7_between yX7_between, Cond.code yX7_between cX7_between 3 (some .int), Cond.methodLink RL 89 yX8_between, Cond.instanceMethod yX8_between, Cond.selects RX8 yX8_between yX8_between, Cond.code yX8_between cX8_between 3 (some .int), Cond.methodLink RL 90 yX7_command, Cond.instanceMethod yX7_command, Cond.selects RX7 yX7_command yX7_command, Cond.code yX7_command cX7_command 9 (some .int), Cond.fieldLink RX7 161 "StrokeBook$Commands" "size" "I", Cond.methodLink RX7 162 yX1_open, Cond.instanceMethod yX1_open, Cond.selects RX1 yX1_open yX1_open, Cond.code yX1_open cX1_open 5 (some .int), Cond.methodLink RX7 166 yX1_put, Cond.instanceMethod yX1_put, Cond.selects RX1 yX1_put yX1_put, Cond.code yX1_put cX1_put 4 none, Cond.methodLink RL 94 yX8_command, Cond.instanceMethod yX8_command, Cond.selects RX8 yX8_command yX8_command, Cond.code yX8_command cX8_command 8 (some .int), Cond.constantLong RX8 186 (3)]
def wsL_law_r23 : List Cond := [Cond.fieldLink RX8 188 "StrokeBookModel" "commands" "I", Cond.methodLink RL 95 yX7_parse, Cond.instanceMethod yX7_parse, Cond.selects RX7 yX7_parse yX7_parse, Cond.code yX7_parse cX7_parse 2 (some .int), Cond.fieldLink RX7 174 "StrokeBook$LabelLine" "foundSize" "I", Cond.methodLink RX7 170 yX3_findCommands, Cond.instanceMethod yX3_findCommands, Cond.selects RX3 yX3_findCommands yX3_findCommands, Cond.code yX3_findCommands cX3_findCommands 5 none, Cond.fieldLink RX3 32 "StrokeBook$Commands" "lengths" "[I", Cond.methodLink RX3 37 Lib.Math.max.name, Cond.methodLink RX3 28 yX3_commandAt, Cond.instanceMethod yX3_commandAt, Cond.selects RX3 yX3_commandAt yX3_commandAt, Cond.code yX3_commandAt cX3_commandAt 6 (some .int), Cond.fieldLink RX3 43 "StrokeBook$Commands" "size" "I", Cond.methodLink RX3 44 yX1_isOf, Cond.instanceMethod yX1_isOf, Cond.selects RX1 yX1_isOf yX1_isOf, Cond.code yX1_isOf cX1_isOf 3 (some .boolean), Cond.methodLink RX3 48 yX3_standsAt, Cond.instanceMethod yX3_standsAt, Cond.selects RX3 yX3_standsAt yX3_standsAt]
def wsL_law_r24 : List Cond := [Cond.code yX3_standsAt cX3_standsAt 5 (some .boolean), Cond.methodLink RX3 55 yX1_labelAt, Cond.instanceMethod yX1_labelAt, Cond.selects RX1 yX1_labelAt yX1_labelAt, Cond.code yX1_labelAt cX1_labelAt 3 (some .int), Cond.methodLink RX3 52 yX1_goesBefore, Cond.instanceMethod yX1_goesBefore, Cond.selects RX1 yX1_goesBefore yX1_goesBefore, Cond.code yX1_goesBefore cX1_goesBefore 3 (some .boolean), Cond.methodLink RL 98 yX8_parse, Cond.instanceMethod yX8_parse, Cond.selects RX8 yX8_parse yX8_parse, Cond.code yX8_parse cX8_parse 2 (some .int), Cond.methodLink RX8 204 yX8_parsed, Cond.instanceMethod yX8_parsed, Cond.selects RX8 yX8_parsed yX8_parsed, Cond.code yX8_parsed cX8_parsed 6 (some .int), Cond.fieldLink RX8 195 "StrokeBookModel" "wantedCommand" "I", Cond.fieldLink RX8 198 "StrokeBookModel" "wantedPlace" "I", Cond.methodLink RX8 201 yX8_commandAt, Cond.instanceMethod yX8_commandAt, Cond.selects RX8 yX8_commandAt yX8_commandAt, Cond.code yX8_commandAt cX8_commandAt 5 (some .int), Cond.methodLink RX8 191 yX8_stands]
def wsL_law_r25 : List Cond := [Cond.instanceMethod yX8_stands, Cond.selects RX8 yX8_stands yX8_stands, Cond.code yX8_stands cX8_stands 5 (some .boolean), Cond.methodLink RL 99 yX7_found, Cond.instanceMethod yX7_found, Cond.selects RX7 yX7_found yX7_found, Cond.code yX7_found cX7_found 4 (some .int), Cond.fieldLink RX7 177 "StrokeBook$LabelLine" "foundNumbers" "[I", Cond.fieldLink RX7 180 "StrokeBook$LabelLine" "foundPlaces" "[I", Cond.methodLink RL 102 yX8_found, Cond.instanceMethod yX8_found, Cond.selects RX8 yX8_found yX8_found, Cond.code yX8_found cX8_found 4 (some .int), Cond.methodLink RL 103 yX7_hidden, Cond.instanceMethod yX7_hidden, Cond.selects RX7 yX7_hidden yX7_hidden, Cond.code yX7_hidden cX7_hidden 2 (some .int), Cond.methodLink RX7 183 yX1_isHidden, Cond.instanceMethod yX1_isHidden, Cond.selects RX1 yX1_isHidden yX1_isHidden, Cond.code yX1_isHidden cX1_isHidden 3 (some .boolean), Cond.methodLink RX1 26 yX1_isOf, Cond.methodLink RX1 30 yX1_haveSameLabels, Cond.instanceMethod yX1_haveSameLabels]
def wsL_law_r26 : List Cond := [Cond.selects RX1 yX1_haveSameLabels yX1_haveSameLabels, Cond.code yX1_haveSameLabels cX1_haveSameLabels 4 (some .boolean), Cond.methodLink RX1 36 yX1_labelAt, Cond.methodLink RX1 33 yX1_goesBefore, Cond.methodLink RL 106 yX8_hidden, Cond.instanceMethod yX8_hidden, Cond.selects RX8 yX8_hidden yX8_hidden, Cond.code yX8_hidden cX8_hidden 3 (some .int), Cond.methodLink RX8 207 yX8_isHidden, Cond.instanceMethod yX8_isHidden, Cond.selects RX8 yX8_isHidden yX8_isHidden, Cond.code yX8_isHidden cX8_isHidden 5 (some .boolean), Cond.methodLink RL 107 yX7_line, Cond.instanceMethod yX7_line, Cond.selects RX7 yX7_line yX7_line, Cond.code yX7_line cX7_line 2 (some .int), Cond.fieldLink RX7 186 "StrokeBook$LabelLine" "size" "I", Cond.fieldLink RX7 187 "StrokeBook$LabelLine" "row" "[I", Cond.methodLink RL 110 yX8_line, Cond.instanceMethod yX8_line, Cond.selects RX8 yX8_line yX8_line, Cond.code yX8_line cX8_line 2 (some .int), Cond.methodLink RL 111 yX7_wipe, Cond.instanceMethod yX7_wipe]
def wsL_law_r27 : List Cond := [Cond.selects RX7 yX7_wipe yX7_wipe, Cond.code yX7_wipe cX7_wipe 1 (some .int), Cond.methodLink RX7 190 yX3_empty, Cond.instanceMethod yX3_empty, Cond.selects RX3 yX3_empty yX3_empty, Cond.code yX3_empty cX3_empty 2 (some .int), Cond.methodLink RL 114 yX8_wipe, Cond.instanceMethod yX8_wipe, Cond.selects RX8 yX8_wipe yX8_wipe, Cond.code yX8_wipe cX8_wipe 2 (some .int), Cond.methodLink RL 115 yX7_sheet, Cond.instanceMethod yX7_sheet, Cond.selects RX7 yX7_sheet yX7_sheet, Cond.code yX7_sheet cX7_sheet 4 (some .int), Cond.methodLink RX7 191 yX5_isNumber, Cond.static yX5_isNumber, Cond.code yX5_isNumber cX5_isNumber 1 (some .boolean), Cond.methodLink RX7 194 yX5_isLane, Cond.static yX5_isLane, Cond.code yX5_isLane cX5_isLane 1 (some .boolean), Cond.methodLink RX7 197 yX5_makeNew, Cond.instanceMethod yX5_makeNew, Cond.selects RX5 yX5_makeNew yX5_makeNew, Cond.code yX5_makeNew cX5_makeNew 5 none]
def wsL_law_r28 : List Cond := [Cond.methodLink RL 118 yX8_sheet, Cond.instanceMethod yX8_sheet, Cond.selects RX8 yX8_sheet yX8_sheet, Cond.code yX8_sheet cX8_sheet 5 (some .int), Cond.methodLink RX8 210 yX8_isSheet, Cond.static yX8_isSheet, Cond.code yX8_isSheet cX8_isSheet 2 (some .boolean), Cond.methodLink RL 119 yX7_lay, Cond.instanceMethod yX7_lay, Cond.selects RX7 yX7_lay yX7_lay, Cond.code yX7_lay cX7_lay 4 (some .int), Cond.methodLink RX7 200 yX5_isNothing, Cond.instanceMethod yX5_isNothing, Cond.selects RX5 yX5_isNothing yX5_isNothing, Cond.code yX5_isNothing cX5_isNothing 2 (some .boolean), Cond.methodLink RX7 203 yX5_hasCells, Cond.instanceMethod yX5_hasCells, Cond.selects RX5 yX5_hasCells yX5_hasCells, Cond.code yX5_hasCells cX5_hasCells 4 (some .boolean), Cond.methodLink RX7 207 yX5_put, Cond.instanceMethod yX5_put, Cond.selects RX5 yX5_put yX5_put, Cond.code yX5_put cX5_put 4 none, Cond.methodLink RX5 23 yX5_lowestBits]
def wsL_law_r29 : List Cond := [Cond.static yX5_lowestBits, Cond.code yX5_lowestBits cX5_lowestBits 2 (some .int), Cond.methodLink RL 122 yX8_lay, Cond.instanceMethod yX8_lay, Cond.selects RX8 yX8_lay yX8_lay, Cond.code yX8_lay cX8_lay 4 (some .int), Cond.methodLink RL 123 yX7_scan, Cond.instanceMethod yX7_scan, Cond.selects RX7 yX7_scan yX7_scan, Cond.code yX7_scan cX7_scan 8 (some .int), Cond.fieldLink RX7 208 "StrokeBook$Sheets" "lanes" "[I", Cond.fieldLink RX7 211 "StrokeBook$Draft" "size" "I", Cond.methodLink RX7 212 yX7_scanPoint, Cond.instanceMethod yX7_scanPoint, Cond.selects RX7 yX7_scanPoint yX7_scanPoint, Cond.code yX7_scanPoint cX7_scanPoint 9 (some .int), Cond.methodLink RX7 218 yX5_cell, Cond.instanceMethod yX5_cell, Cond.selects RX5 yX5_cell yX5_cell, Cond.code yX5_cell cX5_cell 3 (some .int), Cond.methodLink RX7 215 yX2_cutTo, Cond.instanceMethod yX2_cutTo, Cond.selects RX2 yX2_cutTo yX2_cutTo, Cond.code yX2_cutTo cX2_cutTo 2 none]
def wsL_law_r30 : List Cond := [Cond.methodLink RL 127 yX8_scan, Cond.instanceMethod yX8_scan, Cond.selects RX8 yX8_scan yX8_scan, Cond.code yX8_scan cX8_scan 12 (some .int), Cond.constantLong RX8 213 (20), Cond.methodLink RX8 215 yX8_point, Cond.methodLink RL 128 yX7_count, Cond.instanceMethod yX7_count, Cond.selects RX7 yX7_count yX7_count, Cond.code yX7_count cX7_count 2 (some .int), Cond.methodLink RL 131 yX8_count, Cond.instanceMethod yX8_count, Cond.selects RX8 yX8_count yX8_count, Cond.code yX8_count cX8_count 2 (some .int)]
def wsL_law : List Cond := (wsL_law_r1 ++ (wsL_law_r2 ++ (wsL_law_r3 ++ (wsL_law_r4 ++ (wsL_law_r5 ++ (wsL_law_r6 ++ (wsL_law_r7 ++ (wsL_law_r8 ++ (wsL_law_r9 ++ (wsL_law_r10 ++ (wsL_law_r11 ++ (wsL_law_r12 ++ (wsL_law_r13 ++ (wsL_law_r14 ++ (wsL_law_r15 ++ (wsL_law_r16 ++ (wsL_law_r17 ++ (wsL_law_r18 ++ (wsL_law_r19 ++ (wsL_law_r20 ++ (wsL_law_r21 ++ (wsL_law_r22 ++ (wsL_law_r23 ++ (wsL_law_r24 ++ (wsL_law_r25 ++ (wsL_law_r26 ++ (wsL_law_r27 ++ (wsL_law_r28 ++ (wsL_law_r29 ++ wsL_law_r30))))))))))))))))))))))))))))) ++ wsX70 ++ wsX80 ++ wsX20 ++ wsX60 ++ wsX00 ++ wsX40 ++ wsX10 ++ wsX30 ++ wsX50 ++ ([] : List Cond)
theorem z_mem_r {big : List Cond} (ws : List Cond) (ps : List Nat) (hp : ws = ps.filterMap (fun i => big[i]?)) : ∀ w ∈ ws, w ∈ big := by
  intro w hw
  rw [hp] at hw
  obtain ⟨i, -, hi⟩ := List.mem_filterMap.mp hw
  first | exact List.mem_of_getElem? hi | exact List.getElem?_mem hi
theorem z_mem_app {big a b : List Cond} (ha : ∀ w ∈ a, w ∈ big) (hb : ∀ w ∈ b, w ∈ big) : ∀ w ∈ a ++ b, w ∈ big := fun w h => (List.mem_append.mp h).elim (ha w) (hb w)
set_option maxRecDepth 20000 in
theorem wsL_law_r1_in : ∀ w ∈ wsL_law_r1, w ∈ lw_tbl := z_mem_r _ [46, 47, 34, 597, 598, 42, 48, 49, 50, 51, 52, 53, 54, 55, 35, 231, 84, 85, 36, 232, 109, 110, 37, 233] (by decide +kernel)
set_option maxRecDepth 20000 in
theorem wsL_law_r2_in : ∀ w ∈ wsL_law_r2, w ∈ lw_tbl := z_mem_r _ [143, 144, 38, 234, 159, 160, 39, 235, 184, 185, 40, 236, 211, 212, 41, 237, 82, 238, 239, 240, 57, 58, 59, 60] (by decide +kernel)
set_option maxRecDepth 20000 in
theorem wsL_law_r3_in : ∀ w ∈ wsL_law_r3, w ∈ lw_tbl := z_mem_r _ [61, 83, 62, 63, 65, 67, 87, 88, 89, 90, 92, 95, 98, 112, 113, 114, 115, 117, 119, 121, 123, 125, 127, 146] (by decide +kernel)
set_option maxRecDepth 20000 in
theorem wsL_law_r4_in : ∀ w ∈ wsL_law_r4, w ∈ lw_tbl := z_mem_r _ [147, 148, 149, 150, 151, 162, 163, 164, 165, 166, 167, 169, 170, 187, 188, 189, 190, 192, 194, 196, 198, 214, 215, 216] (by decide +kernel)
set_option maxRecDepth 20000 in
theorem wsL_law_r5_in : ∀ w ∈ wsL_law_r5, w ∈ lw_tbl := z_mem_r _ [217, 219, 220, 221, 599, 600, 601, 602, 604, 605, 606, 607, 608, 610, 611, 612, 614, 615, 616, 617, 618, 619, 621, 622] (by decide +kernel)
set_option maxRecDepth 20000 in
theorem wsL_law_r6_in : ∀ w ∈ wsL_law_r6, w ∈ lw_tbl := z_mem_r _ [624, 626, 627, 628, 629, 632, 633, 634, 262, 263, 264, 265, 266, 267, 268, 269, 700, 701, 702, 703, 704, 705, 603, 706] (by decide +kernel)
set_option maxRecDepth 20000 in
theorem wsL_law_r7_in : ∀ w ∈ wsL_law_r7, w ∈ lw_tbl := z_mem_r _ [707, 708, 270, 271, 272, 273, 274, 275, 276, 277, 709, 710, 711, 712, 278, 279, 280, 281, 282, 283, 284, 285, 286, 287] (by decide +kernel)
set_option maxRecDepth 20000 in
theorem wsL_law_r8_in : ∀ w ∈ wsL_law_r8, w ∈ lw_tbl := z_mem_r _ [288, 289, 290, 291, 43, 292, 713, 714, 715, 716, 717, 719, 15, 720, 721, 722, 723, 293, 294, 295, 296, 315, 64, 297] (by decide +kernel)
set_option maxRecDepth 20000 in
theorem wsL_law_r9_in : ∀ w ∈ wsL_law_r9, w ∈ lw_tbl := z_mem_r _ [298, 299, 300, 301, 302, 303, 304, 305, 307, 0, 308, 309, 310, 311, 312, 313, 43, 314, 724, 725, 726, 727, 729, 730] (by decide +kernel)
set_option maxRecDepth 20000 in
theorem wsL_law_r10_in : ∀ w ∈ wsL_law_r10, w ∈ lw_tbl := z_mem_r _ [728, 731, 733, 16, 734, 735, 736, 737, 316, 317, 318, 319, 66, 320, 321, 322, 323, 324, 325, 327, 1, 328, 329, 330] (by decide +kernel)
set_option maxRecDepth 20000 in
theorem wsL_law_r11_in : ∀ w ∈ wsL_law_r11, w ∈ lw_tbl := z_mem_r _ [331, 332, 333, 334, 335, 337, 2, 338, 738, 739, 740, 741, 742, 744, 17, 745, 746, 747, 339, 340, 341, 342, 99, 343] (by decide +kernel)
set_option maxRecDepth 20000 in
theorem wsL_law_r12_in : ∀ w ∈ wsL_law_r12, w ∈ lw_tbl := z_mem_r _ [344, 345, 346, 347, 349, 348, 44, 350, 351, 352, 353, 357, 354, 355, 356, 748, 749, 750, 751, 752, 753, 609, 754, 756] (by decide +kernel)
set_option maxRecDepth 20000 in
theorem wsL_law_r13_in : ∀ w ∈ wsL_law_r13, w ∈ lw_tbl := z_mem_r _ [18, 757, 613, 358, 359, 360, 361, 91, 94, 97, 124, 366, 362, 363, 364, 365, 367, 368, 369, 370, 371, 758, 759, 760] (by decide +kernel)
set_option maxRecDepth 20000 in
theorem wsL_law_r14_in : ∀ w ∈ wsL_law_r14, w ∈ lw_tbl := z_mem_r _ [761, 762, 764, 19, 765, 766, 768, 20, 769, 770, 772, 21, 773, 372, 373, 374, 375, 126, 118, 116, 120, 122, 376, 377] (by decide +kernel)
set_option maxRecDepth 20000 in
theorem wsL_law_r15_in : ∀ w ∈ wsL_law_r15, w ∈ lw_tbl := z_mem_r _ [378, 379, 380, 774, 775, 776, 777, 381, 382, 383, 384, 778, 779, 780, 781, 385, 386, 387, 388, 782, 783, 784, 785, 389] (by decide +kernel)
set_option maxRecDepth 20000 in
theorem wsL_law_r16_in : ∀ w ∈ wsL_law_r16, w ∈ lw_tbl := z_mem_r _ [390, 391, 392, 786, 787, 788, 789, 393, 394, 395, 396, 397, 790, 791, 792, 793, 794, 620, 398, 399, 400, 401, 402, 403] (by decide +kernel)
set_option maxRecDepth 20000 in
theorem wsL_law_r17_in : ∀ w ∈ wsL_law_r17, w ∈ lw_tbl := z_mem_r _ [404, 405, 406, 93, 96, 431, 407, 409, 3, 410, 411, 413, 4, 414, 415, 417, 5, 418, 419, 420, 422, 6, 423, 430] (by decide +kernel)
set_option maxRecDepth 20000 in
theorem wsL_law_r18_in : ∀ w ∈ wsL_law_r18, w ∈ lw_tbl := z_mem_r _ [424, 425, 45, 426, 427, 428, 429, 432, 434, 7, 435, 795, 796, 797, 798, 799, 801, 22, 802, 803, 805, 23, 806, 807] (by decide +kernel)
set_option maxRecDepth 20000 in
theorem wsL_law_r19_in : ∀ w ∈ wsL_law_r19, w ∈ lw_tbl := z_mem_r _ [809, 24, 810, 811, 813, 25, 814, 815, 817, 26, 818, 819, 821, 27, 822, 436, 437, 438, 439, 440, 442, 8, 443, 823] (by decide +kernel)
set_option maxRecDepth 20000 in
theorem wsL_law_r20_in : ∀ w ∈ wsL_law_r20, w ∈ lw_tbl := z_mem_r _ [824, 825, 826, 444, 445, 446, 447, 448, 450, 9, 451, 827, 828, 829, 830, 831, 452, 453, 454, 455, 456, 457, 458, 459] (by decide +kernel)
set_option maxRecDepth 20000 in
theorem wsL_law_r21_in : ∀ w ∈ wsL_law_r21, w ∈ lw_tbl := z_mem_r _ [832, 833, 834, 835, 623, 836, 460, 461, 462, 463, 464, 466, 10, 467, 837, 838, 839, 840, 841, 843, 28, 844, 468, 469] (by decide +kernel)
set_option maxRecDepth 20000 in
theorem wsL_law_r22_in : ∀ w ∈ wsL_law_r22, w ∈ lw_tbl := z_mem_r _ [470, 471, 845, 846, 847, 848, 472, 473, 474, 475, 172, 476, 477, 478, 479, 480, 481, 482, 483, 849, 850, 851, 852, 853] (by decide +kernel)
set_option maxRecDepth 20000 in
theorem wsL_law_r23_in : ∀ w ∈ wsL_law_r23, w ∈ lw_tbl := z_mem_r _ [625, 484, 485, 486, 487, 199, 488, 489, 490, 491, 168, 512, 492, 494, 11, 495, 171, 496, 497, 498, 499, 500, 502, 12] (by decide +kernel)
set_option maxRecDepth 20000 in
theorem wsL_law_r24_in : ∀ w ∈ wsL_law_r24, w ∈ lw_tbl := z_mem_r _ [503, 504, 505, 506, 507, 508, 509, 510, 511, 854, 855, 856, 857, 858, 860, 29, 861, 630, 631, 862, 864, 30, 865, 866] (by decide +kernel)
set_option maxRecDepth 20000 in
theorem wsL_law_r25_in : ∀ w ∈ wsL_law_r25, w ∈ lw_tbl := z_mem_r _ [868, 31, 869, 513, 514, 515, 516, 193, 195, 870, 871, 872, 873, 517, 518, 519, 520, 521, 522, 523, 524, 525, 526, 528] (by decide +kernel)
set_option maxRecDepth 20000 in
theorem wsL_law_r26_in : ∀ w ∈ wsL_law_r26, w ∈ lw_tbl := z_mem_r _ [13, 529, 530, 531, 874, 875, 876, 877, 878, 880, 32, 881, 532, 533, 534, 535, 197, 191, 882, 883, 884, 885, 536, 537] (by decide +kernel)
set_option maxRecDepth 20000 in
theorem wsL_law_r27_in : ∀ w ∈ wsL_law_r27, w ∈ lw_tbl := z_mem_r _ [538, 539, 540, 541, 542, 543, 886, 887, 888, 889, 544, 545, 546, 547, 548, 549, 550, 551, 552, 553, 554, 555, 556, 557] (by decide +kernel)
set_option maxRecDepth 20000 in
theorem wsL_law_r28_in : ∀ w ∈ wsL_law_r28, w ∈ lw_tbl := z_mem_r _ [890, 891, 892, 893, 894, 895, 896, 558, 559, 560, 561, 562, 563, 564, 565, 566, 567, 568, 569, 570, 571, 572, 573, 574] (by decide +kernel)
set_option maxRecDepth 20000 in
theorem wsL_law_r29_in : ∀ w ∈ wsL_law_r29, w ∈ lw_tbl := z_mem_r _ [575, 576, 897, 898, 899, 900, 577, 578, 579, 580, 218, 68, 581, 583, 14, 584, 585, 586, 587, 588, 589, 590, 591, 592] (by decide +kernel)
set_option maxRecDepth 20000 in
theorem wsL_law_r30_in : ∀ w ∈ wsL_law_r30, w ∈ lw_tbl := z_mem_r _ [901, 902, 903, 904, 905, 906, 593, 594, 595, 596, 907, 908, 909, 910] (by decide +kernel)
set_option maxRecDepth 20000 in
theorem wsL_X7_in : ∀ w ∈ wsX70, w ∈ lw_tbl := z_mem_r _ [241, 243, 245, 247, 249, 251, 253, 255, 257, 259] (by decide +kernel)
set_option maxRecDepth 20000 in
theorem wsL_X8_in : ∀ w ∈ wsX80, w ∈ lw_tbl := z_mem_r _ [635, 637, 639, 641, 643, 645, 647, 649, 651, 653, 655, 657, 659, 661, 663, 665, 667, 669, 671, 673, 675, 677, 679, 681, 683, 685, 687, 689, 691, 693, 695, 697] (by decide +kernel)
set_option maxRecDepth 20000 in
theorem wsL_X2_in : ∀ w ∈ wsX20, w ∈ lw_tbl := z_mem_r _ [69, 71, 73, 75, 77, 79] (by decide +kernel)
set_option maxRecDepth 20000 in
theorem wsL_X6_in : ∀ w ∈ wsX60, w ∈ lw_tbl := z_mem_r _ [100, 102, 104, 106] (by decide +kernel)
set_option maxRecDepth 20000 in
theorem wsL_X0_in : ∀ w ∈ wsX00, w ∈ lw_tbl := z_mem_r _ [128, 130, 132, 134, 136, 138, 140] (by decide +kernel)
set_option maxRecDepth 20000 in
theorem wsL_X4_in : ∀ w ∈ wsX40, w ∈ lw_tbl := z_mem_r _ [152, 154, 156] (by decide +kernel)
set_option maxRecDepth 20000 in
theorem wsL_X1_in : ∀ w ∈ wsX10, w ∈ lw_tbl := z_mem_r _ [173, 175, 177, 179, 181] (by decide +kernel)
set_option maxRecDepth 20000 in
theorem wsL_X3_in : ∀ w ∈ wsX30, w ∈ lw_tbl := z_mem_r _ [200, 202, 204, 206, 208] (by decide +kernel)
set_option maxRecDepth 20000 in
theorem wsL_X5_in : ∀ w ∈ wsX50, w ∈ lw_tbl := z_mem_r _ [222, 224, 226, 228] (by decide +kernel)
theorem wsL_law_in : ∀ w ∈ wsL_law, w ∈ lw_tbl := (z_mem_app (z_mem_app (z_mem_app (z_mem_app (z_mem_app (z_mem_app (z_mem_app (z_mem_app (z_mem_app (z_mem_app (z_mem_app wsL_law_r1_in (z_mem_app wsL_law_r2_in (z_mem_app wsL_law_r3_in (z_mem_app wsL_law_r4_in (z_mem_app wsL_law_r5_in (z_mem_app wsL_law_r6_in (z_mem_app wsL_law_r7_in (z_mem_app wsL_law_r8_in (z_mem_app wsL_law_r9_in (z_mem_app wsL_law_r10_in (z_mem_app wsL_law_r11_in (z_mem_app wsL_law_r12_in (z_mem_app wsL_law_r13_in (z_mem_app wsL_law_r14_in (z_mem_app wsL_law_r15_in (z_mem_app wsL_law_r16_in (z_mem_app wsL_law_r17_in (z_mem_app wsL_law_r18_in (z_mem_app wsL_law_r19_in (z_mem_app wsL_law_r20_in (z_mem_app wsL_law_r21_in (z_mem_app wsL_law_r22_in (z_mem_app wsL_law_r23_in (z_mem_app wsL_law_r24_in (z_mem_app wsL_law_r25_in (z_mem_app wsL_law_r26_in (z_mem_app wsL_law_r27_in (z_mem_app wsL_law_r28_in (z_mem_app wsL_law_r29_in wsL_law_r30_in))))))))))))))))))))))))))))) wsL_X7_in) wsL_X8_in) wsL_X2_in) wsL_X6_in) wsL_X0_in) wsL_X4_in) wsL_X1_in) wsL_X3_in) wsL_X5_in) (fun _ h => absurd h List.not_mem_nil))
theorem inlX0 : ∀ w ∈ wsX00, w ∈ wsL_law := fun _ h => List.mem_append_left _ (List.mem_append_left _ (List.mem_append_left _ (List.mem_append_left _ (List.mem_append_left _ (List.mem_append_right _ h)))))
theorem inX0 : ∀ w ∈ wsX00, w ∈ lw_tbl := fun w h => wsL_law_in w (inlX0 w h)
theorem inlX1 : ∀ w ∈ wsX10, w ∈ wsL_law := fun _ h => List.mem_append_left _ (List.mem_append_left _ (List.mem_append_left _ (List.mem_append_right _ h)))
theorem inX1 : ∀ w ∈ wsX10, w ∈ lw_tbl := fun w h => wsL_law_in w (inlX1 w h)
theorem inlX2 : ∀ w ∈ wsX20, w ∈ wsL_law := fun _ h => List.mem_append_left _ (List.mem_append_left _ (List.mem_append_left _ (List.mem_append_left _ (List.mem_append_left _ (List.mem_append_left _ (List.mem_append_left _ (List.mem_append_right _ h)))))))
theorem inX2 : ∀ w ∈ wsX20, w ∈ lw_tbl := fun w h => wsL_law_in w (inlX2 w h)
theorem inlX3 : ∀ w ∈ wsX30, w ∈ wsL_law := fun _ h => List.mem_append_left _ (List.mem_append_left _ (List.mem_append_right _ h))
theorem inX3 : ∀ w ∈ wsX30, w ∈ lw_tbl := fun w h => wsL_law_in w (inlX3 w h)
theorem inlX4 : ∀ w ∈ wsX40, w ∈ wsL_law := fun _ h => List.mem_append_left _ (List.mem_append_left _ (List.mem_append_left _ (List.mem_append_left _ (List.mem_append_right _ h))))
theorem inX4 : ∀ w ∈ wsX40, w ∈ lw_tbl := fun w h => wsL_law_in w (inlX4 w h)
theorem inlX5 : ∀ w ∈ wsX50, w ∈ wsL_law := fun _ h => List.mem_append_left _ (List.mem_append_right _ h)
theorem inX5 : ∀ w ∈ wsX50, w ∈ lw_tbl := fun w h => wsL_law_in w (inlX5 w h)
theorem inlX6 : ∀ w ∈ wsX60, w ∈ wsL_law := fun _ h => List.mem_append_left _ (List.mem_append_left _ (List.mem_append_left _ (List.mem_append_left _ (List.mem_append_left _ (List.mem_append_left _ (List.mem_append_right _ h))))))
theorem inX6 : ∀ w ∈ wsX60, w ∈ lw_tbl := fun w h => wsL_law_in w (inlX6 w h)
theorem inlX7 : ∀ w ∈ wsX70, w ∈ wsL_law := fun _ h => List.mem_append_left _ (List.mem_append_left _ (List.mem_append_left _ (List.mem_append_left _ (List.mem_append_left _ (List.mem_append_left _ (List.mem_append_left _ (List.mem_append_left _ (List.mem_append_left _ (List.mem_append_right _ h)))))))))
theorem inX7 : ∀ w ∈ wsX70, w ∈ lw_tbl := fun w h => wsL_law_in w (inlX7 w h)
theorem inlX8 : ∀ w ∈ wsX80, w ∈ wsL_law := fun _ h => List.mem_append_left _ (List.mem_append_left _ (List.mem_append_left _ (List.mem_append_left _ (List.mem_append_left _ (List.mem_append_left _ (List.mem_append_left _ (List.mem_append_left _ (List.mem_append_right _ h))))))))
theorem inX8 : ∀ w ∈ wsX80, w ∈ lw_tbl := fun w h => wsL_law_in w (inlX8 w h)
theorem inJ6 : ∀ w ∈ wsJ60, w ∈ lw_tbl := by decide +kernel
theorem inJ9 : ∀ w ∈ wsJ90, w ∈ lw_tbl := by decide +kernel
theorem inJ10 : ∀ w ∈ wsJ100, w ∈ lw_tbl := by decide +kernel
abbrev vwCl : List vw_C := [(RX0, TX0, 7), (RX1, TX1, 5), (RX2, TX2, 6), (RX3, TX3, 5), (RX4, TX4, 3), (RX5, TX5, 4), (RX6, TX6, 4), (RX7, TX7, 10), (RX8, TX8, 32)]
end
section
theorem dX0_init_0 : decode cX0_init 0 = .ok (.aload_n 0, 1) := by decide +kernel
theorem dX0_init_1 : decode cX0_init 1 = .ok (.invokespecial 3, 3) := by decide +kernel
theorem dX0_init_4 : decode cX0_init 4 = .ok (.aload_n 0, 1) := by decide +kernel
theorem dX0_init_5 : decode cX0_init 5 = .ok (.bipush 6, 2) := by decide +kernel
theorem dX0_init_7 : decode cX0_init 7 = .ok (.newarray .int, 2) := by decide +kernel
theorem dX0_init_9 : decode cX0_init 9 = .ok (.putfield 11, 3) := by decide +kernel
theorem dX0_init_12 : decode cX0_init 12 = .ok (.aload_n 0, 1) := by decide +kernel
theorem dX0_init_13 : decode cX0_init 13 = .ok (.bipush 6, 2) := by decide +kernel
theorem dX0_init_15 : decode cX0_init 15 = .ok (.newarray .int, 2) := by decide +kernel
theorem dX0_init_17 : decode cX0_init 17 = .ok (.putfield 15, 3) := by decide +kernel
theorem dX0_init_20 : decode cX0_init 20 = .ok (.aload_n 0, 1) := by decide +kernel
theorem dX0_init_21 : decode cX0_init 21 = .ok (.bipush 6, 2) := by decide +kernel
theorem dX0_init_23 : decode cX0_init 23 = .ok (.newarray .int, 2) := by decide +kernel
theorem dX0_init_25 : decode cX0_init 25 = .ok (.putfield 18, 3) := by decide +kernel
theorem dX0_init_28 : decode cX0_init 28 = .ok (.aload_n 0, 1) := by decide +kernel
theorem dX0_init_29 : decode cX0_init 29 = .ok (.bipush 6, 2) := by decide +kernel
theorem dX0_init_31 : decode cX0_init 31 = .ok (.newarray .int, 2) := by decide +kernel
theorem dX0_init_33 : decode cX0_init 33 = .ok (.putfield 21, 3) := by decide +kernel
theorem dX0_init_36 : decode cX0_init 36 = .ok (.aload_n 0, 1) := by decide +kernel
theorem dX0_init_37 : decode cX0_init 37 = .ok (.bipush 96, 2) := by decide +kernel
theorem dX0_init_39 : decode cX0_init 39 = .ok (.newarray .int, 2) := by decide +kernel
theorem dX0_init_41 : decode cX0_init 41 = .ok (.putfield 24, 3) := by decide +kernel
theorem dX0_init_44 : decode cX0_init 44 = .ok (.aload_n 0, 1) := by decide +kernel
theorem dX0_init_45 : decode cX0_init 45 = .ok (.iconst 0, 1) := by decide +kernel
theorem dX0_init_46 : decode cX0_init 46 = .ok (.putfield 27, 3) := by decide +kernel
theorem dX0_init_49 : decode cX0_init 49 = .ok (.aload_n 0, 1) := by decide +kernel
theorem dX0_init_50 : decode cX0_init 50 = .ok (.iconst 0, 1) := by decide +kernel
theorem dX0_init_51 : decode cX0_init 51 = .ok (.putfield 31, 3) := by decide +kernel
theorem dX0_init_54 : decode cX0_init 54 = .ok (.return_, 1) := by decide +kernel
set_option maxRecDepth 20000 in
theorem ggX0_push_J9_floorMod_7cf53 : GoodIn wsX0_push wsJ9_floorMod_7cf53 := goodIn_r _ [14] (by decide +kernel) (by decide +kernel)
set_option maxRecDepth 20000 in
theorem gX0_push_J9_floorMod_7cf53 : GoodIn wsX0_push (va_wsS RX0 34 yJ9_floorMod_7cf53 wsJ9_floorMod_7cf53) := goodIn_app (goodIn_of _ (by decide +kernel)) ggX0_push_J9_floorMod_7cf53
theorem dX0_push_0 : decode cX0_push 0 = .ok (.aload_n 0, 1) := by decide +kernel
theorem dX0_push_1 : decode cX0_push 1 = .ok (.getfield 31, 3) := by decide +kernel
theorem dX0_push_4 : decode cX0_push 4 = .ok (.istore 5, 2) := by decide +kernel
theorem dX0_push_6 : decode cX0_push 6 = .ok (.aload_n 0, 1) := by decide +kernel
theorem dX0_push_7 : decode cX0_push 7 = .ok (.getfield 11, 3) := by decide +kernel
theorem dX0_push_10 : decode cX0_push 10 = .ok (.iload 5, 2) := by decide +kernel
theorem dX0_push_12 : decode cX0_push 12 = .ok (.iload_n 1, 1) := by decide +kernel
theorem dX0_push_13 : decode cX0_push 13 = .ok (.iastore, 1) := by decide +kernel
theorem dX0_push_14 : decode cX0_push 14 = .ok (.aload_n 0, 1) := by decide +kernel
theorem dX0_push_15 : decode cX0_push 15 = .ok (.getfield 15, 3) := by decide +kernel
theorem dX0_push_18 : decode cX0_push 18 = .ok (.iload 5, 2) := by decide +kernel
theorem dX0_push_20 : decode cX0_push 20 = .ok (.iload_n 2, 1) := by decide +kernel
theorem dX0_push_21 : decode cX0_push 21 = .ok (.iastore, 1) := by decide +kernel
theorem dX0_push_22 : decode cX0_push 22 = .ok (.aload_n 0, 1) := by decide +kernel
theorem dX0_push_23 : decode cX0_push 23 = .ok (.getfield 18, 3) := by decide +kernel
theorem dX0_push_26 : decode cX0_push 26 = .ok (.iload 5, 2) := by decide +kernel
theorem dX0_push_28 : decode cX0_push 28 = .ok (.iload_n 3, 1) := by decide +kernel
theorem dX0_push_29 : decode cX0_push 29 = .ok (.iastore, 1) := by decide +kernel
theorem dX0_push_30 : decode cX0_push 30 = .ok (.aload_n 0, 1) := by decide +kernel
theorem dX0_push_31 : decode cX0_push 31 = .ok (.getfield 21, 3) := by decide +kernel
theorem dX0_push_34 : decode cX0_push 34 = .ok (.iload 5, 2) := by decide +kernel
theorem dX0_push_36 : decode cX0_push 36 = .ok (.iload 4, 2) := by decide +kernel
theorem dX0_push_38 : decode cX0_push 38 = .ok (.iastore, 1) := by decide +kernel
theorem dX0_push_39 : decode cX0_push 39 = .ok (.aload_n 0, 1) := by decide +kernel
theorem dX0_push_40 : decode cX0_push 40 = .ok (.aload_n 0, 1) := by decide +kernel
theorem dX0_push_41 : decode cX0_push 41 = .ok (.getfield 31, 3) := by decide +kernel
theorem dX0_push_44 : decode cX0_push 44 = .ok (.iconst 1, 1) := by decide +kernel
theorem dX0_push_45 : decode cX0_push 45 = .ok (.iadd, 1) := by decide +kernel
theorem dX0_push_46 : decode cX0_push 46 = .ok (.bipush 6, 2) := by decide +kernel
theorem dX0_push_48 : decode cX0_push 48 = .ok (.invokestatic 34, 3) := by decide +kernel
theorem dX0_push_51 : decode cX0_push 51 = .ok (.putfield 31, 3) := by decide +kernel
theorem dX0_push_54 : decode cX0_push 54 = .ok (.aload_n 0, 1) := by decide +kernel
theorem dX0_push_55 : decode cX0_push 55 = .ok (.aload_n 0, 1) := by decide +kernel
theorem dX0_push_56 : decode cX0_push 56 = .ok (.getfield 27, 3) := by decide +kernel
theorem dX0_push_59 : decode cX0_push 59 = .ok (.iconst 1, 1) := by decide +kernel
theorem dX0_push_60 : decode cX0_push 60 = .ok (.iadd, 1) := by decide +kernel
theorem dX0_push_61 : decode cX0_push 61 = .ok (.bipush 6, 2) := by decide +kernel
theorem dX0_push_63 : decode cX0_push 63 = .ok (.invokestatic 40, 3) := by decide +kernel
theorem dX0_push_66 : decode cX0_push 66 = .ok (.putfield 27, 3) := by decide +kernel
theorem dX0_push_69 : decode cX0_push 69 = .ok (.iload 5, 2) := by decide +kernel
theorem dX0_push_71 : decode cX0_push 71 = .ok (.ireturn, 1) := by decide +kernel
set_option maxRecDepth 20000 in
theorem ggX0_pop_J9_floorMod_7cf53 : GoodIn wsX0_pop wsJ9_floorMod_7cf53 := goodIn_r _ [10] (by decide +kernel) (by decide +kernel)
set_option maxRecDepth 20000 in
theorem gX0_pop_J9_floorMod_7cf53 : GoodIn wsX0_pop (va_wsS RX0 34 yJ9_floorMod_7cf53 wsJ9_floorMod_7cf53) := goodIn_app (goodIn_of _ (by decide +kernel)) ggX0_pop_J9_floorMod_7cf53
theorem dX0_pop_0 : decode cX0_pop 0 = .ok (.aload_n 0, 1) := by decide +kernel
theorem dX0_pop_1 : decode cX0_pop 1 = .ok (.aload_n 0, 1) := by decide +kernel
theorem dX0_pop_2 : decode cX0_pop 2 = .ok (.getfield 31, 3) := by decide +kernel
theorem dX0_pop_5 : decode cX0_pop 5 = .ok (.iconst 1, 1) := by decide +kernel
theorem dX0_pop_6 : decode cX0_pop 6 = .ok (.isub, 1) := by decide +kernel
theorem dX0_pop_7 : decode cX0_pop 7 = .ok (.bipush 6, 2) := by decide +kernel
theorem dX0_pop_9 : decode cX0_pop 9 = .ok (.invokestatic 34, 3) := by decide +kernel
theorem dX0_pop_12 : decode cX0_pop 12 = .ok (.putfield 31, 3) := by decide +kernel
theorem dX0_pop_15 : decode cX0_pop 15 = .ok (.aload_n 0, 1) := by decide +kernel
theorem dX0_pop_16 : decode cX0_pop 16 = .ok (.aload_n 0, 1) := by decide +kernel
theorem dX0_pop_17 : decode cX0_pop 17 = .ok (.getfield 27, 3) := by decide +kernel
theorem dX0_pop_20 : decode cX0_pop 20 = .ok (.iconst 1, 1) := by decide +kernel
theorem dX0_pop_21 : decode cX0_pop 21 = .ok (.isub, 1) := by decide +kernel
theorem dX0_pop_22 : decode cX0_pop 22 = .ok (.iconst 0, 1) := by decide +kernel
theorem dX0_pop_23 : decode cX0_pop 23 = .ok (.invokestatic 43, 3) := by decide +kernel
theorem dX0_pop_26 : decode cX0_pop 26 = .ok (.putfield 27, 3) := by decide +kernel
theorem dX0_pop_29 : decode cX0_pop 29 = .ok (.aload_n 0, 1) := by decide +kernel
theorem dX0_pop_30 : decode cX0_pop 30 = .ok (.getfield 31, 3) := by decide +kernel
theorem dX0_pop_33 : decode cX0_pop 33 = .ok (.ireturn, 1) := by decide +kernel
theorem dX1_init_0 : decode cX1_init 0 = .ok (.aload_n 0, 1) := by decide +kernel
theorem dX1_init_1 : decode cX1_init 1 = .ok (.invokespecial 1, 3) := by decide +kernel
theorem dX1_init_4 : decode cX1_init 4 = .ok (.aload_n 0, 1) := by decide +kernel
theorem dX1_init_5 : decode cX1_init 5 = .ok (.bipush 10, 2) := by decide +kernel
theorem dX1_init_7 : decode cX1_init 7 = .ok (.newarray .int, 2) := by decide +kernel
theorem dX1_init_9 : decode cX1_init 9 = .ok (.putfield 9, 3) := by decide +kernel
theorem dX1_init_12 : decode cX1_init 12 = .ok (.aload_n 0, 1) := by decide +kernel
theorem dX1_init_13 : decode cX1_init 13 = .ok (.bipush 10, 2) := by decide +kernel
theorem dX1_init_15 : decode cX1_init 15 = .ok (.newarray .int, 2) := by decide +kernel
theorem dX1_init_17 : decode cX1_init 17 = .ok (.putfield 13, 3) := by decide +kernel
theorem dX1_init_20 : decode cX1_init 20 = .ok (.aload_n 0, 1) := by decide +kernel
theorem dX1_init_21 : decode cX1_init 21 = .ok (.bipush 10, 2) := by decide +kernel
theorem dX1_init_23 : decode cX1_init 23 = .ok (.newarray .int, 2) := by decide +kernel
theorem dX1_init_25 : decode cX1_init 25 = .ok (.putfield 16, 3) := by decide +kernel
theorem dX1_init_28 : decode cX1_init 28 = .ok (.aload_n 0, 1) := by decide +kernel
theorem dX1_init_29 : decode cX1_init 29 = .ok (.bipush 40, 2) := by decide +kernel
theorem dX1_init_31 : decode cX1_init 31 = .ok (.newarray .int, 2) := by decide +kernel
theorem dX1_init_33 : decode cX1_init 33 = .ok (.putfield 19, 3) := by decide +kernel
theorem dX1_init_36 : decode cX1_init 36 = .ok (.aload_n 0, 1) := by decide +kernel
theorem dX1_init_37 : decode cX1_init 37 = .ok (.iconst 0, 1) := by decide +kernel
theorem dX1_init_38 : decode cX1_init 38 = .ok (.putfield 22, 3) := by decide +kernel
theorem dX1_init_41 : decode cX1_init 41 = .ok (.return_, 1) := by decide +kernel
theorem dX1_open_0 : decode cX1_open 0 = .ok (.aload_n 0, 1) := by decide +kernel
theorem dX1_open_1 : decode cX1_open 1 = .ok (.getfield 22, 3) := by decide +kernel
theorem dX1_open_4 : decode cX1_open 4 = .ok (.istore 4, 2) := by decide +kernel
theorem dX1_open_6 : decode cX1_open 6 = .ok (.aload_n 0, 1) := by decide +kernel
theorem dX1_open_7 : decode cX1_open 7 = .ok (.getfield 9, 3) := by decide +kernel
theorem dX1_open_10 : decode cX1_open 10 = .ok (.iload 4, 2) := by decide +kernel
theorem dX1_open_12 : decode cX1_open 12 = .ok (.iload_n 1, 1) := by decide +kernel
theorem dX1_open_13 : decode cX1_open 13 = .ok (.iastore, 1) := by decide +kernel
theorem dX1_open_14 : decode cX1_open 14 = .ok (.aload_n 0, 1) := by decide +kernel
theorem dX1_open_15 : decode cX1_open 15 = .ok (.getfield 13, 3) := by decide +kernel
theorem dX1_open_18 : decode cX1_open 18 = .ok (.iload 4, 2) := by decide +kernel
theorem dX1_open_20 : decode cX1_open 20 = .ok (.iload_n 2, 1) := by decide +kernel
theorem dX1_open_21 : decode cX1_open 21 = .ok (.iastore, 1) := by decide +kernel
theorem dX1_open_22 : decode cX1_open 22 = .ok (.aload_n 0, 1) := by decide +kernel
theorem dX1_open_23 : decode cX1_open 23 = .ok (.getfield 16, 3) := by decide +kernel
theorem dX1_open_26 : decode cX1_open 26 = .ok (.iload 4, 2) := by decide +kernel
theorem dX1_open_28 : decode cX1_open 28 = .ok (.iload_n 3, 1) := by decide +kernel
theorem dX1_open_29 : decode cX1_open 29 = .ok (.iastore, 1) := by decide +kernel
theorem dX1_open_30 : decode cX1_open 30 = .ok (.aload_n 0, 1) := by decide +kernel
theorem dX1_open_31 : decode cX1_open 31 = .ok (.dup, 1) := by decide +kernel
theorem dX1_open_32 : decode cX1_open 32 = .ok (.getfield 22, 3) := by decide +kernel
theorem dX1_open_35 : decode cX1_open 35 = .ok (.iconst 1, 1) := by decide +kernel
theorem dX1_open_36 : decode cX1_open 36 = .ok (.iadd, 1) := by decide +kernel
theorem dX1_open_37 : decode cX1_open 37 = .ok (.putfield 22, 3) := by decide +kernel
theorem dX1_open_40 : decode cX1_open 40 = .ok (.iload 4, 2) := by decide +kernel
theorem dX1_open_42 : decode cX1_open 42 = .ok (.ireturn, 1) := by decide +kernel
theorem dX1_put_0 : decode cX1_put 0 = .ok (.aload_n 0, 1) := by decide +kernel
theorem dX1_put_1 : decode cX1_put 1 = .ok (.getfield 19, 3) := by decide +kernel
theorem dX1_put_4 : decode cX1_put 4 = .ok (.iload_n 1, 1) := by decide +kernel
theorem dX1_put_5 : decode cX1_put 5 = .ok (.iconst 4, 1) := by decide +kernel
theorem dX1_put_6 : decode cX1_put 6 = .ok (.imul, 1) := by decide +kernel
theorem dX1_put_7 : decode cX1_put 7 = .ok (.iload_n 2, 1) := by decide +kernel
theorem dX1_put_8 : decode cX1_put 8 = .ok (.iadd, 1) := by decide +kernel
theorem dX1_put_9 : decode cX1_put 9 = .ok (.iload_n 3, 1) := by decide +kernel
theorem dX1_put_10 : decode cX1_put 10 = .ok (.iastore, 1) := by decide +kernel
theorem dX1_put_11 : decode cX1_put 11 = .ok (.return_, 1) := by decide +kernel
theorem dX1_labelAt_0 : decode cX1_labelAt 0 = .ok (.aload_n 0, 1) := by decide +kernel
theorem dX1_labelAt_1 : decode cX1_labelAt 1 = .ok (.getfield 19, 3) := by decide +kernel
theorem dX1_labelAt_4 : decode cX1_labelAt 4 = .ok (.iload_n 1, 1) := by decide +kernel
theorem dX1_labelAt_5 : decode cX1_labelAt 5 = .ok (.iconst 4, 1) := by decide +kernel
theorem dX1_labelAt_6 : decode cX1_labelAt 6 = .ok (.imul, 1) := by decide +kernel
theorem dX1_labelAt_7 : decode cX1_labelAt 7 = .ok (.iload_n 2, 1) := by decide +kernel
theorem dX1_labelAt_8 : decode cX1_labelAt 8 = .ok (.iadd, 1) := by decide +kernel
theorem dX1_labelAt_9 : decode cX1_labelAt 9 = .ok (.iaload, 1) := by decide +kernel
theorem dX1_labelAt_10 : decode cX1_labelAt 10 = .ok (.ireturn, 1) := by decide +kernel
theorem dX1_isOf_0 : decode cX1_isOf 0 = .ok (.aload_n 0, 1) := by decide +kernel
theorem dX1_isOf_1 : decode cX1_isOf 1 = .ok (.getfield 9, 3) := by decide +kernel
theorem dX1_isOf_4 : decode cX1_isOf 4 = .ok (.iload_n 1, 1) := by decide +kernel
theorem dX1_isOf_5 : decode cX1_isOf 5 = .ok (.iaload, 1) := by decide +kernel
theorem dX1_isOf_6 : decode cX1_isOf 6 = .ok (.iload_n 2, 1) := by decide +kernel
theorem dX1_isOf_7 : decode cX1_isOf 7 = .ok (.if_icmp .eq 12, 3) := by decide +kernel
theorem dX1_isOf_10 : decode cX1_isOf 10 = .ok (.aload_n 0, 1) := by decide +kernel
theorem dX1_isOf_11 : decode cX1_isOf 11 = .ok (.getfield 9, 3) := by decide +kernel
theorem dX1_isOf_14 : decode cX1_isOf 14 = .ok (.iload_n 1, 1) := by decide +kernel
theorem dX1_isOf_15 : decode cX1_isOf 15 = .ok (.iaload, 1) := by decide +kernel
theorem dX1_isOf_16 : decode cX1_isOf 16 = .ok (.ifCond .ne 7, 3) := by decide +kernel
theorem dX1_isOf_19 : decode cX1_isOf 19 = .ok (.iconst 1, 1) := by decide +kernel
theorem dX1_isOf_20 : decode cX1_isOf 20 = .ok (.goto 4, 3) := by decide +kernel
theorem dX1_isOf_23 : decode cX1_isOf 23 = .ok (.iconst 0, 1) := by decide +kernel
theorem dX1_isOf_24 : decode cX1_isOf 24 = .ok (.ireturn, 1) := by decide +kernel
theorem dX1_goesBefore_0 : decode cX1_goesBefore 0 = .ok (.aload_n 0, 1) := by decide +kernel
theorem dX1_goesBefore_1 : decode cX1_goesBefore 1 = .ok (.getfield 16, 3) := by decide +kernel
theorem dX1_goesBefore_4 : decode cX1_goesBefore 4 = .ok (.iload_n 1, 1) := by decide +kernel
theorem dX1_goesBefore_5 : decode cX1_goesBefore 5 = .ok (.iaload, 1) := by decide +kernel
theorem dX1_goesBefore_6 : decode cX1_goesBefore 6 = .ok (.aload_n 0, 1) := by decide +kernel
theorem dX1_goesBefore_7 : decode cX1_goesBefore 7 = .ok (.getfield 16, 3) := by decide +kernel
theorem dX1_goesBefore_10 : decode cX1_goesBefore 10 = .ok (.iload_n 2, 1) := by decide +kernel
theorem dX1_goesBefore_11 : decode cX1_goesBefore 11 = .ok (.iaload, 1) := by decide +kernel
theorem dX1_goesBefore_12 : decode cX1_goesBefore 12 = .ok (.if_icmp .eq 24, 3) := by decide +kernel
theorem dX1_goesBefore_15 : decode cX1_goesBefore 15 = .ok (.aload_n 0, 1) := by decide +kernel
theorem dX1_goesBefore_16 : decode cX1_goesBefore 16 = .ok (.getfield 16, 3) := by decide +kernel
theorem dX1_goesBefore_19 : decode cX1_goesBefore 19 = .ok (.iload_n 1, 1) := by decide +kernel
theorem dX1_goesBefore_20 : decode cX1_goesBefore 20 = .ok (.iaload, 1) := by decide +kernel
theorem dX1_goesBefore_21 : decode cX1_goesBefore 21 = .ok (.aload_n 0, 1) := by decide +kernel
theorem dX1_goesBefore_22 : decode cX1_goesBefore 22 = .ok (.getfield 16, 3) := by decide +kernel
theorem dX1_goesBefore_25 : decode cX1_goesBefore 25 = .ok (.iload_n 2, 1) := by decide +kernel
theorem dX1_goesBefore_26 : decode cX1_goesBefore 26 = .ok (.iaload, 1) := by decide +kernel
theorem dX1_goesBefore_27 : decode cX1_goesBefore 27 = .ok (.if_icmp .le 7, 3) := by decide +kernel
theorem dX1_goesBefore_30 : decode cX1_goesBefore 30 = .ok (.iconst 1, 1) := by decide +kernel
theorem dX1_goesBefore_31 : decode cX1_goesBefore 31 = .ok (.goto 4, 3) := by decide +kernel
theorem dX1_goesBefore_34 : decode cX1_goesBefore 34 = .ok (.iconst 0, 1) := by decide +kernel
theorem dX1_goesBefore_35 : decode cX1_goesBefore 35 = .ok (.ireturn, 1) := by decide +kernel
theorem dX1_goesBefore_36 : decode cX1_goesBefore 36 = .ok (.aload_n 0, 1) := by decide +kernel
theorem dX1_goesBefore_37 : decode cX1_goesBefore 37 = .ok (.getfield 13, 3) := by decide +kernel
theorem dX1_goesBefore_40 : decode cX1_goesBefore 40 = .ok (.iload_n 1, 1) := by decide +kernel
theorem dX1_goesBefore_41 : decode cX1_goesBefore 41 = .ok (.iaload, 1) := by decide +kernel
theorem dX1_goesBefore_42 : decode cX1_goesBefore 42 = .ok (.aload_n 0, 1) := by decide +kernel
theorem dX1_goesBefore_43 : decode cX1_goesBefore 43 = .ok (.getfield 13, 3) := by decide +kernel
theorem dX1_goesBefore_46 : decode cX1_goesBefore 46 = .ok (.iload_n 2, 1) := by decide +kernel
theorem dX1_goesBefore_47 : decode cX1_goesBefore 47 = .ok (.iaload, 1) := by decide +kernel
theorem dX1_goesBefore_48 : decode cX1_goesBefore 48 = .ok (.if_icmp .eq 24, 3) := by decide +kernel
theorem dX1_goesBefore_51 : decode cX1_goesBefore 51 = .ok (.aload_n 0, 1) := by decide +kernel
theorem dX1_goesBefore_52 : decode cX1_goesBefore 52 = .ok (.getfield 13, 3) := by decide +kernel
theorem dX1_goesBefore_55 : decode cX1_goesBefore 55 = .ok (.iload_n 1, 1) := by decide +kernel
theorem dX1_goesBefore_56 : decode cX1_goesBefore 56 = .ok (.iaload, 1) := by decide +kernel
theorem dX1_goesBefore_57 : decode cX1_goesBefore 57 = .ok (.aload_n 0, 1) := by decide +kernel
theorem dX1_goesBefore_58 : decode cX1_goesBefore 58 = .ok (.getfield 13, 3) := by decide +kernel
theorem dX1_goesBefore_61 : decode cX1_goesBefore 61 = .ok (.iload_n 2, 1) := by decide +kernel
theorem dX1_goesBefore_62 : decode cX1_goesBefore 62 = .ok (.iaload, 1) := by decide +kernel
theorem dX1_goesBefore_63 : decode cX1_goesBefore 63 = .ok (.if_icmp .le 7, 3) := by decide +kernel
theorem dX1_goesBefore_66 : decode cX1_goesBefore 66 = .ok (.iconst 1, 1) := by decide +kernel
theorem dX1_goesBefore_67 : decode cX1_goesBefore 67 = .ok (.goto 4, 3) := by decide +kernel
theorem dX1_goesBefore_70 : decode cX1_goesBefore 70 = .ok (.iconst 0, 1) := by decide +kernel
theorem dX1_goesBefore_71 : decode cX1_goesBefore 71 = .ok (.ireturn, 1) := by decide +kernel
theorem dX1_goesBefore_72 : decode cX1_goesBefore 72 = .ok (.iload_n 1, 1) := by decide +kernel
theorem dX1_goesBefore_73 : decode cX1_goesBefore 73 = .ok (.iload_n 2, 1) := by decide +kernel
theorem dX1_goesBefore_74 : decode cX1_goesBefore 74 = .ok (.if_icmp .ge 7, 3) := by decide +kernel
theorem dX1_goesBefore_77 : decode cX1_goesBefore 77 = .ok (.iconst 1, 1) := by decide +kernel
theorem dX1_goesBefore_78 : decode cX1_goesBefore 78 = .ok (.goto 4, 3) := by decide +kernel
theorem dX1_goesBefore_81 : decode cX1_goesBefore 81 = .ok (.iconst 0, 1) := by decide +kernel
theorem dX1_goesBefore_82 : decode cX1_goesBefore 82 = .ok (.ireturn, 1) := by decide +kernel
set_option maxRecDepth 20000 in
theorem ggX1_isHidden_X1_isOf : GoodIn wsX1_isHidden wsX1_isOf := goodIn_r _ [7, 2, 23, 24, 25, 26, 27] (by decide +kernel) (by decide +kernel)
set_option maxRecDepth 20000 in
theorem gX1_isHidden_X1_isOf : GoodIn wsX1_isHidden (wsV RX1 26 RX1 yX1_isOf wsX1_isOf) := goodIn_app (goodIn_of _ (by decide +kernel)) ggX1_isHidden_X1_isOf
set_option maxRecDepth 20000 in
theorem ggX1_isHidden_X1_haveSameLabels : GoodIn wsX1_isHidden wsX1_haveSameLabels := goodIn_r _ [11, 12, 13, 14, 15, 6, 16, 17, 23, 24, 25, 26, 27] (by decide +kernel) (by decide +kernel)
set_option maxRecDepth 20000 in
theorem gX1_isHidden_X1_haveSameLabels : GoodIn wsX1_isHidden (wsV RX1 30 RX1 yX1_haveSameLabels wsX1_haveSameLabels) := goodIn_app (goodIn_of _ (by decide +kernel)) ggX1_isHidden_X1_haveSameLabels
set_option maxRecDepth 20000 in
theorem ggX1_isHidden_X1_goesBefore : GoodIn wsX1_isHidden wsX1_goesBefore := goodIn_r _ [21, 12, 22, 23, 24, 25, 26, 27] (by decide +kernel) (by decide +kernel)
set_option maxRecDepth 20000 in
theorem gX1_isHidden_X1_goesBefore : GoodIn wsX1_isHidden (wsV RX1 33 RX1 yX1_goesBefore wsX1_goesBefore) := goodIn_app (goodIn_of _ (by decide +kernel)) ggX1_isHidden_X1_goesBefore
theorem dX1_isHidden_0 : decode cX1_isHidden 0 = .ok (.iconst 0, 1) := by decide +kernel
theorem dX1_isHidden_1 : decode cX1_isHidden 1 = .ok (.istore_n 2, 1) := by decide +kernel
theorem dX1_isHidden_2 : decode cX1_isHidden 2 = .ok (.iload_n 2, 1) := by decide +kernel
theorem dX1_isHidden_3 : decode cX1_isHidden 3 = .ok (.aload_n 0, 1) := by decide +kernel
theorem dX1_isHidden_4 : decode cX1_isHidden 4 = .ok (.getfield 22, 3) := by decide +kernel
theorem dX1_isHidden_7 : decode cX1_isHidden 7 = .ok (.if_icmp .ge 43, 3) := by decide +kernel
theorem dX1_isHidden_10 : decode cX1_isHidden 10 = .ok (.aload_n 0, 1) := by decide +kernel
theorem dX1_isHidden_11 : decode cX1_isHidden 11 = .ok (.iload_n 2, 1) := by decide +kernel
theorem dX1_isHidden_12 : decode cX1_isHidden 12 = .ok (.aload_n 0, 1) := by decide +kernel
theorem dX1_isHidden_13 : decode cX1_isHidden 13 = .ok (.getfield 9, 3) := by decide +kernel
theorem dX1_isHidden_16 : decode cX1_isHidden 16 = .ok (.iload_n 1, 1) := by decide +kernel
theorem dX1_isHidden_17 : decode cX1_isHidden 17 = .ok (.iaload, 1) := by decide +kernel
theorem dX1_isHidden_18 : decode cX1_isHidden 18 = .ok (.invokevirtual 26, 3) := by decide +kernel
theorem dX1_isHidden_21 : decode cX1_isHidden 21 = .ok (.ifCond .eq 23, 3) := by decide +kernel
theorem dX1_isHidden_24 : decode cX1_isHidden 24 = .ok (.aload_n 0, 1) := by decide +kernel
theorem dX1_isHidden_25 : decode cX1_isHidden 25 = .ok (.iload_n 2, 1) := by decide +kernel
theorem dX1_isHidden_26 : decode cX1_isHidden 26 = .ok (.iload_n 1, 1) := by decide +kernel
theorem dX1_isHidden_27 : decode cX1_isHidden 27 = .ok (.invokevirtual 30, 3) := by decide +kernel
theorem dX1_isHidden_30 : decode cX1_isHidden 30 = .ok (.ifCond .eq 14, 3) := by decide +kernel
theorem dX1_isHidden_33 : decode cX1_isHidden 33 = .ok (.aload_n 0, 1) := by decide +kernel
theorem dX1_isHidden_34 : decode cX1_isHidden 34 = .ok (.iload_n 2, 1) := by decide +kernel
theorem dX1_isHidden_35 : decode cX1_isHidden 35 = .ok (.iload_n 1, 1) := by decide +kernel
theorem dX1_isHidden_36 : decode cX1_isHidden 36 = .ok (.invokevirtual 33, 3) := by decide +kernel
theorem dX1_isHidden_39 : decode cX1_isHidden 39 = .ok (.ifCond .eq 5, 3) := by decide +kernel
theorem dX1_isHidden_42 : decode cX1_isHidden 42 = .ok (.iconst 1, 1) := by decide +kernel
theorem dX1_isHidden_43 : decode cX1_isHidden 43 = .ok (.ireturn, 1) := by decide +kernel
theorem dX1_isHidden_44 : decode cX1_isHidden 44 = .ok (.iinc 2 1, 3) := by decide +kernel
theorem dX1_isHidden_47 : decode cX1_isHidden 47 = .ok (.goto (-45), 3) := by decide +kernel
theorem dX1_isHidden_50 : decode cX1_isHidden 50 = .ok (.iconst 0, 1) := by decide +kernel
theorem dX1_isHidden_51 : decode cX1_isHidden 51 = .ok (.ireturn, 1) := by decide +kernel
set_option maxRecDepth 20000 in
theorem ggX1_haveSameLabels_X1_labelAt : GoodIn wsX1_haveSameLabels wsX1_labelAt := goodIn_r _ [6, 7, 8, 9, 10, 11, 12] (by decide +kernel) (by decide +kernel)
set_option maxRecDepth 20000 in
theorem gX1_haveSameLabels_X1_labelAt : GoodIn wsX1_haveSameLabels (wsV RX1 36 RX1 yX1_labelAt wsX1_labelAt) := goodIn_app (goodIn_of _ (by decide +kernel)) ggX1_haveSameLabels_X1_labelAt
theorem dX1_haveSameLabels_0 : decode cX1_haveSameLabels 0 = .ok (.aload_n 0, 1) := by decide +kernel
theorem dX1_haveSameLabels_1 : decode cX1_haveSameLabels 1 = .ok (.getfield 16, 3) := by decide +kernel
theorem dX1_haveSameLabels_4 : decode cX1_haveSameLabels 4 = .ok (.iload_n 1, 1) := by decide +kernel
theorem dX1_haveSameLabels_5 : decode cX1_haveSameLabels 5 = .ok (.iaload, 1) := by decide +kernel
theorem dX1_haveSameLabels_6 : decode cX1_haveSameLabels 6 = .ok (.aload_n 0, 1) := by decide +kernel
theorem dX1_haveSameLabels_7 : decode cX1_haveSameLabels 7 = .ok (.getfield 16, 3) := by decide +kernel
theorem dX1_haveSameLabels_10 : decode cX1_haveSameLabels 10 = .ok (.iload_n 2, 1) := by decide +kernel
theorem dX1_haveSameLabels_11 : decode cX1_haveSameLabels 11 = .ok (.iaload, 1) := by decide +kernel
theorem dX1_haveSameLabels_12 : decode cX1_haveSameLabels 12 = .ok (.if_icmp .eq 5, 3) := by decide +kernel
theorem dX1_haveSameLabels_15 : decode cX1_haveSameLabels 15 = .ok (.iconst 0, 1) := by decide +kernel
theorem dX1_haveSameLabels_16 : decode cX1_haveSameLabels 16 = .ok (.ireturn, 1) := by decide +kernel
theorem dX1_haveSameLabels_17 : decode cX1_haveSameLabels 17 = .ok (.iconst 0, 1) := by decide +kernel
theorem dX1_haveSameLabels_18 : decode cX1_haveSameLabels 18 = .ok (.istore_n 3, 1) := by decide +kernel
theorem dX1_haveSameLabels_19 : decode cX1_haveSameLabels 19 = .ok (.iload_n 3, 1) := by decide +kernel
theorem dX1_haveSameLabels_20 : decode cX1_haveSameLabels 20 = .ok (.aload_n 0, 1) := by decide +kernel
theorem dX1_haveSameLabels_21 : decode cX1_haveSameLabels 21 = .ok (.getfield 16, 3) := by decide +kernel
theorem dX1_haveSameLabels_24 : decode cX1_haveSameLabels 24 = .ok (.iload_n 1, 1) := by decide +kernel
theorem dX1_haveSameLabels_25 : decode cX1_haveSameLabels 25 = .ok (.iaload, 1) := by decide +kernel
theorem dX1_haveSameLabels_26 : decode cX1_haveSameLabels 26 = .ok (.if_icmp .ge 26, 3) := by decide +kernel
theorem dX1_haveSameLabels_29 : decode cX1_haveSameLabels 29 = .ok (.aload_n 0, 1) := by decide +kernel
theorem dX1_haveSameLabels_30 : decode cX1_haveSameLabels 30 = .ok (.iload_n 1, 1) := by decide +kernel
theorem dX1_haveSameLabels_31 : decode cX1_haveSameLabels 31 = .ok (.iload_n 3, 1) := by decide +kernel
theorem dX1_haveSameLabels_32 : decode cX1_haveSameLabels 32 = .ok (.invokevirtual 36, 3) := by decide +kernel
theorem dX1_haveSameLabels_35 : decode cX1_haveSameLabels 35 = .ok (.aload_n 0, 1) := by decide +kernel
theorem dX1_haveSameLabels_36 : decode cX1_haveSameLabels 36 = .ok (.iload_n 2, 1) := by decide +kernel
theorem dX1_haveSameLabels_37 : decode cX1_haveSameLabels 37 = .ok (.iload_n 3, 1) := by decide +kernel
theorem dX1_haveSameLabels_38 : decode cX1_haveSameLabels 38 = .ok (.invokevirtual 36, 3) := by decide +kernel
theorem dX1_haveSameLabels_41 : decode cX1_haveSameLabels 41 = .ok (.if_icmp .eq 5, 3) := by decide +kernel
theorem dX1_haveSameLabels_44 : decode cX1_haveSameLabels 44 = .ok (.iconst 0, 1) := by decide +kernel
theorem dX1_haveSameLabels_45 : decode cX1_haveSameLabels 45 = .ok (.ireturn, 1) := by decide +kernel
theorem dX1_haveSameLabels_46 : decode cX1_haveSameLabels 46 = .ok (.iinc 3 1, 3) := by decide +kernel
theorem dX1_haveSameLabels_49 : decode cX1_haveSameLabels 49 = .ok (.goto (-30), 3) := by decide +kernel
theorem dX1_haveSameLabels_52 : decode cX1_haveSameLabels 52 = .ok (.iconst 1, 1) := by decide +kernel
theorem dX1_haveSameLabels_53 : decode cX1_haveSameLabels 53 = .ok (.ireturn, 1) := by decide +kernel
theorem dX2_init_0 : decode cX2_init 0 = .ok (.aload_n 0, 1) := by decide +kernel
theorem dX2_init_1 : decode cX2_init 1 = .ok (.invokespecial 3, 3) := by decide +kernel
theorem dX2_init_4 : decode cX2_init 4 = .ok (.aload_n 0, 1) := by decide +kernel
theorem dX2_init_5 : decode cX2_init 5 = .ok (.bipush 30, 2) := by decide +kernel
theorem dX2_init_7 : decode cX2_init 7 = .ok (.newarray .int, 2) := by decide +kernel
theorem dX2_init_9 : decode cX2_init 9 = .ok (.putfield 11, 3) := by decide +kernel
theorem dX2_init_12 : decode cX2_init 12 = .ok (.aload_n 0, 1) := by decide +kernel
theorem dX2_init_13 : decode cX2_init 13 = .ok (.bipush 30, 2) := by decide +kernel
theorem dX2_init_15 : decode cX2_init 15 = .ok (.newarray .int, 2) := by decide +kernel
theorem dX2_init_17 : decode cX2_init 17 = .ok (.putfield 15, 3) := by decide +kernel
theorem dX2_init_20 : decode cX2_init 20 = .ok (.aload_n 0, 1) := by decide +kernel
theorem dX2_init_21 : decode cX2_init 21 = .ok (.bipush 30, 2) := by decide +kernel
theorem dX2_init_23 : decode cX2_init 23 = .ok (.newarray .boolean, 2) := by decide +kernel
theorem dX2_init_25 : decode cX2_init 25 = .ok (.putfield 18, 3) := by decide +kernel
theorem dX2_init_28 : decode cX2_init 28 = .ok (.aload_n 0, 1) := by decide +kernel
theorem dX2_init_29 : decode cX2_init 29 = .ok (.bipush 16, 2) := by decide +kernel
theorem dX2_init_31 : decode cX2_init 31 = .ok (.newarray .int, 2) := by decide +kernel
theorem dX2_init_33 : decode cX2_init 33 = .ok (.putfield 22, 3) := by decide +kernel
theorem dX2_init_36 : decode cX2_init 36 = .ok (.aload_n 0, 1) := by decide +kernel
theorem dX2_init_37 : decode cX2_init 37 = .ok (.bipush 16, 2) := by decide +kernel
theorem dX2_init_39 : decode cX2_init 39 = .ok (.newarray .int, 2) := by decide +kernel
theorem dX2_init_41 : decode cX2_init 41 = .ok (.putfield 25, 3) := by decide +kernel
theorem dX2_init_44 : decode cX2_init 44 = .ok (.aload_n 0, 1) := by decide +kernel
theorem dX2_init_45 : decode cX2_init 45 = .ok (.iconst 0, 1) := by decide +kernel
theorem dX2_init_46 : decode cX2_init 46 = .ok (.putfield 28, 3) := by decide +kernel
theorem dX2_init_49 : decode cX2_init 49 = .ok (.return_, 1) := by decide +kernel
theorem dX2_add_0 : decode cX2_add 0 = .ok (.iload_n 1, 1) := by decide +kernel
theorem dX2_add_1 : decode cX2_add 1 = .ok (.bipush (-100), 2) := by decide +kernel
theorem dX2_add_3 : decode cX2_add 3 = .ok (.if_icmp .lt 21, 3) := by decide +kernel
theorem dX2_add_6 : decode cX2_add 6 = .ok (.iload_n 1, 1) := by decide +kernel
theorem dX2_add_7 : decode cX2_add 7 = .ok (.bipush 100, 2) := by decide +kernel
theorem dX2_add_9 : decode cX2_add 9 = .ok (.if_icmp .gt 15, 3) := by decide +kernel
theorem dX2_add_12 : decode cX2_add 12 = .ok (.iload_n 2, 1) := by decide +kernel
theorem dX2_add_13 : decode cX2_add 13 = .ok (.bipush (-100), 2) := by decide +kernel
theorem dX2_add_15 : decode cX2_add 15 = .ok (.if_icmp .lt 9, 3) := by decide +kernel
theorem dX2_add_18 : decode cX2_add 18 = .ok (.iload_n 2, 1) := by decide +kernel
theorem dX2_add_19 : decode cX2_add 19 = .ok (.bipush 100, 2) := by decide +kernel
theorem dX2_add_21 : decode cX2_add 21 = .ok (.if_icmp .le 5, 3) := by decide +kernel
theorem dX2_add_24 : decode cX2_add 24 = .ok (.iconst (-1), 1) := by decide +kernel
theorem dX2_add_25 : decode cX2_add 25 = .ok (.ireturn, 1) := by decide +kernel
theorem dX2_add_26 : decode cX2_add 26 = .ok (.aload_n 0, 1) := by decide +kernel
theorem dX2_add_27 : decode cX2_add 27 = .ok (.getfield 28, 3) := by decide +kernel
theorem dX2_add_30 : decode cX2_add 30 = .ok (.bipush 30, 2) := by decide +kernel
theorem dX2_add_32 : decode cX2_add 32 = .ok (.if_icmp .lt 6, 3) := by decide +kernel
theorem dX2_add_35 : decode cX2_add 35 = .ok (.bipush (-3), 2) := by decide +kernel
theorem dX2_add_37 : decode cX2_add 37 = .ok (.ireturn, 1) := by decide +kernel
theorem dX2_add_38 : decode cX2_add 38 = .ok (.aload_n 0, 1) := by decide +kernel
theorem dX2_add_39 : decode cX2_add 39 = .ok (.getfield 11, 3) := by decide +kernel
theorem dX2_add_42 : decode cX2_add 42 = .ok (.aload_n 0, 1) := by decide +kernel
theorem dX2_add_43 : decode cX2_add 43 = .ok (.getfield 28, 3) := by decide +kernel
theorem dX2_add_46 : decode cX2_add 46 = .ok (.iload_n 1, 1) := by decide +kernel
theorem dX2_add_47 : decode cX2_add 47 = .ok (.iastore, 1) := by decide +kernel
theorem dX2_add_48 : decode cX2_add 48 = .ok (.aload_n 0, 1) := by decide +kernel
theorem dX2_add_49 : decode cX2_add 49 = .ok (.getfield 15, 3) := by decide +kernel
theorem dX2_add_52 : decode cX2_add 52 = .ok (.aload_n 0, 1) := by decide +kernel
theorem dX2_add_53 : decode cX2_add 53 = .ok (.getfield 28, 3) := by decide +kernel
theorem dX2_add_56 : decode cX2_add 56 = .ok (.iload_n 2, 1) := by decide +kernel
theorem dX2_add_57 : decode cX2_add 57 = .ok (.iastore, 1) := by decide +kernel
theorem dX2_add_58 : decode cX2_add 58 = .ok (.aload_n 0, 1) := by decide +kernel
theorem dX2_add_59 : decode cX2_add 59 = .ok (.getfield 18, 3) := by decide +kernel
theorem dX2_add_62 : decode cX2_add 62 = .ok (.aload_n 0, 1) := by decide +kernel
theorem dX2_add_63 : decode cX2_add 63 = .ok (.getfield 28, 3) := by decide +kernel
theorem dX2_add_66 : decode cX2_add 66 = .ok (.iload_n 3, 1) := by decide +kernel
theorem dX2_add_67 : decode cX2_add 67 = .ok (.ifCond .eq 14, 3) := by decide +kernel
theorem dX2_add_70 : decode cX2_add 70 = .ok (.aload_n 0, 1) := by decide +kernel
theorem dX2_add_71 : decode cX2_add 71 = .ok (.getfield 28, 3) := by decide +kernel
theorem dX2_add_74 : decode cX2_add 74 = .ok (.ifCond .le 7, 3) := by decide +kernel
theorem dX2_add_77 : decode cX2_add 77 = .ok (.iconst 1, 1) := by decide +kernel
theorem dX2_add_78 : decode cX2_add 78 = .ok (.goto 4, 3) := by decide +kernel
theorem dX2_add_81 : decode cX2_add 81 = .ok (.iconst 0, 1) := by decide +kernel
theorem dX2_add_82 : decode cX2_add 82 = .ok (.bastore, 1) := by decide +kernel
theorem dX2_add_83 : decode cX2_add 83 = .ok (.aload_n 0, 1) := by decide +kernel
theorem dX2_add_84 : decode cX2_add 84 = .ok (.dup, 1) := by decide +kernel
theorem dX2_add_85 : decode cX2_add 85 = .ok (.getfield 28, 3) := by decide +kernel
theorem dX2_add_88 : decode cX2_add 88 = .ok (.iconst 1, 1) := by decide +kernel
theorem dX2_add_89 : decode cX2_add 89 = .ok (.iadd, 1) := by decide +kernel
theorem dX2_add_90 : decode cX2_add 90 = .ok (.putfield 28, 3) := by decide +kernel
theorem dX2_add_93 : decode cX2_add 93 = .ok (.aload_n 0, 1) := by decide +kernel
theorem dX2_add_94 : decode cX2_add 94 = .ok (.getfield 28, 3) := by decide +kernel
theorem dX2_add_97 : decode cX2_add 97 = .ok (.ireturn, 1) := by decide +kernel
theorem dX2_empty_0 : decode cX2_empty 0 = .ok (.aload_n 0, 1) := by decide +kernel
theorem dX2_empty_1 : decode cX2_empty 1 = .ok (.getfield 28, 3) := by decide +kernel
theorem dX2_empty_4 : decode cX2_empty 4 = .ok (.istore_n 1, 1) := by decide +kernel
theorem dX2_empty_5 : decode cX2_empty 5 = .ok (.aload_n 0, 1) := by decide +kernel
theorem dX2_empty_6 : decode cX2_empty 6 = .ok (.iconst 0, 1) := by decide +kernel
theorem dX2_empty_7 : decode cX2_empty 7 = .ok (.putfield 28, 3) := by decide +kernel
theorem dX2_empty_10 : decode cX2_empty 10 = .ok (.iload_n 1, 1) := by decide +kernel
theorem dX2_empty_11 : decode cX2_empty 11 = .ok (.ireturn, 1) := by decide +kernel
theorem dX2_cutTo_0 : decode cX2_cutTo 0 = .ok (.aload_n 0, 1) := by decide +kernel
theorem dX2_cutTo_1 : decode cX2_cutTo 1 = .ok (.iload_n 1, 1) := by decide +kernel
theorem dX2_cutTo_2 : decode cX2_cutTo 2 = .ok (.putfield 28, 3) := by decide +kernel
theorem dX2_cutTo_5 : decode cX2_cutTo 5 = .ok (.return_, 1) := by decide +kernel
theorem dX2_drawnTo_0 : decode cX2_drawnTo 0 = .ok (.aload_n 0, 1) := by decide +kernel
theorem dX2_drawnTo_1 : decode cX2_drawnTo 1 = .ok (.getfield 18, 3) := by decide +kernel
theorem dX2_drawnTo_4 : decode cX2_drawnTo 4 = .ok (.iload_n 1, 1) := by decide +kernel
theorem dX2_drawnTo_5 : decode cX2_drawnTo 5 = .ok (.baload, 1) := by decide +kernel
theorem dX2_drawnTo_6 : decode cX2_drawnTo 6 = .ok (.ifCond .eq 5, 3) := by decide +kernel
theorem dX2_drawnTo_9 : decode cX2_drawnTo 9 = .ok (.iconst 0, 1) := by decide +kernel
theorem dX2_drawnTo_10 : decode cX2_drawnTo 10 = .ok (.ireturn, 1) := by decide +kernel
theorem dX2_drawnTo_11 : decode cX2_drawnTo 11 = .ok (.aload_n 0, 1) := by decide +kernel
theorem dX2_drawnTo_12 : decode cX2_drawnTo 12 = .ok (.getfield 11, 3) := by decide +kernel
theorem dX2_drawnTo_15 : decode cX2_drawnTo 15 = .ok (.iload_n 1, 1) := by decide +kernel
theorem dX2_drawnTo_16 : decode cX2_drawnTo 16 = .ok (.iaload, 1) := by decide +kernel
theorem dX2_drawnTo_17 : decode cX2_drawnTo 17 = .ok (.aload_n 0, 1) := by decide +kernel
theorem dX2_drawnTo_18 : decode cX2_drawnTo 18 = .ok (.getfield 11, 3) := by decide +kernel
theorem dX2_drawnTo_21 : decode cX2_drawnTo 21 = .ok (.iload_n 1, 1) := by decide +kernel
theorem dX2_drawnTo_22 : decode cX2_drawnTo 22 = .ok (.iconst 1, 1) := by decide +kernel
theorem dX2_drawnTo_23 : decode cX2_drawnTo 23 = .ok (.isub, 1) := by decide +kernel
theorem dX2_drawnTo_24 : decode cX2_drawnTo 24 = .ok (.iaload, 1) := by decide +kernel
theorem dX2_drawnTo_25 : decode cX2_drawnTo 25 = .ok (.isub, 1) := by decide +kernel
theorem dX2_drawnTo_26 : decode cX2_drawnTo 26 = .ok (.invokestatic 32, 3) := by decide +kernel
theorem dX2_drawnTo_29 : decode cX2_drawnTo 29 = .ok (.aload_n 0, 1) := by decide +kernel
theorem dX2_drawnTo_30 : decode cX2_drawnTo 30 = .ok (.getfield 15, 3) := by decide +kernel
theorem dX2_drawnTo_33 : decode cX2_drawnTo 33 = .ok (.iload_n 1, 1) := by decide +kernel
theorem dX2_drawnTo_34 : decode cX2_drawnTo 34 = .ok (.iaload, 1) := by decide +kernel
theorem dX2_drawnTo_35 : decode cX2_drawnTo 35 = .ok (.aload_n 0, 1) := by decide +kernel
theorem dX2_drawnTo_36 : decode cX2_drawnTo 36 = .ok (.getfield 15, 3) := by decide +kernel
theorem dX2_drawnTo_39 : decode cX2_drawnTo 39 = .ok (.iload_n 1, 1) := by decide +kernel
theorem dX2_drawnTo_40 : decode cX2_drawnTo 40 = .ok (.iconst 1, 1) := by decide +kernel
theorem dX2_drawnTo_41 : decode cX2_drawnTo 41 = .ok (.isub, 1) := by decide +kernel
theorem dX2_drawnTo_42 : decode cX2_drawnTo 42 = .ok (.iaload, 1) := by decide +kernel
theorem dX2_drawnTo_43 : decode cX2_drawnTo 43 = .ok (.isub, 1) := by decide +kernel
theorem dX2_drawnTo_44 : decode cX2_drawnTo 44 = .ok (.invokestatic 32, 3) := by decide +kernel
theorem dX2_drawnTo_47 : decode cX2_drawnTo 47 = .ok (.iadd, 1) := by decide +kernel
theorem dX2_drawnTo_48 : decode cX2_drawnTo 48 = .ok (.ireturn, 1) := by decide +kernel
set_option maxRecDepth 20000 in
theorem ggX2_length_X2_drawnTo : GoodIn wsX2_length wsX2_drawnTo := goodIn_r _ [6, 7, 8, 9, 10, 11, 12, 13, 14, 15, 16, 17, 18, 19] (by decide +kernel) (by decide +kernel)
set_option maxRecDepth 20000 in
theorem gX2_length_X2_drawnTo : GoodIn wsX2_length (wsV RX2 38 RX2 yX2_drawnTo wsX2_drawnTo) := goodIn_app (goodIn_of _ (by decide +kernel)) ggX2_length_X2_drawnTo
theorem dX2_length_0 : decode cX2_length 0 = .ok (.iconst 0, 1) := by decide +kernel
theorem dX2_length_1 : decode cX2_length 1 = .ok (.istore_n 1, 1) := by decide +kernel
theorem dX2_length_2 : decode cX2_length 2 = .ok (.iconst 1, 1) := by decide +kernel
theorem dX2_length_3 : decode cX2_length 3 = .ok (.istore_n 2, 1) := by decide +kernel
theorem dX2_length_4 : decode cX2_length 4 = .ok (.iload_n 2, 1) := by decide +kernel
theorem dX2_length_5 : decode cX2_length 5 = .ok (.aload_n 0, 1) := by decide +kernel
theorem dX2_length_6 : decode cX2_length 6 = .ok (.getfield 28, 3) := by decide +kernel
theorem dX2_length_9 : decode cX2_length 9 = .ok (.if_icmp .ge 17, 3) := by decide +kernel
theorem dX2_length_12 : decode cX2_length 12 = .ok (.iload_n 1, 1) := by decide +kernel
theorem dX2_length_13 : decode cX2_length 13 = .ok (.aload_n 0, 1) := by decide +kernel
theorem dX2_length_14 : decode cX2_length 14 = .ok (.iload_n 2, 1) := by decide +kernel
theorem dX2_length_15 : decode cX2_length 15 = .ok (.invokevirtual 38, 3) := by decide +kernel
theorem dX2_length_18 : decode cX2_length 18 = .ok (.iadd, 1) := by decide +kernel
theorem dX2_length_19 : decode cX2_length 19 = .ok (.istore_n 1, 1) := by decide +kernel
theorem dX2_length_20 : decode cX2_length 20 = .ok (.iinc 2 1, 3) := by decide +kernel
theorem dX2_length_23 : decode cX2_length 23 = .ok (.goto (-19), 3) := by decide +kernel
theorem dX2_length_26 : decode cX2_length 26 = .ok (.iload_n 1, 1) := by decide +kernel
theorem dX2_length_27 : decode cX2_length 27 = .ok (.ireturn, 1) := by decide +kernel
set_option maxRecDepth 20000 in
theorem ggX2_makeEven_X2_length : GoodIn wsX2_makeEven wsX2_length := goodIn_r _ [5, 6, 7, 8, 9, 4, 10, 11, 12, 13, 14, 15, 16, 17, 30, 31, 32, 33, 34, 35] (by decide +kernel) (by decide +kernel)
set_option maxRecDepth 20000 in
theorem gX2_makeEven_X2_length : GoodIn wsX2_makeEven (wsV RX2 41 RX2 yX2_length wsX2_length) := goodIn_app (goodIn_of _ (by decide +kernel)) ggX2_makeEven_X2_length
set_option maxRecDepth 20000 in
theorem ggX2_makeEven_X2_placeEven : GoodIn wsX2_makeEven wsX2_placeEven := goodIn_r _ [21, 6, 22, 12, 17, 7, 8, 9, 4, 10, 11, 13, 14, 15, 16, 23, 24, 25, 26, 27, 28, 29, 30, 31, 32, 33, 34, 35] (by decide +kernel) (by decide +kernel)
set_option maxRecDepth 20000 in
theorem gX2_makeEven_X2_placeEven : GoodIn wsX2_makeEven (wsV RX2 45 RX2 yX2_placeEven wsX2_placeEven) := goodIn_app (goodIn_of _ (by decide +kernel)) ggX2_makeEven_X2_placeEven
theorem dX2_makeEven_0 : decode cX2_makeEven 0 = .ok (.aload_n 0, 1) := by decide +kernel
theorem dX2_makeEven_1 : decode cX2_makeEven 1 = .ok (.invokevirtual 41, 3) := by decide +kernel
theorem dX2_makeEven_4 : decode cX2_makeEven 4 = .ok (.istore_n 1, 1) := by decide +kernel
theorem dX2_makeEven_5 : decode cX2_makeEven 5 = .ok (.iload_n 1, 1) := by decide +kernel
theorem dX2_makeEven_6 : decode cX2_makeEven 6 = .ok (.ifCond .ne 5, 3) := by decide +kernel
theorem dX2_makeEven_9 : decode cX2_makeEven 9 = .ok (.iconst 0, 1) := by decide +kernel
theorem dX2_makeEven_10 : decode cX2_makeEven 10 = .ok (.ireturn, 1) := by decide +kernel
theorem dX2_makeEven_11 : decode cX2_makeEven 11 = .ok (.iconst 0, 1) := by decide +kernel
theorem dX2_makeEven_12 : decode cX2_makeEven 12 = .ok (.istore_n 2, 1) := by decide +kernel
theorem dX2_makeEven_13 : decode cX2_makeEven 13 = .ok (.iload_n 2, 1) := by decide +kernel
theorem dX2_makeEven_14 : decode cX2_makeEven 14 = .ok (.bipush 8, 2) := by decide +kernel
theorem dX2_makeEven_16 : decode cX2_makeEven 16 = .ok (.if_icmp .ge 17, 3) := by decide +kernel
theorem dX2_makeEven_19 : decode cX2_makeEven 19 = .ok (.aload_n 0, 1) := by decide +kernel
theorem dX2_makeEven_20 : decode cX2_makeEven 20 = .ok (.iload_n 2, 1) := by decide +kernel
theorem dX2_makeEven_21 : decode cX2_makeEven 21 = .ok (.iload_n 2, 1) := by decide +kernel
theorem dX2_makeEven_22 : decode cX2_makeEven 22 = .ok (.iload_n 1, 1) := by decide +kernel
theorem dX2_makeEven_23 : decode cX2_makeEven 23 = .ok (.imul, 1) := by decide +kernel
theorem dX2_makeEven_24 : decode cX2_makeEven 24 = .ok (.invokevirtual 45, 3) := by decide +kernel
theorem dX2_makeEven_27 : decode cX2_makeEven 27 = .ok (.iinc 2 1, 3) := by decide +kernel
theorem dX2_makeEven_30 : decode cX2_makeEven 30 = .ok (.goto (-17), 3) := by decide +kernel
theorem dX2_makeEven_33 : decode cX2_makeEven 33 = .ok (.iconst 1, 1) := by decide +kernel
theorem dX2_makeEven_34 : decode cX2_makeEven 34 = .ok (.ireturn, 1) := by decide +kernel
set_option maxRecDepth 20000 in
theorem ggX2_placeEven_X2_drawnTo : GoodIn wsX2_placeEven wsX2_drawnTo := goodIn_r _ [9, 10, 3, 11, 12, 13, 14, 4, 22, 23, 24, 25, 26, 27] (by decide +kernel) (by decide +kernel)
set_option maxRecDepth 20000 in
theorem gX2_placeEven_X2_drawnTo : GoodIn wsX2_placeEven (wsV RX2 38 RX2 yX2_drawnTo wsX2_drawnTo) := goodIn_app (goodIn_of _ (by decide +kernel)) ggX2_placeEven_X2_drawnTo
set_option maxRecDepth 20000 in
theorem ggX2_placeEven_X2_partWay : GoodIn wsX2_placeEven wsX2_partWay := goodIn_r _ [17, 18, 19, 20, 21] (by decide +kernel) (by decide +kernel)
set_option maxRecDepth 20000 in
theorem gX2_placeEven_X2_partWay : GoodIn wsX2_placeEven (va_wsS RX2 49 yX2_partWay wsX2_partWay) := goodIn_app (goodIn_of _ (by decide +kernel)) ggX2_placeEven_X2_partWay
theorem dX2_placeEven_0 : decode cX2_placeEven 0 = .ok (.iconst 0, 1) := by decide +kernel
theorem dX2_placeEven_1 : decode cX2_placeEven 1 = .ok (.istore_n 3, 1) := by decide +kernel
theorem dX2_placeEven_2 : decode cX2_placeEven 2 = .ok (.iconst 1, 1) := by decide +kernel
theorem dX2_placeEven_3 : decode cX2_placeEven 3 = .ok (.istore 4, 2) := by decide +kernel
theorem dX2_placeEven_5 : decode cX2_placeEven 5 = .ok (.iload 4, 2) := by decide +kernel
theorem dX2_placeEven_7 : decode cX2_placeEven 7 = .ok (.aload_n 0, 1) := by decide +kernel
theorem dX2_placeEven_8 : decode cX2_placeEven 8 = .ok (.getfield 28, 3) := by decide +kernel
theorem dX2_placeEven_11 : decode cX2_placeEven 11 = .ok (.if_icmp .ge 105, 3) := by decide +kernel
theorem dX2_placeEven_14 : decode cX2_placeEven 14 = .ok (.bipush 7, 2) := by decide +kernel
theorem dX2_placeEven_16 : decode cX2_placeEven 16 = .ok (.aload_n 0, 1) := by decide +kernel
theorem dX2_placeEven_17 : decode cX2_placeEven 17 = .ok (.iload 4, 2) := by decide +kernel
theorem dX2_placeEven_19 : decode cX2_placeEven 19 = .ok (.invokevirtual 38, 3) := by decide +kernel
theorem dX2_placeEven_22 : decode cX2_placeEven 22 = .ok (.imul, 1) := by decide +kernel
theorem dX2_placeEven_23 : decode cX2_placeEven 23 = .ok (.istore 5, 2) := by decide +kernel
theorem dX2_placeEven_25 : decode cX2_placeEven 25 = .ok (.iload 5, 2) := by decide +kernel
theorem dX2_placeEven_27 : decode cX2_placeEven 27 = .ok (.ifCond .le 78, 3) := by decide +kernel
theorem dX2_placeEven_30 : decode cX2_placeEven 30 = .ok (.iload_n 2, 1) := by decide +kernel
theorem dX2_placeEven_31 : decode cX2_placeEven 31 = .ok (.iload_n 3, 1) := by decide +kernel
theorem dX2_placeEven_32 : decode cX2_placeEven 32 = .ok (.iload 5, 2) := by decide +kernel
theorem dX2_placeEven_34 : decode cX2_placeEven 34 = .ok (.iadd, 1) := by decide +kernel
theorem dX2_placeEven_35 : decode cX2_placeEven 35 = .ok (.if_icmp .gt 70, 3) := by decide +kernel
theorem dX2_placeEven_38 : decode cX2_placeEven 38 = .ok (.aload_n 0, 1) := by decide +kernel
theorem dX2_placeEven_39 : decode cX2_placeEven 39 = .ok (.getfield 22, 3) := by decide +kernel
theorem dX2_placeEven_42 : decode cX2_placeEven 42 = .ok (.iconst 2, 1) := by decide +kernel
theorem dX2_placeEven_43 : decode cX2_placeEven 43 = .ok (.iload_n 1, 1) := by decide +kernel
theorem dX2_placeEven_44 : decode cX2_placeEven 44 = .ok (.imul, 1) := by decide +kernel
theorem dX2_placeEven_45 : decode cX2_placeEven 45 = .ok (.aload_n 0, 1) := by decide +kernel
theorem dX2_placeEven_46 : decode cX2_placeEven 46 = .ok (.getfield 11, 3) := by decide +kernel
theorem dX2_placeEven_49 : decode cX2_placeEven 49 = .ok (.iload 4, 2) := by decide +kernel
theorem dX2_placeEven_51 : decode cX2_placeEven 51 = .ok (.iconst 1, 1) := by decide +kernel
theorem dX2_placeEven_52 : decode cX2_placeEven 52 = .ok (.isub, 1) := by decide +kernel
theorem dX2_placeEven_53 : decode cX2_placeEven 53 = .ok (.iaload, 1) := by decide +kernel
theorem dX2_placeEven_54 : decode cX2_placeEven 54 = .ok (.aload_n 0, 1) := by decide +kernel
theorem dX2_placeEven_55 : decode cX2_placeEven 55 = .ok (.getfield 11, 3) := by decide +kernel
theorem dX2_placeEven_58 : decode cX2_placeEven 58 = .ok (.iload 4, 2) := by decide +kernel
theorem dX2_placeEven_60 : decode cX2_placeEven 60 = .ok (.iaload, 1) := by decide +kernel
theorem dX2_placeEven_61 : decode cX2_placeEven 61 = .ok (.iload_n 2, 1) := by decide +kernel
theorem dX2_placeEven_62 : decode cX2_placeEven 62 = .ok (.iload_n 3, 1) := by decide +kernel
theorem dX2_placeEven_63 : decode cX2_placeEven 63 = .ok (.isub, 1) := by decide +kernel
theorem dX2_placeEven_64 : decode cX2_placeEven 64 = .ok (.iload 5, 2) := by decide +kernel
theorem dX2_placeEven_66 : decode cX2_placeEven 66 = .ok (.invokestatic 49, 3) := by decide +kernel
theorem dX2_placeEven_69 : decode cX2_placeEven 69 = .ok (.iastore, 1) := by decide +kernel
theorem dX2_placeEven_70 : decode cX2_placeEven 70 = .ok (.aload_n 0, 1) := by decide +kernel
theorem dX2_placeEven_71 : decode cX2_placeEven 71 = .ok (.getfield 22, 3) := by decide +kernel
theorem dX2_placeEven_74 : decode cX2_placeEven 74 = .ok (.iconst 2, 1) := by decide +kernel
theorem dX2_placeEven_75 : decode cX2_placeEven 75 = .ok (.iload_n 1, 1) := by decide +kernel
theorem dX2_placeEven_76 : decode cX2_placeEven 76 = .ok (.imul, 1) := by decide +kernel
theorem dX2_placeEven_77 : decode cX2_placeEven 77 = .ok (.iconst 1, 1) := by decide +kernel
theorem dX2_placeEven_78 : decode cX2_placeEven 78 = .ok (.iadd, 1) := by decide +kernel
theorem dX2_placeEven_79 : decode cX2_placeEven 79 = .ok (.aload_n 0, 1) := by decide +kernel
theorem dX2_placeEven_80 : decode cX2_placeEven 80 = .ok (.getfield 15, 3) := by decide +kernel
theorem dX2_placeEven_83 : decode cX2_placeEven 83 = .ok (.iload 4, 2) := by decide +kernel
theorem dX2_placeEven_85 : decode cX2_placeEven 85 = .ok (.iconst 1, 1) := by decide +kernel
theorem dX2_placeEven_86 : decode cX2_placeEven 86 = .ok (.isub, 1) := by decide +kernel
theorem dX2_placeEven_87 : decode cX2_placeEven 87 = .ok (.iaload, 1) := by decide +kernel
theorem dX2_placeEven_88 : decode cX2_placeEven 88 = .ok (.aload_n 0, 1) := by decide +kernel
theorem dX2_placeEven_89 : decode cX2_placeEven 89 = .ok (.getfield 15, 3) := by decide +kernel
theorem dX2_placeEven_92 : decode cX2_placeEven 92 = .ok (.iload 4, 2) := by decide +kernel
theorem dX2_placeEven_94 : decode cX2_placeEven 94 = .ok (.iaload, 1) := by decide +kernel
theorem dX2_placeEven_95 : decode cX2_placeEven 95 = .ok (.iload_n 2, 1) := by decide +kernel
theorem dX2_placeEven_96 : decode cX2_placeEven 96 = .ok (.iload_n 3, 1) := by decide +kernel
theorem dX2_placeEven_97 : decode cX2_placeEven 97 = .ok (.isub, 1) := by decide +kernel
theorem dX2_placeEven_98 : decode cX2_placeEven 98 = .ok (.iload 5, 2) := by decide +kernel
theorem dX2_placeEven_100 : decode cX2_placeEven 100 = .ok (.invokestatic 49, 3) := by decide +kernel
theorem dX2_placeEven_103 : decode cX2_placeEven 103 = .ok (.iastore, 1) := by decide +kernel
theorem dX2_placeEven_104 : decode cX2_placeEven 104 = .ok (.return_, 1) := by decide +kernel
theorem dX2_placeEven_105 : decode cX2_placeEven 105 = .ok (.iload_n 3, 1) := by decide +kernel
theorem dX2_placeEven_106 : decode cX2_placeEven 106 = .ok (.iload 5, 2) := by decide +kernel
theorem dX2_placeEven_108 : decode cX2_placeEven 108 = .ok (.iadd, 1) := by decide +kernel
theorem dX2_placeEven_109 : decode cX2_placeEven 109 = .ok (.istore_n 3, 1) := by decide +kernel
theorem dX2_placeEven_110 : decode cX2_placeEven 110 = .ok (.iinc 4 1, 3) := by decide +kernel
theorem dX2_placeEven_113 : decode cX2_placeEven 113 = .ok (.goto (-108), 3) := by decide +kernel
theorem dX2_placeEven_116 : decode cX2_placeEven 116 = .ok (.return_, 1) := by decide +kernel
set_option maxRecDepth 20000 in
theorem ggX2_partWay_J9_floorDiv_7cf53 : GoodIn wsX2_partWay wsJ9_floorDiv_7cf53 := goodIn_r _ [4] (by decide +kernel) (by decide +kernel)
set_option maxRecDepth 20000 in
theorem gX2_partWay_J9_floorDiv_7cf53 : GoodIn wsX2_partWay (va_wsS RX2 53 yJ9_floorDiv_7cf53 wsJ9_floorDiv_7cf53) := goodIn_app (goodIn_of _ (by decide +kernel)) ggX2_partWay_J9_floorDiv_7cf53
theorem dX2_partWay_0 : decode cX2_partWay 0 = .ok (.iload_n 3, 1) := by decide +kernel
theorem dX2_partWay_1 : decode cX2_partWay 1 = .ok (.ifCond .gt 8, 3) := by decide +kernel
theorem dX2_partWay_4 : decode cX2_partWay 4 = .ok (.bipush 100, 2) := by decide +kernel
theorem dX2_partWay_6 : decode cX2_partWay 6 = .ok (.iload_n 0, 1) := by decide +kernel
theorem dX2_partWay_7 : decode cX2_partWay 7 = .ok (.imul, 1) := by decide +kernel
theorem dX2_partWay_8 : decode cX2_partWay 8 = .ok (.ireturn, 1) := by decide +kernel
theorem dX2_partWay_9 : decode cX2_partWay 9 = .ok (.bipush 100, 2) := by decide +kernel
theorem dX2_partWay_11 : decode cX2_partWay 11 = .ok (.iload_n 0, 1) := by decide +kernel
theorem dX2_partWay_12 : decode cX2_partWay 12 = .ok (.imul, 1) := by decide +kernel
theorem dX2_partWay_13 : decode cX2_partWay 13 = .ok (.iload_n 1, 1) := by decide +kernel
theorem dX2_partWay_14 : decode cX2_partWay 14 = .ok (.iload_n 0, 1) := by decide +kernel
theorem dX2_partWay_15 : decode cX2_partWay 15 = .ok (.isub, 1) := by decide +kernel
theorem dX2_partWay_16 : decode cX2_partWay 16 = .ok (.bipush 100, 2) := by decide +kernel
theorem dX2_partWay_18 : decode cX2_partWay 18 = .ok (.imul, 1) := by decide +kernel
theorem dX2_partWay_19 : decode cX2_partWay 19 = .ok (.iload_n 2, 1) := by decide +kernel
theorem dX2_partWay_20 : decode cX2_partWay 20 = .ok (.imul, 1) := by decide +kernel
theorem dX2_partWay_21 : decode cX2_partWay 21 = .ok (.iload_n 3, 1) := by decide +kernel
theorem dX2_partWay_22 : decode cX2_partWay 22 = .ok (.invokestatic 53, 3) := by decide +kernel
theorem dX2_partWay_25 : decode cX2_partWay 25 = .ok (.iadd, 1) := by decide +kernel
theorem dX2_partWay_26 : decode cX2_partWay 26 = .ok (.ireturn, 1) := by decide +kernel
set_option maxRecDepth 20000 in
theorem ggX2_makeNormal_X2_makeEven : GoodIn wsX2_makeNormal wsX2_makeEven := goodIn_r _ [6, 7, 8, 9, 5, 10, 11, 12, 13, 14, 15, 16, 17, 18, 19, 20, 21, 22, 23, 24, 25, 26, 27, 28, 29, 30, 31, 32, 33, 34, 49, 50, 51, 52, 53, 54] (by decide +kernel) (by decide +kernel)
set_option maxRecDepth 20000 in
theorem gX2_makeNormal_X2_makeEven : GoodIn wsX2_makeNormal (wsV RX2 57 RX2 yX2_makeEven wsX2_makeEven) := goodIn_app (goodIn_of _ (by decide +kernel)) ggX2_makeNormal_X2_makeEven
set_option maxRecDepth 20000 in
theorem ggX2_makeNormal_X2_takeMiddleOff : GoodIn wsX2_makeNormal wsX2_takeMiddleOff := goodIn_r _ [38, 27, 39, 40, 20, 41, 42, 43, 44, 1, 31, 32, 33, 34, 49, 50, 51, 52, 53, 54] (by decide +kernel) (by decide +kernel)
set_option maxRecDepth 20000 in
theorem gX2_makeNormal_X2_takeMiddleOff : GoodIn wsX2_makeNormal (wsV RX2 61 RX2 yX2_takeMiddleOff wsX2_takeMiddleOff) := goodIn_app (goodIn_of _ (by decide +kernel)) ggX2_makeNormal_X2_takeMiddleOff
set_option maxRecDepth 20000 in
theorem ggX2_makeNormal_X2_greatestSize : GoodIn wsX2_makeNormal wsX2_greatestSize := goodIn_r _ [48, 1, 18, 19, 20, 21, 42, 43, 44, 49, 50, 51, 52, 53, 54] (by decide +kernel) (by decide +kernel)
set_option maxRecDepth 20000 in
theorem gX2_makeNormal_X2_greatestSize : GoodIn wsX2_makeNormal (wsV RX2 65 RX2 yX2_greatestSize wsX2_greatestSize) := goodIn_app (goodIn_of _ (by decide +kernel)) ggX2_makeNormal_X2_greatestSize
set_option maxRecDepth 20000 in
theorem ggX2_makeNormal_J9_floorDiv_7cf53 : GoodIn wsX2_makeNormal wsJ9_floorDiv_7cf53 := goodIn_r _ [34] (by decide +kernel) (by decide +kernel)
set_option maxRecDepth 20000 in
theorem gX2_makeNormal_J9_floorDiv_7cf53 : GoodIn wsX2_makeNormal (va_wsS RX2 53 yJ9_floorDiv_7cf53 wsJ9_floorDiv_7cf53) := goodIn_app (goodIn_of _ (by decide +kernel)) ggX2_makeNormal_J9_floorDiv_7cf53
theorem dX2_makeNormal_0 : decode cX2_makeNormal 0 = .ok (.aload_n 0, 1) := by decide +kernel
theorem dX2_makeNormal_1 : decode cX2_makeNormal 1 = .ok (.invokevirtual 57, 3) := by decide +kernel
theorem dX2_makeNormal_4 : decode cX2_makeNormal 4 = .ok (.ifCond .ne 5, 3) := by decide +kernel
theorem dX2_makeNormal_7 : decode cX2_makeNormal 7 = .ok (.iconst 0, 1) := by decide +kernel
theorem dX2_makeNormal_8 : decode cX2_makeNormal 8 = .ok (.ireturn, 1) := by decide +kernel
theorem dX2_makeNormal_9 : decode cX2_makeNormal 9 = .ok (.aload_n 0, 1) := by decide +kernel
theorem dX2_makeNormal_10 : decode cX2_makeNormal 10 = .ok (.iconst 0, 1) := by decide +kernel
theorem dX2_makeNormal_11 : decode cX2_makeNormal 11 = .ok (.invokevirtual 61, 3) := by decide +kernel
theorem dX2_makeNormal_14 : decode cX2_makeNormal 14 = .ok (.aload_n 0, 1) := by decide +kernel
theorem dX2_makeNormal_15 : decode cX2_makeNormal 15 = .ok (.iconst 1, 1) := by decide +kernel
theorem dX2_makeNormal_16 : decode cX2_makeNormal 16 = .ok (.invokevirtual 61, 3) := by decide +kernel
theorem dX2_makeNormal_19 : decode cX2_makeNormal 19 = .ok (.aload_n 0, 1) := by decide +kernel
theorem dX2_makeNormal_20 : decode cX2_makeNormal 20 = .ok (.invokevirtual 65, 3) := by decide +kernel
theorem dX2_makeNormal_23 : decode cX2_makeNormal 23 = .ok (.istore_n 1, 1) := by decide +kernel
theorem dX2_makeNormal_24 : decode cX2_makeNormal 24 = .ok (.iconst 0, 1) := by decide +kernel
theorem dX2_makeNormal_25 : decode cX2_makeNormal 25 = .ok (.istore_n 2, 1) := by decide +kernel
theorem dX2_makeNormal_26 : decode cX2_makeNormal 26 = .ok (.iload_n 2, 1) := by decide +kernel
theorem dX2_makeNormal_27 : decode cX2_makeNormal 27 = .ok (.bipush 16, 2) := by decide +kernel
theorem dX2_makeNormal_29 : decode cX2_makeNormal 29 = .ok (.if_icmp .ge 37, 3) := by decide +kernel
theorem dX2_makeNormal_32 : decode cX2_makeNormal 32 = .ok (.aload_n 0, 1) := by decide +kernel
theorem dX2_makeNormal_33 : decode cX2_makeNormal 33 = .ok (.getfield 25, 3) := by decide +kernel
theorem dX2_makeNormal_36 : decode cX2_makeNormal 36 = .ok (.iload_n 2, 1) := by decide +kernel
theorem dX2_makeNormal_37 : decode cX2_makeNormal 37 = .ok (.iload_n 1, 1) := by decide +kernel
theorem dX2_makeNormal_38 : decode cX2_makeNormal 38 = .ok (.ifCond .ne 7, 3) := by decide +kernel
theorem dX2_makeNormal_41 : decode cX2_makeNormal 41 = .ok (.iconst 0, 1) := by decide +kernel
theorem dX2_makeNormal_42 : decode cX2_makeNormal 42 = .ok (.goto 17, 3) := by decide +kernel
theorem dX2_makeNormal_45 : decode cX2_makeNormal 45 = .ok (.sipush 1000, 3) := by decide +kernel
theorem dX2_makeNormal_48 : decode cX2_makeNormal 48 = .ok (.aload_n 0, 1) := by decide +kernel
theorem dX2_makeNormal_49 : decode cX2_makeNormal 49 = .ok (.getfield 25, 3) := by decide +kernel
theorem dX2_makeNormal_52 : decode cX2_makeNormal 52 = .ok (.iload_n 2, 1) := by decide +kernel
theorem dX2_makeNormal_53 : decode cX2_makeNormal 53 = .ok (.iaload, 1) := by decide +kernel
theorem dX2_makeNormal_54 : decode cX2_makeNormal 54 = .ok (.imul, 1) := by decide +kernel
theorem dX2_makeNormal_55 : decode cX2_makeNormal 55 = .ok (.iload_n 1, 1) := by decide +kernel
theorem dX2_makeNormal_56 : decode cX2_makeNormal 56 = .ok (.invokestatic 53, 3) := by decide +kernel
theorem dX2_makeNormal_59 : decode cX2_makeNormal 59 = .ok (.iastore, 1) := by decide +kernel
theorem dX2_makeNormal_60 : decode cX2_makeNormal 60 = .ok (.iinc 2 1, 3) := by decide +kernel
theorem dX2_makeNormal_63 : decode cX2_makeNormal 63 = .ok (.goto (-37), 3) := by decide +kernel
theorem dX2_makeNormal_66 : decode cX2_makeNormal 66 = .ok (.iconst 1, 1) := by decide +kernel
theorem dX2_makeNormal_67 : decode cX2_makeNormal 67 = .ok (.ireturn, 1) := by decide +kernel
set_option maxRecDepth 20000 in
theorem ggX2_takeMiddleOff_J9_floorDiv_7cf53 : GoodIn wsX2_takeMiddleOff wsJ9_floorDiv_7cf53 := goodIn_r _ [13] (by decide +kernel) (by decide +kernel)
set_option maxRecDepth 20000 in
theorem gX2_takeMiddleOff_J9_floorDiv_7cf53 : GoodIn wsX2_takeMiddleOff (va_wsS RX2 53 yJ9_floorDiv_7cf53 wsJ9_floorDiv_7cf53) := goodIn_app (goodIn_of _ (by decide +kernel)) ggX2_takeMiddleOff_J9_floorDiv_7cf53
theorem dX2_takeMiddleOff_0 : decode cX2_takeMiddleOff 0 = .ok (.aload_n 0, 1) := by decide +kernel
theorem dX2_takeMiddleOff_1 : decode cX2_takeMiddleOff 1 = .ok (.getfield 22, 3) := by decide +kernel
theorem dX2_takeMiddleOff_4 : decode cX2_takeMiddleOff 4 = .ok (.iload_n 1, 1) := by decide +kernel
theorem dX2_takeMiddleOff_5 : decode cX2_takeMiddleOff 5 = .ok (.iaload, 1) := by decide +kernel
theorem dX2_takeMiddleOff_6 : decode cX2_takeMiddleOff 6 = .ok (.istore_n 2, 1) := by decide +kernel
theorem dX2_takeMiddleOff_7 : decode cX2_takeMiddleOff 7 = .ok (.aload_n 0, 1) := by decide +kernel
theorem dX2_takeMiddleOff_8 : decode cX2_takeMiddleOff 8 = .ok (.getfield 22, 3) := by decide +kernel
theorem dX2_takeMiddleOff_11 : decode cX2_takeMiddleOff 11 = .ok (.iload_n 1, 1) := by decide +kernel
theorem dX2_takeMiddleOff_12 : decode cX2_takeMiddleOff 12 = .ok (.iaload, 1) := by decide +kernel
theorem dX2_takeMiddleOff_13 : decode cX2_takeMiddleOff 13 = .ok (.istore_n 3, 1) := by decide +kernel
theorem dX2_takeMiddleOff_14 : decode cX2_takeMiddleOff 14 = .ok (.iload_n 1, 1) := by decide +kernel
theorem dX2_takeMiddleOff_15 : decode cX2_takeMiddleOff 15 = .ok (.istore 4, 2) := by decide +kernel
theorem dX2_takeMiddleOff_17 : decode cX2_takeMiddleOff 17 = .ok (.iload 4, 2) := by decide +kernel
theorem dX2_takeMiddleOff_19 : decode cX2_takeMiddleOff 19 = .ok (.bipush 16, 2) := by decide +kernel
theorem dX2_takeMiddleOff_21 : decode cX2_takeMiddleOff 21 = .ok (.if_icmp .ge 33, 3) := by decide +kernel
theorem dX2_takeMiddleOff_24 : decode cX2_takeMiddleOff 24 = .ok (.iload_n 2, 1) := by decide +kernel
theorem dX2_takeMiddleOff_25 : decode cX2_takeMiddleOff 25 = .ok (.aload_n 0, 1) := by decide +kernel
theorem dX2_takeMiddleOff_26 : decode cX2_takeMiddleOff 26 = .ok (.getfield 22, 3) := by decide +kernel
theorem dX2_takeMiddleOff_29 : decode cX2_takeMiddleOff 29 = .ok (.iload 4, 2) := by decide +kernel
theorem dX2_takeMiddleOff_31 : decode cX2_takeMiddleOff 31 = .ok (.iaload, 1) := by decide +kernel
theorem dX2_takeMiddleOff_32 : decode cX2_takeMiddleOff 32 = .ok (.invokestatic 68, 3) := by decide +kernel
theorem dX2_takeMiddleOff_35 : decode cX2_takeMiddleOff 35 = .ok (.istore_n 2, 1) := by decide +kernel
theorem dX2_takeMiddleOff_36 : decode cX2_takeMiddleOff 36 = .ok (.iload_n 3, 1) := by decide +kernel
theorem dX2_takeMiddleOff_37 : decode cX2_takeMiddleOff 37 = .ok (.aload_n 0, 1) := by decide +kernel
theorem dX2_takeMiddleOff_38 : decode cX2_takeMiddleOff 38 = .ok (.getfield 22, 3) := by decide +kernel
theorem dX2_takeMiddleOff_41 : decode cX2_takeMiddleOff 41 = .ok (.iload 4, 2) := by decide +kernel
theorem dX2_takeMiddleOff_43 : decode cX2_takeMiddleOff 43 = .ok (.iaload, 1) := by decide +kernel
theorem dX2_takeMiddleOff_44 : decode cX2_takeMiddleOff 44 = .ok (.invokestatic 71, 3) := by decide +kernel
theorem dX2_takeMiddleOff_47 : decode cX2_takeMiddleOff 47 = .ok (.istore_n 3, 1) := by decide +kernel
theorem dX2_takeMiddleOff_48 : decode cX2_takeMiddleOff 48 = .ok (.iinc 4 2, 3) := by decide +kernel
theorem dX2_takeMiddleOff_51 : decode cX2_takeMiddleOff 51 = .ok (.goto (-34), 3) := by decide +kernel
theorem dX2_takeMiddleOff_54 : decode cX2_takeMiddleOff 54 = .ok (.iload_n 2, 1) := by decide +kernel
theorem dX2_takeMiddleOff_55 : decode cX2_takeMiddleOff 55 = .ok (.iload_n 3, 1) := by decide +kernel
theorem dX2_takeMiddleOff_56 : decode cX2_takeMiddleOff 56 = .ok (.iadd, 1) := by decide +kernel
theorem dX2_takeMiddleOff_57 : decode cX2_takeMiddleOff 57 = .ok (.iconst 2, 1) := by decide +kernel
theorem dX2_takeMiddleOff_58 : decode cX2_takeMiddleOff 58 = .ok (.invokestatic 53, 3) := by decide +kernel
theorem dX2_takeMiddleOff_61 : decode cX2_takeMiddleOff 61 = .ok (.istore 4, 2) := by decide +kernel
theorem dX2_takeMiddleOff_63 : decode cX2_takeMiddleOff 63 = .ok (.iload_n 1, 1) := by decide +kernel
theorem dX2_takeMiddleOff_64 : decode cX2_takeMiddleOff 64 = .ok (.istore 5, 2) := by decide +kernel
theorem dX2_takeMiddleOff_66 : decode cX2_takeMiddleOff 66 = .ok (.iload 5, 2) := by decide +kernel
theorem dX2_takeMiddleOff_68 : decode cX2_takeMiddleOff 68 = .ok (.bipush 16, 2) := by decide +kernel
theorem dX2_takeMiddleOff_70 : decode cX2_takeMiddleOff 70 = .ok (.if_icmp .ge 26, 3) := by decide +kernel
theorem dX2_takeMiddleOff_73 : decode cX2_takeMiddleOff 73 = .ok (.aload_n 0, 1) := by decide +kernel
theorem dX2_takeMiddleOff_74 : decode cX2_takeMiddleOff 74 = .ok (.getfield 25, 3) := by decide +kernel
theorem dX2_takeMiddleOff_77 : decode cX2_takeMiddleOff 77 = .ok (.iload 5, 2) := by decide +kernel
theorem dX2_takeMiddleOff_79 : decode cX2_takeMiddleOff 79 = .ok (.aload_n 0, 1) := by decide +kernel
theorem dX2_takeMiddleOff_80 : decode cX2_takeMiddleOff 80 = .ok (.getfield 22, 3) := by decide +kernel
theorem dX2_takeMiddleOff_83 : decode cX2_takeMiddleOff 83 = .ok (.iload 5, 2) := by decide +kernel
theorem dX2_takeMiddleOff_85 : decode cX2_takeMiddleOff 85 = .ok (.iaload, 1) := by decide +kernel
theorem dX2_takeMiddleOff_86 : decode cX2_takeMiddleOff 86 = .ok (.iload 4, 2) := by decide +kernel
theorem dX2_takeMiddleOff_88 : decode cX2_takeMiddleOff 88 = .ok (.isub, 1) := by decide +kernel
theorem dX2_takeMiddleOff_89 : decode cX2_takeMiddleOff 89 = .ok (.iastore, 1) := by decide +kernel
theorem dX2_takeMiddleOff_90 : decode cX2_takeMiddleOff 90 = .ok (.iinc 5 2, 3) := by decide +kernel
theorem dX2_takeMiddleOff_93 : decode cX2_takeMiddleOff 93 = .ok (.goto (-27), 3) := by decide +kernel
theorem dX2_takeMiddleOff_96 : decode cX2_takeMiddleOff 96 = .ok (.return_, 1) := by decide +kernel
theorem dX2_greatestSize_0 : decode cX2_greatestSize 0 = .ok (.iconst 0, 1) := by decide +kernel
theorem dX2_greatestSize_1 : decode cX2_greatestSize 1 = .ok (.istore_n 1, 1) := by decide +kernel
theorem dX2_greatestSize_2 : decode cX2_greatestSize 2 = .ok (.iconst 0, 1) := by decide +kernel
theorem dX2_greatestSize_3 : decode cX2_greatestSize 3 = .ok (.istore_n 2, 1) := by decide +kernel
theorem dX2_greatestSize_4 : decode cX2_greatestSize 4 = .ok (.iload_n 2, 1) := by decide +kernel
theorem dX2_greatestSize_5 : decode cX2_greatestSize 5 = .ok (.bipush 16, 2) := by decide +kernel
theorem dX2_greatestSize_7 : decode cX2_greatestSize 7 = .ok (.if_icmp .ge 23, 3) := by decide +kernel
theorem dX2_greatestSize_10 : decode cX2_greatestSize 10 = .ok (.iload_n 1, 1) := by decide +kernel
theorem dX2_greatestSize_11 : decode cX2_greatestSize 11 = .ok (.aload_n 0, 1) := by decide +kernel
theorem dX2_greatestSize_12 : decode cX2_greatestSize 12 = .ok (.getfield 25, 3) := by decide +kernel
theorem dX2_greatestSize_15 : decode cX2_greatestSize 15 = .ok (.iload_n 2, 1) := by decide +kernel
theorem dX2_greatestSize_16 : decode cX2_greatestSize 16 = .ok (.iaload, 1) := by decide +kernel
theorem dX2_greatestSize_17 : decode cX2_greatestSize 17 = .ok (.invokestatic 32, 3) := by decide +kernel
theorem dX2_greatestSize_20 : decode cX2_greatestSize 20 = .ok (.invokestatic 71, 3) := by decide +kernel
theorem dX2_greatestSize_23 : decode cX2_greatestSize 23 = .ok (.istore_n 1, 1) := by decide +kernel
theorem dX2_greatestSize_24 : decode cX2_greatestSize 24 = .ok (.iinc 2 1, 3) := by decide +kernel
theorem dX2_greatestSize_27 : decode cX2_greatestSize 27 = .ok (.goto (-23), 3) := by decide +kernel
theorem dX2_greatestSize_30 : decode cX2_greatestSize 30 = .ok (.iload_n 1, 1) := by decide +kernel
theorem dX2_greatestSize_31 : decode cX2_greatestSize 31 = .ok (.ireturn, 1) := by decide +kernel
theorem dX3_init_0 : decode cX3_init 0 = .ok (.aload_n 0, 1) := by decide +kernel
theorem dX3_init_1 : decode cX3_init 1 = .ok (.invokespecial 3, 3) := by decide +kernel
theorem dX3_init_4 : decode cX3_init 4 = .ok (.aload_n 0, 1) := by decide +kernel
theorem dX3_init_5 : decode cX3_init 5 = .ok (.bipush 40, 2) := by decide +kernel
theorem dX3_init_7 : decode cX3_init 7 = .ok (.newarray .int, 2) := by decide +kernel
theorem dX3_init_9 : decode cX3_init 9 = .ok (.putfield 11, 3) := by decide +kernel
theorem dX3_init_12 : decode cX3_init 12 = .ok (.aload_n 0, 1) := by decide +kernel
theorem dX3_init_13 : decode cX3_init 13 = .ok (.bipush 40, 2) := by decide +kernel
theorem dX3_init_15 : decode cX3_init 15 = .ok (.newarray .int, 2) := by decide +kernel
theorem dX3_init_17 : decode cX3_init 17 = .ok (.putfield 15, 3) := by decide +kernel
theorem dX3_init_20 : decode cX3_init 20 = .ok (.aload_n 0, 1) := by decide +kernel
theorem dX3_init_21 : decode cX3_init 21 = .ok (.bipush 40, 2) := by decide +kernel
theorem dX3_init_23 : decode cX3_init 23 = .ok (.newarray .int, 2) := by decide +kernel
theorem dX3_init_25 : decode cX3_init 25 = .ok (.putfield 18, 3) := by decide +kernel
theorem dX3_init_28 : decode cX3_init 28 = .ok (.aload_n 0, 1) := by decide +kernel
theorem dX3_init_29 : decode cX3_init 29 = .ok (.iconst 0, 1) := by decide +kernel
theorem dX3_init_30 : decode cX3_init 30 = .ok (.putfield 21, 3) := by decide +kernel
theorem dX3_init_33 : decode cX3_init 33 = .ok (.aload_n 0, 1) := by decide +kernel
theorem dX3_init_34 : decode cX3_init 34 = .ok (.iconst 0, 1) := by decide +kernel
theorem dX3_init_35 : decode cX3_init 35 = .ok (.putfield 25, 3) := by decide +kernel
theorem dX3_init_38 : decode cX3_init 38 = .ok (.return_, 1) := by decide +kernel
theorem dX3_add_0 : decode cX3_add 0 = .ok (.aload_n 0, 1) := by decide +kernel
theorem dX3_add_1 : decode cX3_add 1 = .ok (.getfield 21, 3) := by decide +kernel
theorem dX3_add_4 : decode cX3_add 4 = .ok (.bipush 40, 2) := by decide +kernel
theorem dX3_add_6 : decode cX3_add 6 = .ok (.if_icmp .lt 5, 3) := by decide +kernel
theorem dX3_add_9 : decode cX3_add 9 = .ok (.iconst 0, 1) := by decide +kernel
theorem dX3_add_10 : decode cX3_add 10 = .ok (.ireturn, 1) := by decide +kernel
theorem dX3_add_11 : decode cX3_add 11 = .ok (.aload_n 0, 1) := by decide +kernel
theorem dX3_add_12 : decode cX3_add 12 = .ok (.getfield 11, 3) := by decide +kernel
theorem dX3_add_15 : decode cX3_add 15 = .ok (.aload_n 0, 1) := by decide +kernel
theorem dX3_add_16 : decode cX3_add 16 = .ok (.getfield 21, 3) := by decide +kernel
theorem dX3_add_19 : decode cX3_add 19 = .ok (.iload_n 1, 1) := by decide +kernel
theorem dX3_add_20 : decode cX3_add 20 = .ok (.iastore, 1) := by decide +kernel
theorem dX3_add_21 : decode cX3_add 21 = .ok (.aload_n 0, 1) := by decide +kernel
theorem dX3_add_22 : decode cX3_add 22 = .ok (.dup, 1) := by decide +kernel
theorem dX3_add_23 : decode cX3_add 23 = .ok (.getfield 21, 3) := by decide +kernel
theorem dX3_add_26 : decode cX3_add 26 = .ok (.iconst 1, 1) := by decide +kernel
theorem dX3_add_27 : decode cX3_add 27 = .ok (.iadd, 1) := by decide +kernel
theorem dX3_add_28 : decode cX3_add 28 = .ok (.putfield 21, 3) := by decide +kernel
theorem dX3_add_31 : decode cX3_add 31 = .ok (.iconst 1, 1) := by decide +kernel
theorem dX3_add_32 : decode cX3_add 32 = .ok (.ireturn, 1) := by decide +kernel
theorem dX3_empty_0 : decode cX3_empty 0 = .ok (.aload_n 0, 1) := by decide +kernel
theorem dX3_empty_1 : decode cX3_empty 1 = .ok (.getfield 21, 3) := by decide +kernel
theorem dX3_empty_4 : decode cX3_empty 4 = .ok (.istore_n 1, 1) := by decide +kernel
theorem dX3_empty_5 : decode cX3_empty 5 = .ok (.aload_n 0, 1) := by decide +kernel
theorem dX3_empty_6 : decode cX3_empty 6 = .ok (.iconst 0, 1) := by decide +kernel
theorem dX3_empty_7 : decode cX3_empty 7 = .ok (.putfield 21, 3) := by decide +kernel
theorem dX3_empty_10 : decode cX3_empty 10 = .ok (.iload_n 1, 1) := by decide +kernel
theorem dX3_empty_11 : decode cX3_empty 11 = .ok (.ireturn, 1) := by decide +kernel
set_option maxRecDepth 20000 in
theorem ggX3_findCommands_X3_commandAt : GoodIn wsX3_findCommands wsX3_commandAt := goodIn_r _ [14, 15, 16, 17, 18, 19, 20, 21, 22, 23, 24, 13, 25, 5, 2, 26, 27, 28, 29, 30, 31, 32, 33, 34, 35, 36, 37, 43, 44, 45, 46, 47, 38, 39, 40, 41, 42] (by decide +kernel) (by decide +kernel)
set_option maxRecDepth 20000 in
theorem gX3_findCommands_X3_commandAt : GoodIn wsX3_findCommands (wsV RX3 28 RX3 yX3_commandAt wsX3_commandAt) := goodIn_app (goodIn_of _ (by decide +kernel)) ggX3_findCommands_X3_commandAt
theorem dX3_findCommands_0 : decode cX3_findCommands 0 = .ok (.aload_n 0, 1) := by decide +kernel
theorem dX3_findCommands_1 : decode cX3_findCommands 1 = .ok (.iconst 0, 1) := by decide +kernel
theorem dX3_findCommands_2 : decode cX3_findCommands 2 = .ok (.putfield 25, 3) := by decide +kernel
theorem dX3_findCommands_5 : decode cX3_findCommands 5 = .ok (.iconst 0, 1) := by decide +kernel
theorem dX3_findCommands_6 : decode cX3_findCommands 6 = .ok (.istore_n 3, 1) := by decide +kernel
theorem dX3_findCommands_7 : decode cX3_findCommands 7 = .ok (.iload_n 3, 1) := by decide +kernel
theorem dX3_findCommands_8 : decode cX3_findCommands 8 = .ok (.aload_n 0, 1) := by decide +kernel
theorem dX3_findCommands_9 : decode cX3_findCommands 9 = .ok (.getfield 21, 3) := by decide +kernel
theorem dX3_findCommands_12 : decode cX3_findCommands 12 = .ok (.if_icmp .ge 73, 3) := by decide +kernel
theorem dX3_findCommands_15 : decode cX3_findCommands 15 = .ok (.aload_n 0, 1) := by decide +kernel
theorem dX3_findCommands_16 : decode cX3_findCommands 16 = .ok (.aload_n 1, 1) := by decide +kernel
theorem dX3_findCommands_17 : decode cX3_findCommands 17 = .ok (.iload_n 2, 1) := by decide +kernel
theorem dX3_findCommands_18 : decode cX3_findCommands 18 = .ok (.iload_n 3, 1) := by decide +kernel
theorem dX3_findCommands_19 : decode cX3_findCommands 19 = .ok (.invokevirtual 28, 3) := by decide +kernel
theorem dX3_findCommands_22 : decode cX3_findCommands 22 = .ok (.istore 4, 2) := by decide +kernel
theorem dX3_findCommands_24 : decode cX3_findCommands 24 = .ok (.iload 4, 2) := by decide +kernel
theorem dX3_findCommands_26 : decode cX3_findCommands 26 = .ok (.bipush (-4), 2) := by decide +kernel
theorem dX3_findCommands_28 : decode cX3_findCommands 28 = .ok (.if_icmp .ne 9, 3) := by decide +kernel
theorem dX3_findCommands_31 : decode cX3_findCommands 31 = .ok (.iinc 3 1, 3) := by decide +kernel
theorem dX3_findCommands_34 : decode cX3_findCommands 34 = .ok (.goto 48, 3) := by decide +kernel
theorem dX3_findCommands_37 : decode cX3_findCommands 37 = .ok (.aload_n 0, 1) := by decide +kernel
theorem dX3_findCommands_38 : decode cX3_findCommands 38 = .ok (.getfield 15, 3) := by decide +kernel
theorem dX3_findCommands_41 : decode cX3_findCommands 41 = .ok (.aload_n 0, 1) := by decide +kernel
theorem dX3_findCommands_42 : decode cX3_findCommands 42 = .ok (.getfield 25, 3) := by decide +kernel
theorem dX3_findCommands_45 : decode cX3_findCommands 45 = .ok (.iload 4, 2) := by decide +kernel
theorem dX3_findCommands_47 : decode cX3_findCommands 47 = .ok (.iastore, 1) := by decide +kernel
theorem dX3_findCommands_48 : decode cX3_findCommands 48 = .ok (.aload_n 0, 1) := by decide +kernel
theorem dX3_findCommands_49 : decode cX3_findCommands 49 = .ok (.getfield 18, 3) := by decide +kernel
theorem dX3_findCommands_52 : decode cX3_findCommands 52 = .ok (.aload_n 0, 1) := by decide +kernel
theorem dX3_findCommands_53 : decode cX3_findCommands 53 = .ok (.getfield 25, 3) := by decide +kernel
theorem dX3_findCommands_56 : decode cX3_findCommands 56 = .ok (.iload_n 3, 1) := by decide +kernel
theorem dX3_findCommands_57 : decode cX3_findCommands 57 = .ok (.iastore, 1) := by decide +kernel
theorem dX3_findCommands_58 : decode cX3_findCommands 58 = .ok (.aload_n 0, 1) := by decide +kernel
theorem dX3_findCommands_59 : decode cX3_findCommands 59 = .ok (.dup, 1) := by decide +kernel
theorem dX3_findCommands_60 : decode cX3_findCommands 60 = .ok (.getfield 25, 3) := by decide +kernel
theorem dX3_findCommands_63 : decode cX3_findCommands 63 = .ok (.iconst 1, 1) := by decide +kernel
theorem dX3_findCommands_64 : decode cX3_findCommands 64 = .ok (.iadd, 1) := by decide +kernel
theorem dX3_findCommands_65 : decode cX3_findCommands 65 = .ok (.putfield 25, 3) := by decide +kernel
theorem dX3_findCommands_68 : decode cX3_findCommands 68 = .ok (.iload_n 3, 1) := by decide +kernel
theorem dX3_findCommands_69 : decode cX3_findCommands 69 = .ok (.iconst 1, 1) := by decide +kernel
theorem dX3_findCommands_70 : decode cX3_findCommands 70 = .ok (.aload_n 1, 1) := by decide +kernel
theorem dX3_findCommands_71 : decode cX3_findCommands 71 = .ok (.getfield 32, 3) := by decide +kernel
theorem dX3_findCommands_74 : decode cX3_findCommands 74 = .ok (.iload 4, 2) := by decide +kernel
theorem dX3_findCommands_76 : decode cX3_findCommands 76 = .ok (.iaload, 1) := by decide +kernel
theorem dX3_findCommands_77 : decode cX3_findCommands 77 = .ok (.invokestatic 37, 3) := by decide +kernel
theorem dX3_findCommands_80 : decode cX3_findCommands 80 = .ok (.iadd, 1) := by decide +kernel
theorem dX3_findCommands_81 : decode cX3_findCommands 81 = .ok (.istore_n 3, 1) := by decide +kernel
theorem dX3_findCommands_82 : decode cX3_findCommands 82 = .ok (.goto (-75), 3) := by decide +kernel
theorem dX3_findCommands_85 : decode cX3_findCommands 85 = .ok (.return_, 1) := by decide +kernel
set_option maxRecDepth 20000 in
theorem ggX3_commandAt_X1_isOf : GoodIn wsX3_commandAt wsX1_isOf := goodIn_r _ [6, 7, 27, 28, 29, 30, 31] (by decide +kernel) (by decide +kernel)
set_option maxRecDepth 20000 in
theorem gX3_commandAt_X1_isOf : GoodIn wsX3_commandAt (wsV RX3 44 RX1 yX1_isOf wsX1_isOf) := goodIn_app (goodIn_of _ (by decide +kernel)) ggX3_commandAt_X1_isOf
set_option maxRecDepth 20000 in
theorem ggX3_commandAt_X3_standsAt : GoodIn wsX3_commandAt wsX3_standsAt := goodIn_r _ [12, 13, 14, 15, 16, 17, 18, 5, 19, 20, 27, 28, 29, 30, 31, 32, 33, 34, 35, 36] (by decide +kernel) (by decide +kernel)
set_option maxRecDepth 20000 in
theorem gX3_commandAt_X3_standsAt : GoodIn wsX3_commandAt (wsV RX3 48 RX3 yX3_standsAt wsX3_standsAt) := goodIn_app (goodIn_of _ (by decide +kernel)) ggX3_commandAt_X3_standsAt
set_option maxRecDepth 20000 in
theorem ggX3_commandAt_X1_goesBefore : GoodIn wsX3_commandAt wsX1_goesBefore := goodIn_r _ [24, 25, 26, 27, 28, 29, 30, 31] (by decide +kernel) (by decide +kernel)
set_option maxRecDepth 20000 in
theorem gX3_commandAt_X1_goesBefore : GoodIn wsX3_commandAt (wsV RX3 52 RX1 yX1_goesBefore wsX1_goesBefore) := goodIn_app (goodIn_of _ (by decide +kernel)) ggX3_commandAt_X1_goesBefore
theorem dX3_commandAt_0 : decode cX3_commandAt 0 = .ok (.bipush (-4), 2) := by decide +kernel
theorem dX3_commandAt_2 : decode cX3_commandAt 2 = .ok (.istore 4, 2) := by decide +kernel
theorem dX3_commandAt_4 : decode cX3_commandAt 4 = .ok (.iconst 0, 1) := by decide +kernel
theorem dX3_commandAt_5 : decode cX3_commandAt 5 = .ok (.istore 5, 2) := by decide +kernel
theorem dX3_commandAt_7 : decode cX3_commandAt 7 = .ok (.iload 5, 2) := by decide +kernel
theorem dX3_commandAt_9 : decode cX3_commandAt 9 = .ok (.aload_n 1, 1) := by decide +kernel
theorem dX3_commandAt_10 : decode cX3_commandAt 10 = .ok (.getfield 43, 3) := by decide +kernel
theorem dX3_commandAt_13 : decode cX3_commandAt 13 = .ok (.if_icmp .ge 52, 3) := by decide +kernel
theorem dX3_commandAt_16 : decode cX3_commandAt 16 = .ok (.aload_n 1, 1) := by decide +kernel
theorem dX3_commandAt_17 : decode cX3_commandAt 17 = .ok (.iload 5, 2) := by decide +kernel
theorem dX3_commandAt_19 : decode cX3_commandAt 19 = .ok (.iload_n 2, 1) := by decide +kernel
theorem dX3_commandAt_20 : decode cX3_commandAt 20 = .ok (.invokevirtual 44, 3) := by decide +kernel
theorem dX3_commandAt_23 : decode cX3_commandAt 23 = .ok (.ifCond .eq 36, 3) := by decide +kernel
theorem dX3_commandAt_26 : decode cX3_commandAt 26 = .ok (.aload_n 0, 1) := by decide +kernel
theorem dX3_commandAt_27 : decode cX3_commandAt 27 = .ok (.aload_n 1, 1) := by decide +kernel
theorem dX3_commandAt_28 : decode cX3_commandAt 28 = .ok (.iload 5, 2) := by decide +kernel
theorem dX3_commandAt_30 : decode cX3_commandAt 30 = .ok (.iload_n 3, 1) := by decide +kernel
theorem dX3_commandAt_31 : decode cX3_commandAt 31 = .ok (.invokevirtual 48, 3) := by decide +kernel
theorem dX3_commandAt_34 : decode cX3_commandAt 34 = .ok (.ifCond .eq 25, 3) := by decide +kernel
theorem dX3_commandAt_37 : decode cX3_commandAt 37 = .ok (.iload 4, 2) := by decide +kernel
theorem dX3_commandAt_39 : decode cX3_commandAt 39 = .ok (.bipush (-4), 2) := by decide +kernel
theorem dX3_commandAt_41 : decode cX3_commandAt 41 = .ok (.if_icmp .eq 14, 3) := by decide +kernel
theorem dX3_commandAt_44 : decode cX3_commandAt 44 = .ok (.aload_n 1, 1) := by decide +kernel
theorem dX3_commandAt_45 : decode cX3_commandAt 45 = .ok (.iload 5, 2) := by decide +kernel
theorem dX3_commandAt_47 : decode cX3_commandAt 47 = .ok (.iload 4, 2) := by decide +kernel
theorem dX3_commandAt_49 : decode cX3_commandAt 49 = .ok (.invokevirtual 52, 3) := by decide +kernel
theorem dX3_commandAt_52 : decode cX3_commandAt 52 = .ok (.ifCond .eq 7, 3) := by decide +kernel
theorem dX3_commandAt_55 : decode cX3_commandAt 55 = .ok (.iload 5, 2) := by decide +kernel
theorem dX3_commandAt_57 : decode cX3_commandAt 57 = .ok (.istore 4, 2) := by decide +kernel
theorem dX3_commandAt_59 : decode cX3_commandAt 59 = .ok (.iinc 5 1, 3) := by decide +kernel
theorem dX3_commandAt_62 : decode cX3_commandAt 62 = .ok (.goto (-55), 3) := by decide +kernel
theorem dX3_commandAt_65 : decode cX3_commandAt 65 = .ok (.iload 4, 2) := by decide +kernel
theorem dX3_commandAt_67 : decode cX3_commandAt 67 = .ok (.ireturn, 1) := by decide +kernel
set_option maxRecDepth 20000 in
theorem ggX3_standsAt_X1_labelAt : GoodIn wsX3_standsAt wsX1_labelAt := goodIn_r _ [8, 9, 10, 11, 12, 13, 14] (by decide +kernel) (by decide +kernel)
set_option maxRecDepth 20000 in
theorem gX3_standsAt_X1_labelAt : GoodIn wsX3_standsAt (wsV RX3 55 RX1 yX1_labelAt wsX1_labelAt) := goodIn_app (goodIn_of _ (by decide +kernel)) ggX3_standsAt_X1_labelAt
theorem dX3_standsAt_0 : decode cX3_standsAt 0 = .ok (.aload_n 1, 1) := by decide +kernel
theorem dX3_standsAt_1 : decode cX3_standsAt 1 = .ok (.getfield 32, 3) := by decide +kernel
theorem dX3_standsAt_4 : decode cX3_standsAt 4 = .ok (.iload_n 2, 1) := by decide +kernel
theorem dX3_standsAt_5 : decode cX3_standsAt 5 = .ok (.iaload, 1) := by decide +kernel
theorem dX3_standsAt_6 : decode cX3_standsAt 6 = .ok (.aload_n 0, 1) := by decide +kernel
theorem dX3_standsAt_7 : decode cX3_standsAt 7 = .ok (.getfield 21, 3) := by decide +kernel
theorem dX3_standsAt_10 : decode cX3_standsAt 10 = .ok (.iload_n 3, 1) := by decide +kernel
theorem dX3_standsAt_11 : decode cX3_standsAt 11 = .ok (.isub, 1) := by decide +kernel
theorem dX3_standsAt_12 : decode cX3_standsAt 12 = .ok (.if_icmp .le 5, 3) := by decide +kernel
theorem dX3_standsAt_15 : decode cX3_standsAt 15 = .ok (.iconst 0, 1) := by decide +kernel
theorem dX3_standsAt_16 : decode cX3_standsAt 16 = .ok (.ireturn, 1) := by decide +kernel
theorem dX3_standsAt_17 : decode cX3_standsAt 17 = .ok (.iconst 0, 1) := by decide +kernel
theorem dX3_standsAt_18 : decode cX3_standsAt 18 = .ok (.istore 4, 2) := by decide +kernel
theorem dX3_standsAt_20 : decode cX3_standsAt 20 = .ok (.iload 4, 2) := by decide +kernel
theorem dX3_standsAt_22 : decode cX3_standsAt 22 = .ok (.aload_n 1, 1) := by decide +kernel
theorem dX3_standsAt_23 : decode cX3_standsAt 23 = .ok (.getfield 32, 3) := by decide +kernel
theorem dX3_standsAt_26 : decode cX3_standsAt 26 = .ok (.iload_n 2, 1) := by decide +kernel
theorem dX3_standsAt_27 : decode cX3_standsAt 27 = .ok (.iaload, 1) := by decide +kernel
theorem dX3_standsAt_28 : decode cX3_standsAt 28 = .ok (.if_icmp .ge 30, 3) := by decide +kernel
theorem dX3_standsAt_31 : decode cX3_standsAt 31 = .ok (.aload_n 0, 1) := by decide +kernel
theorem dX3_standsAt_32 : decode cX3_standsAt 32 = .ok (.getfield 11, 3) := by decide +kernel
theorem dX3_standsAt_35 : decode cX3_standsAt 35 = .ok (.iload_n 3, 1) := by decide +kernel
theorem dX3_standsAt_36 : decode cX3_standsAt 36 = .ok (.iload 4, 2) := by decide +kernel
theorem dX3_standsAt_38 : decode cX3_standsAt 38 = .ok (.iadd, 1) := by decide +kernel
theorem dX3_standsAt_39 : decode cX3_standsAt 39 = .ok (.iaload, 1) := by decide +kernel
theorem dX3_standsAt_40 : decode cX3_standsAt 40 = .ok (.aload_n 1, 1) := by decide +kernel
theorem dX3_standsAt_41 : decode cX3_standsAt 41 = .ok (.iload_n 2, 1) := by decide +kernel
theorem dX3_standsAt_42 : decode cX3_standsAt 42 = .ok (.iload 4, 2) := by decide +kernel
theorem dX3_standsAt_44 : decode cX3_standsAt 44 = .ok (.invokevirtual 55, 3) := by decide +kernel
theorem dX3_standsAt_47 : decode cX3_standsAt 47 = .ok (.if_icmp .eq 5, 3) := by decide +kernel
theorem dX3_standsAt_50 : decode cX3_standsAt 50 = .ok (.iconst 0, 1) := by decide +kernel
theorem dX3_standsAt_51 : decode cX3_standsAt 51 = .ok (.ireturn, 1) := by decide +kernel
theorem dX3_standsAt_52 : decode cX3_standsAt 52 = .ok (.iinc 4 1, 3) := by decide +kernel
theorem dX3_standsAt_55 : decode cX3_standsAt 55 = .ok (.goto (-35), 3) := by decide +kernel
theorem dX3_standsAt_58 : decode cX3_standsAt 58 = .ok (.iconst 1, 1) := by decide +kernel
theorem dX3_standsAt_59 : decode cX3_standsAt 59 = .ok (.ireturn, 1) := by decide +kernel
theorem dX4_init_0 : decode cX4_init 0 = .ok (.aload_n 0, 1) := by decide +kernel
theorem dX4_init_1 : decode cX4_init 1 = .ok (.invokespecial 3, 3) := by decide +kernel
theorem dX4_init_4 : decode cX4_init 4 = .ok (.aload_n 0, 1) := by decide +kernel
theorem dX4_init_5 : decode cX4_init 5 = .ok (.bipush 16, 2) := by decide +kernel
theorem dX4_init_7 : decode cX4_init 7 = .ok (.newarray .int, 2) := by decide +kernel
theorem dX4_init_9 : decode cX4_init 9 = .ok (.putfield 9, 3) := by decide +kernel
theorem dX4_init_12 : decode cX4_init 12 = .ok (.aload_n 0, 1) := by decide +kernel
theorem dX4_init_13 : decode cX4_init 13 = .ok (.bipush 64, 2) := by decide +kernel
theorem dX4_init_15 : decode cX4_init 15 = .ok (.newarray .int, 2) := by decide +kernel
theorem dX4_init_17 : decode cX4_init 17 = .ok (.putfield 15, 3) := by decide +kernel
theorem dX4_init_20 : decode cX4_init 20 = .ok (.aload_n 0, 1) := by decide +kernel
theorem dX4_init_21 : decode cX4_init 21 = .ok (.sipush 256, 3) := by decide +kernel
theorem dX4_init_24 : decode cX4_init 24 = .ok (.newarray .int, 2) := by decide +kernel
theorem dX4_init_26 : decode cX4_init 26 = .ok (.putfield 18, 3) := by decide +kernel
theorem dX4_init_29 : decode cX4_init 29 = .ok (.return_, 1) := by decide +kernel
set_option maxRecDepth 20000 in
theorem ggX4_distanceFrom_X4_distanceUnturned : GoodIn wsX4_distanceFrom wsX4_distanceUnturned := goodIn_r _ [16, 8, 9, 10, 11, 17, 18, 19, 15, 20, 21, 22, 23, 24, 25, 26, 1, 27, 28, 29, 30, 31, 32, 33, 34, 35, 36, 37, 38, 39, 40, 41, 46, 47, 48] (by decide +kernel) (by decide +kernel)
set_option maxRecDepth 20000 in
theorem gX4_distanceFrom_X4_distanceUnturned : GoodIn wsX4_distanceFrom (wsV RX4 35 RX4 yX4_distanceUnturned wsX4_distanceUnturned) := goodIn_app (goodIn_of _ (by decide +kernel)) ggX4_distanceFrom_X4_distanceUnturned
set_option maxRecDepth 20000 in
theorem ggX4_distanceFrom_X4_turnQuarter : GoodIn wsX4_distanceFrom wsX4_turnQuarter := goodIn_r _ [45, 1, 46, 47, 48] (by decide +kernel) (by decide +kernel)
set_option maxRecDepth 20000 in
theorem gX4_distanceFrom_X4_turnQuarter : GoodIn wsX4_distanceFrom (wsV RX4 39 RX4 yX4_turnQuarter wsX4_turnQuarter) := goodIn_app (goodIn_of _ (by decide +kernel)) ggX4_distanceFrom_X4_turnQuarter
theorem dX4_distanceFrom_0 : decode cX4_distanceFrom 0 = .ok (.aload_n 1, 1) := by decide +kernel
theorem dX4_distanceFrom_1 : decode cX4_distanceFrom 1 = .ok (.iload_n 2, 1) := by decide +kernel
theorem dX4_distanceFrom_2 : decode cX4_distanceFrom 2 = .ok (.aload_n 0, 1) := by decide +kernel
theorem dX4_distanceFrom_3 : decode cX4_distanceFrom 3 = .ok (.getfield 9, 3) := by decide +kernel
theorem dX4_distanceFrom_6 : decode cX4_distanceFrom 6 = .ok (.iconst 0, 1) := by decide +kernel
theorem dX4_distanceFrom_7 : decode cX4_distanceFrom 7 = .ok (.bipush 16, 2) := by decide +kernel
theorem dX4_distanceFrom_9 : decode cX4_distanceFrom 9 = .ok (.invokestatic 21, 3) := by decide +kernel
theorem dX4_distanceFrom_12 : decode cX4_distanceFrom 12 = .ok (.aload_n 3, 1) := by decide +kernel
theorem dX4_distanceFrom_13 : decode cX4_distanceFrom 13 = .ok (.getfield 27, 3) := by decide +kernel
theorem dX4_distanceFrom_16 : decode cX4_distanceFrom 16 = .ok (.iload 4, 2) := by decide +kernel
theorem dX4_distanceFrom_18 : decode cX4_distanceFrom 18 = .ok (.iaload, 1) := by decide +kernel
theorem dX4_distanceFrom_19 : decode cX4_distanceFrom 19 = .ok (.istore 5, 2) := by decide +kernel
theorem dX4_distanceFrom_21 : decode cX4_distanceFrom 21 = .ok (.iload 5, 2) := by decide +kernel
theorem dX4_distanceFrom_23 : decode cX4_distanceFrom 23 = .ok (.iconst 1, 1) := by decide +kernel
theorem dX4_distanceFrom_24 : decode cX4_distanceFrom 24 = .ok (.if_icmp .eq 9, 3) := by decide +kernel
theorem dX4_distanceFrom_27 : decode cX4_distanceFrom 27 = .ok (.iload 5, 2) := by decide +kernel
theorem dX4_distanceFrom_29 : decode cX4_distanceFrom 29 = .ok (.iconst 4, 1) := by decide +kernel
theorem dX4_distanceFrom_30 : decode cX4_distanceFrom 30 = .ok (.if_icmp .ne 7, 3) := by decide +kernel
theorem dX4_distanceFrom_33 : decode cX4_distanceFrom 33 = .ok (.iconst 4, 1) := by decide +kernel
theorem dX4_distanceFrom_34 : decode cX4_distanceFrom 34 = .ok (.goto 4, 3) := by decide +kernel
theorem dX4_distanceFrom_37 : decode cX4_distanceFrom 37 = .ok (.iconst 1, 1) := by decide +kernel
theorem dX4_distanceFrom_38 : decode cX4_distanceFrom 38 = .ok (.istore 6, 2) := by decide +kernel
theorem dX4_distanceFrom_40 : decode cX4_distanceFrom 40 = .ok (.aload_n 0, 1) := by decide +kernel
theorem dX4_distanceFrom_41 : decode cX4_distanceFrom 41 = .ok (.iload 5, 2) := by decide +kernel
theorem dX4_distanceFrom_43 : decode cX4_distanceFrom 43 = .ok (.aload_n 3, 1) := by decide +kernel
theorem dX4_distanceFrom_44 : decode cX4_distanceFrom 44 = .ok (.getfield 32, 3) := by decide +kernel
theorem dX4_distanceFrom_47 : decode cX4_distanceFrom 47 = .ok (.iload 4, 2) := by decide +kernel
theorem dX4_distanceFrom_49 : decode cX4_distanceFrom 49 = .ok (.bipush 16, 2) := by decide +kernel
theorem dX4_distanceFrom_51 : decode cX4_distanceFrom 51 = .ok (.imul, 1) := by decide +kernel
theorem dX4_distanceFrom_52 : decode cX4_distanceFrom 52 = .ok (.invokevirtual 35, 3) := by decide +kernel
theorem dX4_distanceFrom_55 : decode cX4_distanceFrom 55 = .ok (.istore 7, 2) := by decide +kernel
theorem dX4_distanceFrom_57 : decode cX4_distanceFrom 57 = .ok (.iconst 1, 1) := by decide +kernel
theorem dX4_distanceFrom_58 : decode cX4_distanceFrom 58 = .ok (.istore 8, 2) := by decide +kernel
theorem dX4_distanceFrom_60 : decode cX4_distanceFrom 60 = .ok (.iload 8, 2) := by decide +kernel
theorem dX4_distanceFrom_62 : decode cX4_distanceFrom 62 = .ok (.iload 6, 2) := by decide +kernel
theorem dX4_distanceFrom_64 : decode cX4_distanceFrom 64 = .ok (.if_icmp .ge 35, 3) := by decide +kernel
theorem dX4_distanceFrom_67 : decode cX4_distanceFrom 67 = .ok (.aload_n 0, 1) := by decide +kernel
theorem dX4_distanceFrom_68 : decode cX4_distanceFrom 68 = .ok (.invokevirtual 39, 3) := by decide +kernel
theorem dX4_distanceFrom_71 : decode cX4_distanceFrom 71 = .ok (.iload 7, 2) := by decide +kernel
theorem dX4_distanceFrom_73 : decode cX4_distanceFrom 73 = .ok (.aload_n 0, 1) := by decide +kernel
theorem dX4_distanceFrom_74 : decode cX4_distanceFrom 74 = .ok (.iload 5, 2) := by decide +kernel
theorem dX4_distanceFrom_76 : decode cX4_distanceFrom 76 = .ok (.aload_n 3, 1) := by decide +kernel
theorem dX4_distanceFrom_77 : decode cX4_distanceFrom 77 = .ok (.getfield 32, 3) := by decide +kernel
theorem dX4_distanceFrom_80 : decode cX4_distanceFrom 80 = .ok (.iload 4, 2) := by decide +kernel
theorem dX4_distanceFrom_82 : decode cX4_distanceFrom 82 = .ok (.bipush 16, 2) := by decide +kernel
theorem dX4_distanceFrom_84 : decode cX4_distanceFrom 84 = .ok (.imul, 1) := by decide +kernel
theorem dX4_distanceFrom_85 : decode cX4_distanceFrom 85 = .ok (.invokevirtual 35, 3) := by decide +kernel
theorem dX4_distanceFrom_88 : decode cX4_distanceFrom 88 = .ok (.invokestatic 42, 3) := by decide +kernel
theorem dX4_distanceFrom_91 : decode cX4_distanceFrom 91 = .ok (.istore 7, 2) := by decide +kernel
theorem dX4_distanceFrom_93 : decode cX4_distanceFrom 93 = .ok (.iinc 8 1, 3) := by decide +kernel
theorem dX4_distanceFrom_96 : decode cX4_distanceFrom 96 = .ok (.goto (-36), 3) := by decide +kernel
theorem dX4_distanceFrom_99 : decode cX4_distanceFrom 99 = .ok (.iload 7, 2) := by decide +kernel
theorem dX4_distanceFrom_101 : decode cX4_distanceFrom 101 = .ok (.ireturn, 1) := by decide +kernel
theorem dX4_turnQuarter_0 : decode cX4_turnQuarter 0 = .ok (.iconst 0, 1) := by decide +kernel
theorem dX4_turnQuarter_1 : decode cX4_turnQuarter 1 = .ok (.istore_n 1, 1) := by decide +kernel
theorem dX4_turnQuarter_2 : decode cX4_turnQuarter 2 = .ok (.iload_n 1, 1) := by decide +kernel
theorem dX4_turnQuarter_3 : decode cX4_turnQuarter 3 = .ok (.bipush 16, 2) := by decide +kernel
theorem dX4_turnQuarter_5 : decode cX4_turnQuarter 5 = .ok (.if_icmp .ge 40, 3) := by decide +kernel
theorem dX4_turnQuarter_8 : decode cX4_turnQuarter 8 = .ok (.aload_n 0, 1) := by decide +kernel
theorem dX4_turnQuarter_9 : decode cX4_turnQuarter 9 = .ok (.getfield 9, 3) := by decide +kernel
theorem dX4_turnQuarter_12 : decode cX4_turnQuarter 12 = .ok (.iload_n 1, 1) := by decide +kernel
theorem dX4_turnQuarter_13 : decode cX4_turnQuarter 13 = .ok (.iaload, 1) := by decide +kernel
theorem dX4_turnQuarter_14 : decode cX4_turnQuarter 14 = .ok (.istore_n 2, 1) := by decide +kernel
theorem dX4_turnQuarter_15 : decode cX4_turnQuarter 15 = .ok (.aload_n 0, 1) := by decide +kernel
theorem dX4_turnQuarter_16 : decode cX4_turnQuarter 16 = .ok (.getfield 9, 3) := by decide +kernel
theorem dX4_turnQuarter_19 : decode cX4_turnQuarter 19 = .ok (.iload_n 1, 1) := by decide +kernel
theorem dX4_turnQuarter_20 : decode cX4_turnQuarter 20 = .ok (.aload_n 0, 1) := by decide +kernel
theorem dX4_turnQuarter_21 : decode cX4_turnQuarter 21 = .ok (.getfield 9, 3) := by decide +kernel
theorem dX4_turnQuarter_24 : decode cX4_turnQuarter 24 = .ok (.iload_n 1, 1) := by decide +kernel
theorem dX4_turnQuarter_25 : decode cX4_turnQuarter 25 = .ok (.iconst 1, 1) := by decide +kernel
theorem dX4_turnQuarter_26 : decode cX4_turnQuarter 26 = .ok (.iadd, 1) := by decide +kernel
theorem dX4_turnQuarter_27 : decode cX4_turnQuarter 27 = .ok (.iaload, 1) := by decide +kernel
theorem dX4_turnQuarter_28 : decode cX4_turnQuarter 28 = .ok (.ineg, 1) := by decide +kernel
theorem dX4_turnQuarter_29 : decode cX4_turnQuarter 29 = .ok (.iastore, 1) := by decide +kernel
theorem dX4_turnQuarter_30 : decode cX4_turnQuarter 30 = .ok (.aload_n 0, 1) := by decide +kernel
theorem dX4_turnQuarter_31 : decode cX4_turnQuarter 31 = .ok (.getfield 9, 3) := by decide +kernel
theorem dX4_turnQuarter_34 : decode cX4_turnQuarter 34 = .ok (.iload_n 1, 1) := by decide +kernel
theorem dX4_turnQuarter_35 : decode cX4_turnQuarter 35 = .ok (.iconst 1, 1) := by decide +kernel
theorem dX4_turnQuarter_36 : decode cX4_turnQuarter 36 = .ok (.iadd, 1) := by decide +kernel
theorem dX4_turnQuarter_37 : decode cX4_turnQuarter 37 = .ok (.iload_n 2, 1) := by decide +kernel
theorem dX4_turnQuarter_38 : decode cX4_turnQuarter 38 = .ok (.iastore, 1) := by decide +kernel
theorem dX4_turnQuarter_39 : decode cX4_turnQuarter 39 = .ok (.iinc 1 2, 3) := by decide +kernel
theorem dX4_turnQuarter_42 : decode cX4_turnQuarter 42 = .ok (.goto (-40), 3) := by decide +kernel
theorem dX4_turnQuarter_45 : decode cX4_turnQuarter 45 = .ok (.return_, 1) := by decide +kernel
set_option maxRecDepth 20000 in
theorem ggX4_distanceUnturned_X4_leastPairing : GoodIn wsX4_distanceUnturned wsX4_leastPairing := goodIn_r _ [9, 10, 11, 12, 13, 14, 8, 15, 16, 17, 18, 3, 19, 20, 21, 22, 23, 24, 1, 2, 4, 25, 26, 27, 28, 29, 30, 31, 32, 33, 34] (by decide +kernel) (by decide +kernel)
set_option maxRecDepth 20000 in
theorem gX4_distanceUnturned_X4_leastPairing : GoodIn wsX4_distanceUnturned (wsV RX4 48 RX4 yX4_leastPairing wsX4_leastPairing) := goodIn_app (goodIn_of _ (by decide +kernel)) ggX4_distanceUnturned_X4_leastPairing
set_option maxRecDepth 20000 in
theorem ggX4_distanceUnturned_X4_pointsApart : GoodIn wsX4_distanceUnturned wsX4_pointsApart := goodIn_r _ [15, 16, 17, 18, 3, 19, 32, 33, 34] (by decide +kernel) (by decide +kernel)
set_option maxRecDepth 20000 in
theorem gX4_distanceUnturned_X4_pointsApart : GoodIn wsX4_distanceUnturned (wsV RX4 52 RX4 yX4_pointsApart wsX4_pointsApart) := goodIn_app (goodIn_of _ (by decide +kernel)) ggX4_distanceUnturned_X4_pointsApart
theorem dX4_distanceUnturned_0 : decode cX4_distanceUnturned 0 = .ok (.iload_n 1, 1) := by decide +kernel
theorem dX4_distanceUnturned_1 : decode cX4_distanceUnturned 1 = .ok (.iconst 3, 1) := by decide +kernel
theorem dX4_distanceUnturned_2 : decode cX4_distanceUnturned 2 = .ok (.if_icmp .eq 8, 3) := by decide +kernel
theorem dX4_distanceUnturned_5 : decode cX4_distanceUnturned 5 = .ok (.iload_n 1, 1) := by decide +kernel
theorem dX4_distanceUnturned_6 : decode cX4_distanceUnturned 6 = .ok (.iconst 4, 1) := by decide +kernel
theorem dX4_distanceUnturned_7 : decode cX4_distanceUnturned 7 = .ok (.if_icmp .ne 10, 3) := by decide +kernel
theorem dX4_distanceUnturned_10 : decode cX4_distanceUnturned 10 = .ok (.aload_n 0, 1) := by decide +kernel
theorem dX4_distanceUnturned_11 : decode cX4_distanceUnturned 11 = .ok (.aload_n 2, 1) := by decide +kernel
theorem dX4_distanceUnturned_12 : decode cX4_distanceUnturned 12 = .ok (.iload_n 3, 1) := by decide +kernel
theorem dX4_distanceUnturned_13 : decode cX4_distanceUnturned 13 = .ok (.invokevirtual 48, 3) := by decide +kernel
theorem dX4_distanceUnturned_16 : decode cX4_distanceUnturned 16 = .ok (.ireturn, 1) := by decide +kernel
theorem dX4_distanceUnturned_17 : decode cX4_distanceUnturned 17 = .ok (.iconst 0, 1) := by decide +kernel
theorem dX4_distanceUnturned_18 : decode cX4_distanceUnturned 18 = .ok (.istore 4, 2) := by decide +kernel
theorem dX4_distanceUnturned_20 : decode cX4_distanceUnturned 20 = .ok (.iconst 0, 1) := by decide +kernel
theorem dX4_distanceUnturned_21 : decode cX4_distanceUnturned 21 = .ok (.istore 5, 2) := by decide +kernel
theorem dX4_distanceUnturned_23 : decode cX4_distanceUnturned 23 = .ok (.iconst 0, 1) := by decide +kernel
theorem dX4_distanceUnturned_24 : decode cX4_distanceUnturned 24 = .ok (.istore 6, 2) := by decide +kernel
theorem dX4_distanceUnturned_26 : decode cX4_distanceUnturned 26 = .ok (.iload 6, 2) := by decide +kernel
theorem dX4_distanceUnturned_28 : decode cX4_distanceUnturned 28 = .ok (.bipush 8, 2) := by decide +kernel
theorem dX4_distanceUnturned_30 : decode cX4_distanceUnturned 30 = .ok (.if_icmp .ge 42, 3) := by decide +kernel
theorem dX4_distanceUnturned_33 : decode cX4_distanceUnturned 33 = .ok (.iload 4, 2) := by decide +kernel
theorem dX4_distanceUnturned_35 : decode cX4_distanceUnturned 35 = .ok (.aload_n 0, 1) := by decide +kernel
theorem dX4_distanceUnturned_36 : decode cX4_distanceUnturned 36 = .ok (.iload 6, 2) := by decide +kernel
theorem dX4_distanceUnturned_38 : decode cX4_distanceUnturned 38 = .ok (.aload_n 2, 1) := by decide +kernel
theorem dX4_distanceUnturned_39 : decode cX4_distanceUnturned 39 = .ok (.iload_n 3, 1) := by decide +kernel
theorem dX4_distanceUnturned_40 : decode cX4_distanceUnturned 40 = .ok (.iload 6, 2) := by decide +kernel
theorem dX4_distanceUnturned_42 : decode cX4_distanceUnturned 42 = .ok (.invokevirtual 52, 3) := by decide +kernel
theorem dX4_distanceUnturned_45 : decode cX4_distanceUnturned 45 = .ok (.iadd, 1) := by decide +kernel
theorem dX4_distanceUnturned_46 : decode cX4_distanceUnturned 46 = .ok (.istore 4, 2) := by decide +kernel
theorem dX4_distanceUnturned_48 : decode cX4_distanceUnturned 48 = .ok (.iload 5, 2) := by decide +kernel
theorem dX4_distanceUnturned_50 : decode cX4_distanceUnturned 50 = .ok (.aload_n 0, 1) := by decide +kernel
theorem dX4_distanceUnturned_51 : decode cX4_distanceUnturned 51 = .ok (.iload 6, 2) := by decide +kernel
theorem dX4_distanceUnturned_53 : decode cX4_distanceUnturned 53 = .ok (.aload_n 2, 1) := by decide +kernel
theorem dX4_distanceUnturned_54 : decode cX4_distanceUnturned 54 = .ok (.iload_n 3, 1) := by decide +kernel
theorem dX4_distanceUnturned_55 : decode cX4_distanceUnturned 55 = .ok (.bipush 7, 2) := by decide +kernel
theorem dX4_distanceUnturned_57 : decode cX4_distanceUnturned 57 = .ok (.iload 6, 2) := by decide +kernel
theorem dX4_distanceUnturned_59 : decode cX4_distanceUnturned 59 = .ok (.isub, 1) := by decide +kernel
theorem dX4_distanceUnturned_60 : decode cX4_distanceUnturned 60 = .ok (.invokevirtual 52, 3) := by decide +kernel
theorem dX4_distanceUnturned_63 : decode cX4_distanceUnturned 63 = .ok (.iadd, 1) := by decide +kernel
theorem dX4_distanceUnturned_64 : decode cX4_distanceUnturned 64 = .ok (.istore 5, 2) := by decide +kernel
theorem dX4_distanceUnturned_66 : decode cX4_distanceUnturned 66 = .ok (.iinc 6 1, 3) := by decide +kernel
theorem dX4_distanceUnturned_69 : decode cX4_distanceUnturned 69 = .ok (.goto (-43), 3) := by decide +kernel
theorem dX4_distanceUnturned_72 : decode cX4_distanceUnturned 72 = .ok (.iload_n 1, 1) := by decide +kernel
theorem dX4_distanceUnturned_73 : decode cX4_distanceUnturned 73 = .ok (.iconst 2, 1) := by decide +kernel
theorem dX4_distanceUnturned_74 : decode cX4_distanceUnturned 74 = .ok (.if_icmp .ne 13, 3) := by decide +kernel
theorem dX4_distanceUnturned_77 : decode cX4_distanceUnturned 77 = .ok (.iload 4, 2) := by decide +kernel
theorem dX4_distanceUnturned_79 : decode cX4_distanceUnturned 79 = .ok (.iload 5, 2) := by decide +kernel
theorem dX4_distanceUnturned_81 : decode cX4_distanceUnturned 81 = .ok (.invokestatic 42, 3) := by decide +kernel
theorem dX4_distanceUnturned_84 : decode cX4_distanceUnturned 84 = .ok (.goto 5, 3) := by decide +kernel
theorem dX4_distanceUnturned_87 : decode cX4_distanceUnturned 87 = .ok (.iload 4, 2) := by decide +kernel
theorem dX4_distanceUnturned_89 : decode cX4_distanceUnturned 89 = .ok (.ireturn, 1) := by decide +kernel
theorem dX4_pointsApart_0 : decode cX4_pointsApart 0 = .ok (.aload_n 0, 1) := by decide +kernel
theorem dX4_pointsApart_1 : decode cX4_pointsApart 1 = .ok (.getfield 9, 3) := by decide +kernel
theorem dX4_pointsApart_4 : decode cX4_pointsApart 4 = .ok (.iconst 2, 1) := by decide +kernel
theorem dX4_pointsApart_5 : decode cX4_pointsApart 5 = .ok (.iload_n 1, 1) := by decide +kernel
theorem dX4_pointsApart_6 : decode cX4_pointsApart 6 = .ok (.imul, 1) := by decide +kernel
theorem dX4_pointsApart_7 : decode cX4_pointsApart 7 = .ok (.iaload, 1) := by decide +kernel
theorem dX4_pointsApart_8 : decode cX4_pointsApart 8 = .ok (.aload_n 2, 1) := by decide +kernel
theorem dX4_pointsApart_9 : decode cX4_pointsApart 9 = .ok (.iload_n 3, 1) := by decide +kernel
theorem dX4_pointsApart_10 : decode cX4_pointsApart 10 = .ok (.iconst 2, 1) := by decide +kernel
theorem dX4_pointsApart_11 : decode cX4_pointsApart 11 = .ok (.iload 4, 2) := by decide +kernel
theorem dX4_pointsApart_13 : decode cX4_pointsApart 13 = .ok (.imul, 1) := by decide +kernel
theorem dX4_pointsApart_14 : decode cX4_pointsApart 14 = .ok (.iadd, 1) := by decide +kernel
theorem dX4_pointsApart_15 : decode cX4_pointsApart 15 = .ok (.iaload, 1) := by decide +kernel
theorem dX4_pointsApart_16 : decode cX4_pointsApart 16 = .ok (.isub, 1) := by decide +kernel
theorem dX4_pointsApart_17 : decode cX4_pointsApart 17 = .ok (.invokestatic 56, 3) := by decide +kernel
theorem dX4_pointsApart_20 : decode cX4_pointsApart 20 = .ok (.aload_n 0, 1) := by decide +kernel
theorem dX4_pointsApart_21 : decode cX4_pointsApart 21 = .ok (.getfield 9, 3) := by decide +kernel
theorem dX4_pointsApart_24 : decode cX4_pointsApart 24 = .ok (.iconst 2, 1) := by decide +kernel
theorem dX4_pointsApart_25 : decode cX4_pointsApart 25 = .ok (.iload_n 1, 1) := by decide +kernel
theorem dX4_pointsApart_26 : decode cX4_pointsApart 26 = .ok (.imul, 1) := by decide +kernel
theorem dX4_pointsApart_27 : decode cX4_pointsApart 27 = .ok (.iconst 1, 1) := by decide +kernel
theorem dX4_pointsApart_28 : decode cX4_pointsApart 28 = .ok (.iadd, 1) := by decide +kernel
theorem dX4_pointsApart_29 : decode cX4_pointsApart 29 = .ok (.iaload, 1) := by decide +kernel
theorem dX4_pointsApart_30 : decode cX4_pointsApart 30 = .ok (.aload_n 2, 1) := by decide +kernel
theorem dX4_pointsApart_31 : decode cX4_pointsApart 31 = .ok (.iload_n 3, 1) := by decide +kernel
theorem dX4_pointsApart_32 : decode cX4_pointsApart 32 = .ok (.iconst 2, 1) := by decide +kernel
theorem dX4_pointsApart_33 : decode cX4_pointsApart 33 = .ok (.iload 4, 2) := by decide +kernel
theorem dX4_pointsApart_35 : decode cX4_pointsApart 35 = .ok (.imul, 1) := by decide +kernel
theorem dX4_pointsApart_36 : decode cX4_pointsApart 36 = .ok (.iadd, 1) := by decide +kernel
theorem dX4_pointsApart_37 : decode cX4_pointsApart 37 = .ok (.iconst 1, 1) := by decide +kernel
theorem dX4_pointsApart_38 : decode cX4_pointsApart 38 = .ok (.iadd, 1) := by decide +kernel
theorem dX4_pointsApart_39 : decode cX4_pointsApart 39 = .ok (.iaload, 1) := by decide +kernel
theorem dX4_pointsApart_40 : decode cX4_pointsApart 40 = .ok (.isub, 1) := by decide +kernel
theorem dX4_pointsApart_41 : decode cX4_pointsApart 41 = .ok (.invokestatic 56, 3) := by decide +kernel
theorem dX4_pointsApart_44 : decode cX4_pointsApart 44 = .ok (.iadd, 1) := by decide +kernel
theorem dX4_pointsApart_45 : decode cX4_pointsApart 45 = .ok (.ireturn, 1) := by decide +kernel
set_option maxRecDepth 20000 in
theorem ggX4_leastPairing_X4_pointsApart : GoodIn wsX4_leastPairing wsX4_pointsApart := goodIn_r _ [7, 8, 9, 10, 11, 12, 28, 29, 30] (by decide +kernel) (by decide +kernel)
set_option maxRecDepth 20000 in
theorem gX4_leastPairing_X4_pointsApart : GoodIn wsX4_leastPairing (wsV RX4 52 RX4 yX4_pointsApart wsX4_pointsApart) := goodIn_app (goodIn_of _ (by decide +kernel)) ggX4_leastPairing_X4_pointsApart
set_option maxRecDepth 20000 in
theorem ggX4_leastPairing_X4_leastSum : GoodIn wsX4_leastPairing wsX4_leastSum := goodIn_r _ [16, 17, 2, 1, 18, 19, 11, 20, 21, 22, 23, 24, 25, 26, 27, 28, 29, 30] (by decide +kernel) (by decide +kernel)
set_option maxRecDepth 20000 in
theorem gX4_leastPairing_X4_leastSum : GoodIn wsX4_leastPairing (wsV RX4 60 RX4 yX4_leastSum wsX4_leastSum) := goodIn_app (goodIn_of _ (by decide +kernel)) ggX4_leastPairing_X4_leastSum
theorem dX4_leastPairing_0 : decode cX4_leastPairing 0 = .ok (.iconst 0, 1) := by decide +kernel
theorem dX4_leastPairing_1 : decode cX4_leastPairing 1 = .ok (.istore_n 3, 1) := by decide +kernel
theorem dX4_leastPairing_2 : decode cX4_leastPairing 2 = .ok (.iload_n 3, 1) := by decide +kernel
theorem dX4_leastPairing_3 : decode cX4_leastPairing 3 = .ok (.bipush 8, 2) := by decide +kernel
theorem dX4_leastPairing_5 : decode cX4_leastPairing 5 = .ok (.if_icmp .ge 46, 3) := by decide +kernel
theorem dX4_leastPairing_8 : decode cX4_leastPairing 8 = .ok (.iconst 0, 1) := by decide +kernel
theorem dX4_leastPairing_9 : decode cX4_leastPairing 9 = .ok (.istore 4, 2) := by decide +kernel
theorem dX4_leastPairing_11 : decode cX4_leastPairing 11 = .ok (.iload 4, 2) := by decide +kernel
theorem dX4_leastPairing_13 : decode cX4_leastPairing 13 = .ok (.bipush 8, 2) := by decide +kernel
theorem dX4_leastPairing_15 : decode cX4_leastPairing 15 = .ok (.if_icmp .ge 30, 3) := by decide +kernel
theorem dX4_leastPairing_18 : decode cX4_leastPairing 18 = .ok (.aload_n 0, 1) := by decide +kernel
theorem dX4_leastPairing_19 : decode cX4_leastPairing 19 = .ok (.getfield 15, 3) := by decide +kernel
theorem dX4_leastPairing_22 : decode cX4_leastPairing 22 = .ok (.bipush 8, 2) := by decide +kernel
theorem dX4_leastPairing_24 : decode cX4_leastPairing 24 = .ok (.iload_n 3, 1) := by decide +kernel
theorem dX4_leastPairing_25 : decode cX4_leastPairing 25 = .ok (.imul, 1) := by decide +kernel
theorem dX4_leastPairing_26 : decode cX4_leastPairing 26 = .ok (.iload 4, 2) := by decide +kernel
theorem dX4_leastPairing_28 : decode cX4_leastPairing 28 = .ok (.iadd, 1) := by decide +kernel
theorem dX4_leastPairing_29 : decode cX4_leastPairing 29 = .ok (.aload_n 0, 1) := by decide +kernel
theorem dX4_leastPairing_30 : decode cX4_leastPairing 30 = .ok (.iload_n 3, 1) := by decide +kernel
theorem dX4_leastPairing_31 : decode cX4_leastPairing 31 = .ok (.aload_n 1, 1) := by decide +kernel
theorem dX4_leastPairing_32 : decode cX4_leastPairing 32 = .ok (.iload_n 2, 1) := by decide +kernel
theorem dX4_leastPairing_33 : decode cX4_leastPairing 33 = .ok (.iload 4, 2) := by decide +kernel
theorem dX4_leastPairing_35 : decode cX4_leastPairing 35 = .ok (.invokevirtual 52, 3) := by decide +kernel
theorem dX4_leastPairing_38 : decode cX4_leastPairing 38 = .ok (.iastore, 1) := by decide +kernel
theorem dX4_leastPairing_39 : decode cX4_leastPairing 39 = .ok (.iinc 4 1, 3) := by decide +kernel
theorem dX4_leastPairing_42 : decode cX4_leastPairing 42 = .ok (.goto (-31), 3) := by decide +kernel
theorem dX4_leastPairing_45 : decode cX4_leastPairing 45 = .ok (.iinc 3 1, 3) := by decide +kernel
theorem dX4_leastPairing_48 : decode cX4_leastPairing 48 = .ok (.goto (-46), 3) := by decide +kernel
theorem dX4_leastPairing_51 : decode cX4_leastPairing 51 = .ok (.aload_n 0, 1) := by decide +kernel
theorem dX4_leastPairing_52 : decode cX4_leastPairing 52 = .ok (.getfield 18, 3) := by decide +kernel
theorem dX4_leastPairing_55 : decode cX4_leastPairing 55 = .ok (.iconst 0, 1) := by decide +kernel
theorem dX4_leastPairing_56 : decode cX4_leastPairing 56 = .ok (.iconst 0, 1) := by decide +kernel
theorem dX4_leastPairing_57 : decode cX4_leastPairing 57 = .ok (.iastore, 1) := by decide +kernel
theorem dX4_leastPairing_58 : decode cX4_leastPairing 58 = .ok (.iconst 1, 1) := by decide +kernel
theorem dX4_leastPairing_59 : decode cX4_leastPairing 59 = .ok (.istore_n 3, 1) := by decide +kernel
theorem dX4_leastPairing_60 : decode cX4_leastPairing 60 = .ok (.iload_n 3, 1) := by decide +kernel
theorem dX4_leastPairing_61 : decode cX4_leastPairing 61 = .ok (.sipush 256, 3) := by decide +kernel
theorem dX4_leastPairing_64 : decode cX4_leastPairing 64 = .ok (.if_icmp .ge 20, 3) := by decide +kernel
theorem dX4_leastPairing_67 : decode cX4_leastPairing 67 = .ok (.aload_n 0, 1) := by decide +kernel
theorem dX4_leastPairing_68 : decode cX4_leastPairing 68 = .ok (.getfield 18, 3) := by decide +kernel
theorem dX4_leastPairing_71 : decode cX4_leastPairing 71 = .ok (.iload_n 3, 1) := by decide +kernel
theorem dX4_leastPairing_72 : decode cX4_leastPairing 72 = .ok (.aload_n 0, 1) := by decide +kernel
theorem dX4_leastPairing_73 : decode cX4_leastPairing 73 = .ok (.iload_n 3, 1) := by decide +kernel
theorem dX4_leastPairing_74 : decode cX4_leastPairing 74 = .ok (.invokevirtual 60, 3) := by decide +kernel
theorem dX4_leastPairing_77 : decode cX4_leastPairing 77 = .ok (.iastore, 1) := by decide +kernel
theorem dX4_leastPairing_78 : decode cX4_leastPairing 78 = .ok (.iinc 3 1, 3) := by decide +kernel
theorem dX4_leastPairing_81 : decode cX4_leastPairing 81 = .ok (.goto (-21), 3) := by decide +kernel
theorem dX4_leastPairing_84 : decode cX4_leastPairing 84 = .ok (.aload_n 0, 1) := by decide +kernel
theorem dX4_leastPairing_85 : decode cX4_leastPairing 85 = .ok (.getfield 18, 3) := by decide +kernel
theorem dX4_leastPairing_88 : decode cX4_leastPairing 88 = .ok (.sipush 255, 3) := by decide +kernel
theorem dX4_leastPairing_91 : decode cX4_leastPairing 91 = .ok (.iaload, 1) := by decide +kernel
theorem dX4_leastPairing_92 : decode cX4_leastPairing 92 = .ok (.ireturn, 1) := by decide +kernel
set_option maxRecDepth 20000 in
theorem ggX4_leastSum_J6_bitCount_0f7a4 : GoodIn wsX4_leastSum wsJ6_bitCount_0f7a4 := goodIn_r _ [11, 12, 13, 14] (by decide +kernel) (by decide +kernel)
set_option maxRecDepth 20000 in
theorem gX4_leastSum_J6_bitCount_0f7a4 : GoodIn wsX4_leastSum (va_wsS RX4 63 yJ6_bitCount_0f7a4 wsJ6_bitCount_0f7a4) := goodIn_app (goodIn_of _ (by decide +kernel)) ggX4_leastSum_J6_bitCount_0f7a4
theorem dX4_leastSum_0 : decode cX4_leastSum 0 = .ok (.bipush 8, 2) := by decide +kernel
theorem dX4_leastSum_2 : decode cX4_leastSum 2 = .ok (.iload_n 1, 1) := by decide +kernel
theorem dX4_leastSum_3 : decode cX4_leastSum 3 = .ok (.invokestatic 63, 3) := by decide +kernel
theorem dX4_leastSum_6 : decode cX4_leastSum 6 = .ok (.iconst 1, 1) := by decide +kernel
theorem dX4_leastSum_7 : decode cX4_leastSum 7 = .ok (.isub, 1) := by decide +kernel
theorem dX4_leastSum_8 : decode cX4_leastSum 8 = .ok (.imul, 1) := by decide +kernel
theorem dX4_leastSum_9 : decode cX4_leastSum 9 = .ok (.istore_n 2, 1) := by decide +kernel
theorem dX4_leastSum_10 : decode cX4_leastSum 10 = .ok (.ldc 68, 2) := by decide +kernel
theorem dX4_leastSum_12 : decode cX4_leastSum 12 = .ok (.istore_n 3, 1) := by decide +kernel
theorem dX4_leastSum_13 : decode cX4_leastSum 13 = .ok (.iconst 0, 1) := by decide +kernel
theorem dX4_leastSum_14 : decode cX4_leastSum 14 = .ok (.istore 4, 2) := by decide +kernel
theorem dX4_leastSum_16 : decode cX4_leastSum 16 = .ok (.iload 4, 2) := by decide +kernel
theorem dX4_leastSum_18 : decode cX4_leastSum 18 = .ok (.bipush 8, 2) := by decide +kernel
theorem dX4_leastSum_20 : decode cX4_leastSum 20 = .ok (.if_icmp .ge 46, 3) := by decide +kernel
theorem dX4_leastSum_23 : decode cX4_leastSum 23 = .ok (.iconst 1, 1) := by decide +kernel
theorem dX4_leastSum_24 : decode cX4_leastSum 24 = .ok (.iload 4, 2) := by decide +kernel
theorem dX4_leastSum_26 : decode cX4_leastSum 26 = .ok (.ishl, 1) := by decide +kernel
theorem dX4_leastSum_27 : decode cX4_leastSum 27 = .ok (.istore 5, 2) := by decide +kernel
theorem dX4_leastSum_29 : decode cX4_leastSum 29 = .ok (.iload_n 1, 1) := by decide +kernel
theorem dX4_leastSum_30 : decode cX4_leastSum 30 = .ok (.iload 5, 2) := by decide +kernel
theorem dX4_leastSum_32 : decode cX4_leastSum 32 = .ok (.iand, 1) := by decide +kernel
theorem dX4_leastSum_33 : decode cX4_leastSum 33 = .ok (.ifCond .eq 27, 3) := by decide +kernel
theorem dX4_leastSum_36 : decode cX4_leastSum 36 = .ok (.iload_n 3, 1) := by decide +kernel
theorem dX4_leastSum_37 : decode cX4_leastSum 37 = .ok (.aload_n 0, 1) := by decide +kernel
theorem dX4_leastSum_38 : decode cX4_leastSum 38 = .ok (.getfield 18, 3) := by decide +kernel
theorem dX4_leastSum_41 : decode cX4_leastSum 41 = .ok (.iload_n 1, 1) := by decide +kernel
theorem dX4_leastSum_42 : decode cX4_leastSum 42 = .ok (.iload 5, 2) := by decide +kernel
theorem dX4_leastSum_44 : decode cX4_leastSum 44 = .ok (.ixor, 1) := by decide +kernel
theorem dX4_leastSum_45 : decode cX4_leastSum 45 = .ok (.iaload, 1) := by decide +kernel
theorem dX4_leastSum_46 : decode cX4_leastSum 46 = .ok (.aload_n 0, 1) := by decide +kernel
theorem dX4_leastSum_47 : decode cX4_leastSum 47 = .ok (.getfield 15, 3) := by decide +kernel
theorem dX4_leastSum_50 : decode cX4_leastSum 50 = .ok (.iload_n 2, 1) := by decide +kernel
theorem dX4_leastSum_51 : decode cX4_leastSum 51 = .ok (.iload 4, 2) := by decide +kernel
theorem dX4_leastSum_53 : decode cX4_leastSum 53 = .ok (.iadd, 1) := by decide +kernel
theorem dX4_leastSum_54 : decode cX4_leastSum 54 = .ok (.iaload, 1) := by decide +kernel
theorem dX4_leastSum_55 : decode cX4_leastSum 55 = .ok (.iadd, 1) := by decide +kernel
theorem dX4_leastSum_56 : decode cX4_leastSum 56 = .ok (.invokestatic 42, 3) := by decide +kernel
theorem dX4_leastSum_59 : decode cX4_leastSum 59 = .ok (.istore_n 3, 1) := by decide +kernel
theorem dX4_leastSum_60 : decode cX4_leastSum 60 = .ok (.iinc 4 1, 3) := by decide +kernel
theorem dX4_leastSum_63 : decode cX4_leastSum 63 = .ok (.goto (-47), 3) := by decide +kernel
theorem dX4_leastSum_66 : decode cX4_leastSum 66 = .ok (.iload_n 3, 1) := by decide +kernel
theorem dX4_leastSum_67 : decode cX4_leastSum 67 = .ok (.ireturn, 1) := by decide +kernel
theorem dX5_init_0 : decode cX5_init 0 = .ok (.aload_n 0, 1) := by decide +kernel
theorem dX5_init_1 : decode cX5_init 1 = .ok (.invokespecial 1, 3) := by decide +kernel
theorem dX5_init_4 : decode cX5_init 4 = .ok (.aload_n 0, 1) := by decide +kernel
theorem dX5_init_5 : decode cX5_init 5 = .ok (.iconst 4, 1) := by decide +kernel
theorem dX5_init_6 : decode cX5_init 6 = .ok (.newarray .int, 2) := by decide +kernel
theorem dX5_init_8 : decode cX5_init 8 = .ok (.putfield 9, 3) := by decide +kernel
theorem dX5_init_11 : decode cX5_init 11 = .ok (.aload_n 0, 1) := by decide +kernel
theorem dX5_init_12 : decode cX5_init 12 = .ok (.iconst 4, 1) := by decide +kernel
theorem dX5_init_13 : decode cX5_init 13 = .ok (.newarray .boolean, 2) := by decide +kernel
theorem dX5_init_15 : decode cX5_init 15 = .ok (.putfield 13, 3) := by decide +kernel
theorem dX5_init_18 : decode cX5_init 18 = .ok (.aload_n 0, 1) := by decide +kernel
theorem dX5_init_19 : decode cX5_init 19 = .ok (.iconst 4, 1) := by decide +kernel
theorem dX5_init_20 : decode cX5_init 20 = .ok (.newarray .int, 2) := by decide +kernel
theorem dX5_init_22 : decode cX5_init 22 = .ok (.putfield 17, 3) := by decide +kernel
theorem dX5_init_25 : decode cX5_init 25 = .ok (.aload_n 0, 1) := by decide +kernel
theorem dX5_init_26 : decode cX5_init 26 = .ok (.sipush 240, 3) := by decide +kernel
theorem dX5_init_29 : decode cX5_init 29 = .ok (.newarray .int, 2) := by decide +kernel
theorem dX5_init_31 : decode cX5_init 31 = .ok (.putfield 20, 3) := by decide +kernel
theorem dX5_init_34 : decode cX5_init 34 = .ok (.return_, 1) := by decide +kernel
theorem dX5_isNumber_0 : decode cX5_isNumber 0 = .ok (.iload_n 0, 1) := by decide +kernel
theorem dX5_isNumber_1 : decode cX5_isNumber 1 = .ok (.ifCond .lt 12, 3) := by decide +kernel
theorem dX5_isNumber_4 : decode cX5_isNumber 4 = .ok (.iload_n 0, 1) := by decide +kernel
theorem dX5_isNumber_5 : decode cX5_isNumber 5 = .ok (.iconst 4, 1) := by decide +kernel
theorem dX5_isNumber_6 : decode cX5_isNumber 6 = .ok (.if_icmp .ge 7, 3) := by decide +kernel
theorem dX5_isNumber_9 : decode cX5_isNumber 9 = .ok (.iconst 1, 1) := by decide +kernel
theorem dX5_isNumber_10 : decode cX5_isNumber 10 = .ok (.goto 4, 3) := by decide +kernel
theorem dX5_isNumber_13 : decode cX5_isNumber 13 = .ok (.iconst 0, 1) := by decide +kernel
theorem dX5_isNumber_14 : decode cX5_isNumber 14 = .ok (.ireturn, 1) := by decide +kernel
theorem dX5_isLane_0 : decode cX5_isLane 0 = .ok (.iload_n 0, 1) := by decide +kernel
theorem dX5_isLane_1 : decode cX5_isLane 1 = .ok (.ifCond .lt 12, 3) := by decide +kernel
theorem dX5_isLane_4 : decode cX5_isLane 4 = .ok (.iload_n 0, 1) := by decide +kernel
theorem dX5_isLane_5 : decode cX5_isLane 5 = .ok (.iconst 2, 1) := by decide +kernel
theorem dX5_isLane_6 : decode cX5_isLane 6 = .ok (.if_icmp .gt 7, 3) := by decide +kernel
theorem dX5_isLane_9 : decode cX5_isLane 9 = .ok (.iconst 1, 1) := by decide +kernel
theorem dX5_isLane_10 : decode cX5_isLane 10 = .ok (.goto 4, 3) := by decide +kernel
theorem dX5_isLane_13 : decode cX5_isLane 13 = .ok (.iconst 0, 1) := by decide +kernel
theorem dX5_isLane_14 : decode cX5_isLane 14 = .ok (.ireturn, 1) := by decide +kernel
theorem dX5_isNothing_0 : decode cX5_isNothing 0 = .ok (.aload_n 0, 1) := by decide +kernel
theorem dX5_isNothing_1 : decode cX5_isNothing 1 = .ok (.getfield 13, 3) := by decide +kernel
theorem dX5_isNothing_4 : decode cX5_isNothing 4 = .ok (.iload_n 1, 1) := by decide +kernel
theorem dX5_isNothing_5 : decode cX5_isNothing 5 = .ok (.baload, 1) := by decide +kernel
theorem dX5_isNothing_6 : decode cX5_isNothing 6 = .ok (.ifCond .ne 7, 3) := by decide +kernel
theorem dX5_isNothing_9 : decode cX5_isNothing 9 = .ok (.iconst 1, 1) := by decide +kernel
theorem dX5_isNothing_10 : decode cX5_isNothing 10 = .ok (.goto 4, 3) := by decide +kernel
theorem dX5_isNothing_13 : decode cX5_isNothing 13 = .ok (.iconst 0, 1) := by decide +kernel
theorem dX5_isNothing_14 : decode cX5_isNothing 14 = .ok (.ireturn, 1) := by decide +kernel
theorem dX5_makeNew_0 : decode cX5_makeNew 0 = .ok (.aload_n 0, 1) := by decide +kernel
theorem dX5_makeNew_1 : decode cX5_makeNew 1 = .ok (.getfield 13, 3) := by decide +kernel
theorem dX5_makeNew_4 : decode cX5_makeNew 4 = .ok (.iload_n 1, 1) := by decide +kernel
theorem dX5_makeNew_5 : decode cX5_makeNew 5 = .ok (.iconst 1, 1) := by decide +kernel
theorem dX5_makeNew_6 : decode cX5_makeNew 6 = .ok (.bastore, 1) := by decide +kernel
theorem dX5_makeNew_7 : decode cX5_makeNew 7 = .ok (.aload_n 0, 1) := by decide +kernel
theorem dX5_makeNew_8 : decode cX5_makeNew 8 = .ok (.getfield 9, 3) := by decide +kernel
theorem dX5_makeNew_11 : decode cX5_makeNew 11 = .ok (.iload_n 1, 1) := by decide +kernel
theorem dX5_makeNew_12 : decode cX5_makeNew 12 = .ok (.iload_n 2, 1) := by decide +kernel
theorem dX5_makeNew_13 : decode cX5_makeNew 13 = .ok (.iastore, 1) := by decide +kernel
theorem dX5_makeNew_14 : decode cX5_makeNew 14 = .ok (.aload_n 0, 1) := by decide +kernel
theorem dX5_makeNew_15 : decode cX5_makeNew 15 = .ok (.getfield 17, 3) := by decide +kernel
theorem dX5_makeNew_18 : decode cX5_makeNew 18 = .ok (.iload_n 1, 1) := by decide +kernel
theorem dX5_makeNew_19 : decode cX5_makeNew 19 = .ok (.iload_n 3, 1) := by decide +kernel
theorem dX5_makeNew_20 : decode cX5_makeNew 20 = .ok (.iastore, 1) := by decide +kernel
theorem dX5_makeNew_21 : decode cX5_makeNew 21 = .ok (.iconst 0, 1) := by decide +kernel
theorem dX5_makeNew_22 : decode cX5_makeNew 22 = .ok (.istore 4, 2) := by decide +kernel
theorem dX5_makeNew_24 : decode cX5_makeNew 24 = .ok (.iload 4, 2) := by decide +kernel
theorem dX5_makeNew_26 : decode cX5_makeNew 26 = .ok (.iload_n 3, 1) := by decide +kernel
theorem dX5_makeNew_27 : decode cX5_makeNew 27 = .ok (.if_icmp .ge 22, 3) := by decide +kernel
theorem dX5_makeNew_30 : decode cX5_makeNew 30 = .ok (.aload_n 0, 1) := by decide +kernel
theorem dX5_makeNew_31 : decode cX5_makeNew 31 = .ok (.getfield 20, 3) := by decide +kernel
theorem dX5_makeNew_34 : decode cX5_makeNew 34 = .ok (.iload_n 1, 1) := by decide +kernel
theorem dX5_makeNew_35 : decode cX5_makeNew 35 = .ok (.bipush 60, 2) := by decide +kernel
theorem dX5_makeNew_37 : decode cX5_makeNew 37 = .ok (.imul, 1) := by decide +kernel
theorem dX5_makeNew_38 : decode cX5_makeNew 38 = .ok (.iload 4, 2) := by decide +kernel
theorem dX5_makeNew_40 : decode cX5_makeNew 40 = .ok (.iadd, 1) := by decide +kernel
theorem dX5_makeNew_41 : decode cX5_makeNew 41 = .ok (.iconst 0, 1) := by decide +kernel
theorem dX5_makeNew_42 : decode cX5_makeNew 42 = .ok (.iastore, 1) := by decide +kernel
theorem dX5_makeNew_43 : decode cX5_makeNew 43 = .ok (.iinc 4 1, 3) := by decide +kernel
theorem dX5_makeNew_46 : decode cX5_makeNew 46 = .ok (.goto (-22), 3) := by decide +kernel
theorem dX5_makeNew_49 : decode cX5_makeNew 49 = .ok (.return_, 1) := by decide +kernel
theorem dX5_hasCells_0 : decode cX5_hasCells 0 = .ok (.iload_n 2, 1) := by decide +kernel
theorem dX5_hasCells_1 : decode cX5_hasCells 1 = .ok (.ifCond .lt 19, 3) := by decide +kernel
theorem dX5_hasCells_4 : decode cX5_hasCells 4 = .ok (.iload_n 2, 1) := by decide +kernel
theorem dX5_hasCells_5 : decode cX5_hasCells 5 = .ok (.aload_n 0, 1) := by decide +kernel
theorem dX5_hasCells_6 : decode cX5_hasCells 6 = .ok (.getfield 17, 3) := by decide +kernel
theorem dX5_hasCells_9 : decode cX5_hasCells 9 = .ok (.iload_n 1, 1) := by decide +kernel
theorem dX5_hasCells_10 : decode cX5_hasCells 10 = .ok (.iaload, 1) := by decide +kernel
theorem dX5_hasCells_11 : decode cX5_hasCells 11 = .ok (.iload_n 3, 1) := by decide +kernel
theorem dX5_hasCells_12 : decode cX5_hasCells 12 = .ok (.isub, 1) := by decide +kernel
theorem dX5_hasCells_13 : decode cX5_hasCells 13 = .ok (.if_icmp .gt 7, 3) := by decide +kernel
theorem dX5_hasCells_16 : decode cX5_hasCells 16 = .ok (.iconst 1, 1) := by decide +kernel
theorem dX5_hasCells_17 : decode cX5_hasCells 17 = .ok (.goto 4, 3) := by decide +kernel
theorem dX5_hasCells_20 : decode cX5_hasCells 20 = .ok (.iconst 0, 1) := by decide +kernel
theorem dX5_hasCells_21 : decode cX5_hasCells 21 = .ok (.ireturn, 1) := by decide +kernel
theorem dX5_cell_0 : decode cX5_cell 0 = .ok (.aload_n 0, 1) := by decide +kernel
theorem dX5_cell_1 : decode cX5_cell 1 = .ok (.getfield 20, 3) := by decide +kernel
theorem dX5_cell_4 : decode cX5_cell 4 = .ok (.iload_n 1, 1) := by decide +kernel
theorem dX5_cell_5 : decode cX5_cell 5 = .ok (.bipush 60, 2) := by decide +kernel
theorem dX5_cell_7 : decode cX5_cell 7 = .ok (.imul, 1) := by decide +kernel
theorem dX5_cell_8 : decode cX5_cell 8 = .ok (.iload_n 2, 1) := by decide +kernel
theorem dX5_cell_9 : decode cX5_cell 9 = .ok (.iadd, 1) := by decide +kernel
theorem dX5_cell_10 : decode cX5_cell 10 = .ok (.iaload, 1) := by decide +kernel
theorem dX5_cell_11 : decode cX5_cell 11 = .ok (.ireturn, 1) := by decide +kernel
set_option maxRecDepth 20000 in
theorem ggX5_put_X5_lowestBits : GoodIn wsX5_put wsX5_lowestBits := goodIn_r _ [6] (by decide +kernel) (by decide +kernel)
set_option maxRecDepth 20000 in
theorem gX5_put_X5_lowestBits : GoodIn wsX5_put (va_wsS RX5 23 yX5_lowestBits wsX5_lowestBits) := goodIn_app (goodIn_of _ (by decide +kernel)) ggX5_put_X5_lowestBits
theorem dX5_put_0 : decode cX5_put 0 = .ok (.aload_n 0, 1) := by decide +kernel
theorem dX5_put_1 : decode cX5_put 1 = .ok (.getfield 20, 3) := by decide +kernel
theorem dX5_put_4 : decode cX5_put 4 = .ok (.iload_n 1, 1) := by decide +kernel
theorem dX5_put_5 : decode cX5_put 5 = .ok (.bipush 60, 2) := by decide +kernel
theorem dX5_put_7 : decode cX5_put 7 = .ok (.imul, 1) := by decide +kernel
theorem dX5_put_8 : decode cX5_put 8 = .ok (.iload_n 2, 1) := by decide +kernel
theorem dX5_put_9 : decode cX5_put 9 = .ok (.iadd, 1) := by decide +kernel
theorem dX5_put_10 : decode cX5_put 10 = .ok (.aload_n 0, 1) := by decide +kernel
theorem dX5_put_11 : decode cX5_put 11 = .ok (.getfield 9, 3) := by decide +kernel
theorem dX5_put_14 : decode cX5_put 14 = .ok (.iload_n 1, 1) := by decide +kernel
theorem dX5_put_15 : decode cX5_put 15 = .ok (.iaload, 1) := by decide +kernel
theorem dX5_put_16 : decode cX5_put 16 = .ok (.iload_n 3, 1) := by decide +kernel
theorem dX5_put_17 : decode cX5_put 17 = .ok (.invokestatic 23, 3) := by decide +kernel
theorem dX5_put_20 : decode cX5_put 20 = .ok (.iastore, 1) := by decide +kernel
theorem dX5_put_21 : decode cX5_put 21 = .ok (.return_, 1) := by decide +kernel
theorem dX5_lowestBits_0 : decode cX5_lowestBits 0 = .ok (.iload_n 0, 1) := by decide +kernel
theorem dX5_lowestBits_1 : decode cX5_lowestBits 1 = .ok (.ifCond .ne 6, 3) := by decide +kernel
theorem dX5_lowestBits_4 : decode cX5_lowestBits 4 = .ok (.iload_n 1, 1) := by decide +kernel
theorem dX5_lowestBits_5 : decode cX5_lowestBits 5 = .ok (.i2b, 1) := by decide +kernel
theorem dX5_lowestBits_6 : decode cX5_lowestBits 6 = .ok (.ireturn, 1) := by decide +kernel
theorem dX5_lowestBits_7 : decode cX5_lowestBits 7 = .ok (.iload_n 0, 1) := by decide +kernel
theorem dX5_lowestBits_8 : decode cX5_lowestBits 8 = .ok (.iconst 1, 1) := by decide +kernel
theorem dX5_lowestBits_9 : decode cX5_lowestBits 9 = .ok (.if_icmp .ne 6, 3) := by decide +kernel
theorem dX5_lowestBits_12 : decode cX5_lowestBits 12 = .ok (.iload_n 1, 1) := by decide +kernel
theorem dX5_lowestBits_13 : decode cX5_lowestBits 13 = .ok (.i2s, 1) := by decide +kernel
theorem dX5_lowestBits_14 : decode cX5_lowestBits 14 = .ok (.ireturn, 1) := by decide +kernel
theorem dX5_lowestBits_15 : decode cX5_lowestBits 15 = .ok (.iload_n 1, 1) := by decide +kernel
theorem dX5_lowestBits_16 : decode cX5_lowestBits 16 = .ok (.ireturn, 1) := by decide +kernel
theorem dX6_init_0 : decode cX6_init 0 = .ok (.aload_n 0, 1) := by decide +kernel
theorem dX6_init_1 : decode cX6_init 1 = .ok (.invokespecial 3, 3) := by decide +kernel
theorem dX6_init_4 : decode cX6_init 4 = .ok (.aload_n 0, 1) := by decide +kernel
theorem dX6_init_5 : decode cX6_init 5 = .ok (.bipush 16, 2) := by decide +kernel
theorem dX6_init_7 : decode cX6_init 7 = .ok (.newarray .int, 2) := by decide +kernel
theorem dX6_init_9 : decode cX6_init 9 = .ok (.putfield 11, 3) := by decide +kernel
theorem dX6_init_12 : decode cX6_init 12 = .ok (.aload_n 0, 1) := by decide +kernel
theorem dX6_init_13 : decode cX6_init 13 = .ok (.bipush 16, 2) := by decide +kernel
theorem dX6_init_15 : decode cX6_init 15 = .ok (.newarray .int, 2) := by decide +kernel
theorem dX6_init_17 : decode cX6_init 17 = .ok (.putfield 15, 3) := by decide +kernel
theorem dX6_init_20 : decode cX6_init 20 = .ok (.aload_n 0, 1) := by decide +kernel
theorem dX6_init_21 : decode cX6_init 21 = .ok (.sipush 256, 3) := by decide +kernel
theorem dX6_init_24 : decode cX6_init 24 = .ok (.newarray .int, 2) := by decide +kernel
theorem dX6_init_26 : decode cX6_init 26 = .ok (.putfield 18, 3) := by decide +kernel
theorem dX6_init_29 : decode cX6_init 29 = .ok (.aload_n 0, 1) := by decide +kernel
theorem dX6_init_30 : decode cX6_init 30 = .ok (.iconst 0, 1) := by decide +kernel
theorem dX6_init_31 : decode cX6_init 31 = .ok (.putfield 21, 3) := by decide +kernel
theorem dX6_init_34 : decode cX6_init 34 = .ok (.return_, 1) := by decide +kernel
theorem dX6_has_0 : decode cX6_has 0 = .ok (.iload_n 1, 1) := by decide +kernel
theorem dX6_has_1 : decode cX6_has 1 = .ok (.ifCond .lt 15, 3) := by decide +kernel
theorem dX6_has_4 : decode cX6_has 4 = .ok (.iload_n 1, 1) := by decide +kernel
theorem dX6_has_5 : decode cX6_has 5 = .ok (.aload_n 0, 1) := by decide +kernel
theorem dX6_has_6 : decode cX6_has 6 = .ok (.getfield 21, 3) := by decide +kernel
theorem dX6_has_9 : decode cX6_has 9 = .ok (.if_icmp .ge 7, 3) := by decide +kernel
theorem dX6_has_12 : decode cX6_has 12 = .ok (.iconst 1, 1) := by decide +kernel
theorem dX6_has_13 : decode cX6_has 13 = .ok (.goto 4, 3) := by decide +kernel
theorem dX6_has_16 : decode cX6_has 16 = .ok (.iconst 0, 1) := by decide +kernel
theorem dX6_has_17 : decode cX6_has 17 = .ok (.ireturn, 1) := by decide +kernel
theorem dX6_insert_0 : decode cX6_insert 0 = .ok (.iload_n 1, 1) := by decide +kernel
theorem dX6_insert_1 : decode cX6_insert 1 = .ok (.ifCond .lt 36, 3) := by decide +kernel
theorem dX6_insert_4 : decode cX6_insert 4 = .ok (.iload_n 1, 1) := by decide +kernel
theorem dX6_insert_5 : decode cX6_insert 5 = .ok (.aload_n 0, 1) := by decide +kernel
theorem dX6_insert_6 : decode cX6_insert 6 = .ok (.getfield 21, 3) := by decide +kernel
theorem dX6_insert_9 : decode cX6_insert 9 = .ok (.if_icmp .gt 28, 3) := by decide +kernel
theorem dX6_insert_12 : decode cX6_insert 12 = .ok (.aload_n 0, 1) := by decide +kernel
theorem dX6_insert_13 : decode cX6_insert 13 = .ok (.getfield 21, 3) := by decide +kernel
theorem dX6_insert_16 : decode cX6_insert 16 = .ok (.bipush 16, 2) := by decide +kernel
theorem dX6_insert_18 : decode cX6_insert 18 = .ok (.if_icmp .ge 19, 3) := by decide +kernel
theorem dX6_insert_21 : decode cX6_insert 21 = .ok (.iload 5, 2) := by decide +kernel
theorem dX6_insert_23 : decode cX6_insert 23 = .ok (.ifCond .lt 14, 3) := by decide +kernel
theorem dX6_insert_26 : decode cX6_insert 26 = .ok (.iload 5, 2) := by decide +kernel
theorem dX6_insert_28 : decode cX6_insert 28 = .ok (.aload 4, 2) := by decide +kernel
theorem dX6_insert_30 : decode cX6_insert 30 = .ok (.arraylength, 1) := by decide +kernel
theorem dX6_insert_31 : decode cX6_insert 31 = .ok (.bipush 16, 2) := by decide +kernel
theorem dX6_insert_33 : decode cX6_insert 33 = .ok (.isub, 1) := by decide +kernel
theorem dX6_insert_34 : decode cX6_insert 34 = .ok (.if_icmp .le 4, 3) := by decide +kernel
theorem dX6_insert_37 : decode cX6_insert 37 = .ok (.return_, 1) := by decide +kernel
theorem dX6_insert_38 : decode cX6_insert 38 = .ok (.aload_n 0, 1) := by decide +kernel
theorem dX6_insert_39 : decode cX6_insert 39 = .ok (.getfield 21, 3) := by decide +kernel
theorem dX6_insert_42 : decode cX6_insert 42 = .ok (.iload_n 1, 1) := by decide +kernel
theorem dX6_insert_43 : decode cX6_insert 43 = .ok (.isub, 1) := by decide +kernel
theorem dX6_insert_44 : decode cX6_insert 44 = .ok (.istore 6, 2) := by decide +kernel
theorem dX6_insert_46 : decode cX6_insert 46 = .ok (.aload_n 0, 1) := by decide +kernel
theorem dX6_insert_47 : decode cX6_insert 47 = .ok (.getfield 11, 3) := by decide +kernel
theorem dX6_insert_50 : decode cX6_insert 50 = .ok (.iload_n 1, 1) := by decide +kernel
theorem dX6_insert_51 : decode cX6_insert 51 = .ok (.aload_n 0, 1) := by decide +kernel
theorem dX6_insert_52 : decode cX6_insert 52 = .ok (.getfield 11, 3) := by decide +kernel
theorem dX6_insert_55 : decode cX6_insert 55 = .ok (.iload_n 1, 1) := by decide +kernel
theorem dX6_insert_56 : decode cX6_insert 56 = .ok (.iconst 1, 1) := by decide +kernel
theorem dX6_insert_57 : decode cX6_insert 57 = .ok (.iadd, 1) := by decide +kernel
theorem dX6_insert_58 : decode cX6_insert 58 = .ok (.iload 6, 2) := by decide +kernel
theorem dX6_insert_60 : decode cX6_insert 60 = .ok (.invokestatic 25, 3) := by decide +kernel
theorem dX6_insert_63 : decode cX6_insert 63 = .ok (.aload_n 0, 1) := by decide +kernel
theorem dX6_insert_64 : decode cX6_insert 64 = .ok (.getfield 15, 3) := by decide +kernel
theorem dX6_insert_67 : decode cX6_insert 67 = .ok (.iload_n 1, 1) := by decide +kernel
theorem dX6_insert_68 : decode cX6_insert 68 = .ok (.aload_n 0, 1) := by decide +kernel
theorem dX6_insert_69 : decode cX6_insert 69 = .ok (.getfield 15, 3) := by decide +kernel
theorem dX6_insert_72 : decode cX6_insert 72 = .ok (.iload_n 1, 1) := by decide +kernel
theorem dX6_insert_73 : decode cX6_insert 73 = .ok (.iconst 1, 1) := by decide +kernel
theorem dX6_insert_74 : decode cX6_insert 74 = .ok (.iadd, 1) := by decide +kernel
theorem dX6_insert_75 : decode cX6_insert 75 = .ok (.iload 6, 2) := by decide +kernel
theorem dX6_insert_77 : decode cX6_insert 77 = .ok (.invokestatic 25, 3) := by decide +kernel
theorem dX6_insert_80 : decode cX6_insert 80 = .ok (.aload_n 0, 1) := by decide +kernel
theorem dX6_insert_81 : decode cX6_insert 81 = .ok (.getfield 18, 3) := by decide +kernel
theorem dX6_insert_84 : decode cX6_insert 84 = .ok (.iload_n 1, 1) := by decide +kernel
theorem dX6_insert_85 : decode cX6_insert 85 = .ok (.bipush 16, 2) := by decide +kernel
theorem dX6_insert_87 : decode cX6_insert 87 = .ok (.imul, 1) := by decide +kernel
theorem dX6_insert_88 : decode cX6_insert 88 = .ok (.aload_n 0, 1) := by decide +kernel
theorem dX6_insert_89 : decode cX6_insert 89 = .ok (.getfield 18, 3) := by decide +kernel
theorem dX6_insert_92 : decode cX6_insert 92 = .ok (.iload_n 1, 1) := by decide +kernel
theorem dX6_insert_93 : decode cX6_insert 93 = .ok (.iconst 1, 1) := by decide +kernel
theorem dX6_insert_94 : decode cX6_insert 94 = .ok (.iadd, 1) := by decide +kernel
theorem dX6_insert_95 : decode cX6_insert 95 = .ok (.bipush 16, 2) := by decide +kernel
theorem dX6_insert_97 : decode cX6_insert 97 = .ok (.imul, 1) := by decide +kernel
theorem dX6_insert_98 : decode cX6_insert 98 = .ok (.iload 6, 2) := by decide +kernel
theorem dX6_insert_100 : decode cX6_insert 100 = .ok (.bipush 16, 2) := by decide +kernel
theorem dX6_insert_102 : decode cX6_insert 102 = .ok (.imul, 1) := by decide +kernel
theorem dX6_insert_103 : decode cX6_insert 103 = .ok (.invokestatic 25, 3) := by decide +kernel
theorem dX6_insert_106 : decode cX6_insert 106 = .ok (.aload 4, 2) := by decide +kernel
theorem dX6_insert_108 : decode cX6_insert 108 = .ok (.iload 5, 2) := by decide +kernel
theorem dX6_insert_110 : decode cX6_insert 110 = .ok (.aload_n 0, 1) := by decide +kernel
theorem dX6_insert_111 : decode cX6_insert 111 = .ok (.getfield 18, 3) := by decide +kernel
theorem dX6_insert_114 : decode cX6_insert 114 = .ok (.iload_n 1, 1) := by decide +kernel
theorem dX6_insert_115 : decode cX6_insert 115 = .ok (.bipush 16, 2) := by decide +kernel
theorem dX6_insert_117 : decode cX6_insert 117 = .ok (.imul, 1) := by decide +kernel
theorem dX6_insert_118 : decode cX6_insert 118 = .ok (.bipush 16, 2) := by decide +kernel
theorem dX6_insert_120 : decode cX6_insert 120 = .ok (.invokestatic 25, 3) := by decide +kernel
theorem dX6_insert_123 : decode cX6_insert 123 = .ok (.aload_n 0, 1) := by decide +kernel
theorem dX6_insert_124 : decode cX6_insert 124 = .ok (.getfield 11, 3) := by decide +kernel
theorem dX6_insert_127 : decode cX6_insert 127 = .ok (.iload_n 1, 1) := by decide +kernel
theorem dX6_insert_128 : decode cX6_insert 128 = .ok (.iload_n 2, 1) := by decide +kernel
theorem dX6_insert_129 : decode cX6_insert 129 = .ok (.iastore, 1) := by decide +kernel
theorem dX6_insert_130 : decode cX6_insert 130 = .ok (.aload_n 0, 1) := by decide +kernel
theorem dX6_insert_131 : decode cX6_insert 131 = .ok (.getfield 15, 3) := by decide +kernel
theorem dX6_insert_134 : decode cX6_insert 134 = .ok (.iload_n 1, 1) := by decide +kernel
theorem dX6_insert_135 : decode cX6_insert 135 = .ok (.iload_n 3, 1) := by decide +kernel
theorem dX6_insert_136 : decode cX6_insert 136 = .ok (.iastore, 1) := by decide +kernel
theorem dX6_insert_137 : decode cX6_insert 137 = .ok (.aload_n 0, 1) := by decide +kernel
theorem dX6_insert_138 : decode cX6_insert 138 = .ok (.dup, 1) := by decide +kernel
theorem dX6_insert_139 : decode cX6_insert 139 = .ok (.getfield 21, 3) := by decide +kernel
theorem dX6_insert_142 : decode cX6_insert 142 = .ok (.iconst 1, 1) := by decide +kernel
theorem dX6_insert_143 : decode cX6_insert 143 = .ok (.iadd, 1) := by decide +kernel
theorem dX6_insert_144 : decode cX6_insert 144 = .ok (.putfield 21, 3) := by decide +kernel
theorem dX6_insert_147 : decode cX6_insert 147 = .ok (.return_, 1) := by decide +kernel
set_option maxRecDepth 20000 in
theorem ggX6_remove_X6_has : GoodIn wsX6_remove wsX6_has := goodIn_r _ [13, 1, 14, 15, 16, 17] (by decide +kernel) (by decide +kernel)
set_option maxRecDepth 20000 in
theorem gX6_remove_X6_has : GoodIn wsX6_remove (wsV RX6 31 RX6 yX6_has wsX6_has) := goodIn_app (goodIn_of _ (by decide +kernel)) ggX6_remove_X6_has
theorem dX6_remove_0 : decode cX6_remove 0 = .ok (.aload_n 0, 1) := by decide +kernel
theorem dX6_remove_1 : decode cX6_remove 1 = .ok (.iload_n 1, 1) := by decide +kernel
theorem dX6_remove_2 : decode cX6_remove 2 = .ok (.invokevirtual 31, 3) := by decide +kernel
theorem dX6_remove_5 : decode cX6_remove 5 = .ok (.ifCond .ne 4, 3) := by decide +kernel
theorem dX6_remove_8 : decode cX6_remove 8 = .ok (.return_, 1) := by decide +kernel
theorem dX6_remove_9 : decode cX6_remove 9 = .ok (.aload_n 0, 1) := by decide +kernel
theorem dX6_remove_10 : decode cX6_remove 10 = .ok (.dup, 1) := by decide +kernel
theorem dX6_remove_11 : decode cX6_remove 11 = .ok (.getfield 21, 3) := by decide +kernel
theorem dX6_remove_14 : decode cX6_remove 14 = .ok (.iconst 1, 1) := by decide +kernel
theorem dX6_remove_15 : decode cX6_remove 15 = .ok (.isub, 1) := by decide +kernel
theorem dX6_remove_16 : decode cX6_remove 16 = .ok (.putfield 21, 3) := by decide +kernel
theorem dX6_remove_19 : decode cX6_remove 19 = .ok (.aload_n 0, 1) := by decide +kernel
theorem dX6_remove_20 : decode cX6_remove 20 = .ok (.getfield 21, 3) := by decide +kernel
theorem dX6_remove_23 : decode cX6_remove 23 = .ok (.iload_n 1, 1) := by decide +kernel
theorem dX6_remove_24 : decode cX6_remove 24 = .ok (.isub, 1) := by decide +kernel
theorem dX6_remove_25 : decode cX6_remove 25 = .ok (.istore_n 2, 1) := by decide +kernel
theorem dX6_remove_26 : decode cX6_remove 26 = .ok (.aload_n 0, 1) := by decide +kernel
theorem dX6_remove_27 : decode cX6_remove 27 = .ok (.getfield 11, 3) := by decide +kernel
theorem dX6_remove_30 : decode cX6_remove 30 = .ok (.iload_n 1, 1) := by decide +kernel
theorem dX6_remove_31 : decode cX6_remove 31 = .ok (.iconst 1, 1) := by decide +kernel
theorem dX6_remove_32 : decode cX6_remove 32 = .ok (.iadd, 1) := by decide +kernel
theorem dX6_remove_33 : decode cX6_remove 33 = .ok (.aload_n 0, 1) := by decide +kernel
theorem dX6_remove_34 : decode cX6_remove 34 = .ok (.getfield 11, 3) := by decide +kernel
theorem dX6_remove_37 : decode cX6_remove 37 = .ok (.iload_n 1, 1) := by decide +kernel
theorem dX6_remove_38 : decode cX6_remove 38 = .ok (.iload_n 2, 1) := by decide +kernel
theorem dX6_remove_39 : decode cX6_remove 39 = .ok (.invokestatic 25, 3) := by decide +kernel
theorem dX6_remove_42 : decode cX6_remove 42 = .ok (.aload_n 0, 1) := by decide +kernel
theorem dX6_remove_43 : decode cX6_remove 43 = .ok (.getfield 15, 3) := by decide +kernel
theorem dX6_remove_46 : decode cX6_remove 46 = .ok (.iload_n 1, 1) := by decide +kernel
theorem dX6_remove_47 : decode cX6_remove 47 = .ok (.iconst 1, 1) := by decide +kernel
theorem dX6_remove_48 : decode cX6_remove 48 = .ok (.iadd, 1) := by decide +kernel
theorem dX6_remove_49 : decode cX6_remove 49 = .ok (.aload_n 0, 1) := by decide +kernel
theorem dX6_remove_50 : decode cX6_remove 50 = .ok (.getfield 15, 3) := by decide +kernel
theorem dX6_remove_53 : decode cX6_remove 53 = .ok (.iload_n 1, 1) := by decide +kernel
theorem dX6_remove_54 : decode cX6_remove 54 = .ok (.iload_n 2, 1) := by decide +kernel
theorem dX6_remove_55 : decode cX6_remove 55 = .ok (.invokestatic 25, 3) := by decide +kernel
theorem dX6_remove_58 : decode cX6_remove 58 = .ok (.aload_n 0, 1) := by decide +kernel
theorem dX6_remove_59 : decode cX6_remove 59 = .ok (.getfield 18, 3) := by decide +kernel
theorem dX6_remove_62 : decode cX6_remove 62 = .ok (.iload_n 1, 1) := by decide +kernel
theorem dX6_remove_63 : decode cX6_remove 63 = .ok (.iconst 1, 1) := by decide +kernel
theorem dX6_remove_64 : decode cX6_remove 64 = .ok (.iadd, 1) := by decide +kernel
theorem dX6_remove_65 : decode cX6_remove 65 = .ok (.bipush 16, 2) := by decide +kernel
theorem dX6_remove_67 : decode cX6_remove 67 = .ok (.imul, 1) := by decide +kernel
theorem dX6_remove_68 : decode cX6_remove 68 = .ok (.aload_n 0, 1) := by decide +kernel
theorem dX6_remove_69 : decode cX6_remove 69 = .ok (.getfield 18, 3) := by decide +kernel
theorem dX6_remove_72 : decode cX6_remove 72 = .ok (.iload_n 1, 1) := by decide +kernel
theorem dX6_remove_73 : decode cX6_remove 73 = .ok (.bipush 16, 2) := by decide +kernel
theorem dX6_remove_75 : decode cX6_remove 75 = .ok (.imul, 1) := by decide +kernel
theorem dX6_remove_76 : decode cX6_remove 76 = .ok (.iload_n 2, 1) := by decide +kernel
theorem dX6_remove_77 : decode cX6_remove 77 = .ok (.bipush 16, 2) := by decide +kernel
theorem dX6_remove_79 : decode cX6_remove 79 = .ok (.imul, 1) := by decide +kernel
theorem dX6_remove_80 : decode cX6_remove 80 = .ok (.invokestatic 25, 3) := by decide +kernel
theorem dX6_remove_83 : decode cX6_remove 83 = .ok (.return_, 1) := by decide +kernel
set_option maxRecDepth 20000 in
theorem ggX7_init_X2_init : GoodIn wsX7_init wsX2_init := goodIn_r _ [37, 38, 2, 3, 32, 39, 40, 41, 42, 43, 44, 45, 92, 93, 94, 95, 96, 97] (by decide +kernel) (by decide +kernel)
set_option maxRecDepth 20000 in
theorem gX7_init_X2_init_n9 : GoodIn wsX7_init (wsX2_init) := ggX7_init_X2_init
set_option maxRecDepth 20000 in
theorem ggX7_init_X6_init : GoodIn wsX7_init wsX6_init := goodIn_r _ [47, 48, 2, 3, 32, 49, 50, 51, 52, 108, 109, 110, 111] (by decide +kernel) (by decide +kernel)
set_option maxRecDepth 20000 in
theorem gX7_init_X6_init_n18 : GoodIn wsX7_init (wsX6_init) := ggX7_init_X6_init
set_option maxRecDepth 20000 in
theorem ggX7_init_X0_init : GoodIn wsX7_init wsX0_init := goodIn_r _ [54, 55, 2, 3, 32, 56, 57, 58, 59, 60, 61, 62, 112, 113, 114, 115, 116, 117, 118] (by decide +kernel) (by decide +kernel)
set_option maxRecDepth 20000 in
theorem gX7_init_X0_init_n25 : GoodIn wsX7_init (wsX0_init) := ggX7_init_X0_init
set_option maxRecDepth 20000 in
theorem ggX7_init_X4_init : GoodIn wsX7_init wsX4_init := goodIn_r _ [64, 65, 2, 3, 32, 66, 67, 68, 119, 120, 121] (by decide +kernel) (by decide +kernel)
set_option maxRecDepth 20000 in
theorem gX7_init_X4_init_n32 : GoodIn wsX7_init (wsX4_init) := ggX7_init_X4_init
set_option maxRecDepth 20000 in
theorem ggX7_init_X1_init : GoodIn wsX7_init wsX1_init := goodIn_r _ [70, 71, 2, 3, 32, 72, 73, 74, 75, 76, 122, 123, 124, 125, 126] (by decide +kernel) (by decide +kernel)
set_option maxRecDepth 20000 in
theorem gX7_init_X1_init_n39 : GoodIn wsX7_init (wsX1_init) := ggX7_init_X1_init
set_option maxRecDepth 20000 in
theorem ggX7_init_X3_init : GoodIn wsX7_init wsX3_init := goodIn_r _ [78, 79, 2, 3, 32, 80, 81, 82, 83, 84, 127, 128, 129, 130, 131] (by decide +kernel) (by decide +kernel)
set_option maxRecDepth 20000 in
theorem gX7_init_X3_init_n46 : GoodIn wsX7_init (wsX3_init) := ggX7_init_X3_init
set_option maxRecDepth 20000 in
theorem ggX7_init_X5_init : GoodIn wsX7_init wsX5_init := goodIn_r _ [86, 87, 2, 3, 32, 88, 41, 89, 90, 91, 132, 133, 134, 135] (by decide +kernel) (by decide +kernel)
set_option maxRecDepth 20000 in
theorem gX7_init_X5_init_n53 : GoodIn wsX7_init (wsX5_init) := ggX7_init_X5_init
theorem dX7_init_0 : decode cX7_init 0 = .ok (.aload_n 0, 1) := by decide +kernel
theorem dX7_init_1 : decode cX7_init 1 = .ok (.invokespecial 1, 3) := by decide +kernel
theorem dX7_init_4 : decode cX7_init 4 = .ok (.aload_n 0, 1) := by decide +kernel
theorem dX7_init_5 : decode cX7_init 5 = .ok (.new 7, 3) := by decide +kernel
theorem dX7_init_8 : decode cX7_init 8 = .ok (.dup, 1) := by decide +kernel
theorem dX7_init_9 : decode cX7_init 9 = .ok (.invokespecial 9, 3) := by decide +kernel
theorem dX7_init_12 : decode cX7_init 12 = .ok (.putfield 10, 3) := by decide +kernel
theorem dX7_init_15 : decode cX7_init 15 = .ok (.aload_n 0, 1) := by decide +kernel
theorem dX7_init_16 : decode cX7_init 16 = .ok (.new 16, 3) := by decide +kernel
theorem dX7_init_19 : decode cX7_init 19 = .ok (.dup, 1) := by decide +kernel
theorem dX7_init_20 : decode cX7_init 20 = .ok (.invokespecial 18, 3) := by decide +kernel
theorem dX7_init_23 : decode cX7_init 23 = .ok (.putfield 19, 3) := by decide +kernel
theorem dX7_init_26 : decode cX7_init 26 = .ok (.aload_n 0, 1) := by decide +kernel
theorem dX7_init_27 : decode cX7_init 27 = .ok (.new 23, 3) := by decide +kernel
theorem dX7_init_30 : decode cX7_init 30 = .ok (.dup, 1) := by decide +kernel
theorem dX7_init_31 : decode cX7_init 31 = .ok (.invokespecial 25, 3) := by decide +kernel
theorem dX7_init_34 : decode cX7_init 34 = .ok (.putfield 26, 3) := by decide +kernel
theorem dX7_init_37 : decode cX7_init 37 = .ok (.aload_n 0, 1) := by decide +kernel
theorem dX7_init_38 : decode cX7_init 38 = .ok (.new 30, 3) := by decide +kernel
theorem dX7_init_41 : decode cX7_init 41 = .ok (.dup, 1) := by decide +kernel
theorem dX7_init_42 : decode cX7_init 42 = .ok (.invokespecial 32, 3) := by decide +kernel
theorem dX7_init_45 : decode cX7_init 45 = .ok (.putfield 33, 3) := by decide +kernel
theorem dX7_init_48 : decode cX7_init 48 = .ok (.aload_n 0, 1) := by decide +kernel
theorem dX7_init_49 : decode cX7_init 49 = .ok (.new 37, 3) := by decide +kernel
theorem dX7_init_52 : decode cX7_init 52 = .ok (.dup, 1) := by decide +kernel
theorem dX7_init_53 : decode cX7_init 53 = .ok (.invokespecial 39, 3) := by decide +kernel
theorem dX7_init_56 : decode cX7_init 56 = .ok (.putfield 40, 3) := by decide +kernel
theorem dX7_init_59 : decode cX7_init 59 = .ok (.aload_n 0, 1) := by decide +kernel
theorem dX7_init_60 : decode cX7_init 60 = .ok (.new 44, 3) := by decide +kernel
theorem dX7_init_63 : decode cX7_init 63 = .ok (.dup, 1) := by decide +kernel
theorem dX7_init_64 : decode cX7_init 64 = .ok (.invokespecial 46, 3) := by decide +kernel
theorem dX7_init_67 : decode cX7_init 67 = .ok (.putfield 47, 3) := by decide +kernel
theorem dX7_init_70 : decode cX7_init 70 = .ok (.aload_n 0, 1) := by decide +kernel
theorem dX7_init_71 : decode cX7_init 71 = .ok (.new 51, 3) := by decide +kernel
theorem dX7_init_74 : decode cX7_init 74 = .ok (.dup, 1) := by decide +kernel
theorem dX7_init_75 : decode cX7_init 75 = .ok (.invokespecial 53, 3) := by decide +kernel
theorem dX7_init_78 : decode cX7_init 78 = .ok (.putfield 54, 3) := by decide +kernel
theorem dX7_init_81 : decode cX7_init 81 = .ok (.aload_n 0, 1) := by decide +kernel
theorem dX7_init_82 : decode cX7_init 82 = .ok (.bipush 16, 2) := by decide +kernel
theorem dX7_init_84 : decode cX7_init 84 = .ok (.newarray .int, 2) := by decide +kernel
theorem dX7_init_86 : decode cX7_init 86 = .ok (.putfield 58, 3) := by decide +kernel
theorem dX7_init_89 : decode cX7_init 89 = .ok (.aload_n 0, 1) := by decide +kernel
theorem dX7_init_90 : decode cX7_init 90 = .ok (.sipush 20000, 3) := by decide +kernel
theorem dX7_init_93 : decode cX7_init 93 = .ok (.putfield 62, 3) := by decide +kernel
theorem dX7_init_96 : decode cX7_init 96 = .ok (.aload_n 0, 1) := by decide +kernel
theorem dX7_init_97 : decode cX7_init 97 = .ok (.iconst 0, 1) := by decide +kernel
theorem dX7_init_98 : decode cX7_init 98 = .ok (.putfield 66, 3) := by decide +kernel
theorem dX7_init_101 : decode cX7_init 101 = .ok (.return_, 1) := by decide +kernel
set_option maxRecDepth 20000 in
theorem ggX7_point_X2_add : GoodIn wsX7_point wsX2_add := goodIn_r _ [6, 7, 8, 9, 10, 21, 22, 23, 24, 25, 26] (by decide +kernel) (by decide +kernel)
set_option maxRecDepth 20000 in
theorem gX7_point_X2_add : GoodIn wsX7_point (wsV RX7 69 RX2 yX2_add wsX2_add) := goodIn_app (goodIn_of _ (by decide +kernel)) ggX7_point_X2_add
theorem dX7_point_0 : decode cX7_point 0 = .ok (.aload_n 0, 1) := by decide +kernel
theorem dX7_point_1 : decode cX7_point 1 = .ok (.getfield 10, 3) := by decide +kernel
theorem dX7_point_4 : decode cX7_point 4 = .ok (.iload_n 1, 1) := by decide +kernel
theorem dX7_point_5 : decode cX7_point 5 = .ok (.iload_n 2, 1) := by decide +kernel
theorem dX7_point_6 : decode cX7_point 6 = .ok (.iload_n 3, 1) := by decide +kernel
theorem dX7_point_7 : decode cX7_point 7 = .ok (.invokevirtual 69, 3) := by decide +kernel
theorem dX7_point_10 : decode cX7_point 10 = .ok (.ireturn, 1) := by decide +kernel
set_option maxRecDepth 20000 in
theorem ggX7_clear_X2_empty : GoodIn wsX7_clear wsX2_empty := goodIn_r _ [6, 7, 18, 19, 20, 21, 22, 23] (by decide +kernel) (by decide +kernel)
set_option maxRecDepth 20000 in
theorem gX7_clear_X2_empty : GoodIn wsX7_clear (wsV RX7 73 RX2 yX2_empty wsX2_empty) := goodIn_app (goodIn_of _ (by decide +kernel)) ggX7_clear_X2_empty
theorem dX7_clear_0 : decode cX7_clear 0 = .ok (.aload_n 0, 1) := by decide +kernel
theorem dX7_clear_1 : decode cX7_clear 1 = .ok (.getfield 10, 3) := by decide +kernel
theorem dX7_clear_4 : decode cX7_clear 4 = .ok (.invokevirtual 73, 3) := by decide +kernel
theorem dX7_clear_7 : decode cX7_clear 7 = .ok (.ireturn, 1) := by decide +kernel
set_option maxRecDepth 20000 in
theorem ggX7_way_X2_length : GoodIn wsX7_way wsX2_length := goodIn_r _ [6, 7, 8, 9, 10, 5, 11, 12, 13, 14, 15, 16, 17, 18, 29, 30, 31, 32, 33, 34] (by decide +kernel) (by decide +kernel)
set_option maxRecDepth 20000 in
theorem gX7_way_X2_length : GoodIn wsX7_way (wsV RX7 77 RX2 yX2_length wsX2_length) := goodIn_app (goodIn_of _ (by decide +kernel)) ggX7_way_X2_length
theorem dX7_way_0 : decode cX7_way 0 = .ok (.aload_n 0, 1) := by decide +kernel
theorem dX7_way_1 : decode cX7_way 1 = .ok (.getfield 10, 3) := by decide +kernel
theorem dX7_way_4 : decode cX7_way 4 = .ok (.invokevirtual 77, 3) := by decide +kernel
theorem dX7_way_7 : decode cX7_way 7 = .ok (.ireturn, 1) := by decide +kernel
set_option maxRecDepth 20000 in
theorem ggX7_even_X7_isWithin : GoodIn wsX7_even wsX7_isWithin := goodIn_r _ [7] (by decide +kernel) (by decide +kernel)
set_option maxRecDepth 20000 in
theorem gX7_even_X7_isWithin : GoodIn wsX7_even (va_wsS RX7 80 yX7_isWithin wsX7_isWithin) := goodIn_app (goodIn_of _ (by decide +kernel)) ggX7_even_X7_isWithin
set_option maxRecDepth 20000 in
theorem ggX7_even_X2_makeEven : GoodIn wsX7_even wsX2_makeEven := goodIn_r _ [12, 13, 14, 15, 11, 16, 17, 18, 19, 20, 21, 22, 23, 24, 25, 26, 27, 28, 29, 30, 31, 32, 33, 34, 35, 36, 37, 38, 39, 40, 51, 52, 53, 54, 55, 56] (by decide +kernel) (by decide +kernel)
set_option maxRecDepth 20000 in
theorem gX7_even_X2_makeEven : GoodIn wsX7_even (wsV RX7 84 RX2 yX2_makeEven wsX2_makeEven) := goodIn_app (goodIn_of _ (by decide +kernel)) ggX7_even_X2_makeEven
theorem dX7_even_0 : decode cX7_even 0 = .ok (.iload_n 1, 1) := by decide +kernel
theorem dX7_even_1 : decode cX7_even 1 = .ok (.bipush 7, 2) := by decide +kernel
theorem dX7_even_3 : decode cX7_even 3 = .ok (.invokestatic 80, 3) := by decide +kernel
theorem dX7_even_6 : decode cX7_even 6 = .ok (.ifCond .eq 21, 3) := by decide +kernel
theorem dX7_even_9 : decode cX7_even 9 = .ok (.iload_n 2, 1) := by decide +kernel
theorem dX7_even_10 : decode cX7_even 10 = .ok (.iconst 1, 1) := by decide +kernel
theorem dX7_even_11 : decode cX7_even 11 = .ok (.invokestatic 80, 3) := by decide +kernel
theorem dX7_even_14 : decode cX7_even 14 = .ok (.ifCond .eq 13, 3) := by decide +kernel
theorem dX7_even_17 : decode cX7_even 17 = .ok (.aload_n 0, 1) := by decide +kernel
theorem dX7_even_18 : decode cX7_even 18 = .ok (.getfield 10, 3) := by decide +kernel
theorem dX7_even_21 : decode cX7_even 21 = .ok (.invokevirtual 84, 3) := by decide +kernel
theorem dX7_even_24 : decode cX7_even 24 = .ok (.ifCond .ne 6, 3) := by decide +kernel
theorem dX7_even_27 : decode cX7_even 27 = .ok (.ldc 88, 2) := by decide +kernel
theorem dX7_even_29 : decode cX7_even 29 = .ok (.ireturn, 1) := by decide +kernel
theorem dX7_even_30 : decode cX7_even 30 = .ok (.aload_n 0, 1) := by decide +kernel
theorem dX7_even_31 : decode cX7_even 31 = .ok (.getfield 10, 3) := by decide +kernel
theorem dX7_even_34 : decode cX7_even 34 = .ok (.getfield 89, 3) := by decide +kernel
theorem dX7_even_37 : decode cX7_even 37 = .ok (.iconst 2, 1) := by decide +kernel
theorem dX7_even_38 : decode cX7_even 38 = .ok (.iload_n 1, 1) := by decide +kernel
theorem dX7_even_39 : decode cX7_even 39 = .ok (.imul, 1) := by decide +kernel
theorem dX7_even_40 : decode cX7_even 40 = .ok (.iload_n 2, 1) := by decide +kernel
theorem dX7_even_41 : decode cX7_even 41 = .ok (.iadd, 1) := by decide +kernel
theorem dX7_even_42 : decode cX7_even 42 = .ok (.iaload, 1) := by decide +kernel
theorem dX7_even_43 : decode cX7_even 43 = .ok (.ireturn, 1) := by decide +kernel
set_option maxRecDepth 20000 in
theorem ggX7_normal_X7_isWithin : GoodIn wsX7_normal wsX7_isWithin := goodIn_r _ [7] (by decide +kernel) (by decide +kernel)
set_option maxRecDepth 20000 in
theorem gX7_normal_X7_isWithin : GoodIn wsX7_normal (va_wsS RX7 80 yX7_isWithin wsX7_isWithin) := goodIn_app (goodIn_of _ (by decide +kernel)) ggX7_normal_X7_isWithin
set_option maxRecDepth 20000 in
theorem ggX7_normal_X2_makeNormal : GoodIn wsX7_normal wsX2_makeNormal := goodIn_r _ [12, 13, 14, 15, 16, 11, 17, 18, 19, 20, 21, 22, 23, 24, 25, 26, 27, 28, 29, 30, 31, 32, 33, 34, 35, 36, 37, 38, 39, 40, 41, 42, 43, 44, 45, 46, 47, 48, 49, 50, 51, 52, 53, 54, 55, 56, 57, 58, 59, 70, 71, 72, 73, 74, 75] (by decide +kernel) (by decide +kernel)
set_option maxRecDepth 20000 in
theorem gX7_normal_X2_makeNormal : GoodIn wsX7_normal (wsV RX7 92 RX2 yX2_makeNormal wsX2_makeNormal) := goodIn_app (goodIn_of _ (by decide +kernel)) ggX7_normal_X2_makeNormal
theorem dX7_normal_0 : decode cX7_normal 0 = .ok (.iload_n 1, 1) := by decide +kernel
theorem dX7_normal_1 : decode cX7_normal 1 = .ok (.bipush 7, 2) := by decide +kernel
theorem dX7_normal_3 : decode cX7_normal 3 = .ok (.invokestatic 80, 3) := by decide +kernel
theorem dX7_normal_6 : decode cX7_normal 6 = .ok (.ifCond .eq 21, 3) := by decide +kernel
theorem dX7_normal_9 : decode cX7_normal 9 = .ok (.iload_n 2, 1) := by decide +kernel
theorem dX7_normal_10 : decode cX7_normal 10 = .ok (.iconst 1, 1) := by decide +kernel
theorem dX7_normal_11 : decode cX7_normal 11 = .ok (.invokestatic 80, 3) := by decide +kernel
theorem dX7_normal_14 : decode cX7_normal 14 = .ok (.ifCond .eq 13, 3) := by decide +kernel
theorem dX7_normal_17 : decode cX7_normal 17 = .ok (.aload_n 0, 1) := by decide +kernel
theorem dX7_normal_18 : decode cX7_normal 18 = .ok (.getfield 10, 3) := by decide +kernel
theorem dX7_normal_21 : decode cX7_normal 21 = .ok (.invokevirtual 92, 3) := by decide +kernel
theorem dX7_normal_24 : decode cX7_normal 24 = .ok (.ifCond .ne 6, 3) := by decide +kernel
theorem dX7_normal_27 : decode cX7_normal 27 = .ok (.ldc 88, 2) := by decide +kernel
theorem dX7_normal_29 : decode cX7_normal 29 = .ok (.ireturn, 1) := by decide +kernel
theorem dX7_normal_30 : decode cX7_normal 30 = .ok (.aload_n 0, 1) := by decide +kernel
theorem dX7_normal_31 : decode cX7_normal 31 = .ok (.getfield 10, 3) := by decide +kernel
theorem dX7_normal_34 : decode cX7_normal 34 = .ok (.getfield 95, 3) := by decide +kernel
theorem dX7_normal_37 : decode cX7_normal 37 = .ok (.iconst 2, 1) := by decide +kernel
theorem dX7_normal_38 : decode cX7_normal 38 = .ok (.iload_n 1, 1) := by decide +kernel
theorem dX7_normal_39 : decode cX7_normal 39 = .ok (.imul, 1) := by decide +kernel
theorem dX7_normal_40 : decode cX7_normal 40 = .ok (.iload_n 2, 1) := by decide +kernel
theorem dX7_normal_41 : decode cX7_normal 41 = .ok (.iadd, 1) := by decide +kernel
theorem dX7_normal_42 : decode cX7_normal 42 = .ok (.iaload, 1) := by decide +kernel
theorem dX7_normal_43 : decode cX7_normal 43 = .ok (.ireturn, 1) := by decide +kernel
set_option maxRecDepth 20000 in
theorem ggX7_teach_X7_isWithin : GoodIn wsX7_teach wsX7_isWithin := goodIn_r _ [9] (by decide +kernel) (by decide +kernel)
set_option maxRecDepth 20000 in
theorem gX7_teach_X7_isWithin : GoodIn wsX7_teach (va_wsS RX7 80 yX7_isWithin wsX7_isWithin) := goodIn_app (goodIn_of _ (by decide +kernel)) ggX7_teach_X7_isWithin
set_option maxRecDepth 20000 in
theorem ggX7_teach_X2_makeNormal : GoodIn wsX7_teach wsX2_makeNormal := goodIn_r _ [14, 15, 16, 17, 18, 13, 19, 20, 21, 22, 23, 24, 25, 26, 27, 28, 29, 30, 31, 32, 33, 34, 35, 36, 37, 38, 39, 40, 41, 42, 43, 44, 45, 46, 47, 48, 49, 50, 51, 52, 53, 54, 55, 56, 57, 58, 59, 60, 61, 104, 105, 106, 107, 108, 109] (by decide +kernel) (by decide +kernel)
set_option maxRecDepth 20000 in
theorem gX7_teach_X2_makeNormal : GoodIn wsX7_teach (wsV RX7 92 RX2 yX2_makeNormal wsX2_makeNormal) := goodIn_app (goodIn_of _ (by decide +kernel)) ggX7_teach_X2_makeNormal
set_option maxRecDepth 20000 in
theorem ggX7_teach_X6_insert : GoodIn wsX7_teach wsX6_insert := goodIn_r _ [66, 67, 68, 69, 70, 71, 72, 73, 74, 100, 101, 102, 103] (by decide +kernel) (by decide +kernel)
set_option maxRecDepth 20000 in
theorem gX7_teach_X6_insert : GoodIn wsX7_teach (wsV RX7 101 RX6 yX6_insert wsX6_insert) := goodIn_app (goodIn_of _ (by decide +kernel)) ggX7_teach_X6_insert
set_option maxRecDepth 20000 in
theorem ggX7_teach_X0_push : GoodIn wsX7_teach wsX0_push := goodIn_r _ [79, 80, 81, 82, 83, 84, 85, 86, 53, 33, 54, 87, 88, 46, 89, 110, 111, 112, 113, 114, 115, 116] (by decide +kernel) (by decide +kernel)
set_option maxRecDepth 20000 in
theorem gX7_teach_X0_push : GoodIn wsX7_teach (wsV RX7 105 RX0 yX0_push wsX0_push) := goodIn_app (goodIn_of _ (by decide +kernel)) ggX7_teach_X0_push
theorem dX7_teach_0 : decode cX7_teach 0 = .ok (.iload_n 1, 1) := by decide +kernel
theorem dX7_teach_1 : decode cX7_teach 1 = .ok (.bipush 9, 2) := by decide +kernel
theorem dX7_teach_3 : decode cX7_teach 3 = .ok (.invokestatic 80, 3) := by decide +kernel
theorem dX7_teach_6 : decode cX7_teach 6 = .ok (.ifCond .eq 11, 3) := by decide +kernel
theorem dX7_teach_9 : decode cX7_teach 9 = .ok (.iload_n 2, 1) := by decide +kernel
theorem dX7_teach_10 : decode cX7_teach 10 = .ok (.iconst 4, 1) := by decide +kernel
theorem dX7_teach_11 : decode cX7_teach 11 = .ok (.invokestatic 80, 3) := by decide +kernel
theorem dX7_teach_14 : decode cX7_teach 14 = .ok (.ifCond .ne 5, 3) := by decide +kernel
theorem dX7_teach_17 : decode cX7_teach 17 = .ok (.iconst (-1), 1) := by decide +kernel
theorem dX7_teach_18 : decode cX7_teach 18 = .ok (.ireturn, 1) := by decide +kernel
theorem dX7_teach_19 : decode cX7_teach 19 = .ok (.aload_n 0, 1) := by decide +kernel
theorem dX7_teach_20 : decode cX7_teach 20 = .ok (.getfield 10, 3) := by decide +kernel
theorem dX7_teach_23 : decode cX7_teach 23 = .ok (.invokevirtual 92, 3) := by decide +kernel
theorem dX7_teach_26 : decode cX7_teach 26 = .ok (.ifCond .ne 6, 3) := by decide +kernel
theorem dX7_teach_29 : decode cX7_teach 29 = .ok (.bipush (-2), 2) := by decide +kernel
theorem dX7_teach_31 : decode cX7_teach 31 = .ok (.ireturn, 1) := by decide +kernel
theorem dX7_teach_32 : decode cX7_teach 32 = .ok (.aload_n 0, 1) := by decide +kernel
theorem dX7_teach_33 : decode cX7_teach 33 = .ok (.getfield 19, 3) := by decide +kernel
theorem dX7_teach_36 : decode cX7_teach 36 = .ok (.getfield 98, 3) := by decide +kernel
theorem dX7_teach_39 : decode cX7_teach 39 = .ok (.bipush 16, 2) := by decide +kernel
theorem dX7_teach_41 : decode cX7_teach 41 = .ok (.if_icmp .lt 6, 3) := by decide +kernel
theorem dX7_teach_44 : decode cX7_teach 44 = .ok (.bipush (-3), 2) := by decide +kernel
theorem dX7_teach_46 : decode cX7_teach 46 = .ok (.ireturn, 1) := by decide +kernel
theorem dX7_teach_47 : decode cX7_teach 47 = .ok (.aload_n 0, 1) := by decide +kernel
theorem dX7_teach_48 : decode cX7_teach 48 = .ok (.getfield 19, 3) := by decide +kernel
theorem dX7_teach_51 : decode cX7_teach 51 = .ok (.getfield 98, 3) := by decide +kernel
theorem dX7_teach_54 : decode cX7_teach 54 = .ok (.istore_n 3, 1) := by decide +kernel
theorem dX7_teach_55 : decode cX7_teach 55 = .ok (.aload_n 0, 1) := by decide +kernel
theorem dX7_teach_56 : decode cX7_teach 56 = .ok (.getfield 19, 3) := by decide +kernel
theorem dX7_teach_59 : decode cX7_teach 59 = .ok (.iload_n 3, 1) := by decide +kernel
theorem dX7_teach_60 : decode cX7_teach 60 = .ok (.iload_n 1, 1) := by decide +kernel
theorem dX7_teach_61 : decode cX7_teach 61 = .ok (.iload_n 2, 1) := by decide +kernel
theorem dX7_teach_62 : decode cX7_teach 62 = .ok (.aload_n 0, 1) := by decide +kernel
theorem dX7_teach_63 : decode cX7_teach 63 = .ok (.getfield 10, 3) := by decide +kernel
theorem dX7_teach_66 : decode cX7_teach 66 = .ok (.getfield 95, 3) := by decide +kernel
theorem dX7_teach_69 : decode cX7_teach 69 = .ok (.iconst 0, 1) := by decide +kernel
theorem dX7_teach_70 : decode cX7_teach 70 = .ok (.invokevirtual 101, 3) := by decide +kernel
theorem dX7_teach_73 : decode cX7_teach 73 = .ok (.aload_n 0, 1) := by decide +kernel
theorem dX7_teach_74 : decode cX7_teach 74 = .ok (.getfield 26, 3) := by decide +kernel
theorem dX7_teach_77 : decode cX7_teach 77 = .ok (.iconst 0, 1) := by decide +kernel
theorem dX7_teach_78 : decode cX7_teach 78 = .ok (.iload_n 3, 1) := by decide +kernel
theorem dX7_teach_79 : decode cX7_teach 79 = .ok (.iload_n 1, 1) := by decide +kernel
theorem dX7_teach_80 : decode cX7_teach 80 = .ok (.iload_n 2, 1) := by decide +kernel
theorem dX7_teach_81 : decode cX7_teach 81 = .ok (.invokevirtual 105, 3) := by decide +kernel
theorem dX7_teach_84 : decode cX7_teach 84 = .ok (.pop, 1) := by decide +kernel
theorem dX7_teach_85 : decode cX7_teach 85 = .ok (.iload_n 3, 1) := by decide +kernel
theorem dX7_teach_86 : decode cX7_teach 86 = .ok (.ireturn, 1) := by decide +kernel
set_option maxRecDepth 20000 in
theorem ggX7_forget_X6_has : GoodIn wsX7_forget wsX6_has := goodIn_r _ [15, 16, 55, 56, 57, 58] (by decide +kernel) (by decide +kernel)
set_option maxRecDepth 20000 in
theorem gX7_forget_X6_has : GoodIn wsX7_forget (wsV RX7 109 RX6 yX6_has wsX6_has) := goodIn_app (goodIn_of _ (by decide +kernel)) ggX7_forget_X6_has
set_option maxRecDepth 20000 in
theorem ggX7_forget_X0_push : GoodIn wsX7_forget wsX0_push := goodIn_r _ [21, 22, 23, 24, 25, 26, 27, 28, 29, 30, 31, 32, 33, 34, 35, 59, 60, 61, 62, 63, 64, 65] (by decide +kernel) (by decide +kernel)
set_option maxRecDepth 20000 in
theorem gX7_forget_X0_push : GoodIn wsX7_forget (wsV RX7 105 RX0 yX0_push wsX0_push) := goodIn_app (goodIn_of _ (by decide +kernel)) ggX7_forget_X0_push
set_option maxRecDepth 20000 in
theorem ggX7_forget_X6_remove : GoodIn wsX7_forget wsX6_remove := goodIn_r _ [39, 16, 40, 41, 8, 9, 10, 42, 43, 44, 12, 13, 14, 15, 55, 56, 57, 58] (by decide +kernel) (by decide +kernel)
set_option maxRecDepth 20000 in
theorem gX7_forget_X6_remove : GoodIn wsX7_forget (wsV RX7 128 RX6 yX6_remove wsX6_remove) := goodIn_app (goodIn_of _ (by decide +kernel)) ggX7_forget_X6_remove
theorem dX7_forget_0 : decode cX7_forget 0 = .ok (.aload_n 0, 1) := by decide +kernel
theorem dX7_forget_1 : decode cX7_forget 1 = .ok (.getfield 19, 3) := by decide +kernel
theorem dX7_forget_4 : decode cX7_forget 4 = .ok (.iload_n 1, 1) := by decide +kernel
theorem dX7_forget_5 : decode cX7_forget 5 = .ok (.invokevirtual 109, 3) := by decide +kernel
theorem dX7_forget_8 : decode cX7_forget 8 = .ok (.ifCond .ne 5, 3) := by decide +kernel
theorem dX7_forget_11 : decode cX7_forget 11 = .ok (.iconst (-1), 1) := by decide +kernel
theorem dX7_forget_12 : decode cX7_forget 12 = .ok (.ireturn, 1) := by decide +kernel
theorem dX7_forget_13 : decode cX7_forget 13 = .ok (.aload_n 0, 1) := by decide +kernel
theorem dX7_forget_14 : decode cX7_forget 14 = .ok (.getfield 19, 3) := by decide +kernel
theorem dX7_forget_17 : decode cX7_forget 17 = .ok (.getfield 113, 3) := by decide +kernel
theorem dX7_forget_20 : decode cX7_forget 20 = .ok (.iload_n 1, 1) := by decide +kernel
theorem dX7_forget_21 : decode cX7_forget 21 = .ok (.iaload, 1) := by decide +kernel
theorem dX7_forget_22 : decode cX7_forget 22 = .ok (.istore_n 2, 1) := by decide +kernel
theorem dX7_forget_23 : decode cX7_forget 23 = .ok (.aload_n 0, 1) := by decide +kernel
theorem dX7_forget_24 : decode cX7_forget 24 = .ok (.getfield 26, 3) := by decide +kernel
theorem dX7_forget_27 : decode cX7_forget 27 = .ok (.iconst 1, 1) := by decide +kernel
theorem dX7_forget_28 : decode cX7_forget 28 = .ok (.iload_n 1, 1) := by decide +kernel
theorem dX7_forget_29 : decode cX7_forget 29 = .ok (.iload_n 2, 1) := by decide +kernel
theorem dX7_forget_30 : decode cX7_forget 30 = .ok (.aload_n 0, 1) := by decide +kernel
theorem dX7_forget_31 : decode cX7_forget 31 = .ok (.getfield 19, 3) := by decide +kernel
theorem dX7_forget_34 : decode cX7_forget 34 = .ok (.getfield 115, 3) := by decide +kernel
theorem dX7_forget_37 : decode cX7_forget 37 = .ok (.iload_n 1, 1) := by decide +kernel
theorem dX7_forget_38 : decode cX7_forget 38 = .ok (.iaload, 1) := by decide +kernel
theorem dX7_forget_39 : decode cX7_forget 39 = .ok (.invokevirtual 105, 3) := by decide +kernel
theorem dX7_forget_42 : decode cX7_forget 42 = .ok (.istore_n 3, 1) := by decide +kernel
theorem dX7_forget_43 : decode cX7_forget 43 = .ok (.aload_n 0, 1) := by decide +kernel
theorem dX7_forget_44 : decode cX7_forget 44 = .ok (.getfield 19, 3) := by decide +kernel
theorem dX7_forget_47 : decode cX7_forget 47 = .ok (.getfield 118, 3) := by decide +kernel
theorem dX7_forget_50 : decode cX7_forget 50 = .ok (.iload_n 1, 1) := by decide +kernel
theorem dX7_forget_51 : decode cX7_forget 51 = .ok (.bipush 16, 2) := by decide +kernel
theorem dX7_forget_53 : decode cX7_forget 53 = .ok (.imul, 1) := by decide +kernel
theorem dX7_forget_54 : decode cX7_forget 54 = .ok (.aload_n 0, 1) := by decide +kernel
theorem dX7_forget_55 : decode cX7_forget 55 = .ok (.getfield 26, 3) := by decide +kernel
theorem dX7_forget_58 : decode cX7_forget 58 = .ok (.getfield 121, 3) := by decide +kernel
theorem dX7_forget_61 : decode cX7_forget 61 = .ok (.iload_n 3, 1) := by decide +kernel
theorem dX7_forget_62 : decode cX7_forget 62 = .ok (.bipush 16, 2) := by decide +kernel
theorem dX7_forget_64 : decode cX7_forget 64 = .ok (.imul, 1) := by decide +kernel
theorem dX7_forget_65 : decode cX7_forget 65 = .ok (.bipush 16, 2) := by decide +kernel
theorem dX7_forget_67 : decode cX7_forget 67 = .ok (.invokestatic 122, 3) := by decide +kernel
theorem dX7_forget_70 : decode cX7_forget 70 = .ok (.aload_n 0, 1) := by decide +kernel
theorem dX7_forget_71 : decode cX7_forget 71 = .ok (.getfield 19, 3) := by decide +kernel
theorem dX7_forget_74 : decode cX7_forget 74 = .ok (.iload_n 1, 1) := by decide +kernel
theorem dX7_forget_75 : decode cX7_forget 75 = .ok (.invokevirtual 128, 3) := by decide +kernel
theorem dX7_forget_78 : decode cX7_forget 78 = .ok (.iload_n 2, 1) := by decide +kernel
theorem dX7_forget_79 : decode cX7_forget 79 = .ok (.ireturn, 1) := by decide +kernel
set_option maxRecDepth 20000 in
theorem ggX7_undo_X0_pop : GoodIn wsX7_undo wsX0_pop := goodIn_r _ [14, 15, 16, 17, 18, 19, 20, 21, 22, 23, 24, 57, 58, 59, 60, 61, 62, 63] (by decide +kernel) (by decide +kernel)
set_option maxRecDepth 20000 in
theorem gX7_undo_X0_pop : GoodIn wsX7_undo (wsV RX7 133 RX0 yX0_pop wsX0_pop) := goodIn_app (goodIn_of _ (by decide +kernel)) ggX7_undo_X0_pop
set_option maxRecDepth 20000 in
theorem ggX7_undo_X6_remove : GoodIn wsX7_undo wsX6_remove := goodIn_r _ [29, 30, 31, 32, 33, 34, 35, 36, 37, 38, 39, 40, 28, 41, 64, 65, 66, 67] (by decide +kernel) (by decide +kernel)
set_option maxRecDepth 20000 in
theorem gX7_undo_X6_remove : GoodIn wsX7_undo (wsV RX7 128 RX6 yX6_remove wsX6_remove) := goodIn_app (goodIn_of _ (by decide +kernel)) ggX7_undo_X6_remove
set_option maxRecDepth 20000 in
theorem ggX7_undo_X6_insert : GoodIn wsX7_undo wsX6_insert := goodIn_r _ [45, 30, 31, 32, 33, 34, 35, 36, 37, 64, 65, 66, 67] (by decide +kernel) (by decide +kernel)
set_option maxRecDepth 20000 in
theorem gX7_undo_X6_insert : GoodIn wsX7_undo (wsV RX7 101 RX6 yX6_insert wsX6_insert) := goodIn_app (goodIn_of _ (by decide +kernel)) ggX7_undo_X6_insert
set_option maxRecDepth 20000 in
theorem ggX7_undo_X6_has : GoodIn wsX7_undo wsX6_has := goodIn_r _ [41, 30, 64, 65, 66, 67] (by decide +kernel) (by decide +kernel)
set_option maxRecDepth 20000 in
theorem gX7_undo_X6_has : GoodIn wsX7_undo (wsV RX7 109 RX6 yX6_has wsX6_has) := goodIn_app (goodIn_of _ (by decide +kernel)) ggX7_undo_X6_has
theorem dX7_undo_0 : decode cX7_undo 0 = .ok (.aload_n 0, 1) := by decide +kernel
theorem dX7_undo_1 : decode cX7_undo 1 = .ok (.getfield 26, 3) := by decide +kernel
theorem dX7_undo_4 : decode cX7_undo 4 = .ok (.getfield 132, 3) := by decide +kernel
theorem dX7_undo_7 : decode cX7_undo 7 = .ok (.ifCond .ne 6, 3) := by decide +kernel
theorem dX7_undo_10 : decode cX7_undo 10 = .ok (.bipush (-4), 2) := by decide +kernel
theorem dX7_undo_12 : decode cX7_undo 12 = .ok (.ireturn, 1) := by decide +kernel
theorem dX7_undo_13 : decode cX7_undo 13 = .ok (.aload_n 0, 1) := by decide +kernel
theorem dX7_undo_14 : decode cX7_undo 14 = .ok (.getfield 26, 3) := by decide +kernel
theorem dX7_undo_17 : decode cX7_undo 17 = .ok (.invokevirtual 133, 3) := by decide +kernel
theorem dX7_undo_20 : decode cX7_undo 20 = .ok (.istore_n 1, 1) := by decide +kernel
theorem dX7_undo_21 : decode cX7_undo 21 = .ok (.aload_n 0, 1) := by decide +kernel
theorem dX7_undo_22 : decode cX7_undo 22 = .ok (.getfield 26, 3) := by decide +kernel
theorem dX7_undo_25 : decode cX7_undo 25 = .ok (.getfield 136, 3) := by decide +kernel
theorem dX7_undo_28 : decode cX7_undo 28 = .ok (.iload_n 1, 1) := by decide +kernel
theorem dX7_undo_29 : decode cX7_undo 29 = .ok (.iaload, 1) := by decide +kernel
theorem dX7_undo_30 : decode cX7_undo 30 = .ok (.istore_n 2, 1) := by decide +kernel
theorem dX7_undo_31 : decode cX7_undo 31 = .ok (.aload_n 0, 1) := by decide +kernel
theorem dX7_undo_32 : decode cX7_undo 32 = .ok (.getfield 26, 3) := by decide +kernel
theorem dX7_undo_35 : decode cX7_undo 35 = .ok (.getfield 139, 3) := by decide +kernel
theorem dX7_undo_38 : decode cX7_undo 38 = .ok (.iload_n 1, 1) := by decide +kernel
theorem dX7_undo_39 : decode cX7_undo 39 = .ok (.iaload, 1) := by decide +kernel
theorem dX7_undo_40 : decode cX7_undo 40 = .ok (.ifCond .ne 14, 3) := by decide +kernel
theorem dX7_undo_43 : decode cX7_undo 43 = .ok (.aload_n 0, 1) := by decide +kernel
theorem dX7_undo_44 : decode cX7_undo 44 = .ok (.getfield 19, 3) := by decide +kernel
theorem dX7_undo_47 : decode cX7_undo 47 = .ok (.iload_n 2, 1) := by decide +kernel
theorem dX7_undo_48 : decode cX7_undo 48 = .ok (.invokevirtual 128, 3) := by decide +kernel
theorem dX7_undo_51 : decode cX7_undo 51 = .ok (.goto 85, 3) := by decide +kernel
theorem dX7_undo_54 : decode cX7_undo 54 = .ok (.aload_n 0, 1) := by decide +kernel
theorem dX7_undo_55 : decode cX7_undo 55 = .ok (.getfield 26, 3) := by decide +kernel
theorem dX7_undo_58 : decode cX7_undo 58 = .ok (.getfield 139, 3) := by decide +kernel
theorem dX7_undo_61 : decode cX7_undo 61 = .ok (.iload_n 1, 1) := by decide +kernel
theorem dX7_undo_62 : decode cX7_undo 62 = .ok (.iaload, 1) := by decide +kernel
theorem dX7_undo_63 : decode cX7_undo 63 = .ok (.iconst 1, 1) := by decide +kernel
theorem dX7_undo_64 : decode cX7_undo 64 = .ok (.if_icmp .ne 43, 3) := by decide +kernel
theorem dX7_undo_67 : decode cX7_undo 67 = .ok (.aload_n 0, 1) := by decide +kernel
theorem dX7_undo_68 : decode cX7_undo 68 = .ok (.getfield 19, 3) := by decide +kernel
theorem dX7_undo_71 : decode cX7_undo 71 = .ok (.iload_n 2, 1) := by decide +kernel
theorem dX7_undo_72 : decode cX7_undo 72 = .ok (.aload_n 0, 1) := by decide +kernel
theorem dX7_undo_73 : decode cX7_undo 73 = .ok (.getfield 26, 3) := by decide +kernel
theorem dX7_undo_76 : decode cX7_undo 76 = .ok (.getfield 142, 3) := by decide +kernel
theorem dX7_undo_79 : decode cX7_undo 79 = .ok (.iload_n 1, 1) := by decide +kernel
theorem dX7_undo_80 : decode cX7_undo 80 = .ok (.iaload, 1) := by decide +kernel
theorem dX7_undo_81 : decode cX7_undo 81 = .ok (.aload_n 0, 1) := by decide +kernel
theorem dX7_undo_82 : decode cX7_undo 82 = .ok (.getfield 26, 3) := by decide +kernel
theorem dX7_undo_85 : decode cX7_undo 85 = .ok (.getfield 143, 3) := by decide +kernel
theorem dX7_undo_88 : decode cX7_undo 88 = .ok (.iload_n 1, 1) := by decide +kernel
theorem dX7_undo_89 : decode cX7_undo 89 = .ok (.iaload, 1) := by decide +kernel
theorem dX7_undo_90 : decode cX7_undo 90 = .ok (.aload_n 0, 1) := by decide +kernel
theorem dX7_undo_91 : decode cX7_undo 91 = .ok (.getfield 26, 3) := by decide +kernel
theorem dX7_undo_94 : decode cX7_undo 94 = .ok (.getfield 121, 3) := by decide +kernel
theorem dX7_undo_97 : decode cX7_undo 97 = .ok (.iload_n 1, 1) := by decide +kernel
theorem dX7_undo_98 : decode cX7_undo 98 = .ok (.bipush 16, 2) := by decide +kernel
theorem dX7_undo_100 : decode cX7_undo 100 = .ok (.imul, 1) := by decide +kernel
theorem dX7_undo_101 : decode cX7_undo 101 = .ok (.invokevirtual 101, 3) := by decide +kernel
theorem dX7_undo_104 : decode cX7_undo 104 = .ok (.goto 32, 3) := by decide +kernel
theorem dX7_undo_107 : decode cX7_undo 107 = .ok (.aload_n 0, 1) := by decide +kernel
theorem dX7_undo_108 : decode cX7_undo 108 = .ok (.getfield 19, 3) := by decide +kernel
theorem dX7_undo_111 : decode cX7_undo 111 = .ok (.iload_n 2, 1) := by decide +kernel
theorem dX7_undo_112 : decode cX7_undo 112 = .ok (.invokevirtual 109, 3) := by decide +kernel
theorem dX7_undo_115 : decode cX7_undo 115 = .ok (.ifCond .eq 21, 3) := by decide +kernel
theorem dX7_undo_118 : decode cX7_undo 118 = .ok (.aload_n 0, 1) := by decide +kernel
theorem dX7_undo_119 : decode cX7_undo 119 = .ok (.getfield 19, 3) := by decide +kernel
theorem dX7_undo_122 : decode cX7_undo 122 = .ok (.getfield 113, 3) := by decide +kernel
theorem dX7_undo_125 : decode cX7_undo 125 = .ok (.iload_n 2, 1) := by decide +kernel
theorem dX7_undo_126 : decode cX7_undo 126 = .ok (.aload_n 0, 1) := by decide +kernel
theorem dX7_undo_127 : decode cX7_undo 127 = .ok (.getfield 26, 3) := by decide +kernel
theorem dX7_undo_130 : decode cX7_undo 130 = .ok (.getfield 142, 3) := by decide +kernel
theorem dX7_undo_133 : decode cX7_undo 133 = .ok (.iload_n 1, 1) := by decide +kernel
theorem dX7_undo_134 : decode cX7_undo 134 = .ok (.iaload, 1) := by decide +kernel
theorem dX7_undo_135 : decode cX7_undo 135 = .ok (.iastore, 1) := by decide +kernel
theorem dX7_undo_136 : decode cX7_undo 136 = .ok (.aload_n 0, 1) := by decide +kernel
theorem dX7_undo_137 : decode cX7_undo 137 = .ok (.getfield 26, 3) := by decide +kernel
theorem dX7_undo_140 : decode cX7_undo 140 = .ok (.getfield 132, 3) := by decide +kernel
theorem dX7_undo_143 : decode cX7_undo 143 = .ok (.ireturn, 1) := by decide +kernel
set_option maxRecDepth 20000 in
theorem ggX7_label_X6_has : GoodIn wsX7_label wsX6_has := goodIn_r _ [9, 10, 44, 45, 46, 47] (by decide +kernel) (by decide +kernel)
set_option maxRecDepth 20000 in
theorem gX7_label_X6_has : GoodIn wsX7_label (wsV RX7 109 RX6 yX6_has wsX6_has) := goodIn_app (goodIn_of _ (by decide +kernel)) ggX7_label_X6_has
set_option maxRecDepth 20000 in
theorem ggX7_label_X7_isWithin : GoodIn wsX7_label wsX7_isWithin := goodIn_r _ [14] (by decide +kernel) (by decide +kernel)
set_option maxRecDepth 20000 in
theorem gX7_label_X7_isWithin : GoodIn wsX7_label (va_wsS RX7 80 yX7_isWithin wsX7_isWithin) := goodIn_app (goodIn_of _ (by decide +kernel)) ggX7_label_X7_isWithin
set_option maxRecDepth 20000 in
theorem ggX7_label_X0_push : GoodIn wsX7_label wsX0_push := goodIn_r _ [19, 20, 21, 22, 23, 24, 25, 26, 27, 28, 29, 30, 31, 32, 33, 48, 49, 50, 51, 52, 53, 54] (by decide +kernel) (by decide +kernel)
set_option maxRecDepth 20000 in
theorem gX7_label_X0_push : GoodIn wsX7_label (wsV RX7 105 RX0 yX0_push wsX0_push) := goodIn_app (goodIn_of _ (by decide +kernel)) ggX7_label_X0_push
theorem dX7_label_0 : decode cX7_label 0 = .ok (.aload_n 0, 1) := by decide +kernel
theorem dX7_label_1 : decode cX7_label 1 = .ok (.getfield 19, 3) := by decide +kernel
theorem dX7_label_4 : decode cX7_label 4 = .ok (.iload_n 1, 1) := by decide +kernel
theorem dX7_label_5 : decode cX7_label 5 = .ok (.invokevirtual 109, 3) := by decide +kernel
theorem dX7_label_8 : decode cX7_label 8 = .ok (.ifCond .eq 12, 3) := by decide +kernel
theorem dX7_label_11 : decode cX7_label 11 = .ok (.iload_n 2, 1) := by decide +kernel
theorem dX7_label_12 : decode cX7_label 12 = .ok (.bipush 9, 2) := by decide +kernel
theorem dX7_label_14 : decode cX7_label 14 = .ok (.invokestatic 80, 3) := by decide +kernel
theorem dX7_label_17 : decode cX7_label 17 = .ok (.ifCond .ne 5, 3) := by decide +kernel
theorem dX7_label_20 : decode cX7_label 20 = .ok (.iconst (-1), 1) := by decide +kernel
theorem dX7_label_21 : decode cX7_label 21 = .ok (.ireturn, 1) := by decide +kernel
theorem dX7_label_22 : decode cX7_label 22 = .ok (.aload_n 0, 1) := by decide +kernel
theorem dX7_label_23 : decode cX7_label 23 = .ok (.getfield 19, 3) := by decide +kernel
theorem dX7_label_26 : decode cX7_label 26 = .ok (.getfield 113, 3) := by decide +kernel
theorem dX7_label_29 : decode cX7_label 29 = .ok (.iload_n 1, 1) := by decide +kernel
theorem dX7_label_30 : decode cX7_label 30 = .ok (.iaload, 1) := by decide +kernel
theorem dX7_label_31 : decode cX7_label 31 = .ok (.istore_n 3, 1) := by decide +kernel
theorem dX7_label_32 : decode cX7_label 32 = .ok (.aload_n 0, 1) := by decide +kernel
theorem dX7_label_33 : decode cX7_label 33 = .ok (.getfield 26, 3) := by decide +kernel
theorem dX7_label_36 : decode cX7_label 36 = .ok (.iconst 2, 1) := by decide +kernel
theorem dX7_label_37 : decode cX7_label 37 = .ok (.iload_n 1, 1) := by decide +kernel
theorem dX7_label_38 : decode cX7_label 38 = .ok (.iload_n 3, 1) := by decide +kernel
theorem dX7_label_39 : decode cX7_label 39 = .ok (.aload_n 0, 1) := by decide +kernel
theorem dX7_label_40 : decode cX7_label 40 = .ok (.getfield 19, 3) := by decide +kernel
theorem dX7_label_43 : decode cX7_label 43 = .ok (.getfield 115, 3) := by decide +kernel
theorem dX7_label_46 : decode cX7_label 46 = .ok (.iload_n 1, 1) := by decide +kernel
theorem dX7_label_47 : decode cX7_label 47 = .ok (.iaload, 1) := by decide +kernel
theorem dX7_label_48 : decode cX7_label 48 = .ok (.invokevirtual 105, 3) := by decide +kernel
theorem dX7_label_51 : decode cX7_label 51 = .ok (.pop, 1) := by decide +kernel
theorem dX7_label_52 : decode cX7_label 52 = .ok (.aload_n 0, 1) := by decide +kernel
theorem dX7_label_53 : decode cX7_label 53 = .ok (.getfield 19, 3) := by decide +kernel
theorem dX7_label_56 : decode cX7_label 56 = .ok (.getfield 113, 3) := by decide +kernel
theorem dX7_label_59 : decode cX7_label 59 = .ok (.iload_n 1, 1) := by decide +kernel
theorem dX7_label_60 : decode cX7_label 60 = .ok (.iload_n 2, 1) := by decide +kernel
theorem dX7_label_61 : decode cX7_label 61 = .ok (.iastore, 1) := by decide +kernel
theorem dX7_label_62 : decode cX7_label 62 = .ok (.iload_n 3, 1) := by decide +kernel
theorem dX7_label_63 : decode cX7_label 63 = .ok (.ireturn, 1) := by decide +kernel
set_option maxRecDepth 20000 in
theorem ggX7_told_X6_has : GoodIn wsX7_told wsX6_has := goodIn_r _ [8, 9, 24, 25, 26, 27] (by decide +kernel) (by decide +kernel)
set_option maxRecDepth 20000 in
theorem gX7_told_X6_has : GoodIn wsX7_told (wsV RX7 109 RX6 yX6_has wsX6_has) := goodIn_app (goodIn_of _ (by decide +kernel)) ggX7_told_X6_has
set_option maxRecDepth 20000 in
theorem ggX7_told_X7_isWithin : GoodIn wsX7_told wsX7_isWithin := goodIn_r _ [13] (by decide +kernel) (by decide +kernel)
set_option maxRecDepth 20000 in
theorem gX7_told_X7_isWithin : GoodIn wsX7_told (va_wsS RX7 80 yX7_isWithin wsX7_isWithin) := goodIn_app (goodIn_of _ (by decide +kernel)) ggX7_told_X7_isWithin
theorem dX7_told_0 : decode cX7_told 0 = .ok (.aload_n 0, 1) := by decide +kernel
theorem dX7_told_1 : decode cX7_told 1 = .ok (.getfield 19, 3) := by decide +kernel
theorem dX7_told_4 : decode cX7_told 4 = .ok (.iload_n 1, 1) := by decide +kernel
theorem dX7_told_5 : decode cX7_told 5 = .ok (.invokevirtual 109, 3) := by decide +kernel
theorem dX7_told_8 : decode cX7_told 8 = .ok (.ifCond .eq 11, 3) := by decide +kernel
theorem dX7_told_11 : decode cX7_told 11 = .ok (.iload_n 2, 1) := by decide +kernel
theorem dX7_told_12 : decode cX7_told 12 = .ok (.iconst 1, 1) := by decide +kernel
theorem dX7_told_13 : decode cX7_told 13 = .ok (.invokestatic 80, 3) := by decide +kernel
theorem dX7_told_16 : decode cX7_told 16 = .ok (.ifCond .ne 5, 3) := by decide +kernel
theorem dX7_told_19 : decode cX7_told 19 = .ok (.iconst (-1), 1) := by decide +kernel
theorem dX7_told_20 : decode cX7_told 20 = .ok (.ireturn, 1) := by decide +kernel
theorem dX7_told_21 : decode cX7_told 21 = .ok (.iload_n 2, 1) := by decide +kernel
theorem dX7_told_22 : decode cX7_told 22 = .ok (.ifCond .ne 15, 3) := by decide +kernel
theorem dX7_told_25 : decode cX7_told 25 = .ok (.aload_n 0, 1) := by decide +kernel
theorem dX7_told_26 : decode cX7_told 26 = .ok (.getfield 19, 3) := by decide +kernel
theorem dX7_told_29 : decode cX7_told 29 = .ok (.getfield 113, 3) := by decide +kernel
theorem dX7_told_32 : decode cX7_told 32 = .ok (.iload_n 1, 1) := by decide +kernel
theorem dX7_told_33 : decode cX7_told 33 = .ok (.iaload, 1) := by decide +kernel
theorem dX7_told_34 : decode cX7_told 34 = .ok (.goto 12, 3) := by decide +kernel
theorem dX7_told_37 : decode cX7_told 37 = .ok (.aload_n 0, 1) := by decide +kernel
theorem dX7_told_38 : decode cX7_told 38 = .ok (.getfield 19, 3) := by decide +kernel
theorem dX7_told_41 : decode cX7_told 41 = .ok (.getfield 115, 3) := by decide +kernel
theorem dX7_told_44 : decode cX7_told 44 = .ok (.iload_n 1, 1) := by decide +kernel
theorem dX7_told_45 : decode cX7_told 45 = .ok (.iaload, 1) := by decide +kernel
theorem dX7_told_46 : decode cX7_told 46 = .ok (.ireturn, 1) := by decide +kernel
set_option maxRecDepth 20000 in
theorem ggX7_taught_X6_has : GoodIn wsX7_taught wsX6_has := goodIn_r _ [8, 9, 24, 25, 26, 27] (by decide +kernel) (by decide +kernel)
set_option maxRecDepth 20000 in
theorem gX7_taught_X6_has : GoodIn wsX7_taught (wsV RX7 109 RX6 yX6_has wsX6_has) := goodIn_app (goodIn_of _ (by decide +kernel)) ggX7_taught_X6_has
set_option maxRecDepth 20000 in
theorem ggX7_taught_X7_isWithin : GoodIn wsX7_taught wsX7_isWithin := goodIn_r _ [13] (by decide +kernel) (by decide +kernel)
set_option maxRecDepth 20000 in
theorem gX7_taught_X7_isWithin : GoodIn wsX7_taught (va_wsS RX7 80 yX7_isWithin wsX7_isWithin) := goodIn_app (goodIn_of _ (by decide +kernel)) ggX7_taught_X7_isWithin
theorem dX7_taught_0 : decode cX7_taught 0 = .ok (.aload_n 0, 1) := by decide +kernel
theorem dX7_taught_1 : decode cX7_taught 1 = .ok (.getfield 19, 3) := by decide +kernel
theorem dX7_taught_4 : decode cX7_taught 4 = .ok (.iload_n 1, 1) := by decide +kernel
theorem dX7_taught_5 : decode cX7_taught 5 = .ok (.invokevirtual 109, 3) := by decide +kernel
theorem dX7_taught_8 : decode cX7_taught 8 = .ok (.ifCond .eq 20, 3) := by decide +kernel
theorem dX7_taught_11 : decode cX7_taught 11 = .ok (.iload_n 2, 1) := by decide +kernel
theorem dX7_taught_12 : decode cX7_taught 12 = .ok (.bipush 7, 2) := by decide +kernel
theorem dX7_taught_14 : decode cX7_taught 14 = .ok (.invokestatic 80, 3) := by decide +kernel
theorem dX7_taught_17 : decode cX7_taught 17 = .ok (.ifCond .eq 11, 3) := by decide +kernel
theorem dX7_taught_20 : decode cX7_taught 20 = .ok (.iload_n 3, 1) := by decide +kernel
theorem dX7_taught_21 : decode cX7_taught 21 = .ok (.iconst 1, 1) := by decide +kernel
theorem dX7_taught_22 : decode cX7_taught 22 = .ok (.invokestatic 80, 3) := by decide +kernel
theorem dX7_taught_25 : decode cX7_taught 25 = .ok (.ifCond .ne 6, 3) := by decide +kernel
theorem dX7_taught_28 : decode cX7_taught 28 = .ok (.ldc 88, 2) := by decide +kernel
theorem dX7_taught_30 : decode cX7_taught 30 = .ok (.ireturn, 1) := by decide +kernel
theorem dX7_taught_31 : decode cX7_taught 31 = .ok (.aload_n 0, 1) := by decide +kernel
theorem dX7_taught_32 : decode cX7_taught 32 = .ok (.getfield 19, 3) := by decide +kernel
theorem dX7_taught_35 : decode cX7_taught 35 = .ok (.getfield 118, 3) := by decide +kernel
theorem dX7_taught_38 : decode cX7_taught 38 = .ok (.iload_n 1, 1) := by decide +kernel
theorem dX7_taught_39 : decode cX7_taught 39 = .ok (.bipush 16, 2) := by decide +kernel
theorem dX7_taught_41 : decode cX7_taught 41 = .ok (.imul, 1) := by decide +kernel
theorem dX7_taught_42 : decode cX7_taught 42 = .ok (.iconst 2, 1) := by decide +kernel
theorem dX7_taught_43 : decode cX7_taught 43 = .ok (.iload_n 2, 1) := by decide +kernel
theorem dX7_taught_44 : decode cX7_taught 44 = .ok (.imul, 1) := by decide +kernel
theorem dX7_taught_45 : decode cX7_taught 45 = .ok (.iadd, 1) := by decide +kernel
theorem dX7_taught_46 : decode cX7_taught 46 = .ok (.iload_n 3, 1) := by decide +kernel
theorem dX7_taught_47 : decode cX7_taught 47 = .ok (.iadd, 1) := by decide +kernel
theorem dX7_taught_48 : decode cX7_taught 48 = .ok (.iaload, 1) := by decide +kernel
theorem dX7_taught_49 : decode cX7_taught 49 = .ok (.ireturn, 1) := by decide +kernel
set_option maxRecDepth 20000 in
theorem ggX7_ends_X7_isWithin : GoodIn wsX7_ends wsX7_isWithin := goodIn_r _ [7] (by decide +kernel) (by decide +kernel)
set_option maxRecDepth 20000 in
theorem gX7_ends_X7_isWithin : GoodIn wsX7_ends (va_wsS RX7 80 yX7_isWithin wsX7_isWithin) := goodIn_app (goodIn_of _ (by decide +kernel)) ggX7_ends_X7_isWithin
theorem dX7_ends_0 : decode cX7_ends 0 = .ok (.iload_n 1, 1) := by decide +kernel
theorem dX7_ends_1 : decode cX7_ends 1 = .ok (.ldc 144, 2) := by decide +kernel
theorem dX7_ends_3 : decode cX7_ends 3 = .ok (.invokestatic 80, 3) := by decide +kernel
theorem dX7_ends_6 : decode cX7_ends 6 = .ok (.ifCond .eq 12, 3) := by decide +kernel
theorem dX7_ends_9 : decode cX7_ends 9 = .ok (.iload_n 2, 1) := by decide +kernel
theorem dX7_ends_10 : decode cX7_ends 10 = .ok (.ldc 144, 2) := by decide +kernel
theorem dX7_ends_12 : decode cX7_ends 12 = .ok (.invokestatic 80, 3) := by decide +kernel
theorem dX7_ends_15 : decode cX7_ends 15 = .ok (.ifCond .ne 5, 3) := by decide +kernel
theorem dX7_ends_18 : decode cX7_ends 18 = .ok (.iconst (-1), 1) := by decide +kernel
theorem dX7_ends_19 : decode cX7_ends 19 = .ok (.ireturn, 1) := by decide +kernel
theorem dX7_ends_20 : decode cX7_ends 20 = .ok (.aload_n 0, 1) := by decide +kernel
theorem dX7_ends_21 : decode cX7_ends 21 = .ok (.iload_n 1, 1) := by decide +kernel
theorem dX7_ends_22 : decode cX7_ends 22 = .ok (.putfield 62, 3) := by decide +kernel
theorem dX7_ends_25 : decode cX7_ends 25 = .ok (.aload_n 0, 1) := by decide +kernel
theorem dX7_ends_26 : decode cX7_ends 26 = .ok (.iload_n 2, 1) := by decide +kernel
theorem dX7_ends_27 : decode cX7_ends 27 = .ok (.putfield 66, 3) := by decide +kernel
theorem dX7_ends_30 : decode cX7_ends 30 = .ok (.iconst 1, 1) := by decide +kernel
theorem dX7_ends_31 : decode cX7_ends 31 = .ok (.ireturn, 1) := by decide +kernel
set_option maxRecDepth 20000 in
theorem ggX7_distance_X6_has : GoodIn wsX7_distance wsX6_has := goodIn_r _ [9, 10, 123, 124, 125, 126] (by decide +kernel) (by decide +kernel)
set_option maxRecDepth 20000 in
theorem gX7_distance_X6_has : GoodIn wsX7_distance (wsV RX7 109 RX6 yX6_has wsX6_has) := goodIn_app (goodIn_of _ (by decide +kernel)) ggX7_distance_X6_has
set_option maxRecDepth 20000 in
theorem ggX7_distance_X2_makeNormal : GoodIn wsX7_distance wsX2_makeNormal := goodIn_r _ [15, 16, 17, 18, 19, 14, 20, 21, 22, 23, 24, 25, 26, 27, 28, 29, 30, 31, 32, 33, 34, 35, 36, 37, 38, 39, 40, 41, 42, 43, 44, 45, 46, 47, 48, 49, 50, 51, 52, 53, 54, 55, 56, 57, 58, 59, 60, 61, 62, 117, 118, 119, 120, 121, 122] (by decide +kernel) (by decide +kernel)
set_option maxRecDepth 20000 in
theorem gX7_distance_X2_makeNormal : GoodIn wsX7_distance (wsV RX7 92 RX2 yX2_makeNormal wsX2_makeNormal) := goodIn_app (goodIn_of _ (by decide +kernel)) ggX7_distance_X2_makeNormal
set_option maxRecDepth 20000 in
theorem ggX7_distance_X4_distanceFrom : GoodIn wsX7_distance wsX4_distanceFrom := goodIn_r _ [67, 68, 69, 70, 71, 72, 73, 74, 75, 54, 34, 55, 76, 77, 78, 66, 79, 80, 81, 82, 83, 84, 85, 86, 87, 88, 89, 90, 33, 35, 91, 92, 93, 94, 95, 96, 97, 98, 99, 100, 101, 102, 103, 104, 105, 106, 127, 128, 129, 123, 124, 125, 126] (by decide +kernel) (by decide +kernel)
set_option maxRecDepth 20000 in
theorem gX7_distance_X4_distanceFrom : GoodIn wsX7_distance (wsV RX7 145 RX4 yX4_distanceFrom wsX4_distanceFrom) := goodIn_app (goodIn_of _ (by decide +kernel)) ggX7_distance_X4_distanceFrom
theorem dX7_distance_0 : decode cX7_distance 0 = .ok (.aload_n 0, 1) := by decide +kernel
theorem dX7_distance_1 : decode cX7_distance 1 = .ok (.getfield 19, 3) := by decide +kernel
theorem dX7_distance_4 : decode cX7_distance 4 = .ok (.iload_n 1, 1) := by decide +kernel
theorem dX7_distance_5 : decode cX7_distance 5 = .ok (.invokevirtual 109, 3) := by decide +kernel
theorem dX7_distance_8 : decode cX7_distance 8 = .ok (.ifCond .ne 5, 3) := by decide +kernel
theorem dX7_distance_11 : decode cX7_distance 11 = .ok (.iconst (-1), 1) := by decide +kernel
theorem dX7_distance_12 : decode cX7_distance 12 = .ok (.ireturn, 1) := by decide +kernel
theorem dX7_distance_13 : decode cX7_distance 13 = .ok (.aload_n 0, 1) := by decide +kernel
theorem dX7_distance_14 : decode cX7_distance 14 = .ok (.getfield 10, 3) := by decide +kernel
theorem dX7_distance_17 : decode cX7_distance 17 = .ok (.invokevirtual 92, 3) := by decide +kernel
theorem dX7_distance_20 : decode cX7_distance 20 = .ok (.ifCond .ne 6, 3) := by decide +kernel
theorem dX7_distance_23 : decode cX7_distance 23 = .ok (.bipush (-2), 2) := by decide +kernel
theorem dX7_distance_25 : decode cX7_distance 25 = .ok (.ireturn, 1) := by decide +kernel
theorem dX7_distance_26 : decode cX7_distance 26 = .ok (.aload_n 0, 1) := by decide +kernel
theorem dX7_distance_27 : decode cX7_distance 27 = .ok (.getfield 33, 3) := by decide +kernel
theorem dX7_distance_30 : decode cX7_distance 30 = .ok (.aload_n 0, 1) := by decide +kernel
theorem dX7_distance_31 : decode cX7_distance 31 = .ok (.getfield 10, 3) := by decide +kernel
theorem dX7_distance_34 : decode cX7_distance 34 = .ok (.getfield 95, 3) := by decide +kernel
theorem dX7_distance_37 : decode cX7_distance 37 = .ok (.iconst 0, 1) := by decide +kernel
theorem dX7_distance_38 : decode cX7_distance 38 = .ok (.aload_n 0, 1) := by decide +kernel
theorem dX7_distance_39 : decode cX7_distance 39 = .ok (.getfield 19, 3) := by decide +kernel
theorem dX7_distance_42 : decode cX7_distance 42 = .ok (.iload_n 1, 1) := by decide +kernel
theorem dX7_distance_43 : decode cX7_distance 43 = .ok (.invokevirtual 145, 3) := by decide +kernel
theorem dX7_distance_46 : decode cX7_distance 46 = .ok (.ireturn, 1) := by decide +kernel
set_option maxRecDepth 20000 in
theorem ggX7_nearest_X7_measureDraft : GoodIn wsX7_nearest wsX7_measureDraft := goodIn_r _ [5, 6, 7, 8, 9, 10, 11, 12, 13, 14, 15, 16, 17, 18, 19, 20, 21, 22, 23, 24, 25, 26, 27, 28, 29, 30, 31, 32, 33, 34, 35, 36, 37, 38, 39, 40, 41, 42, 43, 44, 45, 46, 47, 48, 49, 50, 51, 52, 53, 54, 55, 56, 57, 58, 59, 60, 61, 62, 63, 64, 65, 66, 67, 68, 69, 70, 71, 72, 73, 74, 75, 76, 77, 78, 79, 80, 81, 82, 83, 84, 85, 86, 87, 88, 89, 90, 91, 92, 93, 94, 95, 96, 97, 98, 99, 100, 101, 102, 103, 104, 105, 106, 107, 108, 109, 110, 111, 112, 113, 114, 115, 116, 117, 118, 119, 120, 121, 122, 123, 124, 125, 126, 127, 128, 129, 130] (by decide +kernel) (by decide +kernel)
set_option maxRecDepth 20000 in
theorem gX7_nearest_X7_measureDraft : GoodIn wsX7_nearest (wsV RX7 149 RX7 yX7_measureDraft wsX7_measureDraft) := goodIn_app (goodIn_of _ (by decide +kernel)) ggX7_nearest_X7_measureDraft
theorem dX7_nearest_0 : decode cX7_nearest 0 = .ok (.aload_n 0, 1) := by decide +kernel
theorem dX7_nearest_1 : decode cX7_nearest 1 = .ok (.invokevirtual 149, 3) := by decide +kernel
theorem dX7_nearest_4 : decode cX7_nearest 4 = .ok (.ireturn, 1) := by decide +kernel
set_option maxRecDepth 20000 in
theorem ggX7_read_X7_measureDraft : GoodIn wsX7_read wsX7_measureDraft := goodIn_r _ [5, 6, 7, 8, 9, 10, 11, 12, 13, 14, 15, 16, 17, 18, 19, 20, 21, 22, 23, 24, 25, 26, 27, 28, 29, 30, 31, 32, 33, 34, 35, 36, 37, 38, 39, 40, 41, 42, 43, 44, 45, 46, 47, 48, 49, 50, 51, 52, 53, 54, 55, 56, 57, 58, 59, 60, 61, 62, 63, 64, 65, 66, 67, 68, 69, 70, 71, 72, 73, 74, 75, 76, 77, 78, 79, 80, 81, 82, 83, 84, 85, 86, 87, 88, 89, 90, 91, 92, 93, 94, 95, 96, 97, 98, 99, 100, 101, 102, 103, 104, 105, 106, 107, 121, 122, 123, 124, 125, 126, 127, 128, 129, 130, 131, 132, 133, 134, 135, 136, 137, 138, 139, 140, 141, 142, 143] (by decide +kernel) (by decide +kernel)
set_option maxRecDepth 20000 in
theorem gX7_read_X7_measureDraft : GoodIn wsX7_read (wsV RX7 149 RX7 yX7_measureDraft wsX7_measureDraft) := goodIn_app (goodIn_of _ (by decide +kernel)) ggX7_read_X7_measureDraft
set_option maxRecDepth 20000 in
theorem ggX7_read_X7_labelRead : GoodIn wsX7_read wsX7_labelRead := goodIn_r _ [111, 7, 112, 9, 113, 8, 114, 115, 116, 117, 118, 119, 120, 121, 122, 123, 124, 125, 126, 127, 128, 129, 130, 131, 132, 133, 134] (by decide +kernel) (by decide +kernel)
set_option maxRecDepth 20000 in
theorem gX7_read_X7_labelRead : GoodIn wsX7_read (wsV RX7 152 RX7 yX7_labelRead wsX7_labelRead) := goodIn_app (goodIn_of _ (by decide +kernel)) ggX7_read_X7_labelRead
theorem dX7_read_0 : decode cX7_read 0 = .ok (.aload_n 0, 1) := by decide +kernel
theorem dX7_read_1 : decode cX7_read 1 = .ok (.aload_n 0, 1) := by decide +kernel
theorem dX7_read_2 : decode cX7_read 2 = .ok (.invokevirtual 149, 3) := by decide +kernel
theorem dX7_read_5 : decode cX7_read 5 = .ok (.invokevirtual 152, 3) := by decide +kernel
theorem dX7_read_8 : decode cX7_read 8 = .ok (.ireturn, 1) := by decide +kernel
set_option maxRecDepth 20000 in
theorem ggX7_mark_X7_measureDraft : GoodIn wsX7_mark wsX7_measureDraft := goodIn_r _ [7, 2, 8, 9, 10, 11, 12, 13, 14, 15, 16, 17, 18, 19, 20, 21, 22, 23, 24, 25, 26, 27, 28, 29, 30, 31, 32, 33, 34, 35, 36, 37, 38, 39, 40, 41, 42, 43, 44, 45, 46, 47, 48, 49, 50, 51, 52, 53, 54, 55, 56, 57, 58, 59, 60, 61, 62, 63, 64, 65, 66, 67, 68, 69, 70, 71, 72, 73, 74, 75, 76, 77, 78, 79, 80, 81, 82, 83, 84, 85, 86, 87, 88, 89, 90, 91, 92, 93, 94, 95, 96, 97, 98, 99, 100, 101, 102, 103, 104, 105, 106, 107, 108, 133, 134, 135, 136, 137, 138, 139, 140, 141, 142, 143, 144, 145, 146, 147, 148, 149, 150, 151, 152, 153, 154, 155] (by decide +kernel) (by decide +kernel)
set_option maxRecDepth 20000 in
theorem gX7_mark_X7_measureDraft : GoodIn wsX7_mark (wsV RX7 149 RX7 yX7_measureDraft wsX7_measureDraft) := goodIn_app (goodIn_of _ (by decide +kernel)) ggX7_mark_X7_measureDraft
set_option maxRecDepth 20000 in
theorem ggX7_mark_X7_labelRead : GoodIn wsX7_mark wsX7_labelRead := goodIn_r _ [112, 8, 113, 10, 114, 9, 115, 116, 117, 118, 119, 120, 121, 133, 134, 135, 136, 137, 138, 139, 140, 141, 142, 143, 144, 145, 146] (by decide +kernel) (by decide +kernel)
set_option maxRecDepth 20000 in
theorem gX7_mark_X7_labelRead : GoodIn wsX7_mark (wsV RX7 152 RX7 yX7_labelRead wsX7_labelRead) := goodIn_app (goodIn_of _ (by decide +kernel)) ggX7_mark_X7_labelRead
set_option maxRecDepth 20000 in
theorem ggX7_mark_X3_add : GoodIn wsX7_mark wsX3_add := goodIn_r _ [126, 127, 128, 156, 157, 158, 159, 160] (by decide +kernel) (by decide +kernel)
set_option maxRecDepth 20000 in
theorem gX7_mark_X3_add : GoodIn wsX7_mark (wsV RX7 156 RX3 yX3_add wsX3_add) := goodIn_app (goodIn_of _ (by decide +kernel)) ggX7_mark_X3_add
set_option maxRecDepth 20000 in
theorem ggX7_mark_X2_empty : GoodIn wsX7_mark wsX2_empty := goodIn_r _ [132, 27, 147, 148, 149, 150, 151, 152] (by decide +kernel) (by decide +kernel)
set_option maxRecDepth 20000 in
theorem gX7_mark_X2_empty : GoodIn wsX7_mark (wsV RX7 73 RX2 yX2_empty wsX2_empty) := goodIn_app (goodIn_of _ (by decide +kernel)) ggX7_mark_X2_empty
theorem dX7_mark_0 : decode cX7_mark 0 = .ok (.aload_n 0, 1) := by decide +kernel
theorem dX7_mark_1 : decode cX7_mark 1 = .ok (.aload_n 0, 1) := by decide +kernel
theorem dX7_mark_2 : decode cX7_mark 2 = .ok (.invokevirtual 149, 3) := by decide +kernel
theorem dX7_mark_5 : decode cX7_mark 5 = .ok (.invokevirtual 152, 3) := by decide +kernel
theorem dX7_mark_8 : decode cX7_mark 8 = .ok (.istore_n 1, 1) := by decide +kernel
theorem dX7_mark_9 : decode cX7_mark 9 = .ok (.iload_n 1, 1) := by decide +kernel
theorem dX7_mark_10 : decode cX7_mark 10 = .ok (.ifCond .ge 5, 3) := by decide +kernel
theorem dX7_mark_13 : decode cX7_mark 13 = .ok (.iload_n 1, 1) := by decide +kernel
theorem dX7_mark_14 : decode cX7_mark 14 = .ok (.ireturn, 1) := by decide +kernel
theorem dX7_mark_15 : decode cX7_mark 15 = .ok (.aload_n 0, 1) := by decide +kernel
theorem dX7_mark_16 : decode cX7_mark 16 = .ok (.getfield 47, 3) := by decide +kernel
theorem dX7_mark_19 : decode cX7_mark 19 = .ok (.iload_n 1, 1) := by decide +kernel
theorem dX7_mark_20 : decode cX7_mark 20 = .ok (.invokevirtual 156, 3) := by decide +kernel
theorem dX7_mark_23 : decode cX7_mark 23 = .ok (.ifCond .ne 6, 3) := by decide +kernel
theorem dX7_mark_26 : decode cX7_mark 26 = .ok (.bipush (-3), 2) := by decide +kernel
theorem dX7_mark_28 : decode cX7_mark 28 = .ok (.ireturn, 1) := by decide +kernel
theorem dX7_mark_29 : decode cX7_mark 29 = .ok (.aload_n 0, 1) := by decide +kernel
theorem dX7_mark_30 : decode cX7_mark 30 = .ok (.getfield 10, 3) := by decide +kernel
theorem dX7_mark_33 : decode cX7_mark 33 = .ok (.invokevirtual 73, 3) := by decide +kernel
theorem dX7_mark_36 : decode cX7_mark 36 = .ok (.pop, 1) := by decide +kernel
theorem dX7_mark_37 : decode cX7_mark 37 = .ok (.iload_n 1, 1) := by decide +kernel
theorem dX7_mark_38 : decode cX7_mark 38 = .ok (.ireturn, 1) := by decide +kernel
set_option maxRecDepth 20000 in
theorem ggX7_confused_X7_isWithin : GoodIn wsX7_confused wsX7_isWithin := goodIn_r _ [8] (by decide +kernel) (by decide +kernel)
set_option maxRecDepth 20000 in
theorem gX7_confused_X7_isWithin : GoodIn wsX7_confused (va_wsS RX7 80 yX7_isWithin wsX7_isWithin) := goodIn_app (goodIn_of _ (by decide +kernel)) ggX7_confused_X7_isWithin
set_option maxRecDepth 20000 in
theorem ggX7_confused_X7_isConfused : GoodIn wsX7_confused wsX7_isConfused := goodIn_r _ [12, 2, 3, 4, 13, 14, 15, 16, 17, 18, 19, 20, 21, 22, 23, 24, 25, 26, 27, 28, 29, 30, 31, 32, 33, 34, 35, 36, 37, 38, 39, 40, 41, 42, 43, 44, 45, 46, 47, 48, 49, 50, 51, 52, 53, 54, 55, 56, 57, 58, 59, 60, 61, 62, 63, 64, 65, 66, 67, 68, 69, 70, 71, 72, 73, 74, 75, 76, 77, 78, 79, 80] (by decide +kernel) (by decide +kernel)
set_option maxRecDepth 20000 in
theorem gX7_confused_X7_isConfused : GoodIn wsX7_confused (wsV RX7 158 RX7 yX7_isConfused wsX7_isConfused) := goodIn_app (goodIn_of _ (by decide +kernel)) ggX7_confused_X7_isConfused
theorem dX7_confused_0 : decode cX7_confused 0 = .ok (.iload_n 1, 1) := by decide +kernel
theorem dX7_confused_1 : decode cX7_confused 1 = .ok (.bipush 9, 2) := by decide +kernel
theorem dX7_confused_3 : decode cX7_confused 3 = .ok (.invokestatic 80, 3) := by decide +kernel
theorem dX7_confused_6 : decode cX7_confused 6 = .ok (.ifCond .eq 12, 3) := by decide +kernel
theorem dX7_confused_9 : decode cX7_confused 9 = .ok (.iload_n 2, 1) := by decide +kernel
theorem dX7_confused_10 : decode cX7_confused 10 = .ok (.ldc 144, 2) := by decide +kernel
theorem dX7_confused_12 : decode cX7_confused 12 = .ok (.invokestatic 80, 3) := by decide +kernel
theorem dX7_confused_15 : decode cX7_confused 15 = .ok (.ifCond .ne 5, 3) := by decide +kernel
theorem dX7_confused_18 : decode cX7_confused 18 = .ok (.iconst (-1), 1) := by decide +kernel
theorem dX7_confused_19 : decode cX7_confused 19 = .ok (.ireturn, 1) := by decide +kernel
theorem dX7_confused_20 : decode cX7_confused 20 = .ok (.iconst 0, 1) := by decide +kernel
theorem dX7_confused_21 : decode cX7_confused 21 = .ok (.istore_n 3, 1) := by decide +kernel
theorem dX7_confused_22 : decode cX7_confused 22 = .ok (.iconst 0, 1) := by decide +kernel
theorem dX7_confused_23 : decode cX7_confused 23 = .ok (.istore 4, 2) := by decide +kernel
theorem dX7_confused_25 : decode cX7_confused 25 = .ok (.iload 4, 2) := by decide +kernel
theorem dX7_confused_27 : decode cX7_confused 27 = .ok (.aload_n 0, 1) := by decide +kernel
theorem dX7_confused_28 : decode cX7_confused 28 = .ok (.getfield 19, 3) := by decide +kernel
theorem dX7_confused_31 : decode cX7_confused 31 = .ok (.getfield 98, 3) := by decide +kernel
theorem dX7_confused_34 : decode cX7_confused 34 = .ok (.if_icmp .ge 36, 3) := by decide +kernel
theorem dX7_confused_37 : decode cX7_confused 37 = .ok (.aload_n 0, 1) := by decide +kernel
theorem dX7_confused_38 : decode cX7_confused 38 = .ok (.getfield 19, 3) := by decide +kernel
theorem dX7_confused_41 : decode cX7_confused 41 = .ok (.getfield 113, 3) := by decide +kernel
theorem dX7_confused_44 : decode cX7_confused 44 = .ok (.iload 4, 2) := by decide +kernel
theorem dX7_confused_46 : decode cX7_confused 46 = .ok (.iaload, 1) := by decide +kernel
theorem dX7_confused_47 : decode cX7_confused 47 = .ok (.iload_n 1, 1) := by decide +kernel
theorem dX7_confused_48 : decode cX7_confused 48 = .ok (.if_icmp .ne 16, 3) := by decide +kernel
theorem dX7_confused_51 : decode cX7_confused 51 = .ok (.aload_n 0, 1) := by decide +kernel
theorem dX7_confused_52 : decode cX7_confused 52 = .ok (.iload 4, 2) := by decide +kernel
theorem dX7_confused_54 : decode cX7_confused 54 = .ok (.iload_n 2, 1) := by decide +kernel
theorem dX7_confused_55 : decode cX7_confused 55 = .ok (.invokevirtual 158, 3) := by decide +kernel
theorem dX7_confused_58 : decode cX7_confused 58 = .ok (.ifCond .eq 6, 3) := by decide +kernel
theorem dX7_confused_61 : decode cX7_confused 61 = .ok (.iinc 3 1, 3) := by decide +kernel
theorem dX7_confused_64 : decode cX7_confused 64 = .ok (.iinc 4 1, 3) := by decide +kernel
theorem dX7_confused_67 : decode cX7_confused 67 = .ok (.goto (-42), 3) := by decide +kernel
theorem dX7_confused_70 : decode cX7_confused 70 = .ok (.iload_n 3, 1) := by decide +kernel
theorem dX7_confused_71 : decode cX7_confused 71 = .ok (.ireturn, 1) := by decide +kernel
set_option maxRecDepth 20000 in
theorem ggX7_between_X6_has : GoodIn wsX7_between wsX6_has := goodIn_r _ [8, 9, 69, 70, 71, 72] (by decide +kernel) (by decide +kernel)
set_option maxRecDepth 20000 in
theorem gX7_between_X6_has : GoodIn wsX7_between (wsV RX7 109 RX6 yX6_has wsX6_has) := goodIn_app (goodIn_of _ (by decide +kernel)) ggX7_between_X6_has
set_option maxRecDepth 20000 in
theorem ggX7_between_X4_distanceFrom : GoodIn wsX7_between wsX4_distanceFrom := goodIn_r _ [14, 15, 16, 17, 18, 19, 20, 21, 22, 23, 24, 25, 26, 27, 28, 13, 29, 30, 31, 32, 33, 34, 35, 36, 37, 38, 39, 40, 41, 42, 43, 44, 45, 46, 47, 48, 49, 50, 51, 52, 53, 54, 55, 56, 57, 58, 73, 74, 75, 69, 70, 71, 72] (by decide +kernel) (by decide +kernel)
set_option maxRecDepth 20000 in
theorem gX7_between_X4_distanceFrom : GoodIn wsX7_between (wsV RX7 145 RX4 yX4_distanceFrom wsX4_distanceFrom) := goodIn_app (goodIn_of _ (by decide +kernel)) ggX7_between_X4_distanceFrom
theorem dX7_between_0 : decode cX7_between 0 = .ok (.aload_n 0, 1) := by decide +kernel
theorem dX7_between_1 : decode cX7_between 1 = .ok (.getfield 19, 3) := by decide +kernel
theorem dX7_between_4 : decode cX7_between 4 = .ok (.iload_n 1, 1) := by decide +kernel
theorem dX7_between_5 : decode cX7_between 5 = .ok (.invokevirtual 109, 3) := by decide +kernel
theorem dX7_between_8 : decode cX7_between 8 = .ok (.ifCond .eq 14, 3) := by decide +kernel
theorem dX7_between_11 : decode cX7_between 11 = .ok (.aload_n 0, 1) := by decide +kernel
theorem dX7_between_12 : decode cX7_between 12 = .ok (.getfield 19, 3) := by decide +kernel
theorem dX7_between_15 : decode cX7_between 15 = .ok (.iload_n 2, 1) := by decide +kernel
theorem dX7_between_16 : decode cX7_between 16 = .ok (.invokevirtual 109, 3) := by decide +kernel
theorem dX7_between_19 : decode cX7_between 19 = .ok (.ifCond .ne 5, 3) := by decide +kernel
theorem dX7_between_22 : decode cX7_between 22 = .ok (.iconst (-1), 1) := by decide +kernel
theorem dX7_between_23 : decode cX7_between 23 = .ok (.ireturn, 1) := by decide +kernel
theorem dX7_between_24 : decode cX7_between 24 = .ok (.aload_n 0, 1) := by decide +kernel
theorem dX7_between_25 : decode cX7_between 25 = .ok (.getfield 33, 3) := by decide +kernel
theorem dX7_between_28 : decode cX7_between 28 = .ok (.aload_n 0, 1) := by decide +kernel
theorem dX7_between_29 : decode cX7_between 29 = .ok (.getfield 19, 3) := by decide +kernel
theorem dX7_between_32 : decode cX7_between 32 = .ok (.getfield 118, 3) := by decide +kernel
theorem dX7_between_35 : decode cX7_between 35 = .ok (.iload_n 1, 1) := by decide +kernel
theorem dX7_between_36 : decode cX7_between 36 = .ok (.bipush 16, 2) := by decide +kernel
theorem dX7_between_38 : decode cX7_between 38 = .ok (.imul, 1) := by decide +kernel
theorem dX7_between_39 : decode cX7_between 39 = .ok (.aload_n 0, 1) := by decide +kernel
theorem dX7_between_40 : decode cX7_between 40 = .ok (.getfield 19, 3) := by decide +kernel
theorem dX7_between_43 : decode cX7_between 43 = .ok (.iload_n 2, 1) := by decide +kernel
theorem dX7_between_44 : decode cX7_between 44 = .ok (.invokevirtual 145, 3) := by decide +kernel
theorem dX7_between_47 : decode cX7_between 47 = .ok (.ireturn, 1) := by decide +kernel
set_option maxRecDepth 20000 in
theorem ggX7_command_X7_isWithin : GoodIn wsX7_command wsX7_isWithin := goodIn_r _ [6] (by decide +kernel) (by decide +kernel)
set_option maxRecDepth 20000 in
theorem gX7_command_X7_isWithin : GoodIn wsX7_command (va_wsS RX7 80 yX7_isWithin wsX7_isWithin) := goodIn_app (goodIn_of _ (by decide +kernel)) ggX7_command_X7_isWithin
set_option maxRecDepth 20000 in
theorem ggX7_command_X1_open : GoodIn wsX7_command wsX1_open := goodIn_r _ [11, 12, 13, 14, 15, 31, 32, 33, 34, 35] (by decide +kernel) (by decide +kernel)
set_option maxRecDepth 20000 in
theorem gX7_command_X1_open : GoodIn wsX7_command (wsV RX7 162 RX1 yX1_open wsX1_open) := goodIn_app (goodIn_of _ (by decide +kernel)) ggX7_command_X1_open
set_option maxRecDepth 20000 in
theorem ggX7_command_X1_put : GoodIn wsX7_command wsX1_put := goodIn_r _ [19, 20, 31, 32, 33, 34, 35] (by decide +kernel) (by decide +kernel)
set_option maxRecDepth 20000 in
theorem gX7_command_X1_put : GoodIn wsX7_command (wsV RX7 166 RX1 yX1_put wsX1_put) := goodIn_app (goodIn_of _ (by decide +kernel)) ggX7_command_X1_put
theorem dX7_command_0 : decode cX7_command 0 = .ok (.iload_n 1, 1) := by decide +kernel
theorem dX7_command_1 : decode cX7_command 1 = .ok (.iconst 3, 1) := by decide +kernel
theorem dX7_command_2 : decode cX7_command 2 = .ok (.invokestatic 80, 3) := by decide +kernel
theorem dX7_command_5 : decode cX7_command 5 = .ok (.ifCond .eq 12, 3) := by decide +kernel
theorem dX7_command_8 : decode cX7_command 8 = .ok (.iload_n 2, 1) := by decide +kernel
theorem dX7_command_9 : decode cX7_command 9 = .ok (.bipush 9, 2) := by decide +kernel
theorem dX7_command_11 : decode cX7_command 11 = .ok (.invokestatic 80, 3) := by decide +kernel
theorem dX7_command_14 : decode cX7_command 14 = .ok (.ifCond .ne 5, 3) := by decide +kernel
theorem dX7_command_17 : decode cX7_command 17 = .ok (.iconst (-1), 1) := by decide +kernel
theorem dX7_command_18 : decode cX7_command 18 = .ok (.ireturn, 1) := by decide +kernel
theorem dX7_command_19 : decode cX7_command 19 = .ok (.iload_n 3, 1) := by decide +kernel
theorem dX7_command_20 : decode cX7_command 20 = .ok (.iconst 1, 1) := by decide +kernel
theorem dX7_command_21 : decode cX7_command 21 = .ok (.if_icmp .lt 75, 3) := by decide +kernel
theorem dX7_command_24 : decode cX7_command 24 = .ok (.iload_n 3, 1) := by decide +kernel
theorem dX7_command_25 : decode cX7_command 25 = .ok (.iconst 4, 1) := by decide +kernel
theorem dX7_command_26 : decode cX7_command 26 = .ok (.if_icmp .gt 70, 3) := by decide +kernel
theorem dX7_command_29 : decode cX7_command 29 = .ok (.iload 4, 2) := by decide +kernel
theorem dX7_command_31 : decode cX7_command 31 = .ok (.bipush 9, 2) := by decide +kernel
theorem dX7_command_33 : decode cX7_command 33 = .ok (.invokestatic 80, 3) := by decide +kernel
theorem dX7_command_36 : decode cX7_command 36 = .ok (.ifCond .eq 60, 3) := by decide +kernel
theorem dX7_command_39 : decode cX7_command 39 = .ok (.iload 5, 2) := by decide +kernel
theorem dX7_command_41 : decode cX7_command 41 = .ok (.iload_n 3, 1) := by decide +kernel
theorem dX7_command_42 : decode cX7_command 42 = .ok (.iconst 1, 1) := by decide +kernel
theorem dX7_command_43 : decode cX7_command 43 = .ok (.if_icmp .le 8, 3) := by decide +kernel
theorem dX7_command_46 : decode cX7_command 46 = .ok (.bipush 9, 2) := by decide +kernel
theorem dX7_command_48 : decode cX7_command 48 = .ok (.goto 4, 3) := by decide +kernel
theorem dX7_command_51 : decode cX7_command 51 = .ok (.iconst 0, 1) := by decide +kernel
theorem dX7_command_52 : decode cX7_command 52 = .ok (.invokestatic 80, 3) := by decide +kernel
theorem dX7_command_55 : decode cX7_command 55 = .ok (.ifCond .eq 41, 3) := by decide +kernel
theorem dX7_command_58 : decode cX7_command 58 = .ok (.iload 6, 2) := by decide +kernel
theorem dX7_command_60 : decode cX7_command 60 = .ok (.iload_n 3, 1) := by decide +kernel
theorem dX7_command_61 : decode cX7_command 61 = .ok (.iconst 2, 1) := by decide +kernel
theorem dX7_command_62 : decode cX7_command 62 = .ok (.if_icmp .le 8, 3) := by decide +kernel
theorem dX7_command_65 : decode cX7_command 65 = .ok (.bipush 9, 2) := by decide +kernel
theorem dX7_command_67 : decode cX7_command 67 = .ok (.goto 4, 3) := by decide +kernel
theorem dX7_command_70 : decode cX7_command 70 = .ok (.iconst 0, 1) := by decide +kernel
theorem dX7_command_71 : decode cX7_command 71 = .ok (.invokestatic 80, 3) := by decide +kernel
theorem dX7_command_74 : decode cX7_command 74 = .ok (.ifCond .eq 22, 3) := by decide +kernel
theorem dX7_command_77 : decode cX7_command 77 = .ok (.iload 7, 2) := by decide +kernel
theorem dX7_command_79 : decode cX7_command 79 = .ok (.iload_n 3, 1) := by decide +kernel
theorem dX7_command_80 : decode cX7_command 80 = .ok (.iconst 3, 1) := by decide +kernel
theorem dX7_command_81 : decode cX7_command 81 = .ok (.if_icmp .le 8, 3) := by decide +kernel
theorem dX7_command_84 : decode cX7_command 84 = .ok (.bipush 9, 2) := by decide +kernel
theorem dX7_command_86 : decode cX7_command 86 = .ok (.goto 4, 3) := by decide +kernel
theorem dX7_command_89 : decode cX7_command 89 = .ok (.iconst 0, 1) := by decide +kernel
theorem dX7_command_90 : decode cX7_command 90 = .ok (.invokestatic 80, 3) := by decide +kernel
theorem dX7_command_93 : decode cX7_command 93 = .ok (.ifCond .ne 5, 3) := by decide +kernel
theorem dX7_command_96 : decode cX7_command 96 = .ok (.iconst (-1), 1) := by decide +kernel
theorem dX7_command_97 : decode cX7_command 97 = .ok (.ireturn, 1) := by decide +kernel
theorem dX7_command_98 : decode cX7_command 98 = .ok (.aload_n 0, 1) := by decide +kernel
theorem dX7_command_99 : decode cX7_command 99 = .ok (.getfield 40, 3) := by decide +kernel
theorem dX7_command_102 : decode cX7_command 102 = .ok (.getfield 161, 3) := by decide +kernel
theorem dX7_command_105 : decode cX7_command 105 = .ok (.bipush 10, 2) := by decide +kernel
theorem dX7_command_107 : decode cX7_command 107 = .ok (.if_icmp .lt 6, 3) := by decide +kernel
theorem dX7_command_110 : decode cX7_command 110 = .ok (.bipush (-3), 2) := by decide +kernel
theorem dX7_command_112 : decode cX7_command 112 = .ok (.ireturn, 1) := by decide +kernel
theorem dX7_command_113 : decode cX7_command 113 = .ok (.aload_n 0, 1) := by decide +kernel
theorem dX7_command_114 : decode cX7_command 114 = .ok (.getfield 40, 3) := by decide +kernel
theorem dX7_command_117 : decode cX7_command 117 = .ok (.iload_n 1, 1) := by decide +kernel
theorem dX7_command_118 : decode cX7_command 118 = .ok (.iload_n 2, 1) := by decide +kernel
theorem dX7_command_119 : decode cX7_command 119 = .ok (.iload_n 3, 1) := by decide +kernel
theorem dX7_command_120 : decode cX7_command 120 = .ok (.invokevirtual 162, 3) := by decide +kernel
theorem dX7_command_123 : decode cX7_command 123 = .ok (.istore 8, 2) := by decide +kernel
theorem dX7_command_125 : decode cX7_command 125 = .ok (.aload_n 0, 1) := by decide +kernel
theorem dX7_command_126 : decode cX7_command 126 = .ok (.getfield 40, 3) := by decide +kernel
theorem dX7_command_129 : decode cX7_command 129 = .ok (.iload 8, 2) := by decide +kernel
theorem dX7_command_131 : decode cX7_command 131 = .ok (.iconst 0, 1) := by decide +kernel
theorem dX7_command_132 : decode cX7_command 132 = .ok (.iload 4, 2) := by decide +kernel
theorem dX7_command_134 : decode cX7_command 134 = .ok (.invokevirtual 166, 3) := by decide +kernel
theorem dX7_command_137 : decode cX7_command 137 = .ok (.aload_n 0, 1) := by decide +kernel
theorem dX7_command_138 : decode cX7_command 138 = .ok (.getfield 40, 3) := by decide +kernel
theorem dX7_command_141 : decode cX7_command 141 = .ok (.iload 8, 2) := by decide +kernel
theorem dX7_command_143 : decode cX7_command 143 = .ok (.iconst 1, 1) := by decide +kernel
theorem dX7_command_144 : decode cX7_command 144 = .ok (.iload 5, 2) := by decide +kernel
theorem dX7_command_146 : decode cX7_command 146 = .ok (.invokevirtual 166, 3) := by decide +kernel
theorem dX7_command_149 : decode cX7_command 149 = .ok (.aload_n 0, 1) := by decide +kernel
theorem dX7_command_150 : decode cX7_command 150 = .ok (.getfield 40, 3) := by decide +kernel
theorem dX7_command_153 : decode cX7_command 153 = .ok (.iload 8, 2) := by decide +kernel
theorem dX7_command_155 : decode cX7_command 155 = .ok (.iconst 2, 1) := by decide +kernel
theorem dX7_command_156 : decode cX7_command 156 = .ok (.iload 6, 2) := by decide +kernel
theorem dX7_command_158 : decode cX7_command 158 = .ok (.invokevirtual 166, 3) := by decide +kernel
theorem dX7_command_161 : decode cX7_command 161 = .ok (.aload_n 0, 1) := by decide +kernel
theorem dX7_command_162 : decode cX7_command 162 = .ok (.getfield 40, 3) := by decide +kernel
theorem dX7_command_165 : decode cX7_command 165 = .ok (.iload 8, 2) := by decide +kernel
theorem dX7_command_167 : decode cX7_command 167 = .ok (.iconst 3, 1) := by decide +kernel
theorem dX7_command_168 : decode cX7_command 168 = .ok (.iload 7, 2) := by decide +kernel
theorem dX7_command_170 : decode cX7_command 170 = .ok (.invokevirtual 166, 3) := by decide +kernel
theorem dX7_command_173 : decode cX7_command 173 = .ok (.iload 8, 2) := by decide +kernel
theorem dX7_command_175 : decode cX7_command 175 = .ok (.ireturn, 1) := by decide +kernel
set_option maxRecDepth 20000 in
theorem ggX7_parse_X7_isWithin : GoodIn wsX7_parse wsX7_isWithin := goodIn_r _ [7] (by decide +kernel) (by decide +kernel)
set_option maxRecDepth 20000 in
theorem gX7_parse_X7_isWithin : GoodIn wsX7_parse (va_wsS RX7 80 yX7_isWithin wsX7_isWithin) := goodIn_app (goodIn_of _ (by decide +kernel)) ggX7_parse_X7_isWithin
set_option maxRecDepth 20000 in
theorem ggX7_parse_X3_findCommands : GoodIn wsX7_parse wsX3_findCommands := goodIn_r _ [12, 13, 14, 15, 16, 17, 18, 19, 20, 21, 22, 23, 24, 11, 25, 26, 27, 28, 29, 30, 31, 32, 33, 34, 35, 36, 37, 38, 39, 40, 41, 42, 43, 44, 45, 46, 47, 48, 59, 60, 61, 62, 63, 64, 65, 66, 67, 68] (by decide +kernel) (by decide +kernel)
set_option maxRecDepth 20000 in
theorem gX7_parse_X3_findCommands : GoodIn wsX7_parse (wsV RX7 170 RX3 yX3_findCommands wsX3_findCommands) := goodIn_app (goodIn_of _ (by decide +kernel)) ggX7_parse_X3_findCommands
theorem dX7_parse_0 : decode cX7_parse 0 = .ok (.iload_n 1, 1) := by decide +kernel
theorem dX7_parse_1 : decode cX7_parse 1 = .ok (.iconst 3, 1) := by decide +kernel
theorem dX7_parse_2 : decode cX7_parse 2 = .ok (.invokestatic 80, 3) := by decide +kernel
theorem dX7_parse_5 : decode cX7_parse 5 = .ok (.ifCond .ne 5, 3) := by decide +kernel
theorem dX7_parse_8 : decode cX7_parse 8 = .ok (.iconst (-1), 1) := by decide +kernel
theorem dX7_parse_9 : decode cX7_parse 9 = .ok (.ireturn, 1) := by decide +kernel
theorem dX7_parse_10 : decode cX7_parse 10 = .ok (.aload_n 0, 1) := by decide +kernel
theorem dX7_parse_11 : decode cX7_parse 11 = .ok (.getfield 47, 3) := by decide +kernel
theorem dX7_parse_14 : decode cX7_parse 14 = .ok (.aload_n 0, 1) := by decide +kernel
theorem dX7_parse_15 : decode cX7_parse 15 = .ok (.getfield 40, 3) := by decide +kernel
theorem dX7_parse_18 : decode cX7_parse 18 = .ok (.iload_n 1, 1) := by decide +kernel
theorem dX7_parse_19 : decode cX7_parse 19 = .ok (.invokevirtual 170, 3) := by decide +kernel
theorem dX7_parse_22 : decode cX7_parse 22 = .ok (.aload_n 0, 1) := by decide +kernel
theorem dX7_parse_23 : decode cX7_parse 23 = .ok (.getfield 47, 3) := by decide +kernel
theorem dX7_parse_26 : decode cX7_parse 26 = .ok (.getfield 174, 3) := by decide +kernel
theorem dX7_parse_29 : decode cX7_parse 29 = .ok (.ireturn, 1) := by decide +kernel
set_option maxRecDepth 20000 in
theorem ggX7_found_X7_isWithin : GoodIn wsX7_found wsX7_isWithin := goodIn_r _ [9] (by decide +kernel) (by decide +kernel)
set_option maxRecDepth 20000 in
theorem gX7_found_X7_isWithin : GoodIn wsX7_found (va_wsS RX7 80 yX7_isWithin wsX7_isWithin) := goodIn_app (goodIn_of _ (by decide +kernel)) ggX7_found_X7_isWithin
set_option maxRecDepth 20000 in
theorem ggX7_found_X3_findCommands : GoodIn wsX7_found wsX3_findCommands := goodIn_r _ [14, 15, 16, 17, 18, 19, 20, 21, 22, 23, 24, 25, 26, 13, 27, 28, 29, 30, 31, 32, 33, 34, 35, 36, 37, 38, 39, 40, 41, 42, 43, 44, 45, 46, 47, 48, 49, 50, 61, 62, 63, 64, 65, 66, 67, 68, 69, 70] (by decide +kernel) (by decide +kernel)
set_option maxRecDepth 20000 in
theorem gX7_found_X3_findCommands : GoodIn wsX7_found (wsV RX7 170 RX3 yX3_findCommands wsX3_findCommands) := goodIn_app (goodIn_of _ (by decide +kernel)) ggX7_found_X3_findCommands
theorem dX7_found_0 : decode cX7_found 0 = .ok (.iload_n 1, 1) := by decide +kernel
theorem dX7_found_1 : decode cX7_found 1 = .ok (.iconst 3, 1) := by decide +kernel
theorem dX7_found_2 : decode cX7_found 2 = .ok (.invokestatic 80, 3) := by decide +kernel
theorem dX7_found_5 : decode cX7_found 5 = .ok (.ifCond .eq 15, 3) := by decide +kernel
theorem dX7_found_8 : decode cX7_found 8 = .ok (.iload_n 2, 1) := by decide +kernel
theorem dX7_found_9 : decode cX7_found 9 = .ok (.ifCond .lt 11, 3) := by decide +kernel
theorem dX7_found_12 : decode cX7_found 12 = .ok (.iload_n 3, 1) := by decide +kernel
theorem dX7_found_13 : decode cX7_found 13 = .ok (.iconst 1, 1) := by decide +kernel
theorem dX7_found_14 : decode cX7_found 14 = .ok (.invokestatic 80, 3) := by decide +kernel
theorem dX7_found_17 : decode cX7_found 17 = .ok (.ifCond .ne 5, 3) := by decide +kernel
theorem dX7_found_20 : decode cX7_found 20 = .ok (.iconst (-1), 1) := by decide +kernel
theorem dX7_found_21 : decode cX7_found 21 = .ok (.ireturn, 1) := by decide +kernel
theorem dX7_found_22 : decode cX7_found 22 = .ok (.aload_n 0, 1) := by decide +kernel
theorem dX7_found_23 : decode cX7_found 23 = .ok (.getfield 47, 3) := by decide +kernel
theorem dX7_found_26 : decode cX7_found 26 = .ok (.aload_n 0, 1) := by decide +kernel
theorem dX7_found_27 : decode cX7_found 27 = .ok (.getfield 40, 3) := by decide +kernel
theorem dX7_found_30 : decode cX7_found 30 = .ok (.iload_n 1, 1) := by decide +kernel
theorem dX7_found_31 : decode cX7_found 31 = .ok (.invokevirtual 170, 3) := by decide +kernel
theorem dX7_found_34 : decode cX7_found 34 = .ok (.iload_n 2, 1) := by decide +kernel
theorem dX7_found_35 : decode cX7_found 35 = .ok (.aload_n 0, 1) := by decide +kernel
theorem dX7_found_36 : decode cX7_found 36 = .ok (.getfield 47, 3) := by decide +kernel
theorem dX7_found_39 : decode cX7_found 39 = .ok (.getfield 174, 3) := by decide +kernel
theorem dX7_found_42 : decode cX7_found 42 = .ok (.if_icmp .lt 6, 3) := by decide +kernel
theorem dX7_found_45 : decode cX7_found 45 = .ok (.bipush (-4), 2) := by decide +kernel
theorem dX7_found_47 : decode cX7_found 47 = .ok (.ireturn, 1) := by decide +kernel
theorem dX7_found_48 : decode cX7_found 48 = .ok (.iload_n 3, 1) := by decide +kernel
theorem dX7_found_49 : decode cX7_found 49 = .ok (.ifCond .ne 15, 3) := by decide +kernel
theorem dX7_found_52 : decode cX7_found 52 = .ok (.aload_n 0, 1) := by decide +kernel
theorem dX7_found_53 : decode cX7_found 53 = .ok (.getfield 47, 3) := by decide +kernel
theorem dX7_found_56 : decode cX7_found 56 = .ok (.getfield 177, 3) := by decide +kernel
theorem dX7_found_59 : decode cX7_found 59 = .ok (.iload_n 2, 1) := by decide +kernel
theorem dX7_found_60 : decode cX7_found 60 = .ok (.iaload, 1) := by decide +kernel
theorem dX7_found_61 : decode cX7_found 61 = .ok (.goto 12, 3) := by decide +kernel
theorem dX7_found_64 : decode cX7_found 64 = .ok (.aload_n 0, 1) := by decide +kernel
theorem dX7_found_65 : decode cX7_found 65 = .ok (.getfield 47, 3) := by decide +kernel
theorem dX7_found_68 : decode cX7_found 68 = .ok (.getfield 180, 3) := by decide +kernel
theorem dX7_found_71 : decode cX7_found 71 = .ok (.iload_n 2, 1) := by decide +kernel
theorem dX7_found_72 : decode cX7_found 72 = .ok (.iaload, 1) := by decide +kernel
theorem dX7_found_73 : decode cX7_found 73 = .ok (.ireturn, 1) := by decide +kernel
set_option maxRecDepth 20000 in
theorem ggX7_hidden_X1_isHidden : GoodIn wsX7_hidden wsX1_isHidden := goodIn_r _ [7, 8, 9, 10, 11, 12, 6, 13, 14, 15, 16, 17, 18, 19, 20, 21, 22, 23, 24, 25, 26, 27, 28, 39, 40, 41, 42, 43] (by decide +kernel) (by decide +kernel)
set_option maxRecDepth 20000 in
theorem gX7_hidden_X1_isHidden : GoodIn wsX7_hidden (wsV RX7 183 RX1 yX1_isHidden wsX1_isHidden) := goodIn_app (goodIn_of _ (by decide +kernel)) ggX7_hidden_X1_isHidden
theorem dX7_hidden_0 : decode cX7_hidden 0 = .ok (.iconst 0, 1) := by decide +kernel
theorem dX7_hidden_1 : decode cX7_hidden 1 = .ok (.istore_n 1, 1) := by decide +kernel
theorem dX7_hidden_2 : decode cX7_hidden 2 = .ok (.iload_n 1, 1) := by decide +kernel
theorem dX7_hidden_3 : decode cX7_hidden 3 = .ok (.aload_n 0, 1) := by decide +kernel
theorem dX7_hidden_4 : decode cX7_hidden 4 = .ok (.getfield 40, 3) := by decide +kernel
theorem dX7_hidden_7 : decode cX7_hidden 7 = .ok (.getfield 161, 3) := by decide +kernel
theorem dX7_hidden_10 : decode cX7_hidden 10 = .ok (.if_icmp .ge 22, 3) := by decide +kernel
theorem dX7_hidden_13 : decode cX7_hidden 13 = .ok (.aload_n 0, 1) := by decide +kernel
theorem dX7_hidden_14 : decode cX7_hidden 14 = .ok (.getfield 40, 3) := by decide +kernel
theorem dX7_hidden_17 : decode cX7_hidden 17 = .ok (.iload_n 1, 1) := by decide +kernel
theorem dX7_hidden_18 : decode cX7_hidden 18 = .ok (.invokevirtual 183, 3) := by decide +kernel
theorem dX7_hidden_21 : decode cX7_hidden 21 = .ok (.ifCond .eq 5, 3) := by decide +kernel
theorem dX7_hidden_24 : decode cX7_hidden 24 = .ok (.iload_n 1, 1) := by decide +kernel
theorem dX7_hidden_25 : decode cX7_hidden 25 = .ok (.ireturn, 1) := by decide +kernel
theorem dX7_hidden_26 : decode cX7_hidden 26 = .ok (.iinc 1 1, 3) := by decide +kernel
theorem dX7_hidden_29 : decode cX7_hidden 29 = .ok (.goto (-27), 3) := by decide +kernel
theorem dX7_hidden_32 : decode cX7_hidden 32 = .ok (.bipush (-4), 2) := by decide +kernel
theorem dX7_hidden_34 : decode cX7_hidden 34 = .ok (.ireturn, 1) := by decide +kernel
theorem dX7_line_0 : decode cX7_line 0 = .ok (.iload_n 1, 1) := by decide +kernel
theorem dX7_line_1 : decode cX7_line 1 = .ok (.ifCond .lt 14, 3) := by decide +kernel
theorem dX7_line_4 : decode cX7_line 4 = .ok (.iload_n 1, 1) := by decide +kernel
theorem dX7_line_5 : decode cX7_line 5 = .ok (.aload_n 0, 1) := by decide +kernel
theorem dX7_line_6 : decode cX7_line 6 = .ok (.getfield 47, 3) := by decide +kernel
theorem dX7_line_9 : decode cX7_line 9 = .ok (.getfield 186, 3) := by decide +kernel
theorem dX7_line_12 : decode cX7_line 12 = .ok (.if_icmp .lt 5, 3) := by decide +kernel
theorem dX7_line_15 : decode cX7_line 15 = .ok (.iconst (-1), 1) := by decide +kernel
theorem dX7_line_16 : decode cX7_line 16 = .ok (.ireturn, 1) := by decide +kernel
theorem dX7_line_17 : decode cX7_line 17 = .ok (.aload_n 0, 1) := by decide +kernel
theorem dX7_line_18 : decode cX7_line 18 = .ok (.getfield 47, 3) := by decide +kernel
theorem dX7_line_21 : decode cX7_line 21 = .ok (.getfield 187, 3) := by decide +kernel
theorem dX7_line_24 : decode cX7_line 24 = .ok (.iload_n 1, 1) := by decide +kernel
theorem dX7_line_25 : decode cX7_line 25 = .ok (.iaload, 1) := by decide +kernel
theorem dX7_line_26 : decode cX7_line 26 = .ok (.ireturn, 1) := by decide +kernel
set_option maxRecDepth 20000 in
theorem ggX7_wipe_X3_empty : GoodIn wsX7_wipe wsX3_empty := goodIn_r _ [6, 7, 18, 19, 20, 21, 22] (by decide +kernel) (by decide +kernel)
set_option maxRecDepth 20000 in
theorem gX7_wipe_X3_empty : GoodIn wsX7_wipe (wsV RX7 190 RX3 yX3_empty wsX3_empty) := goodIn_app (goodIn_of _ (by decide +kernel)) ggX7_wipe_X3_empty
theorem dX7_wipe_0 : decode cX7_wipe 0 = .ok (.aload_n 0, 1) := by decide +kernel
theorem dX7_wipe_1 : decode cX7_wipe 1 = .ok (.getfield 47, 3) := by decide +kernel
theorem dX7_wipe_4 : decode cX7_wipe 4 = .ok (.invokevirtual 190, 3) := by decide +kernel
theorem dX7_wipe_7 : decode cX7_wipe 7 = .ok (.ireturn, 1) := by decide +kernel
set_option maxRecDepth 20000 in
theorem ggX7_sheet_X5_isNumber : GoodIn wsX7_sheet wsX5_isNumber := goodIn_r _ [5] (by decide +kernel) (by decide +kernel)
set_option maxRecDepth 20000 in
theorem gX7_sheet_X5_isNumber : GoodIn wsX7_sheet (va_wsS RX7 191 yX5_isNumber wsX5_isNumber) := goodIn_app (goodIn_of _ (by decide +kernel)) ggX7_sheet_X5_isNumber
set_option maxRecDepth 20000 in
theorem ggX7_sheet_X5_isLane : GoodIn wsX7_sheet wsX5_isLane := goodIn_r _ [8] (by decide +kernel) (by decide +kernel)
set_option maxRecDepth 20000 in
theorem gX7_sheet_X5_isLane : GoodIn wsX7_sheet (va_wsS RX7 194 yX5_isLane wsX5_isLane) := goodIn_app (goodIn_of _ (by decide +kernel)) ggX7_sheet_X5_isLane
set_option maxRecDepth 20000 in
theorem ggX7_sheet_X5_makeNew : GoodIn wsX7_sheet wsX5_makeNew := goodIn_r _ [12, 13, 14, 15, 16, 27, 28, 29, 30] (by decide +kernel) (by decide +kernel)
set_option maxRecDepth 20000 in
theorem gX7_sheet_X5_makeNew : GoodIn wsX7_sheet (wsV RX7 197 RX5 yX5_makeNew wsX5_makeNew) := goodIn_app (goodIn_of _ (by decide +kernel)) ggX7_sheet_X5_makeNew
theorem dX7_sheet_0 : decode cX7_sheet 0 = .ok (.iload_n 1, 1) := by decide +kernel
theorem dX7_sheet_1 : decode cX7_sheet 1 = .ok (.invokestatic 191, 3) := by decide +kernel
theorem dX7_sheet_4 : decode cX7_sheet 4 = .ok (.ifCond .eq 16, 3) := by decide +kernel
theorem dX7_sheet_7 : decode cX7_sheet 7 = .ok (.iload_n 2, 1) := by decide +kernel
theorem dX7_sheet_8 : decode cX7_sheet 8 = .ok (.invokestatic 194, 3) := by decide +kernel
theorem dX7_sheet_11 : decode cX7_sheet 11 = .ok (.ifCond .eq 9, 3) := by decide +kernel
theorem dX7_sheet_14 : decode cX7_sheet 14 = .ok (.iload_n 3, 1) := by decide +kernel
theorem dX7_sheet_15 : decode cX7_sheet 15 = .ok (.bipush 60, 2) := by decide +kernel
theorem dX7_sheet_17 : decode cX7_sheet 17 = .ok (.if_icmp .le 5, 3) := by decide +kernel
theorem dX7_sheet_20 : decode cX7_sheet 20 = .ok (.iconst (-1), 1) := by decide +kernel
theorem dX7_sheet_21 : decode cX7_sheet 21 = .ok (.ireturn, 1) := by decide +kernel
theorem dX7_sheet_22 : decode cX7_sheet 22 = .ok (.iload_n 3, 1) := by decide +kernel
theorem dX7_sheet_23 : decode cX7_sheet 23 = .ok (.ifCond .ge 6, 3) := by decide +kernel
theorem dX7_sheet_26 : decode cX7_sheet 26 = .ok (.bipush (-14), 2) := by decide +kernel
theorem dX7_sheet_28 : decode cX7_sheet 28 = .ok (.ireturn, 1) := by decide +kernel
theorem dX7_sheet_29 : decode cX7_sheet 29 = .ok (.aload_n 0, 1) := by decide +kernel
theorem dX7_sheet_30 : decode cX7_sheet 30 = .ok (.getfield 54, 3) := by decide +kernel
theorem dX7_sheet_33 : decode cX7_sheet 33 = .ok (.iload_n 1, 1) := by decide +kernel
theorem dX7_sheet_34 : decode cX7_sheet 34 = .ok (.iload_n 2, 1) := by decide +kernel
theorem dX7_sheet_35 : decode cX7_sheet 35 = .ok (.iload_n 3, 1) := by decide +kernel
theorem dX7_sheet_36 : decode cX7_sheet 36 = .ok (.invokevirtual 197, 3) := by decide +kernel
theorem dX7_sheet_39 : decode cX7_sheet 39 = .ok (.iconst 1, 1) := by decide +kernel
theorem dX7_sheet_40 : decode cX7_sheet 40 = .ok (.ireturn, 1) := by decide +kernel
set_option maxRecDepth 20000 in
theorem ggX7_lay_X5_isNumber : GoodIn wsX7_lay wsX5_isNumber := goodIn_r _ [5] (by decide +kernel) (by decide +kernel)
set_option maxRecDepth 20000 in
theorem gX7_lay_X5_isNumber : GoodIn wsX7_lay (va_wsS RX7 191 yX5_isNumber wsX5_isNumber) := goodIn_app (goodIn_of _ (by decide +kernel)) ggX7_lay_X5_isNumber
set_option maxRecDepth 20000 in
theorem ggX7_lay_X5_isNothing : GoodIn wsX7_lay wsX5_isNothing := goodIn_r _ [9, 10, 35, 36, 37, 38] (by decide +kernel) (by decide +kernel)
set_option maxRecDepth 20000 in
theorem gX7_lay_X5_isNothing : GoodIn wsX7_lay (wsV RX7 200 RX5 yX5_isNothing wsX5_isNothing) := goodIn_app (goodIn_of _ (by decide +kernel)) ggX7_lay_X5_isNothing
set_option maxRecDepth 20000 in
theorem ggX7_lay_X5_hasCells : GoodIn wsX7_lay wsX5_hasCells := goodIn_r _ [14, 15, 35, 36, 37, 38] (by decide +kernel) (by decide +kernel)
set_option maxRecDepth 20000 in
theorem gX7_lay_X5_hasCells : GoodIn wsX7_lay (wsV RX7 203 RX5 yX5_hasCells wsX5_hasCells) := goodIn_app (goodIn_of _ (by decide +kernel)) ggX7_lay_X5_hasCells
set_option maxRecDepth 20000 in
theorem ggX7_lay_X5_put : GoodIn wsX7_lay wsX5_put := goodIn_r _ [19, 20, 21, 22, 23, 4, 24, 35, 36, 37, 38] (by decide +kernel) (by decide +kernel)
set_option maxRecDepth 20000 in
theorem gX7_lay_X5_put : GoodIn wsX7_lay (wsV RX7 207 RX5 yX5_put wsX5_put) := goodIn_app (goodIn_of _ (by decide +kernel)) ggX7_lay_X5_put
theorem dX7_lay_0 : decode cX7_lay 0 = .ok (.iload_n 1, 1) := by decide +kernel
theorem dX7_lay_1 : decode cX7_lay 1 = .ok (.invokestatic 191, 3) := by decide +kernel
theorem dX7_lay_4 : decode cX7_lay 4 = .ok (.ifCond .ne 5, 3) := by decide +kernel
theorem dX7_lay_7 : decode cX7_lay 7 = .ok (.iconst (-1), 1) := by decide +kernel
theorem dX7_lay_8 : decode cX7_lay 8 = .ok (.ireturn, 1) := by decide +kernel
theorem dX7_lay_9 : decode cX7_lay 9 = .ok (.aload_n 0, 1) := by decide +kernel
theorem dX7_lay_10 : decode cX7_lay 10 = .ok (.getfield 54, 3) := by decide +kernel
theorem dX7_lay_13 : decode cX7_lay 13 = .ok (.iload_n 1, 1) := by decide +kernel
theorem dX7_lay_14 : decode cX7_lay 14 = .ok (.invokevirtual 200, 3) := by decide +kernel
theorem dX7_lay_17 : decode cX7_lay 17 = .ok (.ifCond .eq 6, 3) := by decide +kernel
theorem dX7_lay_20 : decode cX7_lay 20 = .ok (.bipush (-11), 2) := by decide +kernel
theorem dX7_lay_22 : decode cX7_lay 22 = .ok (.ireturn, 1) := by decide +kernel
theorem dX7_lay_23 : decode cX7_lay 23 = .ok (.aload_n 0, 1) := by decide +kernel
theorem dX7_lay_24 : decode cX7_lay 24 = .ok (.getfield 54, 3) := by decide +kernel
theorem dX7_lay_27 : decode cX7_lay 27 = .ok (.iload_n 1, 1) := by decide +kernel
theorem dX7_lay_28 : decode cX7_lay 28 = .ok (.iload_n 2, 1) := by decide +kernel
theorem dX7_lay_29 : decode cX7_lay 29 = .ok (.iconst 1, 1) := by decide +kernel
theorem dX7_lay_30 : decode cX7_lay 30 = .ok (.invokevirtual 203, 3) := by decide +kernel
theorem dX7_lay_33 : decode cX7_lay 33 = .ok (.ifCond .ne 6, 3) := by decide +kernel
theorem dX7_lay_36 : decode cX7_lay 36 = .ok (.bipush (-12), 2) := by decide +kernel
theorem dX7_lay_38 : decode cX7_lay 38 = .ok (.ireturn, 1) := by decide +kernel
theorem dX7_lay_39 : decode cX7_lay 39 = .ok (.aload_n 0, 1) := by decide +kernel
theorem dX7_lay_40 : decode cX7_lay 40 = .ok (.getfield 54, 3) := by decide +kernel
theorem dX7_lay_43 : decode cX7_lay 43 = .ok (.iload_n 1, 1) := by decide +kernel
theorem dX7_lay_44 : decode cX7_lay 44 = .ok (.iload_n 2, 1) := by decide +kernel
theorem dX7_lay_45 : decode cX7_lay 45 = .ok (.iload_n 3, 1) := by decide +kernel
theorem dX7_lay_46 : decode cX7_lay 46 = .ok (.invokevirtual 207, 3) := by decide +kernel
theorem dX7_lay_49 : decode cX7_lay 49 = .ok (.iconst 1, 1) := by decide +kernel
theorem dX7_lay_50 : decode cX7_lay 50 = .ok (.ireturn, 1) := by decide +kernel
set_option maxRecDepth 20000 in
theorem ggX7_scan_X5_isNumber : GoodIn wsX7_scan wsX5_isNumber := goodIn_r _ [8] (by decide +kernel) (by decide +kernel)
set_option maxRecDepth 20000 in
theorem gX7_scan_X5_isNumber : GoodIn wsX7_scan (va_wsS RX7 191 yX5_isNumber wsX5_isNumber) := goodIn_app (goodIn_of _ (by decide +kernel)) ggX7_scan_X5_isNumber
set_option maxRecDepth 20000 in
theorem ggX7_scan_X5_isLane : GoodIn wsX7_scan wsX5_isLane := goodIn_r _ [11] (by decide +kernel) (by decide +kernel)
set_option maxRecDepth 20000 in
theorem gX7_scan_X5_isLane : GoodIn wsX7_scan (va_wsS RX7 194 yX5_isLane wsX5_isLane) := goodIn_app (goodIn_of _ (by decide +kernel)) ggX7_scan_X5_isLane
set_option maxRecDepth 20000 in
theorem ggX7_scan_X7_isWithin : GoodIn wsX7_scan wsX7_isWithin := goodIn_r _ [15] (by decide +kernel) (by decide +kernel)
set_option maxRecDepth 20000 in
theorem gX7_scan_X7_isWithin : GoodIn wsX7_scan (va_wsS RX7 80 yX7_isWithin wsX7_isWithin) := goodIn_app (goodIn_of _ (by decide +kernel)) ggX7_scan_X7_isWithin
set_option maxRecDepth 20000 in
theorem ggX7_scan_X5_isNothing : GoodIn wsX7_scan wsX5_isNothing := goodIn_r _ [19, 20, 58, 59, 60, 61] (by decide +kernel) (by decide +kernel)
set_option maxRecDepth 20000 in
theorem gX7_scan_X5_isNothing : GoodIn wsX7_scan (wsV RX7 200 RX5 yX5_isNothing wsX5_isNothing) := goodIn_app (goodIn_of _ (by decide +kernel)) ggX7_scan_X5_isNothing
set_option maxRecDepth 20000 in
theorem ggX7_scan_X7_scanPoint : GoodIn wsX7_scan wsX7_scanPoint := goodIn_r _ [24, 1, 3, 25, 26, 27, 7, 28, 29, 30, 31, 32, 33, 34, 35, 36, 37, 38, 39, 40, 41, 42, 43, 48, 49, 50, 51, 52, 53, 54, 55, 56, 57, 58, 59, 60, 61, 62, 63, 64, 65, 66, 67] (by decide +kernel) (by decide +kernel)
set_option maxRecDepth 20000 in
theorem gX7_scan_X7_scanPoint : GoodIn wsX7_scan (wsV RX7 212 RX7 yX7_scanPoint wsX7_scanPoint) := goodIn_app (goodIn_of _ (by decide +kernel)) ggX7_scan_X7_scanPoint
set_option maxRecDepth 20000 in
theorem ggX7_scan_X2_cutTo : GoodIn wsX7_scan wsX2_cutTo := goodIn_r _ [47, 40, 62, 63, 64, 65, 66, 67] (by decide +kernel) (by decide +kernel)
set_option maxRecDepth 20000 in
theorem gX7_scan_X2_cutTo : GoodIn wsX7_scan (wsV RX7 215 RX2 yX2_cutTo wsX2_cutTo) := goodIn_app (goodIn_of _ (by decide +kernel)) ggX7_scan_X2_cutTo
theorem dX7_scan_0 : decode cX7_scan 0 = .ok (.iload_n 1, 1) := by decide +kernel
theorem dX7_scan_1 : decode cX7_scan 1 = .ok (.invokestatic 191, 3) := by decide +kernel
theorem dX7_scan_4 : decode cX7_scan 4 = .ok (.ifCond .eq 20, 3) := by decide +kernel
theorem dX7_scan_7 : decode cX7_scan 7 = .ok (.iload_n 2, 1) := by decide +kernel
theorem dX7_scan_8 : decode cX7_scan 8 = .ok (.invokestatic 194, 3) := by decide +kernel
theorem dX7_scan_11 : decode cX7_scan 11 = .ok (.ifCond .eq 13, 3) := by decide +kernel
theorem dX7_scan_14 : decode cX7_scan 14 = .ok (.iload 4, 2) := by decide +kernel
theorem dX7_scan_16 : decode cX7_scan 16 = .ok (.bipush 20, 2) := by decide +kernel
theorem dX7_scan_18 : decode cX7_scan 18 = .ok (.invokestatic 80, 3) := by decide +kernel
theorem dX7_scan_21 : decode cX7_scan 21 = .ok (.ifCond .ne 5, 3) := by decide +kernel
theorem dX7_scan_24 : decode cX7_scan 24 = .ok (.iconst (-1), 1) := by decide +kernel
theorem dX7_scan_25 : decode cX7_scan 25 = .ok (.ireturn, 1) := by decide +kernel
theorem dX7_scan_26 : decode cX7_scan 26 = .ok (.aload_n 0, 1) := by decide +kernel
theorem dX7_scan_27 : decode cX7_scan 27 = .ok (.getfield 54, 3) := by decide +kernel
theorem dX7_scan_30 : decode cX7_scan 30 = .ok (.iload_n 1, 1) := by decide +kernel
theorem dX7_scan_31 : decode cX7_scan 31 = .ok (.invokevirtual 200, 3) := by decide +kernel
theorem dX7_scan_34 : decode cX7_scan 34 = .ok (.ifCond .eq 6, 3) := by decide +kernel
theorem dX7_scan_37 : decode cX7_scan 37 = .ok (.bipush (-11), 2) := by decide +kernel
theorem dX7_scan_39 : decode cX7_scan 39 = .ok (.ireturn, 1) := by decide +kernel
theorem dX7_scan_40 : decode cX7_scan 40 = .ok (.aload_n 0, 1) := by decide +kernel
theorem dX7_scan_41 : decode cX7_scan 41 = .ok (.getfield 54, 3) := by decide +kernel
theorem dX7_scan_44 : decode cX7_scan 44 = .ok (.getfield 208, 3) := by decide +kernel
theorem dX7_scan_47 : decode cX7_scan 47 = .ok (.iload_n 1, 1) := by decide +kernel
theorem dX7_scan_48 : decode cX7_scan 48 = .ok (.iaload, 1) := by decide +kernel
theorem dX7_scan_49 : decode cX7_scan 49 = .ok (.iload_n 2, 1) := by decide +kernel
theorem dX7_scan_50 : decode cX7_scan 50 = .ok (.if_icmp .eq 6, 3) := by decide +kernel
theorem dX7_scan_53 : decode cX7_scan 53 = .ok (.bipush (-13), 2) := by decide +kernel
theorem dX7_scan_55 : decode cX7_scan 55 = .ok (.ireturn, 1) := by decide +kernel
theorem dX7_scan_56 : decode cX7_scan 56 = .ok (.aload_n 0, 1) := by decide +kernel
theorem dX7_scan_57 : decode cX7_scan 57 = .ok (.getfield 10, 3) := by decide +kernel
theorem dX7_scan_60 : decode cX7_scan 60 = .ok (.getfield 211, 3) := by decide +kernel
theorem dX7_scan_63 : decode cX7_scan 63 = .ok (.istore 5, 2) := by decide +kernel
theorem dX7_scan_65 : decode cX7_scan 65 = .ok (.iconst 0, 1) := by decide +kernel
theorem dX7_scan_66 : decode cX7_scan 66 = .ok (.istore 6, 2) := by decide +kernel
theorem dX7_scan_68 : decode cX7_scan 68 = .ok (.iload 6, 2) := by decide +kernel
theorem dX7_scan_70 : decode cX7_scan 70 = .ok (.iload 4, 2) := by decide +kernel
theorem dX7_scan_72 : decode cX7_scan 72 = .ok (.if_icmp .ge 36, 3) := by decide +kernel
theorem dX7_scan_75 : decode cX7_scan 75 = .ok (.aload_n 0, 1) := by decide +kernel
theorem dX7_scan_76 : decode cX7_scan 76 = .ok (.iload_n 1, 1) := by decide +kernel
theorem dX7_scan_77 : decode cX7_scan 77 = .ok (.iload_n 3, 1) := by decide +kernel
theorem dX7_scan_78 : decode cX7_scan 78 = .ok (.iload 6, 2) := by decide +kernel
theorem dX7_scan_80 : decode cX7_scan 80 = .ok (.invokevirtual 212, 3) := by decide +kernel
theorem dX7_scan_83 : decode cX7_scan 83 = .ok (.istore 7, 2) := by decide +kernel
theorem dX7_scan_85 : decode cX7_scan 85 = .ok (.iload 7, 2) := by decide +kernel
theorem dX7_scan_87 : decode cX7_scan 87 = .ok (.ifCond .ge 15, 3) := by decide +kernel
theorem dX7_scan_90 : decode cX7_scan 90 = .ok (.aload_n 0, 1) := by decide +kernel
theorem dX7_scan_91 : decode cX7_scan 91 = .ok (.getfield 10, 3) := by decide +kernel
theorem dX7_scan_94 : decode cX7_scan 94 = .ok (.iload 5, 2) := by decide +kernel
theorem dX7_scan_96 : decode cX7_scan 96 = .ok (.invokevirtual 215, 3) := by decide +kernel
theorem dX7_scan_99 : decode cX7_scan 99 = .ok (.iload 7, 2) := by decide +kernel
theorem dX7_scan_101 : decode cX7_scan 101 = .ok (.ireturn, 1) := by decide +kernel
theorem dX7_scan_102 : decode cX7_scan 102 = .ok (.iinc 6 1, 3) := by decide +kernel
theorem dX7_scan_105 : decode cX7_scan 105 = .ok (.goto (-37), 3) := by decide +kernel
theorem dX7_scan_108 : decode cX7_scan 108 = .ok (.aload_n 0, 1) := by decide +kernel
theorem dX7_scan_109 : decode cX7_scan 109 = .ok (.getfield 10, 3) := by decide +kernel
theorem dX7_scan_112 : decode cX7_scan 112 = .ok (.getfield 211, 3) := by decide +kernel
theorem dX7_scan_115 : decode cX7_scan 115 = .ok (.ireturn, 1) := by decide +kernel
theorem dX7_count_0 : decode cX7_count 0 = .ok (.iload_n 1, 1) := by decide +kernel
theorem dX7_count_1 : decode cX7_count 1 = .ok (.tableswitch 75 0 4 #[35, 43, 51, 59, 67], 35) := by decide +kernel
theorem dX7_count_36 : decode cX7_count 36 = .ok (.aload_n 0, 1) := by decide +kernel
theorem dX7_count_37 : decode cX7_count 37 = .ok (.getfield 10, 3) := by decide +kernel
theorem dX7_count_40 : decode cX7_count 40 = .ok (.getfield 211, 3) := by decide +kernel
theorem dX7_count_43 : decode cX7_count 43 = .ok (.ireturn, 1) := by decide +kernel
theorem dX7_count_44 : decode cX7_count 44 = .ok (.aload_n 0, 1) := by decide +kernel
theorem dX7_count_45 : decode cX7_count 45 = .ok (.getfield 19, 3) := by decide +kernel
theorem dX7_count_48 : decode cX7_count 48 = .ok (.getfield 98, 3) := by decide +kernel
theorem dX7_count_51 : decode cX7_count 51 = .ok (.ireturn, 1) := by decide +kernel
theorem dX7_count_52 : decode cX7_count 52 = .ok (.aload_n 0, 1) := by decide +kernel
theorem dX7_count_53 : decode cX7_count 53 = .ok (.getfield 40, 3) := by decide +kernel
theorem dX7_count_56 : decode cX7_count 56 = .ok (.getfield 161, 3) := by decide +kernel
theorem dX7_count_59 : decode cX7_count 59 = .ok (.ireturn, 1) := by decide +kernel
theorem dX7_count_60 : decode cX7_count 60 = .ok (.aload_n 0, 1) := by decide +kernel
theorem dX7_count_61 : decode cX7_count 61 = .ok (.getfield 47, 3) := by decide +kernel
theorem dX7_count_64 : decode cX7_count 64 = .ok (.getfield 186, 3) := by decide +kernel
theorem dX7_count_67 : decode cX7_count 67 = .ok (.ireturn, 1) := by decide +kernel
theorem dX7_count_68 : decode cX7_count 68 = .ok (.aload_n 0, 1) := by decide +kernel
theorem dX7_count_69 : decode cX7_count 69 = .ok (.getfield 26, 3) := by decide +kernel
theorem dX7_count_72 : decode cX7_count 72 = .ok (.getfield 132, 3) := by decide +kernel
theorem dX7_count_75 : decode cX7_count 75 = .ok (.ireturn, 1) := by decide +kernel
theorem dX7_count_76 : decode cX7_count 76 = .ok (.iconst (-1), 1) := by decide +kernel
theorem dX7_count_77 : decode cX7_count 77 = .ok (.ireturn, 1) := by decide +kernel
theorem dX7_isWithin_0 : decode cX7_isWithin 0 = .ok (.iload_n 0, 1) := by decide +kernel
theorem dX7_isWithin_1 : decode cX7_isWithin 1 = .ok (.ifCond .lt 12, 3) := by decide +kernel
theorem dX7_isWithin_4 : decode cX7_isWithin 4 = .ok (.iload_n 0, 1) := by decide +kernel
theorem dX7_isWithin_5 : decode cX7_isWithin 5 = .ok (.iload_n 1, 1) := by decide +kernel
theorem dX7_isWithin_6 : decode cX7_isWithin 6 = .ok (.if_icmp .gt 7, 3) := by decide +kernel
theorem dX7_isWithin_9 : decode cX7_isWithin 9 = .ok (.iconst 1, 1) := by decide +kernel
theorem dX7_isWithin_10 : decode cX7_isWithin 10 = .ok (.goto 4, 3) := by decide +kernel
theorem dX7_isWithin_13 : decode cX7_isWithin 13 = .ok (.iconst 0, 1) := by decide +kernel
theorem dX7_isWithin_14 : decode cX7_isWithin 14 = .ok (.ireturn, 1) := by decide +kernel
set_option maxRecDepth 20000 in
theorem ggX7_measureDraft_X2_makeNormal : GoodIn wsX7_measureDraft wsX2_makeNormal := goodIn_r _ [11, 12, 13, 14, 15, 10, 16, 17, 18, 19, 20, 21, 22, 23, 24, 25, 26, 27, 28, 29, 30, 31, 32, 33, 34, 35, 36, 37, 38, 39, 40, 41, 42, 43, 44, 45, 46, 47, 48, 49, 50, 51, 52, 53, 54, 55, 56, 57, 58, 117, 118, 119, 120, 121, 122] (by decide +kernel) (by decide +kernel)
set_option maxRecDepth 20000 in
theorem gX7_measureDraft_X2_makeNormal : GoodIn wsX7_measureDraft (wsV RX7 92 RX2 yX2_makeNormal wsX2_makeNormal) := goodIn_app (goodIn_of _ (by decide +kernel)) ggX7_measureDraft_X2_makeNormal
set_option maxRecDepth 20000 in
theorem ggX7_measureDraft_X4_distanceFrom : GoodIn wsX7_measureDraft wsX4_distanceFrom := goodIn_r _ [63, 64, 65, 66, 67, 68, 69, 70, 71, 50, 30, 51, 72, 73, 74, 62, 75, 76, 77, 78, 79, 80, 81, 82, 83, 84, 85, 86, 29, 31, 87, 88, 89, 90, 91, 92, 93, 94, 95, 96, 97, 98, 99, 100, 101, 102, 123, 124, 125, 113, 114, 115, 116] (by decide +kernel) (by decide +kernel)
set_option maxRecDepth 20000 in
theorem gX7_measureDraft_X4_distanceFrom : GoodIn wsX7_measureDraft (wsV RX7 145 RX4 yX4_distanceFrom wsX4_distanceFrom) := goodIn_app (goodIn_of _ (by decide +kernel)) ggX7_measureDraft_X4_distanceFrom
theorem dX7_measureDraft_0 : decode cX7_measureDraft 0 = .ok (.aload_n 0, 1) := by decide +kernel
theorem dX7_measureDraft_1 : decode cX7_measureDraft 1 = .ok (.getfield 10, 3) := by decide +kernel
theorem dX7_measureDraft_4 : decode cX7_measureDraft 4 = .ok (.invokevirtual 92, 3) := by decide +kernel
theorem dX7_measureDraft_7 : decode cX7_measureDraft 7 = .ok (.ifCond .ne 6, 3) := by decide +kernel
theorem dX7_measureDraft_10 : decode cX7_measureDraft 10 = .ok (.bipush (-2), 2) := by decide +kernel
theorem dX7_measureDraft_12 : decode cX7_measureDraft 12 = .ok (.ireturn, 1) := by decide +kernel
theorem dX7_measureDraft_13 : decode cX7_measureDraft 13 = .ok (.aload_n 0, 1) := by decide +kernel
theorem dX7_measureDraft_14 : decode cX7_measureDraft 14 = .ok (.getfield 19, 3) := by decide +kernel
theorem dX7_measureDraft_17 : decode cX7_measureDraft 17 = .ok (.getfield 98, 3) := by decide +kernel
theorem dX7_measureDraft_20 : decode cX7_measureDraft 20 = .ok (.ifCond .ne 6, 3) := by decide +kernel
theorem dX7_measureDraft_23 : decode cX7_measureDraft 23 = .ok (.bipush (-4), 2) := by decide +kernel
theorem dX7_measureDraft_25 : decode cX7_measureDraft 25 = .ok (.ireturn, 1) := by decide +kernel
theorem dX7_measureDraft_26 : decode cX7_measureDraft 26 = .ok (.iconst 0, 1) := by decide +kernel
theorem dX7_measureDraft_27 : decode cX7_measureDraft 27 = .ok (.istore_n 1, 1) := by decide +kernel
theorem dX7_measureDraft_28 : decode cX7_measureDraft 28 = .ok (.iconst 0, 1) := by decide +kernel
theorem dX7_measureDraft_29 : decode cX7_measureDraft 29 = .ok (.istore_n 2, 1) := by decide +kernel
theorem dX7_measureDraft_30 : decode cX7_measureDraft 30 = .ok (.iload_n 2, 1) := by decide +kernel
theorem dX7_measureDraft_31 : decode cX7_measureDraft 31 = .ok (.aload_n 0, 1) := by decide +kernel
theorem dX7_measureDraft_32 : decode cX7_measureDraft 32 = .ok (.getfield 19, 3) := by decide +kernel
theorem dX7_measureDraft_35 : decode cX7_measureDraft 35 = .ok (.getfield 98, 3) := by decide +kernel
theorem dX7_measureDraft_38 : decode cX7_measureDraft 38 = .ok (.if_icmp .ge 52, 3) := by decide +kernel
theorem dX7_measureDraft_41 : decode cX7_measureDraft 41 = .ok (.aload_n 0, 1) := by decide +kernel
theorem dX7_measureDraft_42 : decode cX7_measureDraft 42 = .ok (.getfield 58, 3) := by decide +kernel
theorem dX7_measureDraft_45 : decode cX7_measureDraft 45 = .ok (.iload_n 2, 1) := by decide +kernel
theorem dX7_measureDraft_46 : decode cX7_measureDraft 46 = .ok (.aload_n 0, 1) := by decide +kernel
theorem dX7_measureDraft_47 : decode cX7_measureDraft 47 = .ok (.getfield 33, 3) := by decide +kernel
theorem dX7_measureDraft_50 : decode cX7_measureDraft 50 = .ok (.aload_n 0, 1) := by decide +kernel
theorem dX7_measureDraft_51 : decode cX7_measureDraft 51 = .ok (.getfield 10, 3) := by decide +kernel
theorem dX7_measureDraft_54 : decode cX7_measureDraft 54 = .ok (.getfield 95, 3) := by decide +kernel
theorem dX7_measureDraft_57 : decode cX7_measureDraft 57 = .ok (.iconst 0, 1) := by decide +kernel
theorem dX7_measureDraft_58 : decode cX7_measureDraft 58 = .ok (.aload_n 0, 1) := by decide +kernel
theorem dX7_measureDraft_59 : decode cX7_measureDraft 59 = .ok (.getfield 19, 3) := by decide +kernel
theorem dX7_measureDraft_62 : decode cX7_measureDraft 62 = .ok (.iload_n 2, 1) := by decide +kernel
theorem dX7_measureDraft_63 : decode cX7_measureDraft 63 = .ok (.invokevirtual 145, 3) := by decide +kernel
theorem dX7_measureDraft_66 : decode cX7_measureDraft 66 = .ok (.iastore, 1) := by decide +kernel
theorem dX7_measureDraft_67 : decode cX7_measureDraft 67 = .ok (.aload_n 0, 1) := by decide +kernel
theorem dX7_measureDraft_68 : decode cX7_measureDraft 68 = .ok (.getfield 58, 3) := by decide +kernel
theorem dX7_measureDraft_71 : decode cX7_measureDraft 71 = .ok (.iload_n 2, 1) := by decide +kernel
theorem dX7_measureDraft_72 : decode cX7_measureDraft 72 = .ok (.iaload, 1) := by decide +kernel
theorem dX7_measureDraft_73 : decode cX7_measureDraft 73 = .ok (.aload_n 0, 1) := by decide +kernel
theorem dX7_measureDraft_74 : decode cX7_measureDraft 74 = .ok (.getfield 58, 3) := by decide +kernel
theorem dX7_measureDraft_77 : decode cX7_measureDraft 77 = .ok (.iload_n 1, 1) := by decide +kernel
theorem dX7_measureDraft_78 : decode cX7_measureDraft 78 = .ok (.iaload, 1) := by decide +kernel
theorem dX7_measureDraft_79 : decode cX7_measureDraft 79 = .ok (.if_icmp .ge 5, 3) := by decide +kernel
theorem dX7_measureDraft_82 : decode cX7_measureDraft 82 = .ok (.iload_n 2, 1) := by decide +kernel
theorem dX7_measureDraft_83 : decode cX7_measureDraft 83 = .ok (.istore_n 1, 1) := by decide +kernel
theorem dX7_measureDraft_84 : decode cX7_measureDraft 84 = .ok (.iinc 2 1, 3) := by decide +kernel
theorem dX7_measureDraft_87 : decode cX7_measureDraft 87 = .ok (.goto (-57), 3) := by decide +kernel
theorem dX7_measureDraft_90 : decode cX7_measureDraft 90 = .ok (.iload_n 1, 1) := by decide +kernel
theorem dX7_measureDraft_91 : decode cX7_measureDraft 91 = .ok (.ireturn, 1) := by decide +kernel
set_option maxRecDepth 20000 in
theorem ggX7_labelRead_X6_has : GoodIn wsX7_labelRead wsX6_has := goodIn_r _ [11, 12, 23, 24, 25, 26] (by decide +kernel) (by decide +kernel)
set_option maxRecDepth 20000 in
theorem gX7_labelRead_X6_has : GoodIn wsX7_labelRead (wsV RX7 109 RX6 yX6_has wsX6_has) := goodIn_app (goodIn_of _ (by decide +kernel)) ggX7_labelRead_X6_has
theorem dX7_labelRead_0 : decode cX7_labelRead 0 = .ok (.aload_n 0, 1) := by decide +kernel
theorem dX7_labelRead_1 : decode cX7_labelRead 1 = .ok (.getfield 19, 3) := by decide +kernel
theorem dX7_labelRead_4 : decode cX7_labelRead 4 = .ok (.iload_n 1, 1) := by decide +kernel
theorem dX7_labelRead_5 : decode cX7_labelRead 5 = .ok (.invokevirtual 109, 3) := by decide +kernel
theorem dX7_labelRead_8 : decode cX7_labelRead 8 = .ok (.ifCond .ne 5, 3) := by decide +kernel
theorem dX7_labelRead_11 : decode cX7_labelRead 11 = .ok (.iload_n 1, 1) := by decide +kernel
theorem dX7_labelRead_12 : decode cX7_labelRead 12 = .ok (.ireturn, 1) := by decide +kernel
theorem dX7_labelRead_13 : decode cX7_labelRead 13 = .ok (.aload_n 0, 1) := by decide +kernel
theorem dX7_labelRead_14 : decode cX7_labelRead 14 = .ok (.getfield 19, 3) := by decide +kernel
theorem dX7_labelRead_17 : decode cX7_labelRead 17 = .ok (.getfield 113, 3) := by decide +kernel
theorem dX7_labelRead_20 : decode cX7_labelRead 20 = .ok (.iload_n 1, 1) := by decide +kernel
theorem dX7_labelRead_21 : decode cX7_labelRead 21 = .ok (.iaload, 1) := by decide +kernel
theorem dX7_labelRead_22 : decode cX7_labelRead 22 = .ok (.istore_n 2, 1) := by decide +kernel
theorem dX7_labelRead_23 : decode cX7_labelRead 23 = .ok (.aload_n 0, 1) := by decide +kernel
theorem dX7_labelRead_24 : decode cX7_labelRead 24 = .ok (.getfield 58, 3) := by decide +kernel
theorem dX7_labelRead_27 : decode cX7_labelRead 27 = .ok (.iload_n 1, 1) := by decide +kernel
theorem dX7_labelRead_28 : decode cX7_labelRead 28 = .ok (.iaload, 1) := by decide +kernel
theorem dX7_labelRead_29 : decode cX7_labelRead 29 = .ok (.aload_n 0, 1) := by decide +kernel
theorem dX7_labelRead_30 : decode cX7_labelRead 30 = .ok (.getfield 62, 3) := by decide +kernel
theorem dX7_labelRead_33 : decode cX7_labelRead 33 = .ok (.if_icmp .le 6, 3) := by decide +kernel
theorem dX7_labelRead_36 : decode cX7_labelRead 36 = .ok (.bipush (-5), 2) := by decide +kernel
theorem dX7_labelRead_38 : decode cX7_labelRead 38 = .ok (.ireturn, 1) := by decide +kernel
theorem dX7_labelRead_39 : decode cX7_labelRead 39 = .ok (.iconst 0, 1) := by decide +kernel
theorem dX7_labelRead_40 : decode cX7_labelRead 40 = .ok (.istore_n 3, 1) := by decide +kernel
theorem dX7_labelRead_41 : decode cX7_labelRead 41 = .ok (.iload_n 3, 1) := by decide +kernel
theorem dX7_labelRead_42 : decode cX7_labelRead 42 = .ok (.aload_n 0, 1) := by decide +kernel
theorem dX7_labelRead_43 : decode cX7_labelRead 43 = .ok (.getfield 19, 3) := by decide +kernel
theorem dX7_labelRead_46 : decode cX7_labelRead 46 = .ok (.getfield 98, 3) := by decide +kernel
theorem dX7_labelRead_49 : decode cX7_labelRead 49 = .ok (.if_icmp .ge 45, 3) := by decide +kernel
theorem dX7_labelRead_52 : decode cX7_labelRead 52 = .ok (.aload_n 0, 1) := by decide +kernel
theorem dX7_labelRead_53 : decode cX7_labelRead 53 = .ok (.getfield 19, 3) := by decide +kernel
theorem dX7_labelRead_56 : decode cX7_labelRead 56 = .ok (.getfield 113, 3) := by decide +kernel
theorem dX7_labelRead_59 : decode cX7_labelRead 59 = .ok (.iload_n 3, 1) := by decide +kernel
theorem dX7_labelRead_60 : decode cX7_labelRead 60 = .ok (.iaload, 1) := by decide +kernel
theorem dX7_labelRead_61 : decode cX7_labelRead 61 = .ok (.iload_n 2, 1) := by decide +kernel
theorem dX7_labelRead_62 : decode cX7_labelRead 62 = .ok (.if_icmp .eq 26, 3) := by decide +kernel
theorem dX7_labelRead_65 : decode cX7_labelRead 65 = .ok (.aload_n 0, 1) := by decide +kernel
theorem dX7_labelRead_66 : decode cX7_labelRead 66 = .ok (.getfield 58, 3) := by decide +kernel
theorem dX7_labelRead_69 : decode cX7_labelRead 69 = .ok (.iload_n 3, 1) := by decide +kernel
theorem dX7_labelRead_70 : decode cX7_labelRead 70 = .ok (.iaload, 1) := by decide +kernel
theorem dX7_labelRead_71 : decode cX7_labelRead 71 = .ok (.aload_n 0, 1) := by decide +kernel
theorem dX7_labelRead_72 : decode cX7_labelRead 72 = .ok (.getfield 58, 3) := by decide +kernel
theorem dX7_labelRead_75 : decode cX7_labelRead 75 = .ok (.iload_n 1, 1) := by decide +kernel
theorem dX7_labelRead_76 : decode cX7_labelRead 76 = .ok (.iaload, 1) := by decide +kernel
theorem dX7_labelRead_77 : decode cX7_labelRead 77 = .ok (.isub, 1) := by decide +kernel
theorem dX7_labelRead_78 : decode cX7_labelRead 78 = .ok (.aload_n 0, 1) := by decide +kernel
theorem dX7_labelRead_79 : decode cX7_labelRead 79 = .ok (.getfield 66, 3) := by decide +kernel
theorem dX7_labelRead_82 : decode cX7_labelRead 82 = .ok (.if_icmp .ge 6, 3) := by decide +kernel
theorem dX7_labelRead_85 : decode cX7_labelRead 85 = .ok (.bipush (-5), 2) := by decide +kernel
theorem dX7_labelRead_87 : decode cX7_labelRead 87 = .ok (.ireturn, 1) := by decide +kernel
theorem dX7_labelRead_88 : decode cX7_labelRead 88 = .ok (.iinc 3 1, 3) := by decide +kernel
theorem dX7_labelRead_91 : decode cX7_labelRead 91 = .ok (.goto (-50), 3) := by decide +kernel
theorem dX7_labelRead_94 : decode cX7_labelRead 94 = .ok (.iload_n 2, 1) := by decide +kernel
theorem dX7_labelRead_95 : decode cX7_labelRead 95 = .ok (.ireturn, 1) := by decide +kernel
set_option maxRecDepth 20000 in
theorem ggX7_isConfused_X4_distanceFrom : GoodIn wsX7_isConfused wsX4_distanceFrom := goodIn_r _ [10, 11, 12, 13, 14, 15, 16, 17, 18, 19, 20, 21, 22, 23, 24, 9, 25, 26, 27, 28, 29, 30, 31, 32, 33, 34, 35, 36, 37, 38, 39, 40, 41, 42, 43, 44, 45, 46, 47, 48, 49, 50, 51, 52, 53, 54, 69, 70, 71, 65, 66, 67, 68] (by decide +kernel) (by decide +kernel)
set_option maxRecDepth 20000 in
theorem gX7_isConfused_X4_distanceFrom : GoodIn wsX7_isConfused (wsV RX7 145 RX4 yX4_distanceFrom wsX4_distanceFrom) := goodIn_app (goodIn_of _ (by decide +kernel)) ggX7_isConfused_X4_distanceFrom
theorem dX7_isConfused_0 : decode cX7_isConfused 0 = .ok (.iconst 0, 1) := by decide +kernel
theorem dX7_isConfused_1 : decode cX7_isConfused 1 = .ok (.istore_n 3, 1) := by decide +kernel
theorem dX7_isConfused_2 : decode cX7_isConfused 2 = .ok (.iload_n 3, 1) := by decide +kernel
theorem dX7_isConfused_3 : decode cX7_isConfused 3 = .ok (.aload_n 0, 1) := by decide +kernel
theorem dX7_isConfused_4 : decode cX7_isConfused 4 = .ok (.getfield 19, 3) := by decide +kernel
theorem dX7_isConfused_7 : decode cX7_isConfused 7 = .ok (.getfield 98, 3) := by decide +kernel
theorem dX7_isConfused_10 : decode cX7_isConfused 10 = .ok (.if_icmp .ge 86, 3) := by decide +kernel
theorem dX7_isConfused_13 : decode cX7_isConfused 13 = .ok (.aload_n 0, 1) := by decide +kernel
theorem dX7_isConfused_14 : decode cX7_isConfused 14 = .ok (.getfield 19, 3) := by decide +kernel
theorem dX7_isConfused_17 : decode cX7_isConfused 17 = .ok (.getfield 113, 3) := by decide +kernel
theorem dX7_isConfused_20 : decode cX7_isConfused 20 = .ok (.iload_n 3, 1) := by decide +kernel
theorem dX7_isConfused_21 : decode cX7_isConfused 21 = .ok (.iaload, 1) := by decide +kernel
theorem dX7_isConfused_22 : decode cX7_isConfused 22 = .ok (.aload_n 0, 1) := by decide +kernel
theorem dX7_isConfused_23 : decode cX7_isConfused 23 = .ok (.getfield 19, 3) := by decide +kernel
theorem dX7_isConfused_26 : decode cX7_isConfused 26 = .ok (.getfield 113, 3) := by decide +kernel
theorem dX7_isConfused_29 : decode cX7_isConfused 29 = .ok (.iload_n 1, 1) := by decide +kernel
theorem dX7_isConfused_30 : decode cX7_isConfused 30 = .ok (.iaload, 1) := by decide +kernel
theorem dX7_isConfused_31 : decode cX7_isConfused 31 = .ok (.if_icmp .eq 59, 3) := by decide +kernel
theorem dX7_isConfused_34 : decode cX7_isConfused 34 = .ok (.aload_n 0, 1) := by decide +kernel
theorem dX7_isConfused_35 : decode cX7_isConfused 35 = .ok (.getfield 33, 3) := by decide +kernel
theorem dX7_isConfused_38 : decode cX7_isConfused 38 = .ok (.aload_n 0, 1) := by decide +kernel
theorem dX7_isConfused_39 : decode cX7_isConfused 39 = .ok (.getfield 19, 3) := by decide +kernel
theorem dX7_isConfused_42 : decode cX7_isConfused 42 = .ok (.getfield 118, 3) := by decide +kernel
theorem dX7_isConfused_45 : decode cX7_isConfused 45 = .ok (.iload_n 1, 1) := by decide +kernel
theorem dX7_isConfused_46 : decode cX7_isConfused 46 = .ok (.bipush 16, 2) := by decide +kernel
theorem dX7_isConfused_48 : decode cX7_isConfused 48 = .ok (.imul, 1) := by decide +kernel
theorem dX7_isConfused_49 : decode cX7_isConfused 49 = .ok (.aload_n 0, 1) := by decide +kernel
theorem dX7_isConfused_50 : decode cX7_isConfused 50 = .ok (.getfield 19, 3) := by decide +kernel
theorem dX7_isConfused_53 : decode cX7_isConfused 53 = .ok (.iload_n 3, 1) := by decide +kernel
theorem dX7_isConfused_54 : decode cX7_isConfused 54 = .ok (.invokevirtual 145, 3) := by decide +kernel
theorem dX7_isConfused_57 : decode cX7_isConfused 57 = .ok (.iload_n 2, 1) := by decide +kernel
theorem dX7_isConfused_58 : decode cX7_isConfused 58 = .ok (.if_icmp .le 30, 3) := by decide +kernel
theorem dX7_isConfused_61 : decode cX7_isConfused 61 = .ok (.aload_n 0, 1) := by decide +kernel
theorem dX7_isConfused_62 : decode cX7_isConfused 62 = .ok (.getfield 33, 3) := by decide +kernel
theorem dX7_isConfused_65 : decode cX7_isConfused 65 = .ok (.aload_n 0, 1) := by decide +kernel
theorem dX7_isConfused_66 : decode cX7_isConfused 66 = .ok (.getfield 19, 3) := by decide +kernel
theorem dX7_isConfused_69 : decode cX7_isConfused 69 = .ok (.getfield 118, 3) := by decide +kernel
theorem dX7_isConfused_72 : decode cX7_isConfused 72 = .ok (.iload_n 3, 1) := by decide +kernel
theorem dX7_isConfused_73 : decode cX7_isConfused 73 = .ok (.bipush 16, 2) := by decide +kernel
theorem dX7_isConfused_75 : decode cX7_isConfused 75 = .ok (.imul, 1) := by decide +kernel
theorem dX7_isConfused_76 : decode cX7_isConfused 76 = .ok (.aload_n 0, 1) := by decide +kernel
theorem dX7_isConfused_77 : decode cX7_isConfused 77 = .ok (.getfield 19, 3) := by decide +kernel
theorem dX7_isConfused_80 : decode cX7_isConfused 80 = .ok (.iload_n 1, 1) := by decide +kernel
theorem dX7_isConfused_81 : decode cX7_isConfused 81 = .ok (.invokevirtual 145, 3) := by decide +kernel
theorem dX7_isConfused_84 : decode cX7_isConfused 84 = .ok (.iload_n 2, 1) := by decide +kernel
theorem dX7_isConfused_85 : decode cX7_isConfused 85 = .ok (.if_icmp .gt 5, 3) := by decide +kernel
theorem dX7_isConfused_88 : decode cX7_isConfused 88 = .ok (.iconst 1, 1) := by decide +kernel
theorem dX7_isConfused_89 : decode cX7_isConfused 89 = .ok (.ireturn, 1) := by decide +kernel
theorem dX7_isConfused_90 : decode cX7_isConfused 90 = .ok (.iinc 3 1, 3) := by decide +kernel
theorem dX7_isConfused_93 : decode cX7_isConfused 93 = .ok (.goto (-91), 3) := by decide +kernel
theorem dX7_isConfused_96 : decode cX7_isConfused 96 = .ok (.iconst 0, 1) := by decide +kernel
theorem dX7_isConfused_97 : decode cX7_isConfused 97 = .ok (.ireturn, 1) := by decide +kernel
set_option maxRecDepth 20000 in
theorem ggX7_scanPoint_X5_hasCells : GoodIn wsX7_scanPoint wsX5_hasCells := goodIn_r _ [7, 8, 33, 34, 35, 36] (by decide +kernel) (by decide +kernel)
set_option maxRecDepth 20000 in
theorem gX7_scanPoint_X5_hasCells : GoodIn wsX7_scanPoint (wsV RX7 203 RX5 yX5_hasCells wsX5_hasCells) := goodIn_app (goodIn_of _ (by decide +kernel)) ggX7_scanPoint_X5_hasCells
set_option maxRecDepth 20000 in
theorem ggX7_scanPoint_X5_cell : GoodIn wsX7_scanPoint wsX5_cell := goodIn_r _ [12, 13, 33, 34, 35, 36] (by decide +kernel) (by decide +kernel)
set_option maxRecDepth 20000 in
theorem gX7_scanPoint_X5_cell : GoodIn wsX7_scanPoint (wsV RX7 218 RX5 yX5_cell wsX5_cell) := goodIn_app (goodIn_of _ (by decide +kernel)) ggX7_scanPoint_X5_cell
set_option maxRecDepth 20000 in
theorem ggX7_scanPoint_X2_add : GoodIn wsX7_scanPoint wsX2_add := goodIn_r _ [18, 19, 20, 21, 22, 37, 38, 39, 40, 41, 42] (by decide +kernel) (by decide +kernel)
set_option maxRecDepth 20000 in
theorem gX7_scanPoint_X2_add : GoodIn wsX7_scanPoint (wsV RX7 69 RX2 yX2_add wsX2_add) := goodIn_app (goodIn_of _ (by decide +kernel)) ggX7_scanPoint_X2_add
theorem dX7_scanPoint_0 : decode cX7_scanPoint 0 = .ok (.aload_n 0, 1) := by decide +kernel
theorem dX7_scanPoint_1 : decode cX7_scanPoint 1 = .ok (.getfield 54, 3) := by decide +kernel
theorem dX7_scanPoint_4 : decode cX7_scanPoint 4 = .ok (.iload_n 1, 1) := by decide +kernel
theorem dX7_scanPoint_5 : decode cX7_scanPoint 5 = .ok (.iload_n 2, 1) := by decide +kernel
theorem dX7_scanPoint_6 : decode cX7_scanPoint 6 = .ok (.iconst 3, 1) := by decide +kernel
theorem dX7_scanPoint_7 : decode cX7_scanPoint 7 = .ok (.iload_n 3, 1) := by decide +kernel
theorem dX7_scanPoint_8 : decode cX7_scanPoint 8 = .ok (.imul, 1) := by decide +kernel
theorem dX7_scanPoint_9 : decode cX7_scanPoint 9 = .ok (.iconst 3, 1) := by decide +kernel
theorem dX7_scanPoint_10 : decode cX7_scanPoint 10 = .ok (.iadd, 1) := by decide +kernel
theorem dX7_scanPoint_11 : decode cX7_scanPoint 11 = .ok (.invokevirtual 203, 3) := by decide +kernel
theorem dX7_scanPoint_14 : decode cX7_scanPoint 14 = .ok (.ifCond .ne 6, 3) := by decide +kernel
theorem dX7_scanPoint_17 : decode cX7_scanPoint 17 = .ok (.bipush (-12), 2) := by decide +kernel
theorem dX7_scanPoint_19 : decode cX7_scanPoint 19 = .ok (.ireturn, 1) := by decide +kernel
theorem dX7_scanPoint_20 : decode cX7_scanPoint 20 = .ok (.iload_n 2, 1) := by decide +kernel
theorem dX7_scanPoint_21 : decode cX7_scanPoint 21 = .ok (.iconst 3, 1) := by decide +kernel
theorem dX7_scanPoint_22 : decode cX7_scanPoint 22 = .ok (.iload_n 3, 1) := by decide +kernel
theorem dX7_scanPoint_23 : decode cX7_scanPoint 23 = .ok (.imul, 1) := by decide +kernel
theorem dX7_scanPoint_24 : decode cX7_scanPoint 24 = .ok (.iadd, 1) := by decide +kernel
theorem dX7_scanPoint_25 : decode cX7_scanPoint 25 = .ok (.istore 4, 2) := by decide +kernel
theorem dX7_scanPoint_27 : decode cX7_scanPoint 27 = .ok (.aload_n 0, 1) := by decide +kernel
theorem dX7_scanPoint_28 : decode cX7_scanPoint 28 = .ok (.getfield 54, 3) := by decide +kernel
theorem dX7_scanPoint_31 : decode cX7_scanPoint 31 = .ok (.iload_n 1, 1) := by decide +kernel
theorem dX7_scanPoint_32 : decode cX7_scanPoint 32 = .ok (.iload 4, 2) := by decide +kernel
theorem dX7_scanPoint_34 : decode cX7_scanPoint 34 = .ok (.invokevirtual 218, 3) := by decide +kernel
theorem dX7_scanPoint_37 : decode cX7_scanPoint 37 = .ok (.istore 5, 2) := by decide +kernel
theorem dX7_scanPoint_39 : decode cX7_scanPoint 39 = .ok (.aload_n 0, 1) := by decide +kernel
theorem dX7_scanPoint_40 : decode cX7_scanPoint 40 = .ok (.getfield 54, 3) := by decide +kernel
theorem dX7_scanPoint_43 : decode cX7_scanPoint 43 = .ok (.iload_n 1, 1) := by decide +kernel
theorem dX7_scanPoint_44 : decode cX7_scanPoint 44 = .ok (.iload 4, 2) := by decide +kernel
theorem dX7_scanPoint_46 : decode cX7_scanPoint 46 = .ok (.iconst 1, 1) := by decide +kernel
theorem dX7_scanPoint_47 : decode cX7_scanPoint 47 = .ok (.iadd, 1) := by decide +kernel
theorem dX7_scanPoint_48 : decode cX7_scanPoint 48 = .ok (.invokevirtual 218, 3) := by decide +kernel
theorem dX7_scanPoint_51 : decode cX7_scanPoint 51 = .ok (.istore 6, 2) := by decide +kernel
theorem dX7_scanPoint_53 : decode cX7_scanPoint 53 = .ok (.aload_n 0, 1) := by decide +kernel
theorem dX7_scanPoint_54 : decode cX7_scanPoint 54 = .ok (.getfield 54, 3) := by decide +kernel
theorem dX7_scanPoint_57 : decode cX7_scanPoint 57 = .ok (.iload_n 1, 1) := by decide +kernel
theorem dX7_scanPoint_58 : decode cX7_scanPoint 58 = .ok (.iload 4, 2) := by decide +kernel
theorem dX7_scanPoint_60 : decode cX7_scanPoint 60 = .ok (.iconst 2, 1) := by decide +kernel
theorem dX7_scanPoint_61 : decode cX7_scanPoint 61 = .ok (.iadd, 1) := by decide +kernel
theorem dX7_scanPoint_62 : decode cX7_scanPoint 62 = .ok (.invokevirtual 218, 3) := by decide +kernel
theorem dX7_scanPoint_65 : decode cX7_scanPoint 65 = .ok (.ifCond .eq 7, 3) := by decide +kernel
theorem dX7_scanPoint_68 : decode cX7_scanPoint 68 = .ok (.iconst 1, 1) := by decide +kernel
theorem dX7_scanPoint_69 : decode cX7_scanPoint 69 = .ok (.goto 4, 3) := by decide +kernel
theorem dX7_scanPoint_72 : decode cX7_scanPoint 72 = .ok (.iconst 0, 1) := by decide +kernel
theorem dX7_scanPoint_73 : decode cX7_scanPoint 73 = .ok (.istore 7, 2) := by decide +kernel
theorem dX7_scanPoint_75 : decode cX7_scanPoint 75 = .ok (.aload_n 0, 1) := by decide +kernel
theorem dX7_scanPoint_76 : decode cX7_scanPoint 76 = .ok (.getfield 10, 3) := by decide +kernel
theorem dX7_scanPoint_79 : decode cX7_scanPoint 79 = .ok (.iload 5, 2) := by decide +kernel
theorem dX7_scanPoint_81 : decode cX7_scanPoint 81 = .ok (.iload 6, 2) := by decide +kernel
theorem dX7_scanPoint_83 : decode cX7_scanPoint 83 = .ok (.iload 7, 2) := by decide +kernel
theorem dX7_scanPoint_85 : decode cX7_scanPoint 85 = .ok (.invokevirtual 69, 3) := by decide +kernel
theorem dX7_scanPoint_88 : decode cX7_scanPoint 88 = .ok (.istore 8, 2) := by decide +kernel
theorem dX7_scanPoint_90 : decode cX7_scanPoint 90 = .ok (.iload 8, 2) := by decide +kernel
theorem dX7_scanPoint_92 : decode cX7_scanPoint 92 = .ok (.ifCond .ge 11, 3) := by decide +kernel
theorem dX7_scanPoint_95 : decode cX7_scanPoint 95 = .ok (.bipush (-20), 2) := by decide +kernel
theorem dX7_scanPoint_97 : decode cX7_scanPoint 97 = .ok (.iload 8, 2) := by decide +kernel
theorem dX7_scanPoint_99 : decode cX7_scanPoint 99 = .ok (.iadd, 1) := by decide +kernel
theorem dX7_scanPoint_100 : decode cX7_scanPoint 100 = .ok (.goto 5, 3) := by decide +kernel
theorem dX7_scanPoint_103 : decode cX7_scanPoint 103 = .ok (.iload 8, 2) := by decide +kernel
theorem dX7_scanPoint_105 : decode cX7_scanPoint 105 = .ok (.ireturn, 1) := by decide +kernel
theorem dJ6_bitCount_0f7a4_0 : decode cJ6_bitCount_0f7a4 0 = .ok (.iload_n 0, 1) := by decide +kernel
theorem dJ6_bitCount_0f7a4_1 : decode cJ6_bitCount_0f7a4 1 = .ok (.iload_n 0, 1) := by decide +kernel
theorem dJ6_bitCount_0f7a4_2 : decode cJ6_bitCount_0f7a4 2 = .ok (.iconst 1, 1) := by decide +kernel
theorem dJ6_bitCount_0f7a4_3 : decode cJ6_bitCount_0f7a4 3 = .ok (.iushr, 1) := by decide +kernel
theorem dJ6_bitCount_0f7a4_4 : decode cJ6_bitCount_0f7a4 4 = .ok (.ldc_w 265, 3) := by decide +kernel
theorem dJ6_bitCount_0f7a4_7 : decode cJ6_bitCount_0f7a4 7 = .ok (.iand, 1) := by decide +kernel
theorem dJ6_bitCount_0f7a4_8 : decode cJ6_bitCount_0f7a4 8 = .ok (.isub, 1) := by decide +kernel
theorem dJ6_bitCount_0f7a4_9 : decode cJ6_bitCount_0f7a4 9 = .ok (.istore_n 0, 1) := by decide +kernel
theorem dJ6_bitCount_0f7a4_10 : decode cJ6_bitCount_0f7a4 10 = .ok (.iload_n 0, 1) := by decide +kernel
theorem dJ6_bitCount_0f7a4_11 : decode cJ6_bitCount_0f7a4 11 = .ok (.ldc_w 266, 3) := by decide +kernel
theorem dJ6_bitCount_0f7a4_14 : decode cJ6_bitCount_0f7a4 14 = .ok (.iand, 1) := by decide +kernel
theorem dJ6_bitCount_0f7a4_15 : decode cJ6_bitCount_0f7a4 15 = .ok (.iload_n 0, 1) := by decide +kernel
theorem dJ6_bitCount_0f7a4_16 : decode cJ6_bitCount_0f7a4 16 = .ok (.iconst 2, 1) := by decide +kernel
theorem dJ6_bitCount_0f7a4_17 : decode cJ6_bitCount_0f7a4 17 = .ok (.iushr, 1) := by decide +kernel
theorem dJ6_bitCount_0f7a4_18 : decode cJ6_bitCount_0f7a4 18 = .ok (.ldc_w 266, 3) := by decide +kernel
theorem dJ6_bitCount_0f7a4_21 : decode cJ6_bitCount_0f7a4 21 = .ok (.iand, 1) := by decide +kernel
theorem dJ6_bitCount_0f7a4_22 : decode cJ6_bitCount_0f7a4 22 = .ok (.iadd, 1) := by decide +kernel
theorem dJ6_bitCount_0f7a4_23 : decode cJ6_bitCount_0f7a4 23 = .ok (.istore_n 0, 1) := by decide +kernel
theorem dJ6_bitCount_0f7a4_24 : decode cJ6_bitCount_0f7a4 24 = .ok (.iload_n 0, 1) := by decide +kernel
theorem dJ6_bitCount_0f7a4_25 : decode cJ6_bitCount_0f7a4 25 = .ok (.iload_n 0, 1) := by decide +kernel
theorem dJ6_bitCount_0f7a4_26 : decode cJ6_bitCount_0f7a4 26 = .ok (.iconst 4, 1) := by decide +kernel
theorem dJ6_bitCount_0f7a4_27 : decode cJ6_bitCount_0f7a4 27 = .ok (.iushr, 1) := by decide +kernel
theorem dJ6_bitCount_0f7a4_28 : decode cJ6_bitCount_0f7a4 28 = .ok (.iadd, 1) := by decide +kernel
theorem dJ6_bitCount_0f7a4_29 : decode cJ6_bitCount_0f7a4 29 = .ok (.ldc_w 267, 3) := by decide +kernel
theorem dJ6_bitCount_0f7a4_32 : decode cJ6_bitCount_0f7a4 32 = .ok (.iand, 1) := by decide +kernel
theorem dJ6_bitCount_0f7a4_33 : decode cJ6_bitCount_0f7a4 33 = .ok (.istore_n 0, 1) := by decide +kernel
theorem dJ6_bitCount_0f7a4_34 : decode cJ6_bitCount_0f7a4 34 = .ok (.iload_n 0, 1) := by decide +kernel
theorem dJ6_bitCount_0f7a4_35 : decode cJ6_bitCount_0f7a4 35 = .ok (.iload_n 0, 1) := by decide +kernel
theorem dJ6_bitCount_0f7a4_36 : decode cJ6_bitCount_0f7a4 36 = .ok (.bipush 8, 2) := by decide +kernel
theorem dJ6_bitCount_0f7a4_38 : decode cJ6_bitCount_0f7a4 38 = .ok (.iushr, 1) := by decide +kernel
theorem dJ6_bitCount_0f7a4_39 : decode cJ6_bitCount_0f7a4 39 = .ok (.iadd, 1) := by decide +kernel
theorem dJ6_bitCount_0f7a4_40 : decode cJ6_bitCount_0f7a4 40 = .ok (.istore_n 0, 1) := by decide +kernel
theorem dJ6_bitCount_0f7a4_41 : decode cJ6_bitCount_0f7a4 41 = .ok (.iload_n 0, 1) := by decide +kernel
theorem dJ6_bitCount_0f7a4_42 : decode cJ6_bitCount_0f7a4 42 = .ok (.iload_n 0, 1) := by decide +kernel
theorem dJ6_bitCount_0f7a4_43 : decode cJ6_bitCount_0f7a4 43 = .ok (.bipush 16, 2) := by decide +kernel
theorem dJ6_bitCount_0f7a4_45 : decode cJ6_bitCount_0f7a4 45 = .ok (.iushr, 1) := by decide +kernel
theorem dJ6_bitCount_0f7a4_46 : decode cJ6_bitCount_0f7a4 46 = .ok (.iadd, 1) := by decide +kernel
theorem dJ6_bitCount_0f7a4_47 : decode cJ6_bitCount_0f7a4 47 = .ok (.istore_n 0, 1) := by decide +kernel
theorem dJ6_bitCount_0f7a4_48 : decode cJ6_bitCount_0f7a4 48 = .ok (.iload_n 0, 1) := by decide +kernel
theorem dJ6_bitCount_0f7a4_49 : decode cJ6_bitCount_0f7a4 49 = .ok (.bipush 63, 2) := by decide +kernel
theorem dJ6_bitCount_0f7a4_51 : decode cJ6_bitCount_0f7a4 51 = .ok (.iand, 1) := by decide +kernel
theorem dJ6_bitCount_0f7a4_52 : decode cJ6_bitCount_0f7a4 52 = .ok (.ireturn, 1) := by decide +kernel
theorem dJ9_floorDiv_7cf53_0 : decode cJ9_floorDiv_7cf53 0 = .ok (.iload_n 0, 1) := by decide +kernel
theorem dJ9_floorDiv_7cf53_1 : decode cJ9_floorDiv_7cf53 1 = .ok (.iload_n 1, 1) := by decide +kernel
theorem dJ9_floorDiv_7cf53_2 : decode cJ9_floorDiv_7cf53 2 = .ok (.idiv, 1) := by decide +kernel
theorem dJ9_floorDiv_7cf53_3 : decode cJ9_floorDiv_7cf53 3 = .ok (.istore_n 2, 1) := by decide +kernel
theorem dJ9_floorDiv_7cf53_4 : decode cJ9_floorDiv_7cf53 4 = .ok (.iload_n 0, 1) := by decide +kernel
theorem dJ9_floorDiv_7cf53_5 : decode cJ9_floorDiv_7cf53 5 = .ok (.iload_n 1, 1) := by decide +kernel
theorem dJ9_floorDiv_7cf53_6 : decode cJ9_floorDiv_7cf53 6 = .ok (.ixor, 1) := by decide +kernel
theorem dJ9_floorDiv_7cf53_7 : decode cJ9_floorDiv_7cf53 7 = .ok (.ifCond .ge 14, 3) := by decide +kernel
theorem dJ9_floorDiv_7cf53_10 : decode cJ9_floorDiv_7cf53 10 = .ok (.iload_n 2, 1) := by decide +kernel
theorem dJ9_floorDiv_7cf53_11 : decode cJ9_floorDiv_7cf53 11 = .ok (.iload_n 1, 1) := by decide +kernel
theorem dJ9_floorDiv_7cf53_12 : decode cJ9_floorDiv_7cf53 12 = .ok (.imul, 1) := by decide +kernel
theorem dJ9_floorDiv_7cf53_13 : decode cJ9_floorDiv_7cf53 13 = .ok (.iload_n 0, 1) := by decide +kernel
theorem dJ9_floorDiv_7cf53_14 : decode cJ9_floorDiv_7cf53 14 = .ok (.if_icmp .eq 7, 3) := by decide +kernel
theorem dJ9_floorDiv_7cf53_17 : decode cJ9_floorDiv_7cf53 17 = .ok (.iload_n 2, 1) := by decide +kernel
theorem dJ9_floorDiv_7cf53_18 : decode cJ9_floorDiv_7cf53 18 = .ok (.iconst 1, 1) := by decide +kernel
theorem dJ9_floorDiv_7cf53_19 : decode cJ9_floorDiv_7cf53 19 = .ok (.isub, 1) := by decide +kernel
theorem dJ9_floorDiv_7cf53_20 : decode cJ9_floorDiv_7cf53 20 = .ok (.ireturn, 1) := by decide +kernel
theorem dJ9_floorDiv_7cf53_21 : decode cJ9_floorDiv_7cf53 21 = .ok (.iload_n 2, 1) := by decide +kernel
theorem dJ9_floorDiv_7cf53_22 : decode cJ9_floorDiv_7cf53 22 = .ok (.ireturn, 1) := by decide +kernel
theorem dJ9_floorMod_7cf53_0 : decode cJ9_floorMod_7cf53 0 = .ok (.iload_n 0, 1) := by decide +kernel
theorem dJ9_floorMod_7cf53_1 : decode cJ9_floorMod_7cf53 1 = .ok (.iload_n 1, 1) := by decide +kernel
theorem dJ9_floorMod_7cf53_2 : decode cJ9_floorMod_7cf53 2 = .ok (.irem, 1) := by decide +kernel
theorem dJ9_floorMod_7cf53_3 : decode cJ9_floorMod_7cf53 3 = .ok (.istore_n 2, 1) := by decide +kernel
theorem dJ9_floorMod_7cf53_4 : decode cJ9_floorMod_7cf53 4 = .ok (.iload_n 0, 1) := by decide +kernel
theorem dJ9_floorMod_7cf53_5 : decode cJ9_floorMod_7cf53 5 = .ok (.iload_n 1, 1) := by decide +kernel
theorem dJ9_floorMod_7cf53_6 : decode cJ9_floorMod_7cf53 6 = .ok (.ixor, 1) := by decide +kernel
theorem dJ9_floorMod_7cf53_7 : decode cJ9_floorMod_7cf53 7 = .ok (.ifCond .ge 11, 3) := by decide +kernel
theorem dJ9_floorMod_7cf53_10 : decode cJ9_floorMod_7cf53 10 = .ok (.iload_n 2, 1) := by decide +kernel
theorem dJ9_floorMod_7cf53_11 : decode cJ9_floorMod_7cf53 11 = .ok (.ifCond .eq 7, 3) := by decide +kernel
theorem dJ9_floorMod_7cf53_14 : decode cJ9_floorMod_7cf53 14 = .ok (.iload_n 2, 1) := by decide +kernel
theorem dJ9_floorMod_7cf53_15 : decode cJ9_floorMod_7cf53 15 = .ok (.iload_n 1, 1) := by decide +kernel
theorem dJ9_floorMod_7cf53_16 : decode cJ9_floorMod_7cf53 16 = .ok (.iadd, 1) := by decide +kernel
theorem dJ9_floorMod_7cf53_17 : decode cJ9_floorMod_7cf53 17 = .ok (.ireturn, 1) := by decide +kernel
theorem dJ9_floorMod_7cf53_18 : decode cJ9_floorMod_7cf53 18 = .ok (.iload_n 2, 1) := by decide +kernel
theorem dJ9_floorMod_7cf53_19 : decode cJ9_floorMod_7cf53 19 = .ok (.ireturn, 1) := by decide +kernel
theorem dJ9_abs_0f7a4_0 : decode cJ9_abs_0f7a4 0 = .ok (.iload_n 0, 1) := by decide +kernel
theorem dJ9_abs_0f7a4_1 : decode cJ9_abs_0f7a4 1 = .ok (.ifCond .ge 8, 3) := by decide +kernel
theorem dJ9_abs_0f7a4_4 : decode cJ9_abs_0f7a4 4 = .ok (.iload_n 0, 1) := by decide +kernel
theorem dJ9_abs_0f7a4_5 : decode cJ9_abs_0f7a4 5 = .ok (.ineg, 1) := by decide +kernel
theorem dJ9_abs_0f7a4_6 : decode cJ9_abs_0f7a4 6 = .ok (.goto 4, 3) := by decide +kernel
theorem dJ9_abs_0f7a4_9 : decode cJ9_abs_0f7a4 9 = .ok (.iload_n 0, 1) := by decide +kernel
theorem dJ9_abs_0f7a4_10 : decode cJ9_abs_0f7a4 10 = .ok (.ireturn, 1) := by decide +kernel
theorem dJ9_max_7cf53_0 : decode cJ9_max_7cf53 0 = .ok (.iload_n 0, 1) := by decide +kernel
theorem dJ9_max_7cf53_1 : decode cJ9_max_7cf53 1 = .ok (.iload_n 1, 1) := by decide +kernel
theorem dJ9_max_7cf53_2 : decode cJ9_max_7cf53 2 = .ok (.if_icmp .lt 7, 3) := by decide +kernel
theorem dJ9_max_7cf53_5 : decode cJ9_max_7cf53 5 = .ok (.iload_n 0, 1) := by decide +kernel
theorem dJ9_max_7cf53_6 : decode cJ9_max_7cf53 6 = .ok (.goto 4, 3) := by decide +kernel
theorem dJ9_max_7cf53_9 : decode cJ9_max_7cf53 9 = .ok (.iload_n 1, 1) := by decide +kernel
theorem dJ9_max_7cf53_10 : decode cJ9_max_7cf53 10 = .ok (.ireturn, 1) := by decide +kernel
theorem dJ9_min_7cf53_0 : decode cJ9_min_7cf53 0 = .ok (.iload_n 0, 1) := by decide +kernel
theorem dJ9_min_7cf53_1 : decode cJ9_min_7cf53 1 = .ok (.iload_n 1, 1) := by decide +kernel
theorem dJ9_min_7cf53_2 : decode cJ9_min_7cf53 2 = .ok (.if_icmp .gt 7, 3) := by decide +kernel
theorem dJ9_min_7cf53_5 : decode cJ9_min_7cf53 5 = .ok (.iload_n 0, 1) := by decide +kernel
theorem dJ9_min_7cf53_6 : decode cJ9_min_7cf53 6 = .ok (.goto 4, 3) := by decide +kernel
theorem dJ9_min_7cf53_9 : decode cJ9_min_7cf53 9 = .ok (.iload_n 1, 1) := by decide +kernel
theorem dJ9_min_7cf53_10 : decode cJ9_min_7cf53 10 = .ok (.ireturn, 1) := by decide +kernel
end
section
theorem dX8_init_0 : decode cX8_init 0 = .ok (.aload_n 0, 1) := by decide +kernel
theorem dX8_init_1 : decode cX8_init 1 = .ok (.invokespecial 1, 3) := by decide +kernel
theorem dX8_init_4 : decode cX8_init 4 = .ok (.aload_n 0, 1) := by decide +kernel
theorem dX8_init_5 : decode cX8_init 5 = .ok (.bipush 30, 2) := by decide +kernel
theorem dX8_init_7 : decode cX8_init 7 = .ok (.newarray .int, 2) := by decide +kernel
theorem dX8_init_9 : decode cX8_init 9 = .ok (.putfield 7, 3) := by decide +kernel
theorem dX8_init_12 : decode cX8_init 12 = .ok (.aload_n 0, 1) := by decide +kernel
theorem dX8_init_13 : decode cX8_init 13 = .ok (.bipush 30, 2) := by decide +kernel
theorem dX8_init_15 : decode cX8_init 15 = .ok (.newarray .int, 2) := by decide +kernel
theorem dX8_init_17 : decode cX8_init 17 = .ok (.putfield 13, 3) := by decide +kernel
theorem dX8_init_20 : decode cX8_init 20 = .ok (.aload_n 0, 1) := by decide +kernel
theorem dX8_init_21 : decode cX8_init 21 = .ok (.bipush 30, 2) := by decide +kernel
theorem dX8_init_23 : decode cX8_init 23 = .ok (.newarray .boolean, 2) := by decide +kernel
theorem dX8_init_25 : decode cX8_init 25 = .ok (.putfield 16, 3) := by decide +kernel
theorem dX8_init_28 : decode cX8_init 28 = .ok (.aload_n 0, 1) := by decide +kernel
theorem dX8_init_29 : decode cX8_init 29 = .ok (.bipush 16, 2) := by decide +kernel
theorem dX8_init_31 : decode cX8_init 31 = .ok (.newarray .int, 2) := by decide +kernel
theorem dX8_init_33 : decode cX8_init 33 = .ok (.putfield 20, 3) := by decide +kernel
theorem dX8_init_36 : decode cX8_init 36 = .ok (.aload_n 0, 1) := by decide +kernel
theorem dX8_init_37 : decode cX8_init 37 = .ok (.bipush 16, 2) := by decide +kernel
theorem dX8_init_39 : decode cX8_init 39 = .ok (.newarray .int, 2) := by decide +kernel
theorem dX8_init_41 : decode cX8_init 41 = .ok (.putfield 23, 3) := by decide +kernel
theorem dX8_init_44 : decode cX8_init 44 = .ok (.aload_n 0, 1) := by decide +kernel
theorem dX8_init_45 : decode cX8_init 45 = .ok (.bipush 17, 2) := by decide +kernel
theorem dX8_init_47 : decode cX8_init 47 = .ok (.newarray .int, 2) := by decide +kernel
theorem dX8_init_49 : decode cX8_init 49 = .ok (.putfield 26, 3) := by decide +kernel
theorem dX8_init_52 : decode cX8_init 52 = .ok (.aload_n 0, 1) := by decide +kernel
theorem dX8_init_53 : decode cX8_init 53 = .ok (.bipush 17, 2) := by decide +kernel
theorem dX8_init_55 : decode cX8_init 55 = .ok (.newarray .int, 2) := by decide +kernel
theorem dX8_init_57 : decode cX8_init 57 = .ok (.putfield 29, 3) := by decide +kernel
theorem dX8_init_60 : decode cX8_init 60 = .ok (.aload_n 0, 1) := by decide +kernel
theorem dX8_init_61 : decode cX8_init 61 = .ok (.sipush 272, 3) := by decide +kernel
theorem dX8_init_64 : decode cX8_init 64 = .ok (.newarray .int, 2) := by decide +kernel
theorem dX8_init_66 : decode cX8_init 66 = .ok (.putfield 32, 3) := by decide +kernel
theorem dX8_init_69 : decode cX8_init 69 = .ok (.aload_n 0, 1) := by decide +kernel
theorem dX8_init_70 : decode cX8_init 70 = .ok (.bipush 7, 2) := by decide +kernel
theorem dX8_init_72 : decode cX8_init 72 = .ok (.newarray .int, 2) := by decide +kernel
theorem dX8_init_74 : decode cX8_init 74 = .ok (.putfield 35, 3) := by decide +kernel
theorem dX8_init_77 : decode cX8_init 77 = .ok (.aload_n 0, 1) := by decide +kernel
theorem dX8_init_78 : decode cX8_init 78 = .ok (.bipush 7, 2) := by decide +kernel
theorem dX8_init_80 : decode cX8_init 80 = .ok (.newarray .int, 2) := by decide +kernel
theorem dX8_init_82 : decode cX8_init 82 = .ok (.putfield 38, 3) := by decide +kernel
theorem dX8_init_85 : decode cX8_init 85 = .ok (.aload_n 0, 1) := by decide +kernel
theorem dX8_init_86 : decode cX8_init 86 = .ok (.bipush 7, 2) := by decide +kernel
theorem dX8_init_88 : decode cX8_init 88 = .ok (.newarray .int, 2) := by decide +kernel
theorem dX8_init_90 : decode cX8_init 90 = .ok (.putfield 41, 3) := by decide +kernel
theorem dX8_init_93 : decode cX8_init 93 = .ok (.aload_n 0, 1) := by decide +kernel
theorem dX8_init_94 : decode cX8_init 94 = .ok (.bipush 7, 2) := by decide +kernel
theorem dX8_init_96 : decode cX8_init 96 = .ok (.newarray .int, 2) := by decide +kernel
theorem dX8_init_98 : decode cX8_init 98 = .ok (.putfield 44, 3) := by decide +kernel
theorem dX8_init_101 : decode cX8_init 101 = .ok (.aload_n 0, 1) := by decide +kernel
theorem dX8_init_102 : decode cX8_init 102 = .ok (.bipush 112, 2) := by decide +kernel
theorem dX8_init_104 : decode cX8_init 104 = .ok (.newarray .int, 2) := by decide +kernel
theorem dX8_init_106 : decode cX8_init 106 = .ok (.putfield 47, 3) := by decide +kernel
theorem dX8_init_109 : decode cX8_init 109 = .ok (.aload_n 0, 1) := by decide +kernel
theorem dX8_init_110 : decode cX8_init 110 = .ok (.sipush 20000, 3) := by decide +kernel
theorem dX8_init_113 : decode cX8_init 113 = .ok (.putfield 50, 3) := by decide +kernel
theorem dX8_init_116 : decode cX8_init 116 = .ok (.aload_n 0, 1) := by decide +kernel
theorem dX8_init_117 : decode cX8_init 117 = .ok (.bipush 16, 2) := by decide +kernel
theorem dX8_init_119 : decode cX8_init 119 = .ok (.newarray .int, 2) := by decide +kernel
theorem dX8_init_121 : decode cX8_init 121 = .ok (.putfield 54, 3) := by decide +kernel
theorem dX8_init_124 : decode cX8_init 124 = .ok (.aload_n 0, 1) := by decide +kernel
theorem dX8_init_125 : decode cX8_init 125 = .ok (.sipush 256, 3) := by decide +kernel
theorem dX8_init_128 : decode cX8_init 128 = .ok (.newarray .int, 2) := by decide +kernel
theorem dX8_init_130 : decode cX8_init 130 = .ok (.putfield 57, 3) := by decide +kernel
theorem dX8_init_133 : decode cX8_init 133 = .ok (.aload_n 0, 1) := by decide +kernel
theorem dX8_init_134 : decode cX8_init 134 = .ok (.bipush 40, 2) := by decide +kernel
theorem dX8_init_136 : decode cX8_init 136 = .ok (.newarray .int, 2) := by decide +kernel
theorem dX8_init_138 : decode cX8_init 138 = .ok (.putfield 60, 3) := by decide +kernel
theorem dX8_init_141 : decode cX8_init 141 = .ok (.aload_n 0, 1) := by decide +kernel
theorem dX8_init_142 : decode cX8_init 142 = .ok (.bipush 10, 2) := by decide +kernel
theorem dX8_init_144 : decode cX8_init 144 = .ok (.newarray .int, 2) := by decide +kernel
theorem dX8_init_146 : decode cX8_init 146 = .ok (.putfield 63, 3) := by decide +kernel
theorem dX8_init_149 : decode cX8_init 149 = .ok (.aload_n 0, 1) := by decide +kernel
theorem dX8_init_150 : decode cX8_init 150 = .ok (.bipush 10, 2) := by decide +kernel
theorem dX8_init_152 : decode cX8_init 152 = .ok (.newarray .int, 2) := by decide +kernel
theorem dX8_init_154 : decode cX8_init 154 = .ok (.putfield 66, 3) := by decide +kernel
theorem dX8_init_157 : decode cX8_init 157 = .ok (.aload_n 0, 1) := by decide +kernel
theorem dX8_init_158 : decode cX8_init 158 = .ok (.bipush 10, 2) := by decide +kernel
theorem dX8_init_160 : decode cX8_init 160 = .ok (.newarray .int, 2) := by decide +kernel
theorem dX8_init_162 : decode cX8_init 162 = .ok (.putfield 69, 3) := by decide +kernel
theorem dX8_init_165 : decode cX8_init 165 = .ok (.aload_n 0, 1) := by decide +kernel
theorem dX8_init_166 : decode cX8_init 166 = .ok (.bipush 40, 2) := by decide +kernel
theorem dX8_init_168 : decode cX8_init 168 = .ok (.newarray .int, 2) := by decide +kernel
theorem dX8_init_170 : decode cX8_init 170 = .ok (.putfield 72, 3) := by decide +kernel
theorem dX8_init_173 : decode cX8_init 173 = .ok (.aload_n 0, 1) := by decide +kernel
theorem dX8_init_174 : decode cX8_init 174 = .ok (.iconst 4, 1) := by decide +kernel
theorem dX8_init_175 : decode cX8_init 175 = .ok (.newarray .int, 2) := by decide +kernel
theorem dX8_init_177 : decode cX8_init 177 = .ok (.putfield 75, 3) := by decide +kernel
theorem dX8_init_180 : decode cX8_init 180 = .ok (.aload_n 0, 1) := by decide +kernel
theorem dX8_init_181 : decode cX8_init 181 = .ok (.iconst 4, 1) := by decide +kernel
theorem dX8_init_182 : decode cX8_init 182 = .ok (.newarray .int, 2) := by decide +kernel
theorem dX8_init_184 : decode cX8_init 184 = .ok (.putfield 78, 3) := by decide +kernel
theorem dX8_init_187 : decode cX8_init 187 = .ok (.aload_n 0, 1) := by decide +kernel
theorem dX8_init_188 : decode cX8_init 188 = .ok (.sipush 240, 3) := by decide +kernel
theorem dX8_init_191 : decode cX8_init 191 = .ok (.newarray .int, 2) := by decide +kernel
theorem dX8_init_193 : decode cX8_init 193 = .ok (.putfield 81, 3) := by decide +kernel
theorem dX8_init_196 : decode cX8_init 196 = .ok (.iconst 0, 1) := by decide +kernel
theorem dX8_init_197 : decode cX8_init 197 = .ok (.istore_n 1, 1) := by decide +kernel
theorem dX8_init_198 : decode cX8_init 198 = .ok (.iload_n 1, 1) := by decide +kernel
theorem dX8_init_199 : decode cX8_init 199 = .ok (.iconst 4, 1) := by decide +kernel
theorem dX8_init_200 : decode cX8_init 200 = .ok (.if_icmp .ge 17, 3) := by decide +kernel
theorem dX8_init_203 : decode cX8_init 203 = .ok (.aload_n 0, 1) := by decide +kernel
theorem dX8_init_204 : decode cX8_init 204 = .ok (.getfield 75, 3) := by decide +kernel
theorem dX8_init_207 : decode cX8_init 207 = .ok (.iload_n 1, 1) := by decide +kernel
theorem dX8_init_208 : decode cX8_init 208 = .ok (.bipush (-4), 2) := by decide +kernel
theorem dX8_init_210 : decode cX8_init 210 = .ok (.iastore, 1) := by decide +kernel
theorem dX8_init_211 : decode cX8_init 211 = .ok (.iinc 1 1, 3) := by decide +kernel
theorem dX8_init_214 : decode cX8_init 214 = .ok (.goto (-16), 3) := by decide +kernel
theorem dX8_init_217 : decode cX8_init 217 = .ok (.return_, 1) := by decide +kernel
theorem dX8_in_0 : decode cX8_in 0 = .ok (.lload_n 0, 1) := by decide +kernel
theorem dX8_in_1 : decode cX8_in 1 = .ok (.lload_n 2, 1) := by decide +kernel
theorem dX8_in_2 : decode cX8_in 2 = .ok (.lcmp, 1) := by decide +kernel
theorem dX8_in_3 : decode cX8_in 3 = .ok (.ifCond .lt 14, 3) := by decide +kernel
theorem dX8_in_6 : decode cX8_in 6 = .ok (.lload_n 0, 1) := by decide +kernel
theorem dX8_in_7 : decode cX8_in 7 = .ok (.lload 4, 2) := by decide +kernel
theorem dX8_in_9 : decode cX8_in 9 = .ok (.lcmp, 1) := by decide +kernel
theorem dX8_in_10 : decode cX8_in 10 = .ok (.ifCond .gt 7, 3) := by decide +kernel
theorem dX8_in_13 : decode cX8_in 13 = .ok (.iconst 1, 1) := by decide +kernel
theorem dX8_in_14 : decode cX8_in 14 = .ok (.goto 4, 3) := by decide +kernel
theorem dX8_in_17 : decode cX8_in 17 = .ok (.iconst 0, 1) := by decide +kernel
theorem dX8_in_18 : decode cX8_in 18 = .ok (.ireturn, 1) := by decide +kernel
theorem dX8_down_0 : decode cX8_down 0 = .ok (.lload_n 0, 1) := by decide +kernel
theorem dX8_down_1 : decode cX8_down 1 = .ok (.lload_n 2, 1) := by decide +kernel
theorem dX8_down_2 : decode cX8_down 2 = .ok (.ldiv, 1) := by decide +kernel
theorem dX8_down_3 : decode cX8_down 3 = .ok (.lstore 4, 2) := by decide +kernel
theorem dX8_down_5 : decode cX8_down 5 = .ok (.lload_n 0, 1) := by decide +kernel
theorem dX8_down_6 : decode cX8_down 6 = .ok (.lload_n 2, 1) := by decide +kernel
theorem dX8_down_7 : decode cX8_down 7 = .ok (.lrem, 1) := by decide +kernel
theorem dX8_down_8 : decode cX8_down 8 = .ok (.lconst 0, 1) := by decide +kernel
theorem dX8_down_9 : decode cX8_down 9 = .ok (.lcmp, 1) := by decide +kernel
theorem dX8_down_10 : decode cX8_down 10 = .ok (.ifCond .ge 10, 3) := by decide +kernel
theorem dX8_down_13 : decode cX8_down 13 = .ok (.lload 4, 2) := by decide +kernel
theorem dX8_down_15 : decode cX8_down 15 = .ok (.lconst 1, 1) := by decide +kernel
theorem dX8_down_16 : decode cX8_down 16 = .ok (.lsub, 1) := by decide +kernel
theorem dX8_down_17 : decode cX8_down 17 = .ok (.goto 5, 3) := by decide +kernel
theorem dX8_down_20 : decode cX8_down 20 = .ok (.lload 4, 2) := by decide +kernel
theorem dX8_down_22 : decode cX8_down 22 = .ok (.lreturn, 1) := by decide +kernel
theorem dX8_plain_0 : decode cX8_plain 0 = .ok (.iload_n 0, 1) := by decide +kernel
theorem dX8_plain_1 : decode cX8_plain 1 = .ok (.ifCond .ge 8, 3) := by decide +kernel
theorem dX8_plain_4 : decode cX8_plain 4 = .ok (.iload_n 0, 1) := by decide +kernel
theorem dX8_plain_5 : decode cX8_plain 5 = .ok (.ineg, 1) := by decide +kernel
theorem dX8_plain_6 : decode cX8_plain 6 = .ok (.goto 4, 3) := by decide +kernel
theorem dX8_plain_9 : decode cX8_plain 9 = .ok (.iload_n 0, 1) := by decide +kernel
theorem dX8_plain_10 : decode cX8_plain 10 = .ok (.ireturn, 1) := by decide +kernel
set_option maxRecDepth 20000 in
theorem ggX8_point_X8_in : GoodIn wsX8_point wsX8_in := goodIn_r _ [10] (by decide +kernel) (by decide +kernel)
set_option maxRecDepth 20000 in
theorem gX8_point_X8_in : GoodIn wsX8_point (va_wsS RX8 88 yX8_in wsX8_in) := goodIn_app (goodIn_of _ (by decide +kernel)) ggX8_point_X8_in
theorem dX8_point_0 : decode cX8_point 0 = .ok (.iload_n 1, 1) := by decide +kernel
theorem dX8_point_1 : decode cX8_point 1 = .ok (.i2l, 1) := by decide +kernel
theorem dX8_point_2 : decode cX8_point 2 = .ok (.ldc2_w 84, 3) := by decide +kernel
theorem dX8_point_5 : decode cX8_point 5 = .ok (.ldc2_w 86, 3) := by decide +kernel
theorem dX8_point_8 : decode cX8_point 8 = .ok (.invokestatic 88, 3) := by decide +kernel
theorem dX8_point_11 : decode cX8_point 11 = .ok (.ifCond .eq 17, 3) := by decide +kernel
theorem dX8_point_14 : decode cX8_point 14 = .ok (.iload_n 2, 1) := by decide +kernel
theorem dX8_point_15 : decode cX8_point 15 = .ok (.i2l, 1) := by decide +kernel
theorem dX8_point_16 : decode cX8_point 16 = .ok (.ldc2_w 84, 3) := by decide +kernel
theorem dX8_point_19 : decode cX8_point 19 = .ok (.ldc2_w 86, 3) := by decide +kernel
theorem dX8_point_22 : decode cX8_point 22 = .ok (.invokestatic 88, 3) := by decide +kernel
theorem dX8_point_25 : decode cX8_point 25 = .ok (.ifCond .ne 5, 3) := by decide +kernel
theorem dX8_point_28 : decode cX8_point 28 = .ok (.iconst (-1), 1) := by decide +kernel
theorem dX8_point_29 : decode cX8_point 29 = .ok (.ireturn, 1) := by decide +kernel
theorem dX8_point_30 : decode cX8_point 30 = .ok (.aload_n 0, 1) := by decide +kernel
theorem dX8_point_31 : decode cX8_point 31 = .ok (.getfield 92, 3) := by decide +kernel
theorem dX8_point_34 : decode cX8_point 34 = .ok (.bipush 30, 2) := by decide +kernel
theorem dX8_point_36 : decode cX8_point 36 = .ok (.if_icmp .ne 6, 3) := by decide +kernel
theorem dX8_point_39 : decode cX8_point 39 = .ok (.bipush (-3), 2) := by decide +kernel
theorem dX8_point_41 : decode cX8_point 41 = .ok (.ireturn, 1) := by decide +kernel
theorem dX8_point_42 : decode cX8_point 42 = .ok (.aload_n 0, 1) := by decide +kernel
theorem dX8_point_43 : decode cX8_point 43 = .ok (.getfield 7, 3) := by decide +kernel
theorem dX8_point_46 : decode cX8_point 46 = .ok (.aload_n 0, 1) := by decide +kernel
theorem dX8_point_47 : decode cX8_point 47 = .ok (.getfield 92, 3) := by decide +kernel
theorem dX8_point_50 : decode cX8_point 50 = .ok (.iload_n 1, 1) := by decide +kernel
theorem dX8_point_51 : decode cX8_point 51 = .ok (.iastore, 1) := by decide +kernel
theorem dX8_point_52 : decode cX8_point 52 = .ok (.aload_n 0, 1) := by decide +kernel
theorem dX8_point_53 : decode cX8_point 53 = .ok (.getfield 13, 3) := by decide +kernel
theorem dX8_point_56 : decode cX8_point 56 = .ok (.aload_n 0, 1) := by decide +kernel
theorem dX8_point_57 : decode cX8_point 57 = .ok (.getfield 92, 3) := by decide +kernel
theorem dX8_point_60 : decode cX8_point 60 = .ok (.iload_n 2, 1) := by decide +kernel
theorem dX8_point_61 : decode cX8_point 61 = .ok (.iastore, 1) := by decide +kernel
theorem dX8_point_62 : decode cX8_point 62 = .ok (.aload_n 0, 1) := by decide +kernel
theorem dX8_point_63 : decode cX8_point 63 = .ok (.getfield 16, 3) := by decide +kernel
theorem dX8_point_66 : decode cX8_point 66 = .ok (.aload_n 0, 1) := by decide +kernel
theorem dX8_point_67 : decode cX8_point 67 = .ok (.getfield 92, 3) := by decide +kernel
theorem dX8_point_70 : decode cX8_point 70 = .ok (.iload_n 3, 1) := by decide +kernel
theorem dX8_point_71 : decode cX8_point 71 = .ok (.ifCond .eq 14, 3) := by decide +kernel
theorem dX8_point_74 : decode cX8_point 74 = .ok (.aload_n 0, 1) := by decide +kernel
theorem dX8_point_75 : decode cX8_point 75 = .ok (.getfield 92, 3) := by decide +kernel
theorem dX8_point_78 : decode cX8_point 78 = .ok (.ifCond .le 7, 3) := by decide +kernel
theorem dX8_point_81 : decode cX8_point 81 = .ok (.iconst 1, 1) := by decide +kernel
theorem dX8_point_82 : decode cX8_point 82 = .ok (.goto 4, 3) := by decide +kernel
theorem dX8_point_85 : decode cX8_point 85 = .ok (.iconst 0, 1) := by decide +kernel
theorem dX8_point_86 : decode cX8_point 86 = .ok (.bastore, 1) := by decide +kernel
theorem dX8_point_87 : decode cX8_point 87 = .ok (.aload_n 0, 1) := by decide +kernel
theorem dX8_point_88 : decode cX8_point 88 = .ok (.dup, 1) := by decide +kernel
theorem dX8_point_89 : decode cX8_point 89 = .ok (.getfield 92, 3) := by decide +kernel
theorem dX8_point_92 : decode cX8_point 92 = .ok (.iconst 1, 1) := by decide +kernel
theorem dX8_point_93 : decode cX8_point 93 = .ok (.iadd, 1) := by decide +kernel
theorem dX8_point_94 : decode cX8_point 94 = .ok (.putfield 92, 3) := by decide +kernel
theorem dX8_point_97 : decode cX8_point 97 = .ok (.aload_n 0, 1) := by decide +kernel
theorem dX8_point_98 : decode cX8_point 98 = .ok (.getfield 92, 3) := by decide +kernel
theorem dX8_point_101 : decode cX8_point 101 = .ok (.ireturn, 1) := by decide +kernel
theorem dX8_clear_0 : decode cX8_clear 0 = .ok (.aload_n 0, 1) := by decide +kernel
theorem dX8_clear_1 : decode cX8_clear 1 = .ok (.getfield 92, 3) := by decide +kernel
theorem dX8_clear_4 : decode cX8_clear 4 = .ok (.istore_n 1, 1) := by decide +kernel
theorem dX8_clear_5 : decode cX8_clear 5 = .ok (.aload_n 0, 1) := by decide +kernel
theorem dX8_clear_6 : decode cX8_clear 6 = .ok (.iconst 0, 1) := by decide +kernel
theorem dX8_clear_7 : decode cX8_clear 7 = .ok (.putfield 92, 3) := by decide +kernel
theorem dX8_clear_10 : decode cX8_clear 10 = .ok (.iload_n 1, 1) := by decide +kernel
theorem dX8_clear_11 : decode cX8_clear 11 = .ok (.ireturn, 1) := by decide +kernel
set_option maxRecDepth 20000 in
theorem ggX8_drawn_X8_plain : GoodIn wsX8_drawn wsX8_plain := goodIn_r _ [7] (by decide +kernel) (by decide +kernel)
set_option maxRecDepth 20000 in
theorem gX8_drawn_X8_plain : GoodIn wsX8_drawn (va_wsS RX8 95 yX8_plain wsX8_plain) := goodIn_app (goodIn_of _ (by decide +kernel)) ggX8_drawn_X8_plain
theorem dX8_drawn_0 : decode cX8_drawn 0 = .ok (.iload_n 1, 1) := by decide +kernel
theorem dX8_drawn_1 : decode cX8_drawn 1 = .ok (.ifCond .eq 12, 3) := by decide +kernel
theorem dX8_drawn_4 : decode cX8_drawn 4 = .ok (.aload_n 0, 1) := by decide +kernel
theorem dX8_drawn_5 : decode cX8_drawn 5 = .ok (.getfield 16, 3) := by decide +kernel
theorem dX8_drawn_8 : decode cX8_drawn 8 = .ok (.iload_n 1, 1) := by decide +kernel
theorem dX8_drawn_9 : decode cX8_drawn 9 = .ok (.baload, 1) := by decide +kernel
theorem dX8_drawn_10 : decode cX8_drawn 10 = .ok (.ifCond .eq 7, 3) := by decide +kernel
theorem dX8_drawn_13 : decode cX8_drawn 13 = .ok (.iconst 0, 1) := by decide +kernel
theorem dX8_drawn_14 : decode cX8_drawn 14 = .ok (.goto 40, 3) := by decide +kernel
theorem dX8_drawn_17 : decode cX8_drawn 17 = .ok (.aload_n 0, 1) := by decide +kernel
theorem dX8_drawn_18 : decode cX8_drawn 18 = .ok (.getfield 7, 3) := by decide +kernel
theorem dX8_drawn_21 : decode cX8_drawn 21 = .ok (.iload_n 1, 1) := by decide +kernel
theorem dX8_drawn_22 : decode cX8_drawn 22 = .ok (.iaload, 1) := by decide +kernel
theorem dX8_drawn_23 : decode cX8_drawn 23 = .ok (.aload_n 0, 1) := by decide +kernel
theorem dX8_drawn_24 : decode cX8_drawn 24 = .ok (.getfield 7, 3) := by decide +kernel
theorem dX8_drawn_27 : decode cX8_drawn 27 = .ok (.iload_n 1, 1) := by decide +kernel
theorem dX8_drawn_28 : decode cX8_drawn 28 = .ok (.iconst 1, 1) := by decide +kernel
theorem dX8_drawn_29 : decode cX8_drawn 29 = .ok (.isub, 1) := by decide +kernel
theorem dX8_drawn_30 : decode cX8_drawn 30 = .ok (.iaload, 1) := by decide +kernel
theorem dX8_drawn_31 : decode cX8_drawn 31 = .ok (.isub, 1) := by decide +kernel
theorem dX8_drawn_32 : decode cX8_drawn 32 = .ok (.invokestatic 95, 3) := by decide +kernel
theorem dX8_drawn_35 : decode cX8_drawn 35 = .ok (.aload_n 0, 1) := by decide +kernel
theorem dX8_drawn_36 : decode cX8_drawn 36 = .ok (.getfield 13, 3) := by decide +kernel
theorem dX8_drawn_39 : decode cX8_drawn 39 = .ok (.iload_n 1, 1) := by decide +kernel
theorem dX8_drawn_40 : decode cX8_drawn 40 = .ok (.iaload, 1) := by decide +kernel
theorem dX8_drawn_41 : decode cX8_drawn 41 = .ok (.aload_n 0, 1) := by decide +kernel
theorem dX8_drawn_42 : decode cX8_drawn 42 = .ok (.getfield 13, 3) := by decide +kernel
theorem dX8_drawn_45 : decode cX8_drawn 45 = .ok (.iload_n 1, 1) := by decide +kernel
theorem dX8_drawn_46 : decode cX8_drawn 46 = .ok (.iconst 1, 1) := by decide +kernel
theorem dX8_drawn_47 : decode cX8_drawn 47 = .ok (.isub, 1) := by decide +kernel
theorem dX8_drawn_48 : decode cX8_drawn 48 = .ok (.iaload, 1) := by decide +kernel
theorem dX8_drawn_49 : decode cX8_drawn 49 = .ok (.isub, 1) := by decide +kernel
theorem dX8_drawn_50 : decode cX8_drawn 50 = .ok (.invokestatic 95, 3) := by decide +kernel
theorem dX8_drawn_53 : decode cX8_drawn 53 = .ok (.iadd, 1) := by decide +kernel
theorem dX8_drawn_54 : decode cX8_drawn 54 = .ok (.ireturn, 1) := by decide +kernel
set_option maxRecDepth 20000 in
theorem ggX8_way_X8_drawn : GoodIn wsX8_way wsX8_drawn := goodIn_r _ [6, 7, 8, 9, 10, 11, 5, 12, 13, 14, 15, 16, 17, 18, 19, 20, 21, 22, 23, 24, 25, 26, 27, 28, 29, 30, 31, 32, 33, 34, 35, 36, 37, 38, 39, 40, 41, 42, 43, 44] (by decide +kernel) (by decide +kernel)
set_option maxRecDepth 20000 in
theorem gX8_way_X8_drawn : GoodIn wsX8_way (wsV RX8 99 RX8 yX8_drawn wsX8_drawn) := goodIn_app (goodIn_of _ (by decide +kernel)) ggX8_way_X8_drawn
theorem dX8_way_0 : decode cX8_way 0 = .ok (.iconst 0, 1) := by decide +kernel
theorem dX8_way_1 : decode cX8_way 1 = .ok (.istore_n 1, 1) := by decide +kernel
theorem dX8_way_2 : decode cX8_way 2 = .ok (.iconst 0, 1) := by decide +kernel
theorem dX8_way_3 : decode cX8_way 3 = .ok (.istore_n 2, 1) := by decide +kernel
theorem dX8_way_4 : decode cX8_way 4 = .ok (.iload_n 2, 1) := by decide +kernel
theorem dX8_way_5 : decode cX8_way 5 = .ok (.aload_n 0, 1) := by decide +kernel
theorem dX8_way_6 : decode cX8_way 6 = .ok (.getfield 92, 3) := by decide +kernel
theorem dX8_way_9 : decode cX8_way 9 = .ok (.if_icmp .ge 17, 3) := by decide +kernel
theorem dX8_way_12 : decode cX8_way 12 = .ok (.iload_n 1, 1) := by decide +kernel
theorem dX8_way_13 : decode cX8_way 13 = .ok (.aload_n 0, 1) := by decide +kernel
theorem dX8_way_14 : decode cX8_way 14 = .ok (.iload_n 2, 1) := by decide +kernel
theorem dX8_way_15 : decode cX8_way 15 = .ok (.invokevirtual 99, 3) := by decide +kernel
theorem dX8_way_18 : decode cX8_way 18 = .ok (.iadd, 1) := by decide +kernel
theorem dX8_way_19 : decode cX8_way 19 = .ok (.istore_n 1, 1) := by decide +kernel
theorem dX8_way_20 : decode cX8_way 20 = .ok (.iinc 2 1, 3) := by decide +kernel
theorem dX8_way_23 : decode cX8_way 23 = .ok (.goto (-19), 3) := by decide +kernel
theorem dX8_way_26 : decode cX8_way 26 = .ok (.iload_n 1, 1) := by decide +kernel
theorem dX8_way_27 : decode cX8_way 27 = .ok (.ireturn, 1) := by decide +kernel
set_option maxRecDepth 20000 in
theorem ggX8_findEvens_X8_way : GoodIn wsX8_findEvens wsX8_way := goodIn_r _ [9, 10, 11, 12, 13, 8, 14, 15, 3, 4, 16, 17, 18, 22, 23, 24, 25, 26, 27, 28, 29, 30, 31, 32, 33, 34, 35, 36, 37, 38, 39, 40, 41, 42, 43, 44, 45, 46, 47, 48, 49, 50, 51, 52, 53] (by decide +kernel) (by decide +kernel)
set_option maxRecDepth 20000 in
theorem gX8_findEvens_X8_way : GoodIn wsX8_findEvens (wsV RX8 102 RX8 yX8_way wsX8_way) := goodIn_app (goodIn_of _ (by decide +kernel)) ggX8_findEvens_X8_way
set_option maxRecDepth 20000 in
theorem ggX8_findEvens_X8_drawn : GoodIn wsX8_findEvens wsX8_drawn := goodIn_r _ [14, 15, 3, 4, 16, 17, 8, 18, 22, 23, 24, 25, 26, 27, 28, 29, 30, 31, 32, 33, 34, 35, 36, 37, 38, 39, 40, 41, 42, 43, 44, 45, 46, 47, 48, 49, 50, 51, 52, 53] (by decide +kernel) (by decide +kernel)
set_option maxRecDepth 20000 in
theorem gX8_findEvens_X8_drawn : GoodIn wsX8_findEvens (wsV RX8 99 RX8 yX8_drawn wsX8_drawn) := goodIn_app (goodIn_of _ (by decide +kernel)) ggX8_findEvens_X8_drawn
set_option maxRecDepth 20000 in
theorem ggX8_findEvens_X8_down : GoodIn wsX8_findEvens wsX8_down := goodIn_r _ [21] (by decide +kernel) (by decide +kernel)
set_option maxRecDepth 20000 in
theorem gX8_findEvens_X8_down : GoodIn wsX8_findEvens (va_wsS RX8 106 yX8_down wsX8_down) := goodIn_app (goodIn_of _ (by decide +kernel)) ggX8_findEvens_X8_down
theorem dX8_findEvens_0 : decode cX8_findEvens 0 = .ok (.aload_n 0, 1) := by decide +kernel
theorem dX8_findEvens_1 : decode cX8_findEvens 1 = .ok (.invokevirtual 102, 3) := by decide +kernel
theorem dX8_findEvens_4 : decode cX8_findEvens 4 = .ok (.istore_n 1, 1) := by decide +kernel
theorem dX8_findEvens_5 : decode cX8_findEvens 5 = .ok (.iconst 0, 1) := by decide +kernel
theorem dX8_findEvens_6 : decode cX8_findEvens 6 = .ok (.istore_n 2, 1) := by decide +kernel
theorem dX8_findEvens_7 : decode cX8_findEvens 7 = .ok (.iload_n 2, 1) := by decide +kernel
theorem dX8_findEvens_8 : decode cX8_findEvens 8 = .ok (.bipush 8, 2) := by decide +kernel
theorem dX8_findEvens_10 : decode cX8_findEvens 10 = .ok (.if_icmp .ge 184, 3) := by decide +kernel
theorem dX8_findEvens_13 : decode cX8_findEvens 13 = .ok (.iconst 0, 1) := by decide +kernel
theorem dX8_findEvens_14 : decode cX8_findEvens 14 = .ok (.istore_n 3, 1) := by decide +kernel
theorem dX8_findEvens_15 : decode cX8_findEvens 15 = .ok (.iconst 1, 1) := by decide +kernel
theorem dX8_findEvens_16 : decode cX8_findEvens 16 = .ok (.istore 4, 2) := by decide +kernel
theorem dX8_findEvens_18 : decode cX8_findEvens 18 = .ok (.aload_n 0, 1) := by decide +kernel
theorem dX8_findEvens_19 : decode cX8_findEvens 19 = .ok (.iload 4, 2) := by decide +kernel
theorem dX8_findEvens_21 : decode cX8_findEvens 21 = .ok (.invokevirtual 99, 3) := by decide +kernel
theorem dX8_findEvens_24 : decode cX8_findEvens 24 = .ok (.ifCond .eq 20, 3) := by decide +kernel
theorem dX8_findEvens_27 : decode cX8_findEvens 27 = .ok (.iload_n 2, 1) := by decide +kernel
theorem dX8_findEvens_28 : decode cX8_findEvens 28 = .ok (.iload_n 1, 1) := by decide +kernel
theorem dX8_findEvens_29 : decode cX8_findEvens 29 = .ok (.imul, 1) := by decide +kernel
theorem dX8_findEvens_30 : decode cX8_findEvens 30 = .ok (.bipush 7, 2) := by decide +kernel
theorem dX8_findEvens_32 : decode cX8_findEvens 32 = .ok (.iload_n 3, 1) := by decide +kernel
theorem dX8_findEvens_33 : decode cX8_findEvens 33 = .ok (.aload_n 0, 1) := by decide +kernel
theorem dX8_findEvens_34 : decode cX8_findEvens 34 = .ok (.iload 4, 2) := by decide +kernel
theorem dX8_findEvens_36 : decode cX8_findEvens 36 = .ok (.invokevirtual 99, 3) := by decide +kernel
theorem dX8_findEvens_39 : decode cX8_findEvens 39 = .ok (.iadd, 1) := by decide +kernel
theorem dX8_findEvens_40 : decode cX8_findEvens 40 = .ok (.imul, 1) := by decide +kernel
theorem dX8_findEvens_41 : decode cX8_findEvens 41 = .ok (.if_icmp .le 18, 3) := by decide +kernel
theorem dX8_findEvens_44 : decode cX8_findEvens 44 = .ok (.iload_n 3, 1) := by decide +kernel
theorem dX8_findEvens_45 : decode cX8_findEvens 45 = .ok (.aload_n 0, 1) := by decide +kernel
theorem dX8_findEvens_46 : decode cX8_findEvens 46 = .ok (.iload 4, 2) := by decide +kernel
theorem dX8_findEvens_48 : decode cX8_findEvens 48 = .ok (.invokevirtual 99, 3) := by decide +kernel
theorem dX8_findEvens_51 : decode cX8_findEvens 51 = .ok (.iadd, 1) := by decide +kernel
theorem dX8_findEvens_52 : decode cX8_findEvens 52 = .ok (.istore_n 3, 1) := by decide +kernel
theorem dX8_findEvens_53 : decode cX8_findEvens 53 = .ok (.iinc 4 1, 3) := by decide +kernel
theorem dX8_findEvens_56 : decode cX8_findEvens 56 = .ok (.goto (-38), 3) := by decide +kernel
theorem dX8_findEvens_59 : decode cX8_findEvens 59 = .ok (.aload_n 0, 1) := by decide +kernel
theorem dX8_findEvens_60 : decode cX8_findEvens 60 = .ok (.iload 4, 2) := by decide +kernel
theorem dX8_findEvens_62 : decode cX8_findEvens 62 = .ok (.invokevirtual 99, 3) := by decide +kernel
theorem dX8_findEvens_65 : decode cX8_findEvens 65 = .ok (.istore 5, 2) := by decide +kernel
theorem dX8_findEvens_67 : decode cX8_findEvens 67 = .ok (.ldc2_w 86, 3) := by decide +kernel
theorem dX8_findEvens_70 : decode cX8_findEvens 70 = .ok (.iload_n 2, 1) := by decide +kernel
theorem dX8_findEvens_71 : decode cX8_findEvens 71 = .ok (.iload_n 1, 1) := by decide +kernel
theorem dX8_findEvens_72 : decode cX8_findEvens 72 = .ok (.imul, 1) := by decide +kernel
theorem dX8_findEvens_73 : decode cX8_findEvens 73 = .ok (.bipush 7, 2) := by decide +kernel
theorem dX8_findEvens_75 : decode cX8_findEvens 75 = .ok (.iload_n 3, 1) := by decide +kernel
theorem dX8_findEvens_76 : decode cX8_findEvens 76 = .ok (.imul, 1) := by decide +kernel
theorem dX8_findEvens_77 : decode cX8_findEvens 77 = .ok (.isub, 1) := by decide +kernel
theorem dX8_findEvens_78 : decode cX8_findEvens 78 = .ok (.i2l, 1) := by decide +kernel
theorem dX8_findEvens_79 : decode cX8_findEvens 79 = .ok (.lmul, 1) := by decide +kernel
theorem dX8_findEvens_80 : decode cX8_findEvens 80 = .ok (.lstore 6, 2) := by decide +kernel
theorem dX8_findEvens_82 : decode cX8_findEvens 82 = .ok (.aload_n 0, 1) := by decide +kernel
theorem dX8_findEvens_83 : decode cX8_findEvens 83 = .ok (.getfield 20, 3) := by decide +kernel
theorem dX8_findEvens_86 : decode cX8_findEvens 86 = .ok (.iconst 2, 1) := by decide +kernel
theorem dX8_findEvens_87 : decode cX8_findEvens 87 = .ok (.iload_n 2, 1) := by decide +kernel
theorem dX8_findEvens_88 : decode cX8_findEvens 88 = .ok (.imul, 1) := by decide +kernel
theorem dX8_findEvens_89 : decode cX8_findEvens 89 = .ok (.bipush 100, 2) := by decide +kernel
theorem dX8_findEvens_91 : decode cX8_findEvens 91 = .ok (.aload_n 0, 1) := by decide +kernel
theorem dX8_findEvens_92 : decode cX8_findEvens 92 = .ok (.getfield 7, 3) := by decide +kernel
theorem dX8_findEvens_95 : decode cX8_findEvens 95 = .ok (.iload 4, 2) := by decide +kernel
theorem dX8_findEvens_97 : decode cX8_findEvens 97 = .ok (.iconst 1, 1) := by decide +kernel
theorem dX8_findEvens_98 : decode cX8_findEvens 98 = .ok (.isub, 1) := by decide +kernel
theorem dX8_findEvens_99 : decode cX8_findEvens 99 = .ok (.iaload, 1) := by decide +kernel
theorem dX8_findEvens_100 : decode cX8_findEvens 100 = .ok (.imul, 1) := by decide +kernel
theorem dX8_findEvens_101 : decode cX8_findEvens 101 = .ok (.aload_n 0, 1) := by decide +kernel
theorem dX8_findEvens_102 : decode cX8_findEvens 102 = .ok (.getfield 7, 3) := by decide +kernel
theorem dX8_findEvens_105 : decode cX8_findEvens 105 = .ok (.iload 4, 2) := by decide +kernel
theorem dX8_findEvens_107 : decode cX8_findEvens 107 = .ok (.iaload, 1) := by decide +kernel
theorem dX8_findEvens_108 : decode cX8_findEvens 108 = .ok (.aload_n 0, 1) := by decide +kernel
theorem dX8_findEvens_109 : decode cX8_findEvens 109 = .ok (.getfield 7, 3) := by decide +kernel
theorem dX8_findEvens_112 : decode cX8_findEvens 112 = .ok (.iload 4, 2) := by decide +kernel
theorem dX8_findEvens_114 : decode cX8_findEvens 114 = .ok (.iconst 1, 1) := by decide +kernel
theorem dX8_findEvens_115 : decode cX8_findEvens 115 = .ok (.isub, 1) := by decide +kernel
theorem dX8_findEvens_116 : decode cX8_findEvens 116 = .ok (.iaload, 1) := by decide +kernel
theorem dX8_findEvens_117 : decode cX8_findEvens 117 = .ok (.isub, 1) := by decide +kernel
theorem dX8_findEvens_118 : decode cX8_findEvens 118 = .ok (.i2l, 1) := by decide +kernel
theorem dX8_findEvens_119 : decode cX8_findEvens 119 = .ok (.lload 6, 2) := by decide +kernel
theorem dX8_findEvens_121 : decode cX8_findEvens 121 = .ok (.lmul, 1) := by decide +kernel
theorem dX8_findEvens_122 : decode cX8_findEvens 122 = .ok (.bipush 7, 2) := by decide +kernel
theorem dX8_findEvens_124 : decode cX8_findEvens 124 = .ok (.iload 5, 2) := by decide +kernel
theorem dX8_findEvens_126 : decode cX8_findEvens 126 = .ok (.imul, 1) := by decide +kernel
theorem dX8_findEvens_127 : decode cX8_findEvens 127 = .ok (.i2l, 1) := by decide +kernel
theorem dX8_findEvens_128 : decode cX8_findEvens 128 = .ok (.invokestatic 106, 3) := by decide +kernel
theorem dX8_findEvens_131 : decode cX8_findEvens 131 = .ok (.l2i, 1) := by decide +kernel
theorem dX8_findEvens_132 : decode cX8_findEvens 132 = .ok (.iadd, 1) := by decide +kernel
theorem dX8_findEvens_133 : decode cX8_findEvens 133 = .ok (.iastore, 1) := by decide +kernel
theorem dX8_findEvens_134 : decode cX8_findEvens 134 = .ok (.aload_n 0, 1) := by decide +kernel
theorem dX8_findEvens_135 : decode cX8_findEvens 135 = .ok (.getfield 20, 3) := by decide +kernel
theorem dX8_findEvens_138 : decode cX8_findEvens 138 = .ok (.iconst 2, 1) := by decide +kernel
theorem dX8_findEvens_139 : decode cX8_findEvens 139 = .ok (.iload_n 2, 1) := by decide +kernel
theorem dX8_findEvens_140 : decode cX8_findEvens 140 = .ok (.imul, 1) := by decide +kernel
theorem dX8_findEvens_141 : decode cX8_findEvens 141 = .ok (.iconst 1, 1) := by decide +kernel
theorem dX8_findEvens_142 : decode cX8_findEvens 142 = .ok (.iadd, 1) := by decide +kernel
theorem dX8_findEvens_143 : decode cX8_findEvens 143 = .ok (.bipush 100, 2) := by decide +kernel
theorem dX8_findEvens_145 : decode cX8_findEvens 145 = .ok (.aload_n 0, 1) := by decide +kernel
theorem dX8_findEvens_146 : decode cX8_findEvens 146 = .ok (.getfield 13, 3) := by decide +kernel
theorem dX8_findEvens_149 : decode cX8_findEvens 149 = .ok (.iload 4, 2) := by decide +kernel
theorem dX8_findEvens_151 : decode cX8_findEvens 151 = .ok (.iconst 1, 1) := by decide +kernel
theorem dX8_findEvens_152 : decode cX8_findEvens 152 = .ok (.isub, 1) := by decide +kernel
theorem dX8_findEvens_153 : decode cX8_findEvens 153 = .ok (.iaload, 1) := by decide +kernel
theorem dX8_findEvens_154 : decode cX8_findEvens 154 = .ok (.imul, 1) := by decide +kernel
theorem dX8_findEvens_155 : decode cX8_findEvens 155 = .ok (.aload_n 0, 1) := by decide +kernel
theorem dX8_findEvens_156 : decode cX8_findEvens 156 = .ok (.getfield 13, 3) := by decide +kernel
theorem dX8_findEvens_159 : decode cX8_findEvens 159 = .ok (.iload 4, 2) := by decide +kernel
theorem dX8_findEvens_161 : decode cX8_findEvens 161 = .ok (.iaload, 1) := by decide +kernel
theorem dX8_findEvens_162 : decode cX8_findEvens 162 = .ok (.aload_n 0, 1) := by decide +kernel
theorem dX8_findEvens_163 : decode cX8_findEvens 163 = .ok (.getfield 13, 3) := by decide +kernel
theorem dX8_findEvens_166 : decode cX8_findEvens 166 = .ok (.iload 4, 2) := by decide +kernel
theorem dX8_findEvens_168 : decode cX8_findEvens 168 = .ok (.iconst 1, 1) := by decide +kernel
theorem dX8_findEvens_169 : decode cX8_findEvens 169 = .ok (.isub, 1) := by decide +kernel
theorem dX8_findEvens_170 : decode cX8_findEvens 170 = .ok (.iaload, 1) := by decide +kernel
theorem dX8_findEvens_171 : decode cX8_findEvens 171 = .ok (.isub, 1) := by decide +kernel
theorem dX8_findEvens_172 : decode cX8_findEvens 172 = .ok (.i2l, 1) := by decide +kernel
theorem dX8_findEvens_173 : decode cX8_findEvens 173 = .ok (.lload 6, 2) := by decide +kernel
theorem dX8_findEvens_175 : decode cX8_findEvens 175 = .ok (.lmul, 1) := by decide +kernel
theorem dX8_findEvens_176 : decode cX8_findEvens 176 = .ok (.bipush 7, 2) := by decide +kernel
theorem dX8_findEvens_178 : decode cX8_findEvens 178 = .ok (.iload 5, 2) := by decide +kernel
theorem dX8_findEvens_180 : decode cX8_findEvens 180 = .ok (.imul, 1) := by decide +kernel
theorem dX8_findEvens_181 : decode cX8_findEvens 181 = .ok (.i2l, 1) := by decide +kernel
theorem dX8_findEvens_182 : decode cX8_findEvens 182 = .ok (.invokestatic 106, 3) := by decide +kernel
theorem dX8_findEvens_185 : decode cX8_findEvens 185 = .ok (.l2i, 1) := by decide +kernel
theorem dX8_findEvens_186 : decode cX8_findEvens 186 = .ok (.iadd, 1) := by decide +kernel
theorem dX8_findEvens_187 : decode cX8_findEvens 187 = .ok (.iastore, 1) := by decide +kernel
theorem dX8_findEvens_188 : decode cX8_findEvens 188 = .ok (.iinc 2 1, 3) := by decide +kernel
theorem dX8_findEvens_191 : decode cX8_findEvens 191 = .ok (.goto (-184), 3) := by decide +kernel
theorem dX8_findEvens_194 : decode cX8_findEvens 194 = .ok (.return_, 1) := by decide +kernel
set_option maxRecDepth 20000 in
theorem ggX8_findNorms_X8_findEvens : GoodIn wsX8_findNorms wsX8_findEvens := goodIn_r _ [9, 10, 1, 11, 12, 13, 14, 15, 8, 16, 17, 18, 19, 20, 21, 22, 23, 24, 25, 26, 27, 28, 29, 30, 31, 32, 33, 34, 35, 36, 37, 38, 39, 40, 41, 42, 43, 44, 45, 46, 47, 48, 49, 50, 51, 52, 53, 54, 55, 56, 57, 58, 59, 60] (by decide +kernel) (by decide +kernel)
set_option maxRecDepth 20000 in
theorem gX8_findNorms_X8_findEvens : GoodIn wsX8_findNorms (wsV RX8 110 RX8 yX8_findEvens wsX8_findEvens) := goodIn_app (goodIn_of _ (by decide +kernel)) ggX8_findNorms_X8_findEvens
set_option maxRecDepth 20000 in
theorem ggX8_findNorms_X8_down : GoodIn wsX8_findNorms wsX8_down := goodIn_r _ [28] (by decide +kernel) (by decide +kernel)
set_option maxRecDepth 20000 in
theorem gX8_findNorms_X8_down : GoodIn wsX8_findNorms (va_wsS RX8 106 yX8_down wsX8_down) := goodIn_app (goodIn_of _ (by decide +kernel)) ggX8_findNorms_X8_down
set_option maxRecDepth 20000 in
theorem ggX8_findNorms_X8_plain : GoodIn wsX8_findNorms wsX8_plain := goodIn_r _ [25] (by decide +kernel) (by decide +kernel)
set_option maxRecDepth 20000 in
theorem gX8_findNorms_X8_plain : GoodIn wsX8_findNorms (va_wsS RX8 95 yX8_plain wsX8_plain) := goodIn_app (goodIn_of _ (by decide +kernel)) ggX8_findNorms_X8_plain
theorem dX8_findNorms_0 : decode cX8_findNorms 0 = .ok (.aload_n 0, 1) := by decide +kernel
theorem dX8_findNorms_1 : decode cX8_findNorms 1 = .ok (.invokevirtual 110, 3) := by decide +kernel
theorem dX8_findNorms_4 : decode cX8_findNorms 4 = .ok (.iconst 0, 1) := by decide +kernel
theorem dX8_findNorms_5 : decode cX8_findNorms 5 = .ok (.istore_n 1, 1) := by decide +kernel
theorem dX8_findNorms_6 : decode cX8_findNorms 6 = .ok (.iconst 0, 1) := by decide +kernel
theorem dX8_findNorms_7 : decode cX8_findNorms 7 = .ok (.istore_n 2, 1) := by decide +kernel
theorem dX8_findNorms_8 : decode cX8_findNorms 8 = .ok (.iload_n 2, 1) := by decide +kernel
theorem dX8_findNorms_9 : decode cX8_findNorms 9 = .ok (.iconst 2, 1) := by decide +kernel
theorem dX8_findNorms_10 : decode cX8_findNorms 10 = .ok (.if_icmp .ge 174, 3) := by decide +kernel
theorem dX8_findNorms_13 : decode cX8_findNorms 13 = .ok (.aload_n 0, 1) := by decide +kernel
theorem dX8_findNorms_14 : decode cX8_findNorms 14 = .ok (.getfield 20, 3) := by decide +kernel
theorem dX8_findNorms_17 : decode cX8_findNorms 17 = .ok (.iload_n 2, 1) := by decide +kernel
theorem dX8_findNorms_18 : decode cX8_findNorms 18 = .ok (.iaload, 1) := by decide +kernel
theorem dX8_findNorms_19 : decode cX8_findNorms 19 = .ok (.istore_n 3, 1) := by decide +kernel
theorem dX8_findNorms_20 : decode cX8_findNorms 20 = .ok (.aload_n 0, 1) := by decide +kernel
theorem dX8_findNorms_21 : decode cX8_findNorms 21 = .ok (.getfield 20, 3) := by decide +kernel
theorem dX8_findNorms_24 : decode cX8_findNorms 24 = .ok (.iload_n 2, 1) := by decide +kernel
theorem dX8_findNorms_25 : decode cX8_findNorms 25 = .ok (.iaload, 1) := by decide +kernel
theorem dX8_findNorms_26 : decode cX8_findNorms 26 = .ok (.istore 4, 2) := by decide +kernel
theorem dX8_findNorms_28 : decode cX8_findNorms 28 = .ok (.iconst 1, 1) := by decide +kernel
theorem dX8_findNorms_29 : decode cX8_findNorms 29 = .ok (.istore 5, 2) := by decide +kernel
theorem dX8_findNorms_31 : decode cX8_findNorms 31 = .ok (.iload 5, 2) := by decide +kernel
theorem dX8_findNorms_33 : decode cX8_findNorms 33 = .ok (.bipush 8, 2) := by decide +kernel
theorem dX8_findNorms_35 : decode cX8_findNorms 35 = .ok (.if_icmp .ge 51, 3) := by decide +kernel
theorem dX8_findNorms_38 : decode cX8_findNorms 38 = .ok (.aload_n 0, 1) := by decide +kernel
theorem dX8_findNorms_39 : decode cX8_findNorms 39 = .ok (.getfield 20, 3) := by decide +kernel
theorem dX8_findNorms_42 : decode cX8_findNorms 42 = .ok (.iconst 2, 1) := by decide +kernel
theorem dX8_findNorms_43 : decode cX8_findNorms 43 = .ok (.iload 5, 2) := by decide +kernel
theorem dX8_findNorms_45 : decode cX8_findNorms 45 = .ok (.imul, 1) := by decide +kernel
theorem dX8_findNorms_46 : decode cX8_findNorms 46 = .ok (.iload_n 2, 1) := by decide +kernel
theorem dX8_findNorms_47 : decode cX8_findNorms 47 = .ok (.iadd, 1) := by decide +kernel
theorem dX8_findNorms_48 : decode cX8_findNorms 48 = .ok (.iaload, 1) := by decide +kernel
theorem dX8_findNorms_49 : decode cX8_findNorms 49 = .ok (.istore 6, 2) := by decide +kernel
theorem dX8_findNorms_51 : decode cX8_findNorms 51 = .ok (.iload 6, 2) := by decide +kernel
theorem dX8_findNorms_53 : decode cX8_findNorms 53 = .ok (.iload_n 3, 1) := by decide +kernel
theorem dX8_findNorms_54 : decode cX8_findNorms 54 = .ok (.if_icmp .ge 8, 3) := by decide +kernel
theorem dX8_findNorms_57 : decode cX8_findNorms 57 = .ok (.iload 6, 2) := by decide +kernel
theorem dX8_findNorms_59 : decode cX8_findNorms 59 = .ok (.goto 4, 3) := by decide +kernel
theorem dX8_findNorms_62 : decode cX8_findNorms 62 = .ok (.iload_n 3, 1) := by decide +kernel
theorem dX8_findNorms_63 : decode cX8_findNorms 63 = .ok (.istore_n 3, 1) := by decide +kernel
theorem dX8_findNorms_64 : decode cX8_findNorms 64 = .ok (.iload 6, 2) := by decide +kernel
theorem dX8_findNorms_66 : decode cX8_findNorms 66 = .ok (.iload 4, 2) := by decide +kernel
theorem dX8_findNorms_68 : decode cX8_findNorms 68 = .ok (.if_icmp .le 8, 3) := by decide +kernel
theorem dX8_findNorms_71 : decode cX8_findNorms 71 = .ok (.iload 6, 2) := by decide +kernel
theorem dX8_findNorms_73 : decode cX8_findNorms 73 = .ok (.goto 5, 3) := by decide +kernel
theorem dX8_findNorms_76 : decode cX8_findNorms 76 = .ok (.iload 4, 2) := by decide +kernel
theorem dX8_findNorms_78 : decode cX8_findNorms 78 = .ok (.istore 4, 2) := by decide +kernel
theorem dX8_findNorms_80 : decode cX8_findNorms 80 = .ok (.iinc 5 1, 3) := by decide +kernel
theorem dX8_findNorms_83 : decode cX8_findNorms 83 = .ok (.goto (-52), 3) := by decide +kernel
theorem dX8_findNorms_86 : decode cX8_findNorms 86 = .ok (.iload_n 3, 1) := by decide +kernel
theorem dX8_findNorms_87 : decode cX8_findNorms 87 = .ok (.iload 4, 2) := by decide +kernel
theorem dX8_findNorms_89 : decode cX8_findNorms 89 = .ok (.iadd, 1) := by decide +kernel
theorem dX8_findNorms_90 : decode cX8_findNorms 90 = .ok (.i2l, 1) := by decide +kernel
theorem dX8_findNorms_91 : decode cX8_findNorms 91 = .ok (.ldc2_w 113, 3) := by decide +kernel
theorem dX8_findNorms_94 : decode cX8_findNorms 94 = .ok (.invokestatic 106, 3) := by decide +kernel
theorem dX8_findNorms_97 : decode cX8_findNorms 97 = .ok (.l2i, 1) := by decide +kernel
theorem dX8_findNorms_98 : decode cX8_findNorms 98 = .ok (.istore 5, 2) := by decide +kernel
theorem dX8_findNorms_100 : decode cX8_findNorms 100 = .ok (.iconst 0, 1) := by decide +kernel
theorem dX8_findNorms_101 : decode cX8_findNorms 101 = .ok (.istore 6, 2) := by decide +kernel
theorem dX8_findNorms_103 : decode cX8_findNorms 103 = .ok (.iload 6, 2) := by decide +kernel
theorem dX8_findNorms_105 : decode cX8_findNorms 105 = .ok (.bipush 8, 2) := by decide +kernel
theorem dX8_findNorms_107 : decode cX8_findNorms 107 = .ok (.if_icmp .ge 71, 3) := by decide +kernel
theorem dX8_findNorms_110 : decode cX8_findNorms 110 = .ok (.aload_n 0, 1) := by decide +kernel
theorem dX8_findNorms_111 : decode cX8_findNorms 111 = .ok (.getfield 23, 3) := by decide +kernel
theorem dX8_findNorms_114 : decode cX8_findNorms 114 = .ok (.iconst 2, 1) := by decide +kernel
theorem dX8_findNorms_115 : decode cX8_findNorms 115 = .ok (.iload 6, 2) := by decide +kernel
theorem dX8_findNorms_117 : decode cX8_findNorms 117 = .ok (.imul, 1) := by decide +kernel
theorem dX8_findNorms_118 : decode cX8_findNorms 118 = .ok (.iload_n 2, 1) := by decide +kernel
theorem dX8_findNorms_119 : decode cX8_findNorms 119 = .ok (.iadd, 1) := by decide +kernel
theorem dX8_findNorms_120 : decode cX8_findNorms 120 = .ok (.aload_n 0, 1) := by decide +kernel
theorem dX8_findNorms_121 : decode cX8_findNorms 121 = .ok (.getfield 20, 3) := by decide +kernel
theorem dX8_findNorms_124 : decode cX8_findNorms 124 = .ok (.iconst 2, 1) := by decide +kernel
theorem dX8_findNorms_125 : decode cX8_findNorms 125 = .ok (.iload 6, 2) := by decide +kernel
theorem dX8_findNorms_127 : decode cX8_findNorms 127 = .ok (.imul, 1) := by decide +kernel
theorem dX8_findNorms_128 : decode cX8_findNorms 128 = .ok (.iload_n 2, 1) := by decide +kernel
theorem dX8_findNorms_129 : decode cX8_findNorms 129 = .ok (.iadd, 1) := by decide +kernel
theorem dX8_findNorms_130 : decode cX8_findNorms 130 = .ok (.iaload, 1) := by decide +kernel
theorem dX8_findNorms_131 : decode cX8_findNorms 131 = .ok (.iload 5, 2) := by decide +kernel
theorem dX8_findNorms_133 : decode cX8_findNorms 133 = .ok (.isub, 1) := by decide +kernel
theorem dX8_findNorms_134 : decode cX8_findNorms 134 = .ok (.iastore, 1) := by decide +kernel
theorem dX8_findNorms_135 : decode cX8_findNorms 135 = .ok (.aload_n 0, 1) := by decide +kernel
theorem dX8_findNorms_136 : decode cX8_findNorms 136 = .ok (.getfield 23, 3) := by decide +kernel
theorem dX8_findNorms_139 : decode cX8_findNorms 139 = .ok (.iconst 2, 1) := by decide +kernel
theorem dX8_findNorms_140 : decode cX8_findNorms 140 = .ok (.iload 6, 2) := by decide +kernel
theorem dX8_findNorms_142 : decode cX8_findNorms 142 = .ok (.imul, 1) := by decide +kernel
theorem dX8_findNorms_143 : decode cX8_findNorms 143 = .ok (.iload_n 2, 1) := by decide +kernel
theorem dX8_findNorms_144 : decode cX8_findNorms 144 = .ok (.iadd, 1) := by decide +kernel
theorem dX8_findNorms_145 : decode cX8_findNorms 145 = .ok (.iaload, 1) := by decide +kernel
theorem dX8_findNorms_146 : decode cX8_findNorms 146 = .ok (.invokestatic 95, 3) := by decide +kernel
theorem dX8_findNorms_149 : decode cX8_findNorms 149 = .ok (.iload_n 1, 1) := by decide +kernel
theorem dX8_findNorms_150 : decode cX8_findNorms 150 = .ok (.if_icmp .le 20, 3) := by decide +kernel
theorem dX8_findNorms_153 : decode cX8_findNorms 153 = .ok (.aload_n 0, 1) := by decide +kernel
theorem dX8_findNorms_154 : decode cX8_findNorms 154 = .ok (.getfield 23, 3) := by decide +kernel
theorem dX8_findNorms_157 : decode cX8_findNorms 157 = .ok (.iconst 2, 1) := by decide +kernel
theorem dX8_findNorms_158 : decode cX8_findNorms 158 = .ok (.iload 6, 2) := by decide +kernel
theorem dX8_findNorms_160 : decode cX8_findNorms 160 = .ok (.imul, 1) := by decide +kernel
theorem dX8_findNorms_161 : decode cX8_findNorms 161 = .ok (.iload_n 2, 1) := by decide +kernel
theorem dX8_findNorms_162 : decode cX8_findNorms 162 = .ok (.iadd, 1) := by decide +kernel
theorem dX8_findNorms_163 : decode cX8_findNorms 163 = .ok (.iaload, 1) := by decide +kernel
theorem dX8_findNorms_164 : decode cX8_findNorms 164 = .ok (.invokestatic 95, 3) := by decide +kernel
theorem dX8_findNorms_167 : decode cX8_findNorms 167 = .ok (.goto 4, 3) := by decide +kernel
theorem dX8_findNorms_170 : decode cX8_findNorms 170 = .ok (.iload_n 1, 1) := by decide +kernel
theorem dX8_findNorms_171 : decode cX8_findNorms 171 = .ok (.istore_n 1, 1) := by decide +kernel
theorem dX8_findNorms_172 : decode cX8_findNorms 172 = .ok (.iinc 6 1, 3) := by decide +kernel
theorem dX8_findNorms_175 : decode cX8_findNorms 175 = .ok (.goto (-72), 3) := by decide +kernel
theorem dX8_findNorms_178 : decode cX8_findNorms 178 = .ok (.iinc 2 1, 3) := by decide +kernel
theorem dX8_findNorms_181 : decode cX8_findNorms 181 = .ok (.goto (-173), 3) := by decide +kernel
theorem dX8_findNorms_184 : decode cX8_findNorms 184 = .ok (.iconst 0, 1) := by decide +kernel
theorem dX8_findNorms_185 : decode cX8_findNorms 185 = .ok (.istore_n 2, 1) := by decide +kernel
theorem dX8_findNorms_186 : decode cX8_findNorms 186 = .ok (.iload_n 2, 1) := by decide +kernel
theorem dX8_findNorms_187 : decode cX8_findNorms 187 = .ok (.bipush 16, 2) := by decide +kernel
theorem dX8_findNorms_189 : decode cX8_findNorms 189 = .ok (.if_icmp .ge 40, 3) := by decide +kernel
theorem dX8_findNorms_192 : decode cX8_findNorms 192 = .ok (.aload_n 0, 1) := by decide +kernel
theorem dX8_findNorms_193 : decode cX8_findNorms 193 = .ok (.getfield 23, 3) := by decide +kernel
theorem dX8_findNorms_196 : decode cX8_findNorms 196 = .ok (.iload_n 2, 1) := by decide +kernel
theorem dX8_findNorms_197 : decode cX8_findNorms 197 = .ok (.iload_n 1, 1) := by decide +kernel
theorem dX8_findNorms_198 : decode cX8_findNorms 198 = .ok (.ifCond .ne 7, 3) := by decide +kernel
theorem dX8_findNorms_201 : decode cX8_findNorms 201 = .ok (.iconst 0, 1) := by decide +kernel
theorem dX8_findNorms_202 : decode cX8_findNorms 202 = .ok (.goto 20, 3) := by decide +kernel
theorem dX8_findNorms_205 : decode cX8_findNorms 205 = .ok (.ldc2_w 115, 3) := by decide +kernel
theorem dX8_findNorms_208 : decode cX8_findNorms 208 = .ok (.aload_n 0, 1) := by decide +kernel
theorem dX8_findNorms_209 : decode cX8_findNorms 209 = .ok (.getfield 23, 3) := by decide +kernel
theorem dX8_findNorms_212 : decode cX8_findNorms 212 = .ok (.iload_n 2, 1) := by decide +kernel
theorem dX8_findNorms_213 : decode cX8_findNorms 213 = .ok (.iaload, 1) := by decide +kernel
theorem dX8_findNorms_214 : decode cX8_findNorms 214 = .ok (.i2l, 1) := by decide +kernel
theorem dX8_findNorms_215 : decode cX8_findNorms 215 = .ok (.lmul, 1) := by decide +kernel
theorem dX8_findNorms_216 : decode cX8_findNorms 216 = .ok (.iload_n 1, 1) := by decide +kernel
theorem dX8_findNorms_217 : decode cX8_findNorms 217 = .ok (.i2l, 1) := by decide +kernel
theorem dX8_findNorms_218 : decode cX8_findNorms 218 = .ok (.invokestatic 106, 3) := by decide +kernel
theorem dX8_findNorms_221 : decode cX8_findNorms 221 = .ok (.l2i, 1) := by decide +kernel
theorem dX8_findNorms_222 : decode cX8_findNorms 222 = .ok (.iastore, 1) := by decide +kernel
theorem dX8_findNorms_223 : decode cX8_findNorms 223 = .ok (.iinc 2 1, 3) := by decide +kernel
theorem dX8_findNorms_226 : decode cX8_findNorms 226 = .ok (.goto (-40), 3) := by decide +kernel
theorem dX8_findNorms_229 : decode cX8_findNorms 229 = .ok (.return_, 1) := by decide +kernel
set_option maxRecDepth 20000 in
theorem ggX8_even_X8_way : GoodIn wsX8_even wsX8_way := goodIn_r _ [8, 9, 10, 11, 12, 7, 13, 14, 15, 16, 17, 18, 19, 31, 32, 33, 34, 35, 36, 37, 38, 39, 40, 41, 42, 43, 44, 45, 46, 47, 48, 49, 50, 51, 52, 53, 54, 55, 56, 57, 58, 59, 60, 61, 62] (by decide +kernel) (by decide +kernel)
set_option maxRecDepth 20000 in
theorem gX8_even_X8_way : GoodIn wsX8_even (wsV RX8 102 RX8 yX8_way wsX8_way) := goodIn_app (goodIn_of _ (by decide +kernel)) ggX8_even_X8_way
set_option maxRecDepth 20000 in
theorem ggX8_even_X8_in : GoodIn wsX8_even wsX8_in := goodIn_r _ [22] (by decide +kernel) (by decide +kernel)
set_option maxRecDepth 20000 in
theorem gX8_even_X8_in : GoodIn wsX8_even (va_wsS RX8 88 yX8_in wsX8_in) := goodIn_app (goodIn_of _ (by decide +kernel)) ggX8_even_X8_in
set_option maxRecDepth 20000 in
theorem ggX8_even_X8_findEvens : GoodIn wsX8_even wsX8_findEvens := goodIn_r _ [26, 27, 3, 15, 16, 4, 5, 6, 7, 8, 9, 10, 11, 12, 13, 14, 17, 18, 19, 28, 29, 30, 31, 32, 33, 34, 35, 36, 37, 38, 39, 40, 41, 42, 43, 44, 45, 46, 47, 48, 49, 50, 51, 52, 53, 54, 55, 56, 57, 58, 59, 60, 61, 62] (by decide +kernel) (by decide +kernel)
set_option maxRecDepth 20000 in
theorem gX8_even_X8_findEvens : GoodIn wsX8_even (wsV RX8 110 RX8 yX8_findEvens wsX8_findEvens) := goodIn_app (goodIn_of _ (by decide +kernel)) ggX8_even_X8_findEvens
theorem dX8_even_0 : decode cX8_even 0 = .ok (.aload_n 0, 1) := by decide +kernel
theorem dX8_even_1 : decode cX8_even 1 = .ok (.invokevirtual 102, 3) := by decide +kernel
theorem dX8_even_4 : decode cX8_even 4 = .ok (.ifCond .eq 25, 3) := by decide +kernel
theorem dX8_even_7 : decode cX8_even 7 = .ok (.iload_n 1, 1) := by decide +kernel
theorem dX8_even_8 : decode cX8_even 8 = .ok (.i2l, 1) := by decide +kernel
theorem dX8_even_9 : decode cX8_even 9 = .ok (.lconst 0, 1) := by decide +kernel
theorem dX8_even_10 : decode cX8_even 10 = .ok (.ldc2_w 117, 3) := by decide +kernel
theorem dX8_even_13 : decode cX8_even 13 = .ok (.invokestatic 88, 3) := by decide +kernel
theorem dX8_even_16 : decode cX8_even 16 = .ok (.ifCond .eq 13, 3) := by decide +kernel
theorem dX8_even_19 : decode cX8_even 19 = .ok (.iload_n 2, 1) := by decide +kernel
theorem dX8_even_20 : decode cX8_even 20 = .ok (.i2l, 1) := by decide +kernel
theorem dX8_even_21 : decode cX8_even 21 = .ok (.lconst 0, 1) := by decide +kernel
theorem dX8_even_22 : decode cX8_even 22 = .ok (.lconst 1, 1) := by decide +kernel
theorem dX8_even_23 : decode cX8_even 23 = .ok (.invokestatic 88, 3) := by decide +kernel
theorem dX8_even_26 : decode cX8_even 26 = .ok (.ifCond .ne 6, 3) := by decide +kernel
theorem dX8_even_29 : decode cX8_even 29 = .ok (.ldc 119, 2) := by decide +kernel
theorem dX8_even_31 : decode cX8_even 31 = .ok (.ireturn, 1) := by decide +kernel
theorem dX8_even_32 : decode cX8_even 32 = .ok (.aload_n 0, 1) := by decide +kernel
theorem dX8_even_33 : decode cX8_even 33 = .ok (.invokevirtual 110, 3) := by decide +kernel
theorem dX8_even_36 : decode cX8_even 36 = .ok (.aload_n 0, 1) := by decide +kernel
theorem dX8_even_37 : decode cX8_even 37 = .ok (.getfield 20, 3) := by decide +kernel
theorem dX8_even_40 : decode cX8_even 40 = .ok (.iconst 2, 1) := by decide +kernel
theorem dX8_even_41 : decode cX8_even 41 = .ok (.iload_n 1, 1) := by decide +kernel
theorem dX8_even_42 : decode cX8_even 42 = .ok (.imul, 1) := by decide +kernel
theorem dX8_even_43 : decode cX8_even 43 = .ok (.iload_n 2, 1) := by decide +kernel
theorem dX8_even_44 : decode cX8_even 44 = .ok (.iadd, 1) := by decide +kernel
theorem dX8_even_45 : decode cX8_even 45 = .ok (.iaload, 1) := by decide +kernel
theorem dX8_even_46 : decode cX8_even 46 = .ok (.ireturn, 1) := by decide +kernel
set_option maxRecDepth 20000 in
theorem ggX8_normal_X8_way : GoodIn wsX8_normal wsX8_way := goodIn_r _ [8, 9, 10, 11, 12, 7, 13, 14, 15, 16, 17, 18, 19, 38, 39, 40, 41, 42, 43, 44, 45, 46, 47, 48, 49, 50, 51, 52, 53, 54, 55, 56, 57, 58, 59, 60, 61, 62, 63, 64, 65, 66, 67, 68, 69] (by decide +kernel) (by decide +kernel)
set_option maxRecDepth 20000 in
theorem gX8_normal_X8_way : GoodIn wsX8_normal (wsV RX8 102 RX8 yX8_way wsX8_way) := goodIn_app (goodIn_of _ (by decide +kernel)) ggX8_normal_X8_way
set_option maxRecDepth 20000 in
theorem ggX8_normal_X8_in : GoodIn wsX8_normal wsX8_in := goodIn_r _ [22] (by decide +kernel) (by decide +kernel)
set_option maxRecDepth 20000 in
theorem gX8_normal_X8_in : GoodIn wsX8_normal (va_wsS RX8 88 yX8_in wsX8_in) := goodIn_app (goodIn_of _ (by decide +kernel)) ggX8_normal_X8_in
set_option maxRecDepth 20000 in
theorem ggX8_normal_X8_findNorms : GoodIn wsX8_normal wsX8_findNorms := goodIn_r _ [26, 27, 28, 3, 29, 30, 31, 32, 7, 33, 34, 15, 16, 4, 5, 6, 8, 9, 10, 11, 12, 13, 14, 17, 18, 19, 35, 36, 37, 38, 39, 40, 41, 42, 43, 44, 45, 46, 47, 48, 49, 50, 51, 52, 53, 54, 55, 56, 57, 58, 59, 60, 61, 62, 63, 64, 65, 66, 67, 68, 69] (by decide +kernel) (by decide +kernel)
set_option maxRecDepth 20000 in
theorem gX8_normal_X8_findNorms : GoodIn wsX8_normal (wsV RX8 120 RX8 yX8_findNorms wsX8_findNorms) := goodIn_app (goodIn_of _ (by decide +kernel)) ggX8_normal_X8_findNorms
theorem dX8_normal_0 : decode cX8_normal 0 = .ok (.aload_n 0, 1) := by decide +kernel
theorem dX8_normal_1 : decode cX8_normal 1 = .ok (.invokevirtual 102, 3) := by decide +kernel
theorem dX8_normal_4 : decode cX8_normal 4 = .ok (.ifCond .eq 25, 3) := by decide +kernel
theorem dX8_normal_7 : decode cX8_normal 7 = .ok (.iload_n 1, 1) := by decide +kernel
theorem dX8_normal_8 : decode cX8_normal 8 = .ok (.i2l, 1) := by decide +kernel
theorem dX8_normal_9 : decode cX8_normal 9 = .ok (.lconst 0, 1) := by decide +kernel
theorem dX8_normal_10 : decode cX8_normal 10 = .ok (.ldc2_w 117, 3) := by decide +kernel
theorem dX8_normal_13 : decode cX8_normal 13 = .ok (.invokestatic 88, 3) := by decide +kernel
theorem dX8_normal_16 : decode cX8_normal 16 = .ok (.ifCond .eq 13, 3) := by decide +kernel
theorem dX8_normal_19 : decode cX8_normal 19 = .ok (.iload_n 2, 1) := by decide +kernel
theorem dX8_normal_20 : decode cX8_normal 20 = .ok (.i2l, 1) := by decide +kernel
theorem dX8_normal_21 : decode cX8_normal 21 = .ok (.lconst 0, 1) := by decide +kernel
theorem dX8_normal_22 : decode cX8_normal 22 = .ok (.lconst 1, 1) := by decide +kernel
theorem dX8_normal_23 : decode cX8_normal 23 = .ok (.invokestatic 88, 3) := by decide +kernel
theorem dX8_normal_26 : decode cX8_normal 26 = .ok (.ifCond .ne 6, 3) := by decide +kernel
theorem dX8_normal_29 : decode cX8_normal 29 = .ok (.ldc 119, 2) := by decide +kernel
theorem dX8_normal_31 : decode cX8_normal 31 = .ok (.ireturn, 1) := by decide +kernel
theorem dX8_normal_32 : decode cX8_normal 32 = .ok (.aload_n 0, 1) := by decide +kernel
theorem dX8_normal_33 : decode cX8_normal 33 = .ok (.invokevirtual 120, 3) := by decide +kernel
theorem dX8_normal_36 : decode cX8_normal 36 = .ok (.aload_n 0, 1) := by decide +kernel
theorem dX8_normal_37 : decode cX8_normal 37 = .ok (.getfield 23, 3) := by decide +kernel
theorem dX8_normal_40 : decode cX8_normal 40 = .ok (.iconst 2, 1) := by decide +kernel
theorem dX8_normal_41 : decode cX8_normal 41 = .ok (.iload_n 1, 1) := by decide +kernel
theorem dX8_normal_42 : decode cX8_normal 42 = .ok (.imul, 1) := by decide +kernel
theorem dX8_normal_43 : decode cX8_normal 43 = .ok (.iload_n 2, 1) := by decide +kernel
theorem dX8_normal_44 : decode cX8_normal 44 = .ok (.iadd, 1) := by decide +kernel
theorem dX8_normal_45 : decode cX8_normal 45 = .ok (.iaload, 1) := by decide +kernel
theorem dX8_normal_46 : decode cX8_normal 46 = .ok (.ireturn, 1) := by decide +kernel
set_option maxRecDepth 20000 in
theorem ggX8_isTaught_X8_in : GoodIn wsX8_isTaught wsX8_in := goodIn_r _ [5] (by decide +kernel) (by decide +kernel)
set_option maxRecDepth 20000 in
theorem gX8_isTaught_X8_in : GoodIn wsX8_isTaught (va_wsS RX8 88 yX8_in wsX8_in) := goodIn_app (goodIn_of _ (by decide +kernel)) ggX8_isTaught_X8_in
theorem dX8_isTaught_0 : decode cX8_isTaught 0 = .ok (.iload_n 1, 1) := by decide +kernel
theorem dX8_isTaught_1 : decode cX8_isTaught 1 = .ok (.i2l, 1) := by decide +kernel
theorem dX8_isTaught_2 : decode cX8_isTaught 2 = .ok (.lconst 0, 1) := by decide +kernel
theorem dX8_isTaught_3 : decode cX8_isTaught 3 = .ok (.aload_n 0, 1) := by decide +kernel
theorem dX8_isTaught_4 : decode cX8_isTaught 4 = .ok (.getfield 123, 3) := by decide +kernel
theorem dX8_isTaught_7 : decode cX8_isTaught 7 = .ok (.iconst 1, 1) := by decide +kernel
theorem dX8_isTaught_8 : decode cX8_isTaught 8 = .ok (.isub, 1) := by decide +kernel
theorem dX8_isTaught_9 : decode cX8_isTaught 9 = .ok (.i2l, 1) := by decide +kernel
theorem dX8_isTaught_10 : decode cX8_isTaught 10 = .ok (.invokestatic 88, 3) := by decide +kernel
theorem dX8_isTaught_13 : decode cX8_isTaught 13 = .ok (.ireturn, 1) := by decide +kernel
theorem dX8_keeps_0 : decode cX8_keeps 0 = .ok (.aload_n 0, 1) := by decide +kernel
theorem dX8_keeps_1 : decode cX8_keeps 1 = .ok (.getfield 126, 3) := by decide +kernel
theorem dX8_keeps_4 : decode cX8_keeps 4 = .ok (.bipush 6, 2) := by decide +kernel
theorem dX8_keeps_6 : decode cX8_keeps 6 = .ok (.if_icmp .ne 125, 3) := by decide +kernel
theorem dX8_keeps_9 : decode cX8_keeps 9 = .ok (.iconst 1, 1) := by decide +kernel
theorem dX8_keeps_10 : decode cX8_keeps 10 = .ok (.istore_n 3, 1) := by decide +kernel
theorem dX8_keeps_11 : decode cX8_keeps 11 = .ok (.iload_n 3, 1) := by decide +kernel
theorem dX8_keeps_12 : decode cX8_keeps 12 = .ok (.bipush 6, 2) := by decide +kernel
theorem dX8_keeps_14 : decode cX8_keeps 14 = .ok (.if_icmp .ge 107, 3) := by decide +kernel
theorem dX8_keeps_17 : decode cX8_keeps 17 = .ok (.aload_n 0, 1) := by decide +kernel
theorem dX8_keeps_18 : decode cX8_keeps 18 = .ok (.getfield 35, 3) := by decide +kernel
theorem dX8_keeps_21 : decode cX8_keeps 21 = .ok (.iload_n 3, 1) := by decide +kernel
theorem dX8_keeps_22 : decode cX8_keeps 22 = .ok (.iconst 1, 1) := by decide +kernel
theorem dX8_keeps_23 : decode cX8_keeps 23 = .ok (.isub, 1) := by decide +kernel
theorem dX8_keeps_24 : decode cX8_keeps 24 = .ok (.aload_n 0, 1) := by decide +kernel
theorem dX8_keeps_25 : decode cX8_keeps 25 = .ok (.getfield 35, 3) := by decide +kernel
theorem dX8_keeps_28 : decode cX8_keeps 28 = .ok (.iload_n 3, 1) := by decide +kernel
theorem dX8_keeps_29 : decode cX8_keeps 29 = .ok (.iaload, 1) := by decide +kernel
theorem dX8_keeps_30 : decode cX8_keeps 30 = .ok (.iastore, 1) := by decide +kernel
theorem dX8_keeps_31 : decode cX8_keeps 31 = .ok (.aload_n 0, 1) := by decide +kernel
theorem dX8_keeps_32 : decode cX8_keeps 32 = .ok (.getfield 38, 3) := by decide +kernel
theorem dX8_keeps_35 : decode cX8_keeps 35 = .ok (.iload_n 3, 1) := by decide +kernel
theorem dX8_keeps_36 : decode cX8_keeps 36 = .ok (.iconst 1, 1) := by decide +kernel
theorem dX8_keeps_37 : decode cX8_keeps 37 = .ok (.isub, 1) := by decide +kernel
theorem dX8_keeps_38 : decode cX8_keeps 38 = .ok (.aload_n 0, 1) := by decide +kernel
theorem dX8_keeps_39 : decode cX8_keeps 39 = .ok (.getfield 38, 3) := by decide +kernel
theorem dX8_keeps_42 : decode cX8_keeps 42 = .ok (.iload_n 3, 1) := by decide +kernel
theorem dX8_keeps_43 : decode cX8_keeps 43 = .ok (.iaload, 1) := by decide +kernel
theorem dX8_keeps_44 : decode cX8_keeps 44 = .ok (.iastore, 1) := by decide +kernel
theorem dX8_keeps_45 : decode cX8_keeps 45 = .ok (.aload_n 0, 1) := by decide +kernel
theorem dX8_keeps_46 : decode cX8_keeps 46 = .ok (.getfield 41, 3) := by decide +kernel
theorem dX8_keeps_49 : decode cX8_keeps 49 = .ok (.iload_n 3, 1) := by decide +kernel
theorem dX8_keeps_50 : decode cX8_keeps 50 = .ok (.iconst 1, 1) := by decide +kernel
theorem dX8_keeps_51 : decode cX8_keeps 51 = .ok (.isub, 1) := by decide +kernel
theorem dX8_keeps_52 : decode cX8_keeps 52 = .ok (.aload_n 0, 1) := by decide +kernel
theorem dX8_keeps_53 : decode cX8_keeps 53 = .ok (.getfield 41, 3) := by decide +kernel
theorem dX8_keeps_56 : decode cX8_keeps 56 = .ok (.iload_n 3, 1) := by decide +kernel
theorem dX8_keeps_57 : decode cX8_keeps 57 = .ok (.iaload, 1) := by decide +kernel
theorem dX8_keeps_58 : decode cX8_keeps 58 = .ok (.iastore, 1) := by decide +kernel
theorem dX8_keeps_59 : decode cX8_keeps 59 = .ok (.aload_n 0, 1) := by decide +kernel
theorem dX8_keeps_60 : decode cX8_keeps 60 = .ok (.getfield 44, 3) := by decide +kernel
theorem dX8_keeps_63 : decode cX8_keeps 63 = .ok (.iload_n 3, 1) := by decide +kernel
theorem dX8_keeps_64 : decode cX8_keeps 64 = .ok (.iconst 1, 1) := by decide +kernel
theorem dX8_keeps_65 : decode cX8_keeps 65 = .ok (.isub, 1) := by decide +kernel
theorem dX8_keeps_66 : decode cX8_keeps 66 = .ok (.aload_n 0, 1) := by decide +kernel
theorem dX8_keeps_67 : decode cX8_keeps 67 = .ok (.getfield 44, 3) := by decide +kernel
theorem dX8_keeps_70 : decode cX8_keeps 70 = .ok (.iload_n 3, 1) := by decide +kernel
theorem dX8_keeps_71 : decode cX8_keeps 71 = .ok (.iaload, 1) := by decide +kernel
theorem dX8_keeps_72 : decode cX8_keeps 72 = .ok (.iastore, 1) := by decide +kernel
theorem dX8_keeps_73 : decode cX8_keeps 73 = .ok (.iconst 0, 1) := by decide +kernel
theorem dX8_keeps_74 : decode cX8_keeps 74 = .ok (.istore 4, 2) := by decide +kernel
theorem dX8_keeps_76 : decode cX8_keeps 76 = .ok (.iload 4, 2) := by decide +kernel
theorem dX8_keeps_78 : decode cX8_keeps 78 = .ok (.bipush 16, 2) := by decide +kernel
theorem dX8_keeps_80 : decode cX8_keeps 80 = .ok (.if_icmp .ge 35, 3) := by decide +kernel
theorem dX8_keeps_83 : decode cX8_keeps 83 = .ok (.aload_n 0, 1) := by decide +kernel
theorem dX8_keeps_84 : decode cX8_keeps 84 = .ok (.getfield 47, 3) := by decide +kernel
theorem dX8_keeps_87 : decode cX8_keeps 87 = .ok (.bipush 16, 2) := by decide +kernel
theorem dX8_keeps_89 : decode cX8_keeps 89 = .ok (.iload_n 3, 1) := by decide +kernel
theorem dX8_keeps_90 : decode cX8_keeps 90 = .ok (.iconst 1, 1) := by decide +kernel
theorem dX8_keeps_91 : decode cX8_keeps 91 = .ok (.isub, 1) := by decide +kernel
theorem dX8_keeps_92 : decode cX8_keeps 92 = .ok (.imul, 1) := by decide +kernel
theorem dX8_keeps_93 : decode cX8_keeps 93 = .ok (.iload 4, 2) := by decide +kernel
theorem dX8_keeps_95 : decode cX8_keeps 95 = .ok (.iadd, 1) := by decide +kernel
theorem dX8_keeps_96 : decode cX8_keeps 96 = .ok (.aload_n 0, 1) := by decide +kernel
theorem dX8_keeps_97 : decode cX8_keeps 97 = .ok (.getfield 47, 3) := by decide +kernel
theorem dX8_keeps_100 : decode cX8_keeps 100 = .ok (.bipush 16, 2) := by decide +kernel
theorem dX8_keeps_102 : decode cX8_keeps 102 = .ok (.iload_n 3, 1) := by decide +kernel
theorem dX8_keeps_103 : decode cX8_keeps 103 = .ok (.imul, 1) := by decide +kernel
theorem dX8_keeps_104 : decode cX8_keeps 104 = .ok (.iload 4, 2) := by decide +kernel
theorem dX8_keeps_106 : decode cX8_keeps 106 = .ok (.iadd, 1) := by decide +kernel
theorem dX8_keeps_107 : decode cX8_keeps 107 = .ok (.iaload, 1) := by decide +kernel
theorem dX8_keeps_108 : decode cX8_keeps 108 = .ok (.iastore, 1) := by decide +kernel
theorem dX8_keeps_109 : decode cX8_keeps 109 = .ok (.iinc 4 1, 3) := by decide +kernel
theorem dX8_keeps_112 : decode cX8_keeps 112 = .ok (.goto (-36), 3) := by decide +kernel
theorem dX8_keeps_115 : decode cX8_keeps 115 = .ok (.iinc 3 1, 3) := by decide +kernel
theorem dX8_keeps_118 : decode cX8_keeps 118 = .ok (.goto (-107), 3) := by decide +kernel
theorem dX8_keeps_121 : decode cX8_keeps 121 = .ok (.aload_n 0, 1) := by decide +kernel
theorem dX8_keeps_122 : decode cX8_keeps 122 = .ok (.dup, 1) := by decide +kernel
theorem dX8_keeps_123 : decode cX8_keeps 123 = .ok (.getfield 126, 3) := by decide +kernel
theorem dX8_keeps_126 : decode cX8_keeps 126 = .ok (.iconst 1, 1) := by decide +kernel
theorem dX8_keeps_127 : decode cX8_keeps 127 = .ok (.isub, 1) := by decide +kernel
theorem dX8_keeps_128 : decode cX8_keeps 128 = .ok (.putfield 126, 3) := by decide +kernel
theorem dX8_keeps_131 : decode cX8_keeps 131 = .ok (.aload_n 0, 1) := by decide +kernel
theorem dX8_keeps_132 : decode cX8_keeps 132 = .ok (.getfield 35, 3) := by decide +kernel
theorem dX8_keeps_135 : decode cX8_keeps 135 = .ok (.aload_n 0, 1) := by decide +kernel
theorem dX8_keeps_136 : decode cX8_keeps 136 = .ok (.getfield 126, 3) := by decide +kernel
theorem dX8_keeps_139 : decode cX8_keeps 139 = .ok (.iload_n 1, 1) := by decide +kernel
theorem dX8_keeps_140 : decode cX8_keeps 140 = .ok (.iastore, 1) := by decide +kernel
theorem dX8_keeps_141 : decode cX8_keeps 141 = .ok (.aload_n 0, 1) := by decide +kernel
theorem dX8_keeps_142 : decode cX8_keeps 142 = .ok (.getfield 38, 3) := by decide +kernel
theorem dX8_keeps_145 : decode cX8_keeps 145 = .ok (.aload_n 0, 1) := by decide +kernel
theorem dX8_keeps_146 : decode cX8_keeps 146 = .ok (.getfield 126, 3) := by decide +kernel
theorem dX8_keeps_149 : decode cX8_keeps 149 = .ok (.iload_n 2, 1) := by decide +kernel
theorem dX8_keeps_150 : decode cX8_keeps 150 = .ok (.iastore, 1) := by decide +kernel
theorem dX8_keeps_151 : decode cX8_keeps 151 = .ok (.aload_n 0, 1) := by decide +kernel
theorem dX8_keeps_152 : decode cX8_keeps 152 = .ok (.getfield 41, 3) := by decide +kernel
theorem dX8_keeps_155 : decode cX8_keeps 155 = .ok (.aload_n 0, 1) := by decide +kernel
theorem dX8_keeps_156 : decode cX8_keeps 156 = .ok (.getfield 126, 3) := by decide +kernel
theorem dX8_keeps_159 : decode cX8_keeps 159 = .ok (.aload_n 0, 1) := by decide +kernel
theorem dX8_keeps_160 : decode cX8_keeps 160 = .ok (.getfield 26, 3) := by decide +kernel
theorem dX8_keeps_163 : decode cX8_keeps 163 = .ok (.iload_n 2, 1) := by decide +kernel
theorem dX8_keeps_164 : decode cX8_keeps 164 = .ok (.iaload, 1) := by decide +kernel
theorem dX8_keeps_165 : decode cX8_keeps 165 = .ok (.iastore, 1) := by decide +kernel
theorem dX8_keeps_166 : decode cX8_keeps 166 = .ok (.aload_n 0, 1) := by decide +kernel
theorem dX8_keeps_167 : decode cX8_keeps 167 = .ok (.getfield 44, 3) := by decide +kernel
theorem dX8_keeps_170 : decode cX8_keeps 170 = .ok (.aload_n 0, 1) := by decide +kernel
theorem dX8_keeps_171 : decode cX8_keeps 171 = .ok (.getfield 126, 3) := by decide +kernel
theorem dX8_keeps_174 : decode cX8_keeps 174 = .ok (.aload_n 0, 1) := by decide +kernel
theorem dX8_keeps_175 : decode cX8_keeps 175 = .ok (.getfield 29, 3) := by decide +kernel
theorem dX8_keeps_178 : decode cX8_keeps 178 = .ok (.iload_n 2, 1) := by decide +kernel
theorem dX8_keeps_179 : decode cX8_keeps 179 = .ok (.iaload, 1) := by decide +kernel
theorem dX8_keeps_180 : decode cX8_keeps 180 = .ok (.iastore, 1) := by decide +kernel
theorem dX8_keeps_181 : decode cX8_keeps 181 = .ok (.iconst 0, 1) := by decide +kernel
theorem dX8_keeps_182 : decode cX8_keeps 182 = .ok (.istore_n 3, 1) := by decide +kernel
theorem dX8_keeps_183 : decode cX8_keeps 183 = .ok (.iload_n 3, 1) := by decide +kernel
theorem dX8_keeps_184 : decode cX8_keeps 184 = .ok (.bipush 16, 2) := by decide +kernel
theorem dX8_keeps_186 : decode cX8_keeps 186 = .ok (.if_icmp .ge 34, 3) := by decide +kernel
theorem dX8_keeps_189 : decode cX8_keeps 189 = .ok (.aload_n 0, 1) := by decide +kernel
theorem dX8_keeps_190 : decode cX8_keeps 190 = .ok (.getfield 47, 3) := by decide +kernel
theorem dX8_keeps_193 : decode cX8_keeps 193 = .ok (.bipush 16, 2) := by decide +kernel
theorem dX8_keeps_195 : decode cX8_keeps 195 = .ok (.aload_n 0, 1) := by decide +kernel
theorem dX8_keeps_196 : decode cX8_keeps 196 = .ok (.getfield 126, 3) := by decide +kernel
theorem dX8_keeps_199 : decode cX8_keeps 199 = .ok (.imul, 1) := by decide +kernel
theorem dX8_keeps_200 : decode cX8_keeps 200 = .ok (.iload_n 3, 1) := by decide +kernel
theorem dX8_keeps_201 : decode cX8_keeps 201 = .ok (.iadd, 1) := by decide +kernel
theorem dX8_keeps_202 : decode cX8_keeps 202 = .ok (.aload_n 0, 1) := by decide +kernel
theorem dX8_keeps_203 : decode cX8_keeps 203 = .ok (.getfield 32, 3) := by decide +kernel
theorem dX8_keeps_206 : decode cX8_keeps 206 = .ok (.bipush 16, 2) := by decide +kernel
theorem dX8_keeps_208 : decode cX8_keeps 208 = .ok (.iload_n 2, 1) := by decide +kernel
theorem dX8_keeps_209 : decode cX8_keeps 209 = .ok (.imul, 1) := by decide +kernel
theorem dX8_keeps_210 : decode cX8_keeps 210 = .ok (.iload_n 3, 1) := by decide +kernel
theorem dX8_keeps_211 : decode cX8_keeps 211 = .ok (.iadd, 1) := by decide +kernel
theorem dX8_keeps_212 : decode cX8_keeps 212 = .ok (.iaload, 1) := by decide +kernel
theorem dX8_keeps_213 : decode cX8_keeps 213 = .ok (.iastore, 1) := by decide +kernel
theorem dX8_keeps_214 : decode cX8_keeps 214 = .ok (.iinc 3 1, 3) := by decide +kernel
theorem dX8_keeps_217 : decode cX8_keeps 217 = .ok (.goto (-34), 3) := by decide +kernel
theorem dX8_keeps_220 : decode cX8_keeps 220 = .ok (.aload_n 0, 1) := by decide +kernel
theorem dX8_keeps_221 : decode cX8_keeps 221 = .ok (.dup, 1) := by decide +kernel
theorem dX8_keeps_222 : decode cX8_keeps 222 = .ok (.getfield 126, 3) := by decide +kernel
theorem dX8_keeps_225 : decode cX8_keeps 225 = .ok (.iconst 1, 1) := by decide +kernel
theorem dX8_keeps_226 : decode cX8_keeps 226 = .ok (.iadd, 1) := by decide +kernel
theorem dX8_keeps_227 : decode cX8_keeps 227 = .ok (.putfield 126, 3) := by decide +kernel
theorem dX8_keeps_230 : decode cX8_keeps 230 = .ok (.return_, 1) := by decide +kernel
theorem dX8_moves_0 : decode cX8_moves 0 = .ok (.aload_n 0, 1) := by decide +kernel
theorem dX8_moves_1 : decode cX8_moves 1 = .ok (.getfield 26, 3) := by decide +kernel
theorem dX8_moves_4 : decode cX8_moves 4 = .ok (.iload_n 2, 1) := by decide +kernel
theorem dX8_moves_5 : decode cX8_moves 5 = .ok (.aload_n 0, 1) := by decide +kernel
theorem dX8_moves_6 : decode cX8_moves 6 = .ok (.getfield 26, 3) := by decide +kernel
theorem dX8_moves_9 : decode cX8_moves 9 = .ok (.iload_n 1, 1) := by decide +kernel
theorem dX8_moves_10 : decode cX8_moves 10 = .ok (.iaload, 1) := by decide +kernel
theorem dX8_moves_11 : decode cX8_moves 11 = .ok (.iastore, 1) := by decide +kernel
theorem dX8_moves_12 : decode cX8_moves 12 = .ok (.aload_n 0, 1) := by decide +kernel
theorem dX8_moves_13 : decode cX8_moves 13 = .ok (.getfield 29, 3) := by decide +kernel
theorem dX8_moves_16 : decode cX8_moves 16 = .ok (.iload_n 2, 1) := by decide +kernel
theorem dX8_moves_17 : decode cX8_moves 17 = .ok (.aload_n 0, 1) := by decide +kernel
theorem dX8_moves_18 : decode cX8_moves 18 = .ok (.getfield 29, 3) := by decide +kernel
theorem dX8_moves_21 : decode cX8_moves 21 = .ok (.iload_n 1, 1) := by decide +kernel
theorem dX8_moves_22 : decode cX8_moves 22 = .ok (.iaload, 1) := by decide +kernel
theorem dX8_moves_23 : decode cX8_moves 23 = .ok (.iastore, 1) := by decide +kernel
theorem dX8_moves_24 : decode cX8_moves 24 = .ok (.iconst 0, 1) := by decide +kernel
theorem dX8_moves_25 : decode cX8_moves 25 = .ok (.istore_n 3, 1) := by decide +kernel
theorem dX8_moves_26 : decode cX8_moves 26 = .ok (.iload_n 3, 1) := by decide +kernel
theorem dX8_moves_27 : decode cX8_moves 27 = .ok (.bipush 16, 2) := by decide +kernel
theorem dX8_moves_29 : decode cX8_moves 29 = .ok (.if_icmp .ge 31, 3) := by decide +kernel
theorem dX8_moves_32 : decode cX8_moves 32 = .ok (.aload_n 0, 1) := by decide +kernel
theorem dX8_moves_33 : decode cX8_moves 33 = .ok (.getfield 32, 3) := by decide +kernel
theorem dX8_moves_36 : decode cX8_moves 36 = .ok (.bipush 16, 2) := by decide +kernel
theorem dX8_moves_38 : decode cX8_moves 38 = .ok (.iload_n 2, 1) := by decide +kernel
theorem dX8_moves_39 : decode cX8_moves 39 = .ok (.imul, 1) := by decide +kernel
theorem dX8_moves_40 : decode cX8_moves 40 = .ok (.iload_n 3, 1) := by decide +kernel
theorem dX8_moves_41 : decode cX8_moves 41 = .ok (.iadd, 1) := by decide +kernel
theorem dX8_moves_42 : decode cX8_moves 42 = .ok (.aload_n 0, 1) := by decide +kernel
theorem dX8_moves_43 : decode cX8_moves 43 = .ok (.getfield 32, 3) := by decide +kernel
theorem dX8_moves_46 : decode cX8_moves 46 = .ok (.bipush 16, 2) := by decide +kernel
theorem dX8_moves_48 : decode cX8_moves 48 = .ok (.iload_n 1, 1) := by decide +kernel
theorem dX8_moves_49 : decode cX8_moves 49 = .ok (.imul, 1) := by decide +kernel
theorem dX8_moves_50 : decode cX8_moves 50 = .ok (.iload_n 3, 1) := by decide +kernel
theorem dX8_moves_51 : decode cX8_moves 51 = .ok (.iadd, 1) := by decide +kernel
theorem dX8_moves_52 : decode cX8_moves 52 = .ok (.iaload, 1) := by decide +kernel
theorem dX8_moves_53 : decode cX8_moves 53 = .ok (.iastore, 1) := by decide +kernel
theorem dX8_moves_54 : decode cX8_moves 54 = .ok (.iinc 3 1, 3) := by decide +kernel
theorem dX8_moves_57 : decode cX8_moves 57 = .ok (.goto (-31), 3) := by decide +kernel
theorem dX8_moves_60 : decode cX8_moves 60 = .ok (.return_, 1) := by decide +kernel
set_option maxRecDepth 20000 in
theorem ggX8_teach_X8_in : GoodIn wsX8_teach wsX8_in := goodIn_r _ [11] (by decide +kernel) (by decide +kernel)
set_option maxRecDepth 20000 in
theorem gX8_teach_X8_in : GoodIn wsX8_teach (va_wsS RX8 88 yX8_in wsX8_in) := goodIn_app (goodIn_of _ (by decide +kernel)) ggX8_teach_X8_in
set_option maxRecDepth 20000 in
theorem ggX8_teach_X8_way : GoodIn wsX8_teach wsX8_way := goodIn_r _ [15, 16, 17, 18, 19, 10, 20, 21, 22, 23, 24, 25, 26, 52, 53, 54, 55, 56, 57, 58, 59, 60, 61, 62, 63, 64, 65, 66, 67, 68, 69, 70, 71, 72, 73, 74, 75, 76, 77, 78, 79, 80, 81, 82, 83] (by decide +kernel) (by decide +kernel)
set_option maxRecDepth 20000 in
theorem gX8_teach_X8_way : GoodIn wsX8_teach (wsV RX8 102 RX8 yX8_way wsX8_way) := goodIn_app (goodIn_of _ (by decide +kernel)) ggX8_teach_X8_way
set_option maxRecDepth 20000 in
theorem ggX8_teach_X8_findNorms : GoodIn wsX8_teach wsX8_findNorms := goodIn_r _ [30, 31, 32, 7, 33, 34, 35, 36, 10, 37, 38, 22, 23, 12, 13, 14, 15, 16, 17, 18, 19, 20, 21, 24, 25, 26, 39, 40, 41, 52, 53, 54, 55, 56, 57, 58, 59, 60, 61, 62, 63, 64, 65, 66, 67, 68, 69, 70, 71, 72, 73, 74, 75, 76, 77, 78, 79, 80, 81, 82, 83] (by decide +kernel) (by decide +kernel)
set_option maxRecDepth 20000 in
theorem gX8_teach_X8_findNorms : GoodIn wsX8_teach (wsV RX8 120 RX8 yX8_findNorms wsX8_findNorms) := goodIn_app (goodIn_of _ (by decide +kernel)) ggX8_teach_X8_findNorms
set_option maxRecDepth 20000 in
theorem ggX8_teach_X8_keeps : GoodIn wsX8_teach wsX8_keeps := goodIn_r _ [45, 46, 47, 48, 49, 50, 51, 4, 5, 6, 52, 53, 54, 55, 56, 57, 58, 59, 60, 61, 62, 63, 64, 65, 66, 67, 68, 69, 70, 71, 72, 73, 74, 75, 76, 77, 78, 79, 80, 81, 82, 83] (by decide +kernel) (by decide +kernel)
set_option maxRecDepth 20000 in
theorem gX8_teach_X8_keeps : GoodIn wsX8_teach (wsV RX8 133 RX8 yX8_keeps wsX8_keeps) := goodIn_app (goodIn_of _ (by decide +kernel)) ggX8_teach_X8_keeps
theorem dX8_teach_0 : decode cX8_teach 0 = .ok (.iload_n 1, 1) := by decide +kernel
theorem dX8_teach_1 : decode cX8_teach 1 = .ok (.i2l, 1) := by decide +kernel
theorem dX8_teach_2 : decode cX8_teach 2 = .ok (.lconst 0, 1) := by decide +kernel
theorem dX8_teach_3 : decode cX8_teach 3 = .ok (.ldc2_w 129, 3) := by decide +kernel
theorem dX8_teach_6 : decode cX8_teach 6 = .ok (.invokestatic 88, 3) := by decide +kernel
theorem dX8_teach_9 : decode cX8_teach 9 = .ok (.ifCond .eq 15, 3) := by decide +kernel
theorem dX8_teach_12 : decode cX8_teach 12 = .ok (.iload_n 2, 1) := by decide +kernel
theorem dX8_teach_13 : decode cX8_teach 13 = .ok (.i2l, 1) := by decide +kernel
theorem dX8_teach_14 : decode cX8_teach 14 = .ok (.lconst 0, 1) := by decide +kernel
theorem dX8_teach_15 : decode cX8_teach 15 = .ok (.ldc2_w 131, 3) := by decide +kernel
theorem dX8_teach_18 : decode cX8_teach 18 = .ok (.invokestatic 88, 3) := by decide +kernel
theorem dX8_teach_21 : decode cX8_teach 21 = .ok (.ifCond .ne 5, 3) := by decide +kernel
theorem dX8_teach_24 : decode cX8_teach 24 = .ok (.iconst (-1), 1) := by decide +kernel
theorem dX8_teach_25 : decode cX8_teach 25 = .ok (.ireturn, 1) := by decide +kernel
theorem dX8_teach_26 : decode cX8_teach 26 = .ok (.aload_n 0, 1) := by decide +kernel
theorem dX8_teach_27 : decode cX8_teach 27 = .ok (.invokevirtual 102, 3) := by decide +kernel
theorem dX8_teach_30 : decode cX8_teach 30 = .ok (.ifCond .ne 6, 3) := by decide +kernel
theorem dX8_teach_33 : decode cX8_teach 33 = .ok (.bipush (-2), 2) := by decide +kernel
theorem dX8_teach_35 : decode cX8_teach 35 = .ok (.ireturn, 1) := by decide +kernel
theorem dX8_teach_36 : decode cX8_teach 36 = .ok (.aload_n 0, 1) := by decide +kernel
theorem dX8_teach_37 : decode cX8_teach 37 = .ok (.getfield 123, 3) := by decide +kernel
theorem dX8_teach_40 : decode cX8_teach 40 = .ok (.bipush 16, 2) := by decide +kernel
theorem dX8_teach_42 : decode cX8_teach 42 = .ok (.if_icmp .ne 6, 3) := by decide +kernel
theorem dX8_teach_45 : decode cX8_teach 45 = .ok (.bipush (-3), 2) := by decide +kernel
theorem dX8_teach_47 : decode cX8_teach 47 = .ok (.ireturn, 1) := by decide +kernel
theorem dX8_teach_48 : decode cX8_teach 48 = .ok (.aload_n 0, 1) := by decide +kernel
theorem dX8_teach_49 : decode cX8_teach 49 = .ok (.invokevirtual 120, 3) := by decide +kernel
theorem dX8_teach_52 : decode cX8_teach 52 = .ok (.aload_n 0, 1) := by decide +kernel
theorem dX8_teach_53 : decode cX8_teach 53 = .ok (.getfield 26, 3) := by decide +kernel
theorem dX8_teach_56 : decode cX8_teach 56 = .ok (.aload_n 0, 1) := by decide +kernel
theorem dX8_teach_57 : decode cX8_teach 57 = .ok (.getfield 123, 3) := by decide +kernel
theorem dX8_teach_60 : decode cX8_teach 60 = .ok (.iload_n 1, 1) := by decide +kernel
theorem dX8_teach_61 : decode cX8_teach 61 = .ok (.iastore, 1) := by decide +kernel
theorem dX8_teach_62 : decode cX8_teach 62 = .ok (.aload_n 0, 1) := by decide +kernel
theorem dX8_teach_63 : decode cX8_teach 63 = .ok (.getfield 29, 3) := by decide +kernel
theorem dX8_teach_66 : decode cX8_teach 66 = .ok (.aload_n 0, 1) := by decide +kernel
theorem dX8_teach_67 : decode cX8_teach 67 = .ok (.getfield 123, 3) := by decide +kernel
theorem dX8_teach_70 : decode cX8_teach 70 = .ok (.iload_n 2, 1) := by decide +kernel
theorem dX8_teach_71 : decode cX8_teach 71 = .ok (.iastore, 1) := by decide +kernel
theorem dX8_teach_72 : decode cX8_teach 72 = .ok (.iconst 0, 1) := by decide +kernel
theorem dX8_teach_73 : decode cX8_teach 73 = .ok (.istore_n 3, 1) := by decide +kernel
theorem dX8_teach_74 : decode cX8_teach 74 = .ok (.iload_n 3, 1) := by decide +kernel
theorem dX8_teach_75 : decode cX8_teach 75 = .ok (.bipush 16, 2) := by decide +kernel
theorem dX8_teach_77 : decode cX8_teach 77 = .ok (.if_icmp .ge 29, 3) := by decide +kernel
theorem dX8_teach_80 : decode cX8_teach 80 = .ok (.aload_n 0, 1) := by decide +kernel
theorem dX8_teach_81 : decode cX8_teach 81 = .ok (.getfield 32, 3) := by decide +kernel
theorem dX8_teach_84 : decode cX8_teach 84 = .ok (.bipush 16, 2) := by decide +kernel
theorem dX8_teach_86 : decode cX8_teach 86 = .ok (.aload_n 0, 1) := by decide +kernel
theorem dX8_teach_87 : decode cX8_teach 87 = .ok (.getfield 123, 3) := by decide +kernel
theorem dX8_teach_90 : decode cX8_teach 90 = .ok (.imul, 1) := by decide +kernel
theorem dX8_teach_91 : decode cX8_teach 91 = .ok (.iload_n 3, 1) := by decide +kernel
theorem dX8_teach_92 : decode cX8_teach 92 = .ok (.iadd, 1) := by decide +kernel
theorem dX8_teach_93 : decode cX8_teach 93 = .ok (.aload_n 0, 1) := by decide +kernel
theorem dX8_teach_94 : decode cX8_teach 94 = .ok (.getfield 23, 3) := by decide +kernel
theorem dX8_teach_97 : decode cX8_teach 97 = .ok (.iload_n 3, 1) := by decide +kernel
theorem dX8_teach_98 : decode cX8_teach 98 = .ok (.iaload, 1) := by decide +kernel
theorem dX8_teach_99 : decode cX8_teach 99 = .ok (.iastore, 1) := by decide +kernel
theorem dX8_teach_100 : decode cX8_teach 100 = .ok (.iinc 3 1, 3) := by decide +kernel
theorem dX8_teach_103 : decode cX8_teach 103 = .ok (.goto (-29), 3) := by decide +kernel
theorem dX8_teach_106 : decode cX8_teach 106 = .ok (.aload_n 0, 1) := by decide +kernel
theorem dX8_teach_107 : decode cX8_teach 107 = .ok (.iconst 0, 1) := by decide +kernel
theorem dX8_teach_108 : decode cX8_teach 108 = .ok (.aload_n 0, 1) := by decide +kernel
theorem dX8_teach_109 : decode cX8_teach 109 = .ok (.getfield 123, 3) := by decide +kernel
theorem dX8_teach_112 : decode cX8_teach 112 = .ok (.invokevirtual 133, 3) := by decide +kernel
theorem dX8_teach_115 : decode cX8_teach 115 = .ok (.aload_n 0, 1) := by decide +kernel
theorem dX8_teach_116 : decode cX8_teach 116 = .ok (.dup, 1) := by decide +kernel
theorem dX8_teach_117 : decode cX8_teach 117 = .ok (.getfield 123, 3) := by decide +kernel
theorem dX8_teach_120 : decode cX8_teach 120 = .ok (.iconst 1, 1) := by decide +kernel
theorem dX8_teach_121 : decode cX8_teach 121 = .ok (.iadd, 1) := by decide +kernel
theorem dX8_teach_122 : decode cX8_teach 122 = .ok (.putfield 123, 3) := by decide +kernel
theorem dX8_teach_125 : decode cX8_teach 125 = .ok (.aload_n 0, 1) := by decide +kernel
theorem dX8_teach_126 : decode cX8_teach 126 = .ok (.getfield 123, 3) := by decide +kernel
theorem dX8_teach_129 : decode cX8_teach 129 = .ok (.iconst 1, 1) := by decide +kernel
theorem dX8_teach_130 : decode cX8_teach 130 = .ok (.isub, 1) := by decide +kernel
theorem dX8_teach_131 : decode cX8_teach 131 = .ok (.ireturn, 1) := by decide +kernel
set_option maxRecDepth 20000 in
theorem ggX8_goes_X8_moves : GoodIn wsX8_goes wsX8_moves := goodIn_r _ [6, 7, 8, 9, 10, 11, 12, 13, 14, 15, 16, 17, 18, 19, 20, 21, 22, 23, 24, 25, 26, 27, 28, 29, 30, 31, 32, 33, 34, 35, 36, 37, 38, 39, 40, 41] (by decide +kernel) (by decide +kernel)
set_option maxRecDepth 20000 in
theorem gX8_goes_X8_moves : GoodIn wsX8_goes (wsV RX8 137 RX8 yX8_moves wsX8_moves) := goodIn_app (goodIn_of _ (by decide +kernel)) ggX8_goes_X8_moves
theorem dX8_goes_0 : decode cX8_goes 0 = .ok (.aload_n 0, 1) := by decide +kernel
theorem dX8_goes_1 : decode cX8_goes 1 = .ok (.dup, 1) := by decide +kernel
theorem dX8_goes_2 : decode cX8_goes 2 = .ok (.getfield 123, 3) := by decide +kernel
theorem dX8_goes_5 : decode cX8_goes 5 = .ok (.iconst 1, 1) := by decide +kernel
theorem dX8_goes_6 : decode cX8_goes 6 = .ok (.isub, 1) := by decide +kernel
theorem dX8_goes_7 : decode cX8_goes 7 = .ok (.putfield 123, 3) := by decide +kernel
theorem dX8_goes_10 : decode cX8_goes 10 = .ok (.iload_n 1, 1) := by decide +kernel
theorem dX8_goes_11 : decode cX8_goes 11 = .ok (.istore_n 2, 1) := by decide +kernel
theorem dX8_goes_12 : decode cX8_goes 12 = .ok (.iload_n 2, 1) := by decide +kernel
theorem dX8_goes_13 : decode cX8_goes 13 = .ok (.aload_n 0, 1) := by decide +kernel
theorem dX8_goes_14 : decode cX8_goes 14 = .ok (.getfield 123, 3) := by decide +kernel
theorem dX8_goes_17 : decode cX8_goes 17 = .ok (.if_icmp .ge 17, 3) := by decide +kernel
theorem dX8_goes_20 : decode cX8_goes 20 = .ok (.aload_n 0, 1) := by decide +kernel
theorem dX8_goes_21 : decode cX8_goes 21 = .ok (.iload_n 2, 1) := by decide +kernel
theorem dX8_goes_22 : decode cX8_goes 22 = .ok (.iconst 1, 1) := by decide +kernel
theorem dX8_goes_23 : decode cX8_goes 23 = .ok (.iadd, 1) := by decide +kernel
theorem dX8_goes_24 : decode cX8_goes 24 = .ok (.iload_n 2, 1) := by decide +kernel
theorem dX8_goes_25 : decode cX8_goes 25 = .ok (.invokevirtual 137, 3) := by decide +kernel
theorem dX8_goes_28 : decode cX8_goes 28 = .ok (.iinc 2 1, 3) := by decide +kernel
theorem dX8_goes_31 : decode cX8_goes 31 = .ok (.goto (-19), 3) := by decide +kernel
theorem dX8_goes_34 : decode cX8_goes 34 = .ok (.return_, 1) := by decide +kernel
set_option maxRecDepth 20000 in
theorem ggX8_forget_X8_isTaught : GoodIn wsX8_forget wsX8_isTaught := goodIn_r _ [6, 7, 8, 9, 5, 10, 31, 32, 33, 34, 35, 36, 37, 38, 39, 40, 41, 42, 43, 44, 45, 46, 47, 48, 49, 50, 51, 52, 53, 54, 55, 56, 57, 58, 59, 60, 61, 62] (by decide +kernel) (by decide +kernel)
set_option maxRecDepth 20000 in
theorem gX8_forget_X8_isTaught : GoodIn wsX8_forget (wsV RX8 140 RX8 yX8_isTaught wsX8_isTaught) := goodIn_app (goodIn_of _ (by decide +kernel)) ggX8_forget_X8_isTaught
set_option maxRecDepth 20000 in
theorem ggX8_forget_X8_keeps : GoodIn wsX8_forget wsX8_keeps := goodIn_r _ [14, 15, 16, 17, 18, 19, 20, 1, 21, 22, 31, 32, 33, 34, 35, 36, 37, 38, 39, 40, 41, 42, 43, 44, 45, 46, 47, 48, 49, 50, 51, 52, 53, 54, 55, 56, 57, 58, 59, 60, 61, 62] (by decide +kernel) (by decide +kernel)
set_option maxRecDepth 20000 in
theorem gX8_forget_X8_keeps : GoodIn wsX8_forget (wsV RX8 133 RX8 yX8_keeps wsX8_keeps) := goodIn_app (goodIn_of _ (by decide +kernel)) ggX8_forget_X8_keeps
set_option maxRecDepth 20000 in
theorem ggX8_forget_X8_goes : GoodIn wsX8_forget wsX8_goes := goodIn_r _ [26, 7, 27, 28, 29, 5, 30, 1, 21, 22, 31, 32, 33, 34, 35, 36, 37, 38, 39, 40, 41, 42, 43, 44, 45, 46, 47, 48, 49, 50, 51, 52, 53, 54, 55, 56, 57, 58, 59, 60, 61, 62] (by decide +kernel) (by decide +kernel)
set_option maxRecDepth 20000 in
theorem gX8_forget_X8_goes : GoodIn wsX8_forget (wsV RX8 144 RX8 yX8_goes wsX8_goes) := goodIn_app (goodIn_of _ (by decide +kernel)) ggX8_forget_X8_goes
theorem dX8_forget_0 : decode cX8_forget 0 = .ok (.aload_n 0, 1) := by decide +kernel
theorem dX8_forget_1 : decode cX8_forget 1 = .ok (.iload_n 1, 1) := by decide +kernel
theorem dX8_forget_2 : decode cX8_forget 2 = .ok (.invokevirtual 140, 3) := by decide +kernel
theorem dX8_forget_5 : decode cX8_forget 5 = .ok (.ifCond .ne 5, 3) := by decide +kernel
theorem dX8_forget_8 : decode cX8_forget 8 = .ok (.iconst (-1), 1) := by decide +kernel
theorem dX8_forget_9 : decode cX8_forget 9 = .ok (.ireturn, 1) := by decide +kernel
theorem dX8_forget_10 : decode cX8_forget 10 = .ok (.aload_n 0, 1) := by decide +kernel
theorem dX8_forget_11 : decode cX8_forget 11 = .ok (.getfield 26, 3) := by decide +kernel
theorem dX8_forget_14 : decode cX8_forget 14 = .ok (.iload_n 1, 1) := by decide +kernel
theorem dX8_forget_15 : decode cX8_forget 15 = .ok (.iaload, 1) := by decide +kernel
theorem dX8_forget_16 : decode cX8_forget 16 = .ok (.istore_n 2, 1) := by decide +kernel
theorem dX8_forget_17 : decode cX8_forget 17 = .ok (.aload_n 0, 1) := by decide +kernel
theorem dX8_forget_18 : decode cX8_forget 18 = .ok (.iconst 1, 1) := by decide +kernel
theorem dX8_forget_19 : decode cX8_forget 19 = .ok (.iload_n 1, 1) := by decide +kernel
theorem dX8_forget_20 : decode cX8_forget 20 = .ok (.invokevirtual 133, 3) := by decide +kernel
theorem dX8_forget_23 : decode cX8_forget 23 = .ok (.aload_n 0, 1) := by decide +kernel
theorem dX8_forget_24 : decode cX8_forget 24 = .ok (.iload_n 1, 1) := by decide +kernel
theorem dX8_forget_25 : decode cX8_forget 25 = .ok (.invokevirtual 144, 3) := by decide +kernel
theorem dX8_forget_28 : decode cX8_forget 28 = .ok (.iload_n 2, 1) := by decide +kernel
theorem dX8_forget_29 : decode cX8_forget 29 = .ok (.ireturn, 1) := by decide +kernel
set_option maxRecDepth 20000 in
theorem ggX8_undo_X8_goes : GoodIn wsX8_undo wsX8_goes := goodIn_r _ [15, 4, 16, 17, 18, 14, 19, 5, 7, 9, 20, 21, 22, 23, 24, 25, 26, 27, 28, 29, 30, 31, 32, 33, 34, 35, 36, 37, 38, 39, 40, 41, 42, 43, 44, 45, 46, 47, 48, 49, 50, 51] (by decide +kernel) (by decide +kernel)
set_option maxRecDepth 20000 in
theorem gX8_undo_X8_goes : GoodIn wsX8_undo (wsV RX8 144 RX8 yX8_goes wsX8_goes) := goodIn_app (goodIn_of _ (by decide +kernel)) ggX8_undo_X8_goes
set_option maxRecDepth 20000 in
theorem ggX8_undo_X8_moves : GoodIn wsX8_undo wsX8_moves := goodIn_r _ [19, 5, 7, 9, 20, 21, 22, 23, 24, 25, 26, 27, 28, 29, 30, 31, 32, 33, 34, 35, 36, 37, 38, 39, 40, 41, 42, 43, 44, 45, 46, 47, 48, 49, 50, 51] (by decide +kernel) (by decide +kernel)
set_option maxRecDepth 20000 in
theorem gX8_undo_X8_moves : GoodIn wsX8_undo (wsV RX8 137 RX8 yX8_moves wsX8_moves) := goodIn_app (goodIn_of _ (by decide +kernel)) ggX8_undo_X8_moves
theorem dX8_undo_0 : decode cX8_undo 0 = .ok (.aload_n 0, 1) := by decide +kernel
theorem dX8_undo_1 : decode cX8_undo 1 = .ok (.getfield 126, 3) := by decide +kernel
theorem dX8_undo_4 : decode cX8_undo 4 = .ok (.ifCond .ne 6, 3) := by decide +kernel
theorem dX8_undo_7 : decode cX8_undo 7 = .ok (.bipush (-4), 2) := by decide +kernel
theorem dX8_undo_9 : decode cX8_undo 9 = .ok (.ireturn, 1) := by decide +kernel
theorem dX8_undo_10 : decode cX8_undo 10 = .ok (.aload_n 0, 1) := by decide +kernel
theorem dX8_undo_11 : decode cX8_undo 11 = .ok (.dup, 1) := by decide +kernel
theorem dX8_undo_12 : decode cX8_undo 12 = .ok (.getfield 126, 3) := by decide +kernel
theorem dX8_undo_15 : decode cX8_undo 15 = .ok (.iconst 1, 1) := by decide +kernel
theorem dX8_undo_16 : decode cX8_undo 16 = .ok (.isub, 1) := by decide +kernel
theorem dX8_undo_17 : decode cX8_undo 17 = .ok (.putfield 126, 3) := by decide +kernel
theorem dX8_undo_20 : decode cX8_undo 20 = .ok (.aload_n 0, 1) := by decide +kernel
theorem dX8_undo_21 : decode cX8_undo 21 = .ok (.getfield 38, 3) := by decide +kernel
theorem dX8_undo_24 : decode cX8_undo 24 = .ok (.aload_n 0, 1) := by decide +kernel
theorem dX8_undo_25 : decode cX8_undo 25 = .ok (.getfield 126, 3) := by decide +kernel
theorem dX8_undo_28 : decode cX8_undo 28 = .ok (.iaload, 1) := by decide +kernel
theorem dX8_undo_29 : decode cX8_undo 29 = .ok (.istore_n 1, 1) := by decide +kernel
theorem dX8_undo_30 : decode cX8_undo 30 = .ok (.aload_n 0, 1) := by decide +kernel
theorem dX8_undo_31 : decode cX8_undo 31 = .ok (.getfield 35, 3) := by decide +kernel
theorem dX8_undo_34 : decode cX8_undo 34 = .ok (.aload_n 0, 1) := by decide +kernel
theorem dX8_undo_35 : decode cX8_undo 35 = .ok (.getfield 126, 3) := by decide +kernel
theorem dX8_undo_38 : decode cX8_undo 38 = .ok (.iaload, 1) := by decide +kernel
theorem dX8_undo_39 : decode cX8_undo 39 = .ok (.ifCond .ne 13, 3) := by decide +kernel
theorem dX8_undo_42 : decode cX8_undo 42 = .ok (.aload_n 0, 1) := by decide +kernel
theorem dX8_undo_43 : decode cX8_undo 43 = .ok (.iload_n 1, 1) := by decide +kernel
theorem dX8_undo_44 : decode cX8_undo 44 = .ok (.invokevirtual 144, 3) := by decide +kernel
theorem dX8_undo_47 : decode cX8_undo 47 = .ok (.aload_n 0, 1) := by decide +kernel
theorem dX8_undo_48 : decode cX8_undo 48 = .ok (.getfield 126, 3) := by decide +kernel
theorem dX8_undo_51 : decode cX8_undo 51 = .ok (.ireturn, 1) := by decide +kernel
theorem dX8_undo_52 : decode cX8_undo 52 = .ok (.aload_n 0, 1) := by decide +kernel
theorem dX8_undo_53 : decode cX8_undo 53 = .ok (.getfield 35, 3) := by decide +kernel
theorem dX8_undo_56 : decode cX8_undo 56 = .ok (.aload_n 0, 1) := by decide +kernel
theorem dX8_undo_57 : decode cX8_undo 57 = .ok (.getfield 126, 3) := by decide +kernel
theorem dX8_undo_60 : decode cX8_undo 60 = .ok (.iaload, 1) := by decide +kernel
theorem dX8_undo_61 : decode cX8_undo 61 = .ok (.iconst 1, 1) := by decide +kernel
theorem dX8_undo_62 : decode cX8_undo 62 = .ok (.if_icmp .ne 37, 3) := by decide +kernel
theorem dX8_undo_65 : decode cX8_undo 65 = .ok (.aload_n 0, 1) := by decide +kernel
theorem dX8_undo_66 : decode cX8_undo 66 = .ok (.getfield 123, 3) := by decide +kernel
theorem dX8_undo_69 : decode cX8_undo 69 = .ok (.istore_n 2, 1) := by decide +kernel
theorem dX8_undo_70 : decode cX8_undo 70 = .ok (.iload_n 2, 1) := by decide +kernel
theorem dX8_undo_71 : decode cX8_undo 71 = .ok (.iload_n 1, 1) := by decide +kernel
theorem dX8_undo_72 : decode cX8_undo 72 = .ok (.if_icmp .le 17, 3) := by decide +kernel
theorem dX8_undo_75 : decode cX8_undo 75 = .ok (.aload_n 0, 1) := by decide +kernel
theorem dX8_undo_76 : decode cX8_undo 76 = .ok (.iload_n 2, 1) := by decide +kernel
theorem dX8_undo_77 : decode cX8_undo 77 = .ok (.iconst 1, 1) := by decide +kernel
theorem dX8_undo_78 : decode cX8_undo 78 = .ok (.isub, 1) := by decide +kernel
theorem dX8_undo_79 : decode cX8_undo 79 = .ok (.iload_n 2, 1) := by decide +kernel
theorem dX8_undo_80 : decode cX8_undo 80 = .ok (.invokevirtual 137, 3) := by decide +kernel
theorem dX8_undo_83 : decode cX8_undo 83 = .ok (.iinc 2 (-1), 3) := by decide +kernel
theorem dX8_undo_86 : decode cX8_undo 86 = .ok (.goto (-16), 3) := by decide +kernel
theorem dX8_undo_89 : decode cX8_undo 89 = .ok (.aload_n 0, 1) := by decide +kernel
theorem dX8_undo_90 : decode cX8_undo 90 = .ok (.dup, 1) := by decide +kernel
theorem dX8_undo_91 : decode cX8_undo 91 = .ok (.getfield 123, 3) := by decide +kernel
theorem dX8_undo_94 : decode cX8_undo 94 = .ok (.iconst 1, 1) := by decide +kernel
theorem dX8_undo_95 : decode cX8_undo 95 = .ok (.iadd, 1) := by decide +kernel
theorem dX8_undo_96 : decode cX8_undo 96 = .ok (.putfield 123, 3) := by decide +kernel
theorem dX8_undo_99 : decode cX8_undo 99 = .ok (.aload_n 0, 1) := by decide +kernel
theorem dX8_undo_100 : decode cX8_undo 100 = .ok (.getfield 26, 3) := by decide +kernel
theorem dX8_undo_103 : decode cX8_undo 103 = .ok (.iload_n 1, 1) := by decide +kernel
theorem dX8_undo_104 : decode cX8_undo 104 = .ok (.aload_n 0, 1) := by decide +kernel
theorem dX8_undo_105 : decode cX8_undo 105 = .ok (.getfield 41, 3) := by decide +kernel
theorem dX8_undo_108 : decode cX8_undo 108 = .ok (.aload_n 0, 1) := by decide +kernel
theorem dX8_undo_109 : decode cX8_undo 109 = .ok (.getfield 126, 3) := by decide +kernel
theorem dX8_undo_112 : decode cX8_undo 112 = .ok (.iaload, 1) := by decide +kernel
theorem dX8_undo_113 : decode cX8_undo 113 = .ok (.iastore, 1) := by decide +kernel
theorem dX8_undo_114 : decode cX8_undo 114 = .ok (.aload_n 0, 1) := by decide +kernel
theorem dX8_undo_115 : decode cX8_undo 115 = .ok (.getfield 29, 3) := by decide +kernel
theorem dX8_undo_118 : decode cX8_undo 118 = .ok (.iload_n 1, 1) := by decide +kernel
theorem dX8_undo_119 : decode cX8_undo 119 = .ok (.aload_n 0, 1) := by decide +kernel
theorem dX8_undo_120 : decode cX8_undo 120 = .ok (.getfield 44, 3) := by decide +kernel
theorem dX8_undo_123 : decode cX8_undo 123 = .ok (.aload_n 0, 1) := by decide +kernel
theorem dX8_undo_124 : decode cX8_undo 124 = .ok (.getfield 126, 3) := by decide +kernel
theorem dX8_undo_127 : decode cX8_undo 127 = .ok (.iaload, 1) := by decide +kernel
theorem dX8_undo_128 : decode cX8_undo 128 = .ok (.iastore, 1) := by decide +kernel
theorem dX8_undo_129 : decode cX8_undo 129 = .ok (.iconst 0, 1) := by decide +kernel
theorem dX8_undo_130 : decode cX8_undo 130 = .ok (.istore_n 2, 1) := by decide +kernel
theorem dX8_undo_131 : decode cX8_undo 131 = .ok (.iload_n 2, 1) := by decide +kernel
theorem dX8_undo_132 : decode cX8_undo 132 = .ok (.bipush 16, 2) := by decide +kernel
theorem dX8_undo_134 : decode cX8_undo 134 = .ok (.if_icmp .ge 34, 3) := by decide +kernel
theorem dX8_undo_137 : decode cX8_undo 137 = .ok (.aload_n 0, 1) := by decide +kernel
theorem dX8_undo_138 : decode cX8_undo 138 = .ok (.getfield 32, 3) := by decide +kernel
theorem dX8_undo_141 : decode cX8_undo 141 = .ok (.bipush 16, 2) := by decide +kernel
theorem dX8_undo_143 : decode cX8_undo 143 = .ok (.iload_n 1, 1) := by decide +kernel
theorem dX8_undo_144 : decode cX8_undo 144 = .ok (.imul, 1) := by decide +kernel
theorem dX8_undo_145 : decode cX8_undo 145 = .ok (.iload_n 2, 1) := by decide +kernel
theorem dX8_undo_146 : decode cX8_undo 146 = .ok (.iadd, 1) := by decide +kernel
theorem dX8_undo_147 : decode cX8_undo 147 = .ok (.aload_n 0, 1) := by decide +kernel
theorem dX8_undo_148 : decode cX8_undo 148 = .ok (.getfield 47, 3) := by decide +kernel
theorem dX8_undo_151 : decode cX8_undo 151 = .ok (.bipush 16, 2) := by decide +kernel
theorem dX8_undo_153 : decode cX8_undo 153 = .ok (.aload_n 0, 1) := by decide +kernel
theorem dX8_undo_154 : decode cX8_undo 154 = .ok (.getfield 126, 3) := by decide +kernel
theorem dX8_undo_157 : decode cX8_undo 157 = .ok (.imul, 1) := by decide +kernel
theorem dX8_undo_158 : decode cX8_undo 158 = .ok (.iload_n 2, 1) := by decide +kernel
theorem dX8_undo_159 : decode cX8_undo 159 = .ok (.iadd, 1) := by decide +kernel
theorem dX8_undo_160 : decode cX8_undo 160 = .ok (.iaload, 1) := by decide +kernel
theorem dX8_undo_161 : decode cX8_undo 161 = .ok (.iastore, 1) := by decide +kernel
theorem dX8_undo_162 : decode cX8_undo 162 = .ok (.iinc 2 1, 3) := by decide +kernel
theorem dX8_undo_165 : decode cX8_undo 165 = .ok (.goto (-34), 3) := by decide +kernel
theorem dX8_undo_168 : decode cX8_undo 168 = .ok (.aload_n 0, 1) := by decide +kernel
theorem dX8_undo_169 : decode cX8_undo 169 = .ok (.getfield 126, 3) := by decide +kernel
theorem dX8_undo_172 : decode cX8_undo 172 = .ok (.ireturn, 1) := by decide +kernel
set_option maxRecDepth 20000 in
theorem ggX8_label_X8_isTaught : GoodIn wsX8_label wsX8_isTaught := goodIn_r _ [7, 8, 9, 10, 6, 11, 24, 25, 26, 27, 28, 29, 30, 31, 32, 33, 34, 35, 36, 37, 38, 39, 40, 41, 42, 43, 44, 45, 46, 47, 48, 49, 50, 51, 52, 53, 54, 55] (by decide +kernel) (by decide +kernel)
set_option maxRecDepth 20000 in
theorem gX8_label_X8_isTaught : GoodIn wsX8_label (wsV RX8 140 RX8 yX8_isTaught wsX8_isTaught) := goodIn_app (goodIn_of _ (by decide +kernel)) ggX8_label_X8_isTaught
set_option maxRecDepth 20000 in
theorem ggX8_label_X8_in : GoodIn wsX8_label wsX8_in := goodIn_r _ [11] (by decide +kernel) (by decide +kernel)
set_option maxRecDepth 20000 in
theorem gX8_label_X8_in : GoodIn wsX8_label (va_wsS RX8 88 yX8_in wsX8_in) := goodIn_app (goodIn_of _ (by decide +kernel)) ggX8_label_X8_in
set_option maxRecDepth 20000 in
theorem ggX8_label_X8_keeps : GoodIn wsX8_label wsX8_keeps := goodIn_r _ [15, 16, 17, 18, 19, 20, 21, 2, 22, 23, 24, 25, 26, 27, 28, 29, 30, 31, 32, 33, 34, 35, 36, 37, 38, 39, 40, 41, 42, 43, 44, 45, 46, 47, 48, 49, 50, 51, 52, 53, 54, 55] (by decide +kernel) (by decide +kernel)
set_option maxRecDepth 20000 in
theorem gX8_label_X8_keeps : GoodIn wsX8_label (wsV RX8 133 RX8 yX8_keeps wsX8_keeps) := goodIn_app (goodIn_of _ (by decide +kernel)) ggX8_label_X8_keeps
theorem dX8_label_0 : decode cX8_label 0 = .ok (.aload_n 0, 1) := by decide +kernel
theorem dX8_label_1 : decode cX8_label 1 = .ok (.iload_n 1, 1) := by decide +kernel
theorem dX8_label_2 : decode cX8_label 2 = .ok (.invokevirtual 140, 3) := by decide +kernel
theorem dX8_label_5 : decode cX8_label 5 = .ok (.ifCond .eq 15, 3) := by decide +kernel
theorem dX8_label_8 : decode cX8_label 8 = .ok (.iload_n 2, 1) := by decide +kernel
theorem dX8_label_9 : decode cX8_label 9 = .ok (.i2l, 1) := by decide +kernel
theorem dX8_label_10 : decode cX8_label 10 = .ok (.lconst 0, 1) := by decide +kernel
theorem dX8_label_11 : decode cX8_label 11 = .ok (.ldc2_w 129, 3) := by decide +kernel
theorem dX8_label_14 : decode cX8_label 14 = .ok (.invokestatic 88, 3) := by decide +kernel
theorem dX8_label_17 : decode cX8_label 17 = .ok (.ifCond .ne 5, 3) := by decide +kernel
theorem dX8_label_20 : decode cX8_label 20 = .ok (.iconst (-1), 1) := by decide +kernel
theorem dX8_label_21 : decode cX8_label 21 = .ok (.ireturn, 1) := by decide +kernel
theorem dX8_label_22 : decode cX8_label 22 = .ok (.aload_n 0, 1) := by decide +kernel
theorem dX8_label_23 : decode cX8_label 23 = .ok (.getfield 26, 3) := by decide +kernel
theorem dX8_label_26 : decode cX8_label 26 = .ok (.iload_n 1, 1) := by decide +kernel
theorem dX8_label_27 : decode cX8_label 27 = .ok (.iaload, 1) := by decide +kernel
theorem dX8_label_28 : decode cX8_label 28 = .ok (.istore_n 3, 1) := by decide +kernel
theorem dX8_label_29 : decode cX8_label 29 = .ok (.aload_n 0, 1) := by decide +kernel
theorem dX8_label_30 : decode cX8_label 30 = .ok (.iconst 2, 1) := by decide +kernel
theorem dX8_label_31 : decode cX8_label 31 = .ok (.iload_n 1, 1) := by decide +kernel
theorem dX8_label_32 : decode cX8_label 32 = .ok (.invokevirtual 133, 3) := by decide +kernel
theorem dX8_label_35 : decode cX8_label 35 = .ok (.aload_n 0, 1) := by decide +kernel
theorem dX8_label_36 : decode cX8_label 36 = .ok (.getfield 26, 3) := by decide +kernel
theorem dX8_label_39 : decode cX8_label 39 = .ok (.iload_n 1, 1) := by decide +kernel
theorem dX8_label_40 : decode cX8_label 40 = .ok (.iload_n 2, 1) := by decide +kernel
theorem dX8_label_41 : decode cX8_label 41 = .ok (.iastore, 1) := by decide +kernel
theorem dX8_label_42 : decode cX8_label 42 = .ok (.iload_n 3, 1) := by decide +kernel
theorem dX8_label_43 : decode cX8_label 43 = .ok (.ireturn, 1) := by decide +kernel
set_option maxRecDepth 20000 in
theorem ggX8_told_X8_isTaught : GoodIn wsX8_told wsX8_isTaught := goodIn_r _ [7, 8, 9, 10, 6, 11, 12, 13, 14, 15, 16, 17, 18, 19, 20, 21, 22, 23, 24, 25, 26, 27, 28, 29, 30, 31, 32, 33, 34, 35, 36, 37, 38, 39, 40, 41, 42, 43] (by decide +kernel) (by decide +kernel)
set_option maxRecDepth 20000 in
theorem gX8_told_X8_isTaught : GoodIn wsX8_told (wsV RX8 140 RX8 yX8_isTaught wsX8_isTaught) := goodIn_app (goodIn_of _ (by decide +kernel)) ggX8_told_X8_isTaught
set_option maxRecDepth 20000 in
theorem ggX8_told_X8_in : GoodIn wsX8_told wsX8_in := goodIn_r _ [11] (by decide +kernel) (by decide +kernel)
set_option maxRecDepth 20000 in
theorem gX8_told_X8_in : GoodIn wsX8_told (va_wsS RX8 88 yX8_in wsX8_in) := goodIn_app (goodIn_of _ (by decide +kernel)) ggX8_told_X8_in
theorem dX8_told_0 : decode cX8_told 0 = .ok (.aload_n 0, 1) := by decide +kernel
theorem dX8_told_1 : decode cX8_told 1 = .ok (.iload_n 1, 1) := by decide +kernel
theorem dX8_told_2 : decode cX8_told 2 = .ok (.invokevirtual 140, 3) := by decide +kernel
theorem dX8_told_5 : decode cX8_told 5 = .ok (.ifCond .eq 13, 3) := by decide +kernel
theorem dX8_told_8 : decode cX8_told 8 = .ok (.iload_n 2, 1) := by decide +kernel
theorem dX8_told_9 : decode cX8_told 9 = .ok (.i2l, 1) := by decide +kernel
theorem dX8_told_10 : decode cX8_told 10 = .ok (.lconst 0, 1) := by decide +kernel
theorem dX8_told_11 : decode cX8_told 11 = .ok (.lconst 1, 1) := by decide +kernel
theorem dX8_told_12 : decode cX8_told 12 = .ok (.invokestatic 88, 3) := by decide +kernel
theorem dX8_told_15 : decode cX8_told 15 = .ok (.ifCond .ne 7, 3) := by decide +kernel
theorem dX8_told_18 : decode cX8_told 18 = .ok (.iconst (-1), 1) := by decide +kernel
theorem dX8_told_19 : decode cX8_told 19 = .ok (.goto 22, 3) := by decide +kernel
theorem dX8_told_22 : decode cX8_told 22 = .ok (.iload_n 2, 1) := by decide +kernel
theorem dX8_told_23 : decode cX8_told 23 = .ok (.ifCond .ne 12, 3) := by decide +kernel
theorem dX8_told_26 : decode cX8_told 26 = .ok (.aload_n 0, 1) := by decide +kernel
theorem dX8_told_27 : decode cX8_told 27 = .ok (.getfield 26, 3) := by decide +kernel
theorem dX8_told_30 : decode cX8_told 30 = .ok (.iload_n 1, 1) := by decide +kernel
theorem dX8_told_31 : decode cX8_told 31 = .ok (.iaload, 1) := by decide +kernel
theorem dX8_told_32 : decode cX8_told 32 = .ok (.goto 9, 3) := by decide +kernel
theorem dX8_told_35 : decode cX8_told 35 = .ok (.aload_n 0, 1) := by decide +kernel
theorem dX8_told_36 : decode cX8_told 36 = .ok (.getfield 29, 3) := by decide +kernel
theorem dX8_told_39 : decode cX8_told 39 = .ok (.iload_n 1, 1) := by decide +kernel
theorem dX8_told_40 : decode cX8_told 40 = .ok (.iaload, 1) := by decide +kernel
theorem dX8_told_41 : decode cX8_told 41 = .ok (.ireturn, 1) := by decide +kernel
set_option maxRecDepth 20000 in
theorem ggX8_taught_X8_isTaught : GoodIn wsX8_taught wsX8_isTaught := goodIn_r _ [8, 9, 10, 11, 7, 12, 13, 14, 15, 16, 17, 18, 19, 20, 21, 22, 23, 24, 25, 26, 27, 28, 29, 30, 31, 32, 33, 34, 35, 36, 37, 38, 39, 40, 41, 42, 43, 44] (by decide +kernel) (by decide +kernel)
set_option maxRecDepth 20000 in
theorem gX8_taught_X8_isTaught : GoodIn wsX8_taught (wsV RX8 140 RX8 yX8_isTaught wsX8_isTaught) := goodIn_app (goodIn_of _ (by decide +kernel)) ggX8_taught_X8_isTaught
set_option maxRecDepth 20000 in
theorem ggX8_taught_X8_in : GoodIn wsX8_taught wsX8_in := goodIn_r _ [12] (by decide +kernel) (by decide +kernel)
set_option maxRecDepth 20000 in
theorem gX8_taught_X8_in : GoodIn wsX8_taught (va_wsS RX8 88 yX8_in wsX8_in) := goodIn_app (goodIn_of _ (by decide +kernel)) ggX8_taught_X8_in
theorem dX8_taught_0 : decode cX8_taught 0 = .ok (.aload_n 0, 1) := by decide +kernel
theorem dX8_taught_1 : decode cX8_taught 1 = .ok (.iload_n 1, 1) := by decide +kernel
theorem dX8_taught_2 : decode cX8_taught 2 = .ok (.invokevirtual 140, 3) := by decide +kernel
theorem dX8_taught_5 : decode cX8_taught 5 = .ok (.ifCond .eq 43, 3) := by decide +kernel
theorem dX8_taught_8 : decode cX8_taught 8 = .ok (.iload_n 2, 1) := by decide +kernel
theorem dX8_taught_9 : decode cX8_taught 9 = .ok (.i2l, 1) := by decide +kernel
theorem dX8_taught_10 : decode cX8_taught 10 = .ok (.lconst 0, 1) := by decide +kernel
theorem dX8_taught_11 : decode cX8_taught 11 = .ok (.ldc2_w 117, 3) := by decide +kernel
theorem dX8_taught_14 : decode cX8_taught 14 = .ok (.invokestatic 88, 3) := by decide +kernel
theorem dX8_taught_17 : decode cX8_taught 17 = .ok (.ifCond .eq 31, 3) := by decide +kernel
theorem dX8_taught_20 : decode cX8_taught 20 = .ok (.iload_n 3, 1) := by decide +kernel
theorem dX8_taught_21 : decode cX8_taught 21 = .ok (.i2l, 1) := by decide +kernel
theorem dX8_taught_22 : decode cX8_taught 22 = .ok (.lconst 0, 1) := by decide +kernel
theorem dX8_taught_23 : decode cX8_taught 23 = .ok (.lconst 1, 1) := by decide +kernel
theorem dX8_taught_24 : decode cX8_taught 24 = .ok (.invokestatic 88, 3) := by decide +kernel
theorem dX8_taught_27 : decode cX8_taught 27 = .ok (.ifCond .eq 21, 3) := by decide +kernel
theorem dX8_taught_30 : decode cX8_taught 30 = .ok (.aload_n 0, 1) := by decide +kernel
theorem dX8_taught_31 : decode cX8_taught 31 = .ok (.getfield 32, 3) := by decide +kernel
theorem dX8_taught_34 : decode cX8_taught 34 = .ok (.bipush 16, 2) := by decide +kernel
theorem dX8_taught_36 : decode cX8_taught 36 = .ok (.iload_n 1, 1) := by decide +kernel
theorem dX8_taught_37 : decode cX8_taught 37 = .ok (.imul, 1) := by decide +kernel
theorem dX8_taught_38 : decode cX8_taught 38 = .ok (.iconst 2, 1) := by decide +kernel
theorem dX8_taught_39 : decode cX8_taught 39 = .ok (.iload_n 2, 1) := by decide +kernel
theorem dX8_taught_40 : decode cX8_taught 40 = .ok (.imul, 1) := by decide +kernel
theorem dX8_taught_41 : decode cX8_taught 41 = .ok (.iadd, 1) := by decide +kernel
theorem dX8_taught_42 : decode cX8_taught 42 = .ok (.iload_n 3, 1) := by decide +kernel
theorem dX8_taught_43 : decode cX8_taught 43 = .ok (.iadd, 1) := by decide +kernel
theorem dX8_taught_44 : decode cX8_taught 44 = .ok (.iaload, 1) := by decide +kernel
theorem dX8_taught_45 : decode cX8_taught 45 = .ok (.goto 5, 3) := by decide +kernel
theorem dX8_taught_48 : decode cX8_taught 48 = .ok (.ldc 119, 2) := by decide +kernel
theorem dX8_taught_50 : decode cX8_taught 50 = .ok (.ireturn, 1) := by decide +kernel
set_option maxRecDepth 20000 in
theorem ggX8_ends_X8_in : GoodIn wsX8_ends wsX8_in := goodIn_r _ [7] (by decide +kernel) (by decide +kernel)
set_option maxRecDepth 20000 in
theorem gX8_ends_X8_in : GoodIn wsX8_ends (va_wsS RX8 88 yX8_in wsX8_in) := goodIn_app (goodIn_of _ (by decide +kernel)) ggX8_ends_X8_in
theorem dX8_ends_0 : decode cX8_ends 0 = .ok (.iload_n 1, 1) := by decide +kernel
theorem dX8_ends_1 : decode cX8_ends 1 = .ok (.i2l, 1) := by decide +kernel
theorem dX8_ends_2 : decode cX8_ends 2 = .ok (.lconst 0, 1) := by decide +kernel
theorem dX8_ends_3 : decode cX8_ends 3 = .ok (.ldc2_w 148, 3) := by decide +kernel
theorem dX8_ends_6 : decode cX8_ends 6 = .ok (.invokestatic 88, 3) := by decide +kernel
theorem dX8_ends_9 : decode cX8_ends 9 = .ok (.ifCond .eq 15, 3) := by decide +kernel
theorem dX8_ends_12 : decode cX8_ends 12 = .ok (.iload_n 2, 1) := by decide +kernel
theorem dX8_ends_13 : decode cX8_ends 13 = .ok (.i2l, 1) := by decide +kernel
theorem dX8_ends_14 : decode cX8_ends 14 = .ok (.lconst 0, 1) := by decide +kernel
theorem dX8_ends_15 : decode cX8_ends 15 = .ok (.ldc2_w 148, 3) := by decide +kernel
theorem dX8_ends_18 : decode cX8_ends 18 = .ok (.invokestatic 88, 3) := by decide +kernel
theorem dX8_ends_21 : decode cX8_ends 21 = .ok (.ifCond .ne 5, 3) := by decide +kernel
theorem dX8_ends_24 : decode cX8_ends 24 = .ok (.iconst (-1), 1) := by decide +kernel
theorem dX8_ends_25 : decode cX8_ends 25 = .ok (.ireturn, 1) := by decide +kernel
theorem dX8_ends_26 : decode cX8_ends 26 = .ok (.aload_n 0, 1) := by decide +kernel
theorem dX8_ends_27 : decode cX8_ends 27 = .ok (.iload_n 1, 1) := by decide +kernel
theorem dX8_ends_28 : decode cX8_ends 28 = .ok (.putfield 50, 3) := by decide +kernel
theorem dX8_ends_31 : decode cX8_ends 31 = .ok (.aload_n 0, 1) := by decide +kernel
theorem dX8_ends_32 : decode cX8_ends 32 = .ok (.iload_n 2, 1) := by decide +kernel
theorem dX8_ends_33 : decode cX8_ends 33 = .ok (.putfield 150, 3) := by decide +kernel
theorem dX8_ends_36 : decode cX8_ends 36 = .ok (.iconst 1, 1) := by decide +kernel
theorem dX8_ends_37 : decode cX8_ends 37 = .ok (.ireturn, 1) := by decide +kernel
theorem dX8_turns_0 : decode cX8_turns 0 = .ok (.iconst 0, 1) := by decide +kernel
theorem dX8_turns_1 : decode cX8_turns 1 = .ok (.istore_n 1, 1) := by decide +kernel
theorem dX8_turns_2 : decode cX8_turns 2 = .ok (.iload_n 1, 1) := by decide +kernel
theorem dX8_turns_3 : decode cX8_turns 3 = .ok (.bipush 8, 2) := by decide +kernel
theorem dX8_turns_5 : decode cX8_turns 5 = .ok (.if_icmp .ge 48, 3) := by decide +kernel
theorem dX8_turns_8 : decode cX8_turns 8 = .ok (.aload_n 0, 1) := by decide +kernel
theorem dX8_turns_9 : decode cX8_turns 9 = .ok (.getfield 54, 3) := by decide +kernel
theorem dX8_turns_12 : decode cX8_turns 12 = .ok (.iconst 2, 1) := by decide +kernel
theorem dX8_turns_13 : decode cX8_turns 13 = .ok (.iload_n 1, 1) := by decide +kernel
theorem dX8_turns_14 : decode cX8_turns 14 = .ok (.imul, 1) := by decide +kernel
theorem dX8_turns_15 : decode cX8_turns 15 = .ok (.iaload, 1) := by decide +kernel
theorem dX8_turns_16 : decode cX8_turns 16 = .ok (.istore_n 2, 1) := by decide +kernel
theorem dX8_turns_17 : decode cX8_turns 17 = .ok (.aload_n 0, 1) := by decide +kernel
theorem dX8_turns_18 : decode cX8_turns 18 = .ok (.getfield 54, 3) := by decide +kernel
theorem dX8_turns_21 : decode cX8_turns 21 = .ok (.iconst 2, 1) := by decide +kernel
theorem dX8_turns_22 : decode cX8_turns 22 = .ok (.iload_n 1, 1) := by decide +kernel
theorem dX8_turns_23 : decode cX8_turns 23 = .ok (.imul, 1) := by decide +kernel
theorem dX8_turns_24 : decode cX8_turns 24 = .ok (.aload_n 0, 1) := by decide +kernel
theorem dX8_turns_25 : decode cX8_turns 25 = .ok (.getfield 54, 3) := by decide +kernel
theorem dX8_turns_28 : decode cX8_turns 28 = .ok (.iconst 2, 1) := by decide +kernel
theorem dX8_turns_29 : decode cX8_turns 29 = .ok (.iload_n 1, 1) := by decide +kernel
theorem dX8_turns_30 : decode cX8_turns 30 = .ok (.imul, 1) := by decide +kernel
theorem dX8_turns_31 : decode cX8_turns 31 = .ok (.iconst 1, 1) := by decide +kernel
theorem dX8_turns_32 : decode cX8_turns 32 = .ok (.iadd, 1) := by decide +kernel
theorem dX8_turns_33 : decode cX8_turns 33 = .ok (.iaload, 1) := by decide +kernel
theorem dX8_turns_34 : decode cX8_turns 34 = .ok (.ineg, 1) := by decide +kernel
theorem dX8_turns_35 : decode cX8_turns 35 = .ok (.iastore, 1) := by decide +kernel
theorem dX8_turns_36 : decode cX8_turns 36 = .ok (.aload_n 0, 1) := by decide +kernel
theorem dX8_turns_37 : decode cX8_turns 37 = .ok (.getfield 54, 3) := by decide +kernel
theorem dX8_turns_40 : decode cX8_turns 40 = .ok (.iconst 2, 1) := by decide +kernel
theorem dX8_turns_41 : decode cX8_turns 41 = .ok (.iload_n 1, 1) := by decide +kernel
theorem dX8_turns_42 : decode cX8_turns 42 = .ok (.imul, 1) := by decide +kernel
theorem dX8_turns_43 : decode cX8_turns 43 = .ok (.iconst 1, 1) := by decide +kernel
theorem dX8_turns_44 : decode cX8_turns 44 = .ok (.iadd, 1) := by decide +kernel
theorem dX8_turns_45 : decode cX8_turns 45 = .ok (.iload_n 2, 1) := by decide +kernel
theorem dX8_turns_46 : decode cX8_turns 46 = .ok (.iastore, 1) := by decide +kernel
theorem dX8_turns_47 : decode cX8_turns 47 = .ok (.iinc 1 1, 3) := by decide +kernel
theorem dX8_turns_50 : decode cX8_turns 50 = .ok (.goto (-48), 3) := by decide +kernel
theorem dX8_turns_53 : decode cX8_turns 53 = .ok (.return_, 1) := by decide +kernel
set_option maxRecDepth 20000 in
theorem ggX8_far_X8_plain : GoodIn wsX8_far wsX8_plain := goodIn_r _ [6] (by decide +kernel) (by decide +kernel)
set_option maxRecDepth 20000 in
theorem gX8_far_X8_plain : GoodIn wsX8_far (va_wsS RX8 95 yX8_plain wsX8_plain) := goodIn_app (goodIn_of _ (by decide +kernel)) ggX8_far_X8_plain
theorem dX8_far_0 : decode cX8_far 0 = .ok (.aload_n 0, 1) := by decide +kernel
theorem dX8_far_1 : decode cX8_far 1 = .ok (.getfield 54, 3) := by decide +kernel
theorem dX8_far_4 : decode cX8_far 4 = .ok (.iconst 2, 1) := by decide +kernel
theorem dX8_far_5 : decode cX8_far 5 = .ok (.iload_n 1, 1) := by decide +kernel
theorem dX8_far_6 : decode cX8_far 6 = .ok (.imul, 1) := by decide +kernel
theorem dX8_far_7 : decode cX8_far 7 = .ok (.iaload, 1) := by decide +kernel
theorem dX8_far_8 : decode cX8_far 8 = .ok (.aload_n 0, 1) := by decide +kernel
theorem dX8_far_9 : decode cX8_far 9 = .ok (.getfield 32, 3) := by decide +kernel
theorem dX8_far_12 : decode cX8_far 12 = .ok (.bipush 16, 2) := by decide +kernel
theorem dX8_far_14 : decode cX8_far 14 = .ok (.iload_n 2, 1) := by decide +kernel
theorem dX8_far_15 : decode cX8_far 15 = .ok (.imul, 1) := by decide +kernel
theorem dX8_far_16 : decode cX8_far 16 = .ok (.iconst 2, 1) := by decide +kernel
theorem dX8_far_17 : decode cX8_far 17 = .ok (.iload_n 3, 1) := by decide +kernel
theorem dX8_far_18 : decode cX8_far 18 = .ok (.imul, 1) := by decide +kernel
theorem dX8_far_19 : decode cX8_far 19 = .ok (.iadd, 1) := by decide +kernel
theorem dX8_far_20 : decode cX8_far 20 = .ok (.iaload, 1) := by decide +kernel
theorem dX8_far_21 : decode cX8_far 21 = .ok (.isub, 1) := by decide +kernel
theorem dX8_far_22 : decode cX8_far 22 = .ok (.invokestatic 95, 3) := by decide +kernel
theorem dX8_far_25 : decode cX8_far 25 = .ok (.aload_n 0, 1) := by decide +kernel
theorem dX8_far_26 : decode cX8_far 26 = .ok (.getfield 54, 3) := by decide +kernel
theorem dX8_far_29 : decode cX8_far 29 = .ok (.iconst 2, 1) := by decide +kernel
theorem dX8_far_30 : decode cX8_far 30 = .ok (.iload_n 1, 1) := by decide +kernel
theorem dX8_far_31 : decode cX8_far 31 = .ok (.imul, 1) := by decide +kernel
theorem dX8_far_32 : decode cX8_far 32 = .ok (.iconst 1, 1) := by decide +kernel
theorem dX8_far_33 : decode cX8_far 33 = .ok (.iadd, 1) := by decide +kernel
theorem dX8_far_34 : decode cX8_far 34 = .ok (.iaload, 1) := by decide +kernel
theorem dX8_far_35 : decode cX8_far 35 = .ok (.aload_n 0, 1) := by decide +kernel
theorem dX8_far_36 : decode cX8_far 36 = .ok (.getfield 32, 3) := by decide +kernel
theorem dX8_far_39 : decode cX8_far 39 = .ok (.bipush 16, 2) := by decide +kernel
theorem dX8_far_41 : decode cX8_far 41 = .ok (.iload_n 2, 1) := by decide +kernel
theorem dX8_far_42 : decode cX8_far 42 = .ok (.imul, 1) := by decide +kernel
theorem dX8_far_43 : decode cX8_far 43 = .ok (.iconst 2, 1) := by decide +kernel
theorem dX8_far_44 : decode cX8_far 44 = .ok (.iload_n 3, 1) := by decide +kernel
theorem dX8_far_45 : decode cX8_far 45 = .ok (.imul, 1) := by decide +kernel
theorem dX8_far_46 : decode cX8_far 46 = .ok (.iadd, 1) := by decide +kernel
theorem dX8_far_47 : decode cX8_far 47 = .ok (.iconst 1, 1) := by decide +kernel
theorem dX8_far_48 : decode cX8_far 48 = .ok (.iadd, 1) := by decide +kernel
theorem dX8_far_49 : decode cX8_far 49 = .ok (.iaload, 1) := by decide +kernel
theorem dX8_far_50 : decode cX8_far 50 = .ok (.isub, 1) := by decide +kernel
theorem dX8_far_51 : decode cX8_far 51 = .ok (.invokestatic 95, 3) := by decide +kernel
theorem dX8_far_54 : decode cX8_far 54 = .ok (.iadd, 1) := by decide +kernel
theorem dX8_far_55 : decode cX8_far 55 = .ok (.ireturn, 1) := by decide +kernel
set_option maxRecDepth 20000 in
theorem ggX8_straight_X8_far : GoodIn wsX8_straight wsX8_far := goodIn_r _ [5, 6, 7, 8, 9, 4, 10, 11, 12, 13, 14, 15, 16, 17, 18, 19, 20, 21, 22, 23, 24, 25, 26, 27, 28, 29, 30, 31, 32, 33, 34, 35, 36, 37, 38, 39, 40, 41, 42] (by decide +kernel) (by decide +kernel)
set_option maxRecDepth 20000 in
theorem gX8_straight_X8_far : GoodIn wsX8_straight (wsV RX8 153 RX8 yX8_far wsX8_far) := goodIn_app (goodIn_of _ (by decide +kernel)) ggX8_straight_X8_far
theorem dX8_straight_0 : decode cX8_straight 0 = .ok (.iconst 0, 1) := by decide +kernel
theorem dX8_straight_1 : decode cX8_straight 1 = .ok (.istore_n 3, 1) := by decide +kernel
theorem dX8_straight_2 : decode cX8_straight 2 = .ok (.iconst 0, 1) := by decide +kernel
theorem dX8_straight_3 : decode cX8_straight 3 = .ok (.istore 4, 2) := by decide +kernel
theorem dX8_straight_5 : decode cX8_straight 5 = .ok (.iload 4, 2) := by decide +kernel
theorem dX8_straight_7 : decode cX8_straight 7 = .ok (.bipush 8, 2) := by decide +kernel
theorem dX8_straight_9 : decode cX8_straight 9 = .ok (.if_icmp .ge 33, 3) := by decide +kernel
theorem dX8_straight_12 : decode cX8_straight 12 = .ok (.iload_n 3, 1) := by decide +kernel
theorem dX8_straight_13 : decode cX8_straight 13 = .ok (.aload_n 0, 1) := by decide +kernel
theorem dX8_straight_14 : decode cX8_straight 14 = .ok (.iload_n 2, 1) := by decide +kernel
theorem dX8_straight_15 : decode cX8_straight 15 = .ok (.ifCond .eq 11, 3) := by decide +kernel
theorem dX8_straight_18 : decode cX8_straight 18 = .ok (.bipush 7, 2) := by decide +kernel
theorem dX8_straight_20 : decode cX8_straight 20 = .ok (.iload 4, 2) := by decide +kernel
theorem dX8_straight_22 : decode cX8_straight 22 = .ok (.isub, 1) := by decide +kernel
theorem dX8_straight_23 : decode cX8_straight 23 = .ok (.goto 5, 3) := by decide +kernel
theorem dX8_straight_26 : decode cX8_straight 26 = .ok (.iload 4, 2) := by decide +kernel
theorem dX8_straight_28 : decode cX8_straight 28 = .ok (.iload_n 1, 1) := by decide +kernel
theorem dX8_straight_29 : decode cX8_straight 29 = .ok (.iload 4, 2) := by decide +kernel
theorem dX8_straight_31 : decode cX8_straight 31 = .ok (.invokevirtual 153, 3) := by decide +kernel
theorem dX8_straight_34 : decode cX8_straight 34 = .ok (.iadd, 1) := by decide +kernel
theorem dX8_straight_35 : decode cX8_straight 35 = .ok (.istore_n 3, 1) := by decide +kernel
theorem dX8_straight_36 : decode cX8_straight 36 = .ok (.iinc 4 1, 3) := by decide +kernel
theorem dX8_straight_39 : decode cX8_straight 39 = .ok (.goto (-34), 3) := by decide +kernel
theorem dX8_straight_42 : decode cX8_straight 42 = .ok (.iload_n 3, 1) := by decide +kernel
theorem dX8_straight_43 : decode cX8_straight 43 = .ok (.ireturn, 1) := by decide +kernel
set_option maxRecDepth 20000 in
theorem ggX8_cloud_X8_far : GoodIn wsX8_cloud wsX8_far := goodIn_r _ [6, 7, 8, 9, 10, 5, 11, 12, 13, 14, 15, 16, 17, 18, 19, 20, 21, 22, 23, 24, 25, 26, 27, 28, 29, 30, 31, 32, 33, 34, 35, 36, 37, 38, 39, 40, 41, 42, 43] (by decide +kernel) (by decide +kernel)
set_option maxRecDepth 20000 in
theorem gX8_cloud_X8_far : GoodIn wsX8_cloud (wsV RX8 153 RX8 yX8_far wsX8_far) := goodIn_app (goodIn_of _ (by decide +kernel)) ggX8_cloud_X8_far
theorem dX8_cloud_0 : decode cX8_cloud 0 = .ok (.aload_n 0, 1) := by decide +kernel
theorem dX8_cloud_1 : decode cX8_cloud 1 = .ok (.getfield 57, 3) := by decide +kernel
theorem dX8_cloud_4 : decode cX8_cloud 4 = .ok (.iconst 0, 1) := by decide +kernel
theorem dX8_cloud_5 : decode cX8_cloud 5 = .ok (.iconst 0, 1) := by decide +kernel
theorem dX8_cloud_6 : decode cX8_cloud 6 = .ok (.iastore, 1) := by decide +kernel
theorem dX8_cloud_7 : decode cX8_cloud 7 = .ok (.iconst 1, 1) := by decide +kernel
theorem dX8_cloud_8 : decode cX8_cloud 8 = .ok (.istore_n 2, 1) := by decide +kernel
theorem dX8_cloud_9 : decode cX8_cloud 9 = .ok (.iload_n 2, 1) := by decide +kernel
theorem dX8_cloud_10 : decode cX8_cloud 10 = .ok (.sipush 256, 3) := by decide +kernel
theorem dX8_cloud_13 : decode cX8_cloud 13 = .ok (.if_icmp .ge 121, 3) := by decide +kernel
theorem dX8_cloud_16 : decode cX8_cloud 16 = .ok (.iconst 0, 1) := by decide +kernel
theorem dX8_cloud_17 : decode cX8_cloud 17 = .ok (.istore_n 3, 1) := by decide +kernel
theorem dX8_cloud_18 : decode cX8_cloud 18 = .ok (.iconst 0, 1) := by decide +kernel
theorem dX8_cloud_19 : decode cX8_cloud 19 = .ok (.istore 4, 2) := by decide +kernel
theorem dX8_cloud_21 : decode cX8_cloud 21 = .ok (.iload 4, 2) := by decide +kernel
theorem dX8_cloud_23 : decode cX8_cloud 23 = .ok (.bipush 8, 2) := by decide +kernel
theorem dX8_cloud_25 : decode cX8_cloud 25 = .ok (.if_icmp .ge 18, 3) := by decide +kernel
theorem dX8_cloud_28 : decode cX8_cloud 28 = .ok (.iload_n 3, 1) := by decide +kernel
theorem dX8_cloud_29 : decode cX8_cloud 29 = .ok (.iload_n 2, 1) := by decide +kernel
theorem dX8_cloud_30 : decode cX8_cloud 30 = .ok (.iload 4, 2) := by decide +kernel
theorem dX8_cloud_32 : decode cX8_cloud 32 = .ok (.ishr, 1) := by decide +kernel
theorem dX8_cloud_33 : decode cX8_cloud 33 = .ok (.iconst 1, 1) := by decide +kernel
theorem dX8_cloud_34 : decode cX8_cloud 34 = .ok (.iand, 1) := by decide +kernel
theorem dX8_cloud_35 : decode cX8_cloud 35 = .ok (.iadd, 1) := by decide +kernel
theorem dX8_cloud_36 : decode cX8_cloud 36 = .ok (.istore_n 3, 1) := by decide +kernel
theorem dX8_cloud_37 : decode cX8_cloud 37 = .ok (.iinc 4 1, 3) := by decide +kernel
theorem dX8_cloud_40 : decode cX8_cloud 40 = .ok (.goto (-19), 3) := by decide +kernel
theorem dX8_cloud_43 : decode cX8_cloud 43 = .ok (.bipush (-4), 2) := by decide +kernel
theorem dX8_cloud_45 : decode cX8_cloud 45 = .ok (.istore 4, 2) := by decide +kernel
theorem dX8_cloud_47 : decode cX8_cloud 47 = .ok (.iconst 0, 1) := by decide +kernel
theorem dX8_cloud_48 : decode cX8_cloud 48 = .ok (.istore 5, 2) := by decide +kernel
theorem dX8_cloud_50 : decode cX8_cloud 50 = .ok (.iload 5, 2) := by decide +kernel
theorem dX8_cloud_52 : decode cX8_cloud 52 = .ok (.bipush 8, 2) := by decide +kernel
theorem dX8_cloud_54 : decode cX8_cloud 54 = .ok (.if_icmp .ge 66, 3) := by decide +kernel
theorem dX8_cloud_57 : decode cX8_cloud 57 = .ok (.iload_n 2, 1) := by decide +kernel
theorem dX8_cloud_58 : decode cX8_cloud 58 = .ok (.iload 5, 2) := by decide +kernel
theorem dX8_cloud_60 : decode cX8_cloud 60 = .ok (.ishr, 1) := by decide +kernel
theorem dX8_cloud_61 : decode cX8_cloud 61 = .ok (.iconst 1, 1) := by decide +kernel
theorem dX8_cloud_62 : decode cX8_cloud 62 = .ok (.iand, 1) := by decide +kernel
theorem dX8_cloud_63 : decode cX8_cloud 63 = .ok (.iconst 1, 1) := by decide +kernel
theorem dX8_cloud_64 : decode cX8_cloud 64 = .ok (.if_icmp .ne 50, 3) := by decide +kernel
theorem dX8_cloud_67 : decode cX8_cloud 67 = .ok (.aload_n 0, 1) := by decide +kernel
theorem dX8_cloud_68 : decode cX8_cloud 68 = .ok (.getfield 57, 3) := by decide +kernel
theorem dX8_cloud_71 : decode cX8_cloud 71 = .ok (.iload_n 2, 1) := by decide +kernel
theorem dX8_cloud_72 : decode cX8_cloud 72 = .ok (.iconst 1, 1) := by decide +kernel
theorem dX8_cloud_73 : decode cX8_cloud 73 = .ok (.iload 5, 2) := by decide +kernel
theorem dX8_cloud_75 : decode cX8_cloud 75 = .ok (.ishl, 1) := by decide +kernel
theorem dX8_cloud_76 : decode cX8_cloud 76 = .ok (.isub, 1) := by decide +kernel
theorem dX8_cloud_77 : decode cX8_cloud 77 = .ok (.iaload, 1) := by decide +kernel
theorem dX8_cloud_78 : decode cX8_cloud 78 = .ok (.aload_n 0, 1) := by decide +kernel
theorem dX8_cloud_79 : decode cX8_cloud 79 = .ok (.iload_n 3, 1) := by decide +kernel
theorem dX8_cloud_80 : decode cX8_cloud 80 = .ok (.iconst 1, 1) := by decide +kernel
theorem dX8_cloud_81 : decode cX8_cloud 81 = .ok (.isub, 1) := by decide +kernel
theorem dX8_cloud_82 : decode cX8_cloud 82 = .ok (.iload_n 1, 1) := by decide +kernel
theorem dX8_cloud_83 : decode cX8_cloud 83 = .ok (.iload 5, 2) := by decide +kernel
theorem dX8_cloud_85 : decode cX8_cloud 85 = .ok (.invokevirtual 153, 3) := by decide +kernel
theorem dX8_cloud_88 : decode cX8_cloud 88 = .ok (.iadd, 1) := by decide +kernel
theorem dX8_cloud_89 : decode cX8_cloud 89 = .ok (.istore 6, 2) := by decide +kernel
theorem dX8_cloud_91 : decode cX8_cloud 91 = .ok (.iload 4, 2) := by decide +kernel
theorem dX8_cloud_93 : decode cX8_cloud 93 = .ok (.bipush (-4), 2) := by decide +kernel
theorem dX8_cloud_95 : decode cX8_cloud 95 = .ok (.if_icmp .eq 10, 3) := by decide +kernel
theorem dX8_cloud_98 : decode cX8_cloud 98 = .ok (.iload 6, 2) := by decide +kernel
theorem dX8_cloud_100 : decode cX8_cloud 100 = .ok (.iload 4, 2) := by decide +kernel
theorem dX8_cloud_102 : decode cX8_cloud 102 = .ok (.if_icmp .ge 8, 3) := by decide +kernel
theorem dX8_cloud_105 : decode cX8_cloud 105 = .ok (.iload 6, 2) := by decide +kernel
theorem dX8_cloud_107 : decode cX8_cloud 107 = .ok (.goto 5, 3) := by decide +kernel
theorem dX8_cloud_110 : decode cX8_cloud 110 = .ok (.iload 4, 2) := by decide +kernel
theorem dX8_cloud_112 : decode cX8_cloud 112 = .ok (.istore 4, 2) := by decide +kernel
theorem dX8_cloud_114 : decode cX8_cloud 114 = .ok (.iinc 5 1, 3) := by decide +kernel
theorem dX8_cloud_117 : decode cX8_cloud 117 = .ok (.goto (-67), 3) := by decide +kernel
theorem dX8_cloud_120 : decode cX8_cloud 120 = .ok (.aload_n 0, 1) := by decide +kernel
theorem dX8_cloud_121 : decode cX8_cloud 121 = .ok (.getfield 57, 3) := by decide +kernel
theorem dX8_cloud_124 : decode cX8_cloud 124 = .ok (.iload_n 2, 1) := by decide +kernel
theorem dX8_cloud_125 : decode cX8_cloud 125 = .ok (.iload 4, 2) := by decide +kernel
theorem dX8_cloud_127 : decode cX8_cloud 127 = .ok (.iastore, 1) := by decide +kernel
theorem dX8_cloud_128 : decode cX8_cloud 128 = .ok (.iinc 2 1, 3) := by decide +kernel
theorem dX8_cloud_131 : decode cX8_cloud 131 = .ok (.goto (-122), 3) := by decide +kernel
theorem dX8_cloud_134 : decode cX8_cloud 134 = .ok (.aload_n 0, 1) := by decide +kernel
theorem dX8_cloud_135 : decode cX8_cloud 135 = .ok (.getfield 57, 3) := by decide +kernel
theorem dX8_cloud_138 : decode cX8_cloud 138 = .ok (.sipush 255, 3) := by decide +kernel
theorem dX8_cloud_141 : decode cX8_cloud 141 = .ok (.iaload, 1) := by decide +kernel
theorem dX8_cloud_142 : decode cX8_cloud 142 = .ok (.ireturn, 1) := by decide +kernel
set_option maxRecDepth 20000 in
theorem ggX8_distanceOf_X8_cloud : GoodIn wsX8_distanceOf wsX8_cloud := goodIn_r _ [6, 7, 8, 9, 10, 5, 11, 12, 13, 14, 15, 16, 25, 26, 27, 28, 29, 30, 31, 32, 33, 34, 35, 36, 37, 38, 39, 40, 41, 42, 43, 44, 45, 46, 47, 48, 49, 50, 51, 52, 53, 54, 55, 56] (by decide +kernel) (by decide +kernel)
set_option maxRecDepth 20000 in
theorem gX8_distanceOf_X8_cloud : GoodIn wsX8_distanceOf (wsV RX8 157 RX8 yX8_cloud wsX8_cloud) := goodIn_app (goodIn_of _ (by decide +kernel)) ggX8_distanceOf_X8_cloud
set_option maxRecDepth 20000 in
theorem ggX8_distanceOf_X8_straight : GoodIn wsX8_distanceOf wsX8_straight := goodIn_r _ [20, 8, 9, 10, 5, 11, 12, 13, 14, 15, 16, 25, 26, 27, 28, 29, 30, 31, 32, 33, 34, 35, 36, 37, 38, 39, 40, 41, 42, 43, 44, 45, 46, 47, 48, 49, 50, 51, 52, 53, 54, 55, 56] (by decide +kernel) (by decide +kernel)
set_option maxRecDepth 20000 in
theorem gX8_distanceOf_X8_straight : GoodIn wsX8_distanceOf (wsV RX8 160 RX8 yX8_straight wsX8_straight) := goodIn_app (goodIn_of _ (by decide +kernel)) ggX8_distanceOf_X8_straight
set_option maxRecDepth 20000 in
theorem ggX8_distanceOf_X8_turns : GoodIn wsX8_distanceOf wsX8_turns := goodIn_r _ [24, 12, 25, 26, 27, 28, 29, 30, 31, 32, 33, 34, 35, 36, 37, 38, 39, 40, 41, 42, 43, 44, 45, 46, 47, 48, 49, 50, 51, 52, 53, 54, 55, 56] (by decide +kernel) (by decide +kernel)
set_option maxRecDepth 20000 in
theorem gX8_distanceOf_X8_turns : GoodIn wsX8_distanceOf (wsV RX8 164 RX8 yX8_turns wsX8_turns) := goodIn_app (goodIn_of _ (by decide +kernel)) ggX8_distanceOf_X8_turns
theorem dX8_distanceOf_0 : decode cX8_distanceOf 0 = .ok (.aload_n 0, 1) := by decide +kernel
theorem dX8_distanceOf_1 : decode cX8_distanceOf 1 = .ok (.getfield 29, 3) := by decide +kernel
theorem dX8_distanceOf_4 : decode cX8_distanceOf 4 = .ok (.iload_n 1, 1) := by decide +kernel
theorem dX8_distanceOf_5 : decode cX8_distanceOf 5 = .ok (.iaload, 1) := by decide +kernel
theorem dX8_distanceOf_6 : decode cX8_distanceOf 6 = .ok (.istore_n 2, 1) := by decide +kernel
theorem dX8_distanceOf_7 : decode cX8_distanceOf 7 = .ok (.iload_n 2, 1) := by decide +kernel
theorem dX8_distanceOf_8 : decode cX8_distanceOf 8 = .ok (.iconst 2, 1) := by decide +kernel
theorem dX8_distanceOf_9 : decode cX8_distanceOf 9 = .ok (.if_icmp .le 11, 3) := by decide +kernel
theorem dX8_distanceOf_12 : decode cX8_distanceOf 12 = .ok (.aload_n 0, 1) := by decide +kernel
theorem dX8_distanceOf_13 : decode cX8_distanceOf 13 = .ok (.iload_n 1, 1) := by decide +kernel
theorem dX8_distanceOf_14 : decode cX8_distanceOf 14 = .ok (.invokevirtual 157, 3) := by decide +kernel
theorem dX8_distanceOf_17 : decode cX8_distanceOf 17 = .ok (.goto 9, 3) := by decide +kernel
theorem dX8_distanceOf_20 : decode cX8_distanceOf 20 = .ok (.aload_n 0, 1) := by decide +kernel
theorem dX8_distanceOf_21 : decode cX8_distanceOf 21 = .ok (.iload_n 1, 1) := by decide +kernel
theorem dX8_distanceOf_22 : decode cX8_distanceOf 22 = .ok (.iconst 0, 1) := by decide +kernel
theorem dX8_distanceOf_23 : decode cX8_distanceOf 23 = .ok (.invokevirtual 160, 3) := by decide +kernel
theorem dX8_distanceOf_26 : decode cX8_distanceOf 26 = .ok (.istore_n 3, 1) := by decide +kernel
theorem dX8_distanceOf_27 : decode cX8_distanceOf 27 = .ok (.iload_n 2, 1) := by decide +kernel
theorem dX8_distanceOf_28 : decode cX8_distanceOf 28 = .ok (.iconst 2, 1) := by decide +kernel
theorem dX8_distanceOf_29 : decode cX8_distanceOf 29 = .ok (.if_icmp .ne 24, 3) := by decide +kernel
theorem dX8_distanceOf_32 : decode cX8_distanceOf 32 = .ok (.aload_n 0, 1) := by decide +kernel
theorem dX8_distanceOf_33 : decode cX8_distanceOf 33 = .ok (.iload_n 1, 1) := by decide +kernel
theorem dX8_distanceOf_34 : decode cX8_distanceOf 34 = .ok (.iconst 1, 1) := by decide +kernel
theorem dX8_distanceOf_35 : decode cX8_distanceOf 35 = .ok (.invokevirtual 160, 3) := by decide +kernel
theorem dX8_distanceOf_38 : decode cX8_distanceOf 38 = .ok (.istore 4, 2) := by decide +kernel
theorem dX8_distanceOf_40 : decode cX8_distanceOf 40 = .ok (.iload 4, 2) := by decide +kernel
theorem dX8_distanceOf_42 : decode cX8_distanceOf 42 = .ok (.iload_n 3, 1) := by decide +kernel
theorem dX8_distanceOf_43 : decode cX8_distanceOf 43 = .ok (.if_icmp .ge 8, 3) := by decide +kernel
theorem dX8_distanceOf_46 : decode cX8_distanceOf 46 = .ok (.iload 4, 2) := by decide +kernel
theorem dX8_distanceOf_48 : decode cX8_distanceOf 48 = .ok (.goto 4, 3) := by decide +kernel
theorem dX8_distanceOf_51 : decode cX8_distanceOf 51 = .ok (.iload_n 3, 1) := by decide +kernel
theorem dX8_distanceOf_52 : decode cX8_distanceOf 52 = .ok (.ireturn, 1) := by decide +kernel
theorem dX8_distanceOf_53 : decode cX8_distanceOf 53 = .ok (.iconst 1, 1) := by decide +kernel
theorem dX8_distanceOf_54 : decode cX8_distanceOf 54 = .ok (.istore 4, 2) := by decide +kernel
theorem dX8_distanceOf_56 : decode cX8_distanceOf 56 = .ok (.iload 4, 2) := by decide +kernel
theorem dX8_distanceOf_58 : decode cX8_distanceOf 58 = .ok (.iconst 4, 1) := by decide +kernel
theorem dX8_distanceOf_59 : decode cX8_distanceOf 59 = .ok (.if_icmp .ge 57, 3) := by decide +kernel
theorem dX8_distanceOf_62 : decode cX8_distanceOf 62 = .ok (.iload_n 2, 1) := by decide +kernel
theorem dX8_distanceOf_63 : decode cX8_distanceOf 63 = .ok (.iconst 1, 1) := by decide +kernel
theorem dX8_distanceOf_64 : decode cX8_distanceOf 64 = .ok (.if_icmp .eq 8, 3) := by decide +kernel
theorem dX8_distanceOf_67 : decode cX8_distanceOf 67 = .ok (.iload_n 2, 1) := by decide +kernel
theorem dX8_distanceOf_68 : decode cX8_distanceOf 68 = .ok (.iconst 4, 1) := by decide +kernel
theorem dX8_distanceOf_69 : decode cX8_distanceOf 69 = .ok (.if_icmp .ne 47, 3) := by decide +kernel
theorem dX8_distanceOf_72 : decode cX8_distanceOf 72 = .ok (.aload_n 0, 1) := by decide +kernel
theorem dX8_distanceOf_73 : decode cX8_distanceOf 73 = .ok (.invokevirtual 164, 3) := by decide +kernel
theorem dX8_distanceOf_76 : decode cX8_distanceOf 76 = .ok (.iload_n 2, 1) := by decide +kernel
theorem dX8_distanceOf_77 : decode cX8_distanceOf 77 = .ok (.iconst 4, 1) := by decide +kernel
theorem dX8_distanceOf_78 : decode cX8_distanceOf 78 = .ok (.if_icmp .ne 11, 3) := by decide +kernel
theorem dX8_distanceOf_81 : decode cX8_distanceOf 81 = .ok (.aload_n 0, 1) := by decide +kernel
theorem dX8_distanceOf_82 : decode cX8_distanceOf 82 = .ok (.iload_n 1, 1) := by decide +kernel
theorem dX8_distanceOf_83 : decode cX8_distanceOf 83 = .ok (.invokevirtual 157, 3) := by decide +kernel
theorem dX8_distanceOf_86 : decode cX8_distanceOf 86 = .ok (.goto 9, 3) := by decide +kernel
theorem dX8_distanceOf_89 : decode cX8_distanceOf 89 = .ok (.aload_n 0, 1) := by decide +kernel
theorem dX8_distanceOf_90 : decode cX8_distanceOf 90 = .ok (.iload_n 1, 1) := by decide +kernel
theorem dX8_distanceOf_91 : decode cX8_distanceOf 91 = .ok (.iconst 0, 1) := by decide +kernel
theorem dX8_distanceOf_92 : decode cX8_distanceOf 92 = .ok (.invokevirtual 160, 3) := by decide +kernel
theorem dX8_distanceOf_95 : decode cX8_distanceOf 95 = .ok (.istore 5, 2) := by decide +kernel
theorem dX8_distanceOf_97 : decode cX8_distanceOf 97 = .ok (.iload 5, 2) := by decide +kernel
theorem dX8_distanceOf_99 : decode cX8_distanceOf 99 = .ok (.iload_n 3, 1) := by decide +kernel
theorem dX8_distanceOf_100 : decode cX8_distanceOf 100 = .ok (.if_icmp .ge 8, 3) := by decide +kernel
theorem dX8_distanceOf_103 : decode cX8_distanceOf 103 = .ok (.iload 5, 2) := by decide +kernel
theorem dX8_distanceOf_105 : decode cX8_distanceOf 105 = .ok (.goto 4, 3) := by decide +kernel
theorem dX8_distanceOf_108 : decode cX8_distanceOf 108 = .ok (.iload_n 3, 1) := by decide +kernel
theorem dX8_distanceOf_109 : decode cX8_distanceOf 109 = .ok (.istore_n 3, 1) := by decide +kernel
theorem dX8_distanceOf_110 : decode cX8_distanceOf 110 = .ok (.iinc 4 1, 3) := by decide +kernel
theorem dX8_distanceOf_113 : decode cX8_distanceOf 113 = .ok (.goto (-57), 3) := by decide +kernel
theorem dX8_distanceOf_116 : decode cX8_distanceOf 116 = .ok (.iload_n 2, 1) := by decide +kernel
theorem dX8_distanceOf_117 : decode cX8_distanceOf 117 = .ok (.iconst 1, 1) := by decide +kernel
theorem dX8_distanceOf_118 : decode cX8_distanceOf 118 = .ok (.if_icmp .eq 8, 3) := by decide +kernel
theorem dX8_distanceOf_121 : decode cX8_distanceOf 121 = .ok (.iload_n 2, 1) := by decide +kernel
theorem dX8_distanceOf_122 : decode cX8_distanceOf 122 = .ok (.iconst 4, 1) := by decide +kernel
theorem dX8_distanceOf_123 : decode cX8_distanceOf 123 = .ok (.if_icmp .ne 7, 3) := by decide +kernel
theorem dX8_distanceOf_126 : decode cX8_distanceOf 126 = .ok (.aload_n 0, 1) := by decide +kernel
theorem dX8_distanceOf_127 : decode cX8_distanceOf 127 = .ok (.invokevirtual 164, 3) := by decide +kernel
theorem dX8_distanceOf_130 : decode cX8_distanceOf 130 = .ok (.iload_n 3, 1) := by decide +kernel
theorem dX8_distanceOf_131 : decode cX8_distanceOf 131 = .ok (.ireturn, 1) := by decide +kernel
set_option maxRecDepth 20000 in
theorem ggX8_holdsDraft_X8_findNorms : GoodIn wsX8_holdsDraft wsX8_findNorms := goodIn_r _ [7, 8, 9, 2, 10, 11, 12, 13, 6, 14, 15, 16, 17, 18, 19, 20, 21, 22, 23, 24, 25, 26, 27, 28, 29, 30, 31, 32, 33, 34, 35, 36, 37, 38, 39, 40, 41, 42, 43, 44, 45, 46, 47, 48, 49, 50, 51, 52, 53, 54, 55, 56, 57, 58, 59, 60, 61, 62, 63, 64, 65] (by decide +kernel) (by decide +kernel)
set_option maxRecDepth 20000 in
theorem gX8_holdsDraft_X8_findNorms : GoodIn wsX8_holdsDraft (wsV RX8 120 RX8 yX8_findNorms wsX8_findNorms) := goodIn_app (goodIn_of _ (by decide +kernel)) ggX8_holdsDraft_X8_findNorms
theorem dX8_holdsDraft_0 : decode cX8_holdsDraft 0 = .ok (.aload_n 0, 1) := by decide +kernel
theorem dX8_holdsDraft_1 : decode cX8_holdsDraft 1 = .ok (.invokevirtual 120, 3) := by decide +kernel
theorem dX8_holdsDraft_4 : decode cX8_holdsDraft 4 = .ok (.iconst 0, 1) := by decide +kernel
theorem dX8_holdsDraft_5 : decode cX8_holdsDraft 5 = .ok (.istore_n 1, 1) := by decide +kernel
theorem dX8_holdsDraft_6 : decode cX8_holdsDraft 6 = .ok (.iload_n 1, 1) := by decide +kernel
theorem dX8_holdsDraft_7 : decode cX8_holdsDraft 7 = .ok (.bipush 16, 2) := by decide +kernel
theorem dX8_holdsDraft_9 : decode cX8_holdsDraft 9 = .ok (.if_icmp .ge 21, 3) := by decide +kernel
theorem dX8_holdsDraft_12 : decode cX8_holdsDraft 12 = .ok (.aload_n 0, 1) := by decide +kernel
theorem dX8_holdsDraft_13 : decode cX8_holdsDraft 13 = .ok (.getfield 54, 3) := by decide +kernel
theorem dX8_holdsDraft_16 : decode cX8_holdsDraft 16 = .ok (.iload_n 1, 1) := by decide +kernel
theorem dX8_holdsDraft_17 : decode cX8_holdsDraft 17 = .ok (.aload_n 0, 1) := by decide +kernel
theorem dX8_holdsDraft_18 : decode cX8_holdsDraft 18 = .ok (.getfield 23, 3) := by decide +kernel
theorem dX8_holdsDraft_21 : decode cX8_holdsDraft 21 = .ok (.iload_n 1, 1) := by decide +kernel
theorem dX8_holdsDraft_22 : decode cX8_holdsDraft 22 = .ok (.iaload, 1) := by decide +kernel
theorem dX8_holdsDraft_23 : decode cX8_holdsDraft 23 = .ok (.iastore, 1) := by decide +kernel
theorem dX8_holdsDraft_24 : decode cX8_holdsDraft 24 = .ok (.iinc 1 1, 3) := by decide +kernel
theorem dX8_holdsDraft_27 : decode cX8_holdsDraft 27 = .ok (.goto (-21), 3) := by decide +kernel
theorem dX8_holdsDraft_30 : decode cX8_holdsDraft 30 = .ok (.return_, 1) := by decide +kernel
set_option maxRecDepth 20000 in
theorem ggX8_distance_X8_isTaught : GoodIn wsX8_distance wsX8_isTaught := goodIn_r _ [5, 6, 7, 8, 4, 9, 69, 70, 71, 72, 73, 74, 75, 76, 77, 78, 79, 80, 81, 82, 83, 84, 85, 86, 87, 88, 89, 90, 91, 92, 93, 94, 95, 96, 97, 98, 99, 100] (by decide +kernel) (by decide +kernel)
set_option maxRecDepth 20000 in
theorem gX8_distance_X8_isTaught : GoodIn wsX8_distance (wsV RX8 140 RX8 yX8_isTaught wsX8_isTaught) := goodIn_app (goodIn_of _ (by decide +kernel)) ggX8_distance_X8_isTaught
set_option maxRecDepth 20000 in
theorem ggX8_distance_X8_way : GoodIn wsX8_distance wsX8_way := goodIn_r _ [13, 14, 15, 16, 17, 4, 18, 19, 20, 21, 22, 23, 24, 69, 70, 71, 72, 73, 74, 75, 76, 77, 78, 79, 80, 81, 82, 83, 84, 85, 86, 87, 88, 89, 90, 91, 92, 93, 94, 95, 96, 97, 98, 99, 100] (by decide +kernel) (by decide +kernel)
set_option maxRecDepth 20000 in
theorem gX8_distance_X8_way : GoodIn wsX8_distance (wsV RX8 102 RX8 yX8_way wsX8_way) := goodIn_app (goodIn_of _ (by decide +kernel)) ggX8_distance_X8_way
set_option maxRecDepth 20000 in
theorem ggX8_distance_X8_holdsDraft : GoodIn wsX8_distance wsX8_holdsDraft := goodIn_r _ [28, 29, 30, 31, 32, 33, 4, 34, 35, 36, 37, 38, 39, 40, 41, 42, 20, 21, 10, 11, 12, 13, 14, 15, 16, 17, 18, 19, 22, 23, 24, 43, 44, 45, 69, 70, 71, 72, 73, 74, 75, 76, 77, 78, 79, 80, 81, 82, 83, 84, 85, 86, 87, 88, 89, 90, 91, 92, 93, 94, 95, 96, 97, 98, 99, 100] (by decide +kernel) (by decide +kernel)
set_option maxRecDepth 20000 in
theorem gX8_distance_X8_holdsDraft : GoodIn wsX8_distance (wsV RX8 167 RX8 yX8_holdsDraft wsX8_holdsDraft) := goodIn_app (goodIn_of _ (by decide +kernel)) ggX8_distance_X8_holdsDraft
set_option maxRecDepth 20000 in
theorem ggX8_distance_X8_distanceOf : GoodIn wsX8_distance wsX8_distanceOf := goodIn_r _ [49, 50, 51, 52, 53, 4, 54, 55, 56, 57, 58, 59, 29, 60, 22, 23, 24, 61, 62, 63, 64, 65, 66, 67, 68, 69, 70, 71, 72, 73, 74, 75, 76, 77, 78, 79, 80, 81, 82, 83, 84, 85, 86, 87, 88, 89, 90, 91, 92, 93, 94, 95, 96, 97, 98, 99, 100] (by decide +kernel) (by decide +kernel)
set_option maxRecDepth 20000 in
theorem gX8_distance_X8_distanceOf : GoodIn wsX8_distance (wsV RX8 170 RX8 yX8_distanceOf wsX8_distanceOf) := goodIn_app (goodIn_of _ (by decide +kernel)) ggX8_distance_X8_distanceOf
theorem dX8_distance_0 : decode cX8_distance 0 = .ok (.aload_n 0, 1) := by decide +kernel
theorem dX8_distance_1 : decode cX8_distance 1 = .ok (.iload_n 1, 1) := by decide +kernel
theorem dX8_distance_2 : decode cX8_distance 2 = .ok (.invokevirtual 140, 3) := by decide +kernel
theorem dX8_distance_5 : decode cX8_distance 5 = .ok (.ifCond .ne 5, 3) := by decide +kernel
theorem dX8_distance_8 : decode cX8_distance 8 = .ok (.iconst (-1), 1) := by decide +kernel
theorem dX8_distance_9 : decode cX8_distance 9 = .ok (.ireturn, 1) := by decide +kernel
theorem dX8_distance_10 : decode cX8_distance 10 = .ok (.aload_n 0, 1) := by decide +kernel
theorem dX8_distance_11 : decode cX8_distance 11 = .ok (.invokevirtual 102, 3) := by decide +kernel
theorem dX8_distance_14 : decode cX8_distance 14 = .ok (.ifCond .ne 6, 3) := by decide +kernel
theorem dX8_distance_17 : decode cX8_distance 17 = .ok (.bipush (-2), 2) := by decide +kernel
theorem dX8_distance_19 : decode cX8_distance 19 = .ok (.ireturn, 1) := by decide +kernel
theorem dX8_distance_20 : decode cX8_distance 20 = .ok (.aload_n 0, 1) := by decide +kernel
theorem dX8_distance_21 : decode cX8_distance 21 = .ok (.invokevirtual 167, 3) := by decide +kernel
theorem dX8_distance_24 : decode cX8_distance 24 = .ok (.aload_n 0, 1) := by decide +kernel
theorem dX8_distance_25 : decode cX8_distance 25 = .ok (.iload_n 1, 1) := by decide +kernel
theorem dX8_distance_26 : decode cX8_distance 26 = .ok (.invokevirtual 170, 3) := by decide +kernel
theorem dX8_distance_29 : decode cX8_distance 29 = .ok (.ireturn, 1) := by decide +kernel
set_option maxRecDepth 20000 in
theorem ggX8_nearest_X8_way : GoodIn wsX8_nearest wsX8_way := goodIn_r _ [6, 7, 8, 9, 10, 5, 11, 12, 13, 14, 15, 16, 17, 62, 63, 64, 65, 66, 67, 68, 69, 70, 71, 72, 73, 74, 75, 76, 77, 78, 79, 80, 81, 82, 83, 84, 85, 86, 87, 88, 89, 90, 91, 92, 93] (by decide +kernel) (by decide +kernel)
set_option maxRecDepth 20000 in
theorem gX8_nearest_X8_way : GoodIn wsX8_nearest (wsV RX8 102 RX8 yX8_way wsX8_way) := goodIn_app (goodIn_of _ (by decide +kernel)) ggX8_nearest_X8_way
set_option maxRecDepth 20000 in
theorem ggX8_nearest_X8_holdsDraft : GoodIn wsX8_nearest wsX8_holdsDraft := goodIn_r _ [21, 22, 23, 24, 25, 26, 5, 27, 28, 29, 30, 31, 32, 33, 34, 35, 13, 14, 2, 3, 4, 6, 7, 8, 9, 10, 11, 12, 15, 16, 17, 36, 37, 38, 62, 63, 64, 65, 66, 67, 68, 69, 70, 71, 72, 73, 74, 75, 76, 77, 78, 79, 80, 81, 82, 83, 84, 85, 86, 87, 88, 89, 90, 91, 92, 93] (by decide +kernel) (by decide +kernel)
set_option maxRecDepth 20000 in
theorem gX8_nearest_X8_holdsDraft : GoodIn wsX8_nearest (wsV RX8 167 RX8 yX8_holdsDraft wsX8_holdsDraft) := goodIn_app (goodIn_of _ (by decide +kernel)) ggX8_nearest_X8_holdsDraft
set_option maxRecDepth 20000 in
theorem ggX8_nearest_X8_distanceOf : GoodIn wsX8_nearest wsX8_distanceOf := goodIn_r _ [42, 43, 44, 45, 46, 5, 47, 48, 49, 50, 51, 52, 22, 53, 15, 16, 17, 54, 55, 56, 57, 58, 59, 60, 61, 62, 63, 64, 65, 66, 67, 68, 69, 70, 71, 72, 73, 74, 75, 76, 77, 78, 79, 80, 81, 82, 83, 84, 85, 86, 87, 88, 89, 90, 91, 92, 93] (by decide +kernel) (by decide +kernel)
set_option maxRecDepth 20000 in
theorem gX8_nearest_X8_distanceOf : GoodIn wsX8_nearest (wsV RX8 170 RX8 yX8_distanceOf wsX8_distanceOf) := goodIn_app (goodIn_of _ (by decide +kernel)) ggX8_nearest_X8_distanceOf
theorem dX8_nearest_0 : decode cX8_nearest 0 = .ok (.aload_n 0, 1) := by decide +kernel
theorem dX8_nearest_1 : decode cX8_nearest 1 = .ok (.invokevirtual 102, 3) := by decide +kernel
theorem dX8_nearest_4 : decode cX8_nearest 4 = .ok (.ifCond .ne 6, 3) := by decide +kernel
theorem dX8_nearest_7 : decode cX8_nearest 7 = .ok (.bipush (-2), 2) := by decide +kernel
theorem dX8_nearest_9 : decode cX8_nearest 9 = .ok (.ireturn, 1) := by decide +kernel
theorem dX8_nearest_10 : decode cX8_nearest 10 = .ok (.aload_n 0, 1) := by decide +kernel
theorem dX8_nearest_11 : decode cX8_nearest 11 = .ok (.invokevirtual 167, 3) := by decide +kernel
theorem dX8_nearest_14 : decode cX8_nearest 14 = .ok (.bipush (-4), 2) := by decide +kernel
theorem dX8_nearest_16 : decode cX8_nearest 16 = .ok (.istore_n 1, 1) := by decide +kernel
theorem dX8_nearest_17 : decode cX8_nearest 17 = .ok (.iconst 0, 1) := by decide +kernel
theorem dX8_nearest_18 : decode cX8_nearest 18 = .ok (.istore_n 2, 1) := by decide +kernel
theorem dX8_nearest_19 : decode cX8_nearest 19 = .ok (.iconst 0, 1) := by decide +kernel
theorem dX8_nearest_20 : decode cX8_nearest 20 = .ok (.istore_n 3, 1) := by decide +kernel
theorem dX8_nearest_21 : decode cX8_nearest 21 = .ok (.iload_n 3, 1) := by decide +kernel
theorem dX8_nearest_22 : decode cX8_nearest 22 = .ok (.aload_n 0, 1) := by decide +kernel
theorem dX8_nearest_23 : decode cX8_nearest 23 = .ok (.getfield 123, 3) := by decide +kernel
theorem dX8_nearest_26 : decode cX8_nearest 26 = .ok (.if_icmp .ge 33, 3) := by decide +kernel
theorem dX8_nearest_29 : decode cX8_nearest 29 = .ok (.aload_n 0, 1) := by decide +kernel
theorem dX8_nearest_30 : decode cX8_nearest 30 = .ok (.iload_n 3, 1) := by decide +kernel
theorem dX8_nearest_31 : decode cX8_nearest 31 = .ok (.invokevirtual 170, 3) := by decide +kernel
theorem dX8_nearest_34 : decode cX8_nearest 34 = .ok (.istore 4, 2) := by decide +kernel
theorem dX8_nearest_36 : decode cX8_nearest 36 = .ok (.iload_n 1, 1) := by decide +kernel
theorem dX8_nearest_37 : decode cX8_nearest 37 = .ok (.bipush (-4), 2) := by decide +kernel
theorem dX8_nearest_39 : decode cX8_nearest 39 = .ok (.if_icmp .eq 9, 3) := by decide +kernel
theorem dX8_nearest_42 : decode cX8_nearest 42 = .ok (.iload 4, 2) := by decide +kernel
theorem dX8_nearest_44 : decode cX8_nearest 44 = .ok (.iload_n 2, 1) := by decide +kernel
theorem dX8_nearest_45 : decode cX8_nearest 45 = .ok (.if_icmp .ge 8, 3) := by decide +kernel
theorem dX8_nearest_48 : decode cX8_nearest 48 = .ok (.iload_n 3, 1) := by decide +kernel
theorem dX8_nearest_49 : decode cX8_nearest 49 = .ok (.istore_n 1, 1) := by decide +kernel
theorem dX8_nearest_50 : decode cX8_nearest 50 = .ok (.iload 4, 2) := by decide +kernel
theorem dX8_nearest_52 : decode cX8_nearest 52 = .ok (.istore_n 2, 1) := by decide +kernel
theorem dX8_nearest_53 : decode cX8_nearest 53 = .ok (.iinc 3 1, 3) := by decide +kernel
theorem dX8_nearest_56 : decode cX8_nearest 56 = .ok (.goto (-35), 3) := by decide +kernel
theorem dX8_nearest_59 : decode cX8_nearest 59 = .ok (.iload_n 1, 1) := by decide +kernel
theorem dX8_nearest_60 : decode cX8_nearest 60 = .ok (.ireturn, 1) := by decide +kernel
set_option maxRecDepth 20000 in
theorem ggX8_read_X8_nearest : GoodIn wsX8_read wsX8_nearest := goodIn_r _ [9, 2, 10, 11, 12, 8, 13, 14, 15, 16, 17, 18, 19, 20, 21, 22, 23, 24, 25, 26, 27, 28, 29, 30, 31, 32, 33, 34, 35, 36, 37, 38, 39, 40, 41, 42, 43, 44, 45, 46, 47, 48, 49, 50, 51, 52, 53, 54, 55, 56, 57, 58, 59, 60, 61, 62, 63, 64, 65, 66, 67, 68, 69, 70, 71, 72, 73, 74, 75, 76, 77, 78, 79, 80, 81, 82, 83, 84, 85, 86, 87, 88, 89, 90, 91, 92, 93, 94, 95, 96, 97, 98, 99, 100] (by decide +kernel) (by decide +kernel)
set_option maxRecDepth 20000 in
theorem gX8_read_X8_nearest : GoodIn wsX8_read (wsV RX8 173 RX8 yX8_nearest wsX8_nearest) := goodIn_app (goodIn_of _ (by decide +kernel)) ggX8_read_X8_nearest
set_option maxRecDepth 20000 in
theorem ggX8_read_X8_distanceOf : GoodIn wsX8_read wsX8_distanceOf := goodIn_r _ [49, 50, 51, 52, 53, 8, 54, 55, 56, 57, 58, 59, 29, 60, 22, 23, 24, 61, 62, 63, 64, 65, 66, 67, 68, 69, 70, 71, 72, 73, 74, 75, 76, 77, 78, 79, 80, 81, 82, 83, 84, 85, 86, 87, 88, 89, 90, 91, 92, 93, 94, 95, 96, 97, 98, 99, 100] (by decide +kernel) (by decide +kernel)
set_option maxRecDepth 20000 in
theorem gX8_read_X8_distanceOf : GoodIn wsX8_read (wsV RX8 170 RX8 yX8_distanceOf wsX8_distanceOf) := goodIn_app (goodIn_of _ (by decide +kernel)) ggX8_read_X8_distanceOf
theorem dX8_read_0 : decode cX8_read 0 = .ok (.aload_n 0, 1) := by decide +kernel
theorem dX8_read_1 : decode cX8_read 1 = .ok (.invokevirtual 173, 3) := by decide +kernel
theorem dX8_read_4 : decode cX8_read 4 = .ok (.istore_n 1, 1) := by decide +kernel
theorem dX8_read_5 : decode cX8_read 5 = .ok (.iload_n 1, 1) := by decide +kernel
theorem dX8_read_6 : decode cX8_read 6 = .ok (.ifCond .ge 5, 3) := by decide +kernel
theorem dX8_read_9 : decode cX8_read 9 = .ok (.iload_n 1, 1) := by decide +kernel
theorem dX8_read_10 : decode cX8_read 10 = .ok (.ireturn, 1) := by decide +kernel
theorem dX8_read_11 : decode cX8_read 11 = .ok (.aload_n 0, 1) := by decide +kernel
theorem dX8_read_12 : decode cX8_read 12 = .ok (.iload_n 1, 1) := by decide +kernel
theorem dX8_read_13 : decode cX8_read 13 = .ok (.invokevirtual 170, 3) := by decide +kernel
theorem dX8_read_16 : decode cX8_read 16 = .ok (.istore_n 2, 1) := by decide +kernel
theorem dX8_read_17 : decode cX8_read 17 = .ok (.iload_n 2, 1) := by decide +kernel
theorem dX8_read_18 : decode cX8_read 18 = .ok (.aload_n 0, 1) := by decide +kernel
theorem dX8_read_19 : decode cX8_read 19 = .ok (.getfield 50, 3) := by decide +kernel
theorem dX8_read_22 : decode cX8_read 22 = .ok (.if_icmp .gt 7, 3) := by decide +kernel
theorem dX8_read_25 : decode cX8_read 25 = .ok (.iconst 1, 1) := by decide +kernel
theorem dX8_read_26 : decode cX8_read 26 = .ok (.goto 4, 3) := by decide +kernel
theorem dX8_read_29 : decode cX8_read 29 = .ok (.iconst 0, 1) := by decide +kernel
theorem dX8_read_30 : decode cX8_read 30 = .ok (.istore_n 3, 1) := by decide +kernel
theorem dX8_read_31 : decode cX8_read 31 = .ok (.iconst 0, 1) := by decide +kernel
theorem dX8_read_32 : decode cX8_read 32 = .ok (.istore 4, 2) := by decide +kernel
theorem dX8_read_34 : decode cX8_read 34 = .ok (.iload 4, 2) := by decide +kernel
theorem dX8_read_36 : decode cX8_read 36 = .ok (.aload_n 0, 1) := by decide +kernel
theorem dX8_read_37 : decode cX8_read 37 = .ok (.getfield 123, 3) := by decide +kernel
theorem dX8_read_40 : decode cX8_read 40 = .ok (.if_icmp .ge 50, 3) := by decide +kernel
theorem dX8_read_43 : decode cX8_read 43 = .ok (.iload_n 3, 1) := by decide +kernel
theorem dX8_read_44 : decode cX8_read 44 = .ok (.ifCond .eq 38, 3) := by decide +kernel
theorem dX8_read_47 : decode cX8_read 47 = .ok (.aload_n 0, 1) := by decide +kernel
theorem dX8_read_48 : decode cX8_read 48 = .ok (.getfield 26, 3) := by decide +kernel
theorem dX8_read_51 : decode cX8_read 51 = .ok (.iload 4, 2) := by decide +kernel
theorem dX8_read_53 : decode cX8_read 53 = .ok (.iaload, 1) := by decide +kernel
theorem dX8_read_54 : decode cX8_read 54 = .ok (.aload_n 0, 1) := by decide +kernel
theorem dX8_read_55 : decode cX8_read 55 = .ok (.getfield 26, 3) := by decide +kernel
theorem dX8_read_58 : decode cX8_read 58 = .ok (.iload_n 1, 1) := by decide +kernel
theorem dX8_read_59 : decode cX8_read 59 = .ok (.iaload, 1) := by decide +kernel
theorem dX8_read_60 : decode cX8_read 60 = .ok (.if_icmp .eq 18, 3) := by decide +kernel
theorem dX8_read_63 : decode cX8_read 63 = .ok (.aload_n 0, 1) := by decide +kernel
theorem dX8_read_64 : decode cX8_read 64 = .ok (.iload 4, 2) := by decide +kernel
theorem dX8_read_66 : decode cX8_read 66 = .ok (.invokevirtual 170, 3) := by decide +kernel
theorem dX8_read_69 : decode cX8_read 69 = .ok (.iload_n 2, 1) := by decide +kernel
theorem dX8_read_70 : decode cX8_read 70 = .ok (.aload_n 0, 1) := by decide +kernel
theorem dX8_read_71 : decode cX8_read 71 = .ok (.getfield 150, 3) := by decide +kernel
theorem dX8_read_74 : decode cX8_read 74 = .ok (.iadd, 1) := by decide +kernel
theorem dX8_read_75 : decode cX8_read 75 = .ok (.if_icmp .lt 7, 3) := by decide +kernel
theorem dX8_read_78 : decode cX8_read 78 = .ok (.iconst 1, 1) := by decide +kernel
theorem dX8_read_79 : decode cX8_read 79 = .ok (.goto 4, 3) := by decide +kernel
theorem dX8_read_82 : decode cX8_read 82 = .ok (.iconst 0, 1) := by decide +kernel
theorem dX8_read_83 : decode cX8_read 83 = .ok (.istore_n 3, 1) := by decide +kernel
theorem dX8_read_84 : decode cX8_read 84 = .ok (.iinc 4 1, 3) := by decide +kernel
theorem dX8_read_87 : decode cX8_read 87 = .ok (.goto (-53), 3) := by decide +kernel
theorem dX8_read_90 : decode cX8_read 90 = .ok (.iload_n 3, 1) := by decide +kernel
theorem dX8_read_91 : decode cX8_read 91 = .ok (.ifCond .eq 12, 3) := by decide +kernel
theorem dX8_read_94 : decode cX8_read 94 = .ok (.aload_n 0, 1) := by decide +kernel
theorem dX8_read_95 : decode cX8_read 95 = .ok (.getfield 26, 3) := by decide +kernel
theorem dX8_read_98 : decode cX8_read 98 = .ok (.iload_n 1, 1) := by decide +kernel
theorem dX8_read_99 : decode cX8_read 99 = .ok (.iaload, 1) := by decide +kernel
theorem dX8_read_100 : decode cX8_read 100 = .ok (.goto 5, 3) := by decide +kernel
theorem dX8_read_103 : decode cX8_read 103 = .ok (.bipush (-5), 2) := by decide +kernel
theorem dX8_read_105 : decode cX8_read 105 = .ok (.ireturn, 1) := by decide +kernel
set_option maxRecDepth 20000 in
theorem ggX8_mark_X8_read : GoodIn wsX8_mark wsX8_read := goodIn_r _ [8, 9, 10, 11, 12, 13, 14, 15, 7, 16, 17, 18, 19, 20, 3, 21, 22, 23, 24, 25, 26, 27, 28, 29, 30, 31, 32, 33, 34, 35, 36, 37, 38, 39, 40, 41, 42, 43, 44, 45, 46, 47, 48, 49, 50, 51, 52, 53, 54, 55, 56, 57, 58, 59, 60, 61, 62, 63, 64, 65, 66, 67, 68, 69, 70, 71, 72, 73, 74, 75, 76, 77, 78, 79, 80, 81, 82, 83, 84, 85, 86, 87, 88, 89, 90, 91, 92, 93, 94, 95, 96, 97, 98, 99, 100, 101, 102, 103, 104, 105, 106] (by decide +kernel) (by decide +kernel)
set_option maxRecDepth 20000 in
theorem gX8_mark_X8_read : GoodIn wsX8_mark (wsV RX8 176 RX8 yX8_read wsX8_read) := goodIn_app (goodIn_of _ (by decide +kernel)) ggX8_mark_X8_read
theorem dX8_mark_0 : decode cX8_mark 0 = .ok (.aload_n 0, 1) := by decide +kernel
theorem dX8_mark_1 : decode cX8_mark 1 = .ok (.invokevirtual 176, 3) := by decide +kernel
theorem dX8_mark_4 : decode cX8_mark 4 = .ok (.istore_n 1, 1) := by decide +kernel
theorem dX8_mark_5 : decode cX8_mark 5 = .ok (.iload_n 1, 1) := by decide +kernel
theorem dX8_mark_6 : decode cX8_mark 6 = .ok (.ifCond .ge 5, 3) := by decide +kernel
theorem dX8_mark_9 : decode cX8_mark 9 = .ok (.iload_n 1, 1) := by decide +kernel
theorem dX8_mark_10 : decode cX8_mark 10 = .ok (.ireturn, 1) := by decide +kernel
theorem dX8_mark_11 : decode cX8_mark 11 = .ok (.aload_n 0, 1) := by decide +kernel
theorem dX8_mark_12 : decode cX8_mark 12 = .ok (.getfield 179, 3) := by decide +kernel
theorem dX8_mark_15 : decode cX8_mark 15 = .ok (.bipush 40, 2) := by decide +kernel
theorem dX8_mark_17 : decode cX8_mark 17 = .ok (.if_icmp .ne 6, 3) := by decide +kernel
theorem dX8_mark_20 : decode cX8_mark 20 = .ok (.bipush (-3), 2) := by decide +kernel
theorem dX8_mark_22 : decode cX8_mark 22 = .ok (.ireturn, 1) := by decide +kernel
theorem dX8_mark_23 : decode cX8_mark 23 = .ok (.aload_n 0, 1) := by decide +kernel
theorem dX8_mark_24 : decode cX8_mark 24 = .ok (.getfield 60, 3) := by decide +kernel
theorem dX8_mark_27 : decode cX8_mark 27 = .ok (.aload_n 0, 1) := by decide +kernel
theorem dX8_mark_28 : decode cX8_mark 28 = .ok (.getfield 179, 3) := by decide +kernel
theorem dX8_mark_31 : decode cX8_mark 31 = .ok (.iload_n 1, 1) := by decide +kernel
theorem dX8_mark_32 : decode cX8_mark 32 = .ok (.iastore, 1) := by decide +kernel
theorem dX8_mark_33 : decode cX8_mark 33 = .ok (.aload_n 0, 1) := by decide +kernel
theorem dX8_mark_34 : decode cX8_mark 34 = .ok (.dup, 1) := by decide +kernel
theorem dX8_mark_35 : decode cX8_mark 35 = .ok (.getfield 179, 3) := by decide +kernel
theorem dX8_mark_38 : decode cX8_mark 38 = .ok (.iconst 1, 1) := by decide +kernel
theorem dX8_mark_39 : decode cX8_mark 39 = .ok (.iadd, 1) := by decide +kernel
theorem dX8_mark_40 : decode cX8_mark 40 = .ok (.putfield 179, 3) := by decide +kernel
theorem dX8_mark_43 : decode cX8_mark 43 = .ok (.aload_n 0, 1) := by decide +kernel
theorem dX8_mark_44 : decode cX8_mark 44 = .ok (.iconst 0, 1) := by decide +kernel
theorem dX8_mark_45 : decode cX8_mark 45 = .ok (.putfield 92, 3) := by decide +kernel
theorem dX8_mark_48 : decode cX8_mark 48 = .ok (.iload_n 1, 1) := by decide +kernel
theorem dX8_mark_49 : decode cX8_mark 49 = .ok (.ireturn, 1) := by decide +kernel
set_option maxRecDepth 20000 in
theorem ggX8_betweenOf_X8_distanceOf : GoodIn wsX8_betweenOf wsX8_distanceOf := goodIn_r _ [7, 8, 9, 10, 11, 6, 12, 13, 14, 15, 16, 17, 1, 2, 18, 19, 20, 21, 22, 23, 24, 25, 26, 27, 28, 29, 30, 31, 32, 33, 34, 35, 36, 37, 38, 39, 40, 41, 42, 43, 44, 45, 46, 47, 48, 49, 50, 51, 52, 53, 54, 55, 56, 57, 58, 59, 60] (by decide +kernel) (by decide +kernel)
set_option maxRecDepth 20000 in
theorem gX8_betweenOf_X8_distanceOf : GoodIn wsX8_betweenOf (wsV RX8 170 RX8 yX8_distanceOf wsX8_distanceOf) := goodIn_app (goodIn_of _ (by decide +kernel)) ggX8_betweenOf_X8_distanceOf
theorem dX8_betweenOf_0 : decode cX8_betweenOf 0 = .ok (.iconst 0, 1) := by decide +kernel
theorem dX8_betweenOf_1 : decode cX8_betweenOf 1 = .ok (.istore_n 3, 1) := by decide +kernel
theorem dX8_betweenOf_2 : decode cX8_betweenOf 2 = .ok (.iload_n 3, 1) := by decide +kernel
theorem dX8_betweenOf_3 : decode cX8_betweenOf 3 = .ok (.bipush 16, 2) := by decide +kernel
theorem dX8_betweenOf_5 : decode cX8_betweenOf 5 = .ok (.if_icmp .ge 26, 3) := by decide +kernel
theorem dX8_betweenOf_8 : decode cX8_betweenOf 8 = .ok (.aload_n 0, 1) := by decide +kernel
theorem dX8_betweenOf_9 : decode cX8_betweenOf 9 = .ok (.getfield 54, 3) := by decide +kernel
theorem dX8_betweenOf_12 : decode cX8_betweenOf 12 = .ok (.iload_n 3, 1) := by decide +kernel
theorem dX8_betweenOf_13 : decode cX8_betweenOf 13 = .ok (.aload_n 0, 1) := by decide +kernel
theorem dX8_betweenOf_14 : decode cX8_betweenOf 14 = .ok (.getfield 32, 3) := by decide +kernel
theorem dX8_betweenOf_17 : decode cX8_betweenOf 17 = .ok (.bipush 16, 2) := by decide +kernel
theorem dX8_betweenOf_19 : decode cX8_betweenOf 19 = .ok (.iload_n 1, 1) := by decide +kernel
theorem dX8_betweenOf_20 : decode cX8_betweenOf 20 = .ok (.imul, 1) := by decide +kernel
theorem dX8_betweenOf_21 : decode cX8_betweenOf 21 = .ok (.iload_n 3, 1) := by decide +kernel
theorem dX8_betweenOf_22 : decode cX8_betweenOf 22 = .ok (.iadd, 1) := by decide +kernel
theorem dX8_betweenOf_23 : decode cX8_betweenOf 23 = .ok (.iaload, 1) := by decide +kernel
theorem dX8_betweenOf_24 : decode cX8_betweenOf 24 = .ok (.iastore, 1) := by decide +kernel
theorem dX8_betweenOf_25 : decode cX8_betweenOf 25 = .ok (.iinc 3 1, 3) := by decide +kernel
theorem dX8_betweenOf_28 : decode cX8_betweenOf 28 = .ok (.goto (-26), 3) := by decide +kernel
theorem dX8_betweenOf_31 : decode cX8_betweenOf 31 = .ok (.aload_n 0, 1) := by decide +kernel
theorem dX8_betweenOf_32 : decode cX8_betweenOf 32 = .ok (.iload_n 2, 1) := by decide +kernel
theorem dX8_betweenOf_33 : decode cX8_betweenOf 33 = .ok (.invokevirtual 170, 3) := by decide +kernel
theorem dX8_betweenOf_36 : decode cX8_betweenOf 36 = .ok (.ireturn, 1) := by decide +kernel
set_option maxRecDepth 20000 in
theorem ggX8_confused_X8_in : GoodIn wsX8_confused wsX8_in := goodIn_r _ [8] (by decide +kernel) (by decide +kernel)
set_option maxRecDepth 20000 in
theorem gX8_confused_X8_in : GoodIn wsX8_confused (va_wsS RX8 88 yX8_in wsX8_in) := goodIn_app (goodIn_of _ (by decide +kernel)) ggX8_confused_X8_in
set_option maxRecDepth 20000 in
theorem ggX8_confused_X8_betweenOf : GoodIn wsX8_confused wsX8_betweenOf := goodIn_r _ [12, 13, 14, 15, 16, 17, 7, 18, 19, 20, 21, 22, 23, 24, 25, 26, 27, 28, 29, 30, 31, 32, 33, 34, 35, 36, 37, 38, 39, 40, 41, 42, 43, 44, 45, 46, 47, 48, 49, 50, 51, 52, 53, 54, 55, 56, 57, 58, 59, 60, 61, 62, 63, 64, 65, 66, 67, 68, 69, 70, 71] (by decide +kernel) (by decide +kernel)
set_option maxRecDepth 20000 in
theorem gX8_confused_X8_betweenOf : GoodIn wsX8_confused (wsV RX8 182 RX8 yX8_betweenOf wsX8_betweenOf) := goodIn_app (goodIn_of _ (by decide +kernel)) ggX8_confused_X8_betweenOf
theorem dX8_confused_0 : decode cX8_confused 0 = .ok (.iload_n 1, 1) := by decide +kernel
theorem dX8_confused_1 : decode cX8_confused 1 = .ok (.i2l, 1) := by decide +kernel
theorem dX8_confused_2 : decode cX8_confused 2 = .ok (.lconst 0, 1) := by decide +kernel
theorem dX8_confused_3 : decode cX8_confused 3 = .ok (.ldc2_w 129, 3) := by decide +kernel
theorem dX8_confused_6 : decode cX8_confused 6 = .ok (.invokestatic 88, 3) := by decide +kernel
theorem dX8_confused_9 : decode cX8_confused 9 = .ok (.ifCond .eq 15, 3) := by decide +kernel
theorem dX8_confused_12 : decode cX8_confused 12 = .ok (.iload_n 2, 1) := by decide +kernel
theorem dX8_confused_13 : decode cX8_confused 13 = .ok (.i2l, 1) := by decide +kernel
theorem dX8_confused_14 : decode cX8_confused 14 = .ok (.lconst 0, 1) := by decide +kernel
theorem dX8_confused_15 : decode cX8_confused 15 = .ok (.ldc2_w 148, 3) := by decide +kernel
theorem dX8_confused_18 : decode cX8_confused 18 = .ok (.invokestatic 88, 3) := by decide +kernel
theorem dX8_confused_21 : decode cX8_confused 21 = .ok (.ifCond .ne 5, 3) := by decide +kernel
theorem dX8_confused_24 : decode cX8_confused 24 = .ok (.iconst (-1), 1) := by decide +kernel
theorem dX8_confused_25 : decode cX8_confused 25 = .ok (.ireturn, 1) := by decide +kernel
theorem dX8_confused_26 : decode cX8_confused 26 = .ok (.iconst 0, 1) := by decide +kernel
theorem dX8_confused_27 : decode cX8_confused 27 = .ok (.istore_n 3, 1) := by decide +kernel
theorem dX8_confused_28 : decode cX8_confused 28 = .ok (.iconst 0, 1) := by decide +kernel
theorem dX8_confused_29 : decode cX8_confused 29 = .ok (.istore 4, 2) := by decide +kernel
theorem dX8_confused_31 : decode cX8_confused 31 = .ok (.iload 4, 2) := by decide +kernel
theorem dX8_confused_33 : decode cX8_confused 33 = .ok (.aload_n 0, 1) := by decide +kernel
theorem dX8_confused_34 : decode cX8_confused 34 = .ok (.getfield 123, 3) := by decide +kernel
theorem dX8_confused_37 : decode cX8_confused 37 = .ok (.if_icmp .ge 101, 3) := by decide +kernel
theorem dX8_confused_40 : decode cX8_confused 40 = .ok (.iconst 0, 1) := by decide +kernel
theorem dX8_confused_41 : decode cX8_confused 41 = .ok (.istore 5, 2) := by decide +kernel
theorem dX8_confused_43 : decode cX8_confused 43 = .ok (.iconst 0, 1) := by decide +kernel
theorem dX8_confused_44 : decode cX8_confused 44 = .ok (.istore 6, 2) := by decide +kernel
theorem dX8_confused_46 : decode cX8_confused 46 = .ok (.iload 6, 2) := by decide +kernel
theorem dX8_confused_48 : decode cX8_confused 48 = .ok (.aload_n 0, 1) := by decide +kernel
theorem dX8_confused_49 : decode cX8_confused 49 = .ok (.getfield 123, 3) := by decide +kernel
theorem dX8_confused_52 : decode cX8_confused 52 = .ok (.if_icmp .ge 67, 3) := by decide +kernel
theorem dX8_confused_55 : decode cX8_confused 55 = .ok (.aload_n 0, 1) := by decide +kernel
theorem dX8_confused_56 : decode cX8_confused 56 = .ok (.getfield 26, 3) := by decide +kernel
theorem dX8_confused_59 : decode cX8_confused 59 = .ok (.iload 4, 2) := by decide +kernel
theorem dX8_confused_61 : decode cX8_confused 61 = .ok (.iaload, 1) := by decide +kernel
theorem dX8_confused_62 : decode cX8_confused 62 = .ok (.iload_n 1, 1) := by decide +kernel
theorem dX8_confused_63 : decode cX8_confused 63 = .ok (.if_icmp .ne 56, 3) := by decide +kernel
theorem dX8_confused_66 : decode cX8_confused 66 = .ok (.iload 5, 2) := by decide +kernel
theorem dX8_confused_68 : decode cX8_confused 68 = .ok (.ifCond .ne 38, 3) := by decide +kernel
theorem dX8_confused_71 : decode cX8_confused 71 = .ok (.aload_n 0, 1) := by decide +kernel
theorem dX8_confused_72 : decode cX8_confused 72 = .ok (.getfield 26, 3) := by decide +kernel
theorem dX8_confused_75 : decode cX8_confused 75 = .ok (.iload 6, 2) := by decide +kernel
theorem dX8_confused_77 : decode cX8_confused 77 = .ok (.iaload, 1) := by decide +kernel
theorem dX8_confused_78 : decode cX8_confused 78 = .ok (.iload_n 1, 1) := by decide +kernel
theorem dX8_confused_79 : decode cX8_confused 79 = .ok (.if_icmp .eq 31, 3) := by decide +kernel
theorem dX8_confused_82 : decode cX8_confused 82 = .ok (.aload_n 0, 1) := by decide +kernel
theorem dX8_confused_83 : decode cX8_confused 83 = .ok (.iload 4, 2) := by decide +kernel
theorem dX8_confused_85 : decode cX8_confused 85 = .ok (.iload 6, 2) := by decide +kernel
theorem dX8_confused_87 : decode cX8_confused 87 = .ok (.invokevirtual 182, 3) := by decide +kernel
theorem dX8_confused_90 : decode cX8_confused 90 = .ok (.iload_n 2, 1) := by decide +kernel
theorem dX8_confused_91 : decode cX8_confused 91 = .ok (.if_icmp .le 15, 3) := by decide +kernel
theorem dX8_confused_94 : decode cX8_confused 94 = .ok (.aload_n 0, 1) := by decide +kernel
theorem dX8_confused_95 : decode cX8_confused 95 = .ok (.iload 6, 2) := by decide +kernel
theorem dX8_confused_97 : decode cX8_confused 97 = .ok (.iload 4, 2) := by decide +kernel
theorem dX8_confused_99 : decode cX8_confused 99 = .ok (.invokevirtual 182, 3) := by decide +kernel
theorem dX8_confused_102 : decode cX8_confused 102 = .ok (.iload_n 2, 1) := by decide +kernel
theorem dX8_confused_103 : decode cX8_confused 103 = .ok (.if_icmp .gt 7, 3) := by decide +kernel
theorem dX8_confused_106 : decode cX8_confused 106 = .ok (.iconst 1, 1) := by decide +kernel
theorem dX8_confused_107 : decode cX8_confused 107 = .ok (.goto 4, 3) := by decide +kernel
theorem dX8_confused_110 : decode cX8_confused 110 = .ok (.iconst 0, 1) := by decide +kernel
theorem dX8_confused_111 : decode cX8_confused 111 = .ok (.istore 5, 2) := by decide +kernel
theorem dX8_confused_113 : decode cX8_confused 113 = .ok (.iinc 6 1, 3) := by decide +kernel
theorem dX8_confused_116 : decode cX8_confused 116 = .ok (.goto (-70), 3) := by decide +kernel
theorem dX8_confused_119 : decode cX8_confused 119 = .ok (.iload_n 3, 1) := by decide +kernel
theorem dX8_confused_120 : decode cX8_confused 120 = .ok (.iload 5, 2) := by decide +kernel
theorem dX8_confused_122 : decode cX8_confused 122 = .ok (.ifCond .eq 7, 3) := by decide +kernel
theorem dX8_confused_125 : decode cX8_confused 125 = .ok (.iconst 1, 1) := by decide +kernel
theorem dX8_confused_126 : decode cX8_confused 126 = .ok (.goto 4, 3) := by decide +kernel
theorem dX8_confused_129 : decode cX8_confused 129 = .ok (.iconst 0, 1) := by decide +kernel
theorem dX8_confused_130 : decode cX8_confused 130 = .ok (.iadd, 1) := by decide +kernel
theorem dX8_confused_131 : decode cX8_confused 131 = .ok (.istore_n 3, 1) := by decide +kernel
theorem dX8_confused_132 : decode cX8_confused 132 = .ok (.iinc 4 1, 3) := by decide +kernel
theorem dX8_confused_135 : decode cX8_confused 135 = .ok (.goto (-104), 3) := by decide +kernel
theorem dX8_confused_138 : decode cX8_confused 138 = .ok (.iload_n 3, 1) := by decide +kernel
theorem dX8_confused_139 : decode cX8_confused 139 = .ok (.ireturn, 1) := by decide +kernel
set_option maxRecDepth 20000 in
theorem ggX8_between_X8_isTaught : GoodIn wsX8_between wsX8_isTaught := goodIn_r _ [5, 6, 7, 8, 4, 9, 41, 42, 43, 44, 45, 46, 47, 48, 49, 50, 51, 52, 53, 54, 55, 56, 57, 58, 59, 60, 61, 62, 63, 64, 65, 66, 67, 68, 69, 70, 71, 72] (by decide +kernel) (by decide +kernel)
set_option maxRecDepth 20000 in
theorem gX8_between_X8_isTaught : GoodIn wsX8_between (wsV RX8 140 RX8 yX8_isTaught wsX8_isTaught) := goodIn_app (goodIn_of _ (by decide +kernel)) ggX8_between_X8_isTaught
set_option maxRecDepth 20000 in
theorem ggX8_between_X8_betweenOf : GoodIn wsX8_between wsX8_betweenOf := goodIn_r _ [13, 14, 15, 16, 17, 18, 4, 19, 20, 21, 22, 23, 24, 25, 26, 27, 28, 29, 30, 31, 32, 33, 34, 35, 36, 37, 38, 39, 40, 41, 42, 43, 44, 45, 46, 47, 48, 49, 50, 51, 52, 53, 54, 55, 56, 57, 58, 59, 60, 61, 62, 63, 64, 65, 66, 67, 68, 69, 70, 71, 72] (by decide +kernel) (by decide +kernel)
set_option maxRecDepth 20000 in
theorem gX8_between_X8_betweenOf : GoodIn wsX8_between (wsV RX8 182 RX8 yX8_betweenOf wsX8_betweenOf) := goodIn_app (goodIn_of _ (by decide +kernel)) ggX8_between_X8_betweenOf
theorem dX8_between_0 : decode cX8_between 0 = .ok (.aload_n 0, 1) := by decide +kernel
theorem dX8_between_1 : decode cX8_between 1 = .ok (.iload_n 1, 1) := by decide +kernel
theorem dX8_between_2 : decode cX8_between 2 = .ok (.invokevirtual 140, 3) := by decide +kernel
theorem dX8_between_5 : decode cX8_between 5 = .ok (.ifCond .eq 20, 3) := by decide +kernel
theorem dX8_between_8 : decode cX8_between 8 = .ok (.aload_n 0, 1) := by decide +kernel
theorem dX8_between_9 : decode cX8_between 9 = .ok (.iload_n 2, 1) := by decide +kernel
theorem dX8_between_10 : decode cX8_between 10 = .ok (.invokevirtual 140, 3) := by decide +kernel
theorem dX8_between_13 : decode cX8_between 13 = .ok (.ifCond .eq 12, 3) := by decide +kernel
theorem dX8_between_16 : decode cX8_between 16 = .ok (.aload_n 0, 1) := by decide +kernel
theorem dX8_between_17 : decode cX8_between 17 = .ok (.iload_n 1, 1) := by decide +kernel
theorem dX8_between_18 : decode cX8_between 18 = .ok (.iload_n 2, 1) := by decide +kernel
theorem dX8_between_19 : decode cX8_between 19 = .ok (.invokevirtual 182, 3) := by decide +kernel
theorem dX8_between_22 : decode cX8_between 22 = .ok (.goto 4, 3) := by decide +kernel
theorem dX8_between_25 : decode cX8_between 25 = .ok (.iconst (-1), 1) := by decide +kernel
theorem dX8_between_26 : decode cX8_between 26 = .ok (.ireturn, 1) := by decide +kernel
set_option maxRecDepth 20000 in
theorem ggX8_command_X8_in : GoodIn wsX8_command wsX8_in := goodIn_r _ [12] (by decide +kernel) (by decide +kernel)
set_option maxRecDepth 20000 in
theorem gX8_command_X8_in : GoodIn wsX8_command (va_wsS RX8 88 yX8_in wsX8_in) := goodIn_app (goodIn_of _ (by decide +kernel)) ggX8_command_X8_in
theorem dX8_command_0 : decode cX8_command 0 = .ok (.iload_n 1, 1) := by decide +kernel
theorem dX8_command_1 : decode cX8_command 1 = .ok (.i2l, 1) := by decide +kernel
theorem dX8_command_2 : decode cX8_command 2 = .ok (.lconst 0, 1) := by decide +kernel
theorem dX8_command_3 : decode cX8_command 3 = .ok (.ldc2_w 186, 3) := by decide +kernel
theorem dX8_command_6 : decode cX8_command 6 = .ok (.invokestatic 88, 3) := by decide +kernel
theorem dX8_command_9 : decode cX8_command 9 = .ok (.ifCond .eq 109, 3) := by decide +kernel
theorem dX8_command_12 : decode cX8_command 12 = .ok (.iload_n 2, 1) := by decide +kernel
theorem dX8_command_13 : decode cX8_command 13 = .ok (.i2l, 1) := by decide +kernel
theorem dX8_command_14 : decode cX8_command 14 = .ok (.lconst 0, 1) := by decide +kernel
theorem dX8_command_15 : decode cX8_command 15 = .ok (.ldc2_w 129, 3) := by decide +kernel
theorem dX8_command_18 : decode cX8_command 18 = .ok (.invokestatic 88, 3) := by decide +kernel
theorem dX8_command_21 : decode cX8_command 21 = .ok (.ifCond .eq 97, 3) := by decide +kernel
theorem dX8_command_24 : decode cX8_command 24 = .ok (.iload_n 3, 1) := by decide +kernel
theorem dX8_command_25 : decode cX8_command 25 = .ok (.i2l, 1) := by decide +kernel
theorem dX8_command_26 : decode cX8_command 26 = .ok (.lconst 1, 1) := by decide +kernel
theorem dX8_command_27 : decode cX8_command 27 = .ok (.ldc2_w 131, 3) := by decide +kernel
theorem dX8_command_30 : decode cX8_command 30 = .ok (.invokestatic 88, 3) := by decide +kernel
theorem dX8_command_33 : decode cX8_command 33 = .ok (.ifCond .eq 85, 3) := by decide +kernel
theorem dX8_command_36 : decode cX8_command 36 = .ok (.iload 4, 2) := by decide +kernel
theorem dX8_command_38 : decode cX8_command 38 = .ok (.i2l, 1) := by decide +kernel
theorem dX8_command_39 : decode cX8_command 39 = .ok (.lconst 0, 1) := by decide +kernel
theorem dX8_command_40 : decode cX8_command 40 = .ok (.ldc2_w 129, 3) := by decide +kernel
theorem dX8_command_43 : decode cX8_command 43 = .ok (.invokestatic 88, 3) := by decide +kernel
theorem dX8_command_46 : decode cX8_command 46 = .ok (.ifCond .eq 72, 3) := by decide +kernel
theorem dX8_command_49 : decode cX8_command 49 = .ok (.iload 5, 2) := by decide +kernel
theorem dX8_command_51 : decode cX8_command 51 = .ok (.i2l, 1) := by decide +kernel
theorem dX8_command_52 : decode cX8_command 52 = .ok (.lconst 0, 1) := by decide +kernel
theorem dX8_command_53 : decode cX8_command 53 = .ok (.ldc2_w 129, 3) := by decide +kernel
theorem dX8_command_56 : decode cX8_command 56 = .ok (.invokestatic 88, 3) := by decide +kernel
theorem dX8_command_59 : decode cX8_command 59 = .ok (.ifCond .eq 59, 3) := by decide +kernel
theorem dX8_command_62 : decode cX8_command 62 = .ok (.iload 6, 2) := by decide +kernel
theorem dX8_command_64 : decode cX8_command 64 = .ok (.i2l, 1) := by decide +kernel
theorem dX8_command_65 : decode cX8_command 65 = .ok (.lconst 0, 1) := by decide +kernel
theorem dX8_command_66 : decode cX8_command 66 = .ok (.ldc2_w 129, 3) := by decide +kernel
theorem dX8_command_69 : decode cX8_command 69 = .ok (.invokestatic 88, 3) := by decide +kernel
theorem dX8_command_72 : decode cX8_command 72 = .ok (.ifCond .eq 46, 3) := by decide +kernel
theorem dX8_command_75 : decode cX8_command 75 = .ok (.iload 7, 2) := by decide +kernel
theorem dX8_command_77 : decode cX8_command 77 = .ok (.i2l, 1) := by decide +kernel
theorem dX8_command_78 : decode cX8_command 78 = .ok (.lconst 0, 1) := by decide +kernel
theorem dX8_command_79 : decode cX8_command 79 = .ok (.ldc2_w 129, 3) := by decide +kernel
theorem dX8_command_82 : decode cX8_command 82 = .ok (.invokestatic 88, 3) := by decide +kernel
theorem dX8_command_85 : decode cX8_command 85 = .ok (.ifCond .eq 33, 3) := by decide +kernel
theorem dX8_command_88 : decode cX8_command 88 = .ok (.iload_n 3, 1) := by decide +kernel
theorem dX8_command_89 : decode cX8_command 89 = .ok (.iconst 2, 1) := by decide +kernel
theorem dX8_command_90 : decode cX8_command 90 = .ok (.if_icmp .ge 8, 3) := by decide +kernel
theorem dX8_command_93 : decode cX8_command 93 = .ok (.iload 5, 2) := by decide +kernel
theorem dX8_command_95 : decode cX8_command 95 = .ok (.ifCond .ne 23, 3) := by decide +kernel
theorem dX8_command_98 : decode cX8_command 98 = .ok (.iload_n 3, 1) := by decide +kernel
theorem dX8_command_99 : decode cX8_command 99 = .ok (.iconst 3, 1) := by decide +kernel
theorem dX8_command_100 : decode cX8_command 100 = .ok (.if_icmp .ge 8, 3) := by decide +kernel
theorem dX8_command_103 : decode cX8_command 103 = .ok (.iload 6, 2) := by decide +kernel
theorem dX8_command_105 : decode cX8_command 105 = .ok (.ifCond .ne 13, 3) := by decide +kernel
theorem dX8_command_108 : decode cX8_command 108 = .ok (.iload_n 3, 1) := by decide +kernel
theorem dX8_command_109 : decode cX8_command 109 = .ok (.iconst 4, 1) := by decide +kernel
theorem dX8_command_110 : decode cX8_command 110 = .ok (.if_icmp .ge 10, 3) := by decide +kernel
theorem dX8_command_113 : decode cX8_command 113 = .ok (.iload 7, 2) := by decide +kernel
theorem dX8_command_115 : decode cX8_command 115 = .ok (.ifCond .eq 5, 3) := by decide +kernel
theorem dX8_command_118 : decode cX8_command 118 = .ok (.iconst (-1), 1) := by decide +kernel
theorem dX8_command_119 : decode cX8_command 119 = .ok (.ireturn, 1) := by decide +kernel
theorem dX8_command_120 : decode cX8_command 120 = .ok (.aload_n 0, 1) := by decide +kernel
theorem dX8_command_121 : decode cX8_command 121 = .ok (.getfield 188, 3) := by decide +kernel
theorem dX8_command_124 : decode cX8_command 124 = .ok (.bipush 10, 2) := by decide +kernel
theorem dX8_command_126 : decode cX8_command 126 = .ok (.if_icmp .ne 6, 3) := by decide +kernel
theorem dX8_command_129 : decode cX8_command 129 = .ok (.bipush (-3), 2) := by decide +kernel
theorem dX8_command_131 : decode cX8_command 131 = .ok (.ireturn, 1) := by decide +kernel
theorem dX8_command_132 : decode cX8_command 132 = .ok (.aload_n 0, 1) := by decide +kernel
theorem dX8_command_133 : decode cX8_command 133 = .ok (.getfield 63, 3) := by decide +kernel
theorem dX8_command_136 : decode cX8_command 136 = .ok (.aload_n 0, 1) := by decide +kernel
theorem dX8_command_137 : decode cX8_command 137 = .ok (.getfield 188, 3) := by decide +kernel
theorem dX8_command_140 : decode cX8_command 140 = .ok (.iload_n 1, 1) := by decide +kernel
theorem dX8_command_141 : decode cX8_command 141 = .ok (.iastore, 1) := by decide +kernel
theorem dX8_command_142 : decode cX8_command 142 = .ok (.aload_n 0, 1) := by decide +kernel
theorem dX8_command_143 : decode cX8_command 143 = .ok (.getfield 66, 3) := by decide +kernel
theorem dX8_command_146 : decode cX8_command 146 = .ok (.aload_n 0, 1) := by decide +kernel
theorem dX8_command_147 : decode cX8_command 147 = .ok (.getfield 188, 3) := by decide +kernel
theorem dX8_command_150 : decode cX8_command 150 = .ok (.iload_n 2, 1) := by decide +kernel
theorem dX8_command_151 : decode cX8_command 151 = .ok (.iastore, 1) := by decide +kernel
theorem dX8_command_152 : decode cX8_command 152 = .ok (.aload_n 0, 1) := by decide +kernel
theorem dX8_command_153 : decode cX8_command 153 = .ok (.getfield 69, 3) := by decide +kernel
theorem dX8_command_156 : decode cX8_command 156 = .ok (.aload_n 0, 1) := by decide +kernel
theorem dX8_command_157 : decode cX8_command 157 = .ok (.getfield 188, 3) := by decide +kernel
theorem dX8_command_160 : decode cX8_command 160 = .ok (.iload_n 3, 1) := by decide +kernel
theorem dX8_command_161 : decode cX8_command 161 = .ok (.iastore, 1) := by decide +kernel
theorem dX8_command_162 : decode cX8_command 162 = .ok (.aload_n 0, 1) := by decide +kernel
theorem dX8_command_163 : decode cX8_command 163 = .ok (.getfield 72, 3) := by decide +kernel
theorem dX8_command_166 : decode cX8_command 166 = .ok (.iconst 4, 1) := by decide +kernel
theorem dX8_command_167 : decode cX8_command 167 = .ok (.aload_n 0, 1) := by decide +kernel
theorem dX8_command_168 : decode cX8_command 168 = .ok (.getfield 188, 3) := by decide +kernel
theorem dX8_command_171 : decode cX8_command 171 = .ok (.imul, 1) := by decide +kernel
theorem dX8_command_172 : decode cX8_command 172 = .ok (.iload 4, 2) := by decide +kernel
theorem dX8_command_174 : decode cX8_command 174 = .ok (.iastore, 1) := by decide +kernel
theorem dX8_command_175 : decode cX8_command 175 = .ok (.aload_n 0, 1) := by decide +kernel
theorem dX8_command_176 : decode cX8_command 176 = .ok (.getfield 72, 3) := by decide +kernel
theorem dX8_command_179 : decode cX8_command 179 = .ok (.iconst 4, 1) := by decide +kernel
theorem dX8_command_180 : decode cX8_command 180 = .ok (.aload_n 0, 1) := by decide +kernel
theorem dX8_command_181 : decode cX8_command 181 = .ok (.getfield 188, 3) := by decide +kernel
theorem dX8_command_184 : decode cX8_command 184 = .ok (.imul, 1) := by decide +kernel
theorem dX8_command_185 : decode cX8_command 185 = .ok (.iconst 1, 1) := by decide +kernel
theorem dX8_command_186 : decode cX8_command 186 = .ok (.iadd, 1) := by decide +kernel
theorem dX8_command_187 : decode cX8_command 187 = .ok (.iload 5, 2) := by decide +kernel
theorem dX8_command_189 : decode cX8_command 189 = .ok (.iastore, 1) := by decide +kernel
theorem dX8_command_190 : decode cX8_command 190 = .ok (.aload_n 0, 1) := by decide +kernel
theorem dX8_command_191 : decode cX8_command 191 = .ok (.getfield 72, 3) := by decide +kernel
theorem dX8_command_194 : decode cX8_command 194 = .ok (.iconst 4, 1) := by decide +kernel
theorem dX8_command_195 : decode cX8_command 195 = .ok (.aload_n 0, 1) := by decide +kernel
theorem dX8_command_196 : decode cX8_command 196 = .ok (.getfield 188, 3) := by decide +kernel
theorem dX8_command_199 : decode cX8_command 199 = .ok (.imul, 1) := by decide +kernel
theorem dX8_command_200 : decode cX8_command 200 = .ok (.iconst 2, 1) := by decide +kernel
theorem dX8_command_201 : decode cX8_command 201 = .ok (.iadd, 1) := by decide +kernel
theorem dX8_command_202 : decode cX8_command 202 = .ok (.iload 6, 2) := by decide +kernel
theorem dX8_command_204 : decode cX8_command 204 = .ok (.iastore, 1) := by decide +kernel
theorem dX8_command_205 : decode cX8_command 205 = .ok (.aload_n 0, 1) := by decide +kernel
theorem dX8_command_206 : decode cX8_command 206 = .ok (.getfield 72, 3) := by decide +kernel
theorem dX8_command_209 : decode cX8_command 209 = .ok (.iconst 4, 1) := by decide +kernel
theorem dX8_command_210 : decode cX8_command 210 = .ok (.aload_n 0, 1) := by decide +kernel
theorem dX8_command_211 : decode cX8_command 211 = .ok (.getfield 188, 3) := by decide +kernel
theorem dX8_command_214 : decode cX8_command 214 = .ok (.imul, 1) := by decide +kernel
theorem dX8_command_215 : decode cX8_command 215 = .ok (.iconst 3, 1) := by decide +kernel
theorem dX8_command_216 : decode cX8_command 216 = .ok (.iadd, 1) := by decide +kernel
theorem dX8_command_217 : decode cX8_command 217 = .ok (.iload 7, 2) := by decide +kernel
theorem dX8_command_219 : decode cX8_command 219 = .ok (.iastore, 1) := by decide +kernel
theorem dX8_command_220 : decode cX8_command 220 = .ok (.aload_n 0, 1) := by decide +kernel
theorem dX8_command_221 : decode cX8_command 221 = .ok (.dup, 1) := by decide +kernel
theorem dX8_command_222 : decode cX8_command 222 = .ok (.getfield 188, 3) := by decide +kernel
theorem dX8_command_225 : decode cX8_command 225 = .ok (.iconst 1, 1) := by decide +kernel
theorem dX8_command_226 : decode cX8_command 226 = .ok (.iadd, 1) := by decide +kernel
theorem dX8_command_227 : decode cX8_command 227 = .ok (.putfield 188, 3) := by decide +kernel
theorem dX8_command_230 : decode cX8_command 230 = .ok (.aload_n 0, 1) := by decide +kernel
theorem dX8_command_231 : decode cX8_command 231 = .ok (.getfield 188, 3) := by decide +kernel
theorem dX8_command_234 : decode cX8_command 234 = .ok (.iconst 1, 1) := by decide +kernel
theorem dX8_command_235 : decode cX8_command 235 = .ok (.isub, 1) := by decide +kernel
theorem dX8_command_236 : decode cX8_command 236 = .ok (.ireturn, 1) := by decide +kernel
theorem dX8_stands_0 : decode cX8_stands 0 = .ok (.iload_n 2, 1) := by decide +kernel
theorem dX8_stands_1 : decode cX8_stands 1 = .ok (.aload_n 0, 1) := by decide +kernel
theorem dX8_stands_2 : decode cX8_stands 2 = .ok (.getfield 69, 3) := by decide +kernel
theorem dX8_stands_5 : decode cX8_stands 5 = .ok (.iload_n 1, 1) := by decide +kernel
theorem dX8_stands_6 : decode cX8_stands 6 = .ok (.iaload, 1) := by decide +kernel
theorem dX8_stands_7 : decode cX8_stands 7 = .ok (.iadd, 1) := by decide +kernel
theorem dX8_stands_8 : decode cX8_stands 8 = .ok (.aload_n 0, 1) := by decide +kernel
theorem dX8_stands_9 : decode cX8_stands 9 = .ok (.getfield 179, 3) := by decide +kernel
theorem dX8_stands_12 : decode cX8_stands 12 = .ok (.if_icmp .gt 7, 3) := by decide +kernel
theorem dX8_stands_15 : decode cX8_stands 15 = .ok (.iconst 1, 1) := by decide +kernel
theorem dX8_stands_16 : decode cX8_stands 16 = .ok (.goto 4, 3) := by decide +kernel
theorem dX8_stands_19 : decode cX8_stands 19 = .ok (.iconst 0, 1) := by decide +kernel
theorem dX8_stands_20 : decode cX8_stands 20 = .ok (.istore_n 3, 1) := by decide +kernel
theorem dX8_stands_21 : decode cX8_stands 21 = .ok (.iconst 0, 1) := by decide +kernel
theorem dX8_stands_22 : decode cX8_stands 22 = .ok (.istore 4, 2) := by decide +kernel
theorem dX8_stands_24 : decode cX8_stands 24 = .ok (.iload 4, 2) := by decide +kernel
theorem dX8_stands_26 : decode cX8_stands 26 = .ok (.aload_n 0, 1) := by decide +kernel
theorem dX8_stands_27 : decode cX8_stands 27 = .ok (.getfield 69, 3) := by decide +kernel
theorem dX8_stands_30 : decode cX8_stands 30 = .ok (.iload_n 1, 1) := by decide +kernel
theorem dX8_stands_31 : decode cX8_stands 31 = .ok (.iaload, 1) := by decide +kernel
theorem dX8_stands_32 : decode cX8_stands 32 = .ok (.if_icmp .ge 42, 3) := by decide +kernel
theorem dX8_stands_35 : decode cX8_stands 35 = .ok (.iload_n 3, 1) := by decide +kernel
theorem dX8_stands_36 : decode cX8_stands 36 = .ok (.ifCond .eq 38, 3) := by decide +kernel
theorem dX8_stands_39 : decode cX8_stands 39 = .ok (.aload_n 0, 1) := by decide +kernel
theorem dX8_stands_40 : decode cX8_stands 40 = .ok (.getfield 60, 3) := by decide +kernel
theorem dX8_stands_43 : decode cX8_stands 43 = .ok (.iload_n 2, 1) := by decide +kernel
theorem dX8_stands_44 : decode cX8_stands 44 = .ok (.iload 4, 2) := by decide +kernel
theorem dX8_stands_46 : decode cX8_stands 46 = .ok (.iadd, 1) := by decide +kernel
theorem dX8_stands_47 : decode cX8_stands 47 = .ok (.iaload, 1) := by decide +kernel
theorem dX8_stands_48 : decode cX8_stands 48 = .ok (.aload_n 0, 1) := by decide +kernel
theorem dX8_stands_49 : decode cX8_stands 49 = .ok (.getfield 72, 3) := by decide +kernel
theorem dX8_stands_52 : decode cX8_stands 52 = .ok (.iconst 4, 1) := by decide +kernel
theorem dX8_stands_53 : decode cX8_stands 53 = .ok (.iload_n 1, 1) := by decide +kernel
theorem dX8_stands_54 : decode cX8_stands 54 = .ok (.imul, 1) := by decide +kernel
theorem dX8_stands_55 : decode cX8_stands 55 = .ok (.iload 4, 2) := by decide +kernel
theorem dX8_stands_57 : decode cX8_stands 57 = .ok (.iadd, 1) := by decide +kernel
theorem dX8_stands_58 : decode cX8_stands 58 = .ok (.iaload, 1) := by decide +kernel
theorem dX8_stands_59 : decode cX8_stands 59 = .ok (.if_icmp .ne 7, 3) := by decide +kernel
theorem dX8_stands_62 : decode cX8_stands 62 = .ok (.iconst 1, 1) := by decide +kernel
theorem dX8_stands_63 : decode cX8_stands 63 = .ok (.goto 4, 3) := by decide +kernel
theorem dX8_stands_66 : decode cX8_stands 66 = .ok (.iconst 0, 1) := by decide +kernel
theorem dX8_stands_67 : decode cX8_stands 67 = .ok (.istore_n 3, 1) := by decide +kernel
theorem dX8_stands_68 : decode cX8_stands 68 = .ok (.iinc 4 1, 3) := by decide +kernel
theorem dX8_stands_71 : decode cX8_stands 71 = .ok (.goto (-47), 3) := by decide +kernel
theorem dX8_stands_74 : decode cX8_stands 74 = .ok (.iload_n 3, 1) := by decide +kernel
theorem dX8_stands_75 : decode cX8_stands 75 = .ok (.ireturn, 1) := by decide +kernel
set_option maxRecDepth 20000 in
theorem ggX8_commandAt_X8_stands : GoodIn wsX8_commandAt wsX8_stands := goodIn_r _ [9, 3, 10, 11, 12, 13, 14, 15, 16, 17, 18, 19, 20, 21, 22, 23, 24, 25, 26, 27, 28, 29, 30, 31, 32, 33, 34, 35, 36, 37, 38, 39, 40, 41, 42, 43, 44] (by decide +kernel) (by decide +kernel)
set_option maxRecDepth 20000 in
theorem gX8_commandAt_X8_stands : GoodIn wsX8_commandAt (wsV RX8 191 RX8 yX8_stands wsX8_stands) := goodIn_app (goodIn_of _ (by decide +kernel)) ggX8_commandAt_X8_stands
theorem dX8_commandAt_0 : decode cX8_commandAt 0 = .ok (.bipush (-4), 2) := by decide +kernel
theorem dX8_commandAt_2 : decode cX8_commandAt 2 = .ok (.istore_n 3, 1) := by decide +kernel
theorem dX8_commandAt_3 : decode cX8_commandAt 3 = .ok (.iconst 0, 1) := by decide +kernel
theorem dX8_commandAt_4 : decode cX8_commandAt 4 = .ok (.istore 4, 2) := by decide +kernel
theorem dX8_commandAt_6 : decode cX8_commandAt 6 = .ok (.iload 4, 2) := by decide +kernel
theorem dX8_commandAt_8 : decode cX8_commandAt 8 = .ok (.aload_n 0, 1) := by decide +kernel
theorem dX8_commandAt_9 : decode cX8_commandAt 9 = .ok (.getfield 188, 3) := by decide +kernel
theorem dX8_commandAt_12 : decode cX8_commandAt 12 = .ok (.if_icmp .ge 97, 3) := by decide +kernel
theorem dX8_commandAt_15 : decode cX8_commandAt 15 = .ok (.aload_n 0, 1) := by decide +kernel
theorem dX8_commandAt_16 : decode cX8_commandAt 16 = .ok (.getfield 63, 3) := by decide +kernel
theorem dX8_commandAt_19 : decode cX8_commandAt 19 = .ok (.iload 4, 2) := by decide +kernel
theorem dX8_commandAt_21 : decode cX8_commandAt 21 = .ok (.iaload, 1) := by decide +kernel
theorem dX8_commandAt_22 : decode cX8_commandAt 22 = .ok (.iload_n 1, 1) := by decide +kernel
theorem dX8_commandAt_23 : decode cX8_commandAt 23 = .ok (.if_icmp .eq 13, 3) := by decide +kernel
theorem dX8_commandAt_26 : decode cX8_commandAt 26 = .ok (.aload_n 0, 1) := by decide +kernel
theorem dX8_commandAt_27 : decode cX8_commandAt 27 = .ok (.getfield 63, 3) := by decide +kernel
theorem dX8_commandAt_30 : decode cX8_commandAt 30 = .ok (.iload 4, 2) := by decide +kernel
theorem dX8_commandAt_32 : decode cX8_commandAt 32 = .ok (.iaload, 1) := by decide +kernel
theorem dX8_commandAt_33 : decode cX8_commandAt 33 = .ok (.ifCond .ne 70, 3) := by decide +kernel
theorem dX8_commandAt_36 : decode cX8_commandAt 36 = .ok (.aload_n 0, 1) := by decide +kernel
theorem dX8_commandAt_37 : decode cX8_commandAt 37 = .ok (.iload 4, 2) := by decide +kernel
theorem dX8_commandAt_39 : decode cX8_commandAt 39 = .ok (.iload_n 2, 1) := by decide +kernel
theorem dX8_commandAt_40 : decode cX8_commandAt 40 = .ok (.invokevirtual 191, 3) := by decide +kernel
theorem dX8_commandAt_43 : decode cX8_commandAt 43 = .ok (.ifCond .eq 60, 3) := by decide +kernel
theorem dX8_commandAt_46 : decode cX8_commandAt 46 = .ok (.iload_n 3, 1) := by decide +kernel
theorem dX8_commandAt_47 : decode cX8_commandAt 47 = .ok (.bipush (-4), 2) := by decide +kernel
theorem dX8_commandAt_49 : decode cX8_commandAt 49 = .ok (.if_icmp .eq 51, 3) := by decide +kernel
theorem dX8_commandAt_52 : decode cX8_commandAt 52 = .ok (.aload_n 0, 1) := by decide +kernel
theorem dX8_commandAt_53 : decode cX8_commandAt 53 = .ok (.getfield 69, 3) := by decide +kernel
theorem dX8_commandAt_56 : decode cX8_commandAt 56 = .ok (.iload 4, 2) := by decide +kernel
theorem dX8_commandAt_58 : decode cX8_commandAt 58 = .ok (.iaload, 1) := by decide +kernel
theorem dX8_commandAt_59 : decode cX8_commandAt 59 = .ok (.aload_n 0, 1) := by decide +kernel
theorem dX8_commandAt_60 : decode cX8_commandAt 60 = .ok (.getfield 69, 3) := by decide +kernel
theorem dX8_commandAt_63 : decode cX8_commandAt 63 = .ok (.iload_n 3, 1) := by decide +kernel
theorem dX8_commandAt_64 : decode cX8_commandAt 64 = .ok (.iaload, 1) := by decide +kernel
theorem dX8_commandAt_65 : decode cX8_commandAt 65 = .ok (.if_icmp .gt 35, 3) := by decide +kernel
theorem dX8_commandAt_68 : decode cX8_commandAt 68 = .ok (.aload_n 0, 1) := by decide +kernel
theorem dX8_commandAt_69 : decode cX8_commandAt 69 = .ok (.getfield 69, 3) := by decide +kernel
theorem dX8_commandAt_72 : decode cX8_commandAt 72 = .ok (.iload 4, 2) := by decide +kernel
theorem dX8_commandAt_74 : decode cX8_commandAt 74 = .ok (.iaload, 1) := by decide +kernel
theorem dX8_commandAt_75 : decode cX8_commandAt 75 = .ok (.aload_n 0, 1) := by decide +kernel
theorem dX8_commandAt_76 : decode cX8_commandAt 76 = .ok (.getfield 69, 3) := by decide +kernel
theorem dX8_commandAt_79 : decode cX8_commandAt 79 = .ok (.iload_n 3, 1) := by decide +kernel
theorem dX8_commandAt_80 : decode cX8_commandAt 80 = .ok (.iaload, 1) := by decide +kernel
theorem dX8_commandAt_81 : decode cX8_commandAt 81 = .ok (.if_icmp .ne 22, 3) := by decide +kernel
theorem dX8_commandAt_84 : decode cX8_commandAt 84 = .ok (.aload_n 0, 1) := by decide +kernel
theorem dX8_commandAt_85 : decode cX8_commandAt 85 = .ok (.getfield 66, 3) := by decide +kernel
theorem dX8_commandAt_88 : decode cX8_commandAt 88 = .ok (.iload 4, 2) := by decide +kernel
theorem dX8_commandAt_90 : decode cX8_commandAt 90 = .ok (.iaload, 1) := by decide +kernel
theorem dX8_commandAt_91 : decode cX8_commandAt 91 = .ok (.aload_n 0, 1) := by decide +kernel
theorem dX8_commandAt_92 : decode cX8_commandAt 92 = .ok (.getfield 66, 3) := by decide +kernel
theorem dX8_commandAt_95 : decode cX8_commandAt 95 = .ok (.iload_n 3, 1) := by decide +kernel
theorem dX8_commandAt_96 : decode cX8_commandAt 96 = .ok (.iaload, 1) := by decide +kernel
theorem dX8_commandAt_97 : decode cX8_commandAt 97 = .ok (.if_icmp .le 6, 3) := by decide +kernel
theorem dX8_commandAt_100 : decode cX8_commandAt 100 = .ok (.iload 4, 2) := by decide +kernel
theorem dX8_commandAt_102 : decode cX8_commandAt 102 = .ok (.istore_n 3, 1) := by decide +kernel
theorem dX8_commandAt_103 : decode cX8_commandAt 103 = .ok (.iinc 4 1, 3) := by decide +kernel
theorem dX8_commandAt_106 : decode cX8_commandAt 106 = .ok (.goto (-100), 3) := by decide +kernel
theorem dX8_commandAt_109 : decode cX8_commandAt 109 = .ok (.iload_n 3, 1) := by decide +kernel
theorem dX8_commandAt_110 : decode cX8_commandAt 110 = .ok (.ireturn, 1) := by decide +kernel
set_option maxRecDepth 20000 in
theorem ggX8_parsed_X8_commandAt : GoodIn wsX8_parsed wsX8_commandAt := goodIn_r _ [9, 10, 11, 4, 12, 13, 14, 15, 8, 16, 3, 17, 18, 19, 20, 21, 22, 23, 24, 25, 26, 27, 28, 29, 30, 31, 32, 33, 34, 35, 36, 37, 38, 39, 40, 41, 42, 43, 44, 45, 46, 47, 48, 49, 50] (by decide +kernel) (by decide +kernel)
set_option maxRecDepth 20000 in
theorem gX8_parsed_X8_commandAt : GoodIn wsX8_parsed (wsV RX8 201 RX8 yX8_commandAt wsX8_commandAt) := goodIn_app (goodIn_of _ (by decide +kernel)) ggX8_parsed_X8_commandAt
theorem dX8_parsed_0 : decode cX8_parsed 0 = .ok (.iconst 0, 1) := by decide +kernel
theorem dX8_parsed_1 : decode cX8_parsed 1 = .ok (.istore_n 3, 1) := by decide +kernel
theorem dX8_parsed_2 : decode cX8_parsed 2 = .ok (.iconst 0, 1) := by decide +kernel
theorem dX8_parsed_3 : decode cX8_parsed 3 = .ok (.istore 4, 2) := by decide +kernel
theorem dX8_parsed_5 : decode cX8_parsed 5 = .ok (.aload_n 0, 1) := by decide +kernel
theorem dX8_parsed_6 : decode cX8_parsed 6 = .ok (.bipush (-4), 2) := by decide +kernel
theorem dX8_parsed_8 : decode cX8_parsed 8 = .ok (.putfield 195, 3) := by decide +kernel
theorem dX8_parsed_11 : decode cX8_parsed 11 = .ok (.aload_n 0, 1) := by decide +kernel
theorem dX8_parsed_12 : decode cX8_parsed 12 = .ok (.bipush (-4), 2) := by decide +kernel
theorem dX8_parsed_14 : decode cX8_parsed 14 = .ok (.putfield 198, 3) := by decide +kernel
theorem dX8_parsed_17 : decode cX8_parsed 17 = .ok (.iload 4, 2) := by decide +kernel
theorem dX8_parsed_19 : decode cX8_parsed 19 = .ok (.aload_n 0, 1) := by decide +kernel
theorem dX8_parsed_20 : decode cX8_parsed 20 = .ok (.getfield 179, 3) := by decide +kernel
theorem dX8_parsed_23 : decode cX8_parsed 23 = .ok (.if_icmp .ge 60, 3) := by decide +kernel
theorem dX8_parsed_26 : decode cX8_parsed 26 = .ok (.aload_n 0, 1) := by decide +kernel
theorem dX8_parsed_27 : decode cX8_parsed 27 = .ok (.iload_n 1, 1) := by decide +kernel
theorem dX8_parsed_28 : decode cX8_parsed 28 = .ok (.iload 4, 2) := by decide +kernel
theorem dX8_parsed_30 : decode cX8_parsed 30 = .ok (.invokevirtual 201, 3) := by decide +kernel
theorem dX8_parsed_33 : decode cX8_parsed 33 = .ok (.istore 5, 2) := by decide +kernel
theorem dX8_parsed_35 : decode cX8_parsed 35 = .ok (.iload 5, 2) := by decide +kernel
theorem dX8_parsed_37 : decode cX8_parsed 37 = .ok (.bipush (-4), 2) := by decide +kernel
theorem dX8_parsed_39 : decode cX8_parsed 39 = .ok (.if_icmp .ne 9, 3) := by decide +kernel
theorem dX8_parsed_42 : decode cX8_parsed 42 = .ok (.iinc 4 1, 3) := by decide +kernel
theorem dX8_parsed_45 : decode cX8_parsed 45 = .ok (.goto 35, 3) := by decide +kernel
theorem dX8_parsed_48 : decode cX8_parsed 48 = .ok (.iload_n 3, 1) := by decide +kernel
theorem dX8_parsed_49 : decode cX8_parsed 49 = .ok (.iload_n 2, 1) := by decide +kernel
theorem dX8_parsed_50 : decode cX8_parsed 50 = .ok (.if_icmp .ne 15, 3) := by decide +kernel
theorem dX8_parsed_53 : decode cX8_parsed 53 = .ok (.aload_n 0, 1) := by decide +kernel
theorem dX8_parsed_54 : decode cX8_parsed 54 = .ok (.iload 5, 2) := by decide +kernel
theorem dX8_parsed_56 : decode cX8_parsed 56 = .ok (.putfield 195, 3) := by decide +kernel
theorem dX8_parsed_59 : decode cX8_parsed 59 = .ok (.aload_n 0, 1) := by decide +kernel
theorem dX8_parsed_60 : decode cX8_parsed 60 = .ok (.iload 4, 2) := by decide +kernel
theorem dX8_parsed_62 : decode cX8_parsed 62 = .ok (.putfield 198, 3) := by decide +kernel
theorem dX8_parsed_65 : decode cX8_parsed 65 = .ok (.iinc 3 1, 3) := by decide +kernel
theorem dX8_parsed_68 : decode cX8_parsed 68 = .ok (.iload 4, 2) := by decide +kernel
theorem dX8_parsed_70 : decode cX8_parsed 70 = .ok (.aload_n 0, 1) := by decide +kernel
theorem dX8_parsed_71 : decode cX8_parsed 71 = .ok (.getfield 69, 3) := by decide +kernel
theorem dX8_parsed_74 : decode cX8_parsed 74 = .ok (.iload 5, 2) := by decide +kernel
theorem dX8_parsed_76 : decode cX8_parsed 76 = .ok (.iaload, 1) := by decide +kernel
theorem dX8_parsed_77 : decode cX8_parsed 77 = .ok (.iadd, 1) := by decide +kernel
theorem dX8_parsed_78 : decode cX8_parsed 78 = .ok (.istore 4, 2) := by decide +kernel
theorem dX8_parsed_80 : decode cX8_parsed 80 = .ok (.goto (-63), 3) := by decide +kernel
theorem dX8_parsed_83 : decode cX8_parsed 83 = .ok (.iload_n 3, 1) := by decide +kernel
theorem dX8_parsed_84 : decode cX8_parsed 84 = .ok (.ireturn, 1) := by decide +kernel
set_option maxRecDepth 20000 in
theorem ggX8_parse_X8_in : GoodIn wsX8_parse wsX8_in := goodIn_r _ [5] (by decide +kernel) (by decide +kernel)
set_option maxRecDepth 20000 in
theorem gX8_parse_X8_in : GoodIn wsX8_parse (va_wsS RX8 88 yX8_in wsX8_in) := goodIn_app (goodIn_of _ (by decide +kernel)) ggX8_parse_X8_in
set_option maxRecDepth 20000 in
theorem ggX8_parse_X8_parsed : GoodIn wsX8_parse wsX8_parsed := goodIn_r _ [9, 10, 11, 12, 13, 14, 15, 16, 4, 17, 18, 19, 20, 21, 22, 23, 24, 25, 26, 27, 28, 29, 30, 31, 32, 33, 34, 35, 36, 37, 38, 39, 40, 41, 42, 43, 44, 45, 46, 47, 48, 49, 50, 51, 52, 53, 54, 55, 56, 57, 58] (by decide +kernel) (by decide +kernel)
set_option maxRecDepth 20000 in
theorem gX8_parse_X8_parsed : GoodIn wsX8_parse (wsV RX8 204 RX8 yX8_parsed wsX8_parsed) := goodIn_app (goodIn_of _ (by decide +kernel)) ggX8_parse_X8_parsed
theorem dX8_parse_0 : decode cX8_parse 0 = .ok (.iload_n 1, 1) := by decide +kernel
theorem dX8_parse_1 : decode cX8_parse 1 = .ok (.i2l, 1) := by decide +kernel
theorem dX8_parse_2 : decode cX8_parse 2 = .ok (.lconst 0, 1) := by decide +kernel
theorem dX8_parse_3 : decode cX8_parse 3 = .ok (.ldc2_w 186, 3) := by decide +kernel
theorem dX8_parse_6 : decode cX8_parse 6 = .ok (.invokestatic 88, 3) := by decide +kernel
theorem dX8_parse_9 : decode cX8_parse 9 = .ok (.ifCond .eq 13, 3) := by decide +kernel
theorem dX8_parse_12 : decode cX8_parse 12 = .ok (.aload_n 0, 1) := by decide +kernel
theorem dX8_parse_13 : decode cX8_parse 13 = .ok (.iload_n 1, 1) := by decide +kernel
theorem dX8_parse_14 : decode cX8_parse 14 = .ok (.bipush (-4), 2) := by decide +kernel
theorem dX8_parse_16 : decode cX8_parse 16 = .ok (.invokevirtual 204, 3) := by decide +kernel
theorem dX8_parse_19 : decode cX8_parse 19 = .ok (.goto 4, 3) := by decide +kernel
theorem dX8_parse_22 : decode cX8_parse 22 = .ok (.iconst (-1), 1) := by decide +kernel
theorem dX8_parse_23 : decode cX8_parse 23 = .ok (.ireturn, 1) := by decide +kernel
set_option maxRecDepth 20000 in
theorem ggX8_found_X8_in : GoodIn wsX8_found wsX8_in := goodIn_r _ [7] (by decide +kernel) (by decide +kernel)
set_option maxRecDepth 20000 in
theorem gX8_found_X8_in : GoodIn wsX8_found (va_wsS RX8 88 yX8_in wsX8_in) := goodIn_app (goodIn_of _ (by decide +kernel)) ggX8_found_X8_in
set_option maxRecDepth 20000 in
theorem ggX8_found_X8_parsed : GoodIn wsX8_found wsX8_parsed := goodIn_r _ [11, 2, 3, 12, 13, 14, 15, 16, 6, 17, 18, 19, 20, 21, 22, 23, 24, 25, 26, 27, 28, 29, 30, 31, 32, 33, 34, 35, 36, 37, 38, 39, 40, 41, 42, 43, 44, 45, 46, 47, 48, 49, 50, 51, 52, 53, 54, 55, 56, 57, 58] (by decide +kernel) (by decide +kernel)
set_option maxRecDepth 20000 in
theorem gX8_found_X8_parsed : GoodIn wsX8_found (wsV RX8 204 RX8 yX8_parsed wsX8_parsed) := goodIn_app (goodIn_of _ (by decide +kernel)) ggX8_found_X8_parsed
theorem dX8_found_0 : decode cX8_found 0 = .ok (.iload_n 1, 1) := by decide +kernel
theorem dX8_found_1 : decode cX8_found 1 = .ok (.i2l, 1) := by decide +kernel
theorem dX8_found_2 : decode cX8_found 2 = .ok (.lconst 0, 1) := by decide +kernel
theorem dX8_found_3 : decode cX8_found 3 = .ok (.ldc2_w 186, 3) := by decide +kernel
theorem dX8_found_6 : decode cX8_found 6 = .ok (.invokestatic 88, 3) := by decide +kernel
theorem dX8_found_9 : decode cX8_found 9 = .ok (.ifCond .eq 17, 3) := by decide +kernel
theorem dX8_found_12 : decode cX8_found 12 = .ok (.iload_n 2, 1) := by decide +kernel
theorem dX8_found_13 : decode cX8_found 13 = .ok (.ifCond .lt 13, 3) := by decide +kernel
theorem dX8_found_16 : decode cX8_found 16 = .ok (.iload_n 3, 1) := by decide +kernel
theorem dX8_found_17 : decode cX8_found 17 = .ok (.i2l, 1) := by decide +kernel
theorem dX8_found_18 : decode cX8_found 18 = .ok (.lconst 0, 1) := by decide +kernel
theorem dX8_found_19 : decode cX8_found 19 = .ok (.lconst 1, 1) := by decide +kernel
theorem dX8_found_20 : decode cX8_found 20 = .ok (.invokestatic 88, 3) := by decide +kernel
theorem dX8_found_23 : decode cX8_found 23 = .ok (.ifCond .ne 5, 3) := by decide +kernel
theorem dX8_found_26 : decode cX8_found 26 = .ok (.iconst (-1), 1) := by decide +kernel
theorem dX8_found_27 : decode cX8_found 27 = .ok (.ireturn, 1) := by decide +kernel
theorem dX8_found_28 : decode cX8_found 28 = .ok (.aload_n 0, 1) := by decide +kernel
theorem dX8_found_29 : decode cX8_found 29 = .ok (.iload_n 1, 1) := by decide +kernel
theorem dX8_found_30 : decode cX8_found 30 = .ok (.iload_n 2, 1) := by decide +kernel
theorem dX8_found_31 : decode cX8_found 31 = .ok (.invokevirtual 204, 3) := by decide +kernel
theorem dX8_found_34 : decode cX8_found 34 = .ok (.pop, 1) := by decide +kernel
theorem dX8_found_35 : decode cX8_found 35 = .ok (.iload_n 3, 1) := by decide +kernel
theorem dX8_found_36 : decode cX8_found 36 = .ok (.ifCond .ne 10, 3) := by decide +kernel
theorem dX8_found_39 : decode cX8_found 39 = .ok (.aload_n 0, 1) := by decide +kernel
theorem dX8_found_40 : decode cX8_found 40 = .ok (.getfield 195, 3) := by decide +kernel
theorem dX8_found_43 : decode cX8_found 43 = .ok (.goto 7, 3) := by decide +kernel
theorem dX8_found_46 : decode cX8_found 46 = .ok (.aload_n 0, 1) := by decide +kernel
theorem dX8_found_47 : decode cX8_found 47 = .ok (.getfield 198, 3) := by decide +kernel
theorem dX8_found_50 : decode cX8_found 50 = .ok (.ireturn, 1) := by decide +kernel
theorem dX8_isHidden_0 : decode cX8_isHidden 0 = .ok (.iload_n 1, 1) := by decide +kernel
theorem dX8_isHidden_1 : decode cX8_isHidden 1 = .ok (.iload_n 2, 1) := by decide +kernel
theorem dX8_isHidden_2 : decode cX8_isHidden 2 = .ok (.if_icmp .eq 46, 3) := by decide +kernel
theorem dX8_isHidden_5 : decode cX8_isHidden 5 = .ok (.aload_n 0, 1) := by decide +kernel
theorem dX8_isHidden_6 : decode cX8_isHidden 6 = .ok (.getfield 69, 3) := by decide +kernel
theorem dX8_isHidden_9 : decode cX8_isHidden 9 = .ok (.iload_n 1, 1) := by decide +kernel
theorem dX8_isHidden_10 : decode cX8_isHidden 10 = .ok (.iaload, 1) := by decide +kernel
theorem dX8_isHidden_11 : decode cX8_isHidden 11 = .ok (.aload_n 0, 1) := by decide +kernel
theorem dX8_isHidden_12 : decode cX8_isHidden 12 = .ok (.getfield 69, 3) := by decide +kernel
theorem dX8_isHidden_15 : decode cX8_isHidden 15 = .ok (.iload_n 2, 1) := by decide +kernel
theorem dX8_isHidden_16 : decode cX8_isHidden 16 = .ok (.iaload, 1) := by decide +kernel
theorem dX8_isHidden_17 : decode cX8_isHidden 17 = .ok (.if_icmp .ne 31, 3) := by decide +kernel
theorem dX8_isHidden_20 : decode cX8_isHidden 20 = .ok (.aload_n 0, 1) := by decide +kernel
theorem dX8_isHidden_21 : decode cX8_isHidden 21 = .ok (.getfield 63, 3) := by decide +kernel
theorem dX8_isHidden_24 : decode cX8_isHidden 24 = .ok (.iload_n 2, 1) := by decide +kernel
theorem dX8_isHidden_25 : decode cX8_isHidden 25 = .ok (.iaload, 1) := by decide +kernel
theorem dX8_isHidden_26 : decode cX8_isHidden 26 = .ok (.aload_n 0, 1) := by decide +kernel
theorem dX8_isHidden_27 : decode cX8_isHidden 27 = .ok (.getfield 63, 3) := by decide +kernel
theorem dX8_isHidden_30 : decode cX8_isHidden 30 = .ok (.iload_n 1, 1) := by decide +kernel
theorem dX8_isHidden_31 : decode cX8_isHidden 31 = .ok (.iaload, 1) := by decide +kernel
theorem dX8_isHidden_32 : decode cX8_isHidden 32 = .ok (.if_icmp .eq 12, 3) := by decide +kernel
theorem dX8_isHidden_35 : decode cX8_isHidden 35 = .ok (.aload_n 0, 1) := by decide +kernel
theorem dX8_isHidden_36 : decode cX8_isHidden 36 = .ok (.getfield 63, 3) := by decide +kernel
theorem dX8_isHidden_39 : decode cX8_isHidden 39 = .ok (.iload_n 2, 1) := by decide +kernel
theorem dX8_isHidden_40 : decode cX8_isHidden 40 = .ok (.iaload, 1) := by decide +kernel
theorem dX8_isHidden_41 : decode cX8_isHidden 41 = .ok (.ifCond .ne 7, 3) := by decide +kernel
theorem dX8_isHidden_44 : decode cX8_isHidden 44 = .ok (.iconst 1, 1) := by decide +kernel
theorem dX8_isHidden_45 : decode cX8_isHidden 45 = .ok (.goto 4, 3) := by decide +kernel
theorem dX8_isHidden_48 : decode cX8_isHidden 48 = .ok (.iconst 0, 1) := by decide +kernel
theorem dX8_isHidden_49 : decode cX8_isHidden 49 = .ok (.istore_n 3, 1) := by decide +kernel
theorem dX8_isHidden_50 : decode cX8_isHidden 50 = .ok (.iconst 0, 1) := by decide +kernel
theorem dX8_isHidden_51 : decode cX8_isHidden 51 = .ok (.istore 4, 2) := by decide +kernel
theorem dX8_isHidden_53 : decode cX8_isHidden 53 = .ok (.iload 4, 2) := by decide +kernel
theorem dX8_isHidden_55 : decode cX8_isHidden 55 = .ok (.iconst 4, 1) := by decide +kernel
theorem dX8_isHidden_56 : decode cX8_isHidden 56 = .ok (.if_icmp .ge 44, 3) := by decide +kernel
theorem dX8_isHidden_59 : decode cX8_isHidden 59 = .ok (.iload_n 3, 1) := by decide +kernel
theorem dX8_isHidden_60 : decode cX8_isHidden 60 = .ok (.ifCond .eq 32, 3) := by decide +kernel
theorem dX8_isHidden_63 : decode cX8_isHidden 63 = .ok (.aload_n 0, 1) := by decide +kernel
theorem dX8_isHidden_64 : decode cX8_isHidden 64 = .ok (.getfield 72, 3) := by decide +kernel
theorem dX8_isHidden_67 : decode cX8_isHidden 67 = .ok (.iconst 4, 1) := by decide +kernel
theorem dX8_isHidden_68 : decode cX8_isHidden 68 = .ok (.iload_n 1, 1) := by decide +kernel
theorem dX8_isHidden_69 : decode cX8_isHidden 69 = .ok (.imul, 1) := by decide +kernel
theorem dX8_isHidden_70 : decode cX8_isHidden 70 = .ok (.iload 4, 2) := by decide +kernel
theorem dX8_isHidden_72 : decode cX8_isHidden 72 = .ok (.iadd, 1) := by decide +kernel
theorem dX8_isHidden_73 : decode cX8_isHidden 73 = .ok (.iaload, 1) := by decide +kernel
theorem dX8_isHidden_74 : decode cX8_isHidden 74 = .ok (.aload_n 0, 1) := by decide +kernel
theorem dX8_isHidden_75 : decode cX8_isHidden 75 = .ok (.getfield 72, 3) := by decide +kernel
theorem dX8_isHidden_78 : decode cX8_isHidden 78 = .ok (.iconst 4, 1) := by decide +kernel
theorem dX8_isHidden_79 : decode cX8_isHidden 79 = .ok (.iload_n 2, 1) := by decide +kernel
theorem dX8_isHidden_80 : decode cX8_isHidden 80 = .ok (.imul, 1) := by decide +kernel
theorem dX8_isHidden_81 : decode cX8_isHidden 81 = .ok (.iload 4, 2) := by decide +kernel
theorem dX8_isHidden_83 : decode cX8_isHidden 83 = .ok (.iadd, 1) := by decide +kernel
theorem dX8_isHidden_84 : decode cX8_isHidden 84 = .ok (.iaload, 1) := by decide +kernel
theorem dX8_isHidden_85 : decode cX8_isHidden 85 = .ok (.if_icmp .ne 7, 3) := by decide +kernel
theorem dX8_isHidden_88 : decode cX8_isHidden 88 = .ok (.iconst 1, 1) := by decide +kernel
theorem dX8_isHidden_89 : decode cX8_isHidden 89 = .ok (.goto 4, 3) := by decide +kernel
theorem dX8_isHidden_92 : decode cX8_isHidden 92 = .ok (.iconst 0, 1) := by decide +kernel
theorem dX8_isHidden_93 : decode cX8_isHidden 93 = .ok (.istore_n 3, 1) := by decide +kernel
theorem dX8_isHidden_94 : decode cX8_isHidden 94 = .ok (.iinc 4 1, 3) := by decide +kernel
theorem dX8_isHidden_97 : decode cX8_isHidden 97 = .ok (.goto (-44), 3) := by decide +kernel
theorem dX8_isHidden_100 : decode cX8_isHidden 100 = .ok (.iload_n 3, 1) := by decide +kernel
theorem dX8_isHidden_101 : decode cX8_isHidden 101 = .ok (.ifCond .eq 42, 3) := by decide +kernel
theorem dX8_isHidden_104 : decode cX8_isHidden 104 = .ok (.aload_n 0, 1) := by decide +kernel
theorem dX8_isHidden_105 : decode cX8_isHidden 105 = .ok (.getfield 66, 3) := by decide +kernel
theorem dX8_isHidden_108 : decode cX8_isHidden 108 = .ok (.iload_n 2, 1) := by decide +kernel
theorem dX8_isHidden_109 : decode cX8_isHidden 109 = .ok (.iaload, 1) := by decide +kernel
theorem dX8_isHidden_110 : decode cX8_isHidden 110 = .ok (.aload_n 0, 1) := by decide +kernel
theorem dX8_isHidden_111 : decode cX8_isHidden 111 = .ok (.getfield 66, 3) := by decide +kernel
theorem dX8_isHidden_114 : decode cX8_isHidden 114 = .ok (.iload_n 1, 1) := by decide +kernel
theorem dX8_isHidden_115 : decode cX8_isHidden 115 = .ok (.iaload, 1) := by decide +kernel
theorem dX8_isHidden_116 : decode cX8_isHidden 116 = .ok (.if_icmp .gt 23, 3) := by decide +kernel
theorem dX8_isHidden_119 : decode cX8_isHidden 119 = .ok (.aload_n 0, 1) := by decide +kernel
theorem dX8_isHidden_120 : decode cX8_isHidden 120 = .ok (.getfield 66, 3) := by decide +kernel
theorem dX8_isHidden_123 : decode cX8_isHidden 123 = .ok (.iload_n 2, 1) := by decide +kernel
theorem dX8_isHidden_124 : decode cX8_isHidden 124 = .ok (.iaload, 1) := by decide +kernel
theorem dX8_isHidden_125 : decode cX8_isHidden 125 = .ok (.aload_n 0, 1) := by decide +kernel
theorem dX8_isHidden_126 : decode cX8_isHidden 126 = .ok (.getfield 66, 3) := by decide +kernel
theorem dX8_isHidden_129 : decode cX8_isHidden 129 = .ok (.iload_n 1, 1) := by decide +kernel
theorem dX8_isHidden_130 : decode cX8_isHidden 130 = .ok (.iaload, 1) := by decide +kernel
theorem dX8_isHidden_131 : decode cX8_isHidden 131 = .ok (.if_icmp .ne 12, 3) := by decide +kernel
theorem dX8_isHidden_134 : decode cX8_isHidden 134 = .ok (.iload_n 2, 1) := by decide +kernel
theorem dX8_isHidden_135 : decode cX8_isHidden 135 = .ok (.iload_n 1, 1) := by decide +kernel
theorem dX8_isHidden_136 : decode cX8_isHidden 136 = .ok (.if_icmp .ge 7, 3) := by decide +kernel
theorem dX8_isHidden_139 : decode cX8_isHidden 139 = .ok (.iconst 1, 1) := by decide +kernel
theorem dX8_isHidden_140 : decode cX8_isHidden 140 = .ok (.goto 4, 3) := by decide +kernel
theorem dX8_isHidden_143 : decode cX8_isHidden 143 = .ok (.iconst 0, 1) := by decide +kernel
theorem dX8_isHidden_144 : decode cX8_isHidden 144 = .ok (.ireturn, 1) := by decide +kernel
set_option maxRecDepth 20000 in
theorem ggX8_hidden_X8_isHidden : GoodIn wsX8_hidden wsX8_isHidden := goodIn_r _ [6, 7, 8, 9, 10, 11, 12, 13, 14, 15, 16, 17, 18, 19, 20, 21, 22, 23, 24, 25, 26, 27, 28, 29, 30, 31, 32, 33, 34, 35, 36, 37, 38, 39, 40, 41, 42] (by decide +kernel) (by decide +kernel)
set_option maxRecDepth 20000 in
theorem gX8_hidden_X8_isHidden : GoodIn wsX8_hidden (wsV RX8 207 RX8 yX8_isHidden wsX8_isHidden) := goodIn_app (goodIn_of _ (by decide +kernel)) ggX8_hidden_X8_isHidden
theorem dX8_hidden_0 : decode cX8_hidden 0 = .ok (.iconst 0, 1) := by decide +kernel
theorem dX8_hidden_1 : decode cX8_hidden 1 = .ok (.istore_n 1, 1) := by decide +kernel
theorem dX8_hidden_2 : decode cX8_hidden 2 = .ok (.iload_n 1, 1) := by decide +kernel
theorem dX8_hidden_3 : decode cX8_hidden 3 = .ok (.aload_n 0, 1) := by decide +kernel
theorem dX8_hidden_4 : decode cX8_hidden 4 = .ok (.getfield 188, 3) := by decide +kernel
theorem dX8_hidden_7 : decode cX8_hidden 7 = .ok (.if_icmp .ge 36, 3) := by decide +kernel
theorem dX8_hidden_10 : decode cX8_hidden 10 = .ok (.iconst 0, 1) := by decide +kernel
theorem dX8_hidden_11 : decode cX8_hidden 11 = .ok (.istore_n 2, 1) := by decide +kernel
theorem dX8_hidden_12 : decode cX8_hidden 12 = .ok (.iload_n 2, 1) := by decide +kernel
theorem dX8_hidden_13 : decode cX8_hidden 13 = .ok (.aload_n 0, 1) := by decide +kernel
theorem dX8_hidden_14 : decode cX8_hidden 14 = .ok (.getfield 188, 3) := by decide +kernel
theorem dX8_hidden_17 : decode cX8_hidden 17 = .ok (.if_icmp .ge 20, 3) := by decide +kernel
theorem dX8_hidden_20 : decode cX8_hidden 20 = .ok (.aload_n 0, 1) := by decide +kernel
theorem dX8_hidden_21 : decode cX8_hidden 21 = .ok (.iload_n 1, 1) := by decide +kernel
theorem dX8_hidden_22 : decode cX8_hidden 22 = .ok (.iload_n 2, 1) := by decide +kernel
theorem dX8_hidden_23 : decode cX8_hidden 23 = .ok (.invokevirtual 207, 3) := by decide +kernel
theorem dX8_hidden_26 : decode cX8_hidden 26 = .ok (.ifCond .eq 5, 3) := by decide +kernel
theorem dX8_hidden_29 : decode cX8_hidden 29 = .ok (.iload_n 1, 1) := by decide +kernel
theorem dX8_hidden_30 : decode cX8_hidden 30 = .ok (.ireturn, 1) := by decide +kernel
theorem dX8_hidden_31 : decode cX8_hidden 31 = .ok (.iinc 2 1, 3) := by decide +kernel
theorem dX8_hidden_34 : decode cX8_hidden 34 = .ok (.goto (-22), 3) := by decide +kernel
theorem dX8_hidden_37 : decode cX8_hidden 37 = .ok (.iinc 1 1, 3) := by decide +kernel
theorem dX8_hidden_40 : decode cX8_hidden 40 = .ok (.goto (-38), 3) := by decide +kernel
theorem dX8_hidden_43 : decode cX8_hidden 43 = .ok (.bipush (-4), 2) := by decide +kernel
theorem dX8_hidden_45 : decode cX8_hidden 45 = .ok (.ireturn, 1) := by decide +kernel
set_option maxRecDepth 20000 in
theorem ggX8_line_X8_in : GoodIn wsX8_line wsX8_in := goodIn_r _ [6] (by decide +kernel) (by decide +kernel)
set_option maxRecDepth 20000 in
theorem gX8_line_X8_in : GoodIn wsX8_line (va_wsS RX8 88 yX8_in wsX8_in) := goodIn_app (goodIn_of _ (by decide +kernel)) ggX8_line_X8_in
theorem dX8_line_0 : decode cX8_line 0 = .ok (.iload_n 1, 1) := by decide +kernel
theorem dX8_line_1 : decode cX8_line 1 = .ok (.i2l, 1) := by decide +kernel
theorem dX8_line_2 : decode cX8_line 2 = .ok (.lconst 0, 1) := by decide +kernel
theorem dX8_line_3 : decode cX8_line 3 = .ok (.aload_n 0, 1) := by decide +kernel
theorem dX8_line_4 : decode cX8_line 4 = .ok (.getfield 179, 3) := by decide +kernel
theorem dX8_line_7 : decode cX8_line 7 = .ok (.iconst 1, 1) := by decide +kernel
theorem dX8_line_8 : decode cX8_line 8 = .ok (.isub, 1) := by decide +kernel
theorem dX8_line_9 : decode cX8_line 9 = .ok (.i2l, 1) := by decide +kernel
theorem dX8_line_10 : decode cX8_line 10 = .ok (.invokestatic 88, 3) := by decide +kernel
theorem dX8_line_13 : decode cX8_line 13 = .ok (.ifCond .eq 12, 3) := by decide +kernel
theorem dX8_line_16 : decode cX8_line 16 = .ok (.aload_n 0, 1) := by decide +kernel
theorem dX8_line_17 : decode cX8_line 17 = .ok (.getfield 60, 3) := by decide +kernel
theorem dX8_line_20 : decode cX8_line 20 = .ok (.iload_n 1, 1) := by decide +kernel
theorem dX8_line_21 : decode cX8_line 21 = .ok (.iaload, 1) := by decide +kernel
theorem dX8_line_22 : decode cX8_line 22 = .ok (.goto 4, 3) := by decide +kernel
theorem dX8_line_25 : decode cX8_line 25 = .ok (.iconst (-1), 1) := by decide +kernel
theorem dX8_line_26 : decode cX8_line 26 = .ok (.ireturn, 1) := by decide +kernel
theorem dX8_wipe_0 : decode cX8_wipe 0 = .ok (.aload_n 0, 1) := by decide +kernel
theorem dX8_wipe_1 : decode cX8_wipe 1 = .ok (.getfield 179, 3) := by decide +kernel
theorem dX8_wipe_4 : decode cX8_wipe 4 = .ok (.istore_n 1, 1) := by decide +kernel
theorem dX8_wipe_5 : decode cX8_wipe 5 = .ok (.aload_n 0, 1) := by decide +kernel
theorem dX8_wipe_6 : decode cX8_wipe 6 = .ok (.iconst 0, 1) := by decide +kernel
theorem dX8_wipe_7 : decode cX8_wipe 7 = .ok (.putfield 179, 3) := by decide +kernel
theorem dX8_wipe_10 : decode cX8_wipe 10 = .ok (.iload_n 1, 1) := by decide +kernel
theorem dX8_wipe_11 : decode cX8_wipe 11 = .ok (.ireturn, 1) := by decide +kernel
set_option maxRecDepth 20000 in
theorem ggX8_isSheet_X8_in : GoodIn wsX8_isSheet wsX8_in := goodIn_r _ [6] (by decide +kernel) (by decide +kernel)
set_option maxRecDepth 20000 in
theorem gX8_isSheet_X8_in : GoodIn wsX8_isSheet (va_wsS RX8 88 yX8_in wsX8_in) := goodIn_app (goodIn_of _ (by decide +kernel)) ggX8_isSheet_X8_in
theorem dX8_isSheet_0 : decode cX8_isSheet 0 = .ok (.iload_n 0, 1) := by decide +kernel
theorem dX8_isSheet_1 : decode cX8_isSheet 1 = .ok (.i2l, 1) := by decide +kernel
theorem dX8_isSheet_2 : decode cX8_isSheet 2 = .ok (.lconst 0, 1) := by decide +kernel
theorem dX8_isSheet_3 : decode cX8_isSheet 3 = .ok (.ldc2_w 186, 3) := by decide +kernel
theorem dX8_isSheet_6 : decode cX8_isSheet 6 = .ok (.invokestatic 88, 3) := by decide +kernel
theorem dX8_isSheet_9 : decode cX8_isSheet 9 = .ok (.ifCond .eq 19, 3) := by decide +kernel
theorem dX8_isSheet_12 : decode cX8_isSheet 12 = .ok (.iload_n 1, 1) := by decide +kernel
theorem dX8_isSheet_13 : decode cX8_isSheet 13 = .ok (.i2l, 1) := by decide +kernel
theorem dX8_isSheet_14 : decode cX8_isSheet 14 = .ok (.lconst 0, 1) := by decide +kernel
theorem dX8_isSheet_15 : decode cX8_isSheet 15 = .ok (.ldc2_w 113, 3) := by decide +kernel
theorem dX8_isSheet_18 : decode cX8_isSheet 18 = .ok (.invokestatic 88, 3) := by decide +kernel
theorem dX8_isSheet_21 : decode cX8_isSheet 21 = .ok (.ifCond .eq 7, 3) := by decide +kernel
theorem dX8_isSheet_24 : decode cX8_isSheet 24 = .ok (.iconst 1, 1) := by decide +kernel
theorem dX8_isSheet_25 : decode cX8_isSheet 25 = .ok (.goto 4, 3) := by decide +kernel
theorem dX8_isSheet_28 : decode cX8_isSheet 28 = .ok (.iconst 0, 1) := by decide +kernel
theorem dX8_isSheet_29 : decode cX8_isSheet 29 = .ok (.ireturn, 1) := by decide +kernel
set_option maxRecDepth 20000 in
theorem ggX8_sheet_X8_isSheet : GoodIn wsX8_sheet wsX8_isSheet := goodIn_r _ [7, 8, 9, 10, 11, 6, 12] (by decide +kernel) (by decide +kernel)
set_option maxRecDepth 20000 in
theorem gX8_sheet_X8_isSheet : GoodIn wsX8_sheet (va_wsS RX8 210 yX8_isSheet wsX8_isSheet) := goodIn_app (goodIn_of _ (by decide +kernel)) ggX8_sheet_X8_isSheet
theorem dX8_sheet_0 : decode cX8_sheet 0 = .ok (.iload_n 1, 1) := by decide +kernel
theorem dX8_sheet_1 : decode cX8_sheet 1 = .ok (.iload_n 2, 1) := by decide +kernel
theorem dX8_sheet_2 : decode cX8_sheet 2 = .ok (.invokestatic 210, 3) := by decide +kernel
theorem dX8_sheet_5 : decode cX8_sheet 5 = .ok (.ifCond .eq 9, 3) := by decide +kernel
theorem dX8_sheet_8 : decode cX8_sheet 8 = .ok (.iload_n 3, 1) := by decide +kernel
theorem dX8_sheet_9 : decode cX8_sheet 9 = .ok (.bipush 60, 2) := by decide +kernel
theorem dX8_sheet_11 : decode cX8_sheet 11 = .ok (.if_icmp .le 5, 3) := by decide +kernel
theorem dX8_sheet_14 : decode cX8_sheet 14 = .ok (.iconst (-1), 1) := by decide +kernel
theorem dX8_sheet_15 : decode cX8_sheet 15 = .ok (.ireturn, 1) := by decide +kernel
theorem dX8_sheet_16 : decode cX8_sheet 16 = .ok (.iload_n 3, 1) := by decide +kernel
theorem dX8_sheet_17 : decode cX8_sheet 17 = .ok (.ifCond .ge 6, 3) := by decide +kernel
theorem dX8_sheet_20 : decode cX8_sheet 20 = .ok (.bipush (-14), 2) := by decide +kernel
theorem dX8_sheet_22 : decode cX8_sheet 22 = .ok (.ireturn, 1) := by decide +kernel
theorem dX8_sheet_23 : decode cX8_sheet 23 = .ok (.aload_n 0, 1) := by decide +kernel
theorem dX8_sheet_24 : decode cX8_sheet 24 = .ok (.getfield 75, 3) := by decide +kernel
theorem dX8_sheet_27 : decode cX8_sheet 27 = .ok (.iload_n 1, 1) := by decide +kernel
theorem dX8_sheet_28 : decode cX8_sheet 28 = .ok (.iload_n 2, 1) := by decide +kernel
theorem dX8_sheet_29 : decode cX8_sheet 29 = .ok (.iastore, 1) := by decide +kernel
theorem dX8_sheet_30 : decode cX8_sheet 30 = .ok (.aload_n 0, 1) := by decide +kernel
theorem dX8_sheet_31 : decode cX8_sheet 31 = .ok (.getfield 78, 3) := by decide +kernel
theorem dX8_sheet_34 : decode cX8_sheet 34 = .ok (.iload_n 1, 1) := by decide +kernel
theorem dX8_sheet_35 : decode cX8_sheet 35 = .ok (.iload_n 3, 1) := by decide +kernel
theorem dX8_sheet_36 : decode cX8_sheet 36 = .ok (.iastore, 1) := by decide +kernel
theorem dX8_sheet_37 : decode cX8_sheet 37 = .ok (.iconst 0, 1) := by decide +kernel
theorem dX8_sheet_38 : decode cX8_sheet 38 = .ok (.istore 4, 2) := by decide +kernel
theorem dX8_sheet_40 : decode cX8_sheet 40 = .ok (.iload 4, 2) := by decide +kernel
theorem dX8_sheet_42 : decode cX8_sheet 42 = .ok (.bipush 60, 2) := by decide +kernel
theorem dX8_sheet_44 : decode cX8_sheet 44 = .ok (.if_icmp .ge 22, 3) := by decide +kernel
theorem dX8_sheet_47 : decode cX8_sheet 47 = .ok (.aload_n 0, 1) := by decide +kernel
theorem dX8_sheet_48 : decode cX8_sheet 48 = .ok (.getfield 81, 3) := by decide +kernel
theorem dX8_sheet_51 : decode cX8_sheet 51 = .ok (.bipush 60, 2) := by decide +kernel
theorem dX8_sheet_53 : decode cX8_sheet 53 = .ok (.iload_n 1, 1) := by decide +kernel
theorem dX8_sheet_54 : decode cX8_sheet 54 = .ok (.imul, 1) := by decide +kernel
theorem dX8_sheet_55 : decode cX8_sheet 55 = .ok (.iload 4, 2) := by decide +kernel
theorem dX8_sheet_57 : decode cX8_sheet 57 = .ok (.iadd, 1) := by decide +kernel
theorem dX8_sheet_58 : decode cX8_sheet 58 = .ok (.iconst 0, 1) := by decide +kernel
theorem dX8_sheet_59 : decode cX8_sheet 59 = .ok (.iastore, 1) := by decide +kernel
theorem dX8_sheet_60 : decode cX8_sheet 60 = .ok (.iinc 4 1, 3) := by decide +kernel
theorem dX8_sheet_63 : decode cX8_sheet 63 = .ok (.goto (-23), 3) := by decide +kernel
theorem dX8_sheet_66 : decode cX8_sheet 66 = .ok (.iconst 1, 1) := by decide +kernel
theorem dX8_sheet_67 : decode cX8_sheet 67 = .ok (.ireturn, 1) := by decide +kernel
set_option maxRecDepth 20000 in
theorem ggX8_lay_X8_isSheet : GoodIn wsX8_lay wsX8_isSheet := goodIn_r _ [7, 8, 9, 10, 11, 6, 12] (by decide +kernel) (by decide +kernel)
set_option maxRecDepth 20000 in
theorem gX8_lay_X8_isSheet : GoodIn wsX8_lay (va_wsS RX8 210 yX8_isSheet wsX8_isSheet) := goodIn_app (goodIn_of _ (by decide +kernel)) ggX8_lay_X8_isSheet
set_option maxRecDepth 20000 in
theorem ggX8_lay_X8_in : GoodIn wsX8_lay wsX8_in := goodIn_r _ [12] (by decide +kernel) (by decide +kernel)
set_option maxRecDepth 20000 in
theorem gX8_lay_X8_in : GoodIn wsX8_lay (va_wsS RX8 88 yX8_in wsX8_in) := goodIn_app (goodIn_of _ (by decide +kernel)) ggX8_lay_X8_in
theorem dX8_lay_0 : decode cX8_lay 0 = .ok (.iload_n 1, 1) := by decide +kernel
theorem dX8_lay_1 : decode cX8_lay 1 = .ok (.iconst 0, 1) := by decide +kernel
theorem dX8_lay_2 : decode cX8_lay 2 = .ok (.invokestatic 210, 3) := by decide +kernel
theorem dX8_lay_5 : decode cX8_lay 5 = .ok (.ifCond .ne 5, 3) := by decide +kernel
theorem dX8_lay_8 : decode cX8_lay 8 = .ok (.iconst (-1), 1) := by decide +kernel
theorem dX8_lay_9 : decode cX8_lay 9 = .ok (.ireturn, 1) := by decide +kernel
theorem dX8_lay_10 : decode cX8_lay 10 = .ok (.aload_n 0, 1) := by decide +kernel
theorem dX8_lay_11 : decode cX8_lay 11 = .ok (.getfield 75, 3) := by decide +kernel
theorem dX8_lay_14 : decode cX8_lay 14 = .ok (.iload_n 1, 1) := by decide +kernel
theorem dX8_lay_15 : decode cX8_lay 15 = .ok (.iaload, 1) := by decide +kernel
theorem dX8_lay_16 : decode cX8_lay 16 = .ok (.bipush (-4), 2) := by decide +kernel
theorem dX8_lay_18 : decode cX8_lay 18 = .ok (.if_icmp .ne 6, 3) := by decide +kernel
theorem dX8_lay_21 : decode cX8_lay 21 = .ok (.bipush (-11), 2) := by decide +kernel
theorem dX8_lay_23 : decode cX8_lay 23 = .ok (.ireturn, 1) := by decide +kernel
theorem dX8_lay_24 : decode cX8_lay 24 = .ok (.iload_n 2, 1) := by decide +kernel
theorem dX8_lay_25 : decode cX8_lay 25 = .ok (.i2l, 1) := by decide +kernel
theorem dX8_lay_26 : decode cX8_lay 26 = .ok (.lconst 0, 1) := by decide +kernel
theorem dX8_lay_27 : decode cX8_lay 27 = .ok (.aload_n 0, 1) := by decide +kernel
theorem dX8_lay_28 : decode cX8_lay 28 = .ok (.getfield 78, 3) := by decide +kernel
theorem dX8_lay_31 : decode cX8_lay 31 = .ok (.iload_n 1, 1) := by decide +kernel
theorem dX8_lay_32 : decode cX8_lay 32 = .ok (.iaload, 1) := by decide +kernel
theorem dX8_lay_33 : decode cX8_lay 33 = .ok (.iconst 1, 1) := by decide +kernel
theorem dX8_lay_34 : decode cX8_lay 34 = .ok (.isub, 1) := by decide +kernel
theorem dX8_lay_35 : decode cX8_lay 35 = .ok (.i2l, 1) := by decide +kernel
theorem dX8_lay_36 : decode cX8_lay 36 = .ok (.invokestatic 88, 3) := by decide +kernel
theorem dX8_lay_39 : decode cX8_lay 39 = .ok (.ifCond .ne 6, 3) := by decide +kernel
theorem dX8_lay_42 : decode cX8_lay 42 = .ok (.bipush (-12), 2) := by decide +kernel
theorem dX8_lay_44 : decode cX8_lay 44 = .ok (.ireturn, 1) := by decide +kernel
theorem dX8_lay_45 : decode cX8_lay 45 = .ok (.aload_n 0, 1) := by decide +kernel
theorem dX8_lay_46 : decode cX8_lay 46 = .ok (.getfield 81, 3) := by decide +kernel
theorem dX8_lay_49 : decode cX8_lay 49 = .ok (.bipush 60, 2) := by decide +kernel
theorem dX8_lay_51 : decode cX8_lay 51 = .ok (.iload_n 1, 1) := by decide +kernel
theorem dX8_lay_52 : decode cX8_lay 52 = .ok (.imul, 1) := by decide +kernel
theorem dX8_lay_53 : decode cX8_lay 53 = .ok (.iload_n 2, 1) := by decide +kernel
theorem dX8_lay_54 : decode cX8_lay 54 = .ok (.iadd, 1) := by decide +kernel
theorem dX8_lay_55 : decode cX8_lay 55 = .ok (.aload_n 0, 1) := by decide +kernel
theorem dX8_lay_56 : decode cX8_lay 56 = .ok (.getfield 75, 3) := by decide +kernel
theorem dX8_lay_59 : decode cX8_lay 59 = .ok (.iload_n 1, 1) := by decide +kernel
theorem dX8_lay_60 : decode cX8_lay 60 = .ok (.iaload, 1) := by decide +kernel
theorem dX8_lay_61 : decode cX8_lay 61 = .ok (.ifCond .ne 8, 3) := by decide +kernel
theorem dX8_lay_64 : decode cX8_lay 64 = .ok (.iload_n 3, 1) := by decide +kernel
theorem dX8_lay_65 : decode cX8_lay 65 = .ok (.i2b, 1) := by decide +kernel
theorem dX8_lay_66 : decode cX8_lay 66 = .ok (.goto 19, 3) := by decide +kernel
theorem dX8_lay_69 : decode cX8_lay 69 = .ok (.aload_n 0, 1) := by decide +kernel
theorem dX8_lay_70 : decode cX8_lay 70 = .ok (.getfield 75, 3) := by decide +kernel
theorem dX8_lay_73 : decode cX8_lay 73 = .ok (.iload_n 1, 1) := by decide +kernel
theorem dX8_lay_74 : decode cX8_lay 74 = .ok (.iaload, 1) := by decide +kernel
theorem dX8_lay_75 : decode cX8_lay 75 = .ok (.iconst 1, 1) := by decide +kernel
theorem dX8_lay_76 : decode cX8_lay 76 = .ok (.if_icmp .ne 8, 3) := by decide +kernel
theorem dX8_lay_79 : decode cX8_lay 79 = .ok (.iload_n 3, 1) := by decide +kernel
theorem dX8_lay_80 : decode cX8_lay 80 = .ok (.i2s, 1) := by decide +kernel
theorem dX8_lay_81 : decode cX8_lay 81 = .ok (.goto 4, 3) := by decide +kernel
theorem dX8_lay_84 : decode cX8_lay 84 = .ok (.iload_n 3, 1) := by decide +kernel
theorem dX8_lay_85 : decode cX8_lay 85 = .ok (.iastore, 1) := by decide +kernel
theorem dX8_lay_86 : decode cX8_lay 86 = .ok (.iconst 1, 1) := by decide +kernel
theorem dX8_lay_87 : decode cX8_lay 87 = .ok (.ireturn, 1) := by decide +kernel
set_option maxRecDepth 20000 in
theorem ggX8_scan_X8_isSheet : GoodIn wsX8_scan wsX8_isSheet := goodIn_r _ [10, 4, 11, 12, 13, 9, 14] (by decide +kernel) (by decide +kernel)
set_option maxRecDepth 20000 in
theorem gX8_scan_X8_isSheet : GoodIn wsX8_scan (va_wsS RX8 210 yX8_isSheet wsX8_isSheet) := goodIn_app (goodIn_of _ (by decide +kernel)) ggX8_scan_X8_isSheet
set_option maxRecDepth 20000 in
theorem ggX8_scan_X8_in : GoodIn wsX8_scan wsX8_in := goodIn_r _ [14] (by decide +kernel) (by decide +kernel)
set_option maxRecDepth 20000 in
theorem gX8_scan_X8_in : GoodIn wsX8_scan (va_wsS RX8 88 yX8_in wsX8_in) := goodIn_app (goodIn_of _ (by decide +kernel)) ggX8_scan_X8_in
set_option maxRecDepth 20000 in
theorem ggX8_scan_X8_point : GoodIn wsX8_scan wsX8_point := goodIn_r _ [18, 19, 20, 3, 21, 22, 23, 12, 13, 9, 14, 24, 25, 26, 27, 28, 29, 30, 31, 32, 33, 34, 35, 36, 37, 38, 39, 40, 41, 42, 43, 44, 45, 46, 47, 48, 49, 50, 51, 52, 53, 54, 55] (by decide +kernel) (by decide +kernel)
set_option maxRecDepth 20000 in
theorem gX8_scan_X8_point : GoodIn wsX8_scan (wsV RX8 215 RX8 yX8_point wsX8_point) := goodIn_app (goodIn_of _ (by decide +kernel)) ggX8_scan_X8_point
theorem dX8_scan_0 : decode cX8_scan 0 = .ok (.iload_n 1, 1) := by decide +kernel
theorem dX8_scan_1 : decode cX8_scan 1 = .ok (.iload_n 2, 1) := by decide +kernel
theorem dX8_scan_2 : decode cX8_scan 2 = .ok (.invokestatic 210, 3) := by decide +kernel
theorem dX8_scan_5 : decode cX8_scan 5 = .ok (.ifCond .eq 16, 3) := by decide +kernel
theorem dX8_scan_8 : decode cX8_scan 8 = .ok (.iload 4, 2) := by decide +kernel
theorem dX8_scan_10 : decode cX8_scan 10 = .ok (.i2l, 1) := by decide +kernel
theorem dX8_scan_11 : decode cX8_scan 11 = .ok (.lconst 0, 1) := by decide +kernel
theorem dX8_scan_12 : decode cX8_scan 12 = .ok (.ldc2_w 213, 3) := by decide +kernel
theorem dX8_scan_15 : decode cX8_scan 15 = .ok (.invokestatic 88, 3) := by decide +kernel
theorem dX8_scan_18 : decode cX8_scan 18 = .ok (.ifCond .ne 5, 3) := by decide +kernel
theorem dX8_scan_21 : decode cX8_scan 21 = .ok (.iconst (-1), 1) := by decide +kernel
theorem dX8_scan_22 : decode cX8_scan 22 = .ok (.ireturn, 1) := by decide +kernel
theorem dX8_scan_23 : decode cX8_scan 23 = .ok (.aload_n 0, 1) := by decide +kernel
theorem dX8_scan_24 : decode cX8_scan 24 = .ok (.getfield 75, 3) := by decide +kernel
theorem dX8_scan_27 : decode cX8_scan 27 = .ok (.iload_n 1, 1) := by decide +kernel
theorem dX8_scan_28 : decode cX8_scan 28 = .ok (.iaload, 1) := by decide +kernel
theorem dX8_scan_29 : decode cX8_scan 29 = .ok (.iload_n 2, 1) := by decide +kernel
theorem dX8_scan_30 : decode cX8_scan 30 = .ok (.if_icmp .eq 22, 3) := by decide +kernel
theorem dX8_scan_33 : decode cX8_scan 33 = .ok (.aload_n 0, 1) := by decide +kernel
theorem dX8_scan_34 : decode cX8_scan 34 = .ok (.getfield 75, 3) := by decide +kernel
theorem dX8_scan_37 : decode cX8_scan 37 = .ok (.iload_n 1, 1) := by decide +kernel
theorem dX8_scan_38 : decode cX8_scan 38 = .ok (.iaload, 1) := by decide +kernel
theorem dX8_scan_39 : decode cX8_scan 39 = .ok (.bipush (-4), 2) := by decide +kernel
theorem dX8_scan_41 : decode cX8_scan 41 = .ok (.if_icmp .ne 8, 3) := by decide +kernel
theorem dX8_scan_44 : decode cX8_scan 44 = .ok (.bipush (-11), 2) := by decide +kernel
theorem dX8_scan_46 : decode cX8_scan 46 = .ok (.goto 5, 3) := by decide +kernel
theorem dX8_scan_49 : decode cX8_scan 49 = .ok (.bipush (-13), 2) := by decide +kernel
theorem dX8_scan_51 : decode cX8_scan 51 = .ok (.ireturn, 1) := by decide +kernel
theorem dX8_scan_52 : decode cX8_scan 52 = .ok (.aload_n 0, 1) := by decide +kernel
theorem dX8_scan_53 : decode cX8_scan 53 = .ok (.getfield 92, 3) := by decide +kernel
theorem dX8_scan_56 : decode cX8_scan 56 = .ok (.istore 5, 2) := by decide +kernel
theorem dX8_scan_58 : decode cX8_scan 58 = .ok (.iconst 0, 1) := by decide +kernel
theorem dX8_scan_59 : decode cX8_scan 59 = .ok (.istore 6, 2) := by decide +kernel
theorem dX8_scan_61 : decode cX8_scan 61 = .ok (.iconst 0, 1) := by decide +kernel
theorem dX8_scan_62 : decode cX8_scan 62 = .ok (.istore 7, 2) := by decide +kernel
theorem dX8_scan_64 : decode cX8_scan 64 = .ok (.iload 7, 2) := by decide +kernel
theorem dX8_scan_66 : decode cX8_scan 66 = .ok (.iload 4, 2) := by decide +kernel
theorem dX8_scan_68 : decode cX8_scan 68 = .ok (.if_icmp .ge 120, 3) := by decide +kernel
theorem dX8_scan_71 : decode cX8_scan 71 = .ok (.iload 6, 2) := by decide +kernel
theorem dX8_scan_73 : decode cX8_scan 73 = .ok (.ifCond .ne 115, 3) := by decide +kernel
theorem dX8_scan_76 : decode cX8_scan 76 = .ok (.iload_n 3, 1) := by decide +kernel
theorem dX8_scan_77 : decode cX8_scan 77 = .ok (.i2l, 1) := by decide +kernel
theorem dX8_scan_78 : decode cX8_scan 78 = .ok (.iconst 3, 1) := by decide +kernel
theorem dX8_scan_79 : decode cX8_scan 79 = .ok (.iload 7, 2) := by decide +kernel
theorem dX8_scan_81 : decode cX8_scan 81 = .ok (.imul, 1) := by decide +kernel
theorem dX8_scan_82 : decode cX8_scan 82 = .ok (.i2l, 1) := by decide +kernel
theorem dX8_scan_83 : decode cX8_scan 83 = .ok (.ladd, 1) := by decide +kernel
theorem dX8_scan_84 : decode cX8_scan 84 = .ok (.lstore 8, 2) := by decide +kernel
theorem dX8_scan_86 : decode cX8_scan 86 = .ok (.lload 8, 2) := by decide +kernel
theorem dX8_scan_88 : decode cX8_scan 88 = .ok (.lconst 0, 1) := by decide +kernel
theorem dX8_scan_89 : decode cX8_scan 89 = .ok (.lcmp, 1) := by decide +kernel
theorem dX8_scan_90 : decode cX8_scan 90 = .ok (.ifCond .lt 20, 3) := by decide +kernel
theorem dX8_scan_93 : decode cX8_scan 93 = .ok (.lload 8, 2) := by decide +kernel
theorem dX8_scan_95 : decode cX8_scan 95 = .ok (.ldc2_w 186, 3) := by decide +kernel
theorem dX8_scan_98 : decode cX8_scan 98 = .ok (.ladd, 1) := by decide +kernel
theorem dX8_scan_99 : decode cX8_scan 99 = .ok (.aload_n 0, 1) := by decide +kernel
theorem dX8_scan_100 : decode cX8_scan 100 = .ok (.getfield 78, 3) := by decide +kernel
theorem dX8_scan_103 : decode cX8_scan 103 = .ok (.iload_n 1, 1) := by decide +kernel
theorem dX8_scan_104 : decode cX8_scan 104 = .ok (.iaload, 1) := by decide +kernel
theorem dX8_scan_105 : decode cX8_scan 105 = .ok (.i2l, 1) := by decide +kernel
theorem dX8_scan_106 : decode cX8_scan 106 = .ok (.lcmp, 1) := by decide +kernel
theorem dX8_scan_107 : decode cX8_scan 107 = .ok (.ifCond .le 10, 3) := by decide +kernel
theorem dX8_scan_110 : decode cX8_scan 110 = .ok (.bipush (-12), 2) := by decide +kernel
theorem dX8_scan_112 : decode cX8_scan 112 = .ok (.istore 6, 2) := by decide +kernel
theorem dX8_scan_114 : decode cX8_scan 114 = .ok (.goto 68, 3) := by decide +kernel
theorem dX8_scan_117 : decode cX8_scan 117 = .ok (.bipush 60, 2) := by decide +kernel
theorem dX8_scan_119 : decode cX8_scan 119 = .ok (.iload_n 1, 1) := by decide +kernel
theorem dX8_scan_120 : decode cX8_scan 120 = .ok (.imul, 1) := by decide +kernel
theorem dX8_scan_121 : decode cX8_scan 121 = .ok (.lload 8, 2) := by decide +kernel
theorem dX8_scan_123 : decode cX8_scan 123 = .ok (.l2i, 1) := by decide +kernel
theorem dX8_scan_124 : decode cX8_scan 124 = .ok (.iadd, 1) := by decide +kernel
theorem dX8_scan_125 : decode cX8_scan 125 = .ok (.istore 10, 2) := by decide +kernel
theorem dX8_scan_127 : decode cX8_scan 127 = .ok (.aload_n 0, 1) := by decide +kernel
theorem dX8_scan_128 : decode cX8_scan 128 = .ok (.aload_n 0, 1) := by decide +kernel
theorem dX8_scan_129 : decode cX8_scan 129 = .ok (.getfield 81, 3) := by decide +kernel
theorem dX8_scan_132 : decode cX8_scan 132 = .ok (.iload 10, 2) := by decide +kernel
theorem dX8_scan_134 : decode cX8_scan 134 = .ok (.iaload, 1) := by decide +kernel
theorem dX8_scan_135 : decode cX8_scan 135 = .ok (.aload_n 0, 1) := by decide +kernel
theorem dX8_scan_136 : decode cX8_scan 136 = .ok (.getfield 81, 3) := by decide +kernel
theorem dX8_scan_139 : decode cX8_scan 139 = .ok (.iload 10, 2) := by decide +kernel
theorem dX8_scan_141 : decode cX8_scan 141 = .ok (.iconst 1, 1) := by decide +kernel
theorem dX8_scan_142 : decode cX8_scan 142 = .ok (.iadd, 1) := by decide +kernel
theorem dX8_scan_143 : decode cX8_scan 143 = .ok (.iaload, 1) := by decide +kernel
theorem dX8_scan_144 : decode cX8_scan 144 = .ok (.aload_n 0, 1) := by decide +kernel
theorem dX8_scan_145 : decode cX8_scan 145 = .ok (.getfield 81, 3) := by decide +kernel
theorem dX8_scan_148 : decode cX8_scan 148 = .ok (.iload 10, 2) := by decide +kernel
theorem dX8_scan_150 : decode cX8_scan 150 = .ok (.iconst 2, 1) := by decide +kernel
theorem dX8_scan_151 : decode cX8_scan 151 = .ok (.iadd, 1) := by decide +kernel
theorem dX8_scan_152 : decode cX8_scan 152 = .ok (.iaload, 1) := by decide +kernel
theorem dX8_scan_153 : decode cX8_scan 153 = .ok (.ifCond .eq 7, 3) := by decide +kernel
theorem dX8_scan_156 : decode cX8_scan 156 = .ok (.iconst 1, 1) := by decide +kernel
theorem dX8_scan_157 : decode cX8_scan 157 = .ok (.goto 4, 3) := by decide +kernel
theorem dX8_scan_160 : decode cX8_scan 160 = .ok (.iconst 0, 1) := by decide +kernel
theorem dX8_scan_161 : decode cX8_scan 161 = .ok (.invokevirtual 215, 3) := by decide +kernel
theorem dX8_scan_164 : decode cX8_scan 164 = .ok (.istore 11, 2) := by decide +kernel
theorem dX8_scan_166 : decode cX8_scan 166 = .ok (.iload 11, 2) := by decide +kernel
theorem dX8_scan_168 : decode cX8_scan 168 = .ok (.ifCond .ge 11, 3) := by decide +kernel
theorem dX8_scan_171 : decode cX8_scan 171 = .ok (.bipush (-20), 2) := by decide +kernel
theorem dX8_scan_173 : decode cX8_scan 173 = .ok (.iload 11, 2) := by decide +kernel
theorem dX8_scan_175 : decode cX8_scan 175 = .ok (.iadd, 1) := by decide +kernel
theorem dX8_scan_176 : decode cX8_scan 176 = .ok (.goto 4, 3) := by decide +kernel
theorem dX8_scan_179 : decode cX8_scan 179 = .ok (.iconst 0, 1) := by decide +kernel
theorem dX8_scan_180 : decode cX8_scan 180 = .ok (.istore 6, 2) := by decide +kernel
theorem dX8_scan_182 : decode cX8_scan 182 = .ok (.iinc 7 1, 3) := by decide +kernel
theorem dX8_scan_185 : decode cX8_scan 185 = .ok (.goto (-121), 3) := by decide +kernel
theorem dX8_scan_188 : decode cX8_scan 188 = .ok (.aload_n 0, 1) := by decide +kernel
theorem dX8_scan_189 : decode cX8_scan 189 = .ok (.iload 6, 2) := by decide +kernel
theorem dX8_scan_191 : decode cX8_scan 191 = .ok (.ifCond .ge 8, 3) := by decide +kernel
theorem dX8_scan_194 : decode cX8_scan 194 = .ok (.iload 5, 2) := by decide +kernel
theorem dX8_scan_196 : decode cX8_scan 196 = .ok (.goto 7, 3) := by decide +kernel
theorem dX8_scan_199 : decode cX8_scan 199 = .ok (.aload_n 0, 1) := by decide +kernel
theorem dX8_scan_200 : decode cX8_scan 200 = .ok (.getfield 92, 3) := by decide +kernel
theorem dX8_scan_203 : decode cX8_scan 203 = .ok (.putfield 92, 3) := by decide +kernel
theorem dX8_scan_206 : decode cX8_scan 206 = .ok (.iload 6, 2) := by decide +kernel
theorem dX8_scan_208 : decode cX8_scan 208 = .ok (.ifCond .ge 8, 3) := by decide +kernel
theorem dX8_scan_211 : decode cX8_scan 211 = .ok (.iload 6, 2) := by decide +kernel
theorem dX8_scan_213 : decode cX8_scan 213 = .ok (.goto 7, 3) := by decide +kernel
theorem dX8_scan_216 : decode cX8_scan 216 = .ok (.aload_n 0, 1) := by decide +kernel
theorem dX8_scan_217 : decode cX8_scan 217 = .ok (.getfield 92, 3) := by decide +kernel
theorem dX8_scan_220 : decode cX8_scan 220 = .ok (.ireturn, 1) := by decide +kernel
theorem dX8_count_0 : decode cX8_count 0 = .ok (.iload_n 1, 1) := by decide +kernel
theorem dX8_count_1 : decode cX8_count 1 = .ok (.ifCond .ne 10, 3) := by decide +kernel
theorem dX8_count_4 : decode cX8_count 4 = .ok (.aload_n 0, 1) := by decide +kernel
theorem dX8_count_5 : decode cX8_count 5 = .ok (.getfield 92, 3) := by decide +kernel
theorem dX8_count_8 : decode cX8_count 8 = .ok (.goto 52, 3) := by decide +kernel
theorem dX8_count_11 : decode cX8_count 11 = .ok (.iload_n 1, 1) := by decide +kernel
theorem dX8_count_12 : decode cX8_count 12 = .ok (.iconst 1, 1) := by decide +kernel
theorem dX8_count_13 : decode cX8_count 13 = .ok (.if_icmp .ne 10, 3) := by decide +kernel
theorem dX8_count_16 : decode cX8_count 16 = .ok (.aload_n 0, 1) := by decide +kernel
theorem dX8_count_17 : decode cX8_count 17 = .ok (.getfield 123, 3) := by decide +kernel
theorem dX8_count_20 : decode cX8_count 20 = .ok (.goto 40, 3) := by decide +kernel
theorem dX8_count_23 : decode cX8_count 23 = .ok (.iload_n 1, 1) := by decide +kernel
theorem dX8_count_24 : decode cX8_count 24 = .ok (.iconst 2, 1) := by decide +kernel
theorem dX8_count_25 : decode cX8_count 25 = .ok (.if_icmp .ne 10, 3) := by decide +kernel
theorem dX8_count_28 : decode cX8_count 28 = .ok (.aload_n 0, 1) := by decide +kernel
theorem dX8_count_29 : decode cX8_count 29 = .ok (.getfield 188, 3) := by decide +kernel
theorem dX8_count_32 : decode cX8_count 32 = .ok (.goto 28, 3) := by decide +kernel
theorem dX8_count_35 : decode cX8_count 35 = .ok (.iload_n 1, 1) := by decide +kernel
theorem dX8_count_36 : decode cX8_count 36 = .ok (.iconst 3, 1) := by decide +kernel
theorem dX8_count_37 : decode cX8_count 37 = .ok (.if_icmp .ne 10, 3) := by decide +kernel
theorem dX8_count_40 : decode cX8_count 40 = .ok (.aload_n 0, 1) := by decide +kernel
theorem dX8_count_41 : decode cX8_count 41 = .ok (.getfield 179, 3) := by decide +kernel
theorem dX8_count_44 : decode cX8_count 44 = .ok (.goto 16, 3) := by decide +kernel
theorem dX8_count_47 : decode cX8_count 47 = .ok (.iload_n 1, 1) := by decide +kernel
theorem dX8_count_48 : decode cX8_count 48 = .ok (.iconst 4, 1) := by decide +kernel
theorem dX8_count_49 : decode cX8_count 49 = .ok (.if_icmp .ne 10, 3) := by decide +kernel
theorem dX8_count_52 : decode cX8_count 52 = .ok (.aload_n 0, 1) := by decide +kernel
theorem dX8_count_53 : decode cX8_count 53 = .ok (.getfield 126, 3) := by decide +kernel
theorem dX8_count_56 : decode cX8_count 56 = .ok (.goto 4, 3) := by decide +kernel
theorem dX8_count_59 : decode cX8_count 59 = .ok (.iconst (-1), 1) := by decide +kernel
theorem dX8_count_60 : decode cX8_count 60 = .ok (.ireturn, 1) := by decide +kernel
end
section
/-! rows of mine over the kit's: every int is iI of a whole number, every array of ints zA of a function on whole numbers -/
def iI (z : Int) : Int32 := Int32.ofInt z
def lI (z : Int) : Int64 := Int64.ofInt z
def zA (f : Int → Int) : Nat → Int32 := fun k => iI (f (k : Int))
def zU (f : Int → Int) (i v : Int) : Int → Int := fun j => if j = i then v else f j
theorem zU_s (f : Int → Int) (i v : Int) : zU f i v i = v := if_pos rfl
theorem zU_n (f : Int → Int) {i j : Int} (v : Int) (h : j ≠ i) : zU f i v j = f j := if_neg h
theorem iI_toInt {z : Int} (h : -2147483648 ≤ z ∧ z < 2147483648) : (iI z).toInt = z := by
  unfold iI
  rw [Int32.toInt_ofInt]
  exact Int.bmod_eq_of_le (by rw [show ((Int32.size : Nat) : Int) = 4294967296 from rfl]; omega) (by rw [show ((Int32.size : Nat) : Int) = 4294967296 from rfl]; omega)
theorem lI_toInt {z : Int} (h : -9223372036854775808 ≤ z ∧ z < 9223372036854775808) : (lI z).toInt = z := by
  unfold lI
  rw [Int64.toInt_ofInt]
  exact Int.bmod_eq_of_le (by rw [show ((Int64.size : Nat) : Int) = 18446744073709551616 from rfl]; omega) (by rw [show ((Int64.size : Nat) : Int) = 18446744073709551616 from rfl]; omega)
theorem iI_of (x : Int32) : iI x.toInt = x := by unfold iI; exact Int32.ofInt_toInt x
theorem iI_rng (x : Int32) : -2147483648 ≤ x.toInt ∧ x.toInt < 2147483648 := by
  have h1 := Int32.le_toInt x
  have h2 := Int32.toInt_lt x
  omega
theorem iI_add (a b : Int) : iI a + iI b = iI (a + b) := (Int32.ofInt_add a b).symm
theorem iI_sub (a b : Int) : iI a - iI b = iI (a - b) := (Int32.ofInt_sub a b).symm
theorem iI_mul (a b : Int) : iI a * iI b = iI (a * b) := (Int32.ofInt_mul a b).symm
theorem iI_neg (a : Int) : -iI a = iI (-a) := (Int32.ofInt_neg a).symm
theorem lI_add (a b : Int) : lI a + lI b = lI (a + b) := (Int64.ofInt_add a b).symm
theorem lI_sub (a b : Int) : lI a - lI b = lI (a - b) := (Int64.ofInt_sub a b).symm
theorem lI_mul (a b : Int) : lI a * lI b = lI (a * b) := (Int64.ofInt_mul a b).symm
theorem iI_wide {a : Int} (h : -2147483648 ≤ a ∧ a < 2147483648) : (iI a).toInt64 = lI a := by
  apply Int64.toInt_inj.mp
  rw [Int32.toInt_toInt64, iI_toInt h, lI_toInt (by omega)]
theorem lI_narrow (a : Int) : (lI a).toInt32 = iI a := by
  unfold lI iI
  first | exact Int64.toInt32_ofInt | exact Int64.toInt32_ofInt a | simp
theorem iI_lt {a b : Int} (ha : -2147483648 ≤ a ∧ a < 2147483648) (hb : -2147483648 ≤ b ∧ b < 2147483648) : iI a < iI b ↔ a < b := by
  rw [Int32.lt_iff_toInt_lt, iI_toInt ha, iI_toInt hb]
theorem iI_le {a b : Int} (ha : -2147483648 ≤ a ∧ a < 2147483648) (hb : -2147483648 ≤ b ∧ b < 2147483648) : iI a ≤ iI b ↔ a ≤ b := by
  rw [Int32.le_iff_toInt_le, iI_toInt ha, iI_toInt hb]
theorem iI_eq {a b : Int} (ha : -2147483648 ≤ a ∧ a < 2147483648) (hb : -2147483648 ≤ b ∧ b < 2147483648) : iI a = iI b ↔ a = b := by
  rw [← Int32.toInt_inj, iI_toInt ha, iI_toInt hb]
theorem lI_lt {a b : Int} (ha : -9223372036854775808 ≤ a ∧ a < 9223372036854775808) (hb : -9223372036854775808 ≤ b ∧ b < 9223372036854775808) : lI a < lI b ↔ a < b := by
  rw [Int64.lt_iff_toInt_lt, lI_toInt ha, lI_toInt hb]
theorem lI_eq {a b : Int} (ha : -9223372036854775808 ≤ a ∧ a < 9223372036854775808) (hb : -9223372036854775808 ≤ b ∧ b < 9223372036854775808) : lI a = lI b ↔ a = b := by
  rw [← Int64.toInt_inj, lI_toInt ha, lI_toInt hb]
theorem iI_0 : iI 0 = 0 := by decide +kernel
theorem iI_cl {z : Int} (h : 0 ≤ z ∧ z < 2147483648) : (((iI z).toNatClampNeg : Nat) : Int) = z := by
  show (((iI z).toInt.toNat : Nat) : Int) = z
  rw [iI_toInt (by omega)]
  omega
theorem iI_in {z : Int} {n : Nat} (h : 0 ≤ z ∧ z < (n : Int)) (hn : n < 2147483648) : vp_in (iI z) n := by
  rw [vp_in_iff, iI_toInt (by omega)]
  omega
theorem zA_at (f : Int → Int) {z : Int} (h : 0 ≤ z ∧ z < 2147483648) : zA f (iI z).toNatClampNeg = iI (f z) := by
  unfold zA
  rw [iI_cl h]
theorem zA_upd (f : Int → Int) {z v : Int} (h : 0 ≤ z ∧ z < 2147483648) : upd (zA f) (iI z).toNatClampNeg (iI v) = zA (zU f z v) := by
  funext k
  have e := iI_cl h
  unfold upd zA zU
  by_cases hk : k = (iI z).toNatClampNeg
  · rw [if_pos hk, if_pos (by rw [hk]; exact e)]
  · rw [if_neg hk, if_neg (fun q => hk (by omega))]
theorem iI_and1 {v : Int} (h : v = 0 ∨ v = 1) : vp_nar .boolean (iI v) = iI v := by
  rcases h with rfl | rfl <;> decide +kernel
theorem iI_ne0 {y : Int} (hr : -2147483648 ≤ y ∧ y < 2147483648) (h0 : y ≠ 0) : ¬ iI y = 0 := by
  rw [← iI_0, iI_eq hr (by omega)]
  exact h0
theorem lI_0 : lI 0 = 0 := by decide +kernel
theorem lI_ne0 {y : Int} (hr : -9223372036854775808 ≤ y ∧ y < 9223372036854775808) (h0 : y ≠ 0) : ¬ lI y = 0 := by
  rw [← lI_0, lI_eq hr (by omega)]
  exact h0
theorem iI_div {a b : Int} (ha : -2147483648 < a ∧ a < 2147483648) (hb : -2147483648 ≤ b ∧ b < 2147483648) : iI a / iI b = iI (a.tdiv b) := by
  apply Int32.toInt_inj.mp
  have ha' : (iI a).toInt = a := iI_toInt (by omega)
  have hab : (a.tdiv b).natAbs ≤ a.natAbs := by rw [Int.natAbs_tdiv]; exact Nat.div_le_self _ _
  rw [Int32.toInt_div_of_ne_left _ _ (fun h => by rw [h] at ha'; revert ha'; rw [show Int32.minValue.toInt = -2147483648 from by decide]; omega), ha', iI_toInt hb, iI_toInt (by omega)]
theorem iI_tmod (a b : Int) : a - a.tdiv b * b = a.tmod b := by
  have := Int.tmod_add_mul_tdiv a b
  rw [Int.mul_comm]; omega
theorem lI_div {a b : Int} (ha : -9223372036854775808 < a ∧ a < 9223372036854775808) (hb : -9223372036854775808 ≤ b ∧ b < 9223372036854775808) : lI a / lI b = lI (a.tdiv b) := by
  apply Int64.toInt_inj.mp
  have ha' : (lI a).toInt = a := lI_toInt (by omega)
  have hab : (a.tdiv b).natAbs ≤ a.natAbs := by rw [Int.natAbs_tdiv]; exact Nat.div_le_self _ _
  rw [Int64.toInt_div_of_ne_left _ _ (fun h => by rw [h] at ha'; revert ha'; rw [show Int64.minValue.toInt = -9223372036854775808 from by decide]; omega), ha', lI_toInt hb, lI_toInt (by omega)]
/-! the world of a walk -/
def zW (D : va_G) (A : Nat → Prop) (H0 H : Heap) (locs : List Loc) (ws : va_W) : Prop := va_P D vwCl ws H ∧ va_D A ws ∧ va_S A H0 H locs
def zK (D : va_G) (cI cZ : ClassId) (U : State) : Prop := va_K D vwCl [(cI, .int), (cZ, .boolean)] U
theorem zK.moved {D : va_G} {cI cZ : ClassId} {u U : State} (hvm : u.vm.Alike U.vm) (h : zK D cI cZ u) : zK D cI cZ U := va_K.moved hvm h
def zPc (D : va_G) (cI cZ : ClassId) (av : List Value) (Wc : va_W) (sz : Nat) : Array Value → State → Prop := va_Pc av (fun U => U.heap.size = sz ∧ va_P D vwCl Wc U.heap ∧ zK D cI cZ U ∧ va_D (fun _ => True) Wc)
def zQi {S : Type} (D : va_G) (cI cZ : ClassId) (Wc : va_W) (sz : Nat) (post : Int → S → Prop) (W' : S → va_W) : Array Value → State → Outcome → State → Prop := va_Qi (fun (r : Int32) (u : Int × S) => r = iI u.1 ∧ (-2147483648 ≤ u.1 ∧ u.1 < 2147483648) ∧ post u.1 u.2) (fun u t => va_P D vwCl (W' u.2) t.heap ∧ zK D cI cZ t ∧ va_D (va_A Wc sz) (W' u.2)) (va_A Wc sz)
def zQl {S : Type} (D : va_G) (cI cZ : ClassId) (Wc : va_W) (sz : Nat) (post : Int → S → Prop) (W' : S → va_W) : Array Value → State → Outcome → State → Prop := va_Ql (fun (r : Int64) (u : Int × S) => r = lI u.1 ∧ (-9223372036854775808 ≤ u.1 ∧ u.1 < 9223372036854775808) ∧ post u.1 u.2) (fun u t => va_P D vwCl (W' u.2) t.heap ∧ zK D cI cZ t ∧ va_D (va_A Wc sz) (W' u.2)) (va_A Wc sz)
def zQv {S : Type} (D : va_G) (cI cZ : ClassId) (Wc : va_W) (sz : Nat) (post : S → Prop) (W' : S → va_W) : Array Value → State → Outcome → State → Prop := va_Qv (fun (u : S) => post u) (fun u t => va_P D vwCl (W' u) t.heap ∧ zK D cI cZ t ∧ va_D (va_A Wc sz) (W' u)) (va_A Wc sz)
theorem zPc_blind {D : va_G} {cI cZ : ClassId} {av : List Value} {Wc : va_W} {sz : Nat} : FrameBlind (zPc D cI cZ av Wc sz) := fun a U g mk q => by
  obtain ⟨q0, q1, qP, qK, qD⟩ := q
  exact ⟨q0, q1, qP, zK.moved (u := U) (U := U.calling g mk a) (Vm.Alike.refl U.vm) qK, qD⟩
section ZK
variable {p : Program} {l : Launch} {e : Env} {R : Room} {s : State} {m : MethodId} {args : Array Value} {below : List Frame} {meth : Method} {c : Code} {H : Heap} {locs : List Loc} {cells slots : Nat} {Q : State → Prop}
variable {cc : ByteArray} {pc nL : Nat} {ls : Array Slot} {rest : List Value} {own : String} {Ts : List Cond}
variable {D : va_G} {cI cZ : ClassId} {A : Nat → Prop} {H0 : Heap} {ws ws' : va_W} {a : Nat}
theorem z_iconst (F : CallFix p m c cc nL s args Ts own) (n : Int) (hdg : decode cc pc = .ok (.iconst n, 1)) (kk : W p l e R s m args below meth c H locs cells slots Q (F0 m (pc + 1) ls (.int (iI n) :: rest))) : W p l e R s m args below meth c H locs cells slots Q (F0 m pc ls rest) :=
  lv_iconst (v := iI n) F.1 F.2.1 hdg rfl kk
theorem z_bipush (F : CallFix p m c cc nL s args Ts own) (n : Int) (hv : (Int8.ofInt n).toInt32 = iI n) (hdg : decode cc pc = .ok (.bipush n, 2)) (kk : W p l e R s m args below meth c H locs cells slots Q (F0 m (pc + 2) ls (.int (iI n) :: rest))) : W p l e R s m args below meth c H locs cells slots Q (F0 m pc ls rest) :=
  lv_bipush (v := iI n) F.1 F.2.1 hdg hv kk
theorem z_sipush (F : CallFix p m c cc nL s args Ts own) (n : Int) (hv : (Int16.ofInt n).toInt32 = iI n) (hdg : decode cc pc = .ok (.sipush n, 3)) (kk : W p l e R s m args below meth c H locs cells slots Q (F0 m (pc + 3) ls (.int (iI n) :: rest))) : W p l e R s m args below meth c H locs cells slots Q (F0 m pc ls rest) :=
  lv_sipush (v := iI n) F.1 F.2.1 hdg hv kk
theorem z_ldc (F : CallFix p m c cc nL s args Ts own) (n : Int) {index : Nat} {v : Int32} (hv : v = iI n) (hw : Cond.constant own index v ∈ Ts) (hdg : decode cc pc = .ok (.ldc index, 2)) (kk : W p l e R s m args below meth c H locs cells slots Q (F0 m (pc + 2) ls (.int (iI n) :: rest))) : W p l e R s m args below meth c H locs cells slots Q (F0 m pc ls rest) := by
  subst hv
  exact lv_ldc F.1 F.2.1 F.2.2.2.1 (F.2.2.2.2 _ hw) hdg kk
theorem z_ldcw (F : CallFix p m c cc nL s args Ts own) (n : Int) {index : Nat} {v : Int32} (hv : v = iI n) (hw : Cond.constant own index v ∈ Ts) (hdg : decode cc pc = .ok (.ldc_w index, 3)) (kk : W p l e R s m args below meth c H locs cells slots Q (F0 m (pc + 3) ls (.int (iI n) :: rest))) : W p l e R s m args below meth c H locs cells slots Q (F0 m pc ls rest) := by
  subst hv
  exact lv_ldcw F.1 F.2.1 F.2.2.2.1 (F.2.2.2.2 _ hw) hdg kk
theorem z_ldc2 (F : CallFix p m c cc nL s args Ts own) (n : Int) {index : Nat} {v : Int64} (hv : v = lI n) (hw : Cond.constantLong own index v ∈ Ts) (hdg : decode cc pc = .ok (.ldc2_w index, 3)) (kk : W p l e R s m args below meth c H locs cells slots Q (F0 m (pc + 3) ls (.long (lI n) :: rest))) : W p l e R s m args below meth c H locs cells slots Q (F0 m pc ls rest) := by
  subst hv
  exact lv_ldc2 F.1 F.2.1 F.2.2.2.1 (F.2.2.2.2 _ hw) hdg kk
theorem z_lconst (F : CallFix p m c cc nL s args Ts own) (n : Int) {k : Fin 2} (hv : Int64.ofNat (k : Nat) = lI n) (hdg : decode cc pc = .ok (.lconst k, 1)) (kk : W p l e R s m args below meth c H locs cells slots Q (F0 m (pc + 1) ls (.long (lI n) :: rest))) : W p l e R s m args below meth c H locs cells slots Q (F0 m pc ls rest) :=
  lv_lconst (v := lI n) F.1 F.2.1 hdg hv kk
theorem z_iloadn (F : CallFix p m c cc nL s args Ts own) {k : Fin 4} {i : Nat} {x : Int} (hdg : decode cc pc = .ok (.iload_n k, 1)) (hi : (k : Nat) = i) (hl : ls[i]? = some (.val (.int (iI x)))) (kk : W p l e R s m args below meth c H locs cells slots Q (F0 m (pc + 1) ls (.int (iI x) :: rest))) : W p l e R s m args below meth c H locs cells slots Q (F0 m pc ls rest) := lv_iload_n F.1 F.2.1 hdg hi hl kk
theorem z_iload (F : CallFix p m c cc nL s args Ts own) {i : Nat} {x : Int} (hdg : decode cc pc = .ok (.iload i, 2)) (hl : ls[i]? = some (.val (.int (iI x)))) (kk : W p l e R s m args below meth c H locs cells slots Q (F0 m (pc + 2) ls (.int (iI x) :: rest))) : W p l e R s m args below meth c H locs cells slots Q (F0 m pc ls rest) := lv_iload F.1 F.2.1 hdg hl kk
theorem z_lloadn (F : CallFix p m c cc nL s args Ts own) {k : Fin 4} {i : Nat} {x : Int} (hdg : decode cc pc = .ok (.lload_n k, 1)) (hi : (k : Nat) = i) (hl : ls[i]? = some (.val (.long (lI x)))) (kk : W p l e R s m args below meth c H locs cells slots Q (F0 m (pc + 1) ls (.long (lI x) :: rest))) : W p l e R s m args below meth c H locs cells slots Q (F0 m pc ls rest) := lv_lload_n F.1 F.2.1 hdg hi hl kk
theorem z_lload (F : CallFix p m c cc nL s args Ts own) {i : Nat} {x : Int} (hdg : decode cc pc = .ok (.lload i, 2)) (hl : ls[i]? = some (.val (.long (lI x)))) (kk : W p l e R s m args below meth c H locs cells slots Q (F0 m (pc + 2) ls (.long (lI x) :: rest))) : W p l e R s m args below meth c H locs cells slots Q (F0 m pc ls rest) := lv_lload F.1 F.2.1 hdg hl kk
theorem z_aloadn (F : CallFix p m c cc nL s args Ts own) {k : Fin 4} {i x : Nat} (hdg : decode cc pc = .ok (.aload_n k, 1)) (hi : (k : Nat) = i) (hl : ls[i]? = some (.val (.ref x))) (kk : W p l e R s m args below meth c H locs cells slots Q (F0 m (pc + 1) ls (.ref x :: rest))) : W p l e R s m args below meth c H locs cells slots Q (F0 m pc ls rest) := lv_aload_n F.1 F.2.1 hdg hi hl kk
theorem z_aload (F : CallFix p m c cc nL s args Ts own) {i x : Nat} (hdg : decode cc pc = .ok (.aload i, 2)) (hl : ls[i]? = some (.val (.ref x))) (kk : W p l e R s m args below meth c H locs cells slots Q (F0 m (pc + 2) ls (.ref x :: rest))) : W p l e R s m args below meth c H locs cells slots Q (F0 m pc ls rest) := lv_aload F.1 F.2.1 hdg hl kk
theorem z_istoren (F : CallFix p m c cc nL s args Ts own) {k : Fin 4} {i : Nat} {x : Int} {lv lv' : List (Nat × Value)} (h : lv_has ls nL lv) (hdg : decode cc pc = .ok (.istore_n k, 1)) (hi : (k : Nat) = i) (hn : i < nL) (hl : (i, Value.int (iI x)) :: lv.filter (fun q => !(q.1 == i) && !(q.1 + 1 == i && q.2.category == 2)) = lv') (kk : ∀ ls' : Array Slot, lv_has ls' nL lv' → W p l e R s m args below meth c H locs cells slots Q (F0 m (pc + 1) ls' rest)) : W p l e R s m args below meth c H locs cells slots Q (F0 m pc ls (.int (iI x) :: rest)) := lv_istore_n F.1 F.2.1 hdg hi h hn hl kk
theorem z_istore (F : CallFix p m c cc nL s args Ts own) {i : Nat} {x : Int} {lv lv' : List (Nat × Value)} (h : lv_has ls nL lv) (hdg : decode cc pc = .ok (.istore i, 2)) (hn : i < nL) (hl : (i, Value.int (iI x)) :: lv.filter (fun q => !(q.1 == i) && !(q.1 + 1 == i && q.2.category == 2)) = lv') (kk : ∀ ls' : Array Slot, lv_has ls' nL lv' → W p l e R s m args below meth c H locs cells slots Q (F0 m (pc + 2) ls' rest)) : W p l e R s m args below meth c H locs cells slots Q (F0 m pc ls (.int (iI x) :: rest)) := lv_istore F.1 F.2.1 hdg h hn hl kk
theorem z_lstoren (F : CallFix p m c cc nL s args Ts own) {k : Fin 4} {i : Nat} {x : Int} {lv lv' : List (Nat × Value)} (h : lv_has ls nL lv) (hdg : decode cc pc = .ok (.lstore_n k, 1)) (hi : (k : Nat) = i) (hn : i + 1 < nL) (hl : (i, Value.long (lI x)) :: lv.filter (fun q => !(q.1 == i) && (!(q.1 == i + 1) && !(q.1 + 1 == i && q.2.category == 2))) = lv') (kk : ∀ ls' : Array Slot, lv_has ls' nL lv' → W p l e R s m args below meth c H locs cells slots Q (F0 m (pc + 1) ls' rest)) : W p l e R s m args below meth c H locs cells slots Q (F0 m pc ls (.long (lI x) :: rest)) := lv_lstore_n F.1 F.2.1 hdg hi h hn hl kk
theorem z_lstore (F : CallFix p m c cc nL s args Ts own) {i : Nat} {x : Int} {lv lv' : List (Nat × Value)} (h : lv_has ls nL lv) (hdg : decode cc pc = .ok (.lstore i, 2)) (hn : i + 1 < nL) (hl : (i, Value.long (lI x)) :: lv.filter (fun q => !(q.1 == i) && (!(q.1 == i + 1) && !(q.1 + 1 == i && q.2.category == 2))) = lv') (kk : ∀ ls' : Array Slot, lv_has ls' nL lv' → W p l e R s m args below meth c H locs cells slots Q (F0 m (pc + 2) ls' rest)) : W p l e R s m args below meth c H locs cells slots Q (F0 m pc ls (.long (lI x) :: rest)) := lv_lstore F.1 F.2.1 hdg h hn hl kk
theorem z_iinc (F : CallFix p m c cc nL s args Ts own) {i k : Nat} {n x : Int} {lv lv' : List (Nat × Value)} (h : lv_has ls nL lv) (hdg : decode cc pc = .ok (.iinc i n, 3)) (hk : lv[k]? = some (i, .int (iI x))) (hn : i < nL) (hl : (i, Value.int (iI (x + n))) :: lv.filter (fun q => !(q.1 == i) && !(q.1 + 1 == i && q.2.category == 2)) = lv') (kk : ∀ ls' : Array Slot, lv_has ls' nL lv' → W p l e R s m args below meth c H locs cells slots Q (F0 m (pc + 3) ls' rest)) : W p l e R s m args below meth c H locs cells slots Q (F0 m pc ls rest) := lv_iinc F.1 F.2.1 hdg h hk (iI_add x n) hn hl kk
theorem z_iadd (F : CallFix p m c cc nL s args Ts own) {x y : Int} (hdg : decode cc pc = .ok (.iadd, 1)) (kk : W p l e R s m args below meth c H locs cells slots Q (F0 m (pc + 1) ls (.int (iI (x + y)) :: rest))) : W p l e R s m args below meth c H locs cells slots Q (F0 m pc ls (.int (iI y) :: .int (iI x) :: rest)) := lv_iadd F.1 F.2.1 hdg (by rw [iI_add]; exact kk)
theorem z_isub (F : CallFix p m c cc nL s args Ts own) {x y : Int} (hdg : decode cc pc = .ok (.isub, 1)) (kk : W p l e R s m args below meth c H locs cells slots Q (F0 m (pc + 1) ls (.int (iI (x - y)) :: rest))) : W p l e R s m args below meth c H locs cells slots Q (F0 m pc ls (.int (iI y) :: .int (iI x) :: rest)) := lv_isub F.1 F.2.1 hdg (by rw [iI_sub]; exact kk)
theorem z_imul (F : CallFix p m c cc nL s args Ts own) {x y : Int} (hdg : decode cc pc = .ok (.imul, 1)) (kk : W p l e R s m args below meth c H locs cells slots Q (F0 m (pc + 1) ls (.int (iI (x * y)) :: rest))) : W p l e R s m args below meth c H locs cells slots Q (F0 m pc ls (.int (iI y) :: .int (iI x) :: rest)) := lv_imul F.1 F.2.1 hdg (by rw [iI_mul]; exact kk)
theorem z_ineg (F : CallFix p m c cc nL s args Ts own) {x : Int} (hdg : decode cc pc = .ok (.ineg, 1)) (kk : W p l e R s m args below meth c H locs cells slots Q (F0 m (pc + 1) ls (.int (iI (-x)) :: rest))) : W p l e R s m args below meth c H locs cells slots Q (F0 m pc ls (.int (iI x) :: rest)) := lv_ineg F.1 F.2.1 hdg (by first | (rw [iI_neg]; exact kk) | (rw [← iI_neg] at kk; simpa using kk))
theorem z_idiv (F : CallFix p m c cc nL s args Ts own) {x y : Int} (hdg : decode cc pc = .ok (.idiv, 1)) (h : (-2147483648 < x ∧ x < 2147483648) ∧ (-2147483648 ≤ y ∧ y < 2147483648) ∧ y ≠ 0) (kk : W p l e R s m args below meth c H locs cells slots Q (F0 m (pc + 1) ls (.int (iI (x.tdiv y)) :: rest))) : W p l e R s m args below meth c H locs cells slots Q (F0 m pc ls (.int (iI y) :: .int (iI x) :: rest)) := lv_idiv F.1 F.2.1 hdg (iI_ne0 h.2.1 h.2.2) (by rw [iI_div h.1 h.2.1]; exact kk)
theorem z_ldiv (F : CallFix p m c cc nL s args Ts own) {x y : Int} (hdg : decode cc pc = .ok (.ldiv, 1)) (h : (-9223372036854775808 < x ∧ x < 9223372036854775808) ∧ (-9223372036854775808 ≤ y ∧ y < 9223372036854775808) ∧ y ≠ 0) (kk : W p l e R s m args below meth c H locs cells slots Q (F0 m (pc + 1) ls (.long (lI (x.tdiv y)) :: rest))) : W p l e R s m args below meth c H locs cells slots Q (F0 m pc ls (.long (lI y) :: .long (lI x) :: rest)) := lv_ldiv F.1 F.2.1 hdg (lI_ne0 h.2.1 h.2.2) (by rw [lI_div h.1 h.2.1]; exact kk)
theorem z_ladd (F : CallFix p m c cc nL s args Ts own) {x y : Int} (hdg : decode cc pc = .ok (.ladd, 1)) (kk : W p l e R s m args below meth c H locs cells slots Q (F0 m (pc + 1) ls (.long (lI (x + y)) :: rest))) : W p l e R s m args below meth c H locs cells slots Q (F0 m pc ls (.long (lI y) :: .long (lI x) :: rest)) := lv_ladd F.1 F.2.1 hdg (by rw [lI_add]; exact kk)
theorem z_lsub (F : CallFix p m c cc nL s args Ts own) {x y : Int} (hdg : decode cc pc = .ok (.lsub, 1)) (kk : W p l e R s m args below meth c H locs cells slots Q (F0 m (pc + 1) ls (.long (lI (x - y)) :: rest))) : W p l e R s m args below meth c H locs cells slots Q (F0 m pc ls (.long (lI y) :: .long (lI x) :: rest)) := lv_lsub F.1 F.2.1 hdg (by rw [lI_sub]; exact kk)
theorem z_lmul (F : CallFix p m c cc nL s args Ts own) {x y : Int} (hdg : decode cc pc = .ok (.lmul, 1)) (kk : W p l e R s m args below meth c H locs cells slots Q (F0 m (pc + 1) ls (.long (lI (x * y)) :: rest))) : W p l e R s m args below meth c H locs cells slots Q (F0 m pc ls (.long (lI y) :: .long (lI x) :: rest)) := lv_lmul F.1 F.2.1 hdg (by rw [lI_mul]; exact kk)
theorem z_i2l (F : CallFix p m c cc nL s args Ts own) {x : Int} (hdg : decode cc pc = .ok (.i2l, 1)) (h : -2147483648 ≤ x ∧ x < 2147483648) (kk : W p l e R s m args below meth c H locs cells slots Q (F0 m (pc + 1) ls (.long (lI x) :: rest))) : W p l e R s m args below meth c H locs cells slots Q (F0 m pc ls (.int (iI x) :: rest)) := lv_i2l F.1 F.2.1 hdg (iI_wide h) kk
theorem z_l2i (F : CallFix p m c cc nL s args Ts own) {x : Int} (hdg : decode cc pc = .ok (.l2i, 1)) (kk : W p l e R s m args below meth c H locs cells slots Q (F0 m (pc + 1) ls (.int (iI x) :: rest))) : W p l e R s m args below meth c H locs cells slots Q (F0 m pc ls (.long (lI x) :: rest)) := lv_l2i F.1 F.2.1 hdg (lI_narrow x) kk
theorem z_dup (F : CallFix p m c cc nL s args Ts own) {va : Value} (hdg : decode cc pc = .ok (.dup, 1)) (hva : va.category = 1) (kk : W p l e R s m args below meth c H locs cells slots Q (F0 m (pc + 1) ls (va :: va :: rest))) : W p l e R s m args below meth c H locs cells slots Q (F0 m pc ls (va :: rest)) := lv_dup F.1 F.2.1 hdg hva kk
theorem z_pop (F : CallFix p m c cc nL s args Ts own) {va : Value} (hdg : decode cc pc = .ok (.pop, 1)) (hva : va.category = 1) (kk : W p l e R s m args below meth c H locs cells slots Q (F0 m (pc + 1) ls rest)) : W p l e R s m args below meth c H locs cells slots Q (F0 m pc ls (va :: rest)) := lv_pop F.1 F.2.1 hdg hva kk
theorem z_goto (F : CallFix p m c cc nL s args Ts own) {off : Int} (tgt : Nat) (hdg : decode cc pc = .ok (.goto off, 3)) (ht : (pc : Int) + off = (tgt : Int)) (kk : W p l e R s m args below meth c H locs cells slots Q (F0 m tgt ls rest)) : W p l e R s m args below meth c H locs cells slots Q (F0 m pc ls rest) := lv_goto F.1 F.2.1 hdg ht kk
theorem z_icmp_eq (F : CallFix p m c cc nL s args Ts own) {x y : Int} {off : Int} (tgt : Nat) (hdg : decode cc pc = .ok (.if_icmp .eq off, 3)) (ht : (pc : Int) + off = (tgt : Int)) (h : (-2147483648 ≤ x ∧ x < 2147483648) ∧ (-2147483648 ≤ y ∧ y < 2147483648)) (kt : x = y → W p l e R s m args below meth c H locs cells slots Q (F0 m tgt ls rest)) (kf : ¬ x = y → W p l e R s m args below meth c H locs cells slots Q (F0 m (pc + 3) ls rest)) : W p l e R s m args below meth c H locs cells slots Q (F0 m pc ls (.int (iI y) :: .int (iI x) :: rest)) :=
  lv_icmp_eq F.1 F.2.1 hdg ht (fun q => kt ((iI_eq h.1 h.2).mp (by first | exact q | (rw [iI_0]; exact q)))) (fun q => kf (fun z => q (by first | exact (iI_eq h.1 h.2).mpr z | (rw [← iI_0]; exact (iI_eq h.1 h.2).mpr z))))
theorem z_if_eq (F : CallFix p m c cc nL s args Ts own) {x : Int} {off : Int} (tgt : Nat) (hdg : decode cc pc = .ok (.ifCond .eq off, 3)) (ht : (pc : Int) + off = (tgt : Int)) (h : -2147483648 ≤ x ∧ x < 2147483648) (kt : x = 0 → W p l e R s m args below meth c H locs cells slots Q (F0 m tgt ls rest)) (kf : ¬ x = 0 → W p l e R s m args below meth c H locs cells slots Q (F0 m (pc + 3) ls rest)) : W p l e R s m args below meth c H locs cells slots Q (F0 m pc ls (.int (iI x) :: rest)) :=
  lv_if_eq F.1 F.2.1 hdg ht (fun q => kt ((iI_eq h (show -2147483648 ≤ (0 : Int) ∧ (0 : Int) < 2147483648 by omega)).mp (by first | exact q | (rw [iI_0]; exact q)))) (fun q => kf (fun z => q (by first | exact (iI_eq h (show -2147483648 ≤ (0 : Int) ∧ (0 : Int) < 2147483648 by omega)).mpr z | (rw [← iI_0]; exact (iI_eq h (show -2147483648 ≤ (0 : Int) ∧ (0 : Int) < 2147483648 by omega)).mpr z))))
theorem z_icmp_ne (F : CallFix p m c cc nL s args Ts own) {x y : Int} {off : Int} (tgt : Nat) (hdg : decode cc pc = .ok (.if_icmp .ne off, 3)) (ht : (pc : Int) + off = (tgt : Int)) (h : (-2147483648 ≤ x ∧ x < 2147483648) ∧ (-2147483648 ≤ y ∧ y < 2147483648)) (kt : ¬ x = y → W p l e R s m args below meth c H locs cells slots Q (F0 m tgt ls rest)) (kf : x = y → W p l e R s m args below meth c H locs cells slots Q (F0 m (pc + 3) ls rest)) : W p l e R s m args below meth c H locs cells slots Q (F0 m pc ls (.int (iI y) :: .int (iI x) :: rest)) :=
  lv_icmp_ne F.1 F.2.1 hdg ht (fun q => kt (fun z => q (by first | exact (iI_eq h.1 h.2).mpr z | (rw [← iI_0]; exact (iI_eq h.1 h.2).mpr z)))) (fun q => kf ((iI_eq h.1 h.2).mp (by first | exact q | (rw [iI_0]; exact q))))
theorem z_if_ne (F : CallFix p m c cc nL s args Ts own) {x : Int} {off : Int} (tgt : Nat) (hdg : decode cc pc = .ok (.ifCond .ne off, 3)) (ht : (pc : Int) + off = (tgt : Int)) (h : -2147483648 ≤ x ∧ x < 2147483648) (kt : ¬ x = 0 → W p l e R s m args below meth c H locs cells slots Q (F0 m tgt ls rest)) (kf : x = 0 → W p l e R s m args below meth c H locs cells slots Q (F0 m (pc + 3) ls rest)) : W p l e R s m args below meth c H locs cells slots Q (F0 m pc ls (.int (iI x) :: rest)) :=
  lv_if_ne F.1 F.2.1 hdg ht (fun q => kt (fun z => q (by first | exact (iI_eq h (show -2147483648 ≤ (0 : Int) ∧ (0 : Int) < 2147483648 by omega)).mpr z | (rw [← iI_0]; exact (iI_eq h (show -2147483648 ≤ (0 : Int) ∧ (0 : Int) < 2147483648 by omega)).mpr z)))) (fun q => kf ((iI_eq h (show -2147483648 ≤ (0 : Int) ∧ (0 : Int) < 2147483648 by omega)).mp (by first | exact q | (rw [iI_0]; exact q))))
theorem z_icmp_lt (F : CallFix p m c cc nL s args Ts own) {x y : Int} {off : Int} (tgt : Nat) (hdg : decode cc pc = .ok (.if_icmp .lt off, 3)) (ht : (pc : Int) + off = (tgt : Int)) (h : (-2147483648 ≤ x ∧ x < 2147483648) ∧ (-2147483648 ≤ y ∧ y < 2147483648)) (kt : x < y → W p l e R s m args below meth c H locs cells slots Q (F0 m tgt ls rest)) (kf : ¬ x < y → W p l e R s m args below meth c H locs cells slots Q (F0 m (pc + 3) ls rest)) : W p l e R s m args below meth c H locs cells slots Q (F0 m pc ls (.int (iI y) :: .int (iI x) :: rest)) :=
  lv_icmp_lt F.1 F.2.1 hdg ht (fun q => kt ((iI_lt h.1 h.2).mp (by first | exact q | (rw [iI_0]; exact q)))) (fun q => kf (fun z => q (by first | exact (iI_lt h.1 h.2).mpr z | (rw [← iI_0]; exact (iI_lt h.1 h.2).mpr z))))
theorem z_if_lt (F : CallFix p m c cc nL s args Ts own) {x : Int} {off : Int} (tgt : Nat) (hdg : decode cc pc = .ok (.ifCond .lt off, 3)) (ht : (pc : Int) + off = (tgt : Int)) (h : -2147483648 ≤ x ∧ x < 2147483648) (kt : x < 0 → W p l e R s m args below meth c H locs cells slots Q (F0 m tgt ls rest)) (kf : ¬ x < 0 → W p l e R s m args below meth c H locs cells slots Q (F0 m (pc + 3) ls rest)) : W p l e R s m args below meth c H locs cells slots Q (F0 m pc ls (.int (iI x) :: rest)) :=
  lv_if_lt F.1 F.2.1 hdg ht (fun q => kt ((iI_lt h (show -2147483648 ≤ (0 : Int) ∧ (0 : Int) < 2147483648 by omega)).mp (by first | exact q | (rw [iI_0]; exact q)))) (fun q => kf (fun z => q (by first | exact (iI_lt h (show -2147483648 ≤ (0 : Int) ∧ (0 : Int) < 2147483648 by omega)).mpr z | (rw [← iI_0]; exact (iI_lt h (show -2147483648 ≤ (0 : Int) ∧ (0 : Int) < 2147483648 by omega)).mpr z))))
theorem z_icmp_ge (F : CallFix p m c cc nL s args Ts own) {x y : Int} {off : Int} (tgt : Nat) (hdg : decode cc pc = .ok (.if_icmp .ge off, 3)) (ht : (pc : Int) + off = (tgt : Int)) (h : (-2147483648 ≤ x ∧ x < 2147483648) ∧ (-2147483648 ≤ y ∧ y < 2147483648)) (kt : y ≤ x → W p l e R s m args below meth c H locs cells slots Q (F0 m tgt ls rest)) (kf : ¬ y ≤ x → W p l e R s m args below meth c H locs cells slots Q (F0 m (pc + 3) ls rest)) : W p l e R s m args below meth c H locs cells slots Q (F0 m pc ls (.int (iI y) :: .int (iI x) :: rest)) :=
  lv_icmp_ge F.1 F.2.1 hdg ht (fun q => kt ((iI_le h.2 h.1).mp (by first | exact q | (rw [iI_0]; exact q)))) (fun q => kf (fun z => q (by first | exact (iI_le h.2 h.1).mpr z | (rw [← iI_0]; exact (iI_le h.2 h.1).mpr z))))
theorem z_if_ge (F : CallFix p m c cc nL s args Ts own) {x : Int} {off : Int} (tgt : Nat) (hdg : decode cc pc = .ok (.ifCond .ge off, 3)) (ht : (pc : Int) + off = (tgt : Int)) (h : -2147483648 ≤ x ∧ x < 2147483648) (kt : 0 ≤ x → W p l e R s m args below meth c H locs cells slots Q (F0 m tgt ls rest)) (kf : ¬ 0 ≤ x → W p l e R s m args below meth c H locs cells slots Q (F0 m (pc + 3) ls rest)) : W p l e R s m args below meth c H locs cells slots Q (F0 m pc ls (.int (iI x) :: rest)) :=
  lv_if_ge F.1 F.2.1 hdg ht (fun q => kt ((iI_le (show -2147483648 ≤ (0 : Int) ∧ (0 : Int) < 2147483648 by omega) h).mp (by first | exact q | (rw [iI_0]; exact q)))) (fun q => kf (fun z => q (by first | exact (iI_le (show -2147483648 ≤ (0 : Int) ∧ (0 : Int) < 2147483648 by omega) h).mpr z | (rw [← iI_0]; exact (iI_le (show -2147483648 ≤ (0 : Int) ∧ (0 : Int) < 2147483648 by omega) h).mpr z))))
theorem z_icmp_gt (F : CallFix p m c cc nL s args Ts own) {x y : Int} {off : Int} (tgt : Nat) (hdg : decode cc pc = .ok (.if_icmp .gt off, 3)) (ht : (pc : Int) + off = (tgt : Int)) (h : (-2147483648 ≤ x ∧ x < 2147483648) ∧ (-2147483648 ≤ y ∧ y < 2147483648)) (kt : y < x → W p l e R s m args below meth c H locs cells slots Q (F0 m tgt ls rest)) (kf : ¬ y < x → W p l e R s m args below meth c H locs cells slots Q (F0 m (pc + 3) ls rest)) : W p l e R s m args below meth c H locs cells slots Q (F0 m pc ls (.int (iI y) :: .int (iI x) :: rest)) :=
  lv_icmp_gt F.1 F.2.1 hdg ht (fun q => kt ((iI_lt h.2 h.1).mp (by first | exact q | (rw [iI_0]; exact q)))) (fun q => kf (fun z => q (by first | exact (iI_lt h.2 h.1).mpr z | (rw [← iI_0]; exact (iI_lt h.2 h.1).mpr z))))
theorem z_if_gt (F : CallFix p m c cc nL s args Ts own) {x : Int} {off : Int} (tgt : Nat) (hdg : decode cc pc = .ok (.ifCond .gt off, 3)) (ht : (pc : Int) + off = (tgt : Int)) (h : -2147483648 ≤ x ∧ x < 2147483648) (kt : 0 < x → W p l e R s m args below meth c H locs cells slots Q (F0 m tgt ls rest)) (kf : ¬ 0 < x → W p l e R s m args below meth c H locs cells slots Q (F0 m (pc + 3) ls rest)) : W p l e R s m args below meth c H locs cells slots Q (F0 m pc ls (.int (iI x) :: rest)) :=
  lv_if_gt F.1 F.2.1 hdg ht (fun q => kt ((iI_lt (show -2147483648 ≤ (0 : Int) ∧ (0 : Int) < 2147483648 by omega) h).mp (by first | exact q | (rw [iI_0]; exact q)))) (fun q => kf (fun z => q (by first | exact (iI_lt (show -2147483648 ≤ (0 : Int) ∧ (0 : Int) < 2147483648 by omega) h).mpr z | (rw [← iI_0]; exact (iI_lt (show -2147483648 ≤ (0 : Int) ∧ (0 : Int) < 2147483648 by omega) h).mpr z))))
theorem z_icmp_le (F : CallFix p m c cc nL s args Ts own) {x y : Int} {off : Int} (tgt : Nat) (hdg : decode cc pc = .ok (.if_icmp .le off, 3)) (ht : (pc : Int) + off = (tgt : Int)) (h : (-2147483648 ≤ x ∧ x < 2147483648) ∧ (-2147483648 ≤ y ∧ y < 2147483648)) (kt : x ≤ y → W p l e R s m args below meth c H locs cells slots Q (F0 m tgt ls rest)) (kf : ¬ x ≤ y → W p l e R s m args below meth c H locs cells slots Q (F0 m (pc + 3) ls rest)) : W p l e R s m args below meth c H locs cells slots Q (F0 m pc ls (.int (iI y) :: .int (iI x) :: rest)) :=
  lv_icmp_le F.1 F.2.1 hdg ht (fun q => kt ((iI_le h.1 h.2).mp (by first | exact q | (rw [iI_0]; exact q)))) (fun q => kf (fun z => q (by first | exact (iI_le h.1 h.2).mpr z | (rw [← iI_0]; exact (iI_le h.1 h.2).mpr z))))
theorem z_if_le (F : CallFix p m c cc nL s args Ts own) {x : Int} {off : Int} (tgt : Nat) (hdg : decode cc pc = .ok (.ifCond .le off, 3)) (ht : (pc : Int) + off = (tgt : Int)) (h : -2147483648 ≤ x ∧ x < 2147483648) (kt : x ≤ 0 → W p l e R s m args below meth c H locs cells slots Q (F0 m tgt ls rest)) (kf : ¬ x ≤ 0 → W p l e R s m args below meth c H locs cells slots Q (F0 m (pc + 3) ls rest)) : W p l e R s m args below meth c H locs cells slots Q (F0 m pc ls (.int (iI x) :: rest)) :=
  lv_if_le F.1 F.2.1 hdg ht (fun q => kt ((iI_le h (show -2147483648 ≤ (0 : Int) ∧ (0 : Int) < 2147483648 by omega)).mp (by first | exact q | (rw [iI_0]; exact q)))) (fun q => kf (fun z => q (by first | exact (iI_le h (show -2147483648 ≤ (0 : Int) ∧ (0 : Int) < 2147483648 by omega)).mpr z | (rw [← iI_0]; exact (iI_le h (show -2147483648 ≤ (0 : Int) ∧ (0 : Int) < 2147483648 by omega)).mpr z))))
/-! cells -/
theorem z_get (F : CallFix p m c cc nL s args Ts own) {C : String} {T : u_T} {N ci index : Nat} (hin : ∀ w ∈ u_ws C T N, w ∈ Ts) (hK : zK D cI cZ s) (hW : zW D A H0 H locs ws) (q0 k : Nat) {fs : List Value} (he : ws[q0]? = some (a, .inr (ci, fs))) (hc : vwCl[ci]? = some (C, T, N)) (hk : k < N) (hown : (T k).1 = C) (hlink : Cond.fieldLink own index C (T k).2.1 (T k).2.2.1 ∈ Ts) {v : Value} (hv : fs[k]? = some v) (hdg : decode cc pc = .ok (.getfield index, 3))
    (kk : W p l e R s m args below meth c H locs cells slots Q (F0 m (pc + 3) ls (v :: rest))) : W p l e R s m args below meth c H locs cells slots Q (F0 m pc ls (.ref a :: rest)) :=
  va_get (C := C) (T := T) (N := N) (ref := C) F.1 F.2.1 F.2.2.2.2 hin F.2.2.2.1 hK hW.1 q0 he hc k hk (F.2.2.2.2 _ hlink) (fun _ h9 => by rw [hown] at h9; exact h9) hv hdg kk
theorem z_put (F : CallFix p m c cc nL s args Ts own) {C : String} {T : u_T} {N ci index : Nat} (hin : ∀ w ∈ u_ws C T N, w ∈ Ts) (ty0 : Nat → FieldType) (hty : ∀ k, k < N → parseFieldDescriptor (T k).2.2.1 = some (ty0 k)) (hnm : ∀ a, a < N → ∀ b, b < N → a ≠ b → (T a).2.1 ≠ (T b).2.1) (hK : zK D cI cZ s) (hW : zW D A H0 H locs ws) (q0 k : Nat) {fs : List Value} {x : Int} (he : ws[q0]? = some (a, .inr (ci, fs))) (hc : vwCl[ci]? = some (C, T, N)) (hk : k < N) (hown : (T k).1 = C) (hlink : Cond.fieldLink own index C (T k).2.1 (T k).2.2.1 ∈ Ts) (hfin : (T k).2.2.2 = false) (hti : ty0 k = .int) (hl : k < fs.length) (hdg : decode cc pc = .ok (.putfield index, 3)) (hws : ws.set q0 (a, .inr (ci, fs.set k (.int (iI x)))) = ws')
    (kk : ∀ (H1 : Heap) (locs1 : List Loc), zW D A H0 H1 locs1 ws' → W p l e R s m args below meth c H1 locs1 cells slots Q (F0 m (pc + 3) ls rest)) : W p l e R s m args below meth c H locs cells slots Q (F0 m pc ls (.int (iI x) :: .ref a :: rest)) := by
  subst hws
  exact va_put (C := C) (T := T) (N := N) (ref := C) (ty := .int) F.1 F.2.1 F.2.2.2.2 hin ty0 hty hnm F.2.2.2.1 hK hW.1 hW.2.1 hW.2.2 q0 he hc k hk (F.2.2.2.2 _ hlink) (fun _ h9 => by rw [hown] at h9; exact h9) hfin (by rw [hty k hk, hti]) rfl rfl hl hdg (fun H1 locs1 h1 h2 h3 => kk H1 locs1 ⟨h1, h2, h3⟩)
theorem z_iald (F : CallFix p m c cc nL s args Ts own) (hK : zK D cI cZ s) (hW : zW D A H0 H locs ws) (q0 : Nat) {n : Nat} {f : Int → Int} {z : Int} (ha : ws[q0]? = some (a, .inl (cI, n, .inl (zA f)))) (hn : n < 2147483648) (hdg : decode cc pc = .ok (.iaload, 1)) (hz : 0 ≤ z ∧ z < (n : Int))
    (kk : W p l e R s m args below meth c H locs cells slots Q (F0 m (pc + 1) ls (.int (iI (f z)) :: rest))) : W p l e R s m args below meth c H locs cells slots Q (F0 m pc ls (.int (iI z) :: .ref a :: rest)) :=
  va_iald F.1 F.2.1 hK hW.1 q0 0 ha rfl (iI_in hz hn) hdg (by rw [zA_at f (by omega)]; exact kk)
theorem z_zald (F : CallFix p m c cc nL s args Ts own) (hK : zK D cI cZ s) (hW : zW D A H0 H locs ws) (q0 : Nat) {n : Nat} {f : Int → Int} {z : Int} (ha : ws[q0]? = some (a, .inl (cZ, n, .inl (zA f)))) (hn : n < 2147483648) (hdg : decode cc pc = .ok (.baload, 1)) (hz : 0 ≤ z ∧ z < (n : Int))
    (kk : W p l e R s m args below meth c H locs cells slots Q (F0 m (pc + 1) ls (.int (iI (f z)) :: rest))) : W p l e R s m args below meth c H locs cells slots Q (F0 m pc ls (.int (iI z) :: .ref a :: rest)) :=
  va_zald F.1 F.2.1 hK hW.1 q0 1 ha rfl (iI_in hz hn) hdg (by rw [zA_at f (by omega)]; exact kk)
theorem z_iast (F : CallFix p m c cc nL s args Ts own) (hK : zK D cI cZ s) (hW : zW D A H0 H locs ws) (q0 : Nat) {n : Nat} {f : Int → Int} {z v : Int} (ha : ws[q0]? = some (a, .inl (cI, n, .inl (zA f)))) (hn : n < 2147483648) (hdg : decode cc pc = .ok (.iastore, 1)) (hz : 0 ≤ z ∧ z < (n : Int)) (hws : ws.set q0 (a, .inl (cI, n, .inl (zA (zU f z v)))) = ws')
    (kk : ∀ (H1 : Heap) (locs1 : List Loc), zW D A H0 H1 locs1 ws' → W p l e R s m args below meth c H1 locs1 cells slots Q (F0 m (pc + 1) ls rest)) : W p l e R s m args below meth c H locs cells slots Q (F0 m pc ls (.int (iI v) :: .int (iI z) :: .ref a :: rest)) := by
  subst hws
  exact va_iast F.1 F.2.1 hK hW.1 hW.2.1 hW.2.2 q0 0 ha rfl (iI_in hz hn) hdg (fun H1 locs1 h1 h2 h3 => kk H1 locs1 (by rw [zA_upd f (by omega)] at h1 h2; exact ⟨h1, h2, h3⟩))
theorem z_zast (F : CallFix p m c cc nL s args Ts own) (hK : zK D cI cZ s) (hW : zW D A H0 H locs ws) (q0 : Nat) {n : Nat} {f : Int → Int} {z v : Int} (ha : ws[q0]? = some (a, .inl (cZ, n, .inl (zA f)))) (hn : n < 2147483648) (hdg : decode cc pc = .ok (.bastore, 1)) (hz : 0 ≤ z ∧ z < (n : Int)) (hv : v = 0 ∨ v = 1) (hws : ws.set q0 (a, .inl (cZ, n, .inl (zA (zU f z v)))) = ws')
    (kk : ∀ (H1 : Heap) (locs1 : List Loc), zW D A H0 H1 locs1 ws' → W p l e R s m args below meth c H1 locs1 cells slots Q (F0 m (pc + 1) ls rest)) : W p l e R s m args below meth c H locs cells slots Q (F0 m pc ls (.int (iI v) :: .int (iI z) :: .ref a :: rest)) := by
  subst hws
  exact va_zast F.1 F.2.1 hK hW.1 hW.2.1 hW.2.2 q0 1 ha rfl (iI_in hz hn) hdg (fun H1 locs1 h1 h2 h3 => kk H1 locs1 (by rw [iI_and1 hv, zA_upd f (by omega)] at h1 h2; exact ⟨h1, h2, h3⟩))
theorem z_alen (F : CallFix p m c cc nL s args Ts own) (hK : zK D cI cZ s) (hW : zW D A H0 H locs ws) (q0 : Nat) {n : Nat} {x : (Nat → Int32) ⊕ (Nat → Int64) ⊕ (Nat → UInt32) ⊕ (Nat → UInt64) ⊕ (Nat → Option Nat)} (ha : ws[q0]? = some (a, .inl (cI, n, x))) (hdg : decode cc pc = .ok (.arraylength, 1))
    (kk : W p l e R s m args below meth c H locs cells slots Q (F0 m (pc + 1) ls (.int (iI (n : Int)) :: rest))) : W p l e R s m args below meth c H locs cells slots Q (F0 m pc ls (.ref a :: rest)) :=
  va_alen F.1 F.2.1 hK hW.1 q0 0 ha rfl (v := iI (n : Int)) (by unfold iI; exact (Int32.ofInt_eq_ofNat).symm) hdg kk
theorem z_mmax (F : CallFix p m c cc nL s args Ts own) (hl : ls.size = nL) {index : Nat} (h1 : Cond.methodLink own index Lib.Math.max.name ∈ Ts) (h2 : Cond.static Lib.Math.max.name ∈ Ts) (h3 : Cond.initialized "java/lang/Math" ∈ Ts) (h4 : Cond.code Lib.Math.max.name Lib.Math.max.code 2 (some .int) ∈ Ts) (hframes : 1 ≤ R.frames) (hlocals : (rest.map fun v => v.category).sum + 13 ≤ R.locals) (hc : cells ≤ R.cells) (hs : slots ≤ R.slots) {x y : Int} (hdg : decode cc pc = .ok (.invokestatic index, 3)) (hr : (-2147483648 ≤ x ∧ x < 2147483648) ∧ (-2147483648 ≤ y ∧ y < 2147483648))
    (kk : W p l e R s m args below meth c H locs cells slots Q (F0 m (pc + 3) ls (.int (iI (max x y)) :: rest))) : W p l e R s m args below meth c H locs cells slots Q (F0 m pc ls (.int (iI y) :: .int (iI x) :: rest)) :=
  va_mmax F.1 F.2.1 (F.2.2.1.trans hl.symm) F.2.2.2.1 (F.2.2.2.2 _ h1) (F.2.2.2.2 _ h2) (F.2.2.2.2 _ h3) (F.2.2.2.2 _ h4) hframes hlocals hc hs hdg (by
    have e : (if iI x < iI y then iI y else iI x) = iI (max x y) := by
      by_cases q : x < y
      · rw [if_pos ((iI_lt hr.1 hr.2).mpr q), show max x y = y by omega]
      · rw [if_neg (fun z => q ((iI_lt hr.1 hr.2).mp z)), show max x y = x by omega]
    rw [e]; exact kk)
theorem z_mmin (F : CallFix p m c cc nL s args Ts own) (hl : ls.size = nL) {index : Nat} (h1 : Cond.methodLink own index Lib.Math.min.name ∈ Ts) (h2 : Cond.static Lib.Math.min.name ∈ Ts) (h3 : Cond.initialized "java/lang/Math" ∈ Ts) (h4 : Cond.code Lib.Math.min.name Lib.Math.min.code 2 (some .int) ∈ Ts) (hframes : 1 ≤ R.frames) (hlocals : (rest.map fun v => v.category).sum + 13 ≤ R.locals) (hc : cells ≤ R.cells) (hs : slots ≤ R.slots) {x y : Int} (hdg : decode cc pc = .ok (.invokestatic index, 3)) (hr : (-2147483648 ≤ x ∧ x < 2147483648) ∧ (-2147483648 ≤ y ∧ y < 2147483648))
    (kk : W p l e R s m args below meth c H locs cells slots Q (F0 m (pc + 3) ls (.int (iI (min x y)) :: rest))) : W p l e R s m args below meth c H locs cells slots Q (F0 m pc ls (.int (iI y) :: .int (iI x) :: rest)) :=
  va_mmin F.1 F.2.1 (F.2.2.1.trans hl.symm) F.2.2.2.1 (F.2.2.2.2 _ h1) (F.2.2.2.2 _ h2) (F.2.2.2.2 _ h3) (F.2.2.2.2 _ h4) hframes hlocals hc hs hdg (by
    have e : (if iI y < iI x then iI y else iI x) = iI (min x y) := by
      by_cases q : y < x
      · rw [if_pos ((iI_lt hr.2 hr.1).mpr q), show min x y = y by omega]
      · rw [if_neg (fun z => q ((iI_lt hr.2 hr.1).mp z)), show min x y = x by omega]
    rw [e]; exact kk)
theorem z_mabs (F : CallFix p m c cc nL s args Ts own) (hl : ls.size = nL) {index : Nat} (h1 : Cond.methodLink own index Lib.Math.abs.name ∈ Ts) (h2 : Cond.static Lib.Math.abs.name ∈ Ts) (h3 : Cond.initialized "java/lang/Math" ∈ Ts) (h4 : Cond.code Lib.Math.abs.name Lib.Math.abs.code 1 (some .int) ∈ Ts) (hframes : 1 ≤ R.frames) (hlocals : (rest.map fun v => v.category).sum + 13 ≤ R.locals) (hc : cells ≤ R.cells) (hs : slots ≤ R.slots) {x : Int} (hdg : decode cc pc = .ok (.invokestatic index, 3)) (hr : -2147483648 ≤ x ∧ x < 2147483648)
    (kk : W p l e R s m args below meth c H locs cells slots Q (F0 m (pc + 3) ls (.int (iI (x.natAbs : Int)) :: rest))) : W p l e R s m args below meth c H locs cells slots Q (F0 m pc ls (.int (iI x) :: rest)) :=
  va_mabs F.1 F.2.1 (F.2.2.1.trans hl.symm) F.2.2.2.1 (F.2.2.2.2 _ h1) (F.2.2.2.2 _ h2) (F.2.2.2.2 _ h3) (F.2.2.2.2 _ h4) hframes hlocals hc hs hdg (by
    have e : (if 0 ≤ iI x then iI x else 0 - iI x) = iI (x.natAbs : Int) := by
      rw [← iI_0]
      by_cases q : 0 ≤ x
      · rw [if_pos ((iI_le (by omega) hr).mpr q), show (x.natAbs : Int) = x by omega]
      · rw [if_neg (fun z => q ((iI_le (by omega) hr).mp z)), iI_sub, show (x.natAbs : Int) = 0 - x by omega]
    rw [e]; exact kk)
theorem z_lcmp (F : CallFix p m c cc nL s args Ts own) {x y : Int} (hdg : decode cc pc = .ok (.lcmp, 1)) (hr : (-9223372036854775808 ≤ x ∧ x < 9223372036854775808) ∧ (-9223372036854775808 ≤ y ∧ y < 9223372036854775808))
    (kk : ∀ q : Int, (x < y → q = -1) → (x = y → q = 0) → (y < x → q = 1) → W p l e R s m args below meth c H locs cells slots Q (F0 m (pc + 1) ls (.int (iI q) :: rest))) : W p l e R s m args below meth c H locs cells slots Q (F0 m pc ls (.long (lI y) :: .long (lI x) :: rest)) := by
  refine W.lcmp F.1 F.2.1 hdg ?_
  by_cases h1 : y < x
  · have e : lg_cmp (lI x) (lI y) = iI 1 := by
      have := (lI_lt hr.2 hr.1).mpr h1
      simp [lg_cmp, this]; decide +kernel
    rw [e]; exact kk 1 (fun _ => by omega) (fun _ => by omega) (fun _ => rfl)
  · by_cases h2 : x = y
    · have e : lg_cmp (lI x) (lI y) = iI 0 := by subst h2; simp [lg_cmp]; decide +kernel
      rw [e]; exact kk 0 (fun _ => by omega) (fun _ => rfl) (fun _ => by omega)
    · have e : lg_cmp (lI x) (lI y) = iI (-1) := by
        have g1 : ¬ lI y < lI x := fun z => h1 ((lI_lt hr.2 hr.1).mp z)
        have g2 : ¬ lI x = lI y := fun z => h2 ((lI_eq hr.1 hr.2).mp z)
        simp [lg_cmp, g1, g2]; decide +kernel
      rw [e]; exact kk (-1) (fun _ => rfl) (fun h => absurd h h2) (fun h => absurd h h1)
/-- a value under another name -/
theorem z_eqi {x y : Int} (h : x = y) (kk : W p l e R s m args below meth c H locs cells slots Q (F0 m pc ls (.int (iI y) :: rest))) : W p l e R s m args below meth c H locs cells slots Q (F0 m pc ls (.int (iI x) :: rest)) := by rw [h]; exact kk
theorem z_eql {x y : Int} (h : x = y) (kk : W p l e R s m args below meth c H locs cells slots Q (F0 m pc ls (.long (lI y) :: rest))) : W p l e R s m args below meth c H locs cells slots Q (F0 m pc ls (.long (lI x) :: rest)) := by rw [h]; exact kk
theorem z_nmi {x : Int} (kk : ∀ z : Int, z = x → W p l e R s m args below meth c H locs cells slots Q (F0 m pc ls (.int (iI z) :: rest))) : W p l e R s m args below meth c H locs cells slots Q (F0 m pc ls (.int (iI x) :: rest)) := kk x rfl
theorem z_nml {x : Int} (kk : ∀ z : Int, z = x → W p l e R s m args below meth c H locs cells slots Q (F0 m pc ls (.long (lI z) :: rest))) : W p l e R s m args below meth c H locs cells slots Q (F0 m pc ls (.long (lI x) :: rest)) := kk x rfl
end ZK
end
section
/-! a contract's frame, and calls, over the worlds of part 04 -/
theorem z_narrow_b {z : Int} (h : z = 0 ∨ z = 1) : narrow .boolean (.int (iI z)) = .int (iI z) := by
  rcases h with rfl | rfl <;> decide +kernel
theorem z_ofW {l : Launch} {y : MethodName} {ws ws' : List Cond} {rm : Room} {Pc : Array Value → State → Prop} {Qc : Array Value → State → Outcome → State → Prop} {mc ms : Nat} {free : Addr → Prop} {cc : ByteArray} {maxL : Nat} {ret : Option FieldType}
    (hy : plainFor y = true) (hw : ws = Cond.code y cc maxL ret :: ws')
    (body : ∀ p e s m args below meth c s₁, BodyLoose p l y (headSpec ws rm) cc maxL ret e s m args below meth c s₁ → c.maxLocals = maxL → Pc args s →
      W p l e (headSpec ws rm).room s m args below meth c s.heap [] 0 0 (MQ below Qc args s mc ms free) (entryFrame m args maxL)) : Met l y ws rm Pc Qc mc ms free := by
  refine MetFree.of_bodySF (code := cc) (maxLocals := maxL) (ret := ret) hy ?_ ?_
  · intro args s m h hn
    obtain ⟨meth, c, h1, h2, h3, h4, h5, h6, -, -⟩ := Cond.code_spec hn (atoms_spec (ws := ws) h _ (by rw [hw]; exact List.mem_cons_self))
    exact ⟨meth, c, h1, h2, h3, h4, h5, h6⟩
  · intro p e s m args below meth c s₁ B hml hP _
    have hh0 : s₁.heap = s.heap := by rw [B.state]; rfl
    obtain ⟨t, a1, o, b1, b2, b3⟩ := body p e s m args below meth c s₁ B hml hP s₁ hh0 (Stand.of_body B)
    exact ⟨t, o, a1, b1, b2, ⟨b3.1, b3.2⟩⟩
theorem z_start {l : Launch} {y : MethodName} {wsy ws' : List Cond} {rm : Room} {cc : ByteArray} {maxL : Nat} {ret : Option FieldType} {D : va_G} {cI cZ : ClassId} {av : List Value} {Wc : va_W} {sz : Nat} {Qc : Array Value → State → Outcome → State → Prop} {mc ms : Nat}
    (hy : plainFor y = true) (hw : wsy = Cond.code y cc maxL ret :: ws') (hlen : (lg_sl av).length ≤ maxL)
    (body : ∀ (p : Program) (e : Env) (s : State) (m : MethodId) (below : List Frame) (meth : Method) (c : Code) (ls : Array Slot), s.heap.size = sz → meth.sig.returnType = ret → meth.locks = false → (y.name = "<init>" → meth.name = "<init>") →
      CallFix p m c cc maxL s av.toArray wsy y.cls → zK D cI cZ s → zW D (va_A Wc sz) s.heap s.heap [] Wc → (∀ q : Nat, s.heap.size ≤ q → va_A Wc sz q) → lv_has ls maxL (lv_args 0 av) →
      W p l e rm s m av.toArray below meth c s.heap [] 0 0 (MQ below Qc av.toArray s mc ms (va_A Wc sz)) (F0 m 0 ls [])) :
    Met l y wsy rm (zPc D cI cZ av Wc sz) Qc mc ms (va_A Wc sz) := by
  refine z_ofW (cc := cc) (maxL := maxL) (ret := ret) hy hw ?_
  intro p e s m args below meth c s₁ B hml hv
  obtain ⟨rfl, hsz, hP, hK, hD0⟩ := hv
  have hts := atoms_spec (ws := wsy) B.pre
  have hown : s.vm.findClass y.cls = some m.cls := findClass_of_methodNamed B.named
  have hl := lv_entry av (n := maxL) hlen
  rw [lg_entry_eq]
  subst hsz
  refine body p e s m below meth c _ rfl B.returns B.notSynchronized (fun h => ?_) ⟨B.exec, B.bytes, hml, hown, hts⟩ hK ⟨hP, hD0.self, va_S.rf⟩ (fun q h => Or.inr h) hl
  rw [← h]
  exact (name_of_methodNamed B.named B.method).1
theorem z_ofI {S : Type} {l : Launch} {y : MethodName} {wsy ws' : List Cond} {rm : Room} {cc : ByteArray} {maxL : Nat} {ty : FieldType} {D : va_G} {cI cZ : ClassId} {av : List Value} {Wc : va_W} {sz : Nat} {post : Int → S → Prop} {W' : S → va_W}
    (hy : plainFor y = true) (hw : wsy = Cond.code y cc maxL (some ty) :: ws') (hlen : (lg_sl av).length ≤ maxL) (hty : ty = .int ∨ (ty = .boolean ∧ ∀ z u, post z u → z = 0 ∨ z = 1))
    (body : ∀ (p : Program) (e : Env) (s : State) (m : MethodId) (below : List Frame) (meth : Method) (c : Code) (A : Nat → Prop) (ls : Array Slot) (Q : State → Prop),
      CallFix p m c cc maxL s av.toArray wsy y.cls → zK D cI cZ s → zW D A s.heap s.heap [] Wc → (∀ q : Nat, s.heap.size ≤ q → A q) → lv_has ls maxL (lv_args 0 av) →
      (∀ (H : Heap) (locs : List Loc) (pc : Nat) (ls' : Array Slot) (z : Int) (u : S), decode cc pc = .ok (.ireturn, 1) → (-2147483648 ≤ z ∧ z < 2147483648) → post z u → zW D A s.heap H locs (W' u) → W p l e rm s m av.toArray below meth c H locs 0 0 Q (F0 m pc ls' [.int (iI z)])) →
      W p l e rm s m av.toArray below meth c s.heap [] 0 0 Q (F0 m 0 ls [])) :
    Met l y wsy rm (zPc D cI cZ av Wc sz) (zQi D cI cZ Wc sz post W') 0 0 (va_A Wc sz) := by
  refine z_start hy hw hlen ?_
  intro p e s m below meth c ls hsz hr hlk _ F hK hW hA hl
  refine body p e s m below meth c _ ls _ F hK hW hA hl ?_
  intro H locs pc ls' z u hd hz hp hW'
  have hn : narrow ty (.int (iI z)) = .int (iI z) := by
    rcases hty with rfl | ⟨rfl, h01⟩
    · rfl
    · exact z_narrow_b (h01 z u hp)
  exact W.zret F.1 F.2.1 hr hn (fun t ht hWm => ⟨⟨iI z, (z, u), rfl, ⟨rfl, hz, hp⟩, by rw [ht]; exact hW'.1, zK.moved hWm.alike hK, hW'.2.1⟩, hW'.2.2.F ht⟩) hW'.2.2.2.2 hd hlk
theorem z_ofV {S : Type} {l : Launch} {y : MethodName} {wsy ws' : List Cond} {rm : Room} {cc : ByteArray} {maxL : Nat} {D : va_G} {cI cZ : ClassId} {av : List Value} {Wc : va_W} {sz : Nat} {post : S → Prop} {W' : S → va_W}
    (hy : plainFor y = true) (hw : wsy = Cond.code y cc maxL none :: ws') (hlen : (lg_sl av).length ≤ maxL)
    (body : ∀ (p : Program) (e : Env) (s : State) (m : MethodId) (below : List Frame) (meth : Method) (c : Code) (A : Nat → Prop) (ls : Array Slot) (Q : State → Prop),
      CallFix p m c cc maxL s av.toArray wsy y.cls → zK D cI cZ s → zW D A s.heap s.heap [] Wc → (∀ q : Nat, s.heap.size ≤ q → A q) → lv_has ls maxL (lv_args 0 av) →
      (∀ (H : Heap) (locs : List Loc) (pc : Nat) (ls' : Array Slot) (u : S), decode cc pc = .ok (.return_, 1) → post u → zW D A s.heap H locs (W' u) → W p l e rm s m av.toArray below meth c H locs 0 0 Q (F0 m pc ls' [])) →
      W p l e rm s m av.toArray below meth c s.heap [] 0 0 Q (F0 m 0 ls [])) :
    Met l y wsy rm (zPc D cI cZ av Wc sz) (zQv D cI cZ Wc sz post W') 0 0 (va_A Wc sz) := by
  refine z_start hy hw hlen ?_
  intro p e s m below meth c ls hsz hr hlk _ F hK hW hA hl
  refine body p e s m below meth c _ ls _ F hK hW hA hl ?_
  intro H locs pc ls' u hd hp hW'
  exact W.vret F.1 F.2.1 hr (fun t ht hWm => ⟨⟨u, rfl, hp, by rw [ht]; exact hW'.1, zK.moved hWm.alike hK, hW'.2.1⟩, hW'.2.2.F ht⟩) hW'.2.2.2.2 hd hlk
theorem z_ofL {S : Type} {l : Launch} {y : MethodName} {wsy ws' : List Cond} {rm : Room} {cc : ByteArray} {maxL : Nat} {D : va_G} {cI cZ : ClassId} {av : List Value} {Wc : va_W} {sz : Nat} {post : Int → S → Prop} {W' : S → va_W}
    (hy : plainFor y = true) (hw : wsy = Cond.code y cc maxL (some .long) :: ws') (hlen : (lg_sl av).length ≤ maxL)
    (body : ∀ (p : Program) (e : Env) (s : State) (m : MethodId) (below : List Frame) (meth : Method) (c : Code) (A : Nat → Prop) (ls : Array Slot) (Q : State → Prop),
      CallFix p m c cc maxL s av.toArray wsy y.cls → zK D cI cZ s → zW D A s.heap s.heap [] Wc → (∀ q : Nat, s.heap.size ≤ q → A q) → lv_has ls maxL (lv_args 0 av) →
      (∀ (H : Heap) (locs : List Loc) (pc : Nat) (ls' : Array Slot) (z : Int) (u : S), decode cc pc = .ok (.lreturn, 1) → (-9223372036854775808 ≤ z ∧ z < 9223372036854775808) → post z u → zW D A s.heap H locs (W' u) → W p l e rm s m av.toArray below meth c H locs 0 0 Q (F0 m pc ls' [.long (lI z)])) →
      W p l e rm s m av.toArray below meth c s.heap [] 0 0 Q (F0 m 0 ls [])) :
    Met l y wsy rm (zPc D cI cZ av Wc sz) (zQl D cI cZ Wc sz post W') 0 0 (va_A Wc sz) := by
  refine z_start hy hw hlen ?_
  intro p e s m below meth c ls hsz hr hlk _ F hK hW hA hl
  refine body p e s m below meth c _ ls _ F hK hW hA hl ?_
  intro H locs pc ls' z u hd hz hp hW'
  exact W.lret F.1 F.2.1 hr (fun t ht hWm => ⟨⟨lI z, (z, u), rfl, ⟨rfl, hz, hp⟩, by rw [ht]; exact hW'.1, zK.moved hWm.alike hK, hW'.2.1⟩, hW'.2.2.F ht⟩) hW'.2.2.2.2 hd hlk
/-- behind a call, each cell at its own place again -/
theorem z_back {D : va_G} {A : Nat → Prop} {H0 H H1 : Heap} {locs locs1 : List Loc} {ws wc wr w1 ws' : va_W} (hW : zW D A H0 H locs ws) (hA : ∀ q, H0.size ≤ q → A q) (isC isR perm : List Nat) (hC : isC.map (fun i => ws[i]?) = wc.map some) (hR : isR.map (fun i => ws[i]?) = wr.map some) (hn : va_nd isR = true) (hdis : ∀ i ∈ isR, i ∉ isC) (hp : perm.map (fun i => (wr ++ w1)[i]?) = ws'.map some) (hpn : va_nd perm = true)
    (hk : ∀ q : Nat, q < H.size → ¬ va_A wc H.size q → H1[q]? = H[q]?) (hP1 : va_P D vwCl w1 H1) (hD1 : va_D (va_A wc H.size) w1) (hS : va_S A H0 H1 locs1) : zW D A H0 H1 locs1 ws' := by
  obtain ⟨h1, h2⟩ := va_join hW.1 hW.2.1 isC isR hC hR hn hdis hk (va_free hW.2.1 hW.2.2 hA isC hC) hP1 hD1
  refine ⟨?_, h2.sub perm hpn hp, hS⟩
  intro k q hq
  have e1 : (perm.map (fun i => (wr ++ w1)[i]?))[k]? = some (some q) := by rw [hp, List.getElem?_map, hq]; rfl
  rw [List.getElem?_map] at e1
  cases hi : perm[k]? with
  | none => rw [hi] at e1; cases e1
  | some i => rw [hi] at e1; exact h1 i q (Option.some.inj e1)
theorem z_subP {D : va_G} {H : Heap} {ws wc : va_W} (h : va_P D vwCl ws H) (isC : List Nat) (hC : isC.map (fun i => ws[i]?) = wc.map some) : va_P D vwCl wc H := by
  intro k q hq
  have e1 : (isC.map (fun i => ws[i]?))[k]? = some (some q) := by rw [hC, List.getElem?_map, hq]; rfl
  rw [List.getElem?_map] at e1
  cases hi : isC[k]? with
  | none => rw [hi] at e1; cases e1
  | some i => rw [hi] at e1; exact h i q (Option.some.inj e1)
section ZC
variable {p : Program} {l : Launch} {e : Env} {R : Room} {s : State} {m : MethodId} {args : Array Value} {below : List Frame} {meth : Method} {c : Code} {H : Heap} {locs : List Loc} {cells slots : Nat} {Q : State → Prop}
variable {cc bytes : ByteArray} {pc nL maxL n index : Nat} {ls : Array Slot} {st rest As : List Value} {own C : String} {Ts wsy : List Cond} {rm : Room} {y : MethodName} {rt : FieldType}
variable {D : va_G} {cI cZ : ClassId} {A : Nat → Prop} {H0 : Heap} {ws wc wr : va_W} {b : Nat}
theorem z_callVi {S : Type} {post : Int → S → Prop} {W' ws' : S → va_W} (F : CallFix p m c cc nL s args Ts own) (hK : zK D cI cZ s) (hW : zW D A H0 H locs ws) (hA : ∀ q, H0.size ≤ q → A q)
    (hM : Met l y wsy rm (zPc D cI cZ (Value.ref b :: As) wc H.size) (zQi D cI cZ wc H.size post W') 0 0 (va_A wc H.size)) (cw : CallW R s args own C index y bytes maxL (some rt) wsy rm 0 0 n)
    (isC isR perm : List Nat) (hC : isC.map (fun i => ws[i]?) = wc.map some) (hR : isR.map (fun i => ws[i]?) = wr.map some) (hn : va_nd isR = true) (hdis : ∀ i ∈ isR, i ∉ isC) (hndC : va_nd isC = true) (hp : ∀ u, perm.map (fun i => (wr ++ W' u)[i]?) = (ws' u).map some) (hpn : va_nd perm = true)
    {q0 ci : Nat} {fs : List Value} {qc : vw_C} (hb0 : ws[q0]? = some (b, .inr (ci, fs))) (hcl : vwCl[ci]? = some qc) (hqc : qc.1 = C)
    (hst : st = As.reverse ++ .ref b :: rest) (hAn : As.length = n) (hsz : ls.size = nL) (h8 : (rest.map fun v => v.category).sum ≤ 8) (hdg : decode cc pc = .ok (.invokevirtual index, 3)) (hf : cells ≤ R.cells ∧ slots ≤ R.slots)
    (kk : ∀ (z : Int) (u : S) (H1 : Heap) (locs1 : List Loc), (-2147483648 ≤ z ∧ z < 2147483648) → post z u → zW D A H0 H1 locs1 (ws' u) → W p l e R s m args below meth c H1 locs1 cells slots Q (F0 m (pc + 3) ls (.int (iI z) :: rest))) : W p l e R s m args below meth c H locs cells slots Q (F0 m pc ls st) := by
  subst hqc
  have hPc := z_subP hW.1 isC hC
  have hDc := hW.2.1.sub isC hndC hC
  have hFc := va_free hW.2.1 hW.2.2 hA isC hC
  refine va_calli (va_runV (As := As) (rest := rest) F hM cw ⟨zPc_blind, va_recv hK hW.1 hcl hb0, fun U hU hWm => ⟨rfl, by rw [hU], by rw [hU]; exact hPc, zK.moved hWm.alike hK, hDc.weaken (fun _ _ _ _ => trivial)⟩⟩ rfl hAn hsz hst (lv_room h8) hdg ⟨hf.1, hf.2⟩) hW.2.2 (fun q _ h => hFc q h) hFc ?_
  intro r u t H1 locs1 ht hvm hw hB hz1 hk1 hS
  obtain ⟨z, u⟩ := u
  obtain ⟨rfl, hz, hpost⟩ := hw
  obtain ⟨hP1, hK1, hD1⟩ := hB
  rw [ht] at hP1
  exact kk z u H1 locs1 hz hpost (z_back hW hA isC isR perm hC hR hn hdis (hp u) hpn hk1 hP1 hD1 hS)
theorem z_callVv {S : Type} {post : S → Prop} {W' ws' : S → va_W} (F : CallFix p m c cc nL s args Ts own) (hK : zK D cI cZ s) (hW : zW D A H0 H locs ws) (hA : ∀ q, H0.size ≤ q → A q)
    (hM : Met l y wsy rm (zPc D cI cZ (Value.ref b :: As) wc H.size) (zQv D cI cZ wc H.size post W') 0 0 (va_A wc H.size)) (cw : CallW R s args own C index y bytes maxL none wsy rm 0 0 n)
    (isC isR perm : List Nat) (hC : isC.map (fun i => ws[i]?) = wc.map some) (hR : isR.map (fun i => ws[i]?) = wr.map some) (hn : va_nd isR = true) (hdis : ∀ i ∈ isR, i ∉ isC) (hndC : va_nd isC = true) (hp : ∀ u, perm.map (fun i => (wr ++ W' u)[i]?) = (ws' u).map some) (hpn : va_nd perm = true)
    {q0 ci : Nat} {fs : List Value} {qc : vw_C} (hb0 : ws[q0]? = some (b, .inr (ci, fs))) (hcl : vwCl[ci]? = some qc) (hqc : qc.1 = C)
    (hst : st = As.reverse ++ .ref b :: rest) (hAn : As.length = n) (hsz : ls.size = nL) (h8 : (rest.map fun v => v.category).sum ≤ 8) (hdg : decode cc pc = .ok (.invokevirtual index, 3)) (hf : cells ≤ R.cells ∧ slots ≤ R.slots)
    (kk : ∀ (u : S) (H1 : Heap) (locs1 : List Loc), post u → zW D A H0 H1 locs1 (ws' u) → W p l e R s m args below meth c H1 locs1 cells slots Q (F0 m (pc + 3) ls rest)) : W p l e R s m args below meth c H locs cells slots Q (F0 m pc ls st) := by
  subst hqc
  have hPc := z_subP hW.1 isC hC
  have hDc := hW.2.1.sub isC hndC hC
  have hFc := va_free hW.2.1 hW.2.2 hA isC hC
  refine va_callv (va_runV (As := As) (rest := rest) F hM cw ⟨zPc_blind, va_recv hK hW.1 hcl hb0, fun U hU hWm => ⟨rfl, by rw [hU], by rw [hU]; exact hPc, zK.moved hWm.alike hK, hDc.weaken (fun _ _ _ _ => trivial)⟩⟩ rfl hAn hsz hst (lv_room h8) hdg ⟨hf.1, hf.2⟩) hW.2.2 (fun q _ h => hFc q h) hFc ?_
  intro u t H1 locs1 ht hvm hw hB hz1 hk1 hS
  obtain ⟨hP1, hK1, hD1⟩ := hB
  rw [ht] at hP1
  exact kk u H1 locs1 hw (z_back hW hA isC isR perm hC hR hn hdis (hp u) hpn hk1 hP1 hD1 hS)
/-- a static method of numbers alone: no cell is its own -/
theorem z_callSi {post : Int → Unit → Prop} (F : CallFix p m c cc nL s args Ts own) (hK : zK D cI cZ s) (hW : zW D A H0 H locs ws) (hA : ∀ q, H0.size ≤ q → A q)
    (hM : Met l y wsy rm (zPc D cI cZ As [] H.size) (zQi D cI cZ [] H.size post (fun _ => [])) 0 0 (va_A [] H.size)) (cw : CallB R s args own index y bytes maxL (some rt) wsy rm 0 0 n ∧ (Cond.static y).before args s = true)
    (hst : st = As.reverse ++ rest) (hAn : As.length = n) (hsz : ls.size = nL) (h8 : (rest.map fun v => v.category).sum ≤ 8) (hdg : decode cc pc = .ok (.invokestatic index, 3)) (hf : cells ≤ R.cells ∧ slots ≤ R.slots)
    (kk : ∀ (z : Int) (H1 : Heap) (locs1 : List Loc), (-2147483648 ≤ z ∧ z < 2147483648) → post z () → zW D A H0 H1 locs1 ws → W p l e R s m args below meth c H1 locs1 cells slots Q (F0 m (pc + 3) ls (.int (iI z) :: rest))) : W p l e R s m args below meth c H locs cells slots Q (F0 m pc ls st) := by
  have hFc : ∀ q, va_A [] H.size q → A q := va_free hW.2.1 hW.2.2 hA [] rfl
  refine va_calli (va_runS (As := As) (rest := rest) F hM cw ⟨zPc_blind, fun U hU hWm => ⟨rfl, by rw [hU], fun k q h => by simp at h, zK.moved hWm.alike hK, ⟨fun i j x y h => by simp at h, fun k q h => by simp at h⟩⟩⟩ rfl hAn hsz hst (lv_room h8) hdg ⟨hf.1, hf.2⟩) hW.2.2 (fun q _ h => hFc q h) hFc ?_
  intro r u t H1 locs1 ht hvm hw hB hz1 hk1 hS
  obtain ⟨z, u⟩ := u
  obtain ⟨rfl, hz, hpost⟩ := hw
  refine kk z H1 locs1 hz hpost ⟨hW.1.kept (fun k q hq => hk1 q.1 ((hW.1 k q hq).lt) (fun h => ?_)), hW.2.1, hS⟩
  rcases h with ⟨k2, e2, h2⟩ | h2
  · simp at h2
  · have := (hW.1 k q hq).lt
    omega
theorem z_callSl {post : Int → Unit → Prop} (F : CallFix p m c cc nL s args Ts own) (hK : zK D cI cZ s) (hW : zW D A H0 H locs ws) (hA : ∀ q, H0.size ≤ q → A q)
    (hM : Met l y wsy rm (zPc D cI cZ As [] H.size) (zQl D cI cZ [] H.size post (fun _ => [])) 0 0 (va_A [] H.size)) (cw : CallB R s args own index y bytes maxL (some rt) wsy rm 0 0 n ∧ (Cond.static y).before args s = true)
    (hst : st = As.reverse ++ rest) (hAn : As.length = n) (hsz : ls.size = nL) (h8 : (rest.map fun v => v.category).sum ≤ 8) (hdg : decode cc pc = .ok (.invokestatic index, 3)) (hf : cells ≤ R.cells ∧ slots ≤ R.slots)
    (kk : ∀ (z : Int) (H1 : Heap) (locs1 : List Loc), (-9223372036854775808 ≤ z ∧ z < 9223372036854775808) → post z () → zW D A H0 H1 locs1 ws → W p l e R s m args below meth c H1 locs1 cells slots Q (F0 m (pc + 3) ls (.long (lI z) :: rest))) : W p l e R s m args below meth c H locs cells slots Q (F0 m pc ls st) := by
  have hFc : ∀ q, va_A [] H.size q → A q := va_free hW.2.1 hW.2.2 hA [] rfl
  refine va_calll (va_runS (As := As) (rest := rest) F hM cw ⟨zPc_blind, fun U hU hWm => ⟨rfl, by rw [hU], fun k q h => by simp at h, zK.moved hWm.alike hK, ⟨fun i j x y h => by simp at h, fun k q h => by simp at h⟩⟩⟩ rfl hAn hsz hst (lv_room h8) hdg ⟨hf.1, hf.2⟩) hW.2.2 (fun q _ h => hFc q h) hFc ?_
  intro r u t H1 locs1 ht hvm hw hB hz1 hk1 hS
  obtain ⟨z, u⟩ := u
  obtain ⟨rfl, hz, hpost⟩ := hw
  refine kk z H1 locs1 hz hpost ⟨hW.1.kept (fun k q hq => hk1 q.1 ((hW.1 k q hq).lt) (fun h => ?_)), hW.2.1, hS⟩
  rcases h with ⟨k2, e2, h2⟩ | h2
  · simp at h2
  · have := (hW.1 k q hq).lt
    omega
/-- arraycopy between two int arrays of the world (or within one) -/
def zC (f g : Int → Int) (sp dp n : Int) : Int → Int := fun j => if dp ≤ j ∧ j < dp + n then f (sp + (j - dp)) else g j
theorem zA_cpy (f g : Int → Int) {sp dp n : Int} (h1 : 0 ≤ sp ∧ sp < 2147483648) (h2 : 0 ≤ dp ∧ dp < 2147483648) (h3 : 0 ≤ n ∧ n < 2147483648) : va_cpy (zA f) (zA g) (iI sp).toNatClampNeg (iI dp).toNatClampNeg (iI n).toNatClampNeg = zA (zC f g sp dp n) := by
  have e1 := iI_cl h1
  have e2 := iI_cl h2
  have e3 := iI_cl h3
  funext k
  unfold va_cpy zA zC
  by_cases hk : (iI dp).toNatClampNeg ≤ k ∧ k < (iI dp).toNatClampNeg + (iI n).toNatClampNeg
  · rw [if_pos hk, if_pos (by omega), show (((iI sp).toNatClampNeg + (k - (iI dp).toNatClampNeg) : Nat) : Int) = sp + ((k : Int) - dp) by omega]
  · rw [if_neg hk, if_neg (by omega)]
theorem z_copyi (F : CallFix p m c cc nL s args Ts own) (hK : zK D cI cZ s) (hW : zW D A H0 H locs ws) (hl : ls.size = nL) {index : Nat} (w1 : Cond.methodLink own index arraycopyName ∈ Ts) (w2 : Cond.native arraycopyName ∈ Ts) (w3 : Cond.static arraycopyName ∈ Ts) (w4 : Cond.initialized "java/lang/System" ∈ Ts) (q0 q1 : Nat) {a0 a1 n0 n1 : Nat} {f g : Int → Int} {sp dp n : Int} {ws' : va_W} (ha0 : ws[q0]? = some (a0, .inl (cI, n0, .inl (zA f)))) (ha1 : ws[q1]? = some (a1, .inl (cI, n1, .inl (zA g)))) (hframes : 1 ≤ R.frames) (hlocals : (rest.map fun v => v.category).sum + (nativeFrameWords "java/lang/System" "arraycopy" 5 + 11) ≤ R.locals) (hdg : decode cc pc = .ok (.invokestatic index, 3)) (hb : n0 < 2147483648 ∧ n1 < 2147483648) (hr : 0 ≤ sp ∧ 0 ≤ dp ∧ 0 ≤ n ∧ sp + n ≤ (n0 : Int) ∧ dp + n ≤ (n1 : Int)) (hws : ws.set q1 (a1, .inl (cI, n1, .inl (zA (zC f g sp dp n)))) = ws')
    (kk : ∀ (H1 : Heap) (locs1 : List Loc), zW D A H0 H1 locs1 ws' → W p l e R s m args below meth c H1 locs1 cells slots Q (F0 m (pc + 3) ls rest)) : W p l e R s m args below meth c H locs cells slots Q (F0 m pc ls (.int (iI n) :: .int (iI dp) :: .ref a1 :: .int (iI sp) :: .ref a0 :: rest)) := by
  subst hws
  have e1 := iI_cl (z := sp) (by omega)
  have e2 := iI_cl (z := dp) (by omega)
  have e3 := iI_cl (z := n) (by omega)
  have nn : ∀ {z : Int}, 0 ≤ z → z < 2147483648 → ¬ iI z < 0 := fun h h' q => by
    rw [← iI_0, iI_lt (by omega) (by omega)] at q
    omega
  exact va_copyi F.1 F.2.1 (F.2.2.1.trans hl.symm) F.2.2.2.1 (F.2.2.2.2 _ w1) (F.2.2.2.2 _ w2) (F.2.2.2.2 _ w3) (F.2.2.2.2 _ w4) hK hW.1 hW.2.1 hW.2.2 q0 q1 0 0 ha0 ha1 rfl rfl rfl (nn (by omega) (by omega)) (nn (by omega) (by omega)) (nn (by omega) (by omega)) (by omega) (by omega) (fun i _ => rfl) hframes hlocals hdg (fun H1 locs1 h1 h2 h3 => kk H1 locs1 (by rw [zA_cpy f g (by omega) (by omega) (by omega)] at h1 h2; exact ⟨h1, h2, h3⟩))
end ZC
end
section
def wD (cI cZ : ClassId) (aD : Nat → Nat) (xs ys lf ev nm : Int → Int) (sz : Int) : va_W := [(aD 0, .inr (2, [.ref (aD 1), .ref (aD 2), .ref (aD 3), .ref (aD 4), .ref (aD 5), .int (iI sz)])), (aD 1, .inl (cI, 30, .inl (zA xs))), (aD 2, .inl (cI, 30, .inl (zA ys))), (aD 3, .inl (cZ, 30, .inl (zA lf))), (aD 4, .inl (cI, 16, .inl (zA ev))), (aD 5, .inl (cI, 16, .inl (zA nm)))]
def wM (cI cZ : ClassId) (aM : Nat → Nat) (lb kd pt : Int → Int) (mn : Int) : va_W := [(aM 0, .inr (6, [.ref (aM 1), .ref (aM 2), .ref (aM 3), .int (iI mn)])), (aM 1, .inl (cI, 16, .inl (zA lb))), (aM 2, .inl (cI, 16, .inl (zA kd))), (aM 3, .inl (cI, 256, .inl (zA pt)))]
def wA (cI cZ : ClassId) (aA : Nat → Nat) (so nu al ak ap : Int → Int) (an ax : Int) : va_W := [(aA 0, .inr (0, [.ref (aA 1), .ref (aA 2), .ref (aA 3), .ref (aA 4), .ref (aA 5), .int (iI an), .int (iI ax)])), (aA 1, .inl (cI, 6, .inl (zA so))), (aA 2, .inl (cI, 6, .inl (zA nu))), (aA 3, .inl (cI, 6, .inl (zA al))), (aA 4, .inl (cI, 6, .inl (zA ak))), (aA 5, .inl (cI, 96, .inl (zA ap)))]
def wS (cI cZ : ClassId) (aS : Nat → Nat) (he ar le : Int → Int) : va_W := [(aS 0, .inr (4, [.ref (aS 1), .ref (aS 2), .ref (aS 3)])), (aS 1, .inl (cI, 16, .inl (zA he))), (aS 2, .inl (cI, 64, .inl (zA ar))), (aS 3, .inl (cI, 256, .inl (zA le)))]
def wC (cI cZ : ClassId) (aC : Nat → Nat) (cx cr cl ll : Int → Int) (cn : Int) : va_W := [(aC 0, .inr (1, [.ref (aC 1), .ref (aC 2), .ref (aC 3), .ref (aC 4), .int (iI cn)])), (aC 1, .inl (cI, 10, .inl (zA cx))), (aC 2, .inl (cI, 10, .inl (zA cr))), (aC 3, .inl (cI, 10, .inl (zA cl))), (aC 4, .inl (cI, 40, .inl (zA ll)))]
def wL (cI cZ : ClassId) (aL : Nat → Nat) (rw fn fp : Int → Int) (ln fc : Int) : va_W := [(aL 0, .inr (3, [.ref (aL 1), .ref (aL 2), .ref (aL 3), .int (iI ln), .int (iI fc)])), (aL 1, .inl (cI, 40, .inl (zA rw))), (aL 2, .inl (cI, 40, .inl (zA fn))), (aL 3, .inl (cI, 40, .inl (zA fp)))]
def wT (cI cZ : ClassId) (aT : Nat → Nat) (tl tm ts tc : Int → Int) : va_W := [(aT 0, .inr (5, [.ref (aT 1), .ref (aT 2), .ref (aT 3), .ref (aT 4)])), (aT 1, .inl (cI, 4, .inl (zA tl))), (aT 2, .inl (cZ, 4, .inl (zA tm))), (aT 3, .inl (cI, 4, .inl (zA ts))), (aT 4, .inl (cI, 240, .inl (zA tc)))]
def wB (cI cZ : ClassId) (aB aD aM aA aS aC aL aT : Nat → Nat) (di : Int → Int) (en mg : Int) : va_W := [(aB 0, .inr (7, [.ref (aD 0), .ref (aM 0), .ref (aA 0), .ref (aS 0), .ref (aC 0), .ref (aL 0), .ref (aT 0), .ref (aB 1), .int (iI en), .int (iI mg)])), (aB 1, .inl (cI, 16, .inl (zA di)))]
def wR (cI cZ : ClassId) (aR : Nat → Nat) (xs ys lf ev nm lb kd pt so nu al ak ap he le rw cx cr cl ll tl ts tc : Int → Int) (sz mn ac en mg ln cn wc wp : Int) : va_W := [(aR 0, .inr (8, [.int (iI sz), .ref (aR 1), .ref (aR 2), .ref (aR 3), .ref (aR 4), .ref (aR 5), .int (iI mn), .ref (aR 6), .ref (aR 7), .ref (aR 8), .int (iI ac), .ref (aR 9), .ref (aR 10), .ref (aR 11), .ref (aR 12), .ref (aR 13), .int (iI en), .int (iI mg), .ref (aR 14), .ref (aR 15), .int (iI ln), .ref (aR 16), .int (iI cn), .ref (aR 17), .ref (aR 18), .ref (aR 19), .ref (aR 20), .int (iI wc), .int (iI wp), .ref (aR 21), .ref (aR 22), .ref (aR 23)])), (aR 1, .inl (cI, 30, .inl (zA xs))), (aR 2, .inl (cI, 30, .inl (zA ys))), (aR 3, .inl (cZ, 30, .inl (zA lf))), (aR 4, .inl (cI, 16, .inl (zA ev))), (aR 5, .inl (cI, 16, .inl (zA nm))), (aR 6, .inl (cI, 17, .inl (zA lb))), (aR 7, .inl (cI, 17, .inl (zA kd))), (aR 8, .inl (cI, 272, .inl (zA pt))), (aR 9, .inl (cI, 7, .inl (zA so))), (aR 10, .inl (cI, 7, .inl (zA nu))), (aR 11, .inl (cI, 7, .inl (zA al))), (aR 12, .inl (cI, 7, .inl (zA ak))), (aR 13, .inl (cI, 112, .inl (zA ap))), (aR 14, .inl (cI, 16, .inl (zA he))), (aR 15, .inl (cI, 256, .inl (zA le))), (aR 16, .inl (cI, 40, .inl (zA rw))), (aR 17, .inl (cI, 10, .inl (zA cx))), (aR 18, .inl (cI, 10, .inl (zA cr))), (aR 19, .inl (cI, 10, .inl (zA cl))), (aR 20, .inl (cI, 40, .inl (zA ll))), (aR 21, .inl (cI, 4, .inl (zA tl))), (aR 22, .inl (cI, 4, .inl (zA ts))), (aR 23, .inl (cI, 240, .inl (zA tc)))]
/-- a fact that is kept closed -/
def zH (P : Prop) : Prop := P
theorem zH.o {P : Prop} (h : zH P) : P := h
def zB (r : Int) (P : Prop) : Prop := (r = 1 ∧ P) ∨ (r = 0 ∧ ¬ P)
theorem zB_01 {r : Int} {P : Prop} (h : zB r P) : r = 0 ∨ r = 1 := h.elim (fun h => Or.inr h.1) (fun h => Or.inl h.1)
theorem zB_t {r : Int} {P : Prop} (h : zB r P) (q : ¬ r = 0) : P := h.elim (fun h => h.2) (fun h => absurd h.1 q)
theorem zB_f {r : Int} {P : Prop} (h : zB r P) (q : r = 0) : ¬ P := h.elim (fun h => by omega) (fun h => h.2)
theorem zB_1 {P : Prop} (h : P) : zB 1 P := Or.inl ⟨rfl, h⟩
theorem zB_0 {P : Prop} (h : ¬ P) : zB 0 P := Or.inr ⟨rfl, h⟩
theorem zC_0 (f g : Int → Int) (sp dp : Int) : zC f g sp dp 0 = g := by
  funext j
  unfold zC
  rw [if_neg (by omega)]
theorem zC_s (f g : Int → Int) (sp dp n : Int) (h : 0 ≤ n) : zU (zC f g sp dp n) (dp + n) (f (sp + n)) = zC f g sp dp (n + 1) := by
  funext j
  unfold zU zC
  by_cases h1 : j = dp + n
  · rw [if_pos h1, if_pos (by omega), h1, show dp + n - dp = n by omega]
  · rw [if_neg h1]
    by_cases h2 : dp ≤ j ∧ j < dp + n
    · rw [if_pos h2, if_pos (by omega)]
    · rw [if_neg h2, if_neg (by omega)]
theorem zC_in (f g : Int → Int) {sp dp n j : Int} (h : dp ≤ j ∧ j < dp + n) : zC f g sp dp n j = f (sp + (j - dp)) := if_pos h
theorem zC_out (f g : Int → Int) {sp dp n j : Int} (h : ¬ (dp ≤ j ∧ j < dp + n)) : zC f g sp dp n j = g j := if_neg h
/-- how far point q is from the one ahead, as it is drawn -/
def dr (xs ys lf : Int → Int) (q : Int) : Int := if lf q = 0 then ((xs q - xs (q - 1)).natAbs : Int) + ((ys q - ys (q - 1)).natAbs : Int) else 0
def wyN (xs ys lf : Int → Int) : Nat → Int
  | 0 => 0
  | n + 1 => wyN xs ys lf n + (if n = 0 then 0 else dr xs ys lf (n : Int))
/-- the way over the points below q -/
def wy (xs ys lf : Int → Int) (q : Int) : Int := wyN xs ys lf q.toNat
theorem wy_0 (xs ys lf : Int → Int) {q : Int} (h : q ≤ 1) : wy xs ys lf q = 0 := by
  unfold wy
  rcases (show q.toNat = 0 ∨ q.toNat = 1 by omega) with e | e <;> rw [e] <;> simp [wyN]
theorem wy_s (xs ys lf : Int → Int) {q : Int} (h : 1 ≤ q) : wy xs ys lf (q + 1) = wy xs ys lf q + dr xs ys lf q := by
  unfold wy
  rw [show (q + 1).toNat = q.toNat + 1 by omega, wyN, if_neg (by omega), show ((q.toNat : Nat) : Int) = q by omega]
/-- a draft as the document tells it -/
def Dok (xs ys lf : Int → Int) (sz : Int) : Prop := (0 ≤ sz ∧ sz ≤ 30) ∧ ∀ j, 0 ≤ j → j < sz → (-100 ≤ xs j ∧ xs j ≤ 100) ∧ (-100 ≤ ys j ∧ ys j ≤ 100) ∧ (lf j = 0 ∨ lf j = 1)
theorem dr_rng {xs ys lf : Int → Int} {sz q : Int} (h : Dok xs ys lf sz) (h1 : 1 ≤ q) (h2 : q < sz) : 0 ≤ dr xs ys lf q ∧ dr xs ys lf q ≤ 400 := by
  have a := h.2 q (by omega) h2
  have b := h.2 (q - 1) (by omega) (by omega)
  unfold dr
  split <;> omega
theorem wy_rng {xs ys lf : Int → Int} {sz : Int} (h : Dok xs ys lf sz) : ∀ (n : Nat), (n : Int) ≤ sz → 0 ≤ wy xs ys lf n ∧ wy xs ys lf n ≤ 400 * n
  | 0, _ => by rw [wy_0 xs ys lf (by omega)]; omega
  | n + 1, hn => by
    have ih := wy_rng h n (by omega)
    by_cases h1 : n = 0
    · subst h1; rw [wy_0 xs ys lf (by omega)]; omega
    · have := dr_rng h (q := n) (by omega) (by omega)
      rw [show ((n + 1 : Nat) : Int) = (n : Int) + 1 by omega, wy_s xs ys lf (by omega)]
      omega
theorem wy_r {xs ys lf : Int → Int} {sz q : Int} (h : Dok xs ys lf sz) (h2 : q ≤ sz) : 0 ≤ wy xs ys lf q ∧ wy xs ys lf q ≤ 12000 := by
  have hb := h.1
  by_cases hq : q ≤ 0
  · rw [wy_0 xs ys lf (by omega)]; omega
  · have := wy_rng h q.toNat (by omega)
    rw [show ((q.toNat : Nat) : Int) = q by omega] at this
    omega
theorem Dok_at {xs ys lf : Int → Int} {sz j : Int} (h : Dok xs ys lf sz) (h1 : 0 ≤ j) (h2 : j < sz) : (-100 ≤ xs j ∧ xs j ≤ 100) ∧ (-100 ≤ ys j ∧ ys j ≤ 100) ∧ (lf j = 0 ∨ lf j = 1) := h.2 j h1 h2
/-- what a point that comes does to the draft, and what is answered -/
def addP (xs ys lf : Int → Int) (sz x y li : Int) (xs2 ys2 lf2 : Int → Int) (sz2 r : Int) : Prop :=
  (¬ ((-100 ≤ x ∧ x ≤ 100) ∧ (-100 ≤ y ∧ y ≤ 100)) ∧ r = -1 ∧ xs2 = xs ∧ ys2 = ys ∧ lf2 = lf ∧ sz2 = sz) ∨
  (((-100 ≤ x ∧ x ≤ 100) ∧ (-100 ≤ y ∧ y ≤ 100)) ∧ 30 ≤ sz ∧ r = -3 ∧ xs2 = xs ∧ ys2 = ys ∧ lf2 = lf ∧ sz2 = sz) ∨
  (((-100 ≤ x ∧ x ≤ 100) ∧ (-100 ≤ y ∧ y ≤ 100)) ∧ sz < 30 ∧ r = sz + 1 ∧ xs2 = zU xs sz x ∧ ys2 = zU ys sz y ∧ lf2 = zU lf sz (if li = 0 ∨ sz ≤ 0 then 0 else 1) ∧ sz2 = sz + 1)
theorem iI_xs {x y : Int} (hx : -2147483648 ≤ x ∧ x < 2147483648) (hy : -2147483648 ≤ y ∧ y < 2147483648) : ((iI x ^^^ iI y).toInt < 0) ↔ ¬ ((x < 0) ↔ (y < 0)) := by
  have e1 : (iI x).toBitVec.msb = decide (x < 0) := by
    have := BitVec.msb_eq_toInt (x := (iI x).toBitVec)
    rw [this]
    show decide ((iI x).toInt < 0) = _
    rw [iI_toInt hx]
  have e2 : (iI y).toBitVec.msb = decide (y < 0) := by
    have := BitVec.msb_eq_toInt (x := (iI y).toBitVec)
    rw [this]
    show decide ((iI y).toInt < 0) = _
    rw [iI_toInt hy]
  have e3 := BitVec.msb_eq_toInt (x := (iI x ^^^ iI y).toBitVec)
  have e4 : (iI x ^^^ iI y).toBitVec = (iI x).toBitVec ^^^ (iI y).toBitVec := Int32.toBitVec_xor _ _
  have e5 : (iI x ^^^ iI y).toBitVec.msb = (decide (x < 0) ^^ decide (y < 0)) := by rw [e4, BitVec.msb_xor, e1, e2]
  rw [e3] at e5
  have e6 : ((iI x ^^^ iI y).toInt < 0) ↔ (decide (x < 0) ^^ decide (y < 0)) = true := by
    rw [← e5]
    exact (decide_eq_true_iff).symm
  rw [e6]
  by_cases a : x < 0 <;> by_cases b : y < 0 <;> simp [a, b]
section ZX
variable {p : Program} {l : Launch} {e : Env} {R : Room} {s : State} {m : MethodId} {args : Array Value} {below : List Frame} {meth : Method} {c : Code} {H : Heap} {locs : List Loc} {cells slots : Nat} {Q : State → Prop}
variable {cc : ByteArray} {pc nL : Nat} {ls : Array Slot} {rest : List Value} {own : String} {Ts : List Cond}
theorem z_ixors (F : CallFix p m c cc nL s args Ts own) {x y : Int} (hdg : decode cc pc = .ok (.ixor, 1)) (hr : (-2147483648 ≤ x ∧ x < 2147483648) ∧ (-2147483648 ≤ y ∧ y < 2147483648))
    (kk : ∀ q : Int, (-2147483648 ≤ q ∧ q < 2147483648) → ((q < 0) ↔ ¬ ((x < 0) ↔ (y < 0))) → W p l e R s m args below meth c H locs cells slots Q (F0 m (pc + 1) ls (.int (iI q) :: rest))) : W p l e R s m args below meth c H locs cells slots Q (F0 m pc ls (.int (iI y) :: .int (iI x) :: rest)) := by
  refine lv_ixor F.1 F.2.1 hdg ?_
  have h1 := kk (iI x ^^^ iI y).toInt (iI_rng _) (iI_xs hr.1 hr.2)
  rw [iI_of] at h1
  exact h1
theorem z_irem (F : CallFix p m c cc nL s args Ts own) {x y : Int} (hdg : decode cc pc = .ok (.irem, 1)) (h : (-2147483648 < x ∧ x < 2147483648) ∧ (-2147483648 ≤ y ∧ y < 2147483648) ∧ y ≠ 0) (kk : W p l e R s m args below meth c H locs cells slots Q (F0 m (pc + 1) ls (.int (iI (x.tmod y)) :: rest))) : W p l e R s m args below meth c H locs cells slots Q (F0 m pc ls (.int (iI y) :: .int (iI x) :: rest)) := lv_irem F.1 F.2.1 hdg (iI_ne0 h.2.1 h.2.2) (by rw [iI_div h.1 h.2.1, iI_mul, iI_sub, iI_tmod]; exact kk)
theorem z_lrem (F : CallFix p m c cc nL s args Ts own) {x y : Int} (hdg : decode cc pc = .ok (.lrem, 1)) (h : (-9223372036854775808 < x ∧ x < 9223372036854775808) ∧ (-9223372036854775808 ≤ y ∧ y < 9223372036854775808) ∧ y ≠ 0) (kk : W p l e R s m args below meth c H locs cells slots Q (F0 m (pc + 1) ls (.long (lI (x.tmod y)) :: rest))) : W p l e R s m args below meth c H locs cells slots Q (F0 m pc ls (.long (lI y) :: .long (lI x) :: rest)) := lv_lrem F.1 F.2.1 hdg (lI_ne0 h.2.1 h.2.2) (by rw [lI_div h.1 h.2.1, lI_mul, lI_sub, iI_tmod]; exact kk)
end ZX
/-- rounding down, out of the machine's division -/
theorem fl_1 {x y : Int} (hy : 0 < y) (h : 0 ≤ x ∨ x.tdiv y * y = x) : x.tdiv y = x / y := by
  rcases h with h | h
  · exact Int.tdiv_eq_ediv_of_nonneg h
  · have h1 : y ∣ x := ⟨x.tdiv y, by rw [Int.mul_comm]; exact h.symm⟩
    exact Int.tdiv_eq_ediv_of_dvd h1
theorem fl_2 {x y : Int} (hy : 0 < y) (h : x < 0) (h2 : ¬ x.tdiv y * y = x) : x.tdiv y - 1 = x / y := by
  have h3 : ¬ y ∣ x := fun q => h2 (Int.tdiv_mul_cancel q)
  have h4 := Int.tdiv_eq_ediv (a := x) (b := y)
  rw [if_neg (by omega), show y.sign = 1 from Int.sign_eq_one_of_pos hy] at h4
  omega
theorem fm_1 {x y : Int} (hy : 0 < y) (h : 0 ≤ x ∨ x.tmod y = 0) : x.tmod y = x % y := by
  rcases h with h | h
  · exact Int.tmod_eq_emod_of_nonneg h
  · rw [h]
    exact (Int.emod_eq_zero_of_dvd (Int.dvd_of_tmod_eq_zero h)).symm
theorem fm_2 {x y : Int} (hy : 0 < y) (h : x < 0) (h2 : ¬ x.tmod y = 0) : x.tmod y + y = x % y := by
  have e1 := Int.tmod_add_mul_tdiv x y
  have e2 := Int.emod_add_mul_ediv x y
  have e3 := fl_2 hy h (fun q => h2 (by rw [← iI_tmod]; omega))
  rw [← e3, Int.mul_sub, Int.mul_one] at e2
  omega
theorem fl_r {x y : Int} (hy : 0 < y) {b : Int} (h : -b ≤ x ∧ x ≤ b) (hb : 0 ≤ b) : -b ≤ x / y ∧ x / y ≤ b := by
  constructor
  · apply (Int.le_ediv_iff_mul_le hy).mpr
    have : b ≤ b * y := by
      have := Int.mul_le_mul_of_nonneg_left (show (1 : Int) ≤ y by omega) hb
      omega
    rw [Int.neg_mul]; omega
  · by_cases q : 0 ≤ x
    · have := Int.ediv_le_self y q
      omega
    · have := Int.ediv_neg_of_neg_of_pos (show x < 0 by omega) hy
      omega
end
section
theorem tdiv_b {x y : Int} (h : -2147483648 < x ∧ x < 2147483648) : -2147483648 < x.tdiv y ∧ x.tdiv y < 2147483648 := by
  have hab : (x.tdiv y).natAbs ≤ x.natAbs := by rw [Int.natAbs_tdiv]; exact Nat.div_le_self _ _
  omega
theorem tdm_b {x y : Int} (h : -2147483648 < x ∧ x < 2147483648) : -2147483648 < x.tdiv y * y ∧ x.tdiv y * y < 2147483648 := by
  have hab : (x.tdiv y * y).natAbs ≤ x.natAbs := by rw [Int.natAbs_mul, Int.natAbs_tdiv]; exact Nat.div_mul_le_self _ _
  omega
theorem tmod_b {x y : Int} (hy : 0 < y) (h : y < 2147483648) : -2147483648 < x.tmod y ∧ x.tmod y < 2147483648 := by
  have h1 := Int.tmod_lt_of_pos x hy
  have h2 := Int.lt_tmod_of_pos x hy
  omega

set_option maxHeartbeats 4000000 in
set_option maxRecDepth 100000 in
theorem c_J9_floorDiv_7cf53 (l : Launch) (D : va_G) (cI cZ : ClassId) (x y : Int) (sz0 : Nat) (r_x : (-2147483648 ≤ x ∧ x < 2147483648)) (r_y : (-2147483648 ≤ y ∧ y < 2147483648)) (hy : 0 < y) (hx : -2147483648 < x) : Met l yJ9_floorDiv_7cf53 wsJ9_floorDiv_7cf53 ({ frames := 0, cells := 0, slots := 0, locals := 0 } : Room) (zPc D cI cZ [.int (iI x), .int (iI y)] ([]) sz0) (zQi D cI cZ ([]) sz0 (fun (r : Int) (u : Unit) => r = x / y) (fun (u : Unit) => [])) 0 0 (va_A ([]) sz0) := by
  have hb := tdiv_b (x := x) (y := y) (by omega)
  have hbb := tdm_b (x := x) (y := y) (by omega)
  have hc := fl_r (x := x) hy (b := 2147483647) (by omega) (by omega)
  refine z_ofI (maxL := 3) (by decide +kernel) rfl (Nat.le_of_ble_eq_true rfl) (Or.inl rfl) ?_
  intro p e s m below meth c A ls Q F hK hW hA hl hret
  have hl : lv_has ls 3 [(0, .int (iI x)), (1, .int (iI y))] := hl
  refine z_iloadn F (pc := 0) dJ9_floorDiv_7cf53_0 rfl (lv_at hl 0 rfl) ?_
  refine z_iloadn F (pc := 1) dJ9_floorDiv_7cf53_1 rfl (lv_at hl 1 rfl) ?_
  refine z_idiv F (pc := 2) dJ9_floorDiv_7cf53_2 (by omega) ?_
  refine z_istoren F (pc := 3) hl (lv' := [(2, .int (iI (Int.tdiv x y))), (0, .int (iI x)), (1, .int (iI y))]) dJ9_floorDiv_7cf53_3 rfl (by decide) rfl (fun ls hl => ?_)
  refine z_iloadn F (pc := 4) dJ9_floorDiv_7cf53_4 rfl (lv_at hl 1 rfl) ?_
  refine z_iloadn F (pc := 5) dJ9_floorDiv_7cf53_5 rfl (lv_at hl 2 rfl) ?_
  refine z_ixors F (pc := 6) dJ9_floorDiv_7cf53_6 (by omega) (fun q_6 r_q_6 h_q_6 => ?_)
  refine z_if_ge F (pc := 7) 21 dJ9_floorDiv_7cf53_7 (by decide) (by omega) (fun c_7 => ?_) (fun c_7 => ?_)
  · skip
    have ex := fl_1 hy (Or.inl (show 0 ≤ x by omega))
    refine z_iloadn F (pc := 21) dJ9_floorDiv_7cf53_21 rfl (lv_at hl 0 rfl) ?_
    exact hret _ _ _ _ (Int.tdiv x y) () dJ9_floorDiv_7cf53_22 (by omega) (by exact ex) hW
  · skip
    refine z_iloadn F (pc := 10) dJ9_floorDiv_7cf53_10 rfl (lv_at hl 0 rfl) ?_
    refine z_iloadn F (pc := 11) dJ9_floorDiv_7cf53_11 rfl (lv_at hl 2 rfl) ?_
    refine z_imul F (pc := 12) dJ9_floorDiv_7cf53_12 ?_
    refine z_iloadn F (pc := 13) dJ9_floorDiv_7cf53_13 rfl (lv_at hl 1 rfl) ?_
    refine z_icmp_eq F (pc := 14) 21 dJ9_floorDiv_7cf53_14 (by decide) (by omega) (fun c_14 => ?_) (fun c_14 => ?_)
    · skip
      refine z_iloadn F (pc := 21) dJ9_floorDiv_7cf53_21 rfl (lv_at hl 0 rfl) ?_
      exact hret _ _ _ _ (Int.tdiv x y) () dJ9_floorDiv_7cf53_22 (by omega) (by exact fl_1 hy (Or.inr c_14)) hW
    · skip
      refine z_iloadn F (pc := 17) dJ9_floorDiv_7cf53_17 rfl (lv_at hl 0 rfl) ?_
      refine z_iconst F (pc := 18) (1) dJ9_floorDiv_7cf53_18 ?_
      refine z_isub F (pc := 19) dJ9_floorDiv_7cf53_19 ?_
      exact hret _ _ _ _ ((Int.tdiv x y) - 1) () dJ9_floorDiv_7cf53_20 (by omega) (by exact fl_2 hy (by omega) c_14) hW

set_option maxHeartbeats 4000000 in
set_option maxRecDepth 100000 in
theorem c_J9_floorMod_7cf53 (l : Launch) (D : va_G) (cI cZ : ClassId) (x y : Int) (sz0 : Nat) (r_x : (-2147483648 ≤ x ∧ x < 2147483648)) (r_y : (-2147483648 ≤ y ∧ y < 2147483648)) (hy : 0 < y) (hx : -2147483648 < x) : Met l yJ9_floorMod_7cf53 wsJ9_floorMod_7cf53 ({ frames := 0, cells := 0, slots := 0, locals := 0 } : Room) (zPc D cI cZ [.int (iI x), .int (iI y)] ([]) sz0) (zQi D cI cZ ([]) sz0 (fun (r : Int) (u : Unit) => r = x % y) (fun (u : Unit) => [])) 0 0 (va_A ([]) sz0) := by
  have hb := tmod_b (x := x) hy (by omega)
  have hc := Int.emod_nonneg x (show y ≠ 0 by omega)
  have he := Int.emod_lt_of_pos x hy
  refine z_ofI (maxL := 3) (by decide +kernel) rfl (Nat.le_of_ble_eq_true rfl) (Or.inl rfl) ?_
  intro p e s m below meth c A ls Q F hK hW hA hl hret
  have hl : lv_has ls 3 [(0, .int (iI x)), (1, .int (iI y))] := hl
  refine z_iloadn F (pc := 0) dJ9_floorMod_7cf53_0 rfl (lv_at hl 0 rfl) ?_
  refine z_iloadn F (pc := 1) dJ9_floorMod_7cf53_1 rfl (lv_at hl 1 rfl) ?_
  refine z_irem F (pc := 2) dJ9_floorMod_7cf53_2 (by omega) ?_
  refine z_istoren F (pc := 3) hl (lv' := [(2, .int (iI (Int.tmod x y))), (0, .int (iI x)), (1, .int (iI y))]) dJ9_floorMod_7cf53_3 rfl (by decide) rfl (fun ls hl => ?_)
  refine z_iloadn F (pc := 4) dJ9_floorMod_7cf53_4 rfl (lv_at hl 1 rfl) ?_
  refine z_iloadn F (pc := 5) dJ9_floorMod_7cf53_5 rfl (lv_at hl 2 rfl) ?_
  refine z_ixors F (pc := 6) dJ9_floorMod_7cf53_6 (by omega) (fun q_6 r_q_6 h_q_6 => ?_)
  refine z_if_ge F (pc := 7) 18 dJ9_floorMod_7cf53_7 (by decide) (by omega) (fun c_7 => ?_) (fun c_7 => ?_)
  · skip
    refine z_iloadn F (pc := 18) dJ9_floorMod_7cf53_18 rfl (lv_at hl 0 rfl) ?_
    exact hret _ _ _ _ (Int.tmod x y) () dJ9_floorMod_7cf53_19 (by first | omega | (rw [fm_2 hy (by omega) c_11]; omega)) (by exact fm_1 hy (Or.inl (by omega))) hW
  · skip
    refine z_iloadn F (pc := 10) dJ9_floorMod_7cf53_10 rfl (lv_at hl 0 rfl) ?_
    refine z_if_eq F (pc := 11) 18 dJ9_floorMod_7cf53_11 (by decide) (by omega) (fun c_11 => ?_) (fun c_11 => ?_)
    · skip
      refine z_iloadn F (pc := 18) dJ9_floorMod_7cf53_18 rfl (lv_at hl 0 rfl) ?_
      exact hret _ _ _ _ (Int.tmod x y) () dJ9_floorMod_7cf53_19 (by first | omega | (rw [fm_2 hy (by omega) c_11]; omega)) (by exact fm_1 hy (Or.inr c_11)) hW
    · skip
      refine z_iloadn F (pc := 14) dJ9_floorMod_7cf53_14 rfl (lv_at hl 0 rfl) ?_
      refine z_iloadn F (pc := 15) dJ9_floorMod_7cf53_15 rfl (lv_at hl 2 rfl) ?_
      refine z_iadd F (pc := 16) dJ9_floorMod_7cf53_16 ?_
      exact hret _ _ _ _ ((Int.tmod x y) + y) () dJ9_floorMod_7cf53_17 (by first | omega | (rw [fm_2 hy (by omega) c_11]; omega)) (by exact fm_2 hy (by omega) c_11) hW

set_option maxHeartbeats 4000000 in
set_option maxRecDepth 100000 in
theorem c_X7_isWithin (l : Launch) (D : va_G) (cI cZ : ClassId) (v g : Int) (sz0 : Nat) (r_v : (-2147483648 ≤ v ∧ v < 2147483648)) (r_g : (-2147483648 ≤ g ∧ g < 2147483648)) : Met l yX7_isWithin wsX7_isWithin ({ frames := 0, cells := 0, slots := 0, locals := 0 } : Room) (zPc D cI cZ [.int (iI v), .int (iI g)] ([]) sz0) (zQi D cI cZ ([]) sz0 (fun (r : Int) (u : Unit) => zB r (0 ≤ v ∧ v ≤ g)) (fun (u : Unit) => [])) 0 0 (va_A ([]) sz0) := by
  refine z_ofI (maxL := 2) (plainFor_of_name (by decide)) rfl (Nat.le_of_ble_eq_true rfl) (Or.inr ⟨rfl, fun z u h => zB_01 h⟩) ?_
  intro p e s m below meth c A ls Q F hK hW hA hl hret
  have hl : lv_has ls 2 [(0, .int (iI v)), (1, .int (iI g))] := hl
  refine z_iloadn F (pc := 0) dX7_isWithin_0 rfl (lv_at hl 0 rfl) ?_
  refine z_if_lt F (pc := 1) 13 dX7_isWithin_1 (by decide) (by omega) (fun c_1 => ?_) (fun c_1 => ?_)
  · skip
    refine z_iconst F (pc := 13) (0) dX7_isWithin_13 ?_
    exact hret _ _ _ _ 0 () dX7_isWithin_14 (by omega) (by first | exact zB_1 (by omega) | exact zB_0 (by omega)) hW
  · skip
    refine z_iloadn F (pc := 4) dX7_isWithin_4 rfl (lv_at hl 0 rfl) ?_
    refine z_iloadn F (pc := 5) dX7_isWithin_5 rfl (lv_at hl 1 rfl) ?_
    refine z_icmp_gt F (pc := 6) 13 dX7_isWithin_6 (by decide) (by omega) (fun c_6 => ?_) (fun c_6 => ?_)
    · skip
      refine z_iconst F (pc := 13) (0) dX7_isWithin_13 ?_
      exact hret _ _ _ _ 0 () dX7_isWithin_14 (by omega) (by first | exact zB_1 (by omega) | exact zB_0 (by omega)) hW
    · skip
      refine z_iconst F (pc := 9) (1) dX7_isWithin_9 ?_
      refine z_goto F (pc := 10) 14 dX7_isWithin_10 (by decide) ?_
      exact hret _ _ _ _ 1 () dX7_isWithin_14 (by omega) (by first | exact zB_1 (by omega) | exact zB_0 (by omega)) hW

set_option maxHeartbeats 4000000 in
set_option maxRecDepth 100000 in
theorem c_X2_add (l : Launch) (D : va_G) (cI cZ : ClassId) (aD : Nat → Nat) (xs ys lf ev nm : Int → Int) (sz : Int) (x y li : Int) (sz0 : Nat) (r_x : (-2147483648 ≤ x ∧ x < 2147483648)) (r_y : (-2147483648 ≤ y ∧ y < 2147483648)) (r_li : (-2147483648 ≤ li ∧ li < 2147483648)) (hd : 0 ≤ sz ∧ sz ≤ 30) (hli : li = 0 ∨ li = 1) : Met l yX2_add wsX2_add ({ frames := 0, cells := 0, slots := 0, locals := 0 } : Room) (zPc D cI cZ [.ref (aD 0), .int (iI x), .int (iI y), .int (iI li)] (wD cI cZ aD xs ys lf ev nm sz) sz0) (zQi D cI cZ (wD cI cZ aD xs ys lf ev nm sz) sz0 (fun (r : Int) (u : (Int → Int) × (Int → Int) × (Int → Int) × (Int)) => addP xs ys lf sz x y li u.1 u.2.1 u.2.2.1 u.2.2.2 r) (fun (u : (Int → Int) × (Int → Int) × (Int → Int) × (Int)) => wD cI cZ aD u.1 u.2.1 u.2.2.1 ev nm u.2.2.2)) 0 0 (va_A (wD cI cZ aD xs ys lf ev nm sz) sz0) := by
  refine z_ofI (maxL := 4) (plainFor_of_name (by decide)) rfl (Nat.le_of_ble_eq_true rfl) (Or.inl rfl) ?_
  intro p e s m below meth c A ls Q F hK hW hA hl hret
  have hl : lv_has ls 4 [(0, .ref (aD 0)), (1, .int (iI x)), (2, .int (iI y)), (3, .int (iI li))] := hl
  have inX2 : ∀ w ∈ u_ws RX2 TX2 6, w ∈ wsX2_add := fun _ h => List.mem_cons_of_mem _ (List.mem_append_right _ h)
  refine z_iloadn F (pc := 0) dX2_add_0 rfl (lv_at hl 1 rfl) ?_
  refine z_bipush F (pc := 1) (-100) (by decide +kernel) dX2_add_1 ?_
  refine z_icmp_lt F (pc := 3) 24 dX2_add_3 (by decide) (by omega) (fun c_3 => ?_) (fun c_3 => ?_)
  · skip
    refine z_iconst F (pc := 24) (-1) dX2_add_24 ?_
    exact hret _ _ _ _ (-1) (xs, ys, lf, sz) dX2_add_25 (by omega) (by try dsimp only; unfold addP; first | (left; refine ⟨by omega, rfl, rfl, rfl, rfl, rfl⟩) | (right; left; refine ⟨by omega, by omega, rfl, rfl, rfl, rfl, rfl⟩) | (right; right; refine ⟨by omega, by omega, rfl, rfl, rfl, ?_, rfl⟩; first | (rw [if_pos (by omega)]) | (rw [if_neg (by omega)]))) hW
  · skip
    refine z_iloadn F (pc := 6) dX2_add_6 rfl (lv_at hl 1 rfl) ?_
    refine z_bipush F (pc := 7) (100) (by decide +kernel) dX2_add_7 ?_
    refine z_icmp_gt F (pc := 9) 24 dX2_add_9 (by decide) (by omega) (fun c_9 => ?_) (fun c_9 => ?_)
    · skip
      refine z_iconst F (pc := 24) (-1) dX2_add_24 ?_
      exact hret _ _ _ _ (-1) (xs, ys, lf, sz) dX2_add_25 (by omega) (by try dsimp only; unfold addP; first | (left; refine ⟨by omega, rfl, rfl, rfl, rfl, rfl⟩) | (right; left; refine ⟨by omega, by omega, rfl, rfl, rfl, rfl, rfl⟩) | (right; right; refine ⟨by omega, by omega, rfl, rfl, rfl, ?_, rfl⟩; first | (rw [if_pos (by omega)]) | (rw [if_neg (by omega)]))) hW
    · skip
      refine z_iloadn F (pc := 12) dX2_add_12 rfl (lv_at hl 2 rfl) ?_
      refine z_bipush F (pc := 13) (-100) (by decide +kernel) dX2_add_13 ?_
      refine z_icmp_lt F (pc := 15) 24 dX2_add_15 (by decide) (by omega) (fun c_15 => ?_) (fun c_15 => ?_)
      · skip
        refine z_iconst F (pc := 24) (-1) dX2_add_24 ?_
        exact hret _ _ _ _ (-1) (xs, ys, lf, sz) dX2_add_25 (by omega) (by try dsimp only; unfold addP; first | (left; refine ⟨by omega, rfl, rfl, rfl, rfl, rfl⟩) | (right; left; refine ⟨by omega, by omega, rfl, rfl, rfl, rfl, rfl⟩) | (right; right; refine ⟨by omega, by omega, rfl, rfl, rfl, ?_, rfl⟩; first | (rw [if_pos (by omega)]) | (rw [if_neg (by omega)]))) hW
      · skip
        refine z_iloadn F (pc := 18) dX2_add_18 rfl (lv_at hl 2 rfl) ?_
        refine z_bipush F (pc := 19) (100) (by decide +kernel) dX2_add_19 ?_
        refine z_icmp_le F (pc := 21) 26 dX2_add_21 (by decide) (by omega) (fun c_21 => ?_) (fun c_21 => ?_)
        · skip
          refine z_aloadn F (pc := 26) dX2_add_26 rfl (lv_at hl 0 rfl) ?_
          refine z_get F (pc := 27) (C := RX2) (T := TX2) (N := 6) (ci := 2) inX2 hK hW 0 5 rfl rfl (by decide) rfl (List.mem_of_getElem? (i := 1) rfl) (v := .int (iI sz)) rfl dX2_add_27 ?_
          refine z_bipush F (pc := 30) (30) (by decide +kernel) dX2_add_30 ?_
          refine z_icmp_lt F (pc := 32) 38 dX2_add_32 (by decide) (by omega) (fun c_32 => ?_) (fun c_32 => ?_)
          · skip
            refine z_aloadn F (pc := 38) dX2_add_38 rfl (lv_at hl 0 rfl) ?_
            refine z_get F (pc := 39) (C := RX2) (T := TX2) (N := 6) (ci := 2) inX2 hK hW 0 0 rfl rfl (by decide) rfl (List.mem_of_getElem? (i := 2) rfl) (v := .ref (aD 1)) rfl dX2_add_39 ?_
            refine z_aloadn F (pc := 42) dX2_add_42 rfl (lv_at hl 0 rfl) ?_
            refine z_get F (pc := 43) (C := RX2) (T := TX2) (N := 6) (ci := 2) inX2 hK hW 0 5 rfl rfl (by decide) rfl (List.mem_of_getElem? (i := 1) rfl) (v := .int (iI sz)) rfl dX2_add_43 ?_
            refine z_iloadn F (pc := 46) dX2_add_46 rfl (lv_at hl 1 rfl) ?_
            refine z_iast F (pc := 47) hK hW (ws' := wD cI cZ aD (zU xs sz x) ys lf ev nm sz) 1 rfl (by decide) dX2_add_47 (by omega) rfl (fun H locs hW => ?_)
            refine z_aloadn F (pc := 48) dX2_add_48 rfl (lv_at hl 0 rfl) ?_
            refine z_get F (pc := 49) (C := RX2) (T := TX2) (N := 6) (ci := 2) inX2 hK hW 0 1 rfl rfl (by decide) rfl (List.mem_of_getElem? (i := 3) rfl) (v := .ref (aD 2)) rfl dX2_add_49 ?_
            refine z_aloadn F (pc := 52) dX2_add_52 rfl (lv_at hl 0 rfl) ?_
            refine z_get F (pc := 53) (C := RX2) (T := TX2) (N := 6) (ci := 2) inX2 hK hW 0 5 rfl rfl (by decide) rfl (List.mem_of_getElem? (i := 1) rfl) (v := .int (iI sz)) rfl dX2_add_53 ?_
            refine z_iloadn F (pc := 56) dX2_add_56 rfl (lv_at hl 2 rfl) ?_
            refine z_iast F (pc := 57) hK hW (ws' := wD cI cZ aD (zU xs sz x) (zU ys sz y) lf ev nm sz) 2 rfl (by decide) dX2_add_57 (by omega) rfl (fun H locs hW => ?_)
            refine z_aloadn F (pc := 58) dX2_add_58 rfl (lv_at hl 0 rfl) ?_
            refine z_get F (pc := 59) (C := RX2) (T := TX2) (N := 6) (ci := 2) inX2 hK hW 0 2 rfl rfl (by decide) rfl (List.mem_of_getElem? (i := 4) rfl) (v := .ref (aD 3)) rfl dX2_add_59 ?_
            refine z_aloadn F (pc := 62) dX2_add_62 rfl (lv_at hl 0 rfl) ?_
            refine z_get F (pc := 63) (C := RX2) (T := TX2) (N := 6) (ci := 2) inX2 hK hW 0 5 rfl rfl (by decide) rfl (List.mem_of_getElem? (i := 1) rfl) (v := .int (iI sz)) rfl dX2_add_63 ?_
            refine z_iloadn F (pc := 66) dX2_add_66 rfl (lv_at hl 3 rfl) ?_
            refine z_if_eq F (pc := 67) 81 dX2_add_67 (by decide) (by omega) (fun c_67 => ?_) (fun c_67 => ?_)
            · skip
              refine z_iconst F (pc := 81) (0) dX2_add_81 ?_
              refine z_zast F (pc := 82) hK hW (ws' := wD cI cZ aD (zU xs sz x) (zU ys sz y) (zU lf sz 0) ev nm sz) 3 rfl (by decide) dX2_add_82 (by omega) (by omega) rfl (fun H locs hW => ?_)
              refine z_aloadn F (pc := 83) dX2_add_83 rfl (lv_at hl 0 rfl) ?_
              refine z_dup F (pc := 84) dX2_add_84 rfl ?_
              refine z_get F (pc := 85) (C := RX2) (T := TX2) (N := 6) (ci := 2) inX2 hK hW 0 5 rfl rfl (by decide) rfl (List.mem_of_getElem? (i := 1) rfl) (v := .int (iI sz)) rfl dX2_add_85 ?_
              refine z_iconst F (pc := 88) (1) dX2_add_88 ?_
              refine z_iadd F (pc := 89) dX2_add_89 ?_
              refine z_put F (pc := 90) (C := RX2) (T := TX2) (N := 6) (ci := 2) inX2 tyX2 tyX2_ok nmX2 hK hW (ws' := wD cI cZ aD (zU xs sz x) (zU ys sz y) (zU lf sz 0) ev nm (sz + 1)) 0 5 rfl rfl (by decide) rfl (List.mem_of_getElem? (i := 1) rfl) rfl rfl (Nat.le_of_ble_eq_true rfl) dX2_add_90 rfl (fun H locs hW => ?_)
              refine z_aloadn F (pc := 93) dX2_add_93 rfl (lv_at hl 0 rfl) ?_
              refine z_get F (pc := 94) (C := RX2) (T := TX2) (N := 6) (ci := 2) inX2 hK hW 0 5 rfl rfl (by decide) rfl (List.mem_of_getElem? (i := 1) rfl) (v := .int (iI (sz + 1))) rfl dX2_add_94 ?_
              exact hret _ _ _ _ (sz + 1) ((zU xs sz x), (zU ys sz y), (zU lf sz 0), (sz + 1)) dX2_add_97 (by omega) (by try dsimp only; unfold addP; first | (left; refine ⟨by omega, rfl, rfl, rfl, rfl, rfl⟩) | (right; left; refine ⟨by omega, by omega, rfl, rfl, rfl, rfl, rfl⟩) | (right; right; refine ⟨by omega, by omega, rfl, rfl, rfl, ?_, rfl⟩; first | (rw [if_pos (by omega)]) | (rw [if_neg (by omega)]))) hW
            · skip
              refine z_aloadn F (pc := 70) dX2_add_70 rfl (lv_at hl 0 rfl) ?_
              refine z_get F (pc := 71) (C := RX2) (T := TX2) (N := 6) (ci := 2) inX2 hK hW 0 5 rfl rfl (by decide) rfl (List.mem_of_getElem? (i := 1) rfl) (v := .int (iI sz)) rfl dX2_add_71 ?_
              refine z_if_le F (pc := 74) 81 dX2_add_74 (by decide) (by omega) (fun c_74 => ?_) (fun c_74 => ?_)
              · skip
                refine z_iconst F (pc := 81) (0) dX2_add_81 ?_
                refine z_zast F (pc := 82) hK hW (ws' := wD cI cZ aD (zU xs sz x) (zU ys sz y) (zU lf sz 0) ev nm sz) 3 rfl (by decide) dX2_add_82 (by omega) (by omega) rfl (fun H locs hW => ?_)
                refine z_aloadn F (pc := 83) dX2_add_83 rfl (lv_at hl 0 rfl) ?_
                refine z_dup F (pc := 84) dX2_add_84 rfl ?_
                refine z_get F (pc := 85) (C := RX2) (T := TX2) (N := 6) (ci := 2) inX2 hK hW 0 5 rfl rfl (by decide) rfl (List.mem_of_getElem? (i := 1) rfl) (v := .int (iI sz)) rfl dX2_add_85 ?_
                refine z_iconst F (pc := 88) (1) dX2_add_88 ?_
                refine z_iadd F (pc := 89) dX2_add_89 ?_
                refine z_put F (pc := 90) (C := RX2) (T := TX2) (N := 6) (ci := 2) inX2 tyX2 tyX2_ok nmX2 hK hW (ws' := wD cI cZ aD (zU xs sz x) (zU ys sz y) (zU lf sz 0) ev nm (sz + 1)) 0 5 rfl rfl (by decide) rfl (List.mem_of_getElem? (i := 1) rfl) rfl rfl (Nat.le_of_ble_eq_true rfl) dX2_add_90 rfl (fun H locs hW => ?_)
                refine z_aloadn F (pc := 93) dX2_add_93 rfl (lv_at hl 0 rfl) ?_
                refine z_get F (pc := 94) (C := RX2) (T := TX2) (N := 6) (ci := 2) inX2 hK hW 0 5 rfl rfl (by decide) rfl (List.mem_of_getElem? (i := 1) rfl) (v := .int (iI (sz + 1))) rfl dX2_add_94 ?_
                exact hret _ _ _ _ (sz + 1) ((zU xs sz x), (zU ys sz y), (zU lf sz 0), (sz + 1)) dX2_add_97 (by omega) (by try dsimp only; unfold addP; first | (left; refine ⟨by omega, rfl, rfl, rfl, rfl, rfl⟩) | (right; left; refine ⟨by omega, by omega, rfl, rfl, rfl, rfl, rfl⟩) | (right; right; refine ⟨by omega, by omega, rfl, rfl, rfl, ?_, rfl⟩; first | (rw [if_pos (by omega)]) | (rw [if_neg (by omega)]))) hW
              · skip
                refine z_iconst F (pc := 77) (1) dX2_add_77 ?_
                refine z_goto F (pc := 78) 82 dX2_add_78 (by decide) ?_
                refine z_zast F (pc := 82) hK hW (ws' := wD cI cZ aD (zU xs sz x) (zU ys sz y) (zU lf sz 1) ev nm sz) 3 rfl (by decide) dX2_add_82 (by omega) (by omega) rfl (fun H locs hW => ?_)
                refine z_aloadn F (pc := 83) dX2_add_83 rfl (lv_at hl 0 rfl) ?_
                refine z_dup F (pc := 84) dX2_add_84 rfl ?_
                refine z_get F (pc := 85) (C := RX2) (T := TX2) (N := 6) (ci := 2) inX2 hK hW 0 5 rfl rfl (by decide) rfl (List.mem_of_getElem? (i := 1) rfl) (v := .int (iI sz)) rfl dX2_add_85 ?_
                refine z_iconst F (pc := 88) (1) dX2_add_88 ?_
                refine z_iadd F (pc := 89) dX2_add_89 ?_
                refine z_put F (pc := 90) (C := RX2) (T := TX2) (N := 6) (ci := 2) inX2 tyX2 tyX2_ok nmX2 hK hW (ws' := wD cI cZ aD (zU xs sz x) (zU ys sz y) (zU lf sz 1) ev nm (sz + 1)) 0 5 rfl rfl (by decide) rfl (List.mem_of_getElem? (i := 1) rfl) rfl rfl (Nat.le_of_ble_eq_true rfl) dX2_add_90 rfl (fun H locs hW => ?_)
                refine z_aloadn F (pc := 93) dX2_add_93 rfl (lv_at hl 0 rfl) ?_
                refine z_get F (pc := 94) (C := RX2) (T := TX2) (N := 6) (ci := 2) inX2 hK hW 0 5 rfl rfl (by decide) rfl (List.mem_of_getElem? (i := 1) rfl) (v := .int (iI (sz + 1))) rfl dX2_add_94 ?_
                exact hret _ _ _ _ (sz + 1) ((zU xs sz x), (zU ys sz y), (zU lf sz 1), (sz + 1)) dX2_add_97 (by omega) (by try dsimp only; unfold addP; first | (left; refine ⟨by omega, rfl, rfl, rfl, rfl, rfl⟩) | (right; left; refine ⟨by omega, by omega, rfl, rfl, rfl, rfl, rfl⟩) | (right; right; refine ⟨by omega, by omega, rfl, rfl, rfl, ?_, rfl⟩; first | (rw [if_pos (by omega)]) | (rw [if_neg (by omega)]))) hW
          · skip
            refine z_bipush F (pc := 35) (-3) (by decide +kernel) dX2_add_35 ?_
            exact hret _ _ _ _ (-3) (xs, ys, lf, sz) dX2_add_37 (by omega) (by try dsimp only; unfold addP; first | (left; refine ⟨by omega, rfl, rfl, rfl, rfl, rfl⟩) | (right; left; refine ⟨by omega, by omega, rfl, rfl, rfl, rfl, rfl⟩) | (right; right; refine ⟨by omega, by omega, rfl, rfl, rfl, ?_, rfl⟩; first | (rw [if_pos (by omega)]) | (rw [if_neg (by omega)]))) hW
        · skip
          refine z_iconst F (pc := 24) (-1) dX2_add_24 ?_
          exact hret _ _ _ _ (-1) (xs, ys, lf, sz) dX2_add_25 (by omega) (by try dsimp only; unfold addP; first | (left; refine ⟨by omega, rfl, rfl, rfl, rfl, rfl⟩) | (right; left; refine ⟨by omega, by omega, rfl, rfl, rfl, rfl, rfl⟩) | (right; right; refine ⟨by omega, by omega, rfl, rfl, rfl, ?_, rfl⟩; first | (rw [if_pos (by omega)]) | (rw [if_neg (by omega)]))) hW

set_option maxHeartbeats 4000000 in
set_option maxRecDepth 100000 in
theorem c_X2_empty (l : Launch) (D : va_G) (cI cZ : ClassId) (aD : Nat → Nat) (xs ys lf ev nm : Int → Int) (sz : Int) (sz0 : Nat) (hd : 0 ≤ sz ∧ sz ≤ 30) : Met l yX2_empty wsX2_empty ({ frames := 0, cells := 0, slots := 0, locals := 0 } : Room) (zPc D cI cZ [.ref (aD 0)] (wD cI cZ aD xs ys lf ev nm sz) sz0) (zQi D cI cZ (wD cI cZ aD xs ys lf ev nm sz) sz0 (fun (r : Int) (u : (Int)) => (r = sz) ∧ (u = 0)) (fun (u : (Int)) => wD cI cZ aD xs ys lf ev nm u)) 0 0 (va_A (wD cI cZ aD xs ys lf ev nm sz) sz0) := by
  refine z_ofI (maxL := 2) (plainFor_of_name (by decide)) rfl (Nat.le_of_ble_eq_true rfl) (Or.inl rfl) ?_
  intro p e s m below meth c A ls Q F hK hW hA hl hret
  have hl : lv_has ls 2 [(0, .ref (aD 0))] := hl
  have inX2 : ∀ w ∈ u_ws RX2 TX2 6, w ∈ wsX2_empty := fun _ h => List.mem_cons_of_mem _ (List.mem_append_right _ h)
  refine z_aloadn F (pc := 0) dX2_empty_0 rfl (lv_at hl 0 rfl) ?_
  refine z_get F (pc := 1) (C := RX2) (T := TX2) (N := 6) (ci := 2) inX2 hK hW 0 5 rfl rfl (by decide) rfl (List.mem_of_getElem? (i := 1) rfl) (v := .int (iI sz)) rfl dX2_empty_1 ?_
  refine z_istoren F (pc := 4) hl (lv' := [(1, .int (iI sz)), (0, .ref (aD 0))]) dX2_empty_4 rfl (by decide) rfl (fun ls hl => ?_)
  refine z_aloadn F (pc := 5) dX2_empty_5 rfl (lv_at hl 1 rfl) ?_
  refine z_iconst F (pc := 6) (0) dX2_empty_6 ?_
  refine z_put F (pc := 7) (C := RX2) (T := TX2) (N := 6) (ci := 2) inX2 tyX2 tyX2_ok nmX2 hK hW (ws' := wD cI cZ aD xs ys lf ev nm 0) 0 5 rfl rfl (by decide) rfl (List.mem_of_getElem? (i := 1) rfl) rfl rfl (Nat.le_of_ble_eq_true rfl) dX2_empty_7 rfl (fun H locs hW => ?_)
  refine z_iloadn F (pc := 10) dX2_empty_10 rfl (lv_at hl 0 rfl) ?_
  exact hret _ _ _ _ sz 0 dX2_empty_11 (by omega) (by exact ⟨rfl, rfl⟩) hW

set_option maxHeartbeats 4000000 in
set_option maxRecDepth 100000 in
theorem c_X2_cutTo (l : Launch) (D : va_G) (cI cZ : ClassId) (aD : Nat → Nat) (xs ys lf ev nm : Int → Int) (sz : Int) (mm : Int) (sz0 : Nat) (r_mm : (-2147483648 ≤ mm ∧ mm < 2147483648)) : Met l yX2_cutTo wsX2_cutTo ({ frames := 0, cells := 0, slots := 0, locals := 0 } : Room) (zPc D cI cZ [.ref (aD 0), .int (iI mm)] (wD cI cZ aD xs ys lf ev nm sz) sz0) (zQv D cI cZ (wD cI cZ aD xs ys lf ev nm sz) sz0 (fun (u : (Int)) => u = mm) (fun (u : (Int)) => wD cI cZ aD xs ys lf ev nm u)) 0 0 (va_A (wD cI cZ aD xs ys lf ev nm sz) sz0) := by
  refine z_ofV (maxL := 2) (plainFor_of_name (by decide)) rfl (Nat.le_of_ble_eq_true rfl) ?_
  intro p e s m below meth c A ls Q F hK hW hA hl hret
  have hl : lv_has ls 2 [(0, .ref (aD 0)), (1, .int (iI mm))] := hl
  have inX2 : ∀ w ∈ u_ws RX2 TX2 6, w ∈ wsX2_cutTo := fun _ h => List.mem_cons_of_mem _ (List.mem_append_right _ h)
  refine z_aloadn F (pc := 0) dX2_cutTo_0 rfl (lv_at hl 0 rfl) ?_
  refine z_iloadn F (pc := 1) dX2_cutTo_1 rfl (lv_at hl 1 rfl) ?_
  refine z_put F (pc := 2) (C := RX2) (T := TX2) (N := 6) (ci := 2) inX2 tyX2 tyX2_ok nmX2 hK hW (ws' := wD cI cZ aD xs ys lf ev nm mm) 0 5 rfl rfl (by decide) rfl (List.mem_of_getElem? (i := 1) rfl) rfl rfl (Nat.le_of_ble_eq_true rfl) dX2_cutTo_2 rfl (fun H locs hW => ?_)
  exact hret _ _ _ _ mm dX2_cutTo_5 (by rfl) hW

set_option maxHeartbeats 4000000 in
set_option maxRecDepth 100000 in
theorem c_X2_drawnTo (l : Launch) (D : va_G) (cI cZ : ClassId) (aD : Nat → Nat) (xs ys lf ev nm : Int → Int) (sz : Int) (q : Int) (sz0 : Nat) (r_q : (-2147483648 ≤ q ∧ q < 2147483648)) (hd : Dok xs ys lf sz) (hq : 1 ≤ q ∧ q < sz) : Met l yX2_drawnTo wsX2_drawnTo ({ frames := 1, cells := 0, slots := 0, locals := 21 } : Room) (zPc D cI cZ [.ref (aD 0), .int (iI q)] (wD cI cZ aD xs ys lf ev nm sz) sz0) (zQi D cI cZ (wD cI cZ aD xs ys lf ev nm sz) sz0 (fun (r : Int) (u : Unit) => r = dr xs ys lf q) (fun (u : Unit) => wD cI cZ aD xs ys lf ev nm sz)) 0 0 (va_A (wD cI cZ aD xs ys lf ev nm sz) sz0) := by
  have ha := Dok_at hd (j := q) (by omega) hq.2
  have hb := Dok_at hd (j := q - 1) (by omega) (by omega)
  have hs := hd.1
  have hr := dr_rng hd hq.1 hq.2
  refine z_ofI (maxL := 2) (plainFor_of_name (by decide)) rfl (Nat.le_of_ble_eq_true rfl) (Or.inl rfl) ?_
  intro p e s m below meth c A ls Q F hK hW hA hl hret
  have hl : lv_has ls 2 [(0, .ref (aD 0)), (1, .int (iI q))] := hl
  have inX2 : ∀ w ∈ u_ws RX2 TX2 6, w ∈ wsX2_drawnTo := fun _ h => List.mem_cons_of_mem _ (List.mem_append_right _ h)
  refine z_aloadn F (pc := 0) dX2_drawnTo_0 rfl (lv_at hl 0 rfl) ?_
  refine z_get F (pc := 1) (C := RX2) (T := TX2) (N := 6) (ci := 2) inX2 hK hW 0 2 rfl rfl (by decide) rfl (List.mem_of_getElem? (i := 1) rfl) (v := .ref (aD 3)) rfl dX2_drawnTo_1 ?_
  refine z_iloadn F (pc := 4) dX2_drawnTo_4 rfl (lv_at hl 1 rfl) ?_
  refine z_zald F (pc := 5) hK hW 3 rfl (by decide) dX2_drawnTo_5 (by omega) ?_
  refine z_if_eq F (pc := 6) 11 dX2_drawnTo_6 (by decide) (by omega) (fun c_6 => ?_) (fun c_6 => ?_)
  · skip
    refine z_aloadn F (pc := 11) dX2_drawnTo_11 rfl (lv_at hl 0 rfl) ?_
    refine z_get F (pc := 12) (C := RX2) (T := TX2) (N := 6) (ci := 2) inX2 hK hW 0 0 rfl rfl (by decide) rfl (List.mem_of_getElem? (i := 2) rfl) (v := .ref (aD 1)) rfl dX2_drawnTo_12 ?_
    refine z_iloadn F (pc := 15) dX2_drawnTo_15 rfl (lv_at hl 1 rfl) ?_
    refine z_iald F (pc := 16) hK hW 1 rfl (by decide) dX2_drawnTo_16 (by omega) ?_
    refine z_aloadn F (pc := 17) dX2_drawnTo_17 rfl (lv_at hl 0 rfl) ?_
    refine z_get F (pc := 18) (C := RX2) (T := TX2) (N := 6) (ci := 2) inX2 hK hW 0 0 rfl rfl (by decide) rfl (List.mem_of_getElem? (i := 2) rfl) (v := .ref (aD 1)) rfl dX2_drawnTo_18 ?_
    refine z_iloadn F (pc := 21) dX2_drawnTo_21 rfl (lv_at hl 1 rfl) ?_
    refine z_iconst F (pc := 22) (1) dX2_drawnTo_22 ?_
    refine z_isub F (pc := 23) dX2_drawnTo_23 ?_
    refine z_iald F (pc := 24) hK hW 1 rfl (by decide) dX2_drawnTo_24 (by omega) ?_
    refine z_isub F (pc := 25) dX2_drawnTo_25 ?_
    refine z_mabs F (pc := 26) hl.1 (List.mem_of_getElem? (i := 3) rfl) (List.mem_of_getElem? (i := 4) rfl) (List.mem_of_getElem? (i := 5) rfl) (List.mem_of_getElem? (i := 6) rfl) (Nat.le_of_ble_eq_true rfl) (Nat.le_of_ble_eq_true rfl) (Nat.le_of_ble_eq_true rfl) (Nat.le_of_ble_eq_true rfl) dX2_drawnTo_26 (by omega) ?_
    refine z_aloadn F (pc := 29) dX2_drawnTo_29 rfl (lv_at hl 0 rfl) ?_
    refine z_get F (pc := 30) (C := RX2) (T := TX2) (N := 6) (ci := 2) inX2 hK hW 0 1 rfl rfl (by decide) rfl (List.mem_of_getElem? (i := 7) rfl) (v := .ref (aD 2)) rfl dX2_drawnTo_30 ?_
    refine z_iloadn F (pc := 33) dX2_drawnTo_33 rfl (lv_at hl 1 rfl) ?_
    refine z_iald F (pc := 34) hK hW 2 rfl (by decide) dX2_drawnTo_34 (by omega) ?_
    refine z_aloadn F (pc := 35) dX2_drawnTo_35 rfl (lv_at hl 0 rfl) ?_
    refine z_get F (pc := 36) (C := RX2) (T := TX2) (N := 6) (ci := 2) inX2 hK hW 0 1 rfl rfl (by decide) rfl (List.mem_of_getElem? (i := 7) rfl) (v := .ref (aD 2)) rfl dX2_drawnTo_36 ?_
    refine z_iloadn F (pc := 39) dX2_drawnTo_39 rfl (lv_at hl 1 rfl) ?_
    refine z_iconst F (pc := 40) (1) dX2_drawnTo_40 ?_
    refine z_isub F (pc := 41) dX2_drawnTo_41 ?_
    refine z_iald F (pc := 42) hK hW 2 rfl (by decide) dX2_drawnTo_42 (by omega) ?_
    refine z_isub F (pc := 43) dX2_drawnTo_43 ?_
    refine z_mabs F (pc := 44) hl.1 (List.mem_of_getElem? (i := 3) rfl) (List.mem_of_getElem? (i := 4) rfl) (List.mem_of_getElem? (i := 5) rfl) (List.mem_of_getElem? (i := 6) rfl) (Nat.le_of_ble_eq_true rfl) (Nat.le_of_ble_eq_true rfl) (Nat.le_of_ble_eq_true rfl) (Nat.le_of_ble_eq_true rfl) dX2_drawnTo_44 (by omega) ?_
    refine z_iadd F (pc := 47) dX2_drawnTo_47 ?_
    exact hret _ _ _ _ ((((xs q) - (xs (q - 1))).natAbs : Int) + (((ys q) - (ys (q - 1))).natAbs : Int)) () dX2_drawnTo_48 (by omega) (by unfold dr; rw [if_pos (by omega)]) hW
  · skip
    refine z_iconst F (pc := 9) (0) dX2_drawnTo_9 ?_
    exact hret _ _ _ _ 0 () dX2_drawnTo_10 (by omega) (by unfold dr; rw [if_neg c_6]) hW

set_option maxHeartbeats 4000000 in
set_option maxRecDepth 100000 in
theorem c_X2_length (l : Launch) (D : va_G) (cI cZ : ClassId) (aD : Nat → Nat) (xs ys lf ev nm : Int → Int) (sz : Int) (sz0 : Nat) (hd : Dok xs ys lf sz) : Met l yX2_length wsX2_length ({ frames := 2, cells := 0, slots := 0, locals := 42 } : Room) (zPc D cI cZ [.ref (aD 0)] (wD cI cZ aD xs ys lf ev nm sz) sz0) (zQi D cI cZ (wD cI cZ aD xs ys lf ev nm sz) sz0 (fun (r : Int) (u : Unit) => r = wy xs ys lf sz) (fun (u : Unit) => wD cI cZ aD xs ys lf ev nm sz)) 0 0 (va_A (wD cI cZ aD xs ys lf ev nm sz) sz0) := by
  have hs := hd.1
  refine z_ofI (maxL := 3) (plainFor_of_name (by decide)) rfl (Nat.le_of_ble_eq_true rfl) (Or.inl rfl) ?_
  intro p e s m below meth c A ls Q F hK hW hA hl hret
  have hl : lv_has ls 3 [(0, .ref (aD 0))] := hl
  have inX2 : ∀ w ∈ u_ws RX2 TX2 6, w ∈ wsX2_length := fun _ h => List.mem_cons_of_mem _ (List.mem_append_right _ h)
  refine z_iconst F (pc := 0) (0) dX2_length_0 ?_
  refine z_istoren F (pc := 1) hl (lv' := [(1, .int (iI 0)), (0, .ref (aD 0))]) dX2_length_1 rfl (by decide) rfl (fun ls hl => ?_)
  refine z_iconst F (pc := 2) (1) dX2_length_2 ?_
  refine z_istoren F (pc := 3) hl (lv' := [(2, .int (iI 1)), (1, .int (iI 0)), (0, .ref (aD 0))]) dX2_length_3 rfl (by decide) rfl (fun ls hl => ?_)
  have cut_4 : ∀ (k : Nat) (sm : Int) (q : Int) (H : Heap) (locs : List Loc) (ls : Array Slot), (sz - q).toNat < k → (1 ≤ q ∧ (q ≤ sz ∨ q = 1)) → (sm = wy xs ys lf q) → lv_has ls 3 [(2, .int (iI q)), (1, .int (iI sm)), (0, .ref (aD 0))] → zW D A s.heap H locs (wD cI cZ aD xs ys lf ev nm sz) → W p l e ({ frames := 2, cells := 0, slots := 0, locals := 42 } : Room) s m ([.ref (aD 0)] : List Value).toArray below meth c H locs 0 0 Q (F0 m 4 ls []) := by
    intro k
    induction k with
    | zero => intro sm q H locs ls hm; exact absurd hm (Nat.not_lt_zero _)
    | succ k ih_4 =>
      intro sm q H locs ls hm_4 h1 h2 hl hW
      refine z_iloadn F (pc := 4) dX2_length_4 rfl (lv_at hl 0 rfl) ?_
      refine z_aloadn F (pc := 5) dX2_length_5 rfl (lv_at hl 2 rfl) ?_
      refine z_get F (pc := 6) (C := RX2) (T := TX2) (N := 6) (ci := 2) inX2 hK hW 0 5 rfl rfl (by decide) rfl (List.mem_of_getElem? (i := 1) rfl) (v := .int (iI sz)) rfl dX2_length_6 ?_
      refine z_icmp_ge F (pc := 9) 26 dX2_length_9 (by decide) (by omega) (fun c_9 => ?_) (fun c_9 => ?_)
      · skip
        have ex : sm = wy xs ys lf sz := by (by_cases hz : q = sz) <;> first | (rw [h2, hz]) | (rw [h2, wy_0 xs ys lf (by omega), wy_0 xs ys lf (by omega)])
        have hw := wy_r hd (q := sz) (Int.le_refl _)
        refine z_iloadn F (pc := 26) dX2_length_26 rfl (lv_at hl 1 rfl) ?_
        exact hret _ _ _ _ sm () dX2_length_27 (by omega) (by exact ex) hW
      · skip
        refine z_iloadn F (pc := 12) dX2_length_12 rfl (lv_at hl 1 rfl) ?_
        refine z_aloadn F (pc := 13) dX2_length_13 rfl (lv_at hl 2 rfl) ?_
        refine z_iloadn F (pc := 14) dX2_length_14 rfl (lv_at hl 0 rfl) ?_
        refine z_callVi F (pc := 15) hK hW hA (As := [.int (iI q)]) (rest := [.int (iI sm)]) (ws' := fun (u : Unit) => wD cI cZ aD xs ys lf ev nm sz) (wr := ([])) (c_X2_drawnTo l D cI cZ aD xs ys lf ev nm sz q _ (by omega) (by exact hd) (by omega)) (cwV 1 F.2.2.2.2 gX2_length_X2_drawnTo rfl rfl rfl (by decide +kernel) ⟨Nat.le_of_ble_eq_true rfl, Nat.le_of_ble_eq_true rfl⟩) [0, 1, 2, 3, 4, 5] [] [0, 1, 2, 3, 4, 5] rfl rfl (by decide) (by decide) (by decide) (fun _ => rfl) (by decide) (q0 := 0) (ci := 2) rfl rfl rfl rfl rfl hl.1 (Nat.le_of_ble_eq_true rfl) dX2_length_15 ⟨Nat.le_of_ble_eq_true rfl, Nat.le_of_ble_eq_true rfl⟩ (fun z_15 u H locs r_z_15 hp_15 hW => ?_)
        subst hp_15
        refine z_iadd F (pc := 18) dX2_length_18 ?_
        refine z_istoren F (pc := 19) hl (lv' := [(1, .int (iI (sm + (dr xs ys lf q)))), (2, .int (iI q)), (0, .ref (aD 0))]) dX2_length_19 rfl (by decide) rfl (fun ls hl => ?_)
        refine z_iinc F (pc := 20) hl (lv' := [(2, .int (iI (q + 1))), (1, .int (iI (sm + (dr xs ys lf q)))), (0, .ref (aD 0))]) dX2_length_20 (k := 1) rfl (by decide) rfl (fun ls hl => ?_)
        refine z_goto F (pc := 23) 4 dX2_length_23 (by decide) ?_
        exact ih_4 (sm + (dr xs ys lf q)) (q + 1) _ _ _ (by omega) (by omega) (by rw [wy_s xs ys lf h1.1]; omega) (lv_sub hl [0, 1, 2] rfl) hW
  exact cut_4 _ 0 1 _ _ _ (Nat.lt_succ_self _) (by omega) (by exact (wy_0 xs ys lf (by omega)).symm) (lv_sub hl [0, 1, 2] rfl) hW
end
section
/-- the point q at which the goal (in sevenths) is drawn -/
def isEv (xs ys lf : Int → Int) (sz g q : Int) : Prop := (1 ≤ q ∧ q < sz) ∧ 0 < dr xs ys lf q ∧ (7 * wy xs ys lf q ≤ g ∧ g ≤ 7 * wy xs ys lf q + 7 * dr xs ys lf q) ∧ ∀ j, 1 ≤ j → j < q → ¬ (0 < dr xs ys lf j ∧ g ≤ 7 * wy xs ys lf j + 7 * dr xs ys lf j)
def pE (xs ys lf f : Int → Int) (g q : Int) : Int := 100 * f (q - 1) + ((f q - f (q - 1)) * 100 * (g - 7 * wy xs ys lf q)) / (7 * dr xs ys lf q)
theorem isEv_one {xs ys lf : Int → Int} {sz g q q2 : Int} (h : isEv xs ys lf sz g q) (h2 : isEv xs ys lf sz g q2) : q = q2 := by
  rcases Int.lt_trichotomy q q2 with a | a | a
  · exact absurd ⟨h.2.1, h.2.2.1.2⟩ (h2.2.2.2 q h.1.1 a)
  · exact a
  · exact absurd ⟨h2.2.1, h2.2.2.1.2⟩ (h.2.2.2 q2 h2.1.1 a)
def Ev (xs ys lf : Int → Int) (sz : Int) (e : Int → Int) : Prop := ∀ i, 0 ≤ i → i < 8 → ∃ q, isEv xs ys lf sz (i * wy xs ys lf sz) q ∧ e (2 * i) = pE xs ys lf xs (i * wy xs ys lf sz) q ∧ e (2 * i + 1) = pE xs ys lf ys (i * wy xs ys lf sz) q
theorem Ev_one {xs ys lf : Int → Int} {sz : Int} {e e2 : Int → Int} (h : Ev xs ys lf sz e) (h2 : Ev xs ys lf sz e2) : ∀ j, 0 ≤ j → j < 16 → e j = e2 j := by
  intro j h0 h1
  obtain ⟨q, a1, a2, a3⟩ := h (j / 2) (by omega) (by omega)
  obtain ⟨q2, b1, b2, b3⟩ := h2 (j / 2) (by omega) (by omega)
  have e0 := isEv_one a1 b1
  subst e0
  rcases (show j = 2 * (j / 2) ∨ j = 2 * (j / 2) + 1 by omega) with z | z
  · rw [z, a2, b2]
  · rw [z, a3, b3]
/-- part of the way from one to the other -/
theorem pw_b {fr to pa st : Int} (h1 : -100 ≤ fr ∧ fr ≤ 100) (h2 : -100 ≤ to ∧ to ≤ 100) (h3 : 0 ≤ pa ∧ pa ≤ st) (h4 : 0 < st ∧ st ≤ 2800) : (-56000000 ≤ (to - fr) * 100 * pa ∧ (to - fr) * 100 * pa ≤ 56000000) ∧ (-10000 ≤ 100 * fr + ((to - fr) * 100 * pa) / st ∧ 100 * fr + ((to - fr) * 100 * pa) / st ≤ 10000) ∧ -56000000 ≤ (to - fr) * 100 := by
  have hd : -20000 ≤ (to - fr) * 100 ∧ (to - fr) * 100 ≤ 20000 := by omega
  generalize hx : (to - fr) * 100 = d at hd
  have k1 : 0 ≤ (d + 20000) * pa := Int.mul_nonneg (by omega) h3.1
  have k2 : 0 ≤ (20000 - d) * pa := Int.mul_nonneg (by omega) h3.1
  have k3 : (d + 20000) * pa = d * pa + 20000 * pa := Int.add_mul _ _ _
  have k4 : (20000 - d) * pa = 20000 * pa - d * pa := Int.sub_mul _ _ _
  refine ⟨by omega, ?_, by omega⟩
  by_cases q : 0 ≤ d
  · have m1 : 0 ≤ d * pa := Int.mul_nonneg q h3.1
    have m2 : d * pa ≤ d * st := Int.mul_le_mul_of_nonneg_left h3.2 q
    have m3 : 0 ≤ d * pa / st := Int.ediv_nonneg m1 (by omega)
    have m4 : d * pa / st ≤ d := by
      have := Int.ediv_le_ediv h4.1 m2
      rw [Int.mul_ediv_cancel _ (show st ≠ 0 by omega)] at this
      exact this
    omega
  · have m1 : d * pa ≤ 0 := Int.mul_nonpos_of_nonpos_of_nonneg (by omega) h3.1
    have m2 : d * st ≤ d * pa := Int.mul_le_mul_of_nonpos_left (by omega) h3.2
    have m3 : d * pa / st ≤ 0 := by
      have := Int.ediv_le_ediv h4.1 m1
      rw [Int.zero_ediv] at this
      exact this
    have m4 : d ≤ d * pa / st := by
      have := Int.ediv_le_ediv h4.1 m2
      rw [Int.mul_ediv_cancel _ (show st ≠ 0 by omega)] at this
      exact this
    omega
theorem pE_b {xs ys lf f : Int → Int} {sz g q : Int} (hd : Dok xs ys lf sz) (hf : f = xs ∨ f = ys) (h : isEv xs ys lf sz g q) : -10000 ≤ pE xs ys lf f g q ∧ pE xs ys lf f g q ≤ 10000 := by
  have a := Dok_at hd (j := q) (by have := h.1; omega) h.1.2
  have b := Dok_at hd (j := q - 1) (by have := h.1; omega) (by have := h.1; omega)
  have c := dr_rng hd h.1.1 h.1.2
  have k1 := h.2.1
  have k2 := h.2.2.1
  unfold pE
  rcases hf with rfl | rfl
  · exact (pw_b b.1 a.1 (pa := g - 7 * wy f ys lf q) (st := 7 * dr f ys lf q) (by omega) (by omega)).2.1
  · exact (pw_b b.2.1 a.2.1 (pa := g - 7 * wy xs f lf q) (st := 7 * dr xs f lf q) (by omega) (by omega)).2.1
theorem Ev_b {xs ys lf : Int → Int} {sz : Int} {e : Int → Int} (hd : Dok xs ys lf sz) (h : Ev xs ys lf sz e) : ∀ j, 0 ≤ j → j < 16 → -10000 ≤ e j ∧ e j ≤ 10000 := by
  intro j h0 h1
  obtain ⟨q, a1, a2, a3⟩ := h (j / 2) (by omega) (by omega)
  rcases (show j = 2 * (j / 2) ∨ j = 2 * (j / 2) + 1 by omega) with z | z
  · rw [z, a2]; exact pE_b hd (Or.inl rfl) a1
  · rw [z, a3]; exact pE_b hd (Or.inr rfl) a1

set_option maxHeartbeats 4000000 in
set_option maxRecDepth 100000 in
theorem c_X2_partWay (l : Launch) (D : va_G) (cI cZ : ClassId) (fr to pa st : Int) (sz0 : Nat) (r_fr : (-2147483648 ≤ fr ∧ fr < 2147483648)) (r_to : (-2147483648 ≤ to ∧ to < 2147483648)) (r_pa : (-2147483648 ≤ pa ∧ pa < 2147483648)) (r_st : (-2147483648 ≤ st ∧ st < 2147483648)) (h1 : -100 ≤ fr ∧ fr ≤ 100) (h2 : -100 ≤ to ∧ to ≤ 100) (h3 : 0 ≤ pa ∧ pa ≤ st) (h4 : 0 < st ∧ st ≤ 2800) : Met l yX2_partWay wsX2_partWay ({ frames := 1, cells := 0, slots := 0, locals := 22 } : Room) (zPc D cI cZ [.int (iI fr), .int (iI to), .int (iI pa), .int (iI st)] ([]) sz0) (zQi D cI cZ ([]) sz0 (fun (r : Int) (u : Unit) => r = 100 * fr + ((to - fr) * 100 * pa) / st) (fun (u : Unit) => [])) 0 0 (va_A ([]) sz0) := by
  have hb := pw_b h1 h2 h3 h4
  refine z_ofI (maxL := 4) (plainFor_of_name (by decide)) rfl (Nat.le_of_ble_eq_true rfl) (Or.inl rfl) ?_
  intro p e s m below meth c A ls Q F hK hW hA hl hret
  have hl : lv_has ls 4 [(0, .int (iI fr)), (1, .int (iI to)), (2, .int (iI pa)), (3, .int (iI st))] := hl
  refine z_iloadn F (pc := 0) dX2_partWay_0 rfl (lv_at hl 3 rfl) ?_
  refine z_if_gt F (pc := 1) 9 dX2_partWay_1 (by decide) (by omega) (fun c_1 => ?_) (fun c_1 => ?_)
  · skip
    refine z_bipush F (pc := 9) (100) (by decide +kernel) dX2_partWay_9 ?_
    refine z_iloadn F (pc := 11) dX2_partWay_11 rfl (lv_at hl 0 rfl) ?_
    refine z_imul F (pc := 12) dX2_partWay_12 ?_
    refine z_iloadn F (pc := 13) dX2_partWay_13 rfl (lv_at hl 1 rfl) ?_
    refine z_iloadn F (pc := 14) dX2_partWay_14 rfl (lv_at hl 0 rfl) ?_
    refine z_isub F (pc := 15) dX2_partWay_15 ?_
    refine z_bipush F (pc := 16) (100) (by decide +kernel) dX2_partWay_16 ?_
    refine z_imul F (pc := 18) dX2_partWay_18 ?_
    refine z_iloadn F (pc := 19) dX2_partWay_19 rfl (lv_at hl 2 rfl) ?_
    refine z_imul F (pc := 20) dX2_partWay_20 ?_
    refine z_iloadn F (pc := 21) dX2_partWay_21 rfl (lv_at hl 3 rfl) ?_
    refine z_callSi F (pc := 22) hK hW hA (As := [.int (iI (((to - fr) * 100) * pa)), .int (iI st)]) (rest := [.int (iI (100 * fr))]) (c_J9_floorDiv_7cf53 l D cI cZ (((to - fr) * 100) * pa) st _ (by omega) (by omega) (by omega) (by omega)) (va_cwS 2 F.2.2.2.2 gX2_partWay_J9_floorDiv_7cf53 rfl rfl rfl (by decide +kernel) ⟨Nat.le_of_ble_eq_true rfl, Nat.le_of_ble_eq_true rfl⟩) rfl rfl hl.1 (Nat.le_of_ble_eq_true rfl) dX2_partWay_22 ⟨Nat.le_of_ble_eq_true rfl, Nat.le_of_ble_eq_true rfl⟩ (fun z_22 H locs r_z_22 hp_22 hW => ?_)
    subst hp_22
    refine z_iadd F (pc := 25) dX2_partWay_25 ?_
    exact hret _ _ _ _ ((100 * fr) + ((((to - fr) * 100) * pa) / st)) () dX2_partWay_26 (by omega) (by rfl) hW
  · skip
    exact absurd c_1 (by omega)

set_option maxHeartbeats 4000000 in
set_option maxRecDepth 100000 in
theorem c_X2_placeEven (l : Launch) (D : va_G) (cI cZ : ClassId) (aD : Nat → Nat) (xs ys lf ev nm : Int → Int) (sz : Int) (i g : Int) (sz0 : Nat) (r_i : (-2147483648 ≤ i ∧ i < 2147483648)) (r_g : (-2147483648 ≤ g ∧ g < 2147483648)) (hd : Dok xs ys lf sz) (hi : 0 ≤ i ∧ i < 8) (hg : 0 ≤ g ∧ g ≤ 7 * wy xs ys lf sz) (hw : 0 < wy xs ys lf sz) : Met l yX2_placeEven wsX2_placeEven ({ frames := 2, cells := 0, slots := 0, locals := 45 } : Room) (zPc D cI cZ [.ref (aD 0), .int (iI i), .int (iI g)] (wD cI cZ aD xs ys lf ev nm sz) sz0) (zQv D cI cZ (wD cI cZ aD xs ys lf ev nm sz) sz0 (fun (u : (Int → Int) × (Int)) => isEv xs ys lf sz g u.2 ∧ u.1 = zU (zU ev (2 * i) (pE xs ys lf xs g u.2)) (2 * i + 1) (pE xs ys lf ys g u.2)) (fun (u : (Int → Int) × (Int)) => wD cI cZ aD xs ys lf u.1 nm sz)) 0 0 (va_A (wD cI cZ aD xs ys lf ev nm sz) sz0) := by
  have hs := hd.1
  have hww := wy_r hd (q := sz) (Int.le_refl _)
  refine z_ofV (maxL := 6) (plainFor_of_name (by decide)) rfl (Nat.le_of_ble_eq_true rfl) ?_
  intro p e s m below meth c A ls Q F hK hW hA hl hret
  have hl : lv_has ls 6 [(0, .ref (aD 0)), (1, .int (iI i)), (2, .int (iI g))] := hl
  have inX2 : ∀ w ∈ u_ws RX2 TX2 6, w ∈ wsX2_placeEven := fun _ h => List.mem_cons_of_mem _ (List.mem_append_right _ h)
  refine z_iconst F (pc := 0) (0) dX2_placeEven_0 ?_
  refine z_istoren F (pc := 1) hl (lv' := [(3, .int (iI 0)), (0, .ref (aD 0)), (1, .int (iI i)), (2, .int (iI g))]) dX2_placeEven_1 rfl (by decide) rfl (fun ls hl => ?_)
  refine z_iconst F (pc := 2) (1) dX2_placeEven_2 ?_
  refine z_istore F (pc := 3) hl (lv' := [(4, .int (iI 1)), (3, .int (iI 0)), (0, .ref (aD 0)), (1, .int (iI i)), (2, .int (iI g))]) dX2_placeEven_3 (by decide) rfl (fun ls hl => ?_)
  have cut_5 : ∀ (k : Nat) (a : Int) (q : Int) (H : Heap) (locs : List Loc) (ls : Array Slot), (sz - q).toNat < k → (1 ≤ q ∧ (q ≤ sz ∨ q = 1)) → (a = 7 * wy xs ys lf q) → (7 * wy xs ys lf q < g ∨ wy xs ys lf q = 0) → (∀ j, 1 ≤ j → j < q → ¬ (0 < dr xs ys lf j ∧ g ≤ 7 * wy xs ys lf j + 7 * dr xs ys lf j)) → lv_has ls 6 [(4, .int (iI q)), (3, .int (iI a)), (0, .ref (aD 0)), (1, .int (iI i)), (2, .int (iI g))] → zW D A s.heap H locs (wD cI cZ aD xs ys lf ev nm sz) → W p l e ({ frames := 2, cells := 0, slots := 0, locals := 45 } : Room) s m ([.ref (aD 0), .int (iI i), .int (iI g)] : List Value).toArray below meth c H locs 0 0 Q (F0 m 5 ls []) := by
    intro k
    induction k with
    | zero => intro a q H locs ls hm; exact absurd hm (Nat.not_lt_zero _)
    | succ k ih_5 =>
      intro a q H locs ls hm_5 h1 h2 h3 h4 hl hW
      refine z_iload F (pc := 5) dX2_placeEven_5 (lv_at hl 0 rfl) ?_
      refine z_aloadn F (pc := 7) dX2_placeEven_7 rfl (lv_at hl 2 rfl) ?_
      refine z_get F (pc := 8) (C := RX2) (T := TX2) (N := 6) (ci := 2) inX2 hK hW 0 5 rfl rfl (by decide) rfl (List.mem_of_getElem? (i := 1) rfl) (v := .int (iI sz)) rfl dX2_placeEven_8 ?_
      refine z_icmp_ge F (pc := 11) 116 dX2_placeEven_11 (by decide) (by omega) (fun c_11 => ?_) (fun c_11 => ?_)
      · skip
        have hz := wy_0 xs ys lf (q := sz)
        have hz1 : q = sz ∨ sz ≤ 1 := by omega
        exfalso
        rcases hz1 with e | e
        · rw [e] at h3; omega
        · have := hz e; omega
      · skip
        have hr := dr_rng hd h1.1 (by omega)
        have ha := Dok_at hd (j := q) (by omega) (by omega)
        have hb := Dok_at hd (j := q - 1) (by omega) (by omega)
        have hw3 := wy_r hd (q := q) (by omega)
        refine z_bipush F (pc := 14) (7) (by decide +kernel) dX2_placeEven_14 ?_
        refine z_aloadn F (pc := 16) dX2_placeEven_16 rfl (lv_at hl 2 rfl) ?_
        refine z_iload F (pc := 17) dX2_placeEven_17 (lv_at hl 0 rfl) ?_
        refine z_callVi F (pc := 19) hK hW hA (As := [.int (iI q)]) (rest := [.int (iI 7)]) (ws' := fun (u : Unit) => wD cI cZ aD xs ys lf ev nm sz) (wr := ([])) (c_X2_drawnTo l D cI cZ aD xs ys lf ev nm sz q _ (by omega) (by exact hd) (by omega)) (cwV 1 F.2.2.2.2 gX2_placeEven_X2_drawnTo rfl rfl rfl (by decide +kernel) ⟨Nat.le_of_ble_eq_true rfl, Nat.le_of_ble_eq_true rfl⟩) [0, 1, 2, 3, 4, 5] [] [0, 1, 2, 3, 4, 5] rfl rfl (by decide) (by decide) (by decide) (fun _ => rfl) (by decide) (q0 := 0) (ci := 2) rfl rfl rfl rfl rfl hl.1 (Nat.le_of_ble_eq_true rfl) dX2_placeEven_19 ⟨Nat.le_of_ble_eq_true rfl, Nat.le_of_ble_eq_true rfl⟩ (fun z_19 u H locs r_z_19 hp_19 hW => ?_)
        subst hp_19
        refine z_imul F (pc := 22) dX2_placeEven_22 ?_
        refine z_istore F (pc := 23) hl (lv' := [(5, .int (iI (7 * (dr xs ys lf q)))), (4, .int (iI q)), (3, .int (iI a)), (0, .ref (aD 0)), (1, .int (iI i)), (2, .int (iI g))]) dX2_placeEven_23 (by decide) rfl (fun ls hl => ?_)
        refine z_iload F (pc := 25) dX2_placeEven_25 (lv_at hl 0 rfl) ?_
        refine z_if_le F (pc := 27) 105 dX2_placeEven_27 (by decide) (by omega) (fun c_27 => ?_) (fun c_27 => ?_)
        · skip
          refine z_iloadn F (pc := 105) dX2_placeEven_105 rfl (lv_at hl 2 rfl) ?_
          refine z_iload F (pc := 106) dX2_placeEven_106 (lv_at hl 0 rfl) ?_
          refine z_iadd F (pc := 108) dX2_placeEven_108 ?_
          refine z_istoren F (pc := 109) hl (lv' := [(3, .int (iI (a + (7 * (dr xs ys lf q))))), (5, .int (iI (7 * (dr xs ys lf q)))), (4, .int (iI q)), (0, .ref (aD 0)), (1, .int (iI i)), (2, .int (iI g))]) dX2_placeEven_109 rfl (by decide) rfl (fun ls hl => ?_)
          refine z_iinc F (pc := 110) hl (lv' := [(4, .int (iI (q + 1))), (3, .int (iI (a + (7 * (dr xs ys lf q))))), (5, .int (iI (7 * (dr xs ys lf q)))), (0, .ref (aD 0)), (1, .int (iI i)), (2, .int (iI g))]) dX2_placeEven_110 (k := 2) rfl (by decide) rfl (fun ls hl => ?_)
          refine z_goto F (pc := 113) 5 dX2_placeEven_113 (by decide) ?_
          exact ih_5 (a + (7 * (dr xs ys lf q))) (q + 1) _ _ _ (by omega) (by omega) (by rw [wy_s xs ys lf h1.1]; omega) (by rw [wy_s xs ys lf h1.1]; omega) (by intro j j1 j2; (by_cases e : j = q) <;> first | (rw [e]; omega) | exact h4 j j1 (by omega)) (lv_sub hl [0, 1, 3, 4, 5] rfl) hW
        · skip
          refine z_iloadn F (pc := 30) dX2_placeEven_30 rfl (lv_at hl 5 rfl) ?_
          refine z_iloadn F (pc := 31) dX2_placeEven_31 rfl (lv_at hl 2 rfl) ?_
          refine z_iload F (pc := 32) dX2_placeEven_32 (lv_at hl 0 rfl) ?_
          refine z_iadd F (pc := 34) dX2_placeEven_34 ?_
          refine z_icmp_gt F (pc := 35) 105 dX2_placeEven_35 (by decide) (by omega) (fun c_35 => ?_) (fun c_35 => ?_)
          · skip
            refine z_iloadn F (pc := 105) dX2_placeEven_105 rfl (lv_at hl 2 rfl) ?_
            refine z_iload F (pc := 106) dX2_placeEven_106 (lv_at hl 0 rfl) ?_
            refine z_iadd F (pc := 108) dX2_placeEven_108 ?_
            refine z_istoren F (pc := 109) hl (lv' := [(3, .int (iI (a + (7 * (dr xs ys lf q))))), (5, .int (iI (7 * (dr xs ys lf q)))), (4, .int (iI q)), (0, .ref (aD 0)), (1, .int (iI i)), (2, .int (iI g))]) dX2_placeEven_109 rfl (by decide) rfl (fun ls hl => ?_)
            refine z_iinc F (pc := 110) hl (lv' := [(4, .int (iI (q + 1))), (3, .int (iI (a + (7 * (dr xs ys lf q))))), (5, .int (iI (7 * (dr xs ys lf q)))), (0, .ref (aD 0)), (1, .int (iI i)), (2, .int (iI g))]) dX2_placeEven_110 (k := 2) rfl (by decide) rfl (fun ls hl => ?_)
            refine z_goto F (pc := 113) 5 dX2_placeEven_113 (by decide) ?_
            exact ih_5 (a + (7 * (dr xs ys lf q))) (q + 1) _ _ _ (by omega) (by omega) (by rw [wy_s xs ys lf h1.1]; omega) (by rw [wy_s xs ys lf h1.1]; omega) (by intro j j1 j2; (by_cases e : j = q) <;> first | (rw [e]; omega) | exact h4 j j1 (by omega)) (lv_sub hl [0, 1, 3, 4, 5] rfl) hW
          · skip
            have hE : isEv xs ys lf sz g q := ⟨by omega, by omega, by omega, h4⟩
            refine z_aloadn F (pc := 38) dX2_placeEven_38 rfl (lv_at hl 3 rfl) ?_
            refine z_get F (pc := 39) (C := RX2) (T := TX2) (N := 6) (ci := 2) inX2 hK hW 0 3 rfl rfl (by decide) rfl (List.mem_of_getElem? (i := 2) rfl) (v := .ref (aD 4)) rfl dX2_placeEven_39 ?_
            refine z_iconst F (pc := 42) (2) dX2_placeEven_42 ?_
            refine z_iloadn F (pc := 43) dX2_placeEven_43 rfl (lv_at hl 4 rfl) ?_
            refine z_imul F (pc := 44) dX2_placeEven_44 ?_
            refine z_aloadn F (pc := 45) dX2_placeEven_45 rfl (lv_at hl 3 rfl) ?_
            refine z_get F (pc := 46) (C := RX2) (T := TX2) (N := 6) (ci := 2) inX2 hK hW 0 0 rfl rfl (by decide) rfl (List.mem_of_getElem? (i := 3) rfl) (v := .ref (aD 1)) rfl dX2_placeEven_46 ?_
            refine z_iload F (pc := 49) dX2_placeEven_49 (lv_at hl 1 rfl) ?_
            refine z_iconst F (pc := 51) (1) dX2_placeEven_51 ?_
            refine z_isub F (pc := 52) dX2_placeEven_52 ?_
            refine z_iald F (pc := 53) hK hW 1 rfl (by decide) dX2_placeEven_53 (by omega) ?_
            refine z_aloadn F (pc := 54) dX2_placeEven_54 rfl (lv_at hl 3 rfl) ?_
            refine z_get F (pc := 55) (C := RX2) (T := TX2) (N := 6) (ci := 2) inX2 hK hW 0 0 rfl rfl (by decide) rfl (List.mem_of_getElem? (i := 3) rfl) (v := .ref (aD 1)) rfl dX2_placeEven_55 ?_
            refine z_iload F (pc := 58) dX2_placeEven_58 (lv_at hl 1 rfl) ?_
            refine z_iald F (pc := 60) hK hW 1 rfl (by decide) dX2_placeEven_60 (by omega) ?_
            refine z_iloadn F (pc := 61) dX2_placeEven_61 rfl (lv_at hl 5 rfl) ?_
            refine z_iloadn F (pc := 62) dX2_placeEven_62 rfl (lv_at hl 2 rfl) ?_
            refine z_isub F (pc := 63) dX2_placeEven_63 ?_
            refine z_iload F (pc := 64) dX2_placeEven_64 (lv_at hl 0 rfl) ?_
            refine z_callSi F (pc := 66) hK hW hA (As := [.int (iI (xs (q - 1))), .int (iI (xs q)), .int (iI (g - a)), .int (iI (7 * (dr xs ys lf q)))]) (rest := [.int (iI (2 * i)), .ref (aD 4)]) (c_X2_partWay l D cI cZ (xs (q - 1)) (xs q) (g - a) (7 * (dr xs ys lf q)) _ (by omega) (by omega) (by omega) (by omega) (by omega) (by omega) (by omega) (by omega)) (va_cwS 4 F.2.2.2.2 gX2_placeEven_X2_partWay rfl rfl rfl (by decide +kernel) ⟨Nat.le_of_ble_eq_true rfl, Nat.le_of_ble_eq_true rfl⟩) rfl rfl hl.1 (Nat.le_of_ble_eq_true rfl) dX2_placeEven_66 ⟨Nat.le_of_ble_eq_true rfl, Nat.le_of_ble_eq_true rfl⟩ (fun z_66 H locs r_z_66 hp_66 hW => ?_)
            subst hp_66
            refine z_eqi (y := pE xs ys lf xs g q) (by unfold pE; rw [h2]) ?_
            refine z_iast F (pc := 69) hK hW (ws' := wD cI cZ aD xs ys lf (zU ev (2 * i) (pE xs ys lf xs g q)) nm sz) 4 rfl (by decide) dX2_placeEven_69 (by omega) rfl (fun H locs hW => ?_)
            refine z_aloadn F (pc := 70) dX2_placeEven_70 rfl (lv_at hl 3 rfl) ?_
            refine z_get F (pc := 71) (C := RX2) (T := TX2) (N := 6) (ci := 2) inX2 hK hW 0 3 rfl rfl (by decide) rfl (List.mem_of_getElem? (i := 2) rfl) (v := .ref (aD 4)) rfl dX2_placeEven_71 ?_
            refine z_iconst F (pc := 74) (2) dX2_placeEven_74 ?_
            refine z_iloadn F (pc := 75) dX2_placeEven_75 rfl (lv_at hl 4 rfl) ?_
            refine z_imul F (pc := 76) dX2_placeEven_76 ?_
            refine z_iconst F (pc := 77) (1) dX2_placeEven_77 ?_
            refine z_iadd F (pc := 78) dX2_placeEven_78 ?_
            refine z_aloadn F (pc := 79) dX2_placeEven_79 rfl (lv_at hl 3 rfl) ?_
            refine z_get F (pc := 80) (C := RX2) (T := TX2) (N := 6) (ci := 2) inX2 hK hW 0 1 rfl rfl (by decide) rfl (List.mem_of_getElem? (i := 4) rfl) (v := .ref (aD 2)) rfl dX2_placeEven_80 ?_
            refine z_iload F (pc := 83) dX2_placeEven_83 (lv_at hl 1 rfl) ?_
            refine z_iconst F (pc := 85) (1) dX2_placeEven_85 ?_
            refine z_isub F (pc := 86) dX2_placeEven_86 ?_
            refine z_iald F (pc := 87) hK hW 2 rfl (by decide) dX2_placeEven_87 (by omega) ?_
            refine z_aloadn F (pc := 88) dX2_placeEven_88 rfl (lv_at hl 3 rfl) ?_
            refine z_get F (pc := 89) (C := RX2) (T := TX2) (N := 6) (ci := 2) inX2 hK hW 0 1 rfl rfl (by decide) rfl (List.mem_of_getElem? (i := 4) rfl) (v := .ref (aD 2)) rfl dX2_placeEven_89 ?_
            refine z_iload F (pc := 92) dX2_placeEven_92 (lv_at hl 1 rfl) ?_
            refine z_iald F (pc := 94) hK hW 2 rfl (by decide) dX2_placeEven_94 (by omega) ?_
            refine z_iloadn F (pc := 95) dX2_placeEven_95 rfl (lv_at hl 5 rfl) ?_
            refine z_iloadn F (pc := 96) dX2_placeEven_96 rfl (lv_at hl 2 rfl) ?_
            refine z_isub F (pc := 97) dX2_placeEven_97 ?_
            refine z_iload F (pc := 98) dX2_placeEven_98 (lv_at hl 0 rfl) ?_
            refine z_callSi F (pc := 100) hK hW hA (As := [.int (iI (ys (q - 1))), .int (iI (ys q)), .int (iI (g - a)), .int (iI (7 * (dr xs ys lf q)))]) (rest := [.int (iI ((2 * i) + 1)), .ref (aD 4)]) (c_X2_partWay l D cI cZ (ys (q - 1)) (ys q) (g - a) (7 * (dr xs ys lf q)) _ (by omega) (by omega) (by omega) (by omega) (by omega) (by omega) (by omega) (by omega)) (va_cwS 4 F.2.2.2.2 gX2_placeEven_X2_partWay rfl rfl rfl (by decide +kernel) ⟨Nat.le_of_ble_eq_true rfl, Nat.le_of_ble_eq_true rfl⟩) rfl rfl hl.1 (Nat.le_of_ble_eq_true rfl) dX2_placeEven_100 ⟨Nat.le_of_ble_eq_true rfl, Nat.le_of_ble_eq_true rfl⟩ (fun z_100 H locs r_z_100 hp_100 hW => ?_)
            subst hp_100
            refine z_eqi (y := pE xs ys lf ys g q) (by unfold pE; rw [h2]) ?_
            refine z_iast F (pc := 103) hK hW (ws' := wD cI cZ aD xs ys lf (zU (zU ev (2 * i) (pE xs ys lf xs g q)) ((2 * i) + 1) (pE xs ys lf ys g q)) nm sz) 4 rfl (by decide) dX2_placeEven_103 (by omega) rfl (fun H locs hW => ?_)
            exact hret _ _ _ _ ((zU (zU ev (2 * i) (pE xs ys lf xs g q)) ((2 * i) + 1) (pE xs ys lf ys g q)), q) dX2_placeEven_104 (by try dsimp only; exact ⟨hE, rfl⟩) hW
  exact cut_5 _ 0 1 _ _ _ (Nat.lt_succ_self _) (by omega) (by rw [wy_0 xs ys lf (by omega)]; omega) (by right; exact wy_0 xs ys lf (by omega)) (by intro j j1 j2; omega) (lv_sub hl [0, 1, 2, 3, 4] rfl) hW
end
section
def isLo (e : Int → Int) (w b : Int) : Prop := (∀ j, w ≤ j → j < 16 → (j - w) % 2 = 0 → b ≤ e j) ∧ ∃ j, (w ≤ j ∧ j < 16 ∧ (j - w) % 2 = 0) ∧ b = e j
def isHi (e : Int → Int) (w b : Int) : Prop := (∀ j, w ≤ j → j < 16 → (j - w) % 2 = 0 → e j ≤ b) ∧ ∃ j, (w ≤ j ∧ j < 16 ∧ (j - w) % 2 = 0) ∧ b = e j
def isMx (n : Int → Int) (b : Int) : Prop := (∀ j, 0 ≤ j → j < 16 → ((n j).natAbs : Int) ≤ b) ∧ (b = 0 ∨ ∃ j, (0 ≤ j ∧ j < 16) ∧ b = ((n j).natAbs : Int))
theorem isLo_one {e e2 : Int → Int} {w b b2 : Int} (hw : 0 ≤ w) (he : ∀ j, 0 ≤ j → j < 16 → e j = e2 j) (h : isLo e w b) (h2 : isLo e2 w b2) : b = b2 := by
  obtain ⟨j, hj, e1⟩ := h.2
  obtain ⟨j2, hj2, e3⟩ := h2.2
  have a := h.1 j2 hj2.1 hj2.2.1 hj2.2.2
  have c := h2.1 j hj.1 hj.2.1 hj.2.2
  rw [he j2 (by omega) hj2.2.1] at a
  rw [← he j (by omega) hj.2.1] at c
  omega
theorem isHi_one {e e2 : Int → Int} {w b b2 : Int} (hw : 0 ≤ w) (he : ∀ j, 0 ≤ j → j < 16 → e j = e2 j) (h : isHi e w b) (h2 : isHi e2 w b2) : b = b2 := by
  obtain ⟨j, hj, e1⟩ := h.2
  obtain ⟨j2, hj2, e3⟩ := h2.2
  have a := h.1 j2 hj2.1 hj2.2.1 hj2.2.2
  have c := h2.1 j hj.1 hj.2.1 hj.2.2
  rw [he j2 (by omega) hj2.2.1] at a
  rw [← he j (by omega) hj.2.1] at c
  omega
theorem isMx_0 {n : Int → Int} {b : Int} (h : isMx n b) : 0 ≤ b := by
  have := h.1 0 (by omega) (by omega)
  omega
theorem isMx_one {n n2 : Int → Int} {b b2 : Int} (he : ∀ j, 0 ≤ j → j < 16 → n j = n2 j) (h : isMx n b) (h2 : isMx n2 b2) : b = b2 := by
  have z := isMx_0 h
  have z2 := isMx_0 h2
  have k1 : b ≤ b2 := by
    rcases h.2 with q | ⟨j, hj, q⟩
    · omega
    · have := h2.1 j hj.1 hj.2
      rw [← he j hj.1 hj.2] at this
      omega
  have k2 : b2 ≤ b := by
    rcases h2.2 with q | ⟨j, hj, q⟩
    · omega
    · have := h.1 j hj.1 hj.2
      rw [he j hj.1 hj.2] at this
      omega
  omega
/-- the middle off, by the least and the greatest of each -/
def mO (e : Int → Int) (l0 g0 l1 g1 j : Int) : Int := if j % 2 = 0 then e j - (l0 + g0) / 2 else e j - (l1 + g1) / 2
def Nm (e n : Int → Int) : Prop := ∃ l0 g0 l1 g1 g, isLo e 0 l0 ∧ isHi e 0 g0 ∧ isLo e 1 l1 ∧ isHi e 1 g1 ∧ isMx (mO e l0 g0 l1 g1) g ∧ ∀ j, 0 ≤ j → j < 16 → n j = if g = 0 then 0 else 1000 * mO e l0 g0 l1 g1 j / g
def NmOf (xs ys lf : Int → Int) (sz : Int) (n : Int → Int) : Prop := ∃ e, Ev xs ys lf sz e ∧ Nm e n
theorem Nm_one {e e2 n n2 : Int → Int} (he : ∀ j, 0 ≤ j → j < 16 → e j = e2 j) (h : Nm e n) (h2 : Nm e2 n2) : ∀ j, 0 ≤ j → j < 16 → n j = n2 j := by
  obtain ⟨l0, g0, l1, g1, g, a1, a2, a3, a4, a5, a6⟩ := h
  obtain ⟨m0, k0, m1, k1, k, b1, b2, b3, b4, b5, b6⟩ := h2
  have e1 := isLo_one (by omega) he a1 b1
  have e3 := isHi_one (by omega) he a2 b2
  have e4 := isLo_one (by omega) he a3 b3
  have e5 := isHi_one (by omega) he a4 b4
  subst e1; subst e3; subst e4; subst e5
  have hm : ∀ j, 0 ≤ j → j < 16 → mO e l0 g0 l1 g1 j = mO e2 l0 g0 l1 g1 j := by
    intro j h0 h1
    unfold mO
    rw [he j h0 h1]
  have e6 := isMx_one hm a5 b5
  subst e6
  intro j h0 h1
  rw [a6 j h0 h1, b6 j h0 h1, hm j h0 h1]
theorem NmOf_one {xs ys lf : Int → Int} {sz : Int} {n n2 : Int → Int} (h : NmOf xs ys lf sz n) (h2 : NmOf xs ys lf sz n2) : ∀ j, 0 ≤ j → j < 16 → n j = n2 j := by
  obtain ⟨e, h3, h4⟩ := h
  obtain ⟨e2, h5, h6⟩ := h2
  exact Nm_one (Ev_one h3 h5) h4 h6
theorem nq_b {v g : Int} (h : (v.natAbs : Int) ≤ g) (hg : ¬ g = 0) : -1000 ≤ 1000 * v / g ∧ 1000 * v / g ≤ 1000 := by
  have hp : 0 < g := by omega
  constructor
  · apply (Int.le_ediv_iff_mul_le hp).mpr
    omega
  · have : 1000 * v / g < 1001 := Int.ediv_lt_of_lt_mul hp (by omega)
    omega
theorem Nm_b {e n : Int → Int} (h : Nm e n) : ∀ j, 0 ≤ j → j < 16 → -1000 ≤ n j ∧ n j ≤ 1000 := by
  obtain ⟨l0, g0, l1, g1, g, a1, a2, a3, a4, a5, a6⟩ := h
  intro j h0 h1
  rw [a6 j h0 h1]
  split
  · omega
  · exact nq_b (a5.1 j h0 h1) ‹_›
theorem NmOf_b {xs ys lf : Int → Int} {sz : Int} {n : Int → Int} (h : NmOf xs ys lf sz n) : ∀ j, 0 ≤ j → j < 16 → -1000 ≤ n j ∧ n j ≤ 1000 := by
  obtain ⟨e, _, h4⟩ := h
  exact Nm_b h4

set_option maxHeartbeats 4000000 in
set_option maxRecDepth 100000 in
theorem c_X2_makeEven (l : Launch) (D : va_G) (cI cZ : ClassId) (aD : Nat → Nat) (xs ys lf ev nm : Int → Int) (sz : Int) (sz0 : Nat) (hd : Dok xs ys lf sz) : Met l yX2_makeEven wsX2_makeEven ({ frames := 3, cells := 0, slots := 0, locals := 70 } : Room) (zPc D cI cZ [.ref (aD 0)] (wD cI cZ aD xs ys lf ev nm sz) sz0) (zQi D cI cZ (wD cI cZ aD xs ys lf ev nm sz) sz0 (fun (r : Int) (u : (Int → Int)) => (zB r (¬ wy xs ys lf sz = 0)) ∧ (¬ wy xs ys lf sz = 0 → Ev xs ys lf sz u)) (fun (u : (Int → Int)) => wD cI cZ aD xs ys lf u nm sz)) 0 0 (va_A (wD cI cZ aD xs ys lf ev nm sz) sz0) := by
  have hs := hd.1
  have hww := wy_r hd (q := sz) (Int.le_refl _)
  refine z_ofI (maxL := 3) (plainFor_of_name (by decide)) rfl (Nat.le_of_ble_eq_true rfl) (Or.inr ⟨rfl, fun z u h => zB_01 h.1⟩) ?_
  intro p e s m below meth c A ls Q F hK hW hA hl hret
  have hl : lv_has ls 3 [(0, .ref (aD 0))] := hl
  refine z_aloadn F (pc := 0) dX2_makeEven_0 rfl (lv_at hl 0 rfl) ?_
  refine z_callVi F (pc := 1) hK hW hA (As := []) (rest := []) (ws' := fun (u : Unit) => wD cI cZ aD xs ys lf ev nm sz) (wr := ([])) (c_X2_length l D cI cZ aD xs ys lf ev nm sz _ (by exact hd)) (cwV 0 F.2.2.2.2 gX2_makeEven_X2_length rfl rfl rfl (by decide +kernel) ⟨Nat.le_of_ble_eq_true rfl, Nat.le_of_ble_eq_true rfl⟩) [0, 1, 2, 3, 4, 5] [] [0, 1, 2, 3, 4, 5] rfl rfl (by decide) (by decide) (by decide) (fun _ => rfl) (by decide) (q0 := 0) (ci := 2) rfl rfl rfl rfl rfl hl.1 (Nat.le_of_ble_eq_true rfl) dX2_makeEven_1 ⟨Nat.le_of_ble_eq_true rfl, Nat.le_of_ble_eq_true rfl⟩ (fun z_1 u H locs r_z_1 hp_1 hW => ?_)
  subst hp_1
  refine z_istoren F (pc := 4) hl (lv' := [(1, .int (iI (wy xs ys lf sz))), (0, .ref (aD 0))]) dX2_makeEven_4 rfl (by decide) rfl (fun ls hl => ?_)
  refine z_iloadn F (pc := 5) dX2_makeEven_5 rfl (lv_at hl 0 rfl) ?_
  refine z_if_ne F (pc := 6) 11 dX2_makeEven_6 (by decide) (by omega) (fun c_6 => ?_) (fun c_6 => ?_)
  · skip
    refine z_iconst F (pc := 11) (0) dX2_makeEven_11 ?_
    refine z_istoren F (pc := 12) hl (lv' := [(2, .int (iI 0)), (1, .int (iI (wy xs ys lf sz))), (0, .ref (aD 0))]) dX2_makeEven_12 rfl (by decide) rfl (fun ls hl => ?_)
    have cut_13 : ∀ (k : Nat) (i : Int) (e1 : Int → Int) (H : Heap) (locs : List Loc) (ls : Array Slot), (8 - i).toNat < k → (0 ≤ i ∧ i ≤ 8) → (zH (∀ t, 0 ≤ t → t < i → ∃ q, isEv xs ys lf sz (t * wy xs ys lf sz) q ∧ e1 (2 * t) = pE xs ys lf xs (t * wy xs ys lf sz) q ∧ e1 (2 * t + 1) = pE xs ys lf ys (t * wy xs ys lf sz) q)) → lv_has ls 3 [(2, .int (iI i)), (1, .int (iI (wy xs ys lf sz))), (0, .ref (aD 0))] → zW D A s.heap H locs (wD cI cZ aD xs ys lf e1 nm sz) → W p l e ({ frames := 3, cells := 0, slots := 0, locals := 70 } : Room) s m ([.ref (aD 0)] : List Value).toArray below meth c H locs 0 0 Q (F0 m 13 ls []) := by
      intro k
      induction k with
      | zero => intro i e1 H locs ls hm; exact absurd hm (Nat.not_lt_zero _)
      | succ k ih_13 =>
        intro i e1 H locs ls hm_13 h1 h2 hl hW
        refine z_iloadn F (pc := 13) dX2_makeEven_13 rfl (lv_at hl 0 rfl) ?_
        refine z_bipush F (pc := 14) (8) (by decide +kernel) dX2_makeEven_14 ?_
        refine z_icmp_ge F (pc := 16) 33 dX2_makeEven_16 (by decide) (by omega) (fun c_16 => ?_) (fun c_16 => ?_)
        · skip
          refine z_iconst F (pc := 33) (1) dX2_makeEven_33 ?_
          exact hret _ _ _ _ 1 e1 dX2_makeEven_34 (by omega) (by exact ⟨zB_1 (by omega), fun _ t t0 t1 => h2 t t0 (by omega)⟩) hW
        · skip
          have hg : 0 ≤ i * wy xs ys lf sz ∧ i * wy xs ys lf sz ≤ 7 * wy xs ys lf sz := ⟨Int.mul_nonneg h1.1 hww.1, Int.mul_le_mul_of_nonneg_right (by omega) hww.1⟩
          refine z_aloadn F (pc := 19) dX2_makeEven_19 rfl (lv_at hl 2 rfl) ?_
          refine z_iloadn F (pc := 20) dX2_makeEven_20 rfl (lv_at hl 0 rfl) ?_
          refine z_iloadn F (pc := 21) dX2_makeEven_21 rfl (lv_at hl 0 rfl) ?_
          refine z_iloadn F (pc := 22) dX2_makeEven_22 rfl (lv_at hl 1 rfl) ?_
          refine z_imul F (pc := 23) dX2_makeEven_23 ?_
          refine z_callVv F (pc := 24) hK hW hA (As := [.int (iI i), .int (iI (i * (wy xs ys lf sz)))]) (rest := []) (ws' := fun (u : (Int → Int) × (Int)) => wD cI cZ aD xs ys lf u.1 nm sz) (wr := ([])) (c_X2_placeEven l D cI cZ aD xs ys lf e1 nm sz i (i * (wy xs ys lf sz)) _ (by omega) (by omega) (by exact hd) (by omega) (by exact hg) (by omega)) (cwV 2 F.2.2.2.2 gX2_makeEven_X2_placeEven rfl rfl rfl (by decide +kernel) ⟨Nat.le_of_ble_eq_true rfl, Nat.le_of_ble_eq_true rfl⟩) [0, 1, 2, 3, 4, 5] [] [0, 1, 2, 3, 4, 5] rfl rfl (by decide) (by decide) (by decide) (fun _ => rfl) (by decide) (q0 := 0) (ci := 2) rfl rfl rfl rfl rfl hl.1 (Nat.le_of_ble_eq_true rfl) dX2_makeEven_24 ⟨Nat.le_of_ble_eq_true rfl, Nat.le_of_ble_eq_true rfl⟩ (fun u H locs hp_24 hW => ?_)
          obtain ⟨ev2_24, q2_24⟩ := u
          dsimp only at hp_24 hW
          have hstep : ∀ t, 0 ≤ t → t < i + 1 → ∃ q, isEv xs ys lf sz (t * wy xs ys lf sz) q ∧ ev2_24 (2 * t) = pE xs ys lf xs (t * wy xs ys lf sz) q ∧ ev2_24 (2 * t + 1) = pE xs ys lf ys (t * wy xs ys lf sz) q := by
            intro t t0 t1
            by_cases et : t = i
            · subst et; refine ⟨q2_24, hp_24.1, ?_, ?_⟩ <;> rw [hp_24.2]
              · rw [zU_n _ _ (by omega), zU_s]
              · rw [zU_s]
            · obtain ⟨q, b1, b2, b3⟩ := h2 t t0 (by omega)
              refine ⟨q, b1, ?_, ?_⟩ <;> rw [hp_24.2, zU_n _ _ (by omega), zU_n _ _ (by omega)]
              · exact b2
              · exact b3
          refine z_iinc F (pc := 27) hl (lv' := [(2, .int (iI (i + 1))), (1, .int (iI (wy xs ys lf sz))), (0, .ref (aD 0))]) dX2_makeEven_27 (k := 0) rfl (by decide) rfl (fun ls hl => ?_)
          refine z_goto F (pc := 30) 13 dX2_makeEven_30 (by decide) ?_
          exact ih_13 (i + 1) ev2_24 _ _ _ (by omega) (by omega) (by exact hstep) (lv_sub hl [0, 1, 2] rfl) hW
    exact cut_13 _ 0 ev _ _ _ (Nat.lt_succ_self _) (by omega) (by intro t t0 t1; omega) (lv_sub hl [0, 1, 2] rfl) hW
  · skip
    refine z_iconst F (pc := 9) (0) dX2_makeEven_9 ?_
    exact hret _ _ _ _ 0 ev dX2_makeEven_10 (by omega) (by exact ⟨zB_0 (by omega), fun h => absurd (by omega) h⟩) hW
end
section
set_option maxHeartbeats 4000000 in
set_option maxRecDepth 100000 in
theorem c_X2_takeMiddleOff (l : Launch) (D : va_G) (cI cZ : ClassId) (aD : Nat → Nat) (xs ys lf ev nm : Int → Int) (sz : Int) (w : Int) (sz0 : Nat) (r_w : (-2147483648 ≤ w ∧ w < 2147483648)) (hw : w = 0 ∨ w = 1) (he : ∀ j, 0 ≤ j → j < 16 → -10000 ≤ ev j ∧ ev j ≤ 10000) : Met l yX2_takeMiddleOff wsX2_takeMiddleOff ({ frames := 1, cells := 0, slots := 0, locals := 22 } : Room) (zPc D cI cZ [.ref (aD 0), .int (iI w)] (wD cI cZ aD xs ys lf ev nm sz) sz0) (zQv D cI cZ (wD cI cZ aD xs ys lf ev nm sz) sz0 (fun (u : (Int → Int) × (Int) × (Int)) => isLo ev w u.2.1 ∧ isHi ev w u.2.2 ∧ ((-10000 ≤ u.2.1 ∧ u.2.1 ≤ 10000) ∧ (-10000 ≤ u.2.2 ∧ u.2.2 ≤ 10000)) ∧ (∀ j, 0 ≤ j → j < 16 → u.1 j = if (j - w) % 2 = 0 then ev j - (u.2.1 + u.2.2) / 2 else nm j)) (fun (u : (Int → Int) × (Int) × (Int)) => wD cI cZ aD xs ys lf ev u.1 sz)) 0 0 (va_A (wD cI cZ aD xs ys lf ev nm sz) sz0) := by
  have hw0 := he w (by omega) (by omega)
  refine z_ofV (maxL := 6) (plainFor_of_name (by decide)) rfl (Nat.le_of_ble_eq_true rfl) ?_
  intro p e s m below meth c A ls Q F hK hW hA hl hret
  have hl : lv_has ls 6 [(0, .ref (aD 0)), (1, .int (iI w))] := hl
  have inX2 : ∀ w ∈ u_ws RX2 TX2 6, w ∈ wsX2_takeMiddleOff := fun _ h => List.mem_cons_of_mem _ (List.mem_append_right _ h)
  refine z_aloadn F (pc := 0) dX2_takeMiddleOff_0 rfl (lv_at hl 0 rfl) ?_
  refine z_get F (pc := 1) (C := RX2) (T := TX2) (N := 6) (ci := 2) inX2 hK hW 0 3 rfl rfl (by decide) rfl (List.mem_of_getElem? (i := 1) rfl) (v := .ref (aD 4)) rfl dX2_takeMiddleOff_1 ?_
  refine z_iloadn F (pc := 4) dX2_takeMiddleOff_4 rfl (lv_at hl 1 rfl) ?_
  refine z_iald F (pc := 5) hK hW 4 rfl (by decide) dX2_takeMiddleOff_5 (by omega) ?_
  refine z_istoren F (pc := 6) hl (lv' := [(2, .int (iI (ev w))), (0, .ref (aD 0)), (1, .int (iI w))]) dX2_takeMiddleOff_6 rfl (by decide) rfl (fun ls hl => ?_)
  refine z_aloadn F (pc := 7) dX2_takeMiddleOff_7 rfl (lv_at hl 1 rfl) ?_
  refine z_get F (pc := 8) (C := RX2) (T := TX2) (N := 6) (ci := 2) inX2 hK hW 0 3 rfl rfl (by decide) rfl (List.mem_of_getElem? (i := 1) rfl) (v := .ref (aD 4)) rfl dX2_takeMiddleOff_8 ?_
  refine z_iloadn F (pc := 11) dX2_takeMiddleOff_11 rfl (lv_at hl 2 rfl) ?_
  refine z_iald F (pc := 12) hK hW 4 rfl (by decide) dX2_takeMiddleOff_12 (by omega) ?_
  refine z_istoren F (pc := 13) hl (lv' := [(3, .int (iI (ev w))), (2, .int (iI (ev w))), (0, .ref (aD 0)), (1, .int (iI w))]) dX2_takeMiddleOff_13 rfl (by decide) rfl (fun ls hl => ?_)
  refine z_iloadn F (pc := 14) dX2_takeMiddleOff_14 rfl (lv_at hl 3 rfl) ?_
  refine z_istore F (pc := 15) hl (lv' := [(4, .int (iI w)), (3, .int (iI (ev w))), (2, .int (iI (ev w))), (0, .ref (aD 0)), (1, .int (iI w))]) dX2_takeMiddleOff_15 (by decide) rfl (fun ls hl => ?_)
  have cut_17 : ∀ (k : Nat) (lo : Int) (hi : Int) (n : Int) (H : Heap) (locs : List Loc) (ls : Array Slot), (17 - n).toNat < k → (w ≤ n ∧ n ≤ 17 ∧ (n - w) % 2 = 0) → ((-10000 ≤ lo ∧ lo ≤ 10000) ∧ (-10000 ≤ hi ∧ hi ≤ 10000)) → (zH ((∀ j, w ≤ j → j < n → (j - w) % 2 = 0 → lo ≤ ev j) ∧ ∃ j, (w ≤ j ∧ j < 16 ∧ (j - w) % 2 = 0) ∧ lo = ev j)) → (zH ((∀ j, w ≤ j → j < n → (j - w) % 2 = 0 → ev j ≤ hi) ∧ ∃ j, (w ≤ j ∧ j < 16 ∧ (j - w) % 2 = 0) ∧ hi = ev j)) → lv_has ls 6 [(4, .int (iI n)), (3, .int (iI hi)), (2, .int (iI lo)), (0, .ref (aD 0)), (1, .int (iI w))] → zW D A s.heap H locs (wD cI cZ aD xs ys lf ev nm sz) → W p l e ({ frames := 1, cells := 0, slots := 0, locals := 22 } : Room) s m ([.ref (aD 0), .int (iI w)] : List Value).toArray below meth c H locs 0 0 Q (F0 m 17 ls []) := by
    intro k
    induction k with
    | zero => intro lo hi n H locs ls hm; exact absurd hm (Nat.not_lt_zero _)
    | succ k ih_17 =>
      intro lo hi n H locs ls hm_17 h1 h2 h3 h4 hl hW
      refine z_iload F (pc := 17) dX2_takeMiddleOff_17 (lv_at hl 0 rfl) ?_
      refine z_bipush F (pc := 19) (16) (by decide +kernel) dX2_takeMiddleOff_19 ?_
      refine z_icmp_ge F (pc := 21) 54 dX2_takeMiddleOff_21 (by decide) (by omega) (fun c_21 => ?_) (fun c_21 => ?_)
      · skip
        refine z_iloadn F (pc := 54) dX2_takeMiddleOff_54 rfl (lv_at hl 2 rfl) ?_
        refine z_iloadn F (pc := 55) dX2_takeMiddleOff_55 rfl (lv_at hl 1 rfl) ?_
        refine z_iadd F (pc := 56) dX2_takeMiddleOff_56 ?_
        refine z_iconst F (pc := 57) (2) dX2_takeMiddleOff_57 ?_
        refine z_callSi F (pc := 58) hK hW hA (As := [.int (iI (lo + hi)), .int (iI 2)]) (rest := []) (c_J9_floorDiv_7cf53 l D cI cZ (lo + hi) 2 _ (by omega) (by omega) (by omega) (by omega)) (va_cwS 2 F.2.2.2.2 gX2_takeMiddleOff_J9_floorDiv_7cf53 rfl rfl rfl (by decide +kernel) ⟨Nat.le_of_ble_eq_true rfl, Nat.le_of_ble_eq_true rfl⟩) rfl rfl hl.1 (Nat.le_of_ble_eq_true rfl) dX2_takeMiddleOff_58 ⟨Nat.le_of_ble_eq_true rfl, Nat.le_of_ble_eq_true rfl⟩ (fun z_58 H locs r_z_58 hp_58 hW => ?_)
        subst hp_58
        refine z_istore F (pc := 61) hl (lv' := [(4, .int (iI ((lo + hi) / 2))), (3, .int (iI hi)), (2, .int (iI lo)), (0, .ref (aD 0)), (1, .int (iI w))]) dX2_takeMiddleOff_61 (by decide) rfl (fun ls hl => ?_)
        refine z_iloadn F (pc := 63) dX2_takeMiddleOff_63 rfl (lv_at hl 4 rfl) ?_
        refine z_istore F (pc := 64) hl (lv' := [(5, .int (iI w)), (4, .int (iI ((lo + hi) / 2))), (3, .int (iI hi)), (2, .int (iI lo)), (0, .ref (aD 0)), (1, .int (iI w))]) dX2_takeMiddleOff_64 (by decide) rfl (fun ls hl => ?_)
        have cut_66 : ∀ (k : Nat) (n2 : Int) (b1 : Int → Int) (H : Heap) (locs : List Loc) (ls : Array Slot), (17 - n2).toNat < k → (w ≤ n2 ∧ n2 ≤ 17 ∧ (n2 - w) % 2 = 0) → (∀ j, 0 ≤ j → j < 16 → b1 j = if (j - w) % 2 = 0 ∧ j < n2 then ev j - (lo + hi) / 2 else nm j) → lv_has ls 6 [(5, .int (iI n2)), (4, .int (iI ((lo + hi) / 2))), (0, .ref (aD 0)), (1, .int (iI w))] → zW D A s.heap H locs (wD cI cZ aD xs ys lf ev b1 sz) → W p l e ({ frames := 1, cells := 0, slots := 0, locals := 22 } : Room) s m ([.ref (aD 0), .int (iI w)] : List Value).toArray below meth c H locs 0 0 Q (F0 m 66 ls []) := by
          intro k
          induction k with
          | zero => intro n2 b1 H locs ls hm; exact absurd hm (Nat.not_lt_zero _)
          | succ k ih_66 =>
            intro n2 b1 H locs ls hm_66 g1 g2 hl hW
            refine z_iload F (pc := 66) dX2_takeMiddleOff_66 (lv_at hl 0 rfl) ?_
            refine z_bipush F (pc := 68) (16) (by decide +kernel) dX2_takeMiddleOff_68 ?_
            refine z_icmp_ge F (pc := 70) 96 dX2_takeMiddleOff_70 (by decide) (by omega) (fun c_70 => ?_) (fun c_70 => ?_)
            · skip
              exact hret _ _ _ _ (b1, lo, hi) dX2_takeMiddleOff_96 (by try dsimp only; exact ⟨⟨fun j j1 j2 j3 => h3.o.1 j j1 (by omega) j3, h3.o.2⟩, ⟨fun j j1 j2 j3 => h4.o.1 j j1 (by omega) j3, h4.o.2⟩, h2, fun j j0 j1 => by rw [g2 j j0 j1]; by_cases q : (j - w) % 2 = 0 <;> simp only [q, true_and, false_and, if_true, if_false]; rw [if_pos (by omega)]⟩) hW
            · skip
              have hn := he n2 (by omega) (by omega)
              refine z_aloadn F (pc := 73) dX2_takeMiddleOff_73 rfl (lv_at hl 2 rfl) ?_
              refine z_get F (pc := 74) (C := RX2) (T := TX2) (N := 6) (ci := 2) inX2 hK hW 0 4 rfl rfl (by decide) rfl (List.mem_of_getElem? (i := 9) rfl) (v := .ref (aD 5)) rfl dX2_takeMiddleOff_74 ?_
              refine z_iload F (pc := 77) dX2_takeMiddleOff_77 (lv_at hl 0 rfl) ?_
              refine z_aloadn F (pc := 79) dX2_takeMiddleOff_79 rfl (lv_at hl 2 rfl) ?_
              refine z_get F (pc := 80) (C := RX2) (T := TX2) (N := 6) (ci := 2) inX2 hK hW 0 3 rfl rfl (by decide) rfl (List.mem_of_getElem? (i := 1) rfl) (v := .ref (aD 4)) rfl dX2_takeMiddleOff_80 ?_
              refine z_iload F (pc := 83) dX2_takeMiddleOff_83 (lv_at hl 0 rfl) ?_
              refine z_iald F (pc := 85) hK hW 4 rfl (by decide) dX2_takeMiddleOff_85 (by omega) ?_
              refine z_iload F (pc := 86) dX2_takeMiddleOff_86 (lv_at hl 1 rfl) ?_
              refine z_isub F (pc := 88) dX2_takeMiddleOff_88 ?_
              refine z_iast F (pc := 89) hK hW (ws' := wD cI cZ aD xs ys lf ev (zU b1 n2 ((ev n2) - ((lo + hi) / 2))) sz) 5 rfl (by decide) dX2_takeMiddleOff_89 (by omega) rfl (fun H locs hW => ?_)
              have hs3 : ∀ j, 0 ≤ j → j < 16 → zU b1 n2 (ev n2 - (lo + hi) / 2) j = if (j - w) % 2 = 0 ∧ j < n2 + 2 then ev j - (lo + hi) / 2 else nm j := by
                intro j j0 j1
                by_cases e : j = n2
                · subst e; rw [zU_s, if_pos (by omega)]
                · rw [zU_n _ _ e, g2 j j0 j1]
                  by_cases q : (j - w) % 2 = 0 ∧ j < n2
                  · rw [if_pos q, if_pos (by omega)]
                  · rw [if_neg q, if_neg (by omega)]
              refine z_iinc F (pc := 90) hl (lv' := [(5, .int (iI (n2 + 2))), (4, .int (iI ((lo + hi) / 2))), (0, .ref (aD 0)), (1, .int (iI w))]) dX2_takeMiddleOff_90 (k := 0) rfl (by decide) rfl (fun ls hl => ?_)
              refine z_goto F (pc := 93) 66 dX2_takeMiddleOff_93 (by decide) ?_
              exact ih_66 (n2 + 2) (zU b1 n2 ((ev n2) - ((lo + hi) / 2))) _ _ _ (by omega) (by omega) (by exact hs3) (lv_sub hl [0, 1, 2, 3] rfl) hW
        exact cut_66 _ w nm _ _ _ (Nat.lt_succ_self _) (by omega) (by intro j j0 j1; rw [if_neg (by omega)]) (lv_sub hl [0, 1, 4, 5] rfl) hW
      · skip
        have hn := he n (by omega) (by omega)
        refine z_iloadn F (pc := 24) dX2_takeMiddleOff_24 rfl (lv_at hl 2 rfl) ?_
        refine z_aloadn F (pc := 25) dX2_takeMiddleOff_25 rfl (lv_at hl 3 rfl) ?_
        refine z_get F (pc := 26) (C := RX2) (T := TX2) (N := 6) (ci := 2) inX2 hK hW 0 3 rfl rfl (by decide) rfl (List.mem_of_getElem? (i := 1) rfl) (v := .ref (aD 4)) rfl dX2_takeMiddleOff_26 ?_
        refine z_iload F (pc := 29) dX2_takeMiddleOff_29 (lv_at hl 0 rfl) ?_
        refine z_iald F (pc := 31) hK hW 4 rfl (by decide) dX2_takeMiddleOff_31 (by omega) ?_
        refine z_mmin F (pc := 32) hl.1 (List.mem_of_getElem? (i := 2) rfl) (List.mem_of_getElem? (i := 3) rfl) (List.mem_of_getElem? (i := 4) rfl) (List.mem_of_getElem? (i := 5) rfl) (Nat.le_of_ble_eq_true rfl) (Nat.le_of_ble_eq_true rfl) (Nat.le_of_ble_eq_true rfl) (Nat.le_of_ble_eq_true rfl) dX2_takeMiddleOff_32 (by omega) ?_
        refine z_istoren F (pc := 35) hl (lv' := [(2, .int (iI (min lo (ev n)))), (4, .int (iI n)), (3, .int (iI hi)), (0, .ref (aD 0)), (1, .int (iI w))]) dX2_takeMiddleOff_35 rfl (by decide) rfl (fun ls hl => ?_)
        refine z_iloadn F (pc := 36) dX2_takeMiddleOff_36 rfl (lv_at hl 2 rfl) ?_
        refine z_aloadn F (pc := 37) dX2_takeMiddleOff_37 rfl (lv_at hl 3 rfl) ?_
        refine z_get F (pc := 38) (C := RX2) (T := TX2) (N := 6) (ci := 2) inX2 hK hW 0 3 rfl rfl (by decide) rfl (List.mem_of_getElem? (i := 1) rfl) (v := .ref (aD 4)) rfl dX2_takeMiddleOff_38 ?_
        refine z_iload F (pc := 41) dX2_takeMiddleOff_41 (lv_at hl 1 rfl) ?_
        refine z_iald F (pc := 43) hK hW 4 rfl (by decide) dX2_takeMiddleOff_43 (by omega) ?_
        refine z_mmax F (pc := 44) hl.1 (List.mem_of_getElem? (i := 6) rfl) (List.mem_of_getElem? (i := 7) rfl) (List.mem_of_getElem? (i := 4) rfl) (List.mem_of_getElem? (i := 8) rfl) (Nat.le_of_ble_eq_true rfl) (Nat.le_of_ble_eq_true rfl) (Nat.le_of_ble_eq_true rfl) (Nat.le_of_ble_eq_true rfl) dX2_takeMiddleOff_44 (by omega) ?_
        refine z_istoren F (pc := 47) hl (lv' := [(3, .int (iI (max hi (ev n)))), (2, .int (iI (min lo (ev n)))), (4, .int (iI n)), (0, .ref (aD 0)), (1, .int (iI w))]) dX2_takeMiddleOff_47 rfl (by decide) rfl (fun ls hl => ?_)
        have hs1 : zH ((∀ j, w ≤ j → j < n + 2 → (j - w) % 2 = 0 → min lo (ev n) ≤ ev j) ∧ ∃ j, (w ≤ j ∧ j < 16 ∧ (j - w) % 2 = 0) ∧ min lo (ev n) = ev j) := by
          obtain ⟨a1, j9, a2, a3⟩ := h3.o
          refine ⟨fun j j1 j2 j3 => ?_, ?_⟩
          · by_cases e : j = n
            · subst e; omega
            · have := a1 j j1 (by omega) j3; omega
          · by_cases e : lo ≤ ev n
            · exact ⟨j9, a2, by omega⟩
            · exact ⟨n, by omega, by omega⟩
        have hs2 : zH ((∀ j, w ≤ j → j < n + 2 → (j - w) % 2 = 0 → ev j ≤ max hi (ev n)) ∧ ∃ j, (w ≤ j ∧ j < 16 ∧ (j - w) % 2 = 0) ∧ max hi (ev n) = ev j) := by
          obtain ⟨a1, j9, a2, a3⟩ := h4.o
          refine ⟨fun j j1 j2 j3 => ?_, ?_⟩
          · by_cases e : j = n
            · subst e; omega
            · have := a1 j j1 (by omega) j3; omega
          · by_cases e : ev n ≤ hi
            · exact ⟨j9, a2, by omega⟩
            · exact ⟨n, by omega, by omega⟩
        refine z_iinc F (pc := 48) hl (lv' := [(4, .int (iI (n + 2))), (3, .int (iI (max hi (ev n)))), (2, .int (iI (min lo (ev n)))), (0, .ref (aD 0)), (1, .int (iI w))]) dX2_takeMiddleOff_48 (k := 2) rfl (by decide) rfl (fun ls hl => ?_)
        refine z_goto F (pc := 51) 17 dX2_takeMiddleOff_51 (by decide) ?_
        exact ih_17 (min lo (ev n)) (max hi (ev n)) (n + 2) _ _ _ (by omega) (by omega) (by omega) (by exact hs1) (by exact hs2) (lv_sub hl [0, 1, 2, 3, 4] rfl) hW
  exact cut_17 _ (ev w) (ev w) w _ _ _ (Nat.lt_succ_self _) (by omega) (by omega) (by exact ⟨fun j j1 j2 j3 => by omega, w, by omega, rfl⟩) (by exact ⟨fun j j1 j2 j3 => by omega, w, by omega, rfl⟩) (lv_sub hl [0, 1, 2, 3, 4] rfl) hW
end
section
set_option maxHeartbeats 4000000 in
set_option maxRecDepth 100000 in
theorem c_X2_greatestSize (l : Launch) (D : va_G) (cI cZ : ClassId) (aD : Nat → Nat) (xs ys lf ev nm : Int → Int) (sz : Int) (sz0 : Nat) (hn : ∀ j, 0 ≤ j → j < 16 → -20000 ≤ nm j ∧ nm j ≤ 20000) : Met l yX2_greatestSize wsX2_greatestSize ({ frames := 1, cells := 0, slots := 0, locals := 21 } : Room) (zPc D cI cZ [.ref (aD 0)] (wD cI cZ aD xs ys lf ev nm sz) sz0) (zQi D cI cZ (wD cI cZ aD xs ys lf ev nm sz) sz0 (fun (r : Int) (u : Unit) => isMx nm r ∧ r ≤ 20000) (fun (u : Unit) => wD cI cZ aD xs ys lf ev nm sz)) 0 0 (va_A (wD cI cZ aD xs ys lf ev nm sz) sz0) := by
  refine z_ofI (maxL := 3) (plainFor_of_name (by decide)) rfl (Nat.le_of_ble_eq_true rfl) (Or.inl rfl) ?_
  intro p e s m below meth c A ls Q F hK hW hA hl hret
  have hl : lv_has ls 3 [(0, .ref (aD 0))] := hl
  have inX2 : ∀ w ∈ u_ws RX2 TX2 6, w ∈ wsX2_greatestSize := fun _ h => List.mem_cons_of_mem _ (List.mem_append_right _ h)
  refine z_iconst F (pc := 0) (0) dX2_greatestSize_0 ?_
  refine z_istoren F (pc := 1) hl (lv' := [(1, .int (iI 0)), (0, .ref (aD 0))]) dX2_greatestSize_1 rfl (by decide) rfl (fun ls hl => ?_)
  refine z_iconst F (pc := 2) (0) dX2_greatestSize_2 ?_
  refine z_istoren F (pc := 3) hl (lv' := [(2, .int (iI 0)), (1, .int (iI 0)), (0, .ref (aD 0))]) dX2_greatestSize_3 rfl (by decide) rfl (fun ls hl => ?_)
  have cut_4 : ∀ (k : Nat) (b : Int) (n : Int) (H : Heap) (locs : List Loc) (ls : Array Slot), (16 - n).toNat < k → ((0 ≤ n ∧ n ≤ 16) ∧ (0 ≤ b ∧ b ≤ 20000)) → (zH ((∀ j, 0 ≤ j → j < n → ((nm j).natAbs : Int) ≤ b) ∧ (b = 0 ∨ ∃ j, (0 ≤ j ∧ j < 16) ∧ b = ((nm j).natAbs : Int)))) → lv_has ls 3 [(2, .int (iI n)), (1, .int (iI b)), (0, .ref (aD 0))] → zW D A s.heap H locs (wD cI cZ aD xs ys lf ev nm sz) → W p l e ({ frames := 1, cells := 0, slots := 0, locals := 21 } : Room) s m ([.ref (aD 0)] : List Value).toArray below meth c H locs 0 0 Q (F0 m 4 ls []) := by
    intro k
    induction k with
    | zero => intro b n H locs ls hm; exact absurd hm (Nat.not_lt_zero _)
    | succ k ih_4 =>
      intro b n H locs ls hm_4 h1 h2 hl hW
      refine z_iloadn F (pc := 4) dX2_greatestSize_4 rfl (lv_at hl 0 rfl) ?_
      refine z_bipush F (pc := 5) (16) (by decide +kernel) dX2_greatestSize_5 ?_
      refine z_icmp_ge F (pc := 7) 30 dX2_greatestSize_7 (by decide) (by omega) (fun c_7 => ?_) (fun c_7 => ?_)
      · skip
        refine z_iloadn F (pc := 30) dX2_greatestSize_30 rfl (lv_at hl 1 rfl) ?_
        exact hret _ _ _ _ b () dX2_greatestSize_31 (by omega) (by exact ⟨⟨fun j j0 j1 => h2.o.1 j j0 (by omega), h2.o.2⟩, by omega⟩) hW
      · skip
        have hv := hn n (by omega) (by omega)
        refine z_iloadn F (pc := 10) dX2_greatestSize_10 rfl (lv_at hl 1 rfl) ?_
        refine z_aloadn F (pc := 11) dX2_greatestSize_11 rfl (lv_at hl 2 rfl) ?_
        refine z_get F (pc := 12) (C := RX2) (T := TX2) (N := 6) (ci := 2) inX2 hK hW 0 4 rfl rfl (by decide) rfl (List.mem_of_getElem? (i := 1) rfl) (v := .ref (aD 5)) rfl dX2_greatestSize_12 ?_
        refine z_iloadn F (pc := 15) dX2_greatestSize_15 rfl (lv_at hl 0 rfl) ?_
        refine z_iald F (pc := 16) hK hW 5 rfl (by decide) dX2_greatestSize_16 (by omega) ?_
        refine z_mabs F (pc := 17) hl.1 (List.mem_of_getElem? (i := 2) rfl) (List.mem_of_getElem? (i := 3) rfl) (List.mem_of_getElem? (i := 4) rfl) (List.mem_of_getElem? (i := 5) rfl) (Nat.le_of_ble_eq_true rfl) (Nat.le_of_ble_eq_true rfl) (Nat.le_of_ble_eq_true rfl) (Nat.le_of_ble_eq_true rfl) dX2_greatestSize_17 (by omega) ?_
        refine z_mmax F (pc := 20) hl.1 (List.mem_of_getElem? (i := 6) rfl) (List.mem_of_getElem? (i := 7) rfl) (List.mem_of_getElem? (i := 4) rfl) (List.mem_of_getElem? (i := 8) rfl) (Nat.le_of_ble_eq_true rfl) (Nat.le_of_ble_eq_true rfl) (Nat.le_of_ble_eq_true rfl) (Nat.le_of_ble_eq_true rfl) dX2_greatestSize_20 (by omega) ?_
        refine z_istoren F (pc := 23) hl (lv' := [(1, .int (iI (max b ((nm n).natAbs : Int)))), (2, .int (iI n)), (0, .ref (aD 0))]) dX2_greatestSize_23 rfl (by decide) rfl (fun ls hl => ?_)
        have hs1 : zH ((∀ j, 0 ≤ j → j < n + 1 → ((nm j).natAbs : Int) ≤ max b ((nm n).natAbs : Int)) ∧ (max b ((nm n).natAbs : Int) = 0 ∨ ∃ j, (0 ≤ j ∧ j < 16) ∧ max b ((nm n).natAbs : Int) = ((nm j).natAbs : Int))) := by
          refine ⟨fun j j0 j1 => ?_, ?_⟩
          · by_cases e : j = n
            · subst e; omega
            · have := h2.o.1 j j0 (by omega); omega
          · by_cases q : ((nm n).natAbs : Int) ≤ b
            · rw [show max b ((nm n).natAbs : Int) = b by omega]; exact h2.o.2
            · exact Or.inr ⟨n, by omega, by omega⟩
        refine z_iinc F (pc := 24) hl (lv' := [(2, .int (iI (n + 1))), (1, .int (iI (max b ((nm n).natAbs : Int)))), (0, .ref (aD 0))]) dX2_greatestSize_24 (k := 1) rfl (by decide) rfl (fun ls hl => ?_)
        refine z_goto F (pc := 27) 4 dX2_greatestSize_27 (by decide) ?_
        exact ih_4 (max b ((nm n).natAbs : Int)) (n + 1) _ _ _ (by omega) (by omega) (by exact hs1) (lv_sub hl [0, 1, 2] rfl) hW
  exact cut_4 _ 0 0 _ _ _ (Nat.lt_succ_self _) (by omega) (by exact ⟨fun j j0 j1 => by omega, Or.inl rfl⟩) (lv_sub hl [0, 1, 2] rfl) hW
end
section
set_option maxHeartbeats 4000000 in
set_option maxRecDepth 100000 in
theorem c_X2_makeNormal (l : Launch) (D : va_G) (cI cZ : ClassId) (aD : Nat → Nat) (xs ys lf ev nm : Int → Int) (sz : Int) (sz0 : Nat) (hd : Dok xs ys lf sz) : Met l yX2_makeNormal wsX2_makeNormal ({ frames := 4, cells := 0, slots := 0, locals := 92 } : Room) (zPc D cI cZ [.ref (aD 0)] (wD cI cZ aD xs ys lf ev nm sz) sz0) (zQi D cI cZ (wD cI cZ aD xs ys lf ev nm sz) sz0 (fun (r : Int) (u : (Int → Int) × (Int → Int)) => (zB r (¬ wy xs ys lf sz = 0)) ∧ (¬ wy xs ys lf sz = 0 → NmOf xs ys lf sz u.2)) (fun (u : (Int → Int) × (Int → Int)) => wD cI cZ aD xs ys lf u.1 u.2 sz)) 0 0 (va_A (wD cI cZ aD xs ys lf ev nm sz) sz0) := by
  refine z_ofI (maxL := 3) (plainFor_of_name (by decide)) rfl (Nat.le_of_ble_eq_true rfl) (Or.inr ⟨rfl, fun z u h => zB_01 h.1⟩) ?_
  intro p e s m below meth c A ls Q F hK hW hA hl hret
  have hl : lv_has ls 3 [(0, .ref (aD 0))] := hl
  have inX2 : ∀ w ∈ u_ws RX2 TX2 6, w ∈ wsX2_makeNormal := fun _ h => List.mem_cons_of_mem _ (List.mem_append_right _ h)
  refine z_aloadn F (pc := 0) dX2_makeNormal_0 rfl (lv_at hl 0 rfl) ?_
  refine z_callVi F (pc := 1) hK hW hA (As := []) (rest := []) (ws' := fun (u : (Int → Int)) => wD cI cZ aD xs ys lf u nm sz) (wr := ([])) (c_X2_makeEven l D cI cZ aD xs ys lf ev nm sz _ (by exact hd)) (cwV 0 F.2.2.2.2 gX2_makeNormal_X2_makeEven rfl rfl rfl (by decide +kernel) ⟨Nat.le_of_ble_eq_true rfl, Nat.le_of_ble_eq_true rfl⟩) [0, 1, 2, 3, 4, 5] [] [0, 1, 2, 3, 4, 5] rfl rfl (by decide) (by decide) (by decide) (fun _ => rfl) (by decide) (q0 := 0) (ci := 2) rfl rfl rfl rfl rfl hl.1 (Nat.le_of_ble_eq_true rfl) dX2_makeNormal_1 ⟨Nat.le_of_ble_eq_true rfl, Nat.le_of_ble_eq_true rfl⟩ (fun z_1 u H locs r_z_1 hp_1 hW => ?_)
  obtain ⟨ev2_1, rfl⟩ : ∃ v, v = u := ⟨_, rfl⟩
  obtain ⟨hb_1, hp_1⟩ := hp_1
  refine z_if_ne F (pc := 4) 9 dX2_makeNormal_4 (by decide) (by omega) (fun c_4 => ?_) (fun c_4 => ?_)
  · skip
    have b_4 := zB_t hb_1 c_4
    have hE := hp_1 b_4
    have hEb := Ev_b hd hE
    refine z_aloadn F (pc := 9) dX2_makeNormal_9 rfl (lv_at hl 0 rfl) ?_
    refine z_iconst F (pc := 10) (0) dX2_makeNormal_10 ?_
    refine z_callVv F (pc := 11) hK hW hA (As := [.int (iI 0)]) (rest := []) (ws' := fun (u : (Int → Int) × (Int) × (Int)) => wD cI cZ aD xs ys lf ev2_1 u.1 sz) (wr := ([])) (c_X2_takeMiddleOff l D cI cZ aD xs ys lf ev2_1 nm sz 0 _ (by omega) (by omega) (by exact hEb)) (cwV 1 F.2.2.2.2 gX2_makeNormal_X2_takeMiddleOff rfl rfl rfl (by decide +kernel) ⟨Nat.le_of_ble_eq_true rfl, Nat.le_of_ble_eq_true rfl⟩) [0, 1, 2, 3, 4, 5] [] [0, 1, 2, 3, 4, 5] rfl rfl (by decide) (by decide) (by decide) (fun _ => rfl) (by decide) (q0 := 0) (ci := 2) rfl rfl rfl rfl rfl hl.1 (Nat.le_of_ble_eq_true rfl) dX2_makeNormal_11 ⟨Nat.le_of_ble_eq_true rfl, Nat.le_of_ble_eq_true rfl⟩ (fun u H locs hp_11 hW => ?_)
    obtain ⟨nm2_11, lo2_11, hi2_11⟩ := u
    dsimp only at hp_11 hW
    refine z_aloadn F (pc := 14) dX2_makeNormal_14 rfl (lv_at hl 0 rfl) ?_
    refine z_iconst F (pc := 15) (1) dX2_makeNormal_15 ?_
    refine z_callVv F (pc := 16) hK hW hA (As := [.int (iI 1)]) (rest := []) (ws' := fun (u : (Int → Int) × (Int) × (Int)) => wD cI cZ aD xs ys lf ev2_1 u.1 sz) (wr := ([])) (c_X2_takeMiddleOff l D cI cZ aD xs ys lf ev2_1 nm2_11 sz 1 _ (by omega) (by omega) (by exact hEb)) (cwV 1 F.2.2.2.2 gX2_makeNormal_X2_takeMiddleOff rfl rfl rfl (by decide +kernel) ⟨Nat.le_of_ble_eq_true rfl, Nat.le_of_ble_eq_true rfl⟩) [0, 1, 2, 3, 4, 5] [] [0, 1, 2, 3, 4, 5] rfl rfl (by decide) (by decide) (by decide) (fun _ => rfl) (by decide) (q0 := 0) (ci := 2) rfl rfl rfl rfl rfl hl.1 (Nat.le_of_ble_eq_true rfl) dX2_makeNormal_16 ⟨Nat.le_of_ble_eq_true rfl, Nat.le_of_ble_eq_true rfl⟩ (fun u H locs hp_16 hW => ?_)
    obtain ⟨nm2_16, lo2_16, hi2_16⟩ := u
    dsimp only at hp_16 hW
    have hmo : ∀ j, 0 ≤ j → j < 16 → nm2_16 j = mO ev2_1 lo2_11 hi2_11 lo2_16 hi2_16 j := by
      intro j j0 j1
      rw [hp_16.2.2.2 j j0 j1]
      unfold mO
      by_cases q : j % 2 = 0
      · rw [if_neg (by omega), if_pos q, hp_11.2.2.2 j j0 j1, if_pos (by omega)]
      · rw [if_pos (by omega), if_neg q]
    have hmb : ∀ j, 0 ≤ j → j < 16 → -20000 ≤ mO ev2_1 lo2_11 hi2_11 lo2_16 hi2_16 j ∧ mO ev2_1 lo2_11 hi2_11 lo2_16 hi2_16 j ≤ 20000 := by
      intro j j0 j1
      have a := hEb j j0 j1
      have b := hp_11.2.2.1
      have c := hp_16.2.2.1
      unfold mO
      split <;> omega
    have hnb : ∀ j, 0 ≤ j → j < 16 → -20000 ≤ nm2_16 j ∧ nm2_16 j ≤ 20000 := by
      intro j j0 j1
      rw [hmo j j0 j1]; exact hmb j j0 j1
    refine z_aloadn F (pc := 19) dX2_makeNormal_19 rfl (lv_at hl 0 rfl) ?_
    refine z_callVi F (pc := 20) hK hW hA (As := []) (rest := []) (ws' := fun (u : Unit) => wD cI cZ aD xs ys lf ev2_1 nm2_16 sz) (wr := ([])) (c_X2_greatestSize l D cI cZ aD xs ys lf ev2_1 nm2_16 sz _ (by exact hnb)) (cwV 0 F.2.2.2.2 gX2_makeNormal_X2_greatestSize rfl rfl rfl (by decide +kernel) ⟨Nat.le_of_ble_eq_true rfl, Nat.le_of_ble_eq_true rfl⟩) [0, 1, 2, 3, 4, 5] [] [0, 1, 2, 3, 4, 5] rfl rfl (by decide) (by decide) (by decide) (fun _ => rfl) (by decide) (q0 := 0) (ci := 2) rfl rfl rfl rfl rfl hl.1 (Nat.le_of_ble_eq_true rfl) dX2_makeNormal_20 ⟨Nat.le_of_ble_eq_true rfl, Nat.le_of_ble_eq_true rfl⟩ (fun z_20 u H locs r_z_20 hp_20 hW => ?_)
    have hz0 := isMx_0 hp_20.1
    have hmx : isMx (mO ev2_1 lo2_11 hi2_11 lo2_16 hi2_16) z_20 := by
      refine ⟨fun j j0 j1 => by rw [← hmo j j0 j1]; exact hp_20.1.1 j j0 j1, ?_⟩
      rcases hp_20.1.2 with q | ⟨j, hj, q⟩
      · exact Or.inl q
      · exact Or.inr ⟨j, hj, by rw [← hmo j hj.1 hj.2]; exact q⟩
    refine z_istoren F (pc := 23) hl (lv' := [(1, .int (iI z_20)), (0, .ref (aD 0))]) dX2_makeNormal_23 rfl (by decide) rfl (fun ls hl => ?_)
    refine z_iconst F (pc := 24) (0) dX2_makeNormal_24 ?_
    refine z_istoren F (pc := 25) hl (lv' := [(2, .int (iI 0)), (1, .int (iI z_20)), (0, .ref (aD 0))]) dX2_makeNormal_25 rfl (by decide) rfl (fun ls hl => ?_)
    have cut_26 : ∀ (k : Nat) (n : Int) (b1 : Int → Int) (H : Heap) (locs : List Loc) (ls : Array Slot), (16 - n).toNat < k → (0 ≤ n ∧ n ≤ 16) → (∀ j, 0 ≤ j → j < 16 → b1 j = if j < n then (if z_20 = 0 then 0 else 1000 * mO ev2_1 lo2_11 hi2_11 lo2_16 hi2_16 j / z_20) else mO ev2_1 lo2_11 hi2_11 lo2_16 hi2_16 j) → lv_has ls 3 [(2, .int (iI n)), (1, .int (iI z_20)), (0, .ref (aD 0))] → zW D A s.heap H locs (wD cI cZ aD xs ys lf ev2_1 b1 sz) → W p l e ({ frames := 4, cells := 0, slots := 0, locals := 92 } : Room) s m ([.ref (aD 0)] : List Value).toArray below meth c H locs 0 0 Q (F0 m 26 ls []) := by
      intro k
      induction k with
      | zero => intro n b1 H locs ls hm; exact absurd hm (Nat.not_lt_zero _)
      | succ k ih_26 =>
        intro n b1 H locs ls hm_26 g1 g2 hl hW
        refine z_iloadn F (pc := 26) dX2_makeNormal_26 rfl (lv_at hl 0 rfl) ?_
        refine z_bipush F (pc := 27) (16) (by decide +kernel) dX2_makeNormal_27 ?_
        refine z_icmp_ge F (pc := 29) 66 dX2_makeNormal_29 (by decide) (by omega) (fun c_29 => ?_) (fun c_29 => ?_)
        · skip
          refine z_iconst F (pc := 66) (1) dX2_makeNormal_66 ?_
          exact hret _ _ _ _ 1 (ev2_1, b1) dX2_makeNormal_67 (by omega) (by try dsimp only; exact ⟨zB_1 b_4, fun _ => ⟨ev2_1, hE, lo2_11, hi2_11, lo2_16, hi2_16, z_20, hp_11.1, hp_11.2.1, hp_16.1, hp_16.2.1, hmx, fun j j0 j1 => by rw [g2 j j0 j1, if_pos (by omega)]⟩⟩) hW
        · skip
          have hbn : b1 n = mO ev2_1 lo2_11 hi2_11 lo2_16 hi2_16 n := by rw [g2 n (by omega) (by omega), if_neg (by omega)]
          have hmn := hmb n (by omega) (by omega)
          refine z_aloadn F (pc := 32) dX2_makeNormal_32 rfl (lv_at hl 2 rfl) ?_
          refine z_get F (pc := 33) (C := RX2) (T := TX2) (N := 6) (ci := 2) inX2 hK hW 0 4 rfl rfl (by decide) rfl (List.mem_of_getElem? (i := 1) rfl) (v := .ref (aD 5)) rfl dX2_makeNormal_33 ?_
          refine z_iloadn F (pc := 36) dX2_makeNormal_36 rfl (lv_at hl 0 rfl) ?_
          refine z_iloadn F (pc := 37) dX2_makeNormal_37 rfl (lv_at hl 1 rfl) ?_
          refine z_if_ne F (pc := 38) 45 dX2_makeNormal_38 (by decide) (by omega) (fun c_38 => ?_) (fun c_38 => ?_)
          · skip
            have hq := nq_b (hmx.1 n (by omega) (by omega)) c_38
            refine z_sipush F (pc := 45) (1000) (by decide +kernel) dX2_makeNormal_45 ?_
            refine z_aloadn F (pc := 48) dX2_makeNormal_48 rfl (lv_at hl 2 rfl) ?_
            refine z_get F (pc := 49) (C := RX2) (T := TX2) (N := 6) (ci := 2) inX2 hK hW 0 4 rfl rfl (by decide) rfl (List.mem_of_getElem? (i := 1) rfl) (v := .ref (aD 5)) rfl dX2_makeNormal_49 ?_
            refine z_iloadn F (pc := 52) dX2_makeNormal_52 rfl (lv_at hl 0 rfl) ?_
            refine z_iald F (pc := 53) hK hW 5 rfl (by decide) dX2_makeNormal_53 (by omega) ?_
            refine z_imul F (pc := 54) dX2_makeNormal_54 ?_
            refine z_iloadn F (pc := 55) dX2_makeNormal_55 rfl (lv_at hl 1 rfl) ?_
            refine z_callSi F (pc := 56) hK hW hA (As := [.int (iI (1000 * (b1 n))), .int (iI z_20)]) (rest := [.int (iI n), .ref (aD 5)]) (c_J9_floorDiv_7cf53 l D cI cZ (1000 * (b1 n)) z_20 _ (by omega) (by omega) (by omega) (by omega)) (va_cwS 2 F.2.2.2.2 gX2_makeNormal_J9_floorDiv_7cf53 rfl rfl rfl (by decide +kernel) ⟨Nat.le_of_ble_eq_true rfl, Nat.le_of_ble_eq_true rfl⟩) rfl rfl hl.1 (Nat.le_of_ble_eq_true rfl) dX2_makeNormal_56 ⟨Nat.le_of_ble_eq_true rfl, Nat.le_of_ble_eq_true rfl⟩ (fun z_56 H locs r_z_56 hp_56 hW => ?_)
            subst hp_56
            refine z_eqi (y := 1000 * mO ev2_1 lo2_11 hi2_11 lo2_16 hi2_16 n / z_20) (by rw [hbn]) ?_
            refine z_iast F (pc := 59) hK hW (ws' := wD cI cZ aD xs ys lf ev2_1 (zU b1 n (1000 * mO ev2_1 lo2_11 hi2_11 lo2_16 hi2_16 n / z_20)) sz) 5 rfl (by decide) dX2_makeNormal_59 (by omega) rfl (fun H locs hW => ?_)
            have hs3 : ∀ j, 0 ≤ j → j < 16 → zU b1 n (if z_20 = 0 then 0 else 1000 * mO ev2_1 lo2_11 hi2_11 lo2_16 hi2_16 n / z_20) j = if j < n + 1 then (if z_20 = 0 then 0 else 1000 * mO ev2_1 lo2_11 hi2_11 lo2_16 hi2_16 j / z_20) else mO ev2_1 lo2_11 hi2_11 lo2_16 hi2_16 j := by
              intro j j0 j1
              by_cases e : j = n
              · subst e; rw [zU_s, if_pos (show j < j + 1 by omega)]
              · rw [zU_n _ _ e, g2 j j0 j1]
                by_cases q : j < n
                · rw [if_pos q, if_pos (show j < n + 1 by omega)]
                · rw [if_neg q, if_neg (show ¬ j < n + 1 by omega)]
            try rw [if_pos (by omega)] at hs3
            try rw [if_neg c_38] at hs3
            refine z_iinc F (pc := 60) hl (lv' := [(2, .int (iI (n + 1))), (1, .int (iI z_20)), (0, .ref (aD 0))]) dX2_makeNormal_60 (k := 0) rfl (by decide) rfl (fun ls hl => ?_)
            refine z_goto F (pc := 63) 26 dX2_makeNormal_63 (by decide) ?_
            exact ih_26 (n + 1) (zU b1 n (1000 * mO ev2_1 lo2_11 hi2_11 lo2_16 hi2_16 n / z_20)) _ _ _ (by omega) (by omega) (by exact hs3) (lv_sub hl [0, 1, 2] rfl) hW
          · skip
            refine z_iconst F (pc := 41) (0) dX2_makeNormal_41 ?_
            refine z_goto F (pc := 42) 59 dX2_makeNormal_42 (by decide) ?_
            refine z_iast F (pc := 59) hK hW (ws' := wD cI cZ aD xs ys lf ev2_1 (zU b1 n 0) sz) 5 rfl (by decide) dX2_makeNormal_59 (by omega) rfl (fun H locs hW => ?_)
            have hs3 : ∀ j, 0 ≤ j → j < 16 → zU b1 n (if z_20 = 0 then 0 else 1000 * mO ev2_1 lo2_11 hi2_11 lo2_16 hi2_16 n / z_20) j = if j < n + 1 then (if z_20 = 0 then 0 else 1000 * mO ev2_1 lo2_11 hi2_11 lo2_16 hi2_16 j / z_20) else mO ev2_1 lo2_11 hi2_11 lo2_16 hi2_16 j := by
              intro j j0 j1
              by_cases e : j = n
              · subst e; rw [zU_s, if_pos (show j < j + 1 by omega)]
              · rw [zU_n _ _ e, g2 j j0 j1]
                by_cases q : j < n
                · rw [if_pos q, if_pos (show j < n + 1 by omega)]
                · rw [if_neg q, if_neg (show ¬ j < n + 1 by omega)]
            try rw [if_pos (by omega)] at hs3
            try rw [if_neg c_38] at hs3
            refine z_iinc F (pc := 60) hl (lv' := [(2, .int (iI (n + 1))), (1, .int (iI z_20)), (0, .ref (aD 0))]) dX2_makeNormal_60 (k := 0) rfl (by decide) rfl (fun ls hl => ?_)
            refine z_goto F (pc := 63) 26 dX2_makeNormal_63 (by decide) ?_
            exact ih_26 (n + 1) (zU b1 n 0) _ _ _ (by omega) (by omega) (by exact hs3) (lv_sub hl [0, 1, 2] rfl) hW
    exact cut_26 _ 0 nm2_16 _ _ _ (Nat.lt_succ_self _) (by omega) (by intro j j0 j1; rw [if_neg (by omega)]; exact hmo j j0 j1) (lv_sub hl [0, 1, 2] rfl) hW
  · skip
    have b_4 := zB_f hb_1 c_4
    refine z_iconst F (pc := 7) (0) dX2_makeNormal_7 ?_
    exact hret _ _ _ _ 0 (ev2_1, nm) dX2_makeNormal_8 (by omega) (by try dsimp only; exact ⟨zB_0 b_4, fun h => absurd h b_4⟩) hW
end
section
def dz (xs ys lf : Int → Int) (q : Int) : Int := if q = 0 then 0 else dr xs ys lf q
theorem wy_z (xs ys lf : Int → Int) {q : Int} (h : 0 ≤ q) : wy xs ys lf (q + 1) = wy xs ys lf q + dz xs ys lf q := by
  unfold dz
  by_cases e : q = 0
  · subst e; rw [if_pos rfl, wy_0 xs ys lf (by omega), wy_0 xs ys lf (by omega)]; rfl
  · rw [if_neg e, wy_s xs ys lf (by omega)]
theorem dz_rng {xs ys lf : Int → Int} {sz q : Int} (h : Dok xs ys lf sz) (h1 : 0 ≤ q) (h2 : q < sz) : 0 ≤ dz xs ys lf q ∧ dz xs ys lf q ≤ 400 := by
  unfold dz
  by_cases e : q = 0
  · rw [if_pos e]; omega
  · rw [if_neg e]; exact dr_rng h (by omega) h2
theorem pw_l {fr to pa st : Int} (h1 : -100 ≤ fr ∧ fr ≤ 100) (h2 : -100 ≤ to ∧ to ≤ 100) (h3 : 0 ≤ pa ∧ pa ≤ st) (h4 : 0 < st ∧ st ≤ 2800) : -56000000 ≤ (to - fr) * (100 * pa) ∧ (to - fr) * (100 * pa) ≤ 56000000 := by
  rw [← Int.mul_assoc]
  exact (pw_b h1 h2 h3 h4).1
theorem tdiv_bL {x y : Int} (h : -9223372036854775808 < x ∧ x < 9223372036854775808) : -9223372036854775808 < x.tdiv y ∧ x.tdiv y < 9223372036854775808 := by
  have hab : (x.tdiv y).natAbs ≤ x.natAbs := by rw [Int.natAbs_tdiv]; exact Nat.div_le_self _ _
  omega
theorem tmod_bL {x y : Int} (hy : 0 < y) (h : y < 9223372036854775808) : -9223372036854775808 < x.tmod y ∧ x.tmod y < 9223372036854775808 := by
  have h1 := Int.tmod_lt_of_pos x hy
  have h2 := Int.lt_tmod_of_pos x hy
  omega
theorem dn_1 {x y : Int} (hy : 0 < y) (h : ¬ x.tmod y < 0) : x.tdiv y = x / y := by
  by_cases q : 0 ≤ x
  · exact fl_1 hy (Or.inl q)
  · refine fl_1 hy (Or.inr ?_)
    have h1 := Int.tmod_nonneg y (show 0 ≤ -x by omega)
    rw [Int.neg_tmod] at h1
    have h2 := Int.tmod_add_mul_tdiv x y
    rw [Int.mul_comm]
    omega
theorem dn_2 {x y : Int} (hy : 0 < y) (h : x.tmod y < 0) : x.tdiv y - 1 = x / y := by
  have hx : x < 0 := by
    by_cases q : 0 ≤ x
    · have := Int.tmod_nonneg y q
      omega
    · omega
  refine fl_2 hy hx (fun q => ?_)
  have h2 := Int.tmod_add_mul_tdiv x y
  rw [Int.mul_comm] at q
  omega

set_option maxHeartbeats 4000000 in
set_option maxRecDepth 100000 in
theorem c_X8_in (l : Launch) (D : va_G) (cI cZ : ClassId) (v lo hi : Int) (sz0 : Nat) (r_v : (-9223372036854775808 ≤ v ∧ v < 9223372036854775808)) (r_lo : (-9223372036854775808 ≤ lo ∧ lo < 9223372036854775808)) (r_hi : (-9223372036854775808 ≤ hi ∧ hi < 9223372036854775808)) : Met l yX8_in wsX8_in ({ frames := 0, cells := 0, slots := 0, locals := 0 } : Room) (zPc D cI cZ [.long (lI v), .long (lI lo), .long (lI hi)] ([]) sz0) (zQi D cI cZ ([]) sz0 (fun (r : Int) (u : Unit) => zB r (lo ≤ v ∧ v ≤ hi)) (fun (u : Unit) => [])) 0 0 (va_A ([]) sz0) := by
  refine z_ofI (maxL := 6) (plainFor_of_name (by decide)) rfl (Nat.le_of_ble_eq_true rfl) (Or.inr ⟨rfl, fun z u h => zB_01 h⟩) ?_
  intro p e s m below meth c A ls Q F hK hW hA hl hret
  have hl : lv_has ls 6 [(0, .long (lI v)), (2, .long (lI lo)), (4, .long (lI hi))] := hl
  refine z_lloadn F (pc := 0) dX8_in_0 rfl (lv_at hl 0 rfl) ?_
  refine z_lloadn F (pc := 1) dX8_in_1 rfl (lv_at hl 1 rfl) ?_
  refine z_lcmp F (pc := 2) dX8_in_2 (by omega) (fun q_2 l1_2 l2_2 l3_2 => ?_)
  refine z_if_lt F (pc := 3) 17 dX8_in_3 (by decide) (by omega) (fun c_3 => ?_) (fun c_3 => ?_)
  · have b_3 : v < lo := by omega
    clear l1_2 l2_2 l3_2 c_3
    refine z_iconst F (pc := 17) (0) dX8_in_17 ?_
    exact hret _ _ _ _ 0 () dX8_in_18 (by omega) (by first | exact zB_1 (by omega) | exact zB_0 (by omega)) hW
  · have b_3 : ¬ v < lo := by omega
    clear l1_2 l2_2 l3_2 c_3
    refine z_lloadn F (pc := 6) dX8_in_6 rfl (lv_at hl 0 rfl) ?_
    refine z_lload F (pc := 7) dX8_in_7 (lv_at hl 2 rfl) ?_
    refine z_lcmp F (pc := 9) dX8_in_9 (by omega) (fun q_9 l1_9 l2_9 l3_9 => ?_)
    refine z_if_gt F (pc := 10) 17 dX8_in_10 (by decide) (by omega) (fun c_10 => ?_) (fun c_10 => ?_)
    · have b_10 : hi < v := by omega
      clear l1_9 l2_9 l3_9 c_10
      refine z_iconst F (pc := 17) (0) dX8_in_17 ?_
      exact hret _ _ _ _ 0 () dX8_in_18 (by omega) (by first | exact zB_1 (by omega) | exact zB_0 (by omega)) hW
    · have b_10 : ¬ hi < v := by omega
      clear l1_9 l2_9 l3_9 c_10
      refine z_iconst F (pc := 13) (1) dX8_in_13 ?_
      refine z_goto F (pc := 14) 18 dX8_in_14 (by decide) ?_
      exact hret _ _ _ _ 1 () dX8_in_18 (by omega) (by first | exact zB_1 (by omega) | exact zB_0 (by omega)) hW

set_option maxHeartbeats 4000000 in
set_option maxRecDepth 100000 in
theorem c_X8_down (l : Launch) (D : va_G) (cI cZ : ClassId) (v y : Int) (sz0 : Nat) (r_v : (-9223372036854775808 ≤ v ∧ v < 9223372036854775808)) (r_y : (-9223372036854775808 ≤ y ∧ y < 9223372036854775808)) (hy : 0 < y) (hx : -9223372036854775808 < v) : Met l yX8_down wsX8_down ({ frames := 0, cells := 0, slots := 0, locals := 0 } : Room) (zPc D cI cZ [.long (lI v), .long (lI y)] ([]) sz0) (zQl D cI cZ ([]) sz0 (fun (r : Int) (u : Unit) => r = v / y) (fun (u : Unit) => [])) 0 0 (va_A ([]) sz0) := by
  have hb := tdiv_bL (x := v) (y := y) (by omega)
  have hm := tmod_bL (x := v) hy (by omega)
  have hc := fl_r (x := v) hy (b := 9223372036854775807) (by omega) (by omega)
  refine z_ofL (maxL := 6) (plainFor_of_name (by decide)) rfl (Nat.le_of_ble_eq_true rfl) ?_
  intro p e s m below meth c A ls Q F hK hW hA hl hret
  have hl : lv_has ls 6 [(0, .long (lI v)), (2, .long (lI y))] := hl
  refine z_lloadn F (pc := 0) dX8_down_0 rfl (lv_at hl 0 rfl) ?_
  refine z_lloadn F (pc := 1) dX8_down_1 rfl (lv_at hl 1 rfl) ?_
  refine z_ldiv F (pc := 2) dX8_down_2 (by omega) ?_
  refine z_lstore F (pc := 3) hl (lv' := [(4, .long (lI (Int.tdiv v y))), (0, .long (lI v)), (2, .long (lI y))]) dX8_down_3 (by decide) rfl (fun ls hl => ?_)
  refine z_lloadn F (pc := 5) dX8_down_5 rfl (lv_at hl 1 rfl) ?_
  refine z_lloadn F (pc := 6) dX8_down_6 rfl (lv_at hl 2 rfl) ?_
  refine z_lrem F (pc := 7) dX8_down_7 (by omega) ?_
  refine z_lconst F (pc := 8) (0) (by decide +kernel) dX8_down_8 ?_
  refine z_lcmp F (pc := 9) dX8_down_9 (by omega) (fun q_9 l1_9 l2_9 l3_9 => ?_)
  refine z_if_ge F (pc := 10) 20 dX8_down_10 (by decide) (by omega) (fun c_10 => ?_) (fun c_10 => ?_)
  · have b_10 : 0 ≤ (Int.tmod v y) := by omega
    clear l1_9 l2_9 l3_9 c_10
    have ex := dn_1 hy (x := v) (by omega)
    refine z_lload F (pc := 20) dX8_down_20 (lv_at hl 0 rfl) ?_
    exact hret _ _ _ _ (Int.tdiv v y) () dX8_down_22 (by omega) (by exact ex) hW
  · have b_10 : ¬ 0 ≤ (Int.tmod v y) := by omega
    clear l1_9 l2_9 l3_9 c_10
    have ex := dn_2 hy (x := v) (by omega)
    refine z_lload F (pc := 13) dX8_down_13 (lv_at hl 0 rfl) ?_
    refine z_lconst F (pc := 15) (1) (by decide +kernel) dX8_down_15 ?_
    refine z_lsub F (pc := 16) dX8_down_16 ?_
    refine z_goto F (pc := 17) 22 dX8_down_17 (by decide) ?_
    exact hret _ _ _ _ ((Int.tdiv v y) - 1) () dX8_down_22 (by omega) (by exact ex) hW

set_option maxHeartbeats 4000000 in
set_option maxRecDepth 100000 in
theorem c_X8_plain (l : Launch) (D : va_G) (cI cZ : ClassId) (v : Int) (sz0 : Nat) (r_v : (-2147483648 ≤ v ∧ v < 2147483648)) (hv : -2147483648 < v) : Met l yX8_plain wsX8_plain ({ frames := 0, cells := 0, slots := 0, locals := 0 } : Room) (zPc D cI cZ [.int (iI v)] ([]) sz0) (zQi D cI cZ ([]) sz0 (fun (r : Int) (u : Unit) => r = ((v.natAbs : Nat) : Int)) (fun (u : Unit) => [])) 0 0 (va_A ([]) sz0) := by
  refine z_ofI (maxL := 1) (plainFor_of_name (by decide)) rfl (Nat.le_of_ble_eq_true rfl) (Or.inl rfl) ?_
  intro p e s m below meth c A ls Q F hK hW hA hl hret
  have hl : lv_has ls 1 [(0, .int (iI v))] := hl
  refine z_iloadn F (pc := 0) dX8_plain_0 rfl (lv_at hl 0 rfl) ?_
  refine z_if_ge F (pc := 1) 9 dX8_plain_1 (by decide) (by omega) (fun c_1 => ?_) (fun c_1 => ?_)
  · skip
    refine z_iloadn F (pc := 9) dX8_plain_9 rfl (lv_at hl 0 rfl) ?_
    exact hret _ _ _ _ v () dX8_plain_10 (by omega) (by omega) hW
  · skip
    refine z_iloadn F (pc := 4) dX8_plain_4 rfl (lv_at hl 0 rfl) ?_
    refine z_ineg F (pc := 5) dX8_plain_5 ?_
    refine z_goto F (pc := 6) 10 dX8_plain_6 (by decide) ?_
    exact hret _ _ _ _ (-v) () dX8_plain_10 (by omega) (by omega) hW

set_option maxHeartbeats 4000000 in
set_option maxRecDepth 100000 in
theorem c_X8_point (l : Launch) (D : va_G) (cI cZ : ClassId) (aR : Nat → Nat) (xs ys lf ev nm lb kd pt so nu al ak ap he le rw cx cr cl ll tl ts tc : Int → Int) (sz mn ac en mg ln cn wc wp : Int) (x y li : Int) (sz0 : Nat) (r_x : (-2147483648 ≤ x ∧ x < 2147483648)) (r_y : (-2147483648 ≤ y ∧ y < 2147483648)) (r_li : (-2147483648 ≤ li ∧ li < 2147483648)) (hd : 0 ≤ sz ∧ sz ≤ 30) (hli : li = 0 ∨ li = 1) : Met l yX8_point wsX8_point ({ frames := 1, cells := 0, slots := 0, locals := 25 } : Room) (zPc D cI cZ [.ref (aR 0), .int (iI x), .int (iI y), .int (iI li)] (wR cI cZ aR xs ys lf ev nm lb kd pt so nu al ak ap he le rw cx cr cl ll tl ts tc sz mn ac en mg ln cn wc wp) sz0) (zQi D cI cZ (wR cI cZ aR xs ys lf ev nm lb kd pt so nu al ak ap he le rw cx cr cl ll tl ts tc sz mn ac en mg ln cn wc wp) sz0 (fun (r : Int) (u : (Int → Int) × (Int → Int) × (Int → Int) × (Int)) => addP xs ys lf sz x y li u.1 u.2.1 u.2.2.1 u.2.2.2 r) (fun (u : (Int → Int) × (Int → Int) × (Int → Int) × (Int)) => wR cI cZ aR u.1 u.2.1 u.2.2.1 ev nm lb kd pt so nu al ak ap he le rw cx cr cl ll tl ts tc u.2.2.2 mn ac en mg ln cn wc wp)) 0 0 (va_A (wR cI cZ aR xs ys lf ev nm lb kd pt so nu al ak ap he le rw cx cr cl ll tl ts tc sz mn ac en mg ln cn wc wp) sz0) := by
  refine z_ofI (maxL := 4) (plainFor_of_name (by decide)) rfl (Nat.le_of_ble_eq_true rfl) (Or.inl rfl) ?_
  intro p e s m below meth c A ls Q F hK hW hA hl hret
  have hl : lv_has ls 4 [(0, .ref (aR 0)), (1, .int (iI x)), (2, .int (iI y)), (3, .int (iI li))] := hl
  have inX8 : ∀ w ∈ u_ws RX8 TX8 32, w ∈ wsX8_point := fun _ h => List.mem_cons_of_mem _ (List.mem_append_right _ h)
  refine z_iloadn F (pc := 0) dX8_point_0 rfl (lv_at hl 1 rfl) ?_
  refine z_i2l F (pc := 1) dX8_point_1 (by omega) ?_
  refine z_ldc2 F (pc := 2) (-100) (by decide +kernel) (List.mem_of_getElem? (i := 1) rfl) dX8_point_2 ?_
  refine z_ldc2 F (pc := 5) (100) (by decide +kernel) (List.mem_of_getElem? (i := 2) rfl) dX8_point_5 ?_
  refine z_callSi F (pc := 8) hK hW hA (As := [.long (lI x), .long (lI (-100)), .long (lI 100)]) (rest := []) (c_X8_in l D cI cZ x (-100) 100 _ (by omega) (by omega) (by omega)) (va_cwS 3 F.2.2.2.2 gX8_point_X8_in rfl rfl rfl (by decide +kernel) ⟨Nat.le_of_ble_eq_true rfl, Nat.le_of_ble_eq_true rfl⟩) rfl rfl hl.1 (Nat.le_of_ble_eq_true rfl) dX8_point_8 ⟨Nat.le_of_ble_eq_true rfl, Nat.le_of_ble_eq_true rfl⟩ (fun z_8 H locs r_z_8 hp_8 hW => ?_)
  refine z_if_eq F (pc := 11) 28 dX8_point_11 (by decide) (by omega) (fun c_11 => ?_) (fun c_11 => ?_)
  · skip
    have b_11 := zB_f hp_8 c_11
    refine z_iconst F (pc := 28) (-1) dX8_point_28 ?_
    exact hret _ _ _ _ (-1) (xs, ys, lf, sz) dX8_point_29 (by omega) (by try dsimp only; unfold addP; first | (left; refine ⟨by omega, rfl, rfl, rfl, rfl, rfl⟩) | (right; left; refine ⟨by omega, by omega, rfl, rfl, rfl, rfl, rfl⟩) | (right; right; refine ⟨by omega, by omega, rfl, rfl, rfl, ?_, rfl⟩; first | (rw [if_pos (by omega)]) | (rw [if_neg (by omega)]))) hW
  · skip
    have b_11 := zB_t hp_8 c_11
    refine z_iloadn F (pc := 14) dX8_point_14 rfl (lv_at hl 2 rfl) ?_
    refine z_i2l F (pc := 15) dX8_point_15 (by omega) ?_
    refine z_ldc2 F (pc := 16) (-100) (by decide +kernel) (List.mem_of_getElem? (i := 1) rfl) dX8_point_16 ?_
    refine z_ldc2 F (pc := 19) (100) (by decide +kernel) (List.mem_of_getElem? (i := 2) rfl) dX8_point_19 ?_
    refine z_callSi F (pc := 22) hK hW hA (As := [.long (lI y), .long (lI (-100)), .long (lI 100)]) (rest := []) (c_X8_in l D cI cZ y (-100) 100 _ (by omega) (by omega) (by omega)) (va_cwS 3 F.2.2.2.2 gX8_point_X8_in rfl rfl rfl (by decide +kernel) ⟨Nat.le_of_ble_eq_true rfl, Nat.le_of_ble_eq_true rfl⟩) rfl rfl hl.1 (Nat.le_of_ble_eq_true rfl) dX8_point_22 ⟨Nat.le_of_ble_eq_true rfl, Nat.le_of_ble_eq_true rfl⟩ (fun z_22 H locs r_z_22 hp_22 hW => ?_)
    refine z_if_ne F (pc := 25) 30 dX8_point_25 (by decide) (by omega) (fun c_25 => ?_) (fun c_25 => ?_)
    · skip
      have b_25 := zB_t hp_22 c_25
      refine z_aloadn F (pc := 30) dX8_point_30 rfl (lv_at hl 0 rfl) ?_
      refine z_get F (pc := 31) (C := RX8) (T := TX8) (N := 32) (ci := 8) inX8 hK hW 0 0 rfl rfl (by decide) rfl (List.mem_of_getElem? (i := 3) rfl) (v := .int (iI sz)) rfl dX8_point_31 ?_
      refine z_bipush F (pc := 34) (30) (by decide +kernel) dX8_point_34 ?_
      refine z_icmp_ne F (pc := 36) 42 dX8_point_36 (by decide) (by omega) (fun c_36 => ?_) (fun c_36 => ?_)
      · skip
        refine z_aloadn F (pc := 42) dX8_point_42 rfl (lv_at hl 0 rfl) ?_
        refine z_get F (pc := 43) (C := RX8) (T := TX8) (N := 32) (ci := 8) inX8 hK hW 0 1 rfl rfl (by decide) rfl (List.mem_of_getElem? (i := 4) rfl) (v := .ref (aR 1)) rfl dX8_point_43 ?_
        refine z_aloadn F (pc := 46) dX8_point_46 rfl (lv_at hl 0 rfl) ?_
        refine z_get F (pc := 47) (C := RX8) (T := TX8) (N := 32) (ci := 8) inX8 hK hW 0 0 rfl rfl (by decide) rfl (List.mem_of_getElem? (i := 3) rfl) (v := .int (iI sz)) rfl dX8_point_47 ?_
        refine z_iloadn F (pc := 50) dX8_point_50 rfl (lv_at hl 1 rfl) ?_
        refine z_iast F (pc := 51) hK hW (ws' := wR cI cZ aR (zU xs sz x) ys lf ev nm lb kd pt so nu al ak ap he le rw cx cr cl ll tl ts tc sz mn ac en mg ln cn wc wp) 1 rfl (by decide) dX8_point_51 (by omega) rfl (fun H locs hW => ?_)
        refine z_aloadn F (pc := 52) dX8_point_52 rfl (lv_at hl 0 rfl) ?_
        refine z_get F (pc := 53) (C := RX8) (T := TX8) (N := 32) (ci := 8) inX8 hK hW 0 2 rfl rfl (by decide) rfl (List.mem_of_getElem? (i := 5) rfl) (v := .ref (aR 2)) rfl dX8_point_53 ?_
        refine z_aloadn F (pc := 56) dX8_point_56 rfl (lv_at hl 0 rfl) ?_
        refine z_get F (pc := 57) (C := RX8) (T := TX8) (N := 32) (ci := 8) inX8 hK hW 0 0 rfl rfl (by decide) rfl (List.mem_of_getElem? (i := 3) rfl) (v := .int (iI sz)) rfl dX8_point_57 ?_
        refine z_iloadn F (pc := 60) dX8_point_60 rfl (lv_at hl 2 rfl) ?_
        refine z_iast F (pc := 61) hK hW (ws' := wR cI cZ aR (zU xs sz x) (zU ys sz y) lf ev nm lb kd pt so nu al ak ap he le rw cx cr cl ll tl ts tc sz mn ac en mg ln cn wc wp) 2 rfl (by decide) dX8_point_61 (by omega) rfl (fun H locs hW => ?_)
        refine z_aloadn F (pc := 62) dX8_point_62 rfl (lv_at hl 0 rfl) ?_
        refine z_get F (pc := 63) (C := RX8) (T := TX8) (N := 32) (ci := 8) inX8 hK hW 0 3 rfl rfl (by decide) rfl (List.mem_of_getElem? (i := 6) rfl) (v := .ref (aR 3)) rfl dX8_point_63 ?_
        refine z_aloadn F (pc := 66) dX8_point_66 rfl (lv_at hl 0 rfl) ?_
        refine z_get F (pc := 67) (C := RX8) (T := TX8) (N := 32) (ci := 8) inX8 hK hW 0 0 rfl rfl (by decide) rfl (List.mem_of_getElem? (i := 3) rfl) (v := .int (iI sz)) rfl dX8_point_67 ?_
        refine z_iloadn F (pc := 70) dX8_point_70 rfl (lv_at hl 3 rfl) ?_
        refine z_if_eq F (pc := 71) 85 dX8_point_71 (by decide) (by omega) (fun c_71 => ?_) (fun c_71 => ?_)
        · skip
          refine z_iconst F (pc := 85) (0) dX8_point_85 ?_
          refine z_zast F (pc := 86) hK hW (ws' := wR cI cZ aR (zU xs sz x) (zU ys sz y) (zU lf sz 0) ev nm lb kd pt so nu al ak ap he le rw cx cr cl ll tl ts tc sz mn ac en mg ln cn wc wp) 3 rfl (by decide) dX8_point_86 (by omega) (by omega) rfl (fun H locs hW => ?_)
          refine z_aloadn F (pc := 87) dX8_point_87 rfl (lv_at hl 0 rfl) ?_
          refine z_dup F (pc := 88) dX8_point_88 rfl ?_
          refine z_get F (pc := 89) (C := RX8) (T := TX8) (N := 32) (ci := 8) inX8 hK hW 0 0 rfl rfl (by decide) rfl (List.mem_of_getElem? (i := 3) rfl) (v := .int (iI sz)) rfl dX8_point_89 ?_
          refine z_iconst F (pc := 92) (1) dX8_point_92 ?_
          refine z_iadd F (pc := 93) dX8_point_93 ?_
          refine z_put F (pc := 94) (C := RX8) (T := TX8) (N := 32) (ci := 8) inX8 tyX8 tyX8_ok nmX8 hK hW (ws' := wR cI cZ aR (zU xs sz x) (zU ys sz y) (zU lf sz 0) ev nm lb kd pt so nu al ak ap he le rw cx cr cl ll tl ts tc (sz + 1) mn ac en mg ln cn wc wp) 0 0 rfl rfl (by decide) rfl (List.mem_of_getElem? (i := 3) rfl) rfl rfl (Nat.le_of_ble_eq_true rfl) dX8_point_94 rfl (fun H locs hW => ?_)
          refine z_aloadn F (pc := 97) dX8_point_97 rfl (lv_at hl 0 rfl) ?_
          refine z_get F (pc := 98) (C := RX8) (T := TX8) (N := 32) (ci := 8) inX8 hK hW 0 0 rfl rfl (by decide) rfl (List.mem_of_getElem? (i := 3) rfl) (v := .int (iI (sz + 1))) rfl dX8_point_98 ?_
          exact hret _ _ _ _ (sz + 1) ((zU xs sz x), (zU ys sz y), (zU lf sz 0), (sz + 1)) dX8_point_101 (by omega) (by try dsimp only; unfold addP; first | (left; refine ⟨by omega, rfl, rfl, rfl, rfl, rfl⟩) | (right; left; refine ⟨by omega, by omega, rfl, rfl, rfl, rfl, rfl⟩) | (right; right; refine ⟨by omega, by omega, rfl, rfl, rfl, ?_, rfl⟩; first | (rw [if_pos (by omega)]) | (rw [if_neg (by omega)]))) hW
        · skip
          refine z_aloadn F (pc := 74) dX8_point_74 rfl (lv_at hl 0 rfl) ?_
          refine z_get F (pc := 75) (C := RX8) (T := TX8) (N := 32) (ci := 8) inX8 hK hW 0 0 rfl rfl (by decide) rfl (List.mem_of_getElem? (i := 3) rfl) (v := .int (iI sz)) rfl dX8_point_75 ?_
          refine z_if_le F (pc := 78) 85 dX8_point_78 (by decide) (by omega) (fun c_78 => ?_) (fun c_78 => ?_)
          · skip
            refine z_iconst F (pc := 85) (0) dX8_point_85 ?_
            refine z_zast F (pc := 86) hK hW (ws' := wR cI cZ aR (zU xs sz x) (zU ys sz y) (zU lf sz 0) ev nm lb kd pt so nu al ak ap he le rw cx cr cl ll tl ts tc sz mn ac en mg ln cn wc wp) 3 rfl (by decide) dX8_point_86 (by omega) (by omega) rfl (fun H locs hW => ?_)
            refine z_aloadn F (pc := 87) dX8_point_87 rfl (lv_at hl 0 rfl) ?_
            refine z_dup F (pc := 88) dX8_point_88 rfl ?_
            refine z_get F (pc := 89) (C := RX8) (T := TX8) (N := 32) (ci := 8) inX8 hK hW 0 0 rfl rfl (by decide) rfl (List.mem_of_getElem? (i := 3) rfl) (v := .int (iI sz)) rfl dX8_point_89 ?_
            refine z_iconst F (pc := 92) (1) dX8_point_92 ?_
            refine z_iadd F (pc := 93) dX8_point_93 ?_
            refine z_put F (pc := 94) (C := RX8) (T := TX8) (N := 32) (ci := 8) inX8 tyX8 tyX8_ok nmX8 hK hW (ws' := wR cI cZ aR (zU xs sz x) (zU ys sz y) (zU lf sz 0) ev nm lb kd pt so nu al ak ap he le rw cx cr cl ll tl ts tc (sz + 1) mn ac en mg ln cn wc wp) 0 0 rfl rfl (by decide) rfl (List.mem_of_getElem? (i := 3) rfl) rfl rfl (Nat.le_of_ble_eq_true rfl) dX8_point_94 rfl (fun H locs hW => ?_)
            refine z_aloadn F (pc := 97) dX8_point_97 rfl (lv_at hl 0 rfl) ?_
            refine z_get F (pc := 98) (C := RX8) (T := TX8) (N := 32) (ci := 8) inX8 hK hW 0 0 rfl rfl (by decide) rfl (List.mem_of_getElem? (i := 3) rfl) (v := .int (iI (sz + 1))) rfl dX8_point_98 ?_
            exact hret _ _ _ _ (sz + 1) ((zU xs sz x), (zU ys sz y), (zU lf sz 0), (sz + 1)) dX8_point_101 (by omega) (by try dsimp only; unfold addP; first | (left; refine ⟨by omega, rfl, rfl, rfl, rfl, rfl⟩) | (right; left; refine ⟨by omega, by omega, rfl, rfl, rfl, rfl, rfl⟩) | (right; right; refine ⟨by omega, by omega, rfl, rfl, rfl, ?_, rfl⟩; first | (rw [if_pos (by omega)]) | (rw [if_neg (by omega)]))) hW
          · skip
            refine z_iconst F (pc := 81) (1) dX8_point_81 ?_
            refine z_goto F (pc := 82) 86 dX8_point_82 (by decide) ?_
            refine z_zast F (pc := 86) hK hW (ws' := wR cI cZ aR (zU xs sz x) (zU ys sz y) (zU lf sz 1) ev nm lb kd pt so nu al ak ap he le rw cx cr cl ll tl ts tc sz mn ac en mg ln cn wc wp) 3 rfl (by decide) dX8_point_86 (by omega) (by omega) rfl (fun H locs hW => ?_)
            refine z_aloadn F (pc := 87) dX8_point_87 rfl (lv_at hl 0 rfl) ?_
            refine z_dup F (pc := 88) dX8_point_88 rfl ?_
            refine z_get F (pc := 89) (C := RX8) (T := TX8) (N := 32) (ci := 8) inX8 hK hW 0 0 rfl rfl (by decide) rfl (List.mem_of_getElem? (i := 3) rfl) (v := .int (iI sz)) rfl dX8_point_89 ?_
            refine z_iconst F (pc := 92) (1) dX8_point_92 ?_
            refine z_iadd F (pc := 93) dX8_point_93 ?_
            refine z_put F (pc := 94) (C := RX8) (T := TX8) (N := 32) (ci := 8) inX8 tyX8 tyX8_ok nmX8 hK hW (ws' := wR cI cZ aR (zU xs sz x) (zU ys sz y) (zU lf sz 1) ev nm lb kd pt so nu al ak ap he le rw cx cr cl ll tl ts tc (sz + 1) mn ac en mg ln cn wc wp) 0 0 rfl rfl (by decide) rfl (List.mem_of_getElem? (i := 3) rfl) rfl rfl (Nat.le_of_ble_eq_true rfl) dX8_point_94 rfl (fun H locs hW => ?_)
            refine z_aloadn F (pc := 97) dX8_point_97 rfl (lv_at hl 0 rfl) ?_
            refine z_get F (pc := 98) (C := RX8) (T := TX8) (N := 32) (ci := 8) inX8 hK hW 0 0 rfl rfl (by decide) rfl (List.mem_of_getElem? (i := 3) rfl) (v := .int (iI (sz + 1))) rfl dX8_point_98 ?_
            exact hret _ _ _ _ (sz + 1) ((zU xs sz x), (zU ys sz y), (zU lf sz 1), (sz + 1)) dX8_point_101 (by omega) (by try dsimp only; unfold addP; first | (left; refine ⟨by omega, rfl, rfl, rfl, rfl, rfl⟩) | (right; left; refine ⟨by omega, by omega, rfl, rfl, rfl, rfl, rfl⟩) | (right; right; refine ⟨by omega, by omega, rfl, rfl, rfl, ?_, rfl⟩; first | (rw [if_pos (by omega)]) | (rw [if_neg (by omega)]))) hW
      · skip
        refine z_bipush F (pc := 39) (-3) (by decide +kernel) dX8_point_39 ?_
        exact hret _ _ _ _ (-3) (xs, ys, lf, sz) dX8_point_41 (by omega) (by try dsimp only; unfold addP; first | (left; refine ⟨by omega, rfl, rfl, rfl, rfl, rfl⟩) | (right; left; refine ⟨by omega, by omega, rfl, rfl, rfl, rfl, rfl⟩) | (right; right; refine ⟨by omega, by omega, rfl, rfl, rfl, ?_, rfl⟩; first | (rw [if_pos (by omega)]) | (rw [if_neg (by omega)]))) hW
    · skip
      have b_25 := zB_f hp_22 c_25
      refine z_iconst F (pc := 28) (-1) dX8_point_28 ?_
      exact hret _ _ _ _ (-1) (xs, ys, lf, sz) dX8_point_29 (by omega) (by try dsimp only; unfold addP; first | (left; refine ⟨by omega, rfl, rfl, rfl, rfl, rfl⟩) | (right; left; refine ⟨by omega, by omega, rfl, rfl, rfl, rfl, rfl⟩) | (right; right; refine ⟨by omega, by omega, rfl, rfl, rfl, ?_, rfl⟩; first | (rw [if_pos (by omega)]) | (rw [if_neg (by omega)]))) hW

set_option maxHeartbeats 4000000 in
set_option maxRecDepth 100000 in
theorem c_X8_clear (l : Launch) (D : va_G) (cI cZ : ClassId) (aR : Nat → Nat) (xs ys lf ev nm lb kd pt so nu al ak ap he le rw cx cr cl ll tl ts tc : Int → Int) (sz mn ac en mg ln cn wc wp : Int) (sz0 : Nat) (hd : 0 ≤ sz ∧ sz ≤ 30) : Met l yX8_clear wsX8_clear ({ frames := 0, cells := 0, slots := 0, locals := 0 } : Room) (zPc D cI cZ [.ref (aR 0)] (wR cI cZ aR xs ys lf ev nm lb kd pt so nu al ak ap he le rw cx cr cl ll tl ts tc sz mn ac en mg ln cn wc wp) sz0) (zQi D cI cZ (wR cI cZ aR xs ys lf ev nm lb kd pt so nu al ak ap he le rw cx cr cl ll tl ts tc sz mn ac en mg ln cn wc wp) sz0 (fun (r : Int) (u : (Int)) => (r = sz) ∧ (u = 0)) (fun (u : (Int)) => wR cI cZ aR xs ys lf ev nm lb kd pt so nu al ak ap he le rw cx cr cl ll tl ts tc u mn ac en mg ln cn wc wp)) 0 0 (va_A (wR cI cZ aR xs ys lf ev nm lb kd pt so nu al ak ap he le rw cx cr cl ll tl ts tc sz mn ac en mg ln cn wc wp) sz0) := by
  refine z_ofI (maxL := 2) (plainFor_of_name (by decide)) rfl (Nat.le_of_ble_eq_true rfl) (Or.inl rfl) ?_
  intro p e s m below meth c A ls Q F hK hW hA hl hret
  have hl : lv_has ls 2 [(0, .ref (aR 0))] := hl
  have inX8 : ∀ w ∈ u_ws RX8 TX8 32, w ∈ wsX8_clear := fun _ h => List.mem_cons_of_mem _ (List.mem_append_right _ h)
  refine z_aloadn F (pc := 0) dX8_clear_0 rfl (lv_at hl 0 rfl) ?_
  refine z_get F (pc := 1) (C := RX8) (T := TX8) (N := 32) (ci := 8) inX8 hK hW 0 0 rfl rfl (by decide) rfl (List.mem_of_getElem? (i := 1) rfl) (v := .int (iI sz)) rfl dX8_clear_1 ?_
  refine z_istoren F (pc := 4) hl (lv' := [(1, .int (iI sz)), (0, .ref (aR 0))]) dX8_clear_4 rfl (by decide) rfl (fun ls hl => ?_)
  refine z_aloadn F (pc := 5) dX8_clear_5 rfl (lv_at hl 1 rfl) ?_
  refine z_iconst F (pc := 6) (0) dX8_clear_6 ?_
  refine z_put F (pc := 7) (C := RX8) (T := TX8) (N := 32) (ci := 8) inX8 tyX8 tyX8_ok nmX8 hK hW (ws' := wR cI cZ aR xs ys lf ev nm lb kd pt so nu al ak ap he le rw cx cr cl ll tl ts tc 0 mn ac en mg ln cn wc wp) 0 0 rfl rfl (by decide) rfl (List.mem_of_getElem? (i := 1) rfl) rfl rfl (Nat.le_of_ble_eq_true rfl) dX8_clear_7 rfl (fun H locs hW => ?_)
  refine z_iloadn F (pc := 10) dX8_clear_10 rfl (lv_at hl 0 rfl) ?_
  exact hret _ _ _ _ sz 0 dX8_clear_11 (by omega) (by exact ⟨rfl, rfl⟩) hW

set_option maxHeartbeats 4000000 in
set_option maxRecDepth 100000 in
theorem c_X8_drawn (l : Launch) (D : va_G) (cI cZ : ClassId) (aR : Nat → Nat) (xs ys lf ev nm lb kd pt so nu al ak ap he le rw cx cr cl ll tl ts tc : Int → Int) (sz mn ac en mg ln cn wc wp : Int) (q : Int) (sz0 : Nat) (r_q : (-2147483648 ≤ q ∧ q < 2147483648)) (hd : Dok xs ys lf sz) (hq : 0 ≤ q ∧ q < sz) : Met l yX8_drawn wsX8_drawn ({ frames := 1, cells := 0, slots := 0, locals := 20 } : Room) (zPc D cI cZ [.ref (aR 0), .int (iI q)] (wR cI cZ aR xs ys lf ev nm lb kd pt so nu al ak ap he le rw cx cr cl ll tl ts tc sz mn ac en mg ln cn wc wp) sz0) (zQi D cI cZ (wR cI cZ aR xs ys lf ev nm lb kd pt so nu al ak ap he le rw cx cr cl ll tl ts tc sz mn ac en mg ln cn wc wp) sz0 (fun (r : Int) (u : Unit) => r = dz xs ys lf q) (fun (u : Unit) => wR cI cZ aR xs ys lf ev nm lb kd pt so nu al ak ap he le rw cx cr cl ll tl ts tc sz mn ac en mg ln cn wc wp)) 0 0 (va_A (wR cI cZ aR xs ys lf ev nm lb kd pt so nu al ak ap he le rw cx cr cl ll tl ts tc sz mn ac en mg ln cn wc wp) sz0) := by
  have ha := Dok_at hd (j := q) (by omega) hq.2
  have hs := hd.1
  have hr := dz_rng hd hq.1 hq.2
  refine z_ofI (maxL := 2) (plainFor_of_name (by decide)) rfl (Nat.le_of_ble_eq_true rfl) (Or.inl rfl) ?_
  intro p e s m below meth c A ls Q F hK hW hA hl hret
  have hl : lv_has ls 2 [(0, .ref (aR 0)), (1, .int (iI q))] := hl
  have inX8 : ∀ w ∈ u_ws RX8 TX8 32, w ∈ wsX8_drawn := fun _ h => List.mem_cons_of_mem _ (List.mem_append_right _ h)
  refine z_iloadn F (pc := 0) dX8_drawn_0 rfl (lv_at hl 1 rfl) ?_
  refine z_if_eq F (pc := 1) 13 dX8_drawn_1 (by decide) (by omega) (fun c_1 => ?_) (fun c_1 => ?_)
  · skip
    refine z_iconst F (pc := 13) (0) dX8_drawn_13 ?_
    refine z_goto F (pc := 14) 54 dX8_drawn_14 (by decide) ?_
    exact hret _ _ _ _ 0 () dX8_drawn_54 (by omega) (by unfold dz dr; first | (rw [if_pos (by omega)]; done) | (rw [if_neg c_1, if_pos (by omega)]) | (rw [if_neg c_1, if_neg (by omega)])) hW
  · skip
    refine z_aloadn F (pc := 4) dX8_drawn_4 rfl (lv_at hl 0 rfl) ?_
    refine z_get F (pc := 5) (C := RX8) (T := TX8) (N := 32) (ci := 8) inX8 hK hW 0 3 rfl rfl (by decide) rfl (List.mem_of_getElem? (i := 1) rfl) (v := .ref (aR 3)) rfl dX8_drawn_5 ?_
    refine z_iloadn F (pc := 8) dX8_drawn_8 rfl (lv_at hl 1 rfl) ?_
    refine z_zald F (pc := 9) hK hW 3 rfl (by decide) dX8_drawn_9 (by omega) ?_
    refine z_if_eq F (pc := 10) 17 dX8_drawn_10 (by decide) (by omega) (fun c_10 => ?_) (fun c_10 => ?_)
    · skip
      have hb := Dok_at hd (j := q - 1) (by omega) (by omega)
      refine z_aloadn F (pc := 17) dX8_drawn_17 rfl (lv_at hl 0 rfl) ?_
      refine z_get F (pc := 18) (C := RX8) (T := TX8) (N := 32) (ci := 8) inX8 hK hW 0 1 rfl rfl (by decide) rfl (List.mem_of_getElem? (i := 2) rfl) (v := .ref (aR 1)) rfl dX8_drawn_18 ?_
      refine z_iloadn F (pc := 21) dX8_drawn_21 rfl (lv_at hl 1 rfl) ?_
      refine z_iald F (pc := 22) hK hW 1 rfl (by decide) dX8_drawn_22 (by omega) ?_
      refine z_aloadn F (pc := 23) dX8_drawn_23 rfl (lv_at hl 0 rfl) ?_
      refine z_get F (pc := 24) (C := RX8) (T := TX8) (N := 32) (ci := 8) inX8 hK hW 0 1 rfl rfl (by decide) rfl (List.mem_of_getElem? (i := 2) rfl) (v := .ref (aR 1)) rfl dX8_drawn_24 ?_
      refine z_iloadn F (pc := 27) dX8_drawn_27 rfl (lv_at hl 1 rfl) ?_
      refine z_iconst F (pc := 28) (1) dX8_drawn_28 ?_
      refine z_isub F (pc := 29) dX8_drawn_29 ?_
      refine z_iald F (pc := 30) hK hW 1 rfl (by decide) dX8_drawn_30 (by omega) ?_
      refine z_isub F (pc := 31) dX8_drawn_31 ?_
      refine z_callSi F (pc := 32) hK hW hA (As := [.int (iI ((xs q) - (xs (q - 1))))]) (rest := []) (c_X8_plain l D cI cZ ((xs q) - (xs (q - 1))) _ (by omega) (by omega)) (va_cwS 1 F.2.2.2.2 gX8_drawn_X8_plain rfl rfl rfl (by decide +kernel) ⟨Nat.le_of_ble_eq_true rfl, Nat.le_of_ble_eq_true rfl⟩) rfl rfl hl.1 (Nat.le_of_ble_eq_true rfl) dX8_drawn_32 ⟨Nat.le_of_ble_eq_true rfl, Nat.le_of_ble_eq_true rfl⟩ (fun z_32 H locs r_z_32 hp_32 hW => ?_)
      subst hp_32
      refine z_aloadn F (pc := 35) dX8_drawn_35 rfl (lv_at hl 0 rfl) ?_
      refine z_get F (pc := 36) (C := RX8) (T := TX8) (N := 32) (ci := 8) inX8 hK hW 0 2 rfl rfl (by decide) rfl (List.mem_of_getElem? (i := 3) rfl) (v := .ref (aR 2)) rfl dX8_drawn_36 ?_
      refine z_iloadn F (pc := 39) dX8_drawn_39 rfl (lv_at hl 1 rfl) ?_
      refine z_iald F (pc := 40) hK hW 2 rfl (by decide) dX8_drawn_40 (by omega) ?_
      refine z_aloadn F (pc := 41) dX8_drawn_41 rfl (lv_at hl 0 rfl) ?_
      refine z_get F (pc := 42) (C := RX8) (T := TX8) (N := 32) (ci := 8) inX8 hK hW 0 2 rfl rfl (by decide) rfl (List.mem_of_getElem? (i := 3) rfl) (v := .ref (aR 2)) rfl dX8_drawn_42 ?_
      refine z_iloadn F (pc := 45) dX8_drawn_45 rfl (lv_at hl 1 rfl) ?_
      refine z_iconst F (pc := 46) (1) dX8_drawn_46 ?_
      refine z_isub F (pc := 47) dX8_drawn_47 ?_
      refine z_iald F (pc := 48) hK hW 2 rfl (by decide) dX8_drawn_48 (by omega) ?_
      refine z_isub F (pc := 49) dX8_drawn_49 ?_
      refine z_callSi F (pc := 50) hK hW hA (As := [.int (iI ((ys q) - (ys (q - 1))))]) (rest := [.int (iI ((((xs q) - (xs (q - 1))).natAbs : Nat) : Int))]) (c_X8_plain l D cI cZ ((ys q) - (ys (q - 1))) _ (by omega) (by omega)) (va_cwS 1 F.2.2.2.2 gX8_drawn_X8_plain rfl rfl rfl (by decide +kernel) ⟨Nat.le_of_ble_eq_true rfl, Nat.le_of_ble_eq_true rfl⟩) rfl rfl hl.1 (Nat.le_of_ble_eq_true rfl) dX8_drawn_50 ⟨Nat.le_of_ble_eq_true rfl, Nat.le_of_ble_eq_true rfl⟩ (fun z_50 H locs r_z_50 hp_50 hW => ?_)
      subst hp_50
      refine z_iadd F (pc := 53) dX8_drawn_53 ?_
      exact hret _ _ _ _ (((((xs q) - (xs (q - 1))).natAbs : Nat) : Int) + ((((ys q) - (ys (q - 1))).natAbs : Nat) : Int)) () dX8_drawn_54 (by omega) (by unfold dz dr; first | (rw [if_pos (by omega)]; done) | (rw [if_neg c_1, if_pos (by omega)]) | (rw [if_neg c_1, if_neg (by omega)])) hW
    · skip
      refine z_iconst F (pc := 13) (0) dX8_drawn_13 ?_
      refine z_goto F (pc := 14) 54 dX8_drawn_14 (by decide) ?_
      exact hret _ _ _ _ 0 () dX8_drawn_54 (by omega) (by unfold dz dr; first | (rw [if_pos (by omega)]; done) | (rw [if_neg c_1, if_pos (by omega)]) | (rw [if_neg c_1, if_neg (by omega)])) hW

set_option maxHeartbeats 4000000 in
set_option maxRecDepth 100000 in
theorem c_X8_drawn1 (l : Launch) (D : va_G) (cI cZ : ClassId) (aR : Nat → Nat) (xs ys lf ev nm lb kd pt so nu al ak ap he le rw cx cr cl ll tl ts tc : Int → Int) (sz mn ac en mg ln cn wc wp : Int) (q : Int) (sz0 : Nat) (r_q : (-2147483648 ≤ q ∧ q < 2147483648)) (hd : Dok xs ys lf sz) (hq : 1 ≤ q ∧ q < sz) : Met l yX8_drawn wsX8_drawn ({ frames := 1, cells := 0, slots := 0, locals := 20 } : Room) (zPc D cI cZ [.ref (aR 0), .int (iI q)] (wR cI cZ aR xs ys lf ev nm lb kd pt so nu al ak ap he le rw cx cr cl ll tl ts tc sz mn ac en mg ln cn wc wp) sz0) (zQi D cI cZ (wR cI cZ aR xs ys lf ev nm lb kd pt so nu al ak ap he le rw cx cr cl ll tl ts tc sz mn ac en mg ln cn wc wp) sz0 (fun (r : Int) (u : Unit) => r = dr xs ys lf q) (fun (u : Unit) => wR cI cZ aR xs ys lf ev nm lb kd pt so nu al ak ap he le rw cx cr cl ll tl ts tc sz mn ac en mg ln cn wc wp)) 0 0 (va_A (wR cI cZ aR xs ys lf ev nm lb kd pt so nu al ak ap he le rw cx cr cl ll tl ts tc sz mn ac en mg ln cn wc wp) sz0) := by
  have ha := Dok_at hd (j := q) (by omega) hq.2
  have hs := hd.1
  have hr := dr_rng hd hq.1 hq.2
  refine z_ofI (maxL := 2) (plainFor_of_name (by decide)) rfl (Nat.le_of_ble_eq_true rfl) (Or.inl rfl) ?_
  intro p e s m below meth c A ls Q F hK hW hA hl hret
  have hl : lv_has ls 2 [(0, .ref (aR 0)), (1, .int (iI q))] := hl
  have inX8 : ∀ w ∈ u_ws RX8 TX8 32, w ∈ wsX8_drawn := fun _ h => List.mem_cons_of_mem _ (List.mem_append_right _ h)
  refine z_iloadn F (pc := 0) dX8_drawn_0 rfl (lv_at hl 1 rfl) ?_
  refine z_if_eq F (pc := 1) 13 dX8_drawn_1 (by decide) (by omega) (fun c_1 => ?_) (fun c_1 => ?_)
  · skip
    exact absurd c_1 (by omega)
  · skip
    refine z_aloadn F (pc := 4) dX8_drawn_4 rfl (lv_at hl 0 rfl) ?_
    refine z_get F (pc := 5) (C := RX8) (T := TX8) (N := 32) (ci := 8) inX8 hK hW 0 3 rfl rfl (by decide) rfl (List.mem_of_getElem? (i := 1) rfl) (v := .ref (aR 3)) rfl dX8_drawn_5 ?_
    refine z_iloadn F (pc := 8) dX8_drawn_8 rfl (lv_at hl 1 rfl) ?_
    refine z_zald F (pc := 9) hK hW 3 rfl (by decide) dX8_drawn_9 (by omega) ?_
    refine z_if_eq F (pc := 10) 17 dX8_drawn_10 (by decide) (by omega) (fun c_10 => ?_) (fun c_10 => ?_)
    · skip
      have hb := Dok_at hd (j := q - 1) (by omega) (by omega)
      refine z_aloadn F (pc := 17) dX8_drawn_17 rfl (lv_at hl 0 rfl) ?_
      refine z_get F (pc := 18) (C := RX8) (T := TX8) (N := 32) (ci := 8) inX8 hK hW 0 1 rfl rfl (by decide) rfl (List.mem_of_getElem? (i := 2) rfl) (v := .ref (aR 1)) rfl dX8_drawn_18 ?_
      refine z_iloadn F (pc := 21) dX8_drawn_21 rfl (lv_at hl 1 rfl) ?_
      refine z_iald F (pc := 22) hK hW 1 rfl (by decide) dX8_drawn_22 (by omega) ?_
      refine z_aloadn F (pc := 23) dX8_drawn_23 rfl (lv_at hl 0 rfl) ?_
      refine z_get F (pc := 24) (C := RX8) (T := TX8) (N := 32) (ci := 8) inX8 hK hW 0 1 rfl rfl (by decide) rfl (List.mem_of_getElem? (i := 2) rfl) (v := .ref (aR 1)) rfl dX8_drawn_24 ?_
      refine z_iloadn F (pc := 27) dX8_drawn_27 rfl (lv_at hl 1 rfl) ?_
      refine z_iconst F (pc := 28) (1) dX8_drawn_28 ?_
      refine z_isub F (pc := 29) dX8_drawn_29 ?_
      refine z_iald F (pc := 30) hK hW 1 rfl (by decide) dX8_drawn_30 (by omega) ?_
      refine z_isub F (pc := 31) dX8_drawn_31 ?_
      refine z_callSi F (pc := 32) hK hW hA (As := [.int (iI ((xs q) - (xs (q - 1))))]) (rest := []) (c_X8_plain l D cI cZ ((xs q) - (xs (q - 1))) _ (by omega) (by omega)) (va_cwS 1 F.2.2.2.2 gX8_drawn_X8_plain rfl rfl rfl (by decide +kernel) ⟨Nat.le_of_ble_eq_true rfl, Nat.le_of_ble_eq_true rfl⟩) rfl rfl hl.1 (Nat.le_of_ble_eq_true rfl) dX8_drawn_32 ⟨Nat.le_of_ble_eq_true rfl, Nat.le_of_ble_eq_true rfl⟩ (fun z_32 H locs r_z_32 hp_32 hW => ?_)
      subst hp_32
      refine z_aloadn F (pc := 35) dX8_drawn_35 rfl (lv_at hl 0 rfl) ?_
      refine z_get F (pc := 36) (C := RX8) (T := TX8) (N := 32) (ci := 8) inX8 hK hW 0 2 rfl rfl (by decide) rfl (List.mem_of_getElem? (i := 3) rfl) (v := .ref (aR 2)) rfl dX8_drawn_36 ?_
      refine z_iloadn F (pc := 39) dX8_drawn_39 rfl (lv_at hl 1 rfl) ?_
      refine z_iald F (pc := 40) hK hW 2 rfl (by decide) dX8_drawn_40 (by omega) ?_
      refine z_aloadn F (pc := 41) dX8_drawn_41 rfl (lv_at hl 0 rfl) ?_
      refine z_get F (pc := 42) (C := RX8) (T := TX8) (N := 32) (ci := 8) inX8 hK hW 0 2 rfl rfl (by decide) rfl (List.mem_of_getElem? (i := 3) rfl) (v := .ref (aR 2)) rfl dX8_drawn_42 ?_
      refine z_iloadn F (pc := 45) dX8_drawn_45 rfl (lv_at hl 1 rfl) ?_
      refine z_iconst F (pc := 46) (1) dX8_drawn_46 ?_
      refine z_isub F (pc := 47) dX8_drawn_47 ?_
      refine z_iald F (pc := 48) hK hW 2 rfl (by decide) dX8_drawn_48 (by omega) ?_
      refine z_isub F (pc := 49) dX8_drawn_49 ?_
      refine z_callSi F (pc := 50) hK hW hA (As := [.int (iI ((ys q) - (ys (q - 1))))]) (rest := [.int (iI ((((xs q) - (xs (q - 1))).natAbs : Nat) : Int))]) (c_X8_plain l D cI cZ ((ys q) - (ys (q - 1))) _ (by omega) (by omega)) (va_cwS 1 F.2.2.2.2 gX8_drawn_X8_plain rfl rfl rfl (by decide +kernel) ⟨Nat.le_of_ble_eq_true rfl, Nat.le_of_ble_eq_true rfl⟩) rfl rfl hl.1 (Nat.le_of_ble_eq_true rfl) dX8_drawn_50 ⟨Nat.le_of_ble_eq_true rfl, Nat.le_of_ble_eq_true rfl⟩ (fun z_50 H locs r_z_50 hp_50 hW => ?_)
      subst hp_50
      refine z_iadd F (pc := 53) dX8_drawn_53 ?_
      exact hret _ _ _ _ (((((xs q) - (xs (q - 1))).natAbs : Nat) : Int) + ((((ys q) - (ys (q - 1))).natAbs : Nat) : Int)) () dX8_drawn_54 (by omega) (by unfold dr; first | (rw [if_pos (by omega)]) | (rw [if_neg (by omega)])) hW
    · skip
      refine z_iconst F (pc := 13) (0) dX8_drawn_13 ?_
      refine z_goto F (pc := 14) 54 dX8_drawn_14 (by decide) ?_
      exact hret _ _ _ _ 0 () dX8_drawn_54 (by omega) (by unfold dr; first | (rw [if_pos (by omega)]) | (rw [if_neg (by omega)])) hW

set_option maxHeartbeats 4000000 in
set_option maxRecDepth 100000 in
theorem c_X8_way (l : Launch) (D : va_G) (cI cZ : ClassId) (aR : Nat → Nat) (xs ys lf ev nm lb kd pt so nu al ak ap he le rw cx cr cl ll tl ts tc : Int → Int) (sz mn ac en mg ln cn wc wp : Int) (sz0 : Nat) (hd : Dok xs ys lf sz) : Met l yX8_way wsX8_way ({ frames := 2, cells := 0, slots := 0, locals := 41 } : Room) (zPc D cI cZ [.ref (aR 0)] (wR cI cZ aR xs ys lf ev nm lb kd pt so nu al ak ap he le rw cx cr cl ll tl ts tc sz mn ac en mg ln cn wc wp) sz0) (zQi D cI cZ (wR cI cZ aR xs ys lf ev nm lb kd pt so nu al ak ap he le rw cx cr cl ll tl ts tc sz mn ac en mg ln cn wc wp) sz0 (fun (r : Int) (u : Unit) => r = wy xs ys lf sz) (fun (u : Unit) => wR cI cZ aR xs ys lf ev nm lb kd pt so nu al ak ap he le rw cx cr cl ll tl ts tc sz mn ac en mg ln cn wc wp)) 0 0 (va_A (wR cI cZ aR xs ys lf ev nm lb kd pt so nu al ak ap he le rw cx cr cl ll tl ts tc sz mn ac en mg ln cn wc wp) sz0) := by
  have hs := hd.1
  refine z_ofI (maxL := 3) (plainFor_of_name (by decide)) rfl (Nat.le_of_ble_eq_true rfl) (Or.inl rfl) ?_
  intro p e s m below meth c A ls Q F hK hW hA hl hret
  have hl : lv_has ls 3 [(0, .ref (aR 0))] := hl
  have inX8 : ∀ w ∈ u_ws RX8 TX8 32, w ∈ wsX8_way := fun _ h => List.mem_cons_of_mem _ (List.mem_append_right _ h)
  refine z_iconst F (pc := 0) (0) dX8_way_0 ?_
  refine z_istoren F (pc := 1) hl (lv' := [(1, .int (iI 0)), (0, .ref (aR 0))]) dX8_way_1 rfl (by decide) rfl (fun ls hl => ?_)
  refine z_iconst F (pc := 2) (0) dX8_way_2 ?_
  refine z_istoren F (pc := 3) hl (lv' := [(2, .int (iI 0)), (1, .int (iI 0)), (0, .ref (aR 0))]) dX8_way_3 rfl (by decide) rfl (fun ls hl => ?_)
  have cut_4 : ∀ (k : Nat) (sm : Int) (q : Int) (H : Heap) (locs : List Loc) (ls : Array Slot), (sz - q).toNat < k → (0 ≤ q ∧ q ≤ sz) → (sm = wy xs ys lf q) → lv_has ls 3 [(2, .int (iI q)), (1, .int (iI sm)), (0, .ref (aR 0))] → zW D A s.heap H locs (wR cI cZ aR xs ys lf ev nm lb kd pt so nu al ak ap he le rw cx cr cl ll tl ts tc sz mn ac en mg ln cn wc wp) → W p l e ({ frames := 2, cells := 0, slots := 0, locals := 41 } : Room) s m ([.ref (aR 0)] : List Value).toArray below meth c H locs 0 0 Q (F0 m 4 ls []) := by
    intro k
    induction k with
    | zero => intro sm q H locs ls hm; exact absurd hm (Nat.not_lt_zero _)
    | succ k ih_4 =>
      intro sm q H locs ls hm_4 h1 h2 hl hW
      refine z_iloadn F (pc := 4) dX8_way_4 rfl (lv_at hl 0 rfl) ?_
      refine z_aloadn F (pc := 5) dX8_way_5 rfl (lv_at hl 2 rfl) ?_
      refine z_get F (pc := 6) (C := RX8) (T := TX8) (N := 32) (ci := 8) inX8 hK hW 0 0 rfl rfl (by decide) rfl (List.mem_of_getElem? (i := 1) rfl) (v := .int (iI sz)) rfl dX8_way_6 ?_
      refine z_icmp_ge F (pc := 9) 26 dX8_way_9 (by decide) (by omega) (fun c_9 => ?_) (fun c_9 => ?_)
      · skip
        have ex : sm = wy xs ys lf sz := by rw [h2, show q = sz by omega]
        have hw := wy_r hd (q := sz) (Int.le_refl _)
        refine z_iloadn F (pc := 26) dX8_way_26 rfl (lv_at hl 1 rfl) ?_
        exact hret _ _ _ _ sm () dX8_way_27 (by omega) (by exact ex) hW
      · skip
        refine z_iloadn F (pc := 12) dX8_way_12 rfl (lv_at hl 1 rfl) ?_
        refine z_aloadn F (pc := 13) dX8_way_13 rfl (lv_at hl 2 rfl) ?_
        refine z_iloadn F (pc := 14) dX8_way_14 rfl (lv_at hl 0 rfl) ?_
        refine z_callVi F (pc := 15) hK hW hA (As := [.int (iI q)]) (rest := [.int (iI sm)]) (ws' := fun (u : Unit) => wR cI cZ aR xs ys lf ev nm lb kd pt so nu al ak ap he le rw cx cr cl ll tl ts tc sz mn ac en mg ln cn wc wp) (wr := ([])) (c_X8_drawn l D cI cZ aR xs ys lf ev nm lb kd pt so nu al ak ap he le rw cx cr cl ll tl ts tc sz mn ac en mg ln cn wc wp q _ (by omega) (by exact hd) (by omega)) (cwV 1 F.2.2.2.2 gX8_way_X8_drawn rfl rfl rfl (by decide +kernel) ⟨Nat.le_of_ble_eq_true rfl, Nat.le_of_ble_eq_true rfl⟩) [0, 1, 2, 3, 4, 5, 6, 7, 8, 9, 10, 11, 12, 13, 14, 15, 16, 17, 18, 19, 20, 21, 22, 23] [] [0, 1, 2, 3, 4, 5, 6, 7, 8, 9, 10, 11, 12, 13, 14, 15, 16, 17, 18, 19, 20, 21, 22, 23] rfl rfl (by decide) (by decide) (by decide) (fun _ => rfl) (by decide) (q0 := 0) (ci := 8) rfl rfl rfl rfl rfl hl.1 (Nat.le_of_ble_eq_true rfl) dX8_way_15 ⟨Nat.le_of_ble_eq_true rfl, Nat.le_of_ble_eq_true rfl⟩ (fun z_15 u H locs r_z_15 hp_15 hW => ?_)
        subst hp_15
        refine z_iadd F (pc := 18) dX8_way_18 ?_
        refine z_istoren F (pc := 19) hl (lv' := [(1, .int (iI (sm + (dz xs ys lf q)))), (2, .int (iI q)), (0, .ref (aR 0))]) dX8_way_19 rfl (by decide) rfl (fun ls hl => ?_)
        refine z_iinc F (pc := 20) hl (lv' := [(2, .int (iI (q + 1))), (1, .int (iI (sm + (dz xs ys lf q)))), (0, .ref (aR 0))]) dX8_way_20 (k := 1) rfl (by decide) rfl (fun ls hl => ?_)
        refine z_goto F (pc := 23) 4 dX8_way_23 (by decide) ?_
        exact ih_4 (sm + (dz xs ys lf q)) (q + 1) _ _ _ (by omega) (by omega) (by rw [wy_z xs ys lf h1.1]; omega) (lv_sub hl [0, 1, 2] rfl) hW
  exact cut_4 _ 0 0 _ _ _ (Nat.lt_succ_self _) (by omega) (by exact (wy_0 xs ys lf (by omega)).symm) (lv_sub hl [0, 1, 2] rfl) hW
end
section
set_option maxHeartbeats 4000000 in
set_option maxRecDepth 100000 in
theorem c_X8_findEvens (l : Launch) (D : va_G) (cI cZ : ClassId) (aR : Nat → Nat) (xs ys lf ev nm lb kd pt so nu al ak ap he le rw cx cr cl ll tl ts tc : Int → Int) (sz mn ac en mg ln cn wc wp : Int) (sz0 : Nat) (hd : Dok xs ys lf sz) (hw : 0 < wy xs ys lf sz) : Met l yX8_findEvens wsX8_findEvens ({ frames := 3, cells := 0, slots := 0, locals := 63 } : Room) (zPc D cI cZ [.ref (aR 0)] (wR cI cZ aR xs ys lf ev nm lb kd pt so nu al ak ap he le rw cx cr cl ll tl ts tc sz mn ac en mg ln cn wc wp) sz0) (zQv D cI cZ (wR cI cZ aR xs ys lf ev nm lb kd pt so nu al ak ap he le rw cx cr cl ll tl ts tc sz mn ac en mg ln cn wc wp) sz0 (fun (u : (Int → Int)) => Ev xs ys lf sz u) (fun (u : (Int → Int)) => wR cI cZ aR xs ys lf u nm lb kd pt so nu al ak ap he le rw cx cr cl ll tl ts tc sz mn ac en mg ln cn wc wp)) 0 0 (va_A (wR cI cZ aR xs ys lf ev nm lb kd pt so nu al ak ap he le rw cx cr cl ll tl ts tc sz mn ac en mg ln cn wc wp) sz0) := by
  have hs := hd.1
  have hww := wy_r hd (q := sz) (Int.le_refl _)
  have hsz : 1 < sz := by
    by_cases hh : 1 < sz
    · exact hh
    · have := wy_0 xs ys lf (q := sz) (by omega); omega
  refine z_ofV (maxL := 8) (plainFor_of_name (by decide)) rfl (Nat.le_of_ble_eq_true rfl) ?_
  intro p e s m below meth c A ls Q F hK hW hA hl hret
  have hl : lv_has ls 8 [(0, .ref (aR 0))] := hl
  have inX8 : ∀ w ∈ u_ws RX8 TX8 32, w ∈ wsX8_findEvens := fun _ h => List.mem_cons_of_mem _ (List.mem_append_right _ h)
  refine z_aloadn F (pc := 0) dX8_findEvens_0 rfl (lv_at hl 0 rfl) ?_
  refine z_callVi F (pc := 1) hK hW hA (As := []) (rest := []) (ws' := fun (u : Unit) => wR cI cZ aR xs ys lf ev nm lb kd pt so nu al ak ap he le rw cx cr cl ll tl ts tc sz mn ac en mg ln cn wc wp) (wr := ([])) (c_X8_way l D cI cZ aR xs ys lf ev nm lb kd pt so nu al ak ap he le rw cx cr cl ll tl ts tc sz mn ac en mg ln cn wc wp _ (by exact hd)) (cwV 0 F.2.2.2.2 gX8_findEvens_X8_way rfl rfl rfl (by decide +kernel) ⟨Nat.le_of_ble_eq_true rfl, Nat.le_of_ble_eq_true rfl⟩) [0, 1, 2, 3, 4, 5, 6, 7, 8, 9, 10, 11, 12, 13, 14, 15, 16, 17, 18, 19, 20, 21, 22, 23] [] [0, 1, 2, 3, 4, 5, 6, 7, 8, 9, 10, 11, 12, 13, 14, 15, 16, 17, 18, 19, 20, 21, 22, 23] rfl rfl (by decide) (by decide) (by decide) (fun _ => rfl) (by decide) (q0 := 0) (ci := 8) rfl rfl rfl rfl rfl hl.1 (Nat.le_of_ble_eq_true rfl) dX8_findEvens_1 ⟨Nat.le_of_ble_eq_true rfl, Nat.le_of_ble_eq_true rfl⟩ (fun z_1 u H locs r_z_1 hp_1 hW => ?_)
  subst hp_1
  refine z_istoren F (pc := 4) hl (lv' := [(1, .int (iI (wy xs ys lf sz))), (0, .ref (aR 0))]) dX8_findEvens_4 rfl (by decide) rfl (fun ls hl => ?_)
  refine z_iconst F (pc := 5) (0) dX8_findEvens_5 ?_
  refine z_istoren F (pc := 6) hl (lv' := [(2, .int (iI 0)), (1, .int (iI (wy xs ys lf sz))), (0, .ref (aR 0))]) dX8_findEvens_6 rfl (by decide) rfl (fun ls hl => ?_)
  have cut_7 : ∀ (k : Nat) (i : Int) (e1 : Int → Int) (H : Heap) (locs : List Loc) (ls : Array Slot), (8 - i).toNat < k → (0 ≤ i ∧ i ≤ 8) → (zH (∀ t, 0 ≤ t → t < i → ∃ q, isEv xs ys lf sz (t * wy xs ys lf sz) q ∧ e1 (2 * t) = pE xs ys lf xs (t * wy xs ys lf sz) q ∧ e1 (2 * t + 1) = pE xs ys lf ys (t * wy xs ys lf sz) q)) → lv_has ls 8 [(2, .int (iI i)), (1, .int (iI (wy xs ys lf sz))), (0, .ref (aR 0))] → zW D A s.heap H locs (wR cI cZ aR xs ys lf e1 nm lb kd pt so nu al ak ap he le rw cx cr cl ll tl ts tc sz mn ac en mg ln cn wc wp) → W p l e ({ frames := 3, cells := 0, slots := 0, locals := 63 } : Room) s m ([.ref (aR 0)] : List Value).toArray below meth c H locs 0 0 Q (F0 m 7 ls []) := by
    intro k
    induction k with
    | zero => intro i e1 H locs ls hm; exact absurd hm (Nat.not_lt_zero _)
    | succ k ih_7 =>
      intro i e1 H locs ls hm_7 h1 h2 hl hW
      refine z_iloadn F (pc := 7) dX8_findEvens_7 rfl (lv_at hl 0 rfl) ?_
      refine z_bipush F (pc := 8) (8) (by decide +kernel) dX8_findEvens_8 ?_
      refine z_icmp_ge F (pc := 10) 194 dX8_findEvens_10 (by decide) (by omega) (fun c_10 => ?_) (fun c_10 => ?_)
      · skip
        exact hret _ _ _ _ e1 dX8_findEvens_194 (by exact fun t t0 t1 => h2 t t0 (by omega)) hW
      · skip
        have hg : 0 ≤ i * wy xs ys lf sz ∧ i * wy xs ys lf sz ≤ 7 * wy xs ys lf sz := ⟨Int.mul_nonneg h1.1 hww.1, Int.mul_le_mul_of_nonneg_right (by omega) hww.1⟩
        refine z_iconst F (pc := 13) (0) dX8_findEvens_13 ?_
        refine z_istoren F (pc := 14) hl (lv' := [(3, .int (iI 0)), (2, .int (iI i)), (1, .int (iI (wy xs ys lf sz))), (0, .ref (aR 0))]) dX8_findEvens_14 rfl (by decide) rfl (fun ls hl => ?_)
        refine z_iconst F (pc := 15) (1) dX8_findEvens_15 ?_
        refine z_istore F (pc := 16) hl (lv' := [(4, .int (iI 1)), (3, .int (iI 0)), (2, .int (iI i)), (1, .int (iI (wy xs ys lf sz))), (0, .ref (aR 0))]) dX8_findEvens_16 (by decide) rfl (fun ls hl => ?_)
        have cut_18 : ∀ (k : Nat) (t : Int) (q : Int) (H : Heap) (locs : List Loc) (ls : Array Slot), (sz - q).toNat < k → (1 ≤ q ∧ q < sz) → (t = wy xs ys lf q) → (7 * wy xs ys lf q < i * wy xs ys lf sz ∨ wy xs ys lf q = 0) → (∀ j, 1 ≤ j → j < q → ¬ (0 < dr xs ys lf j ∧ i * wy xs ys lf sz ≤ 7 * wy xs ys lf j + 7 * dr xs ys lf j)) → lv_has ls 8 [(4, .int (iI q)), (3, .int (iI t)), (2, .int (iI i)), (1, .int (iI (wy xs ys lf sz))), (0, .ref (aR 0))] → zW D A s.heap H locs (wR cI cZ aR xs ys lf e1 nm lb kd pt so nu al ak ap he le rw cx cr cl ll tl ts tc sz mn ac en mg ln cn wc wp) → W p l e ({ frames := 3, cells := 0, slots := 0, locals := 63 } : Room) s m ([.ref (aR 0)] : List Value).toArray below meth c H locs 0 0 Q (F0 m 18 ls []) := by
          intro k
          induction k with
          | zero => intro t q H locs ls hm; exact absurd hm (Nat.not_lt_zero _)
          | succ k ih_18 =>
            intro t q H locs ls hm_18 g1 g2 g3 g4 hl hW
            have hr := dr_rng hd g1.1 g1.2
            have hw3 := wy_r hd (q := q) (by omega)
            have hws := wy_s xs ys lf g1.1
            have ha := Dok_at hd (j := q) (by omega) (by omega)
            have hb := Dok_at hd (j := q - 1) (by omega) (by omega)
            refine z_aloadn F (pc := 18) dX8_findEvens_18 rfl (lv_at hl 4 rfl) ?_
            refine z_iload F (pc := 19) dX8_findEvens_19 (lv_at hl 0 rfl) ?_
            refine z_callVi F (pc := 21) hK hW hA (As := [.int (iI q)]) (rest := []) (ws' := fun (u : Unit) => wR cI cZ aR xs ys lf e1 nm lb kd pt so nu al ak ap he le rw cx cr cl ll tl ts tc sz mn ac en mg ln cn wc wp) (wr := ([])) (c_X8_drawn1 l D cI cZ aR xs ys lf e1 nm lb kd pt so nu al ak ap he le rw cx cr cl ll tl ts tc sz mn ac en mg ln cn wc wp q _ (by omega) (by exact hd) (by omega)) (cwV 1 F.2.2.2.2 gX8_findEvens_X8_drawn rfl rfl rfl (by decide +kernel) ⟨Nat.le_of_ble_eq_true rfl, Nat.le_of_ble_eq_true rfl⟩) [0, 1, 2, 3, 4, 5, 6, 7, 8, 9, 10, 11, 12, 13, 14, 15, 16, 17, 18, 19, 20, 21, 22, 23] [] [0, 1, 2, 3, 4, 5, 6, 7, 8, 9, 10, 11, 12, 13, 14, 15, 16, 17, 18, 19, 20, 21, 22, 23] rfl rfl (by decide) (by decide) (by decide) (fun _ => rfl) (by decide) (q0 := 0) (ci := 8) rfl rfl rfl rfl rfl hl.1 (Nat.le_of_ble_eq_true rfl) dX8_findEvens_21 ⟨Nat.le_of_ble_eq_true rfl, Nat.le_of_ble_eq_true rfl⟩ (fun z_21 u H locs r_z_21 hp_21 hW => ?_)
            subst hp_21
            refine z_if_eq F (pc := 24) 44 dX8_findEvens_24 (by decide) (by omega) (fun c_24 => ?_) (fun c_24 => ?_)
            · skip
              have hlast : q + 1 < sz := by
                by_cases hh : q + 1 < sz
                · exact hh
                · exfalso
                  have e9 : q + 1 = sz := by omega
                  rw [e9] at hws
                  omega
              refine z_iloadn F (pc := 44) dX8_findEvens_44 rfl (lv_at hl 1 rfl) ?_
              refine z_aloadn F (pc := 45) dX8_findEvens_45 rfl (lv_at hl 4 rfl) ?_
              refine z_iload F (pc := 46) dX8_findEvens_46 (lv_at hl 0 rfl) ?_
              refine z_callVi F (pc := 48) hK hW hA (As := [.int (iI q)]) (rest := [.int (iI t)]) (ws' := fun (u : Unit) => wR cI cZ aR xs ys lf e1 nm lb kd pt so nu al ak ap he le rw cx cr cl ll tl ts tc sz mn ac en mg ln cn wc wp) (wr := ([])) (c_X8_drawn1 l D cI cZ aR xs ys lf e1 nm lb kd pt so nu al ak ap he le rw cx cr cl ll tl ts tc sz mn ac en mg ln cn wc wp q _ (by omega) (by exact hd) (by omega)) (cwV 1 F.2.2.2.2 gX8_findEvens_X8_drawn rfl rfl rfl (by decide +kernel) ⟨Nat.le_of_ble_eq_true rfl, Nat.le_of_ble_eq_true rfl⟩) [0, 1, 2, 3, 4, 5, 6, 7, 8, 9, 10, 11, 12, 13, 14, 15, 16, 17, 18, 19, 20, 21, 22, 23] [] [0, 1, 2, 3, 4, 5, 6, 7, 8, 9, 10, 11, 12, 13, 14, 15, 16, 17, 18, 19, 20, 21, 22, 23] rfl rfl (by decide) (by decide) (by decide) (fun _ => rfl) (by decide) (q0 := 0) (ci := 8) rfl rfl rfl rfl rfl hl.1 (Nat.le_of_ble_eq_true rfl) dX8_findEvens_48 ⟨Nat.le_of_ble_eq_true rfl, Nat.le_of_ble_eq_true rfl⟩ (fun z_48 u H locs r_z_48 hp_48 hW => ?_)
              subst hp_48
              refine z_iadd F (pc := 51) dX8_findEvens_51 ?_
              refine z_istoren F (pc := 52) hl (lv' := [(3, .int (iI (t + (dr xs ys lf q)))), (4, .int (iI q)), (2, .int (iI i)), (1, .int (iI (wy xs ys lf sz))), (0, .ref (aR 0))]) dX8_findEvens_52 rfl (by decide) rfl (fun ls hl => ?_)
              refine z_iinc F (pc := 53) hl (lv' := [(4, .int (iI (q + 1))), (3, .int (iI (t + (dr xs ys lf q)))), (2, .int (iI i)), (1, .int (iI (wy xs ys lf sz))), (0, .ref (aR 0))]) dX8_findEvens_53 (k := 1) rfl (by decide) rfl (fun ls hl => ?_)
              refine z_goto F (pc := 56) 18 dX8_findEvens_56 (by decide) ?_
              exact ih_18 (t + (dr xs ys lf q)) (q + 1) _ _ _ (by omega) (by omega) (by rw [wy_s xs ys lf g1.1]; omega) (by rw [wy_s xs ys lf g1.1]; omega) (by intro j j1 j2; (by_cases e : j = q) <;> first | (rw [e]; omega) | exact g4 j j1 (by omega)) (lv_sub hl [0, 1, 2, 3, 4] rfl) hW
            · skip
              refine z_iloadn F (pc := 27) dX8_findEvens_27 rfl (lv_at hl 2 rfl) ?_
              refine z_iloadn F (pc := 28) dX8_findEvens_28 rfl (lv_at hl 3 rfl) ?_
              refine z_imul F (pc := 29) dX8_findEvens_29 ?_
              refine z_bipush F (pc := 30) (7) (by decide +kernel) dX8_findEvens_30 ?_
              refine z_iloadn F (pc := 32) dX8_findEvens_32 rfl (lv_at hl 1 rfl) ?_
              refine z_aloadn F (pc := 33) dX8_findEvens_33 rfl (lv_at hl 4 rfl) ?_
              refine z_iload F (pc := 34) dX8_findEvens_34 (lv_at hl 0 rfl) ?_
              refine z_callVi F (pc := 36) hK hW hA (As := [.int (iI q)]) (rest := [.int (iI t), .int (iI 7), .int (iI (i * (wy xs ys lf sz)))]) (ws' := fun (u : Unit) => wR cI cZ aR xs ys lf e1 nm lb kd pt so nu al ak ap he le rw cx cr cl ll tl ts tc sz mn ac en mg ln cn wc wp) (wr := ([])) (c_X8_drawn1 l D cI cZ aR xs ys lf e1 nm lb kd pt so nu al ak ap he le rw cx cr cl ll tl ts tc sz mn ac en mg ln cn wc wp q _ (by omega) (by exact hd) (by omega)) (cwV 1 F.2.2.2.2 gX8_findEvens_X8_drawn rfl rfl rfl (by decide +kernel) ⟨Nat.le_of_ble_eq_true rfl, Nat.le_of_ble_eq_true rfl⟩) [0, 1, 2, 3, 4, 5, 6, 7, 8, 9, 10, 11, 12, 13, 14, 15, 16, 17, 18, 19, 20, 21, 22, 23] [] [0, 1, 2, 3, 4, 5, 6, 7, 8, 9, 10, 11, 12, 13, 14, 15, 16, 17, 18, 19, 20, 21, 22, 23] rfl rfl (by decide) (by decide) (by decide) (fun _ => rfl) (by decide) (q0 := 0) (ci := 8) rfl rfl rfl rfl rfl hl.1 (Nat.le_of_ble_eq_true rfl) dX8_findEvens_36 ⟨Nat.le_of_ble_eq_true rfl, Nat.le_of_ble_eq_true rfl⟩ (fun z_36 u H locs r_z_36 hp_36 hW => ?_)
              subst hp_36
              refine z_iadd F (pc := 39) dX8_findEvens_39 ?_
              refine z_imul F (pc := 40) dX8_findEvens_40 ?_
              refine z_icmp_le F (pc := 41) 59 dX8_findEvens_41 (by decide) (by omega) (fun c_41 => ?_) (fun c_41 => ?_)
              · skip
                have hE : isEv xs ys lf sz (i * wy xs ys lf sz) q := ⟨g1, by omega, by omega, g4⟩
                have hx1 := pw_l hb.1 ha.1 (pa := i * wy xs ys lf sz - 7 * t) (st := 7 * dr xs ys lf q) (by omega) (by omega)
                have hx2 := pw_l hb.2.1 ha.2.1 (pa := i * wy xs ys lf sz - 7 * t) (st := 7 * dr xs ys lf q) (by omega) (by omega)
                refine z_aloadn F (pc := 59) dX8_findEvens_59 rfl (lv_at hl 4 rfl) ?_
                refine z_iload F (pc := 60) dX8_findEvens_60 (lv_at hl 0 rfl) ?_
                refine z_callVi F (pc := 62) hK hW hA (As := [.int (iI q)]) (rest := []) (ws' := fun (u : Unit) => wR cI cZ aR xs ys lf e1 nm lb kd pt so nu al ak ap he le rw cx cr cl ll tl ts tc sz mn ac en mg ln cn wc wp) (wr := ([])) (c_X8_drawn1 l D cI cZ aR xs ys lf e1 nm lb kd pt so nu al ak ap he le rw cx cr cl ll tl ts tc sz mn ac en mg ln cn wc wp q _ (by omega) (by exact hd) (by omega)) (cwV 1 F.2.2.2.2 gX8_findEvens_X8_drawn rfl rfl rfl (by decide +kernel) ⟨Nat.le_of_ble_eq_true rfl, Nat.le_of_ble_eq_true rfl⟩) [0, 1, 2, 3, 4, 5, 6, 7, 8, 9, 10, 11, 12, 13, 14, 15, 16, 17, 18, 19, 20, 21, 22, 23] [] [0, 1, 2, 3, 4, 5, 6, 7, 8, 9, 10, 11, 12, 13, 14, 15, 16, 17, 18, 19, 20, 21, 22, 23] rfl rfl (by decide) (by decide) (by decide) (fun _ => rfl) (by decide) (q0 := 0) (ci := 8) rfl rfl rfl rfl rfl hl.1 (Nat.le_of_ble_eq_true rfl) dX8_findEvens_62 ⟨Nat.le_of_ble_eq_true rfl, Nat.le_of_ble_eq_true rfl⟩ (fun z_62 u H locs r_z_62 hp_62 hW => ?_)
                subst hp_62
                refine z_istore F (pc := 65) hl (lv' := [(5, .int (iI (dr xs ys lf q))), (4, .int (iI q)), (3, .int (iI t)), (2, .int (iI i)), (1, .int (iI (wy xs ys lf sz))), (0, .ref (aR 0))]) dX8_findEvens_65 (by decide) rfl (fun ls hl => ?_)
                refine z_ldc2 F (pc := 67) (100) (by decide +kernel) (List.mem_of_getElem? (i := 1) rfl) dX8_findEvens_67 ?_
                refine z_iloadn F (pc := 70) dX8_findEvens_70 rfl (lv_at hl 3 rfl) ?_
                refine z_iloadn F (pc := 71) dX8_findEvens_71 rfl (lv_at hl 4 rfl) ?_
                refine z_imul F (pc := 72) dX8_findEvens_72 ?_
                refine z_bipush F (pc := 73) (7) (by decide +kernel) dX8_findEvens_73 ?_
                refine z_iloadn F (pc := 75) dX8_findEvens_75 rfl (lv_at hl 2 rfl) ?_
                refine z_imul F (pc := 76) dX8_findEvens_76 ?_
                refine z_isub F (pc := 77) dX8_findEvens_77 ?_
                refine z_i2l F (pc := 78) dX8_findEvens_78 (by omega) ?_
                refine z_lmul F (pc := 79) dX8_findEvens_79 ?_
                refine z_lstore F (pc := 80) hl (lv' := [(6, .long (lI (100 * ((i * (wy xs ys lf sz)) - (7 * t))))), (5, .int (iI (dr xs ys lf q))), (4, .int (iI q)), (3, .int (iI t)), (2, .int (iI i)), (1, .int (iI (wy xs ys lf sz))), (0, .ref (aR 0))]) dX8_findEvens_80 (by decide) rfl (fun ls hl => ?_)
                refine z_aloadn F (pc := 82) dX8_findEvens_82 rfl (lv_at hl 6 rfl) ?_
                refine z_get F (pc := 83) (C := RX8) (T := TX8) (N := 32) (ci := 8) inX8 hK hW 0 4 rfl rfl (by decide) rfl (List.mem_of_getElem? (i := 2) rfl) (v := .ref (aR 4)) rfl dX8_findEvens_83 ?_
                refine z_iconst F (pc := 86) (2) dX8_findEvens_86 ?_
                refine z_iloadn F (pc := 87) dX8_findEvens_87 rfl (lv_at hl 4 rfl) ?_
                refine z_imul F (pc := 88) dX8_findEvens_88 ?_
                refine z_bipush F (pc := 89) (100) (by decide +kernel) dX8_findEvens_89 ?_
                refine z_aloadn F (pc := 91) dX8_findEvens_91 rfl (lv_at hl 6 rfl) ?_
                refine z_get F (pc := 92) (C := RX8) (T := TX8) (N := 32) (ci := 8) inX8 hK hW 0 1 rfl rfl (by decide) rfl (List.mem_of_getElem? (i := 3) rfl) (v := .ref (aR 1)) rfl dX8_findEvens_92 ?_
                refine z_iload F (pc := 95) dX8_findEvens_95 (lv_at hl 2 rfl) ?_
                refine z_iconst F (pc := 97) (1) dX8_findEvens_97 ?_
                refine z_isub F (pc := 98) dX8_findEvens_98 ?_
                refine z_iald F (pc := 99) hK hW 1 rfl (by decide) dX8_findEvens_99 (by omega) ?_
                refine z_imul F (pc := 100) dX8_findEvens_100 ?_
                refine z_aloadn F (pc := 101) dX8_findEvens_101 rfl (lv_at hl 6 rfl) ?_
                refine z_get F (pc := 102) (C := RX8) (T := TX8) (N := 32) (ci := 8) inX8 hK hW 0 1 rfl rfl (by decide) rfl (List.mem_of_getElem? (i := 3) rfl) (v := .ref (aR 1)) rfl dX8_findEvens_102 ?_
                refine z_iload F (pc := 105) dX8_findEvens_105 (lv_at hl 2 rfl) ?_
                refine z_iald F (pc := 107) hK hW 1 rfl (by decide) dX8_findEvens_107 (by omega) ?_
                refine z_aloadn F (pc := 108) dX8_findEvens_108 rfl (lv_at hl 6 rfl) ?_
                refine z_get F (pc := 109) (C := RX8) (T := TX8) (N := 32) (ci := 8) inX8 hK hW 0 1 rfl rfl (by decide) rfl (List.mem_of_getElem? (i := 3) rfl) (v := .ref (aR 1)) rfl dX8_findEvens_109 ?_
                refine z_iload F (pc := 112) dX8_findEvens_112 (lv_at hl 2 rfl) ?_
                refine z_iconst F (pc := 114) (1) dX8_findEvens_114 ?_
                refine z_isub F (pc := 115) dX8_findEvens_115 ?_
                refine z_iald F (pc := 116) hK hW 1 rfl (by decide) dX8_findEvens_116 (by omega) ?_
                refine z_isub F (pc := 117) dX8_findEvens_117 ?_
                refine z_i2l F (pc := 118) dX8_findEvens_118 (by omega) ?_
                refine z_lload F (pc := 119) dX8_findEvens_119 (lv_at hl 0 rfl) ?_
                refine z_lmul F (pc := 121) dX8_findEvens_121 ?_
                refine z_bipush F (pc := 122) (7) (by decide +kernel) dX8_findEvens_122 ?_
                refine z_iload F (pc := 124) dX8_findEvens_124 (lv_at hl 1 rfl) ?_
                refine z_imul F (pc := 126) dX8_findEvens_126 ?_
                refine z_i2l F (pc := 127) dX8_findEvens_127 (by omega) ?_
                refine z_callSl F (pc := 128) hK hW hA (As := [.long (lI (((xs q) - (xs (q - 1))) * (100 * ((i * (wy xs ys lf sz)) - (7 * t))))), .long (lI (7 * (dr xs ys lf q)))]) (rest := [.int (iI (100 * (xs (q - 1)))), .int (iI (2 * i)), .ref (aR 4)]) (c_X8_down l D cI cZ (((xs q) - (xs (q - 1))) * (100 * ((i * (wy xs ys lf sz)) - (7 * t)))) (7 * (dr xs ys lf q)) _ (by omega) (by omega) (by omega) (by omega)) (va_cwS 2 F.2.2.2.2 gX8_findEvens_X8_down rfl rfl rfl (by decide +kernel) ⟨Nat.le_of_ble_eq_true rfl, Nat.le_of_ble_eq_true rfl⟩) rfl rfl hl.1 (Nat.le_of_ble_eq_true rfl) dX8_findEvens_128 ⟨Nat.le_of_ble_eq_true rfl, Nat.le_of_ble_eq_true rfl⟩ (fun z_128 H locs r_z_128 hp_128 hW => ?_)
                subst hp_128
                refine z_l2i F (pc := 131) dX8_findEvens_131 ?_
                refine z_iadd F (pc := 132) dX8_findEvens_132 ?_
                refine z_eqi (y := pE xs ys lf xs (i * wy xs ys lf sz) q) (by unfold pE; rw [g2, Int.mul_assoc]) ?_
                refine z_iast F (pc := 133) hK hW (ws' := wR cI cZ aR xs ys lf (zU e1 (2 * i) (pE xs ys lf xs (i * wy xs ys lf sz) q)) nm lb kd pt so nu al ak ap he le rw cx cr cl ll tl ts tc sz mn ac en mg ln cn wc wp) 4 rfl (by decide) dX8_findEvens_133 (by omega) rfl (fun H locs hW => ?_)
                refine z_aloadn F (pc := 134) dX8_findEvens_134 rfl (lv_at hl 6 rfl) ?_
                refine z_get F (pc := 135) (C := RX8) (T := TX8) (N := 32) (ci := 8) inX8 hK hW 0 4 rfl rfl (by decide) rfl (List.mem_of_getElem? (i := 2) rfl) (v := .ref (aR 4)) rfl dX8_findEvens_135 ?_
                refine z_iconst F (pc := 138) (2) dX8_findEvens_138 ?_
                refine z_iloadn F (pc := 139) dX8_findEvens_139 rfl (lv_at hl 4 rfl) ?_
                refine z_imul F (pc := 140) dX8_findEvens_140 ?_
                refine z_iconst F (pc := 141) (1) dX8_findEvens_141 ?_
                refine z_iadd F (pc := 142) dX8_findEvens_142 ?_
                refine z_bipush F (pc := 143) (100) (by decide +kernel) dX8_findEvens_143 ?_
                refine z_aloadn F (pc := 145) dX8_findEvens_145 rfl (lv_at hl 6 rfl) ?_
                refine z_get F (pc := 146) (C := RX8) (T := TX8) (N := 32) (ci := 8) inX8 hK hW 0 2 rfl rfl (by decide) rfl (List.mem_of_getElem? (i := 4) rfl) (v := .ref (aR 2)) rfl dX8_findEvens_146 ?_
                refine z_iload F (pc := 149) dX8_findEvens_149 (lv_at hl 2 rfl) ?_
                refine z_iconst F (pc := 151) (1) dX8_findEvens_151 ?_
                refine z_isub F (pc := 152) dX8_findEvens_152 ?_
                refine z_iald F (pc := 153) hK hW 2 rfl (by decide) dX8_findEvens_153 (by omega) ?_
                refine z_imul F (pc := 154) dX8_findEvens_154 ?_
                refine z_aloadn F (pc := 155) dX8_findEvens_155 rfl (lv_at hl 6 rfl) ?_
                refine z_get F (pc := 156) (C := RX8) (T := TX8) (N := 32) (ci := 8) inX8 hK hW 0 2 rfl rfl (by decide) rfl (List.mem_of_getElem? (i := 4) rfl) (v := .ref (aR 2)) rfl dX8_findEvens_156 ?_
                refine z_iload F (pc := 159) dX8_findEvens_159 (lv_at hl 2 rfl) ?_
                refine z_iald F (pc := 161) hK hW 2 rfl (by decide) dX8_findEvens_161 (by omega) ?_
                refine z_aloadn F (pc := 162) dX8_findEvens_162 rfl (lv_at hl 6 rfl) ?_
                refine z_get F (pc := 163) (C := RX8) (T := TX8) (N := 32) (ci := 8) inX8 hK hW 0 2 rfl rfl (by decide) rfl (List.mem_of_getElem? (i := 4) rfl) (v := .ref (aR 2)) rfl dX8_findEvens_163 ?_
                refine z_iload F (pc := 166) dX8_findEvens_166 (lv_at hl 2 rfl) ?_
                refine z_iconst F (pc := 168) (1) dX8_findEvens_168 ?_
                refine z_isub F (pc := 169) dX8_findEvens_169 ?_
                refine z_iald F (pc := 170) hK hW 2 rfl (by decide) dX8_findEvens_170 (by omega) ?_
                refine z_isub F (pc := 171) dX8_findEvens_171 ?_
                refine z_i2l F (pc := 172) dX8_findEvens_172 (by omega) ?_
                refine z_lload F (pc := 173) dX8_findEvens_173 (lv_at hl 0 rfl) ?_
                refine z_lmul F (pc := 175) dX8_findEvens_175 ?_
                refine z_bipush F (pc := 176) (7) (by decide +kernel) dX8_findEvens_176 ?_
                refine z_iload F (pc := 178) dX8_findEvens_178 (lv_at hl 1 rfl) ?_
                refine z_imul F (pc := 180) dX8_findEvens_180 ?_
                refine z_i2l F (pc := 181) dX8_findEvens_181 (by omega) ?_
                refine z_callSl F (pc := 182) hK hW hA (As := [.long (lI (((ys q) - (ys (q - 1))) * (100 * ((i * (wy xs ys lf sz)) - (7 * t))))), .long (lI (7 * (dr xs ys lf q)))]) (rest := [.int (iI (100 * (ys (q - 1)))), .int (iI ((2 * i) + 1)), .ref (aR 4)]) (c_X8_down l D cI cZ (((ys q) - (ys (q - 1))) * (100 * ((i * (wy xs ys lf sz)) - (7 * t)))) (7 * (dr xs ys lf q)) _ (by omega) (by omega) (by omega) (by omega)) (va_cwS 2 F.2.2.2.2 gX8_findEvens_X8_down rfl rfl rfl (by decide +kernel) ⟨Nat.le_of_ble_eq_true rfl, Nat.le_of_ble_eq_true rfl⟩) rfl rfl hl.1 (Nat.le_of_ble_eq_true rfl) dX8_findEvens_182 ⟨Nat.le_of_ble_eq_true rfl, Nat.le_of_ble_eq_true rfl⟩ (fun z_182 H locs r_z_182 hp_182 hW => ?_)
                subst hp_182
                refine z_l2i F (pc := 185) dX8_findEvens_185 ?_
                refine z_iadd F (pc := 186) dX8_findEvens_186 ?_
                refine z_eqi (y := pE xs ys lf ys (i * wy xs ys lf sz) q) (by unfold pE; rw [g2, Int.mul_assoc]) ?_
                refine z_iast F (pc := 187) hK hW (ws' := wR cI cZ aR xs ys lf (zU (zU e1 (2 * i) (pE xs ys lf xs (i * wy xs ys lf sz) q)) ((2 * i) + 1) (pE xs ys lf ys (i * wy xs ys lf sz) q)) nm lb kd pt so nu al ak ap he le rw cx cr cl ll tl ts tc sz mn ac en mg ln cn wc wp) 4 rfl (by decide) dX8_findEvens_187 (by omega) rfl (fun H locs hW => ?_)
                have hstep : ∀ t, 0 ≤ t → t < i + 1 → ∃ q9, isEv xs ys lf sz (t * wy xs ys lf sz) q9 ∧ (zU (zU e1 (2 * i) (pE xs ys lf xs (i * wy xs ys lf sz) q)) (2 * i + 1) (pE xs ys lf ys (i * wy xs ys lf sz) q)) (2 * t) = pE xs ys lf xs (t * wy xs ys lf sz) q9 ∧ (zU (zU e1 (2 * i) (pE xs ys lf xs (i * wy xs ys lf sz) q)) (2 * i + 1) (pE xs ys lf ys (i * wy xs ys lf sz) q)) (2 * t + 1) = pE xs ys lf ys (t * wy xs ys lf sz) q9 := by
                  intro t0 t1 t2
                  by_cases et : t0 = i
                  · subst et; refine ⟨q, hE, ?_, ?_⟩
                    · rw [zU_n _ _ (by omega), zU_s]
                    · rw [zU_s]
                  · obtain ⟨q9, b1, b2, b3⟩ := h2 t0 t1 (by omega)
                    refine ⟨q9, b1, ?_, ?_⟩ <;> rw [zU_n _ _ (by omega), zU_n _ _ (by omega)]
                    · exact b2
                    · exact b3
                refine z_iinc F (pc := 188) hl (lv' := [(2, .int (iI (i + 1))), (6, .long (lI (100 * ((i * (wy xs ys lf sz)) - (7 * t))))), (5, .int (iI (dr xs ys lf q))), (4, .int (iI q)), (3, .int (iI t)), (1, .int (iI (wy xs ys lf sz))), (0, .ref (aR 0))]) dX8_findEvens_188 (k := 4) rfl (by decide) rfl (fun ls hl => ?_)
                refine z_goto F (pc := 191) 7 dX8_findEvens_191 (by decide) ?_
                exact ih_7 (i + 1) (zU (zU e1 (2 * i) (pE xs ys lf xs (i * wy xs ys lf sz) q)) ((2 * i) + 1) (pE xs ys lf ys (i * wy xs ys lf sz) q)) _ _ _ (by omega) (by omega) (by exact hstep) (lv_sub hl [0, 5, 6] rfl) hW
              · skip
                have hlast : q + 1 < sz := by
                  by_cases hh : q + 1 < sz
                  · exact hh
                  · exfalso
                    have e9 : q + 1 = sz := by omega
                    rw [e9] at hws
                    omega
                refine z_iloadn F (pc := 44) dX8_findEvens_44 rfl (lv_at hl 1 rfl) ?_
                refine z_aloadn F (pc := 45) dX8_findEvens_45 rfl (lv_at hl 4 rfl) ?_
                refine z_iload F (pc := 46) dX8_findEvens_46 (lv_at hl 0 rfl) ?_
                refine z_callVi F (pc := 48) hK hW hA (As := [.int (iI q)]) (rest := [.int (iI t)]) (ws' := fun (u : Unit) => wR cI cZ aR xs ys lf e1 nm lb kd pt so nu al ak ap he le rw cx cr cl ll tl ts tc sz mn ac en mg ln cn wc wp) (wr := ([])) (c_X8_drawn1 l D cI cZ aR xs ys lf e1 nm lb kd pt so nu al ak ap he le rw cx cr cl ll tl ts tc sz mn ac en mg ln cn wc wp q _ (by omega) (by exact hd) (by omega)) (cwV 1 F.2.2.2.2 gX8_findEvens_X8_drawn rfl rfl rfl (by decide +kernel) ⟨Nat.le_of_ble_eq_true rfl, Nat.le_of_ble_eq_true rfl⟩) [0, 1, 2, 3, 4, 5, 6, 7, 8, 9, 10, 11, 12, 13, 14, 15, 16, 17, 18, 19, 20, 21, 22, 23] [] [0, 1, 2, 3, 4, 5, 6, 7, 8, 9, 10, 11, 12, 13, 14, 15, 16, 17, 18, 19, 20, 21, 22, 23] rfl rfl (by decide) (by decide) (by decide) (fun _ => rfl) (by decide) (q0 := 0) (ci := 8) rfl rfl rfl rfl rfl hl.1 (Nat.le_of_ble_eq_true rfl) dX8_findEvens_48 ⟨Nat.le_of_ble_eq_true rfl, Nat.le_of_ble_eq_true rfl⟩ (fun z_48 u H locs r_z_48 hp_48 hW => ?_)
                subst hp_48
                refine z_iadd F (pc := 51) dX8_findEvens_51 ?_
                refine z_istoren F (pc := 52) hl (lv' := [(3, .int (iI (t + (dr xs ys lf q)))), (4, .int (iI q)), (2, .int (iI i)), (1, .int (iI (wy xs ys lf sz))), (0, .ref (aR 0))]) dX8_findEvens_52 rfl (by decide) rfl (fun ls hl => ?_)
                refine z_iinc F (pc := 53) hl (lv' := [(4, .int (iI (q + 1))), (3, .int (iI (t + (dr xs ys lf q)))), (2, .int (iI i)), (1, .int (iI (wy xs ys lf sz))), (0, .ref (aR 0))]) dX8_findEvens_53 (k := 1) rfl (by decide) rfl (fun ls hl => ?_)
                refine z_goto F (pc := 56) 18 dX8_findEvens_56 (by decide) ?_
                exact ih_18 (t + (dr xs ys lf q)) (q + 1) _ _ _ (by omega) (by omega) (by rw [wy_s xs ys lf g1.1]; omega) (by rw [wy_s xs ys lf g1.1]; omega) (by intro j j1 j2; (by_cases e : j = q) <;> first | (rw [e]; omega) | exact g4 j j1 (by omega)) (lv_sub hl [0, 1, 2, 3, 4] rfl) hW
        exact cut_18 _ 0 1 _ _ _ (Nat.lt_succ_self _) (by omega) (by exact (wy_0 xs ys lf (by omega)).symm) (by right; exact wy_0 xs ys lf (by omega)) (by intro j j1 j2; omega) (lv_sub hl [0, 1, 2, 3, 4] rfl) hW
  exact cut_7 _ 0 ev _ _ _ (Nat.lt_succ_self _) (by omega) (by intro t t0 t1; omega) (lv_sub hl [0, 1, 2] rfl) hW
end
