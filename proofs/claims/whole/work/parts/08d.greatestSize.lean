set_option maxHeartbeats 4000000 in
set_option maxRecDepth 100000 in
theorem c_X2_greatestSize (l : Launch) (D : va_G) (cI cZ : ClassId) (aD : Nat → Nat) (xs ys lf ev nm : Int → Int) (sz : Int) (sz0 : Nat) (hn : ∀ j, 0 ≤ j → j < 16 → -20000 ≤ nm j ∧ nm j ≤ 20000) : Met l yX2_greatestSize wsX2_greatestSize ({ frames := 1, cells := 0, slots := 0, locals := 21 } : Room) (zPc D cI cZ [.ref (aD 0)] (wD cI cZ aD xs ys lf ev nm sz) sz0) (zQi D cI cZ (wD cI cZ aD xs ys lf ev nm sz) sz0 (fun (r : Int) (u : Unit) => isMx nm r ∧ r ≤ 20000) (fun (u : Unit) => wD cI cZ aD xs ys lf ev nm sz)) 0 0 (va_A (wD cI cZ aD xs ys lf ev nm sz) sz0) := by
  refine z_ofI (maxL := 3) (plainFor_of_name (by decide)) rfl (Nat.le_of_ble_eq_true rfl) (Or.inl rfl) ?_
  intro p e s m below meth c A ls Q F hK hW hA hl hret
  have hl : lv_has ls 3 [(0, .ref (aD 0))] := hl
  have inX2 : ∀ w ∈ u_ws RX2 TX2 6, w ∈ wsX2_greatestSize := fun _ h => List.mem_cons_of_mem _ (List.mem_append_right _ h)
  refine z_iconst F (pc := 0) (0) dX2_greatestSize_0 ?_
  refine z_istoren F (pc := 1) hl (lv' := [(1, .int (iI 0)), (0, .ref (aD 0))]) dX2_greatestSize_1 rfl (by decide) rfl (fun ls hl => ?_)
  refine z_iconst F (pc := 2) (0) dX2_greatestSize_2 ?_
  refine z_istoren F (pc := 3) hl (lv' := [(2, .int (iI 0)), (1, .int (iI 0)), (0, .ref (aD 0))]) dX2_greatestSize_3 rfl (by decide) rfl (fun ls hl => ?_)
  have cut_4 : ∀ (fuel : Nat) (b : Int) (n : Int) (H : Heap) (locs : List Loc) (ls : Array Slot), (16 - n).toNat < fuel → ((0 ≤ n ∧ n ≤ 16) ∧ (0 ≤ b ∧ b ≤ 20000)) → (zH ((∀ j, 0 ≤ j → j < n → ((nm j).natAbs : Int) ≤ b) ∧ (b = 0 ∨ ∃ j, (0 ≤ j ∧ j < 16) ∧ b = ((nm j).natAbs : Int)))) → lv_has ls 3 [(2, .int (iI n)), (1, .int (iI b)), (0, .ref (aD 0))] → zW D A s.heap H locs (wD cI cZ aD xs ys lf ev nm sz) → W p l e ({ frames := 1, cells := 0, slots := 0, locals := 21 } : Room) s m ([.ref (aD 0)] : List Value).toArray below meth c H locs 0 0 Q (F0 m 4 ls []) := by
    intro fuel
    induction fuel with
    | zero => intro b n H locs ls hm; exact absurd hm (Nat.not_lt_zero _)
    | succ fuel ih_4 =>
      intro b n H locs ls hm_4 h1 h2 hl hW
      refine z_iloadn F (pc := 4) dX2_greatestSize_4 rfl (lv_at hl 0 rfl) ?_
      refine z_bipush F (pc := 5) (16) (by decide +kernel) dX2_greatestSize_5 ?_
      refine z_icmp_ge F (pc := 7) 30 dX2_greatestSize_7 (by decide) (by omega) (fun c_7 => ?_) (fun c_7 => ?_)
      · skip
        refine z_iloadn F (pc := 30) dX2_greatestSize_30 rfl (lv_at hl 1 rfl) ?_
        exact hret _ _ _ _ b () dX2_greatestSize_31 (by omega) (by exact ⟨⟨fun j j0 j1 => h2.o.1 j j0 (by omega), h2.o.2⟩, by omega⟩) hW
      · skip
        have hv := hn n (by omega) (by omega)
        refine z_iloadn F (pc := 10) dX2_greatestSize_10 rfl (lv_at hl 1 rfl) ?_
        refine z_aloadn F (pc := 11) dX2_greatestSize_11 rfl (lv_at hl 2 rfl) ?_
        refine z_get F (pc := 12) (C := RX2) (T := TX2) (N := 6) (ci := 2) inX2 hK hW 0 4 rfl rfl (by decide) rfl (List.mem_of_getElem? (i := 1) rfl) (v := .ref (aD 5)) rfl dX2_greatestSize_12 ?_
        refine z_iloadn F (pc := 15) dX2_greatestSize_15 rfl (lv_at hl 0 rfl) ?_
        refine z_iald F (pc := 16) hK hW 5 rfl (by decide) dX2_greatestSize_16 (by omega) ?_
        refine z_mabs F (pc := 17) hl.1 (List.mem_of_getElem? (i := 2) rfl) (List.mem_of_getElem? (i := 3) rfl) (List.mem_of_getElem? (i := 4) rfl) (List.mem_of_getElem? (i := 5) rfl) (Nat.le_of_ble_eq_true rfl) (Nat.le_of_ble_eq_true rfl) (Nat.le_of_ble_eq_true rfl) (Nat.le_of_ble_eq_true rfl) dX2_greatestSize_17 (by omega) ?_
        refine z_mmax F (pc := 20) hl.1 (List.mem_of_getElem? (i := 6) rfl) (List.mem_of_getElem? (i := 7) rfl) (List.mem_of_getElem? (i := 4) rfl) (List.mem_of_getElem? (i := 8) rfl) (Nat.le_of_ble_eq_true rfl) (Nat.le_of_ble_eq_true rfl) (Nat.le_of_ble_eq_true rfl) (Nat.le_of_ble_eq_true rfl) dX2_greatestSize_20 (by omega) ?_
        refine z_istoren F (pc := 23) hl (lv' := [(1, .int (iI (max b ((nm n).natAbs : Int)))), (2, .int (iI n)), (0, .ref (aD 0))]) dX2_greatestSize_23 rfl (by decide) rfl (fun ls hl => ?_)
        have hs1 : zH ((∀ j, 0 ≤ j → j < n + 1 → ((nm j).natAbs : Int) ≤ max b ((nm n).natAbs : Int)) ∧ (max b ((nm n).natAbs : Int) = 0 ∨ ∃ j, (0 ≤ j ∧ j < 16) ∧ max b ((nm n).natAbs : Int) = ((nm j).natAbs : Int))) := by
          refine ⟨fun j j0 j1 => ?_, ?_⟩
          · by_cases e : j = n
            · subst e; omega
            · have := h2.o.1 j j0 (by omega); omega
          · by_cases q : ((nm n).natAbs : Int) ≤ b
            · rw [show max b ((nm n).natAbs : Int) = b by omega]; exact h2.o.2
            · exact Or.inr ⟨n, by omega, by omega⟩
        refine z_iinc F (pc := 24) hl (lv' := [(2, .int (iI (n + 1))), (1, .int (iI (max b ((nm n).natAbs : Int)))), (0, .ref (aD 0))]) dX2_greatestSize_24 (k := 1) rfl (by decide) rfl (fun ls hl => ?_)
        refine z_goto F (pc := 27) 4 dX2_greatestSize_27 (by decide) ?_
        exact ih_4 (max b ((nm n).natAbs : Int)) (n + 1) _ _ _ (by omega) (by omega) (by exact hs1) (lv_sub hl [0, 1, 2] rfl) hW
  exact cut_4 _ 0 0 _ _ _ (Nat.lt_succ_self _) (by omega) (by exact ⟨fun j j0 j1 => by omega, Or.inl rfl⟩) (lv_sub hl [0, 1, 2] rfl) hW
