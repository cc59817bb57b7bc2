theorem k_updI {P : Int32 → Prop} {f f' : Nat → Int32} {i N : Nat} {v : Int32} (e : f' = upd f (nI i).toNatClampNeg v) (hi : i < 2 ^ 31) (hv : P v) (h : ∀ j, j < N → P (f j)) : ∀ j, j < N → P (f' j) := by
  intro j hj
  rw [e, nI_clamp hi]
  by_cases h1 : j = i
  · rw [h1, pk_us]; exact hv
  · rw [pk_un h1]; exact h j hj
theorem k_m127 {n : Nat} (hn : n ≤ 7) (x : Int32) : ∃ j : Nat, j < 128 ∧ ((1 <<< (nI n &&& 31)) - 1) &&& x = nI j := by
  rcases (show n = 0 ∨ n = 1 ∨ n = 2 ∨ n = 3 ∨ n = 4 ∨ n = 5 ∨ n = 6 ∨ n = 7 by omega) with rfl | rfl | rfl | rfl | rfl | rfl | rfl | rfl
  all_goals
    rw [Int32.and_comm]
  · obtain ⟨j, h, e⟩ := vp_in_of (pk_andIn x 0 (m := (1 <<< (nI 0 &&& 31)) - 1) (by decide) (by decide)) (by decide); exact ⟨j, by omega, e⟩
  · obtain ⟨j, h, e⟩ := vp_in_of (pk_andIn x 1 (m := (1 <<< (nI 1 &&& 31)) - 1) (by decide) (by decide)) (by decide); exact ⟨j, by omega, e⟩
  · obtain ⟨j, h, e⟩ := vp_in_of (pk_andIn x 2 (m := (1 <<< (nI 2 &&& 31)) - 1) (by decide) (by decide)) (by decide); exact ⟨j, by omega, e⟩
  · obtain ⟨j, h, e⟩ := vp_in_of (pk_andIn x 3 (m := (1 <<< (nI 3 &&& 31)) - 1) (by decide) (by decide)) (by decide); exact ⟨j, by omega, e⟩
  · obtain ⟨j, h, e⟩ := vp_in_of (pk_andIn x 4 (m := (1 <<< (nI 4 &&& 31)) - 1) (by decide) (by decide)) (by decide); exact ⟨j, by omega, e⟩
  · obtain ⟨j, h, e⟩ := vp_in_of (pk_andIn x 5 (m := (1 <<< (nI 5 &&& 31)) - 1) (by decide) (by decide)) (by decide); exact ⟨j, by omega, e⟩
  · obtain ⟨j, h, e⟩ := vp_in_of (pk_andIn x 6 (m := (1 <<< (nI 6 &&& 31)) - 1) (by decide) (by decide)) (by decide); exact ⟨j, by omega, e⟩
  · obtain ⟨j, h, e⟩ := vp_in_of (pk_andIn x 7 (m := (1 <<< (nI 7 &&& 31)) - 1) (by decide) (by decide)) (by decide); exact ⟨j, by omega, e⟩
theorem dX11_isWithin_0 : decode cX11_isWithin 0 = .ok (.iload_n 0, 1) := by decide +kernel
theorem dX11_isWithin_1 : decode cX11_isWithin 1 = .ok (.iload_n 1, 1) := by decide +kernel
theorem dX11_isWithin_2 : decode cX11_isWithin 2 = .ok (.if_icmp .lt 12, 3) := by decide +kernel
theorem dX11_isWithin_14 : decode cX11_isWithin 14 = .ok (.iconst 0, 1) := by decide +kernel
theorem dX11_isWithin_15 : decode cX11_isWithin 15 = .ok (.ireturn, 1) := by decide +kernel
theorem dX11_isWithin_5 : decode cX11_isWithin 5 = .ok (.iload_n 0, 1) := by decide +kernel
theorem dX11_isWithin_6 : decode cX11_isWithin 6 = .ok (.iload_n 2, 1) := by decide +kernel
theorem dX11_isWithin_7 : decode cX11_isWithin 7 = .ok (.if_icmp .gt 7, 3) := by decide +kernel
theorem dX11_isWithin_10 : decode cX11_isWithin 10 = .ok (.iconst 1, 1) := by decide +kernel
theorem dX11_isWithin_11 : decode cX11_isWithin 11 = .ok (.goto 4, 3) := by decide +kernel
set_option maxHeartbeats 8000000 in
set_option maxRecDepth 100000 in
theorem c_X11_isWithin (l : Launch) (g : kG) (sz : Nat) (v : Int32) (lo : Int32) (hi : Int32) : kMi l g yX11_isWithin cX11_isWithin 3 (some .boolean) 1 0 0 [.int v, .int lo, .int hi] sz [] (fun (r : Int32) (u : Unit) => (r = 1 ∧ (Int32.toInt lo ≤ Int32.toInt v ∧ Int32.toInt v ≤ Int32.toInt hi)) ∨ (r = 0 ∧ ¬ (Int32.toInt lo ≤ Int32.toInt v ∧ Int32.toInt v ≤ Int32.toInt hi))) (fun (u : Unit) => ([] : va_W)) := by
  refine kMi.of (by decide) (Nat.le_of_ble_eq_true rfl) (fun p e s m below meth c A hx hb hr hml hown hts hlk hnm hKW hP hD hS hA ls hl => ?_)
  have hown : s.vm.findClass RX11 = some m.cls := hown
  have hl : lv_has ls 3 [(0, .int v), (1, .int lo), (2, .int hi)] := hl
  refine k_hide hP hS (fun H locs hP hS => ?_)
  refine lv_iload_n hx hb dX11_isWithin_0 rfl (lv_at hl 0 rfl) ?_
  refine lv_iload_n hx hb dX11_isWithin_1 rfl (lv_at hl 1 rfl) ?_
  refine lv_icmp_lt (tgt := 14) hx hb dX11_isWithin_2 (by decide) (fun c_1 => ?_) (fun c_1 => ?_)
  · refine lv_iconst (v := 0) hx hb dX11_isWithin_14 (by decide) ?_
    exact k_zret () [] hx hb hr hlk hP hD hS (by clear hP hD hS hA hts hKW hl; first | exact Or.inl ⟨rfl, by (first | omega | (simp only [Int32.lt_iff_toInt_lt, Int32.le_iff_toInt_le, ← Int32.toInt_inj] at *; omega) | (simp only [Int32.lt_iff_toInt_lt, Int32.le_iff_toInt_le, ← Int32.toInt_inj] at *; simp at *; omega) | (simp only [Int32.lt_iff_toInt_lt, Int32.le_iff_toInt_le, ← Int32.toInt_inj] at *; simp at *; done) | (simp at *; omega) | (simp at *; done))⟩ | exact Or.inr ⟨rfl, by (first | omega | (simp only [Int32.lt_iff_toInt_lt, Int32.le_iff_toInt_le, ← Int32.toInt_inj] at *; omega) | (simp only [Int32.lt_iff_toInt_lt, Int32.le_iff_toInt_le, ← Int32.toInt_inj] at *; simp at *; omega) | (simp only [Int32.lt_iff_toInt_lt, Int32.le_iff_toInt_le, ← Int32.toInt_inj] at *; simp at *; done) | (simp at *; omega) | (simp at *; done))⟩ | (exfalso; (first | omega | (simp only [Int32.lt_iff_toInt_lt, Int32.le_iff_toInt_le, ← Int32.toInt_inj] at *; omega) | (simp only [Int32.lt_iff_toInt_lt, Int32.le_iff_toInt_le, ← Int32.toInt_inj] at *; simp at *; omega) | (simp only [Int32.lt_iff_toInt_lt, Int32.le_iff_toInt_le, ← Int32.toInt_inj] at *; simp at *; done) | (simp at *; omega) | (simp at *; done)))) rfl rfl rfl rfl (Nat.le_of_ble_eq_true rfl) (Nat.le_of_ble_eq_true rfl) dX11_isWithin_15
  · refine lv_iload_n hx hb dX11_isWithin_5 rfl (lv_at hl 0 rfl) ?_
    refine lv_iload_n hx hb dX11_isWithin_6 rfl (lv_at hl 2 rfl) ?_
    refine lv_icmp_gt (tgt := 14) hx hb dX11_isWithin_7 (by decide) (fun c_2 => ?_) (fun c_2 => ?_)
    · refine lv_iconst (v := 0) hx hb dX11_isWithin_14 (by decide) ?_
      exact k_zret () [] hx hb hr hlk hP hD hS (by clear hP hD hS hA hts hKW hl; first | exact Or.inl ⟨rfl, by (first | omega | (simp only [Int32.lt_iff_toInt_lt, Int32.le_iff_toInt_le, ← Int32.toInt_inj] at *; omega) | (simp only [Int32.lt_iff_toInt_lt, Int32.le_iff_toInt_le, ← Int32.toInt_inj] at *; simp at *; omega) | (simp only [Int32.lt_iff_toInt_lt, Int32.le_iff_toInt_le, ← Int32.toInt_inj] at *; simp at *; done) | (simp at *; omega) | (simp at *; done))⟩ | exact Or.inr ⟨rfl, by (first | omega | (simp only [Int32.lt_iff_toInt_lt, Int32.le_iff_toInt_le, ← Int32.toInt_inj] at *; omega) | (simp only [Int32.lt_iff_toInt_lt, Int32.le_iff_toInt_le, ← Int32.toInt_inj] at *; simp at *; omega) | (simp only [Int32.lt_iff_toInt_lt, Int32.le_iff_toInt_le, ← Int32.toInt_inj] at *; simp at *; done) | (simp at *; omega) | (simp at *; done))⟩ | (exfalso; (first | omega | (simp only [Int32.lt_iff_toInt_lt, Int32.le_iff_toInt_le, ← Int32.toInt_inj] at *; omega) | (simp only [Int32.lt_iff_toInt_lt, Int32.le_iff_toInt_le, ← Int32.toInt_inj] at *; simp at *; omega) | (simp only [Int32.lt_iff_toInt_lt, Int32.le_iff_toInt_le, ← Int32.toInt_inj] at *; simp at *; done) | (simp at *; omega) | (simp at *; done)))) rfl rfl rfl rfl (Nat.le_of_ble_eq_true rfl) (Nat.le_of_ble_eq_true rfl) dX11_isWithin_15
    · refine lv_iconst (v := 1) hx hb dX11_isWithin_10 (by decide) ?_
      refine lv_goto (tgt := 15) hx hb dX11_isWithin_11 (by decide) ?_
      exact k_zret () [] hx hb hr hlk hP hD hS (by clear hP hD hS hA hts hKW hl; first | exact Or.inl ⟨rfl, by (first | omega | (simp only [Int32.lt_iff_toInt_lt, Int32.le_iff_toInt_le, ← Int32.toInt_inj] at *; omega) | (simp only [Int32.lt_iff_toInt_lt, Int32.le_iff_toInt_le, ← Int32.toInt_inj] at *; simp at *; omega) | (simp only [Int32.lt_iff_toInt_lt, Int32.le_iff_toInt_le, ← Int32.toInt_inj] at *; simp at *; done) | (simp at *; omega) | (simp at *; done))⟩ | exact Or.inr ⟨rfl, by (first | omega | (simp only [Int32.lt_iff_toInt_lt, Int32.le_iff_toInt_le, ← Int32.toInt_inj] at *; omega) | (simp only [Int32.lt_iff_toInt_lt, Int32.le_iff_toInt_le, ← Int32.toInt_inj] at *; simp at *; omega) | (simp only [Int32.lt_iff_toInt_lt, Int32.le_iff_toInt_le, ← Int32.toInt_inj] at *; simp at *; done) | (simp at *; omega) | (simp at *; done))⟩ | (exfalso; (first | omega | (simp only [Int32.lt_iff_toInt_lt, Int32.le_iff_toInt_le, ← Int32.toInt_inj] at *; omega) | (simp only [Int32.lt_iff_toInt_lt, Int32.le_iff_toInt_le, ← Int32.toInt_inj] at *; simp at *; omega) | (simp only [Int32.lt_iff_toInt_lt, Int32.le_iff_toInt_le, ← Int32.toInt_inj] at *; simp at *; done) | (simp at *; omega) | (simp at *; done)))) rfl rfl rfl rfl (Nat.le_of_ble_eq_true rfl) (Nat.le_of_ble_eq_true rfl) dX11_isWithin_15
theorem dX12_isIn_0 : decode cX12_isIn 0 = .ok (.iload_n 0, 1) := by decide +kernel
theorem dX12_isIn_1 : decode cX12_isIn 1 = .ok (.iload_n 1, 1) := by decide +kernel
theorem dX12_isIn_2 : decode cX12_isIn 2 = .ok (.if_icmp .lt 12, 3) := by decide +kernel
theorem dX12_isIn_14 : decode cX12_isIn 14 = .ok (.iconst 0, 1) := by decide +kernel
theorem dX12_isIn_15 : decode cX12_isIn 15 = .ok (.ireturn, 1) := by decide +kernel
theorem dX12_isIn_5 : decode cX12_isIn 5 = .ok (.iload_n 0, 1) := by decide +kernel
theorem dX12_isIn_6 : decode cX12_isIn 6 = .ok (.iload_n 2, 1) := by decide +kernel
theorem dX12_isIn_7 : decode cX12_isIn 7 = .ok (.if_icmp .gt 7, 3) := by decide +kernel
theorem dX12_isIn_10 : decode cX12_isIn 10 = .ok (.iconst 1, 1) := by decide +kernel
theorem dX12_isIn_11 : decode cX12_isIn 11 = .ok (.goto 4, 3) := by decide +kernel
set_option maxHeartbeats 8000000 in
set_option maxRecDepth 100000 in
theorem c_X12_isIn (l : Launch) (g : kG) (sz : Nat) (v : Int32) (lo : Int32) (hi : Int32) : kMi l g yX12_isIn cX12_isIn 3 (some .boolean) 1 0 0 [.int v, .int lo, .int hi] sz [] (fun (r : Int32) (u : Unit) => (r = 1 ∧ (Int32.toInt lo ≤ Int32.toInt v ∧ Int32.toInt v ≤ Int32.toInt hi)) ∨ (r = 0 ∧ ¬ (Int32.toInt lo ≤ Int32.toInt v ∧ Int32.toInt v ≤ Int32.toInt hi))) (fun (u : Unit) => ([] : va_W)) := by
  refine kMi.of (by decide) (Nat.le_of_ble_eq_true rfl) (fun p e s m below meth c A hx hb hr hml hown hts hlk hnm hKW hP hD hS hA ls hl => ?_)
  have hown : s.vm.findClass RX12 = some m.cls := hown
  have hl : lv_has ls 3 [(0, .int v), (1, .int lo), (2, .int hi)] := hl
  refine k_hide hP hS (fun H locs hP hS => ?_)
  refine lv_iload_n hx hb dX12_isIn_0 rfl (lv_at hl 0 rfl) ?_
  refine lv_iload_n hx hb dX12_isIn_1 rfl (lv_at hl 1 rfl) ?_
  refine lv_icmp_lt (tgt := 14) hx hb dX12_isIn_2 (by decide) (fun c_1 => ?_) (fun c_1 => ?_)
  · refine lv_iconst (v := 0) hx hb dX12_isIn_14 (by decide) ?_
    exact k_zret () [] hx hb hr hlk hP hD hS (by clear hP hD hS hA hts hKW hl; first | exact Or.inl ⟨rfl, by (first | omega | (simp only [Int32.lt_iff_toInt_lt, Int32.le_iff_toInt_le, ← Int32.toInt_inj] at *; omega) | (simp only [Int32.lt_iff_toInt_lt, Int32.le_iff_toInt_le, ← Int32.toInt_inj] at *; simp at *; omega) | (simp only [Int32.lt_iff_toInt_lt, Int32.le_iff_toInt_le, ← Int32.toInt_inj] at *; simp at *; done) | (simp at *; omega) | (simp at *; done))⟩ | exact Or.inr ⟨rfl, by (first | omega | (simp only [Int32.lt_iff_toInt_lt, Int32.le_iff_toInt_le, ← Int32.toInt_inj] at *; omega) | (simp only [Int32.lt_iff_toInt_lt, Int32.le_iff_toInt_le, ← Int32.toInt_inj] at *; simp at *; omega) | (simp only [Int32.lt_iff_toInt_lt, Int32.le_iff_toInt_le, ← Int32.toInt_inj] at *; simp at *; done) | (simp at *; omega) | (simp at *; done))⟩ | (exfalso; (first | omega | (simp only [Int32.lt_iff_toInt_lt, Int32.le_iff_toInt_le, ← Int32.toInt_inj] at *; omega) | (simp only [Int32.lt_iff_toInt_lt, Int32.le_iff_toInt_le, ← Int32.toInt_inj] at *; simp at *; omega) | (simp only [Int32.lt_iff_toInt_lt, Int32.le_iff_toInt_le, ← Int32.toInt_inj] at *; simp at *; done) | (simp at *; omega) | (simp at *; done)))) rfl rfl rfl rfl (Nat.le_of_ble_eq_true rfl) (Nat.le_of_ble_eq_true rfl) dX12_isIn_15
  · refine lv_iload_n hx hb dX12_isIn_5 rfl (lv_at hl 0 rfl) ?_
    refine lv_iload_n hx hb dX12_isIn_6 rfl (lv_at hl 2 rfl) ?_
    refine lv_icmp_gt (tgt := 14) hx hb dX12_isIn_7 (by decide) (fun c_2 => ?_) (fun c_2 => ?_)
    · refine lv_iconst (v := 0) hx hb dX12_isIn_14 (by decide) ?_
      exact k_zret () [] hx hb hr hlk hP hD hS (by clear hP hD hS hA hts hKW hl; first | exact Or.inl ⟨rfl, by (first | omega | (simp only [Int32.lt_iff_toInt_lt, Int32.le_iff_toInt_le, ← Int32.toInt_inj] at *; omega) | (simp only [Int32.lt_iff_toInt_lt, Int32.le_iff_toInt_le, ← Int32.toInt_inj] at *; simp at *; omega) | (simp only [Int32.lt_iff_toInt_lt, Int32.le_iff_toInt_le, ← Int32.toInt_inj] at *; simp at *; done) | (simp at *; omega) | (simp at *; done))⟩ | exact Or.inr ⟨rfl, by (first | omega | (simp only [Int32.lt_iff_toInt_lt, Int32.le_iff_toInt_le, ← Int32.toInt_inj] at *; omega) | (simp only [Int32.lt_iff_toInt_lt, Int32.le_iff_toInt_le, ← Int32.toInt_inj] at *; simp at *; omega) | (simp only [Int32.lt_iff_toInt_lt, Int32.le_iff_toInt_le, ← Int32.toInt_inj] at *; simp at *; done) | (simp at *; omega) | (simp at *; done))⟩ | (exfalso; (first | omega | (simp only [Int32.lt_iff_toInt_lt, Int32.le_iff_toInt_le, ← Int32.toInt_inj] at *; omega) | (simp only [Int32.lt_iff_toInt_lt, Int32.le_iff_toInt_le, ← Int32.toInt_inj] at *; simp at *; omega) | (simp only [Int32.lt_iff_toInt_lt, Int32.le_iff_toInt_le, ← Int32.toInt_inj] at *; simp at *; done) | (simp at *; omega) | (simp at *; done)))) rfl rfl rfl rfl (Nat.le_of_ble_eq_true rfl) (Nat.le_of_ble_eq_true rfl) dX12_isIn_15
    · refine lv_iconst (v := 1) hx hb dX12_isIn_10 (by decide) ?_
      refine lv_goto (tgt := 15) hx hb dX12_isIn_11 (by decide) ?_
      exact k_zret () [] hx hb hr hlk hP hD hS (by clear hP hD hS hA hts hKW hl; first | exact Or.inl ⟨rfl, by (first | omega | (simp only [Int32.lt_iff_toInt_lt, Int32.le_iff_toInt_le, ← Int32.toInt_inj] at *; omega) | (simp only [Int32.lt_iff_toInt_lt, Int32.le_iff_toInt_le, ← Int32.toInt_inj] at *; simp at *; omega) | (simp only [Int32.lt_iff_toInt_lt, Int32.le_iff_toInt_le, ← Int32.toInt_inj] at *; simp at *; done) | (simp at *; omega) | (simp at *; done))⟩ | exact Or.inr ⟨rfl, by (first | omega | (simp only [Int32.lt_iff_toInt_lt, Int32.le_iff_toInt_le, ← Int32.toInt_inj] at *; omega) | (simp only [Int32.lt_iff_toInt_lt, Int32.le_iff_toInt_le, ← Int32.toInt_inj] at *; simp at *; omega) | (simp only [Int32.lt_iff_toInt_lt, Int32.le_iff_toInt_le, ← Int32.toInt_inj] at *; simp at *; done) | (simp at *; omega) | (simp at *; done))⟩ | (exfalso; (first | omega | (simp only [Int32.lt_iff_toInt_lt, Int32.le_iff_toInt_le, ← Int32.toInt_inj] at *; omega) | (simp only [Int32.lt_iff_toInt_lt, Int32.le_iff_toInt_le, ← Int32.toInt_inj] at *; simp at *; omega) | (simp only [Int32.lt_iff_toInt_lt, Int32.le_iff_toInt_le, ← Int32.toInt_inj] at *; simp at *; done) | (simp at *; omega) | (simp at *; done)))) rfl rfl rfl rfl (Nat.le_of_ble_eq_true rfl) (Nat.le_of_ble_eq_true rfl) dX12_isIn_15
theorem dX11_isKind_0 : decode cX11_isKind 0 = .ok (.iload_n 0, 1) := by decide +kernel
theorem dX11_isKind_1 : decode cX11_isKind 1 = .ok (.iconst 0, 1) := by decide +kernel
theorem dX11_isKind_2 : decode cX11_isKind 2 = .ok (.iconst 3, 1) := by decide +kernel
theorem dX11_isKind_3 : decode cX11_isKind 3 = .ok (.invokestatic 51, 3) := by decide +kernel
theorem dX11_isKind_6 : decode cX11_isKind 6 = .ok (.ireturn, 1) := by decide +kernel
set_option maxHeartbeats 8000000 in
set_option maxRecDepth 100000 in
theorem c_X11_isKind (l : Launch) (g : kG) (sz : Nat) (v : Int32) : kMi l g yX11_isKind cX11_isKind 1 (some .boolean) 2 0 0 [.int v] sz [] (fun (r : Int32) (u : Unit) => (r = 1 ∧ ((0 : Int) ≤ Int32.toInt v ∧ Int32.toInt v ≤ 3)) ∨ (r = 0 ∧ ¬ ((0 : Int) ≤ Int32.toInt v ∧ Int32.toInt v ≤ 3))) (fun (u : Unit) => ([] : va_W)) := by
  refine kMi.of (by decide) (Nat.le_of_ble_eq_true rfl) (fun p e s m below meth c A hx hb hr hml hown hts hlk hnm hKW hP hD hS hA ls hl => ?_)
  have hown : s.vm.findClass RX11 = some m.cls := hown
  have hl : lv_has ls 1 [(0, .int v)] := hl
  refine k_hide hP hS (fun H locs hP hS => ?_)
  refine lv_iload_n hx hb dX11_isKind_0 rfl (lv_at hl 0 rfl) ?_
  refine lv_iconst (v := 0) hx hb dX11_isKind_1 (by decide) ?_
  refine lv_iconst (v := 3) hx hb dX11_isKind_2 (by decide) ?_
  refine k_Si [] [] (wr := []) hx hb hml hown hts hKW hP hD hS hA hl.1 (c_X11_isWithin l g _ v 0 3 ) wd_7_8 wd_1_2 wd_7_6 wd_7_7 yd_X11_isWithin ⟨(Nat.le_of_ble_eq_true rfl), (Nat.le_of_ble_eq_true rfl)⟩ rfl rfl rfl rfl (by decide) rfl (Nat.le_of_ble_eq_true rfl) dX11_isKind_3 ⟨(Nat.le_of_ble_eq_true rfl), (Nat.le_of_ble_eq_true rfl)⟩ (fun r_1 u_2 H locs hw_3 hP hD hS => ?_)
  have hP : va_P g.1 vwCl [] H := hP
  have hD : va_D A [] := hD
  rcases (show (r_1 = 1 ∧ (Int32.toInt 0 ≤ Int32.toInt v ∧ Int32.toInt v ≤ Int32.toInt 3)) ∨ (r_1 = 0 ∧ ¬ (Int32.toInt 0 ≤ Int32.toInt v ∧ Int32.toInt v ≤ Int32.toInt 3)) from hw_3) with ⟨rfl, hw_3b⟩ | ⟨rfl, hw_3b⟩ <;> clear hw_3
  · exact k_zret () [] hx hb hr hlk hP hD hS (by clear hP hD hS hA hts hKW hl; first | exact Or.inl ⟨rfl, by (first | omega | (simp only [Int32.lt_iff_toInt_lt, Int32.le_iff_toInt_le, ← Int32.toInt_inj] at *; omega) | (simp only [Int32.lt_iff_toInt_lt, Int32.le_iff_toInt_le, ← Int32.toInt_inj] at *; simp at *; omega) | (simp only [Int32.lt_iff_toInt_lt, Int32.le_iff_toInt_le, ← Int32.toInt_inj] at *; simp at *; done) | (simp at *; omega) | (simp at *; done))⟩ | exact Or.inr ⟨rfl, by (first | omega | (simp only [Int32.lt_iff_toInt_lt, Int32.le_iff_toInt_le, ← Int32.toInt_inj] at *; omega) | (simp only [Int32.lt_iff_toInt_lt, Int32.le_iff_toInt_le, ← Int32.toInt_inj] at *; simp at *; omega) | (simp only [Int32.lt_iff_toInt_lt, Int32.le_iff_toInt_le, ← Int32.toInt_inj] at *; simp at *; done) | (simp at *; omega) | (simp at *; done))⟩ | (exfalso; (first | omega | (simp only [Int32.lt_iff_toInt_lt, Int32.le_iff_toInt_le, ← Int32.toInt_inj] at *; omega) | (simp only [Int32.lt_iff_toInt_lt, Int32.le_iff_toInt_le, ← Int32.toInt_inj] at *; simp at *; omega) | (simp only [Int32.lt_iff_toInt_lt, Int32.le_iff_toInt_le, ← Int32.toInt_inj] at *; simp at *; done) | (simp at *; omega) | (simp at *; done)))) rfl rfl rfl rfl (Nat.le_of_ble_eq_true rfl) (Nat.le_of_ble_eq_true rfl) dX11_isKind_6
  · exact k_zret () [] hx hb hr hlk hP hD hS (by clear hP hD hS hA hts hKW hl; first | exact Or.inl ⟨rfl, by (first | omega | (simp only [Int32.lt_iff_toInt_lt, Int32.le_iff_toInt_le, ← Int32.toInt_inj] at *; omega) | (simp only [Int32.lt_iff_toInt_lt, Int32.le_iff_toInt_le, ← Int32.toInt_inj] at *; simp at *; omega) | (simp only [Int32.lt_iff_toInt_lt, Int32.le_iff_toInt_le, ← Int32.toInt_inj] at *; simp at *; done) | (simp at *; omega) | (simp at *; done))⟩ | exact Or.inr ⟨rfl, by (first | omega | (simp only [Int32.lt_iff_toInt_lt, Int32.le_iff_toInt_le, ← Int32.toInt_inj] at *; omega) | (simp only [Int32.lt_iff_toInt_lt, Int32.le_iff_toInt_le, ← Int32.toInt_inj] at *; simp at *; omega) | (simp only [Int32.lt_iff_toInt_lt, Int32.le_iff_toInt_le, ← Int32.toInt_inj] at *; simp at *; done) | (simp at *; omega) | (simp at *; done))⟩ | (exfalso; (first | omega | (simp only [Int32.lt_iff_toInt_lt, Int32.le_iff_toInt_le, ← Int32.toInt_inj] at *; omega) | (simp only [Int32.lt_iff_toInt_lt, Int32.le_iff_toInt_le, ← Int32.toInt_inj] at *; simp at *; omega) | (simp only [Int32.lt_iff_toInt_lt, Int32.le_iff_toInt_le, ← Int32.toInt_inj] at *; simp at *; done) | (simp at *; omega) | (simp at *; done)))) rfl rfl rfl rfl (Nat.le_of_ble_eq_true rfl) (Nat.le_of_ble_eq_true rfl) dX11_isKind_6
theorem dX11_isMonth_0 : decode cX11_isMonth 0 = .ok (.iload_n 0, 1) := by decide +kernel
theorem dX11_isMonth_1 : decode cX11_isMonth 1 = .ok (.iconst 0, 1) := by decide +kernel
theorem dX11_isMonth_2 : decode cX11_isMonth 2 = .ok (.bipush 60, 2) := by decide +kernel
theorem dX11_isMonth_4 : decode cX11_isMonth 4 = .ok (.invokestatic 51, 3) := by decide +kernel
theorem dX11_isMonth_7 : decode cX11_isMonth 7 = .ok (.ireturn, 1) := by decide +kernel
set_option maxHeartbeats 8000000 in
set_option maxRecDepth 100000 in
theorem c_X11_isMonth (l : Launch) (g : kG) (sz : Nat) (v : Int32) : kMi l g yX11_isMonth cX11_isMonth 1 (some .boolean) 2 0 0 [.int v] sz [] (fun (r : Int32) (u : Unit) => (r = 1 ∧ ((0 : Int) ≤ Int32.toInt v ∧ Int32.toInt v ≤ 60)) ∨ (r = 0 ∧ ¬ ((0 : Int) ≤ Int32.toInt v ∧ Int32.toInt v ≤ 60))) (fun (u : Unit) => ([] : va_W)) := by
  refine kMi.of (by decide) (Nat.le_of_ble_eq_true rfl) (fun p e s m below meth c A hx hb hr hml hown hts hlk hnm hKW hP hD hS hA ls hl => ?_)
  have hown : s.vm.findClass RX11 = some m.cls := hown
  have hl : lv_has ls 1 [(0, .int v)] := hl
  refine k_hide hP hS (fun H locs hP hS => ?_)
  refine lv_iload_n hx hb dX11_isMonth_0 rfl (lv_at hl 0 rfl) ?_
  refine lv_iconst (v := 0) hx hb dX11_isMonth_1 (by decide) ?_
  refine lv_bipush (v := 60) hx hb dX11_isMonth_2 (by decide) ?_
  refine k_Si [] [] (wr := []) hx hb hml hown hts hKW hP hD hS hA hl.1 (c_X11_isWithin l g _ v 0 60 ) wd_7_8 wd_1_2 wd_7_6 wd_7_7 yd_X11_isWithin ⟨(Nat.le_of_ble_eq_true rfl), (Nat.le_of_ble_eq_true rfl)⟩ rfl rfl rfl rfl (by decide) rfl (Nat.le_of_ble_eq_true rfl) dX11_isMonth_4 ⟨(Nat.le_of_ble_eq_true rfl), (Nat.le_of_ble_eq_true rfl)⟩ (fun r_1 u_2 H locs hw_3 hP hD hS => ?_)
  have hP : va_P g.1 vwCl [] H := hP
  have hD : va_D A [] := hD
  rcases (show (r_1 = 1 ∧ (Int32.toInt 0 ≤ Int32.toInt v ∧ Int32.toInt v ≤ Int32.toInt 60)) ∨ (r_1 = 0 ∧ ¬ (Int32.toInt 0 ≤ Int32.toInt v ∧ Int32.toInt v ≤ Int32.toInt 60)) from hw_3) with ⟨rfl, hw_3b⟩ | ⟨rfl, hw_3b⟩ <;> clear hw_3
  · exact k_zret () [] hx hb hr hlk hP hD hS (by clear hP hD hS hA hts hKW hl; first | exact Or.inl ⟨rfl, by (first | omega | (simp only [Int32.lt_iff_toInt_lt, Int32.le_iff_toInt_le, ← Int32.toInt_inj] at *; omega) | (simp only [Int32.lt_iff_toInt_lt, Int32.le_iff_toInt_le, ← Int32.toInt_inj] at *; simp at *; omega) | (simp only [Int32.lt_iff_toInt_lt, Int32.le_iff_toInt_le, ← Int32.toInt_inj] at *; simp at *; done) | (simp at *; omega) | (simp at *; done))⟩ | exact Or.inr ⟨rfl, by (first | omega | (simp only [Int32.lt_iff_toInt_lt, Int32.le_iff_toInt_le, ← Int32.toInt_inj] at *; omega) | (simp only [Int32.lt_iff_toInt_lt, Int32.le_iff_toInt_le, ← Int32.toInt_inj] at *; simp at *; omega) | (simp only [Int32.lt_iff_toInt_lt, Int32.le_iff_toInt_le, ← Int32.toInt_inj] at *; simp at *; done) | (simp at *; omega) | (simp at *; done))⟩ | (exfalso; (first | omega | (simp only [Int32.lt_iff_toInt_lt, Int32.le_iff_toInt_le, ← Int32.toInt_inj] at *; omega) | (simp only [Int32.lt_iff_toInt_lt, Int32.le_iff_toInt_le, ← Int32.toInt_inj] at *; simp at *; omega) | (simp only [Int32.lt_iff_toInt_lt, Int32.le_iff_toInt_le, ← Int32.toInt_inj] at *; simp at *; done) | (simp at *; omega) | (simp at *; done)))) rfl rfl rfl rfl (Nat.le_of_ble_eq_true rfl) (Nat.le_of_ble_eq_true rfl) dX11_isMonth_7
  · exact k_zret () [] hx hb hr hlk hP hD hS (by clear hP hD hS hA hts hKW hl; first | exact Or.inl ⟨rfl, by (first | omega | (simp only [Int32.lt_iff_toInt_lt, Int32.le_iff_toInt_le, ← Int32.toInt_inj] at *; omega) | (simp only [Int32.lt_iff_toInt_lt, Int32.le_iff_toInt_le, ← Int32.toInt_inj] at *; simp at *; omega) | (simp only [Int32.lt_iff_toInt_lt, Int32.le_iff_toInt_le, ← Int32.toInt_inj] at *; simp at *; done) | (simp at *; omega) | (simp at *; done))⟩ | exact Or.inr ⟨rfl, by (first | omega | (simp only [Int32.lt_iff_toInt_lt, Int32.le_iff_toInt_le, ← Int32.toInt_inj] at *; omega) | (simp only [Int32.lt_iff_toInt_lt, Int32.le_iff_toInt_le, ← Int32.toInt_inj] at *; simp at *; omega) | (simp only [Int32.lt_iff_toInt_lt, Int32.le_iff_toInt_le, ← Int32.toInt_inj] at *; simp at *; done) | (simp at *; omega) | (simp at *; done))⟩ | (exfalso; (first | omega | (simp only [Int32.lt_iff_toInt_lt, Int32.le_iff_toInt_le, ← Int32.toInt_inj] at *; omega) | (simp only [Int32.lt_iff_toInt_lt, Int32.le_iff_toInt_le, ← Int32.toInt_inj] at *; simp at *; omega) | (simp only [Int32.lt_iff_toInt_lt, Int32.le_iff_toInt_le, ← Int32.toInt_inj] at *; simp at *; done) | (simp at *; omega) | (simp at *; done)))) rfl rfl rfl rfl (Nat.le_of_ble_eq_true rfl) (Nat.le_of_ble_eq_true rfl) dX11_isMonth_7
theorem dX11_isSlot_0 : decode cX11_isSlot 0 = .ok (.iload_n 0, 1) := by decide +kernel
theorem dX11_isSlot_1 : decode cX11_isSlot 1 = .ok (.iconst 0, 1) := by decide +kernel
theorem dX11_isSlot_2 : decode cX11_isSlot 2 = .ok (.bipush 59, 2) := by decide +kernel
theorem dX11_isSlot_4 : decode cX11_isSlot 4 = .ok (.invokestatic 51, 3) := by decide +kernel
theorem dX11_isSlot_7 : decode cX11_isSlot 7 = .ok (.ireturn, 1) := by decide +kernel
set_option maxHeartbeats 8000000 in
set_option maxRecDepth 100000 in
theorem c_X11_isSlot (l : Launch) (g : kG) (sz : Nat) (v : Int32) : kMi l g yX11_isSlot cX11_isSlot 1 (some .boolean) 2 0 0 [.int v] sz [] (fun (r : Int32) (u : Unit) => (r = 1 ∧ ((0 : Int) ≤ Int32.toInt v ∧ Int32.toInt v ≤ 59)) ∨ (r = 0 ∧ ¬ ((0 : Int) ≤ Int32.toInt v ∧ Int32.toInt v ≤ 59))) (fun (u : Unit) => ([] : va_W)) := by
  refine kMi.of (by decide) (Nat.le_of_ble_eq_true rfl) (fun p e s m below meth c A hx hb hr hml hown hts hlk hnm hKW hP hD hS hA ls hl => ?_)
  have hown : s.vm.findClass RX11 = some m.cls := hown
  have hl : lv_has ls 1 [(0, .int v)] := hl
  refine k_hide hP hS (fun H locs hP hS => ?_)
  refine lv_iload_n hx hb dX11_isSlot_0 rfl (lv_at hl 0 rfl) ?_
  refine lv_iconst (v := 0) hx hb dX11_isSlot_1 (by decide) ?_
  refine lv_bipush (v := 59) hx hb dX11_isSlot_2 (by decide) ?_
  refine k_Si [] [] (wr := []) hx hb hml hown hts hKW hP hD hS hA hl.1 (c_X11_isWithin l g _ v 0 59 ) wd_7_8 wd_1_2 wd_7_6 wd_7_7 yd_X11_isWithin ⟨(Nat.le_of_ble_eq_true rfl), (Nat.le_of_ble_eq_true rfl)⟩ rfl rfl rfl rfl (by decide) rfl (Nat.le_of_ble_eq_true rfl) dX11_isSlot_4 ⟨(Nat.le_of_ble_eq_true rfl), (Nat.le_of_ble_eq_true rfl)⟩ (fun r_1 u_2 H locs hw_3 hP hD hS => ?_)
  have hP : va_P g.1 vwCl [] H := hP
  have hD : va_D A [] := hD
  rcases (show (r_1 = 1 ∧ (Int32.toInt 0 ≤ Int32.toInt v ∧ Int32.toInt v ≤ Int32.toInt 59)) ∨ (r_1 = 0 ∧ ¬ (Int32.toInt 0 ≤ Int32.toInt v ∧ Int32.toInt v ≤ Int32.toInt 59)) from hw_3) with ⟨rfl, hw_3b⟩ | ⟨rfl, hw_3b⟩ <;> clear hw_3
  · exact k_zret () [] hx hb hr hlk hP hD hS (by clear hP hD hS hA hts hKW hl; first | exact Or.inl ⟨rfl, by (first | omega | (simp only [Int32.lt_iff_toInt_lt, Int32.le_iff_toInt_le, ← Int32.toInt_inj] at *; omega) | (simp only [Int32.lt_iff_toInt_lt, Int32.le_iff_toInt_le, ← Int32.toInt_inj] at *; simp at *; omega) | (simp only [Int32.lt_iff_toInt_lt, Int32.le_iff_toInt_le, ← Int32.toInt_inj] at *; simp at *; done) | (simp at *; omega) | (simp at *; done))⟩ | exact Or.inr ⟨rfl, by (first | omega | (simp only [Int32.lt_iff_toInt_lt, Int32.le_iff_toInt_le, ← Int32.toInt_inj] at *; omega) | (simp only [Int32.lt_iff_toInt_lt, Int32.le_iff_toInt_le, ← Int32.toInt_inj] at *; simp at *; omega) | (simp only [Int32.lt_iff_toInt_lt, Int32.le_iff_toInt_le, ← Int32.toInt_inj] at *; simp at *; done) | (simp at *; omega) | (simp at *; done))⟩ | (exfalso; (first | omega | (simp only [Int32.lt_iff_toInt_lt, Int32.le_iff_toInt_le, ← Int32.toInt_inj] at *; omega) | (simp only [Int32.lt_iff_toInt_lt, Int32.le_iff_toInt_le, ← Int32.toInt_inj] at *; simp at *; omega) | (simp only [Int32.lt_iff_toInt_lt, Int32.le_iff_toInt_le, ← Int32.toInt_inj] at *; simp at *; done) | (simp at *; omega) | (simp at *; done)))) rfl rfl rfl rfl (Nat.le_of_ble_eq_true rfl) (Nat.le_of_ble_eq_true rfl) dX11_isSlot_7
  · exact k_zret () [] hx hb hr hlk hP hD hS (by clear hP hD hS hA hts hKW hl; first | exact Or.inl ⟨rfl, by (first | omega | (simp only [Int32.lt_iff_toInt_lt, Int32.le_iff_toInt_le, ← Int32.toInt_inj] at *; omega) | (simp only [Int32.lt_iff_toInt_lt, Int32.le_iff_toInt_le, ← Int32.toInt_inj] at *; simp at *; omega) | (simp only [Int32.lt_iff_toInt_lt, Int32.le_iff_toInt_le, ← Int32.toInt_inj] at *; simp at *; done) | (simp at *; omega) | (simp at *; done))⟩ | exact Or.inr ⟨rfl, by (first | omega | (simp only [Int32.lt_iff_toInt_lt, Int32.le_iff_toInt_le, ← Int32.toInt_inj] at *; omega) | (simp only [Int32.lt_iff_toInt_lt, Int32.le_iff_toInt_le, ← Int32.toInt_inj] at *; simp at *; omega) | (simp only [Int32.lt_iff_toInt_lt, Int32.le_iff_toInt_le, ← Int32.toInt_inj] at *; simp at *; done) | (simp at *; omega) | (simp at *; done))⟩ | (exfalso; (first | omega | (simp only [Int32.lt_iff_toInt_lt, Int32.le_iff_toInt_le, ← Int32.toInt_inj] at *; omega) | (simp only [Int32.lt_iff_toInt_lt, Int32.le_iff_toInt_le, ← Int32.toInt_inj] at *; simp at *; omega) | (simp only [Int32.lt_iff_toInt_lt, Int32.le_iff_toInt_le, ← Int32.toInt_inj] at *; simp at *; done) | (simp at *; omega) | (simp at *; done)))) rfl rfl rfl rfl (Nat.le_of_ble_eq_true rfl) (Nat.le_of_ble_eq_true rfl) dX11_isSlot_7
theorem dX11_isPerson_0 : decode cX11_isPerson 0 = .ok (.iload_n 0, 1) := by decide +kernel
theorem dX11_isPerson_1 : decode cX11_isPerson 1 = .ok (.iconst 0, 1) := by decide +kernel
theorem dX11_isPerson_2 : decode cX11_isPerson 2 = .ok (.bipush 15, 2) := by decide +kernel
theorem dX11_isPerson_4 : decode cX11_isPerson 4 = .ok (.invokestatic 51, 3) := by decide +kernel
theorem dX11_isPerson_7 : decode cX11_isPerson 7 = .ok (.ireturn, 1) := by decide +kernel
set_option maxHeartbeats 8000000 in
set_option maxRecDepth 100000 in
theorem c_X11_isPerson (l : Launch) (g : kG) (sz : Nat) (v : Int32) : kMi l g yX11_isPerson cX11_isPerson 1 (some .boolean) 2 0 0 [.int v] sz [] (fun (r : Int32) (u : Unit) => (r = 1 ∧ ((0 : Int) ≤ Int32.toInt v ∧ Int32.toInt v ≤ 15)) ∨ (r = 0 ∧ ¬ ((0 : Int) ≤ Int32.toInt v ∧ Int32.toInt v ≤ 15))) (fun (u : Unit) => ([] : va_W)) := by
  refine kMi.of (by decide) (Nat.le_of_ble_eq_true rfl) (fun p e s m below meth c A hx hb hr hml hown hts hlk hnm hKW hP hD hS hA ls hl => ?_)
  have hown : s.vm.findClass RX11 = some m.cls := hown
  have hl : lv_has ls 1 [(0, .int v)] := hl
  refine k_hide hP hS (fun H locs hP hS => ?_)
  refine lv_iload_n hx hb dX11_isPerson_0 rfl (lv_at hl 0 rfl) ?_
  refine lv_iconst (v := 0) hx hb dX11_isPerson_1 (by decide) ?_
  refine lv_bipush (v := 15) hx hb dX11_isPerson_2 (by decide) ?_
  refine k_Si [] [] (wr := []) hx hb hml hown hts hKW hP hD hS hA hl.1 (c_X11_isWithin l g _ v 0 15 ) wd_7_8 wd_1_2 wd_7_6 wd_7_7 yd_X11_isWithin ⟨(Nat.le_of_ble_eq_true rfl), (Nat.le_of_ble_eq_true rfl)⟩ rfl rfl rfl rfl (by decide) rfl (Nat.le_of_ble_eq_true rfl) dX11_isPerson_4 ⟨(Nat.le_of_ble_eq_true rfl), (Nat.le_of_ble_eq_true rfl)⟩ (fun r_1 u_2 H locs hw_3 hP hD hS => ?_)
  have hP : va_P g.1 vwCl [] H := hP
  have hD : va_D A [] := hD
  rcases (show (r_1 = 1 ∧ (Int32.toInt 0 ≤ Int32.toInt v ∧ Int32.toInt v ≤ Int32.toInt 15)) ∨ (r_1 = 0 ∧ ¬ (Int32.toInt 0 ≤ Int32.toInt v ∧ Int32.toInt v ≤ Int32.toInt 15)) from hw_3) with ⟨rfl, hw_3b⟩ | ⟨rfl, hw_3b⟩ <;> clear hw_3
  · exact k_zret () [] hx hb hr hlk hP hD hS (by clear hP hD hS hA hts hKW hl; first | exact Or.inl ⟨rfl, by (first | omega | (simp only [Int32.lt_iff_toInt_lt, Int32.le_iff_toInt_le, ← Int32.toInt_inj] at *; omega) | (simp only [Int32.lt_iff_toInt_lt, Int32.le_iff_toInt_le, ← Int32.toInt_inj] at *; simp at *; omega) | (simp only [Int32.lt_iff_toInt_lt, Int32.le_iff_toInt_le, ← Int32.toInt_inj] at *; simp at *; done) | (simp at *; omega) | (simp at *; done))⟩ | exact Or.inr ⟨rfl, by (first | omega | (simp only [Int32.lt_iff_toInt_lt, Int32.le_iff_toInt_le, ← Int32.toInt_inj] at *; omega) | (simp only [Int32.lt_iff_toInt_lt, Int32.le_iff_toInt_le, ← Int32.toInt_inj] at *; simp at *; omega) | (simp only [Int32.lt_iff_toInt_lt, Int32.le_iff_toInt_le, ← Int32.toInt_inj] at *; simp at *; done) | (simp at *; omega) | (simp at *; done))⟩ | (exfalso; (first | omega | (simp only [Int32.lt_iff_toInt_lt, Int32.le_iff_toInt_le, ← Int32.toInt_inj] at *; omega) | (simp only [Int32.lt_iff_toInt_lt, Int32.le_iff_toInt_le, ← Int32.toInt_inj] at *; simp at *; omega) | (simp only [Int32.lt_iff_toInt_lt, Int32.le_iff_toInt_le, ← Int32.toInt_inj] at *; simp at *; done) | (simp at *; omega) | (simp at *; done)))) rfl rfl rfl rfl (Nat.le_of_ble_eq_true rfl) (Nat.le_of_ble_eq_true rfl) dX11_isPerson_7
  · exact k_zret () [] hx hb hr hlk hP hD hS (by clear hP hD hS hA hts hKW hl; first | exact Or.inl ⟨rfl, by (first | omega | (simp only [Int32.lt_iff_toInt_lt, Int32.le_iff_toInt_le, ← Int32.toInt_inj] at *; omega) | (simp only [Int32.lt_iff_toInt_lt, Int32.le_iff_toInt_le, ← Int32.toInt_inj] at *; simp at *; omega) | (simp only [Int32.lt_iff_toInt_lt, Int32.le_iff_toInt_le, ← Int32.toInt_inj] at *; simp at *; done) | (simp at *; omega) | (simp at *; done))⟩ | exact Or.inr ⟨rfl, by (first | omega | (simp only [Int32.lt_iff_toInt_lt, Int32.le_iff_toInt_le, ← Int32.toInt_inj] at *; omega) | (simp only [Int32.lt_iff_toInt_lt, Int32.le_iff_toInt_le, ← Int32.toInt_inj] at *; simp at *; omega) | (simp only [Int32.lt_iff_toInt_lt, Int32.le_iff_toInt_le, ← Int32.toInt_inj] at *; simp at *; done) | (simp at *; omega) | (simp at *; done))⟩ | (exfalso; (first | omega | (simp only [Int32.lt_iff_toInt_lt, Int32.le_iff_toInt_le, ← Int32.toInt_inj] at *; omega) | (simp only [Int32.lt_iff_toInt_lt, Int32.le_iff_toInt_le, ← Int32.toInt_inj] at *; simp at *; omega) | (simp only [Int32.lt_iff_toInt_lt, Int32.le_iff_toInt_le, ← Int32.toInt_inj] at *; simp at *; done) | (simp at *; omega) | (simp at *; done)))) rfl rfl rfl rfl (Nat.le_of_ble_eq_true rfl) (Nat.le_of_ble_eq_true rfl) dX11_isPerson_7
theorem dX11_isSheet_0 : decode cX11_isSheet 0 = .ok (.iload_n 0, 1) := by decide +kernel
theorem dX11_isSheet_1 : decode cX11_isSheet 1 = .ok (.iconst 0, 1) := by decide +kernel
theorem dX11_isSheet_2 : decode cX11_isSheet 2 = .ok (.iconst 3, 1) := by decide +kernel
theorem dX11_isSheet_3 : decode cX11_isSheet 3 = .ok (.invokestatic 51, 3) := by decide +kernel
theorem dX11_isSheet_6 : decode cX11_isSheet 6 = .ok (.ireturn, 1) := by decide +kernel
set_option maxHeartbeats 8000000 in
set_option maxRecDepth 100000 in
theorem c_X11_isSheet (l : Launch) (g : kG) (sz : Nat) (v : Int32) : kMi l g yX11_isSheet cX11_isSheet 1 (some .boolean) 2 0 0 [.int v] sz [] (fun (r : Int32) (u : Unit) => (r = 1 ∧ ((0 : Int) ≤ Int32.toInt v ∧ Int32.toInt v ≤ 3)) ∨ (r = 0 ∧ ¬ ((0 : Int) ≤ Int32.toInt v ∧ Int32.toInt v ≤ 3))) (fun (u : Unit) => ([] : va_W)) := by
  refine kMi.of (by decide) (Nat.le_of_ble_eq_true rfl) (fun p e s m below meth c A hx hb hr hml hown hts hlk hnm hKW hP hD hS hA ls hl => ?_)
  have hown : s.vm.findClass RX11 = some m.cls := hown
  have hl : lv_has ls 1 [(0, .int v)] := hl
  refine k_hide hP hS (fun H locs hP hS => ?_)
  refine lv_iload_n hx hb dX11_isSheet_0 rfl (lv_at hl 0 rfl) ?_
  refine lv_iconst (v := 0) hx hb dX11_isSheet_1 (by decide) ?_
  refine lv_iconst (v := 3) hx hb dX11_isSheet_2 (by decide) ?_
  refine k_Si [] [] (wr := []) hx hb hml hown hts hKW hP hD hS hA hl.1 (c_X11_isWithin l g _ v 0 3 ) wd_7_8 wd_1_2 wd_7_6 wd_7_7 yd_X11_isWithin ⟨(Nat.le_of_ble_eq_true rfl), (Nat.le_of_ble_eq_true rfl)⟩ rfl rfl rfl rfl (by decide) rfl (Nat.le_of_ble_eq_true rfl) dX11_isSheet_3 ⟨(Nat.le_of_ble_eq_true rfl), (Nat.le_of_ble_eq_true rfl)⟩ (fun r_1 u_2 H locs hw_3 hP hD hS => ?_)
  have hP : va_P g.1 vwCl [] H := hP
  have hD : va_D A [] := hD
  rcases (show (r_1 = 1 ∧ (Int32.toInt 0 ≤ Int32.toInt v ∧ Int32.toInt v ≤ Int32.toInt 3)) ∨ (r_1 = 0 ∧ ¬ (Int32.toInt 0 ≤ Int32.toInt v ∧ Int32.toInt v ≤ Int32.toInt 3)) from hw_3) with ⟨rfl, hw_3b⟩ | ⟨rfl, hw_3b⟩ <;> clear hw_3
  · exact k_zret () [] hx hb hr hlk hP hD hS (by clear hP hD hS hA hts hKW hl; first | exact Or.inl ⟨rfl, by (first | omega | (simp only [Int32.lt_iff_toInt_lt, Int32.le_iff_toInt_le, ← Int32.toInt_inj] at *; omega) | (simp only [Int32.lt_iff_toInt_lt, Int32.le_iff_toInt_le, ← Int32.toInt_inj] at *; simp at *; omega) | (simp only [Int32.lt_iff_toInt_lt, Int32.le_iff_toInt_le, ← Int32.toInt_inj] at *; simp at *; done) | (simp at *; omega) | (simp at *; done))⟩ | exact Or.inr ⟨rfl, by (first | omega | (simp only [Int32.lt_iff_toInt_lt, Int32.le_iff_toInt_le, ← Int32.toInt_inj] at *; omega) | (simp only [Int32.lt_iff_toInt_lt, Int32.le_iff_toInt_le, ← Int32.toInt_inj] at *; simp at *; omega) | (simp only [Int32.lt_iff_toInt_lt, Int32.le_iff_toInt_le, ← Int32.toInt_inj] at *; simp at *; done) | (simp at *; omega) | (simp at *; done))⟩ | (exfalso; (first | omega | (simp only [Int32.lt_iff_toInt_lt, Int32.le_iff_toInt_le, ← Int32.toInt_inj] at *; omega) | (simp only [Int32.lt_iff_toInt_lt, Int32.le_iff_toInt_le, ← Int32.toInt_inj] at *; simp at *; omega) | (simp only [Int32.lt_iff_toInt_lt, Int32.le_iff_toInt_le, ← Int32.toInt_inj] at *; simp at *; done) | (simp at *; omega) | (simp at *; done)))) rfl rfl rfl rfl (Nat.le_of_ble_eq_true rfl) (Nat.le_of_ble_eq_true rfl) dX11_isSheet_6
  · exact k_zret () [] hx hb hr hlk hP hD hS (by clear hP hD hS hA hts hKW hl; first | exact Or.inl ⟨rfl, by (first | omega | (simp only [Int32.lt_iff_toInt_lt, Int32.le_iff_toInt_le, ← Int32.toInt_inj] at *; omega) | (simp only [Int32.lt_iff_toInt_lt, Int32.le_iff_toInt_le, ← Int32.toInt_inj] at *; simp at *; omega) | (simp only [Int32.lt_iff_toInt_lt, Int32.le_iff_toInt_le, ← Int32.toInt_inj] at *; simp at *; done) | (simp at *; omega) | (simp at *; done))⟩ | exact Or.inr ⟨rfl, by (first | omega | (simp only [Int32.lt_iff_toInt_lt, Int32.le_iff_toInt_le, ← Int32.toInt_inj] at *; omega) | (simp only [Int32.lt_iff_toInt_lt, Int32.le_iff_toInt_le, ← Int32.toInt_inj] at *; simp at *; omega) | (simp only [Int32.lt_iff_toInt_lt, Int32.le_iff_toInt_le, ← Int32.toInt_inj] at *; simp at *; done) | (simp at *; omega) | (simp at *; done))⟩ | (exfalso; (first | omega | (simp only [Int32.lt_iff_toInt_lt, Int32.le_iff_toInt_le, ← Int32.toInt_inj] at *; omega) | (simp only [Int32.lt_iff_toInt_lt, Int32.le_iff_toInt_le, ← Int32.toInt_inj] at *; simp at *; omega) | (simp only [Int32.lt_iff_toInt_lt, Int32.le_iff_toInt_le, ← Int32.toInt_inj] at *; simp at *; done) | (simp at *; omega) | (simp at *; done)))) rfl rfl rfl rfl (Nat.le_of_ble_eq_true rfl) (Nat.le_of_ble_eq_true rfl) dX11_isSheet_6
theorem dX12_isMonth_0 : decode cX12_isMonth 0 = .ok (.iload_n 0, 1) := by decide +kernel
theorem dX12_isMonth_1 : decode cX12_isMonth 1 = .ok (.iconst 0, 1) := by decide +kernel
theorem dX12_isMonth_2 : decode cX12_isMonth 2 = .ok (.bipush 60, 2) := by decide +kernel
theorem dX12_isMonth_4 : decode cX12_isMonth 4 = .ok (.invokestatic 64, 3) := by decide +kernel
theorem dX12_isMonth_7 : decode cX12_isMonth 7 = .ok (.ireturn, 1) := by decide +kernel
set_option maxHeartbeats 8000000 in
set_option maxRecDepth 100000 in
theorem c_X12_isMonth (l : Launch) (g : kG) (sz : Nat) (v : Int32) : kMi l g yX12_isMonth cX12_isMonth 1 (some .boolean) 2 0 0 [.int v] sz [] (fun (r : Int32) (u : Unit) => (r = 1 ∧ ((0 : Int) ≤ Int32.toInt v ∧ Int32.toInt v ≤ 60)) ∨ (r = 0 ∧ ¬ ((0 : Int) ≤ Int32.toInt v ∧ Int32.toInt v ≤ 60))) (fun (u : Unit) => ([] : va_W)) := by
  refine kMi.of (by decide) (Nat.le_of_ble_eq_true rfl) (fun p e s m below meth c A hx hb hr hml hown hts hlk hnm hKW hP hD hS hA ls hl => ?_)
  have hown : s.vm.findClass RX12 = some m.cls := hown
  have hl : lv_has ls 1 [(0, .int v)] := hl
  refine k_hide hP hS (fun H locs hP hS => ?_)
  refine lv_iload_n hx hb dX12_isMonth_0 rfl (lv_at hl 0 rfl) ?_
  refine lv_iconst (v := 0) hx hb dX12_isMonth_1 (by decide) ?_
  refine lv_bipush (v := 60) hx hb dX12_isMonth_2 (by decide) ?_
  refine k_Si [] [] (wr := []) hx hb hml hown hts hKW hP hD hS hA hl.1 (c_X12_isIn l g _ v 0 60 ) wd_10_11 wd_1_5 wd_10_9 wd_10_10 yd_X12_isIn ⟨(Nat.le_of_ble_eq_true rfl), (Nat.le_of_ble_eq_true rfl)⟩ rfl rfl rfl rfl (by decide) rfl (Nat.le_of_ble_eq_true rfl) dX12_isMonth_4 ⟨(Nat.le_of_ble_eq_true rfl), (Nat.le_of_ble_eq_true rfl)⟩ (fun r_1 u_2 H locs hw_3 hP hD hS => ?_)
  have hP : va_P g.1 vwCl [] H := hP
  have hD : va_D A [] := hD
  rcases (show (r_1 = 1 ∧ (Int32.toInt 0 ≤ Int32.toInt v ∧ Int32.toInt v ≤ Int32.toInt 60)) ∨ (r_1 = 0 ∧ ¬ (Int32.toInt 0 ≤ Int32.toInt v ∧ Int32.toInt v ≤ Int32.toInt 60)) from hw_3) with ⟨rfl, hw_3b⟩ | ⟨rfl, hw_3b⟩ <;> clear hw_3
  · exact k_zret () [] hx hb hr hlk hP hD hS (by clear hP hD hS hA hts hKW hl; first | exact Or.inl ⟨rfl, by (first | omega | (simp only [Int32.lt_iff_toInt_lt, Int32.le_iff_toInt_le, ← Int32.toInt_inj] at *; omega) | (simp only [Int32.lt_iff_toInt_lt, Int32.le_iff_toInt_le, ← Int32.toInt_inj] at *; simp at *; omega) | (simp only [Int32.lt_iff_toInt_lt, Int32.le_iff_toInt_le, ← Int32.toInt_inj] at *; simp at *; done) | (simp at *; omega) | (simp at *; done))⟩ | exact Or.inr ⟨rfl, by (first | omega | (simp only [Int32.lt_iff_toInt_lt, Int32.le_iff_toInt_le, ← Int32.toInt_inj] at *; omega) | (simp only [Int32.lt_iff_toInt_lt, Int32.le_iff_toInt_le, ← Int32.toInt_inj] at *; simp at *; omega) | (simp only [Int32.lt_iff_toInt_lt, Int32.le_iff_toInt_le, ← Int32.toInt_inj] at *; simp at *; done) | (simp at *; omega) | (simp at *; done))⟩ | (exfalso; (first | omega | (simp only [Int32.lt_iff_toInt_lt, Int32.le_iff_toInt_le, ← Int32.toInt_inj] at *; omega) | (simp only [Int32.lt_iff_toInt_lt, Int32.le_iff_toInt_le, ← Int32.toInt_inj] at *; simp at *; omega) | (simp only [Int32.lt_iff_toInt_lt, Int32.le_iff_toInt_le, ← Int32.toInt_inj] at *; simp at *; done) | (simp at *; omega) | (simp at *; done)))) rfl rfl rfl rfl (Nat.le_of_ble_eq_true rfl) (Nat.le_of_ble_eq_true rfl) dX12_isMonth_7
  · exact k_zret () [] hx hb hr hlk hP hD hS (by clear hP hD hS hA hts hKW hl; first | exact Or.inl ⟨rfl, by (first | omega | (simp only [Int32.lt_iff_toInt_lt, Int32.le_iff_toInt_le, ← Int32.toInt_inj] at *; omega) | (simp only [Int32.lt_iff_toInt_lt, Int32.le_iff_toInt_le, ← Int32.toInt_inj] at *; simp at *; omega) | (simp only [Int32.lt_iff_toInt_lt, Int32.le_iff_toInt_le, ← Int32.toInt_inj] at *; simp at *; done) | (simp at *; omega) | (simp at *; done))⟩ | exact Or.inr ⟨rfl, by (first | omega | (simp only [Int32.lt_iff_toInt_lt, Int32.le_iff_toInt_le, ← Int32.toInt_inj] at *; omega) | (simp only [Int32.lt_iff_toInt_lt, Int32.le_iff_toInt_le, ← Int32.toInt_inj] at *; simp at *; omega) | (simp only [Int32.lt_iff_toInt_lt, Int32.le_iff_toInt_le, ← Int32.toInt_inj] at *; simp at *; done) | (simp at *; omega) | (simp at *; done))⟩ | (exfalso; (first | omega | (simp only [Int32.lt_iff_toInt_lt, Int32.le_iff_toInt_le, ← Int32.toInt_inj] at *; omega) | (simp only [Int32.lt_iff_toInt_lt, Int32.le_iff_toInt_le, ← Int32.toInt_inj] at *; simp at *; omega) | (simp only [Int32.lt_iff_toInt_lt, Int32.le_iff_toInt_le, ← Int32.toInt_inj] at *; simp at *; done) | (simp at *; omega) | (simp at *; done)))) rfl rfl rfl rfl (Nat.le_of_ble_eq_true rfl) (Nat.le_of_ble_eq_true rfl) dX12_isMonth_7
theorem dX12_isSheet_0 : decode cX12_isSheet 0 = .ok (.iload_n 0, 1) := by decide +kernel
theorem dX12_isSheet_1 : decode cX12_isSheet 1 = .ok (.iconst 0, 1) := by decide +kernel
theorem dX12_isSheet_2 : decode cX12_isSheet 2 = .ok (.iconst 3, 1) := by decide +kernel
theorem dX12_isSheet_3 : decode cX12_isSheet 3 = .ok (.invokestatic 64, 3) := by decide +kernel
theorem dX12_isSheet_6 : decode cX12_isSheet 6 = .ok (.ireturn, 1) := by decide +kernel
set_option maxHeartbeats 8000000 in
set_option maxRecDepth 100000 in
theorem c_X12_isSheet (l : Launch) (g : kG) (sz : Nat) (v : Int32) : kMi l g yX12_isSheet cX12_isSheet 1 (some .boolean) 2 0 0 [.int v] sz [] (fun (r : Int32) (u : Unit) => (r = 1 ∧ ((0 : Int) ≤ Int32.toInt v ∧ Int32.toInt v ≤ 3)) ∨ (r = 0 ∧ ¬ ((0 : Int) ≤ Int32.toInt v ∧ Int32.toInt v ≤ 3))) (fun (u : Unit) => ([] : va_W)) := by
  refine kMi.of (by decide) (Nat.le_of_ble_eq_true rfl) (fun p e s m below meth c A hx hb hr hml hown hts hlk hnm hKW hP hD hS hA ls hl => ?_)
  have hown : s.vm.findClass RX12 = some m.cls := hown
  have hl : lv_has ls 1 [(0, .int v)] := hl
  refine k_hide hP hS (fun H locs hP hS => ?_)
  refine lv_iload_n hx hb dX12_isSheet_0 rfl (lv_at hl 0 rfl) ?_
  refine lv_iconst (v := 0) hx hb dX12_isSheet_1 (by decide) ?_
  refine lv_iconst (v := 3) hx hb dX12_isSheet_2 (by decide) ?_
  refine k_Si [] [] (wr := []) hx hb hml hown hts hKW hP hD hS hA hl.1 (c_X12_isIn l g _ v 0 3 ) wd_10_11 wd_1_5 wd_10_9 wd_10_10 yd_X12_isIn ⟨(Nat.le_of_ble_eq_true rfl), (Nat.le_of_ble_eq_true rfl)⟩ rfl rfl rfl rfl (by decide) rfl (Nat.le_of_ble_eq_true rfl) dX12_isSheet_3 ⟨(Nat.le_of_ble_eq_true rfl), (Nat.le_of_ble_eq_true rfl)⟩ (fun r_1 u_2 H locs hw_3 hP hD hS => ?_)
  have hP : va_P g.1 vwCl [] H := hP
  have hD : va_D A [] := hD
  rcases (show (r_1 = 1 ∧ (Int32.toInt 0 ≤ Int32.toInt v ∧ Int32.toInt v ≤ Int32.toInt 3)) ∨ (r_1 = 0 ∧ ¬ (Int32.toInt 0 ≤ Int32.toInt v ∧ Int32.toInt v ≤ Int32.toInt 3)) from hw_3) with ⟨rfl, hw_3b⟩ | ⟨rfl, hw_3b⟩ <;> clear hw_3
  · exact k_zret () [] hx hb hr hlk hP hD hS (by clear hP hD hS hA hts hKW hl; first | exact Or.inl ⟨rfl, by (first | omega | (simp only [Int32.lt_iff_toInt_lt, Int32.le_iff_toInt_le, ← Int32.toInt_inj] at *; omega) | (simp only [Int32.lt_iff_toInt_lt, Int32.le_iff_toInt_le, ← Int32.toInt_inj] at *; simp at *; omega) | (simp only [Int32.lt_iff_toInt_lt, Int32.le_iff_toInt_le, ← Int32.toInt_inj] at *; simp at *; done) | (simp at *; omega) | (simp at *; done))⟩ | exact Or.inr ⟨rfl, by (first | omega | (simp only [Int32.lt_iff_toInt_lt, Int32.le_iff_toInt_le, ← Int32.toInt_inj] at *; omega) | (simp only [Int32.lt_iff_toInt_lt, Int32.le_iff_toInt_le, ← Int32.toInt_inj] at *; simp at *; omega) | (simp only [Int32.lt_iff_toInt_lt, Int32.le_iff_toInt_le, ← Int32.toInt_inj] at *; simp at *; done) | (simp at *; omega) | (simp at *; done))⟩ | (exfalso; (first | omega | (simp only [Int32.lt_iff_toInt_lt, Int32.le_iff_toInt_le, ← Int32.toInt_inj] at *; omega) | (simp only [Int32.lt_iff_toInt_lt, Int32.le_iff_toInt_le, ← Int32.toInt_inj] at *; simp at *; omega) | (simp only [Int32.lt_iff_toInt_lt, Int32.le_iff_toInt_le, ← Int32.toInt_inj] at *; simp at *; done) | (simp at *; omega) | (simp at *; done)))) rfl rfl rfl rfl (Nat.le_of_ble_eq_true rfl) (Nat.le_of_ble_eq_true rfl) dX12_isSheet_6
  · exact k_zret () [] hx hb hr hlk hP hD hS (by clear hP hD hS hA hts hKW hl; first | exact Or.inl ⟨rfl, by (first | omega | (simp only [Int32.lt_iff_toInt_lt, Int32.le_iff_toInt_le, ← Int32.toInt_inj] at *; omega) | (simp only [Int32.lt_iff_toInt_lt, Int32.le_iff_toInt_le, ← Int32.toInt_inj] at *; simp at *; omega) | (simp only [Int32.lt_iff_toInt_lt, Int32.le_iff_toInt_le, ← Int32.toInt_inj] at *; simp at *; done) | (simp at *; omega) | (simp at *; done))⟩ | exact Or.inr ⟨rfl, by (first | omega | (simp only [Int32.lt_iff_toInt_lt, Int32.le_iff_toInt_le, ← Int32.toInt_inj] at *; omega) | (simp only [Int32.lt_iff_toInt_lt, Int32.le_iff_toInt_le, ← Int32.toInt_inj] at *; simp at *; omega) | (simp only [Int32.lt_iff_toInt_lt, Int32.le_iff_toInt_le, ← Int32.toInt_inj] at *; simp at *; done) | (simp at *; omega) | (simp at *; done))⟩ | (exfalso; (first | omega | (simp only [Int32.lt_iff_toInt_lt, Int32.le_iff_toInt_le, ← Int32.toInt_inj] at *; omega) | (simp only [Int32.lt_iff_toInt_lt, Int32.le_iff_toInt_le, ← Int32.toInt_inj] at *; simp at *; omega) | (simp only [Int32.lt_iff_toInt_lt, Int32.le_iff_toInt_le, ← Int32.toInt_inj] at *; simp at *; done) | (simp at *; omega) | (simp at *; done)))) rfl rfl rfl rfl (Nat.le_of_ble_eq_true rfl) (Nat.le_of_ble_eq_true rfl) dX12_isSheet_6
theorem dX11_isUnder_0 : decode cX11_isUnder 0 = .ok (.iload_n 0, 1) := by decide +kernel
theorem dX11_isUnder_1 : decode cX11_isUnder 1 = .ok (.iload_n 1, 1) := by decide +kernel
theorem dX11_isUnder_2 : decode cX11_isUnder 2 = .ok (.if_icmp .eq 17, 3) := by decide +kernel
theorem dX11_isUnder_19 : decode cX11_isUnder 19 = .ok (.iconst 1, 1) := by decide +kernel
theorem dX11_isUnder_20 : decode cX11_isUnder 20 = .ok (.goto 4, 3) := by decide +kernel
theorem dX11_isUnder_24 : decode cX11_isUnder 24 = .ok (.ireturn, 1) := by decide +kernel
theorem dX11_isUnder_5 : decode cX11_isUnder 5 = .ok (.iload_n 1, 1) := by decide +kernel
theorem dX11_isUnder_6 : decode cX11_isUnder 6 = .ok (.ifCond .eq 13, 3) := by decide +kernel
theorem dX11_isUnder_9 : decode cX11_isUnder 9 = .ok (.iload_n 0, 1) := by decide +kernel
theorem dX11_isUnder_10 : decode cX11_isUnder 10 = .ok (.iconst 2, 1) := by decide +kernel
theorem dX11_isUnder_11 : decode cX11_isUnder 11 = .ok (.if_icmp .ne 12, 3) := by decide +kernel
theorem dX11_isUnder_23 : decode cX11_isUnder 23 = .ok (.iconst 0, 1) := by decide +kernel
theorem dX11_isUnder_14 : decode cX11_isUnder 14 = .ok (.iload_n 1, 1) := by decide +kernel
theorem dX11_isUnder_15 : decode cX11_isUnder 15 = .ok (.iconst 1, 1) := by decide +kernel
theorem dX11_isUnder_16 : decode cX11_isUnder 16 = .ok (.if_icmp .ne 7, 3) := by decide +kernel
set_option maxHeartbeats 8000000 in
set_option maxRecDepth 100000 in
theorem c_X11_isUnder (l : Launch) (g : kG) (sz : Nat) (v : Int32) (w : Int32) : kMi l g yX11_isUnder cX11_isUnder 2 (some .boolean) 1 0 0 [.int v, .int w] sz [] (fun (r : Int32) (u : Unit) => r = 1 ∨ r = 0) (fun (u : Unit) => ([] : va_W)) := by
  refine kMi.of (by decide) (Nat.le_of_ble_eq_true rfl) (fun p e s m below meth c A hx hb hr hml hown hts hlk hnm hKW hP hD hS hA ls hl => ?_)
  have hown : s.vm.findClass RX11 = some m.cls := hown
  have hl : lv_has ls 2 [(0, .int v), (1, .int w)] := hl
  refine k_hide hP hS (fun H locs hP hS => ?_)
  refine lv_iload_n hx hb dX11_isUnder_0 rfl (lv_at hl 0 rfl) ?_
  refine lv_iload_n hx hb dX11_isUnder_1 rfl (lv_at hl 1 rfl) ?_
  refine lv_icmp_eq (tgt := 19) hx hb dX11_isUnder_2 (by decide) (fun c_1 => ?_) (fun c_1 => ?_)
  · refine lv_iconst (v := 1) hx hb dX11_isUnder_19 (by decide) ?_
    refine lv_goto (tgt := 24) hx hb dX11_isUnder_20 (by decide) ?_
    exact k_zret () [] hx hb hr hlk hP hD hS (Or.inl rfl) rfl rfl rfl rfl (Nat.le_of_ble_eq_true rfl) (Nat.le_of_ble_eq_true rfl) dX11_isUnder_24
  · refine lv_iload_n hx hb dX11_isUnder_5 rfl (lv_at hl 1 rfl) ?_
    refine lv_if_eq (tgt := 19) hx hb dX11_isUnder_6 (by decide) (fun c_2 => ?_) (fun c_2 => ?_)
    · refine lv_iconst (v := 1) hx hb dX11_isUnder_19 (by decide) ?_
      refine lv_goto (tgt := 24) hx hb dX11_isUnder_20 (by decide) ?_
      exact k_zret () [] hx hb hr hlk hP hD hS (Or.inl rfl) rfl rfl rfl rfl (Nat.le_of_ble_eq_true rfl) (Nat.le_of_ble_eq_true rfl) dX11_isUnder_24
    · refine lv_iload_n hx hb dX11_isUnder_9 rfl (lv_at hl 0 rfl) ?_
      refine lv_iconst (v := 2) hx hb dX11_isUnder_10 (by decide) ?_
      refine lv_icmp_ne (tgt := 23) hx hb dX11_isUnder_11 (by decide) (fun c_3 => ?_) (fun c_3 => ?_)
      · refine lv_iconst (v := 0) hx hb dX11_isUnder_23 (by decide) ?_
        exact k_zret () [] hx hb hr hlk hP hD hS (Or.inr rfl) rfl rfl rfl rfl (Nat.le_of_ble_eq_true rfl) (Nat.le_of_ble_eq_true rfl) dX11_isUnder_24
      · refine lv_iload_n hx hb dX11_isUnder_14 rfl (lv_at hl 1 rfl) ?_
        refine lv_iconst (v := 1) hx hb dX11_isUnder_15 (by decide) ?_
        refine lv_icmp_ne (tgt := 23) hx hb dX11_isUnder_16 (by decide) (fun c_4 => ?_) (fun c_4 => ?_)
        · refine lv_iconst (v := 0) hx hb dX11_isUnder_23 (by decide) ?_
          exact k_zret () [] hx hb hr hlk hP hD hS (Or.inr rfl) rfl rfl rfl rfl (Nat.le_of_ble_eq_true rfl) (Nat.le_of_ble_eq_true rfl) dX11_isUnder_24
        · refine lv_iconst (v := 1) hx hb dX11_isUnder_19 (by decide) ?_
          refine lv_goto (tgt := 24) hx hb dX11_isUnder_20 (by decide) ?_
          exact k_zret () [] hx hb hr hlk hP hD hS (Or.inl rfl) rfl rfl rfl rfl (Nat.le_of_ble_eq_true rfl) (Nat.le_of_ble_eq_true rfl) dX11_isUnder_24
theorem dX11_hasBit_0 : decode cX11_hasBit 0 = .ok (.iload_n 0, 1) := by decide +kernel
theorem dX11_hasBit_1 : decode cX11_hasBit 1 = .ok (.iload_n 1, 1) := by decide +kernel
theorem dX11_hasBit_2 : decode cX11_hasBit 2 = .ok (.ishr, 1) := by decide +kernel
theorem dX11_hasBit_3 : decode cX11_hasBit 3 = .ok (.iconst 1, 1) := by decide +kernel
theorem dX11_hasBit_4 : decode cX11_hasBit 4 = .ok (.iand, 1) := by decide +kernel
theorem dX11_hasBit_5 : decode cX11_hasBit 5 = .ok (.ifCond .eq 7, 3) := by decide +kernel
theorem dX11_hasBit_12 : decode cX11_hasBit 12 = .ok (.iconst 0, 1) := by decide +kernel
theorem dX11_hasBit_13 : decode cX11_hasBit 13 = .ok (.ireturn, 1) := by decide +kernel
theorem dX11_hasBit_8 : decode cX11_hasBit 8 = .ok (.iconst 1, 1) := by decide +kernel
theorem dX11_hasBit_9 : decode cX11_hasBit 9 = .ok (.goto 4, 3) := by decide +kernel
set_option maxHeartbeats 8000000 in
set_option maxRecDepth 100000 in
theorem c_X11_hasBit (l : Launch) (g : kG) (sz : Nat) (v : Int32) (w : Int32) : kMi l g yX11_hasBit cX11_hasBit 2 (some .boolean) 1 0 0 [.int v, .int w] sz [] (fun (r : Int32) (u : Unit) => r = 1 ∨ r = 0) (fun (u : Unit) => ([] : va_W)) := by
  refine kMi.of (by decide) (Nat.le_of_ble_eq_true rfl) (fun p e s m below meth c A hx hb hr hml hown hts hlk hnm hKW hP hD hS hA ls hl => ?_)
  have hown : s.vm.findClass RX11 = some m.cls := hown
  have hl : lv_has ls 2 [(0, .int v), (1, .int w)] := hl
  refine k_hide hP hS (fun H locs hP hS => ?_)
  refine lv_iload_n hx hb dX11_hasBit_0 rfl (lv_at hl 0 rfl) ?_
  refine lv_iload_n hx hb dX11_hasBit_1 rfl (lv_at hl 1 rfl) ?_
  refine lv_ishr hx hb dX11_hasBit_2 ?_
  refine lv_topi (fun x_1 ex_1 => ?_)
  refine lv_iconst (v := 1) hx hb dX11_hasBit_3 (by decide) ?_
  refine lv_iand hx hb dX11_hasBit_4 ?_
  refine lv_topi (fun x_2 ex_2 => ?_)
  refine lv_if_eq (tgt := 12) hx hb dX11_hasBit_5 (by decide) (fun c_3 => ?_) (fun c_3 => ?_)
  · refine lv_iconst (v := 0) hx hb dX11_hasBit_12 (by decide) ?_
    exact k_zret () [] hx hb hr hlk hP hD hS (Or.inr rfl) rfl rfl rfl rfl (Nat.le_of_ble_eq_true rfl) (Nat.le_of_ble_eq_true rfl) dX11_hasBit_13
  · refine lv_iconst (v := 1) hx hb dX11_hasBit_8 (by decide) ?_
    refine lv_goto (tgt := 13) hx hb dX11_hasBit_9 (by decide) ?_
    exact k_zret () [] hx hb hr hlk hP hD hS (Or.inl rfl) rfl rfl rfl rfl (Nat.le_of_ble_eq_true rfl) (Nat.le_of_ble_eq_true rfl) dX11_hasBit_13
theorem dX11_with_0 : decode cX11_with 0 = .ok (.iload_n 0, 1) := by decide +kernel
theorem dX11_with_1 : decode cX11_with 1 = .ok (.iconst 1, 1) := by decide +kernel
theorem dX11_with_2 : decode cX11_with 2 = .ok (.iload_n 1, 1) := by decide +kernel
theorem dX11_with_3 : decode cX11_with 3 = .ok (.ishl, 1) := by decide +kernel
theorem dX11_with_4 : decode cX11_with 4 = .ok (.ior, 1) := by decide +kernel
theorem dX11_with_5 : decode cX11_with 5 = .ok (.ireturn, 1) := by decide +kernel
set_option maxHeartbeats 8000000 in
set_option maxRecDepth 100000 in
theorem c_X11_with (l : Launch) (g : kG) (sz : Nat) (v : Int32) (w : Int32) : kMi l g yX11_with cX11_with 2 (some .int) 1 0 0 [.int v, .int w] sz [] (fun (r : Int32) (u : Unit) => True) (fun (u : Unit) => ([] : va_W)) := by
  refine kMi.of (by decide) (Nat.le_of_ble_eq_true rfl) (fun p e s m below meth c A hx hb hr hml hown hts hlk hnm hKW hP hD hS hA ls hl => ?_)
  have hown : s.vm.findClass RX11 = some m.cls := hown
  have hl : lv_has ls 2 [(0, .int v), (1, .int w)] := hl
  refine k_hide hP hS (fun H locs hP hS => ?_)
  refine lv_iload_n hx hb dX11_with_0 rfl (lv_at hl 0 rfl) ?_
  refine lv_iconst (v := 1) hx hb dX11_with_1 (by decide) ?_
  refine lv_iload_n hx hb dX11_with_2 rfl (lv_at hl 1 rfl) ?_
  refine lv_ishl hx hb dX11_with_3 ?_
  refine lv_topi (fun x_1 ex_1 => ?_)
  refine lv_ior hx hb dX11_with_4 ?_
  refine lv_topi (fun x_2 ex_2 => ?_)
  exact k_iret () [] hx hb hr hlk hP hD hS trivial rfl rfl rfl (Nat.le_of_ble_eq_true rfl) (Nat.le_of_ble_eq_true rfl) dX11_with_5
theorem dX11_without_0 : decode cX11_without 0 = .ok (.iload_n 0, 1) := by decide +kernel
theorem dX11_without_1 : decode cX11_without 1 = .ok (.iconst 1, 1) := by decide +kernel
theorem dX11_without_2 : decode cX11_without 2 = .ok (.iload_n 1, 1) := by decide +kernel
theorem dX11_without_3 : decode cX11_without 3 = .ok (.ishl, 1) := by decide +kernel
theorem dX11_without_4 : decode cX11_without 4 = .ok (.iconst (-1), 1) := by decide +kernel
theorem dX11_without_5 : decode cX11_without 5 = .ok (.ixor, 1) := by decide +kernel
theorem dX11_without_6 : decode cX11_without 6 = .ok (.iand, 1) := by decide +kernel
theorem dX11_without_7 : decode cX11_without 7 = .ok (.ireturn, 1) := by decide +kernel
set_option maxHeartbeats 8000000 in
set_option maxRecDepth 100000 in
theorem c_X11_without (l : Launch) (g : kG) (sz : Nat) (v : Int32) (w : Int32) : kMi l g yX11_without cX11_without 2 (some .int) 1 0 0 [.int v, .int w] sz [] (fun (r : Int32) (u : Unit) => True) (fun (u : Unit) => ([] : va_W)) := by
  refine kMi.of (by decide) (Nat.le_of_ble_eq_true rfl) (fun p e s m below meth c A hx hb hr hml hown hts hlk hnm hKW hP hD hS hA ls hl => ?_)
  have hown : s.vm.findClass RX11 = some m.cls := hown
  have hl : lv_has ls 2 [(0, .int v), (1, .int w)] := hl
  refine k_hide hP hS (fun H locs hP hS => ?_)
  refine lv_iload_n hx hb dX11_without_0 rfl (lv_at hl 0 rfl) ?_
  refine lv_iconst (v := 1) hx hb dX11_without_1 (by decide) ?_
  refine lv_iload_n hx hb dX11_without_2 rfl (lv_at hl 1 rfl) ?_
  refine lv_ishl hx hb dX11_without_3 ?_
  refine lv_topi (fun x_1 ex_1 => ?_)
  refine lv_iconst (v := (-1)) hx hb dX11_without_4 (by decide) ?_
  refine lv_ixor hx hb dX11_without_5 ?_
  refine lv_topi (fun x_2 ex_2 => ?_)
  refine lv_iand hx hb dX11_without_6 ?_
  refine lv_topi (fun x_3 ex_3 => ?_)
  exact k_iret () [] hx hb hr hlk hP hD hS trivial rfl rfl rfl (Nat.le_of_ble_eq_true rfl) (Nat.le_of_ble_eq_true rfl) dX11_without_7
theorem dX11_oneIf_0 : decode cX11_oneIf 0 = .ok (.iload_n 0, 1) := by decide +kernel
theorem dX11_oneIf_1 : decode cX11_oneIf 1 = .ok (.ifCond .eq 7, 3) := by decide +kernel
theorem dX11_oneIf_8 : decode cX11_oneIf 8 = .ok (.iconst 0, 1) := by decide +kernel
theorem dX11_oneIf_9 : decode cX11_oneIf 9 = .ok (.ireturn, 1) := by decide +kernel
theorem dX11_oneIf_4 : decode cX11_oneIf 4 = .ok (.iconst 1, 1) := by decide +kernel
theorem dX11_oneIf_5 : decode cX11_oneIf 5 = .ok (.goto 4, 3) := by decide +kernel
set_option maxHeartbeats 8000000 in
set_option maxRecDepth 100000 in
theorem c_X11_oneIf (l : Launch) (g : kG) (sz : Nat) (v : Int32) : kMi l g yX11_oneIf cX11_oneIf 1 (some .int) 1 0 0 [.int v] sz [] (fun (r : Int32) (u : Unit) => True) (fun (u : Unit) => ([] : va_W)) := by
  refine kMi.of (by decide) (Nat.le_of_ble_eq_true rfl) (fun p e s m below meth c A hx hb hr hml hown hts hlk hnm hKW hP hD hS hA ls hl => ?_)
  have hown : s.vm.findClass RX11 = some m.cls := hown
  have hl : lv_has ls 1 [(0, .int v)] := hl
  refine k_hide hP hS (fun H locs hP hS => ?_)
  refine lv_iload_n hx hb dX11_oneIf_0 rfl (lv_at hl 0 rfl) ?_
  refine lv_if_eq (tgt := 8) hx hb dX11_oneIf_1 (by decide) (fun c_1 => ?_) (fun c_1 => ?_)
  · refine lv_iconst (v := 0) hx hb dX11_oneIf_8 (by decide) ?_
    exact k_iret () [] hx hb hr hlk hP hD hS trivial rfl rfl rfl (Nat.le_of_ble_eq_true rfl) (Nat.le_of_ble_eq_true rfl) dX11_oneIf_9
  · refine lv_iconst (v := 1) hx hb dX11_oneIf_4 (by decide) ?_
    refine lv_goto (tgt := 9) hx hb dX11_oneIf_5 (by decide) ?_
    exact k_iret () [] hx hb hr hlk hP hD hS trivial rfl rfl rfl (Nat.le_of_ble_eq_true rfl) (Nat.le_of_ble_eq_true rfl) dX11_oneIf_9
theorem dJ6_bitCount_0f7a4_0 : decode cJ6_bitCount_0f7a4 0 = .ok (.iload_n 0, 1) := by decide +kernel
theorem dJ6_bitCount_0f7a4_1 : decode cJ6_bitCount_0f7a4 1 = .ok (.iload_n 0, 1) := by decide +kernel
theorem dJ6_bitCount_0f7a4_2 : decode cJ6_bitCount_0f7a4 2 = .ok (.iconst 1, 1) := by decide +kernel
theorem dJ6_bitCount_0f7a4_3 : decode cJ6_bitCount_0f7a4 3 = .ok (.iushr, 1) := by decide +kernel
theorem dJ6_bitCount_0f7a4_4 : decode cJ6_bitCount_0f7a4 4 = .ok (.ldc_w 265, 3) := by decide +kernel
theorem dJ6_bitCount_0f7a4_7 : decode cJ6_bitCount_0f7a4 7 = .ok (.iand, 1) := by decide +kernel
theorem dJ6_bitCount_0f7a4_8 : decode cJ6_bitCount_0f7a4 8 = .ok (.isub, 1) := by decide +kernel
theorem dJ6_bitCount_0f7a4_9 : decode cJ6_bitCount_0f7a4 9 = .ok (.istore_n 0, 1) := by decide +kernel
theorem dJ6_bitCount_0f7a4_10 : decode cJ6_bitCount_0f7a4 10 = .ok (.iload_n 0, 1) := by decide +kernel
theorem dJ6_bitCount_0f7a4_11 : decode cJ6_bitCount_0f7a4 11 = .ok (.ldc_w 266, 3) := by decide +kernel
theorem dJ6_bitCount_0f7a4_14 : decode cJ6_bitCount_0f7a4 14 = .ok (.iand, 1) := by decide +kernel
theorem dJ6_bitCount_0f7a4_15 : decode cJ6_bitCount_0f7a4 15 = .ok (.iload_n 0, 1) := by decide +kernel
theorem dJ6_bitCount_0f7a4_16 : decode cJ6_bitCount_0f7a4 16 = .ok (.iconst 2, 1) := by decide +kernel
theorem dJ6_bitCount_0f7a4_17 : decode cJ6_bitCount_0f7a4 17 = .ok (.iushr, 1) := by decide +kernel
theorem dJ6_bitCount_0f7a4_18 : decode cJ6_bitCount_0f7a4 18 = .ok (.ldc_w 266, 3) := by decide +kernel
theorem dJ6_bitCount_0f7a4_21 : decode cJ6_bitCount_0f7a4 21 = .ok (.iand, 1) := by decide +kernel
theorem dJ6_bitCount_0f7a4_22 : decode cJ6_bitCount_0f7a4 22 = .ok (.iadd, 1) := by decide +kernel
theorem dJ6_bitCount_0f7a4_23 : decode cJ6_bitCount_0f7a4 23 = .ok (.istore_n 0, 1) := by decide +kernel
theorem dJ6_bitCount_0f7a4_24 : decode cJ6_bitCount_0f7a4 24 = .ok (.iload_n 0, 1) := by decide +kernel
theorem dJ6_bitCount_0f7a4_25 : decode cJ6_bitCount_0f7a4 25 = .ok (.iload_n 0, 1) := by decide +kernel
theorem dJ6_bitCount_0f7a4_26 : decode cJ6_bitCount_0f7a4 26 = .ok (.iconst 4, 1) := by decide +kernel
theorem dJ6_bitCount_0f7a4_27 : decode cJ6_bitCount_0f7a4 27 = .ok (.iushr, 1) := by decide +kernel
theorem dJ6_bitCount_0f7a4_28 : decode cJ6_bitCount_0f7a4 28 = .ok (.iadd, 1) := by decide +kernel
theorem dJ6_bitCount_0f7a4_29 : decode cJ6_bitCount_0f7a4 29 = .ok (.ldc_w 267, 3) := by decide +kernel
theorem dJ6_bitCount_0f7a4_32 : decode cJ6_bitCount_0f7a4 32 = .ok (.iand, 1) := by decide +kernel
theorem dJ6_bitCount_0f7a4_33 : decode cJ6_bitCount_0f7a4 33 = .ok (.istore_n 0, 1) := by decide +kernel
theorem dJ6_bitCount_0f7a4_34 : decode cJ6_bitCount_0f7a4 34 = .ok (.iload_n 0, 1) := by decide +kernel
theorem dJ6_bitCount_0f7a4_35 : decode cJ6_bitCount_0f7a4 35 = .ok (.iload_n 0, 1) := by decide +kernel
theorem dJ6_bitCount_0f7a4_36 : decode cJ6_bitCount_0f7a4 36 = .ok (.bipush 8, 2) := by decide +kernel
theorem dJ6_bitCount_0f7a4_38 : decode cJ6_bitCount_0f7a4 38 = .ok (.iushr, 1) := by decide +kernel
theorem dJ6_bitCount_0f7a4_39 : decode cJ6_bitCount_0f7a4 39 = .ok (.iadd, 1) := by decide +kernel
theorem dJ6_bitCount_0f7a4_40 : decode cJ6_bitCount_0f7a4 40 = .ok (.istore_n 0, 1) := by decide +kernel
theorem dJ6_bitCount_0f7a4_41 : decode cJ6_bitCount_0f7a4 41 = .ok (.iload_n 0, 1) := by decide +kernel
theorem dJ6_bitCount_0f7a4_42 : decode cJ6_bitCount_0f7a4 42 = .ok (.iload_n 0, 1) := by decide +kernel
theorem dJ6_bitCount_0f7a4_43 : decode cJ6_bitCount_0f7a4 43 = .ok (.bipush 16, 2) := by decide +kernel
theorem dJ6_bitCount_0f7a4_45 : decode cJ6_bitCount_0f7a4 45 = .ok (.iushr, 1) := by decide +kernel
theorem dJ6_bitCount_0f7a4_46 : decode cJ6_bitCount_0f7a4 46 = .ok (.iadd, 1) := by decide +kernel
theorem dJ6_bitCount_0f7a4_47 : decode cJ6_bitCount_0f7a4 47 = .ok (.istore_n 0, 1) := by decide +kernel
theorem dJ6_bitCount_0f7a4_48 : decode cJ6_bitCount_0f7a4 48 = .ok (.iload_n 0, 1) := by decide +kernel
theorem dJ6_bitCount_0f7a4_49 : decode cJ6_bitCount_0f7a4 49 = .ok (.bipush 63, 2) := by decide +kernel
theorem dJ6_bitCount_0f7a4_51 : decode cJ6_bitCount_0f7a4 51 = .ok (.iand, 1) := by decide +kernel
theorem dJ6_bitCount_0f7a4_52 : decode cJ6_bitCount_0f7a4 52 = .ok (.ireturn, 1) := by decide +kernel
set_option maxHeartbeats 8000000 in
set_option maxRecDepth 100000 in
theorem c_J6_bitCount (l : Launch) (g : kG) (sz : Nat) (v : Int32) : kMi l g yJ6_bitCount_0f7a4 cJ6_bitCount_0f7a4 1 (some .int) 1 0 0 [.int v] sz [] (fun (r : Int32) (u : Unit) => True) (fun (u : Unit) => ([] : va_W)) := by
  refine kMi.of (by decide) (Nat.le_of_ble_eq_true rfl) (fun p e s m below meth c A hx hb hr hml hown hts hlk hnm hKW hP hD hS hA ls hl => ?_)
  have hown : s.vm.findClass RJ6 = some m.cls := hown
  have hl : lv_has ls 1 [(0, .int v)] := hl
  refine k_hide hP hS (fun H locs hP hS => ?_)
  refine lv_iload_n hx hb dJ6_bitCount_0f7a4_0 rfl (lv_at hl 0 rfl) ?_
  refine lv_iload_n hx hb dJ6_bitCount_0f7a4_1 rfl (lv_at hl 0 rfl) ?_
  refine lv_iconst (v := 1) hx hb dJ6_bitCount_0f7a4_2 (by decide) ?_
  obtain ⟨x_1, ex_1⟩ : ∃ z : Int32, (Int32.toUInt32 v >>> (Int32.toUInt32 1 &&& Int32.toUInt32 31)).toInt32 = z := ⟨_, rfl⟩
  refine lv_iushr (v := x_1) hx hb dJ6_bitCount_0f7a4_3 ex_1 ?_
  refine lv_ldcw (v := 1431655765) hx hb hown (hts _ wd_17_15) dJ6_bitCount_0f7a4_4 ?_
  refine lv_iand hx hb dJ6_bitCount_0f7a4_7 ?_
  refine lv_topi (fun x_2 ex_2 => ?_)
  refine lv_isub hx hb dJ6_bitCount_0f7a4_8 ?_
  refine lv_topi (fun x_3 ex_3 => ?_)
  refine lv_istore_n (lv' := [(0, .int x_3)]) hx hb dJ6_bitCount_0f7a4_9 rfl hl (by decide) rfl (fun ls hl => ?_)
  refine lv_iload_n hx hb dJ6_bitCount_0f7a4_10 rfl (lv_at hl 0 rfl) ?_
  refine lv_ldcw (v := 858993459) hx hb hown (hts _ wd_17_16) dJ6_bitCount_0f7a4_11 ?_
  refine lv_iand hx hb dJ6_bitCount_0f7a4_14 ?_
  refine lv_topi (fun x_4 ex_4 => ?_)
  refine lv_iload_n hx hb dJ6_bitCount_0f7a4_15 rfl (lv_at hl 0 rfl) ?_
  refine lv_iconst (v := 2) hx hb dJ6_bitCount_0f7a4_16 (by decide) ?_
  obtain ⟨x_5, ex_5⟩ : ∃ z : Int32, (Int32.toUInt32 x_3 >>> (Int32.toUInt32 2 &&& Int32.toUInt32 31)).toInt32 = z := ⟨_, rfl⟩
  refine lv_iushr (v := x_5) hx hb dJ6_bitCount_0f7a4_17 ex_5 ?_
  refine lv_ldcw (v := 858993459) hx hb hown (hts _ wd_17_16) dJ6_bitCount_0f7a4_18 ?_
  refine lv_iand hx hb dJ6_bitCount_0f7a4_21 ?_
  refine lv_topi (fun x_6 ex_6 => ?_)
  refine lv_iadd hx hb dJ6_bitCount_0f7a4_22 ?_
  refine lv_topi (fun x_7 ex_7 => ?_)
  refine lv_istore_n (lv' := [(0, .int x_7)]) hx hb dJ6_bitCount_0f7a4_23 rfl hl (by decide) rfl (fun ls hl => ?_)
  refine lv_iload_n hx hb dJ6_bitCount_0f7a4_24 rfl (lv_at hl 0 rfl) ?_
  refine lv_iload_n hx hb dJ6_bitCount_0f7a4_25 rfl (lv_at hl 0 rfl) ?_
  refine lv_iconst (v := 4) hx hb dJ6_bitCount_0f7a4_26 (by decide) ?_
  obtain ⟨x_8, ex_8⟩ : ∃ z : Int32, (Int32.toUInt32 x_7 >>> (Int32.toUInt32 4 &&& Int32.toUInt32 31)).toInt32 = z := ⟨_, rfl⟩
  refine lv_iushr (v := x_8) hx hb dJ6_bitCount_0f7a4_27 ex_8 ?_
  refine lv_iadd hx hb dJ6_bitCount_0f7a4_28 ?_
  refine lv_topi (fun x_9 ex_9 => ?_)
  refine lv_ldcw (v := 252645135) hx hb hown (hts _ wd_17_17) dJ6_bitCount_0f7a4_29 ?_
  refine lv_iand hx hb dJ6_bitCount_0f7a4_32 ?_
  refine lv_topi (fun x_10 ex_10 => ?_)
  refine lv_istore_n (lv' := [(0, .int x_10)]) hx hb dJ6_bitCount_0f7a4_33 rfl hl (by decide) rfl (fun ls hl => ?_)
  refine lv_iload_n hx hb dJ6_bitCount_0f7a4_34 rfl (lv_at hl 0 rfl) ?_
  refine lv_iload_n hx hb dJ6_bitCount_0f7a4_35 rfl (lv_at hl 0 rfl) ?_
  refine lv_bipush (v := 8) hx hb dJ6_bitCount_0f7a4_36 (by decide) ?_
  obtain ⟨x_11, ex_11⟩ : ∃ z : Int32, (Int32.toUInt32 x_10 >>> (Int32.toUInt32 8 &&& Int32.toUInt32 31)).toInt32 = z := ⟨_, rfl⟩
  refine lv_iushr (v := x_11) hx hb dJ6_bitCount_0f7a4_38 ex_11 ?_
  refine lv_iadd hx hb dJ6_bitCount_0f7a4_39 ?_
  refine lv_topi (fun x_12 ex_12 => ?_)
  refine lv_istore_n (lv' := [(0, .int x_12)]) hx hb dJ6_bitCount_0f7a4_40 rfl hl (by decide) rfl (fun ls hl => ?_)
  refine lv_iload_n hx hb dJ6_bitCount_0f7a4_41 rfl (lv_at hl 0 rfl) ?_
  refine lv_iload_n hx hb dJ6_bitCount_0f7a4_42 rfl (lv_at hl 0 rfl) ?_
  refine lv_bipush (v := 16) hx hb dJ6_bitCount_0f7a4_43 (by decide) ?_
  obtain ⟨x_13, ex_13⟩ : ∃ z : Int32, (Int32.toUInt32 x_12 >>> (Int32.toUInt32 16 &&& Int32.toUInt32 31)).toInt32 = z := ⟨_, rfl⟩
  refine lv_iushr (v := x_13) hx hb dJ6_bitCount_0f7a4_45 ex_13 ?_
  refine lv_iadd hx hb dJ6_bitCount_0f7a4_46 ?_
  refine lv_topi (fun x_14 ex_14 => ?_)
  refine lv_istore_n (lv' := [(0, .int x_14)]) hx hb dJ6_bitCount_0f7a4_47 rfl hl (by decide) rfl (fun ls hl => ?_)
  refine lv_iload_n hx hb dJ6_bitCount_0f7a4_48 rfl (lv_at hl 0 rfl) ?_
  refine lv_bipush (v := 63) hx hb dJ6_bitCount_0f7a4_49 (by decide) ?_
  refine lv_iand hx hb dJ6_bitCount_0f7a4_51 ?_
  refine lv_topi (fun x_15 ex_15 => ?_)
  exact k_iret () [] hx hb hr hlk hP hD hS trivial rfl rfl rfl (Nat.le_of_ble_eq_true rfl) (Nat.le_of_ble_eq_true rfl) dJ6_bitCount_0f7a4_52
theorem dX8_has_0 : decode cX8_has 0 = .ok (.iload_n 1, 1) := by decide +kernel
theorem dX8_has_1 : decode cX8_has 1 = .ok (.ifCond .lt 15, 3) := by decide +kernel
theorem dX8_has_16 : decode cX8_has 16 = .ok (.iconst 0, 1) := by decide +kernel
theorem dX8_has_17 : decode cX8_has 17 = .ok (.ireturn, 1) := by decide +kernel
theorem dX8_has_4 : decode cX8_has 4 = .ok (.iload_n 1, 1) := by decide +kernel
theorem dX8_has_5 : decode cX8_has 5 = .ok (.aload_n 0, 1) := by decide +kernel
theorem dX8_has_6 : decode cX8_has 6 = .ok (.getfield 21, 3) := by decide +kernel
theorem dX8_has_9 : decode cX8_has 9 = .ok (.if_icmp .ge 7, 3) := by decide +kernel
theorem dX8_has_12 : decode cX8_has 12 = .ok (.iconst 1, 1) := by decide +kernel
theorem dX8_has_13 : decode cX8_has 13 = .ok (.goto 4, 3) := by decide +kernel
set_option maxHeartbeats 8000000 in
set_option maxRecDepth 100000 in
theorem c_X8_has (l : Launch) (g : kG) (sz : Nat) (h : Nat) (b0 : Nat) (b1 : Nat) (b2 : Nat) (cnt : Nat) (v : Int32) (hc : cnt < 100) : kMi l g yX8_has cX8_has 2 (some .boolean) 1 0 0 [.ref h, .int v] sz [(h, .inr (8, [.int (nI cnt), .ref b0, .ref b1, .ref b2]))] (fun (r : Int32) (u : Unit) => (r = 1 ∧ (∃ j : Nat, j < cnt ∧ v = nI j)) ∨ (r = 0 ∧ ¬ (∃ j : Nat, j < cnt ∧ v = nI j))) (fun (u : Unit) => ([(h, .inr (8, [.int (nI cnt), .ref b0, .ref b1, .ref b2]))] : va_W)) := by
  refine kMi.of (by decide) (Nat.le_of_ble_eq_true rfl) (fun p e s m below meth c A hx hb hr hml hown hts hlk hnm hKW hP hD hS hA ls hl => ?_)
  have hown : s.vm.findClass RX8 = some m.cls := hown
  have hl : lv_has ls 2 [(0, .ref h), (1, .int v)] := hl
  refine k_hide hP hS (fun H locs hP hS => ?_)
  refine lv_iload_n hx hb dX8_has_0 rfl (lv_at hl 1 rfl) ?_
  refine lv_if_lt (tgt := 16) hx hb dX8_has_1 (by decide) (fun c_1 => ?_) (fun c_1 => ?_)
  · refine lv_iconst (v := 0) hx hb dX8_has_16 (by decide) ?_
    exact k_zret () [0] hx hb hr hlk hP hD hS (Or.inr ⟨rfl, k_hasN1 (by omega) c_1⟩) rfl rfl rfl rfl (Nat.le_of_ble_eq_true rfl) (Nat.le_of_ble_eq_true rfl) dX8_has_17
  · refine lv_iload_n hx hb dX8_has_4 rfl (lv_at hl 1 rfl) ?_
    refine lv_aload_n hx hb dX8_has_5 rfl (lv_at hl 0 rfl) ?_
    refine va_get (ci := 8) (C := RX8) (T := TX8) (N := 4) hx hb hts inlX8 hown hKW.1 hP 0 rfl rfl 0 (by decide) (hts _ wd_8_18) (fun _ h => h) rfl dX8_has_6 ?_
    refine lv_icmp_ge (tgt := 16) hx hb dX8_has_9 (by decide) (fun c_2 => ?_) (fun c_2 => ?_)
    · refine lv_iconst (v := 0) hx hb dX8_has_16 (by decide) ?_
      exact k_zret () [0] hx hb hr hlk hP hD hS (Or.inr ⟨rfl, k_hasN2 (by omega) c_2⟩) rfl rfl rfl rfl (Nat.le_of_ble_eq_true rfl) (Nat.le_of_ble_eq_true rfl) dX8_has_17
    · refine lv_iconst (v := 1) hx hb dX8_has_12 (by decide) ?_
      refine lv_goto (tgt := 17) hx hb dX8_has_13 (by decide) ?_
      exact k_zret () [0] hx hb hr hlk hP hD hS (Or.inl ⟨rfl, k_has (by omega) c_1 c_2⟩) rfl rfl rfl rfl (Nat.le_of_ble_eq_true rfl) (Nat.le_of_ble_eq_true rfl) dX8_has_17
theorem dX1_has_0 : decode cX1_has 0 = .ok (.iload_n 1, 1) := by decide +kernel
theorem dX1_has_1 : decode cX1_has 1 = .ok (.ifCond .lt 15, 3) := by decide +kernel
theorem dX1_has_16 : decode cX1_has 16 = .ok (.iconst 0, 1) := by decide +kernel
theorem dX1_has_17 : decode cX1_has 17 = .ok (.ireturn, 1) := by decide +kernel
theorem dX1_has_4 : decode cX1_has 4 = .ok (.iload_n 1, 1) := by decide +kernel
theorem dX1_has_5 : decode cX1_has 5 = .ok (.aload_n 0, 1) := by decide +kernel
theorem dX1_has_6 : decode cX1_has 6 = .ok (.getfield 18, 3) := by decide +kernel
theorem dX1_has_9 : decode cX1_has 9 = .ok (.if_icmp .ge 7, 3) := by decide +kernel
theorem dX1_has_12 : decode cX1_has 12 = .ok (.iconst 1, 1) := by decide +kernel
theorem dX1_has_13 : decode cX1_has 13 = .ok (.goto 4, 3) := by decide +kernel
set_option maxHeartbeats 8000000 in
set_option maxRecDepth 100000 in
theorem c_X1_has (l : Launch) (g : kG) (sz : Nat) (h : Nat) (b0 : Nat) (b1 : Nat) (xi : Int32) (cnt : Nat) (v : Int32) (hc : cnt < 100) : kMi l g yX1_has cX1_has 2 (some .boolean) 1 0 0 [.ref h, .int v] sz [(h, .inr (1, [.int (nI cnt), .ref b0, .ref b1, .int xi]))] (fun (r : Int32) (u : Unit) => (r = 1 ∧ (∃ j : Nat, j < cnt ∧ v = nI j)) ∨ (r = 0 ∧ ¬ (∃ j : Nat, j < cnt ∧ v = nI j))) (fun (u : Unit) => ([(h, .inr (1, [.int (nI cnt), .ref b0, .ref b1, .int xi]))] : va_W)) := by
  refine kMi.of (by decide) (Nat.le_of_ble_eq_true rfl) (fun p e s m below meth c A hx hb hr hml hown hts hlk hnm hKW hP hD hS hA ls hl => ?_)
  have hown : s.vm.findClass RX1 = some m.cls := hown
  have hl : lv_has ls 2 [(0, .ref h), (1, .int v)] := hl
  refine k_hide hP hS (fun H locs hP hS => ?_)
  refine lv_iload_n hx hb dX1_has_0 rfl (lv_at hl 1 rfl) ?_
  refine lv_if_lt (tgt := 16) hx hb dX1_has_1 (by decide) (fun c_1 => ?_) (fun c_1 => ?_)
  · refine lv_iconst (v := 0) hx hb dX1_has_16 (by decide) ?_
    exact k_zret () [0] hx hb hr hlk hP hD hS (Or.inr ⟨rfl, k_hasN1 (by omega) c_1⟩) rfl rfl rfl rfl (Nat.le_of_ble_eq_true rfl) (Nat.le_of_ble_eq_true rfl) dX1_has_17
  · refine lv_iload_n hx hb dX1_has_4 rfl (lv_at hl 1 rfl) ?_
    refine lv_aload_n hx hb dX1_has_5 rfl (lv_at hl 0 rfl) ?_
    refine va_get (ci := 1) (C := RX1) (T := TX1) (N := 4) hx hb hts inlX1 hown hKW.1 hP 0 rfl rfl 0 (by decide) (hts _ wd_9_0) (fun _ h => h) rfl dX1_has_6 ?_
    refine lv_icmp_ge (tgt := 16) hx hb dX1_has_9 (by decide) (fun c_2 => ?_) (fun c_2 => ?_)
    · refine lv_iconst (v := 0) hx hb dX1_has_16 (by decide) ?_
      exact k_zret () [0] hx hb hr hlk hP hD hS (Or.inr ⟨rfl, k_hasN2 (by omega) c_2⟩) rfl rfl rfl rfl (Nat.le_of_ble_eq_true rfl) (Nat.le_of_ble_eq_true rfl) dX1_has_17
    · refine lv_iconst (v := 1) hx hb dX1_has_12 (by decide) ?_
      refine lv_goto (tgt := 17) hx hb dX1_has_13 (by decide) ?_
      exact k_zret () [0] hx hb hr hlk hP hD hS (Or.inl ⟨rfl, k_has (by omega) c_1 c_2⟩) rfl rfl rfl rfl (Nat.le_of_ble_eq_true rfl) (Nat.le_of_ble_eq_true rfl) dX1_has_17
theorem dX0_has_0 : decode cX0_has 0 = .ok (.iload_n 1, 1) := by decide +kernel
theorem dX0_has_1 : decode cX0_has 1 = .ok (.ifCond .lt 15, 3) := by decide +kernel
theorem dX0_has_16 : decode cX0_has 16 = .ok (.iconst 0, 1) := by decide +kernel
theorem dX0_has_17 : decode cX0_has 17 = .ok (.ireturn, 1) := by decide +kernel
theorem dX0_has_4 : decode cX0_has 4 = .ok (.iload_n 1, 1) := by decide +kernel
theorem dX0_has_5 : decode cX0_has 5 = .ok (.aload_n 0, 1) := by decide +kernel
theorem dX0_has_6 : decode cX0_has 6 = .ok (.getfield 36, 3) := by decide +kernel
theorem dX0_has_9 : decode cX0_has 9 = .ok (.if_icmp .ge 7, 3) := by decide +kernel
theorem dX0_has_12 : decode cX0_has 12 = .ok (.iconst 1, 1) := by decide +kernel
theorem dX0_has_13 : decode cX0_has 13 = .ok (.goto 4, 3) := by decide +kernel
set_option maxHeartbeats 8000000 in
set_option maxRecDepth 100000 in
theorem c_X0_has (l : Launch) (g : kG) (sz : Nat) (h : Nat) (b0 : Nat) (b1 : Nat) (b2 : Nat) (b3 : Nat) (b4 : Nat) (b5 : Nat) (b6 : Nat) (b7 : Nat) (xa : Int32) (xd : Int32) (wn : Nat) (cnt : Nat) (v : Int32) (hc : cnt < 100) : kMi l g yX0_has cX0_has 2 (some .boolean) 1 0 0 [.ref h, .int v] sz [(h, .inr (0, [.int (nI cnt), .ref b0, .ref b1, .ref b2, .ref b3, .ref b4, .ref b5, .ref b6, .int xa, .int xd, .int (nI wn), .ref b7]))] (fun (r : Int32) (u : Unit) => (r = 1 ∧ (∃ j : Nat, j < cnt ∧ v = nI j)) ∨ (r = 0 ∧ ¬ (∃ j : Nat, j < cnt ∧ v = nI j))) (fun (u : Unit) => ([(h, .inr (0, [.int (nI cnt), .ref b0, .ref b1, .ref b2, .ref b3, .ref b4, .ref b5, .ref b6, .int xa, .int xd, .int (nI wn), .ref b7]))] : va_W)) := by
  refine kMi.of (by decide) (Nat.le_of_ble_eq_true rfl) (fun p e s m below meth c A hx hb hr hml hown hts hlk hnm hKW hP hD hS hA ls hl => ?_)
  have hown : s.vm.findClass RX0 = some m.cls := hown
  have hl : lv_has ls 2 [(0, .ref h), (1, .int v)] := hl
  refine k_hide hP hS (fun H locs hP hS => ?_)
  refine lv_iload_n hx hb dX0_has_0 rfl (lv_at hl 1 rfl) ?_
  refine lv_if_lt (tgt := 16) hx hb dX0_has_1 (by decide) (fun c_1 => ?_) (fun c_1 => ?_)
  · refine lv_iconst (v := 0) hx hb dX0_has_16 (by decide) ?_
    exact k_zret () [0] hx hb hr hlk hP hD hS (Or.inr ⟨rfl, k_hasN1 (by omega) c_1⟩) rfl rfl rfl rfl (Nat.le_of_ble_eq_true rfl) (Nat.le_of_ble_eq_true rfl) dX0_has_17
  · refine lv_iload_n hx hb dX0_has_4 rfl (lv_at hl 1 rfl) ?_
    refine lv_aload_n hx hb dX0_has_5 rfl (lv_at hl 0 rfl) ?_
    refine va_get (ci := 0) (C := RX0) (T := TX0) (N := 12) hx hb hts inlX0 hown hKW.1 hP 0 rfl rfl 0 (by decide) (hts _ wd_9_7) (fun _ h => h) rfl dX0_has_6 ?_
    refine lv_icmp_ge (tgt := 16) hx hb dX0_has_9 (by decide) (fun c_2 => ?_) (fun c_2 => ?_)
    · refine lv_iconst (v := 0) hx hb dX0_has_16 (by decide) ?_
      exact k_zret () [0] hx hb hr hlk hP hD hS (Or.inr ⟨rfl, k_hasN2 (by omega) c_2⟩) rfl rfl rfl rfl (Nat.le_of_ble_eq_true rfl) (Nat.le_of_ble_eq_true rfl) dX0_has_17
    · refine lv_iconst (v := 1) hx hb dX0_has_12 (by decide) ?_
      refine lv_goto (tgt := 17) hx hb dX0_has_13 (by decide) ?_
      exact k_zret () [0] hx hb hr hlk hP hD hS (Or.inl ⟨rfl, k_has (by omega) c_1 c_2⟩) rfl rfl rfl rfl (Nat.le_of_ble_eq_true rfl) (Nat.le_of_ble_eq_true rfl) dX0_has_17
theorem dX8_add_0 : decode cX8_add 0 = .ok (.aload_n 0, 1) := by decide +kernel
theorem dX8_add_1 : decode cX8_add 1 = .ok (.getfield 9, 3) := by decide +kernel
theorem dX8_add_4 : decode cX8_add 4 = .ok (.aload_n 0, 1) := by decide +kernel
theorem dX8_add_5 : decode cX8_add 5 = .ok (.getfield 21, 3) := by decide +kernel
theorem dX8_add_8 : decode cX8_add 8 = .ok (.iload_n 1, 1) := by decide +kernel
theorem dX8_add_9 : decode cX8_add 9 = .ok (.iastore, 1) := by decide +kernel
theorem dX8_add_10 : decode cX8_add 10 = .ok (.aload_n 0, 1) := by decide +kernel
theorem dX8_add_11 : decode cX8_add 11 = .ok (.getfield 15, 3) := by decide +kernel
theorem dX8_add_14 : decode cX8_add 14 = .ok (.aload_n 0, 1) := by decide +kernel
theorem dX8_add_15 : decode cX8_add 15 = .ok (.getfield 21, 3) := by decide +kernel
theorem dX8_add_18 : decode cX8_add 18 = .ok (.iload_n 2, 1) := by decide +kernel
theorem dX8_add_19 : decode cX8_add 19 = .ok (.iastore, 1) := by decide +kernel
theorem dX8_add_20 : decode cX8_add 20 = .ok (.aload_n 0, 1) := by decide +kernel
theorem dX8_add_21 : decode cX8_add 21 = .ok (.getfield 18, 3) := by decide +kernel
theorem dX8_add_24 : decode cX8_add 24 = .ok (.aload_n 0, 1) := by decide +kernel
theorem dX8_add_25 : decode cX8_add 25 = .ok (.getfield 21, 3) := by decide +kernel
theorem dX8_add_28 : decode cX8_add 28 = .ok (.iload_n 3, 1) := by decide +kernel
theorem dX8_add_29 : decode cX8_add 29 = .ok (.iastore, 1) := by decide +kernel
theorem dX8_add_30 : decode cX8_add 30 = .ok (.aload_n 0, 1) := by decide +kernel
theorem dX8_add_31 : decode cX8_add 31 = .ok (.dup, 1) := by decide +kernel
theorem dX8_add_32 : decode cX8_add 32 = .ok (.getfield 21, 3) := by decide +kernel
theorem dX8_add_35 : decode cX8_add 35 = .ok (.iconst 1, 1) := by decide +kernel
theorem dX8_add_36 : decode cX8_add 36 = .ok (.iadd, 1) := by decide +kernel
theorem dX8_add_37 : decode cX8_add 37 = .ok (.putfield 21, 3) := by decide +kernel
theorem dX8_add_40 : decode cX8_add 40 = .ok (.aload_n 0, 1) := by decide +kernel
theorem dX8_add_41 : decode cX8_add 41 = .ok (.getfield 21, 3) := by decide +kernel
theorem dX8_add_44 : decode cX8_add 44 = .ok (.iconst 1, 1) := by decide +kernel
theorem dX8_add_45 : decode cX8_add 45 = .ok (.isub, 1) := by decide +kernel
theorem dX8_add_46 : decode cX8_add 46 = .ok (.ireturn, 1) := by decide +kernel
set_option maxHeartbeats 8000000 in
set_option maxRecDepth 100000 in
theorem c_X8_add (l : Launch) (g : kG) (sz : Nat) (a : Nat → Nat) (cnt : Nat) (f0 : Nat → Int32) (f1 : Nat → Int32) (f2 : Nat → Int32) (x : Int32) (y : Int32) (z : Int32) (hc : cnt < 5) : kMi l g yX8_add cX8_add 4 (some .int) 1 0 0 [.ref (a 0), .int x, .int y, .int z] sz [(a 0, .inr (8, [.int (nI cnt), .ref (a 1), .ref (a 2), .ref (a 3)])), (a 1, .inl (gI g, 5, .inl f0)), (a 2, .inl (gI g, 5, .inl f1)), (a 3, .inl (gI g, 5, .inl f2))] (fun (r : Int32) (u : (Nat → Int32) × (Nat → Int32) × (Nat → Int32)) => True) (fun (u : (Nat → Int32) × (Nat → Int32) × (Nat → Int32)) => ([(a 0, .inr (8, [.int (nI (cnt + 1)), .ref (a 1), .ref (a 2), .ref (a 3)])), (a 1, .inl (gI g, 5, .inl u.1)), (a 2, .inl (gI g, 5, .inl u.2.1)), (a 3, .inl (gI g, 5, .inl u.2.2))] : va_W)) := by
  refine kMi.of (by decide) (Nat.le_of_ble_eq_true rfl) (fun p e s m below meth c A hx hb hr hml hown hts hlk hnm hKW hP hD hS hA ls hl => ?_)
  have hown : s.vm.findClass RX8 = some m.cls := hown
  have hl : lv_has ls 4 [(0, .ref (a 0)), (1, .int x), (2, .int y), (3, .int z)] := hl
  refine k_hide hP hS (fun H locs hP hS => ?_)
  refine lv_aload_n hx hb dX8_add_0 rfl (lv_at hl 0 rfl) ?_
  refine va_get (ci := 8) (C := RX8) (T := TX8) (N := 4) hx hb hts inlX8 hown hKW.1 hP 0 rfl rfl 1 (by decide) (hts _ wd_3_19) (fun _ h => h) rfl dX8_add_1 ?_
  refine lv_aload_n hx hb dX8_add_4 rfl (lv_at hl 0 rfl) ?_
  refine va_get (ci := 8) (C := RX8) (T := TX8) (N := 4) hx hb hts inlX8 hown hKW.1 hP 0 rfl rfl 0 (by decide) (hts _ wd_8_18) (fun _ h => h) rfl dX8_add_5 ?_
  refine lv_iload_n hx hb dX8_add_8 rfl (lv_at hl 1 rfl) ?_
  refine va_iast hx hb hKW.1 hP hD hS 1 0 rfl rfl (vp_in_nI (by omega) (by decide)) dX8_add_9 (fun H locs hP hD hS => ?_)
  have hP : va_P g.1 vwCl [(a 0, .inr (8, [.int (nI cnt), .ref (a 1), .ref (a 2), .ref (a 3)])), (a 1, .inl (gI g, 5, .inl (upd f0 (nI cnt).toNatClampNeg x))), (a 2, .inl (gI g, 5, .inl f1)), (a 3, .inl (gI g, 5, .inl f2))] H := hP
  have hD : va_D A [(a 0, .inr (8, [.int (nI cnt), .ref (a 1), .ref (a 2), .ref (a 3)])), (a 1, .inl (gI g, 5, .inl (upd f0 (nI cnt).toNatClampNeg x))), (a 2, .inl (gI g, 5, .inl f1)), (a 3, .inl (gI g, 5, .inl f2))] := hD
  obtain ⟨f_1, ef_1⟩ : ∃ zz_ : Nat → Int32, zz_ = upd f0 (nI cnt).toNatClampNeg x := ⟨_, rfl⟩
  rw [← ef_1] at hP hD
  refine lv_aload_n hx hb dX8_add_10 rfl (lv_at hl 0 rfl) ?_
  refine va_get (ci := 8) (C := RX8) (T := TX8) (N := 4) hx hb hts inlX8 hown hKW.1 hP 0 rfl rfl 2 (by decide) (hts _ wd_3_20) (fun _ h => h) rfl dX8_add_11 ?_
  refine lv_aload_n hx hb dX8_add_14 rfl (lv_at hl 0 rfl) ?_
  refine va_get (ci := 8) (C := RX8) (T := TX8) (N := 4) hx hb hts inlX8 hown hKW.1 hP 0 rfl rfl 0 (by decide) (hts _ wd_8_18) (fun _ h => h) rfl dX8_add_15 ?_
  refine lv_iload_n hx hb dX8_add_18 rfl (lv_at hl 2 rfl) ?_
  refine va_iast hx hb hKW.1 hP hD hS 2 0 rfl rfl (vp_in_nI (by omega) (by decide)) dX8_add_19 (fun H locs hP hD hS => ?_)
  have hP : va_P g.1 vwCl [(a 0, .inr (8, [.int (nI cnt), .ref (a 1), .ref (a 2), .ref (a 3)])), (a 1, .inl (gI g, 5, .inl f_1)), (a 2, .inl (gI g, 5, .inl (upd f1 (nI cnt).toNatClampNeg y))), (a 3, .inl (gI g, 5, .inl f2))] H := hP
  have hD : va_D A [(a 0, .inr (8, [.int (nI cnt), .ref (a 1), .ref (a 2), .ref (a 3)])), (a 1, .inl (gI g, 5, .inl f_1)), (a 2, .inl (gI g, 5, .inl (upd f1 (nI cnt).toNatClampNeg y))), (a 3, .inl (gI g, 5, .inl f2))] := hD
  obtain ⟨f_2, ef_2⟩ : ∃ zz_ : Nat → Int32, zz_ = upd f1 (nI cnt).toNatClampNeg y := ⟨_, rfl⟩
  rw [← ef_2] at hP hD
  refine lv_aload_n hx hb dX8_add_20 rfl (lv_at hl 0 rfl) ?_
  refine va_get (ci := 8) (C := RX8) (T := TX8) (N := 4) hx hb hts inlX8 hown hKW.1 hP 0 rfl rfl 3 (by decide) (hts _ wd_3_21) (fun _ h => h) rfl dX8_add_21 ?_
  refine lv_aload_n hx hb dX8_add_24 rfl (lv_at hl 0 rfl) ?_
  refine va_get (ci := 8) (C := RX8) (T := TX8) (N := 4) hx hb hts inlX8 hown hKW.1 hP 0 rfl rfl 0 (by decide) (hts _ wd_8_18) (fun _ h => h) rfl dX8_add_25 ?_
  refine lv_iload_n hx hb dX8_add_28 rfl (lv_at hl 3 rfl) ?_
  refine va_iast hx hb hKW.1 hP hD hS 3 0 rfl rfl (vp_in_nI (by omega) (by decide)) dX8_add_29 (fun H locs hP hD hS => ?_)
  have hP : va_P g.1 vwCl [(a 0, .inr (8, [.int (nI cnt), .ref (a 1), .ref (a 2), .ref (a 3)])), (a 1, .inl (gI g, 5, .inl f_1)), (a 2, .inl (gI g, 5, .inl f_2)), (a 3, .inl (gI g, 5, .inl (upd f2 (nI cnt).toNatClampNeg z)))] H := hP
  have hD : va_D A [(a 0, .inr (8, [.int (nI cnt), .ref (a 1), .ref (a 2), .ref (a 3)])), (a 1, .inl (gI g, 5, .inl f_1)), (a 2, .inl (gI g, 5, .inl f_2)), (a 3, .inl (gI g, 5, .inl (upd f2 (nI cnt).toNatClampNeg z)))] := hD
  obtain ⟨f_3, ef_3⟩ : ∃ zz_ : Nat → Int32, zz_ = upd f2 (nI cnt).toNatClampNeg z := ⟨_, rfl⟩
  rw [← ef_3] at hP hD
  refine lv_aload_n hx hb dX8_add_30 rfl (lv_at hl 0 rfl) ?_
  refine lv_dup hx hb dX8_add_31 rfl ?_
  refine va_get (ci := 8) (C := RX8) (T := TX8) (N := 4) hx hb hts inlX8 hown hKW.1 hP 0 rfl rfl 0 (by decide) (hts _ wd_8_18) (fun _ h => h) rfl dX8_add_32 ?_
  refine lv_iconst (v := 1) hx hb dX8_add_35 (by decide) ?_
  refine lv_iadd hx hb dX8_add_36 ?_
  refine k_top (y := nI (cnt + 1)) (nI_add cnt 1) ?_
  refine va_put (ci := 8) (v := .int (nI (cnt + 1))) (C := RX8) (T := TX8) (N := 4) hx hb hts inlX8 tyX8 tyX8_ok nmX8 hown hKW.1 hP hD hS 0 rfl rfl 0 (by decide) (hts _ wd_8_18) (fun _ h => h) rfl (tyX8_ok 0 (by decide)) rfl rfl (Nat.le_of_ble_eq_true rfl) dX8_add_37 (fun H locs hP hD hS => ?_)
  have hP : va_P g.1 vwCl [(a 0, .inr (8, [.int (nI (cnt + 1)), .ref (a 1), .ref (a 2), .ref (a 3)])), (a 1, .inl (gI g, 5, .inl f_1)), (a 2, .inl (gI g, 5, .inl f_2)), (a 3, .inl (gI g, 5, .inl f_3))] H := hP
  have hD : va_D A [(a 0, .inr (8, [.int (nI (cnt + 1)), .ref (a 1), .ref (a 2), .ref (a 3)])), (a 1, .inl (gI g, 5, .inl f_1)), (a 2, .inl (gI g, 5, .inl f_2)), (a 3, .inl (gI g, 5, .inl f_3))] := hD
  refine lv_aload_n hx hb dX8_add_40 rfl (lv_at hl 0 rfl) ?_
  refine va_get (ci := 8) (C := RX8) (T := TX8) (N := 4) hx hb hts inlX8 hown hKW.1 hP 0 rfl rfl 0 (by decide) (hts _ wd_8_18) (fun _ h => h) rfl dX8_add_41 ?_
  refine lv_iconst (v := 1) hx hb dX8_add_44 (by decide) ?_
  refine lv_isub hx hb dX8_add_45 ?_
  refine lv_topi (fun x_4 ex_4 => ?_)
  exact k_iret (f_1, f_2, f_3) [0, 1, 2, 3] hx hb hr hlk hP hD hS trivial rfl rfl rfl (Nat.le_of_ble_eq_true rfl) (Nat.le_of_ble_eq_true rfl) dX8_add_46
theorem dX8_forAge_0 : decode cX8_forAge 0 = .ok (.iconst 0, 1) := by decide +kernel
theorem dX8_forAge_1 : decode cX8_forAge 1 = .ok (.istore_n 2, 1) := by decide +kernel
theorem dX8_forAge_2 : decode cX8_forAge 2 = .ok (.iload_n 2, 1) := by decide +kernel
theorem dX8_forAge_3 : decode cX8_forAge 3 = .ok (.aload_n 0, 1) := by decide +kernel
theorem dX8_forAge_4 : decode cX8_forAge 4 = .ok (.getfield 21, 3) := by decide +kernel
theorem dX8_forAge_7 : decode cX8_forAge 7 = .ok (.if_icmp .ge 31, 3) := by decide +kernel
theorem dX8_forAge_38 : decode cX8_forAge 38 = .ok (.iconst (-1), 1) := by decide +kernel
theorem dX8_forAge_39 : decode cX8_forAge 39 = .ok (.ireturn, 1) := by decide +kernel
theorem dX8_forAge_10 : decode cX8_forAge 10 = .ok (.iload_n 1, 1) := by decide +kernel
theorem dX8_forAge_11 : decode cX8_forAge 11 = .ok (.aload_n 0, 1) := by decide +kernel
theorem dX8_forAge_12 : decode cX8_forAge 12 = .ok (.getfield 9, 3) := by decide +kernel
theorem dX8_forAge_15 : decode cX8_forAge 15 = .ok (.iload_n 2, 1) := by decide +kernel
theorem dX8_forAge_16 : decode cX8_forAge 16 = .ok (.iaload, 1) := by decide +kernel
theorem dX8_forAge_17 : decode cX8_forAge 17 = .ok (.if_icmp .lt 15, 3) := by decide +kernel
theorem dX8_forAge_32 : decode cX8_forAge 32 = .ok (.iinc 2 1, 3) := by decide +kernel
theorem dX8_forAge_35 : decode cX8_forAge 35 = .ok (.goto (-33), 3) := by decide +kernel
theorem dX8_forAge_20 : decode cX8_forAge 20 = .ok (.iload_n 1, 1) := by decide +kernel
theorem dX8_forAge_21 : decode cX8_forAge 21 = .ok (.aload_n 0, 1) := by decide +kernel
theorem dX8_forAge_22 : decode cX8_forAge 22 = .ok (.getfield 15, 3) := by decide +kernel
theorem dX8_forAge_25 : decode cX8_forAge 25 = .ok (.iload_n 2, 1) := by decide +kernel
theorem dX8_forAge_26 : decode cX8_forAge 26 = .ok (.iaload, 1) := by decide +kernel
theorem dX8_forAge_27 : decode cX8_forAge 27 = .ok (.if_icmp .gt 5, 3) := by decide +kernel
theorem dX8_forAge_30 : decode cX8_forAge 30 = .ok (.iload_n 2, 1) := by decide +kernel
theorem dX8_forAge_31 : decode cX8_forAge 31 = .ok (.ireturn, 1) := by decide +kernel
set_option maxHeartbeats 8000000 in
set_option maxRecDepth 100000 in
theorem c_X8_forAge (l : Launch) (g : kG) (sz : Nat) (a : Nat → Nat) (cnt : Nat) (f0 : Nat → Int32) (f1 : Nat → Int32) (f2 : Nat → Int32) (x : Int32) (hc : cnt ≤ 5) : kMi l g yX8_forAge cX8_forAge 3 (some .int) 1 0 0 [.ref (a 0), .int x] sz [(a 0, .inr (8, [.int (nI cnt), .ref (a 1), .ref (a 2), .ref (a 3)])), (a 1, .inl (gI g, 5, .inl f0)), (a 2, .inl (gI g, 5, .inl f1)), (a 3, .inl (gI g, 5, .inl f2))] (fun (r : Int32) (u : Unit) => r = -1 ∨ ∃ j : Nat, j < cnt ∧ r = nI j) (fun (u : Unit) => ([(a 0, .inr (8, [.int (nI cnt), .ref (a 1), .ref (a 2), .ref (a 3)])), (a 1, .inl (gI g, 5, .inl f0)), (a 2, .inl (gI g, 5, .inl f1)), (a 3, .inl (gI g, 5, .inl f2))] : va_W)) := by
  refine kMi.of (by decide) (Nat.le_of_ble_eq_true rfl) (fun p e s m below meth c A hx hb hr hml hown hts hlk hnm hKW hP hD hS hA ls hl => ?_)
  have hown : s.vm.findClass RX8 = some m.cls := hown
  have hl : lv_has ls 3 [(0, .ref (a 0)), (1, .int x)] := hl
  refine k_hide hP hS (fun H locs hP hS => ?_)
  refine lv_iconst (v := 0) hx hb dX8_forAge_0 (by decide) ?_
  refine lv_istore_n (lv' := [(2, .int 0), (0, .ref (a 0)), (1, .int x)]) hx hb dX8_forAge_1 rfl hl (by decide) rfl (fun ls hl => ?_)
  have L2 : ∀ (n2 : Nat) (i : Nat) (hfuel2 : cnt - i < n2) (hi : i ≤ cnt) (H : Heap) (locs : List Loc) (hP : va_P g.1 vwCl [(a 0, .inr (8, [.int (nI cnt), .ref (a 1), .ref (a 2), .ref (a 3)])), (a 1, .inl (gI g, 5, .inl f0)), (a 2, .inl (gI g, 5, .inl f1)), (a 3, .inl (gI g, 5, .inl f2))] H) (hD : va_D A [(a 0, .inr (8, [.int (nI cnt), .ref (a 1), .ref (a 2), .ref (a 3)])), (a 1, .inl (gI g, 5, .inl f0)), (a 2, .inl (gI g, 5, .inl f1)), (a 3, .inl (gI g, 5, .inl f2))]) (hS : va_S A s.heap H locs) (ls : Array Slot) (hl : lv_has ls 3 [(2, .int (nI i)), (0, .ref (a 0)), (1, .int x)]), W p l e (kR 1 0 0) s m ([.ref (a 0), .int x] : List Value).toArray below meth c H locs 0 0 (kQi g A below ([.ref (a 0), .int x] : List Value).toArray s 0 0 (fun (r : Int32) (u : Unit) => r = -1 ∨ ∃ j : Nat, j < cnt ∧ r = nI j) (fun (u : Unit) => ([(a 0, .inr (8, [.int (nI cnt), .ref (a 1), .ref (a 2), .ref (a 3)])), (a 1, .inl (gI g, 5, .inl f0)), (a 2, .inl (gI g, 5, .inl f1)), (a 3, .inl (gI g, 5, .inl f2))] : va_W))) (F0 m 2 ls []) := by
    intro n2
    induction n2 with
    | zero => intro i hfuel2; exact absurd hfuel2 (Nat.not_lt_zero _)
    | succ n2 ih2 =>
      intro i hfuel2 hi H locs hP hD hS ls hl
      refine lv_iload_n hx hb dX8_forAge_2 rfl (lv_at hl 0 rfl) ?_
      refine lv_aload_n hx hb dX8_forAge_3 rfl (lv_at hl 1 rfl) ?_
      refine va_get (ci := 8) (C := RX8) (T := TX8) (N := 4) hx hb hts inlX8 hown hKW.1 hP 0 rfl rfl 0 (by decide) (hts _ wd_8_18) (fun _ h => h) rfl dX8_forAge_4 ?_
      refine lv_icmp_ge (tgt := 38) hx hb dX8_forAge_7 (by decide) (fun c_1 => ?_) (fun c_1 => ?_)
      · have c_1n : cnt ≤ i := (k_leI (a := cnt) (b := i) (by omega) (by omega)).mp c_1
        refine lv_iconst (v := (-1)) hx hb dX8_forAge_38 (by decide) ?_
        exact k_iret () [0, 1, 2, 3] hx hb hr hlk hP hD hS (Or.inl rfl) rfl rfl rfl (Nat.le_of_ble_eq_true rfl) (Nat.le_of_ble_eq_true rfl) dX8_forAge_39
      · have c_1n : i < cnt := Nat.not_le.mp (fun h => c_1 ((k_leI (a := cnt) (b := i) (by omega) (by omega)).mpr h))
        refine lv_iload_n hx hb dX8_forAge_10 rfl (lv_at hl 2 rfl) ?_
        refine lv_aload_n hx hb dX8_forAge_11 rfl (lv_at hl 1 rfl) ?_
        refine va_get (ci := 8) (C := RX8) (T := TX8) (N := 4) hx hb hts inlX8 hown hKW.1 hP 0 rfl rfl 1 (by decide) (hts _ wd_3_19) (fun _ h => h) rfl dX8_forAge_12 ?_
        refine lv_iload_n hx hb dX8_forAge_15 rfl (lv_at hl 0 rfl) ?_
        refine va_iald hx hb hKW.1 hP 1 0 rfl rfl (vp_in_nI (by omega) (by decide)) dX8_forAge_16 ?_
        refine lv_topi (fun x_2 ex_2 => ?_)
        refine lv_icmp_lt (tgt := 32) hx hb dX8_forAge_17 (by decide) (fun c_3 => ?_) (fun c_3 => ?_)
        · refine lv_iinc (v := nI (i + 1)) (lv' := [(2, .int (nI (i + 1))), (0, .ref (a 0)), (1, .int x)]) hx hb dX8_forAge_32 hl (k := 0) rfl (nI_add i 1) (by decide) rfl (fun ls hl => ?_)
          refine lv_goto (tgt := 2) hx hb dX8_forAge_35 (by decide) ?_
          exact ih2 (i + 1) (by omega) (by first | assumption | omega) H locs (hP.sub [0, 1, 2, 3] rfl) (hD.sub [0, 1, 2, 3] (by decide) rfl) hS ls (lv_sub hl [0, 1, 2] rfl)
        · refine lv_iload_n hx hb dX8_forAge_20 rfl (lv_at hl 2 rfl) ?_
          refine lv_aload_n hx hb dX8_forAge_21 rfl (lv_at hl 1 rfl) ?_
          refine va_get (ci := 8) (C := RX8) (T := TX8) (N := 4) hx hb hts inlX8 hown hKW.1 hP 0 rfl rfl 2 (by decide) (hts _ wd_3_20) (fun _ h => h) rfl dX8_forAge_22 ?_
          refine lv_iload_n hx hb dX8_forAge_25 rfl (lv_at hl 0 rfl) ?_
          refine va_iald hx hb hKW.1 hP 2 0 rfl rfl (vp_in_nI (by omega) (by decide)) dX8_forAge_26 ?_
          refine lv_topi (fun x_4 ex_4 => ?_)
          refine lv_icmp_gt (tgt := 32) hx hb dX8_forAge_27 (by decide) (fun c_5 => ?_) (fun c_5 => ?_)
          · refine lv_iinc (v := nI (i + 1)) (lv' := [(2, .int (nI (i + 1))), (0, .ref (a 0)), (1, .int x)]) hx hb dX8_forAge_32 hl (k := 0) rfl (nI_add i 1) (by decide) rfl (fun ls hl => ?_)
            refine lv_goto (tgt := 2) hx hb dX8_forAge_35 (by decide) ?_
            exact ih2 (i + 1) (by omega) (by first | assumption | omega) H locs (hP.sub [0, 1, 2, 3] rfl) (hD.sub [0, 1, 2, 3] (by decide) rfl) hS ls (lv_sub hl [0, 1, 2] rfl)
          · refine lv_iload_n hx hb dX8_forAge_30 rfl (lv_at hl 0 rfl) ?_
            exact k_iret () [0, 1, 2, 3] hx hb hr hlk hP hD hS (Or.inr ⟨i, by omega, rfl⟩) rfl rfl rfl (Nat.le_of_ble_eq_true rfl) (Nat.le_of_ble_eq_true rfl) dX8_forAge_31
  exact L2 (cnt - 0 + 1) 0 (Nat.lt_succ_self _) (by first | assumption | omega) H locs (hP.sub [0, 1, 2, 3] rfl) (hD.sub [0, 1, 2, 3] (by decide) rfl) hS ls (lv_sub hl [0, 1, 2] rfl)
theorem dX8_takes_0 : decode cX8_takes 0 = .ok (.iload_n 2, 1) := by decide +kernel
theorem dX8_takes_1 : decode cX8_takes 1 = .ok (.aload_n 0, 1) := by decide +kernel
theorem dX8_takes_2 : decode cX8_takes 2 = .ok (.getfield 9, 3) := by decide +kernel
theorem dX8_takes_5 : decode cX8_takes 5 = .ok (.iload_n 1, 1) := by decide +kernel
theorem dX8_takes_6 : decode cX8_takes 6 = .ok (.iaload, 1) := by decide +kernel
theorem dX8_takes_7 : decode cX8_takes 7 = .ok (.if_icmp .lt 17, 3) := by decide +kernel
theorem dX8_takes_24 : decode cX8_takes 24 = .ok (.iconst 0, 1) := by decide +kernel
theorem dX8_takes_25 : decode cX8_takes 25 = .ok (.ireturn, 1) := by decide +kernel
theorem dX8_takes_10 : decode cX8_takes 10 = .ok (.iload_n 2, 1) := by decide +kernel
theorem dX8_takes_11 : decode cX8_takes 11 = .ok (.aload_n 0, 1) := by decide +kernel
theorem dX8_takes_12 : decode cX8_takes 12 = .ok (.getfield 15, 3) := by decide +kernel
theorem dX8_takes_15 : decode cX8_takes 15 = .ok (.iload_n 1, 1) := by decide +kernel
theorem dX8_takes_16 : decode cX8_takes 16 = .ok (.iaload, 1) := by decide +kernel
theorem dX8_takes_17 : decode cX8_takes 17 = .ok (.if_icmp .gt 7, 3) := by decide +kernel
theorem dX8_takes_20 : decode cX8_takes 20 = .ok (.iconst 1, 1) := by decide +kernel
theorem dX8_takes_21 : decode cX8_takes 21 = .ok (.goto 4, 3) := by decide +kernel
set_option maxHeartbeats 8000000 in
set_option maxRecDepth 100000 in
theorem c_X8_takes (l : Launch) (g : kG) (sz : Nat) (a : Nat → Nat) (cnt : Nat) (f0 : Nat → Int32) (f1 : Nat → Int32) (f2 : Nat → Int32) (j : Nat) (x : Int32) (hj : j < 5) : kMi l g yX8_takes cX8_takes 3 (some .boolean) 1 0 0 [.ref (a 0), .int (nI j), .int x] sz [(a 0, .inr (8, [.int (nI cnt), .ref (a 1), .ref (a 2), .ref (a 3)])), (a 1, .inl (gI g, 5, .inl f0)), (a 2, .inl (gI g, 5, .inl f1)), (a 3, .inl (gI g, 5, .inl f2))] (fun (r : Int32) (u : Unit) => r = 1 ∨ r = 0) (fun (u : Unit) => ([(a 0, .inr (8, [.int (nI cnt), .ref (a 1), .ref (a 2), .ref (a 3)])), (a 1, .inl (gI g, 5, .inl f0)), (a 2, .inl (gI g, 5, .inl f1)), (a 3, .inl (gI g, 5, .inl f2))] : va_W)) := by
  refine kMi.of (by decide) (Nat.le_of_ble_eq_true rfl) (fun p e s m below meth c A hx hb hr hml hown hts hlk hnm hKW hP hD hS hA ls hl => ?_)
  have hown : s.vm.findClass RX8 = some m.cls := hown
  have hl : lv_has ls 3 [(0, .ref (a 0)), (1, .int (nI j)), (2, .int x)] := hl
  refine k_hide hP hS (fun H locs hP hS => ?_)
  refine lv_iload_n hx hb dX8_takes_0 rfl (lv_at hl 2 rfl) ?_
  refine lv_aload_n hx hb dX8_takes_1 rfl (lv_at hl 0 rfl) ?_
  refine va_get (ci := 8) (C := RX8) (T := TX8) (N := 4) hx hb hts inlX8 hown hKW.1 hP 0 rfl rfl 1 (by decide) (hts _ wd_3_19) (fun _ h => h) rfl dX8_takes_2 ?_
  refine lv_iload_n hx hb dX8_takes_5 rfl (lv_at hl 1 rfl) ?_
  refine va_iald hx hb hKW.1 hP 1 0 rfl rfl (vp_in_nI (by omega) (by decide)) dX8_takes_6 ?_
  refine lv_topi (fun x_1 ex_1 => ?_)
  refine lv_icmp_lt (tgt := 24) hx hb dX8_takes_7 (by decide) (fun c_2 => ?_) (fun c_2 => ?_)
  · refine lv_iconst (v := 0) hx hb dX8_takes_24 (by decide) ?_
    exact k_zret () [0, 1, 2, 3] hx hb hr hlk hP hD hS (Or.inr rfl) rfl rfl rfl rfl (Nat.le_of_ble_eq_true rfl) (Nat.le_of_ble_eq_true rfl) dX8_takes_25
  · refine lv_iload_n hx hb dX8_takes_10 rfl (lv_at hl 2 rfl) ?_
    refine lv_aload_n hx hb dX8_takes_11 rfl (lv_at hl 0 rfl) ?_
    refine va_get (ci := 8) (C := RX8) (T := TX8) (N := 4) hx hb hts inlX8 hown hKW.1 hP 0 rfl rfl 2 (by decide) (hts _ wd_3_20) (fun _ h => h) rfl dX8_takes_12 ?_
    refine lv_iload_n hx hb dX8_takes_15 rfl (lv_at hl 1 rfl) ?_
    refine va_iald hx hb hKW.1 hP 2 0 rfl rfl (vp_in_nI (by omega) (by decide)) dX8_takes_16 ?_
    refine lv_topi (fun x_3 ex_3 => ?_)
    refine lv_icmp_gt (tgt := 24) hx hb dX8_takes_17 (by decide) (fun c_4 => ?_) (fun c_4 => ?_)
    · refine lv_iconst (v := 0) hx hb dX8_takes_24 (by decide) ?_
      exact k_zret () [0, 1, 2, 3] hx hb hr hlk hP hD hS (Or.inr rfl) rfl rfl rfl rfl (Nat.le_of_ble_eq_true rfl) (Nat.le_of_ble_eq_true rfl) dX8_takes_25
    · refine lv_iconst (v := 1) hx hb dX8_takes_20 (by decide) ?_
      refine lv_goto (tgt := 25) hx hb dX8_takes_21 (by decide) ?_
      exact k_zret () [0, 1, 2, 3] hx hb hr hlk hP hD hS (Or.inl rfl) rfl rfl rfl rfl (Nat.le_of_ble_eq_true rfl) (Nat.le_of_ble_eq_true rfl) dX8_takes_25
theorem dX1_add_0 : decode cX1_add 0 = .ok (.aload_n 0, 1) := by decide +kernel
theorem dX1_add_1 : decode cX1_add 1 = .ok (.getfield 9, 3) := by decide +kernel
theorem dX1_add_4 : decode cX1_add 4 = .ok (.aload_n 0, 1) := by decide +kernel
theorem dX1_add_5 : decode cX1_add 5 = .ok (.getfield 18, 3) := by decide +kernel
theorem dX1_add_8 : decode cX1_add 8 = .ok (.iload_n 1, 1) := by decide +kernel
theorem dX1_add_9 : decode cX1_add 9 = .ok (.iastore, 1) := by decide +kernel
theorem dX1_add_10 : decode cX1_add 10 = .ok (.aload_n 0, 1) := by decide +kernel
theorem dX1_add_11 : decode cX1_add 11 = .ok (.getfield 15, 3) := by decide +kernel
theorem dX1_add_14 : decode cX1_add 14 = .ok (.aload_n 0, 1) := by decide +kernel
theorem dX1_add_15 : decode cX1_add 15 = .ok (.getfield 18, 3) := by decide +kernel
theorem dX1_add_18 : decode cX1_add 18 = .ok (.iconst (-1), 1) := by decide +kernel
theorem dX1_add_19 : decode cX1_add 19 = .ok (.iastore, 1) := by decide +kernel
theorem dX1_add_20 : decode cX1_add 20 = .ok (.aload_n 0, 1) := by decide +kernel
theorem dX1_add_21 : decode cX1_add 21 = .ok (.aload_n 0, 1) := by decide +kernel
theorem dX1_add_22 : decode cX1_add 22 = .ok (.getfield 22, 3) := by decide +kernel
theorem dX1_add_25 : decode cX1_add 25 = .ok (.aload_n 0, 1) := by decide +kernel
theorem dX1_add_26 : decode cX1_add 26 = .ok (.getfield 18, 3) := by decide +kernel
theorem dX1_add_29 : decode cX1_add 29 = .ok (.invokestatic 25, 3) := by decide +kernel
theorem dX1_add_32 : decode cX1_add 32 = .ok (.putfield 22, 3) := by decide +kernel
theorem dX1_add_35 : decode cX1_add 35 = .ok (.aload_n 0, 1) := by decide +kernel
theorem dX1_add_36 : decode cX1_add 36 = .ok (.dup, 1) := by decide +kernel
theorem dX1_add_37 : decode cX1_add 37 = .ok (.getfield 18, 3) := by decide +kernel
theorem dX1_add_40 : decode cX1_add 40 = .ok (.iconst 1, 1) := by decide +kernel
theorem dX1_add_41 : decode cX1_add 41 = .ok (.iadd, 1) := by decide +kernel
theorem dX1_add_42 : decode cX1_add 42 = .ok (.putfield 18, 3) := by decide +kernel
theorem dX1_add_45 : decode cX1_add 45 = .ok (.aload_n 0, 1) := by decide +kernel
theorem dX1_add_46 : decode cX1_add 46 = .ok (.getfield 18, 3) := by decide +kernel
theorem dX1_add_49 : decode cX1_add 49 = .ok (.iconst 1, 1) := by decide +kernel
theorem dX1_add_50 : decode cX1_add 50 = .ok (.isub, 1) := by decide +kernel
theorem dX1_add_51 : decode cX1_add 51 = .ok (.ireturn, 1) := by decide +kernel
set_option maxHeartbeats 8000000 in
set_option maxRecDepth 100000 in
theorem c_X1_add (l : Launch) (g : kG) (sz : Nat) (a : Nat → Nat) (cnt : Nat) (f0 : Nat → Int32) (f1 : Nat → Int32) (xi : Int32) (x : Int32) (hc : cnt < 7) (hk : ∀ j, j < 7 → (0 : Int) ≤ (f0 j).toInt ∧ (f0 j).toInt ≤ 3) (hxk : (0 : Int) ≤ Int32.toInt x ∧ Int32.toInt x ≤ 3) : kMi l g yX1_add cX1_add 2 (some .int) 2 0 0 [.ref (a 0), .int x] sz [(a 0, .inr (1, [.int (nI cnt), .ref (a 1), .ref (a 2), .int xi])), (a 1, .inl (gI g, 7, .inl f0)), (a 2, .inl (gI g, 7, .inl f1))] (fun (r : Int32) (u : (Nat → Int32) × (Nat → Int32) × Int32) => ∀ j, j < 7 → (0 : Int) ≤ (u.1 j).toInt ∧ (u.1 j).toInt ≤ 3) (fun (u : (Nat → Int32) × (Nat → Int32) × Int32) => ([(a 0, .inr (1, [.int (nI (cnt + 1)), .ref (a 1), .ref (a 2), .int u.2.2])), (a 1, .inl (gI g, 7, .inl u.1)), (a 2, .inl (gI g, 7, .inl u.2.1))] : va_W)) := by
  refine kMi.of (by decide) (Nat.le_of_ble_eq_true rfl) (fun p e s m below meth c A hx hb hr hml hown hts hlk hnm hKW hP hD hS hA ls hl => ?_)
  have hown : s.vm.findClass RX1 = some m.cls := hown
  have hl : lv_has ls 2 [(0, .ref (a 0)), (1, .int x)] := hl
  refine k_hide hP hS (fun H locs hP hS => ?_)
  refine lv_aload_n hx hb dX1_add_0 rfl (lv_at hl 0 rfl) ?_
  refine va_get (ci := 1) (C := RX1) (T := TX1) (N := 4) hx hb hts inlX1 hown hKW.1 hP 0 rfl rfl 1 (by decide) (hts _ wd_4_1) (fun _ h => h) rfl dX1_add_1 ?_
  refine lv_aload_n hx hb dX1_add_4 rfl (lv_at hl 0 rfl) ?_
  refine va_get (ci := 1) (C := RX1) (T := TX1) (N := 4) hx hb hts inlX1 hown hKW.1 hP 0 rfl rfl 0 (by decide) (hts _ wd_9_0) (fun _ h => h) rfl dX1_add_5 ?_
  refine lv_iload_n hx hb dX1_add_8 rfl (lv_at hl 1 rfl) ?_
  refine va_iast hx hb hKW.1 hP hD hS 1 0 rfl rfl (vp_in_nI (by omega) (by decide)) dX1_add_9 (fun H locs hP hD hS => ?_)
  have hP : va_P g.1 vwCl [(a 0, .inr (1, [.int (nI cnt), .ref (a 1), .ref (a 2), .int xi])), (a 1, .inl (gI g, 7, .inl (upd f0 (nI cnt).toNatClampNeg x))), (a 2, .inl (gI g, 7, .inl f1))] H := hP
  have hD : va_D A [(a 0, .inr (1, [.int (nI cnt), .ref (a 1), .ref (a 2), .int xi])), (a 1, .inl (gI g, 7, .inl (upd f0 (nI cnt).toNatClampNeg x))), (a 2, .inl (gI g, 7, .inl f1))] := hD
  obtain ⟨f_1, ef_1⟩ : ∃ zz_ : Nat → Int32, zz_ = upd f0 (nI cnt).toNatClampNeg x := ⟨_, rfl⟩
  rw [← ef_1] at hP hD
  have hkk := k_updI (N := 7) (P := fun z => (0 : Int) ≤ z.toInt ∧ z.toInt ≤ 3) ef_1 (by omega) hxk hk
  refine lv_aload_n hx hb dX1_add_10 rfl (lv_at hl 0 rfl) ?_
  refine va_get (ci := 1) (C := RX1) (T := TX1) (N := 4) hx hb hts inlX1 hown hKW.1 hP 0 rfl rfl 2 (by decide) (hts _ wd_4_2) (fun _ h => h) rfl dX1_add_11 ?_
  refine lv_aload_n hx hb dX1_add_14 rfl (lv_at hl 0 rfl) ?_
  refine va_get (ci := 1) (C := RX1) (T := TX1) (N := 4) hx hb hts inlX1 hown hKW.1 hP 0 rfl rfl 0 (by decide) (hts _ wd_9_0) (fun _ h => h) rfl dX1_add_15 ?_
  refine lv_iconst (v := (-1)) hx hb dX1_add_18 (by decide) ?_
  refine va_iast hx hb hKW.1 hP hD hS 2 0 rfl rfl (vp_in_nI (by omega) (by decide)) dX1_add_19 (fun H locs hP hD hS => ?_)
  have hP : va_P g.1 vwCl [(a 0, .inr (1, [.int (nI cnt), .ref (a 1), .ref (a 2), .int xi])), (a 1, .inl (gI g, 7, .inl f_1)), (a 2, .inl (gI g, 7, .inl (upd f1 (nI cnt).toNatClampNeg (-1))))] H := hP
  have hD : va_D A [(a 0, .inr (1, [.int (nI cnt), .ref (a 1), .ref (a 2), .int xi])), (a 1, .inl (gI g, 7, .inl f_1)), (a 2, .inl (gI g, 7, .inl (upd f1 (nI cnt).toNatClampNeg (-1))))] := hD
  obtain ⟨f_2, ef_2⟩ : ∃ zz_ : Nat → Int32, zz_ = upd f1 (nI cnt).toNatClampNeg (-1) := ⟨_, rfl⟩
  rw [← ef_2] at hP hD
  refine lv_aload_n hx hb dX1_add_20 rfl (lv_at hl 0 rfl) ?_
  refine lv_aload_n hx hb dX1_add_21 rfl (lv_at hl 0 rfl) ?_
  refine va_get (ci := 1) (C := RX1) (T := TX1) (N := 4) hx hb hts inlX1 hown hKW.1 hP 0 rfl rfl 3 (by decide) (hts _ wd_9_2) (fun _ h => h) rfl dX1_add_22 ?_
  refine lv_aload_n hx hb dX1_add_25 rfl (lv_at hl 0 rfl) ?_
  refine va_get (ci := 1) (C := RX1) (T := TX1) (N := 4) hx hb hts inlX1 hown hKW.1 hP 0 rfl rfl 0 (by decide) (hts _ wd_9_0) (fun _ h => h) rfl dX1_add_26 ?_
  refine k_SNi [] [0, 1, 2] (wr := [(a 0, .inr (1, [.int (nI cnt), .ref (a 1), .ref (a 2), .int xi])), (a 1, .inl (gI g, 7, .inl f_1)), (a 2, .inl (gI g, 7, .inl f_2))]) hx hb hml hown hts hKW hP hD hS hA hl.1 (c_X11_without l g _ xi (nI cnt) ) wd_11_13 wd_1_2 nw_12 wd_11_12 yd_X11_without ⟨(Nat.le_of_ble_eq_true rfl), (Nat.le_of_ble_eq_true rfl)⟩ rfl rfl rfl rfl (by decide) rfl (Nat.le_of_ble_eq_true rfl) dX1_add_29 ⟨(Nat.le_of_ble_eq_true rfl), (Nat.le_of_ble_eq_true rfl)⟩ (fun r_3 u_4 H locs hw_5 hP hD hS => ?_)
  have hP : va_P g.1 vwCl [(a 0, .inr (1, [.int (nI cnt), .ref (a 1), .ref (a 2), .int xi])), (a 1, .inl (gI g, 7, .inl f_1)), (a 2, .inl (gI g, 7, .inl f_2))] H := hP
  have hD : va_D A [(a 0, .inr (1, [.int (nI cnt), .ref (a 1), .ref (a 2), .int xi])), (a 1, .inl (gI g, 7, .inl f_1)), (a 2, .inl (gI g, 7, .inl f_2))] := hD
  refine va_put (ci := 1) (v := .int r_3) (C := RX1) (T := TX1) (N := 4) hx hb hts inlX1 tyX1 tyX1_ok nmX1 hown hKW.1 hP hD hS 0 rfl rfl 3 (by decide) (hts _ wd_9_2) (fun _ h => h) rfl (tyX1_ok 3 (by decide)) rfl rfl (Nat.le_of_ble_eq_true rfl) dX1_add_32 (fun H locs hP hD hS => ?_)
  have hP : va_P g.1 vwCl [(a 0, .inr (1, [.int (nI cnt), .ref (a 1), .ref (a 2), .int r_3])), (a 1, .inl (gI g, 7, .inl f_1)), (a 2, .inl (gI g, 7, .inl f_2))] H := hP
  have hD : va_D A [(a 0, .inr (1, [.int (nI cnt), .ref (a 1), .ref (a 2), .int r_3])), (a 1, .inl (gI g, 7, .inl f_1)), (a 2, .inl (gI g, 7, .inl f_2))] := hD
  refine lv_aload_n hx hb dX1_add_35 rfl (lv_at hl 0 rfl) ?_
  refine lv_dup hx hb dX1_add_36 rfl ?_
  refine va_get (ci := 1) (C := RX1) (T := TX1) (N := 4) hx hb hts inlX1 hown hKW.1 hP 0 rfl rfl 0 (by decide) (hts _ wd_9_0) (fun _ h => h) rfl dX1_add_37 ?_
  refine lv_iconst (v := 1) hx hb dX1_add_40 (by decide) ?_
  refine lv_iadd hx hb dX1_add_41 ?_
  refine k_top (y := nI (cnt + 1)) (nI_add cnt 1) ?_
  refine va_put (ci := 1) (v := .int (nI (cnt + 1))) (C := RX1) (T := TX1) (N := 4) hx hb hts inlX1 tyX1 tyX1_ok nmX1 hown hKW.1 hP hD hS 0 rfl rfl 0 (by decide) (hts _ wd_9_0) (fun _ h => h) rfl (tyX1_ok 0 (by decide)) rfl rfl (Nat.le_of_ble_eq_true rfl) dX1_add_42 (fun H locs hP hD hS => ?_)
  have hP : va_P g.1 vwCl [(a 0, .inr (1, [.int (nI (cnt + 1)), .ref (a 1), .ref (a 2), .int r_3])), (a 1, .inl (gI g, 7, .inl f_1)), (a 2, .inl (gI g, 7, .inl f_2))] H := hP
  have hD : va_D A [(a 0, .inr (1, [.int (nI (cnt + 1)), .ref (a 1), .ref (a 2), .int r_3])), (a 1, .inl (gI g, 7, .inl f_1)), (a 2, .inl (gI g, 7, .inl f_2))] := hD
  refine lv_aload_n hx hb dX1_add_45 rfl (lv_at hl 0 rfl) ?_
  refine va_get (ci := 1) (C := RX1) (T := TX1) (N := 4) hx hb hts inlX1 hown hKW.1 hP 0 rfl rfl 0 (by decide) (hts _ wd_9_0) (fun _ h => h) rfl dX1_add_46 ?_
  refine lv_iconst (v := 1) hx hb dX1_add_49 (by decide) ?_
  refine lv_isub hx hb dX1_add_50 ?_
  refine lv_topi (fun x_6 ex_6 => ?_)
  exact k_iret (f_1, f_2, r_3) [0, 1, 2] hx hb hr hlk hP hD hS hkk rfl rfl rfl (Nat.le_of_ble_eq_true rfl) (Nat.le_of_ble_eq_true rfl) dX1_add_51
theorem dX1_worth_0 : decode cX1_worth 0 = .ok (.getstatic 29, 3) := by decide +kernel
theorem dX1_worth_3 : decode cX1_worth 3 = .ok (.aload_n 0, 1) := by decide +kernel
theorem dX1_worth_4 : decode cX1_worth 4 = .ok (.getfield 9, 3) := by decide +kernel
theorem dX1_worth_7 : decode cX1_worth 7 = .ok (.iload_n 1, 1) := by decide +kernel
theorem dX1_worth_8 : decode cX1_worth 8 = .ok (.iaload, 1) := by decide +kernel
theorem dX1_worth_9 : decode cX1_worth 9 = .ok (.iaload, 1) := by decide +kernel
theorem dX1_worth_10 : decode cX1_worth 10 = .ok (.ireturn, 1) := by decide +kernel
set_option maxHeartbeats 8000000 in
set_option maxRecDepth 100000 in
theorem c_X1_worth (l : Launch) (g : kG) (sz : Nat) (a : Nat → Nat) (cnt : Nat) (f0 : Nat → Int32) (f1 : Nat → Int32) (xi : Int32) (j : Nat) (hj : j < 7) (hk : ∀ j, j < 7 → (0 : Int) ≤ (f0 j).toInt ∧ (f0 j).toInt ≤ 3) : kMi l g yX1_worth cX1_worth 2 (some .int) 1 0 0 [.ref (a 0), .int (nI j)] sz [(a 0, .inr (1, [.int (nI cnt), .ref (a 1), .ref (a 2), .int xi])), (a 1, .inl (gI g, 7, .inl f0)), (a 2, .inl (gI g, 7, .inl f1))] (fun (r : Int32) (u : Unit) => True) (fun (u : Unit) => ([(a 0, .inr (1, [.int (nI cnt), .ref (a 1), .ref (a 2), .int xi])), (a 1, .inl (gI g, 7, .inl f0)), (a 2, .inl (gI g, 7, .inl f1))] : va_W)) := by
  refine kMi.of (by decide) (Nat.le_of_ble_eq_true rfl) (fun p e s m below meth c A hx hb hr hml hown hts hlk hnm hKW hP hD hS hA ls hl => ?_)
  have hown : s.vm.findClass RX1 = some m.cls := hown
  have hl : lv_has ls 2 [(0, .ref (a 0)), (1, .int (nI j))] := hl
  refine k_hide hP hS (fun H locs hP hS => ?_)
  obtain ⟨zw0, zw1, zx0, zx1, zz0, zy0, zl0, zn0, zz1, zy1, zl1, zn1, zd⟩ := hKW.2.2.2.2
  refine va_getsN hx hb zz0 hS hown (va_Nw.use rfl (hKW.2.1 _ nw_29)) (fun _ h => h) dX1_worth_0 ?_
  refine lv_aload_n hx hb dX1_worth_3 rfl (lv_at hl 0 rfl) ?_
  refine va_get (ci := 1) (C := RX1) (T := TX1) (N := 4) hx hb hts inlX1 hown hKW.1 hP 0 rfl rfl 1 (by decide) (hts _ wd_4_1) (fun _ h => h) rfl dX1_worth_4 ?_
  refine lv_iload_n hx hb dX1_worth_7 rfl (lv_at hl 1 rfl) ?_
  refine va_iald hx hb hKW.1 hP 1 0 rfl rfl (vp_in_nI (by omega) (by decide)) dX1_worth_8 ?_
  refine lv_topi (fun x_1 ex_1 => ?_)
  obtain ⟨kj, hkj, ekj⟩ := k_ofr (x := x_1) (n := 4) (by decide) (by rw [ex_1, nI_clamp (by omega)]; have := hk j hj; omega)
  refine k_sld hx hb zy0 zl0 zn0 hS (by rw [ekj]; exact vp_in_nI (by omega) (by decide)) dX1_worth_9 ?_
  refine lv_topi (fun x_2 ex_2 => ?_)
  exact k_iret () [0, 1, 2] hx hb hr hlk hP hD hS trivial rfl rfl rfl (Nat.le_of_ble_eq_true rfl) (Nat.le_of_ble_eq_true rfl) dX1_worth_10
theorem dX1_inRoom_0 : decode cX1_inRoom 0 = .ok (.iconst 0, 1) := by decide +kernel
theorem dX1_inRoom_1 : decode cX1_inRoom 1 = .ok (.istore_n 2, 1) := by decide +kernel
theorem dX1_inRoom_2 : decode cX1_inRoom 2 = .ok (.iconst 0, 1) := by decide +kernel
theorem dX1_inRoom_3 : decode cX1_inRoom 3 = .ok (.istore_n 3, 1) := by decide +kernel
theorem dX1_inRoom_4 : decode cX1_inRoom 4 = .ok (.iload_n 3, 1) := by decide +kernel
theorem dX1_inRoom_5 : decode cX1_inRoom 5 = .ok (.aload_n 0, 1) := by decide +kernel
theorem dX1_inRoom_6 : decode cX1_inRoom 6 = .ok (.getfield 18, 3) := by decide +kernel
theorem dX1_inRoom_9 : decode cX1_inRoom 9 = .ok (.if_icmp .ge 25, 3) := by decide +kernel
theorem dX1_inRoom_34 : decode cX1_inRoom 34 = .ok (.iload_n 2, 1) := by decide +kernel
theorem dX1_inRoom_35 : decode cX1_inRoom 35 = .ok (.ireturn, 1) := by decide +kernel
theorem dX1_inRoom_12 : decode cX1_inRoom 12 = .ok (.aload_n 0, 1) := by decide +kernel
theorem dX1_inRoom_13 : decode cX1_inRoom 13 = .ok (.getfield 15, 3) := by decide +kernel
theorem dX1_inRoom_16 : decode cX1_inRoom 16 = .ok (.iload_n 3, 1) := by decide +kernel
theorem dX1_inRoom_17 : decode cX1_inRoom 17 = .ok (.iaload, 1) := by decide +kernel
theorem dX1_inRoom_18 : decode cX1_inRoom 18 = .ok (.iload_n 1, 1) := by decide +kernel
theorem dX1_inRoom_19 : decode cX1_inRoom 19 = .ok (.if_icmp .ne 9, 3) := by decide +kernel
theorem dX1_inRoom_28 : decode cX1_inRoom 28 = .ok (.iinc 3 1, 3) := by decide +kernel
theorem dX1_inRoom_31 : decode cX1_inRoom 31 = .ok (.goto (-27), 3) := by decide +kernel
theorem dX1_inRoom_22 : decode cX1_inRoom 22 = .ok (.iload_n 2, 1) := by decide +kernel
theorem dX1_inRoom_23 : decode cX1_inRoom 23 = .ok (.iload_n 3, 1) := by decide +kernel
theorem dX1_inRoom_24 : decode cX1_inRoom 24 = .ok (.invokestatic 32, 3) := by decide +kernel
theorem dX1_inRoom_27 : decode cX1_inRoom 27 = .ok (.istore_n 2, 1) := by decide +kernel
set_option maxHeartbeats 8000000 in
set_option maxRecDepth 100000 in
theorem c_X1_inRoom (l : Launch) (g : kG) (sz : Nat) (a : Nat → Nat) (cnt : Nat) (f0 : Nat → Int32) (f1 : Nat → Int32) (xi : Int32) (x : Int32) (hc : cnt ≤ 7) : kMi l g yX1_inRoom cX1_inRoom 4 (some .int) 2 0 0 [.ref (a 0), .int x] sz [(a 0, .inr (1, [.int (nI cnt), .ref (a 1), .ref (a 2), .int xi])), (a 1, .inl (gI g, 7, .inl f0)), (a 2, .inl (gI g, 7, .inl f1))] (fun (r : Int32) (u : Unit) => True) (fun (u : Unit) => ([(a 0, .inr (1, [.int (nI cnt), .ref (a 1), .ref (a 2), .int xi])), (a 1, .inl (gI g, 7, .inl f0)), (a 2, .inl (gI g, 7, .inl f1))] : va_W)) := by
  refine kMi.of (by decide) (Nat.le_of_ble_eq_true rfl) (fun p e s m below meth c A hx hb hr hml hown hts hlk hnm hKW hP hD hS hA ls hl => ?_)
  have hown : s.vm.findClass RX1 = some m.cls := hown
  have hl : lv_has ls 4 [(0, .ref (a 0)), (1, .int x)] := hl
  refine k_hide hP hS (fun H locs hP hS => ?_)
  refine lv_iconst (v := 0) hx hb dX1_inRoom_0 (by decide) ?_
  refine lv_istore_n (lv' := [(2, .int 0), (0, .ref (a 0)), (1, .int x)]) hx hb dX1_inRoom_1 rfl hl (by decide) rfl (fun ls hl => ?_)
  refine lv_iconst (v := 0) hx hb dX1_inRoom_2 (by decide) ?_
  refine lv_istore_n (lv' := [(3, .int 0), (2, .int 0), (0, .ref (a 0)), (1, .int x)]) hx hb dX1_inRoom_3 rfl hl (by decide) rfl (fun ls hl => ?_)
  have L4 : ∀ (n4 : Nat) (i : Nat) (x2 : Int32) (hfuel4 : cnt - i < n4) (hi : i ≤ cnt) (H : Heap) (locs : List Loc) (hP : va_P g.1 vwCl [(a 0, .inr (1, [.int (nI cnt), .ref (a 1), .ref (a 2), .int xi])), (a 1, .inl (gI g, 7, .inl f0)), (a 2, .inl (gI g, 7, .inl f1))] H) (hD : va_D A [(a 0, .inr (1, [.int (nI cnt), .ref (a 1), .ref (a 2), .int xi])), (a 1, .inl (gI g, 7, .inl f0)), (a 2, .inl (gI g, 7, .inl f1))]) (hS : va_S A s.heap H locs) (ls : Array Slot) (hl : lv_has ls 4 [(3, .int (nI i)), (2, .int x2), (0, .ref (a 0)), (1, .int x)]), W p l e (kR 2 0 0) s m ([.ref (a 0), .int x] : List Value).toArray below meth c H locs 0 0 (kQi g A below ([.ref (a 0), .int x] : List Value).toArray s 0 0 (fun (r : Int32) (u : Unit) => True) (fun (u : Unit) => ([(a 0, .inr (1, [.int (nI cnt), .ref (a 1), .ref (a 2), .int xi])), (a 1, .inl (gI g, 7, .inl f0)), (a 2, .inl (gI g, 7, .inl f1))] : va_W))) (F0 m 4 ls []) := by
    intro n4
    induction n4 with
    | zero => intro i x2 hfuel4; exact absurd hfuel4 (Nat.not_lt_zero _)
    | succ n4 ih4 =>
      intro i x2 hfuel4 hi H locs hP hD hS ls hl
      refine lv_iload_n hx hb dX1_inRoom_4 rfl (lv_at hl 0 rfl) ?_
      refine lv_aload_n hx hb dX1_inRoom_5 rfl (lv_at hl 2 rfl) ?_
      refine va_get (ci := 1) (C := RX1) (T := TX1) (N := 4) hx hb hts inlX1 hown hKW.1 hP 0 rfl rfl 0 (by decide) (hts _ wd_9_0) (fun _ h => h) rfl dX1_inRoom_6 ?_
      refine lv_icmp_ge (tgt := 34) hx hb dX1_inRoom_9 (by decide) (fun c_1 => ?_) (fun c_1 => ?_)
      · have c_1n : cnt ≤ i := (k_leI (a := cnt) (b := i) (by omega) (by omega)).mp c_1
        refine lv_iload_n hx hb dX1_inRoom_34 rfl (lv_at hl 1 rfl) ?_
        exact k_iret () [0, 1, 2] hx hb hr hlk hP hD hS trivial rfl rfl rfl (Nat.le_of_ble_eq_true rfl) (Nat.le_of_ble_eq_true rfl) dX1_inRoom_35
      · have c_1n : i < cnt := Nat.not_le.mp (fun h => c_1 ((k_leI (a := cnt) (b := i) (by omega) (by omega)).mpr h))
        refine lv_aload_n hx hb dX1_inRoom_12 rfl (lv_at hl 2 rfl) ?_
        refine va_get (ci := 1) (C := RX1) (T := TX1) (N := 4) hx hb hts inlX1 hown hKW.1 hP 0 rfl rfl 2 (by decide) (hts _ wd_4_2) (fun _ h => h) rfl dX1_inRoom_13 ?_
        refine lv_iload_n hx hb dX1_inRoom_16 rfl (lv_at hl 0 rfl) ?_
        refine va_iald hx hb hKW.1 hP 2 0 rfl rfl (vp_in_nI (by omega) (by decide)) dX1_inRoom_17 ?_
        refine lv_topi (fun x_2 ex_2 => ?_)
        refine lv_iload_n hx hb dX1_inRoom_18 rfl (lv_at hl 3 rfl) ?_
        refine lv_icmp_ne (tgt := 28) hx hb dX1_inRoom_19 (by decide) (fun c_3 => ?_) (fun c_3 => ?_)
        · refine lv_iinc (v := nI (i + 1)) (lv' := [(3, .int (nI (i + 1))), (2, .int x2), (0, .ref (a 0)), (1, .int x)]) hx hb dX1_inRoom_28 hl (k := 0) rfl (nI_add i 1) (by decide) rfl (fun ls hl => ?_)
          refine lv_goto (tgt := 4) hx hb dX1_inRoom_31 (by decide) ?_
          exact ih4 (i + 1) x2 (by omega) (by first | assumption | omega) H locs (hP.sub [0, 1, 2] rfl) (hD.sub [0, 1, 2] (by decide) rfl) hS ls (lv_sub hl [0, 1, 2, 3] rfl)
        · refine lv_iload_n hx hb dX1_inRoom_22 rfl (lv_at hl 1 rfl) ?_
          refine lv_iload_n hx hb dX1_inRoom_23 rfl (lv_at hl 0 rfl) ?_
          refine k_SNi [] [0, 1, 2] (wr := [(a 0, .inr (1, [.int (nI cnt), .ref (a 1), .ref (a 2), .int xi])), (a 1, .inl (gI g, 7, .inl f0)), (a 2, .inl (gI g, 7, .inl f1))]) hx hb hml hown hts hKW hP hD hS hA hl.1 (c_X11_with l g _ x2 (nI i) ) wd_17_10 wd_1_2 nw_17 wd_17_9 yd_X11_with ⟨(Nat.le_of_ble_eq_true rfl), (Nat.le_of_ble_eq_true rfl)⟩ rfl rfl rfl rfl (by decide) rfl (Nat.le_of_ble_eq_true rfl) dX1_inRoom_24 ⟨(Nat.le_of_ble_eq_true rfl), (Nat.le_of_ble_eq_true rfl)⟩ (fun r_4 u_5 H locs hw_6 hP hD hS => ?_)
          have hP : va_P g.1 vwCl [(a 0, .inr (1, [.int (nI cnt), .ref (a 1), .ref (a 2), .int xi])), (a 1, .inl (gI g, 7, .inl f0)), (a 2, .inl (gI g, 7, .inl f1))] H := hP
          have hD : va_D A [(a 0, .inr (1, [.int (nI cnt), .ref (a 1), .ref (a 2), .int xi])), (a 1, .inl (gI g, 7, .inl f0)), (a 2, .inl (gI g, 7, .inl f1))] := hD
          refine lv_istore_n (lv' := [(2, .int r_4), (3, .int (nI i)), (0, .ref (a 0)), (1, .int x)]) hx hb dX1_inRoom_27 rfl hl (by decide) rfl (fun ls hl => ?_)
          refine lv_iinc (v := nI (i + 1)) (lv' := [(3, .int (nI (i + 1))), (2, .int r_4), (0, .ref (a 0)), (1, .int x)]) hx hb dX1_inRoom_28 hl (k := 1) rfl (nI_add i 1) (by decide) rfl (fun ls hl => ?_)
          refine lv_goto (tgt := 4) hx hb dX1_inRoom_31 (by decide) ?_
          exact ih4 (i + 1) r_4 (by omega) (by first | assumption | omega) H locs (hP.sub [0, 1, 2] rfl) (hD.sub [0, 1, 2] (by decide) rfl) hS ls (lv_sub hl [0, 1, 2, 3] rfl)
  exact L4 (cnt - 0 + 1) 0 0 (Nat.lt_succ_self _) (by first | assumption | omega) H locs (hP.sub [0, 1, 2] rfl) (hD.sub [0, 1, 2] (by decide) rfl) hS ls (lv_sub hl [0, 1, 2, 3] rfl)
theorem dX1_worthIn_0 : decode cX1_worthIn 0 = .ok (.iconst 0, 1) := by decide +kernel
theorem dX1_worthIn_1 : decode cX1_worthIn 1 = .ok (.istore_n 2, 1) := by decide +kernel
theorem dX1_worthIn_2 : decode cX1_worthIn 2 = .ok (.iconst 0, 1) := by decide +kernel
theorem dX1_worthIn_3 : decode cX1_worthIn 3 = .ok (.istore_n 3, 1) := by decide +kernel
theorem dX1_worthIn_4 : decode cX1_worthIn 4 = .ok (.iload_n 3, 1) := by decide +kernel
theorem dX1_worthIn_5 : decode cX1_worthIn 5 = .ok (.aload_n 0, 1) := by decide +kernel
theorem dX1_worthIn_6 : decode cX1_worthIn 6 = .ok (.getfield 18, 3) := by decide +kernel
theorem dX1_worthIn_9 : decode cX1_worthIn 9 = .ok (.if_icmp .ge 27, 3) := by decide +kernel
theorem dX1_worthIn_36 : decode cX1_worthIn 36 = .ok (.iload_n 2, 1) := by decide +kernel
theorem dX1_worthIn_37 : decode cX1_worthIn 37 = .ok (.ireturn, 1) := by decide +kernel
theorem dX1_worthIn_12 : decode cX1_worthIn 12 = .ok (.aload_n 0, 1) := by decide +kernel
theorem dX1_worthIn_13 : decode cX1_worthIn 13 = .ok (.getfield 15, 3) := by decide +kernel
theorem dX1_worthIn_16 : decode cX1_worthIn 16 = .ok (.iload_n 3, 1) := by decide +kernel
theorem dX1_worthIn_17 : decode cX1_worthIn 17 = .ok (.iaload, 1) := by decide +kernel
theorem dX1_worthIn_18 : decode cX1_worthIn 18 = .ok (.iload_n 1, 1) := by decide +kernel
theorem dX1_worthIn_19 : decode cX1_worthIn 19 = .ok (.if_icmp .ne 11, 3) := by decide +kernel
theorem dX1_worthIn_30 : decode cX1_worthIn 30 = .ok (.iinc 3 1, 3) := by decide +kernel
theorem dX1_worthIn_33 : decode cX1_worthIn 33 = .ok (.goto (-29), 3) := by decide +kernel
theorem dX1_worthIn_22 : decode cX1_worthIn 22 = .ok (.iload_n 2, 1) := by decide +kernel
theorem dX1_worthIn_23 : decode cX1_worthIn 23 = .ok (.aload_n 0, 1) := by decide +kernel
theorem dX1_worthIn_24 : decode cX1_worthIn 24 = .ok (.iload_n 3, 1) := by decide +kernel
theorem dX1_worthIn_25 : decode cX1_worthIn 25 = .ok (.invokevirtual 35, 3) := by decide +kernel
theorem dX1_worthIn_28 : decode cX1_worthIn 28 = .ok (.iadd, 1) := by decide +kernel
theorem dX1_worthIn_29 : decode cX1_worthIn 29 = .ok (.istore_n 2, 1) := by decide +kernel
set_option maxHeartbeats 8000000 in
set_option maxRecDepth 100000 in
theorem c_X1_worthIn (l : Launch) (g : kG) (sz : Nat) (a : Nat → Nat) (cnt : Nat) (f0 : Nat → Int32) (f1 : Nat → Int32) (xi : Int32) (x : Int32) (hc : cnt ≤ 7) (hk : ∀ j, j < 7 → (0 : Int) ≤ (f0 j).toInt ∧ (f0 j).toInt ≤ 3) : kMi l g yX1_worthIn cX1_worthIn 4 (some .int) 2 0 0 [.ref (a 0), .int x] sz [(a 0, .inr (1, [.int (nI cnt), .ref (a 1), .ref (a 2), .int xi])), (a 1, .inl (gI g, 7, .inl f0)), (a 2, .inl (gI g, 7, .inl f1))] (fun (r : Int32) (u : Unit) => True) (fun (u : Unit) => ([(a 0, .inr (1, [.int (nI cnt), .ref (a 1), .ref (a 2), .int xi])), (a 1, .inl (gI g, 7, .inl f0)), (a 2, .inl (gI g, 7, .inl f1))] : va_W)) := by
  refine kMi.of (by decide) (Nat.le_of_ble_eq_true rfl) (fun p e s m below meth c A hx hb hr hml hown hts hlk hnm hKW hP hD hS hA ls hl => ?_)
  have hown : s.vm.findClass RX1 = some m.cls := hown
  have hl : lv_has ls 4 [(0, .ref (a 0)), (1, .int x)] := hl
  refine k_hide hP hS (fun H locs hP hS => ?_)
  refine lv_iconst (v := 0) hx hb dX1_worthIn_0 (by decide) ?_
  refine lv_istore_n (lv' := [(2, .int 0), (0, .ref (a 0)), (1, .int x)]) hx hb dX1_worthIn_1 rfl hl (by decide) rfl (fun ls hl => ?_)
  refine lv_iconst (v := 0) hx hb dX1_worthIn_2 (by decide) ?_
  refine lv_istore_n (lv' := [(3, .int 0), (2, .int 0), (0, .ref (a 0)), (1, .int x)]) hx hb dX1_worthIn_3 rfl hl (by decide) rfl (fun ls hl => ?_)
  have L4 : ∀ (n4 : Nat) (i : Nat) (x2 : Int32) (hfuel4 : cnt - i < n4) (hi : i ≤ cnt) (H : Heap) (locs : List Loc) (hP : va_P g.1 vwCl [(a 0, .inr (1, [.int (nI cnt), .ref (a 1), .ref (a 2), .int xi])), (a 1, .inl (gI g, 7, .inl f0)), (a 2, .inl (gI g, 7, .inl f1))] H) (hD : va_D A [(a 0, .inr (1, [.int (nI cnt), .ref (a 1), .ref (a 2), .int xi])), (a 1, .inl (gI g, 7, .inl f0)), (a 2, .inl (gI g, 7, .inl f1))]) (hS : va_S A s.heap H locs) (ls : Array Slot) (hl : lv_has ls 4 [(3, .int (nI i)), (2, .int x2), (0, .ref (a 0)), (1, .int x)]), W p l e (kR 2 0 0) s m ([.ref (a 0), .int x] : List Value).toArray below meth c H locs 0 0 (kQi g A below ([.ref (a 0), .int x] : List Value).toArray s 0 0 (fun (r : Int32) (u : Unit) => True) (fun (u : Unit) => ([(a 0, .inr (1, [.int (nI cnt), .ref (a 1), .ref (a 2), .int xi])), (a 1, .inl (gI g, 7, .inl f0)), (a 2, .inl (gI g, 7, .inl f1))] : va_W))) (F0 m 4 ls []) := by
    intro n4
    induction n4 with
    | zero => intro i x2 hfuel4; exact absurd hfuel4 (Nat.not_lt_zero _)
    | succ n4 ih4 =>
      intro i x2 hfuel4 hi H locs hP hD hS ls hl
      refine lv_iload_n hx hb dX1_worthIn_4 rfl (lv_at hl 0 rfl) ?_
      refine lv_aload_n hx hb dX1_worthIn_5 rfl (lv_at hl 2 rfl) ?_
      refine va_get (ci := 1) (C := RX1) (T := TX1) (N := 4) hx hb hts inlX1 hown hKW.1 hP 0 rfl rfl 0 (by decide) (hts _ wd_9_0) (fun _ h => h) rfl dX1_worthIn_6 ?_
      refine lv_icmp_ge (tgt := 36) hx hb dX1_worthIn_9 (by decide) (fun c_1 => ?_) (fun c_1 => ?_)
      · have c_1n : cnt ≤ i := (k_leI (a := cnt) (b := i) (by omega) (by omega)).mp c_1
        refine lv_iload_n hx hb dX1_worthIn_36 rfl (lv_at hl 1 rfl) ?_
        exact k_iret () [0, 1, 2] hx hb hr hlk hP hD hS trivial rfl rfl rfl (Nat.le_of_ble_eq_true rfl) (Nat.le_of_ble_eq_true rfl) dX1_worthIn_37
      · have c_1n : i < cnt := Nat.not_le.mp (fun h => c_1 ((k_leI (a := cnt) (b := i) (by omega) (by omega)).mpr h))
        refine lv_aload_n hx hb dX1_worthIn_12 rfl (lv_at hl 2 rfl) ?_
        refine va_get (ci := 1) (C := RX1) (T := TX1) (N := 4) hx hb hts inlX1 hown hKW.1 hP 0 rfl rfl 2 (by decide) (hts _ wd_4_2) (fun _ h => h) rfl dX1_worthIn_13 ?_
        refine lv_iload_n hx hb dX1_worthIn_16 rfl (lv_at hl 0 rfl) ?_
        refine va_iald hx hb hKW.1 hP 2 0 rfl rfl (vp_in_nI (by omega) (by decide)) dX1_worthIn_17 ?_
        refine lv_topi (fun x_2 ex_2 => ?_)
        refine lv_iload_n hx hb dX1_worthIn_18 rfl (lv_at hl 3 rfl) ?_
        refine lv_icmp_ne (tgt := 30) hx hb dX1_worthIn_19 (by decide) (fun c_3 => ?_) (fun c_3 => ?_)
        · refine lv_iinc (v := nI (i + 1)) (lv' := [(3, .int (nI (i + 1))), (2, .int x2), (0, .ref (a 0)), (1, .int x)]) hx hb dX1_worthIn_30 hl (k := 0) rfl (nI_add i 1) (by decide) rfl (fun ls hl => ?_)
          refine lv_goto (tgt := 4) hx hb dX1_worthIn_33 (by decide) ?_
          exact ih4 (i + 1) x2 (by omega) (by first | assumption | omega) H locs (hP.sub [0, 1, 2] rfl) (hD.sub [0, 1, 2] (by decide) rfl) hS ls (lv_sub hl [0, 1, 2, 3] rfl)
        · refine lv_iload_n hx hb dX1_worthIn_22 rfl (lv_at hl 1 rfl) ?_
          refine lv_aload_n hx hb dX1_worthIn_23 rfl (lv_at hl 2 rfl) ?_
          refine lv_iload_n hx hb dX1_worthIn_24 rfl (lv_at hl 0 rfl) ?_
          refine k_Vi [0, 1, 2] [] 0 1 (wr := []) hx hb hml hown hts hKW hP hD hS hA hl.1 (c_X1_worth l g _ a cnt f0 f1 xi i (by first | assumption | omega | decide) (by first | assumption | omega | decide)) rfl rfl rfl wd_26_6 wd_2_21 wd_26_3 wd_26_4 wd_26_5 yd_X1_worth ⟨(Nat.le_of_ble_eq_true rfl), (Nat.le_of_ble_eq_true rfl)⟩ rfl rfl rfl rfl (by decide) rfl (Nat.le_of_ble_eq_true rfl) dX1_worthIn_25 ⟨(Nat.le_of_ble_eq_true rfl), (Nat.le_of_ble_eq_true rfl)⟩ (fun r_4 u_5 H locs hw_6 hP hD hS => ?_)
          have hP : va_P g.1 vwCl [(a 0, .inr (1, [.int (nI cnt), .ref (a 1), .ref (a 2), .int xi])), (a 1, .inl (gI g, 7, .inl f0)), (a 2, .inl (gI g, 7, .inl f1))] H := hP
          have hD : va_D A [(a 0, .inr (1, [.int (nI cnt), .ref (a 1), .ref (a 2), .int xi])), (a 1, .inl (gI g, 7, .inl f0)), (a 2, .inl (gI g, 7, .inl f1))] := hD
          refine lv_iadd hx hb dX1_worthIn_28 ?_
          refine lv_topi (fun x_7 ex_7 => ?_)
          refine lv_istore_n (lv' := [(2, .int x_7), (3, .int (nI i)), (0, .ref (a 0)), (1, .int x)]) hx hb dX1_worthIn_29 rfl hl (by decide) rfl (fun ls hl => ?_)
          refine lv_iinc (v := nI (i + 1)) (lv' := [(3, .int (nI (i + 1))), (2, .int x_7), (0, .ref (a 0)), (1, .int x)]) hx hb dX1_worthIn_30 hl (k := 1) rfl (nI_add i 1) (by decide) rfl (fun ls hl => ?_)
          refine lv_goto (tgt := 4) hx hb dX1_worthIn_33 (by decide) ?_
          exact ih4 (i + 1) x_7 (by omega) (by first | assumption | omega) H locs (hP.sub [0, 1, 2] rfl) (hD.sub [0, 1, 2] (by decide) rfl) hS ls (lv_sub hl [0, 1, 2, 3] rfl)
  exact L4 (cnt - 0 + 1) 0 0 (Nat.lt_succ_self _) (by first | assumption | omega) H locs (hP.sub [0, 1, 2] rfl) (hD.sub [0, 1, 2] (by decide) rfl) hS ls (lv_sub hl [0, 1, 2, 3] rfl)
theorem dX1_trained_0 : decode cX1_trained 0 = .ok (.iconst 0, 1) := by decide +kernel
theorem dX1_trained_1 : decode cX1_trained 1 = .ok (.istore_n 1, 1) := by decide +kernel
theorem dX1_trained_2 : decode cX1_trained 2 = .ok (.iconst 0, 1) := by decide +kernel
theorem dX1_trained_3 : decode cX1_trained 3 = .ok (.istore_n 2, 1) := by decide +kernel
theorem dX1_trained_4 : decode cX1_trained 4 = .ok (.iload_n 2, 1) := by decide +kernel
theorem dX1_trained_5 : decode cX1_trained 5 = .ok (.aload_n 0, 1) := by decide +kernel
theorem dX1_trained_6 : decode cX1_trained 6 = .ok (.getfield 18, 3) := by decide +kernel
theorem dX1_trained_9 : decode cX1_trained 9 = .ok (.if_icmp .ge 28, 3) := by decide +kernel
theorem dX1_trained_37 : decode cX1_trained 37 = .ok (.iload_n 1, 1) := by decide +kernel
theorem dX1_trained_38 : decode cX1_trained 38 = .ok (.ireturn, 1) := by decide +kernel
theorem dX1_trained_12 : decode cX1_trained 12 = .ok (.aload_n 0, 1) := by decide +kernel
theorem dX1_trained_13 : decode cX1_trained 13 = .ok (.getfield 9, 3) := by decide +kernel
theorem dX1_trained_16 : decode cX1_trained 16 = .ok (.iload_n 2, 1) := by decide +kernel
theorem dX1_trained_17 : decode cX1_trained 17 = .ok (.iaload, 1) := by decide +kernel
theorem dX1_trained_18 : decode cX1_trained 18 = .ok (.iconst 1, 1) := by decide +kernel
theorem dX1_trained_19 : decode cX1_trained 19 = .ok (.invokestatic 39, 3) := by decide +kernel
theorem dX1_trained_22 : decode cX1_trained 22 = .ok (.ifCond .eq 9, 3) := by decide +kernel
theorem dX1_trained_25 : decode cX1_trained 25 = .ok (.iload_n 1, 1) := by decide +kernel
theorem dX1_trained_26 : decode cX1_trained 26 = .ok (.iload_n 2, 1) := by decide +kernel
theorem dX1_trained_27 : decode cX1_trained 27 = .ok (.invokestatic 32, 3) := by decide +kernel
theorem dX1_trained_30 : decode cX1_trained 30 = .ok (.istore_n 1, 1) := by decide +kernel
theorem dX1_trained_31 : decode cX1_trained 31 = .ok (.iinc 2 1, 3) := by decide +kernel
theorem dX1_trained_34 : decode cX1_trained 34 = .ok (.goto (-30), 3) := by decide +kernel
set_option maxHeartbeats 8000000 in
set_option maxRecDepth 100000 in
theorem c_X1_trained (l : Launch) (g : kG) (sz : Nat) (a : Nat → Nat) (cnt : Nat) (f0 : Nat → Int32) (f1 : Nat → Int32) (xi : Int32) (hc : cnt ≤ 7) : kMi l g yX1_trained cX1_trained 3 (some .int) 2 0 0 [.ref (a 0)] sz [(a 0, .inr (1, [.int (nI cnt), .ref (a 1), .ref (a 2), .int xi])), (a 1, .inl (gI g, 7, .inl f0)), (a 2, .inl (gI g, 7, .inl f1))] (fun (r : Int32) (u : Unit) => True) (fun (u : Unit) => ([(a 0, .inr (1, [.int (nI cnt), .ref (a 1), .ref (a 2), .int xi])), (a 1, .inl (gI g, 7, .inl f0)), (a 2, .inl (gI g, 7, .inl f1))] : va_W)) := by
  refine kMi.of (by decide) (Nat.le_of_ble_eq_true rfl) (fun p e s m below meth c A hx hb hr hml hown hts hlk hnm hKW hP hD hS hA ls hl => ?_)
  have hown : s.vm.findClass RX1 = some m.cls := hown
  have hl : lv_has ls 3 [(0, .ref (a 0))] := hl
  refine k_hide hP hS (fun H locs hP hS => ?_)
  refine lv_iconst (v := 0) hx hb dX1_trained_0 (by decide) ?_
  refine lv_istore_n (lv' := [(1, .int 0), (0, .ref (a 0))]) hx hb dX1_trained_1 rfl hl (by decide) rfl (fun ls hl => ?_)
  refine lv_iconst (v := 0) hx hb dX1_trained_2 (by decide) ?_
  refine lv_istore_n (lv' := [(2, .int 0), (1, .int 0), (0, .ref (a 0))]) hx hb dX1_trained_3 rfl hl (by decide) rfl (fun ls hl => ?_)
  have L4 : ∀ (n4 : Nat) (i : Nat) (x1 : Int32) (hfuel4 : cnt - i < n4) (hi : i ≤ cnt) (H : Heap) (locs : List Loc) (hP : va_P g.1 vwCl [(a 0, .inr (1, [.int (nI cnt), .ref (a 1), .ref (a 2), .int xi])), (a 1, .inl (gI g, 7, .inl f0)), (a 2, .inl (gI g, 7, .inl f1))] H) (hD : va_D A [(a 0, .inr (1, [.int (nI cnt), .ref (a 1), .ref (a 2), .int xi])), (a 1, .inl (gI g, 7, .inl f0)), (a 2, .inl (gI g, 7, .inl f1))]) (hS : va_S A s.heap H locs) (ls : Array Slot) (hl : lv_has ls 3 [(2, .int (nI i)), (1, .int x1), (0, .ref (a 0))]), W p l e (kR 2 0 0) s m ([.ref (a 0)] : List Value).toArray below meth c H locs 0 0 (kQi g A below ([.ref (a 0)] : List Value).toArray s 0 0 (fun (r : Int32) (u : Unit) => True) (fun (u : Unit) => ([(a 0, .inr (1, [.int (nI cnt), .ref (a 1), .ref (a 2), .int xi])), (a 1, .inl (gI g, 7, .inl f0)), (a 2, .inl (gI g, 7, .inl f1))] : va_W))) (F0 m 4 ls []) := by
    intro n4
    induction n4 with
    | zero => intro i x1 hfuel4; exact absurd hfuel4 (Nat.not_lt_zero _)
    | succ n4 ih4 =>
      intro i x1 hfuel4 hi H locs hP hD hS ls hl
      refine lv_iload_n hx hb dX1_trained_4 rfl (lv_at hl 0 rfl) ?_
      refine lv_aload_n hx hb dX1_trained_5 rfl (lv_at hl 2 rfl) ?_
      refine va_get (ci := 1) (C := RX1) (T := TX1) (N := 4) hx hb hts inlX1 hown hKW.1 hP 0 rfl rfl 0 (by decide) (hts _ wd_9_0) (fun _ h => h) rfl dX1_trained_6 ?_
      refine lv_icmp_ge (tgt := 37) hx hb dX1_trained_9 (by decide) (fun c_1 => ?_) (fun c_1 => ?_)
      · have c_1n : cnt ≤ i := (k_leI (a := cnt) (b := i) (by omega) (by omega)).mp c_1
        refine lv_iload_n hx hb dX1_trained_37 rfl (lv_at hl 1 rfl) ?_
        exact k_iret () [0, 1, 2] hx hb hr hlk hP hD hS trivial rfl rfl rfl (Nat.le_of_ble_eq_true rfl) (Nat.le_of_ble_eq_true rfl) dX1_trained_38
      · have c_1n : i < cnt := Nat.not_le.mp (fun h => c_1 ((k_leI (a := cnt) (b := i) (by omega) (by omega)).mpr h))
        refine lv_aload_n hx hb dX1_trained_12 rfl (lv_at hl 2 rfl) ?_
        refine va_get (ci := 1) (C := RX1) (T := TX1) (N := 4) hx hb hts inlX1 hown hKW.1 hP 0 rfl rfl 1 (by decide) (hts _ wd_4_1) (fun _ h => h) rfl dX1_trained_13 ?_
        refine lv_iload_n hx hb dX1_trained_16 rfl (lv_at hl 0 rfl) ?_
        refine va_iald hx hb hKW.1 hP 1 0 rfl rfl (vp_in_nI (by omega) (by decide)) dX1_trained_17 ?_
        refine lv_topi (fun x_2 ex_2 => ?_)
        refine lv_iconst (v := 1) hx hb dX1_trained_18 (by decide) ?_
        refine k_SNi [] [0, 1, 2] (wr := [(a 0, .inr (1, [.int (nI cnt), .ref (a 1), .ref (a 2), .int xi])), (a 1, .inl (gI g, 7, .inl f0)), (a 2, .inl (gI g, 7, .inl f1))]) hx hb hml hown hts hKW hP hD hS hA hl.1 (c_X11_isUnder l g _ x_2 1 ) wd_12_6 wd_1_2 nw_22 wd_12_5 yd_X11_isUnder ⟨(Nat.le_of_ble_eq_true rfl), (Nat.le_of_ble_eq_true rfl)⟩ rfl rfl rfl rfl (by decide) rfl (Nat.le_of_ble_eq_true rfl) dX1_trained_19 ⟨(Nat.le_of_ble_eq_true rfl), (Nat.le_of_ble_eq_true rfl)⟩ (fun r_3 u_4 H locs hw_5 hP hD hS => ?_)
        have hP : va_P g.1 vwCl [(a 0, .inr (1, [.int (nI cnt), .ref (a 1), .ref (a 2), .int xi])), (a 1, .inl (gI g, 7, .inl f0)), (a 2, .inl (gI g, 7, .inl f1))] H := hP
        have hD : va_D A [(a 0, .inr (1, [.int (nI cnt), .ref (a 1), .ref (a 2), .int xi])), (a 1, .inl (gI g, 7, .inl f0)), (a 2, .inl (gI g, 7, .inl f1))] := hD
        rcases (show r_3 = 1 ∨ r_3 = 0 from hw_5) with rfl | rfl <;> clear hw_5
        · refine lv_if_eq (tgt := 31) hx hb dX1_trained_22 (by decide) (fun c => absurd c (by decide)) (fun _ => ?_)
          refine lv_iload_n hx hb dX1_trained_25 rfl (lv_at hl 1 rfl) ?_
          refine lv_iload_n hx hb dX1_trained_26 rfl (lv_at hl 0 rfl) ?_
          refine k_SNi [] [0, 1, 2] (wr := [(a 0, .inr (1, [.int (nI cnt), .ref (a 1), .ref (a 2), .int xi])), (a 1, .inl (gI g, 7, .inl f0)), (a 2, .inl (gI g, 7, .inl f1))]) hx hb hml hown hts hKW hP hD hS hA hl.1 (c_X11_with l g _ x1 (nI i) ) wd_17_10 wd_1_2 nw_17 wd_17_9 yd_X11_with ⟨(Nat.le_of_ble_eq_true rfl), (Nat.le_of_ble_eq_true rfl)⟩ rfl rfl rfl rfl (by decide) rfl (Nat.le_of_ble_eq_true rfl) dX1_trained_27 ⟨(Nat.le_of_ble_eq_true rfl), (Nat.le_of_ble_eq_true rfl)⟩ (fun r_6 u_7 H locs hw_8 hP hD hS => ?_)
          have hP : va_P g.1 vwCl [(a 0, .inr (1, [.int (nI cnt), .ref (a 1), .ref (a 2), .int xi])), (a 1, .inl (gI g, 7, .inl f0)), (a 2, .inl (gI g, 7, .inl f1))] H := hP
          have hD : va_D A [(a 0, .inr (1, [.int (nI cnt), .ref (a 1), .ref (a 2), .int xi])), (a 1, .inl (gI g, 7, .inl f0)), (a 2, .inl (gI g, 7, .inl f1))] := hD
          refine lv_istore_n (lv' := [(1, .int r_6), (2, .int (nI i)), (0, .ref (a 0))]) hx hb dX1_trained_30 rfl hl (by decide) rfl (fun ls hl => ?_)
          refine lv_iinc (v := nI (i + 1)) (lv' := [(2, .int (nI (i + 1))), (1, .int r_6), (0, .ref (a 0))]) hx hb dX1_trained_31 hl (k := 1) rfl (nI_add i 1) (by decide) rfl (fun ls hl => ?_)
          refine lv_goto (tgt := 4) hx hb dX1_trained_34 (by decide) ?_
          exact ih4 (i + 1) r_6 (by omega) (by first | assumption | omega) H locs (hP.sub [0, 1, 2] rfl) (hD.sub [0, 1, 2] (by decide) rfl) hS ls (lv_sub hl [0, 1, 2] rfl)
        · refine lv_if_eq (tgt := 31) hx hb dX1_trained_22 (by decide) (fun _ => ?_) (fun c => absurd c (by decide))
          refine lv_iinc (v := nI (i + 1)) (lv' := [(2, .int (nI (i + 1))), (1, .int x1), (0, .ref (a 0))]) hx hb dX1_trained_31 hl (k := 0) rfl (nI_add i 1) (by decide) rfl (fun ls hl => ?_)
          refine lv_goto (tgt := 4) hx hb dX1_trained_34 (by decide) ?_
          exact ih4 (i + 1) x1 (by omega) (by first | assumption | omega) H locs (hP.sub [0, 1, 2] rfl) (hD.sub [0, 1, 2] (by decide) rfl) hS ls (lv_sub hl [0, 1, 2] rfl)
  exact L4 (cnt - 0 + 1) 0 0 (Nat.lt_succ_self _) (by first | assumption | omega) H locs (hP.sub [0, 1, 2] rfl) (hD.sub [0, 1, 2] (by decide) rfl) hS ls (lv_sub hl [0, 1, 2] rfl)
theorem dX1_able_0 : decode cX1_able 0 = .ok (.iconst 1, 1) := by decide +kernel
theorem dX1_able_1 : decode cX1_able 1 = .ok (.aload_n 0, 1) := by decide +kernel
theorem dX1_able_2 : decode cX1_able 2 = .ok (.getfield 18, 3) := by decide +kernel
theorem dX1_able_5 : decode cX1_able 5 = .ok (.ishl, 1) := by decide +kernel
theorem dX1_able_6 : decode cX1_able 6 = .ok (.iconst 1, 1) := by decide +kernel
theorem dX1_able_7 : decode cX1_able 7 = .ok (.isub, 1) := by decide +kernel
theorem dX1_able_8 : decode cX1_able 8 = .ok (.aload_n 0, 1) := by decide +kernel
theorem dX1_able_9 : decode cX1_able 9 = .ok (.getfield 22, 3) := by decide +kernel
theorem dX1_able_12 : decode cX1_able 12 = .ok (.iconst (-1), 1) := by decide +kernel
theorem dX1_able_13 : decode cX1_able 13 = .ok (.ixor, 1) := by decide +kernel
theorem dX1_able_14 : decode cX1_able 14 = .ok (.iand, 1) := by decide +kernel
theorem dX1_able_15 : decode cX1_able 15 = .ok (.ireturn, 1) := by decide +kernel
set_option maxHeartbeats 8000000 in
set_option maxRecDepth 100000 in
theorem c_X1_able (l : Launch) (g : kG) (sz : Nat) (a : Nat → Nat) (cnt : Nat) (f0 : Nat → Int32) (f1 : Nat → Int32) (xi : Int32) (hc : cnt ≤ 7) : kMi l g yX1_able cX1_able 1 (some .int) 1 0 0 [.ref (a 0)] sz [(a 0, .inr (1, [.int (nI cnt), .ref (a 1), .ref (a 2), .int xi])), (a 1, .inl (gI g, 7, .inl f0)), (a 2, .inl (gI g, 7, .inl f1))] (fun (r : Int32) (u : Unit) => ∃ j : Nat, r = nI j ∧ j < 128) (fun (u : Unit) => ([(a 0, .inr (1, [.int (nI cnt), .ref (a 1), .ref (a 2), .int xi])), (a 1, .inl (gI g, 7, .inl f0)), (a 2, .inl (gI g, 7, .inl f1))] : va_W)) := by
  refine kMi.of (by decide) (Nat.le_of_ble_eq_true rfl) (fun p e s m below meth c A hx hb hr hml hown hts hlk hnm hKW hP hD hS hA ls hl => ?_)
  have hown : s.vm.findClass RX1 = some m.cls := hown
  have hl : lv_has ls 1 [(0, .ref (a 0))] := hl
  refine k_hide hP hS (fun H locs hP hS => ?_)
  refine lv_iconst (v := 1) hx hb dX1_able_0 (by decide) ?_
  refine lv_aload_n hx hb dX1_able_1 rfl (lv_at hl 0 rfl) ?_
  refine va_get (ci := 1) (C := RX1) (T := TX1) (N := 4) hx hb hts inlX1 hown hKW.1 hP 0 rfl rfl 0 (by decide) (hts _ wd_9_0) (fun _ h => h) rfl dX1_able_2 ?_
  refine lv_ishl hx hb dX1_able_5 ?_
  refine k_top (y := 1 <<< ((nI cnt) &&& 31)) rfl ?_
  refine lv_iconst (v := 1) hx hb dX1_able_6 (by decide) ?_
  refine lv_isub hx hb dX1_able_7 ?_
  refine k_top (y := (1 <<< ((nI cnt) &&& 31)) - 1) rfl ?_
  refine lv_aload_n hx hb dX1_able_8 rfl (lv_at hl 0 rfl) ?_
  refine va_get (ci := 1) (C := RX1) (T := TX1) (N := 4) hx hb hts inlX1 hown hKW.1 hP 0 rfl rfl 3 (by decide) (hts _ wd_9_2) (fun _ h => h) rfl dX1_able_9 ?_
  refine lv_iconst (v := (-1)) hx hb dX1_able_12 (by decide) ?_
  refine lv_ixor hx hb dX1_able_13 ?_
  refine lv_topi (fun x_1 ex_1 => ?_)
  obtain ⟨jj, hjj, ejj⟩ := k_m127 hc x_1
  refine lv_iand hx hb dX1_able_14 ?_
  refine k_top (y := nI jj) ejj ?_
  exact k_iret () [0, 1, 2] hx hb hr hlk hP hD hS (⟨jj, rfl, hjj⟩) rfl rfl rfl (Nat.le_of_ble_eq_true rfl) (Nat.le_of_ble_eq_true rfl) dX1_able_15
