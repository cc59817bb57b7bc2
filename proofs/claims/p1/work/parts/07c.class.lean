theorem dX11_shifts_0 : decode cX11_shifts 0 = .ok (.iload_n 1, 1) := by decide +kernel
theorem dX11_shifts_1 : decode cX11_shifts 1 = .ok (.iconst (-1), 1) := by decide +kernel
theorem dX11_shifts_2 : decode cX11_shifts 2 = .ok (.if_icmp .ge 10, 3) := by decide +kernel
theorem dX11_shifts_12 : decode cX11_shifts 12 = .ok (.aload_n 0, 1) := by decide +kernel
theorem dX11_shifts_13 : decode cX11_shifts 13 = .ok (.getfield 40, 3) := by decide +kernel
theorem dX11_shifts_16 : decode cX11_shifts 16 = .ok (.aload_n 0, 1) := by decide +kernel
theorem dX11_shifts_17 : decode cX11_shifts 17 = .ok (.getfield 10, 3) := by decide +kernel
theorem dX11_shifts_20 : decode cX11_shifts 20 = .ok (.getfield 250, 3) := by decide +kernel
theorem dX11_shifts_23 : decode cX11_shifts 23 = .ok (.aload_n 0, 1) := by decide +kernel
theorem dX11_shifts_24 : decode cX11_shifts 24 = .ok (.getfield 10, 3) := by decide +kernel
theorem dX11_shifts_27 : decode cX11_shifts 27 = .ok (.getfield 253, 3) := by decide +kernel
theorem dX11_shifts_30 : decode cX11_shifts 30 = .ok (.invokevirtual 256, 3) := by decide +kernel
theorem dX11_shifts_33 : decode cX11_shifts 33 = .ok (.istore_n 2, 1) := by decide +kernel
theorem dX11_shifts_34 : decode cX11_shifts 34 = .ok (.iload_n 1, 1) := by decide +kernel
theorem dX11_shifts_35 : decode cX11_shifts 35 = .ok (.iconst (-1), 1) := by decide +kernel
theorem dX11_shifts_36 : decode cX11_shifts 36 = .ok (.if_icmp .ne 5, 3) := by decide +kernel
theorem dX11_shifts_41 : decode cX11_shifts 41 = .ok (.iload_n 1, 1) := by decide +kernel
theorem dX11_shifts_42 : decode cX11_shifts 42 = .ok (.iload_n 2, 1) := by decide +kernel
theorem dX11_shifts_43 : decode cX11_shifts 43 = .ok (.if_icmp .ge 14, 3) := by decide +kernel
theorem dX11_shifts_57 : decode cX11_shifts 57 = .ok (.aload_n 0, 1) := by decide +kernel
theorem dX11_shifts_58 : decode cX11_shifts 58 = .ok (.ldc 156, 2) := by decide +kernel
theorem dX11_shifts_60 : decode cX11_shifts 60 = .ok (.invokevirtual 56, 3) := by decide +kernel
theorem dX11_shifts_63 : decode cX11_shifts 63 = .ok (.ireturn, 1) := by decide +kernel
theorem dX11_shifts_39 : decode cX11_shifts 39 = .ok (.iload_n 2, 1) := by decide +kernel
theorem dX11_shifts_40 : decode cX11_shifts 40 = .ok (.ireturn, 1) := by decide +kernel
theorem dX11_shifts_5 : decode cX11_shifts 5 = .ok (.aload_n 0, 1) := by decide +kernel
theorem dX11_shifts_6 : decode cX11_shifts 6 = .ok (.ldc 55, 2) := by decide +kernel
theorem dX11_shifts_8 : decode cX11_shifts 8 = .ok (.invokevirtual 56, 3) := by decide +kernel
theorem dX11_shifts_11 : decode cX11_shifts 11 = .ok (.ireturn, 1) := by decide +kernel
set_option maxHeartbeats 4000000 in
set_option maxRecDepth 100000 in
theorem c_X11_shifts (l : Launch) (g : kG) (sz : Nat) (q : Nat → Nat) (i : Int32) : kMi l g yX11_shifts cX11_shifts 3 (some .int) 6 0 0 [.ref (q 0), .int i] sz [(q 0, .inr (11, [.ref (q 1), .ref (q 29), .ref (q 31), .ref (q 34), .ref (q 38), .ref (q 40), .int 0])), (q 1, .inr (4, [.ref (q 2), .ref (q 6), .ref (q 9), .ref (q 18), .ref (q 22), .ref (q 26), .ref (q 28), .int 0, .int 0, .int 36, .int 10])), (q 28, .inl (gI g, 60, .inl (fun _ => 0))), (q 38, .inr (10, [.ref (q 39)])), (q 39, .inl (gI g, 60, .inl (fun _ => 0)))] (fun (r : Int32) (u : Unit) => r = aShifts i) (fun (u : Unit) => ([] : va_W)) := by
  refine kMi.of (by decide) (Nat.le_of_ble_eq_true rfl) (fun p e s m below meth c A hx hb hr hml hown hts hlk hnm hKW hP hD hS hA ls hl => ?_)
  have hown : s.vm.findClass RX11 = some m.cls := hown
  have hl : lv_has ls 3 [(0, .ref (q 0)), (1, .int i)] := hl
  refine lv_iload_n hx hb dX11_shifts_0 rfl (lv_at hl 1 rfl) ?_
  refine lv_iconst (v := (-1)) hx hb dX11_shifts_1 (by decide) ?_
  refine lv_icmp_ge (tgt := 12) hx hb dX11_shifts_2 (by decide) (fun c_1 => ?_) (fun c_1 => ?_)
  · refine lv_aload_n hx hb dX11_shifts_12 rfl (lv_at hl 0 rfl) ?_
    refine va_get (ci := 11) (C := RX11) (T := TX11) (N := 7) hx hb hts inlX11 hown hKW.1 hP 0 rfl rfl 4 (by decide) (hts _ wd_2_7) (fun _ h => h) rfl dX11_shifts_13 ?_
    refine lv_aload_n hx hb dX11_shifts_16 rfl (lv_at hl 0 rfl) ?_
    refine va_get (ci := 11) (C := RX11) (T := TX11) (N := 7) hx hb hts inlX11 hown hKW.1 hP 0 rfl rfl 0 (by decide) (hts _ wd_1_15) (fun _ h => h) rfl dX11_shifts_17 ?_
    refine va_get (ci := 4) (C := RX4) (T := TX4) (N := 11) hx hb hts inlX4 hown hKW.1 hP 1 rfl rfl 6 (by decide) (hts _ wd_34_19) (fun _ h => h) rfl dX11_shifts_20 ?_
    refine lv_aload_n hx hb dX11_shifts_23 rfl (lv_at hl 0 rfl) ?_
    refine va_get (ci := 11) (C := RX11) (T := TX11) (N := 7) hx hb hts inlX11 hown hKW.1 hP 0 rfl rfl 0 (by decide) (hts _ wd_1_15) (fun _ h => h) rfl dX11_shifts_24 ?_
    refine va_get (ci := 4) (C := RX4) (T := TX4) (N := 11) hx hb hts inlX4 hown hKW.1 hP 1 rfl rfl 9 (by decide) (hts _ wd_35_4) (fun _ h => h) rfl dX11_shifts_27 ?_
    refine k_Vi [3, 4, 2] [0, 1] 3 10 (wr := [(q 0, .inr (11, [.ref (q 1), .ref (q 29), .ref (q 31), .ref (q 34), .ref (q 38), .ref (q 40), .int 0])), (q 1, .inr (4, [.ref (q 2), .ref (q 6), .ref (q 9), .ref (q 18), .ref (q 22), .ref (q 26), .ref (q 28), .int 0, .int 0, .int 36, .int 10]))]) hx hb hml hown hts hKW hP hD hS hA hl.1 (c_X10_plan0 l g _ (q 38) (q 39) (q 28) (fun _ => 0) ) rfl rfl rfl wd_35_16 wd_2_6 wd_35_13 wd_35_14 wd_35_15 yd_X10_plan ⟨Nat.le_of_ble_eq_true rfl, Nat.le_of_ble_eq_true rfl⟩ rfl rfl rfl rfl rfl (by decide) rfl (Nat.le_of_ble_eq_true rfl) dX11_shifts_30 ⟨Nat.le_of_ble_eq_true rfl, Nat.le_of_ble_eq_true rfl⟩ (fun r_2 u_3 H locs hw_4 hP hD hS => ?_)
    have hP : va_P g.1 vwCl [(q 0, .inr (11, [.ref (q 1), .ref (q 29), .ref (q 31), .ref (q 34), .ref (q 38), .ref (q 40), .int 0])), (q 1, .inr (4, [.ref (q 2), .ref (q 6), .ref (q 9), .ref (q 18), .ref (q 22), .ref (q 26), .ref (q 28), .int 0, .int 0, .int 36, .int 10]))] H := hP
    have hD : va_D A [(q 0, .inr (11, [.ref (q 1), .ref (q 29), .ref (q 31), .ref (q 34), .ref (q 38), .ref (q 40), .int 0])), (q 1, .inr (4, [.ref (q 2), .ref (q 6), .ref (q 9), .ref (q 18), .ref (q 22), .ref (q 26), .ref (q 28), .int 0, .int 0, .int 36, .int 10]))] := hD
    have hw_4 : r_2 = 0 := hw_4
    subst hw_4
    refine lv_istore_n (lv' := [(2, .int 0), (0, .ref (q 0)), (1, .int i)]) hx hb dX11_shifts_33 rfl hl (by decide) rfl (fun ls hl => ?_)
    refine lv_iload_n hx hb dX11_shifts_34 rfl (lv_at hl 2 rfl) ?_
    refine lv_iconst (v := (-1)) hx hb dX11_shifts_35 (by decide) ?_
    refine lv_icmp_ne (tgt := 41) hx hb dX11_shifts_36 (by decide) (fun c_5 => ?_) (fun c_5 => ?_)
    · refine lv_iload_n hx hb dX11_shifts_41 rfl (lv_at hl 2 rfl) ?_
      refine lv_iload_n hx hb dX11_shifts_42 rfl (lv_at hl 0 rfl) ?_
      refine lv_icmp_ge (tgt := 57) hx hb dX11_shifts_43 (by decide) (fun _ => ?_) (fun c => False.elim ((by clear hP hD hS hA hts hKW hl; first | omega | (simp only [Int32.lt_iff_toInt_lt, Int32.le_iff_toInt_le, ← Int32.toInt_inj] at *; omega) | (simp only [Int32.lt_iff_toInt_lt, Int32.le_iff_toInt_le, ← Int32.toInt_inj] at *; simp at *; omega) | (simp only [Int32.lt_iff_toInt_lt, Int32.le_iff_toInt_le, ← Int32.toInt_inj] at *; simp at *; done) | (simp at *; omega) | (simp at *; done))))
      refine lv_aload_n hx hb dX11_shifts_57 rfl (lv_at hl 1 rfl) ?_
      refine lv_ldc (v := (-100006)) hx hb hown (hts _ wd_14_23) dX11_shifts_58 ?_
      refine k_Vi [0] [1] 0 11 (wr := [(q 1, .inr (4, [.ref (q 2), .ref (q 6), .ref (q 9), .ref (q 18), .ref (q 22), .ref (q 26), .ref (q 28), .int 0, .int 0, .int 36, .int 10]))]) hx hb hml hown hts hKW hP hD hS hA hl.1 (c_X11_finding l g _ (q 0) (q 1) (q 29) (q 31) (q 34) (q 38) (q 40) 0 (-100006) ) rfl rfl rfl wd_7_12 wd_1_2 wd_7_9 wd_7_10 wd_7_11 yd_X11_finding ⟨Nat.le_of_ble_eq_true rfl, Nat.le_of_ble_eq_true rfl⟩ rfl rfl rfl rfl rfl (by decide) rfl (Nat.le_of_ble_eq_true rfl) dX11_shifts_60 ⟨Nat.le_of_ble_eq_true rfl, Nat.le_of_ble_eq_true rfl⟩ (fun r_6 u_7 H locs hw_8 hP hD hS => ?_)
      have hP : va_P g.1 vwCl [(q 1, .inr (4, [.ref (q 2), .ref (q 6), .ref (q 9), .ref (q 18), .ref (q 22), .ref (q 26), .ref (q 28), .int 0, .int 0, .int 36, .int 10]))] H := hP
      have hD : va_D A [(q 1, .inr (4, [.ref (q 2), .ref (q 6), .ref (q 9), .ref (q 18), .ref (q 22), .ref (q 26), .ref (q 28), .int 0, .int 0, .int 36, .int 10]))] := hD
      have hw_8 : r_6 = (-100006) := hw_8
      subst hw_8
      exact k_iret () [] hx hb hr hlk hP hD hS (by clear hP hD hS hA hts hKW hl; unfold aShifts; (repeat' split) <;> first | rfl | (exfalso; first | omega | (simp only [Int32.lt_iff_toInt_lt, Int32.le_iff_toInt_le, ← Int32.toInt_inj] at *; omega) | (simp only [Int32.lt_iff_toInt_lt, Int32.le_iff_toInt_le, ← Int32.toInt_inj] at *; simp at *; omega) | (simp only [Int32.lt_iff_toInt_lt, Int32.le_iff_toInt_le, ← Int32.toInt_inj] at *; simp at *; done) | (simp at *; omega) | (simp at *; done))) rfl rfl rfl (Nat.le_of_ble_eq_true rfl) (Nat.le_of_ble_eq_true rfl) dX11_shifts_63
    · refine lv_iload_n hx hb dX11_shifts_39 rfl (lv_at hl 0 rfl) ?_
      exact k_iret () [] hx hb hr hlk hP hD hS (by clear hP hD hS hA hts hKW hl; unfold aShifts; (repeat' split) <;> first | rfl | (exfalso; first | omega | (simp only [Int32.lt_iff_toInt_lt, Int32.le_iff_toInt_le, ← Int32.toInt_inj] at *; omega) | (simp only [Int32.lt_iff_toInt_lt, Int32.le_iff_toInt_le, ← Int32.toInt_inj] at *; simp at *; omega) | (simp only [Int32.lt_iff_toInt_lt, Int32.le_iff_toInt_le, ← Int32.toInt_inj] at *; simp at *; done) | (simp at *; omega) | (simp at *; done))) rfl rfl rfl (Nat.le_of_ble_eq_true rfl) (Nat.le_of_ble_eq_true rfl) dX11_shifts_40
  · refine lv_aload_n hx hb dX11_shifts_5 rfl (lv_at hl 0 rfl) ?_
    refine lv_ldc (v := (-100001)) hx hb hown (hts _ wd_7_1) dX11_shifts_6 ?_
    refine k_Vi [0] [1, 2, 3, 4] 0 11 (wr := [(q 1, .inr (4, [.ref (q 2), .ref (q 6), .ref (q 9), .ref (q 18), .ref (q 22), .ref (q 26), .ref (q 28), .int 0, .int 0, .int 36, .int 10])), (q 28, .inl (gI g, 60, .inl (fun _ => 0))), (q 38, .inr (10, [.ref (q 39)])), (q 39, .inl (gI g, 60, .inl (fun _ => 0)))]) hx hb hml hown hts hKW hP hD hS hA hl.1 (c_X11_finding l g _ (q 0) (q 1) (q 29) (q 31) (q 34) (q 38) (q 40) 0 (-100001) ) rfl rfl rfl wd_7_12 wd_1_2 wd_7_9 wd_7_10 wd_7_11 yd_X11_finding ⟨Nat.le_of_ble_eq_true rfl, Nat.le_of_ble_eq_true rfl⟩ rfl rfl rfl rfl rfl (by decide) rfl (Nat.le_of_ble_eq_true rfl) dX11_shifts_8 ⟨Nat.le_of_ble_eq_true rfl, Nat.le_of_ble_eq_true rfl⟩ (fun r_9 u_10 H locs hw_11 hP hD hS => ?_)
    have hP : va_P g.1 vwCl [(q 1, .inr (4, [.ref (q 2), .ref (q 6), .ref (q 9), .ref (q 18), .ref (q 22), .ref (q 26), .ref (q 28), .int 0, .int 0, .int 36, .int 10])), (q 28, .inl (gI g, 60, .inl (fun _ => 0))), (q 38, .inr (10, [.ref (q 39)])), (q 39, .inl (gI g, 60, .inl (fun _ => 0)))] H := hP
    have hD : va_D A [(q 1, .inr (4, [.ref (q 2), .ref (q 6), .ref (q 9), .ref (q 18), .ref (q 22), .ref (q 26), .ref (q 28), .int 0, .int 0, .int 36, .int 10])), (q 28, .inl (gI g, 60, .inl (fun _ => 0))), (q 38, .inr (10, [.ref (q 39)])), (q 39, .inl (gI g, 60, .inl (fun _ => 0)))] := hD
    have hw_11 : r_9 = (-100001) := hw_11
    subst hw_11
    exact k_iret () [] hx hb hr hlk hP hD hS (by clear hP hD hS hA hts hKW hl; unfold aShifts; (repeat' split) <;> first | rfl | (exfalso; first | omega | (simp only [Int32.lt_iff_toInt_lt, Int32.le_iff_toInt_le, ← Int32.toInt_inj] at *; omega) | (simp only [Int32.lt_iff_toInt_lt, Int32.le_iff_toInt_le, ← Int32.toInt_inj] at *; simp at *; omega) | (simp only [Int32.lt_iff_toInt_lt, Int32.le_iff_toInt_le, ← Int32.toInt_inj] at *; simp at *; done) | (simp at *; omega) | (simp at *; done))) rfl rfl rfl (Nat.le_of_ble_eq_true rfl) (Nat.le_of_ble_eq_true rfl) dX11_shifts_11
theorem dX9_isMissing_0 : decode cX9_isMissing 0 = .ok (.aload_n 0, 1) := by decide +kernel
theorem dX9_isMissing_1 : decode cX9_isMissing 1 = .ok (.getfield 15, 3) := by decide +kernel
theorem dX9_isMissing_4 : decode cX9_isMissing 4 = .ok (.ifCond .ne 7, 3) := by decide +kernel
theorem dX9_isMissing_7 : decode cX9_isMissing 7 = .ok (.iconst 1, 1) := by decide +kernel
theorem dX9_isMissing_8 : decode cX9_isMissing 8 = .ok (.goto 4, 3) := by decide +kernel
theorem dX9_isMissing_12 : decode cX9_isMissing 12 = .ok (.ireturn, 1) := by decide +kernel
set_option maxHeartbeats 4000000 in
set_option maxRecDepth 100000 in
theorem c_X9_isMissing0 (l : Launch) (g : kG) (sz : Nat) (h : Nat) (b : Nat) (x : Int32) : kMi l g yX9_isMissing cX9_isMissing 1 (some .boolean) 1 0 0 [.ref h] sz [(h, .inr (9, [.int 0, .int x, .ref b]))] (fun (r : Int32) (u : Unit) => r = 1) (fun (u : Unit) => ([(h, .inr (9, [.int 0, .int x, .ref b]))] : va_W)) := by
  refine kMi.of (by decide) (Nat.le_of_ble_eq_true rfl) (fun p e s m below meth c A hx hb hr hml hown hts hlk hnm hKW hP hD hS hA ls hl => ?_)
  have hown : s.vm.findClass RX9 = some m.cls := hown
  have hl : lv_has ls 1 [(0, .ref h)] := hl
  refine lv_aload_n hx hb dX9_isMissing_0 rfl (lv_at hl 0 rfl) ?_
  refine va_get (ci := 9) (C := RX9) (T := TX9) (N := 3) hx hb hts inlX9 hown hKW.1 hP 0 rfl rfl 0 (by decide) (hts _ wd_37_12) (fun _ h => h) rfl dX9_isMissing_1 ?_
  refine lv_if_ne (tgt := 11) hx hb dX9_isMissing_4 (by decide) (fun c => absurd c (by decide)) (fun _ => ?_)
  refine lv_iconst (v := 1) hx hb dX9_isMissing_7 (by decide) ?_
  refine lv_goto (tgt := 12) hx hb dX9_isMissing_8 (by decide) ?_
  exact k_zret () [0] hx hb hr hlk hP hD hS rfl rfl rfl rfl rfl (Nat.le_of_ble_eq_true rfl) (Nat.le_of_ble_eq_true rfl) dX9_isMissing_12
theorem dX11_sheetFinding_0 : decode cX11_sheetFinding 0 = .ok (.iload_n 1, 1) := by decide +kernel
theorem dX11_sheetFinding_1 : decode cX11_sheetFinding 1 = .ok (.invokestatic 329, 3) := by decide +kernel
theorem dX11_sheetFinding_4 : decode cX11_sheetFinding 4 = .ok (.ifCond .ne 6, 3) := by decide +kernel
theorem dX11_sheetFinding_10 : decode cX11_sheetFinding 10 = .ok (.aload_n 0, 1) := by decide +kernel
theorem dX11_sheetFinding_11 : decode cX11_sheetFinding 11 = .ok (.getfield 46, 3) := by decide +kernel
theorem dX11_sheetFinding_14 : decode cX11_sheetFinding 14 = .ok (.iload_n 1, 1) := by decide +kernel
theorem dX11_sheetFinding_15 : decode cX11_sheetFinding 15 = .ok (.aaload, 1) := by decide +kernel
theorem dX11_sheetFinding_16 : decode cX11_sheetFinding 16 = .ok (.invokevirtual 339, 3) := by decide +kernel
theorem dX11_sheetFinding_19 : decode cX11_sheetFinding 19 = .ok (.ifCond .eq 9, 3) := by decide +kernel
theorem dX11_sheetFinding_22 : decode cX11_sheetFinding 22 = .ok (.ldc_w 342, 3) := by decide +kernel
theorem dX11_sheetFinding_25 : decode cX11_sheetFinding 25 = .ok (.goto 4, 3) := by decide +kernel
theorem dX11_sheetFinding_29 : decode cX11_sheetFinding 29 = .ok (.ireturn, 1) := by decide +kernel
theorem dX11_sheetFinding_7 : decode cX11_sheetFinding 7 = .ok (.ldc 55, 2) := by decide +kernel
theorem dX11_sheetFinding_9 : decode cX11_sheetFinding 9 = .ok (.ireturn, 1) := by decide +kernel
set_option maxHeartbeats 4000000 in
set_option maxRecDepth 100000 in
theorem c_X11_sheetFinding (l : Launch) (g : kG) (sz : Nat) (q : Nat → Nat) (s_ : Int32) : kMi l g yX11_sheetFinding cX11_sheetFinding 2 (some .int) 3 0 0 [.ref (q 0), .int s_] sz [(q 0, .inr (11, [.ref (q 1), .ref (q 29), .ref (q 31), .ref (q 34), .ref (q 38), .ref (q 40), .int 0])), (q 40, .inl (gS g, 4, .inr (.inr (.inr (.inr (va_up (va_up (va_up (va_up (fun _ => none) 0 (some (q 41))) 1 (some (q 43))) 2 (some (q 45))) 3 (some (q 47)))))))), (q 41, .inr (9, [.int 0, .int 0, .ref (q 42)])), (q 42, .inl (gI g, 60, .inl (fun _ => 0))), (q 43, .inr (9, [.int 0, .int 0, .ref (q 44)])), (q 44, .inl (gI g, 60, .inl (fun _ => 0))), (q 45, .inr (9, [.int 0, .int 0, .ref (q 46)])), (q 46, .inl (gI g, 60, .inl (fun _ => 0))), (q 47, .inr (9, [.int 0, .int 0, .ref (q 48)])), (q 48, .inl (gI g, 60, .inl (fun _ => 0)))] (fun (r : Int32) (u : Unit) => (r = (-100002) ∧ ((0 : Int) ≤ Int32.toInt s_ ∧ Int32.toInt s_ ≤ 3)) ∨ (r = (-100001) ∧ ¬ ((0 : Int) ≤ Int32.toInt s_ ∧ Int32.toInt s_ ≤ 3))) (fun (u : Unit) => ([(q 0, .inr (11, [.ref (q 1), .ref (q 29), .ref (q 31), .ref (q 34), .ref (q 38), .ref (q 40), .int 0]))] : va_W)) := by
  refine kMi.of (by decide) (Nat.le_of_ble_eq_true rfl) (fun p e s m below meth c A hx hb hr hml hown hts hlk hnm hKW hP hD hS hA ls hl => ?_)
  have hown : s.vm.findClass RX11 = some m.cls := hown
  have hl : lv_has ls 2 [(0, .ref (q 0)), (1, .int s_)] := hl
  refine lv_iload_n hx hb dX11_sheetFinding_0 rfl (lv_at hl 1 rfl) ?_
  refine k_Si [] [0, 1, 2, 3, 4, 5, 6, 7, 8, 9] (wr := [(q 0, .inr (11, [.ref (q 1), .ref (q 29), .ref (q 31), .ref (q 34), .ref (q 38), .ref (q 40), .int 0])), (q 40, .inl (gS g, 4, .inr (.inr (.inr (.inr (va_up (va_up (va_up (va_up (fun _ => none) 0 (some (q 41))) 1 (some (q 43))) 2 (some (q 45))) 3 (some (q 47)))))))), (q 41, .inr (9, [.int 0, .int 0, .ref (q 42)])), (q 42, .inl (gI g, 60, .inl (fun _ => 0))), (q 43, .inr (9, [.int 0, .int 0, .ref (q 44)])), (q 44, .inl (gI g, 60, .inl (fun _ => 0))), (q 45, .inr (9, [.int 0, .int 0, .ref (q 46)])), (q 46, .inl (gI g, 60, .inl (fun _ => 0))), (q 47, .inr (9, [.int 0, .int 0, .ref (q 48)])), (q 48, .inl (gI g, 60, .inl (fun _ => 0)))]) hx hb hml hown hts hKW hP hD hS hA hl.1 (c_X11_isSheet l g _ s_ ) wd_37_7 wd_1_2 wd_37_5 wd_37_6 yd_X11_isSheet ⟨Nat.le_of_ble_eq_true rfl, Nat.le_of_ble_eq_true rfl⟩ rfl rfl rfl rfl rfl (by decide) rfl (Nat.le_of_ble_eq_true rfl) dX11_sheetFinding_1 ⟨Nat.le_of_ble_eq_true rfl, Nat.le_of_ble_eq_true rfl⟩ (fun r_1 u_2 H locs hw_3 hP hD hS => ?_)
  have hP : va_P g.1 vwCl [(q 0, .inr (11, [.ref (q 1), .ref (q 29), .ref (q 31), .ref (q 34), .ref (q 38), .ref (q 40), .int 0])), (q 40, .inl (gS g, 4, .inr (.inr (.inr (.inr (va_up (va_up (va_up (va_up (fun _ => none) 0 (some (q 41))) 1 (some (q 43))) 2 (some (q 45))) 3 (some (q 47)))))))), (q 41, .inr (9, [.int 0, .int 0, .ref (q 42)])), (q 42, .inl (gI g, 60, .inl (fun _ => 0))), (q 43, .inr (9, [.int 0, .int 0, .ref (q 44)])), (q 44, .inl (gI g, 60, .inl (fun _ => 0))), (q 45, .inr (9, [.int 0, .int 0, .ref (q 46)])), (q 46, .inl (gI g, 60, .inl (fun _ => 0))), (q 47, .inr (9, [.int 0, .int 0, .ref (q 48)])), (q 48, .inl (gI g, 60, .inl (fun _ => 0)))] H := hP
  have hD : va_D A [(q 0, .inr (11, [.ref (q 1), .ref (q 29), .ref (q 31), .ref (q 34), .ref (q 38), .ref (q 40), .int 0])), (q 40, .inl (gS g, 4, .inr (.inr (.inr (.inr (va_up (va_up (va_up (va_up (fun _ => none) 0 (some (q 41))) 1 (some (q 43))) 2 (some (q 45))) 3 (some (q 47)))))))), (q 41, .inr (9, [.int 0, .int 0, .ref (q 42)])), (q 42, .inl (gI g, 60, .inl (fun _ => 0))), (q 43, .inr (9, [.int 0, .int 0, .ref (q 44)])), (q 44, .inl (gI g, 60, .inl (fun _ => 0))), (q 45, .inr (9, [.int 0, .int 0, .ref (q 46)])), (q 46, .inl (gI g, 60, .inl (fun _ => 0))), (q 47, .inr (9, [.int 0, .int 0, .ref (q 48)])), (q 48, .inl (gI g, 60, .inl (fun _ => 0)))] := hD
  rcases (show (r_1 = 1 ∧ ((0 : Int) ≤ Int32.toInt s_ ∧ Int32.toInt s_ ≤ 3)) ∨ (r_1 = 0 ∧ ¬ ((0 : Int) ≤ Int32.toInt s_ ∧ Int32.toInt s_ ≤ 3)) from hw_3) with ⟨rfl, hw_3b⟩ | ⟨rfl, hw_3b⟩ <;> clear hw_3
  · refine lv_if_ne (tgt := 10) hx hb dX11_sheetFinding_4 (by decide) (fun _ => ?_) (fun c => absurd c (by decide))
    rcases (show s_ = 0 ∨ s_ = 1 ∨ s_ = 2 ∨ s_ = 3 from (k_s4 hw_3b)) with rfl | rfl | rfl | rfl
    · refine lv_aload_n hx hb dX11_sheetFinding_10 rfl (lv_at hl 0 rfl) ?_
      refine va_get (ci := 11) (C := RX11) (T := TX11) (N := 7) hx hb hts inlX11 hown hKW.1 hP 0 rfl rfl 5 (by decide) (hts _ wd_2_9) (fun _ h => h) rfl dX11_sheetFinding_11 ?_
      refine lv_iload_n hx hb dX11_sheetFinding_14 rfl (lv_at hl 1 rfl) ?_
      refine va_aldq hx hb hKW.1 hP 1 4 rfl rfl (show ¬ _ by decide) dX11_sheetFinding_15 ?_
      refine W.eq (g2 := F0 m 16 ls [.ref (q 41)]) rfl ?_
      refine k_Vi [2] [0, 1, 3, 4, 5, 6, 7, 8, 9] 2 9 (wr := [(q 0, .inr (11, [.ref (q 1), .ref (q 29), .ref (q 31), .ref (q 34), .ref (q 38), .ref (q 40), .int 0])), (q 40, .inl (gS g, 4, .inr (.inr (.inr (.inr (va_up (va_up (va_up (va_up (fun _ => none) 0 (some (q 41))) 1 (some (q 43))) 2 (some (q 45))) 3 (some (q 47)))))))), (q 42, .inl (gI g, 60, .inl (fun _ => 0))), (q 43, .inr (9, [.int 0, .int 0, .ref (q 44)])), (q 44, .inl (gI g, 60, .inl (fun _ => 0))), (q 45, .inr (9, [.int 0, .int 0, .ref (q 46)])), (q 46, .inl (gI g, 60, .inl (fun _ => 0))), (q 47, .inr (9, [.int 0, .int 0, .ref (q 48)])), (q 48, .inl (gI g, 60, .inl (fun _ => 0)))]) hx hb hml hown hts hKW hP hD hS hA hl.1 (c_X9_isMissing0 l g _ (q 41) (q 42) 0 ) rfl rfl rfl wd_37_11 wd_2_11 wd_37_8 wd_37_9 wd_37_10 yd_X9_isMissing ⟨Nat.le_of_ble_eq_true rfl, Nat.le_of_ble_eq_true rfl⟩ rfl rfl rfl rfl rfl (by decide) rfl (Nat.le_of_ble_eq_true rfl) dX11_sheetFinding_16 ⟨Nat.le_of_ble_eq_true rfl, Nat.le_of_ble_eq_true rfl⟩ (fun r_4 u_5 H locs hw_6 hP hD hS => ?_)
      have hP : va_P g.1 vwCl [(q 0, .inr (11, [.ref (q 1), .ref (q 29), .ref (q 31), .ref (q 34), .ref (q 38), .ref (q 40), .int 0])), (q 40, .inl (gS g, 4, .inr (.inr (.inr (.inr (va_up (va_up (va_up (va_up (fun _ => none) 0 (some (q 41))) 1 (some (q 43))) 2 (some (q 45))) 3 (some (q 47)))))))), (q 42, .inl (gI g, 60, .inl (fun _ => 0))), (q 43, .inr (9, [.int 0, .int 0, .ref (q 44)])), (q 44, .inl (gI g, 60, .inl (fun _ => 0))), (q 45, .inr (9, [.int 0, .int 0, .ref (q 46)])), (q 46, .inl (gI g, 60, .inl (fun _ => 0))), (q 47, .inr (9, [.int 0, .int 0, .ref (q 48)])), (q 48, .inl (gI g, 60, .inl (fun _ => 0))), (q 41, .inr (9, [.int 0, .int 0, .ref (q 42)]))] H := hP
      have hD : va_D A [(q 0, .inr (11, [.ref (q 1), .ref (q 29), .ref (q 31), .ref (q 34), .ref (q 38), .ref (q 40), .int 0])), (q 40, .inl (gS g, 4, .inr (.inr (.inr (.inr (va_up (va_up (va_up (va_up (fun _ => none) 0 (some (q 41))) 1 (some (q 43))) 2 (some (q 45))) 3 (some (q 47)))))))), (q 42, .inl (gI g, 60, .inl (fun _ => 0))), (q 43, .inr (9, [.int 0, .int 0, .ref (q 44)])), (q 44, .inl (gI g, 60, .inl (fun _ => 0))), (q 45, .inr (9, [.int 0, .int 0, .ref (q 46)])), (q 46, .inl (gI g, 60, .inl (fun _ => 0))), (q 47, .inr (9, [.int 0, .int 0, .ref (q 48)])), (q 48, .inl (gI g, 60, .inl (fun _ => 0))), (q 41, .inr (9, [.int 0, .int 0, .ref (q 42)]))] := hD
      have hw_6 : r_4 = 1 := hw_6
      subst hw_6
      refine lv_if_eq (tgt := 28) hx hb dX11_sheetFinding_19 (by decide) (fun c => absurd c (by decide)) (fun _ => ?_)
      refine lv_ldcw (v := (-100002)) hx hb hown (hts _ wd_37_4) dX11_sheetFinding_22 ?_
      refine lv_goto (tgt := 29) hx hb dX11_sheetFinding_25 (by decide) ?_
      exact k_iret () [0] hx hb hr hlk hP hD hS (by clear hP hD hS hA hts hKW hl; first | exact Or.inl ⟨rfl, by first | assumption | decide | (first | omega | (simp only [Int32.lt_iff_toInt_lt, Int32.le_iff_toInt_le, ← Int32.toInt_inj] at *; omega) | (simp only [Int32.lt_iff_toInt_lt, Int32.le_iff_toInt_le, ← Int32.toInt_inj] at *; simp at *; omega) | (simp only [Int32.lt_iff_toInt_lt, Int32.le_iff_toInt_le, ← Int32.toInt_inj] at *; simp at *; done) | (simp at *; omega) | (simp at *; done))⟩ | exact Or.inr ⟨rfl, by first | assumption | (first | omega | (simp only [Int32.lt_iff_toInt_lt, Int32.le_iff_toInt_le, ← Int32.toInt_inj] at *; omega) | (simp only [Int32.lt_iff_toInt_lt, Int32.le_iff_toInt_le, ← Int32.toInt_inj] at *; simp at *; omega) | (simp only [Int32.lt_iff_toInt_lt, Int32.le_iff_toInt_le, ← Int32.toInt_inj] at *; simp at *; done) | (simp at *; omega) | (simp at *; done))⟩) rfl rfl rfl (Nat.le_of_ble_eq_true rfl) (Nat.le_of_ble_eq_true rfl) dX11_sheetFinding_29
    · refine lv_aload_n hx hb dX11_sheetFinding_10 rfl (lv_at hl 0 rfl) ?_
      refine va_get (ci := 11) (C := RX11) (T := TX11) (N := 7) hx hb hts inlX11 hown hKW.1 hP 0 rfl rfl 5 (by decide) (hts _ wd_2_9) (fun _ h => h) rfl dX11_sheetFinding_11 ?_
      refine lv_iload_n hx hb dX11_sheetFinding_14 rfl (lv_at hl 1 rfl) ?_
      refine va_aldq hx hb hKW.1 hP 1 4 rfl rfl (show ¬ _ by decide) dX11_sheetFinding_15 ?_
      refine W.eq (g2 := F0 m 16 ls [.ref (q 43)]) rfl ?_
      refine k_Vi [4] [0, 1, 2, 3, 5, 6, 7, 8, 9] 4 9 (wr := [(q 0, .inr (11, [.ref (q 1), .ref (q 29), .ref (q 31), .ref (q 34), .ref (q 38), .ref (q 40), .int 0])), (q 40, .inl (gS g, 4, .inr (.inr (.inr (.inr (va_up (va_up (va_up (va_up (fun _ => none) 0 (some (q 41))) 1 (some (q 43))) 2 (some (q 45))) 3 (some (q 47)))))))), (q 41, .inr (9, [.int 0, .int 0, .ref (q 42)])), (q 42, .inl (gI g, 60, .inl (fun _ => 0))), (q 44, .inl (gI g, 60, .inl (fun _ => 0))), (q 45, .inr (9, [.int 0, .int 0, .ref (q 46)])), (q 46, .inl (gI g, 60, .inl (fun _ => 0))), (q 47, .inr (9, [.int 0, .int 0, .ref (q 48)])), (q 48, .inl (gI g, 60, .inl (fun _ => 0)))]) hx hb hml hown hts hKW hP hD hS hA hl.1 (c_X9_isMissing0 l g _ (q 43) (q 44) 0 ) rfl rfl rfl wd_37_11 wd_2_11 wd_37_8 wd_37_9 wd_37_10 yd_X9_isMissing ⟨Nat.le_of_ble_eq_true rfl, Nat.le_of_ble_eq_true rfl⟩ rfl rfl rfl rfl rfl (by decide) rfl (Nat.le_of_ble_eq_true rfl) dX11_sheetFinding_16 ⟨Nat.le_of_ble_eq_true rfl, Nat.le_of_ble_eq_true rfl⟩ (fun r_7 u_8 H locs hw_9 hP hD hS => ?_)
      have hP : va_P g.1 vwCl [(q 0, .inr (11, [.ref (q 1), .ref (q 29), .ref (q 31), .ref (q 34), .ref (q 38), .ref (q 40), .int 0])), (q 40, .inl (gS g, 4, .inr (.inr (.inr (.inr (va_up (va_up (va_up (va_up (fun _ => none) 0 (some (q 41))) 1 (some (q 43))) 2 (some (q 45))) 3 (some (q 47)))))))), (q 41, .inr (9, [.int 0, .int 0, .ref (q 42)])), (q 42, .inl (gI g, 60, .inl (fun _ => 0))), (q 44, .inl (gI g, 60, .inl (fun _ => 0))), (q 45, .inr (9, [.int 0, .int 0, .ref (q 46)])), (q 46, .inl (gI g, 60, .inl (fun _ => 0))), (q 47, .inr (9, [.int 0, .int 0, .ref (q 48)])), (q 48, .inl (gI g, 60, .inl (fun _ => 0))), (q 43, .inr (9, [.int 0, .int 0, .ref (q 44)]))] H := hP
      have hD : va_D A [(q 0, .inr (11, [.ref (q 1), .ref (q 29), .ref (q 31), .ref (q 34), .ref (q 38), .ref (q 40), .int 0])), (q 40, .inl (gS g, 4, .inr (.inr (.inr (.inr (va_up (va_up (va_up (va_up (fun _ => none) 0 (some (q 41))) 1 (some (q 43))) 2 (some (q 45))) 3 (some (q 47)))))))), (q 41, .inr (9, [.int 0, .int 0, .ref (q 42)])), (q 42, .inl (gI g, 60, .inl (fun _ => 0))), (q 44, .inl (gI g, 60, .inl (fun _ => 0))), (q 45, .inr (9, [.int 0, .int 0, .ref (q 46)])), (q 46, .inl (gI g, 60, .inl (fun _ => 0))), (q 47, .inr (9, [.int 0, .int 0, .ref (q 48)])), (q 48, .inl (gI g, 60, .inl (fun _ => 0))), (q 43, .inr (9, [.int 0, .int 0, .ref (q 44)]))] := hD
      have hw_9 : r_7 = 1 := hw_9
      subst hw_9
      refine lv_if_eq (tgt := 28) hx hb dX11_sheetFinding_19 (by decide) (fun c => absurd c (by decide)) (fun _ => ?_)
      refine lv_ldcw (v := (-100002)) hx hb hown (hts _ wd_37_4) dX11_sheetFinding_22 ?_
      refine lv_goto (tgt := 29) hx hb dX11_sheetFinding_25 (by decide) ?_
      exact k_iret () [0] hx hb hr hlk hP hD hS (by clear hP hD hS hA hts hKW hl; first | exact Or.inl ⟨rfl, by first | assumption | decide | (first | omega | (simp only [Int32.lt_iff_toInt_lt, Int32.le_iff_toInt_le, ← Int32.toInt_inj] at *; omega) | (simp only [Int32.lt_iff_toInt_lt, Int32.le_iff_toInt_le, ← Int32.toInt_inj] at *; simp at *; omega) | (simp only [Int32.lt_iff_toInt_lt, Int32.le_iff_toInt_le, ← Int32.toInt_inj] at *; simp at *; done) | (simp at *; omega) | (simp at *; done))⟩ | exact Or.inr ⟨rfl, by first | assumption | (first | omega | (simp only [Int32.lt_iff_toInt_lt, Int32.le_iff_toInt_le, ← Int32.toInt_inj] at *; omega) | (simp only [Int32.lt_iff_toInt_lt, Int32.le_iff_toInt_le, ← Int32.toInt_inj] at *; simp at *; omega) | (simp only [Int32.lt_iff_toInt_lt, Int32.le_iff_toInt_le, ← Int32.toInt_inj] at *; simp at *; done) | (simp at *; omega) | (simp at *; done))⟩) rfl rfl rfl (Nat.le_of_ble_eq_true rfl) (Nat.le_of_ble_eq_true rfl) dX11_sheetFinding_29
    · refine lv_aload_n hx hb dX11_sheetFinding_10 rfl (lv_at hl 0 rfl) ?_
      refine va_get (ci := 11) (C := RX11) (T := TX11) (N := 7) hx hb hts inlX11 hown hKW.1 hP 0 rfl rfl 5 (by decide) (hts _ wd_2_9) (fun _ h => h) rfl dX11_sheetFinding_11 ?_
      refine lv_iload_n hx hb dX11_sheetFinding_14 rfl (lv_at hl 1 rfl) ?_
      refine va_aldq hx hb hKW.1 hP 1 4 rfl rfl (show ¬ _ by decide) dX11_sheetFinding_15 ?_
      refine W.eq (g2 := F0 m 16 ls [.ref (q 45)]) rfl ?_
      refine k_Vi [6] [0, 1, 2, 3, 4, 5, 7, 8, 9] 6 9 (wr := [(q 0, .inr (11, [.ref (q 1), .ref (q 29), .ref (q 31), .ref (q 34), .ref (q 38), .ref (q 40), .int 0])), (q 40, .inl (gS g, 4, .inr (.inr (.inr (.inr (va_up (va_up (va_up (va_up (fun _ => none) 0 (some (q 41))) 1 (some (q 43))) 2 (some (q 45))) 3 (some (q 47)))))))), (q 41, .inr (9, [.int 0, .int 0, .ref (q 42)])), (q 42, .inl (gI g, 60, .inl (fun _ => 0))), (q 43, .inr (9, [.int 0, .int 0, .ref (q 44)])), (q 44, .inl (gI g, 60, .inl (fun _ => 0))), (q 46, .inl (gI g, 60, .inl (fun _ => 0))), (q 47, .inr (9, [.int 0, .int 0, .ref (q 48)])), (q 48, .inl (gI g, 60, .inl (fun _ => 0)))]) hx hb hml hown hts hKW hP hD hS hA hl.1 (c_X9_isMissing0 l g _ (q 45) (q 46) 0 ) rfl rfl rfl wd_37_11 wd_2_11 wd_37_8 wd_37_9 wd_37_10 yd_X9_isMissing ⟨Nat.le_of_ble_eq_true rfl, Nat.le_of_ble_eq_true rfl⟩ rfl rfl rfl rfl rfl (by decide) rfl (Nat.le_of_ble_eq_true rfl) dX11_sheetFinding_16 ⟨Nat.le_of_ble_eq_true rfl, Nat.le_of_ble_eq_true rfl⟩ (fun r_10 u_11 H locs hw_12 hP hD hS => ?_)
      have hP : va_P g.1 vwCl [(q 0, .inr (11, [.ref (q 1), .ref (q 29), .ref (q 31), .ref (q 34), .ref (q 38), .ref (q 40), .int 0])), (q 40, .inl (gS g, 4, .inr (.inr (.inr (.inr (va_up (va_up (va_up (va_up (fun _ => none) 0 (some (q 41))) 1 (some (q 43))) 2 (some (q 45))) 3 (some (q 47)))))))), (q 41, .inr (9, [.int 0, .int 0, .ref (q 42)])), (q 42, .inl (gI g, 60, .inl (fun _ => 0))), (q 43, .inr (9, [.int 0, .int 0, .ref (q 44)])), (q 44, .inl (gI g, 60, .inl (fun _ => 0))), (q 46, .inl (gI g, 60, .inl (fun _ => 0))), (q 47, .inr (9, [.int 0, .int 0, .ref (q 48)])), (q 48, .inl (gI g, 60, .inl (fun _ => 0))), (q 45, .inr (9, [.int 0, .int 0, .ref (q 46)]))] H := hP
      have hD : va_D A [(q 0, .inr (11, [.ref (q 1), .ref (q 29), .ref (q 31), .ref (q 34), .ref (q 38), .ref (q 40), .int 0])), (q 40, .inl (gS g, 4, .inr (.inr (.inr (.inr (va_up (va_up (va_up (va_up (fun _ => none) 0 (some (q 41))) 1 (some (q 43))) 2 (some (q 45))) 3 (some (q 47)))))))), (q 41, .inr (9, [.int 0, .int 0, .ref (q 42)])), (q 42, .inl (gI g, 60, .inl (fun _ => 0))), (q 43, .inr (9, [.int 0, .int 0, .ref (q 44)])), (q 44, .inl (gI g, 60, .inl (fun _ => 0))), (q 46, .inl (gI g, 60, .inl (fun _ => 0))), (q 47, .inr (9, [.int 0, .int 0, .ref (q 48)])), (q 48, .inl (gI g, 60, .inl (fun _ => 0))), (q 45, .inr (9, [.int 0, .int 0, .ref (q 46)]))] := hD
      have hw_12 : r_10 = 1 := hw_12
      subst hw_12
      refine lv_if_eq (tgt := 28) hx hb dX11_sheetFinding_19 (by decide) (fun c => absurd c (by decide)) (fun _ => ?_)
      refine lv_ldcw (v := (-100002)) hx hb hown (hts _ wd_37_4) dX11_sheetFinding_22 ?_
      refine lv_goto (tgt := 29) hx hb dX11_sheetFinding_25 (by decide) ?_
      exact k_iret () [0] hx hb hr hlk hP hD hS (by clear hP hD hS hA hts hKW hl; first | exact Or.inl ⟨rfl, by first | assumption | decide | (first | omega | (simp only [Int32.lt_iff_toInt_lt, Int32.le_iff_toInt_le, ← Int32.toInt_inj] at *; omega) | (simp only [Int32.lt_iff_toInt_lt, Int32.le_iff_toInt_le, ← Int32.toInt_inj] at *; simp at *; omega) | (simp only [Int32.lt_iff_toInt_lt, Int32.le_iff_toInt_le, ← Int32.toInt_inj] at *; simp at *; done) | (simp at *; omega) | (simp at *; done))⟩ | exact Or.inr ⟨rfl, by first | assumption | (first | omega | (simp only [Int32.lt_iff_toInt_lt, Int32.le_iff_toInt_le, ← Int32.toInt_inj] at *; omega) | (simp only [Int32.lt_iff_toInt_lt, Int32.le_iff_toInt_le, ← Int32.toInt_inj] at *; simp at *; omega) | (simp only [Int32.lt_iff_toInt_lt, Int32.le_iff_toInt_le, ← Int32.toInt_inj] at *; simp at *; done) | (simp at *; omega) | (simp at *; done))⟩) rfl rfl rfl (Nat.le_of_ble_eq_true rfl) (Nat.le_of_ble_eq_true rfl) dX11_sheetFinding_29
    · refine lv_aload_n hx hb dX11_sheetFinding_10 rfl (lv_at hl 0 rfl) ?_
      refine va_get (ci := 11) (C := RX11) (T := TX11) (N := 7) hx hb hts inlX11 hown hKW.1 hP 0 rfl rfl 5 (by decide) (hts _ wd_2_9) (fun _ h => h) rfl dX11_sheetFinding_11 ?_
      refine lv_iload_n hx hb dX11_sheetFinding_14 rfl (lv_at hl 1 rfl) ?_
      refine va_aldq hx hb hKW.1 hP 1 4 rfl rfl (show ¬ _ by decide) dX11_sheetFinding_15 ?_
      refine W.eq (g2 := F0 m 16 ls [.ref (q 47)]) rfl ?_
      refine k_Vi [8] [0, 1, 2, 3, 4, 5, 6, 7, 9] 8 9 (wr := [(q 0, .inr (11, [.ref (q 1), .ref (q 29), .ref (q 31), .ref (q 34), .ref (q 38), .ref (q 40), .int 0])), (q 40, .inl (gS g, 4, .inr (.inr (.inr (.inr (va_up (va_up (va_up (va_up (fun _ => none) 0 (some (q 41))) 1 (some (q 43))) 2 (some (q 45))) 3 (some (q 47)))))))), (q 41, .inr (9, [.int 0, .int 0, .ref (q 42)])), (q 42, .inl (gI g, 60, .inl (fun _ => 0))), (q 43, .inr (9, [.int 0, .int 0, .ref (q 44)])), (q 44, .inl (gI g, 60, .inl (fun _ => 0))), (q 45, .inr (9, [.int 0, .int 0, .ref (q 46)])), (q 46, .inl (gI g, 60, .inl (fun _ => 0))), (q 48, .inl (gI g, 60, .inl (fun _ => 0)))]) hx hb hml hown hts hKW hP hD hS hA hl.1 (c_X9_isMissing0 l g _ (q 47) (q 48) 0 ) rfl rfl rfl wd_37_11 wd_2_11 wd_37_8 wd_37_9 wd_37_10 yd_X9_isMissing ⟨Nat.le_of_ble_eq_true rfl, Nat.le_of_ble_eq_true rfl⟩ rfl rfl rfl rfl rfl (by decide) rfl (Nat.le_of_ble_eq_true rfl) dX11_sheetFinding_16 ⟨Nat.le_of_ble_eq_true rfl, Nat.le_of_ble_eq_true rfl⟩ (fun r_13 u_14 H locs hw_15 hP hD hS => ?_)
      have hP : va_P g.1 vwCl [(q 0, .inr (11, [.ref (q 1), .ref (q 29), .ref (q 31), .ref (q 34), .ref (q 38), .ref (q 40), .int 0])), (q 40, .inl (gS g, 4, .inr (.inr (.inr (.inr (va_up (va_up (va_up (va_up (fun _ => none) 0 (some (q 41))) 1 (some (q 43))) 2 (some (q 45))) 3 (some (q 47)))))))), (q 41, .inr (9, [.int 0, .int 0, .ref (q 42)])), (q 42, .inl (gI g, 60, .inl (fun _ => 0))), (q 43, .inr (9, [.int 0, .int 0, .ref (q 44)])), (q 44, .inl (gI g, 60, .inl (fun _ => 0))), (q 45, .inr (9, [.int 0, .int 0, .ref (q 46)])), (q 46, .inl (gI g, 60, .inl (fun _ => 0))), (q 48, .inl (gI g, 60, .inl (fun _ => 0))), (q 47, .inr (9, [.int 0, .int 0, .ref (q 48)]))] H := hP
      have hD : va_D A [(q 0, .inr (11, [.ref (q 1), .ref (q 29), .ref (q 31), .ref (q 34), .ref (q 38), .ref (q 40), .int 0])), (q 40, .inl (gS g, 4, .inr (.inr (.inr (.inr (va_up (va_up (va_up (va_up (fun _ => none) 0 (some (q 41))) 1 (some (q 43))) 2 (some (q 45))) 3 (some (q 47)))))))), (q 41, .inr (9, [.int 0, .int 0, .ref (q 42)])), (q 42, .inl (gI g, 60, .inl (fun _ => 0))), (q 43, .inr (9, [.int 0, .int 0, .ref (q 44)])), (q 44, .inl (gI g, 60, .inl (fun _ => 0))), (q 45, .inr (9, [.int 0, .int 0, .ref (q 46)])), (q 46, .inl (gI g, 60, .inl (fun _ => 0))), (q 48, .inl (gI g, 60, .inl (fun _ => 0))), (q 47, .inr (9, [.int 0, .int 0, .ref (q 48)]))] := hD
      have hw_15 : r_13 = 1 := hw_15
      subst hw_15
      refine lv_if_eq (tgt := 28) hx hb dX11_sheetFinding_19 (by decide) (fun c => absurd c (by decide)) (fun _ => ?_)
      refine lv_ldcw (v := (-100002)) hx hb hown (hts _ wd_37_4) dX11_sheetFinding_22 ?_
      refine lv_goto (tgt := 29) hx hb dX11_sheetFinding_25 (by decide) ?_
      exact k_iret () [0] hx hb hr hlk hP hD hS (by clear hP hD hS hA hts hKW hl; first | exact Or.inl ⟨rfl, by first | assumption | decide | (first | omega | (simp only [Int32.lt_iff_toInt_lt, Int32.le_iff_toInt_le, ← Int32.toInt_inj] at *; omega) | (simp only [Int32.lt_iff_toInt_lt, Int32.le_iff_toInt_le, ← Int32.toInt_inj] at *; simp at *; omega) | (simp only [Int32.lt_iff_toInt_lt, Int32.le_iff_toInt_le, ← Int32.toInt_inj] at *; simp at *; done) | (simp at *; omega) | (simp at *; done))⟩ | exact Or.inr ⟨rfl, by first | assumption | (first | omega | (simp only [Int32.lt_iff_toInt_lt, Int32.le_iff_toInt_le, ← Int32.toInt_inj] at *; omega) | (simp only [Int32.lt_iff_toInt_lt, Int32.le_iff_toInt_le, ← Int32.toInt_inj] at *; simp at *; omega) | (simp only [Int32.lt_iff_toInt_lt, Int32.le_iff_toInt_le, ← Int32.toInt_inj] at *; simp at *; done) | (simp at *; omega) | (simp at *; done))⟩) rfl rfl rfl (Nat.le_of_ble_eq_true rfl) (Nat.le_of_ble_eq_true rfl) dX11_sheetFinding_29
  · refine lv_if_ne (tgt := 10) hx hb dX11_sheetFinding_4 (by decide) (fun c => absurd c (by decide)) (fun _ => ?_)
    refine lv_ldc (v := (-100001)) hx hb hown (hts _ wd_7_1) dX11_sheetFinding_7 ?_
    exact k_iret () [0] hx hb hr hlk hP hD hS (by clear hP hD hS hA hts hKW hl; first | exact Or.inl ⟨rfl, by first | assumption | decide | (first | omega | (simp only [Int32.lt_iff_toInt_lt, Int32.le_iff_toInt_le, ← Int32.toInt_inj] at *; omega) | (simp only [Int32.lt_iff_toInt_lt, Int32.le_iff_toInt_le, ← Int32.toInt_inj] at *; simp at *; omega) | (simp only [Int32.lt_iff_toInt_lt, Int32.le_iff_toInt_le, ← Int32.toInt_inj] at *; simp at *; done) | (simp at *; omega) | (simp at *; done))⟩ | exact Or.inr ⟨rfl, by first | assumption | (first | omega | (simp only [Int32.lt_iff_toInt_lt, Int32.le_iff_toInt_le, ← Int32.toInt_inj] at *; omega) | (simp only [Int32.lt_iff_toInt_lt, Int32.le_iff_toInt_le, ← Int32.toInt_inj] at *; simp at *; omega) | (simp only [Int32.lt_iff_toInt_lt, Int32.le_iff_toInt_le, ← Int32.toInt_inj] at *; simp at *; done) | (simp at *; omega) | (simp at *; done))⟩) rfl rfl rfl (Nat.le_of_ble_eq_true rfl) (Nat.le_of_ble_eq_true rfl) dX11_sheetFinding_9
theorem dX11_proves_0 : decode cX11_proves 0 = .ok (.aload_n 0, 1) := by decide +kernel
theorem dX11_proves_1 : decode cX11_proves 1 = .ok (.iload_n 1, 1) := by decide +kernel
theorem dX11_proves_2 : decode cX11_proves 2 = .ok (.invokevirtual 263, 3) := by decide +kernel
theorem dX11_proves_5 : decode cX11_proves 5 = .ok (.istore_n 2, 1) := by decide +kernel
theorem dX11_proves_6 : decode cX11_proves 6 = .ok (.iload_n 2, 1) := by decide +kernel
theorem dX11_proves_7 : decode cX11_proves 7 = .ok (.ifCond .eq 9, 3) := by decide +kernel
theorem dX11_proves_10 : decode cX11_proves 10 = .ok (.aload_n 0, 1) := by decide +kernel
theorem dX11_proves_11 : decode cX11_proves 11 = .ok (.iload_n 2, 1) := by decide +kernel
theorem dX11_proves_12 : decode cX11_proves 12 = .ok (.invokevirtual 56, 3) := by decide +kernel
theorem dX11_proves_15 : decode cX11_proves 15 = .ok (.ireturn, 1) := by decide +kernel
set_option maxHeartbeats 4000000 in
set_option maxRecDepth 100000 in
theorem c_X11_proves (l : Launch) (g : kG) (sz : Nat) (q : Nat → Nat) (s_ : Int32) : kMi l g yX11_proves cX11_proves 6 (some .int) 6 0 0 [.ref (q 0), .int s_] sz [(q 0, .inr (11, [.ref (q 1), .ref (q 29), .ref (q 31), .ref (q 34), .ref (q 38), .ref (q 40), .int 0])), (q 40, .inl (gS g, 4, .inr (.inr (.inr (.inr (va_up (va_up (va_up (va_up (fun _ => none) 0 (some (q 41))) 1 (some (q 43))) 2 (some (q 45))) 3 (some (q 47)))))))), (q 41, .inr (9, [.int 0, .int 0, .ref (q 42)])), (q 42, .inl (gI g, 60, .inl (fun _ => 0))), (q 43, .inr (9, [.int 0, .int 0, .ref (q 44)])), (q 44, .inl (gI g, 60, .inl (fun _ => 0))), (q 45, .inr (9, [.int 0, .int 0, .ref (q 46)])), (q 46, .inl (gI g, 60, .inl (fun _ => 0))), (q 47, .inr (9, [.int 0, .int 0, .ref (q 48)])), (q 48, .inl (gI g, 60, .inl (fun _ => 0)))] (fun (r : Int32) (u : Unit) => r = aR 0 3 (-100002) s_) (fun (u : Unit) => ([] : va_W)) := by
  refine kMi.of (by decide) (Nat.le_of_ble_eq_true rfl) (fun p e s m below meth c A hx hb hr hml hown hts hlk hnm hKW hP hD hS hA ls hl => ?_)
  have hown : s.vm.findClass RX11 = some m.cls := hown
  have hl : lv_has ls 6 [(0, .ref (q 0)), (1, .int s_)] := hl
  refine lv_aload_n hx hb dX11_proves_0 rfl (lv_at hl 0 rfl) ?_
  refine lv_iload_n hx hb dX11_proves_1 rfl (lv_at hl 1 rfl) ?_
  refine k_Vi [0, 1, 2, 3, 4, 5, 6, 7, 8, 9] [] 0 11 (wr := []) hx hb hml hown hts hKW hP hD hS hA hl.1 (c_X11_sheetFinding l g _ q s_ ) rfl rfl rfl wd_37_3 wd_1_2 wd_37_0 wd_37_1 wd_37_2 yd_X11_sheetFinding ⟨Nat.le_of_ble_eq_true rfl, Nat.le_of_ble_eq_true rfl⟩ rfl rfl rfl rfl rfl (by decide) rfl (Nat.le_of_ble_eq_true rfl) dX11_proves_2 ⟨Nat.le_of_ble_eq_true rfl, Nat.le_of_ble_eq_true rfl⟩ (fun r_1 u_2 H locs hw_3 hP hD hS => ?_)
  have hP : va_P g.1 vwCl [(q 0, .inr (11, [.ref (q 1), .ref (q 29), .ref (q 31), .ref (q 34), .ref (q 38), .ref (q 40), .int 0]))] H := hP
  have hD : va_D A [(q 0, .inr (11, [.ref (q 1), .ref (q 29), .ref (q 31), .ref (q 34), .ref (q 38), .ref (q 40), .int 0]))] := hD
  rcases (show (r_1 = (-100002) ∧ ((0 : Int) ≤ Int32.toInt s_ ∧ Int32.toInt s_ ≤ 3)) ∨ (r_1 = (-100001) ∧ ¬ ((0 : Int) ≤ Int32.toInt s_ ∧ Int32.toInt s_ ≤ 3)) from hw_3) with ⟨rfl, hw_3b⟩ | ⟨rfl, hw_3b⟩ <;> clear hw_3
  · refine lv_istore_n (lv' := [(2, .int (-100002)), (0, .ref (q 0)), (1, .int s_)]) hx hb dX11_proves_5 rfl hl (by decide) rfl (fun ls hl => ?_)
    refine lv_iload_n hx hb dX11_proves_6 rfl (lv_at hl 0 rfl) ?_
    refine lv_if_eq (tgt := 16) hx hb dX11_proves_7 (by decide) (fun c => absurd c (by decide)) (fun _ => ?_)
    refine lv_aload_n hx hb dX11_proves_10 rfl (lv_at hl 1 rfl) ?_
    refine lv_iload_n hx hb dX11_proves_11 rfl (lv_at hl 0 rfl) ?_
    refine k_Vi [0] [] 0 11 (wr := []) hx hb hml hown hts hKW hP hD hS hA hl.1 (c_X11_finding l g _ (q 0) (q 1) (q 29) (q 31) (q 34) (q 38) (q 40) 0 (-100002) ) rfl rfl rfl wd_7_12 wd_1_2 wd_7_9 wd_7_10 wd_7_11 yd_X11_finding ⟨Nat.le_of_ble_eq_true rfl, Nat.le_of_ble_eq_true rfl⟩ rfl rfl rfl rfl rfl (by decide) rfl (Nat.le_of_ble_eq_true rfl) dX11_proves_12 ⟨Nat.le_of_ble_eq_true rfl, Nat.le_of_ble_eq_true rfl⟩ (fun r_4 u_5 H locs hw_6 hP hD hS => ?_)
    have hP : va_P g.1 vwCl [] H := hP
    have hD : va_D A [] := hD
    have hw_6 : r_4 = (-100002) := hw_6
    subst hw_6
    exact k_iret () [] hx hb hr hlk hP hD hS (by clear hP hD hS hA hts hKW hl; unfold aR; (repeat' split) <;> first | rfl | (exfalso; first | omega | (simp only [Int32.lt_iff_toInt_lt, Int32.le_iff_toInt_le, ← Int32.toInt_inj] at *; omega) | (simp only [Int32.lt_iff_toInt_lt, Int32.le_iff_toInt_le, ← Int32.toInt_inj] at *; simp at *; omega) | (simp only [Int32.lt_iff_toInt_lt, Int32.le_iff_toInt_le, ← Int32.toInt_inj] at *; simp at *; done) | (simp at *; omega) | (simp at *; done))) rfl rfl rfl (Nat.le_of_ble_eq_true rfl) (Nat.le_of_ble_eq_true rfl) dX11_proves_15
  · refine lv_istore_n (lv' := [(2, .int (-100001)), (0, .ref (q 0)), (1, .int s_)]) hx hb dX11_proves_5 rfl hl (by decide) rfl (fun ls hl => ?_)
    refine lv_iload_n hx hb dX11_proves_6 rfl (lv_at hl 0 rfl) ?_
    refine lv_if_eq (tgt := 16) hx hb dX11_proves_7 (by decide) (fun c => absurd c (by decide)) (fun _ => ?_)
    refine lv_aload_n hx hb dX11_proves_10 rfl (lv_at hl 1 rfl) ?_
    refine lv_iload_n hx hb dX11_proves_11 rfl (lv_at hl 0 rfl) ?_
    refine k_Vi [0] [] 0 11 (wr := []) hx hb hml hown hts hKW hP hD hS hA hl.1 (c_X11_finding l g _ (q 0) (q 1) (q 29) (q 31) (q 34) (q 38) (q 40) 0 (-100001) ) rfl rfl rfl wd_7_12 wd_1_2 wd_7_9 wd_7_10 wd_7_11 yd_X11_finding ⟨Nat.le_of_ble_eq_true rfl, Nat.le_of_ble_eq_true rfl⟩ rfl rfl rfl rfl rfl (by decide) rfl (Nat.le_of_ble_eq_true rfl) dX11_proves_12 ⟨Nat.le_of_ble_eq_true rfl, Nat.le_of_ble_eq_true rfl⟩ (fun r_7 u_8 H locs hw_9 hP hD hS => ?_)
    have hP : va_P g.1 vwCl [] H := hP
    have hD : va_D A [] := hD
    have hw_9 : r_7 = (-100001) := hw_9
    subst hw_9
    exact k_iret () [] hx hb hr hlk hP hD hS (by clear hP hD hS hA hts hKW hl; unfold aR; (repeat' split) <;> first | rfl | (exfalso; first | omega | (simp only [Int32.lt_iff_toInt_lt, Int32.le_iff_toInt_le, ← Int32.toInt_inj] at *; omega) | (simp only [Int32.lt_iff_toInt_lt, Int32.le_iff_toInt_le, ← Int32.toInt_inj] at *; simp at *; omega) | (simp only [Int32.lt_iff_toInt_lt, Int32.le_iff_toInt_le, ← Int32.toInt_inj] at *; simp at *; done) | (simp at *; omega) | (simp at *; done))) rfl rfl rfl (Nat.le_of_ble_eq_true rfl) (Nat.le_of_ble_eq_true rfl) dX11_proves_15
theorem dX11_text_0 : decode cX11_text 0 = .ok (.aload_n 0, 1) := by decide +kernel
theorem dX11_text_1 : decode cX11_text 1 = .ok (.iload_n 1, 1) := by decide +kernel
theorem dX11_text_2 : decode cX11_text 2 = .ok (.invokevirtual 263, 3) := by decide +kernel
theorem dX11_text_5 : decode cX11_text 5 = .ok (.istore_n 2, 1) := by decide +kernel
theorem dX11_text_6 : decode cX11_text 6 = .ok (.iload_n 2, 1) := by decide +kernel
theorem dX11_text_7 : decode cX11_text 7 = .ok (.ifCond .eq 9, 3) := by decide +kernel
theorem dX11_text_10 : decode cX11_text 10 = .ok (.aload_n 0, 1) := by decide +kernel
theorem dX11_text_11 : decode cX11_text 11 = .ok (.iload_n 2, 1) := by decide +kernel
theorem dX11_text_12 : decode cX11_text 12 = .ok (.invokevirtual 56, 3) := by decide +kernel
theorem dX11_text_15 : decode cX11_text 15 = .ok (.ireturn, 1) := by decide +kernel
set_option maxHeartbeats 4000000 in
set_option maxRecDepth 100000 in
theorem c_X11_text (l : Launch) (g : kG) (sz : Nat) (q : Nat → Nat) (s_ : Int32) : kMi l g yX11_text cX11_text 4 (some .int) 6 0 0 [.ref (q 0), .int s_] sz [(q 0, .inr (11, [.ref (q 1), .ref (q 29), .ref (q 31), .ref (q 34), .ref (q 38), .ref (q 40), .int 0])), (q 40, .inl (gS g, 4, .inr (.inr (.inr (.inr (va_up (va_up (va_up (va_up (fun _ => none) 0 (some (q 41))) 1 (some (q 43))) 2 (some (q 45))) 3 (some (q 47)))))))), (q 41, .inr (9, [.int 0, .int 0, .ref (q 42)])), (q 42, .inl (gI g, 60, .inl (fun _ => 0))), (q 43, .inr (9, [.int 0, .int 0, .ref (q 44)])), (q 44, .inl (gI g, 60, .inl (fun _ => 0))), (q 45, .inr (9, [.int 0, .int 0, .ref (q 46)])), (q 46, .inl (gI g, 60, .inl (fun _ => 0))), (q 47, .inr (9, [.int 0, .int 0, .ref (q 48)])), (q 48, .inl (gI g, 60, .inl (fun _ => 0)))] (fun (r : Int32) (u : Unit) => r = aR 0 3 (-100002) s_) (fun (u : Unit) => ([] : va_W)) := by
  refine kMi.of (by decide) (Nat.le_of_ble_eq_true rfl) (fun p e s m below meth c A hx hb hr hml hown hts hlk hnm hKW hP hD hS hA ls hl => ?_)
  have hown : s.vm.findClass RX11 = some m.cls := hown
  have hl : lv_has ls 4 [(0, .ref (q 0)), (1, .int s_)] := hl
  refine lv_aload_n hx hb dX11_text_0 rfl (lv_at hl 0 rfl) ?_
  refine lv_iload_n hx hb dX11_text_1 rfl (lv_at hl 1 rfl) ?_
  refine k_Vi [0, 1, 2, 3, 4, 5, 6, 7, 8, 9] [] 0 11 (wr := []) hx hb hml hown hts hKW hP hD hS hA hl.1 (c_X11_sheetFinding l g _ q s_ ) rfl rfl rfl wd_37_3 wd_1_2 wd_37_0 wd_37_1 wd_37_2 yd_X11_sheetFinding ⟨Nat.le_of_ble_eq_true rfl, Nat.le_of_ble_eq_true rfl⟩ rfl rfl rfl rfl rfl (by decide) rfl (Nat.le_of_ble_eq_true rfl) dX11_text_2 ⟨Nat.le_of_ble_eq_true rfl, Nat.le_of_ble_eq_true rfl⟩ (fun r_1 u_2 H locs hw_3 hP hD hS => ?_)
  have hP : va_P g.1 vwCl [(q 0, .inr (11, [.ref (q 1), .ref (q 29), .ref (q 31), .ref (q 34), .ref (q 38), .ref (q 40), .int 0]))] H := hP
  have hD : va_D A [(q 0, .inr (11, [.ref (q 1), .ref (q 29), .ref (q 31), .ref (q 34), .ref (q 38), .ref (q 40), .int 0]))] := hD
  rcases (show (r_1 = (-100002) ∧ ((0 : Int) ≤ Int32.toInt s_ ∧ Int32.toInt s_ ≤ 3)) ∨ (r_1 = (-100001) ∧ ¬ ((0 : Int) ≤ Int32.toInt s_ ∧ Int32.toInt s_ ≤ 3)) from hw_3) with ⟨rfl, hw_3b⟩ | ⟨rfl, hw_3b⟩ <;> clear hw_3
  · refine lv_istore_n (lv' := [(2, .int (-100002)), (0, .ref (q 0)), (1, .int s_)]) hx hb dX11_text_5 rfl hl (by decide) rfl (fun ls hl => ?_)
    refine lv_iload_n hx hb dX11_text_6 rfl (lv_at hl 0 rfl) ?_
    refine lv_if_eq (tgt := 16) hx hb dX11_text_7 (by decide) (fun c => absurd c (by decide)) (fun _ => ?_)
    refine lv_aload_n hx hb dX11_text_10 rfl (lv_at hl 1 rfl) ?_
    refine lv_iload_n hx hb dX11_text_11 rfl (lv_at hl 0 rfl) ?_
    refine k_Vi [0] [] 0 11 (wr := []) hx hb hml hown hts hKW hP hD hS hA hl.1 (c_X11_finding l g _ (q 0) (q 1) (q 29) (q 31) (q 34) (q 38) (q 40) 0 (-100002) ) rfl rfl rfl wd_7_12 wd_1_2 wd_7_9 wd_7_10 wd_7_11 yd_X11_finding ⟨Nat.le_of_ble_eq_true rfl, Nat.le_of_ble_eq_true rfl⟩ rfl rfl rfl rfl rfl (by decide) rfl (Nat.le_of_ble_eq_true rfl) dX11_text_12 ⟨Nat.le_of_ble_eq_true rfl, Nat.le_of_ble_eq_true rfl⟩ (fun r_4 u_5 H locs hw_6 hP hD hS => ?_)
    have hP : va_P g.1 vwCl [] H := hP
    have hD : va_D A [] := hD
    have hw_6 : r_4 = (-100002) := hw_6
    subst hw_6
    exact k_iret () [] hx hb hr hlk hP hD hS (by clear hP hD hS hA hts hKW hl; unfold aR; (repeat' split) <;> first | rfl | (exfalso; first | omega | (simp only [Int32.lt_iff_toInt_lt, Int32.le_iff_toInt_le, ← Int32.toInt_inj] at *; omega) | (simp only [Int32.lt_iff_toInt_lt, Int32.le_iff_toInt_le, ← Int32.toInt_inj] at *; simp at *; omega) | (simp only [Int32.lt_iff_toInt_lt, Int32.le_iff_toInt_le, ← Int32.toInt_inj] at *; simp at *; done) | (simp at *; omega) | (simp at *; done))) rfl rfl rfl (Nat.le_of_ble_eq_true rfl) (Nat.le_of_ble_eq_true rfl) dX11_text_15
  · refine lv_istore_n (lv' := [(2, .int (-100001)), (0, .ref (q 0)), (1, .int s_)]) hx hb dX11_text_5 rfl hl (by decide) rfl (fun ls hl => ?_)
    refine lv_iload_n hx hb dX11_text_6 rfl (lv_at hl 0 rfl) ?_
    refine lv_if_eq (tgt := 16) hx hb dX11_text_7 (by decide) (fun c => absurd c (by decide)) (fun _ => ?_)
    refine lv_aload_n hx hb dX11_text_10 rfl (lv_at hl 1 rfl) ?_
    refine lv_iload_n hx hb dX11_text_11 rfl (lv_at hl 0 rfl) ?_
    refine k_Vi [0] [] 0 11 (wr := []) hx hb hml hown hts hKW hP hD hS hA hl.1 (c_X11_finding l g _ (q 0) (q 1) (q 29) (q 31) (q 34) (q 38) (q 40) 0 (-100001) ) rfl rfl rfl wd_7_12 wd_1_2 wd_7_9 wd_7_10 wd_7_11 yd_X11_finding ⟨Nat.le_of_ble_eq_true rfl, Nat.le_of_ble_eq_true rfl⟩ rfl rfl rfl rfl rfl (by decide) rfl (Nat.le_of_ble_eq_true rfl) dX11_text_12 ⟨Nat.le_of_ble_eq_true rfl, Nat.le_of_ble_eq_true rfl⟩ (fun r_7 u_8 H locs hw_9 hP hD hS => ?_)
    have hP : va_P g.1 vwCl [] H := hP
    have hD : va_D A [] := hD
    have hw_9 : r_7 = (-100001) := hw_9
    subst hw_9
    exact k_iret () [] hx hb hr hlk hP hD hS (by clear hP hD hS hA hts hKW hl; unfold aR; (repeat' split) <;> first | rfl | (exfalso; first | omega | (simp only [Int32.lt_iff_toInt_lt, Int32.le_iff_toInt_le, ← Int32.toInt_inj] at *; omega) | (simp only [Int32.lt_iff_toInt_lt, Int32.le_iff_toInt_le, ← Int32.toInt_inj] at *; simp at *; omega) | (simp only [Int32.lt_iff_toInt_lt, Int32.le_iff_toInt_le, ← Int32.toInt_inj] at *; simp at *; done) | (simp at *; omega) | (simp at *; done))) rfl rfl rfl (Nat.le_of_ble_eq_true rfl) (Nat.le_of_ble_eq_true rfl) dX11_text_15
theorem dX11_put_0 : decode cX11_put 0 = .ok (.aload_n 0, 1) := by decide +kernel
theorem dX11_put_1 : decode cX11_put 1 = .ok (.iload_n 1, 1) := by decide +kernel
theorem dX11_put_2 : decode cX11_put 2 = .ok (.invokevirtual 263, 3) := by decide +kernel
theorem dX11_put_5 : decode cX11_put 5 = .ok (.istore 4, 2) := by decide +kernel
theorem dX11_put_7 : decode cX11_put 7 = .ok (.iload 4, 2) := by decide +kernel
theorem dX11_put_9 : decode cX11_put 9 = .ok (.ifCond .eq 10, 3) := by decide +kernel
theorem dX11_put_12 : decode cX11_put 12 = .ok (.aload_n 0, 1) := by decide +kernel
theorem dX11_put_13 : decode cX11_put 13 = .ok (.iload 4, 2) := by decide +kernel
theorem dX11_put_15 : decode cX11_put 15 = .ok (.invokevirtual 56, 3) := by decide +kernel
theorem dX11_put_18 : decode cX11_put 18 = .ok (.ireturn, 1) := by decide +kernel
set_option maxHeartbeats 4000000 in
set_option maxRecDepth 100000 in
theorem c_X11_put (l : Launch) (g : kG) (sz : Nat) (q : Nat → Nat) (s_ : Int32) (i : Int32) (v : Int32) : kMi l g yX11_put cX11_put 5 (some .int) 6 0 0 [.ref (q 0), .int s_, .int i, .int v] sz [(q 0, .inr (11, [.ref (q 1), .ref (q 29), .ref (q 31), .ref (q 34), .ref (q 38), .ref (q 40), .int 0])), (q 40, .inl (gS g, 4, .inr (.inr (.inr (.inr (va_up (va_up (va_up (va_up (fun _ => none) 0 (some (q 41))) 1 (some (q 43))) 2 (some (q 45))) 3 (some (q 47)))))))), (q 41, .inr (9, [.int 0, .int 0, .ref (q 42)])), (q 42, .inl (gI g, 60, .inl (fun _ => 0))), (q 43, .inr (9, [.int 0, .int 0, .ref (q 44)])), (q 44, .inl (gI g, 60, .inl (fun _ => 0))), (q 45, .inr (9, [.int 0, .int 0, .ref (q 46)])), (q 46, .inl (gI g, 60, .inl (fun _ => 0))), (q 47, .inr (9, [.int 0, .int 0, .ref (q 48)])), (q 48, .inl (gI g, 60, .inl (fun _ => 0)))] (fun (r : Int32) (u : Unit) => r = aR 0 3 (-100002) s_) (fun (u : Unit) => ([] : va_W)) := by
  refine kMi.of (by decide) (Nat.le_of_ble_eq_true rfl) (fun p e s m below meth c A hx hb hr hml hown hts hlk hnm hKW hP hD hS hA ls hl => ?_)
  have hown : s.vm.findClass RX11 = some m.cls := hown
  have hl : lv_has ls 5 [(0, .ref (q 0)), (1, .int s_), (2, .int i), (3, .int v)] := hl
  refine lv_aload_n hx hb dX11_put_0 rfl (lv_at hl 0 rfl) ?_
  refine lv_iload_n hx hb dX11_put_1 rfl (lv_at hl 1 rfl) ?_
  refine k_Vi [0, 1, 2, 3, 4, 5, 6, 7, 8, 9] [] 0 11 (wr := []) hx hb hml hown hts hKW hP hD hS hA hl.1 (c_X11_sheetFinding l g _ q s_ ) rfl rfl rfl wd_37_3 wd_1_2 wd_37_0 wd_37_1 wd_37_2 yd_X11_sheetFinding ⟨Nat.le_of_ble_eq_true rfl, Nat.le_of_ble_eq_true rfl⟩ rfl rfl rfl rfl rfl (by decide) rfl (Nat.le_of_ble_eq_true rfl) dX11_put_2 ⟨Nat.le_of_ble_eq_true rfl, Nat.le_of_ble_eq_true rfl⟩ (fun r_1 u_2 H locs hw_3 hP hD hS => ?_)
  have hP : va_P g.1 vwCl [(q 0, .inr (11, [.ref (q 1), .ref (q 29), .ref (q 31), .ref (q 34), .ref (q 38), .ref (q 40), .int 0]))] H := hP
  have hD : va_D A [(q 0, .inr (11, [.ref (q 1), .ref (q 29), .ref (q 31), .ref (q 34), .ref (q 38), .ref (q 40), .int 0]))] := hD
  rcases (show (r_1 = (-100002) ∧ ((0 : Int) ≤ Int32.toInt s_ ∧ Int32.toInt s_ ≤ 3)) ∨ (r_1 = (-100001) ∧ ¬ ((0 : Int) ≤ Int32.toInt s_ ∧ Int32.toInt s_ ≤ 3)) from hw_3) with ⟨rfl, hw_3b⟩ | ⟨rfl, hw_3b⟩ <;> clear hw_3
  · refine lv_istore (lv' := [(4, .int (-100002)), (0, .ref (q 0)), (1, .int s_), (2, .int i), (3, .int v)]) hx hb dX11_put_5 hl (by decide) rfl (fun ls hl => ?_)
    refine lv_iload hx hb dX11_put_7 (lv_at hl 0 rfl) ?_
    refine lv_if_eq (tgt := 19) hx hb dX11_put_9 (by decide) (fun c => absurd c (by decide)) (fun _ => ?_)
    refine lv_aload_n hx hb dX11_put_12 rfl (lv_at hl 1 rfl) ?_
    refine lv_iload hx hb dX11_put_13 (lv_at hl 0 rfl) ?_
    refine k_Vi [0] [] 0 11 (wr := []) hx hb hml hown hts hKW hP hD hS hA hl.1 (c_X11_finding l g _ (q 0) (q 1) (q 29) (q 31) (q 34) (q 38) (q 40) 0 (-100002) ) rfl rfl rfl wd_7_12 wd_1_2 wd_7_9 wd_7_10 wd_7_11 yd_X11_finding ⟨Nat.le_of_ble_eq_true rfl, Nat.le_of_ble_eq_true rfl⟩ rfl rfl rfl rfl rfl (by decide) rfl (Nat.le_of_ble_eq_true rfl) dX11_put_15 ⟨Nat.le_of_ble_eq_true rfl, Nat.le_of_ble_eq_true rfl⟩ (fun r_4 u_5 H locs hw_6 hP hD hS => ?_)
    have hP : va_P g.1 vwCl [] H := hP
    have hD : va_D A [] := hD
    have hw_6 : r_4 = (-100002) := hw_6
    subst hw_6
    exact k_iret () [] hx hb hr hlk hP hD hS (by clear hP hD hS hA hts hKW hl; unfold aR; (repeat' split) <;> first | rfl | (exfalso; first | omega | (simp only [Int32.lt_iff_toInt_lt, Int32.le_iff_toInt_le, ← Int32.toInt_inj] at *; omega) | (simp only [Int32.lt_iff_toInt_lt, Int32.le_iff_toInt_le, ← Int32.toInt_inj] at *; simp at *; omega) | (simp only [Int32.lt_iff_toInt_lt, Int32.le_iff_toInt_le, ← Int32.toInt_inj] at *; simp at *; done) | (simp at *; omega) | (simp at *; done))) rfl rfl rfl (Nat.le_of_ble_eq_true rfl) (Nat.le_of_ble_eq_true rfl) dX11_put_18
  · refine lv_istore (lv' := [(4, .int (-100001)), (0, .ref (q 0)), (1, .int s_), (2, .int i), (3, .int v)]) hx hb dX11_put_5 hl (by decide) rfl (fun ls hl => ?_)
    refine lv_iload hx hb dX11_put_7 (lv_at hl 0 rfl) ?_
    refine lv_if_eq (tgt := 19) hx hb dX11_put_9 (by decide) (fun c => absurd c (by decide)) (fun _ => ?_)
    refine lv_aload_n hx hb dX11_put_12 rfl (lv_at hl 1 rfl) ?_
    refine lv_iload hx hb dX11_put_13 (lv_at hl 0 rfl) ?_
    refine k_Vi [0] [] 0 11 (wr := []) hx hb hml hown hts hKW hP hD hS hA hl.1 (c_X11_finding l g _ (q 0) (q 1) (q 29) (q 31) (q 34) (q 38) (q 40) 0 (-100001) ) rfl rfl rfl wd_7_12 wd_1_2 wd_7_9 wd_7_10 wd_7_11 yd_X11_finding ⟨Nat.le_of_ble_eq_true rfl, Nat.le_of_ble_eq_true rfl⟩ rfl rfl rfl rfl rfl (by decide) rfl (Nat.le_of_ble_eq_true rfl) dX11_put_15 ⟨Nat.le_of_ble_eq_true rfl, Nat.le_of_ble_eq_true rfl⟩ (fun r_7 u_8 H locs hw_9 hP hD hS => ?_)
    have hP : va_P g.1 vwCl [] H := hP
    have hD : va_D A [] := hD
    have hw_9 : r_7 = (-100001) := hw_9
    subst hw_9
    exact k_iret () [] hx hb hr hlk hP hD hS (by clear hP hD hS hA hts hKW hl; unfold aR; (repeat' split) <;> first | rfl | (exfalso; first | omega | (simp only [Int32.lt_iff_toInt_lt, Int32.le_iff_toInt_le, ← Int32.toInt_inj] at *; omega) | (simp only [Int32.lt_iff_toInt_lt, Int32.le_iff_toInt_le, ← Int32.toInt_inj] at *; simp at *; omega) | (simp only [Int32.lt_iff_toInt_lt, Int32.le_iff_toInt_le, ← Int32.toInt_inj] at *; simp at *; done) | (simp at *; omega) | (simp at *; done))) rfl rfl rfl (Nat.le_of_ble_eq_true rfl) (Nat.le_of_ble_eq_true rfl) dX11_put_18
theorem dX11_waits_0 : decode cX11_waits 0 = .ok (.aload_n 0, 1) := by decide +kernel
theorem dX11_waits_1 : decode cX11_waits 1 = .ok (.getfield 10, 3) := by decide +kernel
theorem dX11_waits_4 : decode cX11_waits 4 = .ok (.getfield 104, 3) := by decide +kernel
theorem dX11_waits_7 : decode cX11_waits 7 = .ok (.iload_n 1, 1) := by decide +kernel
theorem dX11_waits_8 : decode cX11_waits 8 = .ok (.invokevirtual 108, 3) := by decide +kernel
theorem dX11_waits_11 : decode cX11_waits 11 = .ok (.ifCond .ne 10, 3) := by decide +kernel
theorem dX11_waits_14 : decode cX11_waits 14 = .ok (.aload_n 0, 1) := by decide +kernel
theorem dX11_waits_15 : decode cX11_waits 15 = .ok (.ldc 55, 2) := by decide +kernel
theorem dX11_waits_17 : decode cX11_waits 17 = .ok (.invokevirtual 56, 3) := by decide +kernel
theorem dX11_waits_20 : decode cX11_waits 20 = .ok (.ireturn, 1) := by decide +kernel
set_option maxHeartbeats 4000000 in
set_option maxRecDepth 100000 in
theorem c_X11_waits (l : Launch) (g : kG) (sz : Nat) (q : Nat → Nat) (ch : Int32) : kMi l g yX11_waits cX11_waits 2 (some .int) 6 0 0 [.ref (q 0), .int ch] sz [(q 0, .inr (11, [.ref (q 1), .ref (q 29), .ref (q 31), .ref (q 34), .ref (q 38), .ref (q 40), .int 0])), (q 1, .inr (4, [.ref (q 2), .ref (q 6), .ref (q 9), .ref (q 18), .ref (q 22), .ref (q 26), .ref (q 28), .int 0, .int 0, .int 36, .int 10])), (q 9, .inr (0, [.int 0, .ref (q 10), .ref (q 11), .ref (q 12), .ref (q 13), .ref (q 14), .ref (q 15), .ref (q 16), .int 0, .int 0, .int 0, .ref (q 17)]))] (fun (r : Int32) (u : Unit) => r = (-100001)) (fun (u : Unit) => ([] : va_W)) := by
  refine kMi.of (by decide) (Nat.le_of_ble_eq_true rfl) (fun p e s m below meth c A hx hb hr hml hown hts hlk hnm hKW hP hD hS hA ls hl => ?_)
  have hown : s.vm.findClass RX11 = some m.cls := hown
  have hl : lv_has ls 2 [(0, .ref (q 0)), (1, .int ch)] := hl
  refine lv_aload_n hx hb dX11_waits_0 rfl (lv_at hl 0 rfl) ?_
  refine va_get (ci := 11) (C := RX11) (T := TX11) (N := 7) hx hb hts inlX11 hown hKW.1 hP 0 rfl rfl 0 (by decide) (hts _ wd_1_15) (fun _ h => h) rfl dX11_waits_1 ?_
  refine va_get (ci := 4) (C := RX4) (T := TX4) (N := 11) hx hb hts inlX4 hown hKW.1 hP 1 rfl rfl 2 (by decide) (hts _ wd_12_23) (fun _ h => h) rfl dX11_waits_4 ?_
  refine lv_iload_n hx hb dX11_waits_7 rfl (lv_at hl 1 rfl) ?_
  refine k_Vi [2] [0, 1] 2 0 (wr := [(q 0, .inr (11, [.ref (q 1), .ref (q 29), .ref (q 31), .ref (q 34), .ref (q 38), .ref (q 40), .int 0])), (q 1, .inr (4, [.ref (q 2), .ref (q 6), .ref (q 9), .ref (q 18), .ref (q 22), .ref (q 26), .ref (q 28), .int 0, .int 0, .int 36, .int 10]))]) hx hb hml hown hts hKW hP hD hS hA hl.1 (c_X0_has0 l g _ (q 9) (q 10) (q 11) (q 12) (q 13) (q 14) (q 15) (q 16) (q 17) 0 0 0 ch ) rfl rfl rfl wd_13_4 wd_3_1 wd_13_1 wd_13_2 wd_13_3 yd_X0_has ⟨Nat.le_of_ble_eq_true rfl, Nat.le_of_ble_eq_true rfl⟩ rfl rfl rfl rfl rfl (by decide) rfl (Nat.le_of_ble_eq_true rfl) dX11_waits_8 ⟨Nat.le_of_ble_eq_true rfl, Nat.le_of_ble_eq_true rfl⟩ (fun r_1 u_2 H locs hw_3 hP hD hS => ?_)
  have hP : va_P g.1 vwCl [(q 0, .inr (11, [.ref (q 1), .ref (q 29), .ref (q 31), .ref (q 34), .ref (q 38), .ref (q 40), .int 0])), (q 1, .inr (4, [.ref (q 2), .ref (q 6), .ref (q 9), .ref (q 18), .ref (q 22), .ref (q 26), .ref (q 28), .int 0, .int 0, .int 36, .int 10]))] H := hP
  have hD : va_D A [(q 0, .inr (11, [.ref (q 1), .ref (q 29), .ref (q 31), .ref (q 34), .ref (q 38), .ref (q 40), .int 0])), (q 1, .inr (4, [.ref (q 2), .ref (q 6), .ref (q 9), .ref (q 18), .ref (q 22), .ref (q 26), .ref (q 28), .int 0, .int 0, .int 36, .int 10]))] := hD
  have hw_3 : r_1 = 0 := hw_3
  subst hw_3
  refine lv_if_ne (tgt := 21) hx hb dX11_waits_11 (by decide) (fun c => absurd c (by decide)) (fun _ => ?_)
  refine lv_aload_n hx hb dX11_waits_14 rfl (lv_at hl 0 rfl) ?_
  refine lv_ldc (v := (-100001)) hx hb hown (hts _ wd_7_1) dX11_waits_15 ?_
  refine k_Vi [0] [1] 0 11 (wr := [(q 1, .inr (4, [.ref (q 2), .ref (q 6), .ref (q 9), .ref (q 18), .ref (q 22), .ref (q 26), .ref (q 28), .int 0, .int 0, .int 36, .int 10]))]) hx hb hml hown hts hKW hP hD hS hA hl.1 (c_X11_finding l g _ (q 0) (q 1) (q 29) (q 31) (q 34) (q 38) (q 40) 0 (-100001) ) rfl rfl rfl wd_7_12 wd_1_2 wd_7_9 wd_7_10 wd_7_11 yd_X11_finding ⟨Nat.le_of_ble_eq_true rfl, Nat.le_of_ble_eq_true rfl⟩ rfl rfl rfl rfl rfl (by decide) rfl (Nat.le_of_ble_eq_true rfl) dX11_waits_17 ⟨Nat.le_of_ble_eq_true rfl, Nat.le_of_ble_eq_true rfl⟩ (fun r_4 u_5 H locs hw_6 hP hD hS => ?_)
  have hP : va_P g.1 vwCl [(q 1, .inr (4, [.ref (q 2), .ref (q 6), .ref (q 9), .ref (q 18), .ref (q 22), .ref (q 26), .ref (q 28), .int 0, .int 0, .int 36, .int 10]))] H := hP
  have hD : va_D A [(q 1, .inr (4, [.ref (q 2), .ref (q 6), .ref (q 9), .ref (q 18), .ref (q 22), .ref (q 26), .ref (q 28), .int 0, .int 0, .int 36, .int 10]))] := hD
  have hw_6 : r_4 = (-100001) := hw_6
  subst hw_6
  exact k_iret () [] hx hb hr hlk hP hD hS rfl rfl rfl rfl (Nat.le_of_ble_eq_true rfl) (Nat.le_of_ble_eq_true rfl) dX11_waits_20
theorem dX11_list_0 : decode cX11_list 0 = .ok (.iload_n 1, 1) := by decide +kernel
theorem dX11_list_1 : decode cX11_list 1 = .ok (.ifCond .ge 10, 3) := by decide +kernel
theorem dX11_list_11 : decode cX11_list 11 = .ok (.aload_n 0, 1) := by decide +kernel
theorem dX11_list_12 : decode cX11_list 12 = .ok (.getfield 10, 3) := by decide +kernel
theorem dX11_list_15 : decode cX11_list 15 = .ok (.getfield 104, 3) := by decide +kernel
theorem dX11_list_18 : decode cX11_list 18 = .ok (.iload_n 1, 1) := by decide +kernel
theorem dX11_list_19 : decode cX11_list 19 = .ok (.invokevirtual 291, 3) := by decide +kernel
theorem dX11_list_22 : decode cX11_list 22 = .ok (.istore_n 2, 1) := by decide +kernel
theorem dX11_list_23 : decode cX11_list 23 = .ok (.iload_n 2, 1) := by decide +kernel
theorem dX11_list_24 : decode cX11_list 24 = .ok (.iconst (-1), 1) := by decide +kernel
theorem dX11_list_25 : decode cX11_list 25 = .ok (.if_icmp .ne 12, 3) := by decide +kernel
theorem dX11_list_28 : decode cX11_list 28 = .ok (.aload_n 0, 1) := by decide +kernel
theorem dX11_list_29 : decode cX11_list 29 = .ok (.ldc 156, 2) := by decide +kernel
theorem dX11_list_31 : decode cX11_list 31 = .ok (.invokevirtual 56, 3) := by decide +kernel
theorem dX11_list_34 : decode cX11_list 34 = .ok (.goto 4, 3) := by decide +kernel
theorem dX11_list_38 : decode cX11_list 38 = .ok (.ireturn, 1) := by decide +kernel
theorem dX11_list_4 : decode cX11_list 4 = .ok (.aload_n 0, 1) := by decide +kernel
theorem dX11_list_5 : decode cX11_list 5 = .ok (.ldc 55, 2) := by decide +kernel
theorem dX11_list_7 : decode cX11_list 7 = .ok (.invokevirtual 56, 3) := by decide +kernel
theorem dX11_list_10 : decode cX11_list 10 = .ok (.ireturn, 1) := by decide +kernel
set_option maxHeartbeats 4000000 in
set_option maxRecDepth 100000 in
theorem c_X11_list (l : Launch) (g : kG) (sz : Nat) (q : Nat → Nat) (i : Int32) : kMi l g yX11_list cX11_list 3 (some .int) 6 0 0 [.ref (q 0), .int i] sz [(q 0, .inr (11, [.ref (q 1), .ref (q 29), .ref (q 31), .ref (q 34), .ref (q 38), .ref (q 40), .int 0])), (q 1, .inr (4, [.ref (q 2), .ref (q 6), .ref (q 9), .ref (q 18), .ref (q 22), .ref (q 26), .ref (q 28), .int 0, .int 0, .int 36, .int 10])), (q 2, .inr (8, [.int 0, .ref (q 3), .ref (q 4), .ref (q 5)])), (q 3, .inl (gI g, 5, .inl (fun _ => 0))), (q 4, .inl (gI g, 5, .inl (fun _ => 0))), (q 5, .inl (gI g, 5, .inl (fun _ => 0))), (q 6, .inr (1, [.int 0, .ref (q 7), .ref (q 8), .int 0])), (q 7, .inl (gI g, 7, .inl (fun _ => 0))), (q 8, .inl (gI g, 7, .inl (fun _ => 0))), (q 9, .inr (0, [.int 0, .ref (q 10), .ref (q 11), .ref (q 12), .ref (q 13), .ref (q 14), .ref (q 15), .ref (q 16), .int 0, .int 0, .int 0, .ref (q 17)])), (q 10, .inl (gI g, 10, .inl (fun _ => 0))), (q 11, .inl (gI g, 10, .inl (fun _ => 0))), (q 12, .inl (gI g, 10, .inl (fun _ => 0))), (q 13, .inl (gI g, 10, .inl (fun _ => 0))), (q 14, .inl (gI g, 10, .inl (fun _ => 0))), (q 15, .inl (gI g, 10, .inl (fun _ => 0))), (q 16, .inl (gI g, 10, .inl (fun _ => 0))), (q 17, .inl (gI g, 10, .inl (fun _ => 0)))] (fun (r : Int32) (u : Unit) => r = aList i) (fun (u : Unit) => ([] : va_W)) := by
  refine kMi.of (by decide) (Nat.le_of_ble_eq_true rfl) (fun p e s m below meth c A hx hb hr hml hown hts hlk hnm hKW hP hD hS hA ls hl => ?_)
  have hown : s.vm.findClass RX11 = some m.cls := hown
  have hl : lv_has ls 3 [(0, .ref (q 0)), (1, .int i)] := hl
  refine lv_iload_n hx hb dX11_list_0 rfl (lv_at hl 1 rfl) ?_
  refine lv_if_ge (tgt := 11) hx hb dX11_list_1 (by decide) (fun c_1 => ?_) (fun c_1 => ?_)
  · refine lv_aload_n hx hb dX11_list_11 rfl (lv_at hl 0 rfl) ?_
    refine va_get (ci := 11) (C := RX11) (T := TX11) (N := 7) hx hb hts inlX11 hown hKW.1 hP 0 rfl rfl 0 (by decide) (hts _ wd_1_15) (fun _ h => h) rfl dX11_list_12 ?_
    refine va_get (ci := 4) (C := RX4) (T := TX4) (N := 11) hx hb hts inlX4 hown hKW.1 hP 1 rfl rfl 2 (by decide) (hts _ wd_12_23) (fun _ h => h) rfl dX11_list_15 ?_
    refine lv_iload_n hx hb dX11_list_18 rfl (lv_at hl 1 rfl) ?_
    refine k_Vi [9, 10, 11, 12, 13, 14, 15, 16, 17] [0, 1, 2, 3, 4, 5, 6, 7, 8] 9 0 (wr := [(q 0, .inr (11, [.ref (q 1), .ref (q 29), .ref (q 31), .ref (q 34), .ref (q 38), .ref (q 40), .int 0])), (q 1, .inr (4, [.ref (q 2), .ref (q 6), .ref (q 9), .ref (q 18), .ref (q 22), .ref (q 26), .ref (q 28), .int 0, .int 0, .int 36, .int 10])), (q 2, .inr (8, [.int 0, .ref (q 3), .ref (q 4), .ref (q 5)])), (q 3, .inl (gI g, 5, .inl (fun _ => 0))), (q 4, .inl (gI g, 5, .inl (fun _ => 0))), (q 5, .inl (gI g, 5, .inl (fun _ => 0))), (q 6, .inr (1, [.int 0, .ref (q 7), .ref (q 8), .int 0])), (q 7, .inl (gI g, 7, .inl (fun _ => 0))), (q 8, .inl (gI g, 7, .inl (fun _ => 0)))]) hx hb hml hown hts hKW hP hD hS hA hl.1 (c_X0_waiterAt0 l g _ (fun k => ([q 9, q 10, q 11, q 12, q 13, q 14, q 15, q 16, q 17] : List Nat).getD k 0) i ) rfl rfl rfl wd_39_19 wd_3_1 wd_39_16 wd_39_17 wd_39_18 yd_X0_waiterAt ⟨Nat.le_of_ble_eq_true rfl, Nat.le_of_ble_eq_true rfl⟩ rfl rfl rfl rfl rfl (by decide) rfl (Nat.le_of_ble_eq_true rfl) dX11_list_19 ⟨Nat.le_of_ble_eq_true rfl, Nat.le_of_ble_eq_true rfl⟩ (fun r_2 u_3 H locs hw_4 hP hD hS => ?_)
    have hP : va_P g.1 vwCl [(q 0, .inr (11, [.ref (q 1), .ref (q 29), .ref (q 31), .ref (q 34), .ref (q 38), .ref (q 40), .int 0])), (q 1, .inr (4, [.ref (q 2), .ref (q 6), .ref (q 9), .ref (q 18), .ref (q 22), .ref (q 26), .ref (q 28), .int 0, .int 0, .int 36, .int 10])), (q 2, .inr (8, [.int 0, .ref (q 3), .ref (q 4), .ref (q 5)])), (q 3, .inl (gI g, 5, .inl (fun _ => 0))), (q 4, .inl (gI g, 5, .inl (fun _ => 0))), (q 5, .inl (gI g, 5, .inl (fun _ => 0))), (q 6, .inr (1, [.int 0, .ref (q 7), .ref (q 8), .int 0])), (q 7, .inl (gI g, 7, .inl (fun _ => 0))), (q 8, .inl (gI g, 7, .inl (fun _ => 0)))] H := hP
    have hD : va_D A [(q 0, .inr (11, [.ref (q 1), .ref (q 29), .ref (q 31), .ref (q 34), .ref (q 38), .ref (q 40), .int 0])), (q 1, .inr (4, [.ref (q 2), .ref (q 6), .ref (q 9), .ref (q 18), .ref (q 22), .ref (q 26), .ref (q 28), .int 0, .int 0, .int 36, .int 10])), (q 2, .inr (8, [.int 0, .ref (q 3), .ref (q 4), .ref (q 5)])), (q 3, .inl (gI g, 5, .inl (fun _ => 0))), (q 4, .inl (gI g, 5, .inl (fun _ => 0))), (q 5, .inl (gI g, 5, .inl (fun _ => 0))), (q 6, .inr (1, [.int 0, .ref (q 7), .ref (q 8), .int 0])), (q 7, .inl (gI g, 7, .inl (fun _ => 0))), (q 8, .inl (gI g, 7, .inl (fun _ => 0)))] := hD
    have hw_4 : r_2 = (-1) := hw_4
    subst hw_4
    refine lv_istore_n (lv' := [(2, .int (-1)), (0, .ref (q 0)), (1, .int i)]) hx hb dX11_list_22 rfl hl (by decide) rfl (fun ls hl => ?_)
    refine lv_iload_n hx hb dX11_list_23 rfl (lv_at hl 0 rfl) ?_
    refine lv_iconst (v := (-1)) hx hb dX11_list_24 (by decide) ?_
    refine lv_icmp_ne (tgt := 37) hx hb dX11_list_25 (by decide) (fun c => absurd c (by decide)) (fun _ => ?_)
    refine lv_aload_n hx hb dX11_list_28 rfl (lv_at hl 1 rfl) ?_
    refine lv_ldc (v := (-100006)) hx hb hown (hts _ wd_14_23) dX11_list_29 ?_
    refine k_Vi [0] [1, 2, 3, 4, 5, 6, 7, 8] 0 11 (wr := [(q 1, .inr (4, [.ref (q 2), .ref (q 6), .ref (q 9), .ref (q 18), .ref (q 22), .ref (q 26), .ref (q 28), .int 0, .int 0, .int 36, .int 10])), (q 2, .inr (8, [.int 0, .ref (q 3), .ref (q 4), .ref (q 5)])), (q 3, .inl (gI g, 5, .inl (fun _ => 0))), (q 4, .inl (gI g, 5, .inl (fun _ => 0))), (q 5, .inl (gI g, 5, .inl (fun _ => 0))), (q 6, .inr (1, [.int 0, .ref (q 7), .ref (q 8), .int 0])), (q 7, .inl (gI g, 7, .inl (fun _ => 0))), (q 8, .inl (gI g, 7, .inl (fun _ => 0)))]) hx hb hml hown hts hKW hP hD hS hA hl.1 (c_X11_finding l g _ (q 0) (q 1) (q 29) (q 31) (q 34) (q 38) (q 40) 0 (-100006) ) rfl rfl rfl wd_7_12 wd_1_2 wd_7_9 wd_7_10 wd_7_11 yd_X11_finding ⟨Nat.le_of_ble_eq_true rfl, Nat.le_of_ble_eq_true rfl⟩ rfl rfl rfl rfl rfl (by decide) rfl (Nat.le_of_ble_eq_true rfl) dX11_list_31 ⟨Nat.le_of_ble_eq_true rfl, Nat.le_of_ble_eq_true rfl⟩ (fun r_5 u_6 H locs hw_7 hP hD hS => ?_)
    have hP : va_P g.1 vwCl [(q 1, .inr (4, [.ref (q 2), .ref (q 6), .ref (q 9), .ref (q 18), .ref (q 22), .ref (q 26), .ref (q 28), .int 0, .int 0, .int 36, .int 10])), (q 2, .inr (8, [.int 0, .ref (q 3), .ref (q 4), .ref (q 5)])), (q 3, .inl (gI g, 5, .inl (fun _ => 0))), (q 4, .inl (gI g, 5, .inl (fun _ => 0))), (q 5, .inl (gI g, 5, .inl (fun _ => 0))), (q 6, .inr (1, [.int 0, .ref (q 7), .ref (q 8), .int 0])), (q 7, .inl (gI g, 7, .inl (fun _ => 0))), (q 8, .inl (gI g, 7, .inl (fun _ => 0)))] H := hP
    have hD : va_D A [(q 1, .inr (4, [.ref (q 2), .ref (q 6), .ref (q 9), .ref (q 18), .ref (q 22), .ref (q 26), .ref (q 28), .int 0, .int 0, .int 36, .int 10])), (q 2, .inr (8, [.int 0, .ref (q 3), .ref (q 4), .ref (q 5)])), (q 3, .inl (gI g, 5, .inl (fun _ => 0))), (q 4, .inl (gI g, 5, .inl (fun _ => 0))), (q 5, .inl (gI g, 5, .inl (fun _ => 0))), (q 6, .inr (1, [.int 0, .ref (q 7), .ref (q 8), .int 0])), (q 7, .inl (gI g, 7, .inl (fun _ => 0))), (q 8, .inl (gI g, 7, .inl (fun _ => 0)))] := hD
    have hw_7 : r_5 = (-100006) := hw_7
    subst hw_7
    refine lv_goto (tgt := 38) hx hb dX11_list_34 (by decide) ?_
    exact k_iret () [] hx hb hr hlk hP hD hS (by clear hP hD hS hA hts hKW hl; unfold aList; (repeat' split) <;> first | rfl | (exfalso; first | omega | (simp only [Int32.lt_iff_toInt_lt, Int32.le_iff_toInt_le, ← Int32.toInt_inj] at *; omega) | (simp only [Int32.lt_iff_toInt_lt, Int32.le_iff_toInt_le, ← Int32.toInt_inj] at *; simp at *; omega) | (simp only [Int32.lt_iff_toInt_lt, Int32.le_iff_toInt_le, ← Int32.toInt_inj] at *; simp at *; done) | (simp at *; omega) | (simp at *; done))) rfl rfl rfl (Nat.le_of_ble_eq_true rfl) (Nat.le_of_ble_eq_true rfl) dX11_list_38
  · refine lv_aload_n hx hb dX11_list_4 rfl (lv_at hl 0 rfl) ?_
    refine lv_ldc (v := (-100001)) hx hb hown (hts _ wd_7_1) dX11_list_5 ?_
    refine k_Vi [0] [1, 2, 3, 4, 5, 6, 7, 8, 9, 10, 11, 12, 13, 14, 15, 16, 17] 0 11 (wr := [(q 1, .inr (4, [.ref (q 2), .ref (q 6), .ref (q 9), .ref (q 18), .ref (q 22), .ref (q 26), .ref (q 28), .int 0, .int 0, .int 36, .int 10])), (q 2, .inr (8, [.int 0, .ref (q 3), .ref (q 4), .ref (q 5)])), (q 3, .inl (gI g, 5, .inl (fun _ => 0))), (q 4, .inl (gI g, 5, .inl (fun _ => 0))), (q 5, .inl (gI g, 5, .inl (fun _ => 0))), (q 6, .inr (1, [.int 0, .ref (q 7), .ref (q 8), .int 0])), (q 7, .inl (gI g, 7, .inl (fun _ => 0))), (q 8, .inl (gI g, 7, .inl (fun _ => 0))), (q 9, .inr (0, [.int 0, .ref (q 10), .ref (q 11), .ref (q 12), .ref (q 13), .ref (q 14), .ref (q 15), .ref (q 16), .int 0, .int 0, .int 0, .ref (q 17)])), (q 10, .inl (gI g, 10, .inl (fun _ => 0))), (q 11, .inl (gI g, 10, .inl (fun _ => 0))), (q 12, .inl (gI g, 10, .inl (fun _ => 0))), (q 13, .inl (gI g, 10, .inl (fun _ => 0))), (q 14, .inl (gI g, 10, .inl (fun _ => 0))), (q 15, .inl (gI g, 10, .inl (fun _ => 0))), (q 16, .inl (gI g, 10, .inl (fun _ => 0))), (q 17, .inl (gI g, 10, .inl (fun _ => 0)))]) hx hb hml hown hts hKW hP hD hS hA hl.1 (c_X11_finding l g _ (q 0) (q 1) (q 29) (q 31) (q 34) (q 38) (q 40) 0 (-100001) ) rfl rfl rfl wd_7_12 wd_1_2 wd_7_9 wd_7_10 wd_7_11 yd_X11_finding ⟨Nat.le_of_ble_eq_true rfl, Nat.le_of_ble_eq_true rfl⟩ rfl rfl rfl rfl rfl (by decide) rfl (Nat.le_of_ble_eq_true rfl) dX11_list_7 ⟨Nat.le_of_ble_eq_true rfl, Nat.le_of_ble_eq_true rfl⟩ (fun r_8 u_9 H locs hw_10 hP hD hS => ?_)
    have hP : va_P g.1 vwCl [(q 1, .inr (4, [.ref (q 2), .ref (q 6), .ref (q 9), .ref (q 18), .ref (q 22), .ref (q 26), .ref (q 28), .int 0, .int 0, .int 36, .int 10])), (q 2, .inr (8, [.int 0, .ref (q 3), .ref (q 4), .ref (q 5)])), (q 3, .inl (gI g, 5, .inl (fun _ => 0))), (q 4, .inl (gI g, 5, .inl (fun _ => 0))), (q 5, .inl (gI g, 5, .inl (fun _ => 0))), (q 6, .inr (1, [.int 0, .ref (q 7), .ref (q 8), .int 0])), (q 7, .inl (gI g, 7, .inl (fun _ => 0))), (q 8, .inl (gI g, 7, .inl (fun _ => 0))), (q 9, .inr (0, [.int 0, .ref (q 10), .ref (q 11), .ref (q 12), .ref (q 13), .ref (q 14), .ref (q 15), .ref (q 16), .int 0, .int 0, .int 0, .ref (q 17)])), (q 10, .inl (gI g, 10, .inl (fun _ => 0))), (q 11, .inl (gI g, 10, .inl (fun _ => 0))), (q 12, .inl (gI g, 10, .inl (fun _ => 0))), (q 13, .inl (gI g, 10, .inl (fun _ => 0))), (q 14, .inl (gI g, 10, .inl (fun _ => 0))), (q 15, .inl (gI g, 10, .inl (fun _ => 0))), (q 16, .inl (gI g, 10, .inl (fun _ => 0))), (q 17, .inl (gI g, 10, .inl (fun _ => 0)))] H := hP
    have hD : va_D A [(q 1, .inr (4, [.ref (q 2), .ref (q 6), .ref (q 9), .ref (q 18), .ref (q 22), .ref (q 26), .ref (q 28), .int 0, .int 0, .int 36, .int 10])), (q 2, .inr (8, [.int 0, .ref (q 3), .ref (q 4), .ref (q 5)])), (q 3, .inl (gI g, 5, .inl (fun _ => 0))), (q 4, .inl (gI g, 5, .inl (fun _ => 0))), (q 5, .inl (gI g, 5, .inl (fun _ => 0))), (q 6, .inr (1, [.int 0, .ref (q 7), .ref (q 8), .int 0])), (q 7, .inl (gI g, 7, .inl (fun _ => 0))), (q 8, .inl (gI g, 7, .inl (fun _ => 0))), (q 9, .inr (0, [.int 0, .ref (q 10), .ref (q 11), .ref (q 12), .ref (q 13), .ref (q 14), .ref (q 15), .ref (q 16), .int 0, .int 0, .int 0, .ref (q 17)])), (q 10, .inl (gI g, 10, .inl (fun _ => 0))), (q 11, .inl (gI g, 10, .inl (fun _ => 0))), (q 12, .inl (gI g, 10, .inl (fun _ => 0))), (q 13, .inl (gI g, 10, .inl (fun _ => 0))), (q 14, .inl (gI g, 10, .inl (fun _ => 0))), (q 15, .inl (gI g, 10, .inl (fun _ => 0))), (q 16, .inl (gI g, 10, .inl (fun _ => 0))), (q 17, .inl (gI g, 10, .inl (fun _ => 0)))] := hD
    have hw_10 : r_8 = (-100001) := hw_10
    subst hw_10
    exact k_iret () [] hx hb hr hlk hP hD hS (by clear hP hD hS hA hts hKW hl; unfold aList; (repeat' split) <;> first | rfl | (exfalso; first | omega | (simp only [Int32.lt_iff_toInt_lt, Int32.le_iff_toInt_le, ← Int32.toInt_inj] at *; omega) | (simp only [Int32.lt_iff_toInt_lt, Int32.le_iff_toInt_le, ← Int32.toInt_inj] at *; simp at *; omega) | (simp only [Int32.lt_iff_toInt_lt, Int32.le_iff_toInt_le, ← Int32.toInt_inj] at *; simp at *; done) | (simp at *; omega) | (simp at *; done))) rfl rfl rfl (Nat.le_of_ble_eq_true rfl) (Nat.le_of_ble_eq_true rfl) dX11_list_10
theorem dX11_leastMonth_0 : decode cX11_leastMonth 0 = .ok (.aload_n 0, 1) := by decide +kernel
theorem dX11_leastMonth_1 : decode cX11_leastMonth 1 = .ok (.getfield 10, 3) := by decide +kernel
theorem dX11_leastMonth_4 : decode cX11_leastMonth 4 = .ok (.getfield 104, 3) := by decide +kernel
theorem dX11_leastMonth_7 : decode cX11_leastMonth 7 = .ok (.iload_n 1, 1) := by decide +kernel
theorem dX11_leastMonth_8 : decode cX11_leastMonth 8 = .ok (.invokevirtual 108, 3) := by decide +kernel
theorem dX11_leastMonth_11 : decode cX11_leastMonth 11 = .ok (.ifCond .ne 6, 3) := by decide +kernel
theorem dX11_leastMonth_14 : decode cX11_leastMonth 14 = .ok (.ldc 55, 2) := by decide +kernel
theorem dX11_leastMonth_16 : decode cX11_leastMonth 16 = .ok (.ireturn, 1) := by decide +kernel
set_option maxHeartbeats 4000000 in
set_option maxRecDepth 100000 in
theorem c_X11_leastMonth (l : Launch) (g : kG) (sz : Nat) (q : Nat → Nat) (ch : Int32) : kMi l g yX11_leastMonth cX11_leastMonth 3 (some .int) 3 0 0 [.ref (q 0), .int ch] sz [(q 0, .inr (11, [.ref (q 1), .ref (q 29), .ref (q 31), .ref (q 34), .ref (q 38), .ref (q 40), .int 0])), (q 1, .inr (4, [.ref (q 2), .ref (q 6), .ref (q 9), .ref (q 18), .ref (q 22), .ref (q 26), .ref (q 28), .int 0, .int 0, .int 36, .int 10])), (q 9, .inr (0, [.int 0, .ref (q 10), .ref (q 11), .ref (q 12), .ref (q 13), .ref (q 14), .ref (q 15), .ref (q 16), .int 0, .int 0, .int 0, .ref (q 17)]))] (fun (r : Int32) (u : Unit) => r = (-100001)) (fun (u : Unit) => ([(q 0, .inr (11, [.ref (q 1), .ref (q 29), .ref (q 31), .ref (q 34), .ref (q 38), .ref (q 40), .int 0]))] : va_W)) := by
  refine kMi.of (by decide) (Nat.le_of_ble_eq_true rfl) (fun p e s m below meth c A hx hb hr hml hown hts hlk hnm hKW hP hD hS hA ls hl => ?_)
  have hown : s.vm.findClass RX11 = some m.cls := hown
  have hl : lv_has ls 3 [(0, .ref (q 0)), (1, .int ch)] := hl
  refine lv_aload_n hx hb dX11_leastMonth_0 rfl (lv_at hl 0 rfl) ?_
  refine va_get (ci := 11) (C := RX11) (T := TX11) (N := 7) hx hb hts inlX11 hown hKW.1 hP 0 rfl rfl 0 (by decide) (hts _ wd_1_15) (fun _ h => h) rfl dX11_leastMonth_1 ?_
  refine va_get (ci := 4) (C := RX4) (T := TX4) (N := 11) hx hb hts inlX4 hown hKW.1 hP 1 rfl rfl 2 (by decide) (hts _ wd_12_23) (fun _ h => h) rfl dX11_leastMonth_4 ?_
  refine lv_iload_n hx hb dX11_leastMonth_7 rfl (lv_at hl 1 rfl) ?_
  refine k_Vi [2] [0, 1] 2 0 (wr := [(q 0, .inr (11, [.ref (q 1), .ref (q 29), .ref (q 31), .ref (q 34), .ref (q 38), .ref (q 40), .int 0])), (q 1, .inr (4, [.ref (q 2), .ref (q 6), .ref (q 9), .ref (q 18), .ref (q 22), .ref (q 26), .ref (q 28), .int 0, .int 0, .int 36, .int 10]))]) hx hb hml hown hts hKW hP hD hS hA hl.1 (c_X0_has0 l g _ (q 9) (q 10) (q 11) (q 12) (q 13) (q 14) (q 15) (q 16) (q 17) 0 0 0 ch ) rfl rfl rfl wd_13_4 wd_3_1 wd_13_1 wd_13_2 wd_13_3 yd_X0_has ⟨Nat.le_of_ble_eq_true rfl, Nat.le_of_ble_eq_true rfl⟩ rfl rfl rfl rfl rfl (by decide) rfl (Nat.le_of_ble_eq_true rfl) dX11_leastMonth_8 ⟨Nat.le_of_ble_eq_true rfl, Nat.le_of_ble_eq_true rfl⟩ (fun r_1 u_2 H locs hw_3 hP hD hS => ?_)
  have hP : va_P g.1 vwCl [(q 0, .inr (11, [.ref (q 1), .ref (q 29), .ref (q 31), .ref (q 34), .ref (q 38), .ref (q 40), .int 0])), (q 1, .inr (4, [.ref (q 2), .ref (q 6), .ref (q 9), .ref (q 18), .ref (q 22), .ref (q 26), .ref (q 28), .int 0, .int 0, .int 36, .int 10]))] H := hP
  have hD : va_D A [(q 0, .inr (11, [.ref (q 1), .ref (q 29), .ref (q 31), .ref (q 34), .ref (q 38), .ref (q 40), .int 0])), (q 1, .inr (4, [.ref (q 2), .ref (q 6), .ref (q 9), .ref (q 18), .ref (q 22), .ref (q 26), .ref (q 28), .int 0, .int 0, .int 36, .int 10]))] := hD
  have hw_3 : r_1 = 0 := hw_3
  subst hw_3
  refine lv_if_ne (tgt := 17) hx hb dX11_leastMonth_11 (by decide) (fun c => absurd c (by decide)) (fun _ => ?_)
  refine lv_ldc (v := (-100001)) hx hb hown (hts _ wd_7_1) dX11_leastMonth_14 ?_
  exact k_iret () [0] hx hb hr hlk hP hD hS rfl rfl rfl rfl (Nat.le_of_ble_eq_true rfl) (Nat.le_of_ble_eq_true rfl) dX11_leastMonth_16
theorem dX11_earliest_0 : decode cX11_earliest 0 = .ok (.aload_n 0, 1) := by decide +kernel
theorem dX11_earliest_1 : decode cX11_earliest 1 = .ok (.iload_n 1, 1) := by decide +kernel
theorem dX11_earliest_2 : decode cX11_earliest 2 = .ok (.invokevirtual 294, 3) := by decide +kernel
theorem dX11_earliest_5 : decode cX11_earliest 5 = .ok (.istore_n 2, 1) := by decide +kernel
theorem dX11_earliest_6 : decode cX11_earliest 6 = .ok (.iload_n 2, 1) := by decide +kernel
theorem dX11_earliest_7 : decode cX11_earliest 7 = .ok (.ifCond .ge 11, 3) := by decide +kernel
theorem dX11_earliest_10 : decode cX11_earliest 10 = .ok (.aload_n 0, 1) := by decide +kernel
theorem dX11_earliest_11 : decode cX11_earliest 11 = .ok (.iload_n 2, 1) := by decide +kernel
theorem dX11_earliest_12 : decode cX11_earliest 12 = .ok (.invokevirtual 56, 3) := by decide +kernel
theorem dX11_earliest_15 : decode cX11_earliest 15 = .ok (.goto 4, 3) := by decide +kernel
theorem dX11_earliest_19 : decode cX11_earliest 19 = .ok (.ireturn, 1) := by decide +kernel
set_option maxHeartbeats 4000000 in
set_option maxRecDepth 100000 in
theorem c_X11_earliest (l : Launch) (g : kG) (sz : Nat) (q : Nat → Nat) (ch : Int32) : kMi l g yX11_earliest cX11_earliest 3 (some .int) 6 0 0 [.ref (q 0), .int ch] sz [(q 0, .inr (11, [.ref (q 1), .ref (q 29), .ref (q 31), .ref (q 34), .ref (q 38), .ref (q 40), .int 0])), (q 1, .inr (4, [.ref (q 2), .ref (q 6), .ref (q 9), .ref (q 18), .ref (q 22), .ref (q 26), .ref (q 28), .int 0, .int 0, .int 36, .int 10])), (q 9, .inr (0, [.int 0, .ref (q 10), .ref (q 11), .ref (q 12), .ref (q 13), .ref (q 14), .ref (q 15), .ref (q 16), .int 0, .int 0, .int 0, .ref (q 17)]))] (fun (r : Int32) (u : Unit) => r = (-100001)) (fun (u : Unit) => ([] : va_W)) := by
  refine kMi.of (by decide) (Nat.le_of_ble_eq_true rfl) (fun p e s m below meth c A hx hb hr hml hown hts hlk hnm hKW hP hD hS hA ls hl => ?_)
  have hown : s.vm.findClass RX11 = some m.cls := hown
  have hl : lv_has ls 3 [(0, .ref (q 0)), (1, .int ch)] := hl
  refine lv_aload_n hx hb dX11_earliest_0 rfl (lv_at hl 0 rfl) ?_
  refine lv_iload_n hx hb dX11_earliest_1 rfl (lv_at hl 1 rfl) ?_
  refine k_Vi [0, 1, 2] [] 0 11 (wr := []) hx hb hml hown hts hKW hP hD hS hA hl.1 (c_X11_leastMonth l g _ q ch ) rfl rfl rfl wd_41_3 wd_1_2 wd_41_0 wd_41_1 wd_41_2 yd_X11_leastMonth ⟨Nat.le_of_ble_eq_true rfl, Nat.le_of_ble_eq_true rfl⟩ rfl rfl rfl rfl rfl (by decide) rfl (Nat.le_of_ble_eq_true rfl) dX11_earliest_2 ⟨Nat.le_of_ble_eq_true rfl, Nat.le_of_ble_eq_true rfl⟩ (fun r_1 u_2 H locs hw_3 hP hD hS => ?_)
  have hP : va_P g.1 vwCl [(q 0, .inr (11, [.ref (q 1), .ref (q 29), .ref (q 31), .ref (q 34), .ref (q 38), .ref (q 40), .int 0]))] H := hP
  have hD : va_D A [(q 0, .inr (11, [.ref (q 1), .ref (q 29), .ref (q 31), .ref (q 34), .ref (q 38), .ref (q 40), .int 0]))] := hD
  have hw_3 : r_1 = (-100001) := hw_3
  subst hw_3
  refine lv_istore_n (lv' := [(2, .int (-100001)), (0, .ref (q 0)), (1, .int ch)]) hx hb dX11_earliest_5 rfl hl (by decide) rfl (fun ls hl => ?_)
  refine lv_iload_n hx hb dX11_earliest_6 rfl (lv_at hl 0 rfl) ?_
  refine lv_if_ge (tgt := 18) hx hb dX11_earliest_7 (by decide) (fun c => absurd c (by decide)) (fun _ => ?_)
  refine lv_aload_n hx hb dX11_earliest_10 rfl (lv_at hl 1 rfl) ?_
  refine lv_iload_n hx hb dX11_earliest_11 rfl (lv_at hl 0 rfl) ?_
  refine k_Vi [0] [] 0 11 (wr := []) hx hb hml hown hts hKW hP hD hS hA hl.1 (c_X11_finding l g _ (q 0) (q 1) (q 29) (q 31) (q 34) (q 38) (q 40) 0 (-100001) ) rfl rfl rfl wd_7_12 wd_1_2 wd_7_9 wd_7_10 wd_7_11 yd_X11_finding ⟨Nat.le_of_ble_eq_true rfl, Nat.le_of_ble_eq_true rfl⟩ rfl rfl rfl rfl rfl (by decide) rfl (Nat.le_of_ble_eq_true rfl) dX11_earliest_12 ⟨Nat.le_of_ble_eq_true rfl, Nat.le_of_ble_eq_true rfl⟩ (fun r_4 u_5 H locs hw_6 hP hD hS => ?_)
  have hP : va_P g.1 vwCl [] H := hP
  have hD : va_D A [] := hD
  have hw_6 : r_4 = (-100001) := hw_6
  subst hw_6
  refine lv_goto (tgt := 19) hx hb dX11_earliest_15 (by decide) ?_
  exact k_iret () [] hx hb hr hlk hP hD hS rfl rfl rfl rfl (Nat.le_of_ble_eq_true rfl) (Nat.le_of_ble_eq_true rfl) dX11_earliest_19
theorem dX11_admit_0 : decode cX11_admit 0 = .ok (.aload_n 0, 1) := by decide +kernel
theorem dX11_admit_1 : decode cX11_admit 1 = .ok (.iload_n 1, 1) := by decide +kernel
theorem dX11_admit_2 : decode cX11_admit 2 = .ok (.invokevirtual 294, 3) := by decide +kernel
theorem dX11_admit_5 : decode cX11_admit 5 = .ok (.istore_n 2, 1) := by decide +kernel
theorem dX11_admit_6 : decode cX11_admit 6 = .ok (.iload_n 2, 1) := by decide +kernel
theorem dX11_admit_7 : decode cX11_admit 7 = .ok (.ifCond .ge 9, 3) := by decide +kernel
theorem dX11_admit_10 : decode cX11_admit 10 = .ok (.aload_n 0, 1) := by decide +kernel
theorem dX11_admit_11 : decode cX11_admit 11 = .ok (.iload_n 2, 1) := by decide +kernel
theorem dX11_admit_12 : decode cX11_admit 12 = .ok (.invokevirtual 56, 3) := by decide +kernel
theorem dX11_admit_15 : decode cX11_admit 15 = .ok (.ireturn, 1) := by decide +kernel
set_option maxHeartbeats 4000000 in
set_option maxRecDepth 100000 in
theorem c_X11_admit (l : Launch) (g : kG) (sz : Nat) (q : Nat → Nat) (ch : Int32) : kMi l g yX11_admit cX11_admit 3 (some .int) 6 0 0 [.ref (q 0), .int ch] sz [(q 0, .inr (11, [.ref (q 1), .ref (q 29), .ref (q 31), .ref (q 34), .ref (q 38), .ref (q 40), .int 0])), (q 1, .inr (4, [.ref (q 2), .ref (q 6), .ref (q 9), .ref (q 18), .ref (q 22), .ref (q 26), .ref (q 28), .int 0, .int 0, .int 36, .int 10])), (q 9, .inr (0, [.int 0, .ref (q 10), .ref (q 11), .ref (q 12), .ref (q 13), .ref (q 14), .ref (q 15), .ref (q 16), .int 0, .int 0, .int 0, .ref (q 17)]))] (fun (r : Int32) (u : Unit) => r = (-100001)) (fun (u : Unit) => ([] : va_W)) := by
  refine kMi.of (by decide) (Nat.le_of_ble_eq_true rfl) (fun p e s m below meth c A hx hb hr hml hown hts hlk hnm hKW hP hD hS hA ls hl => ?_)
  have hown : s.vm.findClass RX11 = some m.cls := hown
  have hl : lv_has ls 3 [(0, .ref (q 0)), (1, .int ch)] := hl
  refine lv_aload_n hx hb dX11_admit_0 rfl (lv_at hl 0 rfl) ?_
  refine lv_iload_n hx hb dX11_admit_1 rfl (lv_at hl 1 rfl) ?_
  refine k_Vi [0, 1, 2] [] 0 11 (wr := []) hx hb hml hown hts hKW hP hD hS hA hl.1 (c_X11_leastMonth l g _ q ch ) rfl rfl rfl wd_41_3 wd_1_2 wd_41_0 wd_41_1 wd_41_2 yd_X11_leastMonth ⟨Nat.le_of_ble_eq_true rfl, Nat.le_of_ble_eq_true rfl⟩ rfl rfl rfl rfl rfl (by decide) rfl (Nat.le_of_ble_eq_true rfl) dX11_admit_2 ⟨Nat.le_of_ble_eq_true rfl, Nat.le_of_ble_eq_true rfl⟩ (fun r_1 u_2 H locs hw_3 hP hD hS => ?_)
  have hP : va_P g.1 vwCl [(q 0, .inr (11, [.ref (q 1), .ref (q 29), .ref (q 31), .ref (q 34), .ref (q 38), .ref (q 40), .int 0]))] H := hP
  have hD : va_D A [(q 0, .inr (11, [.ref (q 1), .ref (q 29), .ref (q 31), .ref (q 34), .ref (q 38), .ref (q 40), .int 0]))] := hD
  have hw_3 : r_1 = (-100001) := hw_3
  subst hw_3
  refine lv_istore_n (lv' := [(2, .int (-100001)), (0, .ref (q 0)), (1, .int ch)]) hx hb dX11_admit_5 rfl hl (by decide) rfl (fun ls hl => ?_)
  refine lv_iload_n hx hb dX11_admit_6 rfl (lv_at hl 0 rfl) ?_
  refine lv_if_ge (tgt := 16) hx hb dX11_admit_7 (by decide) (fun c => absurd c (by decide)) (fun _ => ?_)
  refine lv_aload_n hx hb dX11_admit_10 rfl (lv_at hl 1 rfl) ?_
  refine lv_iload_n hx hb dX11_admit_11 rfl (lv_at hl 0 rfl) ?_
  refine k_Vi [0] [] 0 11 (wr := []) hx hb hml hown hts hKW hP hD hS hA hl.1 (c_X11_finding l g _ (q 0) (q 1) (q 29) (q 31) (q 34) (q 38) (q 40) 0 (-100001) ) rfl rfl rfl wd_7_12 wd_1_2 wd_7_9 wd_7_10 wd_7_11 yd_X11_finding ⟨Nat.le_of_ble_eq_true rfl, Nat.le_of_ble_eq_true rfl⟩ rfl rfl rfl rfl rfl (by decide) rfl (Nat.le_of_ble_eq_true rfl) dX11_admit_12 ⟨Nat.le_of_ble_eq_true rfl, Nat.le_of_ble_eq_true rfl⟩ (fun r_4 u_5 H locs hw_6 hP hD hS => ?_)
  have hP : va_P g.1 vwCl [] H := hP
  have hD : va_D A [] := hD
  have hw_6 : r_4 = (-100001) := hw_6
  subst hw_6
  exact k_iret () [] hx hb hr hlk hP hD hS rfl rfl rfl rfl (Nat.le_of_ble_eq_true rfl) (Nat.le_of_ble_eq_true rfl) dX11_admit_15
theorem dX11_places_0 : decode cX11_places 0 = .ok (.aload_n 0, 1) := by decide +kernel
theorem dX11_places_1 : decode cX11_places 1 = .ok (.getfield 10, 3) := by decide +kernel
theorem dX11_places_4 : decode cX11_places 4 = .ok (.getfield 61, 3) := by decide +kernel
theorem dX11_places_7 : decode cX11_places 7 = .ok (.iload_n 1, 1) := by decide +kernel
theorem dX11_places_8 : decode cX11_places 8 = .ok (.invokevirtual 173, 3) := by decide +kernel
theorem dX11_places_11 : decode cX11_places 11 = .ok (.ifCond .eq 19, 3) := by decide +kernel
theorem dX11_places_30 : decode cX11_places 30 = .ok (.aload_n 0, 1) := by decide +kernel
theorem dX11_places_31 : decode cX11_places 31 = .ok (.ldc 55, 2) := by decide +kernel
theorem dX11_places_33 : decode cX11_places 33 = .ok (.invokevirtual 56, 3) := by decide +kernel
theorem dX11_places_36 : decode cX11_places 36 = .ok (.ireturn, 1) := by decide +kernel
set_option maxHeartbeats 4000000 in
set_option maxRecDepth 100000 in
theorem c_X11_places (l : Launch) (g : kG) (sz : Nat) (q : Nat → Nat) (ch : Int32) (k : Int32) (v : Int32) : kMi l g yX11_places cX11_places 4 (some .int) 6 0 0 [.ref (q 0), .int ch, .int k, .int v] sz [(q 0, .inr (11, [.ref (q 1), .ref (q 29), .ref (q 31), .ref (q 34), .ref (q 38), .ref (q 40), .int 0])), (q 1, .inr (4, [.ref (q 2), .ref (q 6), .ref (q 9), .ref (q 18), .ref (q 22), .ref (q 26), .ref (q 28), .int 0, .int 0, .int 36, .int 10])), (q 2, .inr (8, [.int 0, .ref (q 3), .ref (q 4), .ref (q 5)]))] (fun (r : Int32) (u : Unit) => r = (-100001)) (fun (u : Unit) => ([] : va_W)) := by
  refine kMi.of (by decide) (Nat.le_of_ble_eq_true rfl) (fun p e s m below meth c A hx hb hr hml hown hts hlk hnm hKW hP hD hS hA ls hl => ?_)
  have hown : s.vm.findClass RX11 = some m.cls := hown
  have hl : lv_has ls 4 [(0, .ref (q 0)), (1, .int ch), (2, .int k), (3, .int v)] := hl
  refine lv_aload_n hx hb dX11_places_0 rfl (lv_at hl 0 rfl) ?_
  refine va_get (ci := 11) (C := RX11) (T := TX11) (N := 7) hx hb hts inlX11 hown hKW.1 hP 0 rfl rfl 0 (by decide) (hts _ wd_1_15) (fun _ h => h) rfl dX11_places_1 ?_
  refine va_get (ci := 4) (C := RX4) (T := TX4) (N := 11) hx hb hts inlX4 hown hKW.1 hP 1 rfl rfl 0 (by decide) (hts _ wd_7_3) (fun _ h => h) rfl dX11_places_4 ?_
  refine lv_iload_n hx hb dX11_places_7 rfl (lv_at hl 1 rfl) ?_
  refine k_Vi [2] [0, 1] 2 8 (wr := [(q 0, .inr (11, [.ref (q 1), .ref (q 29), .ref (q 31), .ref (q 34), .ref (q 38), .ref (q 40), .int 0])), (q 1, .inr (4, [.ref (q 2), .ref (q 6), .ref (q 9), .ref (q 18), .ref (q 22), .ref (q 26), .ref (q 28), .int 0, .int 0, .int 36, .int 10]))]) hx hb hml hown hts hKW hP hD hS hA hl.1 (c_X8_has0 l g _ (q 2) (q 3) (q 4) (q 5) ch ) rfl rfl rfl wd_18_17 wd_2_17 wd_18_14 wd_18_15 wd_18_16 yd_X8_has ⟨Nat.le_of_ble_eq_true rfl, Nat.le_of_ble_eq_true rfl⟩ rfl rfl rfl rfl rfl (by decide) rfl (Nat.le_of_ble_eq_true rfl) dX11_places_8 ⟨Nat.le_of_ble_eq_true rfl, Nat.le_of_ble_eq_true rfl⟩ (fun r_1 u_2 H locs hw_3 hP hD hS => ?_)
  have hP : va_P g.1 vwCl [(q 0, .inr (11, [.ref (q 1), .ref (q 29), .ref (q 31), .ref (q 34), .ref (q 38), .ref (q 40), .int 0])), (q 1, .inr (4, [.ref (q 2), .ref (q 6), .ref (q 9), .ref (q 18), .ref (q 22), .ref (q 26), .ref (q 28), .int 0, .int 0, .int 36, .int 10]))] H := hP
  have hD : va_D A [(q 0, .inr (11, [.ref (q 1), .ref (q 29), .ref (q 31), .ref (q 34), .ref (q 38), .ref (q 40), .int 0])), (q 1, .inr (4, [.ref (q 2), .ref (q 6), .ref (q 9), .ref (q 18), .ref (q 22), .ref (q 26), .ref (q 28), .int 0, .int 0, .int 36, .int 10]))] := hD
  have hw_3 : r_1 = 0 := hw_3
  subst hw_3
  refine lv_if_eq (tgt := 30) hx hb dX11_places_11 (by decide) (fun _ => ?_) (fun c => absurd c (by decide))
  refine lv_aload_n hx hb dX11_places_30 rfl (lv_at hl 0 rfl) ?_
  refine lv_ldc (v := (-100001)) hx hb hown (hts _ wd_7_1) dX11_places_31 ?_
  refine k_Vi [0] [1] 0 11 (wr := [(q 1, .inr (4, [.ref (q 2), .ref (q 6), .ref (q 9), .ref (q 18), .ref (q 22), .ref (q 26), .ref (q 28), .int 0, .int 0, .int 36, .int 10]))]) hx hb hml hown hts hKW hP hD hS hA hl.1 (c_X11_finding l g _ (q 0) (q 1) (q 29) (q 31) (q 34) (q 38) (q 40) 0 (-100001) ) rfl rfl rfl wd_7_12 wd_1_2 wd_7_9 wd_7_10 wd_7_11 yd_X11_finding ⟨Nat.le_of_ble_eq_true rfl, Nat.le_of_ble_eq_true rfl⟩ rfl rfl rfl rfl rfl (by decide) rfl (Nat.le_of_ble_eq_true rfl) dX11_places_33 ⟨Nat.le_of_ble_eq_true rfl, Nat.le_of_ble_eq_true rfl⟩ (fun r_4 u_5 H locs hw_6 hP hD hS => ?_)
  have hP : va_P g.1 vwCl [(q 1, .inr (4, [.ref (q 2), .ref (q 6), .ref (q 9), .ref (q 18), .ref (q 22), .ref (q 26), .ref (q 28), .int 0, .int 0, .int 36, .int 10]))] H := hP
  have hD : va_D A [(q 1, .inr (4, [.ref (q 2), .ref (q 6), .ref (q 9), .ref (q 18), .ref (q 22), .ref (q 26), .ref (q 28), .int 0, .int 0, .int 36, .int 10]))] := hD
  have hw_6 : r_4 = (-100001) := hw_6
  subst hw_6
  exact k_iret () [] hx hb hr hlk hP hD hS rfl rfl rfl rfl (Nat.le_of_ble_eq_true rfl) (Nat.le_of_ble_eq_true rfl) dX11_places_36
theorem dX11_rate_0 : decode cX11_rate 0 = .ok (.iload_n 1, 1) := by decide +kernel
theorem dX11_rate_1 : decode cX11_rate 1 = .ok (.iconst 1, 1) := by decide +kernel
theorem dX11_rate_2 : decode cX11_rate 2 = .ok (.bipush 99, 2) := by decide +kernel
theorem dX11_rate_4 : decode cX11_rate 4 = .ok (.invokestatic 51, 3) := by decide +kernel
theorem dX11_rate_7 : decode cX11_rate 7 = .ok (.ifCond .ne 10, 3) := by decide +kernel
theorem dX11_rate_17 : decode cX11_rate 17 = .ok (.aload_n 0, 1) := by decide +kernel
theorem dX11_rate_18 : decode cX11_rate 18 = .ok (.invokevirtual 72, 3) := by decide +kernel
theorem dX11_rate_21 : decode cX11_rate 21 = .ok (.aload_n 0, 1) := by decide +kernel
theorem dX11_rate_22 : decode cX11_rate 22 = .ok (.getfield 10, 3) := by decide +kernel
theorem dX11_rate_25 : decode cX11_rate 25 = .ok (.getfield 303, 3) := by decide +kernel
theorem dX11_rate_28 : decode cX11_rate 28 = .ok (.istore_n 2, 1) := by decide +kernel
theorem dX11_rate_29 : decode cX11_rate 29 = .ok (.aload_n 0, 1) := by decide +kernel
theorem dX11_rate_30 : decode cX11_rate 30 = .ok (.getfield 10, 3) := by decide +kernel
theorem dX11_rate_33 : decode cX11_rate 33 = .ok (.iload_n 1, 1) := by decide +kernel
theorem dX11_rate_34 : decode cX11_rate 34 = .ok (.putfield 303, 3) := by decide +kernel
theorem dX11_rate_37 : decode cX11_rate 37 = .ok (.iload_n 2, 1) := by decide +kernel
theorem dX11_rate_38 : decode cX11_rate 38 = .ok (.ireturn, 1) := by decide +kernel
theorem dX11_rate_10 : decode cX11_rate 10 = .ok (.aload_n 0, 1) := by decide +kernel
theorem dX11_rate_11 : decode cX11_rate 11 = .ok (.ldc 55, 2) := by decide +kernel
theorem dX11_rate_13 : decode cX11_rate 13 = .ok (.invokevirtual 56, 3) := by decide +kernel
theorem dX11_rate_16 : decode cX11_rate 16 = .ok (.ireturn, 1) := by decide +kernel
set_option maxHeartbeats 4000000 in
set_option maxRecDepth 100000 in
theorem c_X11_rate (l : Launch) (g : kG) (sz : Nat) (q : Nat → Nat) (v : Int32) : kMi l g yX11_rate cX11_rate 3 (some .int) 6 28 465 [.ref (q 0), .int v] sz [(q 0, .inr (11, [.ref (q 1), .ref (q 29), .ref (q 31), .ref (q 34), .ref (q 38), .ref (q 40), .int 0])), (q 1, .inr (4, [.ref (q 2), .ref (q 6), .ref (q 9), .ref (q 18), .ref (q 22), .ref (q 26), .ref (q 28), .int 0, .int 0, .int 36, .int 10])), (q 2, .inr (8, [.int 0, .ref (q 3), .ref (q 4), .ref (q 5)])), (q 3, .inl (gI g, 5, .inl (fun _ => 0))), (q 4, .inl (gI g, 5, .inl (fun _ => 0))), (q 5, .inl (gI g, 5, .inl (fun _ => 0))), (q 6, .inr (1, [.int 0, .ref (q 7), .ref (q 8), .int 0])), (q 7, .inl (gI g, 7, .inl (fun _ => 0))), (q 8, .inl (gI g, 7, .inl (fun _ => 0))), (q 9, .inr (0, [.int 0, .ref (q 10), .ref (q 11), .ref (q 12), .ref (q 13), .ref (q 14), .ref (q 15), .ref (q 16), .int 0, .int 0, .int 0, .ref (q 17)])), (q 10, .inl (gI g, 10, .inl (fun _ => 0))), (q 11, .inl (gI g, 10, .inl (fun _ => 0))), (q 12, .inl (gI g, 10, .inl (fun _ => 0))), (q 13, .inl (gI g, 10, .inl (fun _ => 0))), (q 14, .inl (gI g, 10, .inl (fun _ => 0))), (q 15, .inl (gI g, 10, .inl (fun _ => 0))), (q 16, .inl (gI g, 10, .inl (fun _ => 0))), (q 17, .inl (gI g, 10, .inl (fun _ => 0))), (q 18, .inr (3, [.int 0, .ref (q 19), .ref (q 20), .ref (q 21)])), (q 19, .inl (gI g, 40, .inl (fun _ => 0))), (q 20, .inl (gI g, 40, .inl (fun _ => 0))), (q 21, .inl (gI g, 40, .inl (fun _ => 0))), (q 22, .inr (3, [.int 0, .ref (q 23), .ref (q 24), .ref (q 25)])), (q 23, .inl (gI g, 40, .inl (fun _ => 0))), (q 24, .inl (gI g, 40, .inl (fun _ => 0))), (q 25, .inl (gI g, 40, .inl (fun _ => 0))), (q 26, .inr (6, [.int 0, .int 0, .ref (q 27)])), (q 27, .inl (gI g, 14, .inl (fun _ => 0))), (q 28, .inl (gI g, 60, .inl (fun _ => 0))), (q 29, .inr (2, [.int 0, .int 0, .ref (q 30)])), (q 30, .inl (gN g, 16, .inr (.inr (.inr (.inr (fun _ => none))))))] (fun (r : Int32) (u : Unit) => r = aR 1 99 10 v) (fun (u : Unit) => ([] : va_W)) := by
  refine kMi.of (by decide) (Nat.le_of_ble_eq_true rfl) (fun p e s m below meth c A hx hb hr hml hown hts hlk hnm hKW hP hD hS hA ls hl => ?_)
  have hown : s.vm.findClass RX11 = some m.cls := hown
  have hl : lv_has ls 3 [(0, .ref (q 0)), (1, .int v)] := hl
  refine lv_iload_n hx hb dX11_rate_0 rfl (lv_at hl 1 rfl) ?_
  refine lv_iconst (v := 1) hx hb dX11_rate_1 (by decide) ?_
  refine lv_bipush (v := 99) hx hb dX11_rate_2 (by decide) ?_
  refine k_Si [] [0, 1, 2, 3, 4, 5, 6, 7, 8, 9, 10, 11, 12, 13, 14, 15, 16, 17, 18, 19, 20, 21, 22, 23, 24, 25, 26, 27, 28, 29, 30] (wr := [(q 0, .inr (11, [.ref (q 1), .ref (q 29), .ref (q 31), .ref (q 34), .ref (q 38), .ref (q 40), .int 0])), (q 1, .inr (4, [.ref (q 2), .ref (q 6), .ref (q 9), .ref (q 18), .ref (q 22), .ref (q 26), .ref (q 28), .int 0, .int 0, .int 36, .int 10])), (q 2, .inr (8, [.int 0, .ref (q 3), .ref (q 4), .ref (q 5)])), (q 3, .inl (gI g, 5, .inl (fun _ => 0))), (q 4, .inl (gI g, 5, .inl (fun _ => 0))), (q 5, .inl (gI g, 5, .inl (fun _ => 0))), (q 6, .inr (1, [.int 0, .ref (q 7), .ref (q 8), .int 0])), (q 7, .inl (gI g, 7, .inl (fun _ => 0))), (q 8, .inl (gI g, 7, .inl (fun _ => 0))), (q 9, .inr (0, [.int 0, .ref (q 10), .ref (q 11), .ref (q 12), .ref (q 13), .ref (q 14), .ref (q 15), .ref (q 16), .int 0, .int 0, .int 0, .ref (q 17)])), (q 10, .inl (gI g, 10, .inl (fun _ => 0))), (q 11, .inl (gI g, 10, .inl (fun _ => 0))), (q 12, .inl (gI g, 10, .inl (fun _ => 0))), (q 13, .inl (gI g, 10, .inl (fun _ => 0))), (q 14, .inl (gI g, 10, .inl (fun _ => 0))), (q 15, .inl (gI g, 10, .inl (fun _ => 0))), (q 16, .inl (gI g, 10, .inl (fun _ => 0))), (q 17, .inl (gI g, 10, .inl (fun _ => 0))), (q 18, .inr (3, [.int 0, .ref (q 19), .ref (q 20), .ref (q 21)])), (q 19, .inl (gI g, 40, .inl (fun _ => 0))), (q 20, .inl (gI g, 40, .inl (fun _ => 0))), (q 21, .inl (gI g, 40, .inl (fun _ => 0))), (q 22, .inr (3, [.int 0, .ref (q 23), .ref (q 24), .ref (q 25)])), (q 23, .inl (gI g, 40, .inl (fun _ => 0))), (q 24, .inl (gI g, 40, .inl (fun _ => 0))), (q 25, .inl (gI g, 40, .inl (fun _ => 0))), (q 26, .inr (6, [.int 0, .int 0, .ref (q 27)])), (q 27, .inl (gI g, 14, .inl (fun _ => 0))), (q 28, .inl (gI g, 60, .inl (fun _ => 0))), (q 29, .inr (2, [.int 0, .int 0, .ref (q 30)])), (q 30, .inl (gN g, 16, .inr (.inr (.inr (.inr (fun _ => none))))))]) hx hb hml hown hts hKW hP hD hS hA hl.1 (c_X11_isWithin l g _ v 1 99 ) wd_7_8 wd_1_2 wd_7_6 wd_7_7 yd_X11_isWithin ⟨Nat.le_of_ble_eq_true rfl, Nat.le_of_ble_eq_true rfl⟩ rfl rfl rfl rfl rfl (by decide) rfl (Nat.le_of_ble_eq_true rfl) dX11_rate_4 ⟨Nat.le_of_ble_eq_true rfl, Nat.le_of_ble_eq_true rfl⟩ (fun r_1 u_2 H locs hw_3 hP hD hS => ?_)
  have hP : va_P g.1 vwCl [(q 0, .inr (11, [.ref (q 1), .ref (q 29), .ref (q 31), .ref (q 34), .ref (q 38), .ref (q 40), .int 0])), (q 1, .inr (4, [.ref (q 2), .ref (q 6), .ref (q 9), .ref (q 18), .ref (q 22), .ref (q 26), .ref (q 28), .int 0, .int 0, .int 36, .int 10])), (q 2, .inr (8, [.int 0, .ref (q 3), .ref (q 4), .ref (q 5)])), (q 3, .inl (gI g, 5, .inl (fun _ => 0))), (q 4, .inl (gI g, 5, .inl (fun _ => 0))), (q 5, .inl (gI g, 5, .inl (fun _ => 0))), (q 6, .inr (1, [.int 0, .ref (q 7), .ref (q 8), .int 0])), (q 7, .inl (gI g, 7, .inl (fun _ => 0))), (q 8, .inl (gI g, 7, .inl (fun _ => 0))), (q 9, .inr (0, [.int 0, .ref (q 10), .ref (q 11), .ref (q 12), .ref (q 13), .ref (q 14), .ref (q 15), .ref (q 16), .int 0, .int 0, .int 0, .ref (q 17)])), (q 10, .inl (gI g, 10, .inl (fun _ => 0))), (q 11, .inl (gI g, 10, .inl (fun _ => 0))), (q 12, .inl (gI g, 10, .inl (fun _ => 0))), (q 13, .inl (gI g, 10, .inl (fun _ => 0))), (q 14, .inl (gI g, 10, .inl (fun _ => 0))), (q 15, .inl (gI g, 10, .inl (fun _ => 0))), (q 16, .inl (gI g, 10, .inl (fun _ => 0))), (q 17, .inl (gI g, 10, .inl (fun _ => 0))), (q 18, .inr (3, [.int 0, .ref (q 19), .ref (q 20), .ref (q 21)])), (q 19, .inl (gI g, 40, .inl (fun _ => 0))), (q 20, .inl (gI g, 40, .inl (fun _ => 0))), (q 21, .inl (gI g, 40, .inl (fun _ => 0))), (q 22, .inr (3, [.int 0, .ref (q 23), .ref (q 24), .ref (q 25)])), (q 23, .inl (gI g, 40, .inl (fun _ => 0))), (q 24, .inl (gI g, 40, .inl (fun _ => 0))), (q 25, .inl (gI g, 40, .inl (fun _ => 0))), (q 26, .inr (6, [.int 0, .int 0, .ref (q 27)])), (q 27, .inl (gI g, 14, .inl (fun _ => 0))), (q 28, .inl (gI g, 60, .inl (fun _ => 0))), (q 29, .inr (2, [.int 0, .int 0, .ref (q 30)])), (q 30, .inl (gN g, 16, .inr (.inr (.inr (.inr (fun _ => none))))))] H := hP
  have hD : va_D A [(q 0, .inr (11, [.ref (q 1), .ref (q 29), .ref (q 31), .ref (q 34), .ref (q 38), .ref (q 40), .int 0])), (q 1, .inr (4, [.ref (q 2), .ref (q 6), .ref (q 9), .ref (q 18), .ref (q 22), .ref (q 26), .ref (q 28), .int 0, .int 0, .int 36, .int 10])), (q 2, .inr (8, [.int 0, .ref (q 3), .ref (q 4), .ref (q 5)])), (q 3, .inl (gI g, 5, .inl (fun _ => 0))), (q 4, .inl (gI g, 5, .inl (fun _ => 0))), (q 5, .inl (gI g, 5, .inl (fun _ => 0))), (q 6, .inr (1, [.int 0, .ref (q 7), .ref (q 8), .int 0])), (q 7, .inl (gI g, 7, .inl (fun _ => 0))), (q 8, .inl (gI g, 7, .inl (fun _ => 0))), (q 9, .inr (0, [.int 0, .ref (q 10), .ref (q 11), .ref (q 12), .ref (q 13), .ref (q 14), .ref (q 15), .ref (q 16), .int 0, .int 0, .int 0, .ref (q 17)])), (q 10, .inl (gI g, 10, .inl (fun _ => 0))), (q 11, .inl (gI g, 10, .inl (fun _ => 0))), (q 12, .inl (gI g, 10, .inl (fun _ => 0))), (q 13, .inl (gI g, 10, .inl (fun _ => 0))), (q 14, .inl (gI g, 10, .inl (fun _ => 0))), (q 15, .inl (gI g, 10, .inl (fun _ => 0))), (q 16, .inl (gI g, 10, .inl (fun _ => 0))), (q 17, .inl (gI g, 10, .inl (fun _ => 0))), (q 18, .inr (3, [.int 0, .ref (q 19), .ref (q 20), .ref (q 21)])), (q 19, .inl (gI g, 40, .inl (fun _ => 0))), (q 20, .inl (gI g, 40, .inl (fun _ => 0))), (q 21, .inl (gI g, 40, .inl (fun _ => 0))), (q 22, .inr (3, [.int 0, .ref (q 23), .ref (q 24), .ref (q 25)])), (q 23, .inl (gI g, 40, .inl (fun _ => 0))), (q 24, .inl (gI g, 40, .inl (fun _ => 0))), (q 25, .inl (gI g, 40, .inl (fun _ => 0))), (q 26, .inr (6, [.int 0, .int 0, .ref (q 27)])), (q 27, .inl (gI g, 14, .inl (fun _ => 0))), (q 28, .inl (gI g, 60, .inl (fun _ => 0))), (q 29, .inr (2, [.int 0, .int 0, .ref (q 30)])), (q 30, .inl (gN g, 16, .inr (.inr (.inr (.inr (fun _ => none))))))] := hD
  rcases (show (r_1 = 1 ∧ (Int32.toInt 1 ≤ Int32.toInt v ∧ Int32.toInt v ≤ Int32.toInt 99)) ∨ (r_1 = 0 ∧ ¬ (Int32.toInt 1 ≤ Int32.toInt v ∧ Int32.toInt v ≤ Int32.toInt 99)) from hw_3) with ⟨rfl, hw_3b⟩ | ⟨rfl, hw_3b⟩ <;> clear hw_3
  · refine lv_if_ne (tgt := 17) hx hb dX11_rate_7 (by decide) (fun _ => ?_) (fun c => absurd c (by decide))
    refine lv_aload_n hx hb dX11_rate_17 rfl (lv_at hl 0 rfl) ?_
    refine k_Vv [0, 1, 2, 3, 4, 5, 6, 7, 8, 9, 10, 11, 12, 13, 14, 15, 16, 17, 18, 19, 20, 21, 22, 23, 24, 25, 26, 27, 28, 29, 30] [] 0 11 (wr := []) hx hb hml hown hts hKW hP hD hS hA hl.1 (c_X11_keep l g _ q ) rfl rfl rfl wd_7_17 wd_1_2 wd_7_14 wd_7_15 wd_7_16 yd_X11_keep ⟨Nat.le_of_ble_eq_true rfl, Nat.le_of_ble_eq_true rfl⟩ rfl rfl rfl rfl rfl (by decide) rfl (Nat.le_of_ble_eq_true rfl) dX11_rate_18 ⟨Nat.le_of_ble_eq_true rfl, Nat.le_of_ble_eq_true rfl⟩ (fun u_5 H locs hw_6 hP hD hS => ?_)
    have hP : va_P g.1 vwCl [(q 0, .inr (11, [.ref (q 1), .ref (q 29), .ref (q 31), .ref (q 34), .ref (q 38), .ref (q 40), .int 0])), (q 1, .inr (4, [.ref (q 2), .ref (q 6), .ref (q 9), .ref (q 18), .ref (q 22), .ref (q 26), .ref (q 28), .int 0, .int 0, .int 36, .int 10])), (q 2, .inr (8, [.int 0, .ref (q 3), .ref (q 4), .ref (q 5)])), (q 3, .inl (gI g, 5, .inl (fun _ => 0))), (q 4, .inl (gI g, 5, .inl (fun _ => 0))), (q 5, .inl (gI g, 5, .inl (fun _ => 0))), (q 6, .inr (1, [.int 0, .ref (q 7), .ref (q 8), .int 0])), (q 7, .inl (gI g, 7, .inl (fun _ => 0))), (q 8, .inl (gI g, 7, .inl (fun _ => 0))), (q 9, .inr (0, [.int 0, .ref (q 10), .ref (q 11), .ref (q 12), .ref (q 13), .ref (q 14), .ref (q 15), .ref (q 16), .int 0, .int 0, .int 0, .ref (q 17)])), (q 10, .inl (gI g, 10, .inl (fun _ => 0))), (q 11, .inl (gI g, 10, .inl (fun _ => 0))), (q 12, .inl (gI g, 10, .inl (fun _ => 0))), (q 13, .inl (gI g, 10, .inl (fun _ => 0))), (q 14, .inl (gI g, 10, .inl (fun _ => 0))), (q 15, .inl (gI g, 10, .inl (fun _ => 0))), (q 16, .inl (gI g, 10, .inl (fun _ => 0))), (q 17, .inl (gI g, 10, .inl (fun _ => 0))), (q 18, .inr (3, [.int 0, .ref (q 19), .ref (q 20), .ref (q 21)])), (q 19, .inl (gI g, 40, .inl (fun _ => 0))), (q 20, .inl (gI g, 40, .inl (fun _ => 0))), (q 21, .inl (gI g, 40, .inl (fun _ => 0))), (q 22, .inr (3, [.int 0, .ref (q 23), .ref (q 24), .ref (q 25)])), (q 23, .inl (gI g, 40, .inl (fun _ => 0))), (q 24, .inl (gI g, 40, .inl (fun _ => 0))), (q 25, .inl (gI g, 40, .inl (fun _ => 0))), (q 26, .inr (6, [.int 0, .int 0, .ref (q 27)])), (q 27, .inl (gI g, 14, .inl (fun _ => 0))), (q 28, .inl (gI g, 60, .inl (fun _ => 0)))] H := hP
    have hD : va_D A [(q 0, .inr (11, [.ref (q 1), .ref (q 29), .ref (q 31), .ref (q 34), .ref (q 38), .ref (q 40), .int 0])), (q 1, .inr (4, [.ref (q 2), .ref (q 6), .ref (q 9), .ref (q 18), .ref (q 22), .ref (q 26), .ref (q 28), .int 0, .int 0, .int 36, .int 10])), (q 2, .inr (8, [.int 0, .ref (q 3), .ref (q 4), .ref (q 5)])), (q 3, .inl (gI g, 5, .inl (fun _ => 0))), (q 4, .inl (gI g, 5, .inl (fun _ => 0))), (q 5, .inl (gI g, 5, .inl (fun _ => 0))), (q 6, .inr (1, [.int 0, .ref (q 7), .ref (q 8), .int 0])), (q 7, .inl (gI g, 7, .inl (fun _ => 0))), (q 8, .inl (gI g, 7, .inl (fun _ => 0))), (q 9, .inr (0, [.int 0, .ref (q 10), .ref (q 11), .ref (q 12), .ref (q 13), .ref (q 14), .ref (q 15), .ref (q 16), .int 0, .int 0, .int 0, .ref (q 17)])), (q 10, .inl (gI g, 10, .inl (fun _ => 0))), (q 11, .inl (gI g, 10, .inl (fun _ => 0))), (q 12, .inl (gI g, 10, .inl (fun _ => 0))), (q 13, .inl (gI g, 10, .inl (fun _ => 0))), (q 14, .inl (gI g, 10, .inl (fun _ => 0))), (q 15, .inl (gI g, 10, .inl (fun _ => 0))), (q 16, .inl (gI g, 10, .inl (fun _ => 0))), (q 17, .inl (gI g, 10, .inl (fun _ => 0))), (q 18, .inr (3, [.int 0, .ref (q 19), .ref (q 20), .ref (q 21)])), (q 19, .inl (gI g, 40, .inl (fun _ => 0))), (q 20, .inl (gI g, 40, .inl (fun _ => 0))), (q 21, .inl (gI g, 40, .inl (fun _ => 0))), (q 22, .inr (3, [.int 0, .ref (q 23), .ref (q 24), .ref (q 25)])), (q 23, .inl (gI g, 40, .inl (fun _ => 0))), (q 24, .inl (gI g, 40, .inl (fun _ => 0))), (q 25, .inl (gI g, 40, .inl (fun _ => 0))), (q 26, .inr (6, [.int 0, .int 0, .ref (q 27)])), (q 27, .inl (gI g, 14, .inl (fun _ => 0))), (q 28, .inl (gI g, 60, .inl (fun _ => 0)))] := hD
    refine W.widen (k := 28) (n := 465) (Nat.le_of_ble_eq_true rfl) (Nat.le_of_ble_eq_true rfl) ?_
    refine lv_aload_n hx hb dX11_rate_21 rfl (lv_at hl 0 rfl) ?_
    refine va_get (ci := 11) (C := RX11) (T := TX11) (N := 7) hx hb hts inlX11 hown hKW.1 hP 0 rfl rfl 0 (by decide) (hts _ wd_1_15) (fun _ h => h) rfl dX11_rate_22 ?_
    refine va_get (ci := 4) (C := RX4) (T := TX4) (N := 11) hx hb hts inlX4 hown hKW.1 hP 1 rfl rfl 10 (by decide) (hts _ wd_43_18) (fun _ h => h) rfl dX11_rate_25 ?_
    refine lv_istore_n (lv' := [(2, .int 10), (0, .ref (q 0)), (1, .int v)]) hx hb dX11_rate_28 rfl hl (by decide) rfl (fun ls hl => ?_)
    refine lv_aload_n hx hb dX11_rate_29 rfl (lv_at hl 1 rfl) ?_
    refine va_get (ci := 11) (C := RX11) (T := TX11) (N := 7) hx hb hts inlX11 hown hKW.1 hP 0 rfl rfl 0 (by decide) (hts _ wd_1_15) (fun _ h => h) rfl dX11_rate_30 ?_
    refine lv_iload_n hx hb dX11_rate_33 rfl (lv_at hl 2 rfl) ?_
    refine va_put (ci := 4) (v := .int v) (C := RX4) (T := TX4) (N := 11) hx hb hts inlX4 tyX4 tyX4_ok nmX4 hown hKW.1 hP hD hS 1 rfl rfl 10 (by decide) (hts _ wd_43_18) (fun _ h => h) rfl (tyX4_ok 10 (by decide)) rfl rfl (Nat.le_of_ble_eq_true rfl) dX11_rate_34 (fun H locs hP hD hS => ?_)
    have hP : va_P g.1 vwCl [(q 0, .inr (11, [.ref (q 1), .ref (q 29), .ref (q 31), .ref (q 34), .ref (q 38), .ref (q 40), .int 0])), (q 1, .inr (4, [.ref (q 2), .ref (q 6), .ref (q 9), .ref (q 18), .ref (q 22), .ref (q 26), .ref (q 28), .int 0, .int 0, .int 36, .int v])), (q 2, .inr (8, [.int 0, .ref (q 3), .ref (q 4), .ref (q 5)])), (q 3, .inl (gI g, 5, .inl (fun _ => 0))), (q 4, .inl (gI g, 5, .inl (fun _ => 0))), (q 5, .inl (gI g, 5, .inl (fun _ => 0))), (q 6, .inr (1, [.int 0, .ref (q 7), .ref (q 8), .int 0])), (q 7, .inl (gI g, 7, .inl (fun _ => 0))), (q 8, .inl (gI g, 7, .inl (fun _ => 0))), (q 9, .inr (0, [.int 0, .ref (q 10), .ref (q 11), .ref (q 12), .ref (q 13), .ref (q 14), .ref (q 15), .ref (q 16), .int 0, .int 0, .int 0, .ref (q 17)])), (q 10, .inl (gI g, 10, .inl (fun _ => 0))), (q 11, .inl (gI g, 10, .inl (fun _ => 0))), (q 12, .inl (gI g, 10, .inl (fun _ => 0))), (q 13, .inl (gI g, 10, .inl (fun _ => 0))), (q 14, .inl (gI g, 10, .inl (fun _ => 0))), (q 15, .inl (gI g, 10, .inl (fun _ => 0))), (q 16, .inl (gI g, 10, .inl (fun _ => 0))), (q 17, .inl (gI g, 10, .inl (fun _ => 0))), (q 18, .inr (3, [.int 0, .ref (q 19), .ref (q 20), .ref (q 21)])), (q 19, .inl (gI g, 40, .inl (fun _ => 0))), (q 20, .inl (gI g, 40, .inl (fun _ => 0))), (q 21, .inl (gI g, 40, .inl (fun _ => 0))), (q 22, .inr (3, [.int 0, .ref (q 23), .ref (q 24), .ref (q 25)])), (q 23, .inl (gI g, 40, .inl (fun _ => 0))), (q 24, .inl (gI g, 40, .inl (fun _ => 0))), (q 25, .inl (gI g, 40, .inl (fun _ => 0))), (q 26, .inr (6, [.int 0, .int 0, .ref (q 27)])), (q 27, .inl (gI g, 14, .inl (fun _ => 0))), (q 28, .inl (gI g, 60, .inl (fun _ => 0)))] H := hP
    have hD : va_D A [(q 0, .inr (11, [.ref (q 1), .ref (q 29), .ref (q 31), .ref (q 34), .ref (q 38), .ref (q 40), .int 0])), (q 1, .inr (4, [.ref (q 2), .ref (q 6), .ref (q 9), .ref (q 18), .ref (q 22), .ref (q 26), .ref (q 28), .int 0, .int 0, .int 36, .int v])), (q 2, .inr (8, [.int 0, .ref (q 3), .ref (q 4), .ref (q 5)])), (q 3, .inl (gI g, 5, .inl (fun _ => 0))), (q 4, .inl (gI g, 5, .inl (fun _ => 0))), (q 5, .inl (gI g, 5, .inl (fun _ => 0))), (q 6, .inr (1, [.int 0, .ref (q 7), .ref (q 8), .int 0])), (q 7, .inl (gI g, 7, .inl (fun _ => 0))), (q 8, .inl (gI g, 7, .inl (fun _ => 0))), (q 9, .inr (0, [.int 0, .ref (q 10), .ref (q 11), .ref (q 12), .ref (q 13), .ref (q 14), .ref (q 15), .ref (q 16), .int 0, .int 0, .int 0, .ref (q 17)])), (q 10, .inl (gI g, 10, .inl (fun _ => 0))), (q 11, .inl (gI g, 10, .inl (fun _ => 0))), (q 12, .inl (gI g, 10, .inl (fun _ => 0))), (q 13, .inl (gI g, 10, .inl (fun _ => 0))), (q 14, .inl (gI g, 10, .inl (fun _ => 0))), (q 15, .inl (gI g, 10, .inl (fun _ => 0))), (q 16, .inl (gI g, 10, .inl (fun _ => 0))), (q 17, .inl (gI g, 10, .inl (fun _ => 0))), (q 18, .inr (3, [.int 0, .ref (q 19), .ref (q 20), .ref (q 21)])), (q 19, .inl (gI g, 40, .inl (fun _ => 0))), (q 20, .inl (gI g, 40, .inl (fun _ => 0))), (q 21, .inl (gI g, 40, .inl (fun _ => 0))), (q 22, .inr (3, [.int 0, .ref (q 23), .ref (q 24), .ref (q 25)])), (q 23, .inl (gI g, 40, .inl (fun _ => 0))), (q 24, .inl (gI g, 40, .inl (fun _ => 0))), (q 25, .inl (gI g, 40, .inl (fun _ => 0))), (q 26, .inr (6, [.int 0, .int 0, .ref (q 27)])), (q 27, .inl (gI g, 14, .inl (fun _ => 0))), (q 28, .inl (gI g, 60, .inl (fun _ => 0)))] := hD
    refine lv_iload_n hx hb dX11_rate_37 rfl (lv_at hl 0 rfl) ?_
    exact k_iret () [] hx hb hr hlk hP hD hS (by clear hP hD hS hA hts hKW hl; unfold aR; (repeat' split) <;> first | rfl | (exfalso; first | omega | (simp only [Int32.lt_iff_toInt_lt, Int32.le_iff_toInt_le, ← Int32.toInt_inj] at *; omega) | (simp only [Int32.lt_iff_toInt_lt, Int32.le_iff_toInt_le, ← Int32.toInt_inj] at *; simp at *; omega) | (simp only [Int32.lt_iff_toInt_lt, Int32.le_iff_toInt_le, ← Int32.toInt_inj] at *; simp at *; done) | (simp at *; omega) | (simp at *; done))) rfl rfl rfl (Nat.le_of_ble_eq_true rfl) (Nat.le_of_ble_eq_true rfl) dX11_rate_38
  · refine lv_if_ne (tgt := 17) hx hb dX11_rate_7 (by decide) (fun c => absurd c (by decide)) (fun _ => ?_)
    refine lv_aload_n hx hb dX11_rate_10 rfl (lv_at hl 0 rfl) ?_
    refine lv_ldc (v := (-100001)) hx hb hown (hts _ wd_7_1) dX11_rate_11 ?_
    refine k_Vi [0] [1, 2, 3, 4, 5, 6, 7, 8, 9, 10, 11, 12, 13, 14, 15, 16, 17, 18, 19, 20, 21, 22, 23, 24, 25, 26, 27, 28, 29, 30] 0 11 (wr := [(q 1, .inr (4, [.ref (q 2), .ref (q 6), .ref (q 9), .ref (q 18), .ref (q 22), .ref (q 26), .ref (q 28), .int 0, .int 0, .int 36, .int 10])), (q 2, .inr (8, [.int 0, .ref (q 3), .ref (q 4), .ref (q 5)])), (q 3, .inl (gI g, 5, .inl (fun _ => 0))), (q 4, .inl (gI g, 5, .inl (fun _ => 0))), (q 5, .inl (gI g, 5, .inl (fun _ => 0))), (q 6, .inr (1, [.int 0, .ref (q 7), .ref (q 8), .int 0])), (q 7, .inl (gI g, 7, .inl (fun _ => 0))), (q 8, .inl (gI g, 7, .inl (fun _ => 0))), (q 9, .inr (0, [.int 0, .ref (q 10), .ref (q 11), .ref (q 12), .ref (q 13), .ref (q 14), .ref (q 15), .ref (q 16), .int 0, .int 0, .int 0, .ref (q 17)])), (q 10, .inl (gI g, 10, .inl (fun _ => 0))), (q 11, .inl (gI g, 10, .inl (fun _ => 0))), (q 12, .inl (gI g, 10, .inl (fun _ => 0))), (q 13, .inl (gI g, 10, .inl (fun _ => 0))), (q 14, .inl (gI g, 10, .inl (fun _ => 0))), (q 15, .inl (gI g, 10, .inl (fun _ => 0))), (q 16, .inl (gI g, 10, .inl (fun _ => 0))), (q 17, .inl (gI g, 10, .inl (fun _ => 0))), (q 18, .inr (3, [.int 0, .ref (q 19), .ref (q 20), .ref (q 21)])), (q 19, .inl (gI g, 40, .inl (fun _ => 0))), (q 20, .inl (gI g, 40, .inl (fun _ => 0))), (q 21, .inl (gI g, 40, .inl (fun _ => 0))), (q 22, .inr (3, [.int 0, .ref (q 23), .ref (q 24), .ref (q 25)])), (q 23, .inl (gI g, 40, .inl (fun _ => 0))), (q 24, .inl (gI g, 40, .inl (fun _ => 0))), (q 25, .inl (gI g, 40, .inl (fun _ => 0))), (q 26, .inr (6, [.int 0, .int 0, .ref (q 27)])), (q 27, .inl (gI g, 14, .inl (fun _ => 0))), (q 28, .inl (gI g, 60, .inl (fun _ => 0))), (q 29, .inr (2, [.int 0, .int 0, .ref (q 30)])), (q 30, .inl (gN g, 16, .inr (.inr (.inr (.inr (fun _ => none))))))]) hx hb hml hown hts hKW hP hD hS hA hl.1 (c_X11_finding l g _ (q 0) (q 1) (q 29) (q 31) (q 34) (q 38) (q 40) 0 (-100001) ) rfl rfl rfl wd_7_12 wd_1_2 wd_7_9 wd_7_10 wd_7_11 yd_X11_finding ⟨Nat.le_of_ble_eq_true rfl, Nat.le_of_ble_eq_true rfl⟩ rfl rfl rfl rfl rfl (by decide) rfl (Nat.le_of_ble_eq_true rfl) dX11_rate_13 ⟨Nat.le_of_ble_eq_true rfl, Nat.le_of_ble_eq_true rfl⟩ (fun r_7 u_8 H locs hw_9 hP hD hS => ?_)
    have hP : va_P g.1 vwCl [(q 1, .inr (4, [.ref (q 2), .ref (q 6), .ref (q 9), .ref (q 18), .ref (q 22), .ref (q 26), .ref (q 28), .int 0, .int 0, .int 36, .int 10])), (q 2, .inr (8, [.int 0, .ref (q 3), .ref (q 4), .ref (q 5)])), (q 3, .inl (gI g, 5, .inl (fun _ => 0))), (q 4, .inl (gI g, 5, .inl (fun _ => 0))), (q 5, .inl (gI g, 5, .inl (fun _ => 0))), (q 6, .inr (1, [.int 0, .ref (q 7), .ref (q 8), .int 0])), (q 7, .inl (gI g, 7, .inl (fun _ => 0))), (q 8, .inl (gI g, 7, .inl (fun _ => 0))), (q 9, .inr (0, [.int 0, .ref (q 10), .ref (q 11), .ref (q 12), .ref (q 13), .ref (q 14), .ref (q 15), .ref (q 16), .int 0, .int 0, .int 0, .ref (q 17)])), (q 10, .inl (gI g, 10, .inl (fun _ => 0))), (q 11, .inl (gI g, 10, .inl (fun _ => 0))), (q 12, .inl (gI g, 10, .inl (fun _ => 0))), (q 13, .inl (gI g, 10, .inl (fun _ => 0))), (q 14, .inl (gI g, 10, .inl (fun _ => 0))), (q 15, .inl (gI g, 10, .inl (fun _ => 0))), (q 16, .inl (gI g, 10, .inl (fun _ => 0))), (q 17, .inl (gI g, 10, .inl (fun _ => 0))), (q 18, .inr (3, [.int 0, .ref (q 19), .ref (q 20), .ref (q 21)])), (q 19, .inl (gI g, 40, .inl (fun _ => 0))), (q 20, .inl (gI g, 40, .inl (fun _ => 0))), (q 21, .inl (gI g, 40, .inl (fun _ => 0))), (q 22, .inr (3, [.int 0, .ref (q 23), .ref (q 24), .ref (q 25)])), (q 23, .inl (gI g, 40, .inl (fun _ => 0))), (q 24, .inl (gI g, 40, .inl (fun _ => 0))), (q 25, .inl (gI g, 40, .inl (fun _ => 0))), (q 26, .inr (6, [.int 0, .int 0, .ref (q 27)])), (q 27, .inl (gI g, 14, .inl (fun _ => 0))), (q 28, .inl (gI g, 60, .inl (fun _ => 0))), (q 29, .inr (2, [.int 0, .int 0, .ref (q 30)])), (q 30, .inl (gN g, 16, .inr (.inr (.inr (.inr (fun _ => none))))))] H := hP
    have hD : va_D A [(q 1, .inr (4, [.ref (q 2), .ref (q 6), .ref (q 9), .ref (q 18), .ref (q 22), .ref (q 26), .ref (q 28), .int 0, .int 0, .int 36, .int 10])), (q 2, .inr (8, [.int 0, .ref (q 3), .ref (q 4), .ref (q 5)])), (q 3, .inl (gI g, 5, .inl (fun _ => 0))), (q 4, .inl (gI g, 5, .inl (fun _ => 0))), (q 5, .inl (gI g, 5, .inl (fun _ => 0))), (q 6, .inr (1, [.int 0, .ref (q 7), .ref (q 8), .int 0])), (q 7, .inl (gI g, 7, .inl (fun _ => 0))), (q 8, .inl (gI g, 7, .inl (fun _ => 0))), (q 9, .inr (0, [.int 0, .ref (q 10), .ref (q 11), .ref (q 12), .ref (q 13), .ref (q 14), .ref (q 15), .ref (q 16), .int 0, .int 0, .int 0, .ref (q 17)])), (q 10, .inl (gI g, 10, .inl (fun _ => 0))), (q 11, .inl (gI g, 10, .inl (fun _ => 0))), (q 12, .inl (gI g, 10, .inl (fun _ => 0))), (q 13, .inl (gI g, 10, .inl (fun _ => 0))), (q 14, .inl (gI g, 10, .inl (fun _ => 0))), (q 15, .inl (gI g, 10, .inl (fun _ => 0))), (q 16, .inl (gI g, 10, .inl (fun _ => 0))), (q 17, .inl (gI g, 10, .inl (fun _ => 0))), (q 18, .inr (3, [.int 0, .ref (q 19), .ref (q 20), .ref (q 21)])), (q 19, .inl (gI g, 40, .inl (fun _ => 0))), (q 20, .inl (gI g, 40, .inl (fun _ => 0))), (q 21, .inl (gI g, 40, .inl (fun _ => 0))), (q 22, .inr (3, [.int 0, .ref (q 23), .ref (q 24), .ref (q 25)])), (q 23, .inl (gI g, 40, .inl (fun _ => 0))), (q 24, .inl (gI g, 40, .inl (fun _ => 0))), (q 25, .inl (gI g, 40, .inl (fun _ => 0))), (q 26, .inr (6, [.int 0, .int 0, .ref (q 27)])), (q 27, .inl (gI g, 14, .inl (fun _ => 0))), (q 28, .inl (gI g, 60, .inl (fun _ => 0))), (q 29, .inr (2, [.int 0, .int 0, .ref (q 30)])), (q 30, .inl (gN g, 16, .inr (.inr (.inr (.inr (fun _ => none))))))] := hD
    have hw_9 : r_7 = (-100001) := hw_9
    subst hw_9
    exact k_iret () [] hx hb hr hlk hP hD hS (by clear hP hD hS hA hts hKW hl; unfold aR; (repeat' split) <;> first | rfl | (exfalso; first | omega | (simp only [Int32.lt_iff_toInt_lt, Int32.le_iff_toInt_le, ← Int32.toInt_inj] at *; omega) | (simp only [Int32.lt_iff_toInt_lt, Int32.le_iff_toInt_le, ← Int32.toInt_inj] at *; simp at *; omega) | (simp only [Int32.lt_iff_toInt_lt, Int32.le_iff_toInt_le, ← Int32.toInt_inj] at *; simp at *; done) | (simp at *; omega) | (simp at *; done))) rfl rfl rfl (Nat.le_of_ble_eq_true rfl) (Nat.le_of_ble_eq_true rfl) dX11_rate_16
theorem dX11_bill_0 : decode cX11_bill 0 = .ok (.aload_n 0, 1) := by decide +kernel
theorem dX11_bill_1 : decode cX11_bill 1 = .ok (.getfield 10, 3) := by decide +kernel
theorem dX11_bill_4 : decode cX11_bill 4 = .ok (.getfield 104, 3) := by decide +kernel
theorem dX11_bill_7 : decode cX11_bill 7 = .ok (.iload_n 1, 1) := by decide +kernel
theorem dX11_bill_8 : decode cX11_bill 8 = .ok (.invokevirtual 108, 3) := by decide +kernel
theorem dX11_bill_11 : decode cX11_bill 11 = .ok (.istore 5, 2) := by decide +kernel
theorem dX11_bill_13 : decode cX11_bill 13 = .ok (.iload 5, 2) := by decide +kernel
theorem dX11_bill_15 : decode cX11_bill 15 = .ok (.ifCond .eq 23, 3) := by decide +kernel
theorem dX11_bill_38 : decode cX11_bill 38 = .ok (.aload_n 0, 1) := by decide +kernel
theorem dX11_bill_39 : decode cX11_bill 39 = .ok (.ldc 55, 2) := by decide +kernel
theorem dX11_bill_41 : decode cX11_bill 41 = .ok (.invokevirtual 56, 3) := by decide +kernel
theorem dX11_bill_44 : decode cX11_bill 44 = .ok (.ireturn, 1) := by decide +kernel
set_option maxHeartbeats 4000000 in
set_option maxRecDepth 100000 in
theorem c_X11_bill (l : Launch) (g : kG) (sz : Nat) (q : Nat → Nat) (ch : Int32) (k : Int32) (v : Int32) (w : Int32) : kMi l g yX11_bill cX11_bill 9 (some .int) 6 0 0 [.ref (q 0), .int ch, .int k, .int v, .int w] sz [(q 0, .inr (11, [.ref (q 1), .ref (q 29), .ref (q 31), .ref (q 34), .ref (q 38), .ref (q 40), .int 0])), (q 1, .inr (4, [.ref (q 2), .ref (q 6), .ref (q 9), .ref (q 18), .ref (q 22), .ref (q 26), .ref (q 28), .int 0, .int 0, .int 36, .int 10])), (q 9, .inr (0, [.int 0, .ref (q 10), .ref (q 11), .ref (q 12), .ref (q 13), .ref (q 14), .ref (q 15), .ref (q 16), .int 0, .int 0, .int 0, .ref (q 17)]))] (fun (r : Int32) (u : Unit) => r = (-100001)) (fun (u : Unit) => ([] : va_W)) := by
  refine kMi.of (by decide) (Nat.le_of_ble_eq_true rfl) (fun p e s m below meth c A hx hb hr hml hown hts hlk hnm hKW hP hD hS hA ls hl => ?_)
  have hown : s.vm.findClass RX11 = some m.cls := hown
  have hl : lv_has ls 9 [(0, .ref (q 0)), (1, .int ch), (2, .int k), (3, .int v), (4, .int w)] := hl
  refine lv_aload_n hx hb dX11_bill_0 rfl (lv_at hl 0 rfl) ?_
  refine va_get (ci := 11) (C := RX11) (T := TX11) (N := 7) hx hb hts inlX11 hown hKW.1 hP 0 rfl rfl 0 (by decide) (hts _ wd_1_15) (fun _ h => h) rfl dX11_bill_1 ?_
  refine va_get (ci := 4) (C := RX4) (T := TX4) (N := 11) hx hb hts inlX4 hown hKW.1 hP 1 rfl rfl 2 (by decide) (hts _ wd_12_23) (fun _ h => h) rfl dX11_bill_4 ?_
  refine lv_iload_n hx hb dX11_bill_7 rfl (lv_at hl 1 rfl) ?_
  refine k_Vi [2] [0, 1] 2 0 (wr := [(q 0, .inr (11, [.ref (q 1), .ref (q 29), .ref (q 31), .ref (q 34), .ref (q 38), .ref (q 40), .int 0])), (q 1, .inr (4, [.ref (q 2), .ref (q 6), .ref (q 9), .ref (q 18), .ref (q 22), .ref (q 26), .ref (q 28), .int 0, .int 0, .int 36, .int 10]))]) hx hb hml hown hts hKW hP hD hS hA hl.1 (c_X0_has0 l g _ (q 9) (q 10) (q 11) (q 12) (q 13) (q 14) (q 15) (q 16) (q 17) 0 0 0 ch ) rfl rfl rfl wd_13_4 wd_3_1 wd_13_1 wd_13_2 wd_13_3 yd_X0_has ⟨Nat.le_of_ble_eq_true rfl, Nat.le_of_ble_eq_true rfl⟩ rfl rfl rfl rfl rfl (by decide) rfl (Nat.le_of_ble_eq_true rfl) dX11_bill_8 ⟨Nat.le_of_ble_eq_true rfl, Nat.le_of_ble_eq_true rfl⟩ (fun r_1 u_2 H locs hw_3 hP hD hS => ?_)
  have hP : va_P g.1 vwCl [(q 0, .inr (11, [.ref (q 1), .ref (q 29), .ref (q 31), .ref (q 34), .ref (q 38), .ref (q 40), .int 0])), (q 1, .inr (4, [.ref (q 2), .ref (q 6), .ref (q 9), .ref (q 18), .ref (q 22), .ref (q 26), .ref (q 28), .int 0, .int 0, .int 36, .int 10]))] H := hP
  have hD : va_D A [(q 0, .inr (11, [.ref (q 1), .ref (q 29), .ref (q 31), .ref (q 34), .ref (q 38), .ref (q 40), .int 0])), (q 1, .inr (4, [.ref (q 2), .ref (q 6), .ref (q 9), .ref (q 18), .ref (q 22), .ref (q 26), .ref (q 28), .int 0, .int 0, .int 36, .int 10]))] := hD
  have hw_3 : r_1 = 0 := hw_3
  subst hw_3
  refine lv_istore (lv' := [(5, .int 0), (0, .ref (q 0)), (1, .int ch), (2, .int k), (3, .int v), (4, .int w)]) hx hb dX11_bill_11 hl (by decide) rfl (fun ls hl => ?_)
  refine lv_iload hx hb dX11_bill_13 (lv_at hl 0 rfl) ?_
  refine lv_if_eq (tgt := 38) hx hb dX11_bill_15 (by decide) (fun _ => ?_) (fun c => absurd c (by decide))
  refine lv_aload_n hx hb dX11_bill_38 rfl (lv_at hl 1 rfl) ?_
  refine lv_ldc (v := (-100001)) hx hb hown (hts _ wd_7_1) dX11_bill_39 ?_
  refine k_Vi [0] [1] 0 11 (wr := [(q 1, .inr (4, [.ref (q 2), .ref (q 6), .ref (q 9), .ref (q 18), .ref (q 22), .ref (q 26), .ref (q 28), .int 0, .int 0, .int 36, .int 10]))]) hx hb hml hown hts hKW hP hD hS hA hl.1 (c_X11_finding l g _ (q 0) (q 1) (q 29) (q 31) (q 34) (q 38) (q 40) 0 (-100001) ) rfl rfl rfl wd_7_12 wd_1_2 wd_7_9 wd_7_10 wd_7_11 yd_X11_finding ⟨Nat.le_of_ble_eq_true rfl, Nat.le_of_ble_eq_true rfl⟩ rfl rfl rfl rfl rfl (by decide) rfl (Nat.le_of_ble_eq_true rfl) dX11_bill_41 ⟨Nat.le_of_ble_eq_true rfl, Nat.le_of_ble_eq_true rfl⟩ (fun r_4 u_5 H locs hw_6 hP hD hS => ?_)
  have hP : va_P g.1 vwCl [(q 1, .inr (4, [.ref (q 2), .ref (q 6), .ref (q 9), .ref (q 18), .ref (q 22), .ref (q 26), .ref (q 28), .int 0, .int 0, .int 36, .int 10]))] H := hP
  have hD : va_D A [(q 1, .inr (4, [.ref (q 2), .ref (q 6), .ref (q 9), .ref (q 18), .ref (q 22), .ref (q 26), .ref (q 28), .int 0, .int 0, .int 36, .int 10]))] := hD
  have hw_6 : r_4 = (-100001) := hw_6
  subst hw_6
  exact k_iret () [] hx hb hr hlk hP hD hS rfl rfl rfl rfl (Nat.le_of_ble_eq_true rfl) (Nat.le_of_ble_eq_true rfl) dX11_bill_44
theorem dX11_wrong_0 : decode cX11_wrong 0 = .ok (.aload_n 0, 1) := by decide +kernel
theorem dX11_wrong_1 : decode cX11_wrong 1 = .ok (.getfield 10, 3) := by decide +kernel
theorem dX11_wrong_4 : decode cX11_wrong 4 = .ok (.getfield 317, 3) := by decide +kernel
theorem dX11_wrong_7 : decode cX11_wrong 7 = .ok (.getfield 326, 3) := by decide +kernel
theorem dX11_wrong_10 : decode cX11_wrong 10 = .ok (.ireturn, 1) := by decide +kernel
set_option maxHeartbeats 4000000 in
set_option maxRecDepth 100000 in
theorem c_X11_wrong (l : Launch) (g : kG) (sz : Nat) (q : Nat → Nat) : kMi l g yX11_wrong cX11_wrong 1 (some .int) 6 0 0 [.ref (q 0)] sz [(q 0, .inr (11, [.ref (q 1), .ref (q 29), .ref (q 31), .ref (q 34), .ref (q 38), .ref (q 40), .int 0])), (q 1, .inr (4, [.ref (q 2), .ref (q 6), .ref (q 9), .ref (q 18), .ref (q 22), .ref (q 26), .ref (q 28), .int 0, .int 0, .int 36, .int 10])), (q 26, .inr (6, [.int 0, .int 0, .ref (q 27)]))] (fun (r : Int32) (u : Unit) => r = 0) (fun (u : Unit) => ([] : va_W)) := by
  refine kMi.of (by decide) (Nat.le_of_ble_eq_true rfl) (fun p e s m below meth c A hx hb hr hml hown hts hlk hnm hKW hP hD hS hA ls hl => ?_)
  have hown : s.vm.findClass RX11 = some m.cls := hown
  have hl : lv_has ls 1 [(0, .ref (q 0))] := hl
  refine lv_aload_n hx hb dX11_wrong_0 rfl (lv_at hl 0 rfl) ?_
  refine va_get (ci := 11) (C := RX11) (T := TX11) (N := 7) hx hb hts inlX11 hown hKW.1 hP 0 rfl rfl 0 (by decide) (hts _ wd_1_15) (fun _ h => h) rfl dX11_wrong_1 ?_
  refine va_get (ci := 4) (C := RX4) (T := TX4) (N := 11) hx hb hts inlX4 hown hKW.1 hP 1 rfl rfl 5 (by decide) (hts _ wd_44_16) (fun _ h => h) rfl dX11_wrong_4 ?_
  refine va_get (ci := 6) (C := RX6) (T := TX6) (N := 3) hx hb hts inlX6 hown hKW.1 hP 2 rfl rfl 1 (by decide) (hts _ wd_45_19) (fun _ h => h) rfl dX11_wrong_7 ?_
  exact k_iret () [] hx hb hr hlk hP hD hS rfl rfl rfl rfl (Nat.le_of_ble_eq_true rfl) (Nat.le_of_ble_eq_true rfl) dX11_wrong_10
theorem dX9_begin_0 : decode cX9_begin 0 = .ok (.aload_n 0, 1) := by decide +kernel
theorem dX9_begin_1 : decode cX9_begin 1 = .ok (.iload_n 1, 1) := by decide +kernel
theorem dX9_begin_2 : decode cX9_begin 2 = .ok (.putfield 15, 3) := by decide +kernel
theorem dX9_begin_5 : decode cX9_begin 5 = .ok (.aload_n 0, 1) := by decide +kernel
theorem dX9_begin_6 : decode cX9_begin 6 = .ok (.iload_n 2, 1) := by decide +kernel
theorem dX9_begin_7 : decode cX9_begin 7 = .ok (.putfield 19, 3) := by decide +kernel
theorem dX9_begin_10 : decode cX9_begin 10 = .ok (.aload_n 0, 1) := by decide +kernel
theorem dX9_begin_11 : decode cX9_begin 11 = .ok (.getfield 9, 3) := by decide +kernel
theorem dX9_begin_14 : decode cX9_begin 14 = .ok (.iconst 0, 1) := by decide +kernel
theorem dX9_begin_15 : decode cX9_begin 15 = .ok (.invokestatic 22, 3) := by decide +kernel
theorem dX9_begin_18 : decode cX9_begin 18 = .ok (.return_, 1) := by decide +kernel
set_option maxHeartbeats 4000000 in
set_option maxRecDepth 100000 in
theorem c_X9_begin (l : Launch) (g : kG) (sz : Nat) (h : Nat) (b : Nat) (x : Int32) (y : Int32) (f : Nat → Int32) : kMv l g yX9_begin cX9_begin 3 none 2 0 0 [.ref h, .int x, .int y] sz [(h, .inr (9, [.int 0, .int 0, .ref b])), (b, .inl (gI g, 60, .inl f))] (fun (u : Unit) => True) (fun (u : Unit) => ([(h, .inr (9, [.int x, .int y, .ref b]))] : va_W)) := by
  refine kMv.of (by decide) (Nat.le_of_ble_eq_true rfl) (fun p e s m below meth c A hx hb hr hml hown hts hlk hnm hKW hP hD hS hA ls hl => ?_)
  have hown : s.vm.findClass RX9 = some m.cls := hown
  have hl : lv_has ls 3 [(0, .ref h), (1, .int x), (2, .int y)] := hl
  refine lv_aload_n hx hb dX9_begin_0 rfl (lv_at hl 0 rfl) ?_
  refine lv_iload_n hx hb dX9_begin_1 rfl (lv_at hl 1 rfl) ?_
  refine va_put (ci := 9) (v := .int x) (C := RX9) (T := TX9) (N := 3) hx hb hts inlX9 tyX9 tyX9_ok nmX9 hown hKW.1 hP hD hS 0 rfl rfl 0 (by decide) (hts _ wd_37_12) (fun _ h => h) rfl (tyX9_ok 0 (by decide)) rfl rfl (Nat.le_of_ble_eq_true rfl) dX9_begin_2 (fun H locs hP hD hS => ?_)
  have hP : va_P g.1 vwCl [(h, .inr (9, [.int x, .int 0, .ref b])), (b, .inl (gI g, 60, .inl f))] H := hP
  have hD : va_D A [(h, .inr (9, [.int x, .int 0, .ref b])), (b, .inl (gI g, 60, .inl f))] := hD
  refine lv_aload_n hx hb dX9_begin_5 rfl (lv_at hl 0 rfl) ?_
  refine lv_iload_n hx hb dX9_begin_6 rfl (lv_at hl 2 rfl) ?_
  refine va_put (ci := 9) (v := .int y) (C := RX9) (T := TX9) (N := 3) hx hb hts inlX9 tyX9 tyX9_ok nmX9 hown hKW.1 hP hD hS 0 rfl rfl 1 (by decide) (hts _ wd_37_17) (fun _ h => h) rfl (tyX9_ok 1 (by decide)) rfl rfl (Nat.le_of_ble_eq_true rfl) dX9_begin_7 (fun H locs hP hD hS => ?_)
  have hP : va_P g.1 vwCl [(h, .inr (9, [.int x, .int y, .ref b])), (b, .inl (gI g, 60, .inl f))] H := hP
  have hD : va_D A [(h, .inr (9, [.int x, .int y, .ref b])), (b, .inl (gI g, 60, .inl f))] := hD
  refine lv_aload_n hx hb dX9_begin_10 rfl (lv_at hl 0 rfl) ?_
  refine va_get (ci := 9) (C := RX9) (T := TX9) (N := 3) hx hb hts inlX9 hown hKW.1 hP 0 rfl rfl 2 (by decide) (hts _ wd_6_0) (fun _ h => h) rfl dX9_begin_11 ?_
  refine lv_iconst (v := 0) hx hb dX9_begin_14 (by decide) ?_
  refine k_Sv [1] [0] (wr := [(h, .inr (9, [.int x, .int y, .ref b]))]) hx hb hml hown hts hKW hP hD hS hA hl.1 (c_J7_fill60 l g _ b f ) wd_24_15 wd_24_14 wd_46_8 wd_24_13 yd_J7_fill_53178 ⟨Nat.le_of_ble_eq_true rfl, Nat.le_of_ble_eq_true rfl⟩ rfl rfl rfl rfl rfl (by decide) rfl (Nat.le_of_ble_eq_true rfl) dX9_begin_15 ⟨Nat.le_of_ble_eq_true rfl, Nat.le_of_ble_eq_true rfl⟩ (fun u_2 H locs hw_3 hP hD hS => ?_)
  have hP : va_P g.1 vwCl [(h, .inr (9, [.int x, .int y, .ref b])), (b, .inl (gI g, 60, .inl u_2))] H := hP
  have hD : va_D A [(h, .inr (9, [.int x, .int y, .ref b])), (b, .inl (gI g, 60, .inl u_2))] := hD
  have hw_3 : ∀ j, j < 60 → u_2 j = 0 := hw_3
  exact k_vret () [0] hx hb hr hlk hP hD hS trivial rfl rfl rfl (Nat.le_of_ble_eq_true rfl) (Nat.le_of_ble_eq_true rfl) dX9_begin_18
