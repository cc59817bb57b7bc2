theorem k_updI2 {P : Int32 → Prop} {f f' : Nat → Int32} {i N : Nat} {v : Int32} (e : f' = upd f (nI i).toNatClampNeg v) (hi : i < 2 ^ 31) (hv : P v) (h : ∀ j, j < N → P (f j)) : ∀ j, j < N → P (f' j) := k_updI e hi hv h
theorem dX8_become_0 : decode cX8_become 0 = .ok (.aload_n 0, 1) := by decide +kernel
theorem dX8_become_1 : decode cX8_become 1 = .ok (.aload_n 1, 1) := by decide +kernel
theorem dX8_become_2 : decode cX8_become 2 = .ok (.getfield 21, 3) := by decide +kernel
theorem dX8_become_5 : decode cX8_become 5 = .ok (.putfield 21, 3) := by decide +kernel
theorem dX8_become_8 : decode cX8_become 8 = .ok (.aload_n 1, 1) := by decide +kernel
theorem dX8_become_9 : decode cX8_become 9 = .ok (.getfield 9, 3) := by decide +kernel
theorem dX8_become_12 : decode cX8_become 12 = .ok (.iconst 0, 1) := by decide +kernel
theorem dX8_become_13 : decode cX8_become 13 = .ok (.aload_n 0, 1) := by decide +kernel
theorem dX8_become_14 : decode cX8_become 14 = .ok (.getfield 9, 3) := by decide +kernel
theorem dX8_become_17 : decode cX8_become 17 = .ok (.iconst 0, 1) := by decide +kernel
theorem dX8_become_18 : decode cX8_become 18 = .ok (.iconst 5, 1) := by decide +kernel
theorem dX8_become_19 : decode cX8_become 19 = .ok (.invokestatic 25, 3) := by decide +kernel
theorem dX8_become_22 : decode cX8_become 22 = .ok (.aload_n 1, 1) := by decide +kernel
theorem dX8_become_23 : decode cX8_become 23 = .ok (.getfield 15, 3) := by decide +kernel
theorem dX8_become_26 : decode cX8_become 26 = .ok (.iconst 0, 1) := by decide +kernel
theorem dX8_become_27 : decode cX8_become 27 = .ok (.aload_n 0, 1) := by decide +kernel
theorem dX8_become_28 : decode cX8_become 28 = .ok (.getfield 15, 3) := by decide +kernel
theorem dX8_become_31 : decode cX8_become 31 = .ok (.iconst 0, 1) := by decide +kernel
theorem dX8_become_32 : decode cX8_become 32 = .ok (.iconst 5, 1) := by decide +kernel
theorem dX8_become_33 : decode cX8_become 33 = .ok (.invokestatic 25, 3) := by decide +kernel
theorem dX8_become_36 : decode cX8_become 36 = .ok (.aload_n 1, 1) := by decide +kernel
theorem dX8_become_37 : decode cX8_become 37 = .ok (.getfield 18, 3) := by decide +kernel
theorem dX8_become_40 : decode cX8_become 40 = .ok (.iconst 0, 1) := by decide +kernel
theorem dX8_become_41 : decode cX8_become 41 = .ok (.aload_n 0, 1) := by decide +kernel
theorem dX8_become_42 : decode cX8_become 42 = .ok (.getfield 18, 3) := by decide +kernel
theorem dX8_become_45 : decode cX8_become 45 = .ok (.iconst 0, 1) := by decide +kernel
theorem dX8_become_46 : decode cX8_become 46 = .ok (.iconst 5, 1) := by decide +kernel
theorem dX8_become_47 : decode cX8_become 47 = .ok (.invokestatic 25, 3) := by decide +kernel
theorem dX8_become_50 : decode cX8_become 50 = .ok (.return_, 1) := by decide +kernel
set_option maxHeartbeats 8000000 in
set_option maxRecDepth 100000 in
theorem c_X8_become (l : Launch) (g : kG) (sz : Nat) (a : Nat → Nat) (b : Nat → Nat) (cnt : Nat) (cnt1 : Nat) (f0 : Nat → Int32) (f1 : Nat → Int32) (f2 : Nat → Int32) (f01 : Nat → Int32) (f11 : Nat → Int32) (f21 : Nat → Int32) : kMv l g yX8_become cX8_become 2 none 1 0 0 [.ref (a 0), .ref (b 0)] sz [(a 0, .inr (8, [.int (nI cnt1), .ref (a 1), .ref (a 2), .ref (a 3)])), (a 1, .inl (gI g, 5, .inl f01)), (a 2, .inl (gI g, 5, .inl f11)), (a 3, .inl (gI g, 5, .inl f21)), (b 0, .inr (8, [.int (nI cnt), .ref (b 1), .ref (b 2), .ref (b 3)])), (b 1, .inl (gI g, 5, .inl f0)), (b 2, .inl (gI g, 5, .inl f1)), (b 3, .inl (gI g, 5, .inl f2))] (fun (u : Unit) => True) (fun (u : Unit) => ([(a 0, .inr (8, [.int (nI cnt), .ref (a 1), .ref (a 2), .ref (a 3)])), (a 1, .inl (gI g, 5, .inl f0)), (a 2, .inl (gI g, 5, .inl f1)), (a 3, .inl (gI g, 5, .inl f2)), (b 0, .inr (8, [.int (nI cnt), .ref (b 1), .ref (b 2), .ref (b 3)])), (b 1, .inl (gI g, 5, .inl f0)), (b 2, .inl (gI g, 5, .inl f1)), (b 3, .inl (gI g, 5, .inl f2))] : va_W)) := by
  refine kMv.of (by decide) (Nat.le_of_ble_eq_true rfl) (fun p e s m below meth c A hx hb hr hml hown hts hlk hnm hKW hP hD hS hA ls hl => ?_)
  have hown : s.vm.findClass RX8 = some m.cls := hown
  have hl : lv_has ls 2 [(0, .ref (a 0)), (1, .ref (b 0))] := hl
  refine k_hide hP hS (fun H locs hP hS => ?_)
  refine lv_aload_n hx hb dX8_become_0 rfl (lv_at hl 0 rfl) ?_
  refine lv_aload_n hx hb dX8_become_1 rfl (lv_at hl 1 rfl) ?_
  refine va_get (ci := 8) (C := RX8) (T := TX8) (N := 4) hx hb hts inlX8 hown hKW.1 hP 4 rfl rfl 0 (by decide) (hts _ wd_8_18) (fun _ h => h) rfl dX8_become_2 ?_
  refine va_put (ci := 8) (v := .int (nI cnt)) (C := RX8) (T := TX8) (N := 4) hx hb hts inlX8 tyX8 tyX8_ok nmX8 hown hKW.1 hP hD hS 0 rfl rfl 0 (by decide) (hts _ wd_8_18) (fun _ h => h) rfl (tyX8_ok 0 (by decide)) rfl rfl (Nat.le_of_ble_eq_true rfl) dX8_become_5 (fun H locs hP hD hS => ?_)
  have hP : va_P g.1 vwCl [(a 0, .inr (8, [.int (nI cnt), .ref (a 1), .ref (a 2), .ref (a 3)])), (a 1, .inl (gI g, 5, .inl f01)), (a 2, .inl (gI g, 5, .inl f11)), (a 3, .inl (gI g, 5, .inl f21)), (b 0, .inr (8, [.int (nI cnt), .ref (b 1), .ref (b 2), .ref (b 3)])), (b 1, .inl (gI g, 5, .inl f0)), (b 2, .inl (gI g, 5, .inl f1)), (b 3, .inl (gI g, 5, .inl f2))] H := hP
  have hD : va_D A [(a 0, .inr (8, [.int (nI cnt), .ref (a 1), .ref (a 2), .ref (a 3)])), (a 1, .inl (gI g, 5, .inl f01)), (a 2, .inl (gI g, 5, .inl f11)), (a 3, .inl (gI g, 5, .inl f21)), (b 0, .inr (8, [.int (nI cnt), .ref (b 1), .ref (b 2), .ref (b 3)])), (b 1, .inl (gI g, 5, .inl f0)), (b 2, .inl (gI g, 5, .inl f1)), (b 3, .inl (gI g, 5, .inl f2))] := hD
  refine lv_aload_n hx hb dX8_become_8 rfl (lv_at hl 1 rfl) ?_
  refine va_get (ci := 8) (C := RX8) (T := TX8) (N := 4) hx hb hts inlX8 hown hKW.1 hP 4 rfl rfl 1 (by decide) (hts _ wd_3_19) (fun _ h => h) rfl dX8_become_9 ?_
  refine lv_iconst (v := 0) hx hb dX8_become_12 (by decide) ?_
  refine lv_aload_n hx hb dX8_become_13 rfl (lv_at hl 0 rfl) ?_
  refine va_get (ci := 8) (C := RX8) (T := TX8) (N := 4) hx hb hts inlX8 hown hKW.1 hP 0 rfl rfl 1 (by decide) (hts _ wd_3_19) (fun _ h => h) rfl dX8_become_14 ?_
  refine lv_iconst (v := 0) hx hb dX8_become_17 (by decide) ?_
  refine lv_iconst (v := 5) hx hb dX8_become_18 (by decide) ?_
  refine va_copyi hx hb (hml.trans hl.1.symm) hown (hts _ wd_8_19) (hts _ wd_8_9) (hts _ wd_8_10) (hts _ wd_8_11) hKW.1 hP hD hS 5 1 0 0 rfl rfl rfl rfl rfl (by decide) (by decide) (by decide) (by decide) (by decide) (fun _ _ => rfl) (Nat.le_of_ble_eq_true rfl) (Nat.le_of_ble_eq_true (by decide)) dX8_become_19 (fun H locs hP hD hS => ?_)
  have hP : va_P g.1 vwCl [(a 0, .inr (8, [.int (nI cnt), .ref (a 1), .ref (a 2), .ref (a 3)])), (a 1, .inl (gI g, 5, .inl (va_cpy f0 f01 0 0 5))), (a 2, .inl (gI g, 5, .inl f11)), (a 3, .inl (gI g, 5, .inl f21)), (b 0, .inr (8, [.int (nI cnt), .ref (b 1), .ref (b 2), .ref (b 3)])), (b 1, .inl (gI g, 5, .inl f0)), (b 2, .inl (gI g, 5, .inl f1)), (b 3, .inl (gI g, 5, .inl f2))] H := hP
  have hD : va_D A [(a 0, .inr (8, [.int (nI cnt), .ref (a 1), .ref (a 2), .ref (a 3)])), (a 1, .inl (gI g, 5, .inl (va_cpy f0 f01 0 0 5))), (a 2, .inl (gI g, 5, .inl f11)), (a 3, .inl (gI g, 5, .inl f21)), (b 0, .inr (8, [.int (nI cnt), .ref (b 1), .ref (b 2), .ref (b 3)])), (b 1, .inl (gI g, 5, .inl f0)), (b 2, .inl (gI g, 5, .inl f1)), (b 3, .inl (gI g, 5, .inl f2))] := hD
  have hP := k_extP (q := 1) (f := f0) hP rfl (fun j hj => k_cpyF hj)
  have hD := k_extD (q := 1) (e1 := .inl (gI g, 5, .inl f0)) hD rfl
  have hP : va_P g.1 vwCl [(a 0, .inr (8, [.int (nI cnt), .ref (a 1), .ref (a 2), .ref (a 3)])), (a 1, .inl (gI g, 5, .inl f0)), (a 2, .inl (gI g, 5, .inl f11)), (a 3, .inl (gI g, 5, .inl f21)), (b 0, .inr (8, [.int (nI cnt), .ref (b 1), .ref (b 2), .ref (b 3)])), (b 1, .inl (gI g, 5, .inl f0)), (b 2, .inl (gI g, 5, .inl f1)), (b 3, .inl (gI g, 5, .inl f2))] H := hP
  have hD : va_D A [(a 0, .inr (8, [.int (nI cnt), .ref (a 1), .ref (a 2), .ref (a 3)])), (a 1, .inl (gI g, 5, .inl f0)), (a 2, .inl (gI g, 5, .inl f11)), (a 3, .inl (gI g, 5, .inl f21)), (b 0, .inr (8, [.int (nI cnt), .ref (b 1), .ref (b 2), .ref (b 3)])), (b 1, .inl (gI g, 5, .inl f0)), (b 2, .inl (gI g, 5, .inl f1)), (b 3, .inl (gI g, 5, .inl f2))] := hD
  refine lv_aload_n hx hb dX8_become_22 rfl (lv_at hl 1 rfl) ?_
  refine va_get (ci := 8) (C := RX8) (T := TX8) (N := 4) hx hb hts inlX8 hown hKW.1 hP 4 rfl rfl 2 (by decide) (hts _ wd_3_20) (fun _ h => h) rfl dX8_become_23 ?_
  refine lv_iconst (v := 0) hx hb dX8_become_26 (by decide) ?_
  refine lv_aload_n hx hb dX8_become_27 rfl (lv_at hl 0 rfl) ?_
  refine va_get (ci := 8) (C := RX8) (T := TX8) (N := 4) hx hb hts inlX8 hown hKW.1 hP 0 rfl rfl 2 (by decide) (hts _ wd_3_20) (fun _ h => h) rfl dX8_become_28 ?_
  refine lv_iconst (v := 0) hx hb dX8_become_31 (by decide) ?_
  refine lv_iconst (v := 5) hx hb dX8_become_32 (by decide) ?_
  refine va_copyi hx hb (hml.trans hl.1.symm) hown (hts _ wd_8_19) (hts _ wd_8_9) (hts _ wd_8_10) (hts _ wd_8_11) hKW.1 hP hD hS 6 2 0 0 rfl rfl rfl rfl rfl (by decide) (by decide) (by decide) (by decide) (by decide) (fun _ _ => rfl) (Nat.le_of_ble_eq_true rfl) (Nat.le_of_ble_eq_true (by decide)) dX8_become_33 (fun H locs hP hD hS => ?_)
  have hP : va_P g.1 vwCl [(a 0, .inr (8, [.int (nI cnt), .ref (a 1), .ref (a 2), .ref (a 3)])), (a 1, .inl (gI g, 5, .inl f0)), (a 2, .inl (gI g, 5, .inl (va_cpy f1 f11 0 0 5))), (a 3, .inl (gI g, 5, .inl f21)), (b 0, .inr (8, [.int (nI cnt), .ref (b 1), .ref (b 2), .ref (b 3)])), (b 1, .inl (gI g, 5, .inl f0)), (b 2, .inl (gI g, 5, .inl f1)), (b 3, .inl (gI g, 5, .inl f2))] H := hP
  have hD : va_D A [(a 0, .inr (8, [.int (nI cnt), .ref (a 1), .ref (a 2), .ref (a 3)])), (a 1, .inl (gI g, 5, .inl f0)), (a 2, .inl (gI g, 5, .inl (va_cpy f1 f11 0 0 5))), (a 3, .inl (gI g, 5, .inl f21)), (b 0, .inr (8, [.int (nI cnt), .ref (b 1), .ref (b 2), .ref (b 3)])), (b 1, .inl (gI g, 5, .inl f0)), (b 2, .inl (gI g, 5, .inl f1)), (b 3, .inl (gI g, 5, .inl f2))] := hD
  have hP := k_extP (q := 2) (f := f1) hP rfl (fun j hj => k_cpyF hj)
  have hD := k_extD (q := 2) (e1 := .inl (gI g, 5, .inl f1)) hD rfl
  have hP : va_P g.1 vwCl [(a 0, .inr (8, [.int (nI cnt), .ref (a 1), .ref (a 2), .ref (a 3)])), (a 1, .inl (gI g, 5, .inl f0)), (a 2, .inl (gI g, 5, .inl f1)), (a 3, .inl (gI g, 5, .inl f21)), (b 0, .inr (8, [.int (nI cnt), .ref (b 1), .ref (b 2), .ref (b 3)])), (b 1, .inl (gI g, 5, .inl f0)), (b 2, .inl (gI g, 5, .inl f1)), (b 3, .inl (gI g, 5, .inl f2))] H := hP
  have hD : va_D A [(a 0, .inr (8, [.int (nI cnt), .ref (a 1), .ref (a 2), .ref (a 3)])), (a 1, .inl (gI g, 5, .inl f0)), (a 2, .inl (gI g, 5, .inl f1)), (a 3, .inl (gI g, 5, .inl f21)), (b 0, .inr (8, [.int (nI cnt), .ref (b 1), .ref (b 2), .ref (b 3)])), (b 1, .inl (gI g, 5, .inl f0)), (b 2, .inl (gI g, 5, .inl f1)), (b 3, .inl (gI g, 5, .inl f2))] := hD
  refine lv_aload_n hx hb dX8_become_36 rfl (lv_at hl 1 rfl) ?_
  refine va_get (ci := 8) (C := RX8) (T := TX8) (N := 4) hx hb hts inlX8 hown hKW.1 hP 4 rfl rfl 3 (by decide) (hts _ wd_3_21) (fun _ h => h) rfl dX8_become_37 ?_
  refine lv_iconst (v := 0) hx hb dX8_become_40 (by decide) ?_
  refine lv_aload_n hx hb dX8_become_41 rfl (lv_at hl 0 rfl) ?_
  refine va_get (ci := 8) (C := RX8) (T := TX8) (N := 4) hx hb hts inlX8 hown hKW.1 hP 0 rfl rfl 3 (by decide) (hts _ wd_3_21) (fun _ h => h) rfl dX8_become_42 ?_
  refine lv_iconst (v := 0) hx hb dX8_become_45 (by decide) ?_
  refine lv_iconst (v := 5) hx hb dX8_become_46 (by decide) ?_
  refine va_copyi hx hb (hml.trans hl.1.symm) hown (hts _ wd_8_19) (hts _ wd_8_9) (hts _ wd_8_10) (hts _ wd_8_11) hKW.1 hP hD hS 7 3 0 0 rfl rfl rfl rfl rfl (by decide) (by decide) (by decide) (by decide) (by decide) (fun _ _ => rfl) (Nat.le_of_ble_eq_true rfl) (Nat.le_of_ble_eq_true (by decide)) dX8_become_47 (fun H locs hP hD hS => ?_)
  have hP : va_P g.1 vwCl [(a 0, .inr (8, [.int (nI cnt), .ref (a 1), .ref (a 2), .ref (a 3)])), (a 1, .inl (gI g, 5, .inl f0)), (a 2, .inl (gI g, 5, .inl f1)), (a 3, .inl (gI g, 5, .inl (va_cpy f2 f21 0 0 5))), (b 0, .inr (8, [.int (nI cnt), .ref (b 1), .ref (b 2), .ref (b 3)])), (b 1, .inl (gI g, 5, .inl f0)), (b 2, .inl (gI g, 5, .inl f1)), (b 3, .inl (gI g, 5, .inl f2))] H := hP
  have hD : va_D A [(a 0, .inr (8, [.int (nI cnt), .ref (a 1), .ref (a 2), .ref (a 3)])), (a 1, .inl (gI g, 5, .inl f0)), (a 2, .inl (gI g, 5, .inl f1)), (a 3, .inl (gI g, 5, .inl (va_cpy f2 f21 0 0 5))), (b 0, .inr (8, [.int (nI cnt), .ref (b 1), .ref (b 2), .ref (b 3)])), (b 1, .inl (gI g, 5, .inl f0)), (b 2, .inl (gI g, 5, .inl f1)), (b 3, .inl (gI g, 5, .inl f2))] := hD
  have hP := k_extP (q := 3) (f := f2) hP rfl (fun j hj => k_cpyF hj)
  have hD := k_extD (q := 3) (e1 := .inl (gI g, 5, .inl f2)) hD rfl
  have hP : va_P g.1 vwCl [(a 0, .inr (8, [.int (nI cnt), .ref (a 1), .ref (a 2), .ref (a 3)])), (a 1, .inl (gI g, 5, .inl f0)), (a 2, .inl (gI g, 5, .inl f1)), (a 3, .inl (gI g, 5, .inl f2)), (b 0, .inr (8, [.int (nI cnt), .ref (b 1), .ref (b 2), .ref (b 3)])), (b 1, .inl (gI g, 5, .inl f0)), (b 2, .inl (gI g, 5, .inl f1)), (b 3, .inl (gI g, 5, .inl f2))] H := hP
  have hD : va_D A [(a 0, .inr (8, [.int (nI cnt), .ref (a 1), .ref (a 2), .ref (a 3)])), (a 1, .inl (gI g, 5, .inl f0)), (a 2, .inl (gI g, 5, .inl f1)), (a 3, .inl (gI g, 5, .inl f2)), (b 0, .inr (8, [.int (nI cnt), .ref (b 1), .ref (b 2), .ref (b 3)])), (b 1, .inl (gI g, 5, .inl f0)), (b 2, .inl (gI g, 5, .inl f1)), (b 3, .inl (gI g, 5, .inl f2))] := hD
  exact k_vret () [0, 1, 2, 3, 4, 5, 6, 7] hx hb hr hlk hP hD hS trivial rfl rfl rfl (Nat.le_of_ble_eq_true rfl) (Nat.le_of_ble_eq_true rfl) dX8_become_50
theorem dX1_become_0 : decode cX1_become 0 = .ok (.aload_n 0, 1) := by decide +kernel
theorem dX1_become_1 : decode cX1_become 1 = .ok (.aload_n 1, 1) := by decide +kernel
theorem dX1_become_2 : decode cX1_become 2 = .ok (.getfield 18, 3) := by decide +kernel
theorem dX1_become_5 : decode cX1_become 5 = .ok (.putfield 18, 3) := by decide +kernel
theorem dX1_become_8 : decode cX1_become 8 = .ok (.aload_n 1, 1) := by decide +kernel
theorem dX1_become_9 : decode cX1_become 9 = .ok (.getfield 9, 3) := by decide +kernel
theorem dX1_become_12 : decode cX1_become 12 = .ok (.iconst 0, 1) := by decide +kernel
theorem dX1_become_13 : decode cX1_become 13 = .ok (.aload_n 0, 1) := by decide +kernel
theorem dX1_become_14 : decode cX1_become 14 = .ok (.getfield 9, 3) := by decide +kernel
theorem dX1_become_17 : decode cX1_become 17 = .ok (.iconst 0, 1) := by decide +kernel
theorem dX1_become_18 : decode cX1_become 18 = .ok (.bipush 7, 2) := by decide +kernel
theorem dX1_become_20 : decode cX1_become 20 = .ok (.invokestatic 43, 3) := by decide +kernel
theorem dX1_become_23 : decode cX1_become 23 = .ok (.aload_n 1, 1) := by decide +kernel
theorem dX1_become_24 : decode cX1_become 24 = .ok (.getfield 15, 3) := by decide +kernel
theorem dX1_become_27 : decode cX1_become 27 = .ok (.iconst 0, 1) := by decide +kernel
theorem dX1_become_28 : decode cX1_become 28 = .ok (.aload_n 0, 1) := by decide +kernel
theorem dX1_become_29 : decode cX1_become 29 = .ok (.getfield 15, 3) := by decide +kernel
theorem dX1_become_32 : decode cX1_become 32 = .ok (.iconst 0, 1) := by decide +kernel
theorem dX1_become_33 : decode cX1_become 33 = .ok (.bipush 7, 2) := by decide +kernel
theorem dX1_become_35 : decode cX1_become 35 = .ok (.invokestatic 43, 3) := by decide +kernel
theorem dX1_become_38 : decode cX1_become 38 = .ok (.aload_n 0, 1) := by decide +kernel
theorem dX1_become_39 : decode cX1_become 39 = .ok (.aload_n 1, 1) := by decide +kernel
theorem dX1_become_40 : decode cX1_become 40 = .ok (.getfield 22, 3) := by decide +kernel
theorem dX1_become_43 : decode cX1_become 43 = .ok (.putfield 22, 3) := by decide +kernel
theorem dX1_become_46 : decode cX1_become 46 = .ok (.return_, 1) := by decide +kernel
set_option maxHeartbeats 8000000 in
set_option maxRecDepth 100000 in
theorem c_X1_become (l : Launch) (g : kG) (sz : Nat) (a : Nat → Nat) (b : Nat → Nat) (cnt : Nat) (cnt1 : Nat) (f0 : Nat → Int32) (f1 : Nat → Int32) (f01 : Nat → Int32) (f11 : Nat → Int32) (xi : Int32) (xi1 : Int32) : kMv l g yX1_become cX1_become 2 none 1 0 0 [.ref (a 0), .ref (b 0)] sz [(a 0, .inr (1, [.int (nI cnt1), .ref (a 1), .ref (a 2), .int xi1])), (a 1, .inl (gI g, 7, .inl f01)), (a 2, .inl (gI g, 7, .inl f11)), (b 0, .inr (1, [.int (nI cnt), .ref (b 1), .ref (b 2), .int xi])), (b 1, .inl (gI g, 7, .inl f0)), (b 2, .inl (gI g, 7, .inl f1))] (fun (u : Unit) => True) (fun (u : Unit) => ([(a 0, .inr (1, [.int (nI cnt), .ref (a 1), .ref (a 2), .int xi])), (a 1, .inl (gI g, 7, .inl f0)), (a 2, .inl (gI g, 7, .inl f1)), (b 0, .inr (1, [.int (nI cnt), .ref (b 1), .ref (b 2), .int xi])), (b 1, .inl (gI g, 7, .inl f0)), (b 2, .inl (gI g, 7, .inl f1))] : va_W)) := by
  refine kMv.of (by decide) (Nat.le_of_ble_eq_true rfl) (fun p e s m below meth c A hx hb hr hml hown hts hlk hnm hKW hP hD hS hA ls hl => ?_)
  have hown : s.vm.findClass RX1 = some m.cls := hown
  have hl : lv_has ls 2 [(0, .ref (a 0)), (1, .ref (b 0))] := hl
  refine k_hide hP hS (fun H locs hP hS => ?_)
  refine lv_aload_n hx hb dX1_become_0 rfl (lv_at hl 0 rfl) ?_
  refine lv_aload_n hx hb dX1_become_1 rfl (lv_at hl 1 rfl) ?_
  refine va_get (ci := 1) (C := RX1) (T := TX1) (N := 4) hx hb hts inlX1 hown hKW.1 hP 3 rfl rfl 0 (by decide) (hts _ wd_9_0) (fun _ h => h) rfl dX1_become_2 ?_
  refine va_put (ci := 1) (v := .int (nI cnt)) (C := RX1) (T := TX1) (N := 4) hx hb hts inlX1 tyX1 tyX1_ok nmX1 hown hKW.1 hP hD hS 0 rfl rfl 0 (by decide) (hts _ wd_9_0) (fun _ h => h) rfl (tyX1_ok 0 (by decide)) rfl rfl (Nat.le_of_ble_eq_true rfl) dX1_become_5 (fun H locs hP hD hS => ?_)
  have hP : va_P g.1 vwCl [(a 0, .inr (1, [.int (nI cnt), .ref (a 1), .ref (a 2), .int xi1])), (a 1, .inl (gI g, 7, .inl f01)), (a 2, .inl (gI g, 7, .inl f11)), (b 0, .inr (1, [.int (nI cnt), .ref (b 1), .ref (b 2), .int xi])), (b 1, .inl (gI g, 7, .inl f0)), (b 2, .inl (gI g, 7, .inl f1))] H := hP
  have hD : va_D A [(a 0, .inr (1, [.int (nI cnt), .ref (a 1), .ref (a 2), .int xi1])), (a 1, .inl (gI g, 7, .inl f01)), (a 2, .inl (gI g, 7, .inl f11)), (b 0, .inr (1, [.int (nI cnt), .ref (b 1), .ref (b 2), .int xi])), (b 1, .inl (gI g, 7, .inl f0)), (b 2, .inl (gI g, 7, .inl f1))] := hD
  refine lv_aload_n hx hb dX1_become_8 rfl (lv_at hl 1 rfl) ?_
  refine va_get (ci := 1) (C := RX1) (T := TX1) (N := 4) hx hb hts inlX1 hown hKW.1 hP 3 rfl rfl 1 (by decide) (hts _ wd_4_1) (fun _ h => h) rfl dX1_become_9 ?_
  refine lv_iconst (v := 0) hx hb dX1_become_12 (by decide) ?_
  refine lv_aload_n hx hb dX1_become_13 rfl (lv_at hl 0 rfl) ?_
  refine va_get (ci := 1) (C := RX1) (T := TX1) (N := 4) hx hb hts inlX1 hown hKW.1 hP 0 rfl rfl 1 (by decide) (hts _ wd_4_1) (fun _ h => h) rfl dX1_become_14 ?_
  refine lv_iconst (v := 0) hx hb dX1_become_17 (by decide) ?_
  refine lv_bipush (v := 7) hx hb dX1_become_18 (by decide) ?_
  refine va_copyi hx hb (hml.trans hl.1.symm) hown (hts _ wd_9_1) (hts _ wd_8_9) (hts _ wd_8_10) (hts _ wd_8_11) hKW.1 hP hD hS 4 1 0 0 rfl rfl rfl rfl rfl (by decide) (by decide) (by decide) (by decide) (by decide) (fun _ _ => rfl) (Nat.le_of_ble_eq_true rfl) (Nat.le_of_ble_eq_true (by decide)) dX1_become_20 (fun H locs hP hD hS => ?_)
  have hP : va_P g.1 vwCl [(a 0, .inr (1, [.int (nI cnt), .ref (a 1), .ref (a 2), .int xi1])), (a 1, .inl (gI g, 7, .inl (va_cpy f0 f01 0 0 7))), (a 2, .inl (gI g, 7, .inl f11)), (b 0, .inr (1, [.int (nI cnt), .ref (b 1), .ref (b 2), .int xi])), (b 1, .inl (gI g, 7, .inl f0)), (b 2, .inl (gI g, 7, .inl f1))] H := hP
  have hD : va_D A [(a 0, .inr (1, [.int (nI cnt), .ref (a 1), .ref (a 2), .int xi1])), (a 1, .inl (gI g, 7, .inl (va_cpy f0 f01 0 0 7))), (a 2, .inl (gI g, 7, .inl f11)), (b 0, .inr (1, [.int (nI cnt), .ref (b 1), .ref (b 2), .int xi])), (b 1, .inl (gI g, 7, .inl f0)), (b 2, .inl (gI g, 7, .inl f1))] := hD
  have hP := k_extP (q := 1) (f := f0) hP rfl (fun j hj => k_cpyF hj)
  have hD := k_extD (q := 1) (e1 := .inl (gI g, 7, .inl f0)) hD rfl
  have hP : va_P g.1 vwCl [(a 0, .inr (1, [.int (nI cnt), .ref (a 1), .ref (a 2), .int xi1])), (a 1, .inl (gI g, 7, .inl f0)), (a 2, .inl (gI g, 7, .inl f11)), (b 0, .inr (1, [.int (nI cnt), .ref (b 1), .ref (b 2), .int xi])), (b 1, .inl (gI g, 7, .inl f0)), (b 2, .inl (gI g, 7, .inl f1))] H := hP
  have hD : va_D A [(a 0, .inr (1, [.int (nI cnt), .ref (a 1), .ref (a 2), .int xi1])), (a 1, .inl (gI g, 7, .inl f0)), (a 2, .inl (gI g, 7, .inl f11)), (b 0, .inr (1, [.int (nI cnt), .ref (b 1), .ref (b 2), .int xi])), (b 1, .inl (gI g, 7, .inl f0)), (b 2, .inl (gI g, 7, .inl f1))] := hD
  refine lv_aload_n hx hb dX1_become_23 rfl (lv_at hl 1 rfl) ?_
  refine va_get (ci := 1) (C := RX1) (T := TX1) (N := 4) hx hb hts inlX1 hown hKW.1 hP 3 rfl rfl 2 (by decide) (hts _ wd_4_2) (fun _ h => h) rfl dX1_become_24 ?_
  refine lv_iconst (v := 0) hx hb dX1_become_27 (by decide) ?_
  refine lv_aload_n hx hb dX1_become_28 rfl (lv_at hl 0 rfl) ?_
  refine va_get (ci := 1) (C := RX1) (T := TX1) (N := 4) hx hb hts inlX1 hown hKW.1 hP 0 rfl rfl 2 (by decide) (hts _ wd_4_2) (fun _ h => h) rfl dX1_become_29 ?_
  refine lv_iconst (v := 0) hx hb dX1_become_32 (by decide) ?_
  refine lv_bipush (v := 7) hx hb dX1_become_33 (by decide) ?_
  refine va_copyi hx hb (hml.trans hl.1.symm) hown (hts _ wd_9_1) (hts _ wd_8_9) (hts _ wd_8_10) (hts _ wd_8_11) hKW.1 hP hD hS 5 2 0 0 rfl rfl rfl rfl rfl (by decide) (by decide) (by decide) (by decide) (by decide) (fun _ _ => rfl) (Nat.le_of_ble_eq_true rfl) (Nat.le_of_ble_eq_true (by decide)) dX1_become_35 (fun H locs hP hD hS => ?_)
  have hP : va_P g.1 vwCl [(a 0, .inr (1, [.int (nI cnt), .ref (a 1), .ref (a 2), .int xi1])), (a 1, .inl (gI g, 7, .inl f0)), (a 2, .inl (gI g, 7, .inl (va_cpy f1 f11 0 0 7))), (b 0, .inr (1, [.int (nI cnt), .ref (b 1), .ref (b 2), .int xi])), (b 1, .inl (gI g, 7, .inl f0)), (b 2, .inl (gI g, 7, .inl f1))] H := hP
  have hD : va_D A [(a 0, .inr (1, [.int (nI cnt), .ref (a 1), .ref (a 2), .int xi1])), (a 1, .inl (gI g, 7, .inl f0)), (a 2, .inl (gI g, 7, .inl (va_cpy f1 f11 0 0 7))), (b 0, .inr (1, [.int (nI cnt), .ref (b 1), .ref (b 2), .int xi])), (b 1, .inl (gI g, 7, .inl f0)), (b 2, .inl (gI g, 7, .inl f1))] := hD
  have hP := k_extP (q := 2) (f := f1) hP rfl (fun j hj => k_cpyF hj)
  have hD := k_extD (q := 2) (e1 := .inl (gI g, 7, .inl f1)) hD rfl
  have hP : va_P g.1 vwCl [(a 0, .inr (1, [.int (nI cnt), .ref (a 1), .ref (a 2), .int xi1])), (a 1, .inl (gI g, 7, .inl f0)), (a 2, .inl (gI g, 7, .inl f1)), (b 0, .inr (1, [.int (nI cnt), .ref (b 1), .ref (b 2), .int xi])), (b 1, .inl (gI g, 7, .inl f0)), (b 2, .inl (gI g, 7, .inl f1))] H := hP
  have hD : va_D A [(a 0, .inr (1, [.int (nI cnt), .ref (a 1), .ref (a 2), .int xi1])), (a 1, .inl (gI g, 7, .inl f0)), (a 2, .inl (gI g, 7, .inl f1)), (b 0, .inr (1, [.int (nI cnt), .ref (b 1), .ref (b 2), .int xi])), (b 1, .inl (gI g, 7, .inl f0)), (b 2, .inl (gI g, 7, .inl f1))] := hD
  refine lv_aload_n hx hb dX1_become_38 rfl (lv_at hl 0 rfl) ?_
  refine lv_aload_n hx hb dX1_become_39 rfl (lv_at hl 1 rfl) ?_
  refine va_get (ci := 1) (C := RX1) (T := TX1) (N := 4) hx hb hts inlX1 hown hKW.1 hP 3 rfl rfl 3 (by decide) (hts _ wd_9_2) (fun _ h => h) rfl dX1_become_40 ?_
  refine va_put (ci := 1) (v := .int xi) (C := RX1) (T := TX1) (N := 4) hx hb hts inlX1 tyX1 tyX1_ok nmX1 hown hKW.1 hP hD hS 0 rfl rfl 3 (by decide) (hts _ wd_9_2) (fun _ h => h) rfl (tyX1_ok 3 (by decide)) rfl rfl (Nat.le_of_ble_eq_true rfl) dX1_become_43 (fun H locs hP hD hS => ?_)
  have hP : va_P g.1 vwCl [(a 0, .inr (1, [.int (nI cnt), .ref (a 1), .ref (a 2), .int xi])), (a 1, .inl (gI g, 7, .inl f0)), (a 2, .inl (gI g, 7, .inl f1)), (b 0, .inr (1, [.int (nI cnt), .ref (b 1), .ref (b 2), .int xi])), (b 1, .inl (gI g, 7, .inl f0)), (b 2, .inl (gI g, 7, .inl f1))] H := hP
  have hD : va_D A [(a 0, .inr (1, [.int (nI cnt), .ref (a 1), .ref (a 2), .int xi])), (a 1, .inl (gI g, 7, .inl f0)), (a 2, .inl (gI g, 7, .inl f1)), (b 0, .inr (1, [.int (nI cnt), .ref (b 1), .ref (b 2), .int xi])), (b 1, .inl (gI g, 7, .inl f0)), (b 2, .inl (gI g, 7, .inl f1))] := hD
  exact k_vret () [0, 1, 2, 3, 4, 5] hx hb hr hlk hP hD hS trivial rfl rfl rfl (Nat.le_of_ble_eq_true rfl) (Nat.le_of_ble_eq_true rfl) dX1_become_46
theorem dX0_become_0 : decode cX0_become 0 = .ok (.aload_n 0, 1) := by decide +kernel
theorem dX0_become_1 : decode cX0_become 1 = .ok (.aload_n 1, 1) := by decide +kernel
theorem dX0_become_2 : decode cX0_become 2 = .ok (.getfield 36, 3) := by decide +kernel
theorem dX0_become_5 : decode cX0_become 5 = .ok (.putfield 36, 3) := by decide +kernel
theorem dX0_become_8 : decode cX0_become 8 = .ok (.aload_n 0, 1) := by decide +kernel
theorem dX0_become_9 : decode cX0_become 9 = .ok (.aload_n 1, 1) := by decide +kernel
theorem dX0_become_10 : decode cX0_become 10 = .ok (.getfield 69, 3) := by decide +kernel
theorem dX0_become_13 : decode cX0_become 13 = .ok (.putfield 69, 3) := by decide +kernel
theorem dX0_become_16 : decode cX0_become 16 = .ok (.aload_n 1, 1) := by decide +kernel
theorem dX0_become_17 : decode cX0_become 17 = .ok (.getfield 33, 3) := by decide +kernel
theorem dX0_become_20 : decode cX0_become 20 = .ok (.iconst 0, 1) := by decide +kernel
theorem dX0_become_21 : decode cX0_become 21 = .ok (.aload_n 0, 1) := by decide +kernel
theorem dX0_become_22 : decode cX0_become 22 = .ok (.getfield 33, 3) := by decide +kernel
theorem dX0_become_25 : decode cX0_become 25 = .ok (.iconst 0, 1) := by decide +kernel
theorem dX0_become_26 : decode cX0_become 26 = .ok (.bipush 10, 2) := by decide +kernel
theorem dX0_become_28 : decode cX0_become 28 = .ok (.invokestatic 84, 3) := by decide +kernel
theorem dX0_become_31 : decode cX0_become 31 = .ok (.aload_n 1, 1) := by decide +kernel
theorem dX0_become_32 : decode cX0_become 32 = .ok (.getfield 9, 3) := by decide +kernel
theorem dX0_become_35 : decode cX0_become 35 = .ok (.iconst 0, 1) := by decide +kernel
theorem dX0_become_36 : decode cX0_become 36 = .ok (.aload_n 0, 1) := by decide +kernel
theorem dX0_become_37 : decode cX0_become 37 = .ok (.getfield 9, 3) := by decide +kernel
theorem dX0_become_40 : decode cX0_become 40 = .ok (.iconst 0, 1) := by decide +kernel
theorem dX0_become_41 : decode cX0_become 41 = .ok (.bipush 10, 2) := by decide +kernel
theorem dX0_become_43 : decode cX0_become 43 = .ok (.invokestatic 84, 3) := by decide +kernel
theorem dX0_become_46 : decode cX0_become 46 = .ok (.aload_n 1, 1) := by decide +kernel
theorem dX0_become_47 : decode cX0_become 47 = .ok (.getfield 15, 3) := by decide +kernel
theorem dX0_become_50 : decode cX0_become 50 = .ok (.iconst 0, 1) := by decide +kernel
theorem dX0_become_51 : decode cX0_become 51 = .ok (.aload_n 0, 1) := by decide +kernel
theorem dX0_become_52 : decode cX0_become 52 = .ok (.getfield 15, 3) := by decide +kernel
theorem dX0_become_55 : decode cX0_become 55 = .ok (.iconst 0, 1) := by decide +kernel
theorem dX0_become_56 : decode cX0_become 56 = .ok (.bipush 10, 2) := by decide +kernel
theorem dX0_become_58 : decode cX0_become 58 = .ok (.invokestatic 84, 3) := by decide +kernel
theorem dX0_become_61 : decode cX0_become 61 = .ok (.aload_n 1, 1) := by decide +kernel
theorem dX0_become_62 : decode cX0_become 62 = .ok (.getfield 18, 3) := by decide +kernel
theorem dX0_become_65 : decode cX0_become 65 = .ok (.iconst 0, 1) := by decide +kernel
theorem dX0_become_66 : decode cX0_become 66 = .ok (.aload_n 0, 1) := by decide +kernel
theorem dX0_become_67 : decode cX0_become 67 = .ok (.getfield 18, 3) := by decide +kernel
theorem dX0_become_70 : decode cX0_become 70 = .ok (.iconst 0, 1) := by decide +kernel
theorem dX0_become_71 : decode cX0_become 71 = .ok (.bipush 10, 2) := by decide +kernel
theorem dX0_become_73 : decode cX0_become 73 = .ok (.invokestatic 84, 3) := by decide +kernel
theorem dX0_become_76 : decode cX0_become 76 = .ok (.aload_n 1, 1) := by decide +kernel
theorem dX0_become_77 : decode cX0_become 77 = .ok (.getfield 21, 3) := by decide +kernel
theorem dX0_become_80 : decode cX0_become 80 = .ok (.iconst 0, 1) := by decide +kernel
theorem dX0_become_81 : decode cX0_become 81 = .ok (.aload_n 0, 1) := by decide +kernel
theorem dX0_become_82 : decode cX0_become 82 = .ok (.getfield 21, 3) := by decide +kernel
theorem dX0_become_85 : decode cX0_become 85 = .ok (.iconst 0, 1) := by decide +kernel
theorem dX0_become_86 : decode cX0_become 86 = .ok (.bipush 10, 2) := by decide +kernel
theorem dX0_become_88 : decode cX0_become 88 = .ok (.invokestatic 84, 3) := by decide +kernel
theorem dX0_become_91 : decode cX0_become 91 = .ok (.aload_n 1, 1) := by decide +kernel
theorem dX0_become_92 : decode cX0_become 92 = .ok (.getfield 24, 3) := by decide +kernel
theorem dX0_become_95 : decode cX0_become 95 = .ok (.iconst 0, 1) := by decide +kernel
theorem dX0_become_96 : decode cX0_become 96 = .ok (.aload_n 0, 1) := by decide +kernel
theorem dX0_become_97 : decode cX0_become 97 = .ok (.getfield 24, 3) := by decide +kernel
theorem dX0_become_100 : decode cX0_become 100 = .ok (.iconst 0, 1) := by decide +kernel
theorem dX0_become_101 : decode cX0_become 101 = .ok (.bipush 10, 2) := by decide +kernel
theorem dX0_become_103 : decode cX0_become 103 = .ok (.invokestatic 84, 3) := by decide +kernel
theorem dX0_become_106 : decode cX0_become 106 = .ok (.aload_n 1, 1) := by decide +kernel
theorem dX0_become_107 : decode cX0_become 107 = .ok (.getfield 27, 3) := by decide +kernel
theorem dX0_become_110 : decode cX0_become 110 = .ok (.iconst 0, 1) := by decide +kernel
theorem dX0_become_111 : decode cX0_become 111 = .ok (.aload_n 0, 1) := by decide +kernel
theorem dX0_become_112 : decode cX0_become 112 = .ok (.getfield 27, 3) := by decide +kernel
theorem dX0_become_115 : decode cX0_become 115 = .ok (.iconst 0, 1) := by decide +kernel
theorem dX0_become_116 : decode cX0_become 116 = .ok (.bipush 10, 2) := by decide +kernel
theorem dX0_become_118 : decode cX0_become 118 = .ok (.invokestatic 84, 3) := by decide +kernel
theorem dX0_become_121 : decode cX0_become 121 = .ok (.aload_n 1, 1) := by decide +kernel
theorem dX0_become_122 : decode cX0_become 122 = .ok (.getfield 30, 3) := by decide +kernel
theorem dX0_become_125 : decode cX0_become 125 = .ok (.iconst 0, 1) := by decide +kernel
theorem dX0_become_126 : decode cX0_become 126 = .ok (.aload_n 0, 1) := by decide +kernel
theorem dX0_become_127 : decode cX0_become 127 = .ok (.getfield 30, 3) := by decide +kernel
theorem dX0_become_130 : decode cX0_become 130 = .ok (.iconst 0, 1) := by decide +kernel
theorem dX0_become_131 : decode cX0_become 131 = .ok (.bipush 10, 2) := by decide +kernel
theorem dX0_become_133 : decode cX0_become 133 = .ok (.invokestatic 84, 3) := by decide +kernel
theorem dX0_become_136 : decode cX0_become 136 = .ok (.aload_n 0, 1) := by decide +kernel
theorem dX0_become_137 : decode cX0_become 137 = .ok (.aload_n 1, 1) := by decide +kernel
theorem dX0_become_138 : decode cX0_become 138 = .ok (.getfield 40, 3) := by decide +kernel
theorem dX0_become_141 : decode cX0_become 141 = .ok (.putfield 40, 3) := by decide +kernel
theorem dX0_become_144 : decode cX0_become 144 = .ok (.aload_n 0, 1) := by decide +kernel
theorem dX0_become_145 : decode cX0_become 145 = .ok (.aload_n 1, 1) := by decide +kernel
theorem dX0_become_146 : decode cX0_become 146 = .ok (.getfield 47, 3) := by decide +kernel
theorem dX0_become_149 : decode cX0_become 149 = .ok (.putfield 47, 3) := by decide +kernel
theorem dX0_become_152 : decode cX0_become 152 = .ok (.return_, 1) := by decide +kernel
set_option maxHeartbeats 8000000 in
set_option maxRecDepth 100000 in
theorem c_X0_become (l : Launch) (g : kG) (sz : Nat) (a : Nat → Nat) (b : Nat → Nat) (cnt : Nat) (cnt1 : Nat) (wn : Nat) (wn1 : Nat) (f0 : Nat → Int32) (f1 : Nat → Int32) (f2 : Nat → Int32) (f3 : Nat → Int32) (f4 : Nat → Int32) (f5 : Nat → Int32) (f6 : Nat → Int32) (f7 : Nat → Int32) (f01 : Nat → Int32) (f11 : Nat → Int32) (f21 : Nat → Int32) (f31 : Nat → Int32) (f41 : Nat → Int32) (f51 : Nat → Int32) (f61 : Nat → Int32) (f71 : Nat → Int32) (xa : Int32) (xa1 : Int32) (xd : Int32) (xd1 : Int32) : kMv l g yX0_become cX0_become 2 none 1 0 0 [.ref (a 0), .ref (b 0)] sz [(a 0, .inr (0, [.int (nI cnt1), .ref (a 1), .ref (a 2), .ref (a 3), .ref (a 4), .ref (a 5), .ref (a 6), .ref (a 7), .int xa1, .int xd1, .int (nI wn1), .ref (a 8)])), (a 1, .inl (gI g, 10, .inl f01)), (a 2, .inl (gI g, 10, .inl f11)), (a 3, .inl (gI g, 10, .inl f21)), (a 4, .inl (gI g, 10, .inl f31)), (a 5, .inl (gI g, 10, .inl f41)), (a 6, .inl (gI g, 10, .inl f51)), (a 7, .inl (gI g, 10, .inl f61)), (a 8, .inl (gI g, 10, .inl f71)), (b 0, .inr (0, [.int (nI cnt), .ref (b 1), .ref (b 2), .ref (b 3), .ref (b 4), .ref (b 5), .ref (b 6), .ref (b 7), .int xa, .int xd, .int (nI wn), .ref (b 8)])), (b 1, .inl (gI g, 10, .inl f0)), (b 2, .inl (gI g, 10, .inl f1)), (b 3, .inl (gI g, 10, .inl f2)), (b 4, .inl (gI g, 10, .inl f3)), (b 5, .inl (gI g, 10, .inl f4)), (b 6, .inl (gI g, 10, .inl f5)), (b 7, .inl (gI g, 10, .inl f6)), (b 8, .inl (gI g, 10, .inl f7))] (fun (u : Unit) => True) (fun (u : Unit) => ([(a 0, .inr (0, [.int (nI cnt), .ref (a 1), .ref (a 2), .ref (a 3), .ref (a 4), .ref (a 5), .ref (a 6), .ref (a 7), .int xa, .int xd, .int (nI wn), .ref (a 8)])), (a 1, .inl (gI g, 10, .inl f0)), (a 2, .inl (gI g, 10, .inl f1)), (a 3, .inl (gI g, 10, .inl f2)), (a 4, .inl (gI g, 10, .inl f3)), (a 5, .inl (gI g, 10, .inl f4)), (a 6, .inl (gI g, 10, .inl f5)), (a 7, .inl (gI g, 10, .inl f6)), (a 8, .inl (gI g, 10, .inl f7)), (b 0, .inr (0, [.int (nI cnt), .ref (b 1), .ref (b 2), .ref (b 3), .ref (b 4), .ref (b 5), .ref (b 6), .ref (b 7), .int xa, .int xd, .int (nI wn), .ref (b 8)])), (b 1, .inl (gI g, 10, .inl f0)), (b 2, .inl (gI g, 10, .inl f1)), (b 3, .inl (gI g, 10, .inl f2)), (b 4, .inl (gI g, 10, .inl f3)), (b 5, .inl (gI g, 10, .inl f4)), (b 6, .inl (gI g, 10, .inl f5)), (b 7, .inl (gI g, 10, .inl f6)), (b 8, .inl (gI g, 10, .inl f7))] : va_W)) := by
  refine kMv.of (by decide) (Nat.le_of_ble_eq_true rfl) (fun p e s m below meth c A hx hb hr hml hown hts hlk hnm hKW hP hD hS hA ls hl => ?_)
  have hown : s.vm.findClass RX0 = some m.cls := hown
  have hl : lv_has ls 2 [(0, .ref (a 0)), (1, .ref (b 0))] := hl
  refine k_hide hP hS (fun H locs hP hS => ?_)
  refine lv_aload_n hx hb dX0_become_0 rfl (lv_at hl 0 rfl) ?_
  refine lv_aload_n hx hb dX0_become_1 rfl (lv_at hl 1 rfl) ?_
  refine va_get (ci := 0) (C := RX0) (T := TX0) (N := 12) hx hb hts inlX0 hown hKW.1 hP 9 rfl rfl 0 (by decide) (hts _ wd_9_7) (fun _ h => h) rfl dX0_become_2 ?_
  refine va_put (ci := 0) (v := .int (nI cnt)) (C := RX0) (T := TX0) (N := 12) hx hb hts inlX0 tyX0 tyX0_ok nmX0 hown hKW.1 hP hD hS 0 rfl rfl 0 (by decide) (hts _ wd_9_7) (fun _ h => h) rfl (tyX0_ok 0 (by decide)) rfl rfl (Nat.le_of_ble_eq_true rfl) dX0_become_5 (fun H locs hP hD hS => ?_)
  have hP : va_P g.1 vwCl [(a 0, .inr (0, [.int (nI cnt), .ref (a 1), .ref (a 2), .ref (a 3), .ref (a 4), .ref (a 5), .ref (a 6), .ref (a 7), .int xa1, .int xd1, .int (nI wn1), .ref (a 8)])), (a 1, .inl (gI g, 10, .inl f01)), (a 2, .inl (gI g, 10, .inl f11)), (a 3, .inl (gI g, 10, .inl f21)), (a 4, .inl (gI g, 10, .inl f31)), (a 5, .inl (gI g, 10, .inl f41)), (a 6, .inl (gI g, 10, .inl f51)), (a 7, .inl (gI g, 10, .inl f61)), (a 8, .inl (gI g, 10, .inl f71)), (b 0, .inr (0, [.int (nI cnt), .ref (b 1), .ref (b 2), .ref (b 3), .ref (b 4), .ref (b 5), .ref (b 6), .ref (b 7), .int xa, .int xd, .int (nI wn), .ref (b 8)])), (b 1, .inl (gI g, 10, .inl f0)), (b 2, .inl (gI g, 10, .inl f1)), (b 3, .inl (gI g, 10, .inl f2)), (b 4, .inl (gI g, 10, .inl f3)), (b 5, .inl (gI g, 10, .inl f4)), (b 6, .inl (gI g, 10, .inl f5)), (b 7, .inl (gI g, 10, .inl f6)), (b 8, .inl (gI g, 10, .inl f7))] H := hP
  have hD : va_D A [(a 0, .inr (0, [.int (nI cnt), .ref (a 1), .ref (a 2), .ref (a 3), .ref (a 4), .ref (a 5), .ref (a 6), .ref (a 7), .int xa1, .int xd1, .int (nI wn1), .ref (a 8)])), (a 1, .inl (gI g, 10, .inl f01)), (a 2, .inl (gI g, 10, .inl f11)), (a 3, .inl (gI g, 10, .inl f21)), (a 4, .inl (gI g, 10, .inl f31)), (a 5, .inl (gI g, 10, .inl f41)), (a 6, .inl (gI g, 10, .inl f51)), (a 7, .inl (gI g, 10, .inl f61)), (a 8, .inl (gI g, 10, .inl f71)), (b 0, .inr (0, [.int (nI cnt), .ref (b 1), .ref (b 2), .ref (b 3), .ref (b 4), .ref (b 5), .ref (b 6), .ref (b 7), .int xa, .int xd, .int (nI wn), .ref (b 8)])), (b 1, .inl (gI g, 10, .inl f0)), (b 2, .inl (gI g, 10, .inl f1)), (b 3, .inl (gI g, 10, .inl f2)), (b 4, .inl (gI g, 10, .inl f3)), (b 5, .inl (gI g, 10, .inl f4)), (b 6, .inl (gI g, 10, .inl f5)), (b 7, .inl (gI g, 10, .inl f6)), (b 8, .inl (gI g, 10, .inl f7))] := hD
  refine lv_aload_n hx hb dX0_become_8 rfl (lv_at hl 0 rfl) ?_
  refine lv_aload_n hx hb dX0_become_9 rfl (lv_at hl 1 rfl) ?_
  refine va_get (ci := 0) (C := RX0) (T := TX0) (N := 12) hx hb hts inlX0 hown hKW.1 hP 9 rfl rfl 10 (by decide) (hts _ wd_9_8) (fun _ h => h) rfl dX0_become_10 ?_
  refine va_put (ci := 0) (v := .int (nI wn)) (C := RX0) (T := TX0) (N := 12) hx hb hts inlX0 tyX0 tyX0_ok nmX0 hown hKW.1 hP hD hS 0 rfl rfl 10 (by decide) (hts _ wd_9_8) (fun _ h => h) rfl (tyX0_ok 10 (by decide)) rfl rfl (Nat.le_of_ble_eq_true rfl) dX0_become_13 (fun H locs hP hD hS => ?_)
  have hP : va_P g.1 vwCl [(a 0, .inr (0, [.int (nI cnt), .ref (a 1), .ref (a 2), .ref (a 3), .ref (a 4), .ref (a 5), .ref (a 6), .ref (a 7), .int xa1, .int xd1, .int (nI wn), .ref (a 8)])), (a 1, .inl (gI g, 10, .inl f01)), (a 2, .inl (gI g, 10, .inl f11)), (a 3, .inl (gI g, 10, .inl f21)), (a 4, .inl (gI g, 10, .inl f31)), (a 5, .inl (gI g, 10, .inl f41)), (a 6, .inl (gI g, 10, .inl f51)), (a 7, .inl (gI g, 10, .inl f61)), (a 8, .inl (gI g, 10, .inl f71)), (b 0, .inr (0, [.int (nI cnt), .ref (b 1), .ref (b 2), .ref (b 3), .ref (b 4), .ref (b 5), .ref (b 6), .ref (b 7), .int xa, .int xd, .int (nI wn), .ref (b 8)])), (b 1, .inl (gI g, 10, .inl f0)), (b 2, .inl (gI g, 10, .inl f1)), (b 3, .inl (gI g, 10, .inl f2)), (b 4, .inl (gI g, 10, .inl f3)), (b 5, .inl (gI g, 10, .inl f4)), (b 6, .inl (gI g, 10, .inl f5)), (b 7, .inl (gI g, 10, .inl f6)), (b 8, .inl (gI g, 10, .inl f7))] H := hP
  have hD : va_D A [(a 0, .inr (0, [.int (nI cnt), .ref (a 1), .ref (a 2), .ref (a 3), .ref (a 4), .ref (a 5), .ref (a 6), .ref (a 7), .int xa1, .int xd1, .int (nI wn), .ref (a 8)])), (a 1, .inl (gI g, 10, .inl f01)), (a 2, .inl (gI g, 10, .inl f11)), (a 3, .inl (gI g, 10, .inl f21)), (a 4, .inl (gI g, 10, .inl f31)), (a 5, .inl (gI g, 10, .inl f41)), (a 6, .inl (gI g, 10, .inl f51)), (a 7, .inl (gI g, 10, .inl f61)), (a 8, .inl (gI g, 10, .inl f71)), (b 0, .inr (0, [.int (nI cnt), .ref (b 1), .ref (b 2), .ref (b 3), .ref (b 4), .ref (b 5), .ref (b 6), .ref (b 7), .int xa, .int xd, .int (nI wn), .ref (b 8)])), (b 1, .inl (gI g, 10, .inl f0)), (b 2, .inl (gI g, 10, .inl f1)), (b 3, .inl (gI g, 10, .inl f2)), (b 4, .inl (gI g, 10, .inl f3)), (b 5, .inl (gI g, 10, .inl f4)), (b 6, .inl (gI g, 10, .inl f5)), (b 7, .inl (gI g, 10, .inl f6)), (b 8, .inl (gI g, 10, .inl f7))] := hD
  refine lv_aload_n hx hb dX0_become_16 rfl (lv_at hl 1 rfl) ?_
  refine va_get (ci := 0) (C := RX0) (T := TX0) (N := 12) hx hb hts inlX0 hown hKW.1 hP 9 rfl rfl 11 (by decide) (hts _ wd_4_13) (fun _ h => h) rfl dX0_become_17 ?_
  refine lv_iconst (v := 0) hx hb dX0_become_20 (by decide) ?_
  refine lv_aload_n hx hb dX0_become_21 rfl (lv_at hl 0 rfl) ?_
  refine va_get (ci := 0) (C := RX0) (T := TX0) (N := 12) hx hb hts inlX0 hown hKW.1 hP 0 rfl rfl 11 (by decide) (hts _ wd_4_13) (fun _ h => h) rfl dX0_become_22 ?_
  refine lv_iconst (v := 0) hx hb dX0_become_25 (by decide) ?_
  refine lv_bipush (v := 10) hx hb dX0_become_26 (by decide) ?_
  refine va_copyi hx hb (hml.trans hl.1.symm) hown (hts _ wd_9_9) (hts _ wd_8_9) (hts _ wd_8_10) (hts _ wd_8_11) hKW.1 hP hD hS 17 8 0 0 rfl rfl rfl rfl rfl (by decide) (by decide) (by decide) (by decide) (by decide) (fun _ _ => rfl) (Nat.le_of_ble_eq_true rfl) (Nat.le_of_ble_eq_true (by decide)) dX0_become_28 (fun H locs hP hD hS => ?_)
  have hP : va_P g.1 vwCl [(a 0, .inr (0, [.int (nI cnt), .ref (a 1), .ref (a 2), .ref (a 3), .ref (a 4), .ref (a 5), .ref (a 6), .ref (a 7), .int xa1, .int xd1, .int (nI wn), .ref (a 8)])), (a 1, .inl (gI g, 10, .inl f01)), (a 2, .inl (gI g, 10, .inl f11)), (a 3, .inl (gI g, 10, .inl f21)), (a 4, .inl (gI g, 10, .inl f31)), (a 5, .inl (gI g, 10, .inl f41)), (a 6, .inl (gI g, 10, .inl f51)), (a 7, .inl (gI g, 10, .inl f61)), (a 8, .inl (gI g, 10, .inl (va_cpy f7 f71 0 0 10))), (b 0, .inr (0, [.int (nI cnt), .ref (b 1), .ref (b 2), .ref (b 3), .ref (b 4), .ref (b 5), .ref (b 6), .ref (b 7), .int xa, .int xd, .int (nI wn), .ref (b 8)])), (b 1, .inl (gI g, 10, .inl f0)), (b 2, .inl (gI g, 10, .inl f1)), (b 3, .inl (gI g, 10, .inl f2)), (b 4, .inl (gI g, 10, .inl f3)), (b 5, .inl (gI g, 10, .inl f4)), (b 6, .inl (gI g, 10, .inl f5)), (b 7, .inl (gI g, 10, .inl f6)), (b 8, .inl (gI g, 10, .inl f7))] H := hP
  have hD : va_D A [(a 0, .inr (0, [.int (nI cnt), .ref (a 1), .ref (a 2), .ref (a 3), .ref (a 4), .ref (a 5), .ref (a 6), .ref (a 7), .int xa1, .int xd1, .int (nI wn), .ref (a 8)])), (a 1, .inl (gI g, 10, .inl f01)), (a 2, .inl (gI g, 10, .inl f11)), (a 3, .inl (gI g, 10, .inl f21)), (a 4, .inl (gI g, 10, .inl f31)), (a 5, .inl (gI g, 10, .inl f41)), (a 6, .inl (gI g, 10, .inl f51)), (a 7, .inl (gI g, 10, .inl f61)), (a 8, .inl (gI g, 10, .inl (va_cpy f7 f71 0 0 10))), (b 0, .inr (0, [.int (nI cnt), .ref (b 1), .ref (b 2), .ref (b 3), .ref (b 4), .ref (b 5), .ref (b 6), .ref (b 7), .int xa, .int xd, .int (nI wn), .ref (b 8)])), (b 1, .inl (gI g, 10, .inl f0)), (b 2, .inl (gI g, 10, .inl f1)), (b 3, .inl (gI g, 10, .inl f2)), (b 4, .inl (gI g, 10, .inl f3)), (b 5, .inl (gI g, 10, .inl f4)), (b 6, .inl (gI g, 10, .inl f5)), (b 7, .inl (gI g, 10, .inl f6)), (b 8, .inl (gI g, 10, .inl f7))] := hD
  have hP := k_extP (q := 8) (f := f7) hP rfl (fun j hj => k_cpyF hj)
  have hD := k_extD (q := 8) (e1 := .inl (gI g, 10, .inl f7)) hD rfl
  have hP : va_P g.1 vwCl [(a 0, .inr (0, [.int (nI cnt), .ref (a 1), .ref (a 2), .ref (a 3), .ref (a 4), .ref (a 5), .ref (a 6), .ref (a 7), .int xa1, .int xd1, .int (nI wn), .ref (a 8)])), (a 1, .inl (gI g, 10, .inl f01)), (a 2, .inl (gI g, 10, .inl f11)), (a 3, .inl (gI g, 10, .inl f21)), (a 4, .inl (gI g, 10, .inl f31)), (a 5, .inl (gI g, 10, .inl f41)), (a 6, .inl (gI g, 10, .inl f51)), (a 7, .inl (gI g, 10, .inl f61)), (a 8, .inl (gI g, 10, .inl f7)), (b 0, .inr (0, [.int (nI cnt), .ref (b 1), .ref (b 2), .ref (b 3), .ref (b 4), .ref (b 5), .ref (b 6), .ref (b 7), .int xa, .int xd, .int (nI wn), .ref (b 8)])), (b 1, .inl (gI g, 10, .inl f0)), (b 2, .inl (gI g, 10, .inl f1)), (b 3, .inl (gI g, 10, .inl f2)), (b 4, .inl (gI g, 10, .inl f3)), (b 5, .inl (gI g, 10, .inl f4)), (b 6, .inl (gI g, 10, .inl f5)), (b 7, .inl (gI g, 10, .inl f6)), (b 8, .inl (gI g, 10, .inl f7))] H := hP
  have hD : va_D A [(a 0, .inr (0, [.int (nI cnt), .ref (a 1), .ref (a 2), .ref (a 3), .ref (a 4), .ref (a 5), .ref (a 6), .ref (a 7), .int xa1, .int xd1, .int (nI wn), .ref (a 8)])), (a 1, .inl (gI g, 10, .inl f01)), (a 2, .inl (gI g, 10, .inl f11)), (a 3, .inl (gI g, 10, .inl f21)), (a 4, .inl (gI g, 10, .inl f31)), (a 5, .inl (gI g, 10, .inl f41)), (a 6, .inl (gI g, 10, .inl f51)), (a 7, .inl (gI g, 10, .inl f61)), (a 8, .inl (gI g, 10, .inl f7)), (b 0, .inr (0, [.int (nI cnt), .ref (b 1), .ref (b 2), .ref (b 3), .ref (b 4), .ref (b 5), .ref (b 6), .ref (b 7), .int xa, .int xd, .int (nI wn), .ref (b 8)])), (b 1, .inl (gI g, 10, .inl f0)), (b 2, .inl (gI g, 10, .inl f1)), (b 3, .inl (gI g, 10, .inl f2)), (b 4, .inl (gI g, 10, .inl f3)), (b 5, .inl (gI g, 10, .inl f4)), (b 6, .inl (gI g, 10, .inl f5)), (b 7, .inl (gI g, 10, .inl f6)), (b 8, .inl (gI g, 10, .inl f7))] := hD
  refine lv_aload_n hx hb dX0_become_31 rfl (lv_at hl 1 rfl) ?_
  refine va_get (ci := 0) (C := RX0) (T := TX0) (N := 12) hx hb hts inlX0 hown hKW.1 hP 9 rfl rfl 1 (by decide) (hts _ wd_4_6) (fun _ h => h) rfl dX0_become_32 ?_
  refine lv_iconst (v := 0) hx hb dX0_become_35 (by decide) ?_
  refine lv_aload_n hx hb dX0_become_36 rfl (lv_at hl 0 rfl) ?_
  refine va_get (ci := 0) (C := RX0) (T := TX0) (N := 12) hx hb hts inlX0 hown hKW.1 hP 0 rfl rfl 1 (by decide) (hts _ wd_4_6) (fun _ h => h) rfl dX0_become_37 ?_
  refine lv_iconst (v := 0) hx hb dX0_become_40 (by decide) ?_
  refine lv_bipush (v := 10) hx hb dX0_become_41 (by decide) ?_
  refine va_copyi hx hb (hml.trans hl.1.symm) hown (hts _ wd_9_9) (hts _ wd_8_9) (hts _ wd_8_10) (hts _ wd_8_11) hKW.1 hP hD hS 10 1 0 0 rfl rfl rfl rfl rfl (by decide) (by decide) (by decide) (by decide) (by decide) (fun _ _ => rfl) (Nat.le_of_ble_eq_true rfl) (Nat.le_of_ble_eq_true (by decide)) dX0_become_43 (fun H locs hP hD hS => ?_)
  have hP : va_P g.1 vwCl [(a 0, .inr (0, [.int (nI cnt), .ref (a 1), .ref (a 2), .ref (a 3), .ref (a 4), .ref (a 5), .ref (a 6), .ref (a 7), .int xa1, .int xd1, .int (nI wn), .ref (a 8)])), (a 1, .inl (gI g, 10, .inl (va_cpy f0 f01 0 0 10))), (a 2, .inl (gI g, 10, .inl f11)), (a 3, .inl (gI g, 10, .inl f21)), (a 4, .inl (gI g, 10, .inl f31)), (a 5, .inl (gI g, 10, .inl f41)), (a 6, .inl (gI g, 10, .inl f51)), (a 7, .inl (gI g, 10, .inl f61)), (a 8, .inl (gI g, 10, .inl f7)), (b 0, .inr (0, [.int (nI cnt), .ref (b 1), .ref (b 2), .ref (b 3), .ref (b 4), .ref (b 5), .ref (b 6), .ref (b 7), .int xa, .int xd, .int (nI wn), .ref (b 8)])), (b 1, .inl (gI g, 10, .inl f0)), (b 2, .inl (gI g, 10, .inl f1)), (b 3, .inl (gI g, 10, .inl f2)), (b 4, .inl (gI g, 10, .inl f3)), (b 5, .inl (gI g, 10, .inl f4)), (b 6, .inl (gI g, 10, .inl f5)), (b 7, .inl (gI g, 10, .inl f6)), (b 8, .inl (gI g, 10, .inl f7))] H := hP
  have hD : va_D A [(a 0, .inr (0, [.int (nI cnt), .ref (a 1), .ref (a 2), .ref (a 3), .ref (a 4), .ref (a 5), .ref (a 6), .ref (a 7), .int xa1, .int xd1, .int (nI wn), .ref (a 8)])), (a 1, .inl (gI g, 10, .inl (va_cpy f0 f01 0 0 10))), (a 2, .inl (gI g, 10, .inl f11)), (a 3, .inl (gI g, 10, .inl f21)), (a 4, .inl (gI g, 10, .inl f31)), (a 5, .inl (gI g, 10, .inl f41)), (a 6, .inl (gI g, 10, .inl f51)), (a 7, .inl (gI g, 10, .inl f61)), (a 8, .inl (gI g, 10, .inl f7)), (b 0, .inr (0, [.int (nI cnt), .ref (b 1), .ref (b 2), .ref (b 3), .ref (b 4), .ref (b 5), .ref (b 6), .ref (b 7), .int xa, .int xd, .int (nI wn), .ref (b 8)])), (b 1, .inl (gI g, 10, .inl f0)), (b 2, .inl (gI g, 10, .inl f1)), (b 3, .inl (gI g, 10, .inl f2)), (b 4, .inl (gI g, 10, .inl f3)), (b 5, .inl (gI g, 10, .inl f4)), (b 6, .inl (gI g, 10, .inl f5)), (b 7, .inl (gI g, 10, .inl f6)), (b 8, .inl (gI g, 10, .inl f7))] := hD
  have hP := k_extP (q := 1) (f := f0) hP rfl (fun j hj => k_cpyF hj)
  have hD := k_extD (q := 1) (e1 := .inl (gI g, 10, .inl f0)) hD rfl
  have hP : va_P g.1 vwCl [(a 0, .inr (0, [.int (nI cnt), .ref (a 1), .ref (a 2), .ref (a 3), .ref (a 4), .ref (a 5), .ref (a 6), .ref (a 7), .int xa1, .int xd1, .int (nI wn), .ref (a 8)])), (a 1, .inl (gI g, 10, .inl f0)), (a 2, .inl (gI g, 10, .inl f11)), (a 3, .inl (gI g, 10, .inl f21)), (a 4, .inl (gI g, 10, .inl f31)), (a 5, .inl (gI g, 10, .inl f41)), (a 6, .inl (gI g, 10, .inl f51)), (a 7, .inl (gI g, 10, .inl f61)), (a 8, .inl (gI g, 10, .inl f7)), (b 0, .inr (0, [.int (nI cnt), .ref (b 1), .ref (b 2), .ref (b 3), .ref (b 4), .ref (b 5), .ref (b 6), .ref (b 7), .int xa, .int xd, .int (nI wn), .ref (b 8)])), (b 1, .inl (gI g, 10, .inl f0)), (b 2, .inl (gI g, 10, .inl f1)), (b 3, .inl (gI g, 10, .inl f2)), (b 4, .inl (gI g, 10, .inl f3)), (b 5, .inl (gI g, 10, .inl f4)), (b 6, .inl (gI g, 10, .inl f5)), (b 7, .inl (gI g, 10, .inl f6)), (b 8, .inl (gI g, 10, .inl f7))] H := hP
  have hD : va_D A [(a 0, .inr (0, [.int (nI cnt), .ref (a 1), .ref (a 2), .ref (a 3), .ref (a 4), .ref (a 5), .ref (a 6), .ref (a 7), .int xa1, .int xd1, .int (nI wn), .ref (a 8)])), (a 1, .inl (gI g, 10, .inl f0)), (a 2, .inl (gI g, 10, .inl f11)), (a 3, .inl (gI g, 10, .inl f21)), (a 4, .inl (gI g, 10, .inl f31)), (a 5, .inl (gI g, 10, .inl f41)), (a 6, .inl (gI g, 10, .inl f51)), (a 7, .inl (gI g, 10, .inl f61)), (a 8, .inl (gI g, 10, .inl f7)), (b 0, .inr (0, [.int (nI cnt), .ref (b 1), .ref (b 2), .ref (b 3), .ref (b 4), .ref (b 5), .ref (b 6), .ref (b 7), .int xa, .int xd, .int (nI wn), .ref (b 8)])), (b 1, .inl (gI g, 10, .inl f0)), (b 2, .inl (gI g, 10, .inl f1)), (b 3, .inl (gI g, 10, .inl f2)), (b 4, .inl (gI g, 10, .inl f3)), (b 5, .inl (gI g, 10, .inl f4)), (b 6, .inl (gI g, 10, .inl f5)), (b 7, .inl (gI g, 10, .inl f6)), (b 8, .inl (gI g, 10, .inl f7))] := hD
  refine lv_aload_n hx hb dX0_become_46 rfl (lv_at hl 1 rfl) ?_
  refine va_get (ci := 0) (C := RX0) (T := TX0) (N := 12) hx hb hts inlX0 hown hKW.1 hP 9 rfl rfl 2 (by decide) (hts _ wd_4_7) (fun _ h => h) rfl dX0_become_47 ?_
  refine lv_iconst (v := 0) hx hb dX0_become_50 (by decide) ?_
  refine lv_aload_n hx hb dX0_become_51 rfl (lv_at hl 0 rfl) ?_
  refine va_get (ci := 0) (C := RX0) (T := TX0) (N := 12) hx hb hts inlX0 hown hKW.1 hP 0 rfl rfl 2 (by decide) (hts _ wd_4_7) (fun _ h => h) rfl dX0_become_52 ?_
  refine lv_iconst (v := 0) hx hb dX0_become_55 (by decide) ?_
  refine lv_bipush (v := 10) hx hb dX0_become_56 (by decide) ?_
  refine va_copyi hx hb (hml.trans hl.1.symm) hown (hts _ wd_9_9) (hts _ wd_8_9) (hts _ wd_8_10) (hts _ wd_8_11) hKW.1 hP hD hS 11 2 0 0 rfl rfl rfl rfl rfl (by decide) (by decide) (by decide) (by decide) (by decide) (fun _ _ => rfl) (Nat.le_of_ble_eq_true rfl) (Nat.le_of_ble_eq_true (by decide)) dX0_become_58 (fun H locs hP hD hS => ?_)
  have hP : va_P g.1 vwCl [(a 0, .inr (0, [.int (nI cnt), .ref (a 1), .ref (a 2), .ref (a 3), .ref (a 4), .ref (a 5), .ref (a 6), .ref (a 7), .int xa1, .int xd1, .int (nI wn), .ref (a 8)])), (a 1, .inl (gI g, 10, .inl f0)), (a 2, .inl (gI g, 10, .inl (va_cpy f1 f11 0 0 10))), (a 3, .inl (gI g, 10, .inl f21)), (a 4, .inl (gI g, 10, .inl f31)), (a 5, .inl (gI g, 10, .inl f41)), (a 6, .inl (gI g, 10, .inl f51)), (a 7, .inl (gI g, 10, .inl f61)), (a 8, .inl (gI g, 10, .inl f7)), (b 0, .inr (0, [.int (nI cnt), .ref (b 1), .ref (b 2), .ref (b 3), .ref (b 4), .ref (b 5), .ref (b 6), .ref (b 7), .int xa, .int xd, .int (nI wn), .ref (b 8)])), (b 1, .inl (gI g, 10, .inl f0)), (b 2, .inl (gI g, 10, .inl f1)), (b 3, .inl (gI g, 10, .inl f2)), (b 4, .inl (gI g, 10, .inl f3)), (b 5, .inl (gI g, 10, .inl f4)), (b 6, .inl (gI g, 10, .inl f5)), (b 7, .inl (gI g, 10, .inl f6)), (b 8, .inl (gI g, 10, .inl f7))] H := hP
  have hD : va_D A [(a 0, .inr (0, [.int (nI cnt), .ref (a 1), .ref (a 2), .ref (a 3), .ref (a 4), .ref (a 5), .ref (a 6), .ref (a 7), .int xa1, .int xd1, .int (nI wn), .ref (a 8)])), (a 1, .inl (gI g, 10, .inl f0)), (a 2, .inl (gI g, 10, .inl (va_cpy f1 f11 0 0 10))), (a 3, .inl (gI g, 10, .inl f21)), (a 4, .inl (gI g, 10, .inl f31)), (a 5, .inl (gI g, 10, .inl f41)), (a 6, .inl (gI g, 10, .inl f51)), (a 7, .inl (gI g, 10, .inl f61)), (a 8, .inl (gI g, 10, .inl f7)), (b 0, .inr (0, [.int (nI cnt), .ref (b 1), .ref (b 2), .ref (b 3), .ref (b 4), .ref (b 5), .ref (b 6), .ref (b 7), .int xa, .int xd, .int (nI wn), .ref (b 8)])), (b 1, .inl (gI g, 10, .inl f0)), (b 2, .inl (gI g, 10, .inl f1)), (b 3, .inl (gI g, 10, .inl f2)), (b 4, .inl (gI g, 10, .inl f3)), (b 5, .inl (gI g, 10, .inl f4)), (b 6, .inl (gI g, 10, .inl f5)), (b 7, .inl (gI g, 10, .inl f6)), (b 8, .inl (gI g, 10, .inl f7))] := hD
  have hP := k_extP (q := 2) (f := f1) hP rfl (fun j hj => k_cpyF hj)
  have hD := k_extD (q := 2) (e1 := .inl (gI g, 10, .inl f1)) hD rfl
  have hP : va_P g.1 vwCl [(a 0, .inr (0, [.int (nI cnt), .ref (a 1), .ref (a 2), .ref (a 3), .ref (a 4), .ref (a 5), .ref (a 6), .ref (a 7), .int xa1, .int xd1, .int (nI wn), .ref (a 8)])), (a 1, .inl (gI g, 10, .inl f0)), (a 2, .inl (gI g, 10, .inl f1)), (a 3, .inl (gI g, 10, .inl f21)), (a 4, .inl (gI g, 10, .inl f31)), (a 5, .inl (gI g, 10, .inl f41)), (a 6, .inl (gI g, 10, .inl f51)), (a 7, .inl (gI g, 10, .inl f61)), (a 8, .inl (gI g, 10, .inl f7)), (b 0, .inr (0, [.int (nI cnt), .ref (b 1), .ref (b 2), .ref (b 3), .ref (b 4), .ref (b 5), .ref (b 6), .ref (b 7), .int xa, .int xd, .int (nI wn), .ref (b 8)])), (b 1, .inl (gI g, 10, .inl f0)), (b 2, .inl (gI g, 10, .inl f1)), (b 3, .inl (gI g, 10, .inl f2)), (b 4, .inl (gI g, 10, .inl f3)), (b 5, .inl (gI g, 10, .inl f4)), (b 6, .inl (gI g, 10, .inl f5)), (b 7, .inl (gI g, 10, .inl f6)), (b 8, .inl (gI g, 10, .inl f7))] H := hP
  have hD : va_D A [(a 0, .inr (0, [.int (nI cnt), .ref (a 1), .ref (a 2), .ref (a 3), .ref (a 4), .ref (a 5), .ref (a 6), .ref (a 7), .int xa1, .int xd1, .int (nI wn), .ref (a 8)])), (a 1, .inl (gI g, 10, .inl f0)), (a 2, .inl (gI g, 10, .inl f1)), (a 3, .inl (gI g, 10, .inl f21)), (a 4, .inl (gI g, 10, .inl f31)), (a 5, .inl (gI g, 10, .inl f41)), (a 6, .inl (gI g, 10, .inl f51)), (a 7, .inl (gI g, 10, .inl f61)), (a 8, .inl (gI g, 10, .inl f7)), (b 0, .inr (0, [.int (nI cnt), .ref (b 1), .ref (b 2), .ref (b 3), .ref (b 4), .ref (b 5), .ref (b 6), .ref (b 7), .int xa, .int xd, .int (nI wn), .ref (b 8)])), (b 1, .inl (gI g, 10, .inl f0)), (b 2, .inl (gI g, 10, .inl f1)), (b 3, .inl (gI g, 10, .inl f2)), (b 4, .inl (gI g, 10, .inl f3)), (b 5, .inl (gI g, 10, .inl f4)), (b 6, .inl (gI g, 10, .inl f5)), (b 7, .inl (gI g, 10, .inl f6)), (b 8, .inl (gI g, 10, .inl f7))] := hD
  refine lv_aload_n hx hb dX0_become_61 rfl (lv_at hl 1 rfl) ?_
  refine va_get (ci := 0) (C := RX0) (T := TX0) (N := 12) hx hb hts inlX0 hown hKW.1 hP 9 rfl rfl 3 (by decide) (hts _ wd_4_8) (fun _ h => h) rfl dX0_become_62 ?_
  refine lv_iconst (v := 0) hx hb dX0_become_65 (by decide) ?_
  refine lv_aload_n hx hb dX0_become_66 rfl (lv_at hl 0 rfl) ?_
  refine va_get (ci := 0) (C := RX0) (T := TX0) (N := 12) hx hb hts inlX0 hown hKW.1 hP 0 rfl rfl 3 (by decide) (hts _ wd_4_8) (fun _ h => h) rfl dX0_become_67 ?_
  refine lv_iconst (v := 0) hx hb dX0_become_70 (by decide) ?_
  refine lv_bipush (v := 10) hx hb dX0_become_71 (by decide) ?_
  refine va_copyi hx hb (hml.trans hl.1.symm) hown (hts _ wd_9_9) (hts _ wd_8_9) (hts _ wd_8_10) (hts _ wd_8_11) hKW.1 hP hD hS 12 3 0 0 rfl rfl rfl rfl rfl (by decide) (by decide) (by decide) (by decide) (by decide) (fun _ _ => rfl) (Nat.le_of_ble_eq_true rfl) (Nat.le_of_ble_eq_true (by decide)) dX0_become_73 (fun H locs hP hD hS => ?_)
  have hP : va_P g.1 vwCl [(a 0, .inr (0, [.int (nI cnt), .ref (a 1), .ref (a 2), .ref (a 3), .ref (a 4), .ref (a 5), .ref (a 6), .ref (a 7), .int xa1, .int xd1, .int (nI wn), .ref (a 8)])), (a 1, .inl (gI g, 10, .inl f0)), (a 2, .inl (gI g, 10, .inl f1)), (a 3, .inl (gI g, 10, .inl (va_cpy f2 f21 0 0 10))), (a 4, .inl (gI g, 10, .inl f31)), (a 5, .inl (gI g, 10, .inl f41)), (a 6, .inl (gI g, 10, .inl f51)), (a 7, .inl (gI g, 10, .inl f61)), (a 8, .inl (gI g, 10, .inl f7)), (b 0, .inr (0, [.int (nI cnt), .ref (b 1), .ref (b 2), .ref (b 3), .ref (b 4), .ref (b 5), .ref (b 6), .ref (b 7), .int xa, .int xd, .int (nI wn), .ref (b 8)])), (b 1, .inl (gI g, 10, .inl f0)), (b 2, .inl (gI g, 10, .inl f1)), (b 3, .inl (gI g, 10, .inl f2)), (b 4, .inl (gI g, 10, .inl f3)), (b 5, .inl (gI g, 10, .inl f4)), (b 6, .inl (gI g, 10, .inl f5)), (b 7, .inl (gI g, 10, .inl f6)), (b 8, .inl (gI g, 10, .inl f7))] H := hP
  have hD : va_D A [(a 0, .inr (0, [.int (nI cnt), .ref (a 1), .ref (a 2), .ref (a 3), .ref (a 4), .ref (a 5), .ref (a 6), .ref (a 7), .int xa1, .int xd1, .int (nI wn), .ref (a 8)])), (a 1, .inl (gI g, 10, .inl f0)), (a 2, .inl (gI g, 10, .inl f1)), (a 3, .inl (gI g, 10, .inl (va_cpy f2 f21 0 0 10))), (a 4, .inl (gI g, 10, .inl f31)), (a 5, .inl (gI g, 10, .inl f41)), (a 6, .inl (gI g, 10, .inl f51)), (a 7, .inl (gI g, 10, .inl f61)), (a 8, .inl (gI g, 10, .inl f7)), (b 0, .inr (0, [.int (nI cnt), .ref (b 1), .ref (b 2), .ref (b 3), .ref (b 4), .ref (b 5), .ref (b 6), .ref (b 7), .int xa, .int xd, .int (nI wn), .ref (b 8)])), (b 1, .inl (gI g, 10, .inl f0)), (b 2, .inl (gI g, 10, .inl f1)), (b 3, .inl (gI g, 10, .inl f2)), (b 4, .inl (gI g, 10, .inl f3)), (b 5, .inl (gI g, 10, .inl f4)), (b 6, .inl (gI g, 10, .inl f5)), (b 7, .inl (gI g, 10, .inl f6)), (b 8, .inl (gI g, 10, .inl f7))] := hD
  have hP := k_extP (q := 3) (f := f2) hP rfl (fun j hj => k_cpyF hj)
  have hD := k_extD (q := 3) (e1 := .inl (gI g, 10, .inl f2)) hD rfl
  have hP : va_P g.1 vwCl [(a 0, .inr (0, [.int (nI cnt), .ref (a 1), .ref (a 2), .ref (a 3), .ref (a 4), .ref (a 5), .ref (a 6), .ref (a 7), .int xa1, .int xd1, .int (nI wn), .ref (a 8)])), (a 1, .inl (gI g, 10, .inl f0)), (a 2, .inl (gI g, 10, .inl f1)), (a 3, .inl (gI g, 10, .inl f2)), (a 4, .inl (gI g, 10, .inl f31)), (a 5, .inl (gI g, 10, .inl f41)), (a 6, .inl (gI g, 10, .inl f51)), (a 7, .inl (gI g, 10, .inl f61)), (a 8, .inl (gI g, 10, .inl f7)), (b 0, .inr (0, [.int (nI cnt), .ref (b 1), .ref (b 2), .ref (b 3), .ref (b 4), .ref (b 5), .ref (b 6), .ref (b 7), .int xa, .int xd, .int (nI wn), .ref (b 8)])), (b 1, .inl (gI g, 10, .inl f0)), (b 2, .inl (gI g, 10, .inl f1)), (b 3, .inl (gI g, 10, .inl f2)), (b 4, .inl (gI g, 10, .inl f3)), (b 5, .inl (gI g, 10, .inl f4)), (b 6, .inl (gI g, 10, .inl f5)), (b 7, .inl (gI g, 10, .inl f6)), (b 8, .inl (gI g, 10, .inl f7))] H := hP
  have hD : va_D A [(a 0, .inr (0, [.int (nI cnt), .ref (a 1), .ref (a 2), .ref (a 3), .ref (a 4), .ref (a 5), .ref (a 6), .ref (a 7), .int xa1, .int xd1, .int (nI wn), .ref (a 8)])), (a 1, .inl (gI g, 10, .inl f0)), (a 2, .inl (gI g, 10, .inl f1)), (a 3, .inl (gI g, 10, .inl f2)), (a 4, .inl (gI g, 10, .inl f31)), (a 5, .inl (gI g, 10, .inl f41)), (a 6, .inl (gI g, 10, .inl f51)), (a 7, .inl (gI g, 10, .inl f61)), (a 8, .inl (gI g, 10, .inl f7)), (b 0, .inr (0, [.int (nI cnt), .ref (b 1), .ref (b 2), .ref (b 3), .ref (b 4), .ref (b 5), .ref (b 6), .ref (b 7), .int xa, .int xd, .int (nI wn), .ref (b 8)])), (b 1, .inl (gI g, 10, .inl f0)), (b 2, .inl (gI g, 10, .inl f1)), (b 3, .inl (gI g, 10, .inl f2)), (b 4, .inl (gI g, 10, .inl f3)), (b 5, .inl (gI g, 10, .inl f4)), (b 6, .inl (gI g, 10, .inl f5)), (b 7, .inl (gI g, 10, .inl f6)), (b 8, .inl (gI g, 10, .inl f7))] := hD
  refine lv_aload_n hx hb dX0_become_76 rfl (lv_at hl 1 rfl) ?_
  refine va_get (ci := 0) (C := RX0) (T := TX0) (N := 12) hx hb hts inlX0 hown hKW.1 hP 9 rfl rfl 4 (by decide) (hts _ wd_4_9) (fun _ h => h) rfl dX0_become_77 ?_
  refine lv_iconst (v := 0) hx hb dX0_become_80 (by decide) ?_
  refine lv_aload_n hx hb dX0_become_81 rfl (lv_at hl 0 rfl) ?_
  refine va_get (ci := 0) (C := RX0) (T := TX0) (N := 12) hx hb hts inlX0 hown hKW.1 hP 0 rfl rfl 4 (by decide) (hts _ wd_4_9) (fun _ h => h) rfl dX0_become_82 ?_
  refine lv_iconst (v := 0) hx hb dX0_become_85 (by decide) ?_
  refine lv_bipush (v := 10) hx hb dX0_become_86 (by decide) ?_
  refine va_copyi hx hb (hml.trans hl.1.symm) hown (hts _ wd_9_9) (hts _ wd_8_9) (hts _ wd_8_10) (hts _ wd_8_11) hKW.1 hP hD hS 13 4 0 0 rfl rfl rfl rfl rfl (by decide) (by decide) (by decide) (by decide) (by decide) (fun _ _ => rfl) (Nat.le_of_ble_eq_true rfl) (Nat.le_of_ble_eq_true (by decide)) dX0_become_88 (fun H locs hP hD hS => ?_)
  have hP : va_P g.1 vwCl [(a 0, .inr (0, [.int (nI cnt), .ref (a 1), .ref (a 2), .ref (a 3), .ref (a 4), .ref (a 5), .ref (a 6), .ref (a 7), .int xa1, .int xd1, .int (nI wn), .ref (a 8)])), (a 1, .inl (gI g, 10, .inl f0)), (a 2, .inl (gI g, 10, .inl f1)), (a 3, .inl (gI g, 10, .inl f2)), (a 4, .inl (gI g, 10, .inl (va_cpy f3 f31 0 0 10))), (a 5, .inl (gI g, 10, .inl f41)), (a 6, .inl (gI g, 10, .inl f51)), (a 7, .inl (gI g, 10, .inl f61)), (a 8, .inl (gI g, 10, .inl f7)), (b 0, .inr (0, [.int (nI cnt), .ref (b 1), .ref (b 2), .ref (b 3), .ref (b 4), .ref (b 5), .ref (b 6), .ref (b 7), .int xa, .int xd, .int (nI wn), .ref (b 8)])), (b 1, .inl (gI g, 10, .inl f0)), (b 2, .inl (gI g, 10, .inl f1)), (b 3, .inl (gI g, 10, .inl f2)), (b 4, .inl (gI g, 10, .inl f3)), (b 5, .inl (gI g, 10, .inl f4)), (b 6, .inl (gI g, 10, .inl f5)), (b 7, .inl (gI g, 10, .inl f6)), (b 8, .inl (gI g, 10, .inl f7))] H := hP
  have hD : va_D A [(a 0, .inr (0, [.int (nI cnt), .ref (a 1), .ref (a 2), .ref (a 3), .ref (a 4), .ref (a 5), .ref (a 6), .ref (a 7), .int xa1, .int xd1, .int (nI wn), .ref (a 8)])), (a 1, .inl (gI g, 10, .inl f0)), (a 2, .inl (gI g, 10, .inl f1)), (a 3, .inl (gI g, 10, .inl f2)), (a 4, .inl (gI g, 10, .inl (va_cpy f3 f31 0 0 10))), (a 5, .inl (gI g, 10, .inl f41)), (a 6, .inl (gI g, 10, .inl f51)), (a 7, .inl (gI g, 10, .inl f61)), (a 8, .inl (gI g, 10, .inl f7)), (b 0, .inr (0, [.int (nI cnt), .ref (b 1), .ref (b 2), .ref (b 3), .ref (b 4), .ref (b 5), .ref (b 6), .ref (b 7), .int xa, .int xd, .int (nI wn), .ref (b 8)])), (b 1, .inl (gI g, 10, .inl f0)), (b 2, .inl (gI g, 10, .inl f1)), (b 3, .inl (gI g, 10, .inl f2)), (b 4, .inl (gI g, 10, .inl f3)), (b 5, .inl (gI g, 10, .inl f4)), (b 6, .inl (gI g, 10, .inl f5)), (b 7, .inl (gI g, 10, .inl f6)), (b 8, .inl (gI g, 10, .inl f7))] := hD
  have hP := k_extP (q := 4) (f := f3) hP rfl (fun j hj => k_cpyF hj)
  have hD := k_extD (q := 4) (e1 := .inl (gI g, 10, .inl f3)) hD rfl
  have hP : va_P g.1 vwCl [(a 0, .inr (0, [.int (nI cnt), .ref (a 1), .ref (a 2), .ref (a 3), .ref (a 4), .ref (a 5), .ref (a 6), .ref (a 7), .int xa1, .int xd1, .int (nI wn), .ref (a 8)])), (a 1, .inl (gI g, 10, .inl f0)), (a 2, .inl (gI g, 10, .inl f1)), (a 3, .inl (gI g, 10, .inl f2)), (a 4, .inl (gI g, 10, .inl f3)), (a 5, .inl (gI g, 10, .inl f41)), (a 6, .inl (gI g, 10, .inl f51)), (a 7, .inl (gI g, 10, .inl f61)), (a 8, .inl (gI g, 10, .inl f7)), (b 0, .inr (0, [.int (nI cnt), .ref (b 1), .ref (b 2), .ref (b 3), .ref (b 4), .ref (b 5), .ref (b 6), .ref (b 7), .int xa, .int xd, .int (nI wn), .ref (b 8)])), (b 1, .inl (gI g, 10, .inl f0)), (b 2, .inl (gI g, 10, .inl f1)), (b 3, .inl (gI g, 10, .inl f2)), (b 4, .inl (gI g, 10, .inl f3)), (b 5, .inl (gI g, 10, .inl f4)), (b 6, .inl (gI g, 10, .inl f5)), (b 7, .inl (gI g, 10, .inl f6)), (b 8, .inl (gI g, 10, .inl f7))] H := hP
  have hD : va_D A [(a 0, .inr (0, [.int (nI cnt), .ref (a 1), .ref (a 2), .ref (a 3), .ref (a 4), .ref (a 5), .ref (a 6), .ref (a 7), .int xa1, .int xd1, .int (nI wn), .ref (a 8)])), (a 1, .inl (gI g, 10, .inl f0)), (a 2, .inl (gI g, 10, .inl f1)), (a 3, .inl (gI g, 10, .inl f2)), (a 4, .inl (gI g, 10, .inl f3)), (a 5, .inl (gI g, 10, .inl f41)), (a 6, .inl (gI g, 10, .inl f51)), (a 7, .inl (gI g, 10, .inl f61)), (a 8, .inl (gI g, 10, .inl f7)), (b 0, .inr (0, [.int (nI cnt), .ref (b 1), .ref (b 2), .ref (b 3), .ref (b 4), .ref (b 5), .ref (b 6), .ref (b 7), .int xa, .int xd, .int (nI wn), .ref (b 8)])), (b 1, .inl (gI g, 10, .inl f0)), (b 2, .inl (gI g, 10, .inl f1)), (b 3, .inl (gI g, 10, .inl f2)), (b 4, .inl (gI g, 10, .inl f3)), (b 5, .inl (gI g, 10, .inl f4)), (b 6, .inl (gI g, 10, .inl f5)), (b 7, .inl (gI g, 10, .inl f6)), (b 8, .inl (gI g, 10, .inl f7))] := hD
  refine lv_aload_n hx hb dX0_become_91 rfl (lv_at hl 1 rfl) ?_
  refine va_get (ci := 0) (C := RX0) (T := TX0) (N := 12) hx hb hts inlX0 hown hKW.1 hP 9 rfl rfl 5 (by decide) (hts _ wd_4_10) (fun _ h => h) rfl dX0_become_92 ?_
  refine lv_iconst (v := 0) hx hb dX0_become_95 (by decide) ?_
  refine lv_aload_n hx hb dX0_become_96 rfl (lv_at hl 0 rfl) ?_
  refine va_get (ci := 0) (C := RX0) (T := TX0) (N := 12) hx hb hts inlX0 hown hKW.1 hP 0 rfl rfl 5 (by decide) (hts _ wd_4_10) (fun _ h => h) rfl dX0_become_97 ?_
  refine lv_iconst (v := 0) hx hb dX0_become_100 (by decide) ?_
  refine lv_bipush (v := 10) hx hb dX0_become_101 (by decide) ?_
  refine va_copyi hx hb (hml.trans hl.1.symm) hown (hts _ wd_9_9) (hts _ wd_8_9) (hts _ wd_8_10) (hts _ wd_8_11) hKW.1 hP hD hS 14 5 0 0 rfl rfl rfl rfl rfl (by decide) (by decide) (by decide) (by decide) (by decide) (fun _ _ => rfl) (Nat.le_of_ble_eq_true rfl) (Nat.le_of_ble_eq_true (by decide)) dX0_become_103 (fun H locs hP hD hS => ?_)
  have hP : va_P g.1 vwCl [(a 0, .inr (0, [.int (nI cnt), .ref (a 1), .ref (a 2), .ref (a 3), .ref (a 4), .ref (a 5), .ref (a 6), .ref (a 7), .int xa1, .int xd1, .int (nI wn), .ref (a 8)])), (a 1, .inl (gI g, 10, .inl f0)), (a 2, .inl (gI g, 10, .inl f1)), (a 3, .inl (gI g, 10, .inl f2)), (a 4, .inl (gI g, 10, .inl f3)), (a 5, .inl (gI g, 10, .inl (va_cpy f4 f41 0 0 10))), (a 6, .inl (gI g, 10, .inl f51)), (a 7, .inl (gI g, 10, .inl f61)), (a 8, .inl (gI g, 10, .inl f7)), (b 0, .inr (0, [.int (nI cnt), .ref (b 1), .ref (b 2), .ref (b 3), .ref (b 4), .ref (b 5), .ref (b 6), .ref (b 7), .int xa, .int xd, .int (nI wn), .ref (b 8)])), (b 1, .inl (gI g, 10, .inl f0)), (b 2, .inl (gI g, 10, .inl f1)), (b 3, .inl (gI g, 10, .inl f2)), (b 4, .inl (gI g, 10, .inl f3)), (b 5, .inl (gI g, 10, .inl f4)), (b 6, .inl (gI g, 10, .inl f5)), (b 7, .inl (gI g, 10, .inl f6)), (b 8, .inl (gI g, 10, .inl f7))] H := hP
  have hD : va_D A [(a 0, .inr (0, [.int (nI cnt), .ref (a 1), .ref (a 2), .ref (a 3), .ref (a 4), .ref (a 5), .ref (a 6), .ref (a 7), .int xa1, .int xd1, .int (nI wn), .ref (a 8)])), (a 1, .inl (gI g, 10, .inl f0)), (a 2, .inl (gI g, 10, .inl f1)), (a 3, .inl (gI g, 10, .inl f2)), (a 4, .inl (gI g, 10, .inl f3)), (a 5, .inl (gI g, 10, .inl (va_cpy f4 f41 0 0 10))), (a 6, .inl (gI g, 10, .inl f51)), (a 7, .inl (gI g, 10, .inl f61)), (a 8, .inl (gI g, 10, .inl f7)), (b 0, .inr (0, [.int (nI cnt), .ref (b 1), .ref (b 2), .ref (b 3), .ref (b 4), .ref (b 5), .ref (b 6), .ref (b 7), .int xa, .int xd, .int (nI wn), .ref (b 8)])), (b 1, .inl (gI g, 10, .inl f0)), (b 2, .inl (gI g, 10, .inl f1)), (b 3, .inl (gI g, 10, .inl f2)), (b 4, .inl (gI g, 10, .inl f3)), (b 5, .inl (gI g, 10, .inl f4)), (b 6, .inl (gI g, 10, .inl f5)), (b 7, .inl (gI g, 10, .inl f6)), (b 8, .inl (gI g, 10, .inl f7))] := hD
  have hP := k_extP (q := 5) (f := f4) hP rfl (fun j hj => k_cpyF hj)
  have hD := k_extD (q := 5) (e1 := .inl (gI g, 10, .inl f4)) hD rfl
  have hP : va_P g.1 vwCl [(a 0, .inr (0, [.int (nI cnt), .ref (a 1), .ref (a 2), .ref (a 3), .ref (a 4), .ref (a 5), .ref (a 6), .ref (a 7), .int xa1, .int xd1, .int (nI wn), .ref (a 8)])), (a 1, .inl (gI g, 10, .inl f0)), (a 2, .inl (gI g, 10, .inl f1)), (a 3, .inl (gI g, 10, .inl f2)), (a 4, .inl (gI g, 10, .inl f3)), (a 5, .inl (gI g, 10, .inl f4)), (a 6, .inl (gI g, 10, .inl f51)), (a 7, .inl (gI g, 10, .inl f61)), (a 8, .inl (gI g, 10, .inl f7)), (b 0, .inr (0, [.int (nI cnt), .ref (b 1), .ref (b 2), .ref (b 3), .ref (b 4), .ref (b 5), .ref (b 6), .ref (b 7), .int xa, .int xd, .int (nI wn), .ref (b 8)])), (b 1, .inl (gI g, 10, .inl f0)), (b 2, .inl (gI g, 10, .inl f1)), (b 3, .inl (gI g, 10, .inl f2)), (b 4, .inl (gI g, 10, .inl f3)), (b 5, .inl (gI g, 10, .inl f4)), (b 6, .inl (gI g, 10, .inl f5)), (b 7, .inl (gI g, 10, .inl f6)), (b 8, .inl (gI g, 10, .inl f7))] H := hP
  have hD : va_D A [(a 0, .inr (0, [.int (nI cnt), .ref (a 1), .ref (a 2), .ref (a 3), .ref (a 4), .ref (a 5), .ref (a 6), .ref (a 7), .int xa1, .int xd1, .int (nI wn), .ref (a 8)])), (a 1, .inl (gI g, 10, .inl f0)), (a 2, .inl (gI g, 10, .inl f1)), (a 3, .inl (gI g, 10, .inl f2)), (a 4, .inl (gI g, 10, .inl f3)), (a 5, .inl (gI g, 10, .inl f4)), (a 6, .inl (gI g, 10, .inl f51)), (a 7, .inl (gI g, 10, .inl f61)), (a 8, .inl (gI g, 10, .inl f7)), (b 0, .inr (0, [.int (nI cnt), .ref (b 1), .ref (b 2), .ref (b 3), .ref (b 4), .ref (b 5), .ref (b 6), .ref (b 7), .int xa, .int xd, .int (nI wn), .ref (b 8)])), (b 1, .inl (gI g, 10, .inl f0)), (b 2, .inl (gI g, 10, .inl f1)), (b 3, .inl (gI g, 10, .inl f2)), (b 4, .inl (gI g, 10, .inl f3)), (b 5, .inl (gI g, 10, .inl f4)), (b 6, .inl (gI g, 10, .inl f5)), (b 7, .inl (gI g, 10, .inl f6)), (b 8, .inl (gI g, 10, .inl f7))] := hD
  refine lv_aload_n hx hb dX0_become_106 rfl (lv_at hl 1 rfl) ?_
  refine va_get (ci := 0) (C := RX0) (T := TX0) (N := 12) hx hb hts inlX0 hown hKW.1 hP 9 rfl rfl 6 (by decide) (hts _ wd_4_11) (fun _ h => h) rfl dX0_become_107 ?_
  refine lv_iconst (v := 0) hx hb dX0_become_110 (by decide) ?_
  refine lv_aload_n hx hb dX0_become_111 rfl (lv_at hl 0 rfl) ?_
  refine va_get (ci := 0) (C := RX0) (T := TX0) (N := 12) hx hb hts inlX0 hown hKW.1 hP 0 rfl rfl 6 (by decide) (hts _ wd_4_11) (fun _ h => h) rfl dX0_become_112 ?_
  refine lv_iconst (v := 0) hx hb dX0_become_115 (by decide) ?_
  refine lv_bipush (v := 10) hx hb dX0_become_116 (by decide) ?_
  refine va_copyi hx hb (hml.trans hl.1.symm) hown (hts _ wd_9_9) (hts _ wd_8_9) (hts _ wd_8_10) (hts _ wd_8_11) hKW.1 hP hD hS 15 6 0 0 rfl rfl rfl rfl rfl (by decide) (by decide) (by decide) (by decide) (by decide) (fun _ _ => rfl) (Nat.le_of_ble_eq_true rfl) (Nat.le_of_ble_eq_true (by decide)) dX0_become_118 (fun H locs hP hD hS => ?_)
  have hP : va_P g.1 vwCl [(a 0, .inr (0, [.int (nI cnt), .ref (a 1), .ref (a 2), .ref (a 3), .ref (a 4), .ref (a 5), .ref (a 6), .ref (a 7), .int xa1, .int xd1, .int (nI wn), .ref (a 8)])), (a 1, .inl (gI g, 10, .inl f0)), (a 2, .inl (gI g, 10, .inl f1)), (a 3, .inl (gI g, 10, .inl f2)), (a 4, .inl (gI g, 10, .inl f3)), (a 5, .inl (gI g, 10, .inl f4)), (a 6, .inl (gI g, 10, .inl (va_cpy f5 f51 0 0 10))), (a 7, .inl (gI g, 10, .inl f61)), (a 8, .inl (gI g, 10, .inl f7)), (b 0, .inr (0, [.int (nI cnt), .ref (b 1), .ref (b 2), .ref (b 3), .ref (b 4), .ref (b 5), .ref (b 6), .ref (b 7), .int xa, .int xd, .int (nI wn), .ref (b 8)])), (b 1, .inl (gI g, 10, .inl f0)), (b 2, .inl (gI g, 10, .inl f1)), (b 3, .inl (gI g, 10, .inl f2)), (b 4, .inl (gI g, 10, .inl f3)), (b 5, .inl (gI g, 10, .inl f4)), (b 6, .inl (gI g, 10, .inl f5)), (b 7, .inl (gI g, 10, .inl f6)), (b 8, .inl (gI g, 10, .inl f7))] H := hP
  have hD : va_D A [(a 0, .inr (0, [.int (nI cnt), .ref (a 1), .ref (a 2), .ref (a 3), .ref (a 4), .ref (a 5), .ref (a 6), .ref (a 7), .int xa1, .int xd1, .int (nI wn), .ref (a 8)])), (a 1, .inl (gI g, 10, .inl f0)), (a 2, .inl (gI g, 10, .inl f1)), (a 3, .inl (gI g, 10, .inl f2)), (a 4, .inl (gI g, 10, .inl f3)), (a 5, .inl (gI g, 10, .inl f4)), (a 6, .inl (gI g, 10, .inl (va_cpy f5 f51 0 0 10))), (a 7, .inl (gI g, 10, .inl f61)), (a 8, .inl (gI g, 10, .inl f7)), (b 0, .inr (0, [.int (nI cnt), .ref (b 1), .ref (b 2), .ref (b 3), .ref (b 4), .ref (b 5), .ref (b 6), .ref (b 7), .int xa, .int xd, .int (nI wn), .ref (b 8)])), (b 1, .inl (gI g, 10, .inl f0)), (b 2, .inl (gI g, 10, .inl f1)), (b 3, .inl (gI g, 10, .inl f2)), (b 4, .inl (gI g, 10, .inl f3)), (b 5, .inl (gI g, 10, .inl f4)), (b 6, .inl (gI g, 10, .inl f5)), (b 7, .inl (gI g, 10, .inl f6)), (b 8, .inl (gI g, 10, .inl f7))] := hD
  have hP := k_extP (q := 6) (f := f5) hP rfl (fun j hj => k_cpyF hj)
  have hD := k_extD (q := 6) (e1 := .inl (gI g, 10, .inl f5)) hD rfl
  have hP : va_P g.1 vwCl [(a 0, .inr (0, [.int (nI cnt), .ref (a 1), .ref (a 2), .ref (a 3), .ref (a 4), .ref (a 5), .ref (a 6), .ref (a 7), .int xa1, .int xd1, .int (nI wn), .ref (a 8)])), (a 1, .inl (gI g, 10, .inl f0)), (a 2, .inl (gI g, 10, .inl f1)), (a 3, .inl (gI g, 10, .inl f2)), (a 4, .inl (gI g, 10, .inl f3)), (a 5, .inl (gI g, 10, .inl f4)), (a 6, .inl (gI g, 10, .inl f5)), (a 7, .inl (gI g, 10, .inl f61)), (a 8, .inl (gI g, 10, .inl f7)), (b 0, .inr (0, [.int (nI cnt), .ref (b 1), .ref (b 2), .ref (b 3), .ref (b 4), .ref (b 5), .ref (b 6), .ref (b 7), .int xa, .int xd, .int (nI wn), .ref (b 8)])), (b 1, .inl (gI g, 10, .inl f0)), (b 2, .inl (gI g, 10, .inl f1)), (b 3, .inl (gI g, 10, .inl f2)), (b 4, .inl (gI g, 10, .inl f3)), (b 5, .inl (gI g, 10, .inl f4)), (b 6, .inl (gI g, 10, .inl f5)), (b 7, .inl (gI g, 10, .inl f6)), (b 8, .inl (gI g, 10, .inl f7))] H := hP
  have hD : va_D A [(a 0, .inr (0, [.int (nI cnt), .ref (a 1), .ref (a 2), .ref (a 3), .ref (a 4), .ref (a 5), .ref (a 6), .ref (a 7), .int xa1, .int xd1, .int (nI wn), .ref (a 8)])), (a 1, .inl (gI g, 10, .inl f0)), (a 2, .inl (gI g, 10, .inl f1)), (a 3, .inl (gI g, 10, .inl f2)), (a 4, .inl (gI g, 10, .inl f3)), (a 5, .inl (gI g, 10, .inl f4)), (a 6, .inl (gI g, 10, .inl f5)), (a 7, .inl (gI g, 10, .inl f61)), (a 8, .inl (gI g, 10, .inl f7)), (b 0, .inr (0, [.int (nI cnt), .ref (b 1), .ref (b 2), .ref (b 3), .ref (b 4), .ref (b 5), .ref (b 6), .ref (b 7), .int xa, .int xd, .int (nI wn), .ref (b 8)])), (b 1, .inl (gI g, 10, .inl f0)), (b 2, .inl (gI g, 10, .inl f1)), (b 3, .inl (gI g, 10, .inl f2)), (b 4, .inl (gI g, 10, .inl f3)), (b 5, .inl (gI g, 10, .inl f4)), (b 6, .inl (gI g, 10, .inl f5)), (b 7, .inl (gI g, 10, .inl f6)), (b 8, .inl (gI g, 10, .inl f7))] := hD
  refine lv_aload_n hx hb dX0_become_121 rfl (lv_at hl 1 rfl) ?_
  refine va_get (ci := 0) (C := RX0) (T := TX0) (N := 12) hx hb hts inlX0 hown hKW.1 hP 9 rfl rfl 7 (by decide) (hts _ wd_4_12) (fun _ h => h) rfl dX0_become_122 ?_
  refine lv_iconst (v := 0) hx hb dX0_become_125 (by decide) ?_
  refine lv_aload_n hx hb dX0_become_126 rfl (lv_at hl 0 rfl) ?_
  refine va_get (ci := 0) (C := RX0) (T := TX0) (N := 12) hx hb hts inlX0 hown hKW.1 hP 0 rfl rfl 7 (by decide) (hts _ wd_4_12) (fun _ h => h) rfl dX0_become_127 ?_
  refine lv_iconst (v := 0) hx hb dX0_become_130 (by decide) ?_
  refine lv_bipush (v := 10) hx hb dX0_become_131 (by decide) ?_
  refine va_copyi hx hb (hml.trans hl.1.symm) hown (hts _ wd_9_9) (hts _ wd_8_9) (hts _ wd_8_10) (hts _ wd_8_11) hKW.1 hP hD hS 16 7 0 0 rfl rfl rfl rfl rfl (by decide) (by decide) (by decide) (by decide) (by decide) (fun _ _ => rfl) (Nat.le_of_ble_eq_true rfl) (Nat.le_of_ble_eq_true (by decide)) dX0_become_133 (fun H locs hP hD hS => ?_)
  have hP : va_P g.1 vwCl [(a 0, .inr (0, [.int (nI cnt), .ref (a 1), .ref (a 2), .ref (a 3), .ref (a 4), .ref (a 5), .ref (a 6), .ref (a 7), .int xa1, .int xd1, .int (nI wn), .ref (a 8)])), (a 1, .inl (gI g, 10, .inl f0)), (a 2, .inl (gI g, 10, .inl f1)), (a 3, .inl (gI g, 10, .inl f2)), (a 4, .inl (gI g, 10, .inl f3)), (a 5, .inl (gI g, 10, .inl f4)), (a 6, .inl (gI g, 10, .inl f5)), (a 7, .inl (gI g, 10, .inl (va_cpy f6 f61 0 0 10))), (a 8, .inl (gI g, 10, .inl f7)), (b 0, .inr (0, [.int (nI cnt), .ref (b 1), .ref (b 2), .ref (b 3), .ref (b 4), .ref (b 5), .ref (b 6), .ref (b 7), .int xa, .int xd, .int (nI wn), .ref (b 8)])), (b 1, .inl (gI g, 10, .inl f0)), (b 2, .inl (gI g, 10, .inl f1)), (b 3, .inl (gI g, 10, .inl f2)), (b 4, .inl (gI g, 10, .inl f3)), (b 5, .inl (gI g, 10, .inl f4)), (b 6, .inl (gI g, 10, .inl f5)), (b 7, .inl (gI g, 10, .inl f6)), (b 8, .inl (gI g, 10, .inl f7))] H := hP
  have hD : va_D A [(a 0, .inr (0, [.int (nI cnt), .ref (a 1), .ref (a 2), .ref (a 3), .ref (a 4), .ref (a 5), .ref (a 6), .ref (a 7), .int xa1, .int xd1, .int (nI wn), .ref (a 8)])), (a 1, .inl (gI g, 10, .inl f0)), (a 2, .inl (gI g, 10, .inl f1)), (a 3, .inl (gI g, 10, .inl f2)), (a 4, .inl (gI g, 10, .inl f3)), (a 5, .inl (gI g, 10, .inl f4)), (a 6, .inl (gI g, 10, .inl f5)), (a 7, .inl (gI g, 10, .inl (va_cpy f6 f61 0 0 10))), (a 8, .inl (gI g, 10, .inl f7)), (b 0, .inr (0, [.int (nI cnt), .ref (b 1), .ref (b 2), .ref (b 3), .ref (b 4), .ref (b 5), .ref (b 6), .ref (b 7), .int xa, .int xd, .int (nI wn), .ref (b 8)])), (b 1, .inl (gI g, 10, .inl f0)), (b 2, .inl (gI g, 10, .inl f1)), (b 3, .inl (gI g, 10, .inl f2)), (b 4, .inl (gI g, 10, .inl f3)), (b 5, .inl (gI g, 10, .inl f4)), (b 6, .inl (gI g, 10, .inl f5)), (b 7, .inl (gI g, 10, .inl f6)), (b 8, .inl (gI g, 10, .inl f7))] := hD
  have hP := k_extP (q := 7) (f := f6) hP rfl (fun j hj => k_cpyF hj)
  have hD := k_extD (q := 7) (e1 := .inl (gI g, 10, .inl f6)) hD rfl
  have hP : va_P g.1 vwCl [(a 0, .inr (0, [.int (nI cnt), .ref (a 1), .ref (a 2), .ref (a 3), .ref (a 4), .ref (a 5), .ref (a 6), .ref (a 7), .int xa1, .int xd1, .int (nI wn), .ref (a 8)])), (a 1, .inl (gI g, 10, .inl f0)), (a 2, .inl (gI g, 10, .inl f1)), (a 3, .inl (gI g, 10, .inl f2)), (a 4, .inl (gI g, 10, .inl f3)), (a 5, .inl (gI g, 10, .inl f4)), (a 6, .inl (gI g, 10, .inl f5)), (a 7, .inl (gI g, 10, .inl f6)), (a 8, .inl (gI g, 10, .inl f7)), (b 0, .inr (0, [.int (nI cnt), .ref (b 1), .ref (b 2), .ref (b 3), .ref (b 4), .ref (b 5), .ref (b 6), .ref (b 7), .int xa, .int xd, .int (nI wn), .ref (b 8)])), (b 1, .inl (gI g, 10, .inl f0)), (b 2, .inl (gI g, 10, .inl f1)), (b 3, .inl (gI g, 10, .inl f2)), (b 4, .inl (gI g, 10, .inl f3)), (b 5, .inl (gI g, 10, .inl f4)), (b 6, .inl (gI g, 10, .inl f5)), (b 7, .inl (gI g, 10, .inl f6)), (b 8, .inl (gI g, 10, .inl f7))] H := hP
  have hD : va_D A [(a 0, .inr (0, [.int (nI cnt), .ref (a 1), .ref (a 2), .ref (a 3), .ref (a 4), .ref (a 5), .ref (a 6), .ref (a 7), .int xa1, .int xd1, .int (nI wn), .ref (a 8)])), (a 1, .inl (gI g, 10, .inl f0)), (a 2, .inl (gI g, 10, .inl f1)), (a 3, .inl (gI g, 10, .inl f2)), (a 4, .inl (gI g, 10, .inl f3)), (a 5, .inl (gI g, 10, .inl f4)), (a 6, .inl (gI g, 10, .inl f5)), (a 7, .inl (gI g, 10, .inl f6)), (a 8, .inl (gI g, 10, .inl f7)), (b 0, .inr (0, [.int (nI cnt), .ref (b 1), .ref (b 2), .ref (b 3), .ref (b 4), .ref (b 5), .ref (b 6), .ref (b 7), .int xa, .int xd, .int (nI wn), .ref (b 8)])), (b 1, .inl (gI g, 10, .inl f0)), (b 2, .inl (gI g, 10, .inl f1)), (b 3, .inl (gI g, 10, .inl f2)), (b 4, .inl (gI g, 10, .inl f3)), (b 5, .inl (gI g, 10, .inl f4)), (b 6, .inl (gI g, 10, .inl f5)), (b 7, .inl (gI g, 10, .inl f6)), (b 8, .inl (gI g, 10, .inl f7))] := hD
  refine lv_aload_n hx hb dX0_become_136 rfl (lv_at hl 0 rfl) ?_
  refine lv_aload_n hx hb dX0_become_137 rfl (lv_at hl 1 rfl) ?_
  refine va_get (ci := 0) (C := RX0) (T := TX0) (N := 12) hx hb hts inlX0 hown hKW.1 hP 9 rfl rfl 8 (by decide) (hts _ wd_9_10) (fun _ h => h) rfl dX0_become_138 ?_
  refine va_put (ci := 0) (v := .int xa) (C := RX0) (T := TX0) (N := 12) hx hb hts inlX0 tyX0 tyX0_ok nmX0 hown hKW.1 hP hD hS 0 rfl rfl 8 (by decide) (hts _ wd_9_10) (fun _ h => h) rfl (tyX0_ok 8 (by decide)) rfl rfl (Nat.le_of_ble_eq_true rfl) dX0_become_141 (fun H locs hP hD hS => ?_)
  have hP : va_P g.1 vwCl [(a 0, .inr (0, [.int (nI cnt), .ref (a 1), .ref (a 2), .ref (a 3), .ref (a 4), .ref (a 5), .ref (a 6), .ref (a 7), .int xa, .int xd1, .int (nI wn), .ref (a 8)])), (a 1, .inl (gI g, 10, .inl f0)), (a 2, .inl (gI g, 10, .inl f1)), (a 3, .inl (gI g, 10, .inl f2)), (a 4, .inl (gI g, 10, .inl f3)), (a 5, .inl (gI g, 10, .inl f4)), (a 6, .inl (gI g, 10, .inl f5)), (a 7, .inl (gI g, 10, .inl f6)), (a 8, .inl (gI g, 10, .inl f7)), (b 0, .inr (0, [.int (nI cnt), .ref (b 1), .ref (b 2), .ref (b 3), .ref (b 4), .ref (b 5), .ref (b 6), .ref (b 7), .int xa, .int xd, .int (nI wn), .ref (b 8)])), (b 1, .inl (gI g, 10, .inl f0)), (b 2, .inl (gI g, 10, .inl f1)), (b 3, .inl (gI g, 10, .inl f2)), (b 4, .inl (gI g, 10, .inl f3)), (b 5, .inl (gI g, 10, .inl f4)), (b 6, .inl (gI g, 10, .inl f5)), (b 7, .inl (gI g, 10, .inl f6)), (b 8, .inl (gI g, 10, .inl f7))] H := hP
  have hD : va_D A [(a 0, .inr (0, [.int (nI cnt), .ref (a 1), .ref (a 2), .ref (a 3), .ref (a 4), .ref (a 5), .ref (a 6), .ref (a 7), .int xa, .int xd1, .int (nI wn), .ref (a 8)])), (a 1, .inl (gI g, 10, .inl f0)), (a 2, .inl (gI g, 10, .inl f1)), (a 3, .inl (gI g, 10, .inl f2)), (a 4, .inl (gI g, 10, .inl f3)), (a 5, .inl (gI g, 10, .inl f4)), (a 6, .inl (gI g, 10, .inl f5)), (a 7, .inl (gI g, 10, .inl f6)), (a 8, .inl (gI g, 10, .inl f7)), (b 0, .inr (0, [.int (nI cnt), .ref (b 1), .ref (b 2), .ref (b 3), .ref (b 4), .ref (b 5), .ref (b 6), .ref (b 7), .int xa, .int xd, .int (nI wn), .ref (b 8)])), (b 1, .inl (gI g, 10, .inl f0)), (b 2, .inl (gI g, 10, .inl f1)), (b 3, .inl (gI g, 10, .inl f2)), (b 4, .inl (gI g, 10, .inl f3)), (b 5, .inl (gI g, 10, .inl f4)), (b 6, .inl (gI g, 10, .inl f5)), (b 7, .inl (gI g, 10, .inl f6)), (b 8, .inl (gI g, 10, .inl f7))] := hD
  refine lv_aload_n hx hb dX0_become_144 rfl (lv_at hl 0 rfl) ?_
  refine lv_aload_n hx hb dX0_become_145 rfl (lv_at hl 1 rfl) ?_
  refine va_get (ci := 0) (C := RX0) (T := TX0) (N := 12) hx hb hts inlX0 hown hKW.1 hP 9 rfl rfl 9 (by decide) (hts _ wd_9_11) (fun _ h => h) rfl dX0_become_146 ?_
  refine va_put (ci := 0) (v := .int xd) (C := RX0) (T := TX0) (N := 12) hx hb hts inlX0 tyX0 tyX0_ok nmX0 hown hKW.1 hP hD hS 0 rfl rfl 9 (by decide) (hts _ wd_9_11) (fun _ h => h) rfl (tyX0_ok 9 (by decide)) rfl rfl (Nat.le_of_ble_eq_true rfl) dX0_become_149 (fun H locs hP hD hS => ?_)
  have hP : va_P g.1 vwCl [(a 0, .inr (0, [.int (nI cnt), .ref (a 1), .ref (a 2), .ref (a 3), .ref (a 4), .ref (a 5), .ref (a 6), .ref (a 7), .int xa, .int xd, .int (nI wn), .ref (a 8)])), (a 1, .inl (gI g, 10, .inl f0)), (a 2, .inl (gI g, 10, .inl f1)), (a 3, .inl (gI g, 10, .inl f2)), (a 4, .inl (gI g, 10, .inl f3)), (a 5, .inl (gI g, 10, .inl f4)), (a 6, .inl (gI g, 10, .inl f5)), (a 7, .inl (gI g, 10, .inl f6)), (a 8, .inl (gI g, 10, .inl f7)), (b 0, .inr (0, [.int (nI cnt), .ref (b 1), .ref (b 2), .ref (b 3), .ref (b 4), .ref (b 5), .ref (b 6), .ref (b 7), .int xa, .int xd, .int (nI wn), .ref (b 8)])), (b 1, .inl (gI g, 10, .inl f0)), (b 2, .inl (gI g, 10, .inl f1)), (b 3, .inl (gI g, 10, .inl f2)), (b 4, .inl (gI g, 10, .inl f3)), (b 5, .inl (gI g, 10, .inl f4)), (b 6, .inl (gI g, 10, .inl f5)), (b 7, .inl (gI g, 10, .inl f6)), (b 8, .inl (gI g, 10, .inl f7))] H := hP
  have hD : va_D A [(a 0, .inr (0, [.int (nI cnt), .ref (a 1), .ref (a 2), .ref (a 3), .ref (a 4), .ref (a 5), .ref (a 6), .ref (a 7), .int xa, .int xd, .int (nI wn), .ref (a 8)])), (a 1, .inl (gI g, 10, .inl f0)), (a 2, .inl (gI g, 10, .inl f1)), (a 3, .inl (gI g, 10, .inl f2)), (a 4, .inl (gI g, 10, .inl f3)), (a 5, .inl (gI g, 10, .inl f4)), (a 6, .inl (gI g, 10, .inl f5)), (a 7, .inl (gI g, 10, .inl f6)), (a 8, .inl (gI g, 10, .inl f7)), (b 0, .inr (0, [.int (nI cnt), .ref (b 1), .ref (b 2), .ref (b 3), .ref (b 4), .ref (b 5), .ref (b 6), .ref (b 7), .int xa, .int xd, .int (nI wn), .ref (b 8)])), (b 1, .inl (gI g, 10, .inl f0)), (b 2, .inl (gI g, 10, .inl f1)), (b 3, .inl (gI g, 10, .inl f2)), (b 4, .inl (gI g, 10, .inl f3)), (b 5, .inl (gI g, 10, .inl f4)), (b 6, .inl (gI g, 10, .inl f5)), (b 7, .inl (gI g, 10, .inl f6)), (b 8, .inl (gI g, 10, .inl f7))] := hD
  exact k_vret () [0, 1, 2, 3, 4, 5, 6, 7, 8, 9, 10, 11, 12, 13, 14, 15, 16, 17] hx hb hr hlk hP hD hS trivial rfl rfl rfl (Nat.le_of_ble_eq_true rfl) (Nat.le_of_ble_eq_true rfl) dX0_become_152
theorem dX3_become_0 : decode cX3_become 0 = .ok (.aload_n 0, 1) := by decide +kernel
theorem dX3_become_1 : decode cX3_become 1 = .ok (.aload_n 1, 1) := by decide +kernel
theorem dX3_become_2 : decode cX3_become 2 = .ok (.getfield 21, 3) := by decide +kernel
theorem dX3_become_5 : decode cX3_become 5 = .ok (.putfield 21, 3) := by decide +kernel
theorem dX3_become_8 : decode cX3_become 8 = .ok (.aload_n 1, 1) := by decide +kernel
theorem dX3_become_9 : decode cX3_become 9 = .ok (.getfield 9, 3) := by decide +kernel
theorem dX3_become_12 : decode cX3_become 12 = .ok (.iconst 0, 1) := by decide +kernel
theorem dX3_become_13 : decode cX3_become 13 = .ok (.aload_n 0, 1) := by decide +kernel
theorem dX3_become_14 : decode cX3_become 14 = .ok (.getfield 9, 3) := by decide +kernel
theorem dX3_become_17 : decode cX3_become 17 = .ok (.iconst 0, 1) := by decide +kernel
theorem dX3_become_18 : decode cX3_become 18 = .ok (.bipush 40, 2) := by decide +kernel
theorem dX3_become_20 : decode cX3_become 20 = .ok (.invokestatic 28, 3) := by decide +kernel
theorem dX3_become_23 : decode cX3_become 23 = .ok (.aload_n 1, 1) := by decide +kernel
theorem dX3_become_24 : decode cX3_become 24 = .ok (.getfield 15, 3) := by decide +kernel
theorem dX3_become_27 : decode cX3_become 27 = .ok (.iconst 0, 1) := by decide +kernel
theorem dX3_become_28 : decode cX3_become 28 = .ok (.aload_n 0, 1) := by decide +kernel
theorem dX3_become_29 : decode cX3_become 29 = .ok (.getfield 15, 3) := by decide +kernel
theorem dX3_become_32 : decode cX3_become 32 = .ok (.iconst 0, 1) := by decide +kernel
theorem dX3_become_33 : decode cX3_become 33 = .ok (.bipush 40, 2) := by decide +kernel
theorem dX3_become_35 : decode cX3_become 35 = .ok (.invokestatic 28, 3) := by decide +kernel
theorem dX3_become_38 : decode cX3_become 38 = .ok (.aload_n 1, 1) := by decide +kernel
theorem dX3_become_39 : decode cX3_become 39 = .ok (.getfield 18, 3) := by decide +kernel
theorem dX3_become_42 : decode cX3_become 42 = .ok (.iconst 0, 1) := by decide +kernel
theorem dX3_become_43 : decode cX3_become 43 = .ok (.aload_n 0, 1) := by decide +kernel
theorem dX3_become_44 : decode cX3_become 44 = .ok (.getfield 18, 3) := by decide +kernel
theorem dX3_become_47 : decode cX3_become 47 = .ok (.iconst 0, 1) := by decide +kernel
theorem dX3_become_48 : decode cX3_become 48 = .ok (.bipush 40, 2) := by decide +kernel
theorem dX3_become_50 : decode cX3_become 50 = .ok (.invokestatic 28, 3) := by decide +kernel
theorem dX3_become_53 : decode cX3_become 53 = .ok (.return_, 1) := by decide +kernel
set_option maxHeartbeats 8000000 in
set_option maxRecDepth 100000 in
theorem c_X3_become (l : Launch) (g : kG) (sz : Nat) (a : Nat → Nat) (b : Nat → Nat) (cnt : Nat) (cnt1 : Nat) (f0 : Nat → Int32) (f1 : Nat → Int32) (f2 : Nat → Int32) (f01 : Nat → Int32) (f11 : Nat → Int32) (f21 : Nat → Int32) : kMv l g yX3_become cX3_become 2 none 1 0 0 [.ref (a 0), .ref (b 0)] sz [(a 0, .inr (3, [.int (nI cnt1), .ref (a 1), .ref (a 2), .ref (a 3)])), (a 1, .inl (gI g, 40, .inl f01)), (a 2, .inl (gI g, 40, .inl f11)), (a 3, .inl (gI g, 40, .inl f21)), (b 0, .inr (3, [.int (nI cnt), .ref (b 1), .ref (b 2), .ref (b 3)])), (b 1, .inl (gI g, 40, .inl f0)), (b 2, .inl (gI g, 40, .inl f1)), (b 3, .inl (gI g, 40, .inl f2))] (fun (u : Unit) => True) (fun (u : Unit) => ([(a 0, .inr (3, [.int (nI cnt), .ref (a 1), .ref (a 2), .ref (a 3)])), (a 1, .inl (gI g, 40, .inl f0)), (a 2, .inl (gI g, 40, .inl f1)), (a 3, .inl (gI g, 40, .inl f2)), (b 0, .inr (3, [.int (nI cnt), .ref (b 1), .ref (b 2), .ref (b 3)])), (b 1, .inl (gI g, 40, .inl f0)), (b 2, .inl (gI g, 40, .inl f1)), (b 3, .inl (gI g, 40, .inl f2))] : va_W)) := by
  refine kMv.of (by decide) (Nat.le_of_ble_eq_true rfl) (fun p e s m below meth c A hx hb hr hml hown hts hlk hnm hKW hP hD hS hA ls hl => ?_)
  have hown : s.vm.findClass RX3 = some m.cls := hown
  have hl : lv_has ls 2 [(0, .ref (a 0)), (1, .ref (b 0))] := hl
  refine k_hide hP hS (fun H locs hP hS => ?_)
  refine lv_aload_n hx hb dX3_become_0 rfl (lv_at hl 0 rfl) ?_
  refine lv_aload_n hx hb dX3_become_1 rfl (lv_at hl 1 rfl) ?_
  refine va_get (ci := 3) (C := RX3) (T := TX3) (N := 4) hx hb hts inlX3 hown hKW.1 hP 4 rfl rfl 0 (by decide) (hts _ wd_9_16) (fun _ h => h) rfl dX3_become_2 ?_
  refine va_put (ci := 3) (v := .int (nI cnt)) (C := RX3) (T := TX3) (N := 4) hx hb hts inlX3 tyX3 tyX3_ok nmX3 hown hKW.1 hP hD hS 0 rfl rfl 0 (by decide) (hts _ wd_9_16) (fun _ h => h) rfl (tyX3_ok 0 (by decide)) rfl rfl (Nat.le_of_ble_eq_true rfl) dX3_become_5 (fun H locs hP hD hS => ?_)
  have hP : va_P g.1 vwCl [(a 0, .inr (3, [.int (nI cnt), .ref (a 1), .ref (a 2), .ref (a 3)])), (a 1, .inl (gI g, 40, .inl f01)), (a 2, .inl (gI g, 40, .inl f11)), (a 3, .inl (gI g, 40, .inl f21)), (b 0, .inr (3, [.int (nI cnt), .ref (b 1), .ref (b 2), .ref (b 3)])), (b 1, .inl (gI g, 40, .inl f0)), (b 2, .inl (gI g, 40, .inl f1)), (b 3, .inl (gI g, 40, .inl f2))] H := hP
  have hD : va_D A [(a 0, .inr (3, [.int (nI cnt), .ref (a 1), .ref (a 2), .ref (a 3)])), (a 1, .inl (gI g, 40, .inl f01)), (a 2, .inl (gI g, 40, .inl f11)), (a 3, .inl (gI g, 40, .inl f21)), (b 0, .inr (3, [.int (nI cnt), .ref (b 1), .ref (b 2), .ref (b 3)])), (b 1, .inl (gI g, 40, .inl f0)), (b 2, .inl (gI g, 40, .inl f1)), (b 3, .inl (gI g, 40, .inl f2))] := hD
  refine lv_aload_n hx hb dX3_become_8 rfl (lv_at hl 1 rfl) ?_
  refine va_get (ci := 3) (C := RX3) (T := TX3) (N := 4) hx hb hts inlX3 hown hKW.1 hP 4 rfl rfl 1 (by decide) (hts _ wd_4_17) (fun _ h => h) rfl dX3_become_9 ?_
  refine lv_iconst (v := 0) hx hb dX3_become_12 (by decide) ?_
  refine lv_aload_n hx hb dX3_become_13 rfl (lv_at hl 0 rfl) ?_
  refine va_get (ci := 3) (C := RX3) (T := TX3) (N := 4) hx hb hts inlX3 hown hKW.1 hP 0 rfl rfl 1 (by decide) (hts _ wd_4_17) (fun _ h => h) rfl dX3_become_14 ?_
  refine lv_iconst (v := 0) hx hb dX3_become_17 (by decide) ?_
  refine lv_bipush (v := 40) hx hb dX3_become_18 (by decide) ?_
  refine va_copyi hx hb (hml.trans hl.1.symm) hown (hts _ wd_9_17) (hts _ wd_8_9) (hts _ wd_8_10) (hts _ wd_8_11) hKW.1 hP hD hS 5 1 0 0 rfl rfl rfl rfl rfl (by decide) (by decide) (by decide) (by decide) (by decide) (fun _ _ => rfl) (Nat.le_of_ble_eq_true rfl) (Nat.le_of_ble_eq_true (by decide)) dX3_become_20 (fun H locs hP hD hS => ?_)
  have hP : va_P g.1 vwCl [(a 0, .inr (3, [.int (nI cnt), .ref (a 1), .ref (a 2), .ref (a 3)])), (a 1, .inl (gI g, 40, .inl (va_cpy f0 f01 0 0 40))), (a 2, .inl (gI g, 40, .inl f11)), (a 3, .inl (gI g, 40, .inl f21)), (b 0, .inr (3, [.int (nI cnt), .ref (b 1), .ref (b 2), .ref (b 3)])), (b 1, .inl (gI g, 40, .inl f0)), (b 2, .inl (gI g, 40, .inl f1)), (b 3, .inl (gI g, 40, .inl f2))] H := hP
  have hD : va_D A [(a 0, .inr (3, [.int (nI cnt), .ref (a 1), .ref (a 2), .ref (a 3)])), (a 1, .inl (gI g, 40, .inl (va_cpy f0 f01 0 0 40))), (a 2, .inl (gI g, 40, .inl f11)), (a 3, .inl (gI g, 40, .inl f21)), (b 0, .inr (3, [.int (nI cnt), .ref (b 1), .ref (b 2), .ref (b 3)])), (b 1, .inl (gI g, 40, .inl f0)), (b 2, .inl (gI g, 40, .inl f1)), (b 3, .inl (gI g, 40, .inl f2))] := hD
  have hP := k_extP (q := 1) (f := f0) hP rfl (fun j hj => k_cpyF hj)
  have hD := k_extD (q := 1) (e1 := .inl (gI g, 40, .inl f0)) hD rfl
  have hP : va_P g.1 vwCl [(a 0, .inr (3, [.int (nI cnt), .ref (a 1), .ref (a 2), .ref (a 3)])), (a 1, .inl (gI g, 40, .inl f0)), (a 2, .inl (gI g, 40, .inl f11)), (a 3, .inl (gI g, 40, .inl f21)), (b 0, .inr (3, [.int (nI cnt), .ref (b 1), .ref (b 2), .ref (b 3)])), (b 1, .inl (gI g, 40, .inl f0)), (b 2, .inl (gI g, 40, .inl f1)), (b 3, .inl (gI g, 40, .inl f2))] H := hP
  have hD : va_D A [(a 0, .inr (3, [.int (nI cnt), .ref (a 1), .ref (a 2), .ref (a 3)])), (a 1, .inl (gI g, 40, .inl f0)), (a 2, .inl (gI g, 40, .inl f11)), (a 3, .inl (gI g, 40, .inl f21)), (b 0, .inr (3, [.int (nI cnt), .ref (b 1), .ref (b 2), .ref (b 3)])), (b 1, .inl (gI g, 40, .inl f0)), (b 2, .inl (gI g, 40, .inl f1)), (b 3, .inl (gI g, 40, .inl f2))] := hD
  refine lv_aload_n hx hb dX3_become_23 rfl (lv_at hl 1 rfl) ?_
  refine va_get (ci := 3) (C := RX3) (T := TX3) (N := 4) hx hb hts inlX3 hown hKW.1 hP 4 rfl rfl 2 (by decide) (hts _ wd_4_18) (fun _ h => h) rfl dX3_become_24 ?_
  refine lv_iconst (v := 0) hx hb dX3_become_27 (by decide) ?_
  refine lv_aload_n hx hb dX3_become_28 rfl (lv_at hl 0 rfl) ?_
  refine va_get (ci := 3) (C := RX3) (T := TX3) (N := 4) hx hb hts inlX3 hown hKW.1 hP 0 rfl rfl 2 (by decide) (hts _ wd_4_18) (fun _ h => h) rfl dX3_become_29 ?_
  refine lv_iconst (v := 0) hx hb dX3_become_32 (by decide) ?_
  refine lv_bipush (v := 40) hx hb dX3_become_33 (by decide) ?_
  refine va_copyi hx hb (hml.trans hl.1.symm) hown (hts _ wd_9_17) (hts _ wd_8_9) (hts _ wd_8_10) (hts _ wd_8_11) hKW.1 hP hD hS 6 2 0 0 rfl rfl rfl rfl rfl (by decide) (by decide) (by decide) (by decide) (by decide) (fun _ _ => rfl) (Nat.le_of_ble_eq_true rfl) (Nat.le_of_ble_eq_true (by decide)) dX3_become_35 (fun H locs hP hD hS => ?_)
  have hP : va_P g.1 vwCl [(a 0, .inr (3, [.int (nI cnt), .ref (a 1), .ref (a 2), .ref (a 3)])), (a 1, .inl (gI g, 40, .inl f0)), (a 2, .inl (gI g, 40, .inl (va_cpy f1 f11 0 0 40))), (a 3, .inl (gI g, 40, .inl f21)), (b 0, .inr (3, [.int (nI cnt), .ref (b 1), .ref (b 2), .ref (b 3)])), (b 1, .inl (gI g, 40, .inl f0)), (b 2, .inl (gI g, 40, .inl f1)), (b 3, .inl (gI g, 40, .inl f2))] H := hP
  have hD : va_D A [(a 0, .inr (3, [.int (nI cnt), .ref (a 1), .ref (a 2), .ref (a 3)])), (a 1, .inl (gI g, 40, .inl f0)), (a 2, .inl (gI g, 40, .inl (va_cpy f1 f11 0 0 40))), (a 3, .inl (gI g, 40, .inl f21)), (b 0, .inr (3, [.int (nI cnt), .ref (b 1), .ref (b 2), .ref (b 3)])), (b 1, .inl (gI g, 40, .inl f0)), (b 2, .inl (gI g, 40, .inl f1)), (b 3, .inl (gI g, 40, .inl f2))] := hD
  have hP := k_extP (q := 2) (f := f1) hP rfl (fun j hj => k_cpyF hj)
  have hD := k_extD (q := 2) (e1 := .inl (gI g, 40, .inl f1)) hD rfl
  have hP : va_P g.1 vwCl [(a 0, .inr (3, [.int (nI cnt), .ref (a 1), .ref (a 2), .ref (a 3)])), (a 1, .inl (gI g, 40, .inl f0)), (a 2, .inl (gI g, 40, .inl f1)), (a 3, .inl (gI g, 40, .inl f21)), (b 0, .inr (3, [.int (nI cnt), .ref (b 1), .ref (b 2), .ref (b 3)])), (b 1, .inl (gI g, 40, .inl f0)), (b 2, .inl (gI g, 40, .inl f1)), (b 3, .inl (gI g, 40, .inl f2))] H := hP
  have hD : va_D A [(a 0, .inr (3, [.int (nI cnt), .ref (a 1), .ref (a 2), .ref (a 3)])), (a 1, .inl (gI g, 40, .inl f0)), (a 2, .inl (gI g, 40, .inl f1)), (a 3, .inl (gI g, 40, .inl f21)), (b 0, .inr (3, [.int (nI cnt), .ref (b 1), .ref (b 2), .ref (b 3)])), (b 1, .inl (gI g, 40, .inl f0)), (b 2, .inl (gI g, 40, .inl f1)), (b 3, .inl (gI g, 40, .inl f2))] := hD
  refine lv_aload_n hx hb dX3_become_38 rfl (lv_at hl 1 rfl) ?_
  refine va_get (ci := 3) (C := RX3) (T := TX3) (N := 4) hx hb hts inlX3 hown hKW.1 hP 4 rfl rfl 3 (by decide) (hts _ wd_4_19) (fun _ h => h) rfl dX3_become_39 ?_
  refine lv_iconst (v := 0) hx hb dX3_become_42 (by decide) ?_
  refine lv_aload_n hx hb dX3_become_43 rfl (lv_at hl 0 rfl) ?_
  refine va_get (ci := 3) (C := RX3) (T := TX3) (N := 4) hx hb hts inlX3 hown hKW.1 hP 0 rfl rfl 3 (by decide) (hts _ wd_4_19) (fun _ h => h) rfl dX3_become_44 ?_
  refine lv_iconst (v := 0) hx hb dX3_become_47 (by decide) ?_
  refine lv_bipush (v := 40) hx hb dX3_become_48 (by decide) ?_
  refine va_copyi hx hb (hml.trans hl.1.symm) hown (hts _ wd_9_17) (hts _ wd_8_9) (hts _ wd_8_10) (hts _ wd_8_11) hKW.1 hP hD hS 7 3 0 0 rfl rfl rfl rfl rfl (by decide) (by decide) (by decide) (by decide) (by decide) (fun _ _ => rfl) (Nat.le_of_ble_eq_true rfl) (Nat.le_of_ble_eq_true (by decide)) dX3_become_50 (fun H locs hP hD hS => ?_)
  have hP : va_P g.1 vwCl [(a 0, .inr (3, [.int (nI cnt), .ref (a 1), .ref (a 2), .ref (a 3)])), (a 1, .inl (gI g, 40, .inl f0)), (a 2, .inl (gI g, 40, .inl f1)), (a 3, .inl (gI g, 40, .inl (va_cpy f2 f21 0 0 40))), (b 0, .inr (3, [.int (nI cnt), .ref (b 1), .ref (b 2), .ref (b 3)])), (b 1, .inl (gI g, 40, .inl f0)), (b 2, .inl (gI g, 40, .inl f1)), (b 3, .inl (gI g, 40, .inl f2))] H := hP
  have hD : va_D A [(a 0, .inr (3, [.int (nI cnt), .ref (a 1), .ref (a 2), .ref (a 3)])), (a 1, .inl (gI g, 40, .inl f0)), (a 2, .inl (gI g, 40, .inl f1)), (a 3, .inl (gI g, 40, .inl (va_cpy f2 f21 0 0 40))), (b 0, .inr (3, [.int (nI cnt), .ref (b 1), .ref (b 2), .ref (b 3)])), (b 1, .inl (gI g, 40, .inl f0)), (b 2, .inl (gI g, 40, .inl f1)), (b 3, .inl (gI g, 40, .inl f2))] := hD
  have hP := k_extP (q := 3) (f := f2) hP rfl (fun j hj => k_cpyF hj)
  have hD := k_extD (q := 3) (e1 := .inl (gI g, 40, .inl f2)) hD rfl
  have hP : va_P g.1 vwCl [(a 0, .inr (3, [.int (nI cnt), .ref (a 1), .ref (a 2), .ref (a 3)])), (a 1, .inl (gI g, 40, .inl f0)), (a 2, .inl (gI g, 40, .inl f1)), (a 3, .inl (gI g, 40, .inl f2)), (b 0, .inr (3, [.int (nI cnt), .ref (b 1), .ref (b 2), .ref (b 3)])), (b 1, .inl (gI g, 40, .inl f0)), (b 2, .inl (gI g, 40, .inl f1)), (b 3, .inl (gI g, 40, .inl f2))] H := hP
  have hD : va_D A [(a 0, .inr (3, [.int (nI cnt), .ref (a 1), .ref (a 2), .ref (a 3)])), (a 1, .inl (gI g, 40, .inl f0)), (a 2, .inl (gI g, 40, .inl f1)), (a 3, .inl (gI g, 40, .inl f2)), (b 0, .inr (3, [.int (nI cnt), .ref (b 1), .ref (b 2), .ref (b 3)])), (b 1, .inl (gI g, 40, .inl f0)), (b 2, .inl (gI g, 40, .inl f1)), (b 3, .inl (gI g, 40, .inl f2))] := hD
  exact k_vret () [0, 1, 2, 3, 4, 5, 6, 7] hx hb hr hlk hP hD hS trivial rfl rfl rfl (Nat.le_of_ble_eq_true rfl) (Nat.le_of_ble_eq_true rfl) dX3_become_53
theorem dX6_become_0 : decode cX6_become 0 = .ok (.aload_n 0, 1) := by decide +kernel
theorem dX6_become_1 : decode cX6_become 1 = .ok (.aload_n 1, 1) := by decide +kernel
theorem dX6_become_2 : decode cX6_become 2 = .ok (.getfield 27, 3) := by decide +kernel
theorem dX6_become_5 : decode cX6_become 5 = .ok (.putfield 27, 3) := by decide +kernel
theorem dX6_become_8 : decode cX6_become 8 = .ok (.aload_n 0, 1) := by decide +kernel
theorem dX6_become_9 : decode cX6_become 9 = .ok (.aload_n 1, 1) := by decide +kernel
theorem dX6_become_10 : decode cX6_become 10 = .ok (.getfield 43, 3) := by decide +kernel
theorem dX6_become_13 : decode cX6_become 13 = .ok (.putfield 43, 3) := by decide +kernel
theorem dX6_become_16 : decode cX6_become 16 = .ok (.aload_n 1, 1) := by decide +kernel
theorem dX6_become_17 : decode cX6_become 17 = .ok (.getfield 9, 3) := by decide +kernel
theorem dX6_become_20 : decode cX6_become 20 = .ok (.iconst 0, 1) := by decide +kernel
theorem dX6_become_21 : decode cX6_become 21 = .ok (.aload_n 0, 1) := by decide +kernel
theorem dX6_become_22 : decode cX6_become 22 = .ok (.getfield 9, 3) := by decide +kernel
theorem dX6_become_25 : decode cX6_become 25 = .ok (.iconst 0, 1) := by decide +kernel
theorem dX6_become_26 : decode cX6_become 26 = .ok (.bipush 14, 2) := by decide +kernel
theorem dX6_become_28 : decode cX6_become 28 = .ok (.invokestatic 33, 3) := by decide +kernel
theorem dX6_become_31 : decode cX6_become 31 = .ok (.return_, 1) := by decide +kernel
set_option maxHeartbeats 8000000 in
set_option maxRecDepth 100000 in
theorem c_X6_become (l : Launch) (g : kG) (sz : Nat) (a : Nat → Nat) (b : Nat → Nat) (cnt : Nat) (cnt1 : Nat) (f0 : Nat → Int32) (f01 : Nat → Int32) (xw : Int32) (xw1 : Int32) : kMv l g yX6_become cX6_become 2 none 1 0 0 [.ref (a 0), .ref (b 0)] sz [(a 0, .inr (6, [.int (nI cnt1), .int xw1, .ref (a 1)])), (a 1, .inl (gI g, 14, .inl f01)), (b 0, .inr (6, [.int (nI cnt), .int xw, .ref (b 1)])), (b 1, .inl (gI g, 14, .inl f0))] (fun (u : Unit) => True) (fun (u : Unit) => ([(a 0, .inr (6, [.int (nI cnt), .int xw, .ref (a 1)])), (a 1, .inl (gI g, 14, .inl f0)), (b 0, .inr (6, [.int (nI cnt), .int xw, .ref (b 1)])), (b 1, .inl (gI g, 14, .inl f0))] : va_W)) := by
  refine kMv.of (by decide) (Nat.le_of_ble_eq_true rfl) (fun p e s m below meth c A hx hb hr hml hown hts hlk hnm hKW hP hD hS hA ls hl => ?_)
  have hown : s.vm.findClass RX6 = some m.cls := hown
  have hl : lv_has ls 2 [(0, .ref (a 0)), (1, .ref (b 0))] := hl
  refine k_hide hP hS (fun H locs hP hS => ?_)
  refine lv_aload_n hx hb dX6_become_0 rfl (lv_at hl 0 rfl) ?_
  refine lv_aload_n hx hb dX6_become_1 rfl (lv_at hl 1 rfl) ?_
  refine va_get (ci := 6) (C := RX6) (T := TX6) (N := 3) hx hb hts inlX6 hown hKW.1 hP 2 rfl rfl 0 (by decide) (hts _ wd_9_22) (fun _ h => h) rfl dX6_become_2 ?_
  refine va_put (ci := 6) (v := .int (nI cnt)) (C := RX6) (T := TX6) (N := 3) hx hb hts inlX6 tyX6 tyX6_ok nmX6 hown hKW.1 hP hD hS 0 rfl rfl 0 (by decide) (hts _ wd_9_22) (fun _ h => h) rfl (tyX6_ok 0 (by decide)) rfl rfl (Nat.le_of_ble_eq_true rfl) dX6_become_5 (fun H locs hP hD hS => ?_)
  have hP : va_P g.1 vwCl [(a 0, .inr (6, [.int (nI cnt), .int xw1, .ref (a 1)])), (a 1, .inl (gI g, 14, .inl f01)), (b 0, .inr (6, [.int (nI cnt), .int xw, .ref (b 1)])), (b 1, .inl (gI g, 14, .inl f0))] H := hP
  have hD : va_D A [(a 0, .inr (6, [.int (nI cnt), .int xw1, .ref (a 1)])), (a 1, .inl (gI g, 14, .inl f01)), (b 0, .inr (6, [.int (nI cnt), .int xw, .ref (b 1)])), (b 1, .inl (gI g, 14, .inl f0))] := hD
  refine lv_aload_n hx hb dX6_become_8 rfl (lv_at hl 0 rfl) ?_
  refine lv_aload_n hx hb dX6_become_9 rfl (lv_at hl 1 rfl) ?_
  refine va_get (ci := 6) (C := RX6) (T := TX6) (N := 3) hx hb hts inlX6 hown hKW.1 hP 2 rfl rfl 1 (by decide) (hts _ wd_9_23) (fun _ h => h) rfl dX6_become_10 ?_
  refine va_put (ci := 6) (v := .int xw) (C := RX6) (T := TX6) (N := 3) hx hb hts inlX6 tyX6 tyX6_ok nmX6 hown hKW.1 hP hD hS 0 rfl rfl 1 (by decide) (hts _ wd_9_23) (fun _ h => h) rfl (tyX6_ok 1 (by decide)) rfl rfl (Nat.le_of_ble_eq_true rfl) dX6_become_13 (fun H locs hP hD hS => ?_)
  have hP : va_P g.1 vwCl [(a 0, .inr (6, [.int (nI cnt), .int xw, .ref (a 1)])), (a 1, .inl (gI g, 14, .inl f01)), (b 0, .inr (6, [.int (nI cnt), .int xw, .ref (b 1)])), (b 1, .inl (gI g, 14, .inl f0))] H := hP
  have hD : va_D A [(a 0, .inr (6, [.int (nI cnt), .int xw, .ref (a 1)])), (a 1, .inl (gI g, 14, .inl f01)), (b 0, .inr (6, [.int (nI cnt), .int xw, .ref (b 1)])), (b 1, .inl (gI g, 14, .inl f0))] := hD
  refine lv_aload_n hx hb dX6_become_16 rfl (lv_at hl 1 rfl) ?_
  refine va_get (ci := 6) (C := RX6) (T := TX6) (N := 3) hx hb hts inlX6 hown hKW.1 hP 2 rfl rfl 2 (by decide) (hts _ wd_4_23) (fun _ h => h) rfl dX6_become_17 ?_
  refine lv_iconst (v := 0) hx hb dX6_become_20 (by decide) ?_
  refine lv_aload_n hx hb dX6_become_21 rfl (lv_at hl 0 rfl) ?_
  refine va_get (ci := 6) (C := RX6) (T := TX6) (N := 3) hx hb hts inlX6 hown hKW.1 hP 0 rfl rfl 2 (by decide) (hts _ wd_4_23) (fun _ h => h) rfl dX6_become_22 ?_
  refine lv_iconst (v := 0) hx hb dX6_become_25 (by decide) ?_
  refine lv_bipush (v := 14) hx hb dX6_become_26 (by decide) ?_
  refine va_copyi hx hb (hml.trans hl.1.symm) hown (hts _ wd_10_0) (hts _ wd_8_9) (hts _ wd_8_10) (hts _ wd_8_11) hKW.1 hP hD hS 3 1 0 0 rfl rfl rfl rfl rfl (by decide) (by decide) (by decide) (by decide) (by decide) (fun _ _ => rfl) (Nat.le_of_ble_eq_true rfl) (Nat.le_of_ble_eq_true (by decide)) dX6_become_28 (fun H locs hP hD hS => ?_)
  have hP : va_P g.1 vwCl [(a 0, .inr (6, [.int (nI cnt), .int xw, .ref (a 1)])), (a 1, .inl (gI g, 14, .inl (va_cpy f0 f01 0 0 14))), (b 0, .inr (6, [.int (nI cnt), .int xw, .ref (b 1)])), (b 1, .inl (gI g, 14, .inl f0))] H := hP
  have hD : va_D A [(a 0, .inr (6, [.int (nI cnt), .int xw, .ref (a 1)])), (a 1, .inl (gI g, 14, .inl (va_cpy f0 f01 0 0 14))), (b 0, .inr (6, [.int (nI cnt), .int xw, .ref (b 1)])), (b 1, .inl (gI g, 14, .inl f0))] := hD
  have hP := k_extP (q := 1) (f := f0) hP rfl (fun j hj => k_cpyF hj)
  have hD := k_extD (q := 1) (e1 := .inl (gI g, 14, .inl f0)) hD rfl
  have hP : va_P g.1 vwCl [(a 0, .inr (6, [.int (nI cnt), .int xw, .ref (a 1)])), (a 1, .inl (gI g, 14, .inl f0)), (b 0, .inr (6, [.int (nI cnt), .int xw, .ref (b 1)])), (b 1, .inl (gI g, 14, .inl f0))] H := hP
  have hD : va_D A [(a 0, .inr (6, [.int (nI cnt), .int xw, .ref (a 1)])), (a 1, .inl (gI g, 14, .inl f0)), (b 0, .inr (6, [.int (nI cnt), .int xw, .ref (b 1)])), (b 1, .inl (gI g, 14, .inl f0))] := hD
  exact k_vret () [0, 1, 2, 3] hx hb hr hlk hP hD hS trivial rfl rfl rfl (Nat.le_of_ble_eq_true rfl) (Nat.le_of_ble_eq_true rfl) dX6_become_31
theorem dX0_add_0 : decode cX0_add 0 = .ok (.aload_n 0, 1) := by decide +kernel
theorem dX0_add_1 : decode cX0_add 1 = .ok (.getfield 9, 3) := by decide +kernel
theorem dX0_add_4 : decode cX0_add 4 = .ok (.aload_n 0, 1) := by decide +kernel
theorem dX0_add_5 : decode cX0_add 5 = .ok (.getfield 36, 3) := by decide +kernel
theorem dX0_add_8 : decode cX0_add 8 = .ok (.iload_n 1, 1) := by decide +kernel
theorem dX0_add_9 : decode cX0_add 9 = .ok (.iastore, 1) := by decide +kernel
theorem dX0_add_10 : decode cX0_add 10 = .ok (.aload_n 0, 1) := by decide +kernel
theorem dX0_add_11 : decode cX0_add 11 = .ok (.getfield 15, 3) := by decide +kernel
theorem dX0_add_14 : decode cX0_add 14 = .ok (.aload_n 0, 1) := by decide +kernel
theorem dX0_add_15 : decode cX0_add 15 = .ok (.getfield 36, 3) := by decide +kernel
theorem dX0_add_18 : decode cX0_add 18 = .ok (.iload_n 2, 1) := by decide +kernel
theorem dX0_add_19 : decode cX0_add 19 = .ok (.iastore, 1) := by decide +kernel
theorem dX0_add_20 : decode cX0_add 20 = .ok (.aload_n 0, 1) := by decide +kernel
theorem dX0_add_21 : decode cX0_add 21 = .ok (.getfield 18, 3) := by decide +kernel
theorem dX0_add_24 : decode cX0_add 24 = .ok (.aload_n 0, 1) := by decide +kernel
theorem dX0_add_25 : decode cX0_add 25 = .ok (.getfield 36, 3) := by decide +kernel
theorem dX0_add_28 : decode cX0_add 28 = .ok (.iload_n 3, 1) := by decide +kernel
theorem dX0_add_29 : decode cX0_add 29 = .ok (.iastore, 1) := by decide +kernel
theorem dX0_add_30 : decode cX0_add 30 = .ok (.aload_n 0, 1) := by decide +kernel
theorem dX0_add_31 : decode cX0_add 31 = .ok (.getfield 21, 3) := by decide +kernel
theorem dX0_add_34 : decode cX0_add 34 = .ok (.aload_n 0, 1) := by decide +kernel
theorem dX0_add_35 : decode cX0_add 35 = .ok (.getfield 36, 3) := by decide +kernel
theorem dX0_add_38 : decode cX0_add 38 = .ok (.iload 4, 2) := by decide +kernel
theorem dX0_add_40 : decode cX0_add 40 = .ok (.iastore, 1) := by decide +kernel
theorem dX0_add_41 : decode cX0_add 41 = .ok (.aload_n 0, 1) := by decide +kernel
theorem dX0_add_42 : decode cX0_add 42 = .ok (.getfield 24, 3) := by decide +kernel
theorem dX0_add_45 : decode cX0_add 45 = .ok (.aload_n 0, 1) := by decide +kernel
theorem dX0_add_46 : decode cX0_add 46 = .ok (.getfield 36, 3) := by decide +kernel
theorem dX0_add_49 : decode cX0_add 49 = .ok (.iload 5, 2) := by decide +kernel
theorem dX0_add_51 : decode cX0_add 51 = .ok (.iastore, 1) := by decide +kernel
theorem dX0_add_52 : decode cX0_add 52 = .ok (.aload_n 0, 1) := by decide +kernel
theorem dX0_add_53 : decode cX0_add 53 = .ok (.getfield 27, 3) := by decide +kernel
theorem dX0_add_56 : decode cX0_add 56 = .ok (.aload_n 0, 1) := by decide +kernel
theorem dX0_add_57 : decode cX0_add 57 = .ok (.getfield 36, 3) := by decide +kernel
theorem dX0_add_60 : decode cX0_add 60 = .ok (.iconst (-1), 1) := by decide +kernel
theorem dX0_add_61 : decode cX0_add 61 = .ok (.iastore, 1) := by decide +kernel
theorem dX0_add_62 : decode cX0_add 62 = .ok (.aload_n 0, 1) := by decide +kernel
theorem dX0_add_63 : decode cX0_add 63 = .ok (.getfield 30, 3) := by decide +kernel
theorem dX0_add_66 : decode cX0_add 66 = .ok (.aload_n 0, 1) := by decide +kernel
theorem dX0_add_67 : decode cX0_add 67 = .ok (.getfield 36, 3) := by decide +kernel
theorem dX0_add_70 : decode cX0_add 70 = .ok (.iconst 0, 1) := by decide +kernel
theorem dX0_add_71 : decode cX0_add 71 = .ok (.iastore, 1) := by decide +kernel
theorem dX0_add_72 : decode cX0_add 72 = .ok (.aload_n 0, 1) := by decide +kernel
theorem dX0_add_73 : decode cX0_add 73 = .ok (.aload_n 0, 1) := by decide +kernel
theorem dX0_add_74 : decode cX0_add 74 = .ok (.getfield 40, 3) := by decide +kernel
theorem dX0_add_77 : decode cX0_add 77 = .ok (.aload_n 0, 1) := by decide +kernel
theorem dX0_add_78 : decode cX0_add 78 = .ok (.getfield 36, 3) := by decide +kernel
theorem dX0_add_81 : decode cX0_add 81 = .ok (.invokestatic 43, 3) := by decide +kernel
theorem dX0_add_84 : decode cX0_add 84 = .ok (.putfield 40, 3) := by decide +kernel
theorem dX0_add_87 : decode cX0_add 87 = .ok (.aload_n 0, 1) := by decide +kernel
theorem dX0_add_88 : decode cX0_add 88 = .ok (.aload_n 0, 1) := by decide +kernel
theorem dX0_add_89 : decode cX0_add 89 = .ok (.getfield 47, 3) := by decide +kernel
theorem dX0_add_92 : decode cX0_add 92 = .ok (.aload_n 0, 1) := by decide +kernel
theorem dX0_add_93 : decode cX0_add 93 = .ok (.getfield 36, 3) := by decide +kernel
theorem dX0_add_96 : decode cX0_add 96 = .ok (.invokestatic 43, 3) := by decide +kernel
theorem dX0_add_99 : decode cX0_add 99 = .ok (.putfield 47, 3) := by decide +kernel
theorem dX0_add_102 : decode cX0_add 102 = .ok (.aload_n 0, 1) := by decide +kernel
theorem dX0_add_103 : decode cX0_add 103 = .ok (.dup, 1) := by decide +kernel
theorem dX0_add_104 : decode cX0_add 104 = .ok (.getfield 36, 3) := by decide +kernel
theorem dX0_add_107 : decode cX0_add 107 = .ok (.iconst 1, 1) := by decide +kernel
theorem dX0_add_108 : decode cX0_add 108 = .ok (.iadd, 1) := by decide +kernel
theorem dX0_add_109 : decode cX0_add 109 = .ok (.putfield 36, 3) := by decide +kernel
theorem dX0_add_112 : decode cX0_add 112 = .ok (.aload_n 0, 1) := by decide +kernel
theorem dX0_add_113 : decode cX0_add 113 = .ok (.getfield 36, 3) := by decide +kernel
theorem dX0_add_116 : decode cX0_add 116 = .ok (.iconst 1, 1) := by decide +kernel
theorem dX0_add_117 : decode cX0_add 117 = .ok (.isub, 1) := by decide +kernel
theorem dX0_add_118 : decode cX0_add 118 = .ok (.ireturn, 1) := by decide +kernel
set_option maxHeartbeats 8000000 in
set_option maxRecDepth 100000 in
theorem c_X0_add (l : Launch) (g : kG) (sz : Nat) (a : Nat → Nat) (cnt : Nat) (wn : Nat) (xa : Int32) (xd : Int32) (f0 : Nat → Int32) (f1 : Nat → Int32) (f2 : Nat → Int32) (f3 : Nat → Int32) (f4 : Nat → Int32) (f5 : Nat → Int32) (f6 : Nat → Int32) (f7 : Nat → Int32) (x : Int32) (y : Int32) (z : Int32) (v : Int32) (w : Int32) (hc : cnt < 10) (hf : ∀ j, j < 10 → (0 : Int) ≤ (f3 j).toInt ∧ (f3 j).toInt ≤ 60) (hla : ∀ j, j < 10 → (0 : Int) ≤ (f4 j).toInt ∧ (f4 j).toInt ≤ 60) (hx1 : (0 : Int) ≤ Int32.toInt v ∧ Int32.toInt v ≤ 60) (hx2 : (0 : Int) ≤ Int32.toInt w ∧ Int32.toInt w ≤ 60) : kMi l g yX0_add cX0_add 6 (some .int) 2 0 0 [.ref (a 0), .int x, .int y, .int z, .int v, .int w] sz [(a 0, .inr (0, [.int (nI cnt), .ref (a 1), .ref (a 2), .ref (a 3), .ref (a 4), .ref (a 5), .ref (a 6), .ref (a 7), .int xa, .int xd, .int (nI wn), .ref (a 8)])), (a 1, .inl (gI g, 10, .inl f0)), (a 2, .inl (gI g, 10, .inl f1)), (a 3, .inl (gI g, 10, .inl f2)), (a 4, .inl (gI g, 10, .inl f3)), (a 5, .inl (gI g, 10, .inl f4)), (a 6, .inl (gI g, 10, .inl f5)), (a 7, .inl (gI g, 10, .inl f6)), (a 8, .inl (gI g, 10, .inl f7))] (fun (r : Int32) (u : Int32 × Int32 × (Nat → Int32) × (Nat → Int32) × (Nat → Int32) × (Nat → Int32) × (Nat → Int32) × (Nat → Int32) × (Nat → Int32)) => (∀ j, j < 10 → (0 : Int) ≤ (u.2.2.2.2.2.1 j).toInt ∧ (u.2.2.2.2.2.1 j).toInt ≤ 60) ∧ (∀ j, j < 10 → (0 : Int) ≤ (u.2.2.2.2.2.2.1 j).toInt ∧ (u.2.2.2.2.2.2.1 j).toInt ≤ 60)) (fun (u : Int32 × Int32 × (Nat → Int32) × (Nat → Int32) × (Nat → Int32) × (Nat → Int32) × (Nat → Int32) × (Nat → Int32) × (Nat → Int32)) => ([(a 0, .inr (0, [.int (nI (cnt + 1)), .ref (a 1), .ref (a 2), .ref (a 3), .ref (a 4), .ref (a 5), .ref (a 6), .ref (a 7), .int u.1, .int u.2.1, .int (nI wn), .ref (a 8)])), (a 1, .inl (gI g, 10, .inl u.2.2.1)), (a 2, .inl (gI g, 10, .inl u.2.2.2.1)), (a 3, .inl (gI g, 10, .inl u.2.2.2.2.1)), (a 4, .inl (gI g, 10, .inl u.2.2.2.2.2.1)), (a 5, .inl (gI g, 10, .inl u.2.2.2.2.2.2.1)), (a 6, .inl (gI g, 10, .inl u.2.2.2.2.2.2.2.1)), (a 7, .inl (gI g, 10, .inl u.2.2.2.2.2.2.2.2)), (a 8, .inl (gI g, 10, .inl f7))] : va_W)) := by
  refine kMi.of (by decide) (Nat.le_of_ble_eq_true rfl) (fun p e s m below meth c A hx hb hr hml hown hts hlk hnm hKW hP hD hS hA ls hl => ?_)
  have hown : s.vm.findClass RX0 = some m.cls := hown
  have hl : lv_has ls 6 [(0, .ref (a 0)), (1, .int x), (2, .int y), (3, .int z), (4, .int v), (5, .int w)] := hl
  refine k_hide hP hS (fun H locs hP hS => ?_)
  refine lv_aload_n hx hb dX0_add_0 rfl (lv_at hl 0 rfl) ?_
  refine va_get (ci := 0) (C := RX0) (T := TX0) (N := 12) hx hb hts inlX0 hown hKW.1 hP 0 rfl rfl 1 (by decide) (hts _ wd_4_6) (fun _ h => h) rfl dX0_add_1 ?_
  refine lv_aload_n hx hb dX0_add_4 rfl (lv_at hl 0 rfl) ?_
  refine va_get (ci := 0) (C := RX0) (T := TX0) (N := 12) hx hb hts inlX0 hown hKW.1 hP 0 rfl rfl 0 (by decide) (hts _ wd_9_7) (fun _ h => h) rfl dX0_add_5 ?_
  refine lv_iload_n hx hb dX0_add_8 rfl (lv_at hl 1 rfl) ?_
  refine va_iast hx hb hKW.1 hP hD hS 1 0 rfl rfl (vp_in_nI (by omega) (by decide)) dX0_add_9 (fun H locs hP hD hS => ?_)
  have hP : va_P g.1 vwCl [(a 0, .inr (0, [.int (nI cnt), .ref (a 1), .ref (a 2), .ref (a 3), .ref (a 4), .ref (a 5), .ref (a 6), .ref (a 7), .int xa, .int xd, .int (nI wn), .ref (a 8)])), (a 1, .inl (gI g, 10, .inl (upd f0 (nI cnt).toNatClampNeg x))), (a 2, .inl (gI g, 10, .inl f1)), (a 3, .inl (gI g, 10, .inl f2)), (a 4, .inl (gI g, 10, .inl f3)), (a 5, .inl (gI g, 10, .inl f4)), (a 6, .inl (gI g, 10, .inl f5)), (a 7, .inl (gI g, 10, .inl f6)), (a 8, .inl (gI g, 10, .inl f7))] H := hP
  have hD : va_D A [(a 0, .inr (0, [.int (nI cnt), .ref (a 1), .ref (a 2), .ref (a 3), .ref (a 4), .ref (a 5), .ref (a 6), .ref (a 7), .int xa, .int xd, .int (nI wn), .ref (a 8)])), (a 1, .inl (gI g, 10, .inl (upd f0 (nI cnt).toNatClampNeg x))), (a 2, .inl (gI g, 10, .inl f1)), (a 3, .inl (gI g, 10, .inl f2)), (a 4, .inl (gI g, 10, .inl f3)), (a 5, .inl (gI g, 10, .inl f4)), (a 6, .inl (gI g, 10, .inl f5)), (a 7, .inl (gI g, 10, .inl f6)), (a 8, .inl (gI g, 10, .inl f7))] := hD
  obtain ⟨f_1, ef_1⟩ : ∃ zz_ : Nat → Int32, zz_ = upd f0 (nI cnt).toNatClampNeg x := ⟨_, rfl⟩
  rw [← ef_1] at hP hD
  refine lv_aload_n hx hb dX0_add_10 rfl (lv_at hl 0 rfl) ?_
  refine va_get (ci := 0) (C := RX0) (T := TX0) (N := 12) hx hb hts inlX0 hown hKW.1 hP 0 rfl rfl 2 (by decide) (hts _ wd_4_7) (fun _ h => h) rfl dX0_add_11 ?_
  refine lv_aload_n hx hb dX0_add_14 rfl (lv_at hl 0 rfl) ?_
  refine va_get (ci := 0) (C := RX0) (T := TX0) (N := 12) hx hb hts inlX0 hown hKW.1 hP 0 rfl rfl 0 (by decide) (hts _ wd_9_7) (fun _ h => h) rfl dX0_add_15 ?_
  refine lv_iload_n hx hb dX0_add_18 rfl (lv_at hl 2 rfl) ?_
  refine va_iast hx hb hKW.1 hP hD hS 2 0 rfl rfl (vp_in_nI (by omega) (by decide)) dX0_add_19 (fun H locs hP hD hS => ?_)
  have hP : va_P g.1 vwCl [(a 0, .inr (0, [.int (nI cnt), .ref (a 1), .ref (a 2), .ref (a 3), .ref (a 4), .ref (a 5), .ref (a 6), .ref (a 7), .int xa, .int xd, .int (nI wn), .ref (a 8)])), (a 1, .inl (gI g, 10, .inl f_1)), (a 2, .inl (gI g, 10, .inl (upd f1 (nI cnt).toNatClampNeg y))), (a 3, .inl (gI g, 10, .inl f2)), (a 4, .inl (gI g, 10, .inl f3)), (a 5, .inl (gI g, 10, .inl f4)), (a 6, .inl (gI g, 10, .inl f5)), (a 7, .inl (gI g, 10, .inl f6)), (a 8, .inl (gI g, 10, .inl f7))] H := hP
  have hD : va_D A [(a 0, .inr (0, [.int (nI cnt), .ref (a 1), .ref (a 2), .ref (a 3), .ref (a 4), .ref (a 5), .ref (a 6), .ref (a 7), .int xa, .int xd, .int (nI wn), .ref (a 8)])), (a 1, .inl (gI g, 10, .inl f_1)), (a 2, .inl (gI g, 10, .inl (upd f1 (nI cnt).toNatClampNeg y))), (a 3, .inl (gI g, 10, .inl f2)), (a 4, .inl (gI g, 10, .inl f3)), (a 5, .inl (gI g, 10, .inl f4)), (a 6, .inl (gI g, 10, .inl f5)), (a 7, .inl (gI g, 10, .inl f6)), (a 8, .inl (gI g, 10, .inl f7))] := hD
  obtain ⟨f_2, ef_2⟩ : ∃ zz_ : Nat → Int32, zz_ = upd f1 (nI cnt).toNatClampNeg y := ⟨_, rfl⟩
  rw [← ef_2] at hP hD
  refine lv_aload_n hx hb dX0_add_20 rfl (lv_at hl 0 rfl) ?_
  refine va_get (ci := 0) (C := RX0) (T := TX0) (N := 12) hx hb hts inlX0 hown hKW.1 hP 0 rfl rfl 3 (by decide) (hts _ wd_4_8) (fun _ h => h) rfl dX0_add_21 ?_
  refine lv_aload_n hx hb dX0_add_24 rfl (lv_at hl 0 rfl) ?_
  refine va_get (ci := 0) (C := RX0) (T := TX0) (N := 12) hx hb hts inlX0 hown hKW.1 hP 0 rfl rfl 0 (by decide) (hts _ wd_9_7) (fun _ h => h) rfl dX0_add_25 ?_
  refine lv_iload_n hx hb dX0_add_28 rfl (lv_at hl 3 rfl) ?_
  refine va_iast hx hb hKW.1 hP hD hS 3 0 rfl rfl (vp_in_nI (by omega) (by decide)) dX0_add_29 (fun H locs hP hD hS => ?_)
  have hP : va_P g.1 vwCl [(a 0, .inr (0, [.int (nI cnt), .ref (a 1), .ref (a 2), .ref (a 3), .ref (a 4), .ref (a 5), .ref (a 6), .ref (a 7), .int xa, .int xd, .int (nI wn), .ref (a 8)])), (a 1, .inl (gI g, 10, .inl f_1)), (a 2, .inl (gI g, 10, .inl f_2)), (a 3, .inl (gI g, 10, .inl (upd f2 (nI cnt).toNatClampNeg z))), (a 4, .inl (gI g, 10, .inl f3)), (a 5, .inl (gI g, 10, .inl f4)), (a 6, .inl (gI g, 10, .inl f5)), (a 7, .inl (gI g, 10, .inl f6)), (a 8, .inl (gI g, 10, .inl f7))] H := hP
  have hD : va_D A [(a 0, .inr (0, [.int (nI cnt), .ref (a 1), .ref (a 2), .ref (a 3), .ref (a 4), .ref (a 5), .ref (a 6), .ref (a 7), .int xa, .int xd, .int (nI wn), .ref (a 8)])), (a 1, .inl (gI g, 10, .inl f_1)), (a 2, .inl (gI g, 10, .inl f_2)), (a 3, .inl (gI g, 10, .inl (upd f2 (nI cnt).toNatClampNeg z))), (a 4, .inl (gI g, 10, .inl f3)), (a 5, .inl (gI g, 10, .inl f4)), (a 6, .inl (gI g, 10, .inl f5)), (a 7, .inl (gI g, 10, .inl f6)), (a 8, .inl (gI g, 10, .inl f7))] := hD
  obtain ⟨f_3, ef_3⟩ : ∃ zz_ : Nat → Int32, zz_ = upd f2 (nI cnt).toNatClampNeg z := ⟨_, rfl⟩
  rw [← ef_3] at hP hD
  refine lv_aload_n hx hb dX0_add_30 rfl (lv_at hl 0 rfl) ?_
  refine va_get (ci := 0) (C := RX0) (T := TX0) (N := 12) hx hb hts inlX0 hown hKW.1 hP 0 rfl rfl 4 (by decide) (hts _ wd_4_9) (fun _ h => h) rfl dX0_add_31 ?_
  refine lv_aload_n hx hb dX0_add_34 rfl (lv_at hl 0 rfl) ?_
  refine va_get (ci := 0) (C := RX0) (T := TX0) (N := 12) hx hb hts inlX0 hown hKW.1 hP 0 rfl rfl 0 (by decide) (hts _ wd_9_7) (fun _ h => h) rfl dX0_add_35 ?_
  refine lv_iload hx hb dX0_add_38 (lv_at hl 4 rfl) ?_
  refine va_iast hx hb hKW.1 hP hD hS 4 0 rfl rfl (vp_in_nI (by omega) (by decide)) dX0_add_40 (fun H locs hP hD hS => ?_)
  have hP : va_P g.1 vwCl [(a 0, .inr (0, [.int (nI cnt), .ref (a 1), .ref (a 2), .ref (a 3), .ref (a 4), .ref (a 5), .ref (a 6), .ref (a 7), .int xa, .int xd, .int (nI wn), .ref (a 8)])), (a 1, .inl (gI g, 10, .inl f_1)), (a 2, .inl (gI g, 10, .inl f_2)), (a 3, .inl (gI g, 10, .inl f_3)), (a 4, .inl (gI g, 10, .inl (upd f3 (nI cnt).toNatClampNeg v))), (a 5, .inl (gI g, 10, .inl f4)), (a 6, .inl (gI g, 10, .inl f5)), (a 7, .inl (gI g, 10, .inl f6)), (a 8, .inl (gI g, 10, .inl f7))] H := hP
  have hD : va_D A [(a 0, .inr (0, [.int (nI cnt), .ref (a 1), .ref (a 2), .ref (a 3), .ref (a 4), .ref (a 5), .ref (a 6), .ref (a 7), .int xa, .int xd, .int (nI wn), .ref (a 8)])), (a 1, .inl (gI g, 10, .inl f_1)), (a 2, .inl (gI g, 10, .inl f_2)), (a 3, .inl (gI g, 10, .inl f_3)), (a 4, .inl (gI g, 10, .inl (upd f3 (nI cnt).toNatClampNeg v))), (a 5, .inl (gI g, 10, .inl f4)), (a 6, .inl (gI g, 10, .inl f5)), (a 7, .inl (gI g, 10, .inl f6)), (a 8, .inl (gI g, 10, .inl f7))] := hD
  obtain ⟨f_4, ef_4⟩ : ∃ zz_ : Nat → Int32, zz_ = upd f3 (nI cnt).toNatClampNeg v := ⟨_, rfl⟩
  rw [← ef_4] at hP hD
  have hf1 := k_updI (N := 10) (P := fun z => (0 : Int) ≤ z.toInt ∧ z.toInt ≤ 60) ef_4 (by omega) hx1 hf
  refine lv_aload_n hx hb dX0_add_41 rfl (lv_at hl 0 rfl) ?_
  refine va_get (ci := 0) (C := RX0) (T := TX0) (N := 12) hx hb hts inlX0 hown hKW.1 hP 0 rfl rfl 5 (by decide) (hts _ wd_4_10) (fun _ h => h) rfl dX0_add_42 ?_
  refine lv_aload_n hx hb dX0_add_45 rfl (lv_at hl 0 rfl) ?_
  refine va_get (ci := 0) (C := RX0) (T := TX0) (N := 12) hx hb hts inlX0 hown hKW.1 hP 0 rfl rfl 0 (by decide) (hts _ wd_9_7) (fun _ h => h) rfl dX0_add_46 ?_
  refine lv_iload hx hb dX0_add_49 (lv_at hl 5 rfl) ?_
  refine va_iast hx hb hKW.1 hP hD hS 5 0 rfl rfl (vp_in_nI (by omega) (by decide)) dX0_add_51 (fun H locs hP hD hS => ?_)
  have hP : va_P g.1 vwCl [(a 0, .inr (0, [.int (nI cnt), .ref (a 1), .ref (a 2), .ref (a 3), .ref (a 4), .ref (a 5), .ref (a 6), .ref (a 7), .int xa, .int xd, .int (nI wn), .ref (a 8)])), (a 1, .inl (gI g, 10, .inl f_1)), (a 2, .inl (gI g, 10, .inl f_2)), (a 3, .inl (gI g, 10, .inl f_3)), (a 4, .inl (gI g, 10, .inl f_4)), (a 5, .inl (gI g, 10, .inl (upd f4 (nI cnt).toNatClampNeg w))), (a 6, .inl (gI g, 10, .inl f5)), (a 7, .inl (gI g, 10, .inl f6)), (a 8, .inl (gI g, 10, .inl f7))] H := hP
  have hD : va_D A [(a 0, .inr (0, [.int (nI cnt), .ref (a 1), .ref (a 2), .ref (a 3), .ref (a 4), .ref (a 5), .ref (a 6), .ref (a 7), .int xa, .int xd, .int (nI wn), .ref (a 8)])), (a 1, .inl (gI g, 10, .inl f_1)), (a 2, .inl (gI g, 10, .inl f_2)), (a 3, .inl (gI g, 10, .inl f_3)), (a 4, .inl (gI g, 10, .inl f_4)), (a 5, .inl (gI g, 10, .inl (upd f4 (nI cnt).toNatClampNeg w))), (a 6, .inl (gI g, 10, .inl f5)), (a 7, .inl (gI g, 10, .inl f6)), (a 8, .inl (gI g, 10, .inl f7))] := hD
  obtain ⟨f_5, ef_5⟩ : ∃ zz_ : Nat → Int32, zz_ = upd f4 (nI cnt).toNatClampNeg w := ⟨_, rfl⟩
  rw [← ef_5] at hP hD
  have hla1 := k_updI (N := 10) (P := fun z => (0 : Int) ≤ z.toInt ∧ z.toInt ≤ 60) ef_5 (by omega) hx2 hla
  refine lv_aload_n hx hb dX0_add_52 rfl (lv_at hl 0 rfl) ?_
  refine va_get (ci := 0) (C := RX0) (T := TX0) (N := 12) hx hb hts inlX0 hown hKW.1 hP 0 rfl rfl 6 (by decide) (hts _ wd_4_11) (fun _ h => h) rfl dX0_add_53 ?_
  refine lv_aload_n hx hb dX0_add_56 rfl (lv_at hl 0 rfl) ?_
  refine va_get (ci := 0) (C := RX0) (T := TX0) (N := 12) hx hb hts inlX0 hown hKW.1 hP 0 rfl rfl 0 (by decide) (hts _ wd_9_7) (fun _ h => h) rfl dX0_add_57 ?_
  refine lv_iconst (v := (-1)) hx hb dX0_add_60 (by decide) ?_
  refine va_iast hx hb hKW.1 hP hD hS 6 0 rfl rfl (vp_in_nI (by omega) (by decide)) dX0_add_61 (fun H locs hP hD hS => ?_)
  have hP : va_P g.1 vwCl [(a 0, .inr (0, [.int (nI cnt), .ref (a 1), .ref (a 2), .ref (a 3), .ref (a 4), .ref (a 5), .ref (a 6), .ref (a 7), .int xa, .int xd, .int (nI wn), .ref (a 8)])), (a 1, .inl (gI g, 10, .inl f_1)), (a 2, .inl (gI g, 10, .inl f_2)), (a 3, .inl (gI g, 10, .inl f_3)), (a 4, .inl (gI g, 10, .inl f_4)), (a 5, .inl (gI g, 10, .inl f_5)), (a 6, .inl (gI g, 10, .inl (upd f5 (nI cnt).toNatClampNeg (-1)))), (a 7, .inl (gI g, 10, .inl f6)), (a 8, .inl (gI g, 10, .inl f7))] H := hP
  have hD : va_D A [(a 0, .inr (0, [.int (nI cnt), .ref (a 1), .ref (a 2), .ref (a 3), .ref (a 4), .ref (a 5), .ref (a 6), .ref (a 7), .int xa, .int xd, .int (nI wn), .ref (a 8)])), (a 1, .inl (gI g, 10, .inl f_1)), (a 2, .inl (gI g, 10, .inl f_2)), (a 3, .inl (gI g, 10, .inl f_3)), (a 4, .inl (gI g, 10, .inl f_4)), (a 5, .inl (gI g, 10, .inl f_5)), (a 6, .inl (gI g, 10, .inl (upd f5 (nI cnt).toNatClampNeg (-1)))), (a 7, .inl (gI g, 10, .inl f6)), (a 8, .inl (gI g, 10, .inl f7))] := hD
  obtain ⟨f_6, ef_6⟩ : ∃ zz_ : Nat → Int32, zz_ = upd f5 (nI cnt).toNatClampNeg (-1) := ⟨_, rfl⟩
  rw [← ef_6] at hP hD
  refine lv_aload_n hx hb dX0_add_62 rfl (lv_at hl 0 rfl) ?_
  refine va_get (ci := 0) (C := RX0) (T := TX0) (N := 12) hx hb hts inlX0 hown hKW.1 hP 0 rfl rfl 7 (by decide) (hts _ wd_4_12) (fun _ h => h) rfl dX0_add_63 ?_
  refine lv_aload_n hx hb dX0_add_66 rfl (lv_at hl 0 rfl) ?_
  refine va_get (ci := 0) (C := RX0) (T := TX0) (N := 12) hx hb hts inlX0 hown hKW.1 hP 0 rfl rfl 0 (by decide) (hts _ wd_9_7) (fun _ h => h) rfl dX0_add_67 ?_
  refine lv_iconst (v := 0) hx hb dX0_add_70 (by decide) ?_
  refine va_iast hx hb hKW.1 hP hD hS 7 0 rfl rfl (vp_in_nI (by omega) (by decide)) dX0_add_71 (fun H locs hP hD hS => ?_)
  have hP : va_P g.1 vwCl [(a 0, .inr (0, [.int (nI cnt), .ref (a 1), .ref (a 2), .ref (a 3), .ref (a 4), .ref (a 5), .ref (a 6), .ref (a 7), .int xa, .int xd, .int (nI wn), .ref (a 8)])), (a 1, .inl (gI g, 10, .inl f_1)), (a 2, .inl (gI g, 10, .inl f_2)), (a 3, .inl (gI g, 10, .inl f_3)), (a 4, .inl (gI g, 10, .inl f_4)), (a 5, .inl (gI g, 10, .inl f_5)), (a 6, .inl (gI g, 10, .inl f_6)), (a 7, .inl (gI g, 10, .inl (upd f6 (nI cnt).toNatClampNeg 0))), (a 8, .inl (gI g, 10, .inl f7))] H := hP
  have hD : va_D A [(a 0, .inr (0, [.int (nI cnt), .ref (a 1), .ref (a 2), .ref (a 3), .ref (a 4), .ref (a 5), .ref (a 6), .ref (a 7), .int xa, .int xd, .int (nI wn), .ref (a 8)])), (a 1, .inl (gI g, 10, .inl f_1)), (a 2, .inl (gI g, 10, .inl f_2)), (a 3, .inl (gI g, 10, .inl f_3)), (a 4, .inl (gI g, 10, .inl f_4)), (a 5, .inl (gI g, 10, .inl f_5)), (a 6, .inl (gI g, 10, .inl f_6)), (a 7, .inl (gI g, 10, .inl (upd f6 (nI cnt).toNatClampNeg 0))), (a 8, .inl (gI g, 10, .inl f7))] := hD
  obtain ⟨f_7, ef_7⟩ : ∃ zz_ : Nat → Int32, zz_ = upd f6 (nI cnt).toNatClampNeg 0 := ⟨_, rfl⟩
  rw [← ef_7] at hP hD
  refine lv_aload_n hx hb dX0_add_72 rfl (lv_at hl 0 rfl) ?_
  refine lv_aload_n hx hb dX0_add_73 rfl (lv_at hl 0 rfl) ?_
  refine va_get (ci := 0) (C := RX0) (T := TX0) (N := 12) hx hb hts inlX0 hown hKW.1 hP 0 rfl rfl 8 (by decide) (hts _ wd_9_10) (fun _ h => h) rfl dX0_add_74 ?_
  refine lv_aload_n hx hb dX0_add_77 rfl (lv_at hl 0 rfl) ?_
  refine va_get (ci := 0) (C := RX0) (T := TX0) (N := 12) hx hb hts inlX0 hown hKW.1 hP 0 rfl rfl 0 (by decide) (hts _ wd_9_7) (fun _ h => h) rfl dX0_add_78 ?_
  refine k_SNi [] [0, 1, 2, 3, 4, 5, 6, 7, 8] (wr := [(a 0, .inr (0, [.int (nI cnt), .ref (a 1), .ref (a 2), .ref (a 3), .ref (a 4), .ref (a 5), .ref (a 6), .ref (a 7), .int xa, .int xd, .int (nI wn), .ref (a 8)])), (a 1, .inl (gI g, 10, .inl f_1)), (a 2, .inl (gI g, 10, .inl f_2)), (a 3, .inl (gI g, 10, .inl f_3)), (a 4, .inl (gI g, 10, .inl f_4)), (a 5, .inl (gI g, 10, .inl f_5)), (a 6, .inl (gI g, 10, .inl f_6)), (a 7, .inl (gI g, 10, .inl f_7)), (a 8, .inl (gI g, 10, .inl f7))]) hx hb hml hown hts hKW hP hD hS hA hl.1 (c_X11_without l g _ xa (nI cnt) ) wd_11_13 wd_1_2 nw_13 wd_11_12 yd_X11_without ⟨(Nat.le_of_ble_eq_true rfl), (Nat.le_of_ble_eq_true rfl)⟩ rfl rfl rfl rfl (by decide) rfl (Nat.le_of_ble_eq_true rfl) dX0_add_81 ⟨(Nat.le_of_ble_eq_true rfl), (Nat.le_of_ble_eq_true rfl)⟩ (fun r_8 u_9 H locs hw_10 hP hD hS => ?_)
  have hP : va_P g.1 vwCl [(a 0, .inr (0, [.int (nI cnt), .ref (a 1), .ref (a 2), .ref (a 3), .ref (a 4), .ref (a 5), .ref (a 6), .ref (a 7), .int xa, .int xd, .int (nI wn), .ref (a 8)])), (a 1, .inl (gI g, 10, .inl f_1)), (a 2, .inl (gI g, 10, .inl f_2)), (a 3, .inl (gI g, 10, .inl f_3)), (a 4, .inl (gI g, 10, .inl f_4)), (a 5, .inl (gI g, 10, .inl f_5)), (a 6, .inl (gI g, 10, .inl f_6)), (a 7, .inl (gI g, 10, .inl f_7)), (a 8, .inl (gI g, 10, .inl f7))] H := hP
  have hD : va_D A [(a 0, .inr (0, [.int (nI cnt), .ref (a 1), .ref (a 2), .ref (a 3), .ref (a 4), .ref (a 5), .ref (a 6), .ref (a 7), .int xa, .int xd, .int (nI wn), .ref (a 8)])), (a 1, .inl (gI g, 10, .inl f_1)), (a 2, .inl (gI g, 10, .inl f_2)), (a 3, .inl (gI g, 10, .inl f_3)), (a 4, .inl (gI g, 10, .inl f_4)), (a 5, .inl (gI g, 10, .inl f_5)), (a 6, .inl (gI g, 10, .inl f_6)), (a 7, .inl (gI g, 10, .inl f_7)), (a 8, .inl (gI g, 10, .inl f7))] := hD
  refine va_put (ci := 0) (v := .int r_8) (C := RX0) (T := TX0) (N := 12) hx hb hts inlX0 tyX0 tyX0_ok nmX0 hown hKW.1 hP hD hS 0 rfl rfl 8 (by decide) (hts _ wd_9_10) (fun _ h => h) rfl (tyX0_ok 8 (by decide)) rfl rfl (Nat.le_of_ble_eq_true rfl) dX0_add_84 (fun H locs hP hD hS => ?_)
  have hP : va_P g.1 vwCl [(a 0, .inr (0, [.int (nI cnt), .ref (a 1), .ref (a 2), .ref (a 3), .ref (a 4), .ref (a 5), .ref (a 6), .ref (a 7), .int r_8, .int xd, .int (nI wn), .ref (a 8)])), (a 1, .inl (gI g, 10, .inl f_1)), (a 2, .inl (gI g, 10, .inl f_2)), (a 3, .inl (gI g, 10, .inl f_3)), (a 4, .inl (gI g, 10, .inl f_4)), (a 5, .inl (gI g, 10, .inl f_5)), (a 6, .inl (gI g, 10, .inl f_6)), (a 7, .inl (gI g, 10, .inl f_7)), (a 8, .inl (gI g, 10, .inl f7))] H := hP
  have hD : va_D A [(a 0, .inr (0, [.int (nI cnt), .ref (a 1), .ref (a 2), .ref (a 3), .ref (a 4), .ref (a 5), .ref (a 6), .ref (a 7), .int r_8, .int xd, .int (nI wn), .ref (a 8)])), (a 1, .inl (gI g, 10, .inl f_1)), (a 2, .inl (gI g, 10, .inl f_2)), (a 3, .inl (gI g, 10, .inl f_3)), (a 4, .inl (gI g, 10, .inl f_4)), (a 5, .inl (gI g, 10, .inl f_5)), (a 6, .inl (gI g, 10, .inl f_6)), (a 7, .inl (gI g, 10, .inl f_7)), (a 8, .inl (gI g, 10, .inl f7))] := hD
  refine lv_aload_n hx hb dX0_add_87 rfl (lv_at hl 0 rfl) ?_
  refine lv_aload_n hx hb dX0_add_88 rfl (lv_at hl 0 rfl) ?_
  refine va_get (ci := 0) (C := RX0) (T := TX0) (N := 12) hx hb hts inlX0 hown hKW.1 hP 0 rfl rfl 9 (by decide) (hts _ wd_9_11) (fun _ h => h) rfl dX0_add_89 ?_
  refine lv_aload_n hx hb dX0_add_92 rfl (lv_at hl 0 rfl) ?_
  refine va_get (ci := 0) (C := RX0) (T := TX0) (N := 12) hx hb hts inlX0 hown hKW.1 hP 0 rfl rfl 0 (by decide) (hts _ wd_9_7) (fun _ h => h) rfl dX0_add_93 ?_
  refine k_SNi [] [0, 1, 2, 3, 4, 5, 6, 7, 8] (wr := [(a 0, .inr (0, [.int (nI cnt), .ref (a 1), .ref (a 2), .ref (a 3), .ref (a 4), .ref (a 5), .ref (a 6), .ref (a 7), .int r_8, .int xd, .int (nI wn), .ref (a 8)])), (a 1, .inl (gI g, 10, .inl f_1)), (a 2, .inl (gI g, 10, .inl f_2)), (a 3, .inl (gI g, 10, .inl f_3)), (a 4, .inl (gI g, 10, .inl f_4)), (a 5, .inl (gI g, 10, .inl f_5)), (a 6, .inl (gI g, 10, .inl f_6)), (a 7, .inl (gI g, 10, .inl f_7)), (a 8, .inl (gI g, 10, .inl f7))]) hx hb hml hown hts hKW hP hD hS hA hl.1 (c_X11_without l g _ xd (nI cnt) ) wd_11_13 wd_1_2 nw_13 wd_11_12 yd_X11_without ⟨(Nat.le_of_ble_eq_true rfl), (Nat.le_of_ble_eq_true rfl)⟩ rfl rfl rfl rfl (by decide) rfl (Nat.le_of_ble_eq_true rfl) dX0_add_96 ⟨(Nat.le_of_ble_eq_true rfl), (Nat.le_of_ble_eq_true rfl)⟩ (fun r_11 u_12 H locs hw_13 hP hD hS => ?_)
  have hP : va_P g.1 vwCl [(a 0, .inr (0, [.int (nI cnt), .ref (a 1), .ref (a 2), .ref (a 3), .ref (a 4), .ref (a 5), .ref (a 6), .ref (a 7), .int r_8, .int xd, .int (nI wn), .ref (a 8)])), (a 1, .inl (gI g, 10, .inl f_1)), (a 2, .inl (gI g, 10, .inl f_2)), (a 3, .inl (gI g, 10, .inl f_3)), (a 4, .inl (gI g, 10, .inl f_4)), (a 5, .inl (gI g, 10, .inl f_5)), (a 6, .inl (gI g, 10, .inl f_6)), (a 7, .inl (gI g, 10, .inl f_7)), (a 8, .inl (gI g, 10, .inl f7))] H := hP
  have hD : va_D A [(a 0, .inr (0, [.int (nI cnt), .ref (a 1), .ref (a 2), .ref (a 3), .ref (a 4), .ref (a 5), .ref (a 6), .ref (a 7), .int r_8, .int xd, .int (nI wn), .ref (a 8)])), (a 1, .inl (gI g, 10, .inl f_1)), (a 2, .inl (gI g, 10, .inl f_2)), (a 3, .inl (gI g, 10, .inl f_3)), (a 4, .inl (gI g, 10, .inl f_4)), (a 5, .inl (gI g, 10, .inl f_5)), (a 6, .inl (gI g, 10, .inl f_6)), (a 7, .inl (gI g, 10, .inl f_7)), (a 8, .inl (gI g, 10, .inl f7))] := hD
  refine va_put (ci := 0) (v := .int r_11) (C := RX0) (T := TX0) (N := 12) hx hb hts inlX0 tyX0 tyX0_ok nmX0 hown hKW.1 hP hD hS 0 rfl rfl 9 (by decide) (hts _ wd_9_11) (fun _ h => h) rfl (tyX0_ok 9 (by decide)) rfl rfl (Nat.le_of_ble_eq_true rfl) dX0_add_99 (fun H locs hP hD hS => ?_)
  have hP : va_P g.1 vwCl [(a 0, .inr (0, [.int (nI cnt), .ref (a 1), .ref (a 2), .ref (a 3), .ref (a 4), .ref (a 5), .ref (a 6), .ref (a 7), .int r_8, .int r_11, .int (nI wn), .ref (a 8)])), (a 1, .inl (gI g, 10, .inl f_1)), (a 2, .inl (gI g, 10, .inl f_2)), (a 3, .inl (gI g, 10, .inl f_3)), (a 4, .inl (gI g, 10, .inl f_4)), (a 5, .inl (gI g, 10, .inl f_5)), (a 6, .inl (gI g, 10, .inl f_6)), (a 7, .inl (gI g, 10, .inl f_7)), (a 8, .inl (gI g, 10, .inl f7))] H := hP
  have hD : va_D A [(a 0, .inr (0, [.int (nI cnt), .ref (a 1), .ref (a 2), .ref (a 3), .ref (a 4), .ref (a 5), .ref (a 6), .ref (a 7), .int r_8, .int r_11, .int (nI wn), .ref (a 8)])), (a 1, .inl (gI g, 10, .inl f_1)), (a 2, .inl (gI g, 10, .inl f_2)), (a 3, .inl (gI g, 10, .inl f_3)), (a 4, .inl (gI g, 10, .inl f_4)), (a 5, .inl (gI g, 10, .inl f_5)), (a 6, .inl (gI g, 10, .inl f_6)), (a 7, .inl (gI g, 10, .inl f_7)), (a 8, .inl (gI g, 10, .inl f7))] := hD
  refine lv_aload_n hx hb dX0_add_102 rfl (lv_at hl 0 rfl) ?_
  refine lv_dup hx hb dX0_add_103 rfl ?_
  refine va_get (ci := 0) (C := RX0) (T := TX0) (N := 12) hx hb hts inlX0 hown hKW.1 hP 0 rfl rfl 0 (by decide) (hts _ wd_9_7) (fun _ h => h) rfl dX0_add_104 ?_
  refine lv_iconst (v := 1) hx hb dX0_add_107 (by decide) ?_
  refine lv_iadd hx hb dX0_add_108 ?_
  refine k_top (y := nI (cnt + 1)) (nI_add cnt 1) ?_
  refine va_put (ci := 0) (v := .int (nI (cnt + 1))) (C := RX0) (T := TX0) (N := 12) hx hb hts inlX0 tyX0 tyX0_ok nmX0 hown hKW.1 hP hD hS 0 rfl rfl 0 (by decide) (hts _ wd_9_7) (fun _ h => h) rfl (tyX0_ok 0 (by decide)) rfl rfl (Nat.le_of_ble_eq_true rfl) dX0_add_109 (fun H locs hP hD hS => ?_)
  have hP : va_P g.1 vwCl [(a 0, .inr (0, [.int (nI (cnt + 1)), .ref (a 1), .ref (a 2), .ref (a 3), .ref (a 4), .ref (a 5), .ref (a 6), .ref (a 7), .int r_8, .int r_11, .int (nI wn), .ref (a 8)])), (a 1, .inl (gI g, 10, .inl f_1)), (a 2, .inl (gI g, 10, .inl f_2)), (a 3, .inl (gI g, 10, .inl f_3)), (a 4, .inl (gI g, 10, .inl f_4)), (a 5, .inl (gI g, 10, .inl f_5)), (a 6, .inl (gI g, 10, .inl f_6)), (a 7, .inl (gI g, 10, .inl f_7)), (a 8, .inl (gI g, 10, .inl f7))] H := hP
  have hD : va_D A [(a 0, .inr (0, [.int (nI (cnt + 1)), .ref (a 1), .ref (a 2), .ref (a 3), .ref (a 4), .ref (a 5), .ref (a 6), .ref (a 7), .int r_8, .int r_11, .int (nI wn), .ref (a 8)])), (a 1, .inl (gI g, 10, .inl f_1)), (a 2, .inl (gI g, 10, .inl f_2)), (a 3, .inl (gI g, 10, .inl f_3)), (a 4, .inl (gI g, 10, .inl f_4)), (a 5, .inl (gI g, 10, .inl f_5)), (a 6, .inl (gI g, 10, .inl f_6)), (a 7, .inl (gI g, 10, .inl f_7)), (a 8, .inl (gI g, 10, .inl f7))] := hD
  refine lv_aload_n hx hb dX0_add_112 rfl (lv_at hl 0 rfl) ?_
  refine va_get (ci := 0) (C := RX0) (T := TX0) (N := 12) hx hb hts inlX0 hown hKW.1 hP 0 rfl rfl 0 (by decide) (hts _ wd_9_7) (fun _ h => h) rfl dX0_add_113 ?_
  refine lv_iconst (v := 1) hx hb dX0_add_116 (by decide) ?_
  refine lv_isub hx hb dX0_add_117 ?_
  refine lv_topi (fun x_14 ex_14 => ?_)
  exact k_iret (r_8, r_11, f_1, f_2, f_3, f_4, f_5, f_6, f_7) [0, 1, 2, 3, 4, 5, 6, 7, 8] hx hb hr hlk hP hD hS (⟨hf1, hla1⟩) rfl rfl rfl (Nat.le_of_ble_eq_true rfl) (Nat.le_of_ble_eq_true rfl) dX0_add_118
theorem dX0_inRoom_0 : decode cX0_inRoom 0 = .ok (.iconst 0, 1) := by decide +kernel
theorem dX0_inRoom_1 : decode cX0_inRoom 1 = .ok (.istore_n 2, 1) := by decide +kernel
theorem dX0_inRoom_2 : decode cX0_inRoom 2 = .ok (.iconst 0, 1) := by decide +kernel
theorem dX0_inRoom_3 : decode cX0_inRoom 3 = .ok (.istore_n 3, 1) := by decide +kernel
theorem dX0_inRoom_4 : decode cX0_inRoom 4 = .ok (.iload_n 3, 1) := by decide +kernel
theorem dX0_inRoom_5 : decode cX0_inRoom 5 = .ok (.aload_n 0, 1) := by decide +kernel
theorem dX0_inRoom_6 : decode cX0_inRoom 6 = .ok (.getfield 36, 3) := by decide +kernel
theorem dX0_inRoom_9 : decode cX0_inRoom 9 = .ok (.if_icmp .ge 25, 3) := by decide +kernel
theorem dX0_inRoom_34 : decode cX0_inRoom 34 = .ok (.iload_n 2, 1) := by decide +kernel
theorem dX0_inRoom_35 : decode cX0_inRoom 35 = .ok (.ireturn, 1) := by decide +kernel
theorem dX0_inRoom_12 : decode cX0_inRoom 12 = .ok (.aload_n 0, 1) := by decide +kernel
theorem dX0_inRoom_13 : decode cX0_inRoom 13 = .ok (.getfield 27, 3) := by decide +kernel
theorem dX0_inRoom_16 : decode cX0_inRoom 16 = .ok (.iload_n 3, 1) := by decide +kernel
theorem dX0_inRoom_17 : decode cX0_inRoom 17 = .ok (.iaload, 1) := by decide +kernel
theorem dX0_inRoom_18 : decode cX0_inRoom 18 = .ok (.iload_n 1, 1) := by decide +kernel
theorem dX0_inRoom_19 : decode cX0_inRoom 19 = .ok (.if_icmp .ne 9, 3) := by decide +kernel
theorem dX0_inRoom_28 : decode cX0_inRoom 28 = .ok (.iinc 3 1, 3) := by decide +kernel
theorem dX0_inRoom_31 : decode cX0_inRoom 31 = .ok (.goto (-27), 3) := by decide +kernel
theorem dX0_inRoom_22 : decode cX0_inRoom 22 = .ok (.iload_n 2, 1) := by decide +kernel
theorem dX0_inRoom_23 : decode cX0_inRoom 23 = .ok (.iload_n 3, 1) := by decide +kernel
theorem dX0_inRoom_24 : decode cX0_inRoom 24 = .ok (.invokestatic 50, 3) := by decide +kernel
theorem dX0_inRoom_27 : decode cX0_inRoom 27 = .ok (.istore_n 2, 1) := by decide +kernel
set_option maxHeartbeats 8000000 in
set_option maxRecDepth 100000 in
theorem c_X0_inRoom (l : Launch) (g : kG) (sz : Nat) (a : Nat → Nat) (cnt : Nat) (wn : Nat) (xa : Int32) (xd : Int32) (f0 : Nat → Int32) (f1 : Nat → Int32) (f2 : Nat → Int32) (f3 : Nat → Int32) (f4 : Nat → Int32) (f5 : Nat → Int32) (f6 : Nat → Int32) (f7 : Nat → Int32) (x : Int32) (hc : cnt ≤ 10) : kMi l g yX0_inRoom cX0_inRoom 4 (some .int) 2 0 0 [.ref (a 0), .int x] sz [(a 0, .inr (0, [.int (nI cnt), .ref (a 1), .ref (a 2), .ref (a 3), .ref (a 4), .ref (a 5), .ref (a 6), .ref (a 7), .int xa, .int xd, .int (nI wn), .ref (a 8)])), (a 1, .inl (gI g, 10, .inl f0)), (a 2, .inl (gI g, 10, .inl f1)), (a 3, .inl (gI g, 10, .inl f2)), (a 4, .inl (gI g, 10, .inl f3)), (a 5, .inl (gI g, 10, .inl f4)), (a 6, .inl (gI g, 10, .inl f5)), (a 7, .inl (gI g, 10, .inl f6)), (a 8, .inl (gI g, 10, .inl f7))] (fun (r : Int32) (u : Unit) => True) (fun (u : Unit) => ([(a 0, .inr (0, [.int (nI cnt), .ref (a 1), .ref (a 2), .ref (a 3), .ref (a 4), .ref (a 5), .ref (a 6), .ref (a 7), .int xa, .int xd, .int (nI wn), .ref (a 8)])), (a 1, .inl (gI g, 10, .inl f0)), (a 2, .inl (gI g, 10, .inl f1)), (a 3, .inl (gI g, 10, .inl f2)), (a 4, .inl (gI g, 10, .inl f3)), (a 5, .inl (gI g, 10, .inl f4)), (a 6, .inl (gI g, 10, .inl f5)), (a 7, .inl (gI g, 10, .inl f6)), (a 8, .inl (gI g, 10, .inl f7))] : va_W)) := by
  refine kMi.of (by decide) (Nat.le_of_ble_eq_true rfl) (fun p e s m below meth c A hx hb hr hml hown hts hlk hnm hKW hP hD hS hA ls hl => ?_)
  have hown : s.vm.findClass RX0 = some m.cls := hown
  have hl : lv_has ls 4 [(0, .ref (a 0)), (1, .int x)] := hl
  refine k_hide hP hS (fun H locs hP hS => ?_)
  refine lv_iconst (v := 0) hx hb dX0_inRoom_0 (by decide) ?_
  refine lv_istore_n (lv' := [(2, .int 0), (0, .ref (a 0)), (1, .int x)]) hx hb dX0_inRoom_1 rfl hl (by decide) rfl (fun ls hl => ?_)
  refine lv_iconst (v := 0) hx hb dX0_inRoom_2 (by decide) ?_
  refine lv_istore_n (lv' := [(3, .int 0), (2, .int 0), (0, .ref (a 0)), (1, .int x)]) hx hb dX0_inRoom_3 rfl hl (by decide) rfl (fun ls hl => ?_)
  have L4 : ∀ (n4 : Nat) (i : Nat) (x2 : Int32) (hfuel4 : cnt - i < n4) (hi : i ≤ cnt) (H : Heap) (locs : List Loc) (hP : va_P g.1 vwCl [(a 0, .inr (0, [.int (nI cnt), .ref (a 1), .ref (a 2), .ref (a 3), .ref (a 4), .ref (a 5), .ref (a 6), .ref (a 7), .int xa, .int xd, .int (nI wn), .ref (a 8)])), (a 1, .inl (gI g, 10, .inl f0)), (a 2, .inl (gI g, 10, .inl f1)), (a 3, .inl (gI g, 10, .inl f2)), (a 4, .inl (gI g, 10, .inl f3)), (a 5, .inl (gI g, 10, .inl f4)), (a 6, .inl (gI g, 10, .inl f5)), (a 7, .inl (gI g, 10, .inl f6)), (a 8, .inl (gI g, 10, .inl f7))] H) (hD : va_D A [(a 0, .inr (0, [.int (nI cnt), .ref (a 1), .ref (a 2), .ref (a 3), .ref (a 4), .ref (a 5), .ref (a 6), .ref (a 7), .int xa, .int xd, .int (nI wn), .ref (a 8)])), (a 1, .inl (gI g, 10, .inl f0)), (a 2, .inl (gI g, 10, .inl f1)), (a 3, .inl (gI g, 10, .inl f2)), (a 4, .inl (gI g, 10, .inl f3)), (a 5, .inl (gI g, 10, .inl f4)), (a 6, .inl (gI g, 10, .inl f5)), (a 7, .inl (gI g, 10, .inl f6)), (a 8, .inl (gI g, 10, .inl f7))]) (hS : va_S A s.heap H locs) (ls : Array Slot) (hl : lv_has ls 4 [(3, .int (nI i)), (2, .int x2), (0, .ref (a 0)), (1, .int x)]), W p l e (kR 2 0 0) s m ([.ref (a 0), .int x] : List Value).toArray below meth c H locs 0 0 (kQi g A below ([.ref (a 0), .int x] : List Value).toArray s 0 0 (fun (r : Int32) (u : Unit) => True) (fun (u : Unit) => ([(a 0, .inr (0, [.int (nI cnt), .ref (a 1), .ref (a 2), .ref (a 3), .ref (a 4), .ref (a 5), .ref (a 6), .ref (a 7), .int xa, .int xd, .int (nI wn), .ref (a 8)])), (a 1, .inl (gI g, 10, .inl f0)), (a 2, .inl (gI g, 10, .inl f1)), (a 3, .inl (gI g, 10, .inl f2)), (a 4, .inl (gI g, 10, .inl f3)), (a 5, .inl (gI g, 10, .inl f4)), (a 6, .inl (gI g, 10, .inl f5)), (a 7, .inl (gI g, 10, .inl f6)), (a 8, .inl (gI g, 10, .inl f7))] : va_W))) (F0 m 4 ls []) := by
    intro n4
    induction n4 with
    | zero => intro i x2 hfuel4; exact absurd hfuel4 (Nat.not_lt_zero _)
    | succ n4 ih4 =>
      intro i x2 hfuel4 hi H locs hP hD hS ls hl
      refine lv_iload_n hx hb dX0_inRoom_4 rfl (lv_at hl 0 rfl) ?_
      refine lv_aload_n hx hb dX0_inRoom_5 rfl (lv_at hl 2 rfl) ?_
      refine va_get (ci := 0) (C := RX0) (T := TX0) (N := 12) hx hb hts inlX0 hown hKW.1 hP 0 rfl rfl 0 (by decide) (hts _ wd_9_7) (fun _ h => h) rfl dX0_inRoom_6 ?_
      refine lv_icmp_ge (tgt := 34) hx hb dX0_inRoom_9 (by decide) (fun c_1 => ?_) (fun c_1 => ?_)
      · have c_1n : cnt ≤ i := (k_leI (a := cnt) (b := i) (by omega) (by omega)).mp c_1
        refine lv_iload_n hx hb dX0_inRoom_34 rfl (lv_at hl 1 rfl) ?_
        exact k_iret () [0, 1, 2, 3, 4, 5, 6, 7, 8] hx hb hr hlk hP hD hS trivial rfl rfl rfl (Nat.le_of_ble_eq_true rfl) (Nat.le_of_ble_eq_true rfl) dX0_inRoom_35
      · have c_1n : i < cnt := Nat.not_le.mp (fun h => c_1 ((k_leI (a := cnt) (b := i) (by omega) (by omega)).mpr h))
        refine lv_aload_n hx hb dX0_inRoom_12 rfl (lv_at hl 2 rfl) ?_
        refine va_get (ci := 0) (C := RX0) (T := TX0) (N := 12) hx hb hts inlX0 hown hKW.1 hP 0 rfl rfl 6 (by decide) (hts _ wd_4_11) (fun _ h => h) rfl dX0_inRoom_13 ?_
        refine lv_iload_n hx hb dX0_inRoom_16 rfl (lv_at hl 0 rfl) ?_
        refine va_iald hx hb hKW.1 hP 6 0 rfl rfl (vp_in_nI (by omega) (by decide)) dX0_inRoom_17 ?_
        refine lv_topi (fun x_2 ex_2 => ?_)
        refine lv_iload_n hx hb dX0_inRoom_18 rfl (lv_at hl 3 rfl) ?_
        refine lv_icmp_ne (tgt := 28) hx hb dX0_inRoom_19 (by decide) (fun c_3 => ?_) (fun c_3 => ?_)
        · refine lv_iinc (v := nI (i + 1)) (lv' := [(3, .int (nI (i + 1))), (2, .int x2), (0, .ref (a 0)), (1, .int x)]) hx hb dX0_inRoom_28 hl (k := 0) rfl (nI_add i 1) (by decide) rfl (fun ls hl => ?_)
          refine lv_goto (tgt := 4) hx hb dX0_inRoom_31 (by decide) ?_
          exact ih4 (i + 1) x2 (by omega) (by first | assumption | omega) H locs (hP.sub [0, 1, 2, 3, 4, 5, 6, 7, 8] rfl) (hD.sub [0, 1, 2, 3, 4, 5, 6, 7, 8] (by decide) rfl) hS ls (lv_sub hl [0, 1, 2, 3] rfl)
        · refine lv_iload_n hx hb dX0_inRoom_22 rfl (lv_at hl 1 rfl) ?_
          refine lv_iload_n hx hb dX0_inRoom_23 rfl (lv_at hl 0 rfl) ?_
          refine k_SNi [] [0, 1, 2, 3, 4, 5, 6, 7, 8] (wr := [(a 0, .inr (0, [.int (nI cnt), .ref (a 1), .ref (a 2), .ref (a 3), .ref (a 4), .ref (a 5), .ref (a 6), .ref (a 7), .int xa, .int xd, .int (nI wn), .ref (a 8)])), (a 1, .inl (gI g, 10, .inl f0)), (a 2, .inl (gI g, 10, .inl f1)), (a 3, .inl (gI g, 10, .inl f2)), (a 4, .inl (gI g, 10, .inl f3)), (a 5, .inl (gI g, 10, .inl f4)), (a 6, .inl (gI g, 10, .inl f5)), (a 7, .inl (gI g, 10, .inl f6)), (a 8, .inl (gI g, 10, .inl f7))]) hx hb hml hown hts hKW hP hD hS hA hl.1 (c_X11_with l g _ x2 (nI i) ) wd_17_10 wd_1_2 nw_14 wd_17_9 yd_X11_with ⟨(Nat.le_of_ble_eq_true rfl), (Nat.le_of_ble_eq_true rfl)⟩ rfl rfl rfl rfl (by decide) rfl (Nat.le_of_ble_eq_true rfl) dX0_inRoom_24 ⟨(Nat.le_of_ble_eq_true rfl), (Nat.le_of_ble_eq_true rfl)⟩ (fun r_4 u_5 H locs hw_6 hP hD hS => ?_)
          have hP : va_P g.1 vwCl [(a 0, .inr (0, [.int (nI cnt), .ref (a 1), .ref (a 2), .ref (a 3), .ref (a 4), .ref (a 5), .ref (a 6), .ref (a 7), .int xa, .int xd, .int (nI wn), .ref (a 8)])), (a 1, .inl (gI g, 10, .inl f0)), (a 2, .inl (gI g, 10, .inl f1)), (a 3, .inl (gI g, 10, .inl f2)), (a 4, .inl (gI g, 10, .inl f3)), (a 5, .inl (gI g, 10, .inl f4)), (a 6, .inl (gI g, 10, .inl f5)), (a 7, .inl (gI g, 10, .inl f6)), (a 8, .inl (gI g, 10, .inl f7))] H := hP
          have hD : va_D A [(a 0, .inr (0, [.int (nI cnt), .ref (a 1), .ref (a 2), .ref (a 3), .ref (a 4), .ref (a 5), .ref (a 6), .ref (a 7), .int xa, .int xd, .int (nI wn), .ref (a 8)])), (a 1, .inl (gI g, 10, .inl f0)), (a 2, .inl (gI g, 10, .inl f1)), (a 3, .inl (gI g, 10, .inl f2)), (a 4, .inl (gI g, 10, .inl f3)), (a 5, .inl (gI g, 10, .inl f4)), (a 6, .inl (gI g, 10, .inl f5)), (a 7, .inl (gI g, 10, .inl f6)), (a 8, .inl (gI g, 10, .inl f7))] := hD
          refine lv_istore_n (lv' := [(2, .int r_4), (3, .int (nI i)), (0, .ref (a 0)), (1, .int x)]) hx hb dX0_inRoom_27 rfl hl (by decide) rfl (fun ls hl => ?_)
          refine lv_iinc (v := nI (i + 1)) (lv' := [(3, .int (nI (i + 1))), (2, .int r_4), (0, .ref (a 0)), (1, .int x)]) hx hb dX0_inRoom_28 hl (k := 1) rfl (nI_add i 1) (by decide) rfl (fun ls hl => ?_)
          refine lv_goto (tgt := 4) hx hb dX0_inRoom_31 (by decide) ?_
          exact ih4 (i + 1) r_4 (by omega) (by first | assumption | omega) H locs (hP.sub [0, 1, 2, 3, 4, 5, 6, 7, 8] rfl) (hD.sub [0, 1, 2, 3, 4, 5, 6, 7, 8] (by decide) rfl) hS ls (lv_sub hl [0, 1, 2, 3] rfl)
  exact L4 (cnt - 0 + 1) 0 0 (Nat.lt_succ_self _) (by first | assumption | omega) H locs (hP.sub [0, 1, 2, 3, 4, 5, 6, 7, 8] rfl) (hD.sub [0, 1, 2, 3, 4, 5, 6, 7, 8] (by decide) rfl) hS ls (lv_sub hl [0, 1, 2, 3] rfl)
theorem dX0_countIn_0 : decode cX0_countIn 0 = .ok (.aload_n 0, 1) := by decide +kernel
theorem dX0_countIn_1 : decode cX0_countIn 1 = .ok (.getfield 36, 3) := by decide +kernel
theorem dX0_countIn_4 : decode cX0_countIn 4 = .ok (.aload_n 0, 1) := by decide +kernel
theorem dX0_countIn_5 : decode cX0_countIn 5 = .ok (.iconst (-1), 1) := by decide +kernel
theorem dX0_countIn_6 : decode cX0_countIn 6 = .ok (.invokevirtual 53, 3) := by decide +kernel
theorem dX0_countIn_9 : decode cX0_countIn 9 = .ok (.invokestatic 57, 3) := by decide +kernel
theorem dX0_countIn_12 : decode cX0_countIn 12 = .ok (.isub, 1) := by decide +kernel
theorem dX0_countIn_13 : decode cX0_countIn 13 = .ok (.ireturn, 1) := by decide +kernel
set_option maxHeartbeats 8000000 in
set_option maxRecDepth 100000 in
theorem c_X0_countIn (l : Launch) (g : kG) (sz : Nat) (a : Nat → Nat) (cnt : Nat) (wn : Nat) (xa : Int32) (xd : Int32) (f0 : Nat → Int32) (f1 : Nat → Int32) (f2 : Nat → Int32) (f3 : Nat → Int32) (f4 : Nat → Int32) (f5 : Nat → Int32) (f6 : Nat → Int32) (f7 : Nat → Int32) (hc : cnt ≤ 10) : kMi l g yX0_countIn cX0_countIn 1 (some .int) 3 0 0 [.ref (a 0)] sz [(a 0, .inr (0, [.int (nI cnt), .ref (a 1), .ref (a 2), .ref (a 3), .ref (a 4), .ref (a 5), .ref (a 6), .ref (a 7), .int xa, .int xd, .int (nI wn), .ref (a 8)])), (a 1, .inl (gI g, 10, .inl f0)), (a 2, .inl (gI g, 10, .inl f1)), (a 3, .inl (gI g, 10, .inl f2)), (a 4, .inl (gI g, 10, .inl f3)), (a 5, .inl (gI g, 10, .inl f4)), (a 6, .inl (gI g, 10, .inl f5)), (a 7, .inl (gI g, 10, .inl f6)), (a 8, .inl (gI g, 10, .inl f7))] (fun (r : Int32) (u : Unit) => True) (fun (u : Unit) => ([(a 0, .inr (0, [.int (nI cnt), .ref (a 1), .ref (a 2), .ref (a 3), .ref (a 4), .ref (a 5), .ref (a 6), .ref (a 7), .int xa, .int xd, .int (nI wn), .ref (a 8)])), (a 1, .inl (gI g, 10, .inl f0)), (a 2, .inl (gI g, 10, .inl f1)), (a 3, .inl (gI g, 10, .inl f2)), (a 4, .inl (gI g, 10, .inl f3)), (a 5, .inl (gI g, 10, .inl f4)), (a 6, .inl (gI g, 10, .inl f5)), (a 7, .inl (gI g, 10, .inl f6)), (a 8, .inl (gI g, 10, .inl f7))] : va_W)) := by
  refine kMi.of (by decide) (Nat.le_of_ble_eq_true rfl) (fun p e s m below meth c A hx hb hr hml hown hts hlk hnm hKW hP hD hS hA ls hl => ?_)
  have hown : s.vm.findClass RX0 = some m.cls := hown
  have hl : lv_has ls 1 [(0, .ref (a 0))] := hl
  refine k_hide hP hS (fun H locs hP hS => ?_)
  refine lv_aload_n hx hb dX0_countIn_0 rfl (lv_at hl 0 rfl) ?_
  refine va_get (ci := 0) (C := RX0) (T := TX0) (N := 12) hx hb hts inlX0 hown hKW.1 hP 0 rfl rfl 0 (by decide) (hts _ wd_9_7) (fun _ h => h) rfl dX0_countIn_1 ?_
  refine lv_aload_n hx hb dX0_countIn_4 rfl (lv_at hl 0 rfl) ?_
  refine lv_iconst (v := (-1)) hx hb dX0_countIn_5 (by decide) ?_
  refine k_Vi [0, 1, 2, 3, 4, 5, 6, 7, 8] [] 0 0 (wr := []) hx hb hml hown hts hKW hP hD hS hA hl.1 (c_X0_inRoom l g _ a cnt wn xa xd f0 f1 f2 f3 f4 f5 f6 f7 (-1) (by first | assumption | omega | decide)) rfl rfl rfl wd_17_8 wd_3_1 wd_17_5 wd_17_6 wd_17_7 yd_X0_inRoom ⟨(Nat.le_of_ble_eq_true rfl), (Nat.le_of_ble_eq_true rfl)⟩ rfl rfl rfl rfl (by decide) rfl (Nat.le_of_ble_eq_true rfl) dX0_countIn_6 ⟨(Nat.le_of_ble_eq_true rfl), (Nat.le_of_ble_eq_true rfl)⟩ (fun r_1 u_2 H locs hw_3 hP hD hS => ?_)
  have hP : va_P g.1 vwCl [(a 0, .inr (0, [.int (nI cnt), .ref (a 1), .ref (a 2), .ref (a 3), .ref (a 4), .ref (a 5), .ref (a 6), .ref (a 7), .int xa, .int xd, .int (nI wn), .ref (a 8)])), (a 1, .inl (gI g, 10, .inl f0)), (a 2, .inl (gI g, 10, .inl f1)), (a 3, .inl (gI g, 10, .inl f2)), (a 4, .inl (gI g, 10, .inl f3)), (a 5, .inl (gI g, 10, .inl f4)), (a 6, .inl (gI g, 10, .inl f5)), (a 7, .inl (gI g, 10, .inl f6)), (a 8, .inl (gI g, 10, .inl f7))] H := hP
  have hD : va_D A [(a 0, .inr (0, [.int (nI cnt), .ref (a 1), .ref (a 2), .ref (a 3), .ref (a 4), .ref (a 5), .ref (a 6), .ref (a 7), .int xa, .int xd, .int (nI wn), .ref (a 8)])), (a 1, .inl (gI g, 10, .inl f0)), (a 2, .inl (gI g, 10, .inl f1)), (a 3, .inl (gI g, 10, .inl f2)), (a 4, .inl (gI g, 10, .inl f3)), (a 5, .inl (gI g, 10, .inl f4)), (a 6, .inl (gI g, 10, .inl f5)), (a 7, .inl (gI g, 10, .inl f6)), (a 8, .inl (gI g, 10, .inl f7))] := hD
  refine k_Si [] [0, 1, 2, 3, 4, 5, 6, 7, 8] (wr := [(a 0, .inr (0, [.int (nI cnt), .ref (a 1), .ref (a 2), .ref (a 3), .ref (a 4), .ref (a 5), .ref (a 6), .ref (a 7), .int xa, .int xd, .int (nI wn), .ref (a 8)])), (a 1, .inl (gI g, 10, .inl f0)), (a 2, .inl (gI g, 10, .inl f1)), (a 3, .inl (gI g, 10, .inl f2)), (a 4, .inl (gI g, 10, .inl f3)), (a 5, .inl (gI g, 10, .inl f4)), (a 6, .inl (gI g, 10, .inl f5)), (a 7, .inl (gI g, 10, .inl f6)), (a 8, .inl (gI g, 10, .inl f7))]) hx hb hml hown hts hKW hP hD hS hA hl.1 (c_J6_bitCount l g _ r_1 ) wd_17_14 wd_17_13 wd_17_11 wd_17_12 yd_J6_bitCount_0f7a4 ⟨(Nat.le_of_ble_eq_true rfl), (Nat.le_of_ble_eq_true rfl)⟩ rfl rfl rfl rfl (by decide) rfl (Nat.le_of_ble_eq_true rfl) dX0_countIn_9 ⟨(Nat.le_of_ble_eq_true rfl), (Nat.le_of_ble_eq_true rfl)⟩ (fun r_4 u_5 H locs hw_6 hP hD hS => ?_)
  have hP : va_P g.1 vwCl [(a 0, .inr (0, [.int (nI cnt), .ref (a 1), .ref (a 2), .ref (a 3), .ref (a 4), .ref (a 5), .ref (a 6), .ref (a 7), .int xa, .int xd, .int (nI wn), .ref (a 8)])), (a 1, .inl (gI g, 10, .inl f0)), (a 2, .inl (gI g, 10, .inl f1)), (a 3, .inl (gI g, 10, .inl f2)), (a 4, .inl (gI g, 10, .inl f3)), (a 5, .inl (gI g, 10, .inl f4)), (a 6, .inl (gI g, 10, .inl f5)), (a 7, .inl (gI g, 10, .inl f6)), (a 8, .inl (gI g, 10, .inl f7))] H := hP
  have hD : va_D A [(a 0, .inr (0, [.int (nI cnt), .ref (a 1), .ref (a 2), .ref (a 3), .ref (a 4), .ref (a 5), .ref (a 6), .ref (a 7), .int xa, .int xd, .int (nI wn), .ref (a 8)])), (a 1, .inl (gI g, 10, .inl f0)), (a 2, .inl (gI g, 10, .inl f1)), (a 3, .inl (gI g, 10, .inl f2)), (a 4, .inl (gI g, 10, .inl f3)), (a 5, .inl (gI g, 10, .inl f4)), (a 6, .inl (gI g, 10, .inl f5)), (a 7, .inl (gI g, 10, .inl f6)), (a 8, .inl (gI g, 10, .inl f7))] := hD
  refine lv_isub hx hb dX0_countIn_12 ?_
  refine lv_topi (fun x_7 ex_7 => ?_)
  exact k_iret () [0, 1, 2, 3, 4, 5, 6, 7, 8] hx hb hr hlk hP hD hS trivial rfl rfl rfl (Nat.le_of_ble_eq_true rfl) (Nat.le_of_ble_eq_true rfl) dX0_countIn_13
theorem dX0_allOut_0 : decode cX0_allOut 0 = .ok (.iconst 0, 1) := by decide +kernel
theorem dX0_allOut_1 : decode cX0_allOut 1 = .ok (.istore_n 1, 1) := by decide +kernel
theorem dX0_allOut_2 : decode cX0_allOut 2 = .ok (.iload_n 1, 1) := by decide +kernel
theorem dX0_allOut_3 : decode cX0_allOut 3 = .ok (.aload_n 0, 1) := by decide +kernel
theorem dX0_allOut_4 : decode cX0_allOut 4 = .ok (.getfield 36, 3) := by decide +kernel
theorem dX0_allOut_7 : decode cX0_allOut 7 = .ok (.if_icmp .ge 16, 3) := by decide +kernel
theorem dX0_allOut_23 : decode cX0_allOut 23 = .ok (.aload_n 0, 1) := by decide +kernel
theorem dX0_allOut_24 : decode cX0_allOut 24 = .ok (.iconst 0, 1) := by decide +kernel
theorem dX0_allOut_25 : decode cX0_allOut 25 = .ok (.putfield 40, 3) := by decide +kernel
theorem dX0_allOut_28 : decode cX0_allOut 28 = .ok (.return_, 1) := by decide +kernel
theorem dX0_allOut_10 : decode cX0_allOut 10 = .ok (.aload_n 0, 1) := by decide +kernel
theorem dX0_allOut_11 : decode cX0_allOut 11 = .ok (.getfield 27, 3) := by decide +kernel
theorem dX0_allOut_14 : decode cX0_allOut 14 = .ok (.iload_n 1, 1) := by decide +kernel
theorem dX0_allOut_15 : decode cX0_allOut 15 = .ok (.iconst (-1), 1) := by decide +kernel
theorem dX0_allOut_16 : decode cX0_allOut 16 = .ok (.iastore, 1) := by decide +kernel
theorem dX0_allOut_17 : decode cX0_allOut 17 = .ok (.iinc 1 1, 3) := by decide +kernel
theorem dX0_allOut_20 : decode cX0_allOut 20 = .ok (.goto (-18), 3) := by decide +kernel
set_option maxHeartbeats 8000000 in
set_option maxRecDepth 100000 in
theorem c_X0_allOut (l : Launch) (g : kG) (sz : Nat) (a : Nat → Nat) (cnt : Nat) (wn : Nat) (xa : Int32) (xd : Int32) (f0 : Nat → Int32) (f1 : Nat → Int32) (f2 : Nat → Int32) (f3 : Nat → Int32) (f4 : Nat → Int32) (f5 : Nat → Int32) (f6 : Nat → Int32) (f7 : Nat → Int32) (hc : cnt ≤ 10) : kMv l g yX0_allOut cX0_allOut 2 none 1 0 0 [.ref (a 0)] sz [(a 0, .inr (0, [.int (nI cnt), .ref (a 1), .ref (a 2), .ref (a 3), .ref (a 4), .ref (a 5), .ref (a 6), .ref (a 7), .int xa, .int xd, .int (nI wn), .ref (a 8)])), (a 1, .inl (gI g, 10, .inl f0)), (a 2, .inl (gI g, 10, .inl f1)), (a 3, .inl (gI g, 10, .inl f2)), (a 4, .inl (gI g, 10, .inl f3)), (a 5, .inl (gI g, 10, .inl f4)), (a 6, .inl (gI g, 10, .inl f5)), (a 7, .inl (gI g, 10, .inl f6)), (a 8, .inl (gI g, 10, .inl f7))] (fun (u : (Nat → Int32)) => True) (fun (u : (Nat → Int32)) => ([(a 0, .inr (0, [.int (nI cnt), .ref (a 1), .ref (a 2), .ref (a 3), .ref (a 4), .ref (a 5), .ref (a 6), .ref (a 7), .int 0, .int xd, .int (nI wn), .ref (a 8)])), (a 1, .inl (gI g, 10, .inl f0)), (a 2, .inl (gI g, 10, .inl f1)), (a 3, .inl (gI g, 10, .inl f2)), (a 4, .inl (gI g, 10, .inl f3)), (a 5, .inl (gI g, 10, .inl f4)), (a 6, .inl (gI g, 10, .inl u)), (a 7, .inl (gI g, 10, .inl f6)), (a 8, .inl (gI g, 10, .inl f7))] : va_W)) := by
  refine kMv.of (by decide) (Nat.le_of_ble_eq_true rfl) (fun p e s m below meth c A hx hb hr hml hown hts hlk hnm hKW hP hD hS hA ls hl => ?_)
  have hown : s.vm.findClass RX0 = some m.cls := hown
  have hl : lv_has ls 2 [(0, .ref (a 0))] := hl
  refine k_hide hP hS (fun H locs hP hS => ?_)
  refine lv_iconst (v := 0) hx hb dX0_allOut_0 (by decide) ?_
  refine lv_istore_n (lv' := [(1, .int 0), (0, .ref (a 0))]) hx hb dX0_allOut_1 rfl hl (by decide) rfl (fun ls hl => ?_)
  have L2 : ∀ (n2 : Nat) (i : Nat) (ga : Nat → Int32) (hfuel2 : cnt - i < n2) (hi : i ≤ cnt) (H : Heap) (locs : List Loc) (hP : va_P g.1 vwCl [(a 0, .inr (0, [.int (nI cnt), .ref (a 1), .ref (a 2), .ref (a 3), .ref (a 4), .ref (a 5), .ref (a 6), .ref (a 7), .int xa, .int xd, .int (nI wn), .ref (a 8)])), (a 1, .inl (gI g, 10, .inl f0)), (a 2, .inl (gI g, 10, .inl f1)), (a 3, .inl (gI g, 10, .inl f2)), (a 4, .inl (gI g, 10, .inl f3)), (a 5, .inl (gI g, 10, .inl f4)), (a 6, .inl (gI g, 10, .inl ga)), (a 7, .inl (gI g, 10, .inl f6)), (a 8, .inl (gI g, 10, .inl f7))] H) (hD : va_D A [(a 0, .inr (0, [.int (nI cnt), .ref (a 1), .ref (a 2), .ref (a 3), .ref (a 4), .ref (a 5), .ref (a 6), .ref (a 7), .int xa, .int xd, .int (nI wn), .ref (a 8)])), (a 1, .inl (gI g, 10, .inl f0)), (a 2, .inl (gI g, 10, .inl f1)), (a 3, .inl (gI g, 10, .inl f2)), (a 4, .inl (gI g, 10, .inl f3)), (a 5, .inl (gI g, 10, .inl f4)), (a 6, .inl (gI g, 10, .inl ga)), (a 7, .inl (gI g, 10, .inl f6)), (a 8, .inl (gI g, 10, .inl f7))]) (hS : va_S A s.heap H locs) (ls : Array Slot) (hl : lv_has ls 2 [(1, .int (nI i)), (0, .ref (a 0))]), W p l e (kR 1 0 0) s m ([.ref (a 0)] : List Value).toArray below meth c H locs 0 0 (kQv g A below ([.ref (a 0)] : List Value).toArray s 0 0 (fun (u : (Nat → Int32)) => True) (fun (u : (Nat → Int32)) => ([(a 0, .inr (0, [.int (nI cnt), .ref (a 1), .ref (a 2), .ref (a 3), .ref (a 4), .ref (a 5), .ref (a 6), .ref (a 7), .int 0, .int xd, .int (nI wn), .ref (a 8)])), (a 1, .inl (gI g, 10, .inl f0)), (a 2, .inl (gI g, 10, .inl f1)), (a 3, .inl (gI g, 10, .inl f2)), (a 4, .inl (gI g, 10, .inl f3)), (a 5, .inl (gI g, 10, .inl f4)), (a 6, .inl (gI g, 10, .inl u)), (a 7, .inl (gI g, 10, .inl f6)), (a 8, .inl (gI g, 10, .inl f7))] : va_W))) (F0 m 2 ls []) := by
    intro n2
    induction n2 with
    | zero => intro i ga hfuel2; exact absurd hfuel2 (Nat.not_lt_zero _)
    | succ n2 ih2 =>
      intro i ga hfuel2 hi H locs hP hD hS ls hl
      refine lv_iload_n hx hb dX0_allOut_2 rfl (lv_at hl 0 rfl) ?_
      refine lv_aload_n hx hb dX0_allOut_3 rfl (lv_at hl 1 rfl) ?_
      refine va_get (ci := 0) (C := RX0) (T := TX0) (N := 12) hx hb hts inlX0 hown hKW.1 hP 0 rfl rfl 0 (by decide) (hts _ wd_9_7) (fun _ h => h) rfl dX0_allOut_4 ?_
      refine lv_icmp_ge (tgt := 23) hx hb dX0_allOut_7 (by decide) (fun c_1 => ?_) (fun c_1 => ?_)
      · have c_1n : cnt ≤ i := (k_leI (a := cnt) (b := i) (by omega) (by omega)).mp c_1
        refine lv_aload_n hx hb dX0_allOut_23 rfl (lv_at hl 1 rfl) ?_
        refine lv_iconst (v := 0) hx hb dX0_allOut_24 (by decide) ?_
        refine va_put (ci := 0) (v := .int 0) (C := RX0) (T := TX0) (N := 12) hx hb hts inlX0 tyX0 tyX0_ok nmX0 hown hKW.1 hP hD hS 0 rfl rfl 8 (by decide) (hts _ wd_9_10) (fun _ h => h) rfl (tyX0_ok 8 (by decide)) rfl rfl (Nat.le_of_ble_eq_true rfl) dX0_allOut_25 (fun H locs hP hD hS => ?_)
        have hP : va_P g.1 vwCl [(a 0, .inr (0, [.int (nI cnt), .ref (a 1), .ref (a 2), .ref (a 3), .ref (a 4), .ref (a 5), .ref (a 6), .ref (a 7), .int 0, .int xd, .int (nI wn), .ref (a 8)])), (a 1, .inl (gI g, 10, .inl f0)), (a 2, .inl (gI g, 10, .inl f1)), (a 3, .inl (gI g, 10, .inl f2)), (a 4, .inl (gI g, 10, .inl f3)), (a 5, .inl (gI g, 10, .inl f4)), (a 6, .inl (gI g, 10, .inl ga)), (a 7, .inl (gI g, 10, .inl f6)), (a 8, .inl (gI g, 10, .inl f7))] H := hP
        have hD : va_D A [(a 0, .inr (0, [.int (nI cnt), .ref (a 1), .ref (a 2), .ref (a 3), .ref (a 4), .ref (a 5), .ref (a 6), .ref (a 7), .int 0, .int xd, .int (nI wn), .ref (a 8)])), (a 1, .inl (gI g, 10, .inl f0)), (a 2, .inl (gI g, 10, .inl f1)), (a 3, .inl (gI g, 10, .inl f2)), (a 4, .inl (gI g, 10, .inl f3)), (a 5, .inl (gI g, 10, .inl f4)), (a 6, .inl (gI g, 10, .inl ga)), (a 7, .inl (gI g, 10, .inl f6)), (a 8, .inl (gI g, 10, .inl f7))] := hD
        exact k_vret ga [0, 1, 2, 3, 4, 5, 6, 7, 8] hx hb hr hlk hP hD hS trivial rfl rfl rfl (Nat.le_of_ble_eq_true rfl) (Nat.le_of_ble_eq_true rfl) dX0_allOut_28
      · have c_1n : i < cnt := Nat.not_le.mp (fun h => c_1 ((k_leI (a := cnt) (b := i) (by omega) (by omega)).mpr h))
        refine lv_aload_n hx hb dX0_allOut_10 rfl (lv_at hl 1 rfl) ?_
        refine va_get (ci := 0) (C := RX0) (T := TX0) (N := 12) hx hb hts inlX0 hown hKW.1 hP 0 rfl rfl 6 (by decide) (hts _ wd_4_11) (fun _ h => h) rfl dX0_allOut_11 ?_
        refine lv_iload_n hx hb dX0_allOut_14 rfl (lv_at hl 0 rfl) ?_
        refine lv_iconst (v := (-1)) hx hb dX0_allOut_15 (by decide) ?_
        refine va_iast hx hb hKW.1 hP hD hS 6 0 rfl rfl (vp_in_nI (by omega) (by decide)) dX0_allOut_16 (fun H locs hP hD hS => ?_)
        have hP : va_P g.1 vwCl [(a 0, .inr (0, [.int (nI cnt), .ref (a 1), .ref (a 2), .ref (a 3), .ref (a 4), .ref (a 5), .ref (a 6), .ref (a 7), .int xa, .int xd, .int (nI wn), .ref (a 8)])), (a 1, .inl (gI g, 10, .inl f0)), (a 2, .inl (gI g, 10, .inl f1)), (a 3, .inl (gI g, 10, .inl f2)), (a 4, .inl (gI g, 10, .inl f3)), (a 5, .inl (gI g, 10, .inl f4)), (a 6, .inl (gI g, 10, .inl (upd ga (nI i).toNatClampNeg (-1)))), (a 7, .inl (gI g, 10, .inl f6)), (a 8, .inl (gI g, 10, .inl f7))] H := hP
        have hD : va_D A [(a 0, .inr (0, [.int (nI cnt), .ref (a 1), .ref (a 2), .ref (a 3), .ref (a 4), .ref (a 5), .ref (a 6), .ref (a 7), .int xa, .int xd, .int (nI wn), .ref (a 8)])), (a 1, .inl (gI g, 10, .inl f0)), (a 2, .inl (gI g, 10, .inl f1)), (a 3, .inl (gI g, 10, .inl f2)), (a 4, .inl (gI g, 10, .inl f3)), (a 5, .inl (gI g, 10, .inl f4)), (a 6, .inl (gI g, 10, .inl (upd ga (nI i).toNatClampNeg (-1)))), (a 7, .inl (gI g, 10, .inl f6)), (a 8, .inl (gI g, 10, .inl f7))] := hD
        obtain ⟨f_2, ef_2⟩ : ∃ zz_ : Nat → Int32, zz_ = upd ga (nI i).toNatClampNeg (-1) := ⟨_, rfl⟩
        rw [← ef_2] at hP hD
        refine lv_iinc (v := nI (i + 1)) (lv' := [(1, .int (nI (i + 1))), (0, .ref (a 0))]) hx hb dX0_allOut_17 hl (k := 0) rfl (nI_add i 1) (by decide) rfl (fun ls hl => ?_)
        refine lv_goto (tgt := 2) hx hb dX0_allOut_20 (by decide) ?_
        exact ih2 (i + 1) f_2 (by omega) (by first | assumption | omega) H locs (hP.sub [0, 1, 2, 3, 4, 5, 6, 7, 8] rfl) (hD.sub [0, 1, 2, 3, 4, 5, 6, 7, 8] (by decide) rfl) hS ls (lv_sub hl [0, 1] rfl)
  exact L2 (cnt - 0 + 1) 0 f5 (Nat.lt_succ_self _) (by first | assumption | omega) H locs (hP.sub [0, 1, 2, 3, 4, 5, 6, 7, 8] rfl) (hD.sub [0, 1, 2, 3, 4, 5, 6, 7, 8] (by decide) rfl) hS ls (lv_sub hl [0, 1] rfl)
theorem dX0_areSiblings_0 : decode cX0_areSiblings 0 = .ok (.iload_n 1, 1) := by decide +kernel
theorem dX0_areSiblings_1 : decode cX0_areSiblings 1 = .ok (.iload_n 2, 1) := by decide +kernel
theorem dX0_areSiblings_2 : decode cX0_areSiblings 2 = .ok (.if_icmp .ne 5, 3) := by decide +kernel
theorem dX0_areSiblings_7 : decode cX0_areSiblings 7 = .ok (.aload_n 0, 1) := by decide +kernel
theorem dX0_areSiblings_8 : decode cX0_areSiblings 8 = .ok (.getfield 15, 3) := by decide +kernel
theorem dX0_areSiblings_11 : decode cX0_areSiblings 11 = .ok (.iload_n 1, 1) := by decide +kernel
theorem dX0_areSiblings_12 : decode cX0_areSiblings 12 = .ok (.iaload, 1) := by decide +kernel
theorem dX0_areSiblings_13 : decode cX0_areSiblings 13 = .ok (.iload_n 2, 1) := by decide +kernel
theorem dX0_areSiblings_14 : decode cX0_areSiblings 14 = .ok (.if_icmp .eq 13, 3) := by decide +kernel
theorem dX0_areSiblings_27 : decode cX0_areSiblings 27 = .ok (.iconst 1, 1) := by decide +kernel
theorem dX0_areSiblings_28 : decode cX0_areSiblings 28 = .ok (.goto 4, 3) := by decide +kernel
theorem dX0_areSiblings_32 : decode cX0_areSiblings 32 = .ok (.istore_n 3, 1) := by decide +kernel
theorem dX0_areSiblings_33 : decode cX0_areSiblings 33 = .ok (.iload_n 3, 1) := by decide +kernel
theorem dX0_areSiblings_34 : decode cX0_areSiblings 34 = .ok (.ifCond .ne 28, 3) := by decide +kernel
theorem dX0_areSiblings_62 : decode cX0_areSiblings 62 = .ok (.iconst 1, 1) := by decide +kernel
theorem dX0_areSiblings_63 : decode cX0_areSiblings 63 = .ok (.goto 4, 3) := by decide +kernel
theorem dX0_areSiblings_67 : decode cX0_areSiblings 67 = .ok (.ireturn, 1) := by decide +kernel
theorem dX0_areSiblings_17 : decode cX0_areSiblings 17 = .ok (.aload_n 0, 1) := by decide +kernel
theorem dX0_areSiblings_18 : decode cX0_areSiblings 18 = .ok (.getfield 15, 3) := by decide +kernel
theorem dX0_areSiblings_21 : decode cX0_areSiblings 21 = .ok (.iload_n 2, 1) := by decide +kernel
theorem dX0_areSiblings_22 : decode cX0_areSiblings 22 = .ok (.iaload, 1) := by decide +kernel
theorem dX0_areSiblings_23 : decode cX0_areSiblings 23 = .ok (.iload_n 1, 1) := by decide +kernel
theorem dX0_areSiblings_24 : decode cX0_areSiblings 24 = .ok (.if_icmp .ne 7, 3) := by decide +kernel
theorem dX0_areSiblings_31 : decode cX0_areSiblings 31 = .ok (.iconst 0, 1) := by decide +kernel
theorem dX0_areSiblings_37 : decode cX0_areSiblings 37 = .ok (.aload_n 0, 1) := by decide +kernel
theorem dX0_areSiblings_38 : decode cX0_areSiblings 38 = .ok (.getfield 15, 3) := by decide +kernel
theorem dX0_areSiblings_41 : decode cX0_areSiblings 41 = .ok (.iload_n 1, 1) := by decide +kernel
theorem dX0_areSiblings_42 : decode cX0_areSiblings 42 = .ok (.iaload, 1) := by decide +kernel
theorem dX0_areSiblings_43 : decode cX0_areSiblings 43 = .ok (.iconst (-1), 1) := by decide +kernel
theorem dX0_areSiblings_44 : decode cX0_areSiblings 44 = .ok (.if_icmp .eq 22, 3) := by decide +kernel
theorem dX0_areSiblings_66 : decode cX0_areSiblings 66 = .ok (.iconst 0, 1) := by decide +kernel
theorem dX0_areSiblings_47 : decode cX0_areSiblings 47 = .ok (.aload_n 0, 1) := by decide +kernel
theorem dX0_areSiblings_48 : decode cX0_areSiblings 48 = .ok (.getfield 15, 3) := by decide +kernel
theorem dX0_areSiblings_51 : decode cX0_areSiblings 51 = .ok (.iload_n 1, 1) := by decide +kernel
theorem dX0_areSiblings_52 : decode cX0_areSiblings 52 = .ok (.iaload, 1) := by decide +kernel
theorem dX0_areSiblings_53 : decode cX0_areSiblings 53 = .ok (.aload_n 0, 1) := by decide +kernel
theorem dX0_areSiblings_54 : decode cX0_areSiblings 54 = .ok (.getfield 15, 3) := by decide +kernel
theorem dX0_areSiblings_57 : decode cX0_areSiblings 57 = .ok (.iload_n 2, 1) := by decide +kernel
theorem dX0_areSiblings_58 : decode cX0_areSiblings 58 = .ok (.iaload, 1) := by decide +kernel
theorem dX0_areSiblings_59 : decode cX0_areSiblings 59 = .ok (.if_icmp .ne 7, 3) := by decide +kernel
theorem dX0_areSiblings_5 : decode cX0_areSiblings 5 = .ok (.iconst 0, 1) := by decide +kernel
theorem dX0_areSiblings_6 : decode cX0_areSiblings 6 = .ok (.ireturn, 1) := by decide +kernel
set_option maxHeartbeats 8000000 in
set_option maxRecDepth 100000 in
theorem c_X0_areSiblings (l : Launch) (g : kG) (sz : Nat) (a : Nat → Nat) (cnt : Nat) (wn : Nat) (xa : Int32) (xd : Int32) (f0 : Nat → Int32) (f1 : Nat → Int32) (f2 : Nat → Int32) (f3 : Nat → Int32) (f4 : Nat → Int32) (f5 : Nat → Int32) (f6 : Nat → Int32) (f7 : Nat → Int32) (i : Nat) (j : Nat) (hi : i < 10) (hj : j < 10) : kMi l g yX0_areSiblings cX0_areSiblings 4 (some .boolean) 1 0 0 [.ref (a 0), .int (nI i), .int (nI j)] sz [(a 0, .inr (0, [.int (nI cnt), .ref (a 1), .ref (a 2), .ref (a 3), .ref (a 4), .ref (a 5), .ref (a 6), .ref (a 7), .int xa, .int xd, .int (nI wn), .ref (a 8)])), (a 1, .inl (gI g, 10, .inl f0)), (a 2, .inl (gI g, 10, .inl f1)), (a 3, .inl (gI g, 10, .inl f2)), (a 4, .inl (gI g, 10, .inl f3)), (a 5, .inl (gI g, 10, .inl f4)), (a 6, .inl (gI g, 10, .inl f5)), (a 7, .inl (gI g, 10, .inl f6)), (a 8, .inl (gI g, 10, .inl f7))] (fun (r : Int32) (u : Unit) => r = 1 ∨ r = 0) (fun (u : Unit) => ([(a 0, .inr (0, [.int (nI cnt), .ref (a 1), .ref (a 2), .ref (a 3), .ref (a 4), .ref (a 5), .ref (a 6), .ref (a 7), .int xa, .int xd, .int (nI wn), .ref (a 8)])), (a 1, .inl (gI g, 10, .inl f0)), (a 2, .inl (gI g, 10, .inl f1)), (a 3, .inl (gI g, 10, .inl f2)), (a 4, .inl (gI g, 10, .inl f3)), (a 5, .inl (gI g, 10, .inl f4)), (a 6, .inl (gI g, 10, .inl f5)), (a 7, .inl (gI g, 10, .inl f6)), (a 8, .inl (gI g, 10, .inl f7))] : va_W)) := by
  refine kMi.of (by decide) (Nat.le_of_ble_eq_true rfl) (fun p e s m below meth c A hx hb hr hml hown hts hlk hnm hKW hP hD hS hA ls hl => ?_)
  have hown : s.vm.findClass RX0 = some m.cls := hown
  have hl : lv_has ls 4 [(0, .ref (a 0)), (1, .int (nI i)), (2, .int (nI j))] := hl
  refine k_hide hP hS (fun H locs hP hS => ?_)
  refine lv_iload_n hx hb dX0_areSiblings_0 rfl (lv_at hl 1 rfl) ?_
  refine lv_iload_n hx hb dX0_areSiblings_1 rfl (lv_at hl 2 rfl) ?_
  refine lv_icmp_ne (tgt := 7) hx hb dX0_areSiblings_2 (by decide) (fun c_1 => ?_) (fun c_1 => ?_)
  · have c_1n : ¬ i = j := fun h => c_1 ((k_eqI (a := i) (b := j) (by omega) (by omega)).mpr h)
    refine lv_aload_n hx hb dX0_areSiblings_7 rfl (lv_at hl 0 rfl) ?_
    refine va_get (ci := 0) (C := RX0) (T := TX0) (N := 12) hx hb hts inlX0 hown hKW.1 hP 0 rfl rfl 2 (by decide) (hts _ wd_4_7) (fun _ h => h) rfl dX0_areSiblings_8 ?_
    refine lv_iload_n hx hb dX0_areSiblings_11 rfl (lv_at hl 1 rfl) ?_
    refine va_iald hx hb hKW.1 hP 2 0 rfl rfl (vp_in_nI (by omega) (by decide)) dX0_areSiblings_12 ?_
    refine lv_topi (fun x_2 ex_2 => ?_)
    refine lv_iload_n hx hb dX0_areSiblings_13 rfl (lv_at hl 2 rfl) ?_
    refine lv_icmp_eq (tgt := 27) hx hb dX0_areSiblings_14 (by decide) (fun c_3 => ?_) (fun c_3 => ?_)
    · refine lv_iconst (v := 1) hx hb dX0_areSiblings_27 (by decide) ?_
      refine lv_goto (tgt := 32) hx hb dX0_areSiblings_28 (by decide) ?_
      refine lv_istore_n (lv' := [(3, .int 1), (0, .ref (a 0)), (1, .int (nI i)), (2, .int (nI j))]) hx hb dX0_areSiblings_32 rfl hl (by decide) rfl (fun ls hl => ?_)
      refine lv_iload_n hx hb dX0_areSiblings_33 rfl (lv_at hl 0 rfl) ?_
      refine lv_if_ne (tgt := 62) hx hb dX0_areSiblings_34 (by decide) (fun _ => ?_) (fun c => absurd c (by decide))
      refine lv_iconst (v := 1) hx hb dX0_areSiblings_62 (by decide) ?_
      refine lv_goto (tgt := 67) hx hb dX0_areSiblings_63 (by decide) ?_
      exact k_zret () [0, 1, 2, 3, 4, 5, 6, 7, 8] hx hb hr hlk hP hD hS (Or.inl rfl) rfl rfl rfl rfl (Nat.le_of_ble_eq_true rfl) (Nat.le_of_ble_eq_true rfl) dX0_areSiblings_67
    · refine lv_aload_n hx hb dX0_areSiblings_17 rfl (lv_at hl 0 rfl) ?_
      refine va_get (ci := 0) (C := RX0) (T := TX0) (N := 12) hx hb hts inlX0 hown hKW.1 hP 0 rfl rfl 2 (by decide) (hts _ wd_4_7) (fun _ h => h) rfl dX0_areSiblings_18 ?_
      refine lv_iload_n hx hb dX0_areSiblings_21 rfl (lv_at hl 2 rfl) ?_
      refine va_iald hx hb hKW.1 hP 2 0 rfl rfl (vp_in_nI (by omega) (by decide)) dX0_areSiblings_22 ?_
      refine lv_topi (fun x_4 ex_4 => ?_)
      refine lv_iload_n hx hb dX0_areSiblings_23 rfl (lv_at hl 1 rfl) ?_
      refine lv_icmp_ne (tgt := 31) hx hb dX0_areSiblings_24 (by decide) (fun c_5 => ?_) (fun c_5 => ?_)
      · refine lv_iconst (v := 0) hx hb dX0_areSiblings_31 (by decide) ?_
        refine lv_istore_n (lv' := [(3, .int 0), (0, .ref (a 0)), (1, .int (nI i)), (2, .int (nI j))]) hx hb dX0_areSiblings_32 rfl hl (by decide) rfl (fun ls hl => ?_)
        refine lv_iload_n hx hb dX0_areSiblings_33 rfl (lv_at hl 0 rfl) ?_
        refine lv_if_ne (tgt := 62) hx hb dX0_areSiblings_34 (by decide) (fun c => absurd c (by decide)) (fun _ => ?_)
        refine lv_aload_n hx hb dX0_areSiblings_37 rfl (lv_at hl 1 rfl) ?_
        refine va_get (ci := 0) (C := RX0) (T := TX0) (N := 12) hx hb hts inlX0 hown hKW.1 hP 0 rfl rfl 2 (by decide) (hts _ wd_4_7) (fun _ h => h) rfl dX0_areSiblings_38 ?_
        refine lv_iload_n hx hb dX0_areSiblings_41 rfl (lv_at hl 2 rfl) ?_
        refine va_iald hx hb hKW.1 hP 2 0 rfl rfl (vp_in_nI (by omega) (by decide)) dX0_areSiblings_42 ?_
        refine lv_topi (fun x_6 ex_6 => ?_)
        refine lv_iconst (v := (-1)) hx hb dX0_areSiblings_43 (by decide) ?_
        refine lv_icmp_eq (tgt := 66) hx hb dX0_areSiblings_44 (by decide) (fun c_7 => ?_) (fun c_7 => ?_)
        · refine lv_iconst (v := 0) hx hb dX0_areSiblings_66 (by decide) ?_
          exact k_zret () [0, 1, 2, 3, 4, 5, 6, 7, 8] hx hb hr hlk hP hD hS (Or.inr rfl) rfl rfl rfl rfl (Nat.le_of_ble_eq_true rfl) (Nat.le_of_ble_eq_true rfl) dX0_areSiblings_67
        · refine lv_aload_n hx hb dX0_areSiblings_47 rfl (lv_at hl 1 rfl) ?_
          refine va_get (ci := 0) (C := RX0) (T := TX0) (N := 12) hx hb hts inlX0 hown hKW.1 hP 0 rfl rfl 2 (by decide) (hts _ wd_4_7) (fun _ h => h) rfl dX0_areSiblings_48 ?_
          refine lv_iload_n hx hb dX0_areSiblings_51 rfl (lv_at hl 2 rfl) ?_
          refine va_iald hx hb hKW.1 hP 2 0 rfl rfl (vp_in_nI (by omega) (by decide)) dX0_areSiblings_52 ?_
          refine lv_topi (fun x_8 ex_8 => ?_)
          refine lv_aload_n hx hb dX0_areSiblings_53 rfl (lv_at hl 1 rfl) ?_
          refine va_get (ci := 0) (C := RX0) (T := TX0) (N := 12) hx hb hts inlX0 hown hKW.1 hP 0 rfl rfl 2 (by decide) (hts _ wd_4_7) (fun _ h => h) rfl dX0_areSiblings_54 ?_
          refine lv_iload_n hx hb dX0_areSiblings_57 rfl (lv_at hl 3 rfl) ?_
          refine va_iald hx hb hKW.1 hP 2 0 rfl rfl (vp_in_nI (by omega) (by decide)) dX0_areSiblings_58 ?_
          refine lv_topi (fun x_9 ex_9 => ?_)
          refine lv_icmp_ne (tgt := 66) hx hb dX0_areSiblings_59 (by decide) (fun c_10 => ?_) (fun c_10 => ?_)
          · refine lv_iconst (v := 0) hx hb dX0_areSiblings_66 (by decide) ?_
            exact k_zret () [0, 1, 2, 3, 4, 5, 6, 7, 8] hx hb hr hlk hP hD hS (Or.inr rfl) rfl rfl rfl rfl (Nat.le_of_ble_eq_true rfl) (Nat.le_of_ble_eq_true rfl) dX0_areSiblings_67
          · refine lv_iconst (v := 1) hx hb dX0_areSiblings_62 (by decide) ?_
            refine lv_goto (tgt := 67) hx hb dX0_areSiblings_63 (by decide) ?_
            exact k_zret () [0, 1, 2, 3, 4, 5, 6, 7, 8] hx hb hr hlk hP hD hS (Or.inl rfl) rfl rfl rfl rfl (Nat.le_of_ble_eq_true rfl) (Nat.le_of_ble_eq_true rfl) dX0_areSiblings_67
      · refine lv_iconst (v := 1) hx hb dX0_areSiblings_27 (by decide) ?_
        refine lv_goto (tgt := 32) hx hb dX0_areSiblings_28 (by decide) ?_
        refine lv_istore_n (lv' := [(3, .int 1), (0, .ref (a 0)), (1, .int (nI i)), (2, .int (nI j))]) hx hb dX0_areSiblings_32 rfl hl (by decide) rfl (fun ls hl => ?_)
        refine lv_iload_n hx hb dX0_areSiblings_33 rfl (lv_at hl 0 rfl) ?_
        refine lv_if_ne (tgt := 62) hx hb dX0_areSiblings_34 (by decide) (fun _ => ?_) (fun c => absurd c (by decide))
        refine lv_iconst (v := 1) hx hb dX0_areSiblings_62 (by decide) ?_
        refine lv_goto (tgt := 67) hx hb dX0_areSiblings_63 (by decide) ?_
        exact k_zret () [0, 1, 2, 3, 4, 5, 6, 7, 8] hx hb hr hlk hP hD hS (Or.inl rfl) rfl rfl rfl rfl (Nat.le_of_ble_eq_true rfl) (Nat.le_of_ble_eq_true rfl) dX0_areSiblings_67
  · have c_1n : i = j := (k_eqI (a := i) (b := j) (by omega) (by omega)).mp c_1
    refine lv_iconst (v := 0) hx hb dX0_areSiblings_5 (by decide) ?_
    exact k_zret () [0, 1, 2, 3, 4, 5, 6, 7, 8] hx hb hr hlk hP hD hS (Or.inr rfl) rfl rfl rfl rfl (Nat.le_of_ble_eq_true rfl) (Nat.le_of_ble_eq_true rfl) dX0_areSiblings_6
theorem dX0_hasAdmittedSibling_0 : decode cX0_hasAdmittedSibling 0 = .ok (.iconst 0, 1) := by decide +kernel
theorem dX0_hasAdmittedSibling_1 : decode cX0_hasAdmittedSibling 1 = .ok (.istore_n 2, 1) := by decide +kernel
theorem dX0_hasAdmittedSibling_2 : decode cX0_hasAdmittedSibling 2 = .ok (.iload_n 2, 1) := by decide +kernel
theorem dX0_hasAdmittedSibling_3 : decode cX0_hasAdmittedSibling 3 = .ok (.aload_n 0, 1) := by decide +kernel
theorem dX0_hasAdmittedSibling_4 : decode cX0_hasAdmittedSibling 4 = .ok (.getfield 36, 3) := by decide +kernel
theorem dX0_hasAdmittedSibling_7 : decode cX0_hasAdmittedSibling 7 = .ok (.if_icmp .ge 31, 3) := by decide +kernel
theorem dX0_hasAdmittedSibling_38 : decode cX0_hasAdmittedSibling 38 = .ok (.iconst 0, 1) := by decide +kernel
theorem dX0_hasAdmittedSibling_39 : decode cX0_hasAdmittedSibling 39 = .ok (.ireturn, 1) := by decide +kernel
theorem dX0_hasAdmittedSibling_10 : decode cX0_hasAdmittedSibling 10 = .ok (.aload_n 0, 1) := by decide +kernel
theorem dX0_hasAdmittedSibling_11 : decode cX0_hasAdmittedSibling 11 = .ok (.getfield 47, 3) := by decide +kernel
theorem dX0_hasAdmittedSibling_14 : decode cX0_hasAdmittedSibling 14 = .ok (.iload_n 2, 1) := by decide +kernel
theorem dX0_hasAdmittedSibling_15 : decode cX0_hasAdmittedSibling 15 = .ok (.invokestatic 62, 3) := by decide +kernel
theorem dX0_hasAdmittedSibling_18 : decode cX0_hasAdmittedSibling 18 = .ok (.ifCond .eq 14, 3) := by decide +kernel
theorem dX0_hasAdmittedSibling_21 : decode cX0_hasAdmittedSibling 21 = .ok (.aload_n 0, 1) := by decide +kernel
theorem dX0_hasAdmittedSibling_22 : decode cX0_hasAdmittedSibling 22 = .ok (.iload_n 1, 1) := by decide +kernel
theorem dX0_hasAdmittedSibling_23 : decode cX0_hasAdmittedSibling 23 = .ok (.iload_n 2, 1) := by decide +kernel
theorem dX0_hasAdmittedSibling_24 : decode cX0_hasAdmittedSibling 24 = .ok (.invokevirtual 66, 3) := by decide +kernel
theorem dX0_hasAdmittedSibling_27 : decode cX0_hasAdmittedSibling 27 = .ok (.ifCond .eq 5, 3) := by decide +kernel
theorem dX0_hasAdmittedSibling_30 : decode cX0_hasAdmittedSibling 30 = .ok (.iconst 1, 1) := by decide +kernel
theorem dX0_hasAdmittedSibling_31 : decode cX0_hasAdmittedSibling 31 = .ok (.ireturn, 1) := by decide +kernel
theorem dX0_hasAdmittedSibling_32 : decode cX0_hasAdmittedSibling 32 = .ok (.iinc 2 1, 3) := by decide +kernel
theorem dX0_hasAdmittedSibling_35 : decode cX0_hasAdmittedSibling 35 = .ok (.goto (-33), 3) := by decide +kernel
set_option maxHeartbeats 8000000 in
set_option maxRecDepth 100000 in
theorem c_X0_hasAdmittedSibling (l : Launch) (g : kG) (sz : Nat) (a : Nat → Nat) (cnt : Nat) (wn : Nat) (xa : Int32) (xd : Int32) (f0 : Nat → Int32) (f1 : Nat → Int32) (f2 : Nat → Int32) (f3 : Nat → Int32) (f4 : Nat → Int32) (f5 : Nat → Int32) (f6 : Nat → Int32) (f7 : Nat → Int32) (k : Nat) (hc : cnt ≤ 10) (hk : k < 10) : kMi l g yX0_hasAdmittedSibling cX0_hasAdmittedSibling 3 (some .boolean) 2 0 0 [.ref (a 0), .int (nI k)] sz [(a 0, .inr (0, [.int (nI cnt), .ref (a 1), .ref (a 2), .ref (a 3), .ref (a 4), .ref (a 5), .ref (a 6), .ref (a 7), .int xa, .int xd, .int (nI wn), .ref (a 8)])), (a 1, .inl (gI g, 10, .inl f0)), (a 2, .inl (gI g, 10, .inl f1)), (a 3, .inl (gI g, 10, .inl f2)), (a 4, .inl (gI g, 10, .inl f3)), (a 5, .inl (gI g, 10, .inl f4)), (a 6, .inl (gI g, 10, .inl f5)), (a 7, .inl (gI g, 10, .inl f6)), (a 8, .inl (gI g, 10, .inl f7))] (fun (r : Int32) (u : Unit) => r = 1 ∨ r = 0) (fun (u : Unit) => ([(a 0, .inr (0, [.int (nI cnt), .ref (a 1), .ref (a 2), .ref (a 3), .ref (a 4), .ref (a 5), .ref (a 6), .ref (a 7), .int xa, .int xd, .int (nI wn), .ref (a 8)])), (a 1, .inl (gI g, 10, .inl f0)), (a 2, .inl (gI g, 10, .inl f1)), (a 3, .inl (gI g, 10, .inl f2)), (a 4, .inl (gI g, 10, .inl f3)), (a 5, .inl (gI g, 10, .inl f4)), (a 6, .inl (gI g, 10, .inl f5)), (a 7, .inl (gI g, 10, .inl f6)), (a 8, .inl (gI g, 10, .inl f7))] : va_W)) := by
  refine kMi.of (by decide) (Nat.le_of_ble_eq_true rfl) (fun p e s m below meth c A hx hb hr hml hown hts hlk hnm hKW hP hD hS hA ls hl => ?_)
  have hown : s.vm.findClass RX0 = some m.cls := hown
  have hl : lv_has ls 3 [(0, .ref (a 0)), (1, .int (nI k))] := hl
  refine k_hide hP hS (fun H locs hP hS => ?_)
  refine lv_iconst (v := 0) hx hb dX0_hasAdmittedSibling_0 (by decide) ?_
  refine lv_istore_n (lv' := [(2, .int 0), (0, .ref (a 0)), (1, .int (nI k))]) hx hb dX0_hasAdmittedSibling_1 rfl hl (by decide) rfl (fun ls hl => ?_)
  have L2 : ∀ (n2 : Nat) (i : Nat) (hfuel2 : cnt - i < n2) (hi : i ≤ cnt) (H : Heap) (locs : List Loc) (hP : va_P g.1 vwCl [(a 0, .inr (0, [.int (nI cnt), .ref (a 1), .ref (a 2), .ref (a 3), .ref (a 4), .ref (a 5), .ref (a 6), .ref (a 7), .int xa, .int xd, .int (nI wn), .ref (a 8)])), (a 1, .inl (gI g, 10, .inl f0)), (a 2, .inl (gI g, 10, .inl f1)), (a 3, .inl (gI g, 10, .inl f2)), (a 4, .inl (gI g, 10, .inl f3)), (a 5, .inl (gI g, 10, .inl f4)), (a 6, .inl (gI g, 10, .inl f5)), (a 7, .inl (gI g, 10, .inl f6)), (a 8, .inl (gI g, 10, .inl f7))] H) (hD : va_D A [(a 0, .inr (0, [.int (nI cnt), .ref (a 1), .ref (a 2), .ref (a 3), .ref (a 4), .ref (a 5), .ref (a 6), .ref (a 7), .int xa, .int xd, .int (nI wn), .ref (a 8)])), (a 1, .inl (gI g, 10, .inl f0)), (a 2, .inl (gI g, 10, .inl f1)), (a 3, .inl (gI g, 10, .inl f2)), (a 4, .inl (gI g, 10, .inl f3)), (a 5, .inl (gI g, 10, .inl f4)), (a 6, .inl (gI g, 10, .inl f5)), (a 7, .inl (gI g, 10, .inl f6)), (a 8, .inl (gI g, 10, .inl f7))]) (hS : va_S A s.heap H locs) (ls : Array Slot) (hl : lv_has ls 3 [(2, .int (nI i)), (0, .ref (a 0)), (1, .int (nI k))]), W p l e (kR 2 0 0) s m ([.ref (a 0), .int (nI k)] : List Value).toArray below meth c H locs 0 0 (kQi g A below ([.ref (a 0), .int (nI k)] : List Value).toArray s 0 0 (fun (r : Int32) (u : Unit) => r = 1 ∨ r = 0) (fun (u : Unit) => ([(a 0, .inr (0, [.int (nI cnt), .ref (a 1), .ref (a 2), .ref (a 3), .ref (a 4), .ref (a 5), .ref (a 6), .ref (a 7), .int xa, .int xd, .int (nI wn), .ref (a 8)])), (a 1, .inl (gI g, 10, .inl f0)), (a 2, .inl (gI g, 10, .inl f1)), (a 3, .inl (gI g, 10, .inl f2)), (a 4, .inl (gI g, 10, .inl f3)), (a 5, .inl (gI g, 10, .inl f4)), (a 6, .inl (gI g, 10, .inl f5)), (a 7, .inl (gI g, 10, .inl f6)), (a 8, .inl (gI g, 10, .inl f7))] : va_W))) (F0 m 2 ls []) := by
    intro n2
    induction n2 with
    | zero => intro i hfuel2; exact absurd hfuel2 (Nat.not_lt_zero _)
    | succ n2 ih2 =>
      intro i hfuel2 hi H locs hP hD hS ls hl
      refine lv_iload_n hx hb dX0_hasAdmittedSibling_2 rfl (lv_at hl 0 rfl) ?_
      refine lv_aload_n hx hb dX0_hasAdmittedSibling_3 rfl (lv_at hl 1 rfl) ?_
      refine va_get (ci := 0) (C := RX0) (T := TX0) (N := 12) hx hb hts inlX0 hown hKW.1 hP 0 rfl rfl 0 (by decide) (hts _ wd_9_7) (fun _ h => h) rfl dX0_hasAdmittedSibling_4 ?_
      refine lv_icmp_ge (tgt := 38) hx hb dX0_hasAdmittedSibling_7 (by decide) (fun c_1 => ?_) (fun c_1 => ?_)
      · have c_1n : cnt ≤ i := (k_leI (a := cnt) (b := i) (by omega) (by omega)).mp c_1
        refine lv_iconst (v := 0) hx hb dX0_hasAdmittedSibling_38 (by decide) ?_
        exact k_zret () [0, 1, 2, 3, 4, 5, 6, 7, 8] hx hb hr hlk hP hD hS (Or.inr rfl) rfl rfl rfl rfl (Nat.le_of_ble_eq_true rfl) (Nat.le_of_ble_eq_true rfl) dX0_hasAdmittedSibling_39
      · have c_1n : i < cnt := Nat.not_le.mp (fun h => c_1 ((k_leI (a := cnt) (b := i) (by omega) (by omega)).mpr h))
        refine lv_aload_n hx hb dX0_hasAdmittedSibling_10 rfl (lv_at hl 1 rfl) ?_
        refine va_get (ci := 0) (C := RX0) (T := TX0) (N := 12) hx hb hts inlX0 hown hKW.1 hP 0 rfl rfl 9 (by decide) (hts _ wd_9_11) (fun _ h => h) rfl dX0_hasAdmittedSibling_11 ?_
        refine lv_iload_n hx hb dX0_hasAdmittedSibling_14 rfl (lv_at hl 0 rfl) ?_
        refine k_SNi [] [0, 1, 2, 3, 4, 5, 6, 7, 8] (wr := [(a 0, .inr (0, [.int (nI cnt), .ref (a 1), .ref (a 2), .ref (a 3), .ref (a 4), .ref (a 5), .ref (a 6), .ref (a 7), .int xa, .int xd, .int (nI wn), .ref (a 8)])), (a 1, .inl (gI g, 10, .inl f0)), (a 2, .inl (gI g, 10, .inl f1)), (a 3, .inl (gI g, 10, .inl f2)), (a 4, .inl (gI g, 10, .inl f3)), (a 5, .inl (gI g, 10, .inl f4)), (a 6, .inl (gI g, 10, .inl f5)), (a 7, .inl (gI g, 10, .inl f6)), (a 8, .inl (gI g, 10, .inl f7))]) hx hb hml hown hts hKW hP hD hS hA hl.1 (c_X11_hasBit l g _ xd (nI i) ) wd_14_11 wd_1_2 nw_26 wd_14_10 yd_X11_hasBit ⟨(Nat.le_of_ble_eq_true rfl), (Nat.le_of_ble_eq_true rfl)⟩ rfl rfl rfl rfl (by decide) rfl (Nat.le_of_ble_eq_true rfl) dX0_hasAdmittedSibling_15 ⟨(Nat.le_of_ble_eq_true rfl), (Nat.le_of_ble_eq_true rfl)⟩ (fun r_2 u_3 H locs hw_4 hP hD hS => ?_)
        have hP : va_P g.1 vwCl [(a 0, .inr (0, [.int (nI cnt), .ref (a 1), .ref (a 2), .ref (a 3), .ref (a 4), .ref (a 5), .ref (a 6), .ref (a 7), .int xa, .int xd, .int (nI wn), .ref (a 8)])), (a 1, .inl (gI g, 10, .inl f0)), (a 2, .inl (gI g, 10, .inl f1)), (a 3, .inl (gI g, 10, .inl f2)), (a 4, .inl (gI g, 10, .inl f3)), (a 5, .inl (gI g, 10, .inl f4)), (a 6, .inl (gI g, 10, .inl f5)), (a 7, .inl (gI g, 10, .inl f6)), (a 8, .inl (gI g, 10, .inl f7))] H := hP
        have hD : va_D A [(a 0, .inr (0, [.int (nI cnt), .ref (a 1), .ref (a 2), .ref (a 3), .ref (a 4), .ref (a 5), .ref (a 6), .ref (a 7), .int xa, .int xd, .int (nI wn), .ref (a 8)])), (a 1, .inl (gI g, 10, .inl f0)), (a 2, .inl (gI g, 10, .inl f1)), (a 3, .inl (gI g, 10, .inl f2)), (a 4, .inl (gI g, 10, .inl f3)), (a 5, .inl (gI g, 10, .inl f4)), (a 6, .inl (gI g, 10, .inl f5)), (a 7, .inl (gI g, 10, .inl f6)), (a 8, .inl (gI g, 10, .inl f7))] := hD
        rcases (show r_2 = 1 ∨ r_2 = 0 from hw_4) with rfl | rfl <;> clear hw_4
        · refine lv_if_eq (tgt := 32) hx hb dX0_hasAdmittedSibling_18 (by decide) (fun c => absurd c (by decide)) (fun _ => ?_)
          refine lv_aload_n hx hb dX0_hasAdmittedSibling_21 rfl (lv_at hl 1 rfl) ?_
          refine lv_iload_n hx hb dX0_hasAdmittedSibling_22 rfl (lv_at hl 2 rfl) ?_
          refine lv_iload_n hx hb dX0_hasAdmittedSibling_23 rfl (lv_at hl 0 rfl) ?_
          refine k_Vi [0, 1, 2, 3, 4, 5, 6, 7, 8] [] 0 0 (wr := []) hx hb hml hown hts hKW hP hD hS hA hl.1 (c_X0_areSiblings l g _ a cnt wn xa xd f0 f1 f2 f3 f4 f5 f6 f7 k i (by first | assumption | omega | decide) (by first | assumption | omega | decide)) rfl rfl rfl wd_40_3 wd_3_1 wd_40_0 wd_40_1 wd_40_2 yd_X0_areSiblings ⟨(Nat.le_of_ble_eq_true rfl), (Nat.le_of_ble_eq_true rfl)⟩ rfl rfl rfl rfl (by decide) rfl (Nat.le_of_ble_eq_true rfl) dX0_hasAdmittedSibling_24 ⟨(Nat.le_of_ble_eq_true rfl), (Nat.le_of_ble_eq_true rfl)⟩ (fun r_5 u_6 H locs hw_7 hP hD hS => ?_)
          have hP : va_P g.1 vwCl [(a 0, .inr (0, [.int (nI cnt), .ref (a 1), .ref (a 2), .ref (a 3), .ref (a 4), .ref (a 5), .ref (a 6), .ref (a 7), .int xa, .int xd, .int (nI wn), .ref (a 8)])), (a 1, .inl (gI g, 10, .inl f0)), (a 2, .inl (gI g, 10, .inl f1)), (a 3, .inl (gI g, 10, .inl f2)), (a 4, .inl (gI g, 10, .inl f3)), (a 5, .inl (gI g, 10, .inl f4)), (a 6, .inl (gI g, 10, .inl f5)), (a 7, .inl (gI g, 10, .inl f6)), (a 8, .inl (gI g, 10, .inl f7))] H := hP
          have hD : va_D A [(a 0, .inr (0, [.int (nI cnt), .ref (a 1), .ref (a 2), .ref (a 3), .ref (a 4), .ref (a 5), .ref (a 6), .ref (a 7), .int xa, .int xd, .int (nI wn), .ref (a 8)])), (a 1, .inl (gI g, 10, .inl f0)), (a 2, .inl (gI g, 10, .inl f1)), (a 3, .inl (gI g, 10, .inl f2)), (a 4, .inl (gI g, 10, .inl f3)), (a 5, .inl (gI g, 10, .inl f4)), (a 6, .inl (gI g, 10, .inl f5)), (a 7, .inl (gI g, 10, .inl f6)), (a 8, .inl (gI g, 10, .inl f7))] := hD
          rcases (show r_5 = 1 ∨ r_5 = 0 from hw_7) with rfl | rfl <;> clear hw_7
          · refine lv_if_eq (tgt := 32) hx hb dX0_hasAdmittedSibling_27 (by decide) (fun c => absurd c (by decide)) (fun _ => ?_)
            refine lv_iconst (v := 1) hx hb dX0_hasAdmittedSibling_30 (by decide) ?_
            exact k_zret () [0, 1, 2, 3, 4, 5, 6, 7, 8] hx hb hr hlk hP hD hS (Or.inl rfl) rfl rfl rfl rfl (Nat.le_of_ble_eq_true rfl) (Nat.le_of_ble_eq_true rfl) dX0_hasAdmittedSibling_31
          · refine lv_if_eq (tgt := 32) hx hb dX0_hasAdmittedSibling_27 (by decide) (fun _ => ?_) (fun c => absurd c (by decide))
            refine lv_iinc (v := nI (i + 1)) (lv' := [(2, .int (nI (i + 1))), (0, .ref (a 0)), (1, .int (nI k))]) hx hb dX0_hasAdmittedSibling_32 hl (k := 0) rfl (nI_add i 1) (by decide) rfl (fun ls hl => ?_)
            refine lv_goto (tgt := 2) hx hb dX0_hasAdmittedSibling_35 (by decide) ?_
            exact ih2 (i + 1) (by omega) (by first | assumption | omega) H locs (hP.sub [0, 1, 2, 3, 4, 5, 6, 7, 8] rfl) (hD.sub [0, 1, 2, 3, 4, 5, 6, 7, 8] (by decide) rfl) hS ls (lv_sub hl [0, 1, 2] rfl)
        · refine lv_if_eq (tgt := 32) hx hb dX0_hasAdmittedSibling_18 (by decide) (fun _ => ?_) (fun c => absurd c (by decide))
          refine lv_iinc (v := nI (i + 1)) (lv' := [(2, .int (nI (i + 1))), (0, .ref (a 0)), (1, .int (nI k))]) hx hb dX0_hasAdmittedSibling_32 hl (k := 0) rfl (nI_add i 1) (by decide) rfl (fun ls hl => ?_)
          refine lv_goto (tgt := 2) hx hb dX0_hasAdmittedSibling_35 (by decide) ?_
          exact ih2 (i + 1) (by omega) (by first | assumption | omega) H locs (hP.sub [0, 1, 2, 3, 4, 5, 6, 7, 8] rfl) (hD.sub [0, 1, 2, 3, 4, 5, 6, 7, 8] (by decide) rfl) hS ls (lv_sub hl [0, 1, 2] rfl)
  exact L2 (cnt - 0 + 1) 0 (Nat.lt_succ_self _) (by first | assumption | omega) H locs (hP.sub [0, 1, 2, 3, 4, 5, 6, 7, 8] rfl) (hD.sub [0, 1, 2, 3, 4, 5, 6, 7, 8] (by decide) rfl) hS ls (lv_sub hl [0, 1, 2] rfl)
theorem dX0_isAwaited_0 : decode cX0_isAwaited 0 = .ok (.iload_n 3, 1) := by decide +kernel
theorem dX0_isAwaited_1 : decode cX0_isAwaited 1 = .ok (.aload_n 0, 1) := by decide +kernel
theorem dX0_isAwaited_2 : decode cX0_isAwaited 2 = .ok (.getfield 21, 3) := by decide +kernel
theorem dX0_isAwaited_5 : decode cX0_isAwaited 5 = .ok (.iload_n 1, 1) := by decide +kernel
theorem dX0_isAwaited_6 : decode cX0_isAwaited 6 = .ok (.iaload, 1) := by decide +kernel
theorem dX0_isAwaited_7 : decode cX0_isAwaited 7 = .ok (.if_icmp .lt 17, 3) := by decide +kernel
theorem dX0_isAwaited_24 : decode cX0_isAwaited 24 = .ok (.iconst 0, 1) := by decide +kernel
theorem dX0_isAwaited_25 : decode cX0_isAwaited 25 = .ok (.istore 4, 2) := by decide +kernel
theorem dX0_isAwaited_27 : decode cX0_isAwaited 27 = .ok (.aload_n 0, 1) := by decide +kernel
theorem dX0_isAwaited_28 : decode cX0_isAwaited 28 = .ok (.getfield 47, 3) := by decide +kernel
theorem dX0_isAwaited_31 : decode cX0_isAwaited 31 = .ok (.iload_n 1, 1) := by decide +kernel
theorem dX0_isAwaited_32 : decode cX0_isAwaited 32 = .ok (.invokestatic 62, 3) := by decide +kernel
theorem dX0_isAwaited_35 : decode cX0_isAwaited 35 = .ok (.ifCond .eq 25, 3) := by decide +kernel
theorem dX0_isAwaited_38 : decode cX0_isAwaited 38 = .ok (.iload 4, 2) := by decide +kernel
theorem dX0_isAwaited_40 : decode cX0_isAwaited 40 = .ok (.ifCond .eq 20, 3) := by decide +kernel
theorem dX0_isAwaited_60 : decode cX0_isAwaited 60 = .ok (.iconst 0, 1) := by decide +kernel
theorem dX0_isAwaited_61 : decode cX0_isAwaited 61 = .ok (.ireturn, 1) := by decide +kernel
theorem dX0_isAwaited_10 : decode cX0_isAwaited 10 = .ok (.iload_n 3, 1) := by decide +kernel
theorem dX0_isAwaited_11 : decode cX0_isAwaited 11 = .ok (.aload_n 0, 1) := by decide +kernel
theorem dX0_isAwaited_12 : decode cX0_isAwaited 12 = .ok (.getfield 24, 3) := by decide +kernel
theorem dX0_isAwaited_15 : decode cX0_isAwaited 15 = .ok (.iload_n 1, 1) := by decide +kernel
theorem dX0_isAwaited_16 : decode cX0_isAwaited 16 = .ok (.iaload, 1) := by decide +kernel
theorem dX0_isAwaited_17 : decode cX0_isAwaited 17 = .ok (.if_icmp .gt 7, 3) := by decide +kernel
theorem dX0_isAwaited_20 : decode cX0_isAwaited 20 = .ok (.iconst 1, 1) := by decide +kernel
theorem dX0_isAwaited_21 : decode cX0_isAwaited 21 = .ok (.goto 4, 3) := by decide +kernel
theorem dX0_isAwaited_43 : decode cX0_isAwaited 43 = .ok (.aload_n 0, 1) := by decide +kernel
theorem dX0_isAwaited_44 : decode cX0_isAwaited 44 = .ok (.getfield 18, 3) := by decide +kernel
theorem dX0_isAwaited_47 : decode cX0_isAwaited 47 = .ok (.iload_n 1, 1) := by decide +kernel
theorem dX0_isAwaited_48 : decode cX0_isAwaited 48 = .ok (.iaload, 1) := by decide +kernel
theorem dX0_isAwaited_49 : decode cX0_isAwaited 49 = .ok (.iload_n 2, 1) := by decide +kernel
theorem dX0_isAwaited_50 : decode cX0_isAwaited 50 = .ok (.invokestatic 62, 3) := by decide +kernel
theorem dX0_isAwaited_53 : decode cX0_isAwaited 53 = .ok (.ifCond .eq 7, 3) := by decide +kernel
theorem dX0_isAwaited_56 : decode cX0_isAwaited 56 = .ok (.iconst 1, 1) := by decide +kernel
theorem dX0_isAwaited_57 : decode cX0_isAwaited 57 = .ok (.goto 4, 3) := by decide +kernel
set_option maxHeartbeats 8000000 in
set_option maxRecDepth 100000 in
theorem c_X0_isAwaited (l : Launch) (g : kG) (sz : Nat) (a : Nat → Nat) (cnt : Nat) (wn : Nat) (xa : Int32) (xd : Int32) (f0 : Nat → Int32) (f1 : Nat → Int32) (f2 : Nat → Int32) (f3 : Nat → Int32) (f4 : Nat → Int32) (f5 : Nat → Int32) (f6 : Nat → Int32) (f7 : Nat → Int32) (j : Nat) (x : Int32) (y : Int32) (hj : j < 10) : kMi l g yX0_isAwaited cX0_isAwaited 5 (some .boolean) 2 0 0 [.ref (a 0), .int (nI j), .int x, .int y] sz [(a 0, .inr (0, [.int (nI cnt), .ref (a 1), .ref (a 2), .ref (a 3), .ref (a 4), .ref (a 5), .ref (a 6), .ref (a 7), .int xa, .int xd, .int (nI wn), .ref (a 8)])), (a 1, .inl (gI g, 10, .inl f0)), (a 2, .inl (gI g, 10, .inl f1)), (a 3, .inl (gI g, 10, .inl f2)), (a 4, .inl (gI g, 10, .inl f3)), (a 5, .inl (gI g, 10, .inl f4)), (a 6, .inl (gI g, 10, .inl f5)), (a 7, .inl (gI g, 10, .inl f6)), (a 8, .inl (gI g, 10, .inl f7))] (fun (r : Int32) (u : Unit) => r = 1 ∨ r = 0) (fun (u : Unit) => ([(a 0, .inr (0, [.int (nI cnt), .ref (a 1), .ref (a 2), .ref (a 3), .ref (a 4), .ref (a 5), .ref (a 6), .ref (a 7), .int xa, .int xd, .int (nI wn), .ref (a 8)])), (a 1, .inl (gI g, 10, .inl f0)), (a 2, .inl (gI g, 10, .inl f1)), (a 3, .inl (gI g, 10, .inl f2)), (a 4, .inl (gI g, 10, .inl f3)), (a 5, .inl (gI g, 10, .inl f4)), (a 6, .inl (gI g, 10, .inl f5)), (a 7, .inl (gI g, 10, .inl f6)), (a 8, .inl (gI g, 10, .inl f7))] : va_W)) := by
  refine kMi.of (by decide) (Nat.le_of_ble_eq_true rfl) (fun p e s m below meth c A hx hb hr hml hown hts hlk hnm hKW hP hD hS hA ls hl => ?_)
  have hown : s.vm.findClass RX0 = some m.cls := hown
  have hl : lv_has ls 5 [(0, .ref (a 0)), (1, .int (nI j)), (2, .int x), (3, .int y)] := hl
  refine k_hide hP hS (fun H locs hP hS => ?_)
  refine lv_iload_n hx hb dX0_isAwaited_0 rfl (lv_at hl 3 rfl) ?_
  refine lv_aload_n hx hb dX0_isAwaited_1 rfl (lv_at hl 0 rfl) ?_
  refine va_get (ci := 0) (C := RX0) (T := TX0) (N := 12) hx hb hts inlX0 hown hKW.1 hP 0 rfl rfl 4 (by decide) (hts _ wd_4_9) (fun _ h => h) rfl dX0_isAwaited_2 ?_
  refine lv_iload_n hx hb dX0_isAwaited_5 rfl (lv_at hl 1 rfl) ?_
  refine va_iald hx hb hKW.1 hP 4 0 rfl rfl (vp_in_nI (by omega) (by decide)) dX0_isAwaited_6 ?_
  refine lv_topi (fun x_1 ex_1 => ?_)
  refine lv_icmp_lt (tgt := 24) hx hb dX0_isAwaited_7 (by decide) (fun c_2 => ?_) (fun c_2 => ?_)
  · refine lv_iconst (v := 0) hx hb dX0_isAwaited_24 (by decide) ?_
    refine lv_istore (lv' := [(4, .int 0), (0, .ref (a 0)), (1, .int (nI j)), (2, .int x), (3, .int y)]) hx hb dX0_isAwaited_25 hl (by decide) rfl (fun ls hl => ?_)
    refine lv_aload_n hx hb dX0_isAwaited_27 rfl (lv_at hl 1 rfl) ?_
    refine va_get (ci := 0) (C := RX0) (T := TX0) (N := 12) hx hb hts inlX0 hown hKW.1 hP 0 rfl rfl 9 (by decide) (hts _ wd_9_11) (fun _ h => h) rfl dX0_isAwaited_28 ?_
    refine lv_iload_n hx hb dX0_isAwaited_31 rfl (lv_at hl 2 rfl) ?_
    refine k_SNi [] [0, 1, 2, 3, 4, 5, 6, 7, 8] (wr := [(a 0, .inr (0, [.int (nI cnt), .ref (a 1), .ref (a 2), .ref (a 3), .ref (a 4), .ref (a 5), .ref (a 6), .ref (a 7), .int xa, .int xd, .int (nI wn), .ref (a 8)])), (a 1, .inl (gI g, 10, .inl f0)), (a 2, .inl (gI g, 10, .inl f1)), (a 3, .inl (gI g, 10, .inl f2)), (a 4, .inl (gI g, 10, .inl f3)), (a 5, .inl (gI g, 10, .inl f4)), (a 6, .inl (gI g, 10, .inl f5)), (a 7, .inl (gI g, 10, .inl f6)), (a 8, .inl (gI g, 10, .inl f7))]) hx hb hml hown hts hKW hP hD hS hA hl.1 (c_X11_hasBit l g _ xd (nI j) ) wd_14_11 wd_1_2 nw_26 wd_14_10 yd_X11_hasBit ⟨(Nat.le_of_ble_eq_true rfl), (Nat.le_of_ble_eq_true rfl)⟩ rfl rfl rfl rfl (by decide) rfl (Nat.le_of_ble_eq_true rfl) dX0_isAwaited_32 ⟨(Nat.le_of_ble_eq_true rfl), (Nat.le_of_ble_eq_true rfl)⟩ (fun r_3 u_4 H locs hw_5 hP hD hS => ?_)
    have hP : va_P g.1 vwCl [(a 0, .inr (0, [.int (nI cnt), .ref (a 1), .ref (a 2), .ref (a 3), .ref (a 4), .ref (a 5), .ref (a 6), .ref (a 7), .int xa, .int xd, .int (nI wn), .ref (a 8)])), (a 1, .inl (gI g, 10, .inl f0)), (a 2, .inl (gI g, 10, .inl f1)), (a 3, .inl (gI g, 10, .inl f2)), (a 4, .inl (gI g, 10, .inl f3)), (a 5, .inl (gI g, 10, .inl f4)), (a 6, .inl (gI g, 10, .inl f5)), (a 7, .inl (gI g, 10, .inl f6)), (a 8, .inl (gI g, 10, .inl f7))] H := hP
    have hD : va_D A [(a 0, .inr (0, [.int (nI cnt), .ref (a 1), .ref (a 2), .ref (a 3), .ref (a 4), .ref (a 5), .ref (a 6), .ref (a 7), .int xa, .int xd, .int (nI wn), .ref (a 8)])), (a 1, .inl (gI g, 10, .inl f0)), (a 2, .inl (gI g, 10, .inl f1)), (a 3, .inl (gI g, 10, .inl f2)), (a 4, .inl (gI g, 10, .inl f3)), (a 5, .inl (gI g, 10, .inl f4)), (a 6, .inl (gI g, 10, .inl f5)), (a 7, .inl (gI g, 10, .inl f6)), (a 8, .inl (gI g, 10, .inl f7))] := hD
    rcases (show r_3 = 1 ∨ r_3 = 0 from hw_5) with rfl | rfl <;> clear hw_5
    · refine lv_if_eq (tgt := 60) hx hb dX0_isAwaited_35 (by decide) (fun c => absurd c (by decide)) (fun _ => ?_)
      refine lv_iload hx hb dX0_isAwaited_38 (lv_at hl 0 rfl) ?_
      refine lv_if_eq (tgt := 60) hx hb dX0_isAwaited_40 (by decide) (fun _ => ?_) (fun c => absurd c (by decide))
      refine lv_iconst (v := 0) hx hb dX0_isAwaited_60 (by decide) ?_
      exact k_zret () [0, 1, 2, 3, 4, 5, 6, 7, 8] hx hb hr hlk hP hD hS (Or.inr rfl) rfl rfl rfl rfl (Nat.le_of_ble_eq_true rfl) (Nat.le_of_ble_eq_true rfl) dX0_isAwaited_61
    · refine lv_if_eq (tgt := 60) hx hb dX0_isAwaited_35 (by decide) (fun _ => ?_) (fun c => absurd c (by decide))
      refine lv_iconst (v := 0) hx hb dX0_isAwaited_60 (by decide) ?_
      exact k_zret () [0, 1, 2, 3, 4, 5, 6, 7, 8] hx hb hr hlk hP hD hS (Or.inr rfl) rfl rfl rfl rfl (Nat.le_of_ble_eq_true rfl) (Nat.le_of_ble_eq_true rfl) dX0_isAwaited_61
  · refine lv_iload_n hx hb dX0_isAwaited_10 rfl (lv_at hl 3 rfl) ?_
    refine lv_aload_n hx hb dX0_isAwaited_11 rfl (lv_at hl 0 rfl) ?_
    refine va_get (ci := 0) (C := RX0) (T := TX0) (N := 12) hx hb hts inlX0 hown hKW.1 hP 0 rfl rfl 5 (by decide) (hts _ wd_4_10) (fun _ h => h) rfl dX0_isAwaited_12 ?_
    refine lv_iload_n hx hb dX0_isAwaited_15 rfl (lv_at hl 1 rfl) ?_
    refine va_iald hx hb hKW.1 hP 5 0 rfl rfl (vp_in_nI (by omega) (by decide)) dX0_isAwaited_16 ?_
    refine lv_topi (fun x_6 ex_6 => ?_)
    refine lv_icmp_gt (tgt := 24) hx hb dX0_isAwaited_17 (by decide) (fun c_7 => ?_) (fun c_7 => ?_)
    · refine lv_iconst (v := 0) hx hb dX0_isAwaited_24 (by decide) ?_
      refine lv_istore (lv' := [(4, .int 0), (0, .ref (a 0)), (1, .int (nI j)), (2, .int x), (3, .int y)]) hx hb dX0_isAwaited_25 hl (by decide) rfl (fun ls hl => ?_)
      refine lv_aload_n hx hb dX0_isAwaited_27 rfl (lv_at hl 1 rfl) ?_
      refine va_get (ci := 0) (C := RX0) (T := TX0) (N := 12) hx hb hts inlX0 hown hKW.1 hP 0 rfl rfl 9 (by decide) (hts _ wd_9_11) (fun _ h => h) rfl dX0_isAwaited_28 ?_
      refine lv_iload_n hx hb dX0_isAwaited_31 rfl (lv_at hl 2 rfl) ?_
      refine k_SNi [] [0, 1, 2, 3, 4, 5, 6, 7, 8] (wr := [(a 0, .inr (0, [.int (nI cnt), .ref (a 1), .ref (a 2), .ref (a 3), .ref (a 4), .ref (a 5), .ref (a 6), .ref (a 7), .int xa, .int xd, .int (nI wn), .ref (a 8)])), (a 1, .inl (gI g, 10, .inl f0)), (a 2, .inl (gI g, 10, .inl f1)), (a 3, .inl (gI g, 10, .inl f2)), (a 4, .inl (gI g, 10, .inl f3)), (a 5, .inl (gI g, 10, .inl f4)), (a 6, .inl (gI g, 10, .inl f5)), (a 7, .inl (gI g, 10, .inl f6)), (a 8, .inl (gI g, 10, .inl f7))]) hx hb hml hown hts hKW hP hD hS hA hl.1 (c_X11_hasBit l g _ xd (nI j) ) wd_14_11 wd_1_2 nw_26 wd_14_10 yd_X11_hasBit ⟨(Nat.le_of_ble_eq_true rfl), (Nat.le_of_ble_eq_true rfl)⟩ rfl rfl rfl rfl (by decide) rfl (Nat.le_of_ble_eq_true rfl) dX0_isAwaited_32 ⟨(Nat.le_of_ble_eq_true rfl), (Nat.le_of_ble_eq_true rfl)⟩ (fun r_8 u_9 H locs hw_10 hP hD hS => ?_)
      have hP : va_P g.1 vwCl [(a 0, .inr (0, [.int (nI cnt), .ref (a 1), .ref (a 2), .ref (a 3), .ref (a 4), .ref (a 5), .ref (a 6), .ref (a 7), .int xa, .int xd, .int (nI wn), .ref (a 8)])), (a 1, .inl (gI g, 10, .inl f0)), (a 2, .inl (gI g, 10, .inl f1)), (a 3, .inl (gI g, 10, .inl f2)), (a 4, .inl (gI g, 10, .inl f3)), (a 5, .inl (gI g, 10, .inl f4)), (a 6, .inl (gI g, 10, .inl f5)), (a 7, .inl (gI g, 10, .inl f6)), (a 8, .inl (gI g, 10, .inl f7))] H := hP
      have hD : va_D A [(a 0, .inr (0, [.int (nI cnt), .ref (a 1), .ref (a 2), .ref (a 3), .ref (a 4), .ref (a 5), .ref (a 6), .ref (a 7), .int xa, .int xd, .int (nI wn), .ref (a 8)])), (a 1, .inl (gI g, 10, .inl f0)), (a 2, .inl (gI g, 10, .inl f1)), (a 3, .inl (gI g, 10, .inl f2)), (a 4, .inl (gI g, 10, .inl f3)), (a 5, .inl (gI g, 10, .inl f4)), (a 6, .inl (gI g, 10, .inl f5)), (a 7, .inl (gI g, 10, .inl f6)), (a 8, .inl (gI g, 10, .inl f7))] := hD
      rcases (show r_8 = 1 ∨ r_8 = 0 from hw_10) with rfl | rfl <;> clear hw_10
      · refine lv_if_eq (tgt := 60) hx hb dX0_isAwaited_35 (by decide) (fun c => absurd c (by decide)) (fun _ => ?_)
        refine lv_iload hx hb dX0_isAwaited_38 (lv_at hl 0 rfl) ?_
        refine lv_if_eq (tgt := 60) hx hb dX0_isAwaited_40 (by decide) (fun _ => ?_) (fun c => absurd c (by decide))
        refine lv_iconst (v := 0) hx hb dX0_isAwaited_60 (by decide) ?_
        exact k_zret () [0, 1, 2, 3, 4, 5, 6, 7, 8] hx hb hr hlk hP hD hS (Or.inr rfl) rfl rfl rfl rfl (Nat.le_of_ble_eq_true rfl) (Nat.le_of_ble_eq_true rfl) dX0_isAwaited_61
      · refine lv_if_eq (tgt := 60) hx hb dX0_isAwaited_35 (by decide) (fun _ => ?_) (fun c => absurd c (by decide))
        refine lv_iconst (v := 0) hx hb dX0_isAwaited_60 (by decide) ?_
        exact k_zret () [0, 1, 2, 3, 4, 5, 6, 7, 8] hx hb hr hlk hP hD hS (Or.inr rfl) rfl rfl rfl rfl (Nat.le_of_ble_eq_true rfl) (Nat.le_of_ble_eq_true rfl) dX0_isAwaited_61
    · refine lv_iconst (v := 1) hx hb dX0_isAwaited_20 (by decide) ?_
      refine lv_goto (tgt := 25) hx hb dX0_isAwaited_21 (by decide) ?_
      refine lv_istore (lv' := [(4, .int 1), (0, .ref (a 0)), (1, .int (nI j)), (2, .int x), (3, .int y)]) hx hb dX0_isAwaited_25 hl (by decide) rfl (fun ls hl => ?_)
      refine lv_aload_n hx hb dX0_isAwaited_27 rfl (lv_at hl 1 rfl) ?_
      refine va_get (ci := 0) (C := RX0) (T := TX0) (N := 12) hx hb hts inlX0 hown hKW.1 hP 0 rfl rfl 9 (by decide) (hts _ wd_9_11) (fun _ h => h) rfl dX0_isAwaited_28 ?_
      refine lv_iload_n hx hb dX0_isAwaited_31 rfl (lv_at hl 2 rfl) ?_
      refine k_SNi [] [0, 1, 2, 3, 4, 5, 6, 7, 8] (wr := [(a 0, .inr (0, [.int (nI cnt), .ref (a 1), .ref (a 2), .ref (a 3), .ref (a 4), .ref (a 5), .ref (a 6), .ref (a 7), .int xa, .int xd, .int (nI wn), .ref (a 8)])), (a 1, .inl (gI g, 10, .inl f0)), (a 2, .inl (gI g, 10, .inl f1)), (a 3, .inl (gI g, 10, .inl f2)), (a 4, .inl (gI g, 10, .inl f3)), (a 5, .inl (gI g, 10, .inl f4)), (a 6, .inl (gI g, 10, .inl f5)), (a 7, .inl (gI g, 10, .inl f6)), (a 8, .inl (gI g, 10, .inl f7))]) hx hb hml hown hts hKW hP hD hS hA hl.1 (c_X11_hasBit l g _ xd (nI j) ) wd_14_11 wd_1_2 nw_26 wd_14_10 yd_X11_hasBit ⟨(Nat.le_of_ble_eq_true rfl), (Nat.le_of_ble_eq_true rfl)⟩ rfl rfl rfl rfl (by decide) rfl (Nat.le_of_ble_eq_true rfl) dX0_isAwaited_32 ⟨(Nat.le_of_ble_eq_true rfl), (Nat.le_of_ble_eq_true rfl)⟩ (fun r_11 u_12 H locs hw_13 hP hD hS => ?_)
      have hP : va_P g.1 vwCl [(a 0, .inr (0, [.int (nI cnt), .ref (a 1), .ref (a 2), .ref (a 3), .ref (a 4), .ref (a 5), .ref (a 6), .ref (a 7), .int xa, .int xd, .int (nI wn), .ref (a 8)])), (a 1, .inl (gI g, 10, .inl f0)), (a 2, .inl (gI g, 10, .inl f1)), (a 3, .inl (gI g, 10, .inl f2)), (a 4, .inl (gI g, 10, .inl f3)), (a 5, .inl (gI g, 10, .inl f4)), (a 6, .inl (gI g, 10, .inl f5)), (a 7, .inl (gI g, 10, .inl f6)), (a 8, .inl (gI g, 10, .inl f7))] H := hP
      have hD : va_D A [(a 0, .inr (0, [.int (nI cnt), .ref (a 1), .ref (a 2), .ref (a 3), .ref (a 4), .ref (a 5), .ref (a 6), .ref (a 7), .int xa, .int xd, .int (nI wn), .ref (a 8)])), (a 1, .inl (gI g, 10, .inl f0)), (a 2, .inl (gI g, 10, .inl f1)), (a 3, .inl (gI g, 10, .inl f2)), (a 4, .inl (gI g, 10, .inl f3)), (a 5, .inl (gI g, 10, .inl f4)), (a 6, .inl (gI g, 10, .inl f5)), (a 7, .inl (gI g, 10, .inl f6)), (a 8, .inl (gI g, 10, .inl f7))] := hD
      rcases (show r_11 = 1 ∨ r_11 = 0 from hw_13) with rfl | rfl <;> clear hw_13
      · refine lv_if_eq (tgt := 60) hx hb dX0_isAwaited_35 (by decide) (fun c => absurd c (by decide)) (fun _ => ?_)
        refine lv_iload hx hb dX0_isAwaited_38 (lv_at hl 0 rfl) ?_
        refine lv_if_eq (tgt := 60) hx hb dX0_isAwaited_40 (by decide) (fun c => absurd c (by decide)) (fun _ => ?_)
        refine lv_aload_n hx hb dX0_isAwaited_43 rfl (lv_at hl 1 rfl) ?_
        refine va_get (ci := 0) (C := RX0) (T := TX0) (N := 12) hx hb hts inlX0 hown hKW.1 hP 0 rfl rfl 3 (by decide) (hts _ wd_4_8) (fun _ h => h) rfl dX0_isAwaited_44 ?_
        refine lv_iload_n hx hb dX0_isAwaited_47 rfl (lv_at hl 2 rfl) ?_
        refine va_iald hx hb hKW.1 hP 3 0 rfl rfl (vp_in_nI (by omega) (by decide)) dX0_isAwaited_48 ?_
        refine lv_topi (fun x_14 ex_14 => ?_)
        refine lv_iload_n hx hb dX0_isAwaited_49 rfl (lv_at hl 3 rfl) ?_
        refine k_SNi [] [0, 1, 2, 3, 4, 5, 6, 7, 8] (wr := [(a 0, .inr (0, [.int (nI cnt), .ref (a 1), .ref (a 2), .ref (a 3), .ref (a 4), .ref (a 5), .ref (a 6), .ref (a 7), .int xa, .int xd, .int (nI wn), .ref (a 8)])), (a 1, .inl (gI g, 10, .inl f0)), (a 2, .inl (gI g, 10, .inl f1)), (a 3, .inl (gI g, 10, .inl f2)), (a 4, .inl (gI g, 10, .inl f3)), (a 5, .inl (gI g, 10, .inl f4)), (a 6, .inl (gI g, 10, .inl f5)), (a 7, .inl (gI g, 10, .inl f6)), (a 8, .inl (gI g, 10, .inl f7))]) hx hb hml hown hts hKW hP hD hS hA hl.1 (c_X11_hasBit l g _ x_14 x ) wd_14_11 wd_1_2 nw_26 wd_14_10 yd_X11_hasBit ⟨(Nat.le_of_ble_eq_true rfl), (Nat.le_of_ble_eq_true rfl)⟩ rfl rfl rfl rfl (by decide) rfl (Nat.le_of_ble_eq_true rfl) dX0_isAwaited_50 ⟨(Nat.le_of_ble_eq_true rfl), (Nat.le_of_ble_eq_true rfl)⟩ (fun r_15 u_16 H locs hw_17 hP hD hS => ?_)
        have hP : va_P g.1 vwCl [(a 0, .inr (0, [.int (nI cnt), .ref (a 1), .ref (a 2), .ref (a 3), .ref (a 4), .ref (a 5), .ref (a 6), .ref (a 7), .int xa, .int xd, .int (nI wn), .ref (a 8)])), (a 1, .inl (gI g, 10, .inl f0)), (a 2, .inl (gI g, 10, .inl f1)), (a 3, .inl (gI g, 10, .inl f2)), (a 4, .inl (gI g, 10, .inl f3)), (a 5, .inl (gI g, 10, .inl f4)), (a 6, .inl (gI g, 10, .inl f5)), (a 7, .inl (gI g, 10, .inl f6)), (a 8, .inl (gI g, 10, .inl f7))] H := hP
        have hD : va_D A [(a 0, .inr (0, [.int (nI cnt), .ref (a 1), .ref (a 2), .ref (a 3), .ref (a 4), .ref (a 5), .ref (a 6), .ref (a 7), .int xa, .int xd, .int (nI wn), .ref (a 8)])), (a 1, .inl (gI g, 10, .inl f0)), (a 2, .inl (gI g, 10, .inl f1)), (a 3, .inl (gI g, 10, .inl f2)), (a 4, .inl (gI g, 10, .inl f3)), (a 5, .inl (gI g, 10, .inl f4)), (a 6, .inl (gI g, 10, .inl f5)), (a 7, .inl (gI g, 10, .inl f6)), (a 8, .inl (gI g, 10, .inl f7))] := hD
        rcases (show r_15 = 1 ∨ r_15 = 0 from hw_17) with rfl | rfl <;> clear hw_17
        · refine lv_if_eq (tgt := 60) hx hb dX0_isAwaited_53 (by decide) (fun c => absurd c (by decide)) (fun _ => ?_)
          refine lv_iconst (v := 1) hx hb dX0_isAwaited_56 (by decide) ?_
          refine lv_goto (tgt := 61) hx hb dX0_isAwaited_57 (by decide) ?_
          exact k_zret () [0, 1, 2, 3, 4, 5, 6, 7, 8] hx hb hr hlk hP hD hS (Or.inl rfl) rfl rfl rfl rfl (Nat.le_of_ble_eq_true rfl) (Nat.le_of_ble_eq_true rfl) dX0_isAwaited_61
        · refine lv_if_eq (tgt := 60) hx hb dX0_isAwaited_53 (by decide) (fun _ => ?_) (fun c => absurd c (by decide))
          refine lv_iconst (v := 0) hx hb dX0_isAwaited_60 (by decide) ?_
          exact k_zret () [0, 1, 2, 3, 4, 5, 6, 7, 8] hx hb hr hlk hP hD hS (Or.inr rfl) rfl rfl rfl rfl (Nat.le_of_ble_eq_true rfl) (Nat.le_of_ble_eq_true rfl) dX0_isAwaited_61
      · refine lv_if_eq (tgt := 60) hx hb dX0_isAwaited_35 (by decide) (fun _ => ?_) (fun c => absurd c (by decide))
        refine lv_iconst (v := 0) hx hb dX0_isAwaited_60 (by decide) ?_
        exact k_zret () [0, 1, 2, 3, 4, 5, 6, 7, 8] hx hb hr hlk hP hD hS (Or.inr rfl) rfl rfl rfl rfl (Nat.le_of_ble_eq_true rfl) (Nat.le_of_ble_eq_true rfl) dX0_isAwaited_61
theorem dX0_isWaiting_0 : decode cX0_isWaiting 0 = .ok (.iconst 0, 1) := by decide +kernel
theorem dX0_isWaiting_1 : decode cX0_isWaiting 1 = .ok (.istore_n 2, 1) := by decide +kernel
theorem dX0_isWaiting_2 : decode cX0_isWaiting 2 = .ok (.iload_n 2, 1) := by decide +kernel
theorem dX0_isWaiting_3 : decode cX0_isWaiting 3 = .ok (.aload_n 0, 1) := by decide +kernel
theorem dX0_isWaiting_4 : decode cX0_isWaiting 4 = .ok (.getfield 69, 3) := by decide +kernel
theorem dX0_isWaiting_7 : decode cX0_isWaiting 7 = .ok (.if_icmp .ge 21, 3) := by decide +kernel
theorem dX0_isWaiting_28 : decode cX0_isWaiting 28 = .ok (.iconst 0, 1) := by decide +kernel
theorem dX0_isWaiting_29 : decode cX0_isWaiting 29 = .ok (.ireturn, 1) := by decide +kernel
theorem dX0_isWaiting_10 : decode cX0_isWaiting 10 = .ok (.aload_n 0, 1) := by decide +kernel
theorem dX0_isWaiting_11 : decode cX0_isWaiting 11 = .ok (.getfield 33, 3) := by decide +kernel
theorem dX0_isWaiting_14 : decode cX0_isWaiting 14 = .ok (.iload_n 2, 1) := by decide +kernel
theorem dX0_isWaiting_15 : decode cX0_isWaiting 15 = .ok (.iaload, 1) := by decide +kernel
theorem dX0_isWaiting_16 : decode cX0_isWaiting 16 = .ok (.iload_n 1, 1) := by decide +kernel
theorem dX0_isWaiting_17 : decode cX0_isWaiting 17 = .ok (.if_icmp .ne 5, 3) := by decide +kernel
theorem dX0_isWaiting_22 : decode cX0_isWaiting 22 = .ok (.iinc 2 1, 3) := by decide +kernel
theorem dX0_isWaiting_25 : decode cX0_isWaiting 25 = .ok (.goto (-23), 3) := by decide +kernel
theorem dX0_isWaiting_20 : decode cX0_isWaiting 20 = .ok (.iconst 1, 1) := by decide +kernel
theorem dX0_isWaiting_21 : decode cX0_isWaiting 21 = .ok (.ireturn, 1) := by decide +kernel
set_option maxHeartbeats 8000000 in
set_option maxRecDepth 100000 in
theorem c_X0_isWaiting (l : Launch) (g : kG) (sz : Nat) (a : Nat → Nat) (cnt : Nat) (wn : Nat) (xa : Int32) (xd : Int32) (f0 : Nat → Int32) (f1 : Nat → Int32) (f2 : Nat → Int32) (f3 : Nat → Int32) (f4 : Nat → Int32) (f5 : Nat → Int32) (f6 : Nat → Int32) (f7 : Nat → Int32) (x : Int32) (hw : wn ≤ 10) : kMi l g yX0_isWaiting cX0_isWaiting 3 (some .boolean) 1 0 0 [.ref (a 0), .int x] sz [(a 0, .inr (0, [.int (nI cnt), .ref (a 1), .ref (a 2), .ref (a 3), .ref (a 4), .ref (a 5), .ref (a 6), .ref (a 7), .int xa, .int xd, .int (nI wn), .ref (a 8)])), (a 1, .inl (gI g, 10, .inl f0)), (a 2, .inl (gI g, 10, .inl f1)), (a 3, .inl (gI g, 10, .inl f2)), (a 4, .inl (gI g, 10, .inl f3)), (a 5, .inl (gI g, 10, .inl f4)), (a 6, .inl (gI g, 10, .inl f5)), (a 7, .inl (gI g, 10, .inl f6)), (a 8, .inl (gI g, 10, .inl f7))] (fun (r : Int32) (u : Unit) => r = 1 ∨ r = 0) (fun (u : Unit) => ([(a 0, .inr (0, [.int (nI cnt), .ref (a 1), .ref (a 2), .ref (a 3), .ref (a 4), .ref (a 5), .ref (a 6), .ref (a 7), .int xa, .int xd, .int (nI wn), .ref (a 8)])), (a 1, .inl (gI g, 10, .inl f0)), (a 2, .inl (gI g, 10, .inl f1)), (a 3, .inl (gI g, 10, .inl f2)), (a 4, .inl (gI g, 10, .inl f3)), (a 5, .inl (gI g, 10, .inl f4)), (a 6, .inl (gI g, 10, .inl f5)), (a 7, .inl (gI g, 10, .inl f6)), (a 8, .inl (gI g, 10, .inl f7))] : va_W)) := by
  refine kMi.of (by decide) (Nat.le_of_ble_eq_true rfl) (fun p e s m below meth c A hx hb hr hml hown hts hlk hnm hKW hP hD hS hA ls hl => ?_)
  have hown : s.vm.findClass RX0 = some m.cls := hown
  have hl : lv_has ls 3 [(0, .ref (a 0)), (1, .int x)] := hl
  refine k_hide hP hS (fun H locs hP hS => ?_)
  refine lv_iconst (v := 0) hx hb dX0_isWaiting_0 (by decide) ?_
  refine lv_istore_n (lv' := [(2, .int 0), (0, .ref (a 0)), (1, .int x)]) hx hb dX0_isWaiting_1 rfl hl (by decide) rfl (fun ls hl => ?_)
  have L2 : ∀ (n2 : Nat) (i : Nat) (hfuel2 : wn - i < n2) (hi : i ≤ wn) (H : Heap) (locs : List Loc) (hP : va_P g.1 vwCl [(a 0, .inr (0, [.int (nI cnt), .ref (a 1), .ref (a 2), .ref (a 3), .ref (a 4), .ref (a 5), .ref (a 6), .ref (a 7), .int xa, .int xd, .int (nI wn), .ref (a 8)])), (a 1, .inl (gI g, 10, .inl f0)), (a 2, .inl (gI g, 10, .inl f1)), (a 3, .inl (gI g, 10, .inl f2)), (a 4, .inl (gI g, 10, .inl f3)), (a 5, .inl (gI g, 10, .inl f4)), (a 6, .inl (gI g, 10, .inl f5)), (a 7, .inl (gI g, 10, .inl f6)), (a 8, .inl (gI g, 10, .inl f7))] H) (hD : va_D A [(a 0, .inr (0, [.int (nI cnt), .ref (a 1), .ref (a 2), .ref (a 3), .ref (a 4), .ref (a 5), .ref (a 6), .ref (a 7), .int xa, .int xd, .int (nI wn), .ref (a 8)])), (a 1, .inl (gI g, 10, .inl f0)), (a 2, .inl (gI g, 10, .inl f1)), (a 3, .inl (gI g, 10, .inl f2)), (a 4, .inl (gI g, 10, .inl f3)), (a 5, .inl (gI g, 10, .inl f4)), (a 6, .inl (gI g, 10, .inl f5)), (a 7, .inl (gI g, 10, .inl f6)), (a 8, .inl (gI g, 10, .inl f7))]) (hS : va_S A s.heap H locs) (ls : Array Slot) (hl : lv_has ls 3 [(2, .int (nI i)), (0, .ref (a 0)), (1, .int x)]), W p l e (kR 1 0 0) s m ([.ref (a 0), .int x] : List Value).toArray below meth c H locs 0 0 (kQi g A below ([.ref (a 0), .int x] : List Value).toArray s 0 0 (fun (r : Int32) (u : Unit) => r = 1 ∨ r = 0) (fun (u : Unit) => ([(a 0, .inr (0, [.int (nI cnt), .ref (a 1), .ref (a 2), .ref (a 3), .ref (a 4), .ref (a 5), .ref (a 6), .ref (a 7), .int xa, .int xd, .int (nI wn), .ref (a 8)])), (a 1, .inl (gI g, 10, .inl f0)), (a 2, .inl (gI g, 10, .inl f1)), (a 3, .inl (gI g, 10, .inl f2)), (a 4, .inl (gI g, 10, .inl f3)), (a 5, .inl (gI g, 10, .inl f4)), (a 6, .inl (gI g, 10, .inl f5)), (a 7, .inl (gI g, 10, .inl f6)), (a 8, .inl (gI g, 10, .inl f7))] : va_W))) (F0 m 2 ls []) := by
    intro n2
    induction n2 with
    | zero => intro i hfuel2; exact absurd hfuel2 (Nat.not_lt_zero _)
    | succ n2 ih2 =>
      intro i hfuel2 hi H locs hP hD hS ls hl
      refine lv_iload_n hx hb dX0_isWaiting_2 rfl (lv_at hl 0 rfl) ?_
      refine lv_aload_n hx hb dX0_isWaiting_3 rfl (lv_at hl 1 rfl) ?_
      refine va_get (ci := 0) (C := RX0) (T := TX0) (N := 12) hx hb hts inlX0 hown hKW.1 hP 0 rfl rfl 10 (by decide) (hts _ wd_9_8) (fun _ h => h) rfl dX0_isWaiting_4 ?_
      refine lv_icmp_ge (tgt := 28) hx hb dX0_isWaiting_7 (by decide) (fun c_1 => ?_) (fun c_1 => ?_)
      · have c_1n : wn ≤ i := (k_leI (a := wn) (b := i) (by omega) (by omega)).mp c_1
        refine lv_iconst (v := 0) hx hb dX0_isWaiting_28 (by decide) ?_
        exact k_zret () [0, 1, 2, 3, 4, 5, 6, 7, 8] hx hb hr hlk hP hD hS (Or.inr rfl) rfl rfl rfl rfl (Nat.le_of_ble_eq_true rfl) (Nat.le_of_ble_eq_true rfl) dX0_isWaiting_29
      · have c_1n : i < wn := Nat.not_le.mp (fun h => c_1 ((k_leI (a := wn) (b := i) (by omega) (by omega)).mpr h))
        refine lv_aload_n hx hb dX0_isWaiting_10 rfl (lv_at hl 1 rfl) ?_
        refine va_get (ci := 0) (C := RX0) (T := TX0) (N := 12) hx hb hts inlX0 hown hKW.1 hP 0 rfl rfl 11 (by decide) (hts _ wd_4_13) (fun _ h => h) rfl dX0_isWaiting_11 ?_
        refine lv_iload_n hx hb dX0_isWaiting_14 rfl (lv_at hl 0 rfl) ?_
        refine va_iald hx hb hKW.1 hP 8 0 rfl rfl (vp_in_nI (by omega) (by decide)) dX0_isWaiting_15 ?_
        refine lv_topi (fun x_2 ex_2 => ?_)
        refine lv_iload_n hx hb dX0_isWaiting_16 rfl (lv_at hl 2 rfl) ?_
        refine lv_icmp_ne (tgt := 22) hx hb dX0_isWaiting_17 (by decide) (fun c_3 => ?_) (fun c_3 => ?_)
        · refine lv_iinc (v := nI (i + 1)) (lv' := [(2, .int (nI (i + 1))), (0, .ref (a 0)), (1, .int x)]) hx hb dX0_isWaiting_22 hl (k := 0) rfl (nI_add i 1) (by decide) rfl (fun ls hl => ?_)
          refine lv_goto (tgt := 2) hx hb dX0_isWaiting_25 (by decide) ?_
          exact ih2 (i + 1) (by omega) (by first | assumption | omega) H locs (hP.sub [0, 1, 2, 3, 4, 5, 6, 7, 8] rfl) (hD.sub [0, 1, 2, 3, 4, 5, 6, 7, 8] (by decide) rfl) hS ls (lv_sub hl [0, 1, 2] rfl)
        · refine lv_iconst (v := 1) hx hb dX0_isWaiting_20 (by decide) ?_
          exact k_zret () [0, 1, 2, 3, 4, 5, 6, 7, 8] hx hb hr hlk hP hD hS (Or.inl rfl) rfl rfl rfl rfl (Nat.le_of_ble_eq_true rfl) (Nat.le_of_ble_eq_true rfl) dX0_isWaiting_21
  exact L2 (wn - 0 + 1) 0 (Nat.lt_succ_self _) (by first | assumption | omega) H locs (hP.sub [0, 1, 2, 3, 4, 5, 6, 7, 8] rfl) (hD.sub [0, 1, 2, 3, 4, 5, 6, 7, 8] (by decide) rfl) hS ls (lv_sub hl [0, 1, 2] rfl)
theorem dX0_addWaiter_0 : decode cX0_addWaiter 0 = .ok (.aload_n 0, 1) := by decide +kernel
theorem dX0_addWaiter_1 : decode cX0_addWaiter 1 = .ok (.getfield 69, 3) := by decide +kernel
theorem dX0_addWaiter_4 : decode cX0_addWaiter 4 = .ok (.bipush 10, 2) := by decide +kernel
theorem dX0_addWaiter_6 : decode cX0_addWaiter 6 = .ok (.if_icmp .ge 23, 3) := by decide +kernel
theorem dX0_addWaiter_29 : decode cX0_addWaiter 29 = .ok (.return_, 1) := by decide +kernel
theorem dX0_addWaiter_9 : decode cX0_addWaiter 9 = .ok (.aload_n 0, 1) := by decide +kernel
theorem dX0_addWaiter_10 : decode cX0_addWaiter 10 = .ok (.getfield 33, 3) := by decide +kernel
theorem dX0_addWaiter_13 : decode cX0_addWaiter 13 = .ok (.aload_n 0, 1) := by decide +kernel
theorem dX0_addWaiter_14 : decode cX0_addWaiter 14 = .ok (.getfield 69, 3) := by decide +kernel
theorem dX0_addWaiter_17 : decode cX0_addWaiter 17 = .ok (.iload_n 1, 1) := by decide +kernel
theorem dX0_addWaiter_18 : decode cX0_addWaiter 18 = .ok (.iastore, 1) := by decide +kernel
theorem dX0_addWaiter_19 : decode cX0_addWaiter 19 = .ok (.aload_n 0, 1) := by decide +kernel
theorem dX0_addWaiter_20 : decode cX0_addWaiter 20 = .ok (.dup, 1) := by decide +kernel
theorem dX0_addWaiter_21 : decode cX0_addWaiter 21 = .ok (.getfield 69, 3) := by decide +kernel
theorem dX0_addWaiter_24 : decode cX0_addWaiter 24 = .ok (.iconst 1, 1) := by decide +kernel
theorem dX0_addWaiter_25 : decode cX0_addWaiter 25 = .ok (.iadd, 1) := by decide +kernel
theorem dX0_addWaiter_26 : decode cX0_addWaiter 26 = .ok (.putfield 69, 3) := by decide +kernel
set_option maxHeartbeats 8000000 in
set_option maxRecDepth 100000 in
theorem c_X0_addWaiter (l : Launch) (g : kG) (sz : Nat) (a : Nat → Nat) (cnt : Nat) (wn : Nat) (xa : Int32) (xd : Int32) (f0 : Nat → Int32) (f1 : Nat → Int32) (f2 : Nat → Int32) (f3 : Nat → Int32) (f4 : Nat → Int32) (f5 : Nat → Int32) (f6 : Nat → Int32) (f7 : Nat → Int32) (j : Nat) (hw : wn ≤ 10) (hwt : ∀ j, j < 10 → (0 : Int) ≤ (f7 j).toInt ∧ (f7 j).toInt ≤ 9) (hj : j < 10) : kMv l g yX0_addWaiter cX0_addWaiter 2 none 1 0 0 [.ref (a 0), .int (nI j)] sz [(a 0, .inr (0, [.int (nI cnt), .ref (a 1), .ref (a 2), .ref (a 3), .ref (a 4), .ref (a 5), .ref (a 6), .ref (a 7), .int xa, .int xd, .int (nI wn), .ref (a 8)])), (a 1, .inl (gI g, 10, .inl f0)), (a 2, .inl (gI g, 10, .inl f1)), (a 3, .inl (gI g, 10, .inl f2)), (a 4, .inl (gI g, 10, .inl f3)), (a 5, .inl (gI g, 10, .inl f4)), (a 6, .inl (gI g, 10, .inl f5)), (a 7, .inl (gI g, 10, .inl f6)), (a 8, .inl (gI g, 10, .inl f7))] (fun (u : Nat × (Nat → Int32)) => u.1 ≤ 10 ∧ (∀ j, j < 10 → (0 : Int) ≤ (u.2 j).toInt ∧ (u.2 j).toInt ≤ 9)) (fun (u : Nat × (Nat → Int32)) => ([(a 0, .inr (0, [.int (nI cnt), .ref (a 1), .ref (a 2), .ref (a 3), .ref (a 4), .ref (a 5), .ref (a 6), .ref (a 7), .int xa, .int xd, .int (nI u.1), .ref (a 8)])), (a 1, .inl (gI g, 10, .inl f0)), (a 2, .inl (gI g, 10, .inl f1)), (a 3, .inl (gI g, 10, .inl f2)), (a 4, .inl (gI g, 10, .inl f3)), (a 5, .inl (gI g, 10, .inl f4)), (a 6, .inl (gI g, 10, .inl f5)), (a 7, .inl (gI g, 10, .inl f6)), (a 8, .inl (gI g, 10, .inl u.2))] : va_W)) := by
  refine kMv.of (by decide) (Nat.le_of_ble_eq_true rfl) (fun p e s m below meth c A hx hb hr hml hown hts hlk hnm hKW hP hD hS hA ls hl => ?_)
  have hown : s.vm.findClass RX0 = some m.cls := hown
  have hl : lv_has ls 2 [(0, .ref (a 0)), (1, .int (nI j))] := hl
  refine k_hide hP hS (fun H locs hP hS => ?_)
  refine lv_aload_n hx hb dX0_addWaiter_0 rfl (lv_at hl 0 rfl) ?_
  refine va_get (ci := 0) (C := RX0) (T := TX0) (N := 12) hx hb hts inlX0 hown hKW.1 hP 0 rfl rfl 10 (by decide) (hts _ wd_9_8) (fun _ h => h) rfl dX0_addWaiter_1 ?_
  refine lv_bipush (v := 10) hx hb dX0_addWaiter_4 (by decide) ?_
  refine lv_icmp_ge (tgt := 29) hx hb dX0_addWaiter_6 (by decide) (fun c_1 => ?_) (fun c_1 => ?_)
  · have c_1n : 10 ≤ wn := (k_leI (a := 10) (b := wn) (by omega) (by omega)).mp c_1
    exact k_vret (wn, f7) [0, 1, 2, 3, 4, 5, 6, 7, 8] hx hb hr hlk hP hD hS (⟨by omega, hwt⟩) rfl rfl rfl (Nat.le_of_ble_eq_true rfl) (Nat.le_of_ble_eq_true rfl) dX0_addWaiter_29
  · have c_1n : wn < 10 := Nat.not_le.mp (fun h => c_1 ((k_leI (a := 10) (b := wn) (by omega) (by omega)).mpr h))
    refine lv_aload_n hx hb dX0_addWaiter_9 rfl (lv_at hl 0 rfl) ?_
    refine va_get (ci := 0) (C := RX0) (T := TX0) (N := 12) hx hb hts inlX0 hown hKW.1 hP 0 rfl rfl 11 (by decide) (hts _ wd_4_13) (fun _ h => h) rfl dX0_addWaiter_10 ?_
    refine lv_aload_n hx hb dX0_addWaiter_13 rfl (lv_at hl 0 rfl) ?_
    refine va_get (ci := 0) (C := RX0) (T := TX0) (N := 12) hx hb hts inlX0 hown hKW.1 hP 0 rfl rfl 10 (by decide) (hts _ wd_9_8) (fun _ h => h) rfl dX0_addWaiter_14 ?_
    refine lv_iload_n hx hb dX0_addWaiter_17 rfl (lv_at hl 1 rfl) ?_
    refine va_iast hx hb hKW.1 hP hD hS 8 0 rfl rfl (vp_in_nI (by omega) (by decide)) dX0_addWaiter_18 (fun H locs hP hD hS => ?_)
    have hP : va_P g.1 vwCl [(a 0, .inr (0, [.int (nI cnt), .ref (a 1), .ref (a 2), .ref (a 3), .ref (a 4), .ref (a 5), .ref (a 6), .ref (a 7), .int xa, .int xd, .int (nI wn), .ref (a 8)])), (a 1, .inl (gI g, 10, .inl f0)), (a 2, .inl (gI g, 10, .inl f1)), (a 3, .inl (gI g, 10, .inl f2)), (a 4, .inl (gI g, 10, .inl f3)), (a 5, .inl (gI g, 10, .inl f4)), (a 6, .inl (gI g, 10, .inl f5)), (a 7, .inl (gI g, 10, .inl f6)), (a 8, .inl (gI g, 10, .inl (upd f7 (nI wn).toNatClampNeg (nI j))))] H := hP
    have hD : va_D A [(a 0, .inr (0, [.int (nI cnt), .ref (a 1), .ref (a 2), .ref (a 3), .ref (a 4), .ref (a 5), .ref (a 6), .ref (a 7), .int xa, .int xd, .int (nI wn), .ref (a 8)])), (a 1, .inl (gI g, 10, .inl f0)), (a 2, .inl (gI g, 10, .inl f1)), (a 3, .inl (gI g, 10, .inl f2)), (a 4, .inl (gI g, 10, .inl f3)), (a 5, .inl (gI g, 10, .inl f4)), (a 6, .inl (gI g, 10, .inl f5)), (a 7, .inl (gI g, 10, .inl f6)), (a 8, .inl (gI g, 10, .inl (upd f7 (nI wn).toNatClampNeg (nI j))))] := hD
    obtain ⟨f_2, ef_2⟩ : ∃ zz_ : Nat → Int32, zz_ = upd f7 (nI wn).toNatClampNeg (nI j) := ⟨_, rfl⟩
    rw [← ef_2] at hP hD
    have hwt := k_updI (N := 10) (P := fun z => (0 : Int) ≤ z.toInt ∧ z.toInt ≤ 9) ef_2 (by omega) (show (0 : Int) ≤ (nI j).toInt ∧ (nI j).toInt ≤ 9 by rw [k_nIi (by omega)]; omega) hwt
    refine lv_aload_n hx hb dX0_addWaiter_19 rfl (lv_at hl 0 rfl) ?_
    refine lv_dup hx hb dX0_addWaiter_20 rfl ?_
    refine va_get (ci := 0) (C := RX0) (T := TX0) (N := 12) hx hb hts inlX0 hown hKW.1 hP 0 rfl rfl 10 (by decide) (hts _ wd_9_8) (fun _ h => h) rfl dX0_addWaiter_21 ?_
    refine lv_iconst (v := 1) hx hb dX0_addWaiter_24 (by decide) ?_
    refine lv_iadd hx hb dX0_addWaiter_25 ?_
    refine k_top (y := nI (wn + 1)) (nI_add wn 1) ?_
    refine va_put (ci := 0) (v := .int (nI (wn + 1))) (C := RX0) (T := TX0) (N := 12) hx hb hts inlX0 tyX0 tyX0_ok nmX0 hown hKW.1 hP hD hS 0 rfl rfl 10 (by decide) (hts _ wd_9_8) (fun _ h => h) rfl (tyX0_ok 10 (by decide)) rfl rfl (Nat.le_of_ble_eq_true rfl) dX0_addWaiter_26 (fun H locs hP hD hS => ?_)
    have hP : va_P g.1 vwCl [(a 0, .inr (0, [.int (nI cnt), .ref (a 1), .ref (a 2), .ref (a 3), .ref (a 4), .ref (a 5), .ref (a 6), .ref (a 7), .int xa, .int xd, .int (nI (wn + 1)), .ref (a 8)])), (a 1, .inl (gI g, 10, .inl f0)), (a 2, .inl (gI g, 10, .inl f1)), (a 3, .inl (gI g, 10, .inl f2)), (a 4, .inl (gI g, 10, .inl f3)), (a 5, .inl (gI g, 10, .inl f4)), (a 6, .inl (gI g, 10, .inl f5)), (a 7, .inl (gI g, 10, .inl f6)), (a 8, .inl (gI g, 10, .inl f_2))] H := hP
    have hD : va_D A [(a 0, .inr (0, [.int (nI cnt), .ref (a 1), .ref (a 2), .ref (a 3), .ref (a 4), .ref (a 5), .ref (a 6), .ref (a 7), .int xa, .int xd, .int (nI (wn + 1)), .ref (a 8)])), (a 1, .inl (gI g, 10, .inl f0)), (a 2, .inl (gI g, 10, .inl f1)), (a 3, .inl (gI g, 10, .inl f2)), (a 4, .inl (gI g, 10, .inl f3)), (a 5, .inl (gI g, 10, .inl f4)), (a 6, .inl (gI g, 10, .inl f5)), (a 7, .inl (gI g, 10, .inl f6)), (a 8, .inl (gI g, 10, .inl f_2))] := hD
    exact k_vret ((wn + 1), f_2) [0, 1, 2, 3, 4, 5, 6, 7, 8] hx hb hr hlk hP hD hS (⟨by omega, hwt⟩) rfl rfl rfl (Nat.le_of_ble_eq_true rfl) (Nat.le_of_ble_eq_true rfl) dX0_addWaiter_29
theorem dX0_removeWaiter_0 : decode cX0_removeWaiter 0 = .ok (.iconst 0, 1) := by decide +kernel
theorem dX0_removeWaiter_1 : decode cX0_removeWaiter 1 = .ok (.istore_n 2, 1) := by decide +kernel
theorem dX0_removeWaiter_2 : decode cX0_removeWaiter 2 = .ok (.iconst 0, 1) := by decide +kernel
theorem dX0_removeWaiter_3 : decode cX0_removeWaiter 3 = .ok (.istore_n 3, 1) := by decide +kernel
theorem dX0_removeWaiter_4 : decode cX0_removeWaiter 4 = .ok (.iload_n 3, 1) := by decide +kernel
theorem dX0_removeWaiter_5 : decode cX0_removeWaiter 5 = .ok (.aload_n 0, 1) := by decide +kernel
theorem dX0_removeWaiter_6 : decode cX0_removeWaiter 6 = .ok (.getfield 69, 3) := by decide +kernel
theorem dX0_removeWaiter_9 : decode cX0_removeWaiter 9 = .ok (.if_icmp .ge 34, 3) := by decide +kernel
theorem dX0_removeWaiter_43 : decode cX0_removeWaiter 43 = .ok (.aload_n 0, 1) := by decide +kernel
theorem dX0_removeWaiter_44 : decode cX0_removeWaiter 44 = .ok (.iload_n 2, 1) := by decide +kernel
theorem dX0_removeWaiter_45 : decode cX0_removeWaiter 45 = .ok (.putfield 69, 3) := by decide +kernel
theorem dX0_removeWaiter_48 : decode cX0_removeWaiter 48 = .ok (.return_, 1) := by decide +kernel
theorem dX0_removeWaiter_12 : decode cX0_removeWaiter 12 = .ok (.aload_n 0, 1) := by decide +kernel
theorem dX0_removeWaiter_13 : decode cX0_removeWaiter 13 = .ok (.getfield 33, 3) := by decide +kernel
theorem dX0_removeWaiter_16 : decode cX0_removeWaiter 16 = .ok (.iload_n 3, 1) := by decide +kernel
theorem dX0_removeWaiter_17 : decode cX0_removeWaiter 17 = .ok (.iaload, 1) := by decide +kernel
theorem dX0_removeWaiter_18 : decode cX0_removeWaiter 18 = .ok (.iload_n 1, 1) := by decide +kernel
theorem dX0_removeWaiter_19 : decode cX0_removeWaiter 19 = .ok (.if_icmp .eq 18, 3) := by decide +kernel
theorem dX0_removeWaiter_37 : decode cX0_removeWaiter 37 = .ok (.iinc 3 1, 3) := by decide +kernel
theorem dX0_removeWaiter_40 : decode cX0_removeWaiter 40 = .ok (.goto (-36), 3) := by decide +kernel
theorem dX0_removeWaiter_22 : decode cX0_removeWaiter 22 = .ok (.aload_n 0, 1) := by decide +kernel
theorem dX0_removeWaiter_23 : decode cX0_removeWaiter 23 = .ok (.getfield 33, 3) := by decide +kernel
theorem dX0_removeWaiter_26 : decode cX0_removeWaiter 26 = .ok (.iload_n 2, 1) := by decide +kernel
theorem dX0_removeWaiter_27 : decode cX0_removeWaiter 27 = .ok (.aload_n 0, 1) := by decide +kernel
theorem dX0_removeWaiter_28 : decode cX0_removeWaiter 28 = .ok (.getfield 33, 3) := by decide +kernel
theorem dX0_removeWaiter_31 : decode cX0_removeWaiter 31 = .ok (.iload_n 3, 1) := by decide +kernel
theorem dX0_removeWaiter_32 : decode cX0_removeWaiter 32 = .ok (.iaload, 1) := by decide +kernel
theorem dX0_removeWaiter_33 : decode cX0_removeWaiter 33 = .ok (.iastore, 1) := by decide +kernel
theorem dX0_removeWaiter_34 : decode cX0_removeWaiter 34 = .ok (.iinc 2 1, 3) := by decide +kernel
set_option maxHeartbeats 8000000 in
set_option maxRecDepth 100000 in
theorem c_X0_removeWaiter (l : Launch) (g : kG) (sz : Nat) (a : Nat → Nat) (cnt : Nat) (wn : Nat) (xa : Int32) (xd : Int32) (f0 : Nat → Int32) (f1 : Nat → Int32) (f2 : Nat → Int32) (f3 : Nat → Int32) (f4 : Nat → Int32) (f5 : Nat → Int32) (f6 : Nat → Int32) (f7 : Nat → Int32) (x : Int32) (hw : wn ≤ 10) (hwt : ∀ j, j < 10 → (0 : Int) ≤ (f7 j).toInt ∧ (f7 j).toInt ≤ 9) : kMv l g yX0_removeWaiter cX0_removeWaiter 4 none 1 0 0 [.ref (a 0), .int x] sz [(a 0, .inr (0, [.int (nI cnt), .ref (a 1), .ref (a 2), .ref (a 3), .ref (a 4), .ref (a 5), .ref (a 6), .ref (a 7), .int xa, .int xd, .int (nI wn), .ref (a 8)])), (a 1, .inl (gI g, 10, .inl f0)), (a 2, .inl (gI g, 10, .inl f1)), (a 3, .inl (gI g, 10, .inl f2)), (a 4, .inl (gI g, 10, .inl f3)), (a 5, .inl (gI g, 10, .inl f4)), (a 6, .inl (gI g, 10, .inl f5)), (a 7, .inl (gI g, 10, .inl f6)), (a 8, .inl (gI g, 10, .inl f7))] (fun (u : Nat × (Nat → Int32)) => u.1 ≤ 10 ∧ (∀ j, j < 10 → (0 : Int) ≤ (u.2 j).toInt ∧ (u.2 j).toInt ≤ 9)) (fun (u : Nat × (Nat → Int32)) => ([(a 0, .inr (0, [.int (nI cnt), .ref (a 1), .ref (a 2), .ref (a 3), .ref (a 4), .ref (a 5), .ref (a 6), .ref (a 7), .int xa, .int xd, .int (nI u.1), .ref (a 8)])), (a 1, .inl (gI g, 10, .inl f0)), (a 2, .inl (gI g, 10, .inl f1)), (a 3, .inl (gI g, 10, .inl f2)), (a 4, .inl (gI g, 10, .inl f3)), (a 5, .inl (gI g, 10, .inl f4)), (a 6, .inl (gI g, 10, .inl f5)), (a 7, .inl (gI g, 10, .inl f6)), (a 8, .inl (gI g, 10, .inl u.2))] : va_W)) := by
  refine kMv.of (by decide) (Nat.le_of_ble_eq_true rfl) (fun p e s m below meth c A hx hb hr hml hown hts hlk hnm hKW hP hD hS hA ls hl => ?_)
  have hown : s.vm.findClass RX0 = some m.cls := hown
  have hl : lv_has ls 4 [(0, .ref (a 0)), (1, .int x)] := hl
  refine k_hide hP hS (fun H locs hP hS => ?_)
  refine lv_iconst (v := 0) hx hb dX0_removeWaiter_0 (by decide) ?_
  refine lv_istore_n (lv' := [(2, .int 0), (0, .ref (a 0)), (1, .int x)]) hx hb dX0_removeWaiter_1 rfl hl (by decide) rfl (fun ls hl => ?_)
  refine lv_iconst (v := 0) hx hb dX0_removeWaiter_2 (by decide) ?_
  refine lv_istore_n (lv' := [(3, .int 0), (2, .int 0), (0, .ref (a 0)), (1, .int x)]) hx hb dX0_removeWaiter_3 rfl hl (by decide) rfl (fun ls hl => ?_)
  have L4 : ∀ (n4 : Nat) (i : Nat) (k : Nat) (ga : Nat → Int32) (hfuel4 : wn - i < n4) (hi : i ≤ wn) (hk : k ≤ i) (hg : ∀ j, j < 10 → (0 : Int) ≤ (ga j).toInt ∧ (ga j).toInt ≤ 9) (H : Heap) (locs : List Loc) (hP : va_P g.1 vwCl [(a 0, .inr (0, [.int (nI cnt), .ref (a 1), .ref (a 2), .ref (a 3), .ref (a 4), .ref (a 5), .ref (a 6), .ref (a 7), .int xa, .int xd, .int (nI wn), .ref (a 8)])), (a 1, .inl (gI g, 10, .inl f0)), (a 2, .inl (gI g, 10, .inl f1)), (a 3, .inl (gI g, 10, .inl f2)), (a 4, .inl (gI g, 10, .inl f3)), (a 5, .inl (gI g, 10, .inl f4)), (a 6, .inl (gI g, 10, .inl f5)), (a 7, .inl (gI g, 10, .inl f6)), (a 8, .inl (gI g, 10, .inl ga))] H) (hD : va_D A [(a 0, .inr (0, [.int (nI cnt), .ref (a 1), .ref (a 2), .ref (a 3), .ref (a 4), .ref (a 5), .ref (a 6), .ref (a 7), .int xa, .int xd, .int (nI wn), .ref (a 8)])), (a 1, .inl (gI g, 10, .inl f0)), (a 2, .inl (gI g, 10, .inl f1)), (a 3, .inl (gI g, 10, .inl f2)), (a 4, .inl (gI g, 10, .inl f3)), (a 5, .inl (gI g, 10, .inl f4)), (a 6, .inl (gI g, 10, .inl f5)), (a 7, .inl (gI g, 10, .inl f6)), (a 8, .inl (gI g, 10, .inl ga))]) (hS : va_S A s.heap H locs) (ls : Array Slot) (hl : lv_has ls 4 [(3, .int (nI i)), (2, .int (nI k)), (0, .ref (a 0)), (1, .int x)]), W p l e (kR 1 0 0) s m ([.ref (a 0), .int x] : List Value).toArray below meth c H locs 0 0 (kQv g A below ([.ref (a 0), .int x] : List Value).toArray s 0 0 (fun (u : Nat × (Nat → Int32)) => u.1 ≤ 10 ∧ (∀ j, j < 10 → (0 : Int) ≤ (u.2 j).toInt ∧ (u.2 j).toInt ≤ 9)) (fun (u : Nat × (Nat → Int32)) => ([(a 0, .inr (0, [.int (nI cnt), .ref (a 1), .ref (a 2), .ref (a 3), .ref (a 4), .ref (a 5), .ref (a 6), .ref (a 7), .int xa, .int xd, .int (nI u.1), .ref (a 8)])), (a 1, .inl (gI g, 10, .inl f0)), (a 2, .inl (gI g, 10, .inl f1)), (a 3, .inl (gI g, 10, .inl f2)), (a 4, .inl (gI g, 10, .inl f3)), (a 5, .inl (gI g, 10, .inl f4)), (a 6, .inl (gI g, 10, .inl f5)), (a 7, .inl (gI g, 10, .inl f6)), (a 8, .inl (gI g, 10, .inl u.2))] : va_W))) (F0 m 4 ls []) := by
    intro n4
    induction n4 with
    | zero => intro i k ga hfuel4; exact absurd hfuel4 (Nat.not_lt_zero _)
    | succ n4 ih4 =>
      intro i k ga hfuel4 hi hk hg H locs hP hD hS ls hl
      refine lv_iload_n hx hb dX0_removeWaiter_4 rfl (lv_at hl 0 rfl) ?_
      refine lv_aload_n hx hb dX0_removeWaiter_5 rfl (lv_at hl 2 rfl) ?_
      refine va_get (ci := 0) (C := RX0) (T := TX0) (N := 12) hx hb hts inlX0 hown hKW.1 hP 0 rfl rfl 10 (by decide) (hts _ wd_9_8) (fun _ h => h) rfl dX0_removeWaiter_6 ?_
      refine lv_icmp_ge (tgt := 43) hx hb dX0_removeWaiter_9 (by decide) (fun c_1 => ?_) (fun c_1 => ?_)
      · have c_1n : wn ≤ i := (k_leI (a := wn) (b := i) (by omega) (by omega)).mp c_1
        refine lv_aload_n hx hb dX0_removeWaiter_43 rfl (lv_at hl 2 rfl) ?_
        refine lv_iload_n hx hb dX0_removeWaiter_44 rfl (lv_at hl 1 rfl) ?_
        refine va_put (ci := 0) (v := .int (nI k)) (C := RX0) (T := TX0) (N := 12) hx hb hts inlX0 tyX0 tyX0_ok nmX0 hown hKW.1 hP hD hS 0 rfl rfl 10 (by decide) (hts _ wd_9_8) (fun _ h => h) rfl (tyX0_ok 10 (by decide)) rfl rfl (Nat.le_of_ble_eq_true rfl) dX0_removeWaiter_45 (fun H locs hP hD hS => ?_)
        have hP : va_P g.1 vwCl [(a 0, .inr (0, [.int (nI cnt), .ref (a 1), .ref (a 2), .ref (a 3), .ref (a 4), .ref (a 5), .ref (a 6), .ref (a 7), .int xa, .int xd, .int (nI k), .ref (a 8)])), (a 1, .inl (gI g, 10, .inl f0)), (a 2, .inl (gI g, 10, .inl f1)), (a 3, .inl (gI g, 10, .inl f2)), (a 4, .inl (gI g, 10, .inl f3)), (a 5, .inl (gI g, 10, .inl f4)), (a 6, .inl (gI g, 10, .inl f5)), (a 7, .inl (gI g, 10, .inl f6)), (a 8, .inl (gI g, 10, .inl ga))] H := hP
        have hD : va_D A [(a 0, .inr (0, [.int (nI cnt), .ref (a 1), .ref (a 2), .ref (a 3), .ref (a 4), .ref (a 5), .ref (a 6), .ref (a 7), .int xa, .int xd, .int (nI k), .ref (a 8)])), (a 1, .inl (gI g, 10, .inl f0)), (a 2, .inl (gI g, 10, .inl f1)), (a 3, .inl (gI g, 10, .inl f2)), (a 4, .inl (gI g, 10, .inl f3)), (a 5, .inl (gI g, 10, .inl f4)), (a 6, .inl (gI g, 10, .inl f5)), (a 7, .inl (gI g, 10, .inl f6)), (a 8, .inl (gI g, 10, .inl ga))] := hD
        exact k_vret (k, ga) [0, 1, 2, 3, 4, 5, 6, 7, 8] hx hb hr hlk hP hD hS (⟨by omega, hg⟩) rfl rfl rfl (Nat.le_of_ble_eq_true rfl) (Nat.le_of_ble_eq_true rfl) dX0_removeWaiter_48
      · have c_1n : i < wn := Nat.not_le.mp (fun h => c_1 ((k_leI (a := wn) (b := i) (by omega) (by omega)).mpr h))
        refine lv_aload_n hx hb dX0_removeWaiter_12 rfl (lv_at hl 2 rfl) ?_
        refine va_get (ci := 0) (C := RX0) (T := TX0) (N := 12) hx hb hts inlX0 hown hKW.1 hP 0 rfl rfl 11 (by decide) (hts _ wd_4_13) (fun _ h => h) rfl dX0_removeWaiter_13 ?_
        refine lv_iload_n hx hb dX0_removeWaiter_16 rfl (lv_at hl 0 rfl) ?_
        refine va_iald hx hb hKW.1 hP 8 0 rfl rfl (vp_in_nI (by omega) (by decide)) dX0_removeWaiter_17 ?_
        refine lv_topi (fun x_2 ex_2 => ?_)
        refine lv_iload_n hx hb dX0_removeWaiter_18 rfl (lv_at hl 3 rfl) ?_
        refine lv_icmp_eq (tgt := 37) hx hb dX0_removeWaiter_19 (by decide) (fun c_3 => ?_) (fun c_3 => ?_)
        · refine lv_iinc (v := nI (i + 1)) (lv' := [(3, .int (nI (i + 1))), (2, .int (nI k)), (0, .ref (a 0)), (1, .int x)]) hx hb dX0_removeWaiter_37 hl (k := 0) rfl (nI_add i 1) (by decide) rfl (fun ls hl => ?_)
          refine lv_goto (tgt := 4) hx hb dX0_removeWaiter_40 (by decide) ?_
          exact ih4 (i + 1) k ga (by omega) (by first | assumption | omega) (by first | assumption | omega) hg H locs (hP.sub [0, 1, 2, 3, 4, 5, 6, 7, 8] rfl) (hD.sub [0, 1, 2, 3, 4, 5, 6, 7, 8] (by decide) rfl) hS ls (lv_sub hl [0, 1, 2, 3] rfl)
        · refine lv_aload_n hx hb dX0_removeWaiter_22 rfl (lv_at hl 2 rfl) ?_
          refine va_get (ci := 0) (C := RX0) (T := TX0) (N := 12) hx hb hts inlX0 hown hKW.1 hP 0 rfl rfl 11 (by decide) (hts _ wd_4_13) (fun _ h => h) rfl dX0_removeWaiter_23 ?_
          refine lv_iload_n hx hb dX0_removeWaiter_26 rfl (lv_at hl 1 rfl) ?_
          refine lv_aload_n hx hb dX0_removeWaiter_27 rfl (lv_at hl 2 rfl) ?_
          refine va_get (ci := 0) (C := RX0) (T := TX0) (N := 12) hx hb hts inlX0 hown hKW.1 hP 0 rfl rfl 11 (by decide) (hts _ wd_4_13) (fun _ h => h) rfl dX0_removeWaiter_28 ?_
          refine lv_iload_n hx hb dX0_removeWaiter_31 rfl (lv_at hl 0 rfl) ?_
          refine va_iald hx hb hKW.1 hP 8 0 rfl rfl (vp_in_nI (by omega) (by decide)) dX0_removeWaiter_32 ?_
          refine lv_topi (fun x_4 ex_4 => ?_)
          refine va_iast hx hb hKW.1 hP hD hS 8 0 rfl rfl (vp_in_nI (by omega) (by decide)) dX0_removeWaiter_33 (fun H locs hP hD hS => ?_)
          have hP : va_P g.1 vwCl [(a 0, .inr (0, [.int (nI cnt), .ref (a 1), .ref (a 2), .ref (a 3), .ref (a 4), .ref (a 5), .ref (a 6), .ref (a 7), .int xa, .int xd, .int (nI wn), .ref (a 8)])), (a 1, .inl (gI g, 10, .inl f0)), (a 2, .inl (gI g, 10, .inl f1)), (a 3, .inl (gI g, 10, .inl f2)), (a 4, .inl (gI g, 10, .inl f3)), (a 5, .inl (gI g, 10, .inl f4)), (a 6, .inl (gI g, 10, .inl f5)), (a 7, .inl (gI g, 10, .inl f6)), (a 8, .inl (gI g, 10, .inl (upd ga (nI k).toNatClampNeg x_4)))] H := hP
          have hD : va_D A [(a 0, .inr (0, [.int (nI cnt), .ref (a 1), .ref (a 2), .ref (a 3), .ref (a 4), .ref (a 5), .ref (a 6), .ref (a 7), .int xa, .int xd, .int (nI wn), .ref (a 8)])), (a 1, .inl (gI g, 10, .inl f0)), (a 2, .inl (gI g, 10, .inl f1)), (a 3, .inl (gI g, 10, .inl f2)), (a 4, .inl (gI g, 10, .inl f3)), (a 5, .inl (gI g, 10, .inl f4)), (a 6, .inl (gI g, 10, .inl f5)), (a 7, .inl (gI g, 10, .inl f6)), (a 8, .inl (gI g, 10, .inl (upd ga (nI k).toNatClampNeg x_4)))] := hD
          obtain ⟨f_5, ef_5⟩ : ∃ zz_ : Nat → Int32, zz_ = upd ga (nI k).toNatClampNeg x_4 := ⟨_, rfl⟩
          rw [← ef_5] at hP hD
          have hgg := k_updI (N := 10) (P := fun z => (0 : Int) ≤ z.toInt ∧ z.toInt ≤ 9) ef_5 (by omega) (by rw [ex_4, nI_clamp (by omega)]; exact hg _ (by omega)) hg
          refine lv_iinc (v := nI (k + 1)) (lv' := [(2, .int (nI (k + 1))), (3, .int (nI i)), (0, .ref (a 0)), (1, .int x)]) hx hb dX0_removeWaiter_34 hl (k := 1) rfl (nI_add k 1) (by decide) rfl (fun ls hl => ?_)
          refine lv_iinc (v := nI (i + 1)) (lv' := [(3, .int (nI (i + 1))), (2, .int (nI (k + 1))), (0, .ref (a 0)), (1, .int x)]) hx hb dX0_removeWaiter_37 hl (k := 1) rfl (nI_add i 1) (by decide) rfl (fun ls hl => ?_)
          refine lv_goto (tgt := 4) hx hb dX0_removeWaiter_40 (by decide) ?_
          exact ih4 (i + 1) (k + 1) f_5 (by omega) (by first | assumption | omega) (by first | assumption | omega) hgg H locs (hP.sub [0, 1, 2, 3, 4, 5, 6, 7, 8] rfl) (hD.sub [0, 1, 2, 3, 4, 5, 6, 7, 8] (by decide) rfl) hS ls (lv_sub hl [0, 1, 2, 3] rfl)
  exact L4 (wn - 0 + 1) 0 0 f7 (Nat.lt_succ_self _) (by first | assumption | omega) (by first | assumption | omega) hwt H locs (hP.sub [0, 1, 2, 3, 4, 5, 6, 7, 8] rfl) (hD.sub [0, 1, 2, 3, 4, 5, 6, 7, 8] (by decide) rfl) hS ls (lv_sub hl [0, 1, 2, 3] rfl)
theorem dX0_waiterOf_0 : decode cX0_waiterOf 0 = .ok (.iload_n 2, 1) := by decide +kernel
theorem dX0_waiterOf_1 : decode cX0_waiterOf 1 = .ok (.istore_n 3, 1) := by decide +kernel
theorem dX0_waiterOf_2 : decode cX0_waiterOf 2 = .ok (.iconst 0, 1) := by decide +kernel
theorem dX0_waiterOf_3 : decode cX0_waiterOf 3 = .ok (.istore 4, 2) := by decide +kernel
theorem dX0_waiterOf_5 : decode cX0_waiterOf 5 = .ok (.iload 4, 2) := by decide +kernel
theorem dX0_waiterOf_7 : decode cX0_waiterOf 7 = .ok (.aload_n 0, 1) := by decide +kernel
theorem dX0_waiterOf_8 : decode cX0_waiterOf 8 = .ok (.getfield 69, 3) := by decide +kernel
theorem dX0_waiterOf_11 : decode cX0_waiterOf 11 = .ok (.if_icmp .ge 39, 3) := by decide +kernel
theorem dX0_waiterOf_50 : decode cX0_waiterOf 50 = .ok (.iconst (-1), 1) := by decide +kernel
theorem dX0_waiterOf_51 : decode cX0_waiterOf 51 = .ok (.ireturn, 1) := by decide +kernel
theorem dX0_waiterOf_14 : decode cX0_waiterOf 14 = .ok (.aload_n 0, 1) := by decide +kernel
theorem dX0_waiterOf_15 : decode cX0_waiterOf 15 = .ok (.aload_n 0, 1) := by decide +kernel
theorem dX0_waiterOf_16 : decode cX0_waiterOf 16 = .ok (.getfield 33, 3) := by decide +kernel
theorem dX0_waiterOf_19 : decode cX0_waiterOf 19 = .ok (.iload 4, 2) := by decide +kernel
theorem dX0_waiterOf_21 : decode cX0_waiterOf 21 = .ok (.iaload, 1) := by decide +kernel
theorem dX0_waiterOf_22 : decode cX0_waiterOf 22 = .ok (.invokevirtual 72, 3) := by decide +kernel
theorem dX0_waiterOf_25 : decode cX0_waiterOf 25 = .ok (.iload_n 1, 1) := by decide +kernel
theorem dX0_waiterOf_26 : decode cX0_waiterOf 26 = .ok (.if_icmp .ne 18, 3) := by decide +kernel
theorem dX0_waiterOf_44 : decode cX0_waiterOf 44 = .ok (.iinc 4 1, 3) := by decide +kernel
theorem dX0_waiterOf_47 : decode cX0_waiterOf 47 = .ok (.goto (-42), 3) := by decide +kernel
theorem dX0_waiterOf_29 : decode cX0_waiterOf 29 = .ok (.iload_n 3, 1) := by decide +kernel
theorem dX0_waiterOf_30 : decode cX0_waiterOf 30 = .ok (.ifCond .ne 11, 3) := by decide +kernel
theorem dX0_waiterOf_41 : decode cX0_waiterOf 41 = .ok (.iinc 3 (-1), 3) := by decide +kernel
theorem dX0_waiterOf_33 : decode cX0_waiterOf 33 = .ok (.aload_n 0, 1) := by decide +kernel
theorem dX0_waiterOf_34 : decode cX0_waiterOf 34 = .ok (.getfield 33, 3) := by decide +kernel
theorem dX0_waiterOf_37 : decode cX0_waiterOf 37 = .ok (.iload 4, 2) := by decide +kernel
theorem dX0_waiterOf_39 : decode cX0_waiterOf 39 = .ok (.iaload, 1) := by decide +kernel
theorem dX0_waiterOf_40 : decode cX0_waiterOf 40 = .ok (.ireturn, 1) := by decide +kernel
set_option maxHeartbeats 8000000 in
set_option maxRecDepth 100000 in
theorem c_X0_waiterOf (l : Launch) (g : kG) (sz : Nat) (a : Nat → Nat) (cnt : Nat) (wn : Nat) (xa : Int32) (xd : Int32) (f0 : Nat → Int32) (f1 : Nat → Int32) (f2 : Nat → Int32) (f3 : Nat → Int32) (f4 : Nat → Int32) (f5 : Nat → Int32) (f6 : Nat → Int32) (f7 : Nat → Int32) (x : Int32) (y : Int32) (hc : cnt ≤ 10) (hw : wn ≤ 10) (hwt : ∀ j, j < 10 → (0 : Int) ≤ (f7 j).toInt ∧ (f7 j).toInt ≤ 9) : kMi l g yX0_waiterOf cX0_waiterOf 5 (some .int) 3 0 0 [.ref (a 0), .int x, .int y] sz [(a 0, .inr (0, [.int (nI cnt), .ref (a 1), .ref (a 2), .ref (a 3), .ref (a 4), .ref (a 5), .ref (a 6), .ref (a 7), .int xa, .int xd, .int (nI wn), .ref (a 8)])), (a 1, .inl (gI g, 10, .inl f0)), (a 2, .inl (gI g, 10, .inl f1)), (a 3, .inl (gI g, 10, .inl f2)), (a 4, .inl (gI g, 10, .inl f3)), (a 5, .inl (gI g, 10, .inl f4)), (a 6, .inl (gI g, 10, .inl f5)), (a 7, .inl (gI g, 10, .inl f6)), (a 8, .inl (gI g, 10, .inl f7))] (fun (r : Int32) (u : Unit) => True) (fun (u : Unit) => ([(a 0, .inr (0, [.int (nI cnt), .ref (a 1), .ref (a 2), .ref (a 3), .ref (a 4), .ref (a 5), .ref (a 6), .ref (a 7), .int xa, .int xd, .int (nI wn), .ref (a 8)])), (a 1, .inl (gI g, 10, .inl f0)), (a 2, .inl (gI g, 10, .inl f1)), (a 3, .inl (gI g, 10, .inl f2)), (a 4, .inl (gI g, 10, .inl f3)), (a 5, .inl (gI g, 10, .inl f4)), (a 6, .inl (gI g, 10, .inl f5)), (a 7, .inl (gI g, 10, .inl f6)), (a 8, .inl (gI g, 10, .inl f7))] : va_W)) := by
  refine kMi.of (by decide) (Nat.le_of_ble_eq_true rfl) (fun p e s m below meth c A hx hb hr hml hown hts hlk hnm hKW hP hD hS hA ls hl => ?_)
  have hown : s.vm.findClass RX0 = some m.cls := hown
  have hl : lv_has ls 5 [(0, .ref (a 0)), (1, .int x), (2, .int y)] := hl
  refine k_hide hP hS (fun H locs hP hS => ?_)
  refine lv_iload_n hx hb dX0_waiterOf_0 rfl (lv_at hl 2 rfl) ?_
  refine lv_istore_n (lv' := [(3, .int y), (0, .ref (a 0)), (1, .int x), (2, .int y)]) hx hb dX0_waiterOf_1 rfl hl (by decide) rfl (fun ls hl => ?_)
  refine lv_iconst (v := 0) hx hb dX0_waiterOf_2 (by decide) ?_
  refine lv_istore (lv' := [(4, .int 0), (3, .int y), (0, .ref (a 0)), (1, .int x), (2, .int y)]) hx hb dX0_waiterOf_3 hl (by decide) rfl (fun ls hl => ?_)
  have L5 : ∀ (n5 : Nat) (i : Nat) (x3 : Int32) (hfuel5 : wn - i < n5) (hi : i ≤ wn) (H : Heap) (locs : List Loc) (hP : va_P g.1 vwCl [(a 0, .inr (0, [.int (nI cnt), .ref (a 1), .ref (a 2), .ref (a 3), .ref (a 4), .ref (a 5), .ref (a 6), .ref (a 7), .int xa, .int xd, .int (nI wn), .ref (a 8)])), (a 1, .inl (gI g, 10, .inl f0)), (a 2, .inl (gI g, 10, .inl f1)), (a 3, .inl (gI g, 10, .inl f2)), (a 4, .inl (gI g, 10, .inl f3)), (a 5, .inl (gI g, 10, .inl f4)), (a 6, .inl (gI g, 10, .inl f5)), (a 7, .inl (gI g, 10, .inl f6)), (a 8, .inl (gI g, 10, .inl f7))] H) (hD : va_D A [(a 0, .inr (0, [.int (nI cnt), .ref (a 1), .ref (a 2), .ref (a 3), .ref (a 4), .ref (a 5), .ref (a 6), .ref (a 7), .int xa, .int xd, .int (nI wn), .ref (a 8)])), (a 1, .inl (gI g, 10, .inl f0)), (a 2, .inl (gI g, 10, .inl f1)), (a 3, .inl (gI g, 10, .inl f2)), (a 4, .inl (gI g, 10, .inl f3)), (a 5, .inl (gI g, 10, .inl f4)), (a 6, .inl (gI g, 10, .inl f5)), (a 7, .inl (gI g, 10, .inl f6)), (a 8, .inl (gI g, 10, .inl f7))]) (hS : va_S A s.heap H locs) (ls : Array Slot) (hl : lv_has ls 5 [(4, .int (nI i)), (3, .int x3), (0, .ref (a 0)), (1, .int x), (2, .int y)]), W p l e (kR 3 0 0) s m ([.ref (a 0), .int x, .int y] : List Value).toArray below meth c H locs 0 0 (kQi g A below ([.ref (a 0), .int x, .int y] : List Value).toArray s 0 0 (fun (r : Int32) (u : Unit) => True) (fun (u : Unit) => ([(a 0, .inr (0, [.int (nI cnt), .ref (a 1), .ref (a 2), .ref (a 3), .ref (a 4), .ref (a 5), .ref (a 6), .ref (a 7), .int xa, .int xd, .int (nI wn), .ref (a 8)])), (a 1, .inl (gI g, 10, .inl f0)), (a 2, .inl (gI g, 10, .inl f1)), (a 3, .inl (gI g, 10, .inl f2)), (a 4, .inl (gI g, 10, .inl f3)), (a 5, .inl (gI g, 10, .inl f4)), (a 6, .inl (gI g, 10, .inl f5)), (a 7, .inl (gI g, 10, .inl f6)), (a 8, .inl (gI g, 10, .inl f7))] : va_W))) (F0 m 5 ls []) := by
    intro n5
    induction n5 with
    | zero => intro i x3 hfuel5; exact absurd hfuel5 (Nat.not_lt_zero _)
    | succ n5 ih5 =>
      intro i x3 hfuel5 hi H locs hP hD hS ls hl
      refine lv_iload hx hb dX0_waiterOf_5 (lv_at hl 0 rfl) ?_
      refine lv_aload_n hx hb dX0_waiterOf_7 rfl (lv_at hl 2 rfl) ?_
      refine va_get (ci := 0) (C := RX0) (T := TX0) (N := 12) hx hb hts inlX0 hown hKW.1 hP 0 rfl rfl 10 (by decide) (hts _ wd_9_8) (fun _ h => h) rfl dX0_waiterOf_8 ?_
      refine lv_icmp_ge (tgt := 50) hx hb dX0_waiterOf_11 (by decide) (fun c_1 => ?_) (fun c_1 => ?_)
      · have c_1n : wn ≤ i := (k_leI (a := wn) (b := i) (by omega) (by omega)).mp c_1
        refine lv_iconst (v := (-1)) hx hb dX0_waiterOf_50 (by decide) ?_
        exact k_iret () [0, 1, 2, 3, 4, 5, 6, 7, 8] hx hb hr hlk hP hD hS trivial rfl rfl rfl (Nat.le_of_ble_eq_true rfl) (Nat.le_of_ble_eq_true rfl) dX0_waiterOf_51
      · have c_1n : i < wn := Nat.not_le.mp (fun h => c_1 ((k_leI (a := wn) (b := i) (by omega) (by omega)).mpr h))
        refine lv_aload_n hx hb dX0_waiterOf_14 rfl (lv_at hl 2 rfl) ?_
        refine lv_aload_n hx hb dX0_waiterOf_15 rfl (lv_at hl 2 rfl) ?_
        refine va_get (ci := 0) (C := RX0) (T := TX0) (N := 12) hx hb hts inlX0 hown hKW.1 hP 0 rfl rfl 11 (by decide) (hts _ wd_4_13) (fun _ h => h) rfl dX0_waiterOf_16 ?_
        refine lv_iload hx hb dX0_waiterOf_19 (lv_at hl 0 rfl) ?_
        refine va_iald hx hb hKW.1 hP 8 0 rfl rfl (vp_in_nI (by omega) (by decide)) dX0_waiterOf_21 ?_
        refine lv_topi (fun x_2 ex_2 => ?_)
        obtain ⟨kj, hkj, rfl⟩ := k_ofr (x := x_2) (n := 10) (by decide) (by rw [ex_2, nI_clamp (by omega)]; have := hwt i (by omega); omega)
        refine k_Vi [0, 1, 2, 3, 4, 5, 6, 7, 8] [] 0 0 (wr := []) hx hb hml hown hts hKW hP hD hS hA hl.1 (c_X0_hasAdmittedSibling l g _ a cnt wn xa xd f0 f1 f2 f3 f4 f5 f6 f7 kj (by first | assumption | omega | decide) (by first | assumption | omega | decide)) rfl rfl rfl wd_39_23 wd_3_1 wd_39_20 wd_39_21 wd_39_22 yd_X0_hasAdmittedSibling ⟨(Nat.le_of_ble_eq_true rfl), (Nat.le_of_ble_eq_true rfl)⟩ rfl rfl rfl rfl (by decide) rfl (Nat.le_of_ble_eq_true rfl) dX0_waiterOf_22 ⟨(Nat.le_of_ble_eq_true rfl), (Nat.le_of_ble_eq_true rfl)⟩ (fun r_3 u_4 H locs hw_5 hP hD hS => ?_)
        have hP : va_P g.1 vwCl [(a 0, .inr (0, [.int (nI cnt), .ref (a 1), .ref (a 2), .ref (a 3), .ref (a 4), .ref (a 5), .ref (a 6), .ref (a 7), .int xa, .int xd, .int (nI wn), .ref (a 8)])), (a 1, .inl (gI g, 10, .inl f0)), (a 2, .inl (gI g, 10, .inl f1)), (a 3, .inl (gI g, 10, .inl f2)), (a 4, .inl (gI g, 10, .inl f3)), (a 5, .inl (gI g, 10, .inl f4)), (a 6, .inl (gI g, 10, .inl f5)), (a 7, .inl (gI g, 10, .inl f6)), (a 8, .inl (gI g, 10, .inl f7))] H := hP
        have hD : va_D A [(a 0, .inr (0, [.int (nI cnt), .ref (a 1), .ref (a 2), .ref (a 3), .ref (a 4), .ref (a 5), .ref (a 6), .ref (a 7), .int xa, .int xd, .int (nI wn), .ref (a 8)])), (a 1, .inl (gI g, 10, .inl f0)), (a 2, .inl (gI g, 10, .inl f1)), (a 3, .inl (gI g, 10, .inl f2)), (a 4, .inl (gI g, 10, .inl f3)), (a 5, .inl (gI g, 10, .inl f4)), (a 6, .inl (gI g, 10, .inl f5)), (a 7, .inl (gI g, 10, .inl f6)), (a 8, .inl (gI g, 10, .inl f7))] := hD
        rcases (show r_3 = 1 ∨ r_3 = 0 from hw_5) with rfl | rfl <;> clear hw_5
        · refine lv_iload_n hx hb dX0_waiterOf_25 rfl (lv_at hl 3 rfl) ?_
          refine lv_icmp_ne (tgt := 44) hx hb dX0_waiterOf_26 (by decide) (fun c_6 => ?_) (fun c_6 => ?_)
          · refine lv_iinc (v := nI (i + 1)) (lv' := [(4, .int (nI (i + 1))), (3, .int x3), (0, .ref (a 0)), (1, .int x), (2, .int y)]) hx hb dX0_waiterOf_44 hl (k := 0) rfl (nI_add i 1) (by decide) rfl (fun ls hl => ?_)
            refine lv_goto (tgt := 5) hx hb dX0_waiterOf_47 (by decide) ?_
            exact ih5 (i + 1) x3 (by omega) (by first | assumption | omega) H locs (hP.sub [0, 1, 2, 3, 4, 5, 6, 7, 8] rfl) (hD.sub [0, 1, 2, 3, 4, 5, 6, 7, 8] (by decide) rfl) hS ls (lv_sub hl [0, 1, 2, 3, 4] rfl)
          · refine lv_iload_n hx hb dX0_waiterOf_29 rfl (lv_at hl 1 rfl) ?_
            refine lv_if_ne (tgt := 41) hx hb dX0_waiterOf_30 (by decide) (fun c_7 => ?_) (fun c_7 => ?_)
            · obtain ⟨x_8, ex_8⟩ : ∃ z : Int32, x3 + Int32.ofInt (-1) = z := ⟨_, rfl⟩
              refine lv_iinc (v := x_8) (lv' := [(3, .int x_8), (4, .int (nI i)), (0, .ref (a 0)), (1, .int x), (2, .int y)]) hx hb dX0_waiterOf_41 hl (k := 1) rfl ex_8 (by decide) rfl (fun ls hl => ?_)
              refine lv_iinc (v := nI (i + 1)) (lv' := [(4, .int (nI (i + 1))), (3, .int x_8), (0, .ref (a 0)), (1, .int x), (2, .int y)]) hx hb dX0_waiterOf_44 hl (k := 1) rfl (nI_add i 1) (by decide) rfl (fun ls hl => ?_)
              refine lv_goto (tgt := 5) hx hb dX0_waiterOf_47 (by decide) ?_
              exact ih5 (i + 1) x_8 (by omega) (by first | assumption | omega) H locs (hP.sub [0, 1, 2, 3, 4, 5, 6, 7, 8] rfl) (hD.sub [0, 1, 2, 3, 4, 5, 6, 7, 8] (by decide) rfl) hS ls (lv_sub hl [0, 1, 2, 3, 4] rfl)
            · refine lv_aload_n hx hb dX0_waiterOf_33 rfl (lv_at hl 2 rfl) ?_
              refine va_get (ci := 0) (C := RX0) (T := TX0) (N := 12) hx hb hts inlX0 hown hKW.1 hP 0 rfl rfl 11 (by decide) (hts _ wd_4_13) (fun _ h => h) rfl dX0_waiterOf_34 ?_
              refine lv_iload hx hb dX0_waiterOf_37 (lv_at hl 0 rfl) ?_
              refine va_iald hx hb hKW.1 hP 8 0 rfl rfl (vp_in_nI (by omega) (by decide)) dX0_waiterOf_39 ?_
              refine lv_topi (fun x_9 ex_9 => ?_)
              exact k_iret () [0, 1, 2, 3, 4, 5, 6, 7, 8] hx hb hr hlk hP hD hS trivial rfl rfl rfl (Nat.le_of_ble_eq_true rfl) (Nat.le_of_ble_eq_true rfl) dX0_waiterOf_40
        · refine lv_iload_n hx hb dX0_waiterOf_25 rfl (lv_at hl 3 rfl) ?_
          refine lv_icmp_ne (tgt := 44) hx hb dX0_waiterOf_26 (by decide) (fun c_10 => ?_) (fun c_10 => ?_)
          · refine lv_iinc (v := nI (i + 1)) (lv' := [(4, .int (nI (i + 1))), (3, .int x3), (0, .ref (a 0)), (1, .int x), (2, .int y)]) hx hb dX0_waiterOf_44 hl (k := 0) rfl (nI_add i 1) (by decide) rfl (fun ls hl => ?_)
            refine lv_goto (tgt := 5) hx hb dX0_waiterOf_47 (by decide) ?_
            exact ih5 (i + 1) x3 (by omega) (by first | assumption | omega) H locs (hP.sub [0, 1, 2, 3, 4, 5, 6, 7, 8] rfl) (hD.sub [0, 1, 2, 3, 4, 5, 6, 7, 8] (by decide) rfl) hS ls (lv_sub hl [0, 1, 2, 3, 4] rfl)
          · refine lv_iload_n hx hb dX0_waiterOf_29 rfl (lv_at hl 1 rfl) ?_
            refine lv_if_ne (tgt := 41) hx hb dX0_waiterOf_30 (by decide) (fun c_11 => ?_) (fun c_11 => ?_)
            · obtain ⟨x_12, ex_12⟩ : ∃ z : Int32, x3 + Int32.ofInt (-1) = z := ⟨_, rfl⟩
              refine lv_iinc (v := x_12) (lv' := [(3, .int x_12), (4, .int (nI i)), (0, .ref (a 0)), (1, .int x), (2, .int y)]) hx hb dX0_waiterOf_41 hl (k := 1) rfl ex_12 (by decide) rfl (fun ls hl => ?_)
              refine lv_iinc (v := nI (i + 1)) (lv' := [(4, .int (nI (i + 1))), (3, .int x_12), (0, .ref (a 0)), (1, .int x), (2, .int y)]) hx hb dX0_waiterOf_44 hl (k := 1) rfl (nI_add i 1) (by decide) rfl (fun ls hl => ?_)
              refine lv_goto (tgt := 5) hx hb dX0_waiterOf_47 (by decide) ?_
              exact ih5 (i + 1) x_12 (by omega) (by first | assumption | omega) H locs (hP.sub [0, 1, 2, 3, 4, 5, 6, 7, 8] rfl) (hD.sub [0, 1, 2, 3, 4, 5, 6, 7, 8] (by decide) rfl) hS ls (lv_sub hl [0, 1, 2, 3, 4] rfl)
            · refine lv_aload_n hx hb dX0_waiterOf_33 rfl (lv_at hl 2 rfl) ?_
              refine va_get (ci := 0) (C := RX0) (T := TX0) (N := 12) hx hb hts inlX0 hown hKW.1 hP 0 rfl rfl 11 (by decide) (hts _ wd_4_13) (fun _ h => h) rfl dX0_waiterOf_34 ?_
              refine lv_iload hx hb dX0_waiterOf_37 (lv_at hl 0 rfl) ?_
              refine va_iald hx hb hKW.1 hP 8 0 rfl rfl (vp_in_nI (by omega) (by decide)) dX0_waiterOf_39 ?_
              refine lv_topi (fun x_13 ex_13 => ?_)
              exact k_iret () [0, 1, 2, 3, 4, 5, 6, 7, 8] hx hb hr hlk hP hD hS trivial rfl rfl rfl (Nat.le_of_ble_eq_true rfl) (Nat.le_of_ble_eq_true rfl) dX0_waiterOf_40
  exact L5 (wn - 0 + 1) 0 y (Nat.lt_succ_self _) (by first | assumption | omega) H locs (hP.sub [0, 1, 2, 3, 4, 5, 6, 7, 8] rfl) (hD.sub [0, 1, 2, 3, 4, 5, 6, 7, 8] (by decide) rfl) hS ls (lv_sub hl [0, 1, 2, 3, 4] rfl)
