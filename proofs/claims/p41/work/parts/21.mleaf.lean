theorem k_is1 {v x d : Int32} {k N : Nat} (hN : N < 2 ^ 30) (ed : d = nI k) (hk : k ≤ N) (e : x = nI k - 1) (h : Int32.toInt 0 ≤ v.toInt ∧ v.toInt ≤ x.toInt) : ∃ j : Nat, (j < N ∧ (j : Int) < d.toInt) ∧ v = nI j := by
  have hx : x.toInt = (k : Int) - 1 := by
    rw [e, show nI k - 1 = nI k - nI 1 from rfl, pk_sub_toInt (by omega) (by decide)]; rfl
  rw [show Int32.toInt 0 = (0 : Int) from rfl, hx] at h
  obtain ⟨j, hj, ej⟩ := k_ofr (x := v) (n := k) (by omega) ⟨h.1, by omega⟩
  exact ⟨j, ⟨by omega, by rw [ed, k_nIi (by omega)]; omega⟩, ej⟩
theorem k_is0 {v x d : Int32} {k N : Nat} (hN : N < 2 ^ 30) (ed : d = nI k) (hk : k ≤ N) (e : x = nI k - 1) (h : ¬ (Int32.toInt 0 ≤ v.toInt ∧ v.toInt ≤ x.toInt)) : ¬ ∃ j : Nat, (j < N ∧ (j : Int) < d.toInt) ∧ v = nI j := by
  have hx : x.toInt = (k : Int) - 1 := by
    rw [e, show nI k - 1 = nI k - nI 1 from rfl, pk_sub_toInt (by omega) (by decide)]; rfl
  rintro ⟨j, ⟨h1, h2⟩, rfl⟩
  apply h
  rw [show Int32.toInt 0 = (0 : Int) from rfl, hx, k_nIi (by omega)]
  rw [ed, k_nIi (by omega)] at h2
  omega
theorem dX12_finding_0 : decode cX12_finding 0 = .ok (.aload_n 0, 1) := by decide +kernel
theorem dX12_finding_1 : decode cX12_finding 1 = .ok (.dup, 1) := by decide +kernel
theorem dX12_finding_2 : decode cX12_finding 2 = .ok (.getfield 56, 3) := by decide +kernel
theorem dX12_finding_5 : decode cX12_finding 5 = .ok (.iconst 1, 1) := by decide +kernel
theorem dX12_finding_6 : decode cX12_finding 6 = .ok (.iadd, 1) := by decide +kernel
theorem dX12_finding_7 : decode cX12_finding 7 = .ok (.putfield 56, 3) := by decide +kernel
theorem dX12_finding_10 : decode cX12_finding 10 = .ok (.ldc 60, 2) := by decide +kernel
theorem dX12_finding_12 : decode cX12_finding 12 = .ok (.iload_n 1, 1) := by decide +kernel
theorem dX12_finding_13 : decode cX12_finding 13 = .ok (.isub, 1) := by decide +kernel
theorem dX12_finding_14 : decode cX12_finding 14 = .ok (.ireturn, 1) := by decide +kernel
set_option maxHeartbeats 8000000 in
set_option maxRecDepth 100000 in
theorem c_X12_finding_1 (l : Launch) (g : kG) (sz : Nat) (z : Nat → Nat) (kp : Nat) (xs : Nat → Int32) : kMi l g yX12_finding cX12_finding 2 (some .int) 1 0 0 [.ref (z 0), .int 1] sz [(z 0, .inr (12, [.ref (z 1), .ref (z 2), .int (nI kp), .int (xs 0), .ref (z 3), .ref (z 4), .ref (z 5), .ref (z 6), .int (xs 1), .ref (z 7), .ref (z 8), .ref (z 9), .ref (z 10), .ref (z 11), .ref (z 12), .int (xs 2), .ref (z 13), .ref (z 14), .int (xs 3), .ref (z 15)]))] (fun (r : Int32) (u : Int32) => r = (-100001)) (fun (u : Int32) => ([(z 0, .inr (12, [.ref (z 1), .ref (z 2), .int (nI kp), .int u, .ref (z 3), .ref (z 4), .ref (z 5), .ref (z 6), .int (xs 1), .ref (z 7), .ref (z 8), .ref (z 9), .ref (z 10), .ref (z 11), .ref (z 12), .int (xs 2), .ref (z 13), .ref (z 14), .int (xs 3), .ref (z 15)]))] : va_W)) := by
  refine kMi.of (by decide) (Nat.le_of_ble_eq_true rfl) (fun p e s m below meth c A hx hb hr hml hown hts hlk hnm hKW hP hD hS hA ls hl => ?_)
  have hown : s.vm.findClass RX12 = some m.cls := hown
  have hl : lv_has ls 2 [(0, .ref (z 0)), (1, .int 1)] := hl
  refine k_hide hP hS (fun H locs hP hS => ?_)
  refine lv_aload_n hx hb dX12_finding_0 rfl (lv_at hl 0 rfl) ?_
  refine lv_dup hx hb dX12_finding_1 rfl ?_
  refine va_get (ci := 12) (C := RX12) (T := TX12) (N := 20) hx hb hts inlX12 hown hKW.1 hP 0 rfl rfl 3 (by decide) (hts _ wd_10_16) (fun _ h => h) rfl dX12_finding_2 ?_
  refine lv_iconst (v := 1) hx hb dX12_finding_5 (by decide) ?_
  refine lv_iadd hx hb dX12_finding_6 ?_
  refine lv_topi (fun x_1 ex_1 => ?_)
  refine va_put (ci := 12) (v := .int x_1) (C := RX12) (T := TX12) (N := 20) hx hb hts inlX12 tyX12 tyX12_ok nmX12 hown hKW.1 hP hD hS 0 rfl rfl 3 (by decide) (hts _ wd_10_16) (fun _ h => h) rfl (tyX12_ok 3 (by decide)) rfl rfl (Nat.le_of_ble_eq_true rfl) dX12_finding_7 (fun H locs hP hD hS => ?_)
  have hP : va_P g.1 vwCl [(z 0, .inr (12, [.ref (z 1), .ref (z 2), .int (nI kp), .int x_1, .ref (z 3), .ref (z 4), .ref (z 5), .ref (z 6), .int (xs 1), .ref (z 7), .ref (z 8), .ref (z 9), .ref (z 10), .ref (z 11), .ref (z 12), .int (xs 2), .ref (z 13), .ref (z 14), .int (xs 3), .ref (z 15)]))] H := hP
  have hD : va_D A [(z 0, .inr (12, [.ref (z 1), .ref (z 2), .int (nI kp), .int x_1, .ref (z 3), .ref (z 4), .ref (z 5), .ref (z 6), .int (xs 1), .ref (z 7), .ref (z 8), .ref (z 9), .ref (z 10), .ref (z 11), .ref (z 12), .int (xs 2), .ref (z 13), .ref (z 14), .int (xs 3), .ref (z 15)]))] := hD
  refine lv_ldc (v := (-100000)) hx hb hown (hts _ wd_10_17) dX12_finding_10 ?_
  refine lv_iload_n hx hb dX12_finding_12 rfl (lv_at hl 1 rfl) ?_
  refine lv_isub hx hb dX12_finding_13 ?_
  refine k_top (y := (-100001)) (by decide) ?_
  exact k_iret x_1 [0] hx hb hr hlk hP hD hS rfl rfl rfl rfl (Nat.le_of_ble_eq_true rfl) (Nat.le_of_ble_eq_true rfl) dX12_finding_14

set_option maxHeartbeats 8000000 in
set_option maxRecDepth 100000 in
theorem c_X12_finding_2 (l : Launch) (g : kG) (sz : Nat) (z : Nat → Nat) (kp : Nat) (xs : Nat → Int32) : kMi l g yX12_finding cX12_finding 2 (some .int) 1 0 0 [.ref (z 0), .int 2] sz [(z 0, .inr (12, [.ref (z 1), .ref (z 2), .int (nI kp), .int (xs 0), .ref (z 3), .ref (z 4), .ref (z 5), .ref (z 6), .int (xs 1), .ref (z 7), .ref (z 8), .ref (z 9), .ref (z 10), .ref (z 11), .ref (z 12), .int (xs 2), .ref (z 13), .ref (z 14), .int (xs 3), .ref (z 15)]))] (fun (r : Int32) (u : Int32) => r = (-100002)) (fun (u : Int32) => ([(z 0, .inr (12, [.ref (z 1), .ref (z 2), .int (nI kp), .int u, .ref (z 3), .ref (z 4), .ref (z 5), .ref (z 6), .int (xs 1), .ref (z 7), .ref (z 8), .ref (z 9), .ref (z 10), .ref (z 11), .ref (z 12), .int (xs 2), .ref (z 13), .ref (z 14), .int (xs 3), .ref (z 15)]))] : va_W)) := by
  refine kMi.of (by decide) (Nat.le_of_ble_eq_true rfl) (fun p e s m below meth c A hx hb hr hml hown hts hlk hnm hKW hP hD hS hA ls hl => ?_)
  have hown : s.vm.findClass RX12 = some m.cls := hown
  have hl : lv_has ls 2 [(0, .ref (z 0)), (1, .int 2)] := hl
  refine k_hide hP hS (fun H locs hP hS => ?_)
  refine lv_aload_n hx hb dX12_finding_0 rfl (lv_at hl 0 rfl) ?_
  refine lv_dup hx hb dX12_finding_1 rfl ?_
  refine va_get (ci := 12) (C := RX12) (T := TX12) (N := 20) hx hb hts inlX12 hown hKW.1 hP 0 rfl rfl 3 (by decide) (hts _ wd_10_16) (fun _ h => h) rfl dX12_finding_2 ?_
  refine lv_iconst (v := 1) hx hb dX12_finding_5 (by decide) ?_
  refine lv_iadd hx hb dX12_finding_6 ?_
  refine lv_topi (fun x_1 ex_1 => ?_)
  refine va_put (ci := 12) (v := .int x_1) (C := RX12) (T := TX12) (N := 20) hx hb hts inlX12 tyX12 tyX12_ok nmX12 hown hKW.1 hP hD hS 0 rfl rfl 3 (by decide) (hts _ wd_10_16) (fun _ h => h) rfl (tyX12_ok 3 (by decide)) rfl rfl (Nat.le_of_ble_eq_true rfl) dX12_finding_7 (fun H locs hP hD hS => ?_)
  have hP : va_P g.1 vwCl [(z 0, .inr (12, [.ref (z 1), .ref (z 2), .int (nI kp), .int x_1, .ref (z 3), .ref (z 4), .ref (z 5), .ref (z 6), .int (xs 1), .ref (z 7), .ref (z 8), .ref (z 9), .ref (z 10), .ref (z 11), .ref (z 12), .int (xs 2), .ref (z 13), .ref (z 14), .int (xs 3), .ref (z 15)]))] H := hP
  have hD : va_D A [(z 0, .inr (12, [.ref (z 1), .ref (z 2), .int (nI kp), .int x_1, .ref (z 3), .ref (z 4), .ref (z 5), .ref (z 6), .int (xs 1), .ref (z 7), .ref (z 8), .ref (z 9), .ref (z 10), .ref (z 11), .ref (z 12), .int (xs 2), .ref (z 13), .ref (z 14), .int (xs 3), .ref (z 15)]))] := hD
  refine lv_ldc (v := (-100000)) hx hb hown (hts _ wd_10_17) dX12_finding_10 ?_
  refine lv_iload_n hx hb dX12_finding_12 rfl (lv_at hl 1 rfl) ?_
  refine lv_isub hx hb dX12_finding_13 ?_
  refine k_top (y := (-100002)) (by decide) ?_
  exact k_iret x_1 [0] hx hb hr hlk hP hD hS rfl rfl rfl rfl (Nat.le_of_ble_eq_true rfl) (Nat.le_of_ble_eq_true rfl) dX12_finding_14

set_option maxHeartbeats 8000000 in
set_option maxRecDepth 100000 in
theorem c_X12_finding_3 (l : Launch) (g : kG) (sz : Nat) (z : Nat → Nat) (kp : Nat) (xs : Nat → Int32) : kMi l g yX12_finding cX12_finding 2 (some .int) 1 0 0 [.ref (z 0), .int 3] sz [(z 0, .inr (12, [.ref (z 1), .ref (z 2), .int (nI kp), .int (xs 0), .ref (z 3), .ref (z 4), .ref (z 5), .ref (z 6), .int (xs 1), .ref (z 7), .ref (z 8), .ref (z 9), .ref (z 10), .ref (z 11), .ref (z 12), .int (xs 2), .ref (z 13), .ref (z 14), .int (xs 3), .ref (z 15)]))] (fun (r : Int32) (u : Int32) => r = (-100003)) (fun (u : Int32) => ([(z 0, .inr (12, [.ref (z 1), .ref (z 2), .int (nI kp), .int u, .ref (z 3), .ref (z 4), .ref (z 5), .ref (z 6), .int (xs 1), .ref (z 7), .ref (z 8), .ref (z 9), .ref (z 10), .ref (z 11), .ref (z 12), .int (xs 2), .ref (z 13), .ref (z 14), .int (xs 3), .ref (z 15)]))] : va_W)) := by
  refine kMi.of (by decide) (Nat.le_of_ble_eq_true rfl) (fun p e s m below meth c A hx hb hr hml hown hts hlk hnm hKW hP hD hS hA ls hl => ?_)
  have hown : s.vm.findClass RX12 = some m.cls := hown
  have hl : lv_has ls 2 [(0, .ref (z 0)), (1, .int 3)] := hl
  refine k_hide hP hS (fun H locs hP hS => ?_)
  refine lv_aload_n hx hb dX12_finding_0 rfl (lv_at hl 0 rfl) ?_
  refine lv_dup hx hb dX12_finding_1 rfl ?_
  refine va_get (ci := 12) (C := RX12) (T := TX12) (N := 20) hx hb hts inlX12 hown hKW.1 hP 0 rfl rfl 3 (by decide) (hts _ wd_10_16) (fun _ h => h) rfl dX12_finding_2 ?_
  refine lv_iconst (v := 1) hx hb dX12_finding_5 (by decide) ?_
  refine lv_iadd hx hb dX12_finding_6 ?_
  refine lv_topi (fun x_1 ex_1 => ?_)
  refine va_put (ci := 12) (v := .int x_1) (C := RX12) (T := TX12) (N := 20) hx hb hts inlX12 tyX12 tyX12_ok nmX12 hown hKW.1 hP hD hS 0 rfl rfl 3 (by decide) (hts _ wd_10_16) (fun _ h => h) rfl (tyX12_ok 3 (by decide)) rfl rfl (Nat.le_of_ble_eq_true rfl) dX12_finding_7 (fun H locs hP hD hS => ?_)
  have hP : va_P g.1 vwCl [(z 0, .inr (12, [.ref (z 1), .ref (z 2), .int (nI kp), .int x_1, .ref (z 3), .ref (z 4), .ref (z 5), .ref (z 6), .int (xs 1), .ref (z 7), .ref (z 8), .ref (z 9), .ref (z 10), .ref (z 11), .ref (z 12), .int (xs 2), .ref (z 13), .ref (z 14), .int (xs 3), .ref (z 15)]))] H := hP
  have hD : va_D A [(z 0, .inr (12, [.ref (z 1), .ref (z 2), .int (nI kp), .int x_1, .ref (z 3), .ref (z 4), .ref (z 5), .ref (z 6), .int (xs 1), .ref (z 7), .ref (z 8), .ref (z 9), .ref (z 10), .ref (z 11), .ref (z 12), .int (xs 2), .ref (z 13), .ref (z 14), .int (xs 3), .ref (z 15)]))] := hD
  refine lv_ldc (v := (-100000)) hx hb hown (hts _ wd_10_17) dX12_finding_10 ?_
  refine lv_iload_n hx hb dX12_finding_12 rfl (lv_at hl 1 rfl) ?_
  refine lv_isub hx hb dX12_finding_13 ?_
  refine k_top (y := (-100003)) (by decide) ?_
  exact k_iret x_1 [0] hx hb hr hlk hP hD hS rfl rfl rfl rfl (Nat.le_of_ble_eq_true rfl) (Nat.le_of_ble_eq_true rfl) dX12_finding_14

set_option maxHeartbeats 8000000 in
set_option maxRecDepth 100000 in
theorem c_X12_finding_4 (l : Launch) (g : kG) (sz : Nat) (z : Nat → Nat) (kp : Nat) (xs : Nat → Int32) : kMi l g yX12_finding cX12_finding 2 (some .int) 1 0 0 [.ref (z 0), .int 4] sz [(z 0, .inr (12, [.ref (z 1), .ref (z 2), .int (nI kp), .int (xs 0), .ref (z 3), .ref (z 4), .ref (z 5), .ref (z 6), .int (xs 1), .ref (z 7), .ref (z 8), .ref (z 9), .ref (z 10), .ref (z 11), .ref (z 12), .int (xs 2), .ref (z 13), .ref (z 14), .int (xs 3), .ref (z 15)]))] (fun (r : Int32) (u : Int32) => r = (-100004)) (fun (u : Int32) => ([(z 0, .inr (12, [.ref (z 1), .ref (z 2), .int (nI kp), .int u, .ref (z 3), .ref (z 4), .ref (z 5), .ref (z 6), .int (xs 1), .ref (z 7), .ref (z 8), .ref (z 9), .ref (z 10), .ref (z 11), .ref (z 12), .int (xs 2), .ref (z 13), .ref (z 14), .int (xs 3), .ref (z 15)]))] : va_W)) := by
  refine kMi.of (by decide) (Nat.le_of_ble_eq_true rfl) (fun p e s m below meth c A hx hb hr hml hown hts hlk hnm hKW hP hD hS hA ls hl => ?_)
  have hown : s.vm.findClass RX12 = some m.cls := hown
  have hl : lv_has ls 2 [(0, .ref (z 0)), (1, .int 4)] := hl
  refine k_hide hP hS (fun H locs hP hS => ?_)
  refine lv_aload_n hx hb dX12_finding_0 rfl (lv_at hl 0 rfl) ?_
  refine lv_dup hx hb dX12_finding_1 rfl ?_
  refine va_get (ci := 12) (C := RX12) (T := TX12) (N := 20) hx hb hts inlX12 hown hKW.1 hP 0 rfl rfl 3 (by decide) (hts _ wd_10_16) (fun _ h => h) rfl dX12_finding_2 ?_
  refine lv_iconst (v := 1) hx hb dX12_finding_5 (by decide) ?_
  refine lv_iadd hx hb dX12_finding_6 ?_
  refine lv_topi (fun x_1 ex_1 => ?_)
  refine va_put (ci := 12) (v := .int x_1) (C := RX12) (T := TX12) (N := 20) hx hb hts inlX12 tyX12 tyX12_ok nmX12 hown hKW.1 hP hD hS 0 rfl rfl 3 (by decide) (hts _ wd_10_16) (fun _ h => h) rfl (tyX12_ok 3 (by decide)) rfl rfl (Nat.le_of_ble_eq_true rfl) dX12_finding_7 (fun H locs hP hD hS => ?_)
  have hP : va_P g.1 vwCl [(z 0, .inr (12, [.ref (z 1), .ref (z 2), .int (nI kp), .int x_1, .ref (z 3), .ref (z 4), .ref (z 5), .ref (z 6), .int (xs 1), .ref (z 7), .ref (z 8), .ref (z 9), .ref (z 10), .ref (z 11), .ref (z 12), .int (xs 2), .ref (z 13), .ref (z 14), .int (xs 3), .ref (z 15)]))] H := hP
  have hD : va_D A [(z 0, .inr (12, [.ref (z 1), .ref (z 2), .int (nI kp), .int x_1, .ref (z 3), .ref (z 4), .ref (z 5), .ref (z 6), .int (xs 1), .ref (z 7), .ref (z 8), .ref (z 9), .ref (z 10), .ref (z 11), .ref (z 12), .int (xs 2), .ref (z 13), .ref (z 14), .int (xs 3), .ref (z 15)]))] := hD
  refine lv_ldc (v := (-100000)) hx hb hown (hts _ wd_10_17) dX12_finding_10 ?_
  refine lv_iload_n hx hb dX12_finding_12 rfl (lv_at hl 1 rfl) ?_
  refine lv_isub hx hb dX12_finding_13 ?_
  refine k_top (y := (-100004)) (by decide) ?_
  exact k_iret x_1 [0] hx hb hr hlk hP hD hS rfl rfl rfl rfl (Nat.le_of_ble_eq_true rfl) (Nat.le_of_ble_eq_true rfl) dX12_finding_14

set_option maxHeartbeats 8000000 in
set_option maxRecDepth 100000 in
theorem c_X12_finding_5 (l : Launch) (g : kG) (sz : Nat) (z : Nat → Nat) (kp : Nat) (xs : Nat → Int32) : kMi l g yX12_finding cX12_finding 2 (some .int) 1 0 0 [.ref (z 0), .int 5] sz [(z 0, .inr (12, [.ref (z 1), .ref (z 2), .int (nI kp), .int (xs 0), .ref (z 3), .ref (z 4), .ref (z 5), .ref (z 6), .int (xs 1), .ref (z 7), .ref (z 8), .ref (z 9), .ref (z 10), .ref (z 11), .ref (z 12), .int (xs 2), .ref (z 13), .ref (z 14), .int (xs 3), .ref (z 15)]))] (fun (r : Int32) (u : Int32) => r = (-100005)) (fun (u : Int32) => ([(z 0, .inr (12, [.ref (z 1), .ref (z 2), .int (nI kp), .int u, .ref (z 3), .ref (z 4), .ref (z 5), .ref (z 6), .int (xs 1), .ref (z 7), .ref (z 8), .ref (z 9), .ref (z 10), .ref (z 11), .ref (z 12), .int (xs 2), .ref (z 13), .ref (z 14), .int (xs 3), .ref (z 15)]))] : va_W)) := by
  refine kMi.of (by decide) (Nat.le_of_ble_eq_true rfl) (fun p e s m below meth c A hx hb hr hml hown hts hlk hnm hKW hP hD hS hA ls hl => ?_)
  have hown : s.vm.findClass RX12 = some m.cls := hown
  have hl : lv_has ls 2 [(0, .ref (z 0)), (1, .int 5)] := hl
  refine k_hide hP hS (fun H locs hP hS => ?_)
  refine lv_aload_n hx hb dX12_finding_0 rfl (lv_at hl 0 rfl) ?_
  refine lv_dup hx hb dX12_finding_1 rfl ?_
  refine va_get (ci := 12) (C := RX12) (T := TX12) (N := 20) hx hb hts inlX12 hown hKW.1 hP 0 rfl rfl 3 (by decide) (hts _ wd_10_16) (fun _ h => h) rfl dX12_finding_2 ?_
  refine lv_iconst (v := 1) hx hb dX12_finding_5 (by decide) ?_
  refine lv_iadd hx hb dX12_finding_6 ?_
  refine lv_topi (fun x_1 ex_1 => ?_)
  refine va_put (ci := 12) (v := .int x_1) (C := RX12) (T := TX12) (N := 20) hx hb hts inlX12 tyX12 tyX12_ok nmX12 hown hKW.1 hP hD hS 0 rfl rfl 3 (by decide) (hts _ wd_10_16) (fun _ h => h) rfl (tyX12_ok 3 (by decide)) rfl rfl (Nat.le_of_ble_eq_true rfl) dX12_finding_7 (fun H locs hP hD hS => ?_)
  have hP : va_P g.1 vwCl [(z 0, .inr (12, [.ref (z 1), .ref (z 2), .int (nI kp), .int x_1, .ref (z 3), .ref (z 4), .ref (z 5), .ref (z 6), .int (xs 1), .ref (z 7), .ref (z 8), .ref (z 9), .ref (z 10), .ref (z 11), .ref (z 12), .int (xs 2), .ref (z 13), .ref (z 14), .int (xs 3), .ref (z 15)]))] H := hP
  have hD : va_D A [(z 0, .inr (12, [.ref (z 1), .ref (z 2), .int (nI kp), .int x_1, .ref (z 3), .ref (z 4), .ref (z 5), .ref (z 6), .int (xs 1), .ref (z 7), .ref (z 8), .ref (z 9), .ref (z 10), .ref (z 11), .ref (z 12), .int (xs 2), .ref (z 13), .ref (z 14), .int (xs 3), .ref (z 15)]))] := hD
  refine lv_ldc (v := (-100000)) hx hb hown (hts _ wd_10_17) dX12_finding_10 ?_
  refine lv_iload_n hx hb dX12_finding_12 rfl (lv_at hl 1 rfl) ?_
  refine lv_isub hx hb dX12_finding_13 ?_
  refine k_top (y := (-100005)) (by decide) ?_
  exact k_iret x_1 [0] hx hb hr hlk hP hD hS rfl rfl rfl rfl (Nat.le_of_ble_eq_true rfl) (Nat.le_of_ble_eq_true rfl) dX12_finding_14

set_option maxHeartbeats 8000000 in
set_option maxRecDepth 100000 in
theorem c_X12_finding_6 (l : Launch) (g : kG) (sz : Nat) (z : Nat → Nat) (kp : Nat) (xs : Nat → Int32) : kMi l g yX12_finding cX12_finding 2 (some .int) 1 0 0 [.ref (z 0), .int 6] sz [(z 0, .inr (12, [.ref (z 1), .ref (z 2), .int (nI kp), .int (xs 0), .ref (z 3), .ref (z 4), .ref (z 5), .ref (z 6), .int (xs 1), .ref (z 7), .ref (z 8), .ref (z 9), .ref (z 10), .ref (z 11), .ref (z 12), .int (xs 2), .ref (z 13), .ref (z 14), .int (xs 3), .ref (z 15)]))] (fun (r : Int32) (u : Int32) => r = (-100006)) (fun (u : Int32) => ([(z 0, .inr (12, [.ref (z 1), .ref (z 2), .int (nI kp), .int u, .ref (z 3), .ref (z 4), .ref (z 5), .ref (z 6), .int (xs 1), .ref (z 7), .ref (z 8), .ref (z 9), .ref (z 10), .ref (z 11), .ref (z 12), .int (xs 2), .ref (z 13), .ref (z 14), .int (xs 3), .ref (z 15)]))] : va_W)) := by
  refine kMi.of (by decide) (Nat.le_of_ble_eq_true rfl) (fun p e s m below meth c A hx hb hr hml hown hts hlk hnm hKW hP hD hS hA ls hl => ?_)
  have hown : s.vm.findClass RX12 = some m.cls := hown
  have hl : lv_has ls 2 [(0, .ref (z 0)), (1, .int 6)] := hl
  refine k_hide hP hS (fun H locs hP hS => ?_)
  refine lv_aload_n hx hb dX12_finding_0 rfl (lv_at hl 0 rfl) ?_
  refine lv_dup hx hb dX12_finding_1 rfl ?_
  refine va_get (ci := 12) (C := RX12) (T := TX12) (N := 20) hx hb hts inlX12 hown hKW.1 hP 0 rfl rfl 3 (by decide) (hts _ wd_10_16) (fun _ h => h) rfl dX12_finding_2 ?_
  refine lv_iconst (v := 1) hx hb dX12_finding_5 (by decide) ?_
  refine lv_iadd hx hb dX12_finding_6 ?_
  refine lv_topi (fun x_1 ex_1 => ?_)
  refine va_put (ci := 12) (v := .int x_1) (C := RX12) (T := TX12) (N := 20) hx hb hts inlX12 tyX12 tyX12_ok nmX12 hown hKW.1 hP hD hS 0 rfl rfl 3 (by decide) (hts _ wd_10_16) (fun _ h => h) rfl (tyX12_ok 3 (by decide)) rfl rfl (Nat.le_of_ble_eq_true rfl) dX12_finding_7 (fun H locs hP hD hS => ?_)
  have hP : va_P g.1 vwCl [(z 0, .inr (12, [.ref (z 1), .ref (z 2), .int (nI kp), .int x_1, .ref (z 3), .ref (z 4), .ref (z 5), .ref (z 6), .int (xs 1), .ref (z 7), .ref (z 8), .ref (z 9), .ref (z 10), .ref (z 11), .ref (z 12), .int (xs 2), .ref (z 13), .ref (z 14), .int (xs 3), .ref (z 15)]))] H := hP
  have hD : va_D A [(z 0, .inr (12, [.ref (z 1), .ref (z 2), .int (nI kp), .int x_1, .ref (z 3), .ref (z 4), .ref (z 5), .ref (z 6), .int (xs 1), .ref (z 7), .ref (z 8), .ref (z 9), .ref (z 10), .ref (z 11), .ref (z 12), .int (xs 2), .ref (z 13), .ref (z 14), .int (xs 3), .ref (z 15)]))] := hD
  refine lv_ldc (v := (-100000)) hx hb hown (hts _ wd_10_17) dX12_finding_10 ?_
  refine lv_iload_n hx hb dX12_finding_12 rfl (lv_at hl 1 rfl) ?_
  refine lv_isub hx hb dX12_finding_13 ?_
  refine k_top (y := (-100006)) (by decide) ?_
  exact k_iret x_1 [0] hx hb hr hlk hP hD hS rfl rfl rfl rfl (Nat.le_of_ble_eq_true rfl) (Nat.le_of_ble_eq_true rfl) dX12_finding_14

set_option maxHeartbeats 8000000 in
set_option maxRecDepth 100000 in
theorem c_X12_finding_7 (l : Launch) (g : kG) (sz : Nat) (z : Nat → Nat) (kp : Nat) (xs : Nat → Int32) : kMi l g yX12_finding cX12_finding 2 (some .int) 1 0 0 [.ref (z 0), .int 7] sz [(z 0, .inr (12, [.ref (z 1), .ref (z 2), .int (nI kp), .int (xs 0), .ref (z 3), .ref (z 4), .ref (z 5), .ref (z 6), .int (xs 1), .ref (z 7), .ref (z 8), .ref (z 9), .ref (z 10), .ref (z 11), .ref (z 12), .int (xs 2), .ref (z 13), .ref (z 14), .int (xs 3), .ref (z 15)]))] (fun (r : Int32) (u : Int32) => r = (-100007)) (fun (u : Int32) => ([(z 0, .inr (12, [.ref (z 1), .ref (z 2), .int (nI kp), .int u, .ref (z 3), .ref (z 4), .ref (z 5), .ref (z 6), .int (xs 1), .ref (z 7), .ref (z 8), .ref (z 9), .ref (z 10), .ref (z 11), .ref (z 12), .int (xs 2), .ref (z 13), .ref (z 14), .int (xs 3), .ref (z 15)]))] : va_W)) := by
  refine kMi.of (by decide) (Nat.le_of_ble_eq_true rfl) (fun p e s m below meth c A hx hb hr hml hown hts hlk hnm hKW hP hD hS hA ls hl => ?_)
  have hown : s.vm.findClass RX12 = some m.cls := hown
  have hl : lv_has ls 2 [(0, .ref (z 0)), (1, .int 7)] := hl
  refine k_hide hP hS (fun H locs hP hS => ?_)
  refine lv_aload_n hx hb dX12_finding_0 rfl (lv_at hl 0 rfl) ?_
  refine lv_dup hx hb dX12_finding_1 rfl ?_
  refine va_get (ci := 12) (C := RX12) (T := TX12) (N := 20) hx hb hts inlX12 hown hKW.1 hP 0 rfl rfl 3 (by decide) (hts _ wd_10_16) (fun _ h => h) rfl dX12_finding_2 ?_
  refine lv_iconst (v := 1) hx hb dX12_finding_5 (by decide) ?_
  refine lv_iadd hx hb dX12_finding_6 ?_
  refine lv_topi (fun x_1 ex_1 => ?_)
  refine va_put (ci := 12) (v := .int x_1) (C := RX12) (T := TX12) (N := 20) hx hb hts inlX12 tyX12 tyX12_ok nmX12 hown hKW.1 hP hD hS 0 rfl rfl 3 (by decide) (hts _ wd_10_16) (fun _ h => h) rfl (tyX12_ok 3 (by decide)) rfl rfl (Nat.le_of_ble_eq_true rfl) dX12_finding_7 (fun H locs hP hD hS => ?_)
  have hP : va_P g.1 vwCl [(z 0, .inr (12, [.ref (z 1), .ref (z 2), .int (nI kp), .int x_1, .ref (z 3), .ref (z 4), .ref (z 5), .ref (z 6), .int (xs 1), .ref (z 7), .ref (z 8), .ref (z 9), .ref (z 10), .ref (z 11), .ref (z 12), .int (xs 2), .ref (z 13), .ref (z 14), .int (xs 3), .ref (z 15)]))] H := hP
  have hD : va_D A [(z 0, .inr (12, [.ref (z 1), .ref (z 2), .int (nI kp), .int x_1, .ref (z 3), .ref (z 4), .ref (z 5), .ref (z 6), .int (xs 1), .ref (z 7), .ref (z 8), .ref (z 9), .ref (z 10), .ref (z 11), .ref (z 12), .int (xs 2), .ref (z 13), .ref (z 14), .int (xs 3), .ref (z 15)]))] := hD
  refine lv_ldc (v := (-100000)) hx hb hown (hts _ wd_10_17) dX12_finding_10 ?_
  refine lv_iload_n hx hb dX12_finding_12 rfl (lv_at hl 1 rfl) ?_
  refine lv_isub hx hb dX12_finding_13 ?_
  refine k_top (y := (-100007)) (by decide) ?_
  exact k_iret x_1 [0] hx hb hr hlk hP hD hS rfl rfl rfl rfl (Nat.le_of_ble_eq_true rfl) (Nat.le_of_ble_eq_true rfl) dX12_finding_14

set_option maxHeartbeats 8000000 in
set_option maxRecDepth 100000 in
theorem c_X12_finding_8 (l : Launch) (g : kG) (sz : Nat) (z : Nat → Nat) (kp : Nat) (xs : Nat → Int32) : kMi l g yX12_finding cX12_finding 2 (some .int) 1 0 0 [.ref (z 0), .int 8] sz [(z 0, .inr (12, [.ref (z 1), .ref (z 2), .int (nI kp), .int (xs 0), .ref (z 3), .ref (z 4), .ref (z 5), .ref (z 6), .int (xs 1), .ref (z 7), .ref (z 8), .ref (z 9), .ref (z 10), .ref (z 11), .ref (z 12), .int (xs 2), .ref (z 13), .ref (z 14), .int (xs 3), .ref (z 15)]))] (fun (r : Int32) (u : Int32) => r = (-100008)) (fun (u : Int32) => ([(z 0, .inr (12, [.ref (z 1), .ref (z 2), .int (nI kp), .int u, .ref (z 3), .ref (z 4), .ref (z 5), .ref (z 6), .int (xs 1), .ref (z 7), .ref (z 8), .ref (z 9), .ref (z 10), .ref (z 11), .ref (z 12), .int (xs 2), .ref (z 13), .ref (z 14), .int (xs 3), .ref (z 15)]))] : va_W)) := by
  refine kMi.of (by decide) (Nat.le_of_ble_eq_true rfl) (fun p e s m below meth c A hx hb hr hml hown hts hlk hnm hKW hP hD hS hA ls hl => ?_)
  have hown : s.vm.findClass RX12 = some m.cls := hown
  have hl : lv_has ls 2 [(0, .ref (z 0)), (1, .int 8)] := hl
  refine k_hide hP hS (fun H locs hP hS => ?_)
  refine lv_aload_n hx hb dX12_finding_0 rfl (lv_at hl 0 rfl) ?_
  refine lv_dup hx hb dX12_finding_1 rfl ?_
  refine va_get (ci := 12) (C := RX12) (T := TX12) (N := 20) hx hb hts inlX12 hown hKW.1 hP 0 rfl rfl 3 (by decide) (hts _ wd_10_16) (fun _ h => h) rfl dX12_finding_2 ?_
  refine lv_iconst (v := 1) hx hb dX12_finding_5 (by decide) ?_
  refine lv_iadd hx hb dX12_finding_6 ?_
  refine lv_topi (fun x_1 ex_1 => ?_)
  refine va_put (ci := 12) (v := .int x_1) (C := RX12) (T := TX12) (N := 20) hx hb hts inlX12 tyX12 tyX12_ok nmX12 hown hKW.1 hP hD hS 0 rfl rfl 3 (by decide) (hts _ wd_10_16) (fun _ h => h) rfl (tyX12_ok 3 (by decide)) rfl rfl (Nat.le_of_ble_eq_true rfl) dX12_finding_7 (fun H locs hP hD hS => ?_)
  have hP : va_P g.1 vwCl [(z 0, .inr (12, [.ref (z 1), .ref (z 2), .int (nI kp), .int x_1, .ref (z 3), .ref (z 4), .ref (z 5), .ref (z 6), .int (xs 1), .ref (z 7), .ref (z 8), .ref (z 9), .ref (z 10), .ref (z 11), .ref (z 12), .int (xs 2), .ref (z 13), .ref (z 14), .int (xs 3), .ref (z 15)]))] H := hP
  have hD : va_D A [(z 0, .inr (12, [.ref (z 1), .ref (z 2), .int (nI kp), .int x_1, .ref (z 3), .ref (z 4), .ref (z 5), .ref (z 6), .int (xs 1), .ref (z 7), .ref (z 8), .ref (z 9), .ref (z 10), .ref (z 11), .ref (z 12), .int (xs 2), .ref (z 13), .ref (z 14), .int (xs 3), .ref (z 15)]))] := hD
  refine lv_ldc (v := (-100000)) hx hb hown (hts _ wd_10_17) dX12_finding_10 ?_
  refine lv_iload_n hx hb dX12_finding_12 rfl (lv_at hl 1 rfl) ?_
  refine lv_isub hx hb dX12_finding_13 ?_
  refine k_top (y := (-100008)) (by decide) ?_
  exact k_iret x_1 [0] hx hb hr hlk hP hD hS rfl rfl rfl rfl (Nat.le_of_ble_eq_true rfl) (Nat.le_of_ble_eq_true rfl) dX12_finding_14
theorem dX12_isRoom_0 : decode cX12_isRoom 0 = .ok (.iload_n 1, 1) := by decide +kernel
theorem dX12_isRoom_1 : decode cX12_isRoom 1 = .ok (.iconst 0, 1) := by decide +kernel
theorem dX12_isRoom_2 : decode cX12_isRoom 2 = .ok (.aload_n 0, 1) := by decide +kernel
theorem dX12_isRoom_3 : decode cX12_isRoom 3 = .ok (.getfield 7, 3) := by decide +kernel
theorem dX12_isRoom_6 : decode cX12_isRoom 6 = .ok (.iconst 0, 1) := by decide +kernel
theorem dX12_isRoom_7 : decode cX12_isRoom 7 = .ok (.iaload, 1) := by decide +kernel
theorem dX12_isRoom_8 : decode cX12_isRoom 8 = .ok (.iconst 1, 1) := by decide +kernel
theorem dX12_isRoom_9 : decode cX12_isRoom 9 = .ok (.isub, 1) := by decide +kernel
theorem dX12_isRoom_10 : decode cX12_isRoom 10 = .ok (.invokestatic 64, 3) := by decide +kernel
theorem dX12_isRoom_13 : decode cX12_isRoom 13 = .ok (.ireturn, 1) := by decide +kernel
set_option maxHeartbeats 8000000 in
set_option maxRecDepth 100000 in
theorem c_X12_isRoom (l : Launch) (g : kG) (sz : Nat) (z : Nat → Nat) (kp : Nat) (xs : Nat → Int32) (D : Nat → Int32) (v : Int32) (hDI : DI D) : kMi l g yX12_isRoom cX12_isRoom 2 (some .boolean) 2 0 0 [.ref (z 0), .int v] sz [(z 0, .inr (12, [.ref (z 1), .ref (z 2), .int (nI kp), .int (xs 0), .ref (z 3), .ref (z 4), .ref (z 5), .ref (z 6), .int (xs 1), .ref (z 7), .ref (z 8), .ref (z 9), .ref (z 10), .ref (z 11), .ref (z 12), .int (xs 2), .ref (z 13), .ref (z 14), .int (xs 3), .ref (z 15)])), (z 1, .inl (gI g, 461, .inl D))] (fun (r : Int32) (u : Unit) => (r = 1 ∧ (∃ j : Nat, (j < 5 ∧ (j : Int) < (D 0).toInt) ∧ v = nI j)) ∨ (r = 0 ∧ ¬ (∃ j : Nat, (j < 5 ∧ (j : Int) < (D 0).toInt) ∧ v = nI j))) (fun (u : Unit) => ([(z 0, .inr (12, [.ref (z 1), .ref (z 2), .int (nI kp), .int (xs 0), .ref (z 3), .ref (z 4), .ref (z 5), .ref (z 6), .int (xs 1), .ref (z 7), .ref (z 8), .ref (z 9), .ref (z 10), .ref (z 11), .ref (z 12), .int (xs 2), .ref (z 13), .ref (z 14), .int (xs 3), .ref (z 15)])), (z 1, .inl (gI g, 461, .inl D))] : va_W)) := by
  refine kMi.of (by decide) (Nat.le_of_ble_eq_true rfl) (fun p e s m below meth c A hx hb hr hml hown hts hlk hnm hKW hP hD hS hA ls hl => ?_)
  have hown : s.vm.findClass RX12 = some m.cls := hown
  have hl : lv_has ls 2 [(0, .ref (z 0)), (1, .int v)] := hl
  refine k_hide hP hS (fun H locs hP hS => ?_)
  refine lv_iload_n hx hb dX12_isRoom_0 rfl (lv_at hl 1 rfl) ?_
  refine lv_iconst (v := 0) hx hb dX12_isRoom_1 (by decide) ?_
  refine lv_aload_n hx hb dX12_isRoom_2 rfl (lv_at hl 0 rfl) ?_
  refine va_get (ci := 12) (C := RX12) (T := TX12) (N := 20) hx hb hts inlX12 hown hKW.1 hP 0 rfl rfl 0 (by decide) (hts _ wd_6_5) (fun _ h => h) rfl dX12_isRoom_3 ?_
  refine lv_iconst (v := 0) hx hb dX12_isRoom_6 (by decide) ?_
  obtain ⟨dk_1, hdk_1a, hdk_1b, edk_1⟩ := DI.n0 hDI
  refine va_iald hx hb hKW.1 hP 1 0 rfl rfl (show ¬ _ by decide) dX12_isRoom_7 ?_
  refine k_top (y := nI dk_1) edk_1 ?_
  refine lv_iconst (v := 1) hx hb dX12_isRoom_8 (by decide) ?_
  refine lv_isub hx hb dX12_isRoom_9 ?_
  refine lv_topi (fun x_2 ex_2 => ?_)
  refine k_Si [] [0, 1] (wr := [(z 0, .inr (12, [.ref (z 1), .ref (z 2), .int (nI kp), .int (xs 0), .ref (z 3), .ref (z 4), .ref (z 5), .ref (z 6), .int (xs 1), .ref (z 7), .ref (z 8), .ref (z 9), .ref (z 10), .ref (z 11), .ref (z 12), .int (xs 2), .ref (z 13), .ref (z 14), .int (xs 3), .ref (z 15)])), (z 1, .inl (gI g, 461, .inl D))]) hx hb hml hown hts hKW hP hD hS hA hl.1 (c_X12_isIn l g _ v 0 x_2 ) wd_10_11 wd_1_5 wd_10_9 wd_10_10 yd_X12_isIn ⟨(Nat.le_of_ble_eq_true rfl), (Nat.le_of_ble_eq_true rfl)⟩ rfl rfl rfl rfl (by decide) rfl (Nat.le_of_ble_eq_true rfl) dX12_isRoom_10 ⟨(Nat.le_of_ble_eq_true rfl), (Nat.le_of_ble_eq_true rfl)⟩ (fun r_3 u_4 H locs hw_5 hP hD hS => ?_)
  have hP : va_P g.1 vwCl [(z 0, .inr (12, [.ref (z 1), .ref (z 2), .int (nI kp), .int (xs 0), .ref (z 3), .ref (z 4), .ref (z 5), .ref (z 6), .int (xs 1), .ref (z 7), .ref (z 8), .ref (z 9), .ref (z 10), .ref (z 11), .ref (z 12), .int (xs 2), .ref (z 13), .ref (z 14), .int (xs 3), .ref (z 15)])), (z 1, .inl (gI g, 461, .inl D))] H := hP
  have hD : va_D A [(z 0, .inr (12, [.ref (z 1), .ref (z 2), .int (nI kp), .int (xs 0), .ref (z 3), .ref (z 4), .ref (z 5), .ref (z 6), .int (xs 1), .ref (z 7), .ref (z 8), .ref (z 9), .ref (z 10), .ref (z 11), .ref (z 12), .int (xs 2), .ref (z 13), .ref (z 14), .int (xs 3), .ref (z 15)])), (z 1, .inl (gI g, 461, .inl D))] := hD
  rcases (show (r_3 = 1 ∧ (Int32.toInt 0 ≤ Int32.toInt v ∧ Int32.toInt v ≤ Int32.toInt x_2)) ∨ (r_3 = 0 ∧ ¬ (Int32.toInt 0 ≤ Int32.toInt v ∧ Int32.toInt v ≤ Int32.toInt x_2)) from hw_5) with ⟨rfl, hw_5b⟩ | ⟨rfl, hw_5b⟩ <;> clear hw_5
  · exact k_zret () [0, 1] hx hb hr hlk hP hD hS (Or.inl ⟨rfl, k_is1 (by decide) edk_1 hdk_1b ex_2 hw_5b⟩) rfl rfl rfl rfl (Nat.le_of_ble_eq_true rfl) (Nat.le_of_ble_eq_true rfl) dX12_isRoom_13
  · exact k_zret () [0, 1] hx hb hr hlk hP hD hS (Or.inr ⟨rfl, k_is0 (by decide) edk_1 hdk_1b ex_2 hw_5b⟩) rfl rfl rfl rfl (Nat.le_of_ble_eq_true rfl) (Nat.le_of_ble_eq_true rfl) dX12_isRoom_13
theorem dX12_isHand_0 : decode cX12_isHand 0 = .ok (.iload_n 1, 1) := by decide +kernel
theorem dX12_isHand_1 : decode cX12_isHand 1 = .ok (.iconst 0, 1) := by decide +kernel
theorem dX12_isHand_2 : decode cX12_isHand 2 = .ok (.aload_n 0, 1) := by decide +kernel
theorem dX12_isHand_3 : decode cX12_isHand 3 = .ok (.getfield 7, 3) := by decide +kernel
theorem dX12_isHand_6 : decode cX12_isHand 6 = .ok (.iconst 1, 1) := by decide +kernel
theorem dX12_isHand_7 : decode cX12_isHand 7 = .ok (.iaload, 1) := by decide +kernel
theorem dX12_isHand_8 : decode cX12_isHand 8 = .ok (.iconst 1, 1) := by decide +kernel
theorem dX12_isHand_9 : decode cX12_isHand 9 = .ok (.isub, 1) := by decide +kernel
theorem dX12_isHand_10 : decode cX12_isHand 10 = .ok (.invokestatic 64, 3) := by decide +kernel
theorem dX12_isHand_13 : decode cX12_isHand 13 = .ok (.ireturn, 1) := by decide +kernel
set_option maxHeartbeats 8000000 in
set_option maxRecDepth 100000 in
theorem c_X12_isHand (l : Launch) (g : kG) (sz : Nat) (z : Nat → Nat) (kp : Nat) (xs : Nat → Int32) (D : Nat → Int32) (v : Int32) (hDI : DI D) : kMi l g yX12_isHand cX12_isHand 2 (some .boolean) 2 0 0 [.ref (z 0), .int v] sz [(z 0, .inr (12, [.ref (z 1), .ref (z 2), .int (nI kp), .int (xs 0), .ref (z 3), .ref (z 4), .ref (z 5), .ref (z 6), .int (xs 1), .ref (z 7), .ref (z 8), .ref (z 9), .ref (z 10), .ref (z 11), .ref (z 12), .int (xs 2), .ref (z 13), .ref (z 14), .int (xs 3), .ref (z 15)])), (z 1, .inl (gI g, 461, .inl D))] (fun (r : Int32) (u : Unit) => (r = 1 ∧ (∃ j : Nat, (j < 7 ∧ (j : Int) < (D 1).toInt) ∧ v = nI j)) ∨ (r = 0 ∧ ¬ (∃ j : Nat, (j < 7 ∧ (j : Int) < (D 1).toInt) ∧ v = nI j))) (fun (u : Unit) => ([(z 0, .inr (12, [.ref (z 1), .ref (z 2), .int (nI kp), .int (xs 0), .ref (z 3), .ref (z 4), .ref (z 5), .ref (z 6), .int (xs 1), .ref (z 7), .ref (z 8), .ref (z 9), .ref (z 10), .ref (z 11), .ref (z 12), .int (xs 2), .ref (z 13), .ref (z 14), .int (xs 3), .ref (z 15)])), (z 1, .inl (gI g, 461, .inl D))] : va_W)) := by
  refine kMi.of (by decide) (Nat.le_of_ble_eq_true rfl) (fun p e s m below meth c A hx hb hr hml hown hts hlk hnm hKW hP hD hS hA ls hl => ?_)
  have hown : s.vm.findClass RX12 = some m.cls := hown
  have hl : lv_has ls 2 [(0, .ref (z 0)), (1, .int v)] := hl
  refine k_hide hP hS (fun H locs hP hS => ?_)
  refine lv_iload_n hx hb dX12_isHand_0 rfl (lv_at hl 1 rfl) ?_
  refine lv_iconst (v := 0) hx hb dX12_isHand_1 (by decide) ?_
  refine lv_aload_n hx hb dX12_isHand_2 rfl (lv_at hl 0 rfl) ?_
  refine va_get (ci := 12) (C := RX12) (T := TX12) (N := 20) hx hb hts inlX12 hown hKW.1 hP 0 rfl rfl 0 (by decide) (hts _ wd_6_5) (fun _ h => h) rfl dX12_isHand_3 ?_
  refine lv_iconst (v := 1) hx hb dX12_isHand_6 (by decide) ?_
  obtain ⟨dk_1, hdk_1a, hdk_1b, edk_1⟩ := DI.n1 hDI
  refine va_iald hx hb hKW.1 hP 1 0 rfl rfl (show ¬ _ by decide) dX12_isHand_7 ?_
  refine k_top (y := nI dk_1) edk_1 ?_
  refine lv_iconst (v := 1) hx hb dX12_isHand_8 (by decide) ?_
  refine lv_isub hx hb dX12_isHand_9 ?_
  refine lv_topi (fun x_2 ex_2 => ?_)
  refine k_Si [] [0, 1] (wr := [(z 0, .inr (12, [.ref (z 1), .ref (z 2), .int (nI kp), .int (xs 0), .ref (z 3), .ref (z 4), .ref (z 5), .ref (z 6), .int (xs 1), .ref (z 7), .ref (z 8), .ref (z 9), .ref (z 10), .ref (z 11), .ref (z 12), .int (xs 2), .ref (z 13), .ref (z 14), .int (xs 3), .ref (z 15)])), (z 1, .inl (gI g, 461, .inl D))]) hx hb hml hown hts hKW hP hD hS hA hl.1 (c_X12_isIn l g _ v 0 x_2 ) wd_10_11 wd_1_5 wd_10_9 wd_10_10 yd_X12_isIn ⟨(Nat.le_of_ble_eq_true rfl), (Nat.le_of_ble_eq_true rfl)⟩ rfl rfl rfl rfl (by decide) rfl (Nat.le_of_ble_eq_true rfl) dX12_isHand_10 ⟨(Nat.le_of_ble_eq_true rfl), (Nat.le_of_ble_eq_true rfl)⟩ (fun r_3 u_4 H locs hw_5 hP hD hS => ?_)
  have hP : va_P g.1 vwCl [(z 0, .inr (12, [.ref (z 1), .ref (z 2), .int (nI kp), .int (xs 0), .ref (z 3), .ref (z 4), .ref (z 5), .ref (z 6), .int (xs 1), .ref (z 7), .ref (z 8), .ref (z 9), .ref (z 10), .ref (z 11), .ref (z 12), .int (xs 2), .ref (z 13), .ref (z 14), .int (xs 3), .ref (z 15)])), (z 1, .inl (gI g, 461, .inl D))] H := hP
  have hD : va_D A [(z 0, .inr (12, [.ref (z 1), .ref (z 2), .int (nI kp), .int (xs 0), .ref (z 3), .ref (z 4), .ref (z 5), .ref (z 6), .int (xs 1), .ref (z 7), .ref (z 8), .ref (z 9), .ref (z 10), .ref (z 11), .ref (z 12), .int (xs 2), .ref (z 13), .ref (z 14), .int (xs 3), .ref (z 15)])), (z 1, .inl (gI g, 461, .inl D))] := hD
  rcases (show (r_3 = 1 ∧ (Int32.toInt 0 ≤ Int32.toInt v ∧ Int32.toInt v ≤ Int32.toInt x_2)) ∨ (r_3 = 0 ∧ ¬ (Int32.toInt 0 ≤ Int32.toInt v ∧ Int32.toInt v ≤ Int32.toInt x_2)) from hw_5) with ⟨rfl, hw_5b⟩ | ⟨rfl, hw_5b⟩ <;> clear hw_5
  · exact k_zret () [0, 1] hx hb hr hlk hP hD hS (Or.inl ⟨rfl, k_is1 (by decide) edk_1 hdk_1b ex_2 hw_5b⟩) rfl rfl rfl rfl (Nat.le_of_ble_eq_true rfl) (Nat.le_of_ble_eq_true rfl) dX12_isHand_13
  · exact k_zret () [0, 1] hx hb hr hlk hP hD hS (Or.inr ⟨rfl, k_is0 (by decide) edk_1 hdk_1b ex_2 hw_5b⟩) rfl rfl rfl rfl (Nat.le_of_ble_eq_true rfl) (Nat.le_of_ble_eq_true rfl) dX12_isHand_13
theorem dX12_isChild_0 : decode cX12_isChild 0 = .ok (.iload_n 1, 1) := by decide +kernel
theorem dX12_isChild_1 : decode cX12_isChild 1 = .ok (.iconst 0, 1) := by decide +kernel
theorem dX12_isChild_2 : decode cX12_isChild 2 = .ok (.aload_n 0, 1) := by decide +kernel
theorem dX12_isChild_3 : decode cX12_isChild 3 = .ok (.getfield 7, 3) := by decide +kernel
theorem dX12_isChild_6 : decode cX12_isChild 6 = .ok (.iconst 2, 1) := by decide +kernel
theorem dX12_isChild_7 : decode cX12_isChild 7 = .ok (.iaload, 1) := by decide +kernel
theorem dX12_isChild_8 : decode cX12_isChild 8 = .ok (.iconst 1, 1) := by decide +kernel
theorem dX12_isChild_9 : decode cX12_isChild 9 = .ok (.isub, 1) := by decide +kernel
theorem dX12_isChild_10 : decode cX12_isChild 10 = .ok (.invokestatic 64, 3) := by decide +kernel
theorem dX12_isChild_13 : decode cX12_isChild 13 = .ok (.ireturn, 1) := by decide +kernel
set_option maxHeartbeats 8000000 in
set_option maxRecDepth 100000 in
theorem c_X12_isChild (l : Launch) (g : kG) (sz : Nat) (z : Nat → Nat) (kp : Nat) (xs : Nat → Int32) (D : Nat → Int32) (v : Int32) (hDI : DI D) : kMi l g yX12_isChild cX12_isChild 2 (some .boolean) 2 0 0 [.ref (z 0), .int v] sz [(z 0, .inr (12, [.ref (z 1), .ref (z 2), .int (nI kp), .int (xs 0), .ref (z 3), .ref (z 4), .ref (z 5), .ref (z 6), .int (xs 1), .ref (z 7), .ref (z 8), .ref (z 9), .ref (z 10), .ref (z 11), .ref (z 12), .int (xs 2), .ref (z 13), .ref (z 14), .int (xs 3), .ref (z 15)])), (z 1, .inl (gI g, 461, .inl D))] (fun (r : Int32) (u : Unit) => (r = 1 ∧ (∃ j : Nat, (j < 10 ∧ (j : Int) < (D 2).toInt) ∧ v = nI j)) ∨ (r = 0 ∧ ¬ (∃ j : Nat, (j < 10 ∧ (j : Int) < (D 2).toInt) ∧ v = nI j))) (fun (u : Unit) => ([(z 0, .inr (12, [.ref (z 1), .ref (z 2), .int (nI kp), .int (xs 0), .ref (z 3), .ref (z 4), .ref (z 5), .ref (z 6), .int (xs 1), .ref (z 7), .ref (z 8), .ref (z 9), .ref (z 10), .ref (z 11), .ref (z 12), .int (xs 2), .ref (z 13), .ref (z 14), .int (xs 3), .ref (z 15)])), (z 1, .inl (gI g, 461, .inl D))] : va_W)) := by
  refine kMi.of (by decide) (Nat.le_of_ble_eq_true rfl) (fun p e s m below meth c A hx hb hr hml hown hts hlk hnm hKW hP hD hS hA ls hl => ?_)
  have hown : s.vm.findClass RX12 = some m.cls := hown
  have hl : lv_has ls 2 [(0, .ref (z 0)), (1, .int v)] := hl
  refine k_hide hP hS (fun H locs hP hS => ?_)
  refine lv_iload_n hx hb dX12_isChild_0 rfl (lv_at hl 1 rfl) ?_
  refine lv_iconst (v := 0) hx hb dX12_isChild_1 (by decide) ?_
  refine lv_aload_n hx hb dX12_isChild_2 rfl (lv_at hl 0 rfl) ?_
  refine va_get (ci := 12) (C := RX12) (T := TX12) (N := 20) hx hb hts inlX12 hown hKW.1 hP 0 rfl rfl 0 (by decide) (hts _ wd_6_5) (fun _ h => h) rfl dX12_isChild_3 ?_
  refine lv_iconst (v := 2) hx hb dX12_isChild_6 (by decide) ?_
  obtain ⟨dk_1, hdk_1a, hdk_1b, edk_1⟩ := DI.n2 hDI
  refine va_iald hx hb hKW.1 hP 1 0 rfl rfl (show ¬ _ by decide) dX12_isChild_7 ?_
  refine k_top (y := nI dk_1) edk_1 ?_
  refine lv_iconst (v := 1) hx hb dX12_isChild_8 (by decide) ?_
  refine lv_isub hx hb dX12_isChild_9 ?_
  refine lv_topi (fun x_2 ex_2 => ?_)
  refine k_Si [] [0, 1] (wr := [(z 0, .inr (12, [.ref (z 1), .ref (z 2), .int (nI kp), .int (xs 0), .ref (z 3), .ref (z 4), .ref (z 5), .ref (z 6), .int (xs 1), .ref (z 7), .ref (z 8), .ref (z 9), .ref (z 10), .ref (z 11), .ref (z 12), .int (xs 2), .ref (z 13), .ref (z 14), .int (xs 3), .ref (z 15)])), (z 1, .inl (gI g, 461, .inl D))]) hx hb hml hown hts hKW hP hD hS hA hl.1 (c_X12_isIn l g _ v 0 x_2 ) wd_10_11 wd_1_5 wd_10_9 wd_10_10 yd_X12_isIn ⟨(Nat.le_of_ble_eq_true rfl), (Nat.le_of_ble_eq_true rfl)⟩ rfl rfl rfl rfl (by decide) rfl (Nat.le_of_ble_eq_true rfl) dX12_isChild_10 ⟨(Nat.le_of_ble_eq_true rfl), (Nat.le_of_ble_eq_true rfl)⟩ (fun r_3 u_4 H locs hw_5 hP hD hS => ?_)
  have hP : va_P g.1 vwCl [(z 0, .inr (12, [.ref (z 1), .ref (z 2), .int (nI kp), .int (xs 0), .ref (z 3), .ref (z 4), .ref (z 5), .ref (z 6), .int (xs 1), .ref (z 7), .ref (z 8), .ref (z 9), .ref (z 10), .ref (z 11), .ref (z 12), .int (xs 2), .ref (z 13), .ref (z 14), .int (xs 3), .ref (z 15)])), (z 1, .inl (gI g, 461, .inl D))] H := hP
  have hD : va_D A [(z 0, .inr (12, [.ref (z 1), .ref (z 2), .int (nI kp), .int (xs 0), .ref (z 3), .ref (z 4), .ref (z 5), .ref (z 6), .int (xs 1), .ref (z 7), .ref (z 8), .ref (z 9), .ref (z 10), .ref (z 11), .ref (z 12), .int (xs 2), .ref (z 13), .ref (z 14), .int (xs 3), .ref (z 15)])), (z 1, .inl (gI g, 461, .inl D))] := hD
  rcases (show (r_3 = 1 ∧ (Int32.toInt 0 ≤ Int32.toInt v ∧ Int32.toInt v ≤ Int32.toInt x_2)) ∨ (r_3 = 0 ∧ ¬ (Int32.toInt 0 ≤ Int32.toInt v ∧ Int32.toInt v ≤ Int32.toInt x_2)) from hw_5) with ⟨rfl, hw_5b⟩ | ⟨rfl, hw_5b⟩ <;> clear hw_5
  · exact k_zret () [0, 1] hx hb hr hlk hP hD hS (Or.inl ⟨rfl, k_is1 (by decide) edk_1 hdk_1b ex_2 hw_5b⟩) rfl rfl rfl rfl (Nat.le_of_ble_eq_true rfl) (Nat.le_of_ble_eq_true rfl) dX12_isChild_13
  · exact k_zret () [0, 1] hx hb hr hlk hP hD hS (Or.inr ⟨rfl, k_is0 (by decide) edk_1 hdk_1b ex_2 hw_5b⟩) rfl rfl rfl rfl (Nat.le_of_ble_eq_true rfl) (Nat.le_of_ble_eq_true rfl) dX12_isChild_13
theorem dX12_isTrained_0 : decode cX12_isTrained 0 = .ok (.aload_n 0, 1) := by decide +kernel
theorem dX12_isTrained_1 : decode cX12_isTrained 1 = .ok (.getfield 7, 3) := by decide +kernel
theorem dX12_isTrained_4 : decode cX12_isTrained 4 = .ok (.bipush 26, 2) := by decide +kernel
theorem dX12_isTrained_6 : decode cX12_isTrained 6 = .ok (.iload_n 1, 1) := by decide +kernel
theorem dX12_isTrained_7 : decode cX12_isTrained 7 = .ok (.iadd, 1) := by decide +kernel
theorem dX12_isTrained_8 : decode cX12_isTrained 8 = .ok (.iaload, 1) := by decide +kernel
theorem dX12_isTrained_9 : decode cX12_isTrained 9 = .ok (.iconst 1, 1) := by decide +kernel
theorem dX12_isTrained_10 : decode cX12_isTrained 10 = .ok (.if_icmp .eq 16, 3) := by decide +kernel
theorem dX12_isTrained_26 : decode cX12_isTrained 26 = .ok (.iconst 1, 1) := by decide +kernel
theorem dX12_isTrained_27 : decode cX12_isTrained 27 = .ok (.goto 4, 3) := by decide +kernel
theorem dX12_isTrained_31 : decode cX12_isTrained 31 = .ok (.ireturn, 1) := by decide +kernel
theorem dX12_isTrained_13 : decode cX12_isTrained 13 = .ok (.aload_n 0, 1) := by decide +kernel
theorem dX12_isTrained_14 : decode cX12_isTrained 14 = .ok (.getfield 7, 3) := by decide +kernel
theorem dX12_isTrained_17 : decode cX12_isTrained 17 = .ok (.bipush 26, 2) := by decide +kernel
theorem dX12_isTrained_19 : decode cX12_isTrained 19 = .ok (.iload_n 1, 1) := by decide +kernel
theorem dX12_isTrained_20 : decode cX12_isTrained 20 = .ok (.iadd, 1) := by decide +kernel
theorem dX12_isTrained_21 : decode cX12_isTrained 21 = .ok (.iaload, 1) := by decide +kernel
theorem dX12_isTrained_22 : decode cX12_isTrained 22 = .ok (.iconst 2, 1) := by decide +kernel
theorem dX12_isTrained_23 : decode cX12_isTrained 23 = .ok (.if_icmp .ne 7, 3) := by decide +kernel
theorem dX12_isTrained_30 : decode cX12_isTrained 30 = .ok (.iconst 0, 1) := by decide +kernel
set_option maxHeartbeats 8000000 in
set_option maxRecDepth 100000 in
theorem c_X12_isTrained (l : Launch) (g : kG) (sz : Nat) (z : Nat → Nat) (kp : Nat) (xs : Nat → Int32) (D : Nat → Int32) (j : Nat) (hj : j < 7) : kMi l g yX12_isTrained cX12_isTrained 2 (some .boolean) 1 0 0 [.ref (z 0), .int (nI j)] sz [(z 0, .inr (12, [.ref (z 1), .ref (z 2), .int (nI kp), .int (xs 0), .ref (z 3), .ref (z 4), .ref (z 5), .ref (z 6), .int (xs 1), .ref (z 7), .ref (z 8), .ref (z 9), .ref (z 10), .ref (z 11), .ref (z 12), .int (xs 2), .ref (z 13), .ref (z 14), .int (xs 3), .ref (z 15)])), (z 1, .inl (gI g, 461, .inl D))] (fun (r : Int32) (u : Unit) => r = 1 ∨ r = 0) (fun (u : Unit) => ([(z 0, .inr (12, [.ref (z 1), .ref (z 2), .int (nI kp), .int (xs 0), .ref (z 3), .ref (z 4), .ref (z 5), .ref (z 6), .int (xs 1), .ref (z 7), .ref (z 8), .ref (z 9), .ref (z 10), .ref (z 11), .ref (z 12), .int (xs 2), .ref (z 13), .ref (z 14), .int (xs 3), .ref (z 15)])), (z 1, .inl (gI g, 461, .inl D))] : va_W)) := by
  refine kMi.of (by decide) (Nat.le_of_ble_eq_true rfl) (fun p e s m below meth c A hx hb hr hml hown hts hlk hnm hKW hP hD hS hA ls hl => ?_)
  have hown : s.vm.findClass RX12 = some m.cls := hown
  have hl : lv_has ls 2 [(0, .ref (z 0)), (1, .int (nI j))] := hl
  refine k_hide hP hS (fun H locs hP hS => ?_)
  refine lv_aload_n hx hb dX12_isTrained_0 rfl (lv_at hl 0 rfl) ?_
  refine va_get (ci := 12) (C := RX12) (T := TX12) (N := 20) hx hb hts inlX12 hown hKW.1 hP 0 rfl rfl 0 (by decide) (hts _ wd_6_5) (fun _ h => h) rfl dX12_isTrained_1 ?_
  refine lv_bipush (v := 26) hx hb dX12_isTrained_4 (by decide) ?_
  refine lv_iload_n hx hb dX12_isTrained_6 rfl (lv_at hl 1 rfl) ?_
  refine lv_iadd hx hb dX12_isTrained_7 ?_
  refine k_top (y := nI (j + 26)) (by rw [Nat.add_comm]; exact nI_add 26 j) ?_
  refine va_iald hx hb hKW.1 hP 1 0 rfl rfl (vp_in_nI (by omega) (by decide)) dX12_isTrained_8 ?_
  refine lv_topi (fun x_1 ex_1 => ?_)
  refine lv_iconst (v := 1) hx hb dX12_isTrained_9 (by decide) ?_
  refine lv_icmp_eq (tgt := 26) hx hb dX12_isTrained_10 (by decide) (fun c_2 => ?_) (fun c_2 => ?_)
  · refine lv_iconst (v := 1) hx hb dX12_isTrained_26 (by decide) ?_
    refine lv_goto (tgt := 31) hx hb dX12_isTrained_27 (by decide) ?_
    exact k_zret () [0, 1] hx hb hr hlk hP hD hS (Or.inl rfl) rfl rfl rfl rfl (Nat.le_of_ble_eq_true rfl) (Nat.le_of_ble_eq_true rfl) dX12_isTrained_31
  · refine lv_aload_n hx hb dX12_isTrained_13 rfl (lv_at hl 0 rfl) ?_
    refine va_get (ci := 12) (C := RX12) (T := TX12) (N := 20) hx hb hts inlX12 hown hKW.1 hP 0 rfl rfl 0 (by decide) (hts _ wd_6_5) (fun _ h => h) rfl dX12_isTrained_14 ?_
    refine lv_bipush (v := 26) hx hb dX12_isTrained_17 (by decide) ?_
    refine lv_iload_n hx hb dX12_isTrained_19 rfl (lv_at hl 1 rfl) ?_
    refine lv_iadd hx hb dX12_isTrained_20 ?_
    refine k_top (y := nI (j + 26)) (by rw [Nat.add_comm]; exact nI_add 26 j) ?_
    refine va_iald hx hb hKW.1 hP 1 0 rfl rfl (vp_in_nI (by omega) (by decide)) dX12_isTrained_21 ?_
    refine lv_topi (fun x_3 ex_3 => ?_)
    refine lv_iconst (v := 2) hx hb dX12_isTrained_22 (by decide) ?_
    refine lv_icmp_ne (tgt := 30) hx hb dX12_isTrained_23 (by decide) (fun c_4 => ?_) (fun c_4 => ?_)
    · refine lv_iconst (v := 0) hx hb dX12_isTrained_30 (by decide) ?_
      exact k_zret () [0, 1] hx hb hr hlk hP hD hS (Or.inr rfl) rfl rfl rfl rfl (Nat.le_of_ble_eq_true rfl) (Nat.le_of_ble_eq_true rfl) dX12_isTrained_31
    · refine lv_iconst (v := 1) hx hb dX12_isTrained_26 (by decide) ?_
      refine lv_goto (tgt := 31) hx hb dX12_isTrained_27 (by decide) ?_
      exact k_zret () [0, 1] hx hb hr hlk hP hD hS (Or.inl rfl) rfl rfl rfl rfl (Nat.le_of_ble_eq_true rfl) (Nat.le_of_ble_eq_true rfl) dX12_isTrained_31
theorem dX12_worthOf_0 : decode cX12_worthOf 0 = .ok (.aload_n 0, 1) := by decide +kernel
theorem dX12_worthOf_1 : decode cX12_worthOf 1 = .ok (.getfield 7, 3) := by decide +kernel
theorem dX12_worthOf_4 : decode cX12_worthOf 4 = .ok (.bipush 26, 2) := by decide +kernel
theorem dX12_worthOf_6 : decode cX12_worthOf 6 = .ok (.iload_n 1, 1) := by decide +kernel
theorem dX12_worthOf_7 : decode cX12_worthOf 7 = .ok (.iadd, 1) := by decide +kernel
theorem dX12_worthOf_8 : decode cX12_worthOf 8 = .ok (.iaload, 1) := by decide +kernel
theorem dX12_worthOf_9 : decode cX12_worthOf 9 = .ok (.iconst 3, 1) := by decide +kernel
theorem dX12_worthOf_10 : decode cX12_worthOf 10 = .ok (.if_icmp .ne 7, 3) := by decide +kernel
theorem dX12_worthOf_17 : decode cX12_worthOf 17 = .ok (.aload_n 0, 1) := by decide +kernel
theorem dX12_worthOf_18 : decode cX12_worthOf 18 = .ok (.getfield 7, 3) := by decide +kernel
theorem dX12_worthOf_21 : decode cX12_worthOf 21 = .ok (.bipush 26, 2) := by decide +kernel
theorem dX12_worthOf_23 : decode cX12_worthOf 23 = .ok (.iload_n 1, 1) := by decide +kernel
theorem dX12_worthOf_24 : decode cX12_worthOf 24 = .ok (.iadd, 1) := by decide +kernel
theorem dX12_worthOf_25 : decode cX12_worthOf 25 = .ok (.iaload, 1) := by decide +kernel
theorem dX12_worthOf_26 : decode cX12_worthOf 26 = .ok (.iconst 2, 1) := by decide +kernel
theorem dX12_worthOf_27 : decode cX12_worthOf 27 = .ok (.if_icmp .ne 7, 3) := by decide +kernel
theorem dX12_worthOf_34 : decode cX12_worthOf 34 = .ok (.iconst 2, 1) := by decide +kernel
theorem dX12_worthOf_35 : decode cX12_worthOf 35 = .ok (.ireturn, 1) := by decide +kernel
theorem dX12_worthOf_30 : decode cX12_worthOf 30 = .ok (.iconst 3, 1) := by decide +kernel
theorem dX12_worthOf_31 : decode cX12_worthOf 31 = .ok (.goto 4, 3) := by decide +kernel
theorem dX12_worthOf_13 : decode cX12_worthOf 13 = .ok (.iconst 0, 1) := by decide +kernel
theorem dX12_worthOf_14 : decode cX12_worthOf 14 = .ok (.goto 21, 3) := by decide +kernel
set_option maxHeartbeats 8000000 in
set_option maxRecDepth 100000 in
theorem c_X12_worthOf (l : Launch) (g : kG) (sz : Nat) (z : Nat → Nat) (kp : Nat) (xs : Nat → Int32) (D : Nat → Int32) (j : Nat) (hj : j < 7) : kMi l g yX12_worthOf cX12_worthOf 2 (some .int) 1 0 0 [.ref (z 0), .int (nI j)] sz [(z 0, .inr (12, [.ref (z 1), .ref (z 2), .int (nI kp), .int (xs 0), .ref (z 3), .ref (z 4), .ref (z 5), .ref (z 6), .int (xs 1), .ref (z 7), .ref (z 8), .ref (z 9), .ref (z 10), .ref (z 11), .ref (z 12), .int (xs 2), .ref (z 13), .ref (z 14), .int (xs 3), .ref (z 15)])), (z 1, .inl (gI g, 461, .inl D))] (fun (r : Int32) (u : Unit) => True) (fun (u : Unit) => ([(z 0, .inr (12, [.ref (z 1), .ref (z 2), .int (nI kp), .int (xs 0), .ref (z 3), .ref (z 4), .ref (z 5), .ref (z 6), .int (xs 1), .ref (z 7), .ref (z 8), .ref (z 9), .ref (z 10), .ref (z 11), .ref (z 12), .int (xs 2), .ref (z 13), .ref (z 14), .int (xs 3), .ref (z 15)])), (z 1, .inl (gI g, 461, .inl D))] : va_W)) := by
  refine kMi.of (by decide) (Nat.le_of_ble_eq_true rfl) (fun p e s m below meth c A hx hb hr hml hown hts hlk hnm hKW hP hD hS hA ls hl => ?_)
  have hown : s.vm.findClass RX12 = some m.cls := hown
  have hl : lv_has ls 2 [(0, .ref (z 0)), (1, .int (nI j))] := hl
  refine k_hide hP hS (fun H locs hP hS => ?_)
  refine lv_aload_n hx hb dX12_worthOf_0 rfl (lv_at hl 0 rfl) ?_
  refine va_get (ci := 12) (C := RX12) (T := TX12) (N := 20) hx hb hts inlX12 hown hKW.1 hP 0 rfl rfl 0 (by decide) (hts _ wd_6_5) (fun _ h => h) rfl dX12_worthOf_1 ?_
  refine lv_bipush (v := 26) hx hb dX12_worthOf_4 (by decide) ?_
  refine lv_iload_n hx hb dX12_worthOf_6 rfl (lv_at hl 1 rfl) ?_
  refine lv_iadd hx hb dX12_worthOf_7 ?_
  refine k_top (y := nI (j + 26)) (by rw [Nat.add_comm]; exact nI_add 26 j) ?_
  refine va_iald hx hb hKW.1 hP 1 0 rfl rfl (vp_in_nI (by omega) (by decide)) dX12_worthOf_8 ?_
  refine lv_topi (fun x_1 ex_1 => ?_)
  refine lv_iconst (v := 3) hx hb dX12_worthOf_9 (by decide) ?_
  refine lv_icmp_ne (tgt := 17) hx hb dX12_worthOf_10 (by decide) (fun c_2 => ?_) (fun c_2 => ?_)
  · refine lv_aload_n hx hb dX12_worthOf_17 rfl (lv_at hl 0 rfl) ?_
    refine va_get (ci := 12) (C := RX12) (T := TX12) (N := 20) hx hb hts inlX12 hown hKW.1 hP 0 rfl rfl 0 (by decide) (hts _ wd_6_5) (fun _ h => h) rfl dX12_worthOf_18 ?_
    refine lv_bipush (v := 26) hx hb dX12_worthOf_21 (by decide) ?_
    refine lv_iload_n hx hb dX12_worthOf_23 rfl (lv_at hl 1 rfl) ?_
    refine lv_iadd hx hb dX12_worthOf_24 ?_
    refine k_top (y := nI (j + 26)) (by rw [Nat.add_comm]; exact nI_add 26 j) ?_
    refine va_iald hx hb hKW.1 hP 1 0 rfl rfl (vp_in_nI (by omega) (by decide)) dX12_worthOf_25 ?_
    refine lv_topi (fun x_3 ex_3 => ?_)
    refine lv_iconst (v := 2) hx hb dX12_worthOf_26 (by decide) ?_
    refine lv_icmp_ne (tgt := 34) hx hb dX12_worthOf_27 (by decide) (fun c_4 => ?_) (fun c_4 => ?_)
    · refine lv_iconst (v := 2) hx hb dX12_worthOf_34 (by decide) ?_
      exact k_iret () [0, 1] hx hb hr hlk hP hD hS trivial rfl rfl rfl (Nat.le_of_ble_eq_true rfl) (Nat.le_of_ble_eq_true rfl) dX12_worthOf_35
    · refine lv_iconst (v := 3) hx hb dX12_worthOf_30 (by decide) ?_
      refine lv_goto (tgt := 35) hx hb dX12_worthOf_31 (by decide) ?_
      exact k_iret () [0, 1] hx hb hr hlk hP hD hS trivial rfl rfl rfl (Nat.le_of_ble_eq_true rfl) (Nat.le_of_ble_eq_true rfl) dX12_worthOf_35
  · refine lv_iconst (v := 0) hx hb dX12_worthOf_13 (by decide) ?_
    refine lv_goto (tgt := 35) hx hb dX12_worthOf_14 (by decide) ?_
    exact k_iret () [0, 1] hx hb hr hlk hP hD hS trivial rfl rfl rfl (Nat.le_of_ble_eq_true rfl) (Nat.le_of_ble_eq_true rfl) dX12_worthOf_35
theorem dX12_ones_0 : decode cX12_ones 0 = .ok (.iconst 0, 1) := by decide +kernel
theorem dX12_ones_1 : decode cX12_ones 1 = .ok (.istore_n 1, 1) := by decide +kernel
theorem dX12_ones_2 : decode cX12_ones 2 = .ok (.iconst 0, 1) := by decide +kernel
theorem dX12_ones_3 : decode cX12_ones 3 = .ok (.istore_n 2, 1) := by decide +kernel
theorem dX12_ones_4 : decode cX12_ones 4 = .ok (.iload_n 2, 1) := by decide +kernel
theorem dX12_ones_5 : decode cX12_ones 5 = .ok (.bipush 16, 2) := by decide +kernel
theorem dX12_ones_7 : decode cX12_ones 7 = .ok (.if_icmp .ge 17, 3) := by decide +kernel
theorem dX12_ones_24 : decode cX12_ones 24 = .ok (.iload_n 1, 1) := by decide +kernel
theorem dX12_ones_25 : decode cX12_ones 25 = .ok (.ireturn, 1) := by decide +kernel
theorem dX12_ones_10 : decode cX12_ones 10 = .ok (.iload_n 1, 1) := by decide +kernel
theorem dX12_ones_11 : decode cX12_ones 11 = .ok (.iload_n 0, 1) := by decide +kernel
theorem dX12_ones_12 : decode cX12_ones 12 = .ok (.iload_n 2, 1) := by decide +kernel
theorem dX12_ones_13 : decode cX12_ones 13 = .ok (.ishr, 1) := by decide +kernel
theorem dX12_ones_14 : decode cX12_ones 14 = .ok (.iconst 1, 1) := by decide +kernel
theorem dX12_ones_15 : decode cX12_ones 15 = .ok (.iand, 1) := by decide +kernel
theorem dX12_ones_16 : decode cX12_ones 16 = .ok (.iadd, 1) := by decide +kernel
theorem dX12_ones_17 : decode cX12_ones 17 = .ok (.istore_n 1, 1) := by decide +kernel
theorem dX12_ones_18 : decode cX12_ones 18 = .ok (.iinc 2 1, 3) := by decide +kernel
theorem dX12_ones_21 : decode cX12_ones 21 = .ok (.goto (-17), 3) := by decide +kernel
set_option maxHeartbeats 8000000 in
set_option maxRecDepth 100000 in
theorem c_X12_ones (l : Launch) (g : kG) (sz : Nat) (v : Int32) : kMi l g yX12_ones cX12_ones 3 (some .int) 1 0 0 [.int v] sz [] (fun (r : Int32) (u : Unit) => True) (fun (u : Unit) => ([] : va_W)) := by
  refine kMi.of (by decide) (Nat.le_of_ble_eq_true rfl) (fun p e s m below meth c A hx hb hr hml hown hts hlk hnm hKW hP hD hS hA ls hl => ?_)
  have hown : s.vm.findClass RX12 = some m.cls := hown
  have hl : lv_has ls 3 [(0, .int v)] := hl
  refine k_hide hP hS (fun H locs hP hS => ?_)
  refine lv_iconst (v := 0) hx hb dX12_ones_0 (by decide) ?_
  refine lv_istore_n (lv' := [(1, .int 0), (0, .int v)]) hx hb dX12_ones_1 rfl hl (by decide) rfl (fun ls hl => ?_)
  refine lv_iconst (v := 0) hx hb dX12_ones_2 (by decide) ?_
  refine lv_istore_n (lv' := [(2, .int 0), (1, .int 0), (0, .int v)]) hx hb dX12_ones_3 rfl hl (by decide) rfl (fun ls hl => ?_)
  have L4 : ∀ (n4 : Nat) (i : Nat) (x1 : Int32) (hfuel4 : 16 - i < n4) (hi : i ≤ 16) (H : Heap) (locs : List Loc) (hP : va_P g.1 vwCl [] H) (hD : va_D A []) (hS : va_S A s.heap H locs) (ls : Array Slot) (hl : lv_has ls 3 [(2, .int (nI i)), (1, .int x1), (0, .int v)]), W p l e (kR 1 0 0) s m ([.int v] : List Value).toArray below meth c H locs 0 0 (kQi g A below ([.int v] : List Value).toArray s 0 0 (fun (r : Int32) (u : Unit) => True) (fun (u : Unit) => ([] : va_W))) (F0 m 4 ls []) := by
    intro n4
    induction n4 with
    | zero => intro i x1 hfuel4; exact absurd hfuel4 (Nat.not_lt_zero _)
    | succ n4 ih4 =>
      intro i x1 hfuel4 hi H locs hP hD hS ls hl
      refine lv_iload_n hx hb dX12_ones_4 rfl (lv_at hl 0 rfl) ?_
      refine lv_bipush (v := 16) hx hb dX12_ones_5 (by decide) ?_
      refine lv_icmp_ge (tgt := 24) hx hb dX12_ones_7 (by decide) (fun c_1 => ?_) (fun c_1 => ?_)
      · have c_1n : 16 ≤ i := (k_leI (a := 16) (b := i) (by omega) (by omega)).mp c_1
        refine lv_iload_n hx hb dX12_ones_24 rfl (lv_at hl 1 rfl) ?_
        exact k_iret () [] hx hb hr hlk hP hD hS trivial rfl rfl rfl (Nat.le_of_ble_eq_true rfl) (Nat.le_of_ble_eq_true rfl) dX12_ones_25
      · have c_1n : i < 16 := Nat.not_le.mp (fun h => c_1 ((k_leI (a := 16) (b := i) (by omega) (by omega)).mpr h))
        refine lv_iload_n hx hb dX12_ones_10 rfl (lv_at hl 1 rfl) ?_
        refine lv_iload_n hx hb dX12_ones_11 rfl (lv_at hl 2 rfl) ?_
        refine lv_iload_n hx hb dX12_ones_12 rfl (lv_at hl 0 rfl) ?_
        refine lv_ishr hx hb dX12_ones_13 ?_
        refine lv_topi (fun x_2 ex_2 => ?_)
        refine lv_iconst (v := 1) hx hb dX12_ones_14 (by decide) ?_
        refine lv_iand hx hb dX12_ones_15 ?_
        refine lv_topi (fun x_3 ex_3 => ?_)
        refine lv_iadd hx hb dX12_ones_16 ?_
        refine lv_topi (fun x_4 ex_4 => ?_)
        refine lv_istore_n (lv' := [(1, .int x_4), (2, .int (nI i)), (0, .int v)]) hx hb dX12_ones_17 rfl hl (by decide) rfl (fun ls hl => ?_)
        refine lv_iinc (v := nI (i + 1)) (lv' := [(2, .int (nI (i + 1))), (1, .int x_4), (0, .int v)]) hx hb dX12_ones_18 hl (k := 1) rfl (nI_add i 1) (by decide) rfl (fun ls hl => ?_)
        refine lv_goto (tgt := 4) hx hb dX12_ones_21 (by decide) ?_
        exact ih4 (i + 1) x_4 (by omega) (by first | assumption | omega) H locs (hP.sub [] rfl) (hD.sub [] (by decide) rfl) hS ls (lv_sub hl [0, 1, 2] rfl)
  exact L4 (16 - 0 + 1) 0 0 (Nat.lt_succ_self _) (by first | assumption | omega) H locs (hP.sub [] rfl) (hD.sub [] (by decide) rfl) hS ls (lv_sub hl [0, 1, 2] rfl)
theorem dX12_upwards_0 : decode cX12_upwards 0 = .ok (.iload_n 0, 1) := by decide +kernel
theorem dX12_upwards_1 : decode cX12_upwards 1 = .ok (.iload_n 1, 1) := by decide +kernel
theorem dX12_upwards_2 : decode cX12_upwards 2 = .ok (.iadd, 1) := by decide +kernel
theorem dX12_upwards_3 : decode cX12_upwards 3 = .ok (.iconst 1, 1) := by decide +kernel
theorem dX12_upwards_4 : decode cX12_upwards 4 = .ok (.isub, 1) := by decide +kernel
theorem dX12_upwards_5 : decode cX12_upwards 5 = .ok (.iload_n 1, 1) := by decide +kernel
theorem dX12_upwards_6 : decode cX12_upwards 6 = .ok (.idiv, 1) := by decide +kernel
theorem dX12_upwards_7 : decode cX12_upwards 7 = .ok (.ireturn, 1) := by decide +kernel
set_option maxHeartbeats 8000000 in
set_option maxRecDepth 100000 in
theorem c_X12_upwards (l : Launch) (g : kG) (sz : Nat) (v : Int32) (w : Int32) (hw0 : ¬ w = 0) : kMi l g yX12_upwards cX12_upwards 2 (some .int) 1 0 0 [.int v, .int w] sz [] (fun (r : Int32) (u : Unit) => True) (fun (u : Unit) => ([] : va_W)) := by
  refine kMi.of (by decide) (Nat.le_of_ble_eq_true rfl) (fun p e s m below meth c A hx hb hr hml hown hts hlk hnm hKW hP hD hS hA ls hl => ?_)
  have hown : s.vm.findClass RX12 = some m.cls := hown
  have hl : lv_has ls 2 [(0, .int v), (1, .int w)] := hl
  refine k_hide hP hS (fun H locs hP hS => ?_)
  refine lv_iload_n hx hb dX12_upwards_0 rfl (lv_at hl 0 rfl) ?_
  refine lv_iload_n hx hb dX12_upwards_1 rfl (lv_at hl 1 rfl) ?_
  refine lv_iadd hx hb dX12_upwards_2 ?_
  refine lv_topi (fun x_1 ex_1 => ?_)
  refine lv_iconst (v := 1) hx hb dX12_upwards_3 (by decide) ?_
  refine lv_isub hx hb dX12_upwards_4 ?_
  refine lv_topi (fun x_2 ex_2 => ?_)
  refine lv_iload_n hx hb dX12_upwards_5 rfl (lv_at hl 1 rfl) ?_
  refine lv_idiv hx hb dX12_upwards_6 hw0 ?_
  refine lv_topi (fun x_3 ex_3 => ?_)
  exact k_iret () [] hx hb hr hlk hP hD hS trivial rfl rfl rfl (Nat.le_of_ble_eq_true rfl) (Nat.le_of_ble_eq_true rfl) dX12_upwards_7
theorem dX12_lowest_0 : decode cX12_lowest 0 = .ok (.iload_n 1, 1) := by decide +kernel
theorem dX12_lowest_1 : decode cX12_lowest 1 = .ok (.bipush 8, 2) := by decide +kernel
theorem dX12_lowest_3 : decode cX12_lowest 3 = .ok (.if_icmp .ne 8, 3) := by decide +kernel
theorem dX12_lowest_11 : decode cX12_lowest 11 = .ok (.iload_n 1, 1) := by decide +kernel
theorem dX12_lowest_12 : decode cX12_lowest 12 = .ok (.bipush 16, 2) := by decide +kernel
theorem dX12_lowest_14 : decode cX12_lowest 14 = .ok (.if_icmp .ne 8, 3) := by decide +kernel
theorem dX12_lowest_22 : decode cX12_lowest 22 = .ok (.iload_n 0, 1) := by decide +kernel
theorem dX12_lowest_23 : decode cX12_lowest 23 = .ok (.ireturn, 1) := by decide +kernel
theorem dX12_lowest_17 : decode cX12_lowest 17 = .ok (.iload_n 0, 1) := by decide +kernel
theorem dX12_lowest_18 : decode cX12_lowest 18 = .ok (.i2s, 1) := by decide +kernel
theorem dX12_lowest_19 : decode cX12_lowest 19 = .ok (.goto 4, 3) := by decide +kernel
theorem dX12_lowest_6 : decode cX12_lowest 6 = .ok (.iload_n 0, 1) := by decide +kernel
theorem dX12_lowest_7 : decode cX12_lowest 7 = .ok (.i2b, 1) := by decide +kernel
theorem dX12_lowest_8 : decode cX12_lowest 8 = .ok (.goto 15, 3) := by decide +kernel
set_option maxHeartbeats 8000000 in
set_option maxRecDepth 100000 in
theorem c_X12_lowest (l : Launch) (g : kG) (sz : Nat) (v : Int32) (w : Int32) : kMi l g yX12_lowest cX12_lowest 2 (some .int) 1 0 0 [.int v, .int w] sz [] (fun (r : Int32) (u : Unit) => r = lowB w v) (fun (u : Unit) => ([] : va_W)) := by
  refine kMi.of (by decide) (Nat.le_of_ble_eq_true rfl) (fun p e s m below meth c A hx hb hr hml hown hts hlk hnm hKW hP hD hS hA ls hl => ?_)
  have hown : s.vm.findClass RX12 = some m.cls := hown
  have hl : lv_has ls 2 [(0, .int v), (1, .int w)] := hl
  refine k_hide hP hS (fun H locs hP hS => ?_)
  refine lv_iload_n hx hb dX12_lowest_0 rfl (lv_at hl 1 rfl) ?_
  refine lv_bipush (v := 8) hx hb dX12_lowest_1 (by decide) ?_
  refine lv_icmp_ne (tgt := 11) hx hb dX12_lowest_3 (by decide) (fun c_1 => ?_) (fun c_1 => ?_)
  · refine lv_iload_n hx hb dX12_lowest_11 rfl (lv_at hl 1 rfl) ?_
    refine lv_bipush (v := 16) hx hb dX12_lowest_12 (by decide) ?_
    refine lv_icmp_ne (tgt := 22) hx hb dX12_lowest_14 (by decide) (fun c_2 => ?_) (fun c_2 => ?_)
    · refine lv_iload_n hx hb dX12_lowest_22 rfl (lv_at hl 0 rfl) ?_
      exact k_iret () [] hx hb hr hlk hP hD hS (by unfold lowB; rw [if_neg c_1, if_neg c_2]) rfl rfl rfl (Nat.le_of_ble_eq_true rfl) (Nat.le_of_ble_eq_true rfl) dX12_lowest_23
    · refine lv_iload_n hx hb dX12_lowest_17 rfl (lv_at hl 0 rfl) ?_
      refine lv_i2s hx hb dX12_lowest_18 rfl ?_
      refine lv_goto (tgt := 23) hx hb dX12_lowest_19 (by decide) ?_
      exact k_iret () [] hx hb hr hlk hP hD hS (by unfold lowB; rw [if_neg c_1, if_pos c_2]) rfl rfl rfl (Nat.le_of_ble_eq_true rfl) (Nat.le_of_ble_eq_true rfl) dX12_lowest_23
  · refine lv_iload_n hx hb dX12_lowest_6 rfl (lv_at hl 0 rfl) ?_
    refine lv_i2b hx hb dX12_lowest_7 rfl ?_
    refine lv_goto (tgt := 23) hx hb dX12_lowest_8 (by decide) ?_
    exact k_iret () [] hx hb hr hlk hP hD hS (by unfold lowB; rw [if_pos c_1]) rfl rfl rfl (Nat.le_of_ble_eq_true rfl) (Nat.le_of_ble_eq_true rfl) dX12_lowest_23
theorem dX12_takes_0 : decode cX12_takes 0 = .ok (.iload_n 2, 1) := by decide +kernel
theorem dX12_takes_1 : decode cX12_takes 1 = .ok (.ifCond .lt 38, 3) := by decide +kernel
theorem dX12_takes_39 : decode cX12_takes 39 = .ok (.iconst 0, 1) := by decide +kernel
theorem dX12_takes_40 : decode cX12_takes 40 = .ok (.ireturn, 1) := by decide +kernel
theorem dX12_takes_4 : decode cX12_takes 4 = .ok (.iload_n 2, 1) := by decide +kernel
theorem dX12_takes_5 : decode cX12_takes 5 = .ok (.bipush 71, 2) := by decide +kernel
theorem dX12_takes_7 : decode cX12_takes 7 = .ok (.if_icmp .gt 32, 3) := by decide +kernel
theorem dX12_takes_10 : decode cX12_takes 10 = .ok (.iload_n 2, 1) := by decide +kernel
theorem dX12_takes_11 : decode cX12_takes 11 = .ok (.aload_n 0, 1) := by decide +kernel
theorem dX12_takes_12 : decode cX12_takes 12 = .ok (.getfield 7, 3) := by decide +kernel
theorem dX12_takes_15 : decode cX12_takes 15 = .ok (.bipush 11, 2) := by decide +kernel
theorem dX12_takes_17 : decode cX12_takes 17 = .ok (.iload_n 1, 1) := by decide +kernel
theorem dX12_takes_18 : decode cX12_takes 18 = .ok (.iadd, 1) := by decide +kernel
theorem dX12_takes_19 : decode cX12_takes 19 = .ok (.iaload, 1) := by decide +kernel
theorem dX12_takes_20 : decode cX12_takes 20 = .ok (.aload_n 0, 1) := by decide +kernel
theorem dX12_takes_21 : decode cX12_takes 21 = .ok (.getfield 7, 3) := by decide +kernel
theorem dX12_takes_24 : decode cX12_takes 24 = .ok (.bipush 16, 2) := by decide +kernel
theorem dX12_takes_26 : decode cX12_takes 26 = .ok (.iload_n 1, 1) := by decide +kernel
theorem dX12_takes_27 : decode cX12_takes 27 = .ok (.iadd, 1) := by decide +kernel
theorem dX12_takes_28 : decode cX12_takes 28 = .ok (.iaload, 1) := by decide +kernel
theorem dX12_takes_29 : decode cX12_takes 29 = .ok (.invokestatic 64, 3) := by decide +kernel
theorem dX12_takes_32 : decode cX12_takes 32 = .ok (.ifCond .eq 7, 3) := by decide +kernel
theorem dX12_takes_35 : decode cX12_takes 35 = .ok (.iconst 1, 1) := by decide +kernel
theorem dX12_takes_36 : decode cX12_takes 36 = .ok (.goto 4, 3) := by decide +kernel
set_option maxHeartbeats 8000000 in
set_option maxRecDepth 100000 in
theorem c_X12_takes (l : Launch) (g : kG) (sz : Nat) (z : Nat → Nat) (kp : Nat) (xs : Nat → Int32) (D : Nat → Int32) (j : Nat) (x : Int32) (hj : j < 5) : kMi l g yX12_takes cX12_takes 3 (some .boolean) 2 0 0 [.ref (z 0), .int (nI j), .int x] sz [(z 0, .inr (12, [.ref (z 1), .ref (z 2), .int (nI kp), .int (xs 0), .ref (z 3), .ref (z 4), .ref (z 5), .ref (z 6), .int (xs 1), .ref (z 7), .ref (z 8), .ref (z 9), .ref (z 10), .ref (z 11), .ref (z 12), .int (xs 2), .ref (z 13), .ref (z 14), .int (xs 3), .ref (z 15)])), (z 1, .inl (gI g, 461, .inl D))] (fun (r : Int32) (u : Unit) => r = 1 ∨ r = 0) (fun (u : Unit) => ([(z 0, .inr (12, [.ref (z 1), .ref (z 2), .int (nI kp), .int (xs 0), .ref (z 3), .ref (z 4), .ref (z 5), .ref (z 6), .int (xs 1), .ref (z 7), .ref (z 8), .ref (z 9), .ref (z 10), .ref (z 11), .ref (z 12), .int (xs 2), .ref (z 13), .ref (z 14), .int (xs 3), .ref (z 15)])), (z 1, .inl (gI g, 461, .inl D))] : va_W)) := by
  refine kMi.of (by decide) (Nat.le_of_ble_eq_true rfl) (fun p e s m below meth c A hx hb hr hml hown hts hlk hnm hKW hP hD hS hA ls hl => ?_)
  have hown : s.vm.findClass RX12 = some m.cls := hown
  have hl : lv_has ls 3 [(0, .ref (z 0)), (1, .int (nI j)), (2, .int x)] := hl
  refine k_hide hP hS (fun H locs hP hS => ?_)
  refine lv_iload_n hx hb dX12_takes_0 rfl (lv_at hl 2 rfl) ?_
  refine lv_if_lt (tgt := 39) hx hb dX12_takes_1 (by decide) (fun c_1 => ?_) (fun c_1 => ?_)
  · refine lv_iconst (v := 0) hx hb dX12_takes_39 (by decide) ?_
    exact k_zret () [0, 1] hx hb hr hlk hP hD hS (Or.inr rfl) rfl rfl rfl rfl (Nat.le_of_ble_eq_true rfl) (Nat.le_of_ble_eq_true rfl) dX12_takes_40
  · refine lv_iload_n hx hb dX12_takes_4 rfl (lv_at hl 2 rfl) ?_
    refine lv_bipush (v := 71) hx hb dX12_takes_5 (by decide) ?_
    refine lv_icmp_gt (tgt := 39) hx hb dX12_takes_7 (by decide) (fun c_2 => ?_) (fun c_2 => ?_)
    · refine lv_iconst (v := 0) hx hb dX12_takes_39 (by decide) ?_
      exact k_zret () [0, 1] hx hb hr hlk hP hD hS (Or.inr rfl) rfl rfl rfl rfl (Nat.le_of_ble_eq_true rfl) (Nat.le_of_ble_eq_true rfl) dX12_takes_40
    · refine lv_iload_n hx hb dX12_takes_10 rfl (lv_at hl 2 rfl) ?_
      refine lv_aload_n hx hb dX12_takes_11 rfl (lv_at hl 0 rfl) ?_
      refine va_get (ci := 12) (C := RX12) (T := TX12) (N := 20) hx hb hts inlX12 hown hKW.1 hP 0 rfl rfl 0 (by decide) (hts _ wd_6_5) (fun _ h => h) rfl dX12_takes_12 ?_
      refine lv_bipush (v := 11) hx hb dX12_takes_15 (by decide) ?_
      refine lv_iload_n hx hb dX12_takes_17 rfl (lv_at hl 1 rfl) ?_
      refine lv_iadd hx hb dX12_takes_18 ?_
      refine k_top (y := nI (j + 11)) (by rw [Nat.add_comm]; exact nI_add 11 j) ?_
      refine va_iald hx hb hKW.1 hP 1 0 rfl rfl (vp_in_nI (by omega) (by decide)) dX12_takes_19 ?_
      refine lv_topi (fun x_3 ex_3 => ?_)
      refine lv_aload_n hx hb dX12_takes_20 rfl (lv_at hl 0 rfl) ?_
      refine va_get (ci := 12) (C := RX12) (T := TX12) (N := 20) hx hb hts inlX12 hown hKW.1 hP 0 rfl rfl 0 (by decide) (hts _ wd_6_5) (fun _ h => h) rfl dX12_takes_21 ?_
      refine lv_bipush (v := 16) hx hb dX12_takes_24 (by decide) ?_
      refine lv_iload_n hx hb dX12_takes_26 rfl (lv_at hl 1 rfl) ?_
      refine lv_iadd hx hb dX12_takes_27 ?_
      refine k_top (y := nI (j + 16)) (by rw [Nat.add_comm]; exact nI_add 16 j) ?_
      refine va_iald hx hb hKW.1 hP 1 0 rfl rfl (vp_in_nI (by omega) (by decide)) dX12_takes_28 ?_
      refine lv_topi (fun x_4 ex_4 => ?_)
      refine k_Si [] [0, 1] (wr := [(z 0, .inr (12, [.ref (z 1), .ref (z 2), .int (nI kp), .int (xs 0), .ref (z 3), .ref (z 4), .ref (z 5), .ref (z 6), .int (xs 1), .ref (z 7), .ref (z 8), .ref (z 9), .ref (z 10), .ref (z 11), .ref (z 12), .int (xs 2), .ref (z 13), .ref (z 14), .int (xs 3), .ref (z 15)])), (z 1, .inl (gI g, 461, .inl D))]) hx hb hml hown hts hKW hP hD hS hA hl.1 (c_X12_isIn l g _ x x_3 x_4 ) wd_10_11 wd_1_5 wd_10_9 wd_10_10 yd_X12_isIn ⟨(Nat.le_of_ble_eq_true rfl), (Nat.le_of_ble_eq_true rfl)⟩ rfl rfl rfl rfl (by decide) rfl (Nat.le_of_ble_eq_true rfl) dX12_takes_29 ⟨(Nat.le_of_ble_eq_true rfl), (Nat.le_of_ble_eq_true rfl)⟩ (fun r_5 u_6 H locs hw_7 hP hD hS => ?_)
      have hP : va_P g.1 vwCl [(z 0, .inr (12, [.ref (z 1), .ref (z 2), .int (nI kp), .int (xs 0), .ref (z 3), .ref (z 4), .ref (z 5), .ref (z 6), .int (xs 1), .ref (z 7), .ref (z 8), .ref (z 9), .ref (z 10), .ref (z 11), .ref (z 12), .int (xs 2), .ref (z 13), .ref (z 14), .int (xs 3), .ref (z 15)])), (z 1, .inl (gI g, 461, .inl D))] H := hP
      have hD : va_D A [(z 0, .inr (12, [.ref (z 1), .ref (z 2), .int (nI kp), .int (xs 0), .ref (z 3), .ref (z 4), .ref (z 5), .ref (z 6), .int (xs 1), .ref (z 7), .ref (z 8), .ref (z 9), .ref (z 10), .ref (z 11), .ref (z 12), .int (xs 2), .ref (z 13), .ref (z 14), .int (xs 3), .ref (z 15)])), (z 1, .inl (gI g, 461, .inl D))] := hD
      rcases (show (r_5 = 1 ∧ (Int32.toInt x_3 ≤ Int32.toInt x ∧ Int32.toInt x ≤ Int32.toInt x_4)) ∨ (r_5 = 0 ∧ ¬ (Int32.toInt x_3 ≤ Int32.toInt x ∧ Int32.toInt x ≤ Int32.toInt x_4)) from hw_7) with ⟨rfl, hw_7b⟩ | ⟨rfl, hw_7b⟩ <;> clear hw_7
      · refine lv_if_eq (tgt := 39) hx hb dX12_takes_32 (by decide) (fun c => absurd c (by decide)) (fun _ => ?_)
        refine lv_iconst (v := 1) hx hb dX12_takes_35 (by decide) ?_
        refine lv_goto (tgt := 40) hx hb dX12_takes_36 (by decide) ?_
        exact k_zret () [0, 1] hx hb hr hlk hP hD hS (Or.inl rfl) rfl rfl rfl rfl (Nat.le_of_ble_eq_true rfl) (Nat.le_of_ble_eq_true rfl) dX12_takes_40
      · refine lv_if_eq (tgt := 39) hx hb dX12_takes_32 (by decide) (fun _ => ?_) (fun c => absurd c (by decide))
        refine lv_iconst (v := 0) hx hb dX12_takes_39 (by decide) ?_
        exact k_zret () [0, 1] hx hb hr hlk hP hD hS (Or.inr rfl) rfl rfl rfl rfl (Nat.le_of_ble_eq_true rfl) (Nat.le_of_ble_eq_true rfl) dX12_takes_40
theorem dX12_roomIn_0 : decode cX12_roomIn 0 = .ok (.iconst 0, 1) := by decide +kernel
theorem dX12_roomIn_1 : decode cX12_roomIn 1 = .ok (.istore_n 3, 1) := by decide +kernel
theorem dX12_roomIn_2 : decode cX12_roomIn 2 = .ok (.iload_n 3, 1) := by decide +kernel
theorem dX12_roomIn_3 : decode cX12_roomIn 3 = .ok (.aload_n 0, 1) := by decide +kernel
theorem dX12_roomIn_4 : decode cX12_roomIn 4 = .ok (.getfield 7, 3) := by decide +kernel
theorem dX12_roomIn_7 : decode cX12_roomIn 7 = .ok (.iconst 0, 1) := by decide +kernel
theorem dX12_roomIn_8 : decode cX12_roomIn 8 = .ok (.iaload, 1) := by decide +kernel
theorem dX12_roomIn_9 : decode cX12_roomIn 9 = .ok (.if_icmp .ge 30, 3) := by decide +kernel
theorem dX12_roomIn_39 : decode cX12_roomIn 39 = .ok (.iconst (-1), 1) := by decide +kernel
theorem dX12_roomIn_40 : decode cX12_roomIn 40 = .ok (.ireturn, 1) := by decide +kernel
theorem dX12_roomIn_12 : decode cX12_roomIn 12 = .ok (.aload_n 0, 1) := by decide +kernel
theorem dX12_roomIn_13 : decode cX12_roomIn 13 = .ok (.iload_n 3, 1) := by decide +kernel
theorem dX12_roomIn_14 : decode cX12_roomIn 14 = .ok (.iload_n 2, 1) := by decide +kernel
theorem dX12_roomIn_15 : decode cX12_roomIn 15 = .ok (.aload_n 0, 1) := by decide +kernel
theorem dX12_roomIn_16 : decode cX12_roomIn 16 = .ok (.getfield 7, 3) := by decide +kernel
theorem dX12_roomIn_19 : decode cX12_roomIn 19 = .ok (.bipush 47, 2) := by decide +kernel
theorem dX12_roomIn_21 : decode cX12_roomIn 21 = .ok (.iload_n 1, 1) := by decide +kernel
theorem dX12_roomIn_22 : decode cX12_roomIn 22 = .ok (.iadd, 1) := by decide +kernel
theorem dX12_roomIn_23 : decode cX12_roomIn 23 = .ok (.iaload, 1) := by decide +kernel
theorem dX12_roomIn_24 : decode cX12_roomIn 24 = .ok (.isub, 1) := by decide +kernel
theorem dX12_roomIn_25 : decode cX12_roomIn 25 = .ok (.invokevirtual 85, 3) := by decide +kernel
theorem dX12_roomIn_28 : decode cX12_roomIn 28 = .ok (.ifCond .eq 5, 3) := by decide +kernel
theorem dX12_roomIn_31 : decode cX12_roomIn 31 = .ok (.iload_n 3, 1) := by decide +kernel
theorem dX12_roomIn_32 : decode cX12_roomIn 32 = .ok (.ireturn, 1) := by decide +kernel
theorem dX12_roomIn_33 : decode cX12_roomIn 33 = .ok (.iinc 3 1, 3) := by decide +kernel
theorem dX12_roomIn_36 : decode cX12_roomIn 36 = .ok (.goto (-34), 3) := by decide +kernel
set_option maxHeartbeats 8000000 in
set_option maxRecDepth 100000 in
theorem c_X12_roomIn (l : Launch) (g : kG) (sz : Nat) (z : Nat → Nat) (kp : Nat) (xs : Nat → Int32) (D : Nat → Int32) (j : Nat) (x : Int32) (hj : j < 10) (hDI : DI D) : kMi l g yX12_roomIn cX12_roomIn 4 (some .int) 3 0 0 [.ref (z 0), .int (nI j), .int x] sz [(z 0, .inr (12, [.ref (z 1), .ref (z 2), .int (nI kp), .int (xs 0), .ref (z 3), .ref (z 4), .ref (z 5), .ref (z 6), .int (xs 1), .ref (z 7), .ref (z 8), .ref (z 9), .ref (z 10), .ref (z 11), .ref (z 12), .int (xs 2), .ref (z 13), .ref (z 14), .int (xs 3), .ref (z 15)])), (z 1, .inl (gI g, 461, .inl D))] (fun (r : Int32) (u : Unit) => r = -1 ∨ ∃ k : Nat, k < 5 ∧ r = nI k) (fun (u : Unit) => ([(z 0, .inr (12, [.ref (z 1), .ref (z 2), .int (nI kp), .int (xs 0), .ref (z 3), .ref (z 4), .ref (z 5), .ref (z 6), .int (xs 1), .ref (z 7), .ref (z 8), .ref (z 9), .ref (z 10), .ref (z 11), .ref (z 12), .int (xs 2), .ref (z 13), .ref (z 14), .int (xs 3), .ref (z 15)])), (z 1, .inl (gI g, 461, .inl D))] : va_W)) := by
  refine kMi.of (by decide) (Nat.le_of_ble_eq_true rfl) (fun p e s m below meth c A hx hb hr hml hown hts hlk hnm hKW hP hD hS hA ls hl => ?_)
  have hown : s.vm.findClass RX12 = some m.cls := hown
  have hl : lv_has ls 4 [(0, .ref (z 0)), (1, .int (nI j)), (2, .int x)] := hl
  refine k_hide hP hS (fun H locs hP hS => ?_)
  refine lv_iconst (v := 0) hx hb dX12_roomIn_0 (by decide) ?_
  refine lv_istore_n (lv' := [(3, .int 0), (0, .ref (z 0)), (1, .int (nI j)), (2, .int x)]) hx hb dX12_roomIn_1 rfl hl (by decide) rfl (fun ls hl => ?_)
  have L2 : ∀ (n2 : Nat) (i : Nat) (hfuel2 : 5 - i < n2) (hi : i ≤ 5) (H : Heap) (locs : List Loc) (hP : va_P g.1 vwCl [(z 0, .inr (12, [.ref (z 1), .ref (z 2), .int (nI kp), .int (xs 0), .ref (z 3), .ref (z 4), .ref (z 5), .ref (z 6), .int (xs 1), .ref (z 7), .ref (z 8), .ref (z 9), .ref (z 10), .ref (z 11), .ref (z 12), .int (xs 2), .ref (z 13), .ref (z 14), .int (xs 3), .ref (z 15)])), (z 1, .inl (gI g, 461, .inl D))] H) (hD : va_D A [(z 0, .inr (12, [.ref (z 1), .ref (z 2), .int (nI kp), .int (xs 0), .ref (z 3), .ref (z 4), .ref (z 5), .ref (z 6), .int (xs 1), .ref (z 7), .ref (z 8), .ref (z 9), .ref (z 10), .ref (z 11), .ref (z 12), .int (xs 2), .ref (z 13), .ref (z 14), .int (xs 3), .ref (z 15)])), (z 1, .inl (gI g, 461, .inl D))]) (hS : va_S A s.heap H locs) (ls : Array Slot) (hl : lv_has ls 4 [(3, .int (nI i)), (0, .ref (z 0)), (1, .int (nI j)), (2, .int x)]), W p l e (kR 3 0 0) s m ([.ref (z 0), .int (nI j), .int x] : List Value).toArray below meth c H locs 0 0 (kQi g A below ([.ref (z 0), .int (nI j), .int x] : List Value).toArray s 0 0 (fun (r : Int32) (u : Unit) => r = -1 ∨ ∃ k : Nat, k < 5 ∧ r = nI k) (fun (u : Unit) => ([(z 0, .inr (12, [.ref (z 1), .ref (z 2), .int (nI kp), .int (xs 0), .ref (z 3), .ref (z 4), .ref (z 5), .ref (z 6), .int (xs 1), .ref (z 7), .ref (z 8), .ref (z 9), .ref (z 10), .ref (z 11), .ref (z 12), .int (xs 2), .ref (z 13), .ref (z 14), .int (xs 3), .ref (z 15)])), (z 1, .inl (gI g, 461, .inl D))] : va_W))) (F0 m 2 ls []) := by
    intro n2
    induction n2 with
    | zero => intro i hfuel2; exact absurd hfuel2 (Nat.not_lt_zero _)
    | succ n2 ih2 =>
      intro i hfuel2 hi H locs hP hD hS ls hl
      refine lv_iload_n hx hb dX12_roomIn_2 rfl (lv_at hl 0 rfl) ?_
      refine lv_aload_n hx hb dX12_roomIn_3 rfl (lv_at hl 1 rfl) ?_
      refine va_get (ci := 12) (C := RX12) (T := TX12) (N := 20) hx hb hts inlX12 hown hKW.1 hP 0 rfl rfl 0 (by decide) (hts _ wd_6_5) (fun _ h => h) rfl dX12_roomIn_4 ?_
      refine lv_iconst (v := 0) hx hb dX12_roomIn_7 (by decide) ?_
      obtain ⟨dk_1, hdk_1a, hdk_1b, edk_1⟩ := DI.n0 hDI
      refine va_iald hx hb hKW.1 hP 1 0 rfl rfl (show ¬ _ by decide) dX12_roomIn_8 ?_
      refine k_top (y := nI dk_1) edk_1 ?_
      refine lv_icmp_ge (tgt := 39) hx hb dX12_roomIn_9 (by decide) (fun c_2 => ?_) (fun c_2 => ?_)
      · have c_2n : dk_1 ≤ i := (k_leI (a := dk_1) (b := i) (by omega) (by omega)).mp c_2
        refine lv_iconst (v := (-1)) hx hb dX12_roomIn_39 (by decide) ?_
        exact k_iret () [0, 1] hx hb hr hlk hP hD hS (Or.inl rfl) rfl rfl rfl (Nat.le_of_ble_eq_true rfl) (Nat.le_of_ble_eq_true rfl) dX12_roomIn_40
      · have c_2n : i < dk_1 := Nat.not_le.mp (fun h => c_2 ((k_leI (a := dk_1) (b := i) (by omega) (by omega)).mpr h))
        refine lv_aload_n hx hb dX12_roomIn_12 rfl (lv_at hl 1 rfl) ?_
        refine lv_iload_n hx hb dX12_roomIn_13 rfl (lv_at hl 0 rfl) ?_
        refine lv_iload_n hx hb dX12_roomIn_14 rfl (lv_at hl 3 rfl) ?_
        refine lv_aload_n hx hb dX12_roomIn_15 rfl (lv_at hl 1 rfl) ?_
        refine va_get (ci := 12) (C := RX12) (T := TX12) (N := 20) hx hb hts inlX12 hown hKW.1 hP 0 rfl rfl 0 (by decide) (hts _ wd_6_5) (fun _ h => h) rfl dX12_roomIn_16 ?_
        refine lv_bipush (v := 47) hx hb dX12_roomIn_19 (by decide) ?_
        refine lv_iload_n hx hb dX12_roomIn_21 rfl (lv_at hl 2 rfl) ?_
        refine lv_iadd hx hb dX12_roomIn_22 ?_
        refine k_top (y := nI (j + 47)) (by rw [Nat.add_comm]; exact nI_add 47 j) ?_
        refine va_iald hx hb hKW.1 hP 1 0 rfl rfl (vp_in_nI (by omega) (by decide)) dX12_roomIn_23 ?_
        refine lv_topi (fun x_3 ex_3 => ?_)
        refine lv_isub hx hb dX12_roomIn_24 ?_
        refine lv_topi (fun x_4 ex_4 => ?_)
        refine k_Vi [0, 1] [] 0 12 (wr := []) hx hb hml hown hts hKW hP hD hS hA hl.1 (c_X12_takes l g _ z kp xs D i x_4 (by first | assumption | omega | decide)) rfl rfl rfl wd_15_23 wd_1_5 wd_15_20 wd_15_21 wd_15_22 yd_X12_takes ⟨(Nat.le_of_ble_eq_true rfl), (Nat.le_of_ble_eq_true rfl)⟩ rfl rfl rfl rfl (by decide) rfl (Nat.le_of_ble_eq_true rfl) dX12_roomIn_25 ⟨(Nat.le_of_ble_eq_true rfl), (Nat.le_of_ble_eq_true rfl)⟩ (fun r_5 u_6 H locs hw_7 hP hD hS => ?_)
        have hP : va_P g.1 vwCl [(z 0, .inr (12, [.ref (z 1), .ref (z 2), .int (nI kp), .int (xs 0), .ref (z 3), .ref (z 4), .ref (z 5), .ref (z 6), .int (xs 1), .ref (z 7), .ref (z 8), .ref (z 9), .ref (z 10), .ref (z 11), .ref (z 12), .int (xs 2), .ref (z 13), .ref (z 14), .int (xs 3), .ref (z 15)])), (z 1, .inl (gI g, 461, .inl D))] H := hP
        have hD : va_D A [(z 0, .inr (12, [.ref (z 1), .ref (z 2), .int (nI kp), .int (xs 0), .ref (z 3), .ref (z 4), .ref (z 5), .ref (z 6), .int (xs 1), .ref (z 7), .ref (z 8), .ref (z 9), .ref (z 10), .ref (z 11), .ref (z 12), .int (xs 2), .ref (z 13), .ref (z 14), .int (xs 3), .ref (z 15)])), (z 1, .inl (gI g, 461, .inl D))] := hD
        rcases (show r_5 = 1 ∨ r_5 = 0 from hw_7) with rfl | rfl <;> clear hw_7
        · refine lv_if_eq (tgt := 33) hx hb dX12_roomIn_28 (by decide) (fun c => absurd c (by decide)) (fun _ => ?_)
          refine lv_iload_n hx hb dX12_roomIn_31 rfl (lv_at hl 0 rfl) ?_
          exact k_iret () [0, 1] hx hb hr hlk hP hD hS (Or.inr ⟨i, by omega, rfl⟩) rfl rfl rfl (Nat.le_of_ble_eq_true rfl) (Nat.le_of_ble_eq_true rfl) dX12_roomIn_32
        · refine lv_if_eq (tgt := 33) hx hb dX12_roomIn_28 (by decide) (fun _ => ?_) (fun c => absurd c (by decide))
          refine lv_iinc (v := nI (i + 1)) (lv' := [(3, .int (nI (i + 1))), (0, .ref (z 0)), (1, .int (nI j)), (2, .int x)]) hx hb dX12_roomIn_33 hl (k := 0) rfl (nI_add i 1) (by decide) rfl (fun ls hl => ?_)
          refine lv_goto (tgt := 2) hx hb dX12_roomIn_36 (by decide) ?_
          exact ih2 (i + 1) (by omega) (by first | assumption | omega) H locs (hP.sub [0, 1] rfl) (hD.sub [0, 1] (by decide) rfl) hS ls (lv_sub hl [0, 1, 2, 3] rfl)
  exact L2 (5 - 0 + 1) 0 (Nat.lt_succ_self _) (by first | assumption | omega) H locs (hP.sub [0, 1] rfl) (hD.sub [0, 1] (by decide) rfl) hS ls (lv_sub hl [0, 1, 2, 3] rfl)
theorem dX12_childrenIn_0 : decode cX12_childrenIn 0 = .ok (.iconst 0, 1) := by decide +kernel
theorem dX12_childrenIn_1 : decode cX12_childrenIn 1 = .ok (.istore_n 2, 1) := by decide +kernel
theorem dX12_childrenIn_2 : decode cX12_childrenIn 2 = .ok (.iconst 0, 1) := by decide +kernel
theorem dX12_childrenIn_3 : decode cX12_childrenIn 3 = .ok (.istore_n 3, 1) := by decide +kernel
theorem dX12_childrenIn_4 : decode cX12_childrenIn 4 = .ok (.iload_n 3, 1) := by decide +kernel
theorem dX12_childrenIn_5 : decode cX12_childrenIn 5 = .ok (.aload_n 0, 1) := by decide +kernel
theorem dX12_childrenIn_6 : decode cX12_childrenIn 6 = .ok (.getfield 7, 3) := by decide +kernel
theorem dX12_childrenIn_9 : decode cX12_childrenIn 9 = .ok (.iconst 2, 1) := by decide +kernel
theorem dX12_childrenIn_10 : decode cX12_childrenIn 10 = .ok (.iaload, 1) := by decide +kernel
theorem dX12_childrenIn_11 : decode cX12_childrenIn 11 = .ok (.if_icmp .ge 32, 3) := by decide +kernel
theorem dX12_childrenIn_43 : decode cX12_childrenIn 43 = .ok (.iload_n 2, 1) := by decide +kernel
theorem dX12_childrenIn_44 : decode cX12_childrenIn 44 = .ok (.ireturn, 1) := by decide +kernel
theorem dX12_childrenIn_14 : decode cX12_childrenIn 14 = .ok (.iload_n 2, 1) := by decide +kernel
theorem dX12_childrenIn_15 : decode cX12_childrenIn 15 = .ok (.aload_n 0, 1) := by decide +kernel
theorem dX12_childrenIn_16 : decode cX12_childrenIn 16 = .ok (.getfield 7, 3) := by decide +kernel
theorem dX12_childrenIn_19 : decode cX12_childrenIn 19 = .ok (.bipush 97, 2) := by decide +kernel
theorem dX12_childrenIn_21 : decode cX12_childrenIn 21 = .ok (.iload_n 3, 1) := by decide +kernel
theorem dX12_childrenIn_22 : decode cX12_childrenIn 22 = .ok (.iadd, 1) := by decide +kernel
theorem dX12_childrenIn_23 : decode cX12_childrenIn 23 = .ok (.iaload, 1) := by decide +kernel
theorem dX12_childrenIn_24 : decode cX12_childrenIn 24 = .ok (.iload_n 1, 1) := by decide +kernel
theorem dX12_childrenIn_25 : decode cX12_childrenIn 25 = .ok (.if_icmp .ne 9, 3) := by decide +kernel
theorem dX12_childrenIn_34 : decode cX12_childrenIn 34 = .ok (.iconst 0, 1) := by decide +kernel
theorem dX12_childrenIn_35 : decode cX12_childrenIn 35 = .ok (.ior, 1) := by decide +kernel
theorem dX12_childrenIn_36 : decode cX12_childrenIn 36 = .ok (.istore_n 2, 1) := by decide +kernel
theorem dX12_childrenIn_37 : decode cX12_childrenIn 37 = .ok (.iinc 3 1, 3) := by decide +kernel
theorem dX12_childrenIn_40 : decode cX12_childrenIn 40 = .ok (.goto (-36), 3) := by decide +kernel
theorem dX12_childrenIn_28 : decode cX12_childrenIn 28 = .ok (.iconst 1, 1) := by decide +kernel
theorem dX12_childrenIn_29 : decode cX12_childrenIn 29 = .ok (.iload_n 3, 1) := by decide +kernel
theorem dX12_childrenIn_30 : decode cX12_childrenIn 30 = .ok (.ishl, 1) := by decide +kernel
theorem dX12_childrenIn_31 : decode cX12_childrenIn 31 = .ok (.goto 4, 3) := by decide +kernel
set_option maxHeartbeats 8000000 in
set_option maxRecDepth 100000 in
theorem c_X12_childrenIn (l : Launch) (g : kG) (sz : Nat) (z : Nat → Nat) (kp : Nat) (xs : Nat → Int32) (D : Nat → Int32) (x : Int32) (hDI : DI D) : kMi l g yX12_childrenIn cX12_childrenIn 4 (some .int) 1 0 0 [.ref (z 0), .int x] sz [(z 0, .inr (12, [.ref (z 1), .ref (z 2), .int (nI kp), .int (xs 0), .ref (z 3), .ref (z 4), .ref (z 5), .ref (z 6), .int (xs 1), .ref (z 7), .ref (z 8), .ref (z 9), .ref (z 10), .ref (z 11), .ref (z 12), .int (xs 2), .ref (z 13), .ref (z 14), .int (xs 3), .ref (z 15)])), (z 1, .inl (gI g, 461, .inl D))] (fun (r : Int32) (u : Unit) => True) (fun (u : Unit) => ([(z 0, .inr (12, [.ref (z 1), .ref (z 2), .int (nI kp), .int (xs 0), .ref (z 3), .ref (z 4), .ref (z 5), .ref (z 6), .int (xs 1), .ref (z 7), .ref (z 8), .ref (z 9), .ref (z 10), .ref (z 11), .ref (z 12), .int (xs 2), .ref (z 13), .ref (z 14), .int (xs 3), .ref (z 15)])), (z 1, .inl (gI g, 461, .inl D))] : va_W)) := by
  refine kMi.of (by decide) (Nat.le_of_ble_eq_true rfl) (fun p e s m below meth c A hx hb hr hml hown hts hlk hnm hKW hP hD hS hA ls hl => ?_)
  have hown : s.vm.findClass RX12 = some m.cls := hown
  have hl : lv_has ls 4 [(0, .ref (z 0)), (1, .int x)] := hl
  refine k_hide hP hS (fun H locs hP hS => ?_)
  refine lv_iconst (v := 0) hx hb dX12_childrenIn_0 (by decide) ?_
  refine lv_istore_n (lv' := [(2, .int 0), (0, .ref (z 0)), (1, .int x)]) hx hb dX12_childrenIn_1 rfl hl (by decide) rfl (fun ls hl => ?_)
  refine lv_iconst (v := 0) hx hb dX12_childrenIn_2 (by decide) ?_
  refine lv_istore_n (lv' := [(3, .int 0), (2, .int 0), (0, .ref (z 0)), (1, .int x)]) hx hb dX12_childrenIn_3 rfl hl (by decide) rfl (fun ls hl => ?_)
  have L4 : ∀ (n4 : Nat) (i : Nat) (x2 : Int32) (hfuel4 : 10 - i < n4) (hi : i ≤ 10) (H : Heap) (locs : List Loc) (hP : va_P g.1 vwCl [(z 0, .inr (12, [.ref (z 1), .ref (z 2), .int (nI kp), .int (xs 0), .ref (z 3), .ref (z 4), .ref (z 5), .ref (z 6), .int (xs 1), .ref (z 7), .ref (z 8), .ref (z 9), .ref (z 10), .ref (z 11), .ref (z 12), .int (xs 2), .ref (z 13), .ref (z 14), .int (xs 3), .ref (z 15)])), (z 1, .inl (gI g, 461, .inl D))] H) (hD : va_D A [(z 0, .inr (12, [.ref (z 1), .ref (z 2), .int (nI kp), .int (xs 0), .ref (z 3), .ref (z 4), .ref (z 5), .ref (z 6), .int (xs 1), .ref (z 7), .ref (z 8), .ref (z 9), .ref (z 10), .ref (z 11), .ref (z 12), .int (xs 2), .ref (z 13), .ref (z 14), .int (xs 3), .ref (z 15)])), (z 1, .inl (gI g, 461, .inl D))]) (hS : va_S A s.heap H locs) (ls : Array Slot) (hl : lv_has ls 4 [(3, .int (nI i)), (2, .int x2), (0, .ref (z 0)), (1, .int x)]), W p l e (kR 1 0 0) s m ([.ref (z 0), .int x] : List Value).toArray below meth c H locs 0 0 (kQi g A below ([.ref (z 0), .int x] : List Value).toArray s 0 0 (fun (r : Int32) (u : Unit) => True) (fun (u : Unit) => ([(z 0, .inr (12, [.ref (z 1), .ref (z 2), .int (nI kp), .int (xs 0), .ref (z 3), .ref (z 4), .ref (z 5), .ref (z 6), .int (xs 1), .ref (z 7), .ref (z 8), .ref (z 9), .ref (z 10), .ref (z 11), .ref (z 12), .int (xs 2), .ref (z 13), .ref (z 14), .int (xs 3), .ref (z 15)])), (z 1, .inl (gI g, 461, .inl D))] : va_W))) (F0 m 4 ls []) := by
    intro n4
    induction n4 with
    | zero => intro i x2 hfuel4; exact absurd hfuel4 (Nat.not_lt_zero _)
    | succ n4 ih4 =>
      intro i x2 hfuel4 hi H locs hP hD hS ls hl
      refine lv_iload_n hx hb dX12_childrenIn_4 rfl (lv_at hl 0 rfl) ?_
      refine lv_aload_n hx hb dX12_childrenIn_5 rfl (lv_at hl 2 rfl) ?_
      refine va_get (ci := 12) (C := RX12) (T := TX12) (N := 20) hx hb hts inlX12 hown hKW.1 hP 0 rfl rfl 0 (by decide) (hts _ wd_6_5) (fun _ h => h) rfl dX12_childrenIn_6 ?_
      refine lv_iconst (v := 2) hx hb dX12_childrenIn_9 (by decide) ?_
      obtain ⟨dk_1, hdk_1a, hdk_1b, edk_1⟩ := DI.n2 hDI
      refine va_iald hx hb hKW.1 hP 1 0 rfl rfl (show ¬ _ by decide) dX12_childrenIn_10 ?_
      refine k_top (y := nI dk_1) edk_1 ?_
      refine lv_icmp_ge (tgt := 43) hx hb dX12_childrenIn_11 (by decide) (fun c_2 => ?_) (fun c_2 => ?_)
      · have c_2n : dk_1 ≤ i := (k_leI (a := dk_1) (b := i) (by omega) (by omega)).mp c_2
        refine lv_iload_n hx hb dX12_childrenIn_43 rfl (lv_at hl 1 rfl) ?_
        exact k_iret () [0, 1] hx hb hr hlk hP hD hS trivial rfl rfl rfl (Nat.le_of_ble_eq_true rfl) (Nat.le_of_ble_eq_true rfl) dX12_childrenIn_44
      · have c_2n : i < dk_1 := Nat.not_le.mp (fun h => c_2 ((k_leI (a := dk_1) (b := i) (by omega) (by omega)).mpr h))
        refine lv_iload_n hx hb dX12_childrenIn_14 rfl (lv_at hl 1 rfl) ?_
        refine lv_aload_n hx hb dX12_childrenIn_15 rfl (lv_at hl 2 rfl) ?_
        refine va_get (ci := 12) (C := RX12) (T := TX12) (N := 20) hx hb hts inlX12 hown hKW.1 hP 0 rfl rfl 0 (by decide) (hts _ wd_6_5) (fun _ h => h) rfl dX12_childrenIn_16 ?_
        refine lv_bipush (v := 97) hx hb dX12_childrenIn_19 (by decide) ?_
        refine lv_iload_n hx hb dX12_childrenIn_21 rfl (lv_at hl 0 rfl) ?_
        refine lv_iadd hx hb dX12_childrenIn_22 ?_
        refine k_top (y := nI (i + 97)) (by rw [Nat.add_comm]; exact nI_add 97 i) ?_
        refine va_iald hx hb hKW.1 hP 1 0 rfl rfl (vp_in_nI (by omega) (by decide)) dX12_childrenIn_23 ?_
        refine lv_topi (fun x_3 ex_3 => ?_)
        refine lv_iload_n hx hb dX12_childrenIn_24 rfl (lv_at hl 3 rfl) ?_
        refine lv_icmp_ne (tgt := 34) hx hb dX12_childrenIn_25 (by decide) (fun c_4 => ?_) (fun c_4 => ?_)
        · refine lv_iconst (v := 0) hx hb dX12_childrenIn_34 (by decide) ?_
          refine lv_ior hx hb dX12_childrenIn_35 ?_
          refine lv_topi (fun x_5 ex_5 => ?_)
          refine lv_istore_n (lv' := [(2, .int x_5), (3, .int (nI i)), (0, .ref (z 0)), (1, .int x)]) hx hb dX12_childrenIn_36 rfl hl (by decide) rfl (fun ls hl => ?_)
          refine lv_iinc (v := nI (i + 1)) (lv' := [(3, .int (nI (i + 1))), (2, .int x_5), (0, .ref (z 0)), (1, .int x)]) hx hb dX12_childrenIn_37 hl (k := 1) rfl (nI_add i 1) (by decide) rfl (fun ls hl => ?_)
          refine lv_goto (tgt := 4) hx hb dX12_childrenIn_40 (by decide) ?_
          exact ih4 (i + 1) x_5 (by omega) (by first | assumption | omega) H locs (hP.sub [0, 1] rfl) (hD.sub [0, 1] (by decide) rfl) hS ls (lv_sub hl [0, 1, 2, 3] rfl)
        · refine lv_iconst (v := 1) hx hb dX12_childrenIn_28 (by decide) ?_
          refine lv_iload_n hx hb dX12_childrenIn_29 rfl (lv_at hl 0 rfl) ?_
          refine lv_ishl hx hb dX12_childrenIn_30 ?_
          refine lv_topi (fun x_6 ex_6 => ?_)
          refine lv_goto (tgt := 35) hx hb dX12_childrenIn_31 (by decide) ?_
          refine lv_ior hx hb dX12_childrenIn_35 ?_
          refine lv_topi (fun x_7 ex_7 => ?_)
          refine lv_istore_n (lv' := [(2, .int x_7), (3, .int (nI i)), (0, .ref (z 0)), (1, .int x)]) hx hb dX12_childrenIn_36 rfl hl (by decide) rfl (fun ls hl => ?_)
          refine lv_iinc (v := nI (i + 1)) (lv' := [(3, .int (nI (i + 1))), (2, .int x_7), (0, .ref (z 0)), (1, .int x)]) hx hb dX12_childrenIn_37 hl (k := 1) rfl (nI_add i 1) (by decide) rfl (fun ls hl => ?_)
          refine lv_goto (tgt := 4) hx hb dX12_childrenIn_40 (by decide) ?_
          exact ih4 (i + 1) x_7 (by omega) (by first | assumption | omega) H locs (hP.sub [0, 1] rfl) (hD.sub [0, 1] (by decide) rfl) hS ls (lv_sub hl [0, 1, 2, 3] rfl)
  exact L4 (10 - 0 + 1) 0 0 (Nat.lt_succ_self _) (by first | assumption | omega) H locs (hP.sub [0, 1] rfl) (hD.sub [0, 1] (by decide) rfl) hS ls (lv_sub hl [0, 1, 2, 3] rfl)
theorem dX12_handsIn_0 : decode cX12_handsIn 0 = .ok (.iconst 0, 1) := by decide +kernel
theorem dX12_handsIn_1 : decode cX12_handsIn 1 = .ok (.istore_n 2, 1) := by decide +kernel
theorem dX12_handsIn_2 : decode cX12_handsIn 2 = .ok (.iconst 0, 1) := by decide +kernel
theorem dX12_handsIn_3 : decode cX12_handsIn 3 = .ok (.istore_n 3, 1) := by decide +kernel
theorem dX12_handsIn_4 : decode cX12_handsIn 4 = .ok (.iload_n 3, 1) := by decide +kernel
theorem dX12_handsIn_5 : decode cX12_handsIn 5 = .ok (.aload_n 0, 1) := by decide +kernel
theorem dX12_handsIn_6 : decode cX12_handsIn 6 = .ok (.getfield 7, 3) := by decide +kernel
theorem dX12_handsIn_9 : decode cX12_handsIn 9 = .ok (.iconst 1, 1) := by decide +kernel
theorem dX12_handsIn_10 : decode cX12_handsIn 10 = .ok (.iaload, 1) := by decide +kernel
theorem dX12_handsIn_11 : decode cX12_handsIn 11 = .ok (.if_icmp .ge 32, 3) := by decide +kernel
theorem dX12_handsIn_43 : decode cX12_handsIn 43 = .ok (.iload_n 2, 1) := by decide +kernel
theorem dX12_handsIn_44 : decode cX12_handsIn 44 = .ok (.ireturn, 1) := by decide +kernel
theorem dX12_handsIn_14 : decode cX12_handsIn 14 = .ok (.iload_n 2, 1) := by decide +kernel
theorem dX12_handsIn_15 : decode cX12_handsIn 15 = .ok (.aload_n 0, 1) := by decide +kernel
theorem dX12_handsIn_16 : decode cX12_handsIn 16 = .ok (.getfield 7, 3) := by decide +kernel
theorem dX12_handsIn_19 : decode cX12_handsIn 19 = .ok (.bipush 33, 2) := by decide +kernel
theorem dX12_handsIn_21 : decode cX12_handsIn 21 = .ok (.iload_n 3, 1) := by decide +kernel
theorem dX12_handsIn_22 : decode cX12_handsIn 22 = .ok (.iadd, 1) := by decide +kernel
theorem dX12_handsIn_23 : decode cX12_handsIn 23 = .ok (.iaload, 1) := by decide +kernel
theorem dX12_handsIn_24 : decode cX12_handsIn 24 = .ok (.iload_n 1, 1) := by decide +kernel
theorem dX12_handsIn_25 : decode cX12_handsIn 25 = .ok (.if_icmp .ne 9, 3) := by decide +kernel
theorem dX12_handsIn_34 : decode cX12_handsIn 34 = .ok (.iconst 0, 1) := by decide +kernel
theorem dX12_handsIn_35 : decode cX12_handsIn 35 = .ok (.ior, 1) := by decide +kernel
theorem dX12_handsIn_36 : decode cX12_handsIn 36 = .ok (.istore_n 2, 1) := by decide +kernel
theorem dX12_handsIn_37 : decode cX12_handsIn 37 = .ok (.iinc 3 1, 3) := by decide +kernel
theorem dX12_handsIn_40 : decode cX12_handsIn 40 = .ok (.goto (-36), 3) := by decide +kernel
theorem dX12_handsIn_28 : decode cX12_handsIn 28 = .ok (.iconst 1, 1) := by decide +kernel
theorem dX12_handsIn_29 : decode cX12_handsIn 29 = .ok (.iload_n 3, 1) := by decide +kernel
theorem dX12_handsIn_30 : decode cX12_handsIn 30 = .ok (.ishl, 1) := by decide +kernel
theorem dX12_handsIn_31 : decode cX12_handsIn 31 = .ok (.goto 4, 3) := by decide +kernel
set_option maxHeartbeats 8000000 in
set_option maxRecDepth 100000 in
theorem c_X12_handsIn (l : Launch) (g : kG) (sz : Nat) (z : Nat → Nat) (kp : Nat) (xs : Nat → Int32) (D : Nat → Int32) (x : Int32) (hDI : DI D) : kMi l g yX12_handsIn cX12_handsIn 4 (some .int) 1 0 0 [.ref (z 0), .int x] sz [(z 0, .inr (12, [.ref (z 1), .ref (z 2), .int (nI kp), .int (xs 0), .ref (z 3), .ref (z 4), .ref (z 5), .ref (z 6), .int (xs 1), .ref (z 7), .ref (z 8), .ref (z 9), .ref (z 10), .ref (z 11), .ref (z 12), .int (xs 2), .ref (z 13), .ref (z 14), .int (xs 3), .ref (z 15)])), (z 1, .inl (gI g, 461, .inl D))] (fun (r : Int32) (u : Unit) => True) (fun (u : Unit) => ([(z 0, .inr (12, [.ref (z 1), .ref (z 2), .int (nI kp), .int (xs 0), .ref (z 3), .ref (z 4), .ref (z 5), .ref (z 6), .int (xs 1), .ref (z 7), .ref (z 8), .ref (z 9), .ref (z 10), .ref (z 11), .ref (z 12), .int (xs 2), .ref (z 13), .ref (z 14), .int (xs 3), .ref (z 15)])), (z 1, .inl (gI g, 461, .inl D))] : va_W)) := by
  refine kMi.of (by decide) (Nat.le_of_ble_eq_true rfl) (fun p e s m below meth c A hx hb hr hml hown hts hlk hnm hKW hP hD hS hA ls hl => ?_)
  have hown : s.vm.findClass RX12 = some m.cls := hown
  have hl : lv_has ls 4 [(0, .ref (z 0)), (1, .int x)] := hl
  refine k_hide hP hS (fun H locs hP hS => ?_)
  refine lv_iconst (v := 0) hx hb dX12_handsIn_0 (by decide) ?_
  refine lv_istore_n (lv' := [(2, .int 0), (0, .ref (z 0)), (1, .int x)]) hx hb dX12_handsIn_1 rfl hl (by decide) rfl (fun ls hl => ?_)
  refine lv_iconst (v := 0) hx hb dX12_handsIn_2 (by decide) ?_
  refine lv_istore_n (lv' := [(3, .int 0), (2, .int 0), (0, .ref (z 0)), (1, .int x)]) hx hb dX12_handsIn_3 rfl hl (by decide) rfl (fun ls hl => ?_)
  have L4 : ∀ (n4 : Nat) (i : Nat) (x2 : Int32) (hfuel4 : 7 - i < n4) (hi : i ≤ 7) (H : Heap) (locs : List Loc) (hP : va_P g.1 vwCl [(z 0, .inr (12, [.ref (z 1), .ref (z 2), .int (nI kp), .int (xs 0), .ref (z 3), .ref (z 4), .ref (z 5), .ref (z 6), .int (xs 1), .ref (z 7), .ref (z 8), .ref (z 9), .ref (z 10), .ref (z 11), .ref (z 12), .int (xs 2), .ref (z 13), .ref (z 14), .int (xs 3), .ref (z 15)])), (z 1, .inl (gI g, 461, .inl D))] H) (hD : va_D A [(z 0, .inr (12, [.ref (z 1), .ref (z 2), .int (nI kp), .int (xs 0), .ref (z 3), .ref (z 4), .ref (z 5), .ref (z 6), .int (xs 1), .ref (z 7), .ref (z 8), .ref (z 9), .ref (z 10), .ref (z 11), .ref (z 12), .int (xs 2), .ref (z 13), .ref (z 14), .int (xs 3), .ref (z 15)])), (z 1, .inl (gI g, 461, .inl D))]) (hS : va_S A s.heap H locs) (ls : Array Slot) (hl : lv_has ls 4 [(3, .int (nI i)), (2, .int x2), (0, .ref (z 0)), (1, .int x)]), W p l e (kR 1 0 0) s m ([.ref (z 0), .int x] : List Value).toArray below meth c H locs 0 0 (kQi g A below ([.ref (z 0), .int x] : List Value).toArray s 0 0 (fun (r : Int32) (u : Unit) => True) (fun (u : Unit) => ([(z 0, .inr (12, [.ref (z 1), .ref (z 2), .int (nI kp), .int (xs 0), .ref (z 3), .ref (z 4), .ref (z 5), .ref (z 6), .int (xs 1), .ref (z 7), .ref (z 8), .ref (z 9), .ref (z 10), .ref (z 11), .ref (z 12), .int (xs 2), .ref (z 13), .ref (z 14), .int (xs 3), .ref (z 15)])), (z 1, .inl (gI g, 461, .inl D))] : va_W))) (F0 m 4 ls []) := by
    intro n4
    induction n4 with
    | zero => intro i x2 hfuel4; exact absurd hfuel4 (Nat.not_lt_zero _)
    | succ n4 ih4 =>
      intro i x2 hfuel4 hi H locs hP hD hS ls hl
      refine lv_iload_n hx hb dX12_handsIn_4 rfl (lv_at hl 0 rfl) ?_
      refine lv_aload_n hx hb dX12_handsIn_5 rfl (lv_at hl 2 rfl) ?_
      refine va_get (ci := 12) (C := RX12) (T := TX12) (N := 20) hx hb hts inlX12 hown hKW.1 hP 0 rfl rfl 0 (by decide) (hts _ wd_6_5) (fun _ h => h) rfl dX12_handsIn_6 ?_
      refine lv_iconst (v := 1) hx hb dX12_handsIn_9 (by decide) ?_
      obtain ⟨dk_1, hdk_1a, hdk_1b, edk_1⟩ := DI.n1 hDI
      refine va_iald hx hb hKW.1 hP 1 0 rfl rfl (show ¬ _ by decide) dX12_handsIn_10 ?_
      refine k_top (y := nI dk_1) edk_1 ?_
      refine lv_icmp_ge (tgt := 43) hx hb dX12_handsIn_11 (by decide) (fun c_2 => ?_) (fun c_2 => ?_)
      · have c_2n : dk_1 ≤ i := (k_leI (a := dk_1) (b := i) (by omega) (by omega)).mp c_2
        refine lv_iload_n hx hb dX12_handsIn_43 rfl (lv_at hl 1 rfl) ?_
        exact k_iret () [0, 1] hx hb hr hlk hP hD hS trivial rfl rfl rfl (Nat.le_of_ble_eq_true rfl) (Nat.le_of_ble_eq_true rfl) dX12_handsIn_44
      · have c_2n : i < dk_1 := Nat.not_le.mp (fun h => c_2 ((k_leI (a := dk_1) (b := i) (by omega) (by omega)).mpr h))
        refine lv_iload_n hx hb dX12_handsIn_14 rfl (lv_at hl 1 rfl) ?_
        refine lv_aload_n hx hb dX12_handsIn_15 rfl (lv_at hl 2 rfl) ?_
        refine va_get (ci := 12) (C := RX12) (T := TX12) (N := 20) hx hb hts inlX12 hown hKW.1 hP 0 rfl rfl 0 (by decide) (hts _ wd_6_5) (fun _ h => h) rfl dX12_handsIn_16 ?_
        refine lv_bipush (v := 33) hx hb dX12_handsIn_19 (by decide) ?_
        refine lv_iload_n hx hb dX12_handsIn_21 rfl (lv_at hl 0 rfl) ?_
        refine lv_iadd hx hb dX12_handsIn_22 ?_
        refine k_top (y := nI (i + 33)) (by rw [Nat.add_comm]; exact nI_add 33 i) ?_
        refine va_iald hx hb hKW.1 hP 1 0 rfl rfl (vp_in_nI (by omega) (by decide)) dX12_handsIn_23 ?_
        refine lv_topi (fun x_3 ex_3 => ?_)
        refine lv_iload_n hx hb dX12_handsIn_24 rfl (lv_at hl 3 rfl) ?_
        refine lv_icmp_ne (tgt := 34) hx hb dX12_handsIn_25 (by decide) (fun c_4 => ?_) (fun c_4 => ?_)
        · refine lv_iconst (v := 0) hx hb dX12_handsIn_34 (by decide) ?_
          refine lv_ior hx hb dX12_handsIn_35 ?_
          refine lv_topi (fun x_5 ex_5 => ?_)
          refine lv_istore_n (lv' := [(2, .int x_5), (3, .int (nI i)), (0, .ref (z 0)), (1, .int x)]) hx hb dX12_handsIn_36 rfl hl (by decide) rfl (fun ls hl => ?_)
          refine lv_iinc (v := nI (i + 1)) (lv' := [(3, .int (nI (i + 1))), (2, .int x_5), (0, .ref (z 0)), (1, .int x)]) hx hb dX12_handsIn_37 hl (k := 1) rfl (nI_add i 1) (by decide) rfl (fun ls hl => ?_)
          refine lv_goto (tgt := 4) hx hb dX12_handsIn_40 (by decide) ?_
          exact ih4 (i + 1) x_5 (by omega) (by first | assumption | omega) H locs (hP.sub [0, 1] rfl) (hD.sub [0, 1] (by decide) rfl) hS ls (lv_sub hl [0, 1, 2, 3] rfl)
        · refine lv_iconst (v := 1) hx hb dX12_handsIn_28 (by decide) ?_
          refine lv_iload_n hx hb dX12_handsIn_29 rfl (lv_at hl 0 rfl) ?_
          refine lv_ishl hx hb dX12_handsIn_30 ?_
          refine lv_topi (fun x_6 ex_6 => ?_)
          refine lv_goto (tgt := 35) hx hb dX12_handsIn_31 (by decide) ?_
          refine lv_ior hx hb dX12_handsIn_35 ?_
          refine lv_topi (fun x_7 ex_7 => ?_)
          refine lv_istore_n (lv' := [(2, .int x_7), (3, .int (nI i)), (0, .ref (z 0)), (1, .int x)]) hx hb dX12_handsIn_36 rfl hl (by decide) rfl (fun ls hl => ?_)
          refine lv_iinc (v := nI (i + 1)) (lv' := [(3, .int (nI (i + 1))), (2, .int x_7), (0, .ref (z 0)), (1, .int x)]) hx hb dX12_handsIn_37 hl (k := 1) rfl (nI_add i 1) (by decide) rfl (fun ls hl => ?_)
          refine lv_goto (tgt := 4) hx hb dX12_handsIn_40 (by decide) ?_
          exact ih4 (i + 1) x_7 (by omega) (by first | assumption | omega) H locs (hP.sub [0, 1] rfl) (hD.sub [0, 1] (by decide) rfl) hS ls (lv_sub hl [0, 1, 2, 3] rfl)
  exact L4 (7 - 0 + 1) 0 0 (Nat.lt_succ_self _) (by first | assumption | omega) H locs (hP.sub [0, 1] rfl) (hD.sub [0, 1] (by decide) rfl) hS ls (lv_sub hl [0, 1, 2, 3] rfl)
theorem dX12_areEnough_0 : decode cX12_areEnough 0 = .ok (.iconst 0, 1) := by decide +kernel
theorem dX12_areEnough_1 : decode cX12_areEnough 1 = .ok (.istore 4, 2) := by decide +kernel
theorem dX12_areEnough_3 : decode cX12_areEnough 3 = .ok (.iconst 0, 1) := by decide +kernel
theorem dX12_areEnough_4 : decode cX12_areEnough 4 = .ok (.istore 5, 2) := by decide +kernel
theorem dX12_areEnough_6 : decode cX12_areEnough 6 = .ok (.iconst 0, 1) := by decide +kernel
theorem dX12_areEnough_7 : decode cX12_areEnough 7 = .ok (.istore 6, 2) := by decide +kernel
theorem dX12_areEnough_9 : decode cX12_areEnough 9 = .ok (.iload 6, 2) := by decide +kernel
theorem dX12_areEnough_11 : decode cX12_areEnough 11 = .ok (.aload_n 0, 1) := by decide +kernel
theorem dX12_areEnough_12 : decode cX12_areEnough 12 = .ok (.getfield 7, 3) := by decide +kernel
theorem dX12_areEnough_15 : decode cX12_areEnough 15 = .ok (.iconst 1, 1) := by decide +kernel
theorem dX12_areEnough_16 : decode cX12_areEnough 16 = .ok (.iaload, 1) := by decide +kernel
theorem dX12_areEnough_17 : decode cX12_areEnough 17 = .ok (.if_icmp .ge 41, 3) := by decide +kernel
theorem dX12_areEnough_58 : decode cX12_areEnough 58 = .ok (.iload 4, 2) := by decide +kernel
theorem dX12_areEnough_60 : decode cX12_areEnough 60 = .ok (.iload_n 2, 1) := by decide +kernel
theorem dX12_areEnough_61 : decode cX12_areEnough 61 = .ok (.if_icmp .lt 16, 3) := by decide +kernel
theorem dX12_areEnough_77 : decode cX12_areEnough 77 = .ok (.iconst 0, 1) := by decide +kernel
theorem dX12_areEnough_78 : decode cX12_areEnough 78 = .ok (.ireturn, 1) := by decide +kernel
theorem dX12_areEnough_64 : decode cX12_areEnough 64 = .ok (.iload 5, 2) := by decide +kernel
theorem dX12_areEnough_66 : decode cX12_areEnough 66 = .ok (.ifCond .ne 7, 3) := by decide +kernel
theorem dX12_areEnough_73 : decode cX12_areEnough 73 = .ok (.iconst 1, 1) := by decide +kernel
theorem dX12_areEnough_74 : decode cX12_areEnough 74 = .ok (.goto 4, 3) := by decide +kernel
theorem dX12_areEnough_69 : decode cX12_areEnough 69 = .ok (.iload_n 3, 1) := by decide +kernel
theorem dX12_areEnough_70 : decode cX12_areEnough 70 = .ok (.ifCond .ne 7, 3) := by decide +kernel
theorem dX12_areEnough_20 : decode cX12_areEnough 20 = .ok (.iload_n 1, 1) := by decide +kernel
theorem dX12_areEnough_21 : decode cX12_areEnough 21 = .ok (.iload 6, 2) := by decide +kernel
theorem dX12_areEnough_23 : decode cX12_areEnough 23 = .ok (.ishr, 1) := by decide +kernel
theorem dX12_areEnough_24 : decode cX12_areEnough 24 = .ok (.iconst 1, 1) := by decide +kernel
theorem dX12_areEnough_25 : decode cX12_areEnough 25 = .ok (.iand, 1) := by decide +kernel
theorem dX12_areEnough_26 : decode cX12_areEnough 26 = .ok (.iconst 1, 1) := by decide +kernel
theorem dX12_areEnough_27 : decode cX12_areEnough 27 = .ok (.if_icmp .ne 25, 3) := by decide +kernel
theorem dX12_areEnough_52 : decode cX12_areEnough 52 = .ok (.iinc 6 1, 3) := by decide +kernel
theorem dX12_areEnough_55 : decode cX12_areEnough 55 = .ok (.goto (-46), 3) := by decide +kernel
theorem dX12_areEnough_30 : decode cX12_areEnough 30 = .ok (.iload 4, 2) := by decide +kernel
theorem dX12_areEnough_32 : decode cX12_areEnough 32 = .ok (.aload_n 0, 1) := by decide +kernel
theorem dX12_areEnough_33 : decode cX12_areEnough 33 = .ok (.iload 6, 2) := by decide +kernel
theorem dX12_areEnough_35 : decode cX12_areEnough 35 = .ok (.invokevirtual 129, 3) := by decide +kernel
theorem dX12_areEnough_38 : decode cX12_areEnough 38 = .ok (.iadd, 1) := by decide +kernel
theorem dX12_areEnough_39 : decode cX12_areEnough 39 = .ok (.istore 4, 2) := by decide +kernel
theorem dX12_areEnough_41 : decode cX12_areEnough 41 = .ok (.iload 5, 2) := by decide +kernel
theorem dX12_areEnough_43 : decode cX12_areEnough 43 = .ok (.aload_n 0, 1) := by decide +kernel
theorem dX12_areEnough_44 : decode cX12_areEnough 44 = .ok (.iload 6, 2) := by decide +kernel
theorem dX12_areEnough_46 : decode cX12_areEnough 46 = .ok (.invokevirtual 79, 3) := by decide +kernel
theorem dX12_areEnough_49 : decode cX12_areEnough 49 = .ok (.ior, 1) := by decide +kernel
theorem dX12_areEnough_50 : decode cX12_areEnough 50 = .ok (.istore 5, 2) := by decide +kernel
set_option maxHeartbeats 8000000 in
set_option maxRecDepth 100000 in
theorem c_X12_areEnough (l : Launch) (g : kG) (sz : Nat) (z : Nat → Nat) (kp : Nat) (xs : Nat → Int32) (D : Nat → Int32) (x : Int32) (y : Int32) (w : Int32) (hDI : DI D) : kMi l g yX12_areEnough cX12_areEnough 7 (some .boolean) 2 0 0 [.ref (z 0), .int x, .int y, .int w] sz [(z 0, .inr (12, [.ref (z 1), .ref (z 2), .int (nI kp), .int (xs 0), .ref (z 3), .ref (z 4), .ref (z 5), .ref (z 6), .int (xs 1), .ref (z 7), .ref (z 8), .ref (z 9), .ref (z 10), .ref (z 11), .ref (z 12), .int (xs 2), .ref (z 13), .ref (z 14), .int (xs 3), .ref (z 15)])), (z 1, .inl (gI g, 461, .inl D))] (fun (r : Int32) (u : Unit) => r = 1 ∨ r = 0) (fun (u : Unit) => ([(z 0, .inr (12, [.ref (z 1), .ref (z 2), .int (nI kp), .int (xs 0), .ref (z 3), .ref (z 4), .ref (z 5), .ref (z 6), .int (xs 1), .ref (z 7), .ref (z 8), .ref (z 9), .ref (z 10), .ref (z 11), .ref (z 12), .int (xs 2), .ref (z 13), .ref (z 14), .int (xs 3), .ref (z 15)])), (z 1, .inl (gI g, 461, .inl D))] : va_W)) := by
  refine kMi.of (by decide) (Nat.le_of_ble_eq_true rfl) (fun p e s m below meth c A hx hb hr hml hown hts hlk hnm hKW hP hD hS hA ls hl => ?_)
  have hown : s.vm.findClass RX12 = some m.cls := hown
  have hl : lv_has ls 7 [(0, .ref (z 0)), (1, .int x), (2, .int y), (3, .int w)] := hl
  refine k_hide hP hS (fun H locs hP hS => ?_)
  refine lv_iconst (v := 0) hx hb dX12_areEnough_0 (by decide) ?_
  refine lv_istore (lv' := [(4, .int 0), (0, .ref (z 0)), (1, .int x), (2, .int y), (3, .int w)]) hx hb dX12_areEnough_1 hl (by decide) rfl (fun ls hl => ?_)
  refine lv_iconst (v := 0) hx hb dX12_areEnough_3 (by decide) ?_
  refine lv_istore (lv' := [(5, .int 0), (4, .int 0), (0, .ref (z 0)), (1, .int x), (2, .int y), (3, .int w)]) hx hb dX12_areEnough_4 hl (by decide) rfl (fun ls hl => ?_)
  refine lv_iconst (v := 0) hx hb dX12_areEnough_6 (by decide) ?_
  refine lv_istore (lv' := [(6, .int 0), (5, .int 0), (4, .int 0), (0, .ref (z 0)), (1, .int x), (2, .int y), (3, .int w)]) hx hb dX12_areEnough_7 hl (by decide) rfl (fun ls hl => ?_)
  have L9 : ∀ (n9 : Nat) (i : Nat) (x4 : Int32) (x5 : Int32) (hfuel9 : 7 - i < n9) (hi : i ≤ 7) (H : Heap) (locs : List Loc) (hP : va_P g.1 vwCl [(z 0, .inr (12, [.ref (z 1), .ref (z 2), .int (nI kp), .int (xs 0), .ref (z 3), .ref (z 4), .ref (z 5), .ref (z 6), .int (xs 1), .ref (z 7), .ref (z 8), .ref (z 9), .ref (z 10), .ref (z 11), .ref (z 12), .int (xs 2), .ref (z 13), .ref (z 14), .int (xs 3), .ref (z 15)])), (z 1, .inl (gI g, 461, .inl D))] H) (hD : va_D A [(z 0, .inr (12, [.ref (z 1), .ref (z 2), .int (nI kp), .int (xs 0), .ref (z 3), .ref (z 4), .ref (z 5), .ref (z 6), .int (xs 1), .ref (z 7), .ref (z 8), .ref (z 9), .ref (z 10), .ref (z 11), .ref (z 12), .int (xs 2), .ref (z 13), .ref (z 14), .int (xs 3), .ref (z 15)])), (z 1, .inl (gI g, 461, .inl D))]) (hS : va_S A s.heap H locs) (ls : Array Slot) (hl : lv_has ls 7 [(6, .int (nI i)), (5, .int x5), (4, .int x4), (0, .ref (z 0)), (1, .int x), (2, .int y), (3, .int w)]), W p l e (kR 2 0 0) s m ([.ref (z 0), .int x, .int y, .int w] : List Value).toArray below meth c H locs 0 0 (kQi g A below ([.ref (z 0), .int x, .int y, .int w] : List Value).toArray s 0 0 (fun (r : Int32) (u : Unit) => r = 1 ∨ r = 0) (fun (u : Unit) => ([(z 0, .inr (12, [.ref (z 1), .ref (z 2), .int (nI kp), .int (xs 0), .ref (z 3), .ref (z 4), .ref (z 5), .ref (z 6), .int (xs 1), .ref (z 7), .ref (z 8), .ref (z 9), .ref (z 10), .ref (z 11), .ref (z 12), .int (xs 2), .ref (z 13), .ref (z 14), .int (xs 3), .ref (z 15)])), (z 1, .inl (gI g, 461, .inl D))] : va_W))) (F0 m 9 ls []) := by
    intro n9
    induction n9 with
    | zero => intro i x4 x5 hfuel9; exact absurd hfuel9 (Nat.not_lt_zero _)
    | succ n9 ih9 =>
      intro i x4 x5 hfuel9 hi H locs hP hD hS ls hl
      refine lv_iload hx hb dX12_areEnough_9 (lv_at hl 0 rfl) ?_
      refine lv_aload_n hx hb dX12_areEnough_11 rfl (lv_at hl 3 rfl) ?_
      refine va_get (ci := 12) (C := RX12) (T := TX12) (N := 20) hx hb hts inlX12 hown hKW.1 hP 0 rfl rfl 0 (by decide) (hts _ wd_6_5) (fun _ h => h) rfl dX12_areEnough_12 ?_
      refine lv_iconst (v := 1) hx hb dX12_areEnough_15 (by decide) ?_
      obtain ⟨dk_1, hdk_1a, hdk_1b, edk_1⟩ := DI.n1 hDI
      refine va_iald hx hb hKW.1 hP 1 0 rfl rfl (show ¬ _ by decide) dX12_areEnough_16 ?_
      refine k_top (y := nI dk_1) edk_1 ?_
      refine lv_icmp_ge (tgt := 58) hx hb dX12_areEnough_17 (by decide) (fun c_2 => ?_) (fun c_2 => ?_)
      · have c_2n : dk_1 ≤ i := (k_leI (a := dk_1) (b := i) (by omega) (by omega)).mp c_2
        refine lv_iload hx hb dX12_areEnough_58 (lv_at hl 2 rfl) ?_
        refine lv_iload_n hx hb dX12_areEnough_60 rfl (lv_at hl 5 rfl) ?_
        refine lv_icmp_lt (tgt := 77) hx hb dX12_areEnough_61 (by decide) (fun c_3 => ?_) (fun c_3 => ?_)
        · refine lv_iconst (v := 0) hx hb dX12_areEnough_77 (by decide) ?_
          exact k_zret () [0, 1] hx hb hr hlk hP hD hS (Or.inr rfl) rfl rfl rfl rfl (Nat.le_of_ble_eq_true rfl) (Nat.le_of_ble_eq_true rfl) dX12_areEnough_78
        · refine lv_iload hx hb dX12_areEnough_64 (lv_at hl 1 rfl) ?_
          refine lv_if_ne (tgt := 73) hx hb dX12_areEnough_66 (by decide) (fun c_4 => ?_) (fun c_4 => ?_)
          · refine lv_iconst (v := 1) hx hb dX12_areEnough_73 (by decide) ?_
            refine lv_goto (tgt := 78) hx hb dX12_areEnough_74 (by decide) ?_
            exact k_zret () [0, 1] hx hb hr hlk hP hD hS (Or.inl rfl) rfl rfl rfl rfl (Nat.le_of_ble_eq_true rfl) (Nat.le_of_ble_eq_true rfl) dX12_areEnough_78
          · refine lv_iload_n hx hb dX12_areEnough_69 rfl (lv_at hl 6 rfl) ?_
            refine lv_if_ne (tgt := 77) hx hb dX12_areEnough_70 (by decide) (fun c_5 => ?_) (fun c_5 => ?_)
            · refine lv_iconst (v := 0) hx hb dX12_areEnough_77 (by decide) ?_
              exact k_zret () [0, 1] hx hb hr hlk hP hD hS (Or.inr rfl) rfl rfl rfl rfl (Nat.le_of_ble_eq_true rfl) (Nat.le_of_ble_eq_true rfl) dX12_areEnough_78
            · refine lv_iconst (v := 1) hx hb dX12_areEnough_73 (by decide) ?_
              refine lv_goto (tgt := 78) hx hb dX12_areEnough_74 (by decide) ?_
              exact k_zret () [0, 1] hx hb hr hlk hP hD hS (Or.inl rfl) rfl rfl rfl rfl (Nat.le_of_ble_eq_true rfl) (Nat.le_of_ble_eq_true rfl) dX12_areEnough_78
      · have c_2n : i < dk_1 := Nat.not_le.mp (fun h => c_2 ((k_leI (a := dk_1) (b := i) (by omega) (by omega)).mpr h))
        refine lv_iload_n hx hb dX12_areEnough_20 rfl (lv_at hl 4 rfl) ?_
        refine lv_iload hx hb dX12_areEnough_21 (lv_at hl 0 rfl) ?_
        refine lv_ishr hx hb dX12_areEnough_23 ?_
        refine lv_topi (fun x_6 ex_6 => ?_)
        refine lv_iconst (v := 1) hx hb dX12_areEnough_24 (by decide) ?_
        refine lv_iand hx hb dX12_areEnough_25 ?_
        refine lv_topi (fun x_7 ex_7 => ?_)
        refine lv_iconst (v := 1) hx hb dX12_areEnough_26 (by decide) ?_
        refine lv_icmp_ne (tgt := 52) hx hb dX12_areEnough_27 (by decide) (fun c_8 => ?_) (fun c_8 => ?_)
        · refine lv_iinc (v := nI (i + 1)) (lv' := [(6, .int (nI (i + 1))), (5, .int x5), (4, .int x4), (0, .ref (z 0)), (1, .int x), (2, .int y), (3, .int w)]) hx hb dX12_areEnough_52 hl (k := 0) rfl (nI_add i 1) (by decide) rfl (fun ls hl => ?_)
          refine lv_goto (tgt := 9) hx hb dX12_areEnough_55 (by decide) ?_
          exact ih9 (i + 1) x4 x5 (by omega) (by first | assumption | omega) H locs (hP.sub [0, 1] rfl) (hD.sub [0, 1] (by decide) rfl) hS ls (lv_sub hl [0, 1, 2, 3, 4, 5, 6] rfl)
        · refine lv_iload hx hb dX12_areEnough_30 (lv_at hl 2 rfl) ?_
          refine lv_aload_n hx hb dX12_areEnough_32 rfl (lv_at hl 3 rfl) ?_
          refine lv_iload hx hb dX12_areEnough_33 (lv_at hl 0 rfl) ?_
          refine k_Vi [0, 1] [] 0 12 (wr := []) hx hb hml hown hts hKW hP hD hS hA hl.1 (c_X12_worthOf l g _ z kp xs D i (by first | assumption | omega | decide)) rfl rfl rfl wd_26_22 wd_1_5 wd_26_19 wd_26_20 wd_26_21 yd_X12_worthOf ⟨(Nat.le_of_ble_eq_true rfl), (Nat.le_of_ble_eq_true rfl)⟩ rfl rfl rfl rfl (by decide) rfl (Nat.le_of_ble_eq_true rfl) dX12_areEnough_35 ⟨(Nat.le_of_ble_eq_true rfl), (Nat.le_of_ble_eq_true rfl)⟩ (fun r_9 u_10 H locs hw_11 hP hD hS => ?_)
          have hP : va_P g.1 vwCl [(z 0, .inr (12, [.ref (z 1), .ref (z 2), .int (nI kp), .int (xs 0), .ref (z 3), .ref (z 4), .ref (z 5), .ref (z 6), .int (xs 1), .ref (z 7), .ref (z 8), .ref (z 9), .ref (z 10), .ref (z 11), .ref (z 12), .int (xs 2), .ref (z 13), .ref (z 14), .int (xs 3), .ref (z 15)])), (z 1, .inl (gI g, 461, .inl D))] H := hP
          have hD : va_D A [(z 0, .inr (12, [.ref (z 1), .ref (z 2), .int (nI kp), .int (xs 0), .ref (z 3), .ref (z 4), .ref (z 5), .ref (z 6), .int (xs 1), .ref (z 7), .ref (z 8), .ref (z 9), .ref (z 10), .ref (z 11), .ref (z 12), .int (xs 2), .ref (z 13), .ref (z 14), .int (xs 3), .ref (z 15)])), (z 1, .inl (gI g, 461, .inl D))] := hD
          refine lv_iadd hx hb dX12_areEnough_38 ?_
          refine lv_topi (fun x_12 ex_12 => ?_)
          refine lv_istore (lv' := [(4, .int x_12), (6, .int (nI i)), (5, .int x5), (0, .ref (z 0)), (1, .int x), (2, .int y), (3, .int w)]) hx hb dX12_areEnough_39 hl (by decide) rfl (fun ls hl => ?_)
          refine lv_iload hx hb dX12_areEnough_41 (lv_at hl 2 rfl) ?_
          refine lv_aload_n hx hb dX12_areEnough_43 rfl (lv_at hl 3 rfl) ?_
          refine lv_iload hx hb dX12_areEnough_44 (lv_at hl 1 rfl) ?_
          refine k_Vi [0, 1] [] 0 12 (wr := []) hx hb hml hown hts hKW hP hD hS hA hl.1 (c_X12_isTrained l g _ z kp xs D i (by first | assumption | omega | decide)) rfl rfl rfl wd_12_18 wd_1_5 wd_12_15 wd_12_16 wd_12_17 yd_X12_isTrained ⟨(Nat.le_of_ble_eq_true rfl), (Nat.le_of_ble_eq_true rfl)⟩ rfl rfl rfl rfl (by decide) rfl (Nat.le_of_ble_eq_true rfl) dX12_areEnough_46 ⟨(Nat.le_of_ble_eq_true rfl), (Nat.le_of_ble_eq_true rfl)⟩ (fun r_13 u_14 H locs hw_15 hP hD hS => ?_)
          have hP : va_P g.1 vwCl [(z 0, .inr (12, [.ref (z 1), .ref (z 2), .int (nI kp), .int (xs 0), .ref (z 3), .ref (z 4), .ref (z 5), .ref (z 6), .int (xs 1), .ref (z 7), .ref (z 8), .ref (z 9), .ref (z 10), .ref (z 11), .ref (z 12), .int (xs 2), .ref (z 13), .ref (z 14), .int (xs 3), .ref (z 15)])), (z 1, .inl (gI g, 461, .inl D))] H := hP
          have hD : va_D A [(z 0, .inr (12, [.ref (z 1), .ref (z 2), .int (nI kp), .int (xs 0), .ref (z 3), .ref (z 4), .ref (z 5), .ref (z 6), .int (xs 1), .ref (z 7), .ref (z 8), .ref (z 9), .ref (z 10), .ref (z 11), .ref (z 12), .int (xs 2), .ref (z 13), .ref (z 14), .int (xs 3), .ref (z 15)])), (z 1, .inl (gI g, 461, .inl D))] := hD
          rcases (show r_13 = 1 ∨ r_13 = 0 from hw_15) with rfl | rfl <;> clear hw_15
          · refine lv_ior hx hb dX12_areEnough_49 ?_
            refine lv_topi (fun x_16 ex_16 => ?_)
            refine lv_istore (lv' := [(5, .int x_16), (4, .int x_12), (6, .int (nI i)), (0, .ref (z 0)), (1, .int x), (2, .int y), (3, .int w)]) hx hb dX12_areEnough_50 hl (by decide) rfl (fun ls hl => ?_)
            refine lv_iinc (v := nI (i + 1)) (lv' := [(6, .int (nI (i + 1))), (5, .int x_16), (4, .int x_12), (0, .ref (z 0)), (1, .int x), (2, .int y), (3, .int w)]) hx hb dX12_areEnough_52 hl (k := 2) rfl (nI_add i 1) (by decide) rfl (fun ls hl => ?_)
            refine lv_goto (tgt := 9) hx hb dX12_areEnough_55 (by decide) ?_
            exact ih9 (i + 1) x_12 x_16 (by omega) (by first | assumption | omega) H locs (hP.sub [0, 1] rfl) (hD.sub [0, 1] (by decide) rfl) hS ls (lv_sub hl [0, 1, 2, 3, 4, 5, 6] rfl)
          · refine lv_ior hx hb dX12_areEnough_49 ?_
            refine lv_topi (fun x_17 ex_17 => ?_)
            refine lv_istore (lv' := [(5, .int x_17), (4, .int x_12), (6, .int (nI i)), (0, .ref (z 0)), (1, .int x), (2, .int y), (3, .int w)]) hx hb dX12_areEnough_50 hl (by decide) rfl (fun ls hl => ?_)
            refine lv_iinc (v := nI (i + 1)) (lv' := [(6, .int (nI (i + 1))), (5, .int x_17), (4, .int x_12), (0, .ref (z 0)), (1, .int x), (2, .int y), (3, .int w)]) hx hb dX12_areEnough_52 hl (k := 2) rfl (nI_add i 1) (by decide) rfl (fun ls hl => ?_)
            refine lv_goto (tgt := 9) hx hb dX12_areEnough_55 (by decide) ?_
            exact ih9 (i + 1) x_12 x_17 (by omega) (by first | assumption | omega) H locs (hP.sub [0, 1] rfl) (hD.sub [0, 1] (by decide) rfl) hS ls (lv_sub hl [0, 1, 2, 3, 4, 5, 6] rfl)
  exact L9 (7 - 0 + 1) 0 0 0 (Nat.lt_succ_self _) (by first | assumption | omega) H locs (hP.sub [0, 1] rfl) (hD.sub [0, 1] (by decide) rfl) hS ls (lv_sub hl [0, 1, 2, 3, 4, 5, 6] rfl)
theorem dX12_wasIn_0 : decode cX12_wasIn 0 = .ok (.iconst 0, 1) := by decide +kernel
theorem dX12_wasIn_1 : decode cX12_wasIn 1 = .ok (.istore_n 3, 1) := by decide +kernel
theorem dX12_wasIn_2 : decode cX12_wasIn 2 = .ok (.iconst 0, 1) := by decide +kernel
theorem dX12_wasIn_3 : decode cX12_wasIn 3 = .ok (.istore 4, 2) := by decide +kernel
theorem dX12_wasIn_5 : decode cX12_wasIn 5 = .ok (.iload 4, 2) := by decide +kernel
theorem dX12_wasIn_7 : decode cX12_wasIn 7 = .ok (.aload_n 0, 1) := by decide +kernel
theorem dX12_wasIn_8 : decode cX12_wasIn 8 = .ok (.getfield 7, 3) := by decide +kernel
theorem dX12_wasIn_11 : decode cX12_wasIn 11 = .ok (.iconst 5, 1) := by decide +kernel
theorem dX12_wasIn_12 : decode cX12_wasIn 12 = .ok (.iaload, 1) := by decide +kernel
theorem dX12_wasIn_13 : decode cX12_wasIn 13 = .ok (.if_icmp .ge 64, 3) := by decide +kernel
theorem dX12_wasIn_77 : decode cX12_wasIn 77 = .ok (.iload_n 3, 1) := by decide +kernel
theorem dX12_wasIn_78 : decode cX12_wasIn 78 = .ok (.ireturn, 1) := by decide +kernel
theorem dX12_wasIn_16 : decode cX12_wasIn 16 = .ok (.aload_n 0, 1) := by decide +kernel
theorem dX12_wasIn_17 : decode cX12_wasIn 17 = .ok (.getfield 7, 3) := by decide +kernel
theorem dX12_wasIn_20 : decode cX12_wasIn 20 = .ok (.sipush 221, 3) := by decide +kernel
theorem dX12_wasIn_23 : decode cX12_wasIn 23 = .ok (.iload 4, 2) := by decide +kernel
theorem dX12_wasIn_25 : decode cX12_wasIn 25 = .ok (.iadd, 1) := by decide +kernel
theorem dX12_wasIn_26 : decode cX12_wasIn 26 = .ok (.iaload, 1) := by decide +kernel
theorem dX12_wasIn_27 : decode cX12_wasIn 27 = .ok (.iload_n 1, 1) := by decide +kernel
theorem dX12_wasIn_28 : decode cX12_wasIn 28 = .ok (.if_icmp .ne 41, 3) := by decide +kernel
theorem dX12_wasIn_69 : decode cX12_wasIn 69 = .ok (.iload_n 3, 1) := by decide +kernel
theorem dX12_wasIn_70 : decode cX12_wasIn 70 = .ok (.istore_n 3, 1) := by decide +kernel
theorem dX12_wasIn_71 : decode cX12_wasIn 71 = .ok (.iinc 4 1, 3) := by decide +kernel
theorem dX12_wasIn_74 : decode cX12_wasIn 74 = .ok (.goto (-69), 3) := by decide +kernel
theorem dX12_wasIn_31 : decode cX12_wasIn 31 = .ok (.aload_n 0, 1) := by decide +kernel
theorem dX12_wasIn_32 : decode cX12_wasIn 32 = .ok (.getfield 7, 3) := by decide +kernel
theorem dX12_wasIn_35 : decode cX12_wasIn 35 = .ok (.sipush 261, 3) := by decide +kernel
theorem dX12_wasIn_38 : decode cX12_wasIn 38 = .ok (.iload 4, 2) := by decide +kernel
theorem dX12_wasIn_40 : decode cX12_wasIn 40 = .ok (.iadd, 1) := by decide +kernel
theorem dX12_wasIn_41 : decode cX12_wasIn 41 = .ok (.iaload, 1) := by decide +kernel
theorem dX12_wasIn_42 : decode cX12_wasIn 42 = .ok (.iload_n 2, 1) := by decide +kernel
theorem dX12_wasIn_43 : decode cX12_wasIn 43 = .ok (.if_icmp .gt 26, 3) := by decide +kernel
theorem dX12_wasIn_46 : decode cX12_wasIn 46 = .ok (.aload_n 0, 1) := by decide +kernel
theorem dX12_wasIn_47 : decode cX12_wasIn 47 = .ok (.getfield 7, 3) := by decide +kernel
theorem dX12_wasIn_50 : decode cX12_wasIn 50 = .ok (.sipush 301, 3) := by decide +kernel
theorem dX12_wasIn_53 : decode cX12_wasIn 53 = .ok (.iload 4, 2) := by decide +kernel
theorem dX12_wasIn_55 : decode cX12_wasIn 55 = .ok (.iadd, 1) := by decide +kernel
theorem dX12_wasIn_56 : decode cX12_wasIn 56 = .ok (.iaload, 1) := by decide +kernel
theorem dX12_wasIn_57 : decode cX12_wasIn 57 = .ok (.iconst 1, 1) := by decide +kernel
theorem dX12_wasIn_58 : decode cX12_wasIn 58 = .ok (.if_icmp .ne 7, 3) := by decide +kernel
theorem dX12_wasIn_65 : decode cX12_wasIn 65 = .ok (.iconst 0, 1) := by decide +kernel
theorem dX12_wasIn_66 : decode cX12_wasIn 66 = .ok (.goto 4, 3) := by decide +kernel
theorem dX12_wasIn_61 : decode cX12_wasIn 61 = .ok (.iconst 1, 1) := by decide +kernel
theorem dX12_wasIn_62 : decode cX12_wasIn 62 = .ok (.goto 8, 3) := by decide +kernel
set_option maxHeartbeats 8000000 in
set_option maxRecDepth 100000 in
theorem c_X12_wasIn (l : Launch) (g : kG) (sz : Nat) (z : Nat → Nat) (kp : Nat) (xs : Nat → Int32) (D : Nat → Int32) (x : Int32) (y : Int32) (hDI : DI D) : kMi l g yX12_wasIn cX12_wasIn 5 (some .boolean) 1 0 0 [.ref (z 0), .int x, .int y] sz [(z 0, .inr (12, [.ref (z 1), .ref (z 2), .int (nI kp), .int (xs 0), .ref (z 3), .ref (z 4), .ref (z 5), .ref (z 6), .int (xs 1), .ref (z 7), .ref (z 8), .ref (z 9), .ref (z 10), .ref (z 11), .ref (z 12), .int (xs 2), .ref (z 13), .ref (z 14), .int (xs 3), .ref (z 15)])), (z 1, .inl (gI g, 461, .inl D))] (fun (r : Int32) (u : Unit) => r = 1 ∨ r = 0) (fun (u : Unit) => ([(z 0, .inr (12, [.ref (z 1), .ref (z 2), .int (nI kp), .int (xs 0), .ref (z 3), .ref (z 4), .ref (z 5), .ref (z 6), .int (xs 1), .ref (z 7), .ref (z 8), .ref (z 9), .ref (z 10), .ref (z 11), .ref (z 12), .int (xs 2), .ref (z 13), .ref (z 14), .int (xs 3), .ref (z 15)])), (z 1, .inl (gI g, 461, .inl D))] : va_W)) := by
  refine kMi.of (by decide) (Nat.le_of_ble_eq_true rfl) (fun p e s m below meth c A hx hb hr hml hown hts hlk hnm hKW hP hD hS hA ls hl => ?_)
  have hown : s.vm.findClass RX12 = some m.cls := hown
  have hl : lv_has ls 5 [(0, .ref (z 0)), (1, .int x), (2, .int y)] := hl
  refine k_hide hP hS (fun H locs hP hS => ?_)
  refine lv_iconst (v := 0) hx hb dX12_wasIn_0 (by decide) ?_
  refine lv_istore_n (lv' := [(3, .int 0), (0, .ref (z 0)), (1, .int x), (2, .int y)]) hx hb dX12_wasIn_1 rfl hl (by decide) rfl (fun ls hl => ?_)
  refine lv_iconst (v := 0) hx hb dX12_wasIn_2 (by decide) ?_
  refine lv_istore (lv' := [(4, .int 0), (3, .int 0), (0, .ref (z 0)), (1, .int x), (2, .int y)]) hx hb dX12_wasIn_3 hl (by decide) rfl (fun ls hl => ?_)
  have L5 : ∀ (n5 : Nat) (i : Nat) (x3 : Int32) (hfuel5 : 40 - i < n5) (hi : i ≤ 40) (h01 : x3 = 1 ∨ x3 = 0) (H : Heap) (locs : List Loc) (hP : va_P g.1 vwCl [(z 0, .inr (12, [.ref (z 1), .ref (z 2), .int (nI kp), .int (xs 0), .ref (z 3), .ref (z 4), .ref (z 5), .ref (z 6), .int (xs 1), .ref (z 7), .ref (z 8), .ref (z 9), .ref (z 10), .ref (z 11), .ref (z 12), .int (xs 2), .ref (z 13), .ref (z 14), .int (xs 3), .ref (z 15)])), (z 1, .inl (gI g, 461, .inl D))] H) (hD : va_D A [(z 0, .inr (12, [.ref (z 1), .ref (z 2), .int (nI kp), .int (xs 0), .ref (z 3), .ref (z 4), .ref (z 5), .ref (z 6), .int (xs 1), .ref (z 7), .ref (z 8), .ref (z 9), .ref (z 10), .ref (z 11), .ref (z 12), .int (xs 2), .ref (z 13), .ref (z 14), .int (xs 3), .ref (z 15)])), (z 1, .inl (gI g, 461, .inl D))]) (hS : va_S A s.heap H locs) (ls : Array Slot) (hl : lv_has ls 5 [(4, .int (nI i)), (3, .int x3), (0, .ref (z 0)), (1, .int x), (2, .int y)]), W p l e (kR 1 0 0) s m ([.ref (z 0), .int x, .int y] : List Value).toArray below meth c H locs 0 0 (kQi g A below ([.ref (z 0), .int x, .int y] : List Value).toArray s 0 0 (fun (r : Int32) (u : Unit) => r = 1 ∨ r = 0) (fun (u : Unit) => ([(z 0, .inr (12, [.ref (z 1), .ref (z 2), .int (nI kp), .int (xs 0), .ref (z 3), .ref (z 4), .ref (z 5), .ref (z 6), .int (xs 1), .ref (z 7), .ref (z 8), .ref (z 9), .ref (z 10), .ref (z 11), .ref (z 12), .int (xs 2), .ref (z 13), .ref (z 14), .int (xs 3), .ref (z 15)])), (z 1, .inl (gI g, 461, .inl D))] : va_W))) (F0 m 5 ls []) := by
    intro n5
    induction n5 with
    | zero => intro i x3 hfuel5; exact absurd hfuel5 (Nat.not_lt_zero _)
    | succ n5 ih5 =>
      intro i x3 hfuel5 hi h01 H locs hP hD hS ls hl
      refine lv_iload hx hb dX12_wasIn_5 (lv_at hl 0 rfl) ?_
      refine lv_aload_n hx hb dX12_wasIn_7 rfl (lv_at hl 2 rfl) ?_
      refine va_get (ci := 12) (C := RX12) (T := TX12) (N := 20) hx hb hts inlX12 hown hKW.1 hP 0 rfl rfl 0 (by decide) (hts _ wd_6_5) (fun _ h => h) rfl dX12_wasIn_8 ?_
      refine lv_iconst (v := 5) hx hb dX12_wasIn_11 (by decide) ?_
      obtain ⟨dk_1, hdk_1a, hdk_1b, edk_1⟩ := DI.n5 hDI
      refine va_iald hx hb hKW.1 hP 1 0 rfl rfl (show ¬ _ by decide) dX12_wasIn_12 ?_
      refine k_top (y := nI dk_1) edk_1 ?_
      refine lv_icmp_ge (tgt := 77) hx hb dX12_wasIn_13 (by decide) (fun c_2 => ?_) (fun c_2 => ?_)
      · have c_2n : dk_1 ≤ i := (k_leI (a := dk_1) (b := i) (by omega) (by omega)).mp c_2
        rcases h01 with rfl | rfl
        · skip
          refine lv_iload_n hx hb dX12_wasIn_77 rfl (lv_at hl 1 rfl) ?_
          exact k_zret () [0, 1] hx hb hr hlk hP hD hS (Or.inl rfl) rfl rfl rfl rfl (Nat.le_of_ble_eq_true rfl) (Nat.le_of_ble_eq_true rfl) dX12_wasIn_78
        · skip
          refine lv_iload_n hx hb dX12_wasIn_77 rfl (lv_at hl 1 rfl) ?_
          exact k_zret () [0, 1] hx hb hr hlk hP hD hS (Or.inr rfl) rfl rfl rfl rfl (Nat.le_of_ble_eq_true rfl) (Nat.le_of_ble_eq_true rfl) dX12_wasIn_78
      · have c_2n : i < dk_1 := Nat.not_le.mp (fun h => c_2 ((k_leI (a := dk_1) (b := i) (by omega) (by omega)).mpr h))
        refine lv_aload_n hx hb dX12_wasIn_16 rfl (lv_at hl 2 rfl) ?_
        refine va_get (ci := 12) (C := RX12) (T := TX12) (N := 20) hx hb hts inlX12 hown hKW.1 hP 0 rfl rfl 0 (by decide) (hts _ wd_6_5) (fun _ h => h) rfl dX12_wasIn_17 ?_
        refine lv_sipush (v := 221) hx hb dX12_wasIn_20 (by decide) ?_
        refine lv_iload hx hb dX12_wasIn_23 (lv_at hl 0 rfl) ?_
        refine lv_iadd hx hb dX12_wasIn_25 ?_
        refine k_top (y := nI (i + 221)) (by rw [Nat.add_comm]; exact nI_add 221 i) ?_
        refine va_iald hx hb hKW.1 hP 1 0 rfl rfl (vp_in_nI (by omega) (by decide)) dX12_wasIn_26 ?_
        refine lv_topi (fun x_3 ex_3 => ?_)
        refine lv_iload_n hx hb dX12_wasIn_27 rfl (lv_at hl 3 rfl) ?_
        refine lv_icmp_ne (tgt := 69) hx hb dX12_wasIn_28 (by decide) (fun c_4 => ?_) (fun c_4 => ?_)
        · refine lv_iload_n hx hb dX12_wasIn_69 rfl (lv_at hl 1 rfl) ?_
          refine lv_istore_n (lv' := [(3, .int x3), (4, .int (nI i)), (0, .ref (z 0)), (1, .int x), (2, .int y)]) hx hb dX12_wasIn_70 rfl hl (by decide) rfl (fun ls hl => ?_)
          refine lv_iinc (v := nI (i + 1)) (lv' := [(4, .int (nI (i + 1))), (3, .int x3), (0, .ref (z 0)), (1, .int x), (2, .int y)]) hx hb dX12_wasIn_71 hl (k := 1) rfl (nI_add i 1) (by decide) rfl (fun ls hl => ?_)
          refine lv_goto (tgt := 5) hx hb dX12_wasIn_74 (by decide) ?_
          exact ih5 (i + 1) x3 (by omega) (by first | assumption | omega) (by first | assumption | decide) H locs (hP.sub [0, 1] rfl) (hD.sub [0, 1] (by decide) rfl) hS ls (lv_sub hl [0, 1, 2, 3, 4] rfl)
        · refine lv_aload_n hx hb dX12_wasIn_31 rfl (lv_at hl 2 rfl) ?_
          refine va_get (ci := 12) (C := RX12) (T := TX12) (N := 20) hx hb hts inlX12 hown hKW.1 hP 0 rfl rfl 0 (by decide) (hts _ wd_6_5) (fun _ h => h) rfl dX12_wasIn_32 ?_
          refine lv_sipush (v := 261) hx hb dX12_wasIn_35 (by decide) ?_
          refine lv_iload hx hb dX12_wasIn_38 (lv_at hl 0 rfl) ?_
          refine lv_iadd hx hb dX12_wasIn_40 ?_
          refine k_top (y := nI (i + 261)) (by rw [Nat.add_comm]; exact nI_add 261 i) ?_
          refine va_iald hx hb hKW.1 hP 1 0 rfl rfl (vp_in_nI (by omega) (by decide)) dX12_wasIn_41 ?_
          refine lv_topi (fun x_5 ex_5 => ?_)
          refine lv_iload_n hx hb dX12_wasIn_42 rfl (lv_at hl 4 rfl) ?_
          refine lv_icmp_gt (tgt := 69) hx hb dX12_wasIn_43 (by decide) (fun c_6 => ?_) (fun c_6 => ?_)
          · refine lv_iload_n hx hb dX12_wasIn_69 rfl (lv_at hl 1 rfl) ?_
            refine lv_istore_n (lv' := [(3, .int x3), (4, .int (nI i)), (0, .ref (z 0)), (1, .int x), (2, .int y)]) hx hb dX12_wasIn_70 rfl hl (by decide) rfl (fun ls hl => ?_)
            refine lv_iinc (v := nI (i + 1)) (lv' := [(4, .int (nI (i + 1))), (3, .int x3), (0, .ref (z 0)), (1, .int x), (2, .int y)]) hx hb dX12_wasIn_71 hl (k := 1) rfl (nI_add i 1) (by decide) rfl (fun ls hl => ?_)
            refine lv_goto (tgt := 5) hx hb dX12_wasIn_74 (by decide) ?_
            exact ih5 (i + 1) x3 (by omega) (by first | assumption | omega) (by first | assumption | decide) H locs (hP.sub [0, 1] rfl) (hD.sub [0, 1] (by decide) rfl) hS ls (lv_sub hl [0, 1, 2, 3, 4] rfl)
          · refine lv_aload_n hx hb dX12_wasIn_46 rfl (lv_at hl 2 rfl) ?_
            refine va_get (ci := 12) (C := RX12) (T := TX12) (N := 20) hx hb hts inlX12 hown hKW.1 hP 0 rfl rfl 0 (by decide) (hts _ wd_6_5) (fun _ h => h) rfl dX12_wasIn_47 ?_
            refine lv_sipush (v := 301) hx hb dX12_wasIn_50 (by decide) ?_
            refine lv_iload hx hb dX12_wasIn_53 (lv_at hl 0 rfl) ?_
            refine lv_iadd hx hb dX12_wasIn_55 ?_
            refine k_top (y := nI (i + 301)) (by rw [Nat.add_comm]; exact nI_add 301 i) ?_
            refine va_iald hx hb hKW.1 hP 1 0 rfl rfl (vp_in_nI (by omega) (by decide)) dX12_wasIn_56 ?_
            refine lv_topi (fun x_7 ex_7 => ?_)
            refine lv_iconst (v := 1) hx hb dX12_wasIn_57 (by decide) ?_
            refine lv_icmp_ne (tgt := 65) hx hb dX12_wasIn_58 (by decide) (fun c_8 => ?_) (fun c_8 => ?_)
            · refine lv_iconst (v := 0) hx hb dX12_wasIn_65 (by decide) ?_
              refine lv_goto (tgt := 70) hx hb dX12_wasIn_66 (by decide) ?_
              refine lv_istore_n (lv' := [(3, .int 0), (4, .int (nI i)), (0, .ref (z 0)), (1, .int x), (2, .int y)]) hx hb dX12_wasIn_70 rfl hl (by decide) rfl (fun ls hl => ?_)
              refine lv_iinc (v := nI (i + 1)) (lv' := [(4, .int (nI (i + 1))), (3, .int 0), (0, .ref (z 0)), (1, .int x), (2, .int y)]) hx hb dX12_wasIn_71 hl (k := 1) rfl (nI_add i 1) (by decide) rfl (fun ls hl => ?_)
              refine lv_goto (tgt := 5) hx hb dX12_wasIn_74 (by decide) ?_
              exact ih5 (i + 1) 0 (by omega) (by first | assumption | omega) (by first | assumption | decide) H locs (hP.sub [0, 1] rfl) (hD.sub [0, 1] (by decide) rfl) hS ls (lv_sub hl [0, 1, 2, 3, 4] rfl)
            · refine lv_iconst (v := 1) hx hb dX12_wasIn_61 (by decide) ?_
              refine lv_goto (tgt := 70) hx hb dX12_wasIn_62 (by decide) ?_
              refine lv_istore_n (lv' := [(3, .int 1), (4, .int (nI i)), (0, .ref (z 0)), (1, .int x), (2, .int y)]) hx hb dX12_wasIn_70 rfl hl (by decide) rfl (fun ls hl => ?_)
              refine lv_iinc (v := nI (i + 1)) (lv' := [(4, .int (nI (i + 1))), (3, .int 1), (0, .ref (z 0)), (1, .int x), (2, .int y)]) hx hb dX12_wasIn_71 hl (k := 1) rfl (nI_add i 1) (by decide) rfl (fun ls hl => ?_)
              refine lv_goto (tgt := 5) hx hb dX12_wasIn_74 (by decide) ?_
              exact ih5 (i + 1) 1 (by omega) (by first | assumption | omega) (by first | assumption | decide) H locs (hP.sub [0, 1] rfl) (hD.sub [0, 1] (by decide) rfl) hS ls (lv_sub hl [0, 1, 2, 3, 4] rfl)
  exact L5 (40 - 0 + 1) 0 0 (Nat.lt_succ_self _) (by first | assumption | omega) (by first | assumption | decide) H locs (hP.sub [0, 1] rfl) (hD.sub [0, 1] (by decide) rfl) hS ls (lv_sub hl [0, 1, 2, 3, 4] rfl)
theorem dX12_listed_0 : decode cX12_listed 0 = .ok (.iconst 0, 1) := by decide +kernel
theorem dX12_listed_1 : decode cX12_listed 1 = .ok (.istore_n 2, 1) := by decide +kernel
theorem dX12_listed_2 : decode cX12_listed 2 = .ok (.iload_n 2, 1) := by decide +kernel
theorem dX12_listed_3 : decode cX12_listed 3 = .ok (.aload_n 0, 1) := by decide +kernel
theorem dX12_listed_4 : decode cX12_listed 4 = .ok (.getfield 7, 3) := by decide +kernel
theorem dX12_listed_7 : decode cX12_listed 7 = .ok (.bipush 8, 2) := by decide +kernel
theorem dX12_listed_9 : decode cX12_listed 9 = .ok (.iaload, 1) := by decide +kernel
theorem dX12_listed_10 : decode cX12_listed 10 = .ok (.if_icmp .ge 25, 3) := by decide +kernel
theorem dX12_listed_35 : decode cX12_listed 35 = .ok (.iconst (-1), 1) := by decide +kernel
theorem dX12_listed_36 : decode cX12_listed 36 = .ok (.ireturn, 1) := by decide +kernel
theorem dX12_listed_13 : decode cX12_listed 13 = .ok (.aload_n 0, 1) := by decide +kernel
theorem dX12_listed_14 : decode cX12_listed 14 = .ok (.getfield 7, 3) := by decide +kernel
theorem dX12_listed_17 : decode cX12_listed 17 = .ok (.sipush 137, 3) := by decide +kernel
theorem dX12_listed_20 : decode cX12_listed 20 = .ok (.iload_n 2, 1) := by decide +kernel
theorem dX12_listed_21 : decode cX12_listed 21 = .ok (.iadd, 1) := by decide +kernel
theorem dX12_listed_22 : decode cX12_listed 22 = .ok (.iaload, 1) := by decide +kernel
theorem dX12_listed_23 : decode cX12_listed 23 = .ok (.iload_n 1, 1) := by decide +kernel
theorem dX12_listed_24 : decode cX12_listed 24 = .ok (.if_icmp .ne 5, 3) := by decide +kernel
theorem dX12_listed_29 : decode cX12_listed 29 = .ok (.iinc 2 1, 3) := by decide +kernel
theorem dX12_listed_32 : decode cX12_listed 32 = .ok (.goto (-30), 3) := by decide +kernel
theorem dX12_listed_27 : decode cX12_listed 27 = .ok (.iload_n 2, 1) := by decide +kernel
theorem dX12_listed_28 : decode cX12_listed 28 = .ok (.ireturn, 1) := by decide +kernel
set_option maxHeartbeats 8000000 in
set_option maxRecDepth 100000 in
theorem c_X12_listed (l : Launch) (g : kG) (sz : Nat) (z : Nat → Nat) (kp : Nat) (xs : Nat → Int32) (D : Nat → Int32) (x : Int32) (hDI : DI D) : kMi l g yX12_listed cX12_listed 3 (some .int) 1 0 0 [.ref (z 0), .int x] sz [(z 0, .inr (12, [.ref (z 1), .ref (z 2), .int (nI kp), .int (xs 0), .ref (z 3), .ref (z 4), .ref (z 5), .ref (z 6), .int (xs 1), .ref (z 7), .ref (z 8), .ref (z 9), .ref (z 10), .ref (z 11), .ref (z 12), .int (xs 2), .ref (z 13), .ref (z 14), .int (xs 3), .ref (z 15)])), (z 1, .inl (gI g, 461, .inl D))] (fun (r : Int32) (u : Unit) => (r = -1 ∧ ∀ k : Nat, (k : Int) < (D 8).toInt → ¬ D (137 + k) = x) ∨ ∃ k : Nat, (k : Int) < (D 8).toInt ∧ r = nI k) (fun (u : Unit) => ([(z 0, .inr (12, [.ref (z 1), .ref (z 2), .int (nI kp), .int (xs 0), .ref (z 3), .ref (z 4), .ref (z 5), .ref (z 6), .int (xs 1), .ref (z 7), .ref (z 8), .ref (z 9), .ref (z 10), .ref (z 11), .ref (z 12), .int (xs 2), .ref (z 13), .ref (z 14), .int (xs 3), .ref (z 15)])), (z 1, .inl (gI g, 461, .inl D))] : va_W)) := by
  refine kMi.of (by decide) (Nat.le_of_ble_eq_true rfl) (fun p e s m below meth c A hx hb hr hml hown hts hlk hnm hKW hP hD hS hA ls hl => ?_)
  have hown : s.vm.findClass RX12 = some m.cls := hown
  have hl : lv_has ls 3 [(0, .ref (z 0)), (1, .int x)] := hl
  refine k_hide hP hS (fun H locs hP hS => ?_)
  refine lv_iconst (v := 0) hx hb dX12_listed_0 (by decide) ?_
  refine lv_istore_n (lv' := [(2, .int 0), (0, .ref (z 0)), (1, .int x)]) hx hb dX12_listed_1 rfl hl (by decide) rfl (fun ls hl => ?_)
  have L2 : ∀ (n2 : Nat) (i : Nat) (hfuel2 : 10 - i < n2) (hi : i ≤ 10) (hno : ∀ k : Nat, k < i → ¬ D (137 + k) = x) (H : Heap) (locs : List Loc) (hP : va_P g.1 vwCl [(z 0, .inr (12, [.ref (z 1), .ref (z 2), .int (nI kp), .int (xs 0), .ref (z 3), .ref (z 4), .ref (z 5), .ref (z 6), .int (xs 1), .ref (z 7), .ref (z 8), .ref (z 9), .ref (z 10), .ref (z 11), .ref (z 12), .int (xs 2), .ref (z 13), .ref (z 14), .int (xs 3), .ref (z 15)])), (z 1, .inl (gI g, 461, .inl D))] H) (hD : va_D A [(z 0, .inr (12, [.ref (z 1), .ref (z 2), .int (nI kp), .int (xs 0), .ref (z 3), .ref (z 4), .ref (z 5), .ref (z 6), .int (xs 1), .ref (z 7), .ref (z 8), .ref (z 9), .ref (z 10), .ref (z 11), .ref (z 12), .int (xs 2), .ref (z 13), .ref (z 14), .int (xs 3), .ref (z 15)])), (z 1, .inl (gI g, 461, .inl D))]) (hS : va_S A s.heap H locs) (ls : Array Slot) (hl : lv_has ls 3 [(2, .int (nI i)), (0, .ref (z 0)), (1, .int x)]), W p l e (kR 1 0 0) s m ([.ref (z 0), .int x] : List Value).toArray below meth c H locs 0 0 (kQi g A below ([.ref (z 0), .int x] : List Value).toArray s 0 0 (fun (r : Int32) (u : Unit) => (r = -1 ∧ ∀ k : Nat, (k : Int) < (D 8).toInt → ¬ D (137 + k) = x) ∨ ∃ k : Nat, (k : Int) < (D 8).toInt ∧ r = nI k) (fun (u : Unit) => ([(z 0, .inr (12, [.ref (z 1), .ref (z 2), .int (nI kp), .int (xs 0), .ref (z 3), .ref (z 4), .ref (z 5), .ref (z 6), .int (xs 1), .ref (z 7), .ref (z 8), .ref (z 9), .ref (z 10), .ref (z 11), .ref (z 12), .int (xs 2), .ref (z 13), .ref (z 14), .int (xs 3), .ref (z 15)])), (z 1, .inl (gI g, 461, .inl D))] : va_W))) (F0 m 2 ls []) := by
    intro n2
    induction n2 with
    | zero => intro i hfuel2; exact absurd hfuel2 (Nat.not_lt_zero _)
    | succ n2 ih2 =>
      intro i hfuel2 hi hno H locs hP hD hS ls hl
      refine lv_iload_n hx hb dX12_listed_2 rfl (lv_at hl 0 rfl) ?_
      refine lv_aload_n hx hb dX12_listed_3 rfl (lv_at hl 1 rfl) ?_
      refine va_get (ci := 12) (C := RX12) (T := TX12) (N := 20) hx hb hts inlX12 hown hKW.1 hP 0 rfl rfl 0 (by decide) (hts _ wd_6_5) (fun _ h => h) rfl dX12_listed_4 ?_
      refine lv_bipush (v := 8) hx hb dX12_listed_7 (by decide) ?_
      obtain ⟨dk_1, hdk_1a, hdk_1b, edk_1⟩ := DI.n8 hDI
      refine va_iald hx hb hKW.1 hP 1 0 rfl rfl (show ¬ _ by decide) dX12_listed_9 ?_
      refine k_top (y := nI dk_1) edk_1 ?_
      refine lv_icmp_ge (tgt := 35) hx hb dX12_listed_10 (by decide) (fun c_2 => ?_) (fun c_2 => ?_)
      · have c_2n : dk_1 ≤ i := (k_leI (a := dk_1) (b := i) (by omega) (by omega)).mp c_2
        refine lv_iconst (v := (-1)) hx hb dX12_listed_35 (by decide) ?_
        exact k_iret () [0, 1] hx hb hr hlk hP hD hS (Or.inl ⟨rfl, fun k hk => hno k (by rw [edk_1, k_nIi (by omega)] at hk; omega)⟩) rfl rfl rfl (Nat.le_of_ble_eq_true rfl) (Nat.le_of_ble_eq_true rfl) dX12_listed_36
      · have c_2n : i < dk_1 := Nat.not_le.mp (fun h => c_2 ((k_leI (a := dk_1) (b := i) (by omega) (by omega)).mpr h))
        refine lv_aload_n hx hb dX12_listed_13 rfl (lv_at hl 1 rfl) ?_
        refine va_get (ci := 12) (C := RX12) (T := TX12) (N := 20) hx hb hts inlX12 hown hKW.1 hP 0 rfl rfl 0 (by decide) (hts _ wd_6_5) (fun _ h => h) rfl dX12_listed_14 ?_
        refine lv_sipush (v := 137) hx hb dX12_listed_17 (by decide) ?_
        refine lv_iload_n hx hb dX12_listed_20 rfl (lv_at hl 0 rfl) ?_
        refine lv_iadd hx hb dX12_listed_21 ?_
        refine k_top (y := nI (i + 137)) (by rw [Nat.add_comm]; exact nI_add 137 i) ?_
        refine va_iald hx hb hKW.1 hP 1 0 rfl rfl (vp_in_nI (by omega) (by decide)) dX12_listed_22 ?_
        refine lv_topi (fun x_3 ex_3 => ?_)
        refine lv_iload_n hx hb dX12_listed_23 rfl (lv_at hl 2 rfl) ?_
        refine lv_icmp_ne (tgt := 29) hx hb dX12_listed_24 (by decide) (fun c_4 => ?_) (fun c_4 => ?_)
        · refine lv_iinc (v := nI (i + 1)) (lv' := [(2, .int (nI (i + 1))), (0, .ref (z 0)), (1, .int x)]) hx hb dX12_listed_29 hl (k := 0) rfl (nI_add i 1) (by decide) rfl (fun ls hl => ?_)
          refine lv_goto (tgt := 2) hx hb dX12_listed_32 (by decide) ?_
          exact ih2 (i + 1) (by omega) (by first | assumption | omega) (fun k hk => (Nat.lt_or_ge k i).elim (fun q => hno k q) (fun q => by rw [show k = i by omega]; have q2 := c_4; rw [ex_3, nI_clamp (by omega), Nat.add_comm] at q2; exact q2)) H locs (hP.sub [0, 1] rfl) (hD.sub [0, 1] (by decide) rfl) hS ls (lv_sub hl [0, 1, 2] rfl)
        · refine lv_iload_n hx hb dX12_listed_27 rfl (lv_at hl 0 rfl) ?_
          exact k_iret () [0, 1] hx hb hr hlk hP hD hS (Or.inr ⟨i, by rw [edk_1, k_nIi (by omega)]; omega, rfl⟩) rfl rfl rfl (Nat.le_of_ble_eq_true rfl) (Nat.le_of_ble_eq_true rfl) dX12_listed_28
  exact L2 (10 - 0 + 1) 0 (Nat.lt_succ_self _) (by first | assumption | omega) (fun k hk => absurd hk (by omega)) H locs (hP.sub [0, 1] rfl) (hD.sub [0, 1] (by decide) rfl) hS ls (lv_sub hl [0, 1, 2] rfl)
theorem dX12_areSiblings_0 : decode cX12_areSiblings 0 = .ok (.aload_n 0, 1) := by decide +kernel
theorem dX12_areSiblings_1 : decode cX12_areSiblings 1 = .ok (.getfield 7, 3) := by decide +kernel
theorem dX12_areSiblings_4 : decode cX12_areSiblings 4 = .ok (.bipush 57, 2) := by decide +kernel
theorem dX12_areSiblings_6 : decode cX12_areSiblings 6 = .ok (.iload_n 1, 1) := by decide +kernel
theorem dX12_areSiblings_7 : decode cX12_areSiblings 7 = .ok (.iadd, 1) := by decide +kernel
theorem dX12_areSiblings_8 : decode cX12_areSiblings 8 = .ok (.iaload, 1) := by decide +kernel
theorem dX12_areSiblings_9 : decode cX12_areSiblings 9 = .ok (.iload_n 2, 1) := by decide +kernel
theorem dX12_areSiblings_10 : decode cX12_areSiblings 10 = .ok (.if_icmp .eq 49, 3) := by decide +kernel
theorem dX12_areSiblings_59 : decode cX12_areSiblings 59 = .ok (.iconst 1, 1) := by decide +kernel
theorem dX12_areSiblings_60 : decode cX12_areSiblings 60 = .ok (.goto 4, 3) := by decide +kernel
theorem dX12_areSiblings_64 : decode cX12_areSiblings 64 = .ok (.ireturn, 1) := by decide +kernel
theorem dX12_areSiblings_13 : decode cX12_areSiblings 13 = .ok (.aload_n 0, 1) := by decide +kernel
theorem dX12_areSiblings_14 : decode cX12_areSiblings 14 = .ok (.getfield 7, 3) := by decide +kernel
theorem dX12_areSiblings_17 : decode cX12_areSiblings 17 = .ok (.bipush 57, 2) := by decide +kernel
theorem dX12_areSiblings_19 : decode cX12_areSiblings 19 = .ok (.iload_n 2, 1) := by decide +kernel
theorem dX12_areSiblings_20 : decode cX12_areSiblings 20 = .ok (.iadd, 1) := by decide +kernel
theorem dX12_areSiblings_21 : decode cX12_areSiblings 21 = .ok (.iaload, 1) := by decide +kernel
theorem dX12_areSiblings_22 : decode cX12_areSiblings 22 = .ok (.iload_n 1, 1) := by decide +kernel
theorem dX12_areSiblings_23 : decode cX12_areSiblings 23 = .ok (.if_icmp .eq 36, 3) := by decide +kernel
theorem dX12_areSiblings_26 : decode cX12_areSiblings 26 = .ok (.aload_n 0, 1) := by decide +kernel
theorem dX12_areSiblings_27 : decode cX12_areSiblings 27 = .ok (.getfield 7, 3) := by decide +kernel
theorem dX12_areSiblings_30 : decode cX12_areSiblings 30 = .ok (.bipush 57, 2) := by decide +kernel
theorem dX12_areSiblings_32 : decode cX12_areSiblings 32 = .ok (.iload_n 1, 1) := by decide +kernel
theorem dX12_areSiblings_33 : decode cX12_areSiblings 33 = .ok (.iadd, 1) := by decide +kernel
theorem dX12_areSiblings_34 : decode cX12_areSiblings 34 = .ok (.iaload, 1) := by decide +kernel
theorem dX12_areSiblings_35 : decode cX12_areSiblings 35 = .ok (.ifCond .lt 28, 3) := by decide +kernel
theorem dX12_areSiblings_63 : decode cX12_areSiblings 63 = .ok (.iconst 0, 1) := by decide +kernel
theorem dX12_areSiblings_38 : decode cX12_areSiblings 38 = .ok (.aload_n 0, 1) := by decide +kernel
theorem dX12_areSiblings_39 : decode cX12_areSiblings 39 = .ok (.getfield 7, 3) := by decide +kernel
theorem dX12_areSiblings_42 : decode cX12_areSiblings 42 = .ok (.bipush 57, 2) := by decide +kernel
theorem dX12_areSiblings_44 : decode cX12_areSiblings 44 = .ok (.iload_n 1, 1) := by decide +kernel
theorem dX12_areSiblings_45 : decode cX12_areSiblings 45 = .ok (.iadd, 1) := by decide +kernel
theorem dX12_areSiblings_46 : decode cX12_areSiblings 46 = .ok (.iaload, 1) := by decide +kernel
theorem dX12_areSiblings_47 : decode cX12_areSiblings 47 = .ok (.aload_n 0, 1) := by decide +kernel
theorem dX12_areSiblings_48 : decode cX12_areSiblings 48 = .ok (.getfield 7, 3) := by decide +kernel
theorem dX12_areSiblings_51 : decode cX12_areSiblings 51 = .ok (.bipush 57, 2) := by decide +kernel
theorem dX12_areSiblings_53 : decode cX12_areSiblings 53 = .ok (.iload_n 2, 1) := by decide +kernel
theorem dX12_areSiblings_54 : decode cX12_areSiblings 54 = .ok (.iadd, 1) := by decide +kernel
theorem dX12_areSiblings_55 : decode cX12_areSiblings 55 = .ok (.iaload, 1) := by decide +kernel
theorem dX12_areSiblings_56 : decode cX12_areSiblings 56 = .ok (.if_icmp .ne 7, 3) := by decide +kernel
set_option maxHeartbeats 8000000 in
set_option maxRecDepth 100000 in
theorem c_X12_areSiblings (l : Launch) (g : kG) (sz : Nat) (z : Nat → Nat) (kp : Nat) (xs : Nat → Int32) (D : Nat → Int32) (i : Nat) (j : Nat) (hi : i < 10) (hj : j < 10) : kMi l g yX12_areSiblings cX12_areSiblings 3 (some .boolean) 1 0 0 [.ref (z 0), .int (nI i), .int (nI j)] sz [(z 0, .inr (12, [.ref (z 1), .ref (z 2), .int (nI kp), .int (xs 0), .ref (z 3), .ref (z 4), .ref (z 5), .ref (z 6), .int (xs 1), .ref (z 7), .ref (z 8), .ref (z 9), .ref (z 10), .ref (z 11), .ref (z 12), .int (xs 2), .ref (z 13), .ref (z 14), .int (xs 3), .ref (z 15)])), (z 1, .inl (gI g, 461, .inl D))] (fun (r : Int32) (u : Unit) => r = 1 ∨ r = 0) (fun (u : Unit) => ([(z 0, .inr (12, [.ref (z 1), .ref (z 2), .int (nI kp), .int (xs 0), .ref (z 3), .ref (z 4), .ref (z 5), .ref (z 6), .int (xs 1), .ref (z 7), .ref (z 8), .ref (z 9), .ref (z 10), .ref (z 11), .ref (z 12), .int (xs 2), .ref (z 13), .ref (z 14), .int (xs 3), .ref (z 15)])), (z 1, .inl (gI g, 461, .inl D))] : va_W)) := by
  refine kMi.of (by decide) (Nat.le_of_ble_eq_true rfl) (fun p e s m below meth c A hx hb hr hml hown hts hlk hnm hKW hP hD hS hA ls hl => ?_)
  have hown : s.vm.findClass RX12 = some m.cls := hown
  have hl : lv_has ls 3 [(0, .ref (z 0)), (1, .int (nI i)), (2, .int (nI j))] := hl
  refine k_hide hP hS (fun H locs hP hS => ?_)
  refine lv_aload_n hx hb dX12_areSiblings_0 rfl (lv_at hl 0 rfl) ?_
  refine va_get (ci := 12) (C := RX12) (T := TX12) (N := 20) hx hb hts inlX12 hown hKW.1 hP 0 rfl rfl 0 (by decide) (hts _ wd_6_5) (fun _ h => h) rfl dX12_areSiblings_1 ?_
  refine lv_bipush (v := 57) hx hb dX12_areSiblings_4 (by decide) ?_
  refine lv_iload_n hx hb dX12_areSiblings_6 rfl (lv_at hl 1 rfl) ?_
  refine lv_iadd hx hb dX12_areSiblings_7 ?_
  refine k_top (y := nI (i + 57)) (by rw [Nat.add_comm]; exact nI_add 57 i) ?_
  refine va_iald hx hb hKW.1 hP 1 0 rfl rfl (vp_in_nI (by omega) (by decide)) dX12_areSiblings_8 ?_
  refine lv_topi (fun x_1 ex_1 => ?_)
  refine lv_iload_n hx hb dX12_areSiblings_9 rfl (lv_at hl 2 rfl) ?_
  refine lv_icmp_eq (tgt := 59) hx hb dX12_areSiblings_10 (by decide) (fun c_2 => ?_) (fun c_2 => ?_)
  · refine lv_iconst (v := 1) hx hb dX12_areSiblings_59 (by decide) ?_
    refine lv_goto (tgt := 64) hx hb dX12_areSiblings_60 (by decide) ?_
    exact k_zret () [0, 1] hx hb hr hlk hP hD hS (Or.inl rfl) rfl rfl rfl rfl (Nat.le_of_ble_eq_true rfl) (Nat.le_of_ble_eq_true rfl) dX12_areSiblings_64
  · refine lv_aload_n hx hb dX12_areSiblings_13 rfl (lv_at hl 0 rfl) ?_
    refine va_get (ci := 12) (C := RX12) (T := TX12) (N := 20) hx hb hts inlX12 hown hKW.1 hP 0 rfl rfl 0 (by decide) (hts _ wd_6_5) (fun _ h => h) rfl dX12_areSiblings_14 ?_
    refine lv_bipush (v := 57) hx hb dX12_areSiblings_17 (by decide) ?_
    refine lv_iload_n hx hb dX12_areSiblings_19 rfl (lv_at hl 2 rfl) ?_
    refine lv_iadd hx hb dX12_areSiblings_20 ?_
    refine k_top (y := nI (j + 57)) (by rw [Nat.add_comm]; exact nI_add 57 j) ?_
    refine va_iald hx hb hKW.1 hP 1 0 rfl rfl (vp_in_nI (by omega) (by decide)) dX12_areSiblings_21 ?_
    refine lv_topi (fun x_3 ex_3 => ?_)
    refine lv_iload_n hx hb dX12_areSiblings_22 rfl (lv_at hl 1 rfl) ?_
    refine lv_icmp_eq (tgt := 59) hx hb dX12_areSiblings_23 (by decide) (fun c_4 => ?_) (fun c_4 => ?_)
    · refine lv_iconst (v := 1) hx hb dX12_areSiblings_59 (by decide) ?_
      refine lv_goto (tgt := 64) hx hb dX12_areSiblings_60 (by decide) ?_
      exact k_zret () [0, 1] hx hb hr hlk hP hD hS (Or.inl rfl) rfl rfl rfl rfl (Nat.le_of_ble_eq_true rfl) (Nat.le_of_ble_eq_true rfl) dX12_areSiblings_64
    · refine lv_aload_n hx hb dX12_areSiblings_26 rfl (lv_at hl 0 rfl) ?_
      refine va_get (ci := 12) (C := RX12) (T := TX12) (N := 20) hx hb hts inlX12 hown hKW.1 hP 0 rfl rfl 0 (by decide) (hts _ wd_6_5) (fun _ h => h) rfl dX12_areSiblings_27 ?_
      refine lv_bipush (v := 57) hx hb dX12_areSiblings_30 (by decide) ?_
      refine lv_iload_n hx hb dX12_areSiblings_32 rfl (lv_at hl 1 rfl) ?_
      refine lv_iadd hx hb dX12_areSiblings_33 ?_
      refine k_top (y := nI (i + 57)) (by rw [Nat.add_comm]; exact nI_add 57 i) ?_
      refine va_iald hx hb hKW.1 hP 1 0 rfl rfl (vp_in_nI (by omega) (by decide)) dX12_areSiblings_34 ?_
      refine lv_topi (fun x_5 ex_5 => ?_)
      refine lv_if_lt (tgt := 63) hx hb dX12_areSiblings_35 (by decide) (fun c_6 => ?_) (fun c_6 => ?_)
      · refine lv_iconst (v := 0) hx hb dX12_areSiblings_63 (by decide) ?_
        exact k_zret () [0, 1] hx hb hr hlk hP hD hS (Or.inr rfl) rfl rfl rfl rfl (Nat.le_of_ble_eq_true rfl) (Nat.le_of_ble_eq_true rfl) dX12_areSiblings_64
      · refine lv_aload_n hx hb dX12_areSiblings_38 rfl (lv_at hl 0 rfl) ?_
        refine va_get (ci := 12) (C := RX12) (T := TX12) (N := 20) hx hb hts inlX12 hown hKW.1 hP 0 rfl rfl 0 (by decide) (hts _ wd_6_5) (fun _ h => h) rfl dX12_areSiblings_39 ?_
        refine lv_bipush (v := 57) hx hb dX12_areSiblings_42 (by decide) ?_
        refine lv_iload_n hx hb dX12_areSiblings_44 rfl (lv_at hl 1 rfl) ?_
        refine lv_iadd hx hb dX12_areSiblings_45 ?_
        refine k_top (y := nI (i + 57)) (by rw [Nat.add_comm]; exact nI_add 57 i) ?_
        refine va_iald hx hb hKW.1 hP 1 0 rfl rfl (vp_in_nI (by omega) (by decide)) dX12_areSiblings_46 ?_
        refine lv_topi (fun x_7 ex_7 => ?_)
        refine lv_aload_n hx hb dX12_areSiblings_47 rfl (lv_at hl 0 rfl) ?_
        refine va_get (ci := 12) (C := RX12) (T := TX12) (N := 20) hx hb hts inlX12 hown hKW.1 hP 0 rfl rfl 0 (by decide) (hts _ wd_6_5) (fun _ h => h) rfl dX12_areSiblings_48 ?_
        refine lv_bipush (v := 57) hx hb dX12_areSiblings_51 (by decide) ?_
        refine lv_iload_n hx hb dX12_areSiblings_53 rfl (lv_at hl 2 rfl) ?_
        refine lv_iadd hx hb dX12_areSiblings_54 ?_
        refine k_top (y := nI (j + 57)) (by rw [Nat.add_comm]; exact nI_add 57 j) ?_
        refine va_iald hx hb hKW.1 hP 1 0 rfl rfl (vp_in_nI (by omega) (by decide)) dX12_areSiblings_55 ?_
        refine lv_topi (fun x_8 ex_8 => ?_)
        refine lv_icmp_ne (tgt := 63) hx hb dX12_areSiblings_56 (by decide) (fun c_9 => ?_) (fun c_9 => ?_)
        · refine lv_iconst (v := 0) hx hb dX12_areSiblings_63 (by decide) ?_
          exact k_zret () [0, 1] hx hb hr hlk hP hD hS (Or.inr rfl) rfl rfl rfl rfl (Nat.le_of_ble_eq_true rfl) (Nat.le_of_ble_eq_true rfl) dX12_areSiblings_64
        · refine lv_iconst (v := 1) hx hb dX12_areSiblings_59 (by decide) ?_
          refine lv_goto (tgt := 64) hx hb dX12_areSiblings_60 (by decide) ?_
          exact k_zret () [0, 1] hx hb hr hlk hP hD hS (Or.inl rfl) rfl rfl rfl rfl (Nat.le_of_ble_eq_true rfl) (Nat.le_of_ble_eq_true rfl) dX12_areSiblings_64
theorem dX12_hasSibling_0 : decode cX12_hasSibling 0 = .ok (.iconst 0, 1) := by decide +kernel
theorem dX12_hasSibling_1 : decode cX12_hasSibling 1 = .ok (.istore_n 2, 1) := by decide +kernel
theorem dX12_hasSibling_2 : decode cX12_hasSibling 2 = .ok (.iconst 0, 1) := by decide +kernel
theorem dX12_hasSibling_3 : decode cX12_hasSibling 3 = .ok (.istore_n 3, 1) := by decide +kernel
theorem dX12_hasSibling_4 : decode cX12_hasSibling 4 = .ok (.iload_n 3, 1) := by decide +kernel
theorem dX12_hasSibling_5 : decode cX12_hasSibling 5 = .ok (.aload_n 0, 1) := by decide +kernel
theorem dX12_hasSibling_6 : decode cX12_hasSibling 6 = .ok (.getfield 7, 3) := by decide +kernel
theorem dX12_hasSibling_9 : decode cX12_hasSibling 9 = .ok (.iconst 2, 1) := by decide +kernel
theorem dX12_hasSibling_10 : decode cX12_hasSibling 10 = .ok (.iaload, 1) := by decide +kernel
theorem dX12_hasSibling_11 : decode cX12_hasSibling 11 = .ok (.if_icmp .ge 44, 3) := by decide +kernel
theorem dX12_hasSibling_55 : decode cX12_hasSibling 55 = .ok (.iload_n 2, 1) := by decide +kernel
theorem dX12_hasSibling_56 : decode cX12_hasSibling 56 = .ok (.ireturn, 1) := by decide +kernel
theorem dX12_hasSibling_14 : decode cX12_hasSibling 14 = .ok (.iload_n 2, 1) := by decide +kernel
theorem dX12_hasSibling_15 : decode cX12_hasSibling 15 = .ok (.iload_n 3, 1) := by decide +kernel
theorem dX12_hasSibling_16 : decode cX12_hasSibling 16 = .ok (.iload_n 1, 1) := by decide +kernel
theorem dX12_hasSibling_17 : decode cX12_hasSibling 17 = .ok (.if_icmp .eq 29, 3) := by decide +kernel
theorem dX12_hasSibling_46 : decode cX12_hasSibling 46 = .ok (.iconst 0, 1) := by decide +kernel
theorem dX12_hasSibling_47 : decode cX12_hasSibling 47 = .ok (.ior, 1) := by decide +kernel
theorem dX12_hasSibling_48 : decode cX12_hasSibling 48 = .ok (.istore_n 2, 1) := by decide +kernel
theorem dX12_hasSibling_49 : decode cX12_hasSibling 49 = .ok (.iinc 3 1, 3) := by decide +kernel
theorem dX12_hasSibling_52 : decode cX12_hasSibling 52 = .ok (.goto (-48), 3) := by decide +kernel
theorem dX12_hasSibling_20 : decode cX12_hasSibling 20 = .ok (.aload_n 0, 1) := by decide +kernel
theorem dX12_hasSibling_21 : decode cX12_hasSibling 21 = .ok (.getfield 7, 3) := by decide +kernel
theorem dX12_hasSibling_24 : decode cX12_hasSibling 24 = .ok (.bipush 117, 2) := by decide +kernel
theorem dX12_hasSibling_26 : decode cX12_hasSibling 26 = .ok (.iload_n 3, 1) := by decide +kernel
theorem dX12_hasSibling_27 : decode cX12_hasSibling 27 = .ok (.iadd, 1) := by decide +kernel
theorem dX12_hasSibling_28 : decode cX12_hasSibling 28 = .ok (.iaload, 1) := by decide +kernel
theorem dX12_hasSibling_29 : decode cX12_hasSibling 29 = .ok (.iconst 1, 1) := by decide +kernel
theorem dX12_hasSibling_30 : decode cX12_hasSibling 30 = .ok (.if_icmp .ne 16, 3) := by decide +kernel
theorem dX12_hasSibling_33 : decode cX12_hasSibling 33 = .ok (.aload_n 0, 1) := by decide +kernel
theorem dX12_hasSibling_34 : decode cX12_hasSibling 34 = .ok (.iload_n 1, 1) := by decide +kernel
theorem dX12_hasSibling_35 : decode cX12_hasSibling 35 = .ok (.iload_n 3, 1) := by decide +kernel
theorem dX12_hasSibling_36 : decode cX12_hasSibling 36 = .ok (.invokevirtual 174, 3) := by decide +kernel
theorem dX12_hasSibling_39 : decode cX12_hasSibling 39 = .ok (.ifCond .eq 7, 3) := by decide +kernel
theorem dX12_hasSibling_42 : decode cX12_hasSibling 42 = .ok (.iconst 1, 1) := by decide +kernel
theorem dX12_hasSibling_43 : decode cX12_hasSibling 43 = .ok (.goto 4, 3) := by decide +kernel
set_option maxHeartbeats 8000000 in
set_option maxRecDepth 100000 in
theorem c_X12_hasSibling (l : Launch) (g : kG) (sz : Nat) (z : Nat → Nat) (kp : Nat) (xs : Nat → Int32) (D : Nat → Int32) (k : Nat) (hk : k < 10) (hDI : DI D) : kMi l g yX12_hasSibling cX12_hasSibling 4 (some .boolean) 2 0 0 [.ref (z 0), .int (nI k)] sz [(z 0, .inr (12, [.ref (z 1), .ref (z 2), .int (nI kp), .int (xs 0), .ref (z 3), .ref (z 4), .ref (z 5), .ref (z 6), .int (xs 1), .ref (z 7), .ref (z 8), .ref (z 9), .ref (z 10), .ref (z 11), .ref (z 12), .int (xs 2), .ref (z 13), .ref (z 14), .int (xs 3), .ref (z 15)])), (z 1, .inl (gI g, 461, .inl D))] (fun (r : Int32) (u : Unit) => r = 1 ∨ r = 0) (fun (u : Unit) => ([(z 0, .inr (12, [.ref (z 1), .ref (z 2), .int (nI kp), .int (xs 0), .ref (z 3), .ref (z 4), .ref (z 5), .ref (z 6), .int (xs 1), .ref (z 7), .ref (z 8), .ref (z 9), .ref (z 10), .ref (z 11), .ref (z 12), .int (xs 2), .ref (z 13), .ref (z 14), .int (xs 3), .ref (z 15)])), (z 1, .inl (gI g, 461, .inl D))] : va_W)) := by
  refine kMi.of (by decide) (Nat.le_of_ble_eq_true rfl) (fun p e s m below meth c A hx hb hr hml hown hts hlk hnm hKW hP hD hS hA ls hl => ?_)
  have hown : s.vm.findClass RX12 = some m.cls := hown
  have hl : lv_has ls 4 [(0, .ref (z 0)), (1, .int (nI k))] := hl
  refine k_hide hP hS (fun H locs hP hS => ?_)
  refine lv_iconst (v := 0) hx hb dX12_hasSibling_0 (by decide) ?_
  refine lv_istore_n (lv' := [(2, .int 0), (0, .ref (z 0)), (1, .int (nI k))]) hx hb dX12_hasSibling_1 rfl hl (by decide) rfl (fun ls hl => ?_)
  refine lv_iconst (v := 0) hx hb dX12_hasSibling_2 (by decide) ?_
  refine lv_istore_n (lv' := [(3, .int 0), (2, .int 0), (0, .ref (z 0)), (1, .int (nI k))]) hx hb dX12_hasSibling_3 rfl hl (by decide) rfl (fun ls hl => ?_)
  have L4 : ∀ (n4 : Nat) (i : Nat) (x2 : Int32) (hfuel4 : 10 - i < n4) (hi : i ≤ 10) (h01 : x2 = 1 ∨ x2 = 0) (H : Heap) (locs : List Loc) (hP : va_P g.1 vwCl [(z 0, .inr (12, [.ref (z 1), .ref (z 2), .int (nI kp), .int (xs 0), .ref (z 3), .ref (z 4), .ref (z 5), .ref (z 6), .int (xs 1), .ref (z 7), .ref (z 8), .ref (z 9), .ref (z 10), .ref (z 11), .ref (z 12), .int (xs 2), .ref (z 13), .ref (z 14), .int (xs 3), .ref (z 15)])), (z 1, .inl (gI g, 461, .inl D))] H) (hD : va_D A [(z 0, .inr (12, [.ref (z 1), .ref (z 2), .int (nI kp), .int (xs 0), .ref (z 3), .ref (z 4), .ref (z 5), .ref (z 6), .int (xs 1), .ref (z 7), .ref (z 8), .ref (z 9), .ref (z 10), .ref (z 11), .ref (z 12), .int (xs 2), .ref (z 13), .ref (z 14), .int (xs 3), .ref (z 15)])), (z 1, .inl (gI g, 461, .inl D))]) (hS : va_S A s.heap H locs) (ls : Array Slot) (hl : lv_has ls 4 [(3, .int (nI i)), (2, .int x2), (0, .ref (z 0)), (1, .int (nI k))]), W p l e (kR 2 0 0) s m ([.ref (z 0), .int (nI k)] : List Value).toArray below meth c H locs 0 0 (kQi g A below ([.ref (z 0), .int (nI k)] : List Value).toArray s 0 0 (fun (r : Int32) (u : Unit) => r = 1 ∨ r = 0) (fun (u : Unit) => ([(z 0, .inr (12, [.ref (z 1), .ref (z 2), .int (nI kp), .int (xs 0), .ref (z 3), .ref (z 4), .ref (z 5), .ref (z 6), .int (xs 1), .ref (z 7), .ref (z 8), .ref (z 9), .ref (z 10), .ref (z 11), .ref (z 12), .int (xs 2), .ref (z 13), .ref (z 14), .int (xs 3), .ref (z 15)])), (z 1, .inl (gI g, 461, .inl D))] : va_W))) (F0 m 4 ls []) := by
    intro n4
    induction n4 with
    | zero => intro i x2 hfuel4; exact absurd hfuel4 (Nat.not_lt_zero _)
    | succ n4 ih4 =>
      intro i x2 hfuel4 hi h01 H locs hP hD hS ls hl
      refine lv_iload_n hx hb dX12_hasSibling_4 rfl (lv_at hl 0 rfl) ?_
      refine lv_aload_n hx hb dX12_hasSibling_5 rfl (lv_at hl 2 rfl) ?_
      refine va_get (ci := 12) (C := RX12) (T := TX12) (N := 20) hx hb hts inlX12 hown hKW.1 hP 0 rfl rfl 0 (by decide) (hts _ wd_6_5) (fun _ h => h) rfl dX12_hasSibling_6 ?_
      refine lv_iconst (v := 2) hx hb dX12_hasSibling_9 (by decide) ?_
      obtain ⟨dk_1, hdk_1a, hdk_1b, edk_1⟩ := DI.n2 hDI
      refine va_iald hx hb hKW.1 hP 1 0 rfl rfl (show ¬ _ by decide) dX12_hasSibling_10 ?_
      refine k_top (y := nI dk_1) edk_1 ?_
      refine lv_icmp_ge (tgt := 55) hx hb dX12_hasSibling_11 (by decide) (fun c_2 => ?_) (fun c_2 => ?_)
      · have c_2n : dk_1 ≤ i := (k_leI (a := dk_1) (b := i) (by omega) (by omega)).mp c_2
        rcases h01 with rfl | rfl
        · skip
          refine lv_iload_n hx hb dX12_hasSibling_55 rfl (lv_at hl 1 rfl) ?_
          exact k_zret () [0, 1] hx hb hr hlk hP hD hS (Or.inl rfl) rfl rfl rfl rfl (Nat.le_of_ble_eq_true rfl) (Nat.le_of_ble_eq_true rfl) dX12_hasSibling_56
        · skip
          refine lv_iload_n hx hb dX12_hasSibling_55 rfl (lv_at hl 1 rfl) ?_
          exact k_zret () [0, 1] hx hb hr hlk hP hD hS (Or.inr rfl) rfl rfl rfl rfl (Nat.le_of_ble_eq_true rfl) (Nat.le_of_ble_eq_true rfl) dX12_hasSibling_56
      · have c_2n : i < dk_1 := Nat.not_le.mp (fun h => c_2 ((k_leI (a := dk_1) (b := i) (by omega) (by omega)).mpr h))
        rcases h01 with rfl | rfl
        · skip
          refine lv_iload_n hx hb dX12_hasSibling_14 rfl (lv_at hl 1 rfl) ?_
          refine lv_iload_n hx hb dX12_hasSibling_15 rfl (lv_at hl 0 rfl) ?_
          refine lv_iload_n hx hb dX12_hasSibling_16 rfl (lv_at hl 3 rfl) ?_
          refine lv_icmp_eq (tgt := 46) hx hb dX12_hasSibling_17 (by decide) (fun c_3 => ?_) (fun c_3 => ?_)
          · have c_3n : i = k := (k_eqI (a := i) (b := k) (by omega) (by omega)).mp c_3
            refine lv_iconst (v := 0) hx hb dX12_hasSibling_46 (by decide) ?_
            refine lv_ior hx hb dX12_hasSibling_47 ?_
            refine k_top (y := 1) (by decide) ?_
            refine lv_istore_n (lv' := [(2, .int 1), (3, .int (nI i)), (0, .ref (z 0)), (1, .int (nI k))]) hx hb dX12_hasSibling_48 rfl hl (by decide) rfl (fun ls hl => ?_)
            refine lv_iinc (v := nI (i + 1)) (lv' := [(3, .int (nI (i + 1))), (2, .int 1), (0, .ref (z 0)), (1, .int (nI k))]) hx hb dX12_hasSibling_49 hl (k := 1) rfl (nI_add i 1) (by decide) rfl (fun ls hl => ?_)
            refine lv_goto (tgt := 4) hx hb dX12_hasSibling_52 (by decide) ?_
            exact ih4 (i + 1) 1 (by omega) (by first | assumption | omega) (by first | assumption | decide) H locs (hP.sub [0, 1] rfl) (hD.sub [0, 1] (by decide) rfl) hS ls (lv_sub hl [0, 1, 2, 3] rfl)
          · have c_3n : ¬ i = k := fun h => c_3 ((k_eqI (a := i) (b := k) (by omega) (by omega)).mpr h)
            refine lv_aload_n hx hb dX12_hasSibling_20 rfl (lv_at hl 2 rfl) ?_
            refine va_get (ci := 12) (C := RX12) (T := TX12) (N := 20) hx hb hts inlX12 hown hKW.1 hP 0 rfl rfl 0 (by decide) (hts _ wd_6_5) (fun _ h => h) rfl dX12_hasSibling_21 ?_
            refine lv_bipush (v := 117) hx hb dX12_hasSibling_24 (by decide) ?_
            refine lv_iload_n hx hb dX12_hasSibling_26 rfl (lv_at hl 0 rfl) ?_
            refine lv_iadd hx hb dX12_hasSibling_27 ?_
            refine k_top (y := nI (i + 117)) (by rw [Nat.add_comm]; exact nI_add 117 i) ?_
            refine va_iald hx hb hKW.1 hP 1 0 rfl rfl (vp_in_nI (by omega) (by decide)) dX12_hasSibling_28 ?_
            refine lv_topi (fun x_4 ex_4 => ?_)
            refine lv_iconst (v := 1) hx hb dX12_hasSibling_29 (by decide) ?_
            refine lv_icmp_ne (tgt := 46) hx hb dX12_hasSibling_30 (by decide) (fun c_5 => ?_) (fun c_5 => ?_)
            · refine lv_iconst (v := 0) hx hb dX12_hasSibling_46 (by decide) ?_
              refine lv_ior hx hb dX12_hasSibling_47 ?_
              refine k_top (y := 1) (by decide) ?_
              refine lv_istore_n (lv' := [(2, .int 1), (3, .int (nI i)), (0, .ref (z 0)), (1, .int (nI k))]) hx hb dX12_hasSibling_48 rfl hl (by decide) rfl (fun ls hl => ?_)
              refine lv_iinc (v := nI (i + 1)) (lv' := [(3, .int (nI (i + 1))), (2, .int 1), (0, .ref (z 0)), (1, .int (nI k))]) hx hb dX12_hasSibling_49 hl (k := 1) rfl (nI_add i 1) (by decide) rfl (fun ls hl => ?_)
              refine lv_goto (tgt := 4) hx hb dX12_hasSibling_52 (by decide) ?_
              exact ih4 (i + 1) 1 (by omega) (by first | assumption | omega) (by first | assumption | decide) H locs (hP.sub [0, 1] rfl) (hD.sub [0, 1] (by decide) rfl) hS ls (lv_sub hl [0, 1, 2, 3] rfl)
            · refine lv_aload_n hx hb dX12_hasSibling_33 rfl (lv_at hl 2 rfl) ?_
              refine lv_iload_n hx hb dX12_hasSibling_34 rfl (lv_at hl 3 rfl) ?_
              refine lv_iload_n hx hb dX12_hasSibling_35 rfl (lv_at hl 0 rfl) ?_
              refine k_Vi [0, 1] [] 0 12 (wr := []) hx hb hml hown hts hKW hP hD hS hA hl.1 (c_X12_areSiblings l g _ z kp xs D k i (by first | assumption | omega | decide) (by first | assumption | omega | decide)) rfl rfl rfl wd_40_19 wd_1_5 wd_40_16 wd_40_17 wd_40_18 yd_X12_areSiblings ⟨(Nat.le_of_ble_eq_true rfl), (Nat.le_of_ble_eq_true rfl)⟩ rfl rfl rfl rfl (by decide) rfl (Nat.le_of_ble_eq_true rfl) dX12_hasSibling_36 ⟨(Nat.le_of_ble_eq_true rfl), (Nat.le_of_ble_eq_true rfl)⟩ (fun r_6 u_7 H locs hw_8 hP hD hS => ?_)
              have hP : va_P g.1 vwCl [(z 0, .inr (12, [.ref (z 1), .ref (z 2), .int (nI kp), .int (xs 0), .ref (z 3), .ref (z 4), .ref (z 5), .ref (z 6), .int (xs 1), .ref (z 7), .ref (z 8), .ref (z 9), .ref (z 10), .ref (z 11), .ref (z 12), .int (xs 2), .ref (z 13), .ref (z 14), .int (xs 3), .ref (z 15)])), (z 1, .inl (gI g, 461, .inl D))] H := hP
              have hD : va_D A [(z 0, .inr (12, [.ref (z 1), .ref (z 2), .int (nI kp), .int (xs 0), .ref (z 3), .ref (z 4), .ref (z 5), .ref (z 6), .int (xs 1), .ref (z 7), .ref (z 8), .ref (z 9), .ref (z 10), .ref (z 11), .ref (z 12), .int (xs 2), .ref (z 13), .ref (z 14), .int (xs 3), .ref (z 15)])), (z 1, .inl (gI g, 461, .inl D))] := hD
              rcases (show r_6 = 1 ∨ r_6 = 0 from hw_8) with rfl | rfl <;> clear hw_8
              · refine lv_if_eq (tgt := 46) hx hb dX12_hasSibling_39 (by decide) (fun c => absurd c (by decide)) (fun _ => ?_)
                refine lv_iconst (v := 1) hx hb dX12_hasSibling_42 (by decide) ?_
                refine lv_goto (tgt := 47) hx hb dX12_hasSibling_43 (by decide) ?_
                refine lv_ior hx hb dX12_hasSibling_47 ?_
                refine k_top (y := 1) (by decide) ?_
                refine lv_istore_n (lv' := [(2, .int 1), (3, .int (nI i)), (0, .ref (z 0)), (1, .int (nI k))]) hx hb dX12_hasSibling_48 rfl hl (by decide) rfl (fun ls hl => ?_)
                refine lv_iinc (v := nI (i + 1)) (lv' := [(3, .int (nI (i + 1))), (2, .int 1), (0, .ref (z 0)), (1, .int (nI k))]) hx hb dX12_hasSibling_49 hl (k := 1) rfl (nI_add i 1) (by decide) rfl (fun ls hl => ?_)
                refine lv_goto (tgt := 4) hx hb dX12_hasSibling_52 (by decide) ?_
                exact ih4 (i + 1) 1 (by omega) (by first | assumption | omega) (by first | assumption | decide) H locs (hP.sub [0, 1] rfl) (hD.sub [0, 1] (by decide) rfl) hS ls (lv_sub hl [0, 1, 2, 3] rfl)
              · refine lv_if_eq (tgt := 46) hx hb dX12_hasSibling_39 (by decide) (fun _ => ?_) (fun c => absurd c (by decide))
                refine lv_iconst (v := 0) hx hb dX12_hasSibling_46 (by decide) ?_
                refine lv_ior hx hb dX12_hasSibling_47 ?_
                refine k_top (y := 1) (by decide) ?_
                refine lv_istore_n (lv' := [(2, .int 1), (3, .int (nI i)), (0, .ref (z 0)), (1, .int (nI k))]) hx hb dX12_hasSibling_48 rfl hl (by decide) rfl (fun ls hl => ?_)
                refine lv_iinc (v := nI (i + 1)) (lv' := [(3, .int (nI (i + 1))), (2, .int 1), (0, .ref (z 0)), (1, .int (nI k))]) hx hb dX12_hasSibling_49 hl (k := 1) rfl (nI_add i 1) (by decide) rfl (fun ls hl => ?_)
                refine lv_goto (tgt := 4) hx hb dX12_hasSibling_52 (by decide) ?_
                exact ih4 (i + 1) 1 (by omega) (by first | assumption | omega) (by first | assumption | decide) H locs (hP.sub [0, 1] rfl) (hD.sub [0, 1] (by decide) rfl) hS ls (lv_sub hl [0, 1, 2, 3] rfl)
        · skip
          refine lv_iload_n hx hb dX12_hasSibling_14 rfl (lv_at hl 1 rfl) ?_
          refine lv_iload_n hx hb dX12_hasSibling_15 rfl (lv_at hl 0 rfl) ?_
          refine lv_iload_n hx hb dX12_hasSibling_16 rfl (lv_at hl 3 rfl) ?_
          refine lv_icmp_eq (tgt := 46) hx hb dX12_hasSibling_17 (by decide) (fun c_9 => ?_) (fun c_9 => ?_)
          · have c_9n : i = k := (k_eqI (a := i) (b := k) (by omega) (by omega)).mp c_9
            refine lv_iconst (v := 0) hx hb dX12_hasSibling_46 (by decide) ?_
            refine lv_ior hx hb dX12_hasSibling_47 ?_
            refine k_top (y := 0) (by decide) ?_
            refine lv_istore_n (lv' := [(2, .int 0), (3, .int (nI i)), (0, .ref (z 0)), (1, .int (nI k))]) hx hb dX12_hasSibling_48 rfl hl (by decide) rfl (fun ls hl => ?_)
            refine lv_iinc (v := nI (i + 1)) (lv' := [(3, .int (nI (i + 1))), (2, .int 0), (0, .ref (z 0)), (1, .int (nI k))]) hx hb dX12_hasSibling_49 hl (k := 1) rfl (nI_add i 1) (by decide) rfl (fun ls hl => ?_)
            refine lv_goto (tgt := 4) hx hb dX12_hasSibling_52 (by decide) ?_
            exact ih4 (i + 1) 0 (by omega) (by first | assumption | omega) (by first | assumption | decide) H locs (hP.sub [0, 1] rfl) (hD.sub [0, 1] (by decide) rfl) hS ls (lv_sub hl [0, 1, 2, 3] rfl)
          · have c_9n : ¬ i = k := fun h => c_9 ((k_eqI (a := i) (b := k) (by omega) (by omega)).mpr h)
            refine lv_aload_n hx hb dX12_hasSibling_20 rfl (lv_at hl 2 rfl) ?_
            refine va_get (ci := 12) (C := RX12) (T := TX12) (N := 20) hx hb hts inlX12 hown hKW.1 hP 0 rfl rfl 0 (by decide) (hts _ wd_6_5) (fun _ h => h) rfl dX12_hasSibling_21 ?_
            refine lv_bipush (v := 117) hx hb dX12_hasSibling_24 (by decide) ?_
            refine lv_iload_n hx hb dX12_hasSibling_26 rfl (lv_at hl 0 rfl) ?_
            refine lv_iadd hx hb dX12_hasSibling_27 ?_
            refine k_top (y := nI (i + 117)) (by rw [Nat.add_comm]; exact nI_add 117 i) ?_
            refine va_iald hx hb hKW.1 hP 1 0 rfl rfl (vp_in_nI (by omega) (by decide)) dX12_hasSibling_28 ?_
            refine lv_topi (fun x_10 ex_10 => ?_)
            refine lv_iconst (v := 1) hx hb dX12_hasSibling_29 (by decide) ?_
            refine lv_icmp_ne (tgt := 46) hx hb dX12_hasSibling_30 (by decide) (fun c_11 => ?_) (fun c_11 => ?_)
            · refine lv_iconst (v := 0) hx hb dX12_hasSibling_46 (by decide) ?_
              refine lv_ior hx hb dX12_hasSibling_47 ?_
              refine k_top (y := 0) (by decide) ?_
              refine lv_istore_n (lv' := [(2, .int 0), (3, .int (nI i)), (0, .ref (z 0)), (1, .int (nI k))]) hx hb dX12_hasSibling_48 rfl hl (by decide) rfl (fun ls hl => ?_)
              refine lv_iinc (v := nI (i + 1)) (lv' := [(3, .int (nI (i + 1))), (2, .int 0), (0, .ref (z 0)), (1, .int (nI k))]) hx hb dX12_hasSibling_49 hl (k := 1) rfl (nI_add i 1) (by decide) rfl (fun ls hl => ?_)
              refine lv_goto (tgt := 4) hx hb dX12_hasSibling_52 (by decide) ?_
              exact ih4 (i + 1) 0 (by omega) (by first | assumption | omega) (by first | assumption | decide) H locs (hP.sub [0, 1] rfl) (hD.sub [0, 1] (by decide) rfl) hS ls (lv_sub hl [0, 1, 2, 3] rfl)
            · refine lv_aload_n hx hb dX12_hasSibling_33 rfl (lv_at hl 2 rfl) ?_
              refine lv_iload_n hx hb dX12_hasSibling_34 rfl (lv_at hl 3 rfl) ?_
              refine lv_iload_n hx hb dX12_hasSibling_35 rfl (lv_at hl 0 rfl) ?_
              refine k_Vi [0, 1] [] 0 12 (wr := []) hx hb hml hown hts hKW hP hD hS hA hl.1 (c_X12_areSiblings l g _ z kp xs D k i (by first | assumption | omega | decide) (by first | assumption | omega | decide)) rfl rfl rfl wd_40_19 wd_1_5 wd_40_16 wd_40_17 wd_40_18 yd_X12_areSiblings ⟨(Nat.le_of_ble_eq_true rfl), (Nat.le_of_ble_eq_true rfl)⟩ rfl rfl rfl rfl (by decide) rfl (Nat.le_of_ble_eq_true rfl) dX12_hasSibling_36 ⟨(Nat.le_of_ble_eq_true rfl), (Nat.le_of_ble_eq_true rfl)⟩ (fun r_12 u_13 H locs hw_14 hP hD hS => ?_)
              have hP : va_P g.1 vwCl [(z 0, .inr (12, [.ref (z 1), .ref (z 2), .int (nI kp), .int (xs 0), .ref (z 3), .ref (z 4), .ref (z 5), .ref (z 6), .int (xs 1), .ref (z 7), .ref (z 8), .ref (z 9), .ref (z 10), .ref (z 11), .ref (z 12), .int (xs 2), .ref (z 13), .ref (z 14), .int (xs 3), .ref (z 15)])), (z 1, .inl (gI g, 461, .inl D))] H := hP
              have hD : va_D A [(z 0, .inr (12, [.ref (z 1), .ref (z 2), .int (nI kp), .int (xs 0), .ref (z 3), .ref (z 4), .ref (z 5), .ref (z 6), .int (xs 1), .ref (z 7), .ref (z 8), .ref (z 9), .ref (z 10), .ref (z 11), .ref (z 12), .int (xs 2), .ref (z 13), .ref (z 14), .int (xs 3), .ref (z 15)])), (z 1, .inl (gI g, 461, .inl D))] := hD
              rcases (show r_12 = 1 ∨ r_12 = 0 from hw_14) with rfl | rfl <;> clear hw_14
              · refine lv_if_eq (tgt := 46) hx hb dX12_hasSibling_39 (by decide) (fun c => absurd c (by decide)) (fun _ => ?_)
                refine lv_iconst (v := 1) hx hb dX12_hasSibling_42 (by decide) ?_
                refine lv_goto (tgt := 47) hx hb dX12_hasSibling_43 (by decide) ?_
                refine lv_ior hx hb dX12_hasSibling_47 ?_
                refine k_top (y := 1) (by decide) ?_
                refine lv_istore_n (lv' := [(2, .int 1), (3, .int (nI i)), (0, .ref (z 0)), (1, .int (nI k))]) hx hb dX12_hasSibling_48 rfl hl (by decide) rfl (fun ls hl => ?_)
                refine lv_iinc (v := nI (i + 1)) (lv' := [(3, .int (nI (i + 1))), (2, .int 1), (0, .ref (z 0)), (1, .int (nI k))]) hx hb dX12_hasSibling_49 hl (k := 1) rfl (nI_add i 1) (by decide) rfl (fun ls hl => ?_)
                refine lv_goto (tgt := 4) hx hb dX12_hasSibling_52 (by decide) ?_
                exact ih4 (i + 1) 1 (by omega) (by first | assumption | omega) (by first | assumption | decide) H locs (hP.sub [0, 1] rfl) (hD.sub [0, 1] (by decide) rfl) hS ls (lv_sub hl [0, 1, 2, 3] rfl)
              · refine lv_if_eq (tgt := 46) hx hb dX12_hasSibling_39 (by decide) (fun _ => ?_) (fun c => absurd c (by decide))
                refine lv_iconst (v := 0) hx hb dX12_hasSibling_46 (by decide) ?_
                refine lv_ior hx hb dX12_hasSibling_47 ?_
                refine k_top (y := 0) (by decide) ?_
                refine lv_istore_n (lv' := [(2, .int 0), (3, .int (nI i)), (0, .ref (z 0)), (1, .int (nI k))]) hx hb dX12_hasSibling_48 rfl hl (by decide) rfl (fun ls hl => ?_)
                refine lv_iinc (v := nI (i + 1)) (lv' := [(3, .int (nI (i + 1))), (2, .int 0), (0, .ref (z 0)), (1, .int (nI k))]) hx hb dX12_hasSibling_49 hl (k := 1) rfl (nI_add i 1) (by decide) rfl (fun ls hl => ?_)
                refine lv_goto (tgt := 4) hx hb dX12_hasSibling_52 (by decide) ?_
                exact ih4 (i + 1) 0 (by omega) (by first | assumption | omega) (by first | assumption | decide) H locs (hP.sub [0, 1] rfl) (hD.sub [0, 1] (by decide) rfl) hS ls (lv_sub hl [0, 1, 2, 3] rfl)
  exact L4 (10 - 0 + 1) 0 0 (Nat.lt_succ_self _) (by first | assumption | omega) (by first | assumption | decide) H locs (hP.sub [0, 1] rfl) (hD.sub [0, 1] (by decide) rfl) hS ls (lv_sub hl [0, 1, 2, 3] rfl)
