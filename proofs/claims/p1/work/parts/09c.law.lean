theorem dL_law_447 : decode cL_law 447 = .ok (.aload_n 1, 1) := by decide +kernel
theorem dL_law_448 : decode cL_law 448 = .ok (.aload_n 0, 1) := by decide +kernel
theorem dL_law_449 : decode cL_law 449 = .ok (.iload_n 3, 1) := by decide +kernel
theorem dL_law_450 : decode cL_law 450 = .ok (.iconst 1, 1) := by decide +kernel
theorem dL_law_451 : decode cL_law 451 = .ok (.iadd, 1) := by decide +kernel
theorem dL_law_452 : decode cL_law 452 = .ok (.iaload, 1) := by decide +kernel
theorem dL_law_453 : decode cL_law 453 = .ok (.invokevirtual 44, 3) := by decide +kernel
theorem dL_law_456 : decode cL_law 456 = .ok (.aload_n 2, 1) := by decide +kernel
theorem dL_law_457 : decode cL_law 457 = .ok (.aload_n 0, 1) := by decide +kernel
theorem dL_law_458 : decode cL_law 458 = .ok (.iload_n 3, 1) := by decide +kernel
theorem dL_law_459 : decode cL_law 459 = .ok (.iconst 1, 1) := by decide +kernel
theorem dL_law_460 : decode cL_law 460 = .ok (.iadd, 1) := by decide +kernel
theorem dL_law_461 : decode cL_law 461 = .ok (.iaload, 1) := by decide +kernel
theorem dL_law_462 : decode cL_law 462 = .ok (.invokevirtual 47, 3) := by decide +kernel
theorem dL_law_465 : decode cL_law 465 = .ok (.if_icmp .eq 1041, 3) := by decide +kernel
set_option maxHeartbeats 4000000 in
set_option maxRecDepth 100000 in
theorem law_slot {p : Program} {e : Env} {s : State} {m : MethodId} {below : List Frame} {meth : Method} {c : Code} (l : Launch) (g : kG) {A : Nat → Prop} {b L : Nat} {xs : Nat → Int32} (hA : ∀ q : Nat, s.heap.size ≤ q → A q) (hA2 : ∀ q : Nat, A q → s.heap.size ≤ q) (hKW : kKW g s) (hts : ∀ w ∈ wsL_law, w.before #[Value.ref b] s = true) (C0 : lw_At p s m meth c b L xs) (hL6 : L = 6) (q z : Nat → Nat) (H : Heap) (locs : List Loc) (hP : va_P g.1 vwCl [(q 0, .inr (11, [.ref (q 1), .ref (q 29), .ref (q 31), .ref (q 34), .ref (q 38), .ref (q 40), .int 0])), (q 1, .inr (4, [.ref (q 2), .ref (q 6), .ref (q 9), .ref (q 18), .ref (q 22), .ref (q 26), .ref (q 28), .int 0, .int 0, .int 36, .int 10])), (q 2, .inr (8, [.int 0, .ref (q 3), .ref (q 4), .ref (q 5)])), (q 3, .inl (gI g, 5, .inl (fun _ => 0))), (q 4, .inl (gI g, 5, .inl (fun _ => 0))), (q 5, .inl (gI g, 5, .inl (fun _ => 0))), (q 6, .inr (1, [.int 0, .ref (q 7), .ref (q 8), .int 0])), (q 7, .inl (gI g, 7, .inl (fun _ => 0))), (q 8, .inl (gI g, 7, .inl (fun _ => 0))), (q 9, .inr (0, [.int 0, .ref (q 10), .ref (q 11), .ref (q 12), .ref (q 13), .ref (q 14), .ref (q 15), .ref (q 16), .int 0, .int 0, .int 0, .ref (q 17)])), (q 10, .inl (gI g, 10, .inl (fun _ => 0))), (q 11, .inl (gI g, 10, .inl (fun _ => 0))), (q 12, .inl (gI g, 10, .inl (fun _ => 0))), (q 13, .inl (gI g, 10, .inl (fun _ => 0))), (q 14, .inl (gI g, 10, .inl (fun _ => 0))), (q 15, .inl (gI g, 10, .inl (fun _ => 0))), (q 16, .inl (gI g, 10, .inl (fun _ => 0))), (q 17, .inl (gI g, 10, .inl (fun _ => 0))), (q 18, .inr (3, [.int 0, .ref (q 19), .ref (q 20), .ref (q 21)])), (q 19, .inl (gI g, 40, .inl (fun _ => 0))), (q 20, .inl (gI g, 40, .inl (fun _ => 0))), (q 21, .inl (gI g, 40, .inl (fun _ => 0))), (q 22, .inr (3, [.int 0, .ref (q 23), .ref (q 24), .ref (q 25)])), (q 23, .inl (gI g, 40, .inl (fun _ => 0))), (q 24, .inl (gI g, 40, .inl (fun _ => 0))), (q 25, .inl (gI g, 40, .inl (fun _ => 0))), (q 26, .inr (6, [.int 0, .int 0, .ref (q 27)])), (q 27, .inl (gI g, 14, .inl (fun _ => 0))), (q 28, .inl (gI g, 60, .inl (fun _ => 0))), (q 29, .inr (2, [.int 0, .int 0, .ref (q 30)])), (q 30, .inl (gN g, 16, .inr (.inr (.inr (.inr (fun _ => none)))))), (z 0, .inr (12, [.ref (z 1), .ref (z 2), .int 0, .int 0, .ref (z 3), .ref (z 4), .ref (z 5), .ref (z 6), .int 0, .ref (z 7), .ref (z 8), .ref (z 9), .ref (z 10), .ref (z 11), .ref (z 12), .int 0, .ref (z 13), .ref (z 14), .int 0, .ref (z 15)])), (z 1, .inl (gI g, 461, .inl mD0)), (z 2, .inl (gI g, 7376, .inl (fun _ => 0)))] H) (hD : va_D A [(q 0, .inr (11, [.ref (q 1), .ref (q 29), .ref (q 31), .ref (q 34), .ref (q 38), .ref (q 40), .int 0])), (q 1, .inr (4, [.ref (q 2), .ref (q 6), .ref (q 9), .ref (q 18), .ref (q 22), .ref (q 26), .ref (q 28), .int 0, .int 0, .int 36, .int 10])), (q 2, .inr (8, [.int 0, .ref (q 3), .ref (q 4), .ref (q 5)])), (q 3, .inl (gI g, 5, .inl (fun _ => 0))), (q 4, .inl (gI g, 5, .inl (fun _ => 0))), (q 5, .inl (gI g, 5, .inl (fun _ => 0))), (q 6, .inr (1, [.int 0, .ref (q 7), .ref (q 8), .int 0])), (q 7, .inl (gI g, 7, .inl (fun _ => 0))), (q 8, .inl (gI g, 7, .inl (fun _ => 0))), (q 9, .inr (0, [.int 0, .ref (q 10), .ref (q 11), .ref (q 12), .ref (q 13), .ref (q 14), .ref (q 15), .ref (q 16), .int 0, .int 0, .int 0, .ref (q 17)])), (q 10, .inl (gI g, 10, .inl (fun _ => 0))), (q 11, .inl (gI g, 10, .inl (fun _ => 0))), (q 12, .inl (gI g, 10, .inl (fun _ => 0))), (q 13, .inl (gI g, 10, .inl (fun _ => 0))), (q 14, .inl (gI g, 10, .inl (fun _ => 0))), (q 15, .inl (gI g, 10, .inl (fun _ => 0))), (q 16, .inl (gI g, 10, .inl (fun _ => 0))), (q 17, .inl (gI g, 10, .inl (fun _ => 0))), (q 18, .inr (3, [.int 0, .ref (q 19), .ref (q 20), .ref (q 21)])), (q 19, .inl (gI g, 40, .inl (fun _ => 0))), (q 20, .inl (gI g, 40, .inl (fun _ => 0))), (q 21, .inl (gI g, 40, .inl (fun _ => 0))), (q 22, .inr (3, [.int 0, .ref (q 23), .ref (q 24), .ref (q 25)])), (q 23, .inl (gI g, 40, .inl (fun _ => 0))), (q 24, .inl (gI g, 40, .inl (fun _ => 0))), (q 25, .inl (gI g, 40, .inl (fun _ => 0))), (q 26, .inr (6, [.int 0, .int 0, .ref (q 27)])), (q 27, .inl (gI g, 14, .inl (fun _ => 0))), (q 28, .inl (gI g, 60, .inl (fun _ => 0))), (q 29, .inr (2, [.int 0, .int 0, .ref (q 30)])), (q 30, .inl (gN g, 16, .inr (.inr (.inr (.inr (fun _ => none)))))), (z 0, .inr (12, [.ref (z 1), .ref (z 2), .int 0, .int 0, .ref (z 3), .ref (z 4), .ref (z 5), .ref (z 6), .int 0, .ref (z 7), .ref (z 8), .ref (z 9), .ref (z 10), .ref (z 11), .ref (z 12), .int 0, .ref (z 13), .ref (z 14), .int 0, .ref (z 15)])), (z 1, .inl (gI g, 461, .inl mD0)), (z 2, .inl (gI g, 7376, .inl (fun _ => 0)))]) (hS : va_S A s.heap H locs) (ls : Array Slot) (hl : lv_has ls 4 [(0, .ref b), (1, .ref (q 0)), (2, .ref (z 0)), (3, .int 0)]) : W p l e room_1 s m #[Value.ref b] below meth c H locs 65 9957 (lw_Z below #[Value.ref b] s) (F0 m 447 ls []) := by
  subst hL6
  obtain ⟨hx, hb, hr, hml, hown, -, hX, hbl, hlk, hgv⟩ := id C0
  have hbA : ¬ A b := fun h => absurd (hA2 _ h) (Nat.not_le.mpr hbl)
  have hown : s.vm.findClass RL = some m.cls := hown
  refine lv_aload_n hx hb dL_law_447 rfl (lv_at hl 1 rfl) ?_
  refine lv_aload_n hx hb dL_law_448 rfl (lv_at hl 0 rfl) ?_
  refine lv_iload_n hx hb dL_law_449 rfl (lv_at hl 3 rfl) ?_
  refine lv_iconst (v := 1) hx hb dL_law_450 (by decide) ?_
  refine lv_iadd hx hb dL_law_451 ?_
  refine k_top (y := 1) (by decide) ?_
  refine va_sld hx hb hX hbl hbA hS (show ¬ _ by decide) dL_law_452 ?_
  refine k_top (y := xs 1) rfl ?_
  refine k_Vi [0, 1, 2, 3, 4, 5, 6, 7, 8, 9, 10, 11, 12, 13, 14, 15, 16, 17, 18, 19, 20, 21, 22, 23, 24, 25, 26, 27, 28, 29, 30] [31, 32, 33] 0 11 (wr := [(z 0, .inr (12, [.ref (z 1), .ref (z 2), .int 0, .int 0, .ref (z 3), .ref (z 4), .ref (z 5), .ref (z 6), .int 0, .ref (z 7), .ref (z 8), .ref (z 9), .ref (z 10), .ref (z 11), .ref (z 12), .int 0, .ref (z 13), .ref (z 14), .int 0, .ref (z 15)])), (z 1, .inl (gI g, 461, .inl mD0)), (z 2, .inl (gI g, 7376, .inl (fun _ => 0)))]) hx hb hml hown hts hKW hP hD hS hA hl.1 (c_X11_slot l g _ q (xs 1) ) rfl rfl rfl wd_16_12 wd_1_2 wd_16_9 wd_16_10 wd_16_11 yd_X11_slot ⟨Nat.le_of_ble_eq_true rfl, Nat.le_of_ble_eq_true rfl⟩ rfl rfl rfl rfl rfl (by decide) rfl (Nat.le_of_ble_eq_true rfl) dL_law_453 ⟨Nat.le_of_ble_eq_true rfl, Nat.le_of_ble_eq_true rfl⟩ (fun r_1 u_2 H locs hw_3 hP hD hS => ?_)
  have hP : va_P g.1 vwCl [(z 0, .inr (12, [.ref (z 1), .ref (z 2), .int 0, .int 0, .ref (z 3), .ref (z 4), .ref (z 5), .ref (z 6), .int 0, .ref (z 7), .ref (z 8), .ref (z 9), .ref (z 10), .ref (z 11), .ref (z 12), .int 0, .ref (z 13), .ref (z 14), .int 0, .ref (z 15)])), (z 1, .inl (gI g, 461, .inl mD0)), (z 2, .inl (gI g, 7376, .inl (fun _ => 0)))] H := hP
  have hD : va_D A [(z 0, .inr (12, [.ref (z 1), .ref (z 2), .int 0, .int 0, .ref (z 3), .ref (z 4), .ref (z 5), .ref (z 6), .int 0, .ref (z 7), .ref (z 8), .ref (z 9), .ref (z 10), .ref (z 11), .ref (z 12), .int 0, .ref (z 13), .ref (z 14), .int 0, .ref (z 15)])), (z 1, .inl (gI g, 461, .inl mD0)), (z 2, .inl (gI g, 7376, .inl (fun _ => 0)))] := hD
  refine W.widen (k := 93) (n := 10422) (Nat.le_of_ble_eq_true rfl) (Nat.le_of_ble_eq_true rfl) ?_
  have hw_3 : r_1 = aR 0 59 0 (xs 1) := hw_3
  subst hw_3
  refine lv_aload_n hx hb dL_law_456 rfl (lv_at hl 2 rfl) ?_
  refine lv_aload_n hx hb dL_law_457 rfl (lv_at hl 0 rfl) ?_
  refine lv_iload_n hx hb dL_law_458 rfl (lv_at hl 3 rfl) ?_
  refine lv_iconst (v := 1) hx hb dL_law_459 (by decide) ?_
  refine lv_iadd hx hb dL_law_460 ?_
  refine k_top (y := 1) (by decide) ?_
  refine va_sld hx hb hX hbl hbA hS (show ¬ _ by decide) dL_law_461 ?_
  refine k_top (y := xs 1) rfl ?_
  refine k_Vi [0, 1, 2] [] 0 12 (wr := []) hx hb hml hown hts hKW hP hD hS hA hl.1 (c_X12_slot l g _ z (xs 1) ) rfl rfl rfl wd_16_20 wd_1_5 wd_16_17 wd_16_18 wd_16_19 yd_X12_slot ⟨Nat.le_of_ble_eq_true rfl, Nat.le_of_ble_eq_true rfl⟩ rfl rfl rfl rfl rfl (by decide) rfl (Nat.le_of_ble_eq_true rfl) dL_law_462 ⟨Nat.le_of_ble_eq_true rfl, Nat.le_of_ble_eq_true rfl⟩ (fun r_4 u_5 H locs hw_6 hP hD hS => ?_)
  have hP : va_P g.1 vwCl [] H := hP
  have hD : va_D A [] := hD
  have hw_6 : r_4 = aR 0 59 0 (xs 1) := hw_6
  subst hw_6
  refine lv_icmp_eq (tgt := 1506) hx hb dL_law_465 (by decide) (fun _ => ?_) (fun c => absurd rfl c)
  exact law_tail l g hA hA2 hKW hts C0 rfl H locs (Nat.le_of_ble_eq_true rfl) (Nat.le_of_ble_eq_true rfl) hS ls (lv_sub hl [0, 3] rfl)
theorem dL_law_470 : decode cL_law 470 = .ok (.aload_n 1, 1) := by decide +kernel
theorem dL_law_471 : decode cL_law 471 = .ok (.invokevirtual 48, 3) := by decide +kernel
theorem dL_law_474 : decode cL_law 474 = .ok (.aload_n 2, 1) := by decide +kernel
theorem dL_law_475 : decode cL_law 475 = .ok (.invokevirtual 52, 3) := by decide +kernel
theorem dL_law_478 : decode cL_law 478 = .ok (.if_icmp .eq 1028, 3) := by decide +kernel
set_option maxHeartbeats 4000000 in
set_option maxRecDepth 100000 in
theorem law_day {p : Program} {e : Env} {s : State} {m : MethodId} {below : List Frame} {meth : Method} {c : Code} (l : Launch) (g : kG) {A : Nat → Prop} {b L : Nat} {xs : Nat → Int32} (hA : ∀ q : Nat, s.heap.size ≤ q → A q) (hA2 : ∀ q : Nat, A q → s.heap.size ≤ q) (hKW : kKW g s) (hts : ∀ w ∈ wsL_law, w.before #[Value.ref b] s = true) (C0 : lw_At p s m meth c b L xs) (hL6 : L = 6) (q z : Nat → Nat) (H : Heap) (locs : List Loc) (hP : va_P g.1 vwCl [(q 0, .inr (11, [.ref (q 1), .ref (q 29), .ref (q 31), .ref (q 34), .ref (q 38), .ref (q 40), .int 0])), (q 1, .inr (4, [.ref (q 2), .ref (q 6), .ref (q 9), .ref (q 18), .ref (q 22), .ref (q 26), .ref (q 28), .int 0, .int 0, .int 36, .int 10])), (q 2, .inr (8, [.int 0, .ref (q 3), .ref (q 4), .ref (q 5)])), (q 3, .inl (gI g, 5, .inl (fun _ => 0))), (q 4, .inl (gI g, 5, .inl (fun _ => 0))), (q 5, .inl (gI g, 5, .inl (fun _ => 0))), (q 6, .inr (1, [.int 0, .ref (q 7), .ref (q 8), .int 0])), (q 7, .inl (gI g, 7, .inl (fun _ => 0))), (q 8, .inl (gI g, 7, .inl (fun _ => 0))), (q 9, .inr (0, [.int 0, .ref (q 10), .ref (q 11), .ref (q 12), .ref (q 13), .ref (q 14), .ref (q 15), .ref (q 16), .int 0, .int 0, .int 0, .ref (q 17)])), (q 10, .inl (gI g, 10, .inl (fun _ => 0))), (q 11, .inl (gI g, 10, .inl (fun _ => 0))), (q 12, .inl (gI g, 10, .inl (fun _ => 0))), (q 13, .inl (gI g, 10, .inl (fun _ => 0))), (q 14, .inl (gI g, 10, .inl (fun _ => 0))), (q 15, .inl (gI g, 10, .inl (fun _ => 0))), (q 16, .inl (gI g, 10, .inl (fun _ => 0))), (q 17, .inl (gI g, 10, .inl (fun _ => 0))), (q 18, .inr (3, [.int 0, .ref (q 19), .ref (q 20), .ref (q 21)])), (q 19, .inl (gI g, 40, .inl (fun _ => 0))), (q 20, .inl (gI g, 40, .inl (fun _ => 0))), (q 21, .inl (gI g, 40, .inl (fun _ => 0))), (q 22, .inr (3, [.int 0, .ref (q 23), .ref (q 24), .ref (q 25)])), (q 23, .inl (gI g, 40, .inl (fun _ => 0))), (q 24, .inl (gI g, 40, .inl (fun _ => 0))), (q 25, .inl (gI g, 40, .inl (fun _ => 0))), (q 26, .inr (6, [.int 0, .int 0, .ref (q 27)])), (q 27, .inl (gI g, 14, .inl (fun _ => 0))), (q 28, .inl (gI g, 60, .inl (fun _ => 0))), (q 29, .inr (2, [.int 0, .int 0, .ref (q 30)])), (q 30, .inl (gN g, 16, .inr (.inr (.inr (.inr (fun _ => none)))))), (z 0, .inr (12, [.ref (z 1), .ref (z 2), .int 0, .int 0, .ref (z 3), .ref (z 4), .ref (z 5), .ref (z 6), .int 0, .ref (z 7), .ref (z 8), .ref (z 9), .ref (z 10), .ref (z 11), .ref (z 12), .int 0, .ref (z 13), .ref (z 14), .int 0, .ref (z 15)])), (z 1, .inl (gI g, 461, .inl mD0)), (z 2, .inl (gI g, 7376, .inl (fun _ => 0)))] H) (hD : va_D A [(q 0, .inr (11, [.ref (q 1), .ref (q 29), .ref (q 31), .ref (q 34), .ref (q 38), .ref (q 40), .int 0])), (q 1, .inr (4, [.ref (q 2), .ref (q 6), .ref (q 9), .ref (q 18), .ref (q 22), .ref (q 26), .ref (q 28), .int 0, .int 0, .int 36, .int 10])), (q 2, .inr (8, [.int 0, .ref (q 3), .ref (q 4), .ref (q 5)])), (q 3, .inl (gI g, 5, .inl (fun _ => 0))), (q 4, .inl (gI g, 5, .inl (fun _ => 0))), (q 5, .inl (gI g, 5, .inl (fun _ => 0))), (q 6, .inr (1, [.int 0, .ref (q 7), .ref (q 8), .int 0])), (q 7, .inl (gI g, 7, .inl (fun _ => 0))), (q 8, .inl (gI g, 7, .inl (fun _ => 0))), (q 9, .inr (0, [.int 0, .ref (q 10), .ref (q 11), .ref (q 12), .ref (q 13), .ref (q 14), .ref (q 15), .ref (q 16), .int 0, .int 0, .int 0, .ref (q 17)])), (q 10, .inl (gI g, 10, .inl (fun _ => 0))), (q 11, .inl (gI g, 10, .inl (fun _ => 0))), (q 12, .inl (gI g, 10, .inl (fun _ => 0))), (q 13, .inl (gI g, 10, .inl (fun _ => 0))), (q 14, .inl (gI g, 10, .inl (fun _ => 0))), (q 15, .inl (gI g, 10, .inl (fun _ => 0))), (q 16, .inl (gI g, 10, .inl (fun _ => 0))), (q 17, .inl (gI g, 10, .inl (fun _ => 0))), (q 18, .inr (3, [.int 0, .ref (q 19), .ref (q 20), .ref (q 21)])), (q 19, .inl (gI g, 40, .inl (fun _ => 0))), (q 20, .inl (gI g, 40, .inl (fun _ => 0))), (q 21, .inl (gI g, 40, .inl (fun _ => 0))), (q 22, .inr (3, [.int 0, .ref (q 23), .ref (q 24), .ref (q 25)])), (q 23, .inl (gI g, 40, .inl (fun _ => 0))), (q 24, .inl (gI g, 40, .inl (fun _ => 0))), (q 25, .inl (gI g, 40, .inl (fun _ => 0))), (q 26, .inr (6, [.int 0, .int 0, .ref (q 27)])), (q 27, .inl (gI g, 14, .inl (fun _ => 0))), (q 28, .inl (gI g, 60, .inl (fun _ => 0))), (q 29, .inr (2, [.int 0, .int 0, .ref (q 30)])), (q 30, .inl (gN g, 16, .inr (.inr (.inr (.inr (fun _ => none)))))), (z 0, .inr (12, [.ref (z 1), .ref (z 2), .int 0, .int 0, .ref (z 3), .ref (z 4), .ref (z 5), .ref (z 6), .int 0, .ref (z 7), .ref (z 8), .ref (z 9), .ref (z 10), .ref (z 11), .ref (z 12), .int 0, .ref (z 13), .ref (z 14), .int 0, .ref (z 15)])), (z 1, .inl (gI g, 461, .inl mD0)), (z 2, .inl (gI g, 7376, .inl (fun _ => 0)))]) (hS : va_S A s.heap H locs) (ls : Array Slot) (hl : lv_has ls 4 [(0, .ref b), (1, .ref (q 0)), (2, .ref (z 0)), (3, .int 0)]) : W p l e room_1 s m #[Value.ref b] below meth c H locs 65 9957 (lw_Z below #[Value.ref b] s) (F0 m 470 ls []) := by
  subst hL6
  obtain ⟨hx, hb, hr, hml, hown, -, hX, hbl, hlk, hgv⟩ := id C0
  have hbA : ¬ A b := fun h => absurd (hA2 _ h) (Nat.not_le.mpr hbl)
  have hown : s.vm.findClass RL = some m.cls := hown
  refine lv_aload_n hx hb dL_law_470 rfl (lv_at hl 1 rfl) ?_
  refine k_Vi [0, 1, 2, 3, 4, 5, 6, 7, 8, 9, 10, 11, 12, 13, 14, 15, 16, 17, 18, 19, 20, 21, 22, 23, 24, 25, 26, 27, 28, 29, 30] [31, 32, 33] 0 11 (wr := [(z 0, .inr (12, [.ref (z 1), .ref (z 2), .int 0, .int 0, .ref (z 3), .ref (z 4), .ref (z 5), .ref (z 6), .int 0, .ref (z 7), .ref (z 8), .ref (z 9), .ref (z 10), .ref (z 11), .ref (z 12), .int 0, .ref (z 13), .ref (z 14), .int 0, .ref (z 15)])), (z 1, .inl (gI g, 461, .inl mD0)), (z 2, .inl (gI g, 7376, .inl (fun _ => 0)))]) hx hb hml hown hts hKW hP hD hS hA hl.1 (c_X11_day l g _ q ) rfl rfl rfl wd_17_0 wd_1_2 wd_16_21 wd_16_22 wd_16_23 yd_X11_day ⟨Nat.le_of_ble_eq_true rfl, Nat.le_of_ble_eq_true rfl⟩ rfl rfl rfl rfl rfl (by decide) rfl (Nat.le_of_ble_eq_true rfl) dL_law_471 ⟨Nat.le_of_ble_eq_true rfl, Nat.le_of_ble_eq_true rfl⟩ (fun r_1 u_2 H locs hw_3 hP hD hS => ?_)
  have hP : va_P g.1 vwCl [(z 0, .inr (12, [.ref (z 1), .ref (z 2), .int 0, .int 0, .ref (z 3), .ref (z 4), .ref (z 5), .ref (z 6), .int 0, .ref (z 7), .ref (z 8), .ref (z 9), .ref (z 10), .ref (z 11), .ref (z 12), .int 0, .ref (z 13), .ref (z 14), .int 0, .ref (z 15)])), (z 1, .inl (gI g, 461, .inl mD0)), (z 2, .inl (gI g, 7376, .inl (fun _ => 0)))] H := hP
  have hD : va_D A [(z 0, .inr (12, [.ref (z 1), .ref (z 2), .int 0, .int 0, .ref (z 3), .ref (z 4), .ref (z 5), .ref (z 6), .int 0, .ref (z 7), .ref (z 8), .ref (z 9), .ref (z 10), .ref (z 11), .ref (z 12), .int 0, .ref (z 13), .ref (z 14), .int 0, .ref (z 15)])), (z 1, .inl (gI g, 461, .inl mD0)), (z 2, .inl (gI g, 7376, .inl (fun _ => 0)))] := hD
  refine W.widen (k := 93) (n := 10422) (Nat.le_of_ble_eq_true rfl) (Nat.le_of_ble_eq_true rfl) ?_
  have hw_3 : r_1 = 0 := hw_3
  subst hw_3
  refine lv_aload_n hx hb dL_law_474 rfl (lv_at hl 2 rfl) ?_
  refine k_Vi [0, 1, 2] [] 0 12 (wr := []) hx hb hml hown hts hKW hP hD hS hA hl.1 (c_X12_day l g _ z ) rfl rfl rfl wd_18_7 wd_1_5 wd_18_4 wd_18_5 wd_18_6 yd_X12_day ⟨Nat.le_of_ble_eq_true rfl, Nat.le_of_ble_eq_true rfl⟩ rfl rfl rfl rfl rfl (by decide) rfl (Nat.le_of_ble_eq_true rfl) dL_law_475 ⟨Nat.le_of_ble_eq_true rfl, Nat.le_of_ble_eq_true rfl⟩ (fun r_4 u_5 H locs hw_6 hP hD hS => ?_)
  have hP : va_P g.1 vwCl [] H := hP
  have hD : va_D A [] := hD
  have hw_6 : r_4 = 0 := hw_6
  subst hw_6
  refine lv_icmp_eq (tgt := 1506) hx hb dL_law_478 (by decide) (fun _ => ?_) (fun c => absurd rfl c)
  exact law_tail l g hA hA2 hKW hts C0 rfl H locs (Nat.le_of_ble_eq_true rfl) (Nat.le_of_ble_eq_true rfl) hS ls (lv_sub hl [0, 3] rfl)
theorem dL_law_483 : decode cL_law 483 = .ok (.aload_n 1, 1) := by decide +kernel
theorem dL_law_484 : decode cL_law 484 = .ok (.aload_n 0, 1) := by decide +kernel
theorem dL_law_485 : decode cL_law 485 = .ok (.iload_n 3, 1) := by decide +kernel
theorem dL_law_486 : decode cL_law 486 = .ok (.iconst 1, 1) := by decide +kernel
theorem dL_law_487 : decode cL_law 487 = .ok (.iadd, 1) := by decide +kernel
theorem dL_law_488 : decode cL_law 488 = .ok (.iaload, 1) := by decide +kernel
theorem dL_law_489 : decode cL_law 489 = .ok (.aload_n 0, 1) := by decide +kernel
theorem dL_law_490 : decode cL_law 490 = .ok (.iload_n 3, 1) := by decide +kernel
theorem dL_law_491 : decode cL_law 491 = .ok (.iconst 2, 1) := by decide +kernel
theorem dL_law_492 : decode cL_law 492 = .ok (.iadd, 1) := by decide +kernel
theorem dL_law_493 : decode cL_law 493 = .ok (.iaload, 1) := by decide +kernel
theorem dL_law_494 : decode cL_law 494 = .ok (.invokevirtual 53, 3) := by decide +kernel
theorem dL_law_497 : decode cL_law 497 = .ok (.aload_n 2, 1) := by decide +kernel
theorem dL_law_498 : decode cL_law 498 = .ok (.aload_n 0, 1) := by decide +kernel
theorem dL_law_499 : decode cL_law 499 = .ok (.iload_n 3, 1) := by decide +kernel
theorem dL_law_500 : decode cL_law 500 = .ok (.iconst 1, 1) := by decide +kernel
theorem dL_law_501 : decode cL_law 501 = .ok (.iadd, 1) := by decide +kernel
theorem dL_law_502 : decode cL_law 502 = .ok (.iaload, 1) := by decide +kernel
theorem dL_law_503 : decode cL_law 503 = .ok (.aload_n 0, 1) := by decide +kernel
theorem dL_law_504 : decode cL_law 504 = .ok (.iload_n 3, 1) := by decide +kernel
theorem dL_law_505 : decode cL_law 505 = .ok (.iconst 2, 1) := by decide +kernel
theorem dL_law_506 : decode cL_law 506 = .ok (.iadd, 1) := by decide +kernel
theorem dL_law_507 : decode cL_law 507 = .ok (.iaload, 1) := by decide +kernel
theorem dL_law_508 : decode cL_law 508 = .ok (.invokevirtual 56, 3) := by decide +kernel
theorem dL_law_511 : decode cL_law 511 = .ok (.if_icmp .eq 995, 3) := by decide +kernel
set_option maxHeartbeats 4000000 in
set_option maxRecDepth 100000 in
theorem law_in {p : Program} {e : Env} {s : State} {m : MethodId} {below : List Frame} {meth : Method} {c : Code} (l : Launch) (g : kG) {A : Nat → Prop} {b L : Nat} {xs : Nat → Int32} (hA : ∀ q : Nat, s.heap.size ≤ q → A q) (hA2 : ∀ q : Nat, A q → s.heap.size ≤ q) (hKW : kKW g s) (hts : ∀ w ∈ wsL_law, w.before #[Value.ref b] s = true) (C0 : lw_At p s m meth c b L xs) (hL6 : L = 6) (q z : Nat → Nat) (H : Heap) (locs : List Loc) (hP : va_P g.1 vwCl [(q 0, .inr (11, [.ref (q 1), .ref (q 29), .ref (q 31), .ref (q 34), .ref (q 38), .ref (q 40), .int 0])), (q 1, .inr (4, [.ref (q 2), .ref (q 6), .ref (q 9), .ref (q 18), .ref (q 22), .ref (q 26), .ref (q 28), .int 0, .int 0, .int 36, .int 10])), (q 9, .inr (0, [.int 0, .ref (q 10), .ref (q 11), .ref (q 12), .ref (q 13), .ref (q 14), .ref (q 15), .ref (q 16), .int 0, .int 0, .int 0, .ref (q 17)])), (z 0, .inr (12, [.ref (z 1), .ref (z 2), .int 0, .int 0, .ref (z 3), .ref (z 4), .ref (z 5), .ref (z 6), .int 0, .ref (z 7), .ref (z 8), .ref (z 9), .ref (z 10), .ref (z 11), .ref (z 12), .int 0, .ref (z 13), .ref (z 14), .int 0, .ref (z 15)])), (z 1, .inl (gI g, 461, .inl mD0))] H) (hD : va_D A [(q 0, .inr (11, [.ref (q 1), .ref (q 29), .ref (q 31), .ref (q 34), .ref (q 38), .ref (q 40), .int 0])), (q 1, .inr (4, [.ref (q 2), .ref (q 6), .ref (q 9), .ref (q 18), .ref (q 22), .ref (q 26), .ref (q 28), .int 0, .int 0, .int 36, .int 10])), (q 9, .inr (0, [.int 0, .ref (q 10), .ref (q 11), .ref (q 12), .ref (q 13), .ref (q 14), .ref (q 15), .ref (q 16), .int 0, .int 0, .int 0, .ref (q 17)])), (z 0, .inr (12, [.ref (z 1), .ref (z 2), .int 0, .int 0, .ref (z 3), .ref (z 4), .ref (z 5), .ref (z 6), .int 0, .ref (z 7), .ref (z 8), .ref (z 9), .ref (z 10), .ref (z 11), .ref (z 12), .int 0, .ref (z 13), .ref (z 14), .int 0, .ref (z 15)])), (z 1, .inl (gI g, 461, .inl mD0))]) (hS : va_S A s.heap H locs) (ls : Array Slot) (hl : lv_has ls 4 [(0, .ref b), (1, .ref (q 0)), (2, .ref (z 0)), (3, .int 0)]) : W p l e room_1 s m #[Value.ref b] below meth c H locs 65 9957 (lw_Z below #[Value.ref b] s) (F0 m 483 ls []) := by
  subst hL6
  obtain ⟨hx, hb, hr, hml, hown, -, hX, hbl, hlk, hgv⟩ := id C0
  have hbA : ¬ A b := fun h => absurd (hA2 _ h) (Nat.not_le.mpr hbl)
  have hown : s.vm.findClass RL = some m.cls := hown
  refine lv_aload_n hx hb dL_law_483 rfl (lv_at hl 1 rfl) ?_
  refine lv_aload_n hx hb dL_law_484 rfl (lv_at hl 0 rfl) ?_
  refine lv_iload_n hx hb dL_law_485 rfl (lv_at hl 3 rfl) ?_
  refine lv_iconst (v := 1) hx hb dL_law_486 (by decide) ?_
  refine lv_iadd hx hb dL_law_487 ?_
  refine k_top (y := 1) (by decide) ?_
  refine va_sld hx hb hX hbl hbA hS (show ¬ _ by decide) dL_law_488 ?_
  refine k_top (y := xs 1) rfl ?_
  refine lv_aload_n hx hb dL_law_489 rfl (lv_at hl 0 rfl) ?_
  refine lv_iload_n hx hb dL_law_490 rfl (lv_at hl 3 rfl) ?_
  refine lv_iconst (v := 2) hx hb dL_law_491 (by decide) ?_
  refine lv_iadd hx hb dL_law_492 ?_
  refine k_top (y := 2) (by decide) ?_
  refine va_sld hx hb hX hbl hbA hS (show ¬ _ by decide) dL_law_493 ?_
  refine k_top (y := xs 2) rfl ?_
  refine k_Vi [0, 1, 2] [3, 4] 0 11 (wr := [(z 0, .inr (12, [.ref (z 1), .ref (z 2), .int 0, .int 0, .ref (z 3), .ref (z 4), .ref (z 5), .ref (z 6), .int 0, .ref (z 7), .ref (z 8), .ref (z 9), .ref (z 10), .ref (z 11), .ref (z 12), .int 0, .ref (z 13), .ref (z 14), .int 0, .ref (z 15)])), (z 1, .inl (gI g, 461, .inl mD0))]) hx hb hml hown hts hKW hP hD hS hA hl.1 (c_X11_in l g _ q (xs 1) (xs 2) ) rfl rfl rfl wd_18_11 wd_1_2 wd_18_8 wd_18_9 wd_18_10 yd_X11_in ⟨Nat.le_of_ble_eq_true rfl, Nat.le_of_ble_eq_true rfl⟩ rfl rfl rfl rfl rfl (by decide) rfl (Nat.le_of_ble_eq_true rfl) dL_law_494 ⟨Nat.le_of_ble_eq_true rfl, Nat.le_of_ble_eq_true rfl⟩ (fun r_1 u_2 H locs hw_3 hP hD hS => ?_)
  have hP : va_P g.1 vwCl [(z 0, .inr (12, [.ref (z 1), .ref (z 2), .int 0, .int 0, .ref (z 3), .ref (z 4), .ref (z 5), .ref (z 6), .int 0, .ref (z 7), .ref (z 8), .ref (z 9), .ref (z 10), .ref (z 11), .ref (z 12), .int 0, .ref (z 13), .ref (z 14), .int 0, .ref (z 15)])), (z 1, .inl (gI g, 461, .inl mD0))] H := hP
  have hD : va_D A [(z 0, .inr (12, [.ref (z 1), .ref (z 2), .int 0, .int 0, .ref (z 3), .ref (z 4), .ref (z 5), .ref (z 6), .int 0, .ref (z 7), .ref (z 8), .ref (z 9), .ref (z 10), .ref (z 11), .ref (z 12), .int 0, .ref (z 13), .ref (z 14), .int 0, .ref (z 15)])), (z 1, .inl (gI g, 461, .inl mD0))] := hD
  have hw_3 : r_1 = (-100001) := hw_3
  subst hw_3
  refine lv_aload_n hx hb dL_law_497 rfl (lv_at hl 2 rfl) ?_
  refine lv_aload_n hx hb dL_law_498 rfl (lv_at hl 0 rfl) ?_
  refine lv_iload_n hx hb dL_law_499 rfl (lv_at hl 3 rfl) ?_
  refine lv_iconst (v := 1) hx hb dL_law_500 (by decide) ?_
  refine lv_iadd hx hb dL_law_501 ?_
  refine k_top (y := 1) (by decide) ?_
  refine va_sld hx hb hX hbl hbA hS (show ¬ _ by decide) dL_law_502 ?_
  refine k_top (y := xs 1) rfl ?_
  refine lv_aload_n hx hb dL_law_503 rfl (lv_at hl 0 rfl) ?_
  refine lv_iload_n hx hb dL_law_504 rfl (lv_at hl 3 rfl) ?_
  refine lv_iconst (v := 2) hx hb dL_law_505 (by decide) ?_
  refine lv_iadd hx hb dL_law_506 ?_
  refine k_top (y := 2) (by decide) ?_
  refine va_sld hx hb hX hbl hbA hS (show ¬ _ by decide) dL_law_507 ?_
  refine k_top (y := xs 2) rfl ?_
  refine k_Vi [0, 1] [] 0 12 (wr := []) hx hb hml hown hts hKW hP hD hS hA hl.1 (c_X12_in l g _ z (xs 1) (xs 2) ) rfl rfl rfl wd_20_0 wd_1_5 wd_19_21 wd_19_22 wd_19_23 yd_X12_in ⟨Nat.le_of_ble_eq_true rfl, Nat.le_of_ble_eq_true rfl⟩ rfl rfl rfl rfl rfl (by decide) rfl (Nat.le_of_ble_eq_true rfl) dL_law_508 ⟨Nat.le_of_ble_eq_true rfl, Nat.le_of_ble_eq_true rfl⟩ (fun r_4 u_5 H locs hw_6 hP hD hS => ?_)
  have hP : va_P g.1 vwCl [] H := hP
  have hD : va_D A [] := hD
  have hw_6 : r_4 = (-100001) := hw_6
  subst hw_6
  refine lv_icmp_eq (tgt := 1506) hx hb dL_law_511 (by decide) (fun _ => ?_) (fun c => absurd rfl c)
  exact law_tail l g hA hA2 hKW hts C0 rfl H locs (Nat.le_of_ble_eq_true rfl) (Nat.le_of_ble_eq_true rfl) hS ls (lv_sub hl [0, 3] rfl)
theorem dL_law_516 : decode cL_law 516 = .ok (.aload_n 1, 1) := by decide +kernel
theorem dL_law_517 : decode cL_law 517 = .ok (.aload_n 0, 1) := by decide +kernel
theorem dL_law_518 : decode cL_law 518 = .ok (.iload_n 3, 1) := by decide +kernel
theorem dL_law_519 : decode cL_law 519 = .ok (.iconst 1, 1) := by decide +kernel
theorem dL_law_520 : decode cL_law 520 = .ok (.iadd, 1) := by decide +kernel
theorem dL_law_521 : decode cL_law 521 = .ok (.iaload, 1) := by decide +kernel
theorem dL_law_522 : decode cL_law 522 = .ok (.aload_n 0, 1) := by decide +kernel
theorem dL_law_523 : decode cL_law 523 = .ok (.iload_n 3, 1) := by decide +kernel
theorem dL_law_524 : decode cL_law 524 = .ok (.iconst 2, 1) := by decide +kernel
theorem dL_law_525 : decode cL_law 525 = .ok (.iadd, 1) := by decide +kernel
theorem dL_law_526 : decode cL_law 526 = .ok (.iaload, 1) := by decide +kernel
theorem dL_law_527 : decode cL_law 527 = .ok (.invokevirtual 57, 3) := by decide +kernel
theorem dL_law_530 : decode cL_law 530 = .ok (.aload_n 2, 1) := by decide +kernel
theorem dL_law_531 : decode cL_law 531 = .ok (.aload_n 0, 1) := by decide +kernel
theorem dL_law_532 : decode cL_law 532 = .ok (.iload_n 3, 1) := by decide +kernel
theorem dL_law_533 : decode cL_law 533 = .ok (.iconst 1, 1) := by decide +kernel
theorem dL_law_534 : decode cL_law 534 = .ok (.iadd, 1) := by decide +kernel
theorem dL_law_535 : decode cL_law 535 = .ok (.iaload, 1) := by decide +kernel
theorem dL_law_536 : decode cL_law 536 = .ok (.aload_n 0, 1) := by decide +kernel
theorem dL_law_537 : decode cL_law 537 = .ok (.iload_n 3, 1) := by decide +kernel
theorem dL_law_538 : decode cL_law 538 = .ok (.iconst 2, 1) := by decide +kernel
theorem dL_law_539 : decode cL_law 539 = .ok (.iadd, 1) := by decide +kernel
theorem dL_law_540 : decode cL_law 540 = .ok (.iaload, 1) := by decide +kernel
theorem dL_law_541 : decode cL_law 541 = .ok (.invokevirtual 60, 3) := by decide +kernel
theorem dL_law_544 : decode cL_law 544 = .ok (.if_icmp .eq 962, 3) := by decide +kernel
set_option maxHeartbeats 4000000 in
set_option maxRecDepth 100000 in
theorem law_to {p : Program} {e : Env} {s : State} {m : MethodId} {below : List Frame} {meth : Method} {c : Code} (l : Launch) (g : kG) {A : Nat → Prop} {b L : Nat} {xs : Nat → Int32} (hA : ∀ q : Nat, s.heap.size ≤ q → A q) (hA2 : ∀ q : Nat, A q → s.heap.size ≤ q) (hKW : kKW g s) (hts : ∀ w ∈ wsL_law, w.before #[Value.ref b] s = true) (C0 : lw_At p s m meth c b L xs) (hL6 : L = 6) (q z : Nat → Nat) (H : Heap) (locs : List Loc) (hP : va_P g.1 vwCl [(q 0, .inr (11, [.ref (q 1), .ref (q 29), .ref (q 31), .ref (q 34), .ref (q 38), .ref (q 40), .int 0])), (q 1, .inr (4, [.ref (q 2), .ref (q 6), .ref (q 9), .ref (q 18), .ref (q 22), .ref (q 26), .ref (q 28), .int 0, .int 0, .int 36, .int 10])), (q 9, .inr (0, [.int 0, .ref (q 10), .ref (q 11), .ref (q 12), .ref (q 13), .ref (q 14), .ref (q 15), .ref (q 16), .int 0, .int 0, .int 0, .ref (q 17)])), (z 0, .inr (12, [.ref (z 1), .ref (z 2), .int 0, .int 0, .ref (z 3), .ref (z 4), .ref (z 5), .ref (z 6), .int 0, .ref (z 7), .ref (z 8), .ref (z 9), .ref (z 10), .ref (z 11), .ref (z 12), .int 0, .ref (z 13), .ref (z 14), .int 0, .ref (z 15)])), (z 1, .inl (gI g, 461, .inl mD0))] H) (hD : va_D A [(q 0, .inr (11, [.ref (q 1), .ref (q 29), .ref (q 31), .ref (q 34), .ref (q 38), .ref (q 40), .int 0])), (q 1, .inr (4, [.ref (q 2), .ref (q 6), .ref (q 9), .ref (q 18), .ref (q 22), .ref (q 26), .ref (q 28), .int 0, .int 0, .int 36, .int 10])), (q 9, .inr (0, [.int 0, .ref (q 10), .ref (q 11), .ref (q 12), .ref (q 13), .ref (q 14), .ref (q 15), .ref (q 16), .int 0, .int 0, .int 0, .ref (q 17)])), (z 0, .inr (12, [.ref (z 1), .ref (z 2), .int 0, .int 0, .ref (z 3), .ref (z 4), .ref (z 5), .ref (z 6), .int 0, .ref (z 7), .ref (z 8), .ref (z 9), .ref (z 10), .ref (z 11), .ref (z 12), .int 0, .ref (z 13), .ref (z 14), .int 0, .ref (z 15)])), (z 1, .inl (gI g, 461, .inl mD0))]) (hS : va_S A s.heap H locs) (ls : Array Slot) (hl : lv_has ls 4 [(0, .ref b), (1, .ref (q 0)), (2, .ref (z 0)), (3, .int 0)]) : W p l e room_1 s m #[Value.ref b] below meth c H locs 65 9957 (lw_Z below #[Value.ref b] s) (F0 m 516 ls []) := by
  subst hL6
  obtain ⟨hx, hb, hr, hml, hown, -, hX, hbl, hlk, hgv⟩ := id C0
  have hbA : ¬ A b := fun h => absurd (hA2 _ h) (Nat.not_le.mpr hbl)
  have hown : s.vm.findClass RL = some m.cls := hown
  refine lv_aload_n hx hb dL_law_516 rfl (lv_at hl 1 rfl) ?_
  refine lv_aload_n hx hb dL_law_517 rfl (lv_at hl 0 rfl) ?_
  refine lv_iload_n hx hb dL_law_518 rfl (lv_at hl 3 rfl) ?_
  refine lv_iconst (v := 1) hx hb dL_law_519 (by decide) ?_
  refine lv_iadd hx hb dL_law_520 ?_
  refine k_top (y := 1) (by decide) ?_
  refine va_sld hx hb hX hbl hbA hS (show ¬ _ by decide) dL_law_521 ?_
  refine k_top (y := xs 1) rfl ?_
  refine lv_aload_n hx hb dL_law_522 rfl (lv_at hl 0 rfl) ?_
  refine lv_iload_n hx hb dL_law_523 rfl (lv_at hl 3 rfl) ?_
  refine lv_iconst (v := 2) hx hb dL_law_524 (by decide) ?_
  refine lv_iadd hx hb dL_law_525 ?_
  refine k_top (y := 2) (by decide) ?_
  refine va_sld hx hb hX hbl hbA hS (show ¬ _ by decide) dL_law_526 ?_
  refine k_top (y := xs 2) rfl ?_
  refine k_Vi [0, 1, 2] [3, 4] 0 11 (wr := [(z 0, .inr (12, [.ref (z 1), .ref (z 2), .int 0, .int 0, .ref (z 3), .ref (z 4), .ref (z 5), .ref (z 6), .int 0, .ref (z 7), .ref (z 8), .ref (z 9), .ref (z 10), .ref (z 11), .ref (z 12), .int 0, .ref (z 13), .ref (z 14), .int 0, .ref (z 15)])), (z 1, .inl (gI g, 461, .inl mD0))]) hx hb hml hown hts hKW hP hD hS hA hl.1 (c_X11_to l g _ q (xs 1) (xs 2) ) rfl rfl rfl wd_20_23 wd_1_2 wd_20_20 wd_20_21 wd_20_22 yd_X11_to ⟨Nat.le_of_ble_eq_true rfl, Nat.le_of_ble_eq_true rfl⟩ rfl rfl rfl rfl rfl (by decide) rfl (Nat.le_of_ble_eq_true rfl) dL_law_527 ⟨Nat.le_of_ble_eq_true rfl, Nat.le_of_ble_eq_true rfl⟩ (fun r_1 u_2 H locs hw_3 hP hD hS => ?_)
  have hP : va_P g.1 vwCl [(z 0, .inr (12, [.ref (z 1), .ref (z 2), .int 0, .int 0, .ref (z 3), .ref (z 4), .ref (z 5), .ref (z 6), .int 0, .ref (z 7), .ref (z 8), .ref (z 9), .ref (z 10), .ref (z 11), .ref (z 12), .int 0, .ref (z 13), .ref (z 14), .int 0, .ref (z 15)])), (z 1, .inl (gI g, 461, .inl mD0))] H := hP
  have hD : va_D A [(z 0, .inr (12, [.ref (z 1), .ref (z 2), .int 0, .int 0, .ref (z 3), .ref (z 4), .ref (z 5), .ref (z 6), .int 0, .ref (z 7), .ref (z 8), .ref (z 9), .ref (z 10), .ref (z 11), .ref (z 12), .int 0, .ref (z 13), .ref (z 14), .int 0, .ref (z 15)])), (z 1, .inl (gI g, 461, .inl mD0))] := hD
  have hw_3 : r_1 = (-100001) := hw_3
  subst hw_3
  refine lv_aload_n hx hb dL_law_530 rfl (lv_at hl 2 rfl) ?_
  refine lv_aload_n hx hb dL_law_531 rfl (lv_at hl 0 rfl) ?_
  refine lv_iload_n hx hb dL_law_532 rfl (lv_at hl 3 rfl) ?_
  refine lv_iconst (v := 1) hx hb dL_law_533 (by decide) ?_
  refine lv_iadd hx hb dL_law_534 ?_
  refine k_top (y := 1) (by decide) ?_
  refine va_sld hx hb hX hbl hbA hS (show ¬ _ by decide) dL_law_535 ?_
  refine k_top (y := xs 1) rfl ?_
  refine lv_aload_n hx hb dL_law_536 rfl (lv_at hl 0 rfl) ?_
  refine lv_iload_n hx hb dL_law_537 rfl (lv_at hl 3 rfl) ?_
  refine lv_iconst (v := 2) hx hb dL_law_538 (by decide) ?_
  refine lv_iadd hx hb dL_law_539 ?_
  refine k_top (y := 2) (by decide) ?_
  refine va_sld hx hb hX hbl hbA hS (show ¬ _ by decide) dL_law_540 ?_
  refine k_top (y := xs 2) rfl ?_
  refine k_Vi [0, 1] [] 0 12 (wr := []) hx hb hml hown hts hKW hP hD hS hA hl.1 (c_X12_to l g _ z (xs 1) (xs 2) ) rfl rfl rfl wd_21_3 wd_1_5 wd_21_0 wd_21_1 wd_21_2 yd_X12_to ⟨Nat.le_of_ble_eq_true rfl, Nat.le_of_ble_eq_true rfl⟩ rfl rfl rfl rfl rfl (by decide) rfl (Nat.le_of_ble_eq_true rfl) dL_law_541 ⟨Nat.le_of_ble_eq_true rfl, Nat.le_of_ble_eq_true rfl⟩ (fun r_4 u_5 H locs hw_6 hP hD hS => ?_)
  have hP : va_P g.1 vwCl [] H := hP
  have hD : va_D A [] := hD
  have hw_6 : r_4 = (-100001) := hw_6
  subst hw_6
  refine lv_icmp_eq (tgt := 1506) hx hb dL_law_544 (by decide) (fun _ => ?_) (fun c => absurd rfl c)
  exact law_tail l g hA hA2 hKW hts C0 rfl H locs (Nat.le_of_ble_eq_true rfl) (Nat.le_of_ble_eq_true rfl) hS ls (lv_sub hl [0, 3] rfl)
theorem dL_law_549 : decode cL_law 549 = .ok (.aload_n 1, 1) := by decide +kernel
theorem dL_law_550 : decode cL_law 550 = .ok (.aload_n 0, 1) := by decide +kernel
theorem dL_law_551 : decode cL_law 551 = .ok (.iload_n 3, 1) := by decide +kernel
theorem dL_law_552 : decode cL_law 552 = .ok (.iconst 1, 1) := by decide +kernel
theorem dL_law_553 : decode cL_law 553 = .ok (.iadd, 1) := by decide +kernel
theorem dL_law_554 : decode cL_law 554 = .ok (.iaload, 1) := by decide +kernel
theorem dL_law_555 : decode cL_law 555 = .ok (.aload_n 0, 1) := by decide +kernel
theorem dL_law_556 : decode cL_law 556 = .ok (.iload_n 3, 1) := by decide +kernel
theorem dL_law_557 : decode cL_law 557 = .ok (.iconst 2, 1) := by decide +kernel
theorem dL_law_558 : decode cL_law 558 = .ok (.iadd, 1) := by decide +kernel
theorem dL_law_559 : decode cL_law 559 = .ok (.iaload, 1) := by decide +kernel
theorem dL_law_560 : decode cL_law 560 = .ok (.invokevirtual 61, 3) := by decide +kernel
theorem dL_law_563 : decode cL_law 563 = .ok (.aload_n 2, 1) := by decide +kernel
theorem dL_law_564 : decode cL_law 564 = .ok (.aload_n 0, 1) := by decide +kernel
theorem dL_law_565 : decode cL_law 565 = .ok (.iload_n 3, 1) := by decide +kernel
theorem dL_law_566 : decode cL_law 566 = .ok (.iconst 1, 1) := by decide +kernel
theorem dL_law_567 : decode cL_law 567 = .ok (.iadd, 1) := by decide +kernel
theorem dL_law_568 : decode cL_law 568 = .ok (.iaload, 1) := by decide +kernel
theorem dL_law_569 : decode cL_law 569 = .ok (.aload_n 0, 1) := by decide +kernel
theorem dL_law_570 : decode cL_law 570 = .ok (.iload_n 3, 1) := by decide +kernel
theorem dL_law_571 : decode cL_law 571 = .ok (.iconst 2, 1) := by decide +kernel
theorem dL_law_572 : decode cL_law 572 = .ok (.iadd, 1) := by decide +kernel
theorem dL_law_573 : decode cL_law 573 = .ok (.iaload, 1) := by decide +kernel
theorem dL_law_574 : decode cL_law 574 = .ok (.invokevirtual 64, 3) := by decide +kernel
theorem dL_law_577 : decode cL_law 577 = .ok (.if_icmp .eq 929, 3) := by decide +kernel
set_option maxHeartbeats 4000000 in
set_option maxRecDepth 100000 in
theorem law_over {p : Program} {e : Env} {s : State} {m : MethodId} {below : List Frame} {meth : Method} {c : Code} (l : Launch) (g : kG) {A : Nat → Prop} {b L : Nat} {xs : Nat → Int32} (hA : ∀ q : Nat, s.heap.size ≤ q → A q) (hA2 : ∀ q : Nat, A q → s.heap.size ≤ q) (hKW : kKW g s) (hts : ∀ w ∈ wsL_law, w.before #[Value.ref b] s = true) (C0 : lw_At p s m meth c b L xs) (hL6 : L = 6) (q z : Nat → Nat) (H : Heap) (locs : List Loc) (hP : va_P g.1 vwCl [(q 0, .inr (11, [.ref (q 1), .ref (q 29), .ref (q 31), .ref (q 34), .ref (q 38), .ref (q 40), .int 0])), (q 1, .inr (4, [.ref (q 2), .ref (q 6), .ref (q 9), .ref (q 18), .ref (q 22), .ref (q 26), .ref (q 28), .int 0, .int 0, .int 36, .int 10])), (q 9, .inr (0, [.int 0, .ref (q 10), .ref (q 11), .ref (q 12), .ref (q 13), .ref (q 14), .ref (q 15), .ref (q 16), .int 0, .int 0, .int 0, .ref (q 17)])), (z 0, .inr (12, [.ref (z 1), .ref (z 2), .int 0, .int 0, .ref (z 3), .ref (z 4), .ref (z 5), .ref (z 6), .int 0, .ref (z 7), .ref (z 8), .ref (z 9), .ref (z 10), .ref (z 11), .ref (z 12), .int 0, .ref (z 13), .ref (z 14), .int 0, .ref (z 15)])), (z 1, .inl (gI g, 461, .inl mD0))] H) (hD : va_D A [(q 0, .inr (11, [.ref (q 1), .ref (q 29), .ref (q 31), .ref (q 34), .ref (q 38), .ref (q 40), .int 0])), (q 1, .inr (4, [.ref (q 2), .ref (q 6), .ref (q 9), .ref (q 18), .ref (q 22), .ref (q 26), .ref (q 28), .int 0, .int 0, .int 36, .int 10])), (q 9, .inr (0, [.int 0, .ref (q 10), .ref (q 11), .ref (q 12), .ref (q 13), .ref (q 14), .ref (q 15), .ref (q 16), .int 0, .int 0, .int 0, .ref (q 17)])), (z 0, .inr (12, [.ref (z 1), .ref (z 2), .int 0, .int 0, .ref (z 3), .ref (z 4), .ref (z 5), .ref (z 6), .int 0, .ref (z 7), .ref (z 8), .ref (z 9), .ref (z 10), .ref (z 11), .ref (z 12), .int 0, .ref (z 13), .ref (z 14), .int 0, .ref (z 15)])), (z 1, .inl (gI g, 461, .inl mD0))]) (hS : va_S A s.heap H locs) (ls : Array Slot) (hl : lv_has ls 4 [(0, .ref b), (1, .ref (q 0)), (2, .ref (z 0)), (3, .int 0)]) : W p l e room_1 s m #[Value.ref b] below meth c H locs 65 9957 (lw_Z below #[Value.ref b] s) (F0 m 549 ls []) := by
  subst hL6
  obtain ⟨hx, hb, hr, hml, hown, -, hX, hbl, hlk, hgv⟩ := id C0
  have hbA : ¬ A b := fun h => absurd (hA2 _ h) (Nat.not_le.mpr hbl)
  have hown : s.vm.findClass RL = some m.cls := hown
  refine lv_aload_n hx hb dL_law_549 rfl (lv_at hl 1 rfl) ?_
  refine lv_aload_n hx hb dL_law_550 rfl (lv_at hl 0 rfl) ?_
  refine lv_iload_n hx hb dL_law_551 rfl (lv_at hl 3 rfl) ?_
  refine lv_iconst (v := 1) hx hb dL_law_552 (by decide) ?_
  refine lv_iadd hx hb dL_law_553 ?_
  refine k_top (y := 1) (by decide) ?_
  refine va_sld hx hb hX hbl hbA hS (show ¬ _ by decide) dL_law_554 ?_
  refine k_top (y := xs 1) rfl ?_
  refine lv_aload_n hx hb dL_law_555 rfl (lv_at hl 0 rfl) ?_
  refine lv_iload_n hx hb dL_law_556 rfl (lv_at hl 3 rfl) ?_
  refine lv_iconst (v := 2) hx hb dL_law_557 (by decide) ?_
  refine lv_iadd hx hb dL_law_558 ?_
  refine k_top (y := 2) (by decide) ?_
  refine va_sld hx hb hX hbl hbA hS (show ¬ _ by decide) dL_law_559 ?_
  refine k_top (y := xs 2) rfl ?_
  refine k_Vi [0, 1, 2] [3, 4] 0 11 (wr := [(z 0, .inr (12, [.ref (z 1), .ref (z 2), .int 0, .int 0, .ref (z 3), .ref (z 4), .ref (z 5), .ref (z 6), .int 0, .ref (z 7), .ref (z 8), .ref (z 9), .ref (z 10), .ref (z 11), .ref (z 12), .int 0, .ref (z 13), .ref (z 14), .int 0, .ref (z 15)])), (z 1, .inl (gI g, 461, .inl mD0))]) hx hb hml hown hts hKW hP hD hS hA hl.1 (c_X11_over l g _ q (xs 1) (xs 2) ) rfl rfl rfl wd_21_7 wd_1_2 wd_21_4 wd_21_5 wd_21_6 yd_X11_over ⟨Nat.le_of_ble_eq_true rfl, Nat.le_of_ble_eq_true rfl⟩ rfl rfl rfl rfl rfl (by decide) rfl (Nat.le_of_ble_eq_true rfl) dL_law_560 ⟨Nat.le_of_ble_eq_true rfl, Nat.le_of_ble_eq_true rfl⟩ (fun r_1 u_2 H locs hw_3 hP hD hS => ?_)
  have hP : va_P g.1 vwCl [(z 0, .inr (12, [.ref (z 1), .ref (z 2), .int 0, .int 0, .ref (z 3), .ref (z 4), .ref (z 5), .ref (z 6), .int 0, .ref (z 7), .ref (z 8), .ref (z 9), .ref (z 10), .ref (z 11), .ref (z 12), .int 0, .ref (z 13), .ref (z 14), .int 0, .ref (z 15)])), (z 1, .inl (gI g, 461, .inl mD0))] H := hP
  have hD : va_D A [(z 0, .inr (12, [.ref (z 1), .ref (z 2), .int 0, .int 0, .ref (z 3), .ref (z 4), .ref (z 5), .ref (z 6), .int 0, .ref (z 7), .ref (z 8), .ref (z 9), .ref (z 10), .ref (z 11), .ref (z 12), .int 0, .ref (z 13), .ref (z 14), .int 0, .ref (z 15)])), (z 1, .inl (gI g, 461, .inl mD0))] := hD
  have hw_3 : r_1 = (-100001) := hw_3
  subst hw_3
  refine lv_aload_n hx hb dL_law_563 rfl (lv_at hl 2 rfl) ?_
  refine lv_aload_n hx hb dL_law_564 rfl (lv_at hl 0 rfl) ?_
  refine lv_iload_n hx hb dL_law_565 rfl (lv_at hl 3 rfl) ?_
  refine lv_iconst (v := 1) hx hb dL_law_566 (by decide) ?_
  refine lv_iadd hx hb dL_law_567 ?_
  refine k_top (y := 1) (by decide) ?_
  refine va_sld hx hb hX hbl hbA hS (show ¬ _ by decide) dL_law_568 ?_
  refine k_top (y := xs 1) rfl ?_
  refine lv_aload_n hx hb dL_law_569 rfl (lv_at hl 0 rfl) ?_
  refine lv_iload_n hx hb dL_law_570 rfl (lv_at hl 3 rfl) ?_
  refine lv_iconst (v := 2) hx hb dL_law_571 (by decide) ?_
  refine lv_iadd hx hb dL_law_572 ?_
  refine k_top (y := 2) (by decide) ?_
  refine va_sld hx hb hX hbl hbA hS (show ¬ _ by decide) dL_law_573 ?_
  refine k_top (y := xs 2) rfl ?_
  refine k_Vi [0, 1] [] 0 12 (wr := []) hx hb hml hown hts hKW hP hD hS hA hl.1 (c_X12_over l g _ z (xs 1) (xs 2) ) rfl rfl rfl wd_21_22 wd_1_5 wd_21_19 wd_21_20 wd_21_21 yd_X12_over ⟨Nat.le_of_ble_eq_true rfl, Nat.le_of_ble_eq_true rfl⟩ rfl rfl rfl rfl rfl (by decide) rfl (Nat.le_of_ble_eq_true rfl) dL_law_574 ⟨Nat.le_of_ble_eq_true rfl, Nat.le_of_ble_eq_true rfl⟩ (fun r_4 u_5 H locs hw_6 hP hD hS => ?_)
  have hP : va_P g.1 vwCl [] H := hP
  have hD : va_D A [] := hD
  have hw_6 : r_4 = (-100001) := hw_6
  subst hw_6
  refine lv_icmp_eq (tgt := 1506) hx hb dL_law_577 (by decide) (fun _ => ?_) (fun c => absurd rfl c)
  exact law_tail l g hA hA2 hKW hts C0 rfl H locs (Nat.le_of_ble_eq_true rfl) (Nat.le_of_ble_eq_true rfl) hS ls (lv_sub hl [0, 3] rfl)
theorem dL_law_582 : decode cL_law 582 = .ok (.aload_n 1, 1) := by decide +kernel
theorem dL_law_583 : decode cL_law 583 = .ok (.aload_n 0, 1) := by decide +kernel
theorem dL_law_584 : decode cL_law 584 = .ok (.iload_n 3, 1) := by decide +kernel
theorem dL_law_585 : decode cL_law 585 = .ok (.iconst 1, 1) := by decide +kernel
theorem dL_law_586 : decode cL_law 586 = .ok (.iadd, 1) := by decide +kernel
theorem dL_law_587 : decode cL_law 587 = .ok (.iaload, 1) := by decide +kernel
theorem dL_law_588 : decode cL_law 588 = .ok (.aload_n 0, 1) := by decide +kernel
theorem dL_law_589 : decode cL_law 589 = .ok (.iload_n 3, 1) := by decide +kernel
theorem dL_law_590 : decode cL_law 590 = .ok (.iconst 2, 1) := by decide +kernel
theorem dL_law_591 : decode cL_law 591 = .ok (.iadd, 1) := by decide +kernel
theorem dL_law_592 : decode cL_law 592 = .ok (.iaload, 1) := by decide +kernel
theorem dL_law_593 : decode cL_law 593 = .ok (.aload_n 0, 1) := by decide +kernel
theorem dL_law_594 : decode cL_law 594 = .ok (.iload_n 3, 1) := by decide +kernel
theorem dL_law_595 : decode cL_law 595 = .ok (.iconst 3, 1) := by decide +kernel
theorem dL_law_596 : decode cL_law 596 = .ok (.iadd, 1) := by decide +kernel
theorem dL_law_597 : decode cL_law 597 = .ok (.iaload, 1) := by decide +kernel
theorem dL_law_598 : decode cL_law 598 = .ok (.ifCond .eq 7, 3) := by decide +kernel
theorem dL_law_605 : decode cL_law 605 = .ok (.iconst 0, 1) := by decide +kernel
theorem dL_law_606 : decode cL_law 606 = .ok (.invokevirtual 65, 3) := by decide +kernel
theorem dL_law_609 : decode cL_law 609 = .ok (.aload_n 2, 1) := by decide +kernel
theorem dL_law_610 : decode cL_law 610 = .ok (.aload_n 0, 1) := by decide +kernel
theorem dL_law_611 : decode cL_law 611 = .ok (.iload_n 3, 1) := by decide +kernel
theorem dL_law_612 : decode cL_law 612 = .ok (.iconst 1, 1) := by decide +kernel
theorem dL_law_613 : decode cL_law 613 = .ok (.iadd, 1) := by decide +kernel
theorem dL_law_614 : decode cL_law 614 = .ok (.iaload, 1) := by decide +kernel
theorem dL_law_615 : decode cL_law 615 = .ok (.aload_n 0, 1) := by decide +kernel
theorem dL_law_616 : decode cL_law 616 = .ok (.iload_n 3, 1) := by decide +kernel
theorem dL_law_617 : decode cL_law 617 = .ok (.iconst 2, 1) := by decide +kernel
theorem dL_law_618 : decode cL_law 618 = .ok (.iadd, 1) := by decide +kernel
theorem dL_law_619 : decode cL_law 619 = .ok (.iaload, 1) := by decide +kernel
theorem dL_law_620 : decode cL_law 620 = .ok (.aload_n 0, 1) := by decide +kernel
theorem dL_law_621 : decode cL_law 621 = .ok (.iload_n 3, 1) := by decide +kernel
theorem dL_law_622 : decode cL_law 622 = .ok (.iconst 3, 1) := by decide +kernel
theorem dL_law_623 : decode cL_law 623 = .ok (.iadd, 1) := by decide +kernel
theorem dL_law_624 : decode cL_law 624 = .ok (.iaload, 1) := by decide +kernel
theorem dL_law_625 : decode cL_law 625 = .ok (.ifCond .eq 7, 3) := by decide +kernel
theorem dL_law_632 : decode cL_law 632 = .ok (.iconst 0, 1) := by decide +kernel
theorem dL_law_633 : decode cL_law 633 = .ok (.invokevirtual 69, 3) := by decide +kernel
theorem dL_law_636 : decode cL_law 636 = .ok (.if_icmp .eq 870, 3) := by decide +kernel
theorem dL_law_628 : decode cL_law 628 = .ok (.iconst 1, 1) := by decide +kernel
theorem dL_law_629 : decode cL_law 629 = .ok (.goto 4, 3) := by decide +kernel
theorem dL_law_601 : decode cL_law 601 = .ok (.iconst 1, 1) := by decide +kernel
theorem dL_law_602 : decode cL_law 602 = .ok (.goto 4, 3) := by decide +kernel
set_option maxHeartbeats 4000000 in
set_option maxRecDepth 100000 in
theorem law_fetches {p : Program} {e : Env} {s : State} {m : MethodId} {below : List Frame} {meth : Method} {c : Code} (l : Launch) (g : kG) {A : Nat → Prop} {b L : Nat} {xs : Nat → Int32} (hA : ∀ q : Nat, s.heap.size ≤ q → A q) (hA2 : ∀ q : Nat, A q → s.heap.size ≤ q) (hKW : kKW g s) (hts : ∀ w ∈ wsL_law, w.before #[Value.ref b] s = true) (C0 : lw_At p s m meth c b L xs) (hL6 : L = 6) (q z : Nat → Nat) (H : Heap) (locs : List Loc) (hP : va_P g.1 vwCl [(q 0, .inr (11, [.ref (q 1), .ref (q 29), .ref (q 31), .ref (q 34), .ref (q 38), .ref (q 40), .int 0])), (q 1, .inr (4, [.ref (q 2), .ref (q 6), .ref (q 9), .ref (q 18), .ref (q 22), .ref (q 26), .ref (q 28), .int 0, .int 0, .int 36, .int 10])), (q 9, .inr (0, [.int 0, .ref (q 10), .ref (q 11), .ref (q 12), .ref (q 13), .ref (q 14), .ref (q 15), .ref (q 16), .int 0, .int 0, .int 0, .ref (q 17)])), (z 0, .inr (12, [.ref (z 1), .ref (z 2), .int 0, .int 0, .ref (z 3), .ref (z 4), .ref (z 5), .ref (z 6), .int 0, .ref (z 7), .ref (z 8), .ref (z 9), .ref (z 10), .ref (z 11), .ref (z 12), .int 0, .ref (z 13), .ref (z 14), .int 0, .ref (z 15)])), (z 1, .inl (gI g, 461, .inl mD0))] H) (hD : va_D A [(q 0, .inr (11, [.ref (q 1), .ref (q 29), .ref (q 31), .ref (q 34), .ref (q 38), .ref (q 40), .int 0])), (q 1, .inr (4, [.ref (q 2), .ref (q 6), .ref (q 9), .ref (q 18), .ref (q 22), .ref (q 26), .ref (q 28), .int 0, .int 0, .int 36, .int 10])), (q 9, .inr (0, [.int 0, .ref (q 10), .ref (q 11), .ref (q 12), .ref (q 13), .ref (q 14), .ref (q 15), .ref (q 16), .int 0, .int 0, .int 0, .ref (q 17)])), (z 0, .inr (12, [.ref (z 1), .ref (z 2), .int 0, .int 0, .ref (z 3), .ref (z 4), .ref (z 5), .ref (z 6), .int 0, .ref (z 7), .ref (z 8), .ref (z 9), .ref (z 10), .ref (z 11), .ref (z 12), .int 0, .ref (z 13), .ref (z 14), .int 0, .ref (z 15)])), (z 1, .inl (gI g, 461, .inl mD0))]) (hS : va_S A s.heap H locs) (ls : Array Slot) (hl : lv_has ls 4 [(0, .ref b), (1, .ref (q 0)), (2, .ref (z 0)), (3, .int 0)]) : W p l e room_1 s m #[Value.ref b] below meth c H locs 65 9957 (lw_Z below #[Value.ref b] s) (F0 m 582 ls []) := by
  subst hL6
  obtain ⟨hx, hb, hr, hml, hown, -, hX, hbl, hlk, hgv⟩ := id C0
  have hbA : ¬ A b := fun h => absurd (hA2 _ h) (Nat.not_le.mpr hbl)
  have hown : s.vm.findClass RL = some m.cls := hown
  refine lv_aload_n hx hb dL_law_582 rfl (lv_at hl 1 rfl) ?_
  refine lv_aload_n hx hb dL_law_583 rfl (lv_at hl 0 rfl) ?_
  refine lv_iload_n hx hb dL_law_584 rfl (lv_at hl 3 rfl) ?_
  refine lv_iconst (v := 1) hx hb dL_law_585 (by decide) ?_
  refine lv_iadd hx hb dL_law_586 ?_
  refine k_top (y := 1) (by decide) ?_
  refine va_sld hx hb hX hbl hbA hS (show ¬ _ by decide) dL_law_587 ?_
  refine k_top (y := xs 1) rfl ?_
  refine lv_aload_n hx hb dL_law_588 rfl (lv_at hl 0 rfl) ?_
  refine lv_iload_n hx hb dL_law_589 rfl (lv_at hl 3 rfl) ?_
  refine lv_iconst (v := 2) hx hb dL_law_590 (by decide) ?_
  refine lv_iadd hx hb dL_law_591 ?_
  refine k_top (y := 2) (by decide) ?_
  refine va_sld hx hb hX hbl hbA hS (show ¬ _ by decide) dL_law_592 ?_
  refine k_top (y := xs 2) rfl ?_
  refine lv_aload_n hx hb dL_law_593 rfl (lv_at hl 0 rfl) ?_
  refine lv_iload_n hx hb dL_law_594 rfl (lv_at hl 3 rfl) ?_
  refine lv_iconst (v := 3) hx hb dL_law_595 (by decide) ?_
  refine lv_iadd hx hb dL_law_596 ?_
  refine k_top (y := 3) (by decide) ?_
  refine va_sld hx hb hX hbl hbA hS (show ¬ _ by decide) dL_law_597 ?_
  refine k_top (y := xs 3) rfl ?_
  refine lv_if_eq (tgt := 605) hx hb dL_law_598 (by decide) (fun c_1 => ?_) (fun c_1 => ?_)
  · refine lv_iconst (v := 0) hx hb dL_law_605 (by decide) ?_
    refine k_Vi [0, 1, 2] [3, 4] 0 11 (wr := [(z 0, .inr (12, [.ref (z 1), .ref (z 2), .int 0, .int 0, .ref (z 3), .ref (z 4), .ref (z 5), .ref (z 6), .int 0, .ref (z 7), .ref (z 8), .ref (z 9), .ref (z 10), .ref (z 11), .ref (z 12), .int 0, .ref (z 13), .ref (z 14), .int 0, .ref (z 15)])), (z 1, .inl (gI g, 461, .inl mD0))]) hx hb hml hown hts hKW hP hD hS hA hl.1 (c_X11_fetches l g _ q (xs 1) (xs 2) 0 ) rfl rfl rfl wd_22_6 wd_1_2 wd_22_3 wd_22_4 wd_22_5 yd_X11_fetches ⟨Nat.le_of_ble_eq_true rfl, Nat.le_of_ble_eq_true rfl⟩ rfl rfl rfl rfl rfl (by decide) rfl (Nat.le_of_ble_eq_true rfl) dL_law_606 ⟨Nat.le_of_ble_eq_true rfl, Nat.le_of_ble_eq_true rfl⟩ (fun r_2 u_3 H locs hw_4 hP hD hS => ?_)
    have hP : va_P g.1 vwCl [(z 0, .inr (12, [.ref (z 1), .ref (z 2), .int 0, .int 0, .ref (z 3), .ref (z 4), .ref (z 5), .ref (z 6), .int 0, .ref (z 7), .ref (z 8), .ref (z 9), .ref (z 10), .ref (z 11), .ref (z 12), .int 0, .ref (z 13), .ref (z 14), .int 0, .ref (z 15)])), (z 1, .inl (gI g, 461, .inl mD0))] H := hP
    have hD : va_D A [(z 0, .inr (12, [.ref (z 1), .ref (z 2), .int 0, .int 0, .ref (z 3), .ref (z 4), .ref (z 5), .ref (z 6), .int 0, .ref (z 7), .ref (z 8), .ref (z 9), .ref (z 10), .ref (z 11), .ref (z 12), .int 0, .ref (z 13), .ref (z 14), .int 0, .ref (z 15)])), (z 1, .inl (gI g, 461, .inl mD0))] := hD
    have hw_4 : r_2 = (-100001) := hw_4
    subst hw_4
    refine lv_aload_n hx hb dL_law_609 rfl (lv_at hl 2 rfl) ?_
    refine lv_aload_n hx hb dL_law_610 rfl (lv_at hl 0 rfl) ?_
    refine lv_iload_n hx hb dL_law_611 rfl (lv_at hl 3 rfl) ?_
    refine lv_iconst (v := 1) hx hb dL_law_612 (by decide) ?_
    refine lv_iadd hx hb dL_law_613 ?_
    refine k_top (y := 1) (by decide) ?_
    refine va_sld hx hb hX hbl hbA hS (show ¬ _ by decide) dL_law_614 ?_
    refine k_top (y := xs 1) rfl ?_
    refine lv_aload_n hx hb dL_law_615 rfl (lv_at hl 0 rfl) ?_
    refine lv_iload_n hx hb dL_law_616 rfl (lv_at hl 3 rfl) ?_
    refine lv_iconst (v := 2) hx hb dL_law_617 (by decide) ?_
    refine lv_iadd hx hb dL_law_618 ?_
    refine k_top (y := 2) (by decide) ?_
    refine va_sld hx hb hX hbl hbA hS (show ¬ _ by decide) dL_law_619 ?_
    refine k_top (y := xs 2) rfl ?_
    refine lv_aload_n hx hb dL_law_620 rfl (lv_at hl 0 rfl) ?_
    refine lv_iload_n hx hb dL_law_621 rfl (lv_at hl 3 rfl) ?_
    refine lv_iconst (v := 3) hx hb dL_law_622 (by decide) ?_
    refine lv_iadd hx hb dL_law_623 ?_
    refine k_top (y := 3) (by decide) ?_
    refine va_sld hx hb hX hbl hbA hS (show ¬ _ by decide) dL_law_624 ?_
    refine k_top (y := xs 3) rfl ?_
    refine lv_if_eq (tgt := 632) hx hb dL_law_625 (by decide) (fun c_5 => ?_) (fun c_5 => ?_)
    · refine lv_iconst (v := 0) hx hb dL_law_632 (by decide) ?_
      refine k_Vi [0, 1] [] 0 12 (wr := []) hx hb hml hown hts hKW hP hD hS hA hl.1 (c_X12_fetches l g _ z (xs 1) (xs 2) 0 ) rfl rfl rfl wd_22_12 wd_1_5 wd_22_9 wd_22_10 wd_22_11 yd_X12_fetches ⟨Nat.le_of_ble_eq_true rfl, Nat.le_of_ble_eq_true rfl⟩ rfl rfl rfl rfl rfl (by decide) rfl (Nat.le_of_ble_eq_true rfl) dL_law_633 ⟨Nat.le_of_ble_eq_true rfl, Nat.le_of_ble_eq_true rfl⟩ (fun r_6 u_7 H locs hw_8 hP hD hS => ?_)
      have hP : va_P g.1 vwCl [] H := hP
      have hD : va_D A [] := hD
      have hw_8 : r_6 = (-100001) := hw_8
      subst hw_8
      refine lv_icmp_eq (tgt := 1506) hx hb dL_law_636 (by decide) (fun _ => ?_) (fun c => absurd rfl c)
      exact law_tail l g hA hA2 hKW hts C0 rfl H locs (Nat.le_of_ble_eq_true rfl) (Nat.le_of_ble_eq_true rfl) hS ls (lv_sub hl [0, 3] rfl)
    · refine lv_iconst (v := 1) hx hb dL_law_628 (by decide) ?_
      refine lv_goto (tgt := 633) hx hb dL_law_629 (by decide) ?_
      refine k_Vi [0, 1] [] 0 12 (wr := []) hx hb hml hown hts hKW hP hD hS hA hl.1 (c_X12_fetches l g _ z (xs 1) (xs 2) 1 ) rfl rfl rfl wd_22_12 wd_1_5 wd_22_9 wd_22_10 wd_22_11 yd_X12_fetches ⟨Nat.le_of_ble_eq_true rfl, Nat.le_of_ble_eq_true rfl⟩ rfl rfl rfl rfl rfl (by decide) rfl (Nat.le_of_ble_eq_true rfl) dL_law_633 ⟨Nat.le_of_ble_eq_true rfl, Nat.le_of_ble_eq_true rfl⟩ (fun r_9 u_10 H locs hw_11 hP hD hS => ?_)
      have hP : va_P g.1 vwCl [] H := hP
      have hD : va_D A [] := hD
      have hw_11 : r_9 = (-100001) := hw_11
      subst hw_11
      refine lv_icmp_eq (tgt := 1506) hx hb dL_law_636 (by decide) (fun _ => ?_) (fun c => absurd rfl c)
      exact law_tail l g hA hA2 hKW hts C0 rfl H locs (Nat.le_of_ble_eq_true rfl) (Nat.le_of_ble_eq_true rfl) hS ls (lv_sub hl [0, 3] rfl)
  · refine lv_iconst (v := 1) hx hb dL_law_601 (by decide) ?_
    refine lv_goto (tgt := 606) hx hb dL_law_602 (by decide) ?_
    refine k_Vi [0, 1, 2] [3, 4] 0 11 (wr := [(z 0, .inr (12, [.ref (z 1), .ref (z 2), .int 0, .int 0, .ref (z 3), .ref (z 4), .ref (z 5), .ref (z 6), .int 0, .ref (z 7), .ref (z 8), .ref (z 9), .ref (z 10), .ref (z 11), .ref (z 12), .int 0, .ref (z 13), .ref (z 14), .int 0, .ref (z 15)])), (z 1, .inl (gI g, 461, .inl mD0))]) hx hb hml hown hts hKW hP hD hS hA hl.1 (c_X11_fetches l g _ q (xs 1) (xs 2) 1 ) rfl rfl rfl wd_22_6 wd_1_2 wd_22_3 wd_22_4 wd_22_5 yd_X11_fetches ⟨Nat.le_of_ble_eq_true rfl, Nat.le_of_ble_eq_true rfl⟩ rfl rfl rfl rfl rfl (by decide) rfl (Nat.le_of_ble_eq_true rfl) dL_law_606 ⟨Nat.le_of_ble_eq_true rfl, Nat.le_of_ble_eq_true rfl⟩ (fun r_12 u_13 H locs hw_14 hP hD hS => ?_)
    have hP : va_P g.1 vwCl [(z 0, .inr (12, [.ref (z 1), .ref (z 2), .int 0, .int 0, .ref (z 3), .ref (z 4), .ref (z 5), .ref (z 6), .int 0, .ref (z 7), .ref (z 8), .ref (z 9), .ref (z 10), .ref (z 11), .ref (z 12), .int 0, .ref (z 13), .ref (z 14), .int 0, .ref (z 15)])), (z 1, .inl (gI g, 461, .inl mD0))] H := hP
    have hD : va_D A [(z 0, .inr (12, [.ref (z 1), .ref (z 2), .int 0, .int 0, .ref (z 3), .ref (z 4), .ref (z 5), .ref (z 6), .int 0, .ref (z 7), .ref (z 8), .ref (z 9), .ref (z 10), .ref (z 11), .ref (z 12), .int 0, .ref (z 13), .ref (z 14), .int 0, .ref (z 15)])), (z 1, .inl (gI g, 461, .inl mD0))] := hD
    have hw_14 : r_12 = (-100001) := hw_14
    subst hw_14
    refine lv_aload_n hx hb dL_law_609 rfl (lv_at hl 2 rfl) ?_
    refine lv_aload_n hx hb dL_law_610 rfl (lv_at hl 0 rfl) ?_
    refine lv_iload_n hx hb dL_law_611 rfl (lv_at hl 3 rfl) ?_
    refine lv_iconst (v := 1) hx hb dL_law_612 (by decide) ?_
    refine lv_iadd hx hb dL_law_613 ?_
    refine k_top (y := 1) (by decide) ?_
    refine va_sld hx hb hX hbl hbA hS (show ¬ _ by decide) dL_law_614 ?_
    refine k_top (y := xs 1) rfl ?_
    refine lv_aload_n hx hb dL_law_615 rfl (lv_at hl 0 rfl) ?_
    refine lv_iload_n hx hb dL_law_616 rfl (lv_at hl 3 rfl) ?_
    refine lv_iconst (v := 2) hx hb dL_law_617 (by decide) ?_
    refine lv_iadd hx hb dL_law_618 ?_
    refine k_top (y := 2) (by decide) ?_
    refine va_sld hx hb hX hbl hbA hS (show ¬ _ by decide) dL_law_619 ?_
    refine k_top (y := xs 2) rfl ?_
    refine lv_aload_n hx hb dL_law_620 rfl (lv_at hl 0 rfl) ?_
    refine lv_iload_n hx hb dL_law_621 rfl (lv_at hl 3 rfl) ?_
    refine lv_iconst (v := 3) hx hb dL_law_622 (by decide) ?_
    refine lv_iadd hx hb dL_law_623 ?_
    refine k_top (y := 3) (by decide) ?_
    refine va_sld hx hb hX hbl hbA hS (show ¬ _ by decide) dL_law_624 ?_
    refine k_top (y := xs 3) rfl ?_
    refine lv_if_eq (tgt := 632) hx hb dL_law_625 (by decide) (fun c_15 => ?_) (fun c_15 => ?_)
    · refine lv_iconst (v := 0) hx hb dL_law_632 (by decide) ?_
      refine k_Vi [0, 1] [] 0 12 (wr := []) hx hb hml hown hts hKW hP hD hS hA hl.1 (c_X12_fetches l g _ z (xs 1) (xs 2) 0 ) rfl rfl rfl wd_22_12 wd_1_5 wd_22_9 wd_22_10 wd_22_11 yd_X12_fetches ⟨Nat.le_of_ble_eq_true rfl, Nat.le_of_ble_eq_true rfl⟩ rfl rfl rfl rfl rfl (by decide) rfl (Nat.le_of_ble_eq_true rfl) dL_law_633 ⟨Nat.le_of_ble_eq_true rfl, Nat.le_of_ble_eq_true rfl⟩ (fun r_16 u_17 H locs hw_18 hP hD hS => ?_)
      have hP : va_P g.1 vwCl [] H := hP
      have hD : va_D A [] := hD
      have hw_18 : r_16 = (-100001) := hw_18
      subst hw_18
      refine lv_icmp_eq (tgt := 1506) hx hb dL_law_636 (by decide) (fun _ => ?_) (fun c => absurd rfl c)
      exact law_tail l g hA hA2 hKW hts C0 rfl H locs (Nat.le_of_ble_eq_true rfl) (Nat.le_of_ble_eq_true rfl) hS ls (lv_sub hl [0, 3] rfl)
    · refine lv_iconst (v := 1) hx hb dL_law_628 (by decide) ?_
      refine lv_goto (tgt := 633) hx hb dL_law_629 (by decide) ?_
      refine k_Vi [0, 1] [] 0 12 (wr := []) hx hb hml hown hts hKW hP hD hS hA hl.1 (c_X12_fetches l g _ z (xs 1) (xs 2) 1 ) rfl rfl rfl wd_22_12 wd_1_5 wd_22_9 wd_22_10 wd_22_11 yd_X12_fetches ⟨Nat.le_of_ble_eq_true rfl, Nat.le_of_ble_eq_true rfl⟩ rfl rfl rfl rfl rfl (by decide) rfl (Nat.le_of_ble_eq_true rfl) dL_law_633 ⟨Nat.le_of_ble_eq_true rfl, Nat.le_of_ble_eq_true rfl⟩ (fun r_19 u_20 H locs hw_21 hP hD hS => ?_)
      have hP : va_P g.1 vwCl [] H := hP
      have hD : va_D A [] := hD
      have hw_21 : r_19 = (-100001) := hw_21
      subst hw_21
      refine lv_icmp_eq (tgt := 1506) hx hb dL_law_636 (by decide) (fun _ => ?_) (fun c => absurd rfl c)
      exact law_tail l g hA hA2 hKW hts C0 rfl H locs (Nat.le_of_ble_eq_true rfl) (Nat.le_of_ble_eq_true rfl) hS ls (lv_sub hl [0, 3] rfl)
theorem dL_law_641 : decode cL_law 641 = .ok (.aload_n 1, 1) := by decide +kernel
theorem dL_law_642 : decode cL_law 642 = .ok (.aload_n 0, 1) := by decide +kernel
theorem dL_law_643 : decode cL_law 643 = .ok (.iload_n 3, 1) := by decide +kernel
theorem dL_law_644 : decode cL_law 644 = .ok (.iconst 1, 1) := by decide +kernel
theorem dL_law_645 : decode cL_law 645 = .ok (.iadd, 1) := by decide +kernel
theorem dL_law_646 : decode cL_law 646 = .ok (.iaload, 1) := by decide +kernel
theorem dL_law_647 : decode cL_law 647 = .ok (.aload_n 0, 1) := by decide +kernel
theorem dL_law_648 : decode cL_law 648 = .ok (.iload_n 3, 1) := by decide +kernel
theorem dL_law_649 : decode cL_law 649 = .ok (.iconst 2, 1) := by decide +kernel
theorem dL_law_650 : decode cL_law 650 = .ok (.iadd, 1) := by decide +kernel
theorem dL_law_651 : decode cL_law 651 = .ok (.iaload, 1) := by decide +kernel
theorem dL_law_652 : decode cL_law 652 = .ok (.invokevirtual 70, 3) := by decide +kernel
theorem dL_law_655 : decode cL_law 655 = .ok (.aload_n 2, 1) := by decide +kernel
theorem dL_law_656 : decode cL_law 656 = .ok (.aload_n 0, 1) := by decide +kernel
theorem dL_law_657 : decode cL_law 657 = .ok (.iload_n 3, 1) := by decide +kernel
theorem dL_law_658 : decode cL_law 658 = .ok (.iconst 1, 1) := by decide +kernel
theorem dL_law_659 : decode cL_law 659 = .ok (.iadd, 1) := by decide +kernel
theorem dL_law_660 : decode cL_law 660 = .ok (.iaload, 1) := by decide +kernel
theorem dL_law_661 : decode cL_law 661 = .ok (.aload_n 0, 1) := by decide +kernel
theorem dL_law_662 : decode cL_law 662 = .ok (.iload_n 3, 1) := by decide +kernel
theorem dL_law_663 : decode cL_law 663 = .ok (.iconst 2, 1) := by decide +kernel
theorem dL_law_664 : decode cL_law 664 = .ok (.iadd, 1) := by decide +kernel
theorem dL_law_665 : decode cL_law 665 = .ok (.iaload, 1) := by decide +kernel
theorem dL_law_666 : decode cL_law 666 = .ok (.invokevirtual 73, 3) := by decide +kernel
theorem dL_law_669 : decode cL_law 669 = .ok (.if_icmp .eq 837, 3) := by decide +kernel
set_option maxHeartbeats 4000000 in
set_option maxRecDepth 100000 in
theorem law_place {p : Program} {e : Env} {s : State} {m : MethodId} {below : List Frame} {meth : Method} {c : Code} (l : Launch) (g : kG) {A : Nat → Prop} {b L : Nat} {xs : Nat → Int32} (hA : ∀ q : Nat, s.heap.size ≤ q → A q) (hA2 : ∀ q : Nat, A q → s.heap.size ≤ q) (hKW : kKW g s) (hts : ∀ w ∈ wsL_law, w.before #[Value.ref b] s = true) (C0 : lw_At p s m meth c b L xs) (hL6 : L = 6) (q z : Nat → Nat) (H : Heap) (locs : List Loc) (hP : va_P g.1 vwCl [(q 0, .inr (11, [.ref (q 1), .ref (q 29), .ref (q 31), .ref (q 34), .ref (q 38), .ref (q 40), .int 0])), (q 1, .inr (4, [.ref (q 2), .ref (q 6), .ref (q 9), .ref (q 18), .ref (q 22), .ref (q 26), .ref (q 28), .int 0, .int 0, .int 36, .int 10])), (q 6, .inr (1, [.int 0, .ref (q 7), .ref (q 8), .int 0])), (z 0, .inr (12, [.ref (z 1), .ref (z 2), .int 0, .int 0, .ref (z 3), .ref (z 4), .ref (z 5), .ref (z 6), .int 0, .ref (z 7), .ref (z 8), .ref (z 9), .ref (z 10), .ref (z 11), .ref (z 12), .int 0, .ref (z 13), .ref (z 14), .int 0, .ref (z 15)])), (z 1, .inl (gI g, 461, .inl mD0))] H) (hD : va_D A [(q 0, .inr (11, [.ref (q 1), .ref (q 29), .ref (q 31), .ref (q 34), .ref (q 38), .ref (q 40), .int 0])), (q 1, .inr (4, [.ref (q 2), .ref (q 6), .ref (q 9), .ref (q 18), .ref (q 22), .ref (q 26), .ref (q 28), .int 0, .int 0, .int 36, .int 10])), (q 6, .inr (1, [.int 0, .ref (q 7), .ref (q 8), .int 0])), (z 0, .inr (12, [.ref (z 1), .ref (z 2), .int 0, .int 0, .ref (z 3), .ref (z 4), .ref (z 5), .ref (z 6), .int 0, .ref (z 7), .ref (z 8), .ref (z 9), .ref (z 10), .ref (z 11), .ref (z 12), .int 0, .ref (z 13), .ref (z 14), .int 0, .ref (z 15)])), (z 1, .inl (gI g, 461, .inl mD0))]) (hS : va_S A s.heap H locs) (ls : Array Slot) (hl : lv_has ls 4 [(0, .ref b), (1, .ref (q 0)), (2, .ref (z 0)), (3, .int 0)]) : W p l e room_1 s m #[Value.ref b] below meth c H locs 65 9957 (lw_Z below #[Value.ref b] s) (F0 m 641 ls []) := by
  subst hL6
  obtain ⟨hx, hb, hr, hml, hown, -, hX, hbl, hlk, hgv⟩ := id C0
  have hbA : ¬ A b := fun h => absurd (hA2 _ h) (Nat.not_le.mpr hbl)
  have hown : s.vm.findClass RL = some m.cls := hown
  refine lv_aload_n hx hb dL_law_641 rfl (lv_at hl 1 rfl) ?_
  refine lv_aload_n hx hb dL_law_642 rfl (lv_at hl 0 rfl) ?_
  refine lv_iload_n hx hb dL_law_643 rfl (lv_at hl 3 rfl) ?_
  refine lv_iconst (v := 1) hx hb dL_law_644 (by decide) ?_
  refine lv_iadd hx hb dL_law_645 ?_
  refine k_top (y := 1) (by decide) ?_
  refine va_sld hx hb hX hbl hbA hS (show ¬ _ by decide) dL_law_646 ?_
  refine k_top (y := xs 1) rfl ?_
  refine lv_aload_n hx hb dL_law_647 rfl (lv_at hl 0 rfl) ?_
  refine lv_iload_n hx hb dL_law_648 rfl (lv_at hl 3 rfl) ?_
  refine lv_iconst (v := 2) hx hb dL_law_649 (by decide) ?_
  refine lv_iadd hx hb dL_law_650 ?_
  refine k_top (y := 2) (by decide) ?_
  refine va_sld hx hb hX hbl hbA hS (show ¬ _ by decide) dL_law_651 ?_
  refine k_top (y := xs 2) rfl ?_
  refine k_Vi [0, 1, 2] [3, 4] 0 11 (wr := [(z 0, .inr (12, [.ref (z 1), .ref (z 2), .int 0, .int 0, .ref (z 3), .ref (z 4), .ref (z 5), .ref (z 6), .int 0, .ref (z 7), .ref (z 8), .ref (z 9), .ref (z 10), .ref (z 11), .ref (z 12), .int 0, .ref (z 13), .ref (z 14), .int 0, .ref (z 15)])), (z 1, .inl (gI g, 461, .inl mD0))]) hx hb hml hown hts hKW hP hD hS hA hl.1 (c_X11_place l g _ q (xs 1) (xs 2) ) rfl rfl rfl wd_22_16 wd_1_2 wd_22_13 wd_22_14 wd_22_15 yd_X11_place ⟨Nat.le_of_ble_eq_true rfl, Nat.le_of_ble_eq_true rfl⟩ rfl rfl rfl rfl rfl (by decide) rfl (Nat.le_of_ble_eq_true rfl) dL_law_652 ⟨Nat.le_of_ble_eq_true rfl, Nat.le_of_ble_eq_true rfl⟩ (fun r_1 u_2 H locs hw_3 hP hD hS => ?_)
  have hP : va_P g.1 vwCl [(z 0, .inr (12, [.ref (z 1), .ref (z 2), .int 0, .int 0, .ref (z 3), .ref (z 4), .ref (z 5), .ref (z 6), .int 0, .ref (z 7), .ref (z 8), .ref (z 9), .ref (z 10), .ref (z 11), .ref (z 12), .int 0, .ref (z 13), .ref (z 14), .int 0, .ref (z 15)])), (z 1, .inl (gI g, 461, .inl mD0))] H := hP
  have hD : va_D A [(z 0, .inr (12, [.ref (z 1), .ref (z 2), .int 0, .int 0, .ref (z 3), .ref (z 4), .ref (z 5), .ref (z 6), .int 0, .ref (z 7), .ref (z 8), .ref (z 9), .ref (z 10), .ref (z 11), .ref (z 12), .int 0, .ref (z 13), .ref (z 14), .int 0, .ref (z 15)])), (z 1, .inl (gI g, 461, .inl mD0))] := hD
  have hw_3 : r_1 = (-100001) := hw_3
  subst hw_3
  refine lv_aload_n hx hb dL_law_655 rfl (lv_at hl 2 rfl) ?_
  refine lv_aload_n hx hb dL_law_656 rfl (lv_at hl 0 rfl) ?_
  refine lv_iload_n hx hb dL_law_657 rfl (lv_at hl 3 rfl) ?_
  refine lv_iconst (v := 1) hx hb dL_law_658 (by decide) ?_
  refine lv_iadd hx hb dL_law_659 ?_
  refine k_top (y := 1) (by decide) ?_
  refine va_sld hx hb hX hbl hbA hS (show ¬ _ by decide) dL_law_660 ?_
  refine k_top (y := xs 1) rfl ?_
  refine lv_aload_n hx hb dL_law_661 rfl (lv_at hl 0 rfl) ?_
  refine lv_iload_n hx hb dL_law_662 rfl (lv_at hl 3 rfl) ?_
  refine lv_iconst (v := 2) hx hb dL_law_663 (by decide) ?_
  refine lv_iadd hx hb dL_law_664 ?_
  refine k_top (y := 2) (by decide) ?_
  refine va_sld hx hb hX hbl hbA hS (show ¬ _ by decide) dL_law_665 ?_
  refine k_top (y := xs 2) rfl ?_
  refine k_Vi [0, 1] [] 0 12 (wr := []) hx hb hml hown hts hKW hP hD hS hA hl.1 (c_X12_place l g _ z (xs 1) (xs 2) ) rfl rfl rfl wd_22_22 wd_1_5 wd_22_19 wd_22_20 wd_22_21 yd_X12_place ⟨Nat.le_of_ble_eq_true rfl, Nat.le_of_ble_eq_true rfl⟩ rfl rfl rfl rfl rfl (by decide) rfl (Nat.le_of_ble_eq_true rfl) dL_law_666 ⟨Nat.le_of_ble_eq_true rfl, Nat.le_of_ble_eq_true rfl⟩ (fun r_4 u_5 H locs hw_6 hP hD hS => ?_)
  have hP : va_P g.1 vwCl [] H := hP
  have hD : va_D A [] := hD
  have hw_6 : r_4 = (-100001) := hw_6
  subst hw_6
  refine lv_icmp_eq (tgt := 1506) hx hb dL_law_669 (by decide) (fun _ => ?_) (fun c => absurd rfl c)
  exact law_tail l g hA hA2 hKW hts C0 rfl H locs (Nat.le_of_ble_eq_true rfl) (Nat.le_of_ble_eq_true rfl) hS ls (lv_sub hl [0, 3] rfl)
