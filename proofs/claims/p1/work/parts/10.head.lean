theorem dL_law_27 : decode cL_law 27 = .ok (.aload_n 0, 1) := by decide +kernel
theorem dL_law_28 : decode cL_law 28 = .ok (.iload_n 3, 1) := by decide +kernel
theorem dL_law_29 : decode cL_law 29 = .ok (.iaload, 1) := by decide +kernel
theorem dL_law_30 : decode cL_law 30 = .ok (.bipush 63, 2) := by decide +kernel
theorem dL_law_32 : decode cL_law 32 = .ok (.iand, 1) := by decide +kernel
theorem dL_law_33 : decode cL_law 33 = .ok (.tableswitch 1473 0 41 #[183, 216, 239, 272, 325, 358, 391, 414, 437, 450, 483, 516, 549, 608, 641, 664, 697, 710, 723, 746, 759, 792, 841, 864, 913, 956, 979, 1002, 1025, 1048, 1071, 1094, 1117, 1160, 1183, 1252, 1275, 1288, 1331, 1374, 1437, 1450], 183) := by decide +kernel
set_option maxHeartbeats 4000000 in
set_option maxRecDepth 100000 in
theorem law_head {p : Program} {e : Env} {s : State} {m : MethodId} {below : List Frame} {meth : Method} {c : Code} (l : Launch) (g : kG) {A : Nat → Prop} {b L : Nat} {xs : Nat → Int32} (hA : ∀ q : Nat, s.heap.size ≤ q → A q) (hA2 : ∀ q : Nat, A q → s.heap.size ≤ q) (hKW : kKW g s) (hts : ∀ w ∈ wsL_law, w.before #[Value.ref b] s = true) (C0 : lw_At p s m meth c b L xs) (hL : L ≤ 6) (q z : Nat → Nat) (H : Heap) (locs : List Loc) (hP : va_P g.1 vwCl [(q 0, .inr (11, [.ref (q 1), .ref (q 29), .ref (q 31), .ref (q 34), .ref (q 38), .ref (q 40), .int 0])), (q 1, .inr (4, [.ref (q 2), .ref (q 6), .ref (q 9), .ref (q 18), .ref (q 22), .ref (q 26), .ref (q 28), .int 0, .int 0, .int 36, .int 10])), (q 2, .inr (8, [.int 0, .ref (q 3), .ref (q 4), .ref (q 5)])), (q 3, .inl (gI g, 5, .inl (fun _ => 0))), (q 4, .inl (gI g, 5, .inl (fun _ => 0))), (q 5, .inl (gI g, 5, .inl (fun _ => 0))), (q 6, .inr (1, [.int 0, .ref (q 7), .ref (q 8), .int 0])), (q 7, .inl (gI g, 7, .inl (fun _ => 0))), (q 8, .inl (gI g, 7, .inl (fun _ => 0))), (q 9, .inr (0, [.int 0, .ref (q 10), .ref (q 11), .ref (q 12), .ref (q 13), .ref (q 14), .ref (q 15), .ref (q 16), .int 0, .int 0, .int 0, .ref (q 17)])), (q 10, .inl (gI g, 10, .inl (fun _ => 0))), (q 11, .inl (gI g, 10, .inl (fun _ => 0))), (q 12, .inl (gI g, 10, .inl (fun _ => 0))), (q 13, .inl (gI g, 10, .inl (fun _ => 0))), (q 14, .inl (gI g, 10, .inl (fun _ => 0))), (q 15, .inl (gI g, 10, .inl (fun _ => 0))), (q 16, .inl (gI g, 10, .inl (fun _ => 0))), (q 17, .inl (gI g, 10, .inl (fun _ => 0))), (q 18, .inr (3, [.int 0, .ref (q 19), .ref (q 20), .ref (q 21)])), (q 19, .inl (gI g, 40, .inl (fun _ => 0))), (q 20, .inl (gI g, 40, .inl (fun _ => 0))), (q 21, .inl (gI g, 40, .inl (fun _ => 0))), (q 22, .inr (3, [.int 0, .ref (q 23), .ref (q 24), .ref (q 25)])), (q 23, .inl (gI g, 40, .inl (fun _ => 0))), (q 24, .inl (gI g, 40, .inl (fun _ => 0))), (q 25, .inl (gI g, 40, .inl (fun _ => 0))), (q 26, .inr (6, [.int 0, .int 0, .ref (q 27)])), (q 27, .inl (gI g, 14, .inl (fun _ => 0))), (q 28, .inl (gI g, 60, .inl (fun _ => 0))), (q 29, .inr (2, [.int 0, .int 0, .ref (q 30)])), (q 30, .inl (gN g, 16, .inr (.inr (.inr (.inr (fun _ => none)))))), (q 31, .inr (7, [.ref (q 32), .ref (q 33)])), (q 32, .inl (gI g, 7, .inl (fun _ => 0))), (q 33, .inl (gJ g, 5, .inr (.inl (fun _ => 0)))), (q 34, .inr (5, [.ref (q 35), .ref (q 36), .ref (q 37), .int 0, .int 0])), (q 35, .inl (gI g, 128, .inl (fun _ => 0))), (q 36, .inl (gI g, 128, .inl (fun _ => 0))), (q 37, .inl (gI g, 128, .inl (fun _ => 0))), (q 38, .inr (10, [.ref (q 39)])), (q 39, .inl (gI g, 60, .inl (fun _ => 0))), (q 40, .inl (gS g, 4, .inr (.inr (.inr (.inr (va_up (va_up (va_up (va_up (fun _ => none) 0 (some (q 41))) 1 (some (q 43))) 2 (some (q 45))) 3 (some (q 47)))))))), (q 41, .inr (9, [.int 0, .int 0, .ref (q 42)])), (q 42, .inl (gI g, 60, .inl (fun _ => 0))), (q 43, .inr (9, [.int 0, .int 0, .ref (q 44)])), (q 44, .inl (gI g, 60, .inl (fun _ => 0))), (q 45, .inr (9, [.int 0, .int 0, .ref (q 46)])), (q 46, .inl (gI g, 60, .inl (fun _ => 0))), (q 47, .inr (9, [.int 0, .int 0, .ref (q 48)])), (q 48, .inl (gI g, 60, .inl (fun _ => 0))), (z 0, .inr (12, [.ref (z 1), .ref (z 2), .int 0, .int 0, .ref (z 3), .ref (z 4), .ref (z 5), .ref (z 6), .int 0, .ref (z 7), .ref (z 8), .ref (z 9), .ref (z 10), .ref (z 11), .ref (z 12), .int 0, .ref (z 13), .ref (z 14), .int 0, .ref (z 15)])), (z 1, .inl (gI g, 461, .inl mD0)), (z 2, .inl (gI g, 7376, .inl (fun _ => 0))), (z 3, .inl (gI g, 4, .inl (fun _ => 0))), (z 4, .inl (gI g, 4, .inl (fun _ => 0))), (z 5, .inl (gI g, 240, .inl (fun _ => 0))), (z 6, .inl (gI g, 5, .inl (fun _ => 0))), (z 7, .inl (gI g, 7, .inl (fun _ => 0))), (z 8, .inl (gI g, 5, .inl (fun _ => 0))), (z 9, .inl (gI g, 5, .inl (fun _ => 0))), (z 10, .inl (gZ g, 5, .inl (fun _ => 0))), (z 11, .inl (gI g, 7, .inl (fun _ => 0))), (z 12, .inl (gI g, 7, .inl (fun _ => 0))), (z 13, .inl (gI g, 60, .inl (fun _ => 0))), (z 14, .inl (gI g, 480, .inl (fun _ => 0))), (z 15, .inl (gI g, 60, .inl (fun _ => 0)))] H) (hD : va_D A [(q 0, .inr (11, [.ref (q 1), .ref (q 29), .ref (q 31), .ref (q 34), .ref (q 38), .ref (q 40), .int 0])), (q 1, .inr (4, [.ref (q 2), .ref (q 6), .ref (q 9), .ref (q 18), .ref (q 22), .ref (q 26), .ref (q 28), .int 0, .int 0, .int 36, .int 10])), (q 2, .inr (8, [.int 0, .ref (q 3), .ref (q 4), .ref (q 5)])), (q 3, .inl (gI g, 5, .inl (fun _ => 0))), (q 4, .inl (gI g, 5, .inl (fun _ => 0))), (q 5, .inl (gI g, 5, .inl (fun _ => 0))), (q 6, .inr (1, [.int 0, .ref (q 7), .ref (q 8), .int 0])), (q 7, .inl (gI g, 7, .inl (fun _ => 0))), (q 8, .inl (gI g, 7, .inl (fun _ => 0))), (q 9, .inr (0, [.int 0, .ref (q 10), .ref (q 11), .ref (q 12), .ref (q 13), .ref (q 14), .ref (q 15), .ref (q 16), .int 0, .int 0, .int 0, .ref (q 17)])), (q 10, .inl (gI g, 10, .inl (fun _ => 0))), (q 11, .inl (gI g, 10, .inl (fun _ => 0))), (q 12, .inl (gI g, 10, .inl (fun _ => 0))), (q 13, .inl (gI g, 10, .inl (fun _ => 0))), (q 14, .inl (gI g, 10, .inl (fun _ => 0))), (q 15, .inl (gI g, 10, .inl (fun _ => 0))), (q 16, .inl (gI g, 10, .inl (fun _ => 0))), (q 17, .inl (gI g, 10, .inl (fun _ => 0))), (q 18, .inr (3, [.int 0, .ref (q 19), .ref (q 20), .ref (q 21)])), (q 19, .inl (gI g, 40, .inl (fun _ => 0))), (q 20, .inl (gI g, 40, .inl (fun _ => 0))), (q 21, .inl (gI g, 40, .inl (fun _ => 0))), (q 22, .inr (3, [.int 0, .ref (q 23), .ref (q 24), .ref (q 25)])), (q 23, .inl (gI g, 40, .inl (fun _ => 0))), (q 24, .inl (gI g, 40, .inl (fun _ => 0))), (q 25, .inl (gI g, 40, .inl (fun _ => 0))), (q 26, .inr (6, [.int 0, .int 0, .ref (q 27)])), (q 27, .inl (gI g, 14, .inl (fun _ => 0))), (q 28, .inl (gI g, 60, .inl (fun _ => 0))), (q 29, .inr (2, [.int 0, .int 0, .ref (q 30)])), (q 30, .inl (gN g, 16, .inr (.inr (.inr (.inr (fun _ => none)))))), (q 31, .inr (7, [.ref (q 32), .ref (q 33)])), (q 32, .inl (gI g, 7, .inl (fun _ => 0))), (q 33, .inl (gJ g, 5, .inr (.inl (fun _ => 0)))), (q 34, .inr (5, [.ref (q 35), .ref (q 36), .ref (q 37), .int 0, .int 0])), (q 35, .inl (gI g, 128, .inl (fun _ => 0))), (q 36, .inl (gI g, 128, .inl (fun _ => 0))), (q 37, .inl (gI g, 128, .inl (fun _ => 0))), (q 38, .inr (10, [.ref (q 39)])), (q 39, .inl (gI g, 60, .inl (fun _ => 0))), (q 40, .inl (gS g, 4, .inr (.inr (.inr (.inr (va_up (va_up (va_up (va_up (fun _ => none) 0 (some (q 41))) 1 (some (q 43))) 2 (some (q 45))) 3 (some (q 47)))))))), (q 41, .inr (9, [.int 0, .int 0, .ref (q 42)])), (q 42, .inl (gI g, 60, .inl (fun _ => 0))), (q 43, .inr (9, [.int 0, .int 0, .ref (q 44)])), (q 44, .inl (gI g, 60, .inl (fun _ => 0))), (q 45, .inr (9, [.int 0, .int 0, .ref (q 46)])), (q 46, .inl (gI g, 60, .inl (fun _ => 0))), (q 47, .inr (9, [.int 0, .int 0, .ref (q 48)])), (q 48, .inl (gI g, 60, .inl (fun _ => 0))), (z 0, .inr (12, [.ref (z 1), .ref (z 2), .int 0, .int 0, .ref (z 3), .ref (z 4), .ref (z 5), .ref (z 6), .int 0, .ref (z 7), .ref (z 8), .ref (z 9), .ref (z 10), .ref (z 11), .ref (z 12), .int 0, .ref (z 13), .ref (z 14), .int 0, .ref (z 15)])), (z 1, .inl (gI g, 461, .inl mD0)), (z 2, .inl (gI g, 7376, .inl (fun _ => 0))), (z 3, .inl (gI g, 4, .inl (fun _ => 0))), (z 4, .inl (gI g, 4, .inl (fun _ => 0))), (z 5, .inl (gI g, 240, .inl (fun _ => 0))), (z 6, .inl (gI g, 5, .inl (fun _ => 0))), (z 7, .inl (gI g, 7, .inl (fun _ => 0))), (z 8, .inl (gI g, 5, .inl (fun _ => 0))), (z 9, .inl (gI g, 5, .inl (fun _ => 0))), (z 10, .inl (gZ g, 5, .inl (fun _ => 0))), (z 11, .inl (gI g, 7, .inl (fun _ => 0))), (z 12, .inl (gI g, 7, .inl (fun _ => 0))), (z 13, .inl (gI g, 60, .inl (fun _ => 0))), (z 14, .inl (gI g, 480, .inl (fun _ => 0))), (z 15, .inl (gI g, 60, .inl (fun _ => 0)))]) (hS : va_S A s.heap H locs) (ls : Array Slot) (hl : lv_has ls 4 [(0, .ref b), (1, .ref (q 0)), (2, .ref (z 0)), (3, .int 0)]) : W p l e room_1 s m #[Value.ref b] below meth c H locs 65 9957 (lw_Z below #[Value.ref b] s) (F0 m 18 ls []) := by
  obtain ⟨hx, hb, hr, hml, hown, -, hX, hbl, hlk, hgv⟩ := id C0
  have hbA : ¬ A b := fun h => absurd (hA2 _ h) (Nat.not_le.mpr hbl)
  have hown : s.vm.findClass RL = some m.cls := hown
  refine lv_iload_n hx hb dL_law_18 rfl (lv_at hl 3 rfl) ?_
  refine lv_aload_n hx hb dL_law_19 rfl (lv_at hl 0 rfl) ?_
  refine va_slen hx hb hX hbl hbA hS dL_law_20 ?_
  refine lv_bipush (v := 6) hx hb dL_law_21 (by decide) ?_
  refine lv_isub hx hb dL_law_23 ?_
  refine lv_icmp_gt (tgt := 1512) hx hb dL_law_24 (by decide) (fun hgt => ?_) (fun hgt => ?_)
  · refine lv_iconst (v := 1) hx hb dL_law_1512 (by decide) ?_
    refine va_forget (fun q hq => hA2 _ (hS.2.2 q hq)) ?_
    refine W.widen (k := 600000) (n := 7302250) (Nat.le_of_ble_eq_true rfl) (Nat.le_of_ble_eq_true rfl) ?_
    exact lw_ret hx hb hr hlk dL_law_1513
  have h6 : L = 6 := by
    rcases (show L = 0 ∨ L = 1 ∨ L = 2 ∨ L = 3 ∨ L = 4 ∨ L = 5 ∨ L = 6 by omega) with rfl | rfl | rfl | rfl | rfl | rfl | rfl
    all_goals first | rfl | exact absurd (by decide) hgt
  subst h6
  refine lv_aload_n hx hb dL_law_27 rfl (lv_at hl 0 rfl) ?_
  refine lv_iload_n hx hb dL_law_28 rfl (lv_at hl 3 rfl) ?_
  refine va_sld hx hb hX hbl hbA hS (show ¬ _ by decide) dL_law_29 ?_
  refine k_top (y := xs 0) rfl ?_
  refine lv_bipush (v := 63) hx hb dL_law_30 (by decide) ?_
  refine lv_iand hx hb dL_law_32 ?_
  obtain ⟨v, hv⟩ : ∃ v : Int32, v = xs 0 &&& 63 := ⟨_, rfl⟩
  rw [← hv]
  by_cases hrg : v.toInt < 0 ∨ 41 < v.toInt
  · refine lv_tableOut (tgt := 1506) hx hb dL_law_33 hrg (by decide) ?_
    exact law_tail l g hA hA2 hKW hts C0 rfl H locs (Nat.le_of_ble_eq_true rfl) (Nat.le_of_ble_eq_true rfl) hS ls (lv_sub hl [0, 3] rfl)
  obtain ⟨j, hj, hvj⟩ := k_ofr (x := v) (n := 42) (by decide) ⟨by omega, by omega⟩
  clear hrg hv
  subst hvj
  match j, hj with
  | 0, _ =>
    refine lv_tableIn (tgt := 216) hx hb dL_law_33 (by decide) (by decide) rfl (by decide) ?_
    exact law_room l g hA hA2 hKW hts C0 rfl q z H locs (hP.sub [0, 1, 2, 3, 4, 5, 6, 7, 8, 9, 10, 11, 12, 13, 14, 15, 16, 17, 18, 19, 20, 21, 22, 23, 24, 25, 26, 27, 28, 29, 30, 49, 50, 51] rfl) (hD.sub [0, 1, 2, 3, 4, 5, 6, 7, 8, 9, 10, 11, 12, 13, 14, 15, 16, 17, 18, 19, 20, 21, 22, 23, 24, 25, 26, 27, 28, 29, 30, 49, 50, 51] (by decide) rfl) hS ls hl
  | 1, _ =>
    refine lv_tableIn (tgt := 249) hx hb dL_law_33 (by decide) (by decide) rfl (by decide) ?_
    exact law_hand l g hA hA2 hKW hts C0 rfl q z H locs (hP.sub [0, 1, 2, 3, 4, 5, 6, 7, 8, 9, 10, 11, 12, 13, 14, 15, 16, 17, 18, 19, 20, 21, 22, 23, 24, 25, 26, 27, 28, 29, 30, 49, 50, 51] rfl) (hD.sub [0, 1, 2, 3, 4, 5, 6, 7, 8, 9, 10, 11, 12, 13, 14, 15, 16, 17, 18, 19, 20, 21, 22, 23, 24, 25, 26, 27, 28, 29, 30, 49, 50, 51] (by decide) rfl) hS ls hl
  | 2, _ =>
    refine lv_tableIn (tgt := 272) hx hb dL_law_33 (by decide) (by decide) rfl (by decide) ?_
    exact law_as l g hA hA2 hKW hts C0 rfl q z H locs (hP.sub [0, 1, 6, 49, 50] rfl) (hD.sub [0, 1, 6, 49, 50] (by decide) rfl) hS ls hl
  | 3, _ =>
    refine lv_tableIn (tgt := 305) hx hb dL_law_33 (by decide) (by decide) rfl (by decide) ?_
    exact law_child l g hA hA2 hKW hts C0 rfl q z H locs (hP.sub [0, 1, 2, 3, 4, 5, 6, 7, 8, 9, 10, 11, 12, 13, 14, 15, 16, 17, 18, 19, 20, 21, 22, 23, 24, 25, 26, 27, 28, 29, 30, 49, 50, 51] rfl) (hD.sub [0, 1, 2, 3, 4, 5, 6, 7, 8, 9, 10, 11, 12, 13, 14, 15, 16, 17, 18, 19, 20, 21, 22, 23, 24, 25, 26, 27, 28, 29, 30, 49, 50, 51] (by decide) rfl) hS ls hl
  | 4, _ =>
    refine lv_tableIn (tgt := 358) hx hb dL_law_33 (by decide) (by decide) rfl (by decide) ?_
    exact law_childIs l g hA hA2 hKW hts C0 rfl q z H locs (hP.sub [0, 1, 9, 49, 50] rfl) (hD.sub [0, 1, 9, 49, 50] (by decide) rfl) hS ls hl
  | 5, _ =>
    refine lv_tableIn (tgt := 391) hx hb dL_law_33 (by decide) (by decide) rfl (by decide) ?_
    exact law_roomOf l g hA hA2 hKW hts C0 rfl q z H locs (hP.sub [0, 1, 9, 49, 50] rfl) (hD.sub [0, 1, 9, 49, 50] (by decide) rfl) hS ls hl
  | 6, _ =>
    refine lv_tableIn (tgt := 424) hx hb dL_law_33 (by decide) (by decide) rfl (by decide) ?_
    exact law_month l g hA hA2 hKW hts C0 rfl q z H locs (hP.sub [0, 1, 2, 3, 4, 5, 6, 7, 8, 9, 10, 11, 12, 13, 14, 15, 16, 17, 18, 19, 20, 21, 22, 23, 24, 25, 26, 27, 28, 29, 30, 49, 50, 51] rfl) (hD.sub [0, 1, 2, 3, 4, 5, 6, 7, 8, 9, 10, 11, 12, 13, 14, 15, 16, 17, 18, 19, 20, 21, 22, 23, 24, 25, 26, 27, 28, 29, 30, 49, 50, 51] (by decide) rfl) hS ls hl
  | 7, _ =>
    refine lv_tableIn (tgt := 447) hx hb dL_law_33 (by decide) (by decide) rfl (by decide) ?_
    exact law_slot l g hA hA2 hKW hts C0 rfl q z H locs (hP.sub [0, 1, 2, 3, 4, 5, 6, 7, 8, 9, 10, 11, 12, 13, 14, 15, 16, 17, 18, 19, 20, 21, 22, 23, 24, 25, 26, 27, 28, 29, 30, 49, 50, 51] rfl) (hD.sub [0, 1, 2, 3, 4, 5, 6, 7, 8, 9, 10, 11, 12, 13, 14, 15, 16, 17, 18, 19, 20, 21, 22, 23, 24, 25, 26, 27, 28, 29, 30, 49, 50, 51] (by decide) rfl) hS ls hl
  | 8, _ =>
    refine lv_tableIn (tgt := 470) hx hb dL_law_33 (by decide) (by decide) rfl (by decide) ?_
    exact law_day l g hA hA2 hKW hts C0 rfl q z H locs (hP.sub [0, 1, 2, 3, 4, 5, 6, 7, 8, 9, 10, 11, 12, 13, 14, 15, 16, 17, 18, 19, 20, 21, 22, 23, 24, 25, 26, 27, 28, 29, 30, 49, 50, 51] rfl) (hD.sub [0, 1, 2, 3, 4, 5, 6, 7, 8, 9, 10, 11, 12, 13, 14, 15, 16, 17, 18, 19, 20, 21, 22, 23, 24, 25, 26, 27, 28, 29, 30, 49, 50, 51] (by decide) rfl) hS ls hl
  | 9, _ =>
    refine lv_tableIn (tgt := 483) hx hb dL_law_33 (by decide) (by decide) rfl (by decide) ?_
    exact law_in l g hA hA2 hKW hts C0 rfl q z H locs (hP.sub [0, 1, 9, 49, 50] rfl) (hD.sub [0, 1, 9, 49, 50] (by decide) rfl) hS ls hl
  | 10, _ =>
    refine lv_tableIn (tgt := 516) hx hb dL_law_33 (by decide) (by decide) rfl (by decide) ?_
    exact law_to l g hA hA2 hKW hts C0 rfl q z H locs (hP.sub [0, 1, 9, 49, 50] rfl) (hD.sub [0, 1, 9, 49, 50] (by decide) rfl) hS ls hl
  | 11, _ =>
    refine lv_tableIn (tgt := 549) hx hb dL_law_33 (by decide) (by decide) rfl (by decide) ?_
    exact law_over l g hA hA2 hKW hts C0 rfl q z H locs (hP.sub [0, 1, 9, 49, 50] rfl) (hD.sub [0, 1, 9, 49, 50] (by decide) rfl) hS ls hl
  | 12, _ =>
    refine lv_tableIn (tgt := 582) hx hb dL_law_33 (by decide) (by decide) rfl (by decide) ?_
    exact law_fetches l g hA hA2 hKW hts C0 rfl q z H locs (hP.sub [0, 1, 9, 49, 50] rfl) (hD.sub [0, 1, 9, 49, 50] (by decide) rfl) hS ls hl
  | 13, _ =>
    refine lv_tableIn (tgt := 641) hx hb dL_law_33 (by decide) (by decide) rfl (by decide) ?_
    exact law_place l g hA hA2 hKW hts C0 rfl q z H locs (hP.sub [0, 1, 6, 49, 50] rfl) (hD.sub [0, 1, 6, 49, 50] (by decide) rfl) hS ls hl
  | 14, _ =>
    refine lv_tableIn (tgt := 674) hx hb dL_law_33 (by decide) (by decide) rfl (by decide) ?_
    exact law_ill l g hA hA2 hKW hts C0 rfl q z H locs (hP.sub [0, 1, 6, 49, 50] rfl) (hD.sub [0, 1, 6, 49, 50] (by decide) rfl) hS ls hl
  | 15, _ =>
    refine lv_tableIn (tgt := 697) hx hb dL_law_33 (by decide) (by decide) rfl (by decide) ?_
    exact law_now l g hA hA2 hKW hts C0 rfl q z H locs (hP.sub [0, 1, 2, 49, 50] rfl) (hD.sub [0, 1, 2, 49, 50] (by decide) rfl) hS ls hl
  | 16, _ =>
    refine lv_tableIn (tgt := 730) hx hb dL_law_33 (by decide) (by decide) rfl (by decide) ?_
    exact law_lacking l g hA hA2 hKW hts C0 rfl q z H locs (hP.sub [0, 1, 2, 49, 50] rfl) (hD.sub [0, 1, 2, 49, 50] (by decide) rfl) hS ls hl
  | 17, _ =>
    refine lv_tableIn (tgt := 743) hx hb dL_law_33 (by decide) (by decide) rfl (by decide) ?_
    exact law_moves l g hA hA2 hKW hts C0 rfl q z H locs (hP.sub [0, 1, 2, 6, 7, 8, 34, 35, 36, 37, 49, 50, 60, 61] rfl) (hD.sub [0, 1, 2, 6, 7, 8, 34, 35, 36, 37, 49, 50, 60, 61] (by decide) rfl) hS ls hl
  | 18, _ =>
    refine lv_tableIn (tgt := 756) hx hb dL_law_33 (by decide) (by decide) rfl (by decide) ?_
    exact law_moved l g hA hA2 hKW hts C0 rfl q z H locs (hP.sub [0, 1, 6, 49, 50] rfl) (hD.sub [0, 1, 6, 49, 50] (by decide) rfl) hS ls hl
  | 19, _ =>
    refine lv_tableIn (tgt := 779) hx hb dL_law_33 (by decide) (by decide) rfl (by decide) ?_
    exact law_move l g hA hA2 hKW hts C0 rfl q z H locs (hP.sub [0, 1, 2, 3, 4, 5, 6, 7, 8, 9, 10, 11, 12, 13, 14, 15, 16, 17, 18, 19, 20, 21, 22, 23, 24, 25, 26, 27, 28, 29, 30, 34, 35, 36, 37, 49, 50, 51, 60, 61] rfl) (hD.sub [0, 1, 2, 3, 4, 5, 6, 7, 8, 9, 10, 11, 12, 13, 14, 15, 16, 17, 18, 19, 20, 21, 22, 23, 24, 25, 26, 27, 28, 29, 30, 34, 35, 36, 37, 49, 50, 51, 60, 61] (by decide) rfl) hS ls hl
  | 20, _ =>
    refine lv_tableIn (tgt := 792) hx hb dL_law_33 (by decide) (by decide) rfl (by decide) ?_
    exact law_roll l g hA hA2 hKW hts C0 rfl q z H locs (hP.sub [0, 1, 9, 49, 50] rfl) (hD.sub [0, 1, 9, 49, 50] (by decide) rfl) hS ls hl
  | 21, _ =>
    refine lv_tableIn (tgt := 825) hx hb dL_law_33 (by decide) (by decide) rfl (by decide) ?_
    exact law_sleeps l g hA hA2 hKW hts C0 rfl q z H locs (hP.sub [0, 1, 9, 49, 50] rfl) (hD.sub [0, 1, 9, 49, 50] (by decide) rfl) hS ls hl
  | 22, _ =>
    refine lv_tableIn (tgt := 874) hx hb dL_law_33 (by decide) (by decide) rfl (by decide) ?_
    exact law_look l g hA hA2 hKW hts C0 rfl q z H locs (hP.sub [0, 1, 9, 49, 50] rfl) (hD.sub [0, 1, 9, 49, 50] (by decide) rfl) hS ls hl
  | 23, _ =>
    refine lv_tableIn (tgt := 897) hx hb dL_law_33 (by decide) (by decide) rfl (by decide) ?_
    exact law_missed l g hA hA2 hKW hts C0 rfl q z H locs (hP.sub [0, 1, 9, 49, 50] rfl) (hD.sub [0, 1, 9, 49, 50] (by decide) rfl) hS ls hl
  | 24, _ =>
    refine lv_tableIn (tgt := 946) hx hb dL_law_33 (by decide) (by decide) rfl (by decide) ?_
    exact law_needed l g hA hA2 hKW hts C0 rfl q z H locs (hP.sub [0, 1, 2, 3, 4, 5, 6, 7, 8, 9, 10, 11, 12, 13, 14, 15, 16, 17, 18, 19, 20, 21, 22, 23, 24, 25, 26, 27, 28, 29, 30, 49, 50, 51] rfl) (hD.sub [0, 1, 2, 3, 4, 5, 6, 7, 8, 9, 10, 11, 12, 13, 14, 15, 16, 17, 18, 19, 20, 21, 22, 23, 24, 25, 26, 27, 28, 29, 30, 49, 50, 51] (by decide) rfl) hS ls hl
  | 25, _ =>
    refine lv_tableIn (tgt := 989) hx hb dL_law_33 (by decide) (by decide) rfl (by decide) ?_
    exact law_longer l g hA hA2 hKW hts C0 rfl q z H locs (hP.sub [0, 1, 2, 3, 4, 5, 6, 7, 8, 9, 10, 11, 12, 13, 14, 15, 16, 17, 18, 19, 20, 21, 22, 23, 24, 25, 26, 27, 28, 29, 30, 49, 50, 51] rfl) (hD.sub [0, 1, 2, 3, 4, 5, 6, 7, 8, 9, 10, 11, 12, 13, 14, 15, 16, 17, 18, 19, 20, 21, 22, 23, 24, 25, 26, 27, 28, 29, 30, 49, 50, 51] (by decide) rfl) hS ls hl
  | 26, _ =>
    refine lv_tableIn (tgt := 1012) hx hb dL_law_33 (by decide) (by decide) rfl (by decide) ?_
    exact law_shifts l g hA hA2 hKW hts C0 rfl q z H locs (hP.sub [0, 1, 28, 38, 39, 49, 50, 62] rfl) (hD.sub [0, 1, 28, 38, 39, 49, 50, 62] (by decide) rfl) hS ls hl
  | 27, _ =>
    refine lv_tableIn (tgt := 1035) hx hb dL_law_33 (by decide) (by decide) rfl (by decide) ?_
    exact law_proves l g hA hA2 hKW hts C0 rfl q z H locs (hP.sub [0, 40, 41, 42, 43, 44, 45, 46, 47, 48, 49, 52] rfl) (hD.sub [0, 40, 41, 42, 43, 44, 45, 46, 47, 48, 49, 52] (by decide) rfl) hS ls hl
  | 28, _ =>
    refine lv_tableIn (tgt := 1058) hx hb dL_law_33 (by decide) (by decide) rfl (by decide) ?_
    exact law_waits l g hA hA2 hKW hts C0 rfl q z H locs (hP.sub [0, 1, 9, 49, 50] rfl) (hD.sub [0, 1, 9, 49, 50] (by decide) rfl) hS ls hl
  | 29, _ =>
    refine lv_tableIn (tgt := 1081) hx hb dL_law_33 (by decide) (by decide) rfl (by decide) ?_
    exact law_list l g hA hA2 hKW hts C0 rfl q z H locs (hP.sub [0, 1, 2, 3, 4, 5, 6, 7, 8, 9, 10, 11, 12, 13, 14, 15, 16, 17, 49, 50] rfl) (hD.sub [0, 1, 2, 3, 4, 5, 6, 7, 8, 9, 10, 11, 12, 13, 14, 15, 16, 17, 49, 50] (by decide) rfl) hS ls hl
  | 30, _ =>
    refine lv_tableIn (tgt := 1104) hx hb dL_law_33 (by decide) (by decide) rfl (by decide) ?_
    exact law_earliest l g hA hA2 hKW hts C0 rfl q z H locs (hP.sub [0, 1, 9, 49, 50] rfl) (hD.sub [0, 1, 9, 49, 50] (by decide) rfl) hS ls hl
  | 31, _ =>
    refine lv_tableIn (tgt := 1127) hx hb dL_law_33 (by decide) (by decide) rfl (by decide) ?_
    exact law_admit l g hA hA2 hKW hts C0 rfl q z H locs (hP.sub [0, 1, 9, 49, 50] rfl) (hD.sub [0, 1, 9, 49, 50] (by decide) rfl) hS ls hl
  | 32, _ =>
    refine lv_tableIn (tgt := 1150) hx hb dL_law_33 (by decide) (by decide) rfl (by decide) ?_
    exact law_places l g hA hA2 hKW hts C0 rfl q z H locs (hP.sub [0, 1, 2, 49, 50] rfl) (hD.sub [0, 1, 2, 49, 50] (by decide) rfl) hS ls hl
  | 33, _ =>
    refine lv_tableIn (tgt := 1193) hx hb dL_law_33 (by decide) (by decide) rfl (by decide) ?_
    exact law_rate l g hA hA2 hKW hts C0 rfl q z H locs (hP.sub [0, 1, 2, 3, 4, 5, 6, 7, 8, 9, 10, 11, 12, 13, 14, 15, 16, 17, 18, 19, 20, 21, 22, 23, 24, 25, 26, 27, 28, 29, 30, 49, 50, 51] rfl) (hD.sub [0, 1, 2, 3, 4, 5, 6, 7, 8, 9, 10, 11, 12, 13, 14, 15, 16, 17, 18, 19, 20, 21, 22, 23, 24, 25, 26, 27, 28, 29, 30, 49, 50, 51] (by decide) rfl) hS ls hl
  | 34, _ =>
    refine lv_tableIn (tgt := 1216) hx hb dL_law_33 (by decide) (by decide) rfl (by decide) ?_
    exact law_bill l g hA hA2 hKW hts C0 rfl q z H locs (hP.sub [0, 1, 9, 49, 50] rfl) (hD.sub [0, 1, 9, 49, 50] (by decide) rfl) hS ls hl
  | 35, _ =>
    refine lv_tableIn (tgt := 1285) hx hb dL_law_33 (by decide) (by decide) rfl (by decide) ?_
    exact law_text l g hA hA2 hKW hts C0 rfl q z H locs (hP.sub [0, 40, 41, 42, 43, 44, 45, 46, 47, 48, 49, 52] rfl) (hD.sub [0, 40, 41, 42, 43, 44, 45, 46, 47, 48, 49, 52] (by decide) rfl) hS ls hl
  | 36, _ =>
    refine lv_tableIn (tgt := 1308) hx hb dL_law_33 (by decide) (by decide) rfl (by decide) ?_
    exact law_wrong l g hA hA2 hKW hts C0 rfl q z H locs (hP.sub [0, 1, 26, 49, 50] rfl) (hD.sub [0, 1, 26, 49, 50] (by decide) rfl) hS ls hl
  | 37, _ =>
    refine lv_tableIn (tgt := 1321) hx hb dL_law_33 (by decide) (by decide) rfl (by decide) ?_
    exact law_sheet l g hA hA2 hKW hts C0 rfl q z H locs (hP.sub [0, 40, 41, 42, 43, 44, 45, 46, 47, 48, 49, 52, 53, 54] rfl) (hD.sub [0, 40, 41, 42, 43, 44, 45, 46, 47, 48, 49, 52, 53, 54] (by decide) rfl) hS ls hl
  | 38, _ =>
    refine lv_tableIn (tgt := 1364) hx hb dL_law_33 (by decide) (by decide) rfl (by decide) ?_
    exact law_put l g hA hA2 hKW hts C0 rfl q z H locs (hP.sub [0, 40, 41, 42, 43, 44, 45, 46, 47, 48, 49, 52] rfl) (hD.sub [0, 40, 41, 42, 43, 44, 45, 46, 47, 48, 49, 52] (by decide) rfl) hS ls hl
  | 39, _ =>
    refine lv_tableIn (tgt := 1407) hx hb dL_law_33 (by decide) (by decide) rfl (by decide) ?_
    exact law_copy l g hA hA2 hKW hts C0 rfl q z H locs (hP.sub [0, 40, 41, 42, 43, 44, 45, 46, 47, 48, 49, 52] rfl) (hD.sub [0, 40, 41, 42, 43, 44, 45, 46, 47, 48, 49, 52] (by decide) rfl) hS ls hl
  | 40, _ =>
    refine lv_tableIn (tgt := 1470) hx hb dL_law_33 (by decide) (by decide) rfl (by decide) ?_
    exact law_undo l g hA hA2 hKW hts C0 rfl q z H locs (hP.sub [0, 29, 49] rfl) (hD.sub [0, 29, 49] (by decide) rfl) hS ls hl
  | 41, _ =>
    refine lv_tableIn (tgt := 1483) hx hb dL_law_33 (by decide) (by decide) rfl (by decide) ?_
    exact law_all l g hA hA2 hKW hts C0 rfl q z H locs (hP.sub [0, 1, 2, 3, 4, 5, 6, 7, 8, 9, 10, 11, 12, 13, 14, 15, 16, 17, 18, 19, 20, 21, 22, 23, 24, 25, 26, 27, 28, 49, 50] rfl) (hD.sub [0, 1, 2, 3, 4, 5, 6, 7, 8, 9, 10, 11, 12, 13, 14, 15, 16, 17, 18, 19, 20, 21, 22, 23, 24, 25, 26, 27, 28, 49, 50] (by decide) rfl) hS ls hl
  | j + 42, hj => exact absurd hj (by omega)

