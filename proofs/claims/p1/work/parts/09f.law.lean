theorem dL_law_1058 : decode cL_law 1058 = .ok (.aload_n 1, 1) := by decide +kernel
theorem dL_law_1059 : decode cL_law 1059 = .ok (.aload_n 0, 1) := by decide +kernel
theorem dL_law_1060 : decode cL_law 1060 = .ok (.iload_n 3, 1) := by decide +kernel
theorem dL_law_1061 : decode cL_law 1061 = .ok (.iconst 1, 1) := by decide +kernel
theorem dL_law_1062 : decode cL_law 1062 = .ok (.iadd, 1) := by decide +kernel
theorem dL_law_1063 : decode cL_law 1063 = .ok (.iaload, 1) := by decide +kernel
theorem dL_law_1064 : decode cL_law 1064 = .ok (.invokevirtual 132, 3) := by decide +kernel
theorem dL_law_1067 : decode cL_law 1067 = .ok (.aload_n 2, 1) := by decide +kernel
theorem dL_law_1068 : decode cL_law 1068 = .ok (.aload_n 0, 1) := by decide +kernel
theorem dL_law_1069 : decode cL_law 1069 = .ok (.iload_n 3, 1) := by decide +kernel
theorem dL_law_1070 : decode cL_law 1070 = .ok (.iconst 1, 1) := by decide +kernel
theorem dL_law_1071 : decode cL_law 1071 = .ok (.iadd, 1) := by decide +kernel
theorem dL_law_1072 : decode cL_law 1072 = .ok (.iaload, 1) := by decide +kernel
theorem dL_law_1073 : decode cL_law 1073 = .ok (.invokevirtual 135, 3) := by decide +kernel
theorem dL_law_1076 : decode cL_law 1076 = .ok (.if_icmp .eq 430, 3) := by decide +kernel
set_option maxHeartbeats 4000000 in
set_option maxRecDepth 100000 in
theorem law_waits {p : Program} {e : Env} {s : State} {m : MethodId} {below : List Frame} {meth : Method} {c : Code} (l : Launch) (g : kG) {A : Nat → Prop} {b L : Nat} {xs : Nat → Int32} (hA : ∀ q : Nat, s.heap.size ≤ q → A q) (hA2 : ∀ q : Nat, A q → s.heap.size ≤ q) (hKW : kKW g s) (hts : ∀ w ∈ wsL_law, w.before #[Value.ref b] s = true) (C0 : lw_At p s m meth c b L xs) (hL6 : L = 6) (q z : Nat → Nat) (H : Heap) (locs : List Loc) (hP : va_P g.1 vwCl [(q 0, .inr (11, [.ref (q 1), .ref (q 29), .ref (q 31), .ref (q 34), .ref (q 38), .ref (q 40), .int 0])), (q 1, .inr (4, [.ref (q 2), .ref (q 6), .ref (q 9), .ref (q 18), .ref (q 22), .ref (q 26), .ref (q 28), .int 0, .int 0, .int 36, .int 10])), (q 9, .inr (0, [.int 0, .ref (q 10), .ref (q 11), .ref (q 12), .ref (q 13), .ref (q 14), .ref (q 15), .ref (q 16), .int 0, .int 0, .int 0, .ref (q 17)])), (z 0, .inr (12, [.ref (z 1), .ref (z 2), .int 0, .int 0, .ref (z 3), .ref (z 4), .ref (z 5), .ref (z 6), .int 0, .ref (z 7), .ref (z 8), .ref (z 9), .ref (z 10), .ref (z 11), .ref (z 12), .int 0, .ref (z 13), .ref (z 14), .int 0, .ref (z 15)])), (z 1, .inl (gI g, 461, .inl mD0))] H) (hD : va_D A [(q 0, .inr (11, [.ref (q 1), .ref (q 29), .ref (q 31), .ref (q 34), .ref (q 38), .ref (q 40), .int 0])), (q 1, .inr (4, [.ref (q 2), .ref (q 6), .ref (q 9), .ref (q 18), .ref (q 22), .ref (q 26), .ref (q 28), .int 0, .int 0, .int 36, .int 10])), (q 9, .inr (0, [.int 0, .ref (q 10), .ref (q 11), .ref (q 12), .ref (q 13), .ref (q 14), .ref (q 15), .ref (q 16), .int 0, .int 0, .int 0, .ref (q 17)])), (z 0, .inr (12, [.ref (z 1), .ref (z 2), .int 0, .int 0, .ref (z 3), .ref (z 4), .ref (z 5), .ref (z 6), .int 0, .ref (z 7), .ref (z 8), .ref (z 9), .ref (z 10), .ref (z 11), .ref (z 12), .int 0, .ref (z 13), .ref (z 14), .int 0, .ref (z 15)])), (z 1, .inl (gI g, 461, .inl mD0))]) (hS : va_S A s.heap H locs) (ls : Array Slot) (hl : lv_has ls 4 [(0, .ref b), (1, .ref (q 0)), (2, .ref (z 0)), (3, .int 0)]) : W p l e room_1 s m #[Value.ref b] below meth c H locs 65 9957 (lw_Z below #[Value.ref b] s) (F0 m 1058 ls []) := by
  subst hL6
  obtain ⟨hx, hb, hr, hml, hown, -, hX, hbl, hlk, hgv⟩ := id C0
  have hbA : ¬ A b := fun h => absurd (hA2 _ h) (Nat.not_le.mpr hbl)
  have hown : s.vm.findClass RL = some m.cls := hown
  refine lv_aload_n hx hb dL_law_1058 rfl (lv_at hl 1 rfl) ?_
  refine lv_aload_n hx hb dL_law_1059 rfl (lv_at hl 0 rfl) ?_
  refine lv_iload_n hx hb dL_law_1060 rfl (lv_at hl 3 rfl) ?_
  refine lv_iconst (v := 1) hx hb dL_law_1061 (by decide) ?_
  refine lv_iadd hx hb dL_law_1062 ?_
  refine k_top (y := 1) (by decide) ?_
  refine va_sld hx hb hX hbl hbA hS (show ¬ _ by decide) dL_law_1063 ?_
  refine k_top (y := xs 1) rfl ?_
  refine k_Vi [0, 1, 2] [3, 4] 0 11 (wr := [(z 0, .inr (12, [.ref (z 1), .ref (z 2), .int 0, .int 0, .ref (z 3), .ref (z 4), .ref (z 5), .ref (z 6), .int 0, .ref (z 7), .ref (z 8), .ref (z 9), .ref (z 10), .ref (z 11), .ref (z 12), .int 0, .ref (z 13), .ref (z 14), .int 0, .ref (z 15)])), (z 1, .inl (gI g, 461, .inl mD0))]) hx hb hml hown hts hKW hP hD hS hA hl.1 (c_X11_waits l g _ q (xs 1) ) rfl rfl rfl wd_38_18 wd_1_2 wd_38_15 wd_38_16 wd_38_17 yd_X11_waits ⟨Nat.le_of_ble_eq_true rfl, Nat.le_of_ble_eq_true rfl⟩ rfl rfl rfl rfl rfl (by decide) rfl (Nat.le_of_ble_eq_true rfl) dL_law_1064 ⟨Nat.le_of_ble_eq_true rfl, Nat.le_of_ble_eq_true rfl⟩ (fun r_1 u_2 H locs hw_3 hP hD hS => ?_)
  have hP : va_P g.1 vwCl [(z 0, .inr (12, [.ref (z 1), .ref (z 2), .int 0, .int 0, .ref (z 3), .ref (z 4), .ref (z 5), .ref (z 6), .int 0, .ref (z 7), .ref (z 8), .ref (z 9), .ref (z 10), .ref (z 11), .ref (z 12), .int 0, .ref (z 13), .ref (z 14), .int 0, .ref (z 15)])), (z 1, .inl (gI g, 461, .inl mD0))] H := hP
  have hD : va_D A [(z 0, .inr (12, [.ref (z 1), .ref (z 2), .int 0, .int 0, .ref (z 3), .ref (z 4), .ref (z 5), .ref (z 6), .int 0, .ref (z 7), .ref (z 8), .ref (z 9), .ref (z 10), .ref (z 11), .ref (z 12), .int 0, .ref (z 13), .ref (z 14), .int 0, .ref (z 15)])), (z 1, .inl (gI g, 461, .inl mD0))] := hD
  have hw_3 : r_1 = (-100001) := hw_3
  subst hw_3
  refine lv_aload_n hx hb dL_law_1067 rfl (lv_at hl 2 rfl) ?_
  refine lv_aload_n hx hb dL_law_1068 rfl (lv_at hl 0 rfl) ?_
  refine lv_iload_n hx hb dL_law_1069 rfl (lv_at hl 3 rfl) ?_
  refine lv_iconst (v := 1) hx hb dL_law_1070 (by decide) ?_
  refine lv_iadd hx hb dL_law_1071 ?_
  refine k_top (y := 1) (by decide) ?_
  refine va_sld hx hb hX hbl hbA hS (show ¬ _ by decide) dL_law_1072 ?_
  refine k_top (y := xs 1) rfl ?_
  refine k_Vi [0, 1] [] 0 12 (wr := []) hx hb hml hown hts hKW hP hD hS hA hl.1 (c_X12_waits l g _ z (xs 1) ) rfl rfl rfl wd_39_7 wd_1_5 wd_39_4 wd_39_5 wd_39_6 yd_X12_waits ⟨Nat.le_of_ble_eq_true rfl, Nat.le_of_ble_eq_true rfl⟩ rfl rfl rfl rfl rfl (by decide) rfl (Nat.le_of_ble_eq_true rfl) dL_law_1073 ⟨Nat.le_of_ble_eq_true rfl, Nat.le_of_ble_eq_true rfl⟩ (fun r_4 u_5 H locs hw_6 hP hD hS => ?_)
  have hP : va_P g.1 vwCl [] H := hP
  have hD : va_D A [] := hD
  have hw_6 : r_4 = (-100001) := hw_6
  subst hw_6
  refine lv_icmp_eq (tgt := 1506) hx hb dL_law_1076 (by decide) (fun _ => ?_) (fun c => absurd rfl c)
  exact law_tail l g hA hA2 hKW hts C0 rfl H locs (Nat.le_of_ble_eq_true rfl) (Nat.le_of_ble_eq_true rfl) hS ls (lv_sub hl [0, 3] rfl)
theorem dL_law_1081 : decode cL_law 1081 = .ok (.aload_n 1, 1) := by decide +kernel
theorem dL_law_1082 : decode cL_law 1082 = .ok (.aload_n 0, 1) := by decide +kernel
theorem dL_law_1083 : decode cL_law 1083 = .ok (.iload_n 3, 1) := by decide +kernel
theorem dL_law_1084 : decode cL_law 1084 = .ok (.iconst 1, 1) := by decide +kernel
theorem dL_law_1085 : decode cL_law 1085 = .ok (.iadd, 1) := by decide +kernel
theorem dL_law_1086 : decode cL_law 1086 = .ok (.iaload, 1) := by decide +kernel
theorem dL_law_1087 : decode cL_law 1087 = .ok (.invokevirtual 136, 3) := by decide +kernel
theorem dL_law_1090 : decode cL_law 1090 = .ok (.aload_n 2, 1) := by decide +kernel
theorem dL_law_1091 : decode cL_law 1091 = .ok (.aload_n 0, 1) := by decide +kernel
theorem dL_law_1092 : decode cL_law 1092 = .ok (.iload_n 3, 1) := by decide +kernel
theorem dL_law_1093 : decode cL_law 1093 = .ok (.iconst 1, 1) := by decide +kernel
theorem dL_law_1094 : decode cL_law 1094 = .ok (.iadd, 1) := by decide +kernel
theorem dL_law_1095 : decode cL_law 1095 = .ok (.iaload, 1) := by decide +kernel
theorem dL_law_1096 : decode cL_law 1096 = .ok (.invokevirtual 139, 3) := by decide +kernel
theorem dL_law_1099 : decode cL_law 1099 = .ok (.if_icmp .eq 407, 3) := by decide +kernel
set_option maxHeartbeats 4000000 in
set_option maxRecDepth 100000 in
theorem law_list {p : Program} {e : Env} {s : State} {m : MethodId} {below : List Frame} {meth : Method} {c : Code} (l : Launch) (g : kG) {A : Nat → Prop} {b L : Nat} {xs : Nat → Int32} (hA : ∀ q : Nat, s.heap.size ≤ q → A q) (hA2 : ∀ q : Nat, A q → s.heap.size ≤ q) (hKW : kKW g s) (hts : ∀ w ∈ wsL_law, w.before #[Value.ref b] s = true) (C0 : lw_At p s m meth c b L xs) (hL6 : L = 6) (q z : Nat → Nat) (H : Heap) (locs : List Loc) (hP : va_P g.1 vwCl [(q 0, .inr (11, [.ref (q 1), .ref (q 29), .ref (q 31), .ref (q 34), .ref (q 38), .ref (q 40), .int 0])), (q 1, .inr (4, [.ref (q 2), .ref (q 6), .ref (q 9), .ref (q 18), .ref (q 22), .ref (q 26), .ref (q 28), .int 0, .int 0, .int 36, .int 10])), (q 2, .inr (8, [.int 0, .ref (q 3), .ref (q 4), .ref (q 5)])), (q 3, .inl (gI g, 5, .inl (fun _ => 0))), (q 4, .inl (gI g, 5, .inl (fun _ => 0))), (q 5, .inl (gI g, 5, .inl (fun _ => 0))), (q 6, .inr (1, [.int 0, .ref (q 7), .ref (q 8), .int 0])), (q 7, .inl (gI g, 7, .inl (fun _ => 0))), (q 8, .inl (gI g, 7, .inl (fun _ => 0))), (q 9, .inr (0, [.int 0, .ref (q 10), .ref (q 11), .ref (q 12), .ref (q 13), .ref (q 14), .ref (q 15), .ref (q 16), .int 0, .int 0, .int 0, .ref (q 17)])), (q 10, .inl (gI g, 10, .inl (fun _ => 0))), (q 11, .inl (gI g, 10, .inl (fun _ => 0))), (q 12, .inl (gI g, 10, .inl (fun _ => 0))), (q 13, .inl (gI g, 10, .inl (fun _ => 0))), (q 14, .inl (gI g, 10, .inl (fun _ => 0))), (q 15, .inl (gI g, 10, .inl (fun _ => 0))), (q 16, .inl (gI g, 10, .inl (fun _ => 0))), (q 17, .inl (gI g, 10, .inl (fun _ => 0))), (z 0, .inr (12, [.ref (z 1), .ref (z 2), .int 0, .int 0, .ref (z 3), .ref (z 4), .ref (z 5), .ref (z 6), .int 0, .ref (z 7), .ref (z 8), .ref (z 9), .ref (z 10), .ref (z 11), .ref (z 12), .int 0, .ref (z 13), .ref (z 14), .int 0, .ref (z 15)])), (z 1, .inl (gI g, 461, .inl mD0))] H) (hD : va_D A [(q 0, .inr (11, [.ref (q 1), .ref (q 29), .ref (q 31), .ref (q 34), .ref (q 38), .ref (q 40), .int 0])), (q 1, .inr (4, [.ref (q 2), .ref (q 6), .ref (q 9), .ref (q 18), .ref (q 22), .ref (q 26), .ref (q 28), .int 0, .int 0, .int 36, .int 10])), (q 2, .inr (8, [.int 0, .ref (q 3), .ref (q 4), .ref (q 5)])), (q 3, .inl (gI g, 5, .inl (fun _ => 0))), (q 4, .inl (gI g, 5, .inl (fun _ => 0))), (q 5, .inl (gI g, 5, .inl (fun _ => 0))), (q 6, .inr (1, [.int 0, .ref (q 7), .ref (q 8), .int 0])), (q 7, .inl (gI g, 7, .inl (fun _ => 0))), (q 8, .inl (gI g, 7, .inl (fun _ => 0))), (q 9, .inr (0, [.int 0, .ref (q 10), .ref (q 11), .ref (q 12), .ref (q 13), .ref (q 14), .ref (q 15), .ref (q 16), .int 0, .int 0, .int 0, .ref (q 17)])), (q 10, .inl (gI g, 10, .inl (fun _ => 0))), (q 11, .inl (gI g, 10, .inl (fun _ => 0))), (q 12, .inl (gI g, 10, .inl (fun _ => 0))), (q 13, .inl (gI g, 10, .inl (fun _ => 0))), (q 14, .inl (gI g, 10, .inl (fun _ => 0))), (q 15, .inl (gI g, 10, .inl (fun _ => 0))), (q 16, .inl (gI g, 10, .inl (fun _ => 0))), (q 17, .inl (gI g, 10, .inl (fun _ => 0))), (z 0, .inr (12, [.ref (z 1), .ref (z 2), .int 0, .int 0, .ref (z 3), .ref (z 4), .ref (z 5), .ref (z 6), .int 0, .ref (z 7), .ref (z 8), .ref (z 9), .ref (z 10), .ref (z 11), .ref (z 12), .int 0, .ref (z 13), .ref (z 14), .int 0, .ref (z 15)])), (z 1, .inl (gI g, 461, .inl mD0))]) (hS : va_S A s.heap H locs) (ls : Array Slot) (hl : lv_has ls 4 [(0, .ref b), (1, .ref (q 0)), (2, .ref (z 0)), (3, .int 0)]) : W p l e room_1 s m #[Value.ref b] below meth c H locs 65 9957 (lw_Z below #[Value.ref b] s) (F0 m 1081 ls []) := by
  subst hL6
  obtain ⟨hx, hb, hr, hml, hown, -, hX, hbl, hlk, hgv⟩ := id C0
  have hbA : ¬ A b := fun h => absurd (hA2 _ h) (Nat.not_le.mpr hbl)
  have hown : s.vm.findClass RL = some m.cls := hown
  refine lv_aload_n hx hb dL_law_1081 rfl (lv_at hl 1 rfl) ?_
  refine lv_aload_n hx hb dL_law_1082 rfl (lv_at hl 0 rfl) ?_
  refine lv_iload_n hx hb dL_law_1083 rfl (lv_at hl 3 rfl) ?_
  refine lv_iconst (v := 1) hx hb dL_law_1084 (by decide) ?_
  refine lv_iadd hx hb dL_law_1085 ?_
  refine k_top (y := 1) (by decide) ?_
  refine va_sld hx hb hX hbl hbA hS (show ¬ _ by decide) dL_law_1086 ?_
  refine k_top (y := xs 1) rfl ?_
  refine k_Vi [0, 1, 2, 3, 4, 5, 6, 7, 8, 9, 10, 11, 12, 13, 14, 15, 16, 17] [18, 19] 0 11 (wr := [(z 0, .inr (12, [.ref (z 1), .ref (z 2), .int 0, .int 0, .ref (z 3), .ref (z 4), .ref (z 5), .ref (z 6), .int 0, .ref (z 7), .ref (z 8), .ref (z 9), .ref (z 10), .ref (z 11), .ref (z 12), .int 0, .ref (z 13), .ref (z 14), .int 0, .ref (z 15)])), (z 1, .inl (gI g, 461, .inl mD0))]) hx hb hml hown hts hKW hP hD hS hA hl.1 (c_X11_list l g _ q (xs 1) ) rfl rfl rfl wd_39_15 wd_1_2 wd_39_12 wd_39_13 wd_39_14 yd_X11_list ⟨Nat.le_of_ble_eq_true rfl, Nat.le_of_ble_eq_true rfl⟩ rfl rfl rfl rfl rfl (by decide) rfl (Nat.le_of_ble_eq_true rfl) dL_law_1087 ⟨Nat.le_of_ble_eq_true rfl, Nat.le_of_ble_eq_true rfl⟩ (fun r_1 u_2 H locs hw_3 hP hD hS => ?_)
  have hP : va_P g.1 vwCl [(z 0, .inr (12, [.ref (z 1), .ref (z 2), .int 0, .int 0, .ref (z 3), .ref (z 4), .ref (z 5), .ref (z 6), .int 0, .ref (z 7), .ref (z 8), .ref (z 9), .ref (z 10), .ref (z 11), .ref (z 12), .int 0, .ref (z 13), .ref (z 14), .int 0, .ref (z 15)])), (z 1, .inl (gI g, 461, .inl mD0))] H := hP
  have hD : va_D A [(z 0, .inr (12, [.ref (z 1), .ref (z 2), .int 0, .int 0, .ref (z 3), .ref (z 4), .ref (z 5), .ref (z 6), .int 0, .ref (z 7), .ref (z 8), .ref (z 9), .ref (z 10), .ref (z 11), .ref (z 12), .int 0, .ref (z 13), .ref (z 14), .int 0, .ref (z 15)])), (z 1, .inl (gI g, 461, .inl mD0))] := hD
  have hw_3 : r_1 = aList (xs 1) := hw_3
  subst hw_3
  refine lv_aload_n hx hb dL_law_1090 rfl (lv_at hl 2 rfl) ?_
  refine lv_aload_n hx hb dL_law_1091 rfl (lv_at hl 0 rfl) ?_
  refine lv_iload_n hx hb dL_law_1092 rfl (lv_at hl 3 rfl) ?_
  refine lv_iconst (v := 1) hx hb dL_law_1093 (by decide) ?_
  refine lv_iadd hx hb dL_law_1094 ?_
  refine k_top (y := 1) (by decide) ?_
  refine va_sld hx hb hX hbl hbA hS (show ¬ _ by decide) dL_law_1095 ?_
  refine k_top (y := xs 1) rfl ?_
  refine k_Vi [0, 1] [] 0 12 (wr := []) hx hb hml hown hts hKW hP hD hS hA hl.1 (c_X12_list l g _ z (xs 1) ) rfl rfl rfl wd_40_11 wd_1_5 wd_40_8 wd_40_9 wd_40_10 yd_X12_list ⟨Nat.le_of_ble_eq_true rfl, Nat.le_of_ble_eq_true rfl⟩ rfl rfl rfl rfl rfl (by decide) rfl (Nat.le_of_ble_eq_true rfl) dL_law_1096 ⟨Nat.le_of_ble_eq_true rfl, Nat.le_of_ble_eq_true rfl⟩ (fun r_4 u_5 H locs hw_6 hP hD hS => ?_)
  have hP : va_P g.1 vwCl [] H := hP
  have hD : va_D A [] := hD
  have hw_6 : r_4 = aList (xs 1) := hw_6
  subst hw_6
  refine lv_icmp_eq (tgt := 1506) hx hb dL_law_1099 (by decide) (fun _ => ?_) (fun c => absurd rfl c)
  exact law_tail l g hA hA2 hKW hts C0 rfl H locs (Nat.le_of_ble_eq_true rfl) (Nat.le_of_ble_eq_true rfl) hS ls (lv_sub hl [0, 3] rfl)
theorem dL_law_1104 : decode cL_law 1104 = .ok (.aload_n 1, 1) := by decide +kernel
theorem dL_law_1105 : decode cL_law 1105 = .ok (.aload_n 0, 1) := by decide +kernel
theorem dL_law_1106 : decode cL_law 1106 = .ok (.iload_n 3, 1) := by decide +kernel
theorem dL_law_1107 : decode cL_law 1107 = .ok (.iconst 1, 1) := by decide +kernel
theorem dL_law_1108 : decode cL_law 1108 = .ok (.iadd, 1) := by decide +kernel
theorem dL_law_1109 : decode cL_law 1109 = .ok (.iaload, 1) := by decide +kernel
theorem dL_law_1110 : decode cL_law 1110 = .ok (.invokevirtual 140, 3) := by decide +kernel
theorem dL_law_1113 : decode cL_law 1113 = .ok (.aload_n 2, 1) := by decide +kernel
theorem dL_law_1114 : decode cL_law 1114 = .ok (.aload_n 0, 1) := by decide +kernel
theorem dL_law_1115 : decode cL_law 1115 = .ok (.iload_n 3, 1) := by decide +kernel
theorem dL_law_1116 : decode cL_law 1116 = .ok (.iconst 1, 1) := by decide +kernel
theorem dL_law_1117 : decode cL_law 1117 = .ok (.iadd, 1) := by decide +kernel
theorem dL_law_1118 : decode cL_law 1118 = .ok (.iaload, 1) := by decide +kernel
theorem dL_law_1119 : decode cL_law 1119 = .ok (.invokevirtual 143, 3) := by decide +kernel
theorem dL_law_1122 : decode cL_law 1122 = .ok (.if_icmp .eq 384, 3) := by decide +kernel
set_option maxHeartbeats 4000000 in
set_option maxRecDepth 100000 in
theorem law_earliest {p : Program} {e : Env} {s : State} {m : MethodId} {below : List Frame} {meth : Method} {c : Code} (l : Launch) (g : kG) {A : Nat → Prop} {b L : Nat} {xs : Nat → Int32} (hA : ∀ q : Nat, s.heap.size ≤ q → A q) (hA2 : ∀ q : Nat, A q → s.heap.size ≤ q) (hKW : kKW g s) (hts : ∀ w ∈ wsL_law, w.before #[Value.ref b] s = true) (C0 : lw_At p s m meth c b L xs) (hL6 : L = 6) (q z : Nat → Nat) (H : Heap) (locs : List Loc) (hP : va_P g.1 vwCl [(q 0, .inr (11, [.ref (q 1), .ref (q 29), .ref (q 31), .ref (q 34), .ref (q 38), .ref (q 40), .int 0])), (q 1, .inr (4, [.ref (q 2), .ref (q 6), .ref (q 9), .ref (q 18), .ref (q 22), .ref (q 26), .ref (q 28), .int 0, .int 0, .int 36, .int 10])), (q 9, .inr (0, [.int 0, .ref (q 10), .ref (q 11), .ref (q 12), .ref (q 13), .ref (q 14), .ref (q 15), .ref (q 16), .int 0, .int 0, .int 0, .ref (q 17)])), (z 0, .inr (12, [.ref (z 1), .ref (z 2), .int 0, .int 0, .ref (z 3), .ref (z 4), .ref (z 5), .ref (z 6), .int 0, .ref (z 7), .ref (z 8), .ref (z 9), .ref (z 10), .ref (z 11), .ref (z 12), .int 0, .ref (z 13), .ref (z 14), .int 0, .ref (z 15)])), (z 1, .inl (gI g, 461, .inl mD0))] H) (hD : va_D A [(q 0, .inr (11, [.ref (q 1), .ref (q 29), .ref (q 31), .ref (q 34), .ref (q 38), .ref (q 40), .int 0])), (q 1, .inr (4, [.ref (q 2), .ref (q 6), .ref (q 9), .ref (q 18), .ref (q 22), .ref (q 26), .ref (q 28), .int 0, .int 0, .int 36, .int 10])), (q 9, .inr (0, [.int 0, .ref (q 10), .ref (q 11), .ref (q 12), .ref (q 13), .ref (q 14), .ref (q 15), .ref (q 16), .int 0, .int 0, .int 0, .ref (q 17)])), (z 0, .inr (12, [.ref (z 1), .ref (z 2), .int 0, .int 0, .ref (z 3), .ref (z 4), .ref (z 5), .ref (z 6), .int 0, .ref (z 7), .ref (z 8), .ref (z 9), .ref (z 10), .ref (z 11), .ref (z 12), .int 0, .ref (z 13), .ref (z 14), .int 0, .ref (z 15)])), (z 1, .inl (gI g, 461, .inl mD0))]) (hS : va_S A s.heap H locs) (ls : Array Slot) (hl : lv_has ls 4 [(0, .ref b), (1, .ref (q 0)), (2, .ref (z 0)), (3, .int 0)]) : W p l e room_1 s m #[Value.ref b] below meth c H locs 65 9957 (lw_Z below #[Value.ref b] s) (F0 m 1104 ls []) := by
  subst hL6
  obtain ⟨hx, hb, hr, hml, hown, -, hX, hbl, hlk, hgv⟩ := id C0
  have hbA : ¬ A b := fun h => absurd (hA2 _ h) (Nat.not_le.mpr hbl)
  have hown : s.vm.findClass RL = some m.cls := hown
  refine lv_aload_n hx hb dL_law_1104 rfl (lv_at hl 1 rfl) ?_
  refine lv_aload_n hx hb dL_law_1105 rfl (lv_at hl 0 rfl) ?_
  refine lv_iload_n hx hb dL_law_1106 rfl (lv_at hl 3 rfl) ?_
  refine lv_iconst (v := 1) hx hb dL_law_1107 (by decide) ?_
  refine lv_iadd hx hb dL_law_1108 ?_
  refine k_top (y := 1) (by decide) ?_
  refine va_sld hx hb hX hbl hbA hS (show ¬ _ by decide) dL_law_1109 ?_
  refine k_top (y := xs 1) rfl ?_
  refine k_Vi [0, 1, 2] [3, 4] 0 11 (wr := [(z 0, .inr (12, [.ref (z 1), .ref (z 2), .int 0, .int 0, .ref (z 3), .ref (z 4), .ref (z 5), .ref (z 6), .int 0, .ref (z 7), .ref (z 8), .ref (z 9), .ref (z 10), .ref (z 11), .ref (z 12), .int 0, .ref (z 13), .ref (z 14), .int 0, .ref (z 15)])), (z 1, .inl (gI g, 461, .inl mD0))]) hx hb hml hown hts hKW hP hD hS hA hl.1 (c_X11_earliest l g _ q (xs 1) ) rfl rfl rfl wd_40_23 wd_1_2 wd_40_20 wd_40_21 wd_40_22 yd_X11_earliest ⟨Nat.le_of_ble_eq_true rfl, Nat.le_of_ble_eq_true rfl⟩ rfl rfl rfl rfl rfl (by decide) rfl (Nat.le_of_ble_eq_true rfl) dL_law_1110 ⟨Nat.le_of_ble_eq_true rfl, Nat.le_of_ble_eq_true rfl⟩ (fun r_1 u_2 H locs hw_3 hP hD hS => ?_)
  have hP : va_P g.1 vwCl [(z 0, .inr (12, [.ref (z 1), .ref (z 2), .int 0, .int 0, .ref (z 3), .ref (z 4), .ref (z 5), .ref (z 6), .int 0, .ref (z 7), .ref (z 8), .ref (z 9), .ref (z 10), .ref (z 11), .ref (z 12), .int 0, .ref (z 13), .ref (z 14), .int 0, .ref (z 15)])), (z 1, .inl (gI g, 461, .inl mD0))] H := hP
  have hD : va_D A [(z 0, .inr (12, [.ref (z 1), .ref (z 2), .int 0, .int 0, .ref (z 3), .ref (z 4), .ref (z 5), .ref (z 6), .int 0, .ref (z 7), .ref (z 8), .ref (z 9), .ref (z 10), .ref (z 11), .ref (z 12), .int 0, .ref (z 13), .ref (z 14), .int 0, .ref (z 15)])), (z 1, .inl (gI g, 461, .inl mD0))] := hD
  have hw_3 : r_1 = (-100001) := hw_3
  subst hw_3
  refine lv_aload_n hx hb dL_law_1113 rfl (lv_at hl 2 rfl) ?_
  refine lv_aload_n hx hb dL_law_1114 rfl (lv_at hl 0 rfl) ?_
  refine lv_iload_n hx hb dL_law_1115 rfl (lv_at hl 3 rfl) ?_
  refine lv_iconst (v := 1) hx hb dL_law_1116 (by decide) ?_
  refine lv_iadd hx hb dL_law_1117 ?_
  refine k_top (y := 1) (by decide) ?_
  refine va_sld hx hb hX hbl hbA hS (show ¬ _ by decide) dL_law_1118 ?_
  refine k_top (y := xs 1) rfl ?_
  refine k_Vi [0, 1] [] 0 12 (wr := []) hx hb hml hown hts hKW hP hD hS hA hl.1 (c_X12_earliest l g _ z (xs 1) ) rfl rfl rfl wd_42_4 wd_1_5 wd_42_1 wd_42_2 wd_42_3 yd_X12_earliest ⟨Nat.le_of_ble_eq_true rfl, Nat.le_of_ble_eq_true rfl⟩ rfl rfl rfl rfl rfl (by decide) rfl (Nat.le_of_ble_eq_true rfl) dL_law_1119 ⟨Nat.le_of_ble_eq_true rfl, Nat.le_of_ble_eq_true rfl⟩ (fun r_4 u_5 H locs hw_6 hP hD hS => ?_)
  have hP : va_P g.1 vwCl [] H := hP
  have hD : va_D A [] := hD
  have hw_6 : r_4 = (-100001) := hw_6
  subst hw_6
  refine lv_icmp_eq (tgt := 1506) hx hb dL_law_1122 (by decide) (fun _ => ?_) (fun c => absurd rfl c)
  exact law_tail l g hA hA2 hKW hts C0 rfl H locs (Nat.le_of_ble_eq_true rfl) (Nat.le_of_ble_eq_true rfl) hS ls (lv_sub hl [0, 3] rfl)
theorem dL_law_1127 : decode cL_law 1127 = .ok (.aload_n 1, 1) := by decide +kernel
theorem dL_law_1128 : decode cL_law 1128 = .ok (.aload_n 0, 1) := by decide +kernel
theorem dL_law_1129 : decode cL_law 1129 = .ok (.iload_n 3, 1) := by decide +kernel
theorem dL_law_1130 : decode cL_law 1130 = .ok (.iconst 1, 1) := by decide +kernel
theorem dL_law_1131 : decode cL_law 1131 = .ok (.iadd, 1) := by decide +kernel
theorem dL_law_1132 : decode cL_law 1132 = .ok (.iaload, 1) := by decide +kernel
theorem dL_law_1133 : decode cL_law 1133 = .ok (.invokevirtual 144, 3) := by decide +kernel
theorem dL_law_1136 : decode cL_law 1136 = .ok (.aload_n 2, 1) := by decide +kernel
theorem dL_law_1137 : decode cL_law 1137 = .ok (.aload_n 0, 1) := by decide +kernel
theorem dL_law_1138 : decode cL_law 1138 = .ok (.iload_n 3, 1) := by decide +kernel
theorem dL_law_1139 : decode cL_law 1139 = .ok (.iconst 1, 1) := by decide +kernel
theorem dL_law_1140 : decode cL_law 1140 = .ok (.iadd, 1) := by decide +kernel
theorem dL_law_1141 : decode cL_law 1141 = .ok (.iaload, 1) := by decide +kernel
theorem dL_law_1142 : decode cL_law 1142 = .ok (.invokevirtual 147, 3) := by decide +kernel
theorem dL_law_1145 : decode cL_law 1145 = .ok (.if_icmp .eq 361, 3) := by decide +kernel
set_option maxHeartbeats 4000000 in
set_option maxRecDepth 100000 in
theorem law_admit {p : Program} {e : Env} {s : State} {m : MethodId} {below : List Frame} {meth : Method} {c : Code} (l : Launch) (g : kG) {A : Nat → Prop} {b L : Nat} {xs : Nat → Int32} (hA : ∀ q : Nat, s.heap.size ≤ q → A q) (hA2 : ∀ q : Nat, A q → s.heap.size ≤ q) (hKW : kKW g s) (hts : ∀ w ∈ wsL_law, w.before #[Value.ref b] s = true) (C0 : lw_At p s m meth c b L xs) (hL6 : L = 6) (q z : Nat → Nat) (H : Heap) (locs : List Loc) (hP : va_P g.1 vwCl [(q 0, .inr (11, [.ref (q 1), .ref (q 29), .ref (q 31), .ref (q 34), .ref (q 38), .ref (q 40), .int 0])), (q 1, .inr (4, [.ref (q 2), .ref (q 6), .ref (q 9), .ref (q 18), .ref (q 22), .ref (q 26), .ref (q 28), .int 0, .int 0, .int 36, .int 10])), (q 9, .inr (0, [.int 0, .ref (q 10), .ref (q 11), .ref (q 12), .ref (q 13), .ref (q 14), .ref (q 15), .ref (q 16), .int 0, .int 0, .int 0, .ref (q 17)])), (z 0, .inr (12, [.ref (z 1), .ref (z 2), .int 0, .int 0, .ref (z 3), .ref (z 4), .ref (z 5), .ref (z 6), .int 0, .ref (z 7), .ref (z 8), .ref (z 9), .ref (z 10), .ref (z 11), .ref (z 12), .int 0, .ref (z 13), .ref (z 14), .int 0, .ref (z 15)])), (z 1, .inl (gI g, 461, .inl mD0))] H) (hD : va_D A [(q 0, .inr (11, [.ref (q 1), .ref (q 29), .ref (q 31), .ref (q 34), .ref (q 38), .ref (q 40), .int 0])), (q 1, .inr (4, [.ref (q 2), .ref (q 6), .ref (q 9), .ref (q 18), .ref (q 22), .ref (q 26), .ref (q 28), .int 0, .int 0, .int 36, .int 10])), (q 9, .inr (0, [.int 0, .ref (q 10), .ref (q 11), .ref (q 12), .ref (q 13), .ref (q 14), .ref (q 15), .ref (q 16), .int 0, .int 0, .int 0, .ref (q 17)])), (z 0, .inr (12, [.ref (z 1), .ref (z 2), .int 0, .int 0, .ref (z 3), .ref (z 4), .ref (z 5), .ref (z 6), .int 0, .ref (z 7), .ref (z 8), .ref (z 9), .ref (z 10), .ref (z 11), .ref (z 12), .int 0, .ref (z 13), .ref (z 14), .int 0, .ref (z 15)])), (z 1, .inl (gI g, 461, .inl mD0))]) (hS : va_S A s.heap H locs) (ls : Array Slot) (hl : lv_has ls 4 [(0, .ref b), (1, .ref (q 0)), (2, .ref (z 0)), (3, .int 0)]) : W p l e room_1 s m #[Value.ref b] below meth c H locs 65 9957 (lw_Z below #[Value.ref b] s) (F0 m 1127 ls []) := by
  subst hL6
  obtain ⟨hx, hb, hr, hml, hown, -, hX, hbl, hlk, hgv⟩ := id C0
  have hbA : ¬ A b := fun h => absurd (hA2 _ h) (Nat.not_le.mpr hbl)
  have hown : s.vm.findClass RL = some m.cls := hown
  refine lv_aload_n hx hb dL_law_1127 rfl (lv_at hl 1 rfl) ?_
  refine lv_aload_n hx hb dL_law_1128 rfl (lv_at hl 0 rfl) ?_
  refine lv_iload_n hx hb dL_law_1129 rfl (lv_at hl 3 rfl) ?_
  refine lv_iconst (v := 1) hx hb dL_law_1130 (by decide) ?_
  refine lv_iadd hx hb dL_law_1131 ?_
  refine k_top (y := 1) (by decide) ?_
  refine va_sld hx hb hX hbl hbA hS (show ¬ _ by decide) dL_law_1132 ?_
  refine k_top (y := xs 1) rfl ?_
  refine k_Vi [0, 1, 2] [3, 4] 0 11 (wr := [(z 0, .inr (12, [.ref (z 1), .ref (z 2), .int 0, .int 0, .ref (z 3), .ref (z 4), .ref (z 5), .ref (z 6), .int 0, .ref (z 7), .ref (z 8), .ref (z 9), .ref (z 10), .ref (z 11), .ref (z 12), .int 0, .ref (z 13), .ref (z 14), .int 0, .ref (z 15)])), (z 1, .inl (gI g, 461, .inl mD0))]) hx hb hml hown hts hKW hP hD hS hA hl.1 (c_X11_admit l g _ q (xs 1) ) rfl rfl rfl wd_42_20 wd_1_2 wd_42_17 wd_42_18 wd_42_19 yd_X11_admit ⟨Nat.le_of_ble_eq_true rfl, Nat.le_of_ble_eq_true rfl⟩ rfl rfl rfl rfl rfl (by decide) rfl (Nat.le_of_ble_eq_true rfl) dL_law_1133 ⟨Nat.le_of_ble_eq_true rfl, Nat.le_of_ble_eq_true rfl⟩ (fun r_1 u_2 H locs hw_3 hP hD hS => ?_)
  have hP : va_P g.1 vwCl [(z 0, .inr (12, [.ref (z 1), .ref (z 2), .int 0, .int 0, .ref (z 3), .ref (z 4), .ref (z 5), .ref (z 6), .int 0, .ref (z 7), .ref (z 8), .ref (z 9), .ref (z 10), .ref (z 11), .ref (z 12), .int 0, .ref (z 13), .ref (z 14), .int 0, .ref (z 15)])), (z 1, .inl (gI g, 461, .inl mD0))] H := hP
  have hD : va_D A [(z 0, .inr (12, [.ref (z 1), .ref (z 2), .int 0, .int 0, .ref (z 3), .ref (z 4), .ref (z 5), .ref (z 6), .int 0, .ref (z 7), .ref (z 8), .ref (z 9), .ref (z 10), .ref (z 11), .ref (z 12), .int 0, .ref (z 13), .ref (z 14), .int 0, .ref (z 15)])), (z 1, .inl (gI g, 461, .inl mD0))] := hD
  have hw_3 : r_1 = (-100001) := hw_3
  subst hw_3
  refine lv_aload_n hx hb dL_law_1136 rfl (lv_at hl 2 rfl) ?_
  refine lv_aload_n hx hb dL_law_1137 rfl (lv_at hl 0 rfl) ?_
  refine lv_iload_n hx hb dL_law_1138 rfl (lv_at hl 3 rfl) ?_
  refine lv_iconst (v := 1) hx hb dL_law_1139 (by decide) ?_
  refine lv_iadd hx hb dL_law_1140 ?_
  refine k_top (y := 1) (by decide) ?_
  refine va_sld hx hb hX hbl hbA hS (show ¬ _ by decide) dL_law_1141 ?_
  refine k_top (y := xs 1) rfl ?_
  refine k_Vi [0, 1] [] 0 12 (wr := []) hx hb hml hown hts hKW hP hD hS hA hl.1 (c_X12_admit l g _ z (xs 1) ) rfl rfl rfl wd_43_4 wd_1_5 wd_43_1 wd_43_2 wd_43_3 yd_X12_admit ⟨Nat.le_of_ble_eq_true rfl, Nat.le_of_ble_eq_true rfl⟩ rfl rfl rfl rfl rfl (by decide) rfl (Nat.le_of_ble_eq_true rfl) dL_law_1142 ⟨Nat.le_of_ble_eq_true rfl, Nat.le_of_ble_eq_true rfl⟩ (fun r_4 u_5 H locs hw_6 hP hD hS => ?_)
  have hP : va_P g.1 vwCl [] H := hP
  have hD : va_D A [] := hD
  have hw_6 : r_4 = (-100001) := hw_6
  subst hw_6
  refine lv_icmp_eq (tgt := 1506) hx hb dL_law_1145 (by decide) (fun _ => ?_) (fun c => absurd rfl c)
  exact law_tail l g hA hA2 hKW hts C0 rfl H locs (Nat.le_of_ble_eq_true rfl) (Nat.le_of_ble_eq_true rfl) hS ls (lv_sub hl [0, 3] rfl)
theorem dL_law_1150 : decode cL_law 1150 = .ok (.aload_n 1, 1) := by decide +kernel
theorem dL_law_1151 : decode cL_law 1151 = .ok (.aload_n 0, 1) := by decide +kernel
theorem dL_law_1152 : decode cL_law 1152 = .ok (.iload_n 3, 1) := by decide +kernel
theorem dL_law_1153 : decode cL_law 1153 = .ok (.iconst 1, 1) := by decide +kernel
theorem dL_law_1154 : decode cL_law 1154 = .ok (.iadd, 1) := by decide +kernel
theorem dL_law_1155 : decode cL_law 1155 = .ok (.iaload, 1) := by decide +kernel
theorem dL_law_1156 : decode cL_law 1156 = .ok (.aload_n 0, 1) := by decide +kernel
theorem dL_law_1157 : decode cL_law 1157 = .ok (.iload_n 3, 1) := by decide +kernel
theorem dL_law_1158 : decode cL_law 1158 = .ok (.iconst 2, 1) := by decide +kernel
theorem dL_law_1159 : decode cL_law 1159 = .ok (.iadd, 1) := by decide +kernel
theorem dL_law_1160 : decode cL_law 1160 = .ok (.iaload, 1) := by decide +kernel
theorem dL_law_1161 : decode cL_law 1161 = .ok (.aload_n 0, 1) := by decide +kernel
theorem dL_law_1162 : decode cL_law 1162 = .ok (.iload_n 3, 1) := by decide +kernel
theorem dL_law_1163 : decode cL_law 1163 = .ok (.iconst 3, 1) := by decide +kernel
theorem dL_law_1164 : decode cL_law 1164 = .ok (.iadd, 1) := by decide +kernel
theorem dL_law_1165 : decode cL_law 1165 = .ok (.iaload, 1) := by decide +kernel
theorem dL_law_1166 : decode cL_law 1166 = .ok (.invokevirtual 148, 3) := by decide +kernel
theorem dL_law_1169 : decode cL_law 1169 = .ok (.aload_n 2, 1) := by decide +kernel
theorem dL_law_1170 : decode cL_law 1170 = .ok (.aload_n 0, 1) := by decide +kernel
theorem dL_law_1171 : decode cL_law 1171 = .ok (.iload_n 3, 1) := by decide +kernel
theorem dL_law_1172 : decode cL_law 1172 = .ok (.iconst 1, 1) := by decide +kernel
theorem dL_law_1173 : decode cL_law 1173 = .ok (.iadd, 1) := by decide +kernel
theorem dL_law_1174 : decode cL_law 1174 = .ok (.iaload, 1) := by decide +kernel
theorem dL_law_1175 : decode cL_law 1175 = .ok (.aload_n 0, 1) := by decide +kernel
theorem dL_law_1176 : decode cL_law 1176 = .ok (.iload_n 3, 1) := by decide +kernel
theorem dL_law_1177 : decode cL_law 1177 = .ok (.iconst 2, 1) := by decide +kernel
theorem dL_law_1178 : decode cL_law 1178 = .ok (.iadd, 1) := by decide +kernel
theorem dL_law_1179 : decode cL_law 1179 = .ok (.iaload, 1) := by decide +kernel
theorem dL_law_1180 : decode cL_law 1180 = .ok (.aload_n 0, 1) := by decide +kernel
theorem dL_law_1181 : decode cL_law 1181 = .ok (.iload_n 3, 1) := by decide +kernel
theorem dL_law_1182 : decode cL_law 1182 = .ok (.iconst 3, 1) := by decide +kernel
theorem dL_law_1183 : decode cL_law 1183 = .ok (.iadd, 1) := by decide +kernel
theorem dL_law_1184 : decode cL_law 1184 = .ok (.iaload, 1) := by decide +kernel
theorem dL_law_1185 : decode cL_law 1185 = .ok (.invokevirtual 151, 3) := by decide +kernel
theorem dL_law_1188 : decode cL_law 1188 = .ok (.if_icmp .eq 318, 3) := by decide +kernel
set_option maxHeartbeats 4000000 in
set_option maxRecDepth 100000 in
theorem law_places {p : Program} {e : Env} {s : State} {m : MethodId} {below : List Frame} {meth : Method} {c : Code} (l : Launch) (g : kG) {A : Nat → Prop} {b L : Nat} {xs : Nat → Int32} (hA : ∀ q : Nat, s.heap.size ≤ q → A q) (hA2 : ∀ q : Nat, A q → s.heap.size ≤ q) (hKW : kKW g s) (hts : ∀ w ∈ wsL_law, w.before #[Value.ref b] s = true) (C0 : lw_At p s m meth c b L xs) (hL6 : L = 6) (q z : Nat → Nat) (H : Heap) (locs : List Loc) (hP : va_P g.1 vwCl [(q 0, .inr (11, [.ref (q 1), .ref (q 29), .ref (q 31), .ref (q 34), .ref (q 38), .ref (q 40), .int 0])), (q 1, .inr (4, [.ref (q 2), .ref (q 6), .ref (q 9), .ref (q 18), .ref (q 22), .ref (q 26), .ref (q 28), .int 0, .int 0, .int 36, .int 10])), (q 2, .inr (8, [.int 0, .ref (q 3), .ref (q 4), .ref (q 5)])), (z 0, .inr (12, [.ref (z 1), .ref (z 2), .int 0, .int 0, .ref (z 3), .ref (z 4), .ref (z 5), .ref (z 6), .int 0, .ref (z 7), .ref (z 8), .ref (z 9), .ref (z 10), .ref (z 11), .ref (z 12), .int 0, .ref (z 13), .ref (z 14), .int 0, .ref (z 15)])), (z 1, .inl (gI g, 461, .inl mD0))] H) (hD : va_D A [(q 0, .inr (11, [.ref (q 1), .ref (q 29), .ref (q 31), .ref (q 34), .ref (q 38), .ref (q 40), .int 0])), (q 1, .inr (4, [.ref (q 2), .ref (q 6), .ref (q 9), .ref (q 18), .ref (q 22), .ref (q 26), .ref (q 28), .int 0, .int 0, .int 36, .int 10])), (q 2, .inr (8, [.int 0, .ref (q 3), .ref (q 4), .ref (q 5)])), (z 0, .inr (12, [.ref (z 1), .ref (z 2), .int 0, .int 0, .ref (z 3), .ref (z 4), .ref (z 5), .ref (z 6), .int 0, .ref (z 7), .ref (z 8), .ref (z 9), .ref (z 10), .ref (z 11), .ref (z 12), .int 0, .ref (z 13), .ref (z 14), .int 0, .ref (z 15)])), (z 1, .inl (gI g, 461, .inl mD0))]) (hS : va_S A s.heap H locs) (ls : Array Slot) (hl : lv_has ls 4 [(0, .ref b), (1, .ref (q 0)), (2, .ref (z 0)), (3, .int 0)]) : W p l e room_1 s m #[Value.ref b] below meth c H locs 65 9957 (lw_Z below #[Value.ref b] s) (F0 m 1150 ls []) := by
  subst hL6
  obtain ⟨hx, hb, hr, hml, hown, -, hX, hbl, hlk, hgv⟩ := id C0
  have hbA : ¬ A b := fun h => absurd (hA2 _ h) (Nat.not_le.mpr hbl)
  have hown : s.vm.findClass RL = some m.cls := hown
  refine lv_aload_n hx hb dL_law_1150 rfl (lv_at hl 1 rfl) ?_
  refine lv_aload_n hx hb dL_law_1151 rfl (lv_at hl 0 rfl) ?_
  refine lv_iload_n hx hb dL_law_1152 rfl (lv_at hl 3 rfl) ?_
  refine lv_iconst (v := 1) hx hb dL_law_1153 (by decide) ?_
  refine lv_iadd hx hb dL_law_1154 ?_
  refine k_top (y := 1) (by decide) ?_
  refine va_sld hx hb hX hbl hbA hS (show ¬ _ by decide) dL_law_1155 ?_
  refine k_top (y := xs 1) rfl ?_
  refine lv_aload_n hx hb dL_law_1156 rfl (lv_at hl 0 rfl) ?_
  refine lv_iload_n hx hb dL_law_1157 rfl (lv_at hl 3 rfl) ?_
  refine lv_iconst (v := 2) hx hb dL_law_1158 (by decide) ?_
  refine lv_iadd hx hb dL_law_1159 ?_
  refine k_top (y := 2) (by decide) ?_
  refine va_sld hx hb hX hbl hbA hS (show ¬ _ by decide) dL_law_1160 ?_
  refine k_top (y := xs 2) rfl ?_
  refine lv_aload_n hx hb dL_law_1161 rfl (lv_at hl 0 rfl) ?_
  refine lv_iload_n hx hb dL_law_1162 rfl (lv_at hl 3 rfl) ?_
  refine lv_iconst (v := 3) hx hb dL_law_1163 (by decide) ?_
  refine lv_iadd hx hb dL_law_1164 ?_
  refine k_top (y := 3) (by decide) ?_
  refine va_sld hx hb hX hbl hbA hS (show ¬ _ by decide) dL_law_1165 ?_
  refine k_top (y := xs 3) rfl ?_
  refine k_Vi [0, 1, 2] [3, 4] 0 11 (wr := [(z 0, .inr (12, [.ref (z 1), .ref (z 2), .int 0, .int 0, .ref (z 3), .ref (z 4), .ref (z 5), .ref (z 6), .int 0, .ref (z 7), .ref (z 8), .ref (z 9), .ref (z 10), .ref (z 11), .ref (z 12), .int 0, .ref (z 13), .ref (z 14), .int 0, .ref (z 15)])), (z 1, .inl (gI g, 461, .inl mD0))]) hx hb hml hown hts hKW hP hD hS hA hl.1 (c_X11_places l g _ q (xs 1) (xs 2) (xs 3) ) rfl rfl rfl wd_43_8 wd_1_2 wd_43_5 wd_43_6 wd_43_7 yd_X11_places ⟨Nat.le_of_ble_eq_true rfl, Nat.le_of_ble_eq_true rfl⟩ rfl rfl rfl rfl rfl (by decide) rfl (Nat.le_of_ble_eq_true rfl) dL_law_1166 ⟨Nat.le_of_ble_eq_true rfl, Nat.le_of_ble_eq_true rfl⟩ (fun r_1 u_2 H locs hw_3 hP hD hS => ?_)
  have hP : va_P g.1 vwCl [(z 0, .inr (12, [.ref (z 1), .ref (z 2), .int 0, .int 0, .ref (z 3), .ref (z 4), .ref (z 5), .ref (z 6), .int 0, .ref (z 7), .ref (z 8), .ref (z 9), .ref (z 10), .ref (z 11), .ref (z 12), .int 0, .ref (z 13), .ref (z 14), .int 0, .ref (z 15)])), (z 1, .inl (gI g, 461, .inl mD0))] H := hP
  have hD : va_D A [(z 0, .inr (12, [.ref (z 1), .ref (z 2), .int 0, .int 0, .ref (z 3), .ref (z 4), .ref (z 5), .ref (z 6), .int 0, .ref (z 7), .ref (z 8), .ref (z 9), .ref (z 10), .ref (z 11), .ref (z 12), .int 0, .ref (z 13), .ref (z 14), .int 0, .ref (z 15)])), (z 1, .inl (gI g, 461, .inl mD0))] := hD
  have hw_3 : r_1 = (-100001) := hw_3
  subst hw_3
  refine lv_aload_n hx hb dL_law_1169 rfl (lv_at hl 2 rfl) ?_
  refine lv_aload_n hx hb dL_law_1170 rfl (lv_at hl 0 rfl) ?_
  refine lv_iload_n hx hb dL_law_1171 rfl (lv_at hl 3 rfl) ?_
  refine lv_iconst (v := 1) hx hb dL_law_1172 (by decide) ?_
  refine lv_iadd hx hb dL_law_1173 ?_
  refine k_top (y := 1) (by decide) ?_
  refine va_sld hx hb hX hbl hbA hS (show ¬ _ by decide) dL_law_1174 ?_
  refine k_top (y := xs 1) rfl ?_
  refine lv_aload_n hx hb dL_law_1175 rfl (lv_at hl 0 rfl) ?_
  refine lv_iload_n hx hb dL_law_1176 rfl (lv_at hl 3 rfl) ?_
  refine lv_iconst (v := 2) hx hb dL_law_1177 (by decide) ?_
  refine lv_iadd hx hb dL_law_1178 ?_
  refine k_top (y := 2) (by decide) ?_
  refine va_sld hx hb hX hbl hbA hS (show ¬ _ by decide) dL_law_1179 ?_
  refine k_top (y := xs 2) rfl ?_
  refine lv_aload_n hx hb dL_law_1180 rfl (lv_at hl 0 rfl) ?_
  refine lv_iload_n hx hb dL_law_1181 rfl (lv_at hl 3 rfl) ?_
  refine lv_iconst (v := 3) hx hb dL_law_1182 (by decide) ?_
  refine lv_iadd hx hb dL_law_1183 ?_
  refine k_top (y := 3) (by decide) ?_
  refine va_sld hx hb hX hbl hbA hS (show ¬ _ by decide) dL_law_1184 ?_
  refine k_top (y := xs 3) rfl ?_
  refine k_Vi [0, 1] [] 0 12 (wr := []) hx hb hml hown hts hKW hP hD hS hA hl.1 (c_X12_places l g _ z (xs 1) (xs 2) (xs 3) ) rfl rfl rfl wd_43_13 wd_1_5 wd_43_10 wd_43_11 wd_43_12 yd_X12_places ⟨Nat.le_of_ble_eq_true rfl, Nat.le_of_ble_eq_true rfl⟩ rfl rfl rfl rfl rfl (by decide) rfl (Nat.le_of_ble_eq_true rfl) dL_law_1185 ⟨Nat.le_of_ble_eq_true rfl, Nat.le_of_ble_eq_true rfl⟩ (fun r_4 u_5 H locs hw_6 hP hD hS => ?_)
  have hP : va_P g.1 vwCl [] H := hP
  have hD : va_D A [] := hD
  have hw_6 : r_4 = (-100001) := hw_6
  subst hw_6
  refine lv_icmp_eq (tgt := 1506) hx hb dL_law_1188 (by decide) (fun _ => ?_) (fun c => absurd rfl c)
  exact law_tail l g hA hA2 hKW hts C0 rfl H locs (Nat.le_of_ble_eq_true rfl) (Nat.le_of_ble_eq_true rfl) hS ls (lv_sub hl [0, 3] rfl)
theorem dL_law_1193 : decode cL_law 1193 = .ok (.aload_n 1, 1) := by decide +kernel
theorem dL_law_1194 : decode cL_law 1194 = .ok (.aload_n 0, 1) := by decide +kernel
theorem dL_law_1195 : decode cL_law 1195 = .ok (.iload_n 3, 1) := by decide +kernel
theorem dL_law_1196 : decode cL_law 1196 = .ok (.iconst 1, 1) := by decide +kernel
theorem dL_law_1197 : decode cL_law 1197 = .ok (.iadd, 1) := by decide +kernel
theorem dL_law_1198 : decode cL_law 1198 = .ok (.iaload, 1) := by decide +kernel
theorem dL_law_1199 : decode cL_law 1199 = .ok (.invokevirtual 152, 3) := by decide +kernel
theorem dL_law_1202 : decode cL_law 1202 = .ok (.aload_n 2, 1) := by decide +kernel
theorem dL_law_1203 : decode cL_law 1203 = .ok (.aload_n 0, 1) := by decide +kernel
theorem dL_law_1204 : decode cL_law 1204 = .ok (.iload_n 3, 1) := by decide +kernel
theorem dL_law_1205 : decode cL_law 1205 = .ok (.iconst 1, 1) := by decide +kernel
theorem dL_law_1206 : decode cL_law 1206 = .ok (.iadd, 1) := by decide +kernel
theorem dL_law_1207 : decode cL_law 1207 = .ok (.iaload, 1) := by decide +kernel
theorem dL_law_1208 : decode cL_law 1208 = .ok (.invokevirtual 155, 3) := by decide +kernel
theorem dL_law_1211 : decode cL_law 1211 = .ok (.if_icmp .eq 295, 3) := by decide +kernel
set_option maxHeartbeats 4000000 in
set_option maxRecDepth 100000 in
theorem law_rate {p : Program} {e : Env} {s : State} {m : MethodId} {below : List Frame} {meth : Method} {c : Code} (l : Launch) (g : kG) {A : Nat → Prop} {b L : Nat} {xs : Nat → Int32} (hA : ∀ q : Nat, s.heap.size ≤ q → A q) (hA2 : ∀ q : Nat, A q → s.heap.size ≤ q) (hKW : kKW g s) (hts : ∀ w ∈ wsL_law, w.before #[Value.ref b] s = true) (C0 : lw_At p s m meth c b L xs) (hL6 : L = 6) (q z : Nat → Nat) (H : Heap) (locs : List Loc) (hP : va_P g.1 vwCl [(q 0, .inr (11, [.ref (q 1), .ref (q 29), .ref (q 31), .ref (q 34), .ref (q 38), .ref (q 40), .int 0])), (q 1, .inr (4, [.ref (q 2), .ref (q 6), .ref (q 9), .ref (q 18), .ref (q 22), .ref (q 26), .ref (q 28), .int 0, .int 0, .int 36, .int 10])), (q 2, .inr (8, [.int 0, .ref (q 3), .ref (q 4), .ref (q 5)])), (q 3, .inl (gI g, 5, .inl (fun _ => 0))), (q 4, .inl (gI g, 5, .inl (fun _ => 0))), (q 5, .inl (gI g, 5, .inl (fun _ => 0))), (q 6, .inr (1, [.int 0, .ref (q 7), .ref (q 8), .int 0])), (q 7, .inl (gI g, 7, .inl (fun _ => 0))), (q 8, .inl (gI g, 7, .inl (fun _ => 0))), (q 9, .inr (0, [.int 0, .ref (q 10), .ref (q 11), .ref (q 12), .ref (q 13), .ref (q 14), .ref (q 15), .ref (q 16), .int 0, .int 0, .int 0, .ref (q 17)])), (q 10, .inl (gI g, 10, .inl (fun _ => 0))), (q 11, .inl (gI g, 10, .inl (fun _ => 0))), (q 12, .inl (gI g, 10, .inl (fun _ => 0))), (q 13, .inl (gI g, 10, .inl (fun _ => 0))), (q 14, .inl (gI g, 10, .inl (fun _ => 0))), (q 15, .inl (gI g, 10, .inl (fun _ => 0))), (q 16, .inl (gI g, 10, .inl (fun _ => 0))), (q 17, .inl (gI g, 10, .inl (fun _ => 0))), (q 18, .inr (3, [.int 0, .ref (q 19), .ref (q 20), .ref (q 21)])), (q 19, .inl (gI g, 40, .inl (fun _ => 0))), (q 20, .inl (gI g, 40, .inl (fun _ => 0))), (q 21, .inl (gI g, 40, .inl (fun _ => 0))), (q 22, .inr (3, [.int 0, .ref (q 23), .ref (q 24), .ref (q 25)])), (q 23, .inl (gI g, 40, .inl (fun _ => 0))), (q 24, .inl (gI g, 40, .inl (fun _ => 0))), (q 25, .inl (gI g, 40, .inl (fun _ => 0))), (q 26, .inr (6, [.int 0, .int 0, .ref (q 27)])), (q 27, .inl (gI g, 14, .inl (fun _ => 0))), (q 28, .inl (gI g, 60, .inl (fun _ => 0))), (q 29, .inr (2, [.int 0, .int 0, .ref (q 30)])), (q 30, .inl (gN g, 16, .inr (.inr (.inr (.inr (fun _ => none)))))), (z 0, .inr (12, [.ref (z 1), .ref (z 2), .int 0, .int 0, .ref (z 3), .ref (z 4), .ref (z 5), .ref (z 6), .int 0, .ref (z 7), .ref (z 8), .ref (z 9), .ref (z 10), .ref (z 11), .ref (z 12), .int 0, .ref (z 13), .ref (z 14), .int 0, .ref (z 15)])), (z 1, .inl (gI g, 461, .inl mD0)), (z 2, .inl (gI g, 7376, .inl (fun _ => 0)))] H) (hD : va_D A [(q 0, .inr (11, [.ref (q 1), .ref (q 29), .ref (q 31), .ref (q 34), .ref (q 38), .ref (q 40), .int 0])), (q 1, .inr (4, [.ref (q 2), .ref (q 6), .ref (q 9), .ref (q 18), .ref (q 22), .ref (q 26), .ref (q 28), .int 0, .int 0, .int 36, .int 10])), (q 2, .inr (8, [.int 0, .ref (q 3), .ref (q 4), .ref (q 5)])), (q 3, .inl (gI g, 5, .inl (fun _ => 0))), (q 4, .inl (gI g, 5, .inl (fun _ => 0))), (q 5, .inl (gI g, 5, .inl (fun _ => 0))), (q 6, .inr (1, [.int 0, .ref (q 7), .ref (q 8), .int 0])), (q 7, .inl (gI g, 7, .inl (fun _ => 0))), (q 8, .inl (gI g, 7, .inl (fun _ => 0))), (q 9, .inr (0, [.int 0, .ref (q 10), .ref (q 11), .ref (q 12), .ref (q 13), .ref (q 14), .ref (q 15), .ref (q 16), .int 0, .int 0, .int 0, .ref (q 17)])), (q 10, .inl (gI g, 10, .inl (fun _ => 0))), (q 11, .inl (gI g, 10, .inl (fun _ => 0))), (q 12, .inl (gI g, 10, .inl (fun _ => 0))), (q 13, .inl (gI g, 10, .inl (fun _ => 0))), (q 14, .inl (gI g, 10, .inl (fun _ => 0))), (q 15, .inl (gI g, 10, .inl (fun _ => 0))), (q 16, .inl (gI g, 10, .inl (fun _ => 0))), (q 17, .inl (gI g, 10, .inl (fun _ => 0))), (q 18, .inr (3, [.int 0, .ref (q 19), .ref (q 20), .ref (q 21)])), (q 19, .inl (gI g, 40, .inl (fun _ => 0))), (q 20, .inl (gI g, 40, .inl (fun _ => 0))), (q 21, .inl (gI g, 40, .inl (fun _ => 0))), (q 22, .inr (3, [.int 0, .ref (q 23), .ref (q 24), .ref (q 25)])), (q 23, .inl (gI g, 40, .inl (fun _ => 0))), (q 24, .inl (gI g, 40, .inl (fun _ => 0))), (q 25, .inl (gI g, 40, .inl (fun _ => 0))), (q 26, .inr (6, [.int 0, .int 0, .ref (q 27)])), (q 27, .inl (gI g, 14, .inl (fun _ => 0))), (q 28, .inl (gI g, 60, .inl (fun _ => 0))), (q 29, .inr (2, [.int 0, .int 0, .ref (q 30)])), (q 30, .inl (gN g, 16, .inr (.inr (.inr (.inr (fun _ => none)))))), (z 0, .inr (12, [.ref (z 1), .ref (z 2), .int 0, .int 0, .ref (z 3), .ref (z 4), .ref (z 5), .ref (z 6), .int 0, .ref (z 7), .ref (z 8), .ref (z 9), .ref (z 10), .ref (z 11), .ref (z 12), .int 0, .ref (z 13), .ref (z 14), .int 0, .ref (z 15)])), (z 1, .inl (gI g, 461, .inl mD0)), (z 2, .inl (gI g, 7376, .inl (fun _ => 0)))]) (hS : va_S A s.heap H locs) (ls : Array Slot) (hl : lv_has ls 4 [(0, .ref b), (1, .ref (q 0)), (2, .ref (z 0)), (3, .int 0)]) : W p l e room_1 s m #[Value.ref b] below meth c H locs 65 9957 (lw_Z below #[Value.ref b] s) (F0 m 1193 ls []) := by
  subst hL6
  obtain ⟨hx, hb, hr, hml, hown, -, hX, hbl, hlk, hgv⟩ := id C0
  have hbA : ¬ A b := fun h => absurd (hA2 _ h) (Nat.not_le.mpr hbl)
  have hown : s.vm.findClass RL = some m.cls := hown
  refine lv_aload_n hx hb dL_law_1193 rfl (lv_at hl 1 rfl) ?_
  refine lv_aload_n hx hb dL_law_1194 rfl (lv_at hl 0 rfl) ?_
  refine lv_iload_n hx hb dL_law_1195 rfl (lv_at hl 3 rfl) ?_
  refine lv_iconst (v := 1) hx hb dL_law_1196 (by decide) ?_
  refine lv_iadd hx hb dL_law_1197 ?_
  refine k_top (y := 1) (by decide) ?_
  refine va_sld hx hb hX hbl hbA hS (show ¬ _ by decide) dL_law_1198 ?_
  refine k_top (y := xs 1) rfl ?_
  refine k_Vi [0, 1, 2, 3, 4, 5, 6, 7, 8, 9, 10, 11, 12, 13, 14, 15, 16, 17, 18, 19, 20, 21, 22, 23, 24, 25, 26, 27, 28, 29, 30] [31, 32, 33] 0 11 (wr := [(z 0, .inr (12, [.ref (z 1), .ref (z 2), .int 0, .int 0, .ref (z 3), .ref (z 4), .ref (z 5), .ref (z 6), .int 0, .ref (z 7), .ref (z 8), .ref (z 9), .ref (z 10), .ref (z 11), .ref (z 12), .int 0, .ref (z 13), .ref (z 14), .int 0, .ref (z 15)])), (z 1, .inl (gI g, 461, .inl mD0)), (z 2, .inl (gI g, 7376, .inl (fun _ => 0)))]) hx hb hml hown hts hKW hP hD hS hA hl.1 (c_X11_rate l g _ q (xs 1) ) rfl rfl rfl wd_43_17 wd_1_2 wd_43_14 wd_43_15 wd_43_16 yd_X11_rate ⟨Nat.le_of_ble_eq_true rfl, Nat.le_of_ble_eq_true rfl⟩ rfl rfl rfl rfl rfl (by decide) rfl (Nat.le_of_ble_eq_true rfl) dL_law_1199 ⟨Nat.le_of_ble_eq_true rfl, Nat.le_of_ble_eq_true rfl⟩ (fun r_1 u_2 H locs hw_3 hP hD hS => ?_)
  have hP : va_P g.1 vwCl [(z 0, .inr (12, [.ref (z 1), .ref (z 2), .int 0, .int 0, .ref (z 3), .ref (z 4), .ref (z 5), .ref (z 6), .int 0, .ref (z 7), .ref (z 8), .ref (z 9), .ref (z 10), .ref (z 11), .ref (z 12), .int 0, .ref (z 13), .ref (z 14), .int 0, .ref (z 15)])), (z 1, .inl (gI g, 461, .inl mD0)), (z 2, .inl (gI g, 7376, .inl (fun _ => 0)))] H := hP
  have hD : va_D A [(z 0, .inr (12, [.ref (z 1), .ref (z 2), .int 0, .int 0, .ref (z 3), .ref (z 4), .ref (z 5), .ref (z 6), .int 0, .ref (z 7), .ref (z 8), .ref (z 9), .ref (z 10), .ref (z 11), .ref (z 12), .int 0, .ref (z 13), .ref (z 14), .int 0, .ref (z 15)])), (z 1, .inl (gI g, 461, .inl mD0)), (z 2, .inl (gI g, 7376, .inl (fun _ => 0)))] := hD
  refine W.widen (k := 93) (n := 10422) (Nat.le_of_ble_eq_true rfl) (Nat.le_of_ble_eq_true rfl) ?_
  have hw_3 : r_1 = aR 1 99 10 (xs 1) := hw_3
  subst hw_3
  refine lv_aload_n hx hb dL_law_1202 rfl (lv_at hl 2 rfl) ?_
  refine lv_aload_n hx hb dL_law_1203 rfl (lv_at hl 0 rfl) ?_
  refine lv_iload_n hx hb dL_law_1204 rfl (lv_at hl 3 rfl) ?_
  refine lv_iconst (v := 1) hx hb dL_law_1205 (by decide) ?_
  refine lv_iadd hx hb dL_law_1206 ?_
  refine k_top (y := 1) (by decide) ?_
  refine va_sld hx hb hX hbl hbA hS (show ¬ _ by decide) dL_law_1207 ?_
  refine k_top (y := xs 1) rfl ?_
  refine k_Vi [0, 1, 2] [] 0 12 (wr := []) hx hb hml hown hts hKW hP hD hS hA hl.1 (c_X12_rate l g _ z (xs 1) ) rfl rfl rfl wd_43_22 wd_1_5 wd_43_19 wd_43_20 wd_43_21 yd_X12_rate ⟨Nat.le_of_ble_eq_true rfl, Nat.le_of_ble_eq_true rfl⟩ rfl rfl rfl rfl rfl (by decide) rfl (Nat.le_of_ble_eq_true rfl) dL_law_1208 ⟨Nat.le_of_ble_eq_true rfl, Nat.le_of_ble_eq_true rfl⟩ (fun r_4 u_5 H locs hw_6 hP hD hS => ?_)
  have hP : va_P g.1 vwCl [] H := hP
  have hD : va_D A [] := hD
  have hw_6 : r_4 = aR 1 99 10 (xs 1) := hw_6
  subst hw_6
  refine lv_icmp_eq (tgt := 1506) hx hb dL_law_1211 (by decide) (fun _ => ?_) (fun c => absurd rfl c)
  exact law_tail l g hA hA2 hKW hts C0 rfl H locs (Nat.le_of_ble_eq_true rfl) (Nat.le_of_ble_eq_true rfl) hS ls (lv_sub hl [0, 3] rfl)
theorem dL_law_1216 : decode cL_law 1216 = .ok (.aload_n 1, 1) := by decide +kernel
theorem dL_law_1217 : decode cL_law 1217 = .ok (.aload_n 0, 1) := by decide +kernel
theorem dL_law_1218 : decode cL_law 1218 = .ok (.iload_n 3, 1) := by decide +kernel
theorem dL_law_1219 : decode cL_law 1219 = .ok (.iconst 1, 1) := by decide +kernel
theorem dL_law_1220 : decode cL_law 1220 = .ok (.iadd, 1) := by decide +kernel
theorem dL_law_1221 : decode cL_law 1221 = .ok (.iaload, 1) := by decide +kernel
theorem dL_law_1222 : decode cL_law 1222 = .ok (.aload_n 0, 1) := by decide +kernel
theorem dL_law_1223 : decode cL_law 1223 = .ok (.iload_n 3, 1) := by decide +kernel
theorem dL_law_1224 : decode cL_law 1224 = .ok (.iconst 2, 1) := by decide +kernel
theorem dL_law_1225 : decode cL_law 1225 = .ok (.iadd, 1) := by decide +kernel
theorem dL_law_1226 : decode cL_law 1226 = .ok (.iaload, 1) := by decide +kernel
theorem dL_law_1227 : decode cL_law 1227 = .ok (.aload_n 0, 1) := by decide +kernel
theorem dL_law_1228 : decode cL_law 1228 = .ok (.iload_n 3, 1) := by decide +kernel
theorem dL_law_1229 : decode cL_law 1229 = .ok (.iconst 3, 1) := by decide +kernel
theorem dL_law_1230 : decode cL_law 1230 = .ok (.iadd, 1) := by decide +kernel
theorem dL_law_1231 : decode cL_law 1231 = .ok (.iaload, 1) := by decide +kernel
theorem dL_law_1232 : decode cL_law 1232 = .ok (.aload_n 0, 1) := by decide +kernel
theorem dL_law_1233 : decode cL_law 1233 = .ok (.iload_n 3, 1) := by decide +kernel
theorem dL_law_1234 : decode cL_law 1234 = .ok (.iconst 4, 1) := by decide +kernel
theorem dL_law_1235 : decode cL_law 1235 = .ok (.iadd, 1) := by decide +kernel
theorem dL_law_1236 : decode cL_law 1236 = .ok (.iaload, 1) := by decide +kernel
theorem dL_law_1237 : decode cL_law 1237 = .ok (.ifCond .eq 7, 3) := by decide +kernel
theorem dL_law_1244 : decode cL_law 1244 = .ok (.iconst 0, 1) := by decide +kernel
theorem dL_law_1245 : decode cL_law 1245 = .ok (.invokevirtual 156, 3) := by decide +kernel
theorem dL_law_1248 : decode cL_law 1248 = .ok (.aload_n 2, 1) := by decide +kernel
theorem dL_law_1249 : decode cL_law 1249 = .ok (.aload_n 0, 1) := by decide +kernel
theorem dL_law_1250 : decode cL_law 1250 = .ok (.iload_n 3, 1) := by decide +kernel
theorem dL_law_1251 : decode cL_law 1251 = .ok (.iconst 1, 1) := by decide +kernel
theorem dL_law_1252 : decode cL_law 1252 = .ok (.iadd, 1) := by decide +kernel
theorem dL_law_1253 : decode cL_law 1253 = .ok (.iaload, 1) := by decide +kernel
theorem dL_law_1254 : decode cL_law 1254 = .ok (.aload_n 0, 1) := by decide +kernel
theorem dL_law_1255 : decode cL_law 1255 = .ok (.iload_n 3, 1) := by decide +kernel
theorem dL_law_1256 : decode cL_law 1256 = .ok (.iconst 2, 1) := by decide +kernel
theorem dL_law_1257 : decode cL_law 1257 = .ok (.iadd, 1) := by decide +kernel
theorem dL_law_1258 : decode cL_law 1258 = .ok (.iaload, 1) := by decide +kernel
theorem dL_law_1259 : decode cL_law 1259 = .ok (.aload_n 0, 1) := by decide +kernel
theorem dL_law_1260 : decode cL_law 1260 = .ok (.iload_n 3, 1) := by decide +kernel
theorem dL_law_1261 : decode cL_law 1261 = .ok (.iconst 3, 1) := by decide +kernel
theorem dL_law_1262 : decode cL_law 1262 = .ok (.iadd, 1) := by decide +kernel
theorem dL_law_1263 : decode cL_law 1263 = .ok (.iaload, 1) := by decide +kernel
theorem dL_law_1264 : decode cL_law 1264 = .ok (.aload_n 0, 1) := by decide +kernel
theorem dL_law_1265 : decode cL_law 1265 = .ok (.iload_n 3, 1) := by decide +kernel
theorem dL_law_1266 : decode cL_law 1266 = .ok (.iconst 4, 1) := by decide +kernel
theorem dL_law_1267 : decode cL_law 1267 = .ok (.iadd, 1) := by decide +kernel
theorem dL_law_1268 : decode cL_law 1268 = .ok (.iaload, 1) := by decide +kernel
theorem dL_law_1269 : decode cL_law 1269 = .ok (.ifCond .eq 7, 3) := by decide +kernel
theorem dL_law_1276 : decode cL_law 1276 = .ok (.iconst 0, 1) := by decide +kernel
theorem dL_law_1277 : decode cL_law 1277 = .ok (.invokevirtual 160, 3) := by decide +kernel
theorem dL_law_1280 : decode cL_law 1280 = .ok (.if_icmp .eq 226, 3) := by decide +kernel
theorem dL_law_1272 : decode cL_law 1272 = .ok (.iconst 1, 1) := by decide +kernel
theorem dL_law_1273 : decode cL_law 1273 = .ok (.goto 4, 3) := by decide +kernel
theorem dL_law_1240 : decode cL_law 1240 = .ok (.iconst 1, 1) := by decide +kernel
theorem dL_law_1241 : decode cL_law 1241 = .ok (.goto 4, 3) := by decide +kernel
set_option maxHeartbeats 4000000 in
set_option maxRecDepth 100000 in
theorem law_bill {p : Program} {e : Env} {s : State} {m : MethodId} {below : List Frame} {meth : Method} {c : Code} (l : Launch) (g : kG) {A : Nat → Prop} {b L : Nat} {xs : Nat → Int32} (hA : ∀ q : Nat, s.heap.size ≤ q → A q) (hA2 : ∀ q : Nat, A q → s.heap.size ≤ q) (hKW : kKW g s) (hts : ∀ w ∈ wsL_law, w.before #[Value.ref b] s = true) (C0 : lw_At p s m meth c b L xs) (hL6 : L = 6) (q z : Nat → Nat) (H : Heap) (locs : List Loc) (hP : va_P g.1 vwCl [(q 0, .inr (11, [.ref (q 1), .ref (q 29), .ref (q 31), .ref (q 34), .ref (q 38), .ref (q 40), .int 0])), (q 1, .inr (4, [.ref (q 2), .ref (q 6), .ref (q 9), .ref (q 18), .ref (q 22), .ref (q 26), .ref (q 28), .int 0, .int 0, .int 36, .int 10])), (q 9, .inr (0, [.int 0, .ref (q 10), .ref (q 11), .ref (q 12), .ref (q 13), .ref (q 14), .ref (q 15), .ref (q 16), .int 0, .int 0, .int 0, .ref (q 17)])), (z 0, .inr (12, [.ref (z 1), .ref (z 2), .int 0, .int 0, .ref (z 3), .ref (z 4), .ref (z 5), .ref (z 6), .int 0, .ref (z 7), .ref (z 8), .ref (z 9), .ref (z 10), .ref (z 11), .ref (z 12), .int 0, .ref (z 13), .ref (z 14), .int 0, .ref (z 15)])), (z 1, .inl (gI g, 461, .inl mD0))] H) (hD : va_D A [(q 0, .inr (11, [.ref (q 1), .ref (q 29), .ref (q 31), .ref (q 34), .ref (q 38), .ref (q 40), .int 0])), (q 1, .inr (4, [.ref (q 2), .ref (q 6), .ref (q 9), .ref (q 18), .ref (q 22), .ref (q 26), .ref (q 28), .int 0, .int 0, .int 36, .int 10])), (q 9, .inr (0, [.int 0, .ref (q 10), .ref (q 11), .ref (q 12), .ref (q 13), .ref (q 14), .ref (q 15), .ref (q 16), .int 0, .int 0, .int 0, .ref (q 17)])), (z 0, .inr (12, [.ref (z 1), .ref (z 2), .int 0, .int 0, .ref (z 3), .ref (z 4), .ref (z 5), .ref (z 6), .int 0, .ref (z 7), .ref (z 8), .ref (z 9), .ref (z 10), .ref (z 11), .ref (z 12), .int 0, .ref (z 13), .ref (z 14), .int 0, .ref (z 15)])), (z 1, .inl (gI g, 461, .inl mD0))]) (hS : va_S A s.heap H locs) (ls : Array Slot) (hl : lv_has ls 4 [(0, .ref b), (1, .ref (q 0)), (2, .ref (z 0)), (3, .int 0)]) : W p l e room_1 s m #[Value.ref b] below meth c H locs 65 9957 (lw_Z below #[Value.ref b] s) (F0 m 1216 ls []) := by
  subst hL6
  obtain ⟨hx, hb, hr, hml, hown, -, hX, hbl, hlk, hgv⟩ := id C0
  have hbA : ¬ A b := fun h => absurd (hA2 _ h) (Nat.not_le.mpr hbl)
  have hown : s.vm.findClass RL = some m.cls := hown
  refine lv_aload_n hx hb dL_law_1216 rfl (lv_at hl 1 rfl) ?_
  refine lv_aload_n hx hb dL_law_1217 rfl (lv_at hl 0 rfl) ?_
  refine lv_iload_n hx hb dL_law_1218 rfl (lv_at hl 3 rfl) ?_
  refine lv_iconst (v := 1) hx hb dL_law_1219 (by decide) ?_
  refine lv_iadd hx hb dL_law_1220 ?_
  refine k_top (y := 1) (by decide) ?_
  refine va_sld hx hb hX hbl hbA hS (show ¬ _ by decide) dL_law_1221 ?_
  refine k_top (y := xs 1) rfl ?_
  refine lv_aload_n hx hb dL_law_1222 rfl (lv_at hl 0 rfl) ?_
  refine lv_iload_n hx hb dL_law_1223 rfl (lv_at hl 3 rfl) ?_
  refine lv_iconst (v := 2) hx hb dL_law_1224 (by decide) ?_
  refine lv_iadd hx hb dL_law_1225 ?_
  refine k_top (y := 2) (by decide) ?_
  refine va_sld hx hb hX hbl hbA hS (show ¬ _ by decide) dL_law_1226 ?_
  refine k_top (y := xs 2) rfl ?_
  refine lv_aload_n hx hb dL_law_1227 rfl (lv_at hl 0 rfl) ?_
  refine lv_iload_n hx hb dL_law_1228 rfl (lv_at hl 3 rfl) ?_
  refine lv_iconst (v := 3) hx hb dL_law_1229 (by decide) ?_
  refine lv_iadd hx hb dL_law_1230 ?_
  refine k_top (y := 3) (by decide) ?_
  refine va_sld hx hb hX hbl hbA hS (show ¬ _ by decide) dL_law_1231 ?_
  refine k_top (y := xs 3) rfl ?_
  refine lv_aload_n hx hb dL_law_1232 rfl (lv_at hl 0 rfl) ?_
  refine lv_iload_n hx hb dL_law_1233 rfl (lv_at hl 3 rfl) ?_
  refine lv_iconst (v := 4) hx hb dL_law_1234 (by decide) ?_
  refine lv_iadd hx hb dL_law_1235 ?_
  refine k_top (y := 4) (by decide) ?_
  refine va_sld hx hb hX hbl hbA hS (show ¬ _ by decide) dL_law_1236 ?_
  refine k_top (y := xs 4) rfl ?_
  refine lv_if_eq (tgt := 1244) hx hb dL_law_1237 (by decide) (fun c_1 => ?_) (fun c_1 => ?_)
  · refine lv_iconst (v := 0) hx hb dL_law_1244 (by decide) ?_
    refine k_Vi [0, 1, 2] [3, 4] 0 11 (wr := [(z 0, .inr (12, [.ref (z 1), .ref (z 2), .int 0, .int 0, .ref (z 3), .ref (z 4), .ref (z 5), .ref (z 6), .int 0, .ref (z 7), .ref (z 8), .ref (z 9), .ref (z 10), .ref (z 11), .ref (z 12), .int 0, .ref (z 13), .ref (z 14), .int 0, .ref (z 15)])), (z 1, .inl (gI g, 461, .inl mD0))]) hx hb hml hown hts hKW hP hD hS hA hl.1 (c_X11_bill l g _ q (xs 1) (xs 2) (xs 3) 0 ) rfl rfl rfl wd_44_2 wd_1_2 wd_43_23 wd_44_0 wd_44_1 yd_X11_bill ⟨Nat.le_of_ble_eq_true rfl, Nat.le_of_ble_eq_true rfl⟩ rfl rfl rfl rfl rfl (by decide) rfl (Nat.le_of_ble_eq_true rfl) dL_law_1245 ⟨Nat.le_of_ble_eq_true rfl, Nat.le_of_ble_eq_true rfl⟩ (fun r_2 u_3 H locs hw_4 hP hD hS => ?_)
    have hP : va_P g.1 vwCl [(z 0, .inr (12, [.ref (z 1), .ref (z 2), .int 0, .int 0, .ref (z 3), .ref (z 4), .ref (z 5), .ref (z 6), .int 0, .ref (z 7), .ref (z 8), .ref (z 9), .ref (z 10), .ref (z 11), .ref (z 12), .int 0, .ref (z 13), .ref (z 14), .int 0, .ref (z 15)])), (z 1, .inl (gI g, 461, .inl mD0))] H := hP
    have hD : va_D A [(z 0, .inr (12, [.ref (z 1), .ref (z 2), .int 0, .int 0, .ref (z 3), .ref (z 4), .ref (z 5), .ref (z 6), .int 0, .ref (z 7), .ref (z 8), .ref (z 9), .ref (z 10), .ref (z 11), .ref (z 12), .int 0, .ref (z 13), .ref (z 14), .int 0, .ref (z 15)])), (z 1, .inl (gI g, 461, .inl mD0))] := hD
    have hw_4 : r_2 = (-100001) := hw_4
    subst hw_4
    refine lv_aload_n hx hb dL_law_1248 rfl (lv_at hl 2 rfl) ?_
    refine lv_aload_n hx hb dL_law_1249 rfl (lv_at hl 0 rfl) ?_
    refine lv_iload_n hx hb dL_law_1250 rfl (lv_at hl 3 rfl) ?_
    refine lv_iconst (v := 1) hx hb dL_law_1251 (by decide) ?_
    refine lv_iadd hx hb dL_law_1252 ?_
    refine k_top (y := 1) (by decide) ?_
    refine va_sld hx hb hX hbl hbA hS (show ¬ _ by decide) dL_law_1253 ?_
    refine k_top (y := xs 1) rfl ?_
    refine lv_aload_n hx hb dL_law_1254 rfl (lv_at hl 0 rfl) ?_
    refine lv_iload_n hx hb dL_law_1255 rfl (lv_at hl 3 rfl) ?_
    refine lv_iconst (v := 2) hx hb dL_law_1256 (by decide) ?_
    refine lv_iadd hx hb dL_law_1257 ?_
    refine k_top (y := 2) (by decide) ?_
    refine va_sld hx hb hX hbl hbA hS (show ¬ _ by decide) dL_law_1258 ?_
    refine k_top (y := xs 2) rfl ?_
    refine lv_aload_n hx hb dL_law_1259 rfl (lv_at hl 0 rfl) ?_
    refine lv_iload_n hx hb dL_law_1260 rfl (lv_at hl 3 rfl) ?_
    refine lv_iconst (v := 3) hx hb dL_law_1261 (by decide) ?_
    refine lv_iadd hx hb dL_law_1262 ?_
    refine k_top (y := 3) (by decide) ?_
    refine va_sld hx hb hX hbl hbA hS (show ¬ _ by decide) dL_law_1263 ?_
    refine k_top (y := xs 3) rfl ?_
    refine lv_aload_n hx hb dL_law_1264 rfl (lv_at hl 0 rfl) ?_
    refine lv_iload_n hx hb dL_law_1265 rfl (lv_at hl 3 rfl) ?_
    refine lv_iconst (v := 4) hx hb dL_law_1266 (by decide) ?_
    refine lv_iadd hx hb dL_law_1267 ?_
    refine k_top (y := 4) (by decide) ?_
    refine va_sld hx hb hX hbl hbA hS (show ¬ _ by decide) dL_law_1268 ?_
    refine k_top (y := xs 4) rfl ?_
    refine lv_if_eq (tgt := 1276) hx hb dL_law_1269 (by decide) (fun c_5 => ?_) (fun c_5 => ?_)
    · refine lv_iconst (v := 0) hx hb dL_law_1276 (by decide) ?_
      refine k_Vi [0, 1] [] 0 12 (wr := []) hx hb hml hown hts hKW hP hD hS hA hl.1 (c_X12_bill l g _ z (xs 1) (xs 2) (xs 3) 0 ) rfl rfl rfl wd_44_11 wd_1_5 wd_44_8 wd_44_9 wd_44_10 yd_X12_bill ⟨Nat.le_of_ble_eq_true rfl, Nat.le_of_ble_eq_true rfl⟩ rfl rfl rfl rfl rfl (by decide) rfl (Nat.le_of_ble_eq_true rfl) dL_law_1277 ⟨Nat.le_of_ble_eq_true rfl, Nat.le_of_ble_eq_true rfl⟩ (fun r_6 u_7 H locs hw_8 hP hD hS => ?_)
      have hP : va_P g.1 vwCl [] H := hP
      have hD : va_D A [] := hD
      have hw_8 : r_6 = (-100001) := hw_8
      subst hw_8
      refine lv_icmp_eq (tgt := 1506) hx hb dL_law_1280 (by decide) (fun _ => ?_) (fun c => absurd rfl c)
      exact law_tail l g hA hA2 hKW hts C0 rfl H locs (Nat.le_of_ble_eq_true rfl) (Nat.le_of_ble_eq_true rfl) hS ls (lv_sub hl [0, 3] rfl)
    · refine lv_iconst (v := 1) hx hb dL_law_1272 (by decide) ?_
      refine lv_goto (tgt := 1277) hx hb dL_law_1273 (by decide) ?_
      refine k_Vi [0, 1] [] 0 12 (wr := []) hx hb hml hown hts hKW hP hD hS hA hl.1 (c_X12_bill l g _ z (xs 1) (xs 2) (xs 3) 1 ) rfl rfl rfl wd_44_11 wd_1_5 wd_44_8 wd_44_9 wd_44_10 yd_X12_bill ⟨Nat.le_of_ble_eq_true rfl, Nat.le_of_ble_eq_true rfl⟩ rfl rfl rfl rfl rfl (by decide) rfl (Nat.le_of_ble_eq_true rfl) dL_law_1277 ⟨Nat.le_of_ble_eq_true rfl, Nat.le_of_ble_eq_true rfl⟩ (fun r_9 u_10 H locs hw_11 hP hD hS => ?_)
      have hP : va_P g.1 vwCl [] H := hP
      have hD : va_D A [] := hD
      have hw_11 : r_9 = (-100001) := hw_11
      subst hw_11
      refine lv_icmp_eq (tgt := 1506) hx hb dL_law_1280 (by decide) (fun _ => ?_) (fun c => absurd rfl c)
      exact law_tail l g hA hA2 hKW hts C0 rfl H locs (Nat.le_of_ble_eq_true rfl) (Nat.le_of_ble_eq_true rfl) hS ls (lv_sub hl [0, 3] rfl)
  · refine lv_iconst (v := 1) hx hb dL_law_1240 (by decide) ?_
    refine lv_goto (tgt := 1245) hx hb dL_law_1241 (by decide) ?_
    refine k_Vi [0, 1, 2] [3, 4] 0 11 (wr := [(z 0, .inr (12, [.ref (z 1), .ref (z 2), .int 0, .int 0, .ref (z 3), .ref (z 4), .ref (z 5), .ref (z 6), .int 0, .ref (z 7), .ref (z 8), .ref (z 9), .ref (z 10), .ref (z 11), .ref (z 12), .int 0, .ref (z 13), .ref (z 14), .int 0, .ref (z 15)])), (z 1, .inl (gI g, 461, .inl mD0))]) hx hb hml hown hts hKW hP hD hS hA hl.1 (c_X11_bill l g _ q (xs 1) (xs 2) (xs 3) 1 ) rfl rfl rfl wd_44_2 wd_1_2 wd_43_23 wd_44_0 wd_44_1 yd_X11_bill ⟨Nat.le_of_ble_eq_true rfl, Nat.le_of_ble_eq_true rfl⟩ rfl rfl rfl rfl rfl (by decide) rfl (Nat.le_of_ble_eq_true rfl) dL_law_1245 ⟨Nat.le_of_ble_eq_true rfl, Nat.le_of_ble_eq_true rfl⟩ (fun r_12 u_13 H locs hw_14 hP hD hS => ?_)
    have hP : va_P g.1 vwCl [(z 0, .inr (12, [.ref (z 1), .ref (z 2), .int 0, .int 0, .ref (z 3), .ref (z 4), .ref (z 5), .ref (z 6), .int 0, .ref (z 7), .ref (z 8), .ref (z 9), .ref (z 10), .ref (z 11), .ref (z 12), .int 0, .ref (z 13), .ref (z 14), .int 0, .ref (z 15)])), (z 1, .inl (gI g, 461, .inl mD0))] H := hP
    have hD : va_D A [(z 0, .inr (12, [.ref (z 1), .ref (z 2), .int 0, .int 0, .ref (z 3), .ref (z 4), .ref (z 5), .ref (z 6), .int 0, .ref (z 7), .ref (z 8), .ref (z 9), .ref (z 10), .ref (z 11), .ref (z 12), .int 0, .ref (z 13), .ref (z 14), .int 0, .ref (z 15)])), (z 1, .inl (gI g, 461, .inl mD0))] := hD
    have hw_14 : r_12 = (-100001) := hw_14
    subst hw_14
    refine lv_aload_n hx hb dL_law_1248 rfl (lv_at hl 2 rfl) ?_
    refine lv_aload_n hx hb dL_law_1249 rfl (lv_at hl 0 rfl) ?_
    refine lv_iload_n hx hb dL_law_1250 rfl (lv_at hl 3 rfl) ?_
    refine lv_iconst (v := 1) hx hb dL_law_1251 (by decide) ?_
    refine lv_iadd hx hb dL_law_1252 ?_
    refine k_top (y := 1) (by decide) ?_
    refine va_sld hx hb hX hbl hbA hS (show ¬ _ by decide) dL_law_1253 ?_
    refine k_top (y := xs 1) rfl ?_
    refine lv_aload_n hx hb dL_law_1254 rfl (lv_at hl 0 rfl) ?_
    refine lv_iload_n hx hb dL_law_1255 rfl (lv_at hl 3 rfl) ?_
    refine lv_iconst (v := 2) hx hb dL_law_1256 (by decide) ?_
    refine lv_iadd hx hb dL_law_1257 ?_
    refine k_top (y := 2) (by decide) ?_
    refine va_sld hx hb hX hbl hbA hS (show ¬ _ by decide) dL_law_1258 ?_
    refine k_top (y := xs 2) rfl ?_
    refine lv_aload_n hx hb dL_law_1259 rfl (lv_at hl 0 rfl) ?_
    refine lv_iload_n hx hb dL_law_1260 rfl (lv_at hl 3 rfl) ?_
    refine lv_iconst (v := 3) hx hb dL_law_1261 (by decide) ?_
    refine lv_iadd hx hb dL_law_1262 ?_
    refine k_top (y := 3) (by decide) ?_
    refine va_sld hx hb hX hbl hbA hS (show ¬ _ by decide) dL_law_1263 ?_
    refine k_top (y := xs 3) rfl ?_
    refine lv_aload_n hx hb dL_law_1264 rfl (lv_at hl 0 rfl) ?_
    refine lv_iload_n hx hb dL_law_1265 rfl (lv_at hl 3 rfl) ?_
    refine lv_iconst (v := 4) hx hb dL_law_1266 (by decide) ?_
    refine lv_iadd hx hb dL_law_1267 ?_
    refine k_top (y := 4) (by decide) ?_
    refine va_sld hx hb hX hbl hbA hS (show ¬ _ by decide) dL_law_1268 ?_
    refine k_top (y := xs 4) rfl ?_
    refine lv_if_eq (tgt := 1276) hx hb dL_law_1269 (by decide) (fun c_15 => ?_) (fun c_15 => ?_)
    · refine lv_iconst (v := 0) hx hb dL_law_1276 (by decide) ?_
      refine k_Vi [0, 1] [] 0 12 (wr := []) hx hb hml hown hts hKW hP hD hS hA hl.1 (c_X12_bill l g _ z (xs 1) (xs 2) (xs 3) 0 ) rfl rfl rfl wd_44_11 wd_1_5 wd_44_8 wd_44_9 wd_44_10 yd_X12_bill ⟨Nat.le_of_ble_eq_true rfl, Nat.le_of_ble_eq_true rfl⟩ rfl rfl rfl rfl rfl (by decide) rfl (Nat.le_of_ble_eq_true rfl) dL_law_1277 ⟨Nat.le_of_ble_eq_true rfl, Nat.le_of_ble_eq_true rfl⟩ (fun r_16 u_17 H locs hw_18 hP hD hS => ?_)
      have hP : va_P g.1 vwCl [] H := hP
      have hD : va_D A [] := hD
      have hw_18 : r_16 = (-100001) := hw_18
      subst hw_18
      refine lv_icmp_eq (tgt := 1506) hx hb dL_law_1280 (by decide) (fun _ => ?_) (fun c => absurd rfl c)
      exact law_tail l g hA hA2 hKW hts C0 rfl H locs (Nat.le_of_ble_eq_true rfl) (Nat.le_of_ble_eq_true rfl) hS ls (lv_sub hl [0, 3] rfl)
    · refine lv_iconst (v := 1) hx hb dL_law_1272 (by decide) ?_
      refine lv_goto (tgt := 1277) hx hb dL_law_1273 (by decide) ?_
      refine k_Vi [0, 1] [] 0 12 (wr := []) hx hb hml hown hts hKW hP hD hS hA hl.1 (c_X12_bill l g _ z (xs 1) (xs 2) (xs 3) 1 ) rfl rfl rfl wd_44_11 wd_1_5 wd_44_8 wd_44_9 wd_44_10 yd_X12_bill ⟨Nat.le_of_ble_eq_true rfl, Nat.le_of_ble_eq_true rfl⟩ rfl rfl rfl rfl rfl (by decide) rfl (Nat.le_of_ble_eq_true rfl) dL_law_1277 ⟨Nat.le_of_ble_eq_true rfl, Nat.le_of_ble_eq_true rfl⟩ (fun r_19 u_20 H locs hw_21 hP hD hS => ?_)
      have hP : va_P g.1 vwCl [] H := hP
      have hD : va_D A [] := hD
      have hw_21 : r_19 = (-100001) := hw_21
      subst hw_21
      refine lv_icmp_eq (tgt := 1506) hx hb dL_law_1280 (by decide) (fun _ => ?_) (fun c => absurd rfl c)
      exact law_tail l g hA hA2 hKW hts C0 rfl H locs (Nat.le_of_ble_eq_true rfl) (Nat.le_of_ble_eq_true rfl) hS ls (lv_sub hl [0, 3] rfl)
