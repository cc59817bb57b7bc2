theorem dL_law_674 : decode cL_law 674 = .ok (.aload_n 1, 1) := by decide +kernel
theorem dL_law_675 : decode cL_law 675 = .ok (.aload_n 0, 1) := by decide +kernel
theorem dL_law_676 : decode cL_law 676 = .ok (.iload_n 3, 1) := by decide +kernel
theorem dL_law_677 : decode cL_law 677 = .ok (.iconst 1, 1) := by decide +kernel
theorem dL_law_678 : decode cL_law 678 = .ok (.iadd, 1) := by decide +kernel
theorem dL_law_679 : decode cL_law 679 = .ok (.iaload, 1) := by decide +kernel
theorem dL_law_680 : decode cL_law 680 = .ok (.invokevirtual 74, 3) := by decide +kernel
theorem dL_law_683 : decode cL_law 683 = .ok (.aload_n 2, 1) := by decide +kernel
theorem dL_law_684 : decode cL_law 684 = .ok (.aload_n 0, 1) := by decide +kernel
theorem dL_law_685 : decode cL_law 685 = .ok (.iload_n 3, 1) := by decide +kernel
theorem dL_law_686 : decode cL_law 686 = .ok (.iconst 1, 1) := by decide +kernel
theorem dL_law_687 : decode cL_law 687 = .ok (.iadd, 1) := by decide +kernel
theorem dL_law_688 : decode cL_law 688 = .ok (.iaload, 1) := by decide +kernel
theorem dL_law_689 : decode cL_law 689 = .ok (.invokevirtual 77, 3) := by decide +kernel
theorem dL_law_692 : decode cL_law 692 = .ok (.if_icmp .eq 814, 3) := by decide +kernel
set_option maxHeartbeats 4000000 in
set_option maxRecDepth 100000 in
theorem law_ill {p : Program} {e : Env} {s : State} {m : MethodId} {below : List Frame} {meth : Method} {c : Code} (l : Launch) (g : kG) {A : Nat → Prop} {b L : Nat} {xs : Nat → Int32} (hA : ∀ q : Nat, s.heap.size ≤ q → A q) (hA2 : ∀ q : Nat, A q → s.heap.size ≤ q) (hKW : kKW g s) (hts : ∀ w ∈ wsL_law, w.before #[Value.ref b] s = true) (C0 : lw_At p s m meth c b L xs) (hL6 : L = 6) (q z : Nat → Nat) (H : Heap) (locs : List Loc) (hP : va_P g.1 vwCl [(q 0, .inr (11, [.ref (q 1), .ref (q 29), .ref (q 31), .ref (q 34), .ref (q 38), .ref (q 40), .int 0])), (q 1, .inr (4, [.ref (q 2), .ref (q 6), .ref (q 9), .ref (q 18), .ref (q 22), .ref (q 26), .ref (q 28), .int 0, .int 0, .int 36, .int 10])), (q 6, .inr (1, [.int 0, .ref (q 7), .ref (q 8), .int 0])), (z 0, .inr (12, [.ref (z 1), .ref (z 2), .int 0, .int 0, .ref (z 3), .ref (z 4), .ref (z 5), .ref (z 6), .int 0, .ref (z 7), .ref (z 8), .ref (z 9), .ref (z 10), .ref (z 11), .ref (z 12), .int 0, .ref (z 13), .ref (z 14), .int 0, .ref (z 15)])), (z 1, .inl (gI g, 461, .inl mD0))] H) (hD : va_D A [(q 0, .inr (11, [.ref (q 1), .ref (q 29), .ref (q 31), .ref (q 34), .ref (q 38), .ref (q 40), .int 0])), (q 1, .inr (4, [.ref (q 2), .ref (q 6), .ref (q 9), .ref (q 18), .ref (q 22), .ref (q 26), .ref (q 28), .int 0, .int 0, .int 36, .int 10])), (q 6, .inr (1, [.int 0, .ref (q 7), .ref (q 8), .int 0])), (z 0, .inr (12, [.ref (z 1), .ref (z 2), .int 0, .int 0, .ref (z 3), .ref (z 4), .ref (z 5), .ref (z 6), .int 0, .ref (z 7), .ref (z 8), .ref (z 9), .ref (z 10), .ref (z 11), .ref (z 12), .int 0, .ref (z 13), .ref (z 14), .int 0, .ref (z 15)])), (z 1, .inl (gI g, 461, .inl mD0))]) (hS : va_S A s.heap H locs) (ls : Array Slot) (hl : lv_has ls 4 [(0, .ref b), (1, .ref (q 0)), (2, .ref (z 0)), (3, .int 0)]) : W p l e room_1 s m #[Value.ref b] below meth c H locs 65 9957 (lw_Z below #[Value.ref b] s) (F0 m 674 ls []) := by
  subst hL6
  obtain ⟨hx, hb, hr, hml, hown, -, hX, hbl, hlk, hgv⟩ := id C0
  have hbA : ¬ A b := fun h => absurd (hA2 _ h) (Nat.not_le.mpr hbl)
  have hown : s.vm.findClass RL = some m.cls := hown
  refine lv_aload_n hx hb dL_law_674 rfl (lv_at hl 1 rfl) ?_
  refine lv_aload_n hx hb dL_law_675 rfl (lv_at hl 0 rfl) ?_
  refine lv_iload_n hx hb dL_law_676 rfl (lv_at hl 3 rfl) ?_
  refine lv_iconst (v := 1) hx hb dL_law_677 (by decide) ?_
  refine lv_iadd hx hb dL_law_678 ?_
  refine k_top (y := 1) (by decide) ?_
  refine va_sld hx hb hX hbl hbA hS (show ¬ _ by decide) dL_law_679 ?_
  refine k_top (y := xs 1) rfl ?_
  refine k_Vi [0, 1, 2] [3, 4] 0 11 (wr := [(z 0, .inr (12, [.ref (z 1), .ref (z 2), .int 0, .int 0, .ref (z 3), .ref (z 4), .ref (z 5), .ref (z 6), .int 0, .ref (z 7), .ref (z 8), .ref (z 9), .ref (z 10), .ref (z 11), .ref (z 12), .int 0, .ref (z 13), .ref (z 14), .int 0, .ref (z 15)])), (z 1, .inl (gI g, 461, .inl mD0))]) hx hb hml hown hts hKW hP hD hS hA hl.1 (c_X11_ill l g _ q (xs 1) ) rfl rfl rfl wd_23_2 wd_1_2 wd_22_23 wd_23_0 wd_23_1 yd_X11_ill ⟨Nat.le_of_ble_eq_true rfl, Nat.le_of_ble_eq_true rfl⟩ rfl rfl rfl rfl rfl (by decide) rfl (Nat.le_of_ble_eq_true rfl) dL_law_680 ⟨Nat.le_of_ble_eq_true rfl, Nat.le_of_ble_eq_true rfl⟩ (fun r_1 u_2 H locs hw_3 hP hD hS => ?_)
  have hP : va_P g.1 vwCl [(z 0, .inr (12, [.ref (z 1), .ref (z 2), .int 0, .int 0, .ref (z 3), .ref (z 4), .ref (z 5), .ref (z 6), .int 0, .ref (z 7), .ref (z 8), .ref (z 9), .ref (z 10), .ref (z 11), .ref (z 12), .int 0, .ref (z 13), .ref (z 14), .int 0, .ref (z 15)])), (z 1, .inl (gI g, 461, .inl mD0))] H := hP
  have hD : va_D A [(z 0, .inr (12, [.ref (z 1), .ref (z 2), .int 0, .int 0, .ref (z 3), .ref (z 4), .ref (z 5), .ref (z 6), .int 0, .ref (z 7), .ref (z 8), .ref (z 9), .ref (z 10), .ref (z 11), .ref (z 12), .int 0, .ref (z 13), .ref (z 14), .int 0, .ref (z 15)])), (z 1, .inl (gI g, 461, .inl mD0))] := hD
  have hw_3 : r_1 = (-100001) := hw_3
  subst hw_3
  refine lv_aload_n hx hb dL_law_683 rfl (lv_at hl 2 rfl) ?_
  refine lv_aload_n hx hb dL_law_684 rfl (lv_at hl 0 rfl) ?_
  refine lv_iload_n hx hb dL_law_685 rfl (lv_at hl 3 rfl) ?_
  refine lv_iconst (v := 1) hx hb dL_law_686 (by decide) ?_
  refine lv_iadd hx hb dL_law_687 ?_
  refine k_top (y := 1) (by decide) ?_
  refine va_sld hx hb hX hbl hbA hS (show ¬ _ by decide) dL_law_688 ?_
  refine k_top (y := xs 1) rfl ?_
  refine k_Vi [0, 1] [] 0 12 (wr := []) hx hb hml hown hts hKW hP hD hS hA hl.1 (c_X12_ill l g _ z (xs 1) ) rfl rfl rfl wd_23_6 wd_1_5 wd_23_3 wd_23_4 wd_23_5 yd_X12_ill ⟨Nat.le_of_ble_eq_true rfl, Nat.le_of_ble_eq_true rfl⟩ rfl rfl rfl rfl rfl (by decide) rfl (Nat.le_of_ble_eq_true rfl) dL_law_689 ⟨Nat.le_of_ble_eq_true rfl, Nat.le_of_ble_eq_true rfl⟩ (fun r_4 u_5 H locs hw_6 hP hD hS => ?_)
  have hP : va_P g.1 vwCl [] H := hP
  have hD : va_D A [] := hD
  have hw_6 : r_4 = (-100001) := hw_6
  subst hw_6
  refine lv_icmp_eq (tgt := 1506) hx hb dL_law_692 (by decide) (fun _ => ?_) (fun c => absurd rfl c)
  exact law_tail l g hA hA2 hKW hts C0 rfl H locs (Nat.le_of_ble_eq_true rfl) (Nat.le_of_ble_eq_true rfl) hS ls (lv_sub hl [0, 3] rfl)
theorem dL_law_697 : decode cL_law 697 = .ok (.aload_n 1, 1) := by decide +kernel
theorem dL_law_698 : decode cL_law 698 = .ok (.aload_n 0, 1) := by decide +kernel
theorem dL_law_699 : decode cL_law 699 = .ok (.iload_n 3, 1) := by decide +kernel
theorem dL_law_700 : decode cL_law 700 = .ok (.iconst 1, 1) := by decide +kernel
theorem dL_law_701 : decode cL_law 701 = .ok (.iadd, 1) := by decide +kernel
theorem dL_law_702 : decode cL_law 702 = .ok (.iaload, 1) := by decide +kernel
theorem dL_law_703 : decode cL_law 703 = .ok (.aload_n 0, 1) := by decide +kernel
theorem dL_law_704 : decode cL_law 704 = .ok (.iload_n 3, 1) := by decide +kernel
theorem dL_law_705 : decode cL_law 705 = .ok (.iconst 2, 1) := by decide +kernel
theorem dL_law_706 : decode cL_law 706 = .ok (.iadd, 1) := by decide +kernel
theorem dL_law_707 : decode cL_law 707 = .ok (.iaload, 1) := by decide +kernel
theorem dL_law_708 : decode cL_law 708 = .ok (.invokevirtual 78, 3) := by decide +kernel
theorem dL_law_711 : decode cL_law 711 = .ok (.aload_n 2, 1) := by decide +kernel
theorem dL_law_712 : decode cL_law 712 = .ok (.aload_n 0, 1) := by decide +kernel
theorem dL_law_713 : decode cL_law 713 = .ok (.iload_n 3, 1) := by decide +kernel
theorem dL_law_714 : decode cL_law 714 = .ok (.iconst 1, 1) := by decide +kernel
theorem dL_law_715 : decode cL_law 715 = .ok (.iadd, 1) := by decide +kernel
theorem dL_law_716 : decode cL_law 716 = .ok (.iaload, 1) := by decide +kernel
theorem dL_law_717 : decode cL_law 717 = .ok (.aload_n 0, 1) := by decide +kernel
theorem dL_law_718 : decode cL_law 718 = .ok (.iload_n 3, 1) := by decide +kernel
theorem dL_law_719 : decode cL_law 719 = .ok (.iconst 2, 1) := by decide +kernel
theorem dL_law_720 : decode cL_law 720 = .ok (.iadd, 1) := by decide +kernel
theorem dL_law_721 : decode cL_law 721 = .ok (.iaload, 1) := by decide +kernel
theorem dL_law_722 : decode cL_law 722 = .ok (.invokevirtual 81, 3) := by decide +kernel
theorem dL_law_725 : decode cL_law 725 = .ok (.if_icmp .eq 781, 3) := by decide +kernel
set_option maxHeartbeats 4000000 in
set_option maxRecDepth 100000 in
theorem law_now {p : Program} {e : Env} {s : State} {m : MethodId} {below : List Frame} {meth : Method} {c : Code} (l : Launch) (g : kG) {A : Nat → Prop} {b L : Nat} {xs : Nat → Int32} (hA : ∀ q : Nat, s.heap.size ≤ q → A q) (hA2 : ∀ q : Nat, A q → s.heap.size ≤ q) (hKW : kKW g s) (hts : ∀ w ∈ wsL_law, w.before #[Value.ref b] s = true) (C0 : lw_At p s m meth c b L xs) (hL6 : L = 6) (q z : Nat → Nat) (H : Heap) (locs : List Loc) (hP : va_P g.1 vwCl [(q 0, .inr (11, [.ref (q 1), .ref (q 29), .ref (q 31), .ref (q 34), .ref (q 38), .ref (q 40), .int 0])), (q 1, .inr (4, [.ref (q 2), .ref (q 6), .ref (q 9), .ref (q 18), .ref (q 22), .ref (q 26), .ref (q 28), .int 0, .int 0, .int 36, .int 10])), (q 2, .inr (8, [.int 0, .ref (q 3), .ref (q 4), .ref (q 5)])), (z 0, .inr (12, [.ref (z 1), .ref (z 2), .int 0, .int 0, .ref (z 3), .ref (z 4), .ref (z 5), .ref (z 6), .int 0, .ref (z 7), .ref (z 8), .ref (z 9), .ref (z 10), .ref (z 11), .ref (z 12), .int 0, .ref (z 13), .ref (z 14), .int 0, .ref (z 15)])), (z 1, .inl (gI g, 461, .inl mD0))] H) (hD : va_D A [(q 0, .inr (11, [.ref (q 1), .ref (q 29), .ref (q 31), .ref (q 34), .ref (q 38), .ref (q 40), .int 0])), (q 1, .inr (4, [.ref (q 2), .ref (q 6), .ref (q 9), .ref (q 18), .ref (q 22), .ref (q 26), .ref (q 28), .int 0, .int 0, .int 36, .int 10])), (q 2, .inr (8, [.int 0, .ref (q 3), .ref (q 4), .ref (q 5)])), (z 0, .inr (12, [.ref (z 1), .ref (z 2), .int 0, .int 0, .ref (z 3), .ref (z 4), .ref (z 5), .ref (z 6), .int 0, .ref (z 7), .ref (z 8), .ref (z 9), .ref (z 10), .ref (z 11), .ref (z 12), .int 0, .ref (z 13), .ref (z 14), .int 0, .ref (z 15)])), (z 1, .inl (gI g, 461, .inl mD0))]) (hS : va_S A s.heap H locs) (ls : Array Slot) (hl : lv_has ls 4 [(0, .ref b), (1, .ref (q 0)), (2, .ref (z 0)), (3, .int 0)]) : W p l e room_1 s m #[Value.ref b] below meth c H locs 65 9957 (lw_Z below #[Value.ref b] s) (F0 m 697 ls []) := by
  subst hL6
  obtain ⟨hx, hb, hr, hml, hown, -, hX, hbl, hlk, hgv⟩ := id C0
  have hbA : ¬ A b := fun h => absurd (hA2 _ h) (Nat.not_le.mpr hbl)
  have hown : s.vm.findClass RL = some m.cls := hown
  refine lv_aload_n hx hb dL_law_697 rfl (lv_at hl 1 rfl) ?_
  refine lv_aload_n hx hb dL_law_698 rfl (lv_at hl 0 rfl) ?_
  refine lv_iload_n hx hb dL_law_699 rfl (lv_at hl 3 rfl) ?_
  refine lv_iconst (v := 1) hx hb dL_law_700 (by decide) ?_
  refine lv_iadd hx hb dL_law_701 ?_
  refine k_top (y := 1) (by decide) ?_
  refine va_sld hx hb hX hbl hbA hS (show ¬ _ by decide) dL_law_702 ?_
  refine k_top (y := xs 1) rfl ?_
  refine lv_aload_n hx hb dL_law_703 rfl (lv_at hl 0 rfl) ?_
  refine lv_iload_n hx hb dL_law_704 rfl (lv_at hl 3 rfl) ?_
  refine lv_iconst (v := 2) hx hb dL_law_705 (by decide) ?_
  refine lv_iadd hx hb dL_law_706 ?_
  refine k_top (y := 2) (by decide) ?_
  refine va_sld hx hb hX hbl hbA hS (show ¬ _ by decide) dL_law_707 ?_
  refine k_top (y := xs 2) rfl ?_
  refine k_Vi [0, 1, 2] [3, 4] 0 11 (wr := [(z 0, .inr (12, [.ref (z 1), .ref (z 2), .int 0, .int 0, .ref (z 3), .ref (z 4), .ref (z 5), .ref (z 6), .int 0, .ref (z 7), .ref (z 8), .ref (z 9), .ref (z 10), .ref (z 11), .ref (z 12), .int 0, .ref (z 13), .ref (z 14), .int 0, .ref (z 15)])), (z 1, .inl (gI g, 461, .inl mD0))]) hx hb hml hown hts hKW hP hD hS hA hl.1 (c_X11_now l g _ q (xs 1) (xs 2) ) rfl rfl rfl wd_23_10 wd_1_2 wd_23_7 wd_23_8 wd_23_9 yd_X11_now ⟨Nat.le_of_ble_eq_true rfl, Nat.le_of_ble_eq_true rfl⟩ rfl rfl rfl rfl rfl (by decide) rfl (Nat.le_of_ble_eq_true rfl) dL_law_708 ⟨Nat.le_of_ble_eq_true rfl, Nat.le_of_ble_eq_true rfl⟩ (fun r_1 u_2 H locs hw_3 hP hD hS => ?_)
  have hP : va_P g.1 vwCl [(z 0, .inr (12, [.ref (z 1), .ref (z 2), .int 0, .int 0, .ref (z 3), .ref (z 4), .ref (z 5), .ref (z 6), .int 0, .ref (z 7), .ref (z 8), .ref (z 9), .ref (z 10), .ref (z 11), .ref (z 12), .int 0, .ref (z 13), .ref (z 14), .int 0, .ref (z 15)])), (z 1, .inl (gI g, 461, .inl mD0))] H := hP
  have hD : va_D A [(z 0, .inr (12, [.ref (z 1), .ref (z 2), .int 0, .int 0, .ref (z 3), .ref (z 4), .ref (z 5), .ref (z 6), .int 0, .ref (z 7), .ref (z 8), .ref (z 9), .ref (z 10), .ref (z 11), .ref (z 12), .int 0, .ref (z 13), .ref (z 14), .int 0, .ref (z 15)])), (z 1, .inl (gI g, 461, .inl mD0))] := hD
  have hw_3 : r_1 = (-100001) := hw_3
  subst hw_3
  refine lv_aload_n hx hb dL_law_711 rfl (lv_at hl 2 rfl) ?_
  refine lv_aload_n hx hb dL_law_712 rfl (lv_at hl 0 rfl) ?_
  refine lv_iload_n hx hb dL_law_713 rfl (lv_at hl 3 rfl) ?_
  refine lv_iconst (v := 1) hx hb dL_law_714 (by decide) ?_
  refine lv_iadd hx hb dL_law_715 ?_
  refine k_top (y := 1) (by decide) ?_
  refine va_sld hx hb hX hbl hbA hS (show ¬ _ by decide) dL_law_716 ?_
  refine k_top (y := xs 1) rfl ?_
  refine lv_aload_n hx hb dL_law_717 rfl (lv_at hl 0 rfl) ?_
  refine lv_iload_n hx hb dL_law_718 rfl (lv_at hl 3 rfl) ?_
  refine lv_iconst (v := 2) hx hb dL_law_719 (by decide) ?_
  refine lv_iadd hx hb dL_law_720 ?_
  refine k_top (y := 2) (by decide) ?_
  refine va_sld hx hb hX hbl hbA hS (show ¬ _ by decide) dL_law_721 ?_
  refine k_top (y := xs 2) rfl ?_
  refine k_Vi [0, 1] [] 0 12 (wr := []) hx hb hml hown hts hKW hP hD hS hA hl.1 (c_X12_now l g _ z (xs 1) (xs 2) ) rfl rfl rfl wd_26_18 wd_1_5 wd_26_15 wd_26_16 wd_26_17 yd_X12_now ⟨Nat.le_of_ble_eq_true rfl, Nat.le_of_ble_eq_true rfl⟩ rfl rfl rfl rfl rfl (by decide) rfl (Nat.le_of_ble_eq_true rfl) dL_law_722 ⟨Nat.le_of_ble_eq_true rfl, Nat.le_of_ble_eq_true rfl⟩ (fun r_4 u_5 H locs hw_6 hP hD hS => ?_)
  have hP : va_P g.1 vwCl [] H := hP
  have hD : va_D A [] := hD
  have hw_6 : r_4 = (-100001) := hw_6
  subst hw_6
  refine lv_icmp_eq (tgt := 1506) hx hb dL_law_725 (by decide) (fun _ => ?_) (fun c => absurd rfl c)
  exact law_tail l g hA hA2 hKW hts C0 rfl H locs (Nat.le_of_ble_eq_true rfl) (Nat.le_of_ble_eq_true rfl) hS ls (lv_sub hl [0, 3] rfl)
theorem dL_law_730 : decode cL_law 730 = .ok (.aload_n 1, 1) := by decide +kernel
theorem dL_law_731 : decode cL_law 731 = .ok (.invokevirtual 82, 3) := by decide +kernel
theorem dL_law_734 : decode cL_law 734 = .ok (.aload_n 2, 1) := by decide +kernel
theorem dL_law_735 : decode cL_law 735 = .ok (.invokevirtual 85, 3) := by decide +kernel
theorem dL_law_738 : decode cL_law 738 = .ok (.if_icmp .eq 768, 3) := by decide +kernel
set_option maxHeartbeats 4000000 in
set_option maxRecDepth 100000 in
theorem law_lacking {p : Program} {e : Env} {s : State} {m : MethodId} {below : List Frame} {meth : Method} {c : Code} (l : Launch) (g : kG) {A : Nat → Prop} {b L : Nat} {xs : Nat → Int32} (hA : ∀ q : Nat, s.heap.size ≤ q → A q) (hA2 : ∀ q : Nat, A q → s.heap.size ≤ q) (hKW : kKW g s) (hts : ∀ w ∈ wsL_law, w.before #[Value.ref b] s = true) (C0 : lw_At p s m meth c b L xs) (hL6 : L = 6) (q z : Nat → Nat) (H : Heap) (locs : List Loc) (hP : va_P g.1 vwCl [(q 0, .inr (11, [.ref (q 1), .ref (q 29), .ref (q 31), .ref (q 34), .ref (q 38), .ref (q 40), .int 0])), (q 1, .inr (4, [.ref (q 2), .ref (q 6), .ref (q 9), .ref (q 18), .ref (q 22), .ref (q 26), .ref (q 28), .int 0, .int 0, .int 36, .int 10])), (q 2, .inr (8, [.int 0, .ref (q 3), .ref (q 4), .ref (q 5)])), (z 0, .inr (12, [.ref (z 1), .ref (z 2), .int 0, .int 0, .ref (z 3), .ref (z 4), .ref (z 5), .ref (z 6), .int 0, .ref (z 7), .ref (z 8), .ref (z 9), .ref (z 10), .ref (z 11), .ref (z 12), .int 0, .ref (z 13), .ref (z 14), .int 0, .ref (z 15)])), (z 1, .inl (gI g, 461, .inl mD0))] H) (hD : va_D A [(q 0, .inr (11, [.ref (q 1), .ref (q 29), .ref (q 31), .ref (q 34), .ref (q 38), .ref (q 40), .int 0])), (q 1, .inr (4, [.ref (q 2), .ref (q 6), .ref (q 9), .ref (q 18), .ref (q 22), .ref (q 26), .ref (q 28), .int 0, .int 0, .int 36, .int 10])), (q 2, .inr (8, [.int 0, .ref (q 3), .ref (q 4), .ref (q 5)])), (z 0, .inr (12, [.ref (z 1), .ref (z 2), .int 0, .int 0, .ref (z 3), .ref (z 4), .ref (z 5), .ref (z 6), .int 0, .ref (z 7), .ref (z 8), .ref (z 9), .ref (z 10), .ref (z 11), .ref (z 12), .int 0, .ref (z 13), .ref (z 14), .int 0, .ref (z 15)])), (z 1, .inl (gI g, 461, .inl mD0))]) (hS : va_S A s.heap H locs) (ls : Array Slot) (hl : lv_has ls 4 [(0, .ref b), (1, .ref (q 0)), (2, .ref (z 0)), (3, .int 0)]) : W p l e room_1 s m #[Value.ref b] below meth c H locs 65 9957 (lw_Z below #[Value.ref b] s) (F0 m 730 ls []) := by
  subst hL6
  obtain ⟨hx, hb, hr, hml, hown, -, hX, hbl, hlk, hgv⟩ := id C0
  have hbA : ¬ A b := fun h => absurd (hA2 _ h) (Nat.not_le.mpr hbl)
  have hown : s.vm.findClass RL = some m.cls := hown
  refine lv_aload_n hx hb dL_law_730 rfl (lv_at hl 1 rfl) ?_
  refine k_Vi [0, 1, 2] [3, 4] 0 11 (wr := [(z 0, .inr (12, [.ref (z 1), .ref (z 2), .int 0, .int 0, .ref (z 3), .ref (z 4), .ref (z 5), .ref (z 6), .int 0, .ref (z 7), .ref (z 8), .ref (z 9), .ref (z 10), .ref (z 11), .ref (z 12), .int 0, .ref (z 13), .ref (z 14), .int 0, .ref (z 15)])), (z 1, .inl (gI g, 461, .inl mD0))]) hx hb hml hown hts hKW hP hD hS hA hl.1 (c_X11_lacking l g _ q ) rfl rfl rfl wd_28_6 wd_1_2 wd_28_3 wd_28_4 wd_28_5 yd_X11_lacking ⟨Nat.le_of_ble_eq_true rfl, Nat.le_of_ble_eq_true rfl⟩ rfl rfl rfl rfl rfl (by decide) rfl (Nat.le_of_ble_eq_true rfl) dL_law_731 ⟨Nat.le_of_ble_eq_true rfl, Nat.le_of_ble_eq_true rfl⟩ (fun r_1 u_2 H locs hw_3 hP hD hS => ?_)
  have hP : va_P g.1 vwCl [(z 0, .inr (12, [.ref (z 1), .ref (z 2), .int 0, .int 0, .ref (z 3), .ref (z 4), .ref (z 5), .ref (z 6), .int 0, .ref (z 7), .ref (z 8), .ref (z 9), .ref (z 10), .ref (z 11), .ref (z 12), .int 0, .ref (z 13), .ref (z 14), .int 0, .ref (z 15)])), (z 1, .inl (gI g, 461, .inl mD0))] H := hP
  have hD : va_D A [(z 0, .inr (12, [.ref (z 1), .ref (z 2), .int 0, .int 0, .ref (z 3), .ref (z 4), .ref (z 5), .ref (z 6), .int 0, .ref (z 7), .ref (z 8), .ref (z 9), .ref (z 10), .ref (z 11), .ref (z 12), .int 0, .ref (z 13), .ref (z 14), .int 0, .ref (z 15)])), (z 1, .inl (gI g, 461, .inl mD0))] := hD
  have hw_3 : r_1 = 0 := hw_3
  subst hw_3
  refine lv_aload_n hx hb dL_law_734 rfl (lv_at hl 2 rfl) ?_
  refine k_Vi [0, 1] [] 0 12 (wr := []) hx hb hml hown hts hKW hP hD hS hA hl.1 (c_X12_lacking l g _ z ) rfl rfl rfl wd_28_10 wd_1_5 wd_28_7 wd_28_8 wd_28_9 yd_X12_lacking ⟨Nat.le_of_ble_eq_true rfl, Nat.le_of_ble_eq_true rfl⟩ rfl rfl rfl rfl rfl (by decide) rfl (Nat.le_of_ble_eq_true rfl) dL_law_735 ⟨Nat.le_of_ble_eq_true rfl, Nat.le_of_ble_eq_true rfl⟩ (fun r_4 u_5 H locs hw_6 hP hD hS => ?_)
  have hP : va_P g.1 vwCl [] H := hP
  have hD : va_D A [] := hD
  have hw_6 : r_4 = 0 := hw_6
  subst hw_6
  refine lv_icmp_eq (tgt := 1506) hx hb dL_law_738 (by decide) (fun _ => ?_) (fun c => absurd rfl c)
  exact law_tail l g hA hA2 hKW hts C0 rfl H locs (Nat.le_of_ble_eq_true rfl) (Nat.le_of_ble_eq_true rfl) hS ls (lv_sub hl [0, 3] rfl)
theorem dL_law_743 : decode cL_law 743 = .ok (.aload_n 1, 1) := by decide +kernel
theorem dL_law_744 : decode cL_law 744 = .ok (.invokevirtual 86, 3) := by decide +kernel
theorem dL_law_747 : decode cL_law 747 = .ok (.aload_n 2, 1) := by decide +kernel
theorem dL_law_748 : decode cL_law 748 = .ok (.invokevirtual 89, 3) := by decide +kernel
theorem dL_law_751 : decode cL_law 751 = .ok (.if_icmp .eq 755, 3) := by decide +kernel
set_option maxHeartbeats 4000000 in
set_option maxRecDepth 100000 in
theorem law_moves {p : Program} {e : Env} {s : State} {m : MethodId} {below : List Frame} {meth : Method} {c : Code} (l : Launch) (g : kG) {A : Nat → Prop} {b L : Nat} {xs : Nat → Int32} (hA : ∀ q : Nat, s.heap.size ≤ q → A q) (hA2 : ∀ q : Nat, A q → s.heap.size ≤ q) (hKW : kKW g s) (hts : ∀ w ∈ wsL_law, w.before #[Value.ref b] s = true) (C0 : lw_At p s m meth c b L xs) (hL6 : L = 6) (q z : Nat → Nat) (H : Heap) (locs : List Loc) (hP : va_P g.1 vwCl [(q 0, .inr (11, [.ref (q 1), .ref (q 29), .ref (q 31), .ref (q 34), .ref (q 38), .ref (q 40), .int 0])), (q 1, .inr (4, [.ref (q 2), .ref (q 6), .ref (q 9), .ref (q 18), .ref (q 22), .ref (q 26), .ref (q 28), .int 0, .int 0, .int 36, .int 10])), (q 2, .inr (8, [.int 0, .ref (q 3), .ref (q 4), .ref (q 5)])), (q 6, .inr (1, [.int 0, .ref (q 7), .ref (q 8), .int 0])), (q 7, .inl (gI g, 7, .inl (fun _ => 0))), (q 8, .inl (gI g, 7, .inl (fun _ => 0))), (q 34, .inr (5, [.ref (q 35), .ref (q 36), .ref (q 37), .int 0, .int 0])), (q 35, .inl (gI g, 128, .inl (fun _ => 0))), (q 36, .inl (gI g, 128, .inl (fun _ => 0))), (q 37, .inl (gI g, 128, .inl (fun _ => 0))), (z 0, .inr (12, [.ref (z 1), .ref (z 2), .int 0, .int 0, .ref (z 3), .ref (z 4), .ref (z 5), .ref (z 6), .int 0, .ref (z 7), .ref (z 8), .ref (z 9), .ref (z 10), .ref (z 11), .ref (z 12), .int 0, .ref (z 13), .ref (z 14), .int 0, .ref (z 15)])), (z 1, .inl (gI g, 461, .inl mD0)), (z 11, .inl (gI g, 7, .inl (fun _ => 0))), (z 12, .inl (gI g, 7, .inl (fun _ => 0)))] H) (hD : va_D A [(q 0, .inr (11, [.ref (q 1), .ref (q 29), .ref (q 31), .ref (q 34), .ref (q 38), .ref (q 40), .int 0])), (q 1, .inr (4, [.ref (q 2), .ref (q 6), .ref (q 9), .ref (q 18), .ref (q 22), .ref (q 26), .ref (q 28), .int 0, .int 0, .int 36, .int 10])), (q 2, .inr (8, [.int 0, .ref (q 3), .ref (q 4), .ref (q 5)])), (q 6, .inr (1, [.int 0, .ref (q 7), .ref (q 8), .int 0])), (q 7, .inl (gI g, 7, .inl (fun _ => 0))), (q 8, .inl (gI g, 7, .inl (fun _ => 0))), (q 34, .inr (5, [.ref (q 35), .ref (q 36), .ref (q 37), .int 0, .int 0])), (q 35, .inl (gI g, 128, .inl (fun _ => 0))), (q 36, .inl (gI g, 128, .inl (fun _ => 0))), (q 37, .inl (gI g, 128, .inl (fun _ => 0))), (z 0, .inr (12, [.ref (z 1), .ref (z 2), .int 0, .int 0, .ref (z 3), .ref (z 4), .ref (z 5), .ref (z 6), .int 0, .ref (z 7), .ref (z 8), .ref (z 9), .ref (z 10), .ref (z 11), .ref (z 12), .int 0, .ref (z 13), .ref (z 14), .int 0, .ref (z 15)])), (z 1, .inl (gI g, 461, .inl mD0)), (z 11, .inl (gI g, 7, .inl (fun _ => 0))), (z 12, .inl (gI g, 7, .inl (fun _ => 0)))]) (hS : va_S A s.heap H locs) (ls : Array Slot) (hl : lv_has ls 4 [(0, .ref b), (1, .ref (q 0)), (2, .ref (z 0)), (3, .int 0)]) : W p l e room_1 s m #[Value.ref b] below meth c H locs 65 9957 (lw_Z below #[Value.ref b] s) (F0 m 743 ls []) := by
  subst hL6
  obtain ⟨hx, hb, hr, hml, hown, -, hX, hbl, hlk, hgv⟩ := id C0
  have hbA : ¬ A b := fun h => absurd (hA2 _ h) (Nat.not_le.mpr hbl)
  have hown : s.vm.findClass RL = some m.cls := hown
  refine lv_aload_n hx hb dL_law_743 rfl (lv_at hl 1 rfl) ?_
  refine k_Vi [0, 1, 2, 3, 4, 5, 6, 7, 8, 9] [10, 11, 12, 13] 0 11 (wr := [(z 0, .inr (12, [.ref (z 1), .ref (z 2), .int 0, .int 0, .ref (z 3), .ref (z 4), .ref (z 5), .ref (z 6), .int 0, .ref (z 7), .ref (z 8), .ref (z 9), .ref (z 10), .ref (z 11), .ref (z 12), .int 0, .ref (z 13), .ref (z 14), .int 0, .ref (z 15)])), (z 1, .inl (gI g, 461, .inl mD0)), (z 11, .inl (gI g, 7, .inl (fun _ => 0))), (z 12, .inl (gI g, 7, .inl (fun _ => 0)))]) hx hb hml hown hts hKW hP hD hS hA hl.1 (c_X11_moves l g _ q ) rfl rfl rfl wd_28_14 wd_1_2 wd_28_11 wd_28_12 wd_28_13 yd_X11_moves ⟨Nat.le_of_ble_eq_true rfl, Nat.le_of_ble_eq_true rfl⟩ rfl rfl rfl rfl rfl (by decide) rfl (Nat.le_of_ble_eq_true rfl) dL_law_744 ⟨Nat.le_of_ble_eq_true rfl, Nat.le_of_ble_eq_true rfl⟩ (fun r_1 u_2 H locs hw_3 hP hD hS => ?_)
  have hP : va_P g.1 vwCl [(z 0, .inr (12, [.ref (z 1), .ref (z 2), .int 0, .int 0, .ref (z 3), .ref (z 4), .ref (z 5), .ref (z 6), .int 0, .ref (z 7), .ref (z 8), .ref (z 9), .ref (z 10), .ref (z 11), .ref (z 12), .int 0, .ref (z 13), .ref (z 14), .int 0, .ref (z 15)])), (z 1, .inl (gI g, 461, .inl mD0)), (z 11, .inl (gI g, 7, .inl (fun _ => 0))), (z 12, .inl (gI g, 7, .inl (fun _ => 0)))] H := hP
  have hD : va_D A [(z 0, .inr (12, [.ref (z 1), .ref (z 2), .int 0, .int 0, .ref (z 3), .ref (z 4), .ref (z 5), .ref (z 6), .int 0, .ref (z 7), .ref (z 8), .ref (z 9), .ref (z 10), .ref (z 11), .ref (z 12), .int 0, .ref (z 13), .ref (z 14), .int 0, .ref (z 15)])), (z 1, .inl (gI g, 461, .inl mD0)), (z 11, .inl (gI g, 7, .inl (fun _ => 0))), (z 12, .inl (gI g, 7, .inl (fun _ => 0)))] := hD
  have hw_3 : r_1 = 0 := hw_3
  subst hw_3
  refine lv_aload_n hx hb dL_law_747 rfl (lv_at hl 2 rfl) ?_
  refine k_Vi [0, 1, 2, 3] [] 0 12 (wr := []) hx hb hml hown hts hKW hP hD hS hA hl.1 (c_X12_moves l g _ z ) rfl rfl rfl wd_31_0 wd_1_5 wd_30_21 wd_30_22 wd_30_23 yd_X12_moves ⟨Nat.le_of_ble_eq_true rfl, Nat.le_of_ble_eq_true rfl⟩ rfl rfl rfl rfl rfl (by decide) rfl (Nat.le_of_ble_eq_true rfl) dL_law_748 ⟨Nat.le_of_ble_eq_true rfl, Nat.le_of_ble_eq_true rfl⟩ (fun r_4 u_5 H locs hw_6 hP hD hS => ?_)
  have hP : va_P g.1 vwCl [] H := hP
  have hD : va_D A [] := hD
  have hw_6 : r_4 = 0 := hw_6
  subst hw_6
  refine lv_icmp_eq (tgt := 1506) hx hb dL_law_751 (by decide) (fun _ => ?_) (fun c => absurd rfl c)
  exact law_tail l g hA hA2 hKW hts C0 rfl H locs (Nat.le_of_ble_eq_true rfl) (Nat.le_of_ble_eq_true rfl) hS ls (lv_sub hl [0, 3] rfl)
theorem dL_law_756 : decode cL_law 756 = .ok (.aload_n 1, 1) := by decide +kernel
theorem dL_law_757 : decode cL_law 757 = .ok (.aload_n 0, 1) := by decide +kernel
theorem dL_law_758 : decode cL_law 758 = .ok (.iload_n 3, 1) := by decide +kernel
theorem dL_law_759 : decode cL_law 759 = .ok (.iconst 1, 1) := by decide +kernel
theorem dL_law_760 : decode cL_law 760 = .ok (.iadd, 1) := by decide +kernel
theorem dL_law_761 : decode cL_law 761 = .ok (.iaload, 1) := by decide +kernel
theorem dL_law_762 : decode cL_law 762 = .ok (.invokevirtual 90, 3) := by decide +kernel
theorem dL_law_765 : decode cL_law 765 = .ok (.aload_n 2, 1) := by decide +kernel
theorem dL_law_766 : decode cL_law 766 = .ok (.aload_n 0, 1) := by decide +kernel
theorem dL_law_767 : decode cL_law 767 = .ok (.iload_n 3, 1) := by decide +kernel
theorem dL_law_768 : decode cL_law 768 = .ok (.iconst 1, 1) := by decide +kernel
theorem dL_law_769 : decode cL_law 769 = .ok (.iadd, 1) := by decide +kernel
theorem dL_law_770 : decode cL_law 770 = .ok (.iaload, 1) := by decide +kernel
theorem dL_law_771 : decode cL_law 771 = .ok (.invokevirtual 93, 3) := by decide +kernel
theorem dL_law_774 : decode cL_law 774 = .ok (.if_icmp .eq 732, 3) := by decide +kernel
set_option maxHeartbeats 4000000 in
set_option maxRecDepth 100000 in
theorem law_moved {p : Program} {e : Env} {s : State} {m : MethodId} {below : List Frame} {meth : Method} {c : Code} (l : Launch) (g : kG) {A : Nat → Prop} {b L : Nat} {xs : Nat → Int32} (hA : ∀ q : Nat, s.heap.size ≤ q → A q) (hA2 : ∀ q : Nat, A q → s.heap.size ≤ q) (hKW : kKW g s) (hts : ∀ w ∈ wsL_law, w.before #[Value.ref b] s = true) (C0 : lw_At p s m meth c b L xs) (hL6 : L = 6) (q z : Nat → Nat) (H : Heap) (locs : List Loc) (hP : va_P g.1 vwCl [(q 0, .inr (11, [.ref (q 1), .ref (q 29), .ref (q 31), .ref (q 34), .ref (q 38), .ref (q 40), .int 0])), (q 1, .inr (4, [.ref (q 2), .ref (q 6), .ref (q 9), .ref (q 18), .ref (q 22), .ref (q 26), .ref (q 28), .int 0, .int 0, .int 36, .int 10])), (q 6, .inr (1, [.int 0, .ref (q 7), .ref (q 8), .int 0])), (z 0, .inr (12, [.ref (z 1), .ref (z 2), .int 0, .int 0, .ref (z 3), .ref (z 4), .ref (z 5), .ref (z 6), .int 0, .ref (z 7), .ref (z 8), .ref (z 9), .ref (z 10), .ref (z 11), .ref (z 12), .int 0, .ref (z 13), .ref (z 14), .int 0, .ref (z 15)])), (z 1, .inl (gI g, 461, .inl mD0))] H) (hD : va_D A [(q 0, .inr (11, [.ref (q 1), .ref (q 29), .ref (q 31), .ref (q 34), .ref (q 38), .ref (q 40), .int 0])), (q 1, .inr (4, [.ref (q 2), .ref (q 6), .ref (q 9), .ref (q 18), .ref (q 22), .ref (q 26), .ref (q 28), .int 0, .int 0, .int 36, .int 10])), (q 6, .inr (1, [.int 0, .ref (q 7), .ref (q 8), .int 0])), (z 0, .inr (12, [.ref (z 1), .ref (z 2), .int 0, .int 0, .ref (z 3), .ref (z 4), .ref (z 5), .ref (z 6), .int 0, .ref (z 7), .ref (z 8), .ref (z 9), .ref (z 10), .ref (z 11), .ref (z 12), .int 0, .ref (z 13), .ref (z 14), .int 0, .ref (z 15)])), (z 1, .inl (gI g, 461, .inl mD0))]) (hS : va_S A s.heap H locs) (ls : Array Slot) (hl : lv_has ls 4 [(0, .ref b), (1, .ref (q 0)), (2, .ref (z 0)), (3, .int 0)]) : W p l e room_1 s m #[Value.ref b] below meth c H locs 65 9957 (lw_Z below #[Value.ref b] s) (F0 m 756 ls []) := by
  subst hL6
  obtain ⟨hx, hb, hr, hml, hown, -, hX, hbl, hlk, hgv⟩ := id C0
  have hbA : ¬ A b := fun h => absurd (hA2 _ h) (Nat.not_le.mpr hbl)
  have hown : s.vm.findClass RL = some m.cls := hown
  refine lv_aload_n hx hb dL_law_756 rfl (lv_at hl 1 rfl) ?_
  refine lv_aload_n hx hb dL_law_757 rfl (lv_at hl 0 rfl) ?_
  refine lv_iload_n hx hb dL_law_758 rfl (lv_at hl 3 rfl) ?_
  refine lv_iconst (v := 1) hx hb dL_law_759 (by decide) ?_
  refine lv_iadd hx hb dL_law_760 ?_
  refine k_top (y := 1) (by decide) ?_
  refine va_sld hx hb hX hbl hbA hS (show ¬ _ by decide) dL_law_761 ?_
  refine k_top (y := xs 1) rfl ?_
  refine k_Vi [0, 1, 2] [3, 4] 0 11 (wr := [(z 0, .inr (12, [.ref (z 1), .ref (z 2), .int 0, .int 0, .ref (z 3), .ref (z 4), .ref (z 5), .ref (z 6), .int 0, .ref (z 7), .ref (z 8), .ref (z 9), .ref (z 10), .ref (z 11), .ref (z 12), .int 0, .ref (z 13), .ref (z 14), .int 0, .ref (z 15)])), (z 1, .inl (gI g, 461, .inl mD0))]) hx hb hml hown hts hKW hP hD hS hA hl.1 (c_X11_moved l g _ q (xs 1) ) rfl rfl rfl wd_31_13 wd_1_2 wd_31_10 wd_31_11 wd_31_12 yd_X11_moved ⟨Nat.le_of_ble_eq_true rfl, Nat.le_of_ble_eq_true rfl⟩ rfl rfl rfl rfl rfl (by decide) rfl (Nat.le_of_ble_eq_true rfl) dL_law_762 ⟨Nat.le_of_ble_eq_true rfl, Nat.le_of_ble_eq_true rfl⟩ (fun r_1 u_2 H locs hw_3 hP hD hS => ?_)
  have hP : va_P g.1 vwCl [(z 0, .inr (12, [.ref (z 1), .ref (z 2), .int 0, .int 0, .ref (z 3), .ref (z 4), .ref (z 5), .ref (z 6), .int 0, .ref (z 7), .ref (z 8), .ref (z 9), .ref (z 10), .ref (z 11), .ref (z 12), .int 0, .ref (z 13), .ref (z 14), .int 0, .ref (z 15)])), (z 1, .inl (gI g, 461, .inl mD0))] H := hP
  have hD : va_D A [(z 0, .inr (12, [.ref (z 1), .ref (z 2), .int 0, .int 0, .ref (z 3), .ref (z 4), .ref (z 5), .ref (z 6), .int 0, .ref (z 7), .ref (z 8), .ref (z 9), .ref (z 10), .ref (z 11), .ref (z 12), .int 0, .ref (z 13), .ref (z 14), .int 0, .ref (z 15)])), (z 1, .inl (gI g, 461, .inl mD0))] := hD
  have hw_3 : r_1 = (-100001) := hw_3
  subst hw_3
  refine lv_aload_n hx hb dL_law_765 rfl (lv_at hl 2 rfl) ?_
  refine lv_aload_n hx hb dL_law_766 rfl (lv_at hl 0 rfl) ?_
  refine lv_iload_n hx hb dL_law_767 rfl (lv_at hl 3 rfl) ?_
  refine lv_iconst (v := 1) hx hb dL_law_768 (by decide) ?_
  refine lv_iadd hx hb dL_law_769 ?_
  refine k_top (y := 1) (by decide) ?_
  refine va_sld hx hb hX hbl hbA hS (show ¬ _ by decide) dL_law_770 ?_
  refine k_top (y := xs 1) rfl ?_
  refine k_Vi [0, 1] [] 0 12 (wr := []) hx hb hml hown hts hKW hP hD hS hA hl.1 (c_X12_moved l g _ z (xs 1) ) rfl rfl rfl wd_31_21 wd_1_5 wd_31_18 wd_31_19 wd_31_20 yd_X12_moved ⟨Nat.le_of_ble_eq_true rfl, Nat.le_of_ble_eq_true rfl⟩ rfl rfl rfl rfl rfl (by decide) rfl (Nat.le_of_ble_eq_true rfl) dL_law_771 ⟨Nat.le_of_ble_eq_true rfl, Nat.le_of_ble_eq_true rfl⟩ (fun r_4 u_5 H locs hw_6 hP hD hS => ?_)
  have hP : va_P g.1 vwCl [] H := hP
  have hD : va_D A [] := hD
  have hw_6 : r_4 = (-100001) := hw_6
  subst hw_6
  refine lv_icmp_eq (tgt := 1506) hx hb dL_law_774 (by decide) (fun _ => ?_) (fun c => absurd rfl c)
  exact law_tail l g hA hA2 hKW hts C0 rfl H locs (Nat.le_of_ble_eq_true rfl) (Nat.le_of_ble_eq_true rfl) hS ls (lv_sub hl [0, 3] rfl)
theorem dL_law_779 : decode cL_law 779 = .ok (.aload_n 1, 1) := by decide +kernel
theorem dL_law_780 : decode cL_law 780 = .ok (.invokevirtual 94, 3) := by decide +kernel
theorem dL_law_783 : decode cL_law 783 = .ok (.aload_n 2, 1) := by decide +kernel
theorem dL_law_784 : decode cL_law 784 = .ok (.invokevirtual 97, 3) := by decide +kernel
theorem dL_law_787 : decode cL_law 787 = .ok (.if_icmp .eq 719, 3) := by decide +kernel
set_option maxHeartbeats 4000000 in
set_option maxRecDepth 100000 in
theorem law_move {p : Program} {e : Env} {s : State} {m : MethodId} {below : List Frame} {meth : Method} {c : Code} (l : Launch) (g : kG) {A : Nat → Prop} {b L : Nat} {xs : Nat → Int32} (hA : ∀ q : Nat, s.heap.size ≤ q → A q) (hA2 : ∀ q : Nat, A q → s.heap.size ≤ q) (hKW : kKW g s) (hts : ∀ w ∈ wsL_law, w.before #[Value.ref b] s = true) (C0 : lw_At p s m meth c b L xs) (hL6 : L = 6) (q z : Nat → Nat) (H : Heap) (locs : List Loc) (hP : va_P g.1 vwCl [(q 0, .inr (11, [.ref (q 1), .ref (q 29), .ref (q 31), .ref (q 34), .ref (q 38), .ref (q 40), .int 0])), (q 1, .inr (4, [.ref (q 2), .ref (q 6), .ref (q 9), .ref (q 18), .ref (q 22), .ref (q 26), .ref (q 28), .int 0, .int 0, .int 36, .int 10])), (q 2, .inr (8, [.int 0, .ref (q 3), .ref (q 4), .ref (q 5)])), (q 3, .inl (gI g, 5, .inl (fun _ => 0))), (q 4, .inl (gI g, 5, .inl (fun _ => 0))), (q 5, .inl (gI g, 5, .inl (fun _ => 0))), (q 6, .inr (1, [.int 0, .ref (q 7), .ref (q 8), .int 0])), (q 7, .inl (gI g, 7, .inl (fun _ => 0))), (q 8, .inl (gI g, 7, .inl (fun _ => 0))), (q 9, .inr (0, [.int 0, .ref (q 10), .ref (q 11), .ref (q 12), .ref (q 13), .ref (q 14), .ref (q 15), .ref (q 16), .int 0, .int 0, .int 0, .ref (q 17)])), (q 10, .inl (gI g, 10, .inl (fun _ => 0))), (q 11, .inl (gI g, 10, .inl (fun _ => 0))), (q 12, .inl (gI g, 10, .inl (fun _ => 0))), (q 13, .inl (gI g, 10, .inl (fun _ => 0))), (q 14, .inl (gI g, 10, .inl (fun _ => 0))), (q 15, .inl (gI g, 10, .inl (fun _ => 0))), (q 16, .inl (gI g, 10, .inl (fun _ => 0))), (q 17, .inl (gI g, 10, .inl (fun _ => 0))), (q 18, .inr (3, [.int 0, .ref (q 19), .ref (q 20), .ref (q 21)])), (q 19, .inl (gI g, 40, .inl (fun _ => 0))), (q 20, .inl (gI g, 40, .inl (fun _ => 0))), (q 21, .inl (gI g, 40, .inl (fun _ => 0))), (q 22, .inr (3, [.int 0, .ref (q 23), .ref (q 24), .ref (q 25)])), (q 23, .inl (gI g, 40, .inl (fun _ => 0))), (q 24, .inl (gI g, 40, .inl (fun _ => 0))), (q 25, .inl (gI g, 40, .inl (fun _ => 0))), (q 26, .inr (6, [.int 0, .int 0, .ref (q 27)])), (q 27, .inl (gI g, 14, .inl (fun _ => 0))), (q 28, .inl (gI g, 60, .inl (fun _ => 0))), (q 29, .inr (2, [.int 0, .int 0, .ref (q 30)])), (q 30, .inl (gN g, 16, .inr (.inr (.inr (.inr (fun _ => none)))))), (q 34, .inr (5, [.ref (q 35), .ref (q 36), .ref (q 37), .int 0, .int 0])), (q 35, .inl (gI g, 128, .inl (fun _ => 0))), (q 36, .inl (gI g, 128, .inl (fun _ => 0))), (q 37, .inl (gI g, 128, .inl (fun _ => 0))), (z 0, .inr (12, [.ref (z 1), .ref (z 2), .int 0, .int 0, .ref (z 3), .ref (z 4), .ref (z 5), .ref (z 6), .int 0, .ref (z 7), .ref (z 8), .ref (z 9), .ref (z 10), .ref (z 11), .ref (z 12), .int 0, .ref (z 13), .ref (z 14), .int 0, .ref (z 15)])), (z 1, .inl (gI g, 461, .inl mD0)), (z 2, .inl (gI g, 7376, .inl (fun _ => 0))), (z 11, .inl (gI g, 7, .inl (fun _ => 0))), (z 12, .inl (gI g, 7, .inl (fun _ => 0)))] H) (hD : va_D A [(q 0, .inr (11, [.ref (q 1), .ref (q 29), .ref (q 31), .ref (q 34), .ref (q 38), .ref (q 40), .int 0])), (q 1, .inr (4, [.ref (q 2), .ref (q 6), .ref (q 9), .ref (q 18), .ref (q 22), .ref (q 26), .ref (q 28), .int 0, .int 0, .int 36, .int 10])), (q 2, .inr (8, [.int 0, .ref (q 3), .ref (q 4), .ref (q 5)])), (q 3, .inl (gI g, 5, .inl (fun _ => 0))), (q 4, .inl (gI g, 5, .inl (fun _ => 0))), (q 5, .inl (gI g, 5, .inl (fun _ => 0))), (q 6, .inr (1, [.int 0, .ref (q 7), .ref (q 8), .int 0])), (q 7, .inl (gI g, 7, .inl (fun _ => 0))), (q 8, .inl (gI g, 7, .inl (fun _ => 0))), (q 9, .inr (0, [.int 0, .ref (q 10), .ref (q 11), .ref (q 12), .ref (q 13), .ref (q 14), .ref (q 15), .ref (q 16), .int 0, .int 0, .int 0, .ref (q 17)])), (q 10, .inl (gI g, 10, .inl (fun _ => 0))), (q 11, .inl (gI g, 10, .inl (fun _ => 0))), (q 12, .inl (gI g, 10, .inl (fun _ => 0))), (q 13, .inl (gI g, 10, .inl (fun _ => 0))), (q 14, .inl (gI g, 10, .inl (fun _ => 0))), (q 15, .inl (gI g, 10, .inl (fun _ => 0))), (q 16, .inl (gI g, 10, .inl (fun _ => 0))), (q 17, .inl (gI g, 10, .inl (fun _ => 0))), (q 18, .inr (3, [.int 0, .ref (q 19), .ref (q 20), .ref (q 21)])), (q 19, .inl (gI g, 40, .inl (fun _ => 0))), (q 20, .inl (gI g, 40, .inl (fun _ => 0))), (q 21, .inl (gI g, 40, .inl (fun _ => 0))), (q 22, .inr (3, [.int 0, .ref (q 23), .ref (q 24), .ref (q 25)])), (q 23, .inl (gI g, 40, .inl (fun _ => 0))), (q 24, .inl (gI g, 40, .inl (fun _ => 0))), (q 25, .inl (gI g, 40, .inl (fun _ => 0))), (q 26, .inr (6, [.int 0, .int 0, .ref (q 27)])), (q 27, .inl (gI g, 14, .inl (fun _ => 0))), (q 28, .inl (gI g, 60, .inl (fun _ => 0))), (q 29, .inr (2, [.int 0, .int 0, .ref (q 30)])), (q 30, .inl (gN g, 16, .inr (.inr (.inr (.inr (fun _ => none)))))), (q 34, .inr (5, [.ref (q 35), .ref (q 36), .ref (q 37), .int 0, .int 0])), (q 35, .inl (gI g, 128, .inl (fun _ => 0))), (q 36, .inl (gI g, 128, .inl (fun _ => 0))), (q 37, .inl (gI g, 128, .inl (fun _ => 0))), (z 0, .inr (12, [.ref (z 1), .ref (z 2), .int 0, .int 0, .ref (z 3), .ref (z 4), .ref (z 5), .ref (z 6), .int 0, .ref (z 7), .ref (z 8), .ref (z 9), .ref (z 10), .ref (z 11), .ref (z 12), .int 0, .ref (z 13), .ref (z 14), .int 0, .ref (z 15)])), (z 1, .inl (gI g, 461, .inl mD0)), (z 2, .inl (gI g, 7376, .inl (fun _ => 0))), (z 11, .inl (gI g, 7, .inl (fun _ => 0))), (z 12, .inl (gI g, 7, .inl (fun _ => 0)))]) (hS : va_S A s.heap H locs) (ls : Array Slot) (hl : lv_has ls 4 [(0, .ref b), (1, .ref (q 0)), (2, .ref (z 0)), (3, .int 0)]) : W p l e room_1 s m #[Value.ref b] below meth c H locs 65 9957 (lw_Z below #[Value.ref b] s) (F0 m 779 ls []) := by
  subst hL6
  obtain ⟨hx, hb, hr, hml, hown, -, hX, hbl, hlk, hgv⟩ := id C0
  have hbA : ¬ A b := fun h => absurd (hA2 _ h) (Nat.not_le.mpr hbl)
  have hown : s.vm.findClass RL = some m.cls := hown
  refine lv_aload_n hx hb dL_law_779 rfl (lv_at hl 1 rfl) ?_
  refine k_Vi [0, 1, 2, 3, 4, 5, 6, 7, 8, 9, 10, 11, 12, 13, 14, 15, 16, 17, 18, 19, 20, 21, 22, 23, 24, 25, 26, 27, 28, 29, 30, 31, 32, 33, 34] [35, 36, 37, 38, 39] 0 11 (wr := [(z 0, .inr (12, [.ref (z 1), .ref (z 2), .int 0, .int 0, .ref (z 3), .ref (z 4), .ref (z 5), .ref (z 6), .int 0, .ref (z 7), .ref (z 8), .ref (z 9), .ref (z 10), .ref (z 11), .ref (z 12), .int 0, .ref (z 13), .ref (z 14), .int 0, .ref (z 15)])), (z 1, .inl (gI g, 461, .inl mD0)), (z 2, .inl (gI g, 7376, .inl (fun _ => 0))), (z 11, .inl (gI g, 7, .inl (fun _ => 0))), (z 12, .inl (gI g, 7, .inl (fun _ => 0)))]) hx hb hml hown hts hKW hP hD hS hA hl.1 (c_X11_move l g _ q ) rfl rfl rfl wd_32_1 wd_1_2 wd_31_22 wd_31_23 wd_32_0 yd_X11_move ⟨Nat.le_of_ble_eq_true rfl, Nat.le_of_ble_eq_true rfl⟩ rfl rfl rfl rfl rfl (by decide) rfl (Nat.le_of_ble_eq_true rfl) dL_law_780 ⟨Nat.le_of_ble_eq_true rfl, Nat.le_of_ble_eq_true rfl⟩ (fun r_1 u_2 H locs hw_3 hP hD hS => ?_)
  have hP : va_P g.1 vwCl [(z 0, .inr (12, [.ref (z 1), .ref (z 2), .int 0, .int 0, .ref (z 3), .ref (z 4), .ref (z 5), .ref (z 6), .int 0, .ref (z 7), .ref (z 8), .ref (z 9), .ref (z 10), .ref (z 11), .ref (z 12), .int 0, .ref (z 13), .ref (z 14), .int 0, .ref (z 15)])), (z 1, .inl (gI g, 461, .inl mD0)), (z 2, .inl (gI g, 7376, .inl (fun _ => 0))), (z 11, .inl (gI g, 7, .inl (fun _ => 0))), (z 12, .inl (gI g, 7, .inl (fun _ => 0)))] H := hP
  have hD : va_D A [(z 0, .inr (12, [.ref (z 1), .ref (z 2), .int 0, .int 0, .ref (z 3), .ref (z 4), .ref (z 5), .ref (z 6), .int 0, .ref (z 7), .ref (z 8), .ref (z 9), .ref (z 10), .ref (z 11), .ref (z 12), .int 0, .ref (z 13), .ref (z 14), .int 0, .ref (z 15)])), (z 1, .inl (gI g, 461, .inl mD0)), (z 2, .inl (gI g, 7376, .inl (fun _ => 0))), (z 11, .inl (gI g, 7, .inl (fun _ => 0))), (z 12, .inl (gI g, 7, .inl (fun _ => 0)))] := hD
  refine W.widen (k := 93) (n := 10422) (Nat.le_of_ble_eq_true rfl) (Nat.le_of_ble_eq_true rfl) ?_
  have hw_3 : r_1 = 0 := hw_3
  subst hw_3
  refine lv_aload_n hx hb dL_law_783 rfl (lv_at hl 2 rfl) ?_
  refine k_Vi [0, 1, 2, 3, 4] [] 0 12 (wr := []) hx hb hml hown hts hKW hP hD hS hA hl.1 (c_X12_move l g _ z ) rfl rfl rfl wd_32_5 wd_1_5 wd_32_2 wd_32_3 wd_32_4 yd_X12_move ⟨Nat.le_of_ble_eq_true rfl, Nat.le_of_ble_eq_true rfl⟩ rfl rfl rfl rfl rfl (by decide) rfl (Nat.le_of_ble_eq_true rfl) dL_law_784 ⟨Nat.le_of_ble_eq_true rfl, Nat.le_of_ble_eq_true rfl⟩ (fun r_4 u_5 H locs hw_6 hP hD hS => ?_)
  have hP : va_P g.1 vwCl [] H := hP
  have hD : va_D A [] := hD
  have hw_6 : r_4 = 0 := hw_6
  subst hw_6
  refine lv_icmp_eq (tgt := 1506) hx hb dL_law_787 (by decide) (fun _ => ?_) (fun c => absurd rfl c)
  exact law_tail l g hA hA2 hKW hts C0 rfl H locs (Nat.le_of_ble_eq_true rfl) (Nat.le_of_ble_eq_true rfl) hS ls (lv_sub hl [0, 3] rfl)
theorem dL_law_792 : decode cL_law 792 = .ok (.aload_n 1, 1) := by decide +kernel
theorem dL_law_793 : decode cL_law 793 = .ok (.aload_n 0, 1) := by decide +kernel
theorem dL_law_794 : decode cL_law 794 = .ok (.iload_n 3, 1) := by decide +kernel
theorem dL_law_795 : decode cL_law 795 = .ok (.iconst 1, 1) := by decide +kernel
theorem dL_law_796 : decode cL_law 796 = .ok (.iadd, 1) := by decide +kernel
theorem dL_law_797 : decode cL_law 797 = .ok (.iaload, 1) := by decide +kernel
theorem dL_law_798 : decode cL_law 798 = .ok (.aload_n 0, 1) := by decide +kernel
theorem dL_law_799 : decode cL_law 799 = .ok (.iload_n 3, 1) := by decide +kernel
theorem dL_law_800 : decode cL_law 800 = .ok (.iconst 2, 1) := by decide +kernel
theorem dL_law_801 : decode cL_law 801 = .ok (.iadd, 1) := by decide +kernel
theorem dL_law_802 : decode cL_law 802 = .ok (.iaload, 1) := by decide +kernel
theorem dL_law_803 : decode cL_law 803 = .ok (.invokevirtual 98, 3) := by decide +kernel
theorem dL_law_806 : decode cL_law 806 = .ok (.aload_n 2, 1) := by decide +kernel
theorem dL_law_807 : decode cL_law 807 = .ok (.aload_n 0, 1) := by decide +kernel
theorem dL_law_808 : decode cL_law 808 = .ok (.iload_n 3, 1) := by decide +kernel
theorem dL_law_809 : decode cL_law 809 = .ok (.iconst 1, 1) := by decide +kernel
theorem dL_law_810 : decode cL_law 810 = .ok (.iadd, 1) := by decide +kernel
theorem dL_law_811 : decode cL_law 811 = .ok (.iaload, 1) := by decide +kernel
theorem dL_law_812 : decode cL_law 812 = .ok (.aload_n 0, 1) := by decide +kernel
theorem dL_law_813 : decode cL_law 813 = .ok (.iload_n 3, 1) := by decide +kernel
theorem dL_law_814 : decode cL_law 814 = .ok (.iconst 2, 1) := by decide +kernel
theorem dL_law_815 : decode cL_law 815 = .ok (.iadd, 1) := by decide +kernel
theorem dL_law_816 : decode cL_law 816 = .ok (.iaload, 1) := by decide +kernel
theorem dL_law_817 : decode cL_law 817 = .ok (.invokevirtual 101, 3) := by decide +kernel
theorem dL_law_820 : decode cL_law 820 = .ok (.if_icmp .eq 686, 3) := by decide +kernel
set_option maxHeartbeats 4000000 in
set_option maxRecDepth 100000 in
theorem law_roll {p : Program} {e : Env} {s : State} {m : MethodId} {below : List Frame} {meth : Method} {c : Code} (l : Launch) (g : kG) {A : Nat → Prop} {b L : Nat} {xs : Nat → Int32} (hA : ∀ q : Nat, s.heap.size ≤ q → A q) (hA2 : ∀ q : Nat, A q → s.heap.size ≤ q) (hKW : kKW g s) (hts : ∀ w ∈ wsL_law, w.before #[Value.ref b] s = true) (C0 : lw_At p s m meth c b L xs) (hL6 : L = 6) (q z : Nat → Nat) (H : Heap) (locs : List Loc) (hP : va_P g.1 vwCl [(q 0, .inr (11, [.ref (q 1), .ref (q 29), .ref (q 31), .ref (q 34), .ref (q 38), .ref (q 40), .int 0])), (q 1, .inr (4, [.ref (q 2), .ref (q 6), .ref (q 9), .ref (q 18), .ref (q 22), .ref (q 26), .ref (q 28), .int 0, .int 0, .int 36, .int 10])), (q 9, .inr (0, [.int 0, .ref (q 10), .ref (q 11), .ref (q 12), .ref (q 13), .ref (q 14), .ref (q 15), .ref (q 16), .int 0, .int 0, .int 0, .ref (q 17)])), (z 0, .inr (12, [.ref (z 1), .ref (z 2), .int 0, .int 0, .ref (z 3), .ref (z 4), .ref (z 5), .ref (z 6), .int 0, .ref (z 7), .ref (z 8), .ref (z 9), .ref (z 10), .ref (z 11), .ref (z 12), .int 0, .ref (z 13), .ref (z 14), .int 0, .ref (z 15)])), (z 1, .inl (gI g, 461, .inl mD0))] H) (hD : va_D A [(q 0, .inr (11, [.ref (q 1), .ref (q 29), .ref (q 31), .ref (q 34), .ref (q 38), .ref (q 40), .int 0])), (q 1, .inr (4, [.ref (q 2), .ref (q 6), .ref (q 9), .ref (q 18), .ref (q 22), .ref (q 26), .ref (q 28), .int 0, .int 0, .int 36, .int 10])), (q 9, .inr (0, [.int 0, .ref (q 10), .ref (q 11), .ref (q 12), .ref (q 13), .ref (q 14), .ref (q 15), .ref (q 16), .int 0, .int 0, .int 0, .ref (q 17)])), (z 0, .inr (12, [.ref (z 1), .ref (z 2), .int 0, .int 0, .ref (z 3), .ref (z 4), .ref (z 5), .ref (z 6), .int 0, .ref (z 7), .ref (z 8), .ref (z 9), .ref (z 10), .ref (z 11), .ref (z 12), .int 0, .ref (z 13), .ref (z 14), .int 0, .ref (z 15)])), (z 1, .inl (gI g, 461, .inl mD0))]) (hS : va_S A s.heap H locs) (ls : Array Slot) (hl : lv_has ls 4 [(0, .ref b), (1, .ref (q 0)), (2, .ref (z 0)), (3, .int 0)]) : W p l e room_1 s m #[Value.ref b] below meth c H locs 65 9957 (lw_Z below #[Value.ref b] s) (F0 m 792 ls []) := by
  subst hL6
  obtain ⟨hx, hb, hr, hml, hown, -, hX, hbl, hlk, hgv⟩ := id C0
  have hbA : ¬ A b := fun h => absurd (hA2 _ h) (Nat.not_le.mpr hbl)
  have hown : s.vm.findClass RL = some m.cls := hown
  refine lv_aload_n hx hb dL_law_792 rfl (lv_at hl 1 rfl) ?_
  refine lv_aload_n hx hb dL_law_793 rfl (lv_at hl 0 rfl) ?_
  refine lv_iload_n hx hb dL_law_794 rfl (lv_at hl 3 rfl) ?_
  refine lv_iconst (v := 1) hx hb dL_law_795 (by decide) ?_
  refine lv_iadd hx hb dL_law_796 ?_
  refine k_top (y := 1) (by decide) ?_
  refine va_sld hx hb hX hbl hbA hS (show ¬ _ by decide) dL_law_797 ?_
  refine k_top (y := xs 1) rfl ?_
  refine lv_aload_n hx hb dL_law_798 rfl (lv_at hl 0 rfl) ?_
  refine lv_iload_n hx hb dL_law_799 rfl (lv_at hl 3 rfl) ?_
  refine lv_iconst (v := 2) hx hb dL_law_800 (by decide) ?_
  refine lv_iadd hx hb dL_law_801 ?_
  refine k_top (y := 2) (by decide) ?_
  refine va_sld hx hb hX hbl hbA hS (show ¬ _ by decide) dL_law_802 ?_
  refine k_top (y := xs 2) rfl ?_
  refine k_Vi [0, 1, 2] [3, 4] 0 11 (wr := [(z 0, .inr (12, [.ref (z 1), .ref (z 2), .int 0, .int 0, .ref (z 3), .ref (z 4), .ref (z 5), .ref (z 6), .int 0, .ref (z 7), .ref (z 8), .ref (z 9), .ref (z 10), .ref (z 11), .ref (z 12), .int 0, .ref (z 13), .ref (z 14), .int 0, .ref (z 15)])), (z 1, .inl (gI g, 461, .inl mD0))]) hx hb hml hown hts hKW hP hD hS hA hl.1 (c_X11_roll l g _ q (xs 1) (xs 2) ) rfl rfl rfl wd_32_9 wd_1_2 wd_32_6 wd_32_7 wd_32_8 yd_X11_roll ⟨Nat.le_of_ble_eq_true rfl, Nat.le_of_ble_eq_true rfl⟩ rfl rfl rfl rfl rfl (by decide) rfl (Nat.le_of_ble_eq_true rfl) dL_law_803 ⟨Nat.le_of_ble_eq_true rfl, Nat.le_of_ble_eq_true rfl⟩ (fun r_1 u_2 H locs hw_3 hP hD hS => ?_)
  have hP : va_P g.1 vwCl [(z 0, .inr (12, [.ref (z 1), .ref (z 2), .int 0, .int 0, .ref (z 3), .ref (z 4), .ref (z 5), .ref (z 6), .int 0, .ref (z 7), .ref (z 8), .ref (z 9), .ref (z 10), .ref (z 11), .ref (z 12), .int 0, .ref (z 13), .ref (z 14), .int 0, .ref (z 15)])), (z 1, .inl (gI g, 461, .inl mD0))] H := hP
  have hD : va_D A [(z 0, .inr (12, [.ref (z 1), .ref (z 2), .int 0, .int 0, .ref (z 3), .ref (z 4), .ref (z 5), .ref (z 6), .int 0, .ref (z 7), .ref (z 8), .ref (z 9), .ref (z 10), .ref (z 11), .ref (z 12), .int 0, .ref (z 13), .ref (z 14), .int 0, .ref (z 15)])), (z 1, .inl (gI g, 461, .inl mD0))] := hD
  have hw_3 : r_1 = aRoll (xs 1) (xs 2) := hw_3
  subst hw_3
  refine lv_aload_n hx hb dL_law_806 rfl (lv_at hl 2 rfl) ?_
  refine lv_aload_n hx hb dL_law_807 rfl (lv_at hl 0 rfl) ?_
  refine lv_iload_n hx hb dL_law_808 rfl (lv_at hl 3 rfl) ?_
  refine lv_iconst (v := 1) hx hb dL_law_809 (by decide) ?_
  refine lv_iadd hx hb dL_law_810 ?_
  refine k_top (y := 1) (by decide) ?_
  refine va_sld hx hb hX hbl hbA hS (show ¬ _ by decide) dL_law_811 ?_
  refine k_top (y := xs 1) rfl ?_
  refine lv_aload_n hx hb dL_law_812 rfl (lv_at hl 0 rfl) ?_
  refine lv_iload_n hx hb dL_law_813 rfl (lv_at hl 3 rfl) ?_
  refine lv_iconst (v := 2) hx hb dL_law_814 (by decide) ?_
  refine lv_iadd hx hb dL_law_815 ?_
  refine k_top (y := 2) (by decide) ?_
  refine va_sld hx hb hX hbl hbA hS (show ¬ _ by decide) dL_law_816 ?_
  refine k_top (y := xs 2) rfl ?_
  refine k_Vi [0, 1] [] 0 12 (wr := []) hx hb hml hown hts hKW hP hD hS hA hl.1 (c_X12_roll l g _ z (xs 1) (xs 2) ) rfl rfl rfl wd_32_17 wd_1_5 wd_32_14 wd_32_15 wd_32_16 yd_X12_roll ⟨Nat.le_of_ble_eq_true rfl, Nat.le_of_ble_eq_true rfl⟩ rfl rfl rfl rfl rfl (by decide) rfl (Nat.le_of_ble_eq_true rfl) dL_law_817 ⟨Nat.le_of_ble_eq_true rfl, Nat.le_of_ble_eq_true rfl⟩ (fun r_4 u_5 H locs hw_6 hP hD hS => ?_)
  have hP : va_P g.1 vwCl [] H := hP
  have hD : va_D A [] := hD
  have hw_6 : r_4 = aRoll (xs 1) (xs 2) := hw_6
  subst hw_6
  refine lv_icmp_eq (tgt := 1506) hx hb dL_law_820 (by decide) (fun _ => ?_) (fun c => absurd rfl c)
  exact law_tail l g hA hA2 hKW hts C0 rfl H locs (Nat.le_of_ble_eq_true rfl) (Nat.le_of_ble_eq_true rfl) hS ls (lv_sub hl [0, 3] rfl)
