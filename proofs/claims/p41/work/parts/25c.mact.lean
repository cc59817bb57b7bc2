theorem dX12_to_0 : decode cX12_to 0 = .ok (.aload_n 0, 1) := by decide +kernel
theorem dX12_to_1 : decode cX12_to 1 = .ok (.iload_n 1, 1) := by decide +kernel
theorem dX12_to_2 : decode cX12_to 2 = .ok (.invokevirtual 82, 3) := by decide +kernel
theorem dX12_to_5 : decode cX12_to 5 = .ok (.ifCond .eq 11, 3) := by decide +kernel
theorem dX12_to_8 : decode cX12_to 8 = .ok (.aload_n 0, 1) := by decide +kernel
theorem dX12_to_9 : decode cX12_to 9 = .ok (.iload_n 2, 1) := by decide +kernel
theorem dX12_to_10 : decode cX12_to 10 = .ok (.invokevirtual 100, 3) := by decide +kernel
theorem dX12_to_13 : decode cX12_to 13 = .ok (.ifCond .ne 9, 3) := by decide +kernel
theorem dX12_to_22 : decode cX12_to 22 = .ok (.aload_n 0, 1) := by decide +kernel
theorem dX12_to_23 : decode cX12_to 23 = .ok (.getfield 7, 3) := by decide +kernel
theorem dX12_to_26 : decode cX12_to 26 = .ok (.bipush 97, 2) := by decide +kernel
theorem dX12_to_28 : decode cX12_to 28 = .ok (.iload_n 1, 1) := by decide +kernel
theorem dX12_to_29 : decode cX12_to 29 = .ok (.iadd, 1) := by decide +kernel
theorem dX12_to_30 : decode cX12_to 30 = .ok (.iaload, 1) := by decide +kernel
theorem dX12_to_31 : decode cX12_to 31 = .ok (.ifCond .ge 10, 3) := by decide +kernel
theorem dX12_to_41 : decode cX12_to 41 = .ok (.aload_n 0, 1) := by decide +kernel
theorem dX12_to_42 : decode cX12_to 42 = .ok (.getfield 7, 3) := by decide +kernel
theorem dX12_to_45 : decode cX12_to 45 = .ok (.bipush 97, 2) := by decide +kernel
theorem dX12_to_47 : decode cX12_to 47 = .ok (.iload_n 1, 1) := by decide +kernel
theorem dX12_to_48 : decode cX12_to 48 = .ok (.iadd, 1) := by decide +kernel
theorem dX12_to_49 : decode cX12_to 49 = .ok (.iaload, 1) := by decide +kernel
theorem dX12_to_50 : decode cX12_to 50 = .ok (.iload_n 2, 1) := by decide +kernel
theorem dX12_to_51 : decode cX12_to 51 = .ok (.if_icmp .ne 10, 3) := by decide +kernel
theorem dX12_to_61 : decode cX12_to 61 = .ok (.aload_n 0, 1) := by decide +kernel
theorem dX12_to_62 : decode cX12_to 62 = .ok (.iload_n 2, 1) := by decide +kernel
theorem dX12_to_63 : decode cX12_to 63 = .ok (.aload_n 0, 1) := by decide +kernel
theorem dX12_to_64 : decode cX12_to 64 = .ok (.getfield 7, 3) := by decide +kernel
theorem dX12_to_67 : decode cX12_to 67 = .ok (.iconst 3, 1) := by decide +kernel
theorem dX12_to_68 : decode cX12_to 68 = .ok (.iaload, 1) := by decide +kernel
theorem dX12_to_69 : decode cX12_to 69 = .ok (.aload_n 0, 1) := by decide +kernel
theorem dX12_to_70 : decode cX12_to 70 = .ok (.getfield 7, 3) := by decide +kernel
theorem dX12_to_73 : decode cX12_to 73 = .ok (.bipush 47, 2) := by decide +kernel
theorem dX12_to_75 : decode cX12_to 75 = .ok (.iload_n 1, 1) := by decide +kernel
theorem dX12_to_76 : decode cX12_to 76 = .ok (.iadd, 1) := by decide +kernel
theorem dX12_to_77 : decode cX12_to 77 = .ok (.iaload, 1) := by decide +kernel
theorem dX12_to_78 : decode cX12_to 78 = .ok (.isub, 1) := by decide +kernel
theorem dX12_to_79 : decode cX12_to 79 = .ok (.invokevirtual 85, 3) := by decide +kernel
theorem dX12_to_82 : decode cX12_to 82 = .ok (.ifCond .ne 9, 3) := by decide +kernel
theorem dX12_to_91 : decode cX12_to 91 = .ok (.aload_n 0, 1) := by decide +kernel
theorem dX12_to_92 : decode cX12_to 92 = .ok (.iload_n 2, 1) := by decide +kernel
theorem dX12_to_93 : decode cX12_to 93 = .ok (.invokevirtual 103, 3) := by decide +kernel
theorem dX12_to_96 : decode cX12_to 96 = .ok (.invokestatic 106, 3) := by decide +kernel
theorem dX12_to_99 : decode cX12_to 99 = .ok (.aload_n 0, 1) := by decide +kernel
theorem dX12_to_100 : decode cX12_to 100 = .ok (.getfield 7, 3) := by decide +kernel
theorem dX12_to_103 : decode cX12_to 103 = .ok (.bipush 21, 2) := by decide +kernel
theorem dX12_to_105 : decode cX12_to 105 = .ok (.iload_n 2, 1) := by decide +kernel
theorem dX12_to_106 : decode cX12_to 106 = .ok (.iadd, 1) := by decide +kernel
theorem dX12_to_107 : decode cX12_to 107 = .ok (.iaload, 1) := by decide +kernel
theorem dX12_to_108 : decode cX12_to 108 = .ok (.if_icmp .lt 9, 3) := by decide +kernel
theorem dX12_to_117 : decode cX12_to 117 = .ok (.aload_n 0, 1) := by decide +kernel
theorem dX12_to_118 : decode cX12_to 118 = .ok (.invokevirtual 72, 3) := by decide +kernel
theorem dX12_to_121 : decode cX12_to 121 = .ok (.aload_n 0, 1) := by decide +kernel
theorem dX12_to_122 : decode cX12_to 122 = .ok (.getfield 7, 3) := by decide +kernel
theorem dX12_to_125 : decode cX12_to 125 = .ok (.bipush 97, 2) := by decide +kernel
theorem dX12_to_127 : decode cX12_to 127 = .ok (.iload_n 1, 1) := by decide +kernel
theorem dX12_to_128 : decode cX12_to 128 = .ok (.iadd, 1) := by decide +kernel
theorem dX12_to_129 : decode cX12_to 129 = .ok (.iaload, 1) := by decide +kernel
theorem dX12_to_130 : decode cX12_to 130 = .ok (.istore_n 3, 1) := by decide +kernel
theorem dX12_to_131 : decode cX12_to 131 = .ok (.aload_n 0, 1) := by decide +kernel
theorem dX12_to_132 : decode cX12_to 132 = .ok (.getfield 7, 3) := by decide +kernel
theorem dX12_to_135 : decode cX12_to 135 = .ok (.bipush 97, 2) := by decide +kernel
theorem dX12_to_137 : decode cX12_to 137 = .ok (.iload_n 1, 1) := by decide +kernel
theorem dX12_to_138 : decode cX12_to 138 = .ok (.iadd, 1) := by decide +kernel
theorem dX12_to_139 : decode cX12_to 139 = .ok (.iload_n 2, 1) := by decide +kernel
theorem dX12_to_140 : decode cX12_to 140 = .ok (.iastore, 1) := by decide +kernel
theorem dX12_to_141 : decode cX12_to 141 = .ok (.iload_n 3, 1) := by decide +kernel
theorem dX12_to_142 : decode cX12_to 142 = .ok (.ireturn, 1) := by decide +kernel
theorem dX12_to_111 : decode cX12_to 111 = .ok (.aload_n 0, 1) := by decide +kernel
theorem dX12_to_112 : decode cX12_to 112 = .ok (.iconst 5, 1) := by decide +kernel
theorem dX12_to_113 : decode cX12_to 113 = .ok (.invokevirtual 68, 3) := by decide +kernel
theorem dX12_to_116 : decode cX12_to 116 = .ok (.ireturn, 1) := by decide +kernel
theorem dX12_to_85 : decode cX12_to 85 = .ok (.aload_n 0, 1) := by decide +kernel
theorem dX12_to_86 : decode cX12_to 86 = .ok (.iconst 4, 1) := by decide +kernel
theorem dX12_to_87 : decode cX12_to 87 = .ok (.invokevirtual 68, 3) := by decide +kernel
theorem dX12_to_90 : decode cX12_to 90 = .ok (.ireturn, 1) := by decide +kernel
theorem dX12_to_54 : decode cX12_to 54 = .ok (.aload_n 0, 1) := by decide +kernel
theorem dX12_to_55 : decode cX12_to 55 = .ok (.bipush 7, 2) := by decide +kernel
theorem dX12_to_57 : decode cX12_to 57 = .ok (.invokevirtual 68, 3) := by decide +kernel
theorem dX12_to_60 : decode cX12_to 60 = .ok (.ireturn, 1) := by decide +kernel
theorem dX12_to_34 : decode cX12_to 34 = .ok (.aload_n 0, 1) := by decide +kernel
theorem dX12_to_35 : decode cX12_to 35 = .ok (.bipush 6, 2) := by decide +kernel
theorem dX12_to_37 : decode cX12_to 37 = .ok (.invokevirtual 68, 3) := by decide +kernel
theorem dX12_to_40 : decode cX12_to 40 = .ok (.ireturn, 1) := by decide +kernel
theorem dX12_to_16 : decode cX12_to 16 = .ok (.aload_n 0, 1) := by decide +kernel
theorem dX12_to_17 : decode cX12_to 17 = .ok (.iconst 1, 1) := by decide +kernel
theorem dX12_to_18 : decode cX12_to 18 = .ok (.invokevirtual 68, 3) := by decide +kernel
theorem dX12_to_21 : decode cX12_to 21 = .ok (.ireturn, 1) := by decide +kernel
set_option maxHeartbeats 8000000 in
set_option maxRecDepth 100000 in
theorem c_X12_to (l : Launch) (g : kG) (sz : Nat) (z : Nat → Nat) (kp : Nat) (xs : Nat → Int32) (D : Nat → Int32) (Wk : Nat → Int32) (x : Int32) (y : Int32) (hDI : DI D) (hkp : kp ≤ 16) (hWI : WI Wk kp) : kMi l g yX12_to cX12_to 4 (some .int) 4 0 0 [.ref (z 0), .int x, .int y] sz [(z 0, .inr (12, [.ref (z 1), .ref (z 2), .int (nI kp), .int (xs 0), .ref (z 3), .ref (z 4), .ref (z 5), .ref (z 6), .int (xs 1), .ref (z 7), .ref (z 8), .ref (z 9), .ref (z 10), .ref (z 11), .ref (z 12), .int (xs 2), .ref (z 13), .ref (z 14), .int (xs 3), .ref (z 15)])), (z 1, .inl (gI g, 461, .inl D)), (z 2, .inl (gI g, 7376, .inl Wk))] (fun (r : Int32) (u : Nat × (Nat → Int32) × (Nat → Int32) × (Nat → Int32)) => u.1 ≤ 16 ∧ DI u.2.2.1 ∧ WI u.2.2.2 u.1) (fun (u : Nat × (Nat → Int32) × (Nat → Int32) × (Nat → Int32)) => ([(z 0, .inr (12, [.ref (z 1), .ref (z 2), .int (nI u.1), .int (u.2.1 0), .ref (z 3), .ref (z 4), .ref (z 5), .ref (z 6), .int (u.2.1 1), .ref (z 7), .ref (z 8), .ref (z 9), .ref (z 10), .ref (z 11), .ref (z 12), .int (u.2.1 2), .ref (z 13), .ref (z 14), .int (u.2.1 3), .ref (z 15)])), (z 1, .inl (gI g, 461, .inl u.2.2.1)), (z 2, .inl (gI g, 7376, .inl u.2.2.2))] : va_W)) := by
  refine kMi.of (by decide) (Nat.le_of_ble_eq_true rfl) (fun p e s m below meth c A hx hb hr hml hown hts hlk hnm hKW hP hD hS hA ls hl => ?_)
  have hown : s.vm.findClass RX12 = some m.cls := hown
  have hl : lv_has ls 4 [(0, .ref (z 0)), (1, .int x), (2, .int y)] := hl
  refine k_hide hP hS (fun H locs hP hS => ?_)
  refine lv_aload_n hx hb dX12_to_0 rfl (lv_at hl 0 rfl) ?_
  refine lv_iload_n hx hb dX12_to_1 rfl (lv_at hl 1 rfl) ?_
  refine k_Vi [0, 1] [2] 0 12 (wr := [(z 2, .inl (gI g, 7376, .inl Wk))]) hx hb hml hown hts hKW hP hD hS hA hl.1 (c_X12_isChild l g _ z kp xs D x (by first | assumption | omega | decide)) rfl rfl rfl wd_13_19 wd_1_5 wd_13_16 wd_13_17 wd_13_18 yd_X12_isChild ⟨(Nat.le_of_ble_eq_true rfl), (Nat.le_of_ble_eq_true rfl)⟩ rfl rfl rfl rfl (by decide) rfl (Nat.le_of_ble_eq_true rfl) dX12_to_2 ⟨(Nat.le_of_ble_eq_true rfl), (Nat.le_of_ble_eq_true rfl)⟩ (fun r_1 u_2 H locs hw_3 hP hD hS => ?_)
  have hP : va_P g.1 vwCl [(z 2, .inl (gI g, 7376, .inl Wk)), (z 0, .inr (12, [.ref (z 1), .ref (z 2), .int (nI kp), .int (xs 0), .ref (z 3), .ref (z 4), .ref (z 5), .ref (z 6), .int (xs 1), .ref (z 7), .ref (z 8), .ref (z 9), .ref (z 10), .ref (z 11), .ref (z 12), .int (xs 2), .ref (z 13), .ref (z 14), .int (xs 3), .ref (z 15)])), (z 1, .inl (gI g, 461, .inl D))] H := hP
  have hD : va_D A [(z 2, .inl (gI g, 7376, .inl Wk)), (z 0, .inr (12, [.ref (z 1), .ref (z 2), .int (nI kp), .int (xs 0), .ref (z 3), .ref (z 4), .ref (z 5), .ref (z 6), .int (xs 1), .ref (z 7), .ref (z 8), .ref (z 9), .ref (z 10), .ref (z 11), .ref (z 12), .int (xs 2), .ref (z 13), .ref (z 14), .int (xs 3), .ref (z 15)])), (z 1, .inl (gI g, 461, .inl D))] := hD
  rcases (show (r_1 = 1 ∧ (∃ j : Nat, (j < 10 ∧ (j : Int) < (D 2).toInt) ∧ x = nI j)) ∨ (r_1 = 0 ∧ ¬ (∃ j : Nat, (j < 10 ∧ (j : Int) < (D 2).toInt) ∧ x = nI j)) from hw_3) with ⟨rfl, hw_3b⟩ | ⟨rfl, hw_3b⟩ <;> clear hw_3
  · obtain ⟨j_4, hj_4, rfl⟩ := hw_3b
    refine lv_if_eq (tgt := 16) hx hb dX12_to_5 (by decide) (fun c => absurd c (by decide)) (fun _ => ?_)
    refine lv_aload_n hx hb dX12_to_8 rfl (lv_at hl 0 rfl) ?_
    refine lv_iload_n hx hb dX12_to_9 rfl (lv_at hl 2 rfl) ?_
    refine k_Vi [1, 2] [0] 1 12 (wr := [(z 2, .inl (gI g, 7376, .inl Wk))]) hx hb hml hown hts hKW hP hD hS hA hl.1 (c_X12_isRoom l g _ z kp xs D y (by first | assumption | omega | decide)) rfl rfl rfl wd_20_4 wd_1_5 wd_20_1 wd_20_2 wd_20_3 yd_X12_isRoom ⟨(Nat.le_of_ble_eq_true rfl), (Nat.le_of_ble_eq_true rfl)⟩ rfl rfl rfl rfl (by decide) rfl (Nat.le_of_ble_eq_true rfl) dX12_to_10 ⟨(Nat.le_of_ble_eq_true rfl), (Nat.le_of_ble_eq_true rfl)⟩ (fun r_5 u_6 H locs hw_7 hP hD hS => ?_)
    have hP : va_P g.1 vwCl [(z 2, .inl (gI g, 7376, .inl Wk)), (z 0, .inr (12, [.ref (z 1), .ref (z 2), .int (nI kp), .int (xs 0), .ref (z 3), .ref (z 4), .ref (z 5), .ref (z 6), .int (xs 1), .ref (z 7), .ref (z 8), .ref (z 9), .ref (z 10), .ref (z 11), .ref (z 12), .int (xs 2), .ref (z 13), .ref (z 14), .int (xs 3), .ref (z 15)])), (z 1, .inl (gI g, 461, .inl D))] H := hP
    have hD : va_D A [(z 2, .inl (gI g, 7376, .inl Wk)), (z 0, .inr (12, [.ref (z 1), .ref (z 2), .int (nI kp), .int (xs 0), .ref (z 3), .ref (z 4), .ref (z 5), .ref (z 6), .int (xs 1), .ref (z 7), .ref (z 8), .ref (z 9), .ref (z 10), .ref (z 11), .ref (z 12), .int (xs 2), .ref (z 13), .ref (z 14), .int (xs 3), .ref (z 15)])), (z 1, .inl (gI g, 461, .inl D))] := hD
    rcases (show (r_5 = 1 ∧ (∃ j : Nat, (j < 5 ∧ (j : Int) < (D 0).toInt) ∧ y = nI j)) ∨ (r_5 = 0 ∧ ¬ (∃ j : Nat, (j < 5 ∧ (j : Int) < (D 0).toInt) ∧ y = nI j)) from hw_7) with ⟨rfl, hw_7b⟩ | ⟨rfl, hw_7b⟩ <;> clear hw_7
    · obtain ⟨j_8, hj_8, rfl⟩ := hw_7b
      refine lv_if_ne (tgt := 22) hx hb dX12_to_13 (by decide) (fun _ => ?_) (fun c => absurd c (by decide))
      refine lv_aload_n hx hb dX12_to_22 rfl (lv_at hl 0 rfl) ?_
      refine va_get (ci := 12) (C := RX12) (T := TX12) (N := 20) hx hb hts inlX12 hown hKW.1 hP 1 rfl rfl 0 (by decide) (hts _ wd_6_5) (fun _ h => h) rfl dX12_to_23 ?_
      refine lv_bipush (v := 97) hx hb dX12_to_26 (by decide) ?_
      refine lv_iload_n hx hb dX12_to_28 rfl (lv_at hl 1 rfl) ?_
      refine lv_iadd hx hb dX12_to_29 ?_
      refine k_top (y := nI (j_4 + 97)) (by rw [Nat.add_comm]; exact nI_add 97 j_4) ?_
      refine va_iald hx hb hKW.1 hP 2 0 rfl rfl (vp_in_nI (by omega) (by decide)) dX12_to_30 ?_
      refine lv_topi (fun x_9 ex_9 => ?_)
      refine lv_if_ge (tgt := 41) hx hb dX12_to_31 (by decide) (fun c_10 => ?_) (fun c_10 => ?_)
      · refine lv_aload_n hx hb dX12_to_41 rfl (lv_at hl 0 rfl) ?_
        refine va_get (ci := 12) (C := RX12) (T := TX12) (N := 20) hx hb hts inlX12 hown hKW.1 hP 1 rfl rfl 0 (by decide) (hts _ wd_6_5) (fun _ h => h) rfl dX12_to_42 ?_
        refine lv_bipush (v := 97) hx hb dX12_to_45 (by decide) ?_
        refine lv_iload_n hx hb dX12_to_47 rfl (lv_at hl 1 rfl) ?_
        refine lv_iadd hx hb dX12_to_48 ?_
        refine k_top (y := nI (j_4 + 97)) (by rw [Nat.add_comm]; exact nI_add 97 j_4) ?_
        refine va_iald hx hb hKW.1 hP 2 0 rfl rfl (vp_in_nI (by omega) (by decide)) dX12_to_49 ?_
        refine lv_topi (fun x_11 ex_11 => ?_)
        refine lv_iload_n hx hb dX12_to_50 rfl (lv_at hl 2 rfl) ?_
        refine lv_icmp_ne (tgt := 61) hx hb dX12_to_51 (by decide) (fun c_12 => ?_) (fun c_12 => ?_)
        · refine lv_aload_n hx hb dX12_to_61 rfl (lv_at hl 0 rfl) ?_
          refine lv_iload_n hx hb dX12_to_62 rfl (lv_at hl 2 rfl) ?_
          refine lv_aload_n hx hb dX12_to_63 rfl (lv_at hl 0 rfl) ?_
          refine va_get (ci := 12) (C := RX12) (T := TX12) (N := 20) hx hb hts inlX12 hown hKW.1 hP 1 rfl rfl 0 (by decide) (hts _ wd_6_5) (fun _ h => h) rfl dX12_to_64 ?_
          refine lv_iconst (v := 3) hx hb dX12_to_67 (by decide) ?_
          refine va_iald hx hb hKW.1 hP 2 0 rfl rfl (show ¬ _ by decide) dX12_to_68 ?_
          refine lv_topi (fun x_13 ex_13 => ?_)
          refine lv_aload_n hx hb dX12_to_69 rfl (lv_at hl 0 rfl) ?_
          refine va_get (ci := 12) (C := RX12) (T := TX12) (N := 20) hx hb hts inlX12 hown hKW.1 hP 1 rfl rfl 0 (by decide) (hts _ wd_6_5) (fun _ h => h) rfl dX12_to_70 ?_
          refine lv_bipush (v := 47) hx hb dX12_to_73 (by decide) ?_
          refine lv_iload_n hx hb dX12_to_75 rfl (lv_at hl 1 rfl) ?_
          refine lv_iadd hx hb dX12_to_76 ?_
          refine k_top (y := nI (j_4 + 47)) (by rw [Nat.add_comm]; exact nI_add 47 j_4) ?_
          refine va_iald hx hb hKW.1 hP 2 0 rfl rfl (vp_in_nI (by omega) (by decide)) dX12_to_77 ?_
          refine lv_topi (fun x_14 ex_14 => ?_)
          refine lv_isub hx hb dX12_to_78 ?_
          refine lv_topi (fun x_15 ex_15 => ?_)
          refine k_Vi [1, 2] [0] 1 12 (wr := [(z 2, .inl (gI g, 7376, .inl Wk))]) hx hb hml hown hts hKW hP hD hS hA hl.1 (c_X12_takes l g _ z kp xs D j_8 x_15 (by first | assumption | omega | decide)) rfl rfl rfl wd_15_23 wd_1_5 wd_15_20 wd_15_21 wd_15_22 yd_X12_takes ⟨(Nat.le_of_ble_eq_true rfl), (Nat.le_of_ble_eq_true rfl)⟩ rfl rfl rfl rfl (by decide) rfl (Nat.le_of_ble_eq_true rfl) dX12_to_79 ⟨(Nat.le_of_ble_eq_true rfl), (Nat.le_of_ble_eq_true rfl)⟩ (fun r_16 u_17 H locs hw_18 hP hD hS => ?_)
          have hP : va_P g.1 vwCl [(z 2, .inl (gI g, 7376, .inl Wk)), (z 0, .inr (12, [.ref (z 1), .ref (z 2), .int (nI kp), .int (xs 0), .ref (z 3), .ref (z 4), .ref (z 5), .ref (z 6), .int (xs 1), .ref (z 7), .ref (z 8), .ref (z 9), .ref (z 10), .ref (z 11), .ref (z 12), .int (xs 2), .ref (z 13), .ref (z 14), .int (xs 3), .ref (z 15)])), (z 1, .inl (gI g, 461, .inl D))] H := hP
          have hD : va_D A [(z 2, .inl (gI g, 7376, .inl Wk)), (z 0, .inr (12, [.ref (z 1), .ref (z 2), .int (nI kp), .int (xs 0), .ref (z 3), .ref (z 4), .ref (z 5), .ref (z 6), .int (xs 1), .ref (z 7), .ref (z 8), .ref (z 9), .ref (z 10), .ref (z 11), .ref (z 12), .int (xs 2), .ref (z 13), .ref (z 14), .int (xs 3), .ref (z 15)])), (z 1, .inl (gI g, 461, .inl D))] := hD
          rcases (show r_16 = 1 ∨ r_16 = 0 from hw_18) with rfl | rfl <;> clear hw_18
          · refine lv_if_ne (tgt := 91) hx hb dX12_to_82 (by decide) (fun _ => ?_) (fun c => absurd c (by decide))
            refine lv_aload_n hx hb dX12_to_91 rfl (lv_at hl 0 rfl) ?_
            refine lv_iload_n hx hb dX12_to_92 rfl (lv_at hl 2 rfl) ?_
            refine k_Vi [1, 2] [0] 1 12 (wr := [(z 2, .inl (gI g, 7376, .inl Wk))]) hx hb hml hown hts hKW hP hD hS hA hl.1 (c_X12_childrenIn l g _ z kp xs D (nI j_8) (by first | assumption | omega | decide)) rfl rfl rfl wd_20_8 wd_1_5 wd_20_5 wd_20_6 wd_20_7 yd_X12_childrenIn ⟨(Nat.le_of_ble_eq_true rfl), (Nat.le_of_ble_eq_true rfl)⟩ rfl rfl rfl rfl (by decide) rfl (Nat.le_of_ble_eq_true rfl) dX12_to_93 ⟨(Nat.le_of_ble_eq_true rfl), (Nat.le_of_ble_eq_true rfl)⟩ (fun r_19 u_20 H locs hw_21 hP hD hS => ?_)
            have hP : va_P g.1 vwCl [(z 2, .inl (gI g, 7376, .inl Wk)), (z 0, .inr (12, [.ref (z 1), .ref (z 2), .int (nI kp), .int (xs 0), .ref (z 3), .ref (z 4), .ref (z 5), .ref (z 6), .int (xs 1), .ref (z 7), .ref (z 8), .ref (z 9), .ref (z 10), .ref (z 11), .ref (z 12), .int (xs 2), .ref (z 13), .ref (z 14), .int (xs 3), .ref (z 15)])), (z 1, .inl (gI g, 461, .inl D))] H := hP
            have hD : va_D A [(z 2, .inl (gI g, 7376, .inl Wk)), (z 0, .inr (12, [.ref (z 1), .ref (z 2), .int (nI kp), .int (xs 0), .ref (z 3), .ref (z 4), .ref (z 5), .ref (z 6), .int (xs 1), .ref (z 7), .ref (z 8), .ref (z 9), .ref (z 10), .ref (z 11), .ref (z 12), .int (xs 2), .ref (z 13), .ref (z 14), .int (xs 3), .ref (z 15)])), (z 1, .inl (gI g, 461, .inl D))] := hD
            refine k_Si [] [0, 1, 2] (wr := [(z 2, .inl (gI g, 7376, .inl Wk)), (z 0, .inr (12, [.ref (z 1), .ref (z 2), .int (nI kp), .int (xs 0), .ref (z 3), .ref (z 4), .ref (z 5), .ref (z 6), .int (xs 1), .ref (z 7), .ref (z 8), .ref (z 9), .ref (z 10), .ref (z 11), .ref (z 12), .int (xs 2), .ref (z 13), .ref (z 14), .int (xs 3), .ref (z 15)])), (z 1, .inl (gI g, 461, .inl D))]) hx hb hml hown hts hKW hP hD hS hA hl.1 (c_X12_ones l g _ r_19 ) wd_20_11 wd_1_5 wd_20_9 wd_20_10 yd_X12_ones ⟨(Nat.le_of_ble_eq_true rfl), (Nat.le_of_ble_eq_true rfl)⟩ rfl rfl rfl rfl (by decide) rfl (Nat.le_of_ble_eq_true rfl) dX12_to_96 ⟨(Nat.le_of_ble_eq_true rfl), (Nat.le_of_ble_eq_true rfl)⟩ (fun r_22 u_23 H locs hw_24 hP hD hS => ?_)
            have hP : va_P g.1 vwCl [(z 2, .inl (gI g, 7376, .inl Wk)), (z 0, .inr (12, [.ref (z 1), .ref (z 2), .int (nI kp), .int (xs 0), .ref (z 3), .ref (z 4), .ref (z 5), .ref (z 6), .int (xs 1), .ref (z 7), .ref (z 8), .ref (z 9), .ref (z 10), .ref (z 11), .ref (z 12), .int (xs 2), .ref (z 13), .ref (z 14), .int (xs 3), .ref (z 15)])), (z 1, .inl (gI g, 461, .inl D))] H := hP
            have hD : va_D A [(z 2, .inl (gI g, 7376, .inl Wk)), (z 0, .inr (12, [.ref (z 1), .ref (z 2), .int (nI kp), .int (xs 0), .ref (z 3), .ref (z 4), .ref (z 5), .ref (z 6), .int (xs 1), .ref (z 7), .ref (z 8), .ref (z 9), .ref (z 10), .ref (z 11), .ref (z 12), .int (xs 2), .ref (z 13), .ref (z 14), .int (xs 3), .ref (z 15)])), (z 1, .inl (gI g, 461, .inl D))] := hD
            refine lv_aload_n hx hb dX12_to_99 rfl (lv_at hl 0 rfl) ?_
            refine va_get (ci := 12) (C := RX12) (T := TX12) (N := 20) hx hb hts inlX12 hown hKW.1 hP 1 rfl rfl 0 (by decide) (hts _ wd_6_5) (fun _ h => h) rfl dX12_to_100 ?_
            refine lv_bipush (v := 21) hx hb dX12_to_103 (by decide) ?_
            refine lv_iload_n hx hb dX12_to_105 rfl (lv_at hl 2 rfl) ?_
            refine lv_iadd hx hb dX12_to_106 ?_
            refine k_top (y := nI (j_8 + 21)) (by rw [Nat.add_comm]; exact nI_add 21 j_8) ?_
            refine va_iald hx hb hKW.1 hP 2 0 rfl rfl (vp_in_nI (by omega) (by decide)) dX12_to_107 ?_
            refine lv_topi (fun x_25 ex_25 => ?_)
            refine lv_icmp_lt (tgt := 117) hx hb dX12_to_108 (by decide) (fun c_26 => ?_) (fun c_26 => ?_)
            · refine lv_aload_n hx hb dX12_to_117 rfl (lv_at hl 0 rfl) ?_
              refine k_Vv [1, 2, 0] [] 1 12 (wr := []) hx hb hml hown hts hKW hP hD hS hA hl.1 (c_X12_keep l g _ z kp xs D Wk (by first | assumption | omega | decide) (by first | assumption | omega | decide) (by first | assumption | omega | decide)) rfl rfl rfl wd_10_21 wd_1_5 wd_10_18 wd_10_19 wd_10_20 yd_X12_keep ⟨(Nat.le_of_ble_eq_true rfl), (Nat.le_of_ble_eq_true rfl)⟩ rfl rfl rfl rfl (by decide) rfl (Nat.le_of_ble_eq_true rfl) dX12_to_118 ⟨(Nat.le_of_ble_eq_true rfl), (Nat.le_of_ble_eq_true rfl)⟩ (fun u_28 H locs hw_29 hP hD hS => ?_)
              obtain ⟨q_30, f_31⟩ := u_28
              have hP : va_P g.1 vwCl [(z 0, .inr (12, [.ref (z 1), .ref (z 2), .int (nI q_30), .int (xs 0), .ref (z 3), .ref (z 4), .ref (z 5), .ref (z 6), .int (xs 1), .ref (z 7), .ref (z 8), .ref (z 9), .ref (z 10), .ref (z 11), .ref (z 12), .int (xs 2), .ref (z 13), .ref (z 14), .int (xs 3), .ref (z 15)])), (z 1, .inl (gI g, 461, .inl D)), (z 2, .inl (gI g, 7376, .inl f_31))] H := hP
              have hD : va_D A [(z 0, .inr (12, [.ref (z 1), .ref (z 2), .int (nI q_30), .int (xs 0), .ref (z 3), .ref (z 4), .ref (z 5), .ref (z 6), .int (xs 1), .ref (z 7), .ref (z 8), .ref (z 9), .ref (z 10), .ref (z 11), .ref (z 12), .int (xs 2), .ref (z 13), .ref (z 14), .int (xs 3), .ref (z 15)])), (z 1, .inl (gI g, 461, .inl D)), (z 2, .inl (gI g, 7376, .inl f_31))] := hD
              have hw_29 : q_30 ≤ 16 ∧ WI f_31 q_30 := hw_29
              obtain ⟨hkk, hkW⟩ := hw_29
              refine lv_aload_n hx hb dX12_to_121 rfl (lv_at hl 0 rfl) ?_
              refine va_get (ci := 12) (C := RX12) (T := TX12) (N := 20) hx hb hts inlX12 hown hKW.1 hP 0 rfl rfl 0 (by decide) (hts _ wd_6_5) (fun _ h => h) rfl dX12_to_122 ?_
              refine lv_bipush (v := 97) hx hb dX12_to_125 (by decide) ?_
              refine lv_iload_n hx hb dX12_to_127 rfl (lv_at hl 1 rfl) ?_
              refine lv_iadd hx hb dX12_to_128 ?_
              refine k_top (y := nI (j_4 + 97)) (by rw [Nat.add_comm]; exact nI_add 97 j_4) ?_
              refine va_iald hx hb hKW.1 hP 1 0 rfl rfl (vp_in_nI (by omega) (by decide)) dX12_to_129 ?_
              refine lv_topi (fun x_32 ex_32 => ?_)
              refine lv_istore_n (lv' := [(3, .int x_32), (0, .ref (z 0)), (1, .int (nI j_4)), (2, .int (nI j_8))]) hx hb dX12_to_130 rfl hl (by decide) rfl (fun ls hl => ?_)
              refine lv_aload_n hx hb dX12_to_131 rfl (lv_at hl 1 rfl) ?_
              refine va_get (ci := 12) (C := RX12) (T := TX12) (N := 20) hx hb hts inlX12 hown hKW.1 hP 0 rfl rfl 0 (by decide) (hts _ wd_6_5) (fun _ h => h) rfl dX12_to_132 ?_
              refine lv_bipush (v := 97) hx hb dX12_to_135 (by decide) ?_
              refine lv_iload_n hx hb dX12_to_137 rfl (lv_at hl 2 rfl) ?_
              refine lv_iadd hx hb dX12_to_138 ?_
              refine k_top (y := nI (j_4 + 97)) (by rw [Nat.add_comm]; exact nI_add 97 j_4) ?_
              refine lv_iload_n hx hb dX12_to_139 rfl (lv_at hl 3 rfl) ?_
              refine va_iast hx hb hKW.1 hP hD hS 1 0 rfl rfl (vp_in_nI (by omega) (by decide)) dX12_to_140 (fun H locs hP hD hS => ?_)
              have hP : va_P g.1 vwCl [(z 0, .inr (12, [.ref (z 1), .ref (z 2), .int (nI q_30), .int (xs 0), .ref (z 3), .ref (z 4), .ref (z 5), .ref (z 6), .int (xs 1), .ref (z 7), .ref (z 8), .ref (z 9), .ref (z 10), .ref (z 11), .ref (z 12), .int (xs 2), .ref (z 13), .ref (z 14), .int (xs 3), .ref (z 15)])), (z 1, .inl (gI g, 461, .inl (upd D (nI (j_4 + 97)).toNatClampNeg (nI j_8)))), (z 2, .inl (gI g, 7376, .inl f_31))] H := hP
              have hD : va_D A [(z 0, .inr (12, [.ref (z 1), .ref (z 2), .int (nI q_30), .int (xs 0), .ref (z 3), .ref (z 4), .ref (z 5), .ref (z 6), .int (xs 1), .ref (z 7), .ref (z 8), .ref (z 9), .ref (z 10), .ref (z 11), .ref (z 12), .int (xs 2), .ref (z 13), .ref (z 14), .int (xs 3), .ref (z 15)])), (z 1, .inl (gI g, 461, .inl (upd D (nI (j_4 + 97)).toNatClampNeg (nI j_8)))), (z 2, .inl (gI g, 7376, .inl f_31))] := hD
              obtain ⟨f_33, ef_33⟩ : ∃ zz_ : Nat → Int32, zz_ = upd D (nI (j_4 + 97)).toNatClampNeg (nI j_8) := ⟨_, rfl⟩
              rw [← ef_33] at hP hD
              have hDf_33 : DI f_33 := DI.free (i := (j_4 + 97)) (x := nI j_8) hDI (by rw [ef_33, nI_clamp (by omega)]) (by unfold dFree; omega)
              refine lv_iload_n hx hb dX12_to_141 rfl (lv_at hl 0 rfl) ?_
              exact k_iret (q_30, xs, f_33, f_31) [0, 1, 2] hx hb hr hlk hP hD hS (⟨hkk, hDf_33, hkW⟩) rfl rfl rfl (Nat.le_of_ble_eq_true rfl) (Nat.le_of_ble_eq_true rfl) dX12_to_142
            · refine lv_aload_n hx hb dX12_to_111 rfl (lv_at hl 0 rfl) ?_
              refine lv_iconst (v := 5) hx hb dX12_to_112 (by decide) ?_
              refine k_Vi [1] [0, 2] 1 12 (wr := [(z 2, .inl (gI g, 7376, .inl Wk)), (z 1, .inl (gI g, 461, .inl D))]) hx hb hml hown hts hKW hP hD hS hA hl.1 (c_X12_finding_5 l g _ z kp xs ) rfl rfl rfl wd_10_15 wd_1_5 wd_10_12 wd_10_13 wd_10_14 yd_X12_finding ⟨(Nat.le_of_ble_eq_true rfl), (Nat.le_of_ble_eq_true rfl)⟩ rfl rfl rfl rfl (by decide) rfl (Nat.le_of_ble_eq_true rfl) dX12_to_113 ⟨(Nat.le_of_ble_eq_true rfl), (Nat.le_of_ble_eq_true rfl)⟩ (fun r_34 u_35 H locs hw_36 hP hD hS => ?_)
              have hP : va_P g.1 vwCl [(z 2, .inl (gI g, 7376, .inl Wk)), (z 1, .inl (gI g, 461, .inl D)), (z 0, .inr (12, [.ref (z 1), .ref (z 2), .int (nI kp), .int u_35, .ref (z 3), .ref (z 4), .ref (z 5), .ref (z 6), .int (xs 1), .ref (z 7), .ref (z 8), .ref (z 9), .ref (z 10), .ref (z 11), .ref (z 12), .int (xs 2), .ref (z 13), .ref (z 14), .int (xs 3), .ref (z 15)]))] H := hP
              have hD : va_D A [(z 2, .inl (gI g, 7376, .inl Wk)), (z 1, .inl (gI g, 461, .inl D)), (z 0, .inr (12, [.ref (z 1), .ref (z 2), .int (nI kp), .int u_35, .ref (z 3), .ref (z 4), .ref (z 5), .ref (z 6), .int (xs 1), .ref (z 7), .ref (z 8), .ref (z 9), .ref (z 10), .ref (z 11), .ref (z 12), .int (xs 2), .ref (z 13), .ref (z 14), .int (xs 3), .ref (z 15)]))] := hD
              have hw_36 : r_34 = (-100005) := hw_36
              subst hw_36
              exact k_iret (kp, (fun kk_ => ([u_35, (xs 1), (xs 2), (xs 3)] : List Int32).getD kk_ 0), D, Wk) [2, 1, 0] hx hb hr hlk hP hD hS (⟨hkp, hDI, hWI⟩) rfl rfl rfl (Nat.le_of_ble_eq_true rfl) (Nat.le_of_ble_eq_true rfl) dX12_to_116
          · refine lv_if_ne (tgt := 91) hx hb dX12_to_82 (by decide) (fun c => absurd c (by decide)) (fun _ => ?_)
            refine lv_aload_n hx hb dX12_to_85 rfl (lv_at hl 0 rfl) ?_
            refine lv_iconst (v := 4) hx hb dX12_to_86 (by decide) ?_
            refine k_Vi [1] [0, 2] 1 12 (wr := [(z 2, .inl (gI g, 7376, .inl Wk)), (z 1, .inl (gI g, 461, .inl D))]) hx hb hml hown hts hKW hP hD hS hA hl.1 (c_X12_finding_4 l g _ z kp xs ) rfl rfl rfl wd_10_15 wd_1_5 wd_10_12 wd_10_13 wd_10_14 yd_X12_finding ⟨(Nat.le_of_ble_eq_true rfl), (Nat.le_of_ble_eq_true rfl)⟩ rfl rfl rfl rfl (by decide) rfl (Nat.le_of_ble_eq_true rfl) dX12_to_87 ⟨(Nat.le_of_ble_eq_true rfl), (Nat.le_of_ble_eq_true rfl)⟩ (fun r_37 u_38 H locs hw_39 hP hD hS => ?_)
            have hP : va_P g.1 vwCl [(z 2, .inl (gI g, 7376, .inl Wk)), (z 1, .inl (gI g, 461, .inl D)), (z 0, .inr (12, [.ref (z 1), .ref (z 2), .int (nI kp), .int u_38, .ref (z 3), .ref (z 4), .ref (z 5), .ref (z 6), .int (xs 1), .ref (z 7), .ref (z 8), .ref (z 9), .ref (z 10), .ref (z 11), .ref (z 12), .int (xs 2), .ref (z 13), .ref (z 14), .int (xs 3), .ref (z 15)]))] H := hP
            have hD : va_D A [(z 2, .inl (gI g, 7376, .inl Wk)), (z 1, .inl (gI g, 461, .inl D)), (z 0, .inr (12, [.ref (z 1), .ref (z 2), .int (nI kp), .int u_38, .ref (z 3), .ref (z 4), .ref (z 5), .ref (z 6), .int (xs 1), .ref (z 7), .ref (z 8), .ref (z 9), .ref (z 10), .ref (z 11), .ref (z 12), .int (xs 2), .ref (z 13), .ref (z 14), .int (xs 3), .ref (z 15)]))] := hD
            have hw_39 : r_37 = (-100004) := hw_39
            subst hw_39
            exact k_iret (kp, (fun kk_ => ([u_38, (xs 1), (xs 2), (xs 3)] : List Int32).getD kk_ 0), D, Wk) [2, 1, 0] hx hb hr hlk hP hD hS (⟨hkp, hDI, hWI⟩) rfl rfl rfl (Nat.le_of_ble_eq_true rfl) (Nat.le_of_ble_eq_true rfl) dX12_to_90
        · refine lv_aload_n hx hb dX12_to_54 rfl (lv_at hl 0 rfl) ?_
          refine lv_bipush (v := 7) hx hb dX12_to_55 (by decide) ?_
          refine k_Vi [1] [0, 2] 1 12 (wr := [(z 2, .inl (gI g, 7376, .inl Wk)), (z 1, .inl (gI g, 461, .inl D))]) hx hb hml hown hts hKW hP hD hS hA hl.1 (c_X12_finding_7 l g _ z kp xs ) rfl rfl rfl wd_10_15 wd_1_5 wd_10_12 wd_10_13 wd_10_14 yd_X12_finding ⟨(Nat.le_of_ble_eq_true rfl), (Nat.le_of_ble_eq_true rfl)⟩ rfl rfl rfl rfl (by decide) rfl (Nat.le_of_ble_eq_true rfl) dX12_to_57 ⟨(Nat.le_of_ble_eq_true rfl), (Nat.le_of_ble_eq_true rfl)⟩ (fun r_40 u_41 H locs hw_42 hP hD hS => ?_)
          have hP : va_P g.1 vwCl [(z 2, .inl (gI g, 7376, .inl Wk)), (z 1, .inl (gI g, 461, .inl D)), (z 0, .inr (12, [.ref (z 1), .ref (z 2), .int (nI kp), .int u_41, .ref (z 3), .ref (z 4), .ref (z 5), .ref (z 6), .int (xs 1), .ref (z 7), .ref (z 8), .ref (z 9), .ref (z 10), .ref (z 11), .ref (z 12), .int (xs 2), .ref (z 13), .ref (z 14), .int (xs 3), .ref (z 15)]))] H := hP
          have hD : va_D A [(z 2, .inl (gI g, 7376, .inl Wk)), (z 1, .inl (gI g, 461, .inl D)), (z 0, .inr (12, [.ref (z 1), .ref (z 2), .int (nI kp), .int u_41, .ref (z 3), .ref (z 4), .ref (z 5), .ref (z 6), .int (xs 1), .ref (z 7), .ref (z 8), .ref (z 9), .ref (z 10), .ref (z 11), .ref (z 12), .int (xs 2), .ref (z 13), .ref (z 14), .int (xs 3), .ref (z 15)]))] := hD
          have hw_42 : r_40 = (-100007) := hw_42
          subst hw_42
          exact k_iret (kp, (fun kk_ => ([u_41, (xs 1), (xs 2), (xs 3)] : List Int32).getD kk_ 0), D, Wk) [2, 1, 0] hx hb hr hlk hP hD hS (⟨hkp, hDI, hWI⟩) rfl rfl rfl (Nat.le_of_ble_eq_true rfl) (Nat.le_of_ble_eq_true rfl) dX12_to_60
      · refine lv_aload_n hx hb dX12_to_34 rfl (lv_at hl 0 rfl) ?_
        refine lv_bipush (v := 6) hx hb dX12_to_35 (by decide) ?_
        refine k_Vi [1] [0, 2] 1 12 (wr := [(z 2, .inl (gI g, 7376, .inl Wk)), (z 1, .inl (gI g, 461, .inl D))]) hx hb hml hown hts hKW hP hD hS hA hl.1 (c_X12_finding_6 l g _ z kp xs ) rfl rfl rfl wd_10_15 wd_1_5 wd_10_12 wd_10_13 wd_10_14 yd_X12_finding ⟨(Nat.le_of_ble_eq_true rfl), (Nat.le_of_ble_eq_true rfl)⟩ rfl rfl rfl rfl (by decide) rfl (Nat.le_of_ble_eq_true rfl) dX12_to_37 ⟨(Nat.le_of_ble_eq_true rfl), (Nat.le_of_ble_eq_true rfl)⟩ (fun r_43 u_44 H locs hw_45 hP hD hS => ?_)
        have hP : va_P g.1 vwCl [(z 2, .inl (gI g, 7376, .inl Wk)), (z 1, .inl (gI g, 461, .inl D)), (z 0, .inr (12, [.ref (z 1), .ref (z 2), .int (nI kp), .int u_44, .ref (z 3), .ref (z 4), .ref (z 5), .ref (z 6), .int (xs 1), .ref (z 7), .ref (z 8), .ref (z 9), .ref (z 10), .ref (z 11), .ref (z 12), .int (xs 2), .ref (z 13), .ref (z 14), .int (xs 3), .ref (z 15)]))] H := hP
        have hD : va_D A [(z 2, .inl (gI g, 7376, .inl Wk)), (z 1, .inl (gI g, 461, .inl D)), (z 0, .inr (12, [.ref (z 1), .ref (z 2), .int (nI kp), .int u_44, .ref (z 3), .ref (z 4), .ref (z 5), .ref (z 6), .int (xs 1), .ref (z 7), .ref (z 8), .ref (z 9), .ref (z 10), .ref (z 11), .ref (z 12), .int (xs 2), .ref (z 13), .ref (z 14), .int (xs 3), .ref (z 15)]))] := hD
        have hw_45 : r_43 = (-100006) := hw_45
        subst hw_45
        exact k_iret (kp, (fun kk_ => ([u_44, (xs 1), (xs 2), (xs 3)] : List Int32).getD kk_ 0), D, Wk) [2, 1, 0] hx hb hr hlk hP hD hS (⟨hkp, hDI, hWI⟩) rfl rfl rfl (Nat.le_of_ble_eq_true rfl) (Nat.le_of_ble_eq_true rfl) dX12_to_40
    · refine lv_if_ne (tgt := 22) hx hb dX12_to_13 (by decide) (fun c => absurd c (by decide)) (fun _ => ?_)
      refine lv_aload_n hx hb dX12_to_16 rfl (lv_at hl 0 rfl) ?_
      refine lv_iconst (v := 1) hx hb dX12_to_17 (by decide) ?_
      refine k_Vi [1] [0, 2] 1 12 (wr := [(z 2, .inl (gI g, 7376, .inl Wk)), (z 1, .inl (gI g, 461, .inl D))]) hx hb hml hown hts hKW hP hD hS hA hl.1 (c_X12_finding_1 l g _ z kp xs ) rfl rfl rfl wd_10_15 wd_1_5 wd_10_12 wd_10_13 wd_10_14 yd_X12_finding ⟨(Nat.le_of_ble_eq_true rfl), (Nat.le_of_ble_eq_true rfl)⟩ rfl rfl rfl rfl (by decide) rfl (Nat.le_of_ble_eq_true rfl) dX12_to_18 ⟨(Nat.le_of_ble_eq_true rfl), (Nat.le_of_ble_eq_true rfl)⟩ (fun r_46 u_47 H locs hw_48 hP hD hS => ?_)
      have hP : va_P g.1 vwCl [(z 2, .inl (gI g, 7376, .inl Wk)), (z 1, .inl (gI g, 461, .inl D)), (z 0, .inr (12, [.ref (z 1), .ref (z 2), .int (nI kp), .int u_47, .ref (z 3), .ref (z 4), .ref (z 5), .ref (z 6), .int (xs 1), .ref (z 7), .ref (z 8), .ref (z 9), .ref (z 10), .ref (z 11), .ref (z 12), .int (xs 2), .ref (z 13), .ref (z 14), .int (xs 3), .ref (z 15)]))] H := hP
      have hD : va_D A [(z 2, .inl (gI g, 7376, .inl Wk)), (z 1, .inl (gI g, 461, .inl D)), (z 0, .inr (12, [.ref (z 1), .ref (z 2), .int (nI kp), .int u_47, .ref (z 3), .ref (z 4), .ref (z 5), .ref (z 6), .int (xs 1), .ref (z 7), .ref (z 8), .ref (z 9), .ref (z 10), .ref (z 11), .ref (z 12), .int (xs 2), .ref (z 13), .ref (z 14), .int (xs 3), .ref (z 15)]))] := hD
      have hw_48 : r_46 = (-100001) := hw_48
      subst hw_48
      exact k_iret (kp, (fun kk_ => ([u_47, (xs 1), (xs 2), (xs 3)] : List Int32).getD kk_ 0), D, Wk) [2, 1, 0] hx hb hr hlk hP hD hS (⟨hkp, hDI, hWI⟩) rfl rfl rfl (Nat.le_of_ble_eq_true rfl) (Nat.le_of_ble_eq_true rfl) dX12_to_21
  · refine lv_if_eq (tgt := 16) hx hb dX12_to_5 (by decide) (fun _ => ?_) (fun c => absurd c (by decide))
    refine lv_aload_n hx hb dX12_to_16 rfl (lv_at hl 0 rfl) ?_
    refine lv_iconst (v := 1) hx hb dX12_to_17 (by decide) ?_
    refine k_Vi [1] [0, 2] 1 12 (wr := [(z 2, .inl (gI g, 7376, .inl Wk)), (z 1, .inl (gI g, 461, .inl D))]) hx hb hml hown hts hKW hP hD hS hA hl.1 (c_X12_finding_1 l g _ z kp xs ) rfl rfl rfl wd_10_15 wd_1_5 wd_10_12 wd_10_13 wd_10_14 yd_X12_finding ⟨(Nat.le_of_ble_eq_true rfl), (Nat.le_of_ble_eq_true rfl)⟩ rfl rfl rfl rfl (by decide) rfl (Nat.le_of_ble_eq_true rfl) dX12_to_18 ⟨(Nat.le_of_ble_eq_true rfl), (Nat.le_of_ble_eq_true rfl)⟩ (fun r_49 u_50 H locs hw_51 hP hD hS => ?_)
    have hP : va_P g.1 vwCl [(z 2, .inl (gI g, 7376, .inl Wk)), (z 1, .inl (gI g, 461, .inl D)), (z 0, .inr (12, [.ref (z 1), .ref (z 2), .int (nI kp), .int u_50, .ref (z 3), .ref (z 4), .ref (z 5), .ref (z 6), .int (xs 1), .ref (z 7), .ref (z 8), .ref (z 9), .ref (z 10), .ref (z 11), .ref (z 12), .int (xs 2), .ref (z 13), .ref (z 14), .int (xs 3), .ref (z 15)]))] H := hP
    have hD : va_D A [(z 2, .inl (gI g, 7376, .inl Wk)), (z 1, .inl (gI g, 461, .inl D)), (z 0, .inr (12, [.ref (z 1), .ref (z 2), .int (nI kp), .int u_50, .ref (z 3), .ref (z 4), .ref (z 5), .ref (z 6), .int (xs 1), .ref (z 7), .ref (z 8), .ref (z 9), .ref (z 10), .ref (z 11), .ref (z 12), .int (xs 2), .ref (z 13), .ref (z 14), .int (xs 3), .ref (z 15)]))] := hD
    have hw_51 : r_49 = (-100001) := hw_51
    subst hw_51
    exact k_iret (kp, (fun kk_ => ([u_50, (xs 1), (xs 2), (xs 3)] : List Int32).getD kk_ 0), D, Wk) [2, 1, 0] hx hb hr hlk hP hD hS (⟨hkp, hDI, hWI⟩) rfl rfl rfl (Nat.le_of_ble_eq_true rfl) (Nat.le_of_ble_eq_true rfl) dX12_to_21
theorem dX12_over_0 : decode cX12_over 0 = .ok (.aload_n 0, 1) := by decide +kernel
theorem dX12_over_1 : decode cX12_over 1 = .ok (.iload_n 1, 1) := by decide +kernel
theorem dX12_over_2 : decode cX12_over 2 = .ok (.invokevirtual 82, 3) := by decide +kernel
theorem dX12_over_5 : decode cX12_over 5 = .ok (.ifCond .eq 13, 3) := by decide +kernel
theorem dX12_over_8 : decode cX12_over 8 = .ok (.iload_n 2, 1) := by decide +kernel
theorem dX12_over_9 : decode cX12_over 9 = .ok (.iconst 0, 1) := by decide +kernel
theorem dX12_over_10 : decode cX12_over 10 = .ok (.bipush 15, 2) := by decide +kernel
theorem dX12_over_12 : decode cX12_over 12 = .ok (.invokestatic 64, 3) := by decide +kernel
theorem dX12_over_15 : decode cX12_over 15 = .ok (.ifCond .ne 9, 3) := by decide +kernel
theorem dX12_over_24 : decode cX12_over 24 = .ok (.aload_n 0, 1) := by decide +kernel
theorem dX12_over_25 : decode cX12_over 25 = .ok (.getfield 7, 3) := by decide +kernel
theorem dX12_over_28 : decode cX12_over 28 = .ok (.bipush 97, 2) := by decide +kernel
theorem dX12_over_30 : decode cX12_over 30 = .ok (.iload_n 1, 1) := by decide +kernel
theorem dX12_over_31 : decode cX12_over 31 = .ok (.iadd, 1) := by decide +kernel
theorem dX12_over_32 : decode cX12_over 32 = .ok (.iaload, 1) := by decide +kernel
theorem dX12_over_33 : decode cX12_over 33 = .ok (.ifCond .ge 10, 3) := by decide +kernel
theorem dX12_over_43 : decode cX12_over 43 = .ok (.aload_n 0, 1) := by decide +kernel
theorem dX12_over_44 : decode cX12_over 44 = .ok (.getfield 7, 3) := by decide +kernel
theorem dX12_over_47 : decode cX12_over 47 = .ok (.bipush 127, 2) := by decide +kernel
theorem dX12_over_49 : decode cX12_over 49 = .ok (.iload_n 1, 1) := by decide +kernel
theorem dX12_over_50 : decode cX12_over 50 = .ok (.iadd, 1) := by decide +kernel
theorem dX12_over_51 : decode cX12_over 51 = .ok (.iaload, 1) := by decide +kernel
theorem dX12_over_52 : decode cX12_over 52 = .ok (.iload_n 2, 1) := by decide +kernel
theorem dX12_over_53 : decode cX12_over 53 = .ok (.ishr, 1) := by decide +kernel
theorem dX12_over_54 : decode cX12_over 54 = .ok (.iconst 1, 1) := by decide +kernel
theorem dX12_over_55 : decode cX12_over 55 = .ok (.iand, 1) := by decide +kernel
theorem dX12_over_56 : decode cX12_over 56 = .ok (.ifCond .ne 10, 3) := by decide +kernel
theorem dX12_over_66 : decode cX12_over 66 = .ok (.aload_n 0, 1) := by decide +kernel
theorem dX12_over_67 : decode cX12_over 67 = .ok (.invokevirtual 72, 3) := by decide +kernel
theorem dX12_over_70 : decode cX12_over 70 = .ok (.aload_n 0, 1) := by decide +kernel
theorem dX12_over_71 : decode cX12_over 71 = .ok (.getfield 7, 3) := by decide +kernel
theorem dX12_over_74 : decode cX12_over 74 = .ok (.bipush 97, 2) := by decide +kernel
theorem dX12_over_76 : decode cX12_over 76 = .ok (.iload_n 1, 1) := by decide +kernel
theorem dX12_over_77 : decode cX12_over 77 = .ok (.iadd, 1) := by decide +kernel
theorem dX12_over_78 : decode cX12_over 78 = .ok (.iconst (-1), 1) := by decide +kernel
theorem dX12_over_79 : decode cX12_over 79 = .ok (.iastore, 1) := by decide +kernel
theorem dX12_over_80 : decode cX12_over 80 = .ok (.aload_n 0, 1) := by decide +kernel
theorem dX12_over_81 : decode cX12_over 81 = .ok (.getfield 7, 3) := by decide +kernel
theorem dX12_over_84 : decode cX12_over 84 = .ok (.bipush 107, 2) := by decide +kernel
theorem dX12_over_86 : decode cX12_over 86 = .ok (.iload_n 1, 1) := by decide +kernel
theorem dX12_over_87 : decode cX12_over 87 = .ok (.iadd, 1) := by decide +kernel
theorem dX12_over_88 : decode cX12_over 88 = .ok (.iaload, 1) := by decide +kernel
theorem dX12_over_89 : decode cX12_over 89 = .ok (.iconst 1, 1) := by decide +kernel
theorem dX12_over_90 : decode cX12_over 90 = .ok (.if_icmp .ne 9, 3) := by decide +kernel
theorem dX12_over_99 : decode cX12_over 99 = .ok (.aload_n 0, 1) := by decide +kernel
theorem dX12_over_100 : decode cX12_over 100 = .ok (.getfield 7, 3) := by decide +kernel
theorem dX12_over_103 : decode cX12_over 103 = .ok (.bipush 107, 2) := by decide +kernel
theorem dX12_over_105 : decode cX12_over 105 = .ok (.iload_n 1, 1) := by decide +kernel
theorem dX12_over_106 : decode cX12_over 106 = .ok (.iadd, 1) := by decide +kernel
theorem dX12_over_107 : decode cX12_over 107 = .ok (.iconst 0, 1) := by decide +kernel
theorem dX12_over_108 : decode cX12_over 108 = .ok (.iastore, 1) := by decide +kernel
theorem dX12_over_109 : decode cX12_over 109 = .ok (.aload_n 0, 1) := by decide +kernel
theorem dX12_over_110 : decode cX12_over 110 = .ok (.iload_n 1, 1) := by decide +kernel
theorem dX12_over_111 : decode cX12_over 111 = .ok (.iconst 2, 1) := by decide +kernel
theorem dX12_over_112 : decode cX12_over 112 = .ok (.invokevirtual 109, 3) := by decide +kernel
theorem dX12_over_115 : decode cX12_over 115 = .ok (.iconst 1, 1) := by decide +kernel
theorem dX12_over_116 : decode cX12_over 116 = .ok (.ireturn, 1) := by decide +kernel
theorem dX12_over_93 : decode cX12_over 93 = .ok (.aload_n 0, 1) := by decide +kernel
theorem dX12_over_94 : decode cX12_over 94 = .ok (.iload_n 1, 1) := by decide +kernel
theorem dX12_over_95 : decode cX12_over 95 = .ok (.iconst 3, 1) := by decide +kernel
theorem dX12_over_96 : decode cX12_over 96 = .ok (.invokevirtual 113, 3) := by decide +kernel
theorem dX12_over_59 : decode cX12_over 59 = .ok (.aload_n 0, 1) := by decide +kernel
theorem dX12_over_60 : decode cX12_over 60 = .ok (.bipush 8, 2) := by decide +kernel
theorem dX12_over_62 : decode cX12_over 62 = .ok (.invokevirtual 68, 3) := by decide +kernel
theorem dX12_over_65 : decode cX12_over 65 = .ok (.ireturn, 1) := by decide +kernel
theorem dX12_over_36 : decode cX12_over 36 = .ok (.aload_n 0, 1) := by decide +kernel
theorem dX12_over_37 : decode cX12_over 37 = .ok (.bipush 6, 2) := by decide +kernel
theorem dX12_over_39 : decode cX12_over 39 = .ok (.invokevirtual 68, 3) := by decide +kernel
theorem dX12_over_42 : decode cX12_over 42 = .ok (.ireturn, 1) := by decide +kernel
theorem dX12_over_18 : decode cX12_over 18 = .ok (.aload_n 0, 1) := by decide +kernel
theorem dX12_over_19 : decode cX12_over 19 = .ok (.iconst 1, 1) := by decide +kernel
theorem dX12_over_20 : decode cX12_over 20 = .ok (.invokevirtual 68, 3) := by decide +kernel
theorem dX12_over_23 : decode cX12_over 23 = .ok (.ireturn, 1) := by decide +kernel
set_option maxHeartbeats 8000000 in
set_option maxRecDepth 100000 in
theorem c_X12_over (l : Launch) (g : kG) (sz : Nat) (z : Nat → Nat) (kp : Nat) (xs : Nat → Int32) (D : Nat → Int32) (Wk : Nat → Int32) (x : Int32) (y : Int32) (hDI : DI D) (hkp : kp ≤ 16) (hWI : WI Wk kp) : kMi l g yX12_over cX12_over 3 (some .int) 4 0 0 [.ref (z 0), .int x, .int y] sz [(z 0, .inr (12, [.ref (z 1), .ref (z 2), .int (nI kp), .int (xs 0), .ref (z 3), .ref (z 4), .ref (z 5), .ref (z 6), .int (xs 1), .ref (z 7), .ref (z 8), .ref (z 9), .ref (z 10), .ref (z 11), .ref (z 12), .int (xs 2), .ref (z 13), .ref (z 14), .int (xs 3), .ref (z 15)])), (z 1, .inl (gI g, 461, .inl D)), (z 2, .inl (gI g, 7376, .inl Wk))] (fun (r : Int32) (u : Nat × (Nat → Int32) × (Nat → Int32) × (Nat → Int32)) => u.1 ≤ 16 ∧ DI u.2.2.1 ∧ WI u.2.2.2 u.1) (fun (u : Nat × (Nat → Int32) × (Nat → Int32) × (Nat → Int32)) => ([(z 0, .inr (12, [.ref (z 1), .ref (z 2), .int (nI u.1), .int (u.2.1 0), .ref (z 3), .ref (z 4), .ref (z 5), .ref (z 6), .int (u.2.1 1), .ref (z 7), .ref (z 8), .ref (z 9), .ref (z 10), .ref (z 11), .ref (z 12), .int (u.2.1 2), .ref (z 13), .ref (z 14), .int (u.2.1 3), .ref (z 15)])), (z 1, .inl (gI g, 461, .inl u.2.2.1)), (z 2, .inl (gI g, 7376, .inl u.2.2.2))] : va_W)) := by
  refine kMi.of (by decide) (Nat.le_of_ble_eq_true rfl) (fun p e s m below meth c A hx hb hr hml hown hts hlk hnm hKW hP hD hS hA ls hl => ?_)
  have hown : s.vm.findClass RX12 = some m.cls := hown
  have hl : lv_has ls 3 [(0, .ref (z 0)), (1, .int x), (2, .int y)] := hl
  refine k_hide hP hS (fun H locs hP hS => ?_)
  refine lv_aload_n hx hb dX12_over_0 rfl (lv_at hl 0 rfl) ?_
  refine lv_iload_n hx hb dX12_over_1 rfl (lv_at hl 1 rfl) ?_
  refine k_Vi [0, 1] [2] 0 12 (wr := [(z 2, .inl (gI g, 7376, .inl Wk))]) hx hb hml hown hts hKW hP hD hS hA hl.1 (c_X12_isChild l g _ z kp xs D x (by first | assumption | omega | decide)) rfl rfl rfl wd_13_19 wd_1_5 wd_13_16 wd_13_17 wd_13_18 yd_X12_isChild ⟨(Nat.le_of_ble_eq_true rfl), (Nat.le_of_ble_eq_true rfl)⟩ rfl rfl rfl rfl (by decide) rfl (Nat.le_of_ble_eq_true rfl) dX12_over_2 ⟨(Nat.le_of_ble_eq_true rfl), (Nat.le_of_ble_eq_true rfl)⟩ (fun r_1 u_2 H locs hw_3 hP hD hS => ?_)
  have hP : va_P g.1 vwCl [(z 2, .inl (gI g, 7376, .inl Wk)), (z 0, .inr (12, [.ref (z 1), .ref (z 2), .int (nI kp), .int (xs 0), .ref (z 3), .ref (z 4), .ref (z 5), .ref (z 6), .int (xs 1), .ref (z 7), .ref (z 8), .ref (z 9), .ref (z 10), .ref (z 11), .ref (z 12), .int (xs 2), .ref (z 13), .ref (z 14), .int (xs 3), .ref (z 15)])), (z 1, .inl (gI g, 461, .inl D))] H := hP
  have hD : va_D A [(z 2, .inl (gI g, 7376, .inl Wk)), (z 0, .inr (12, [.ref (z 1), .ref (z 2), .int (nI kp), .int (xs 0), .ref (z 3), .ref (z 4), .ref (z 5), .ref (z 6), .int (xs 1), .ref (z 7), .ref (z 8), .ref (z 9), .ref (z 10), .ref (z 11), .ref (z 12), .int (xs 2), .ref (z 13), .ref (z 14), .int (xs 3), .ref (z 15)])), (z 1, .inl (gI g, 461, .inl D))] := hD
  rcases (show (r_1 = 1 ∧ (∃ j : Nat, (j < 10 ∧ (j : Int) < (D 2).toInt) ∧ x = nI j)) ∨ (r_1 = 0 ∧ ¬ (∃ j : Nat, (j < 10 ∧ (j : Int) < (D 2).toInt) ∧ x = nI j)) from hw_3) with ⟨rfl, hw_3b⟩ | ⟨rfl, hw_3b⟩ <;> clear hw_3
  · obtain ⟨j_4, hj_4, rfl⟩ := hw_3b
    refine lv_if_eq (tgt := 18) hx hb dX12_over_5 (by decide) (fun c => absurd c (by decide)) (fun _ => ?_)
    refine lv_iload_n hx hb dX12_over_8 rfl (lv_at hl 2 rfl) ?_
    refine lv_iconst (v := 0) hx hb dX12_over_9 (by decide) ?_
    refine lv_bipush (v := 15) hx hb dX12_over_10 (by decide) ?_
    refine k_Si [] [0, 1, 2] (wr := [(z 2, .inl (gI g, 7376, .inl Wk)), (z 0, .inr (12, [.ref (z 1), .ref (z 2), .int (nI kp), .int (xs 0), .ref (z 3), .ref (z 4), .ref (z 5), .ref (z 6), .int (xs 1), .ref (z 7), .ref (z 8), .ref (z 9), .ref (z 10), .ref (z 11), .ref (z 12), .int (xs 2), .ref (z 13), .ref (z 14), .int (xs 3), .ref (z 15)])), (z 1, .inl (gI g, 461, .inl D))]) hx hb hml hown hts hKW hP hD hS hA hl.1 (c_X12_isIn l g _ y 0 15 ) wd_10_11 wd_1_5 wd_10_9 wd_10_10 yd_X12_isIn ⟨(Nat.le_of_ble_eq_true rfl), (Nat.le_of_ble_eq_true rfl)⟩ rfl rfl rfl rfl (by decide) rfl (Nat.le_of_ble_eq_true rfl) dX12_over_12 ⟨(Nat.le_of_ble_eq_true rfl), (Nat.le_of_ble_eq_true rfl)⟩ (fun r_5 u_6 H locs hw_7 hP hD hS => ?_)
    have hP : va_P g.1 vwCl [(z 2, .inl (gI g, 7376, .inl Wk)), (z 0, .inr (12, [.ref (z 1), .ref (z 2), .int (nI kp), .int (xs 0), .ref (z 3), .ref (z 4), .ref (z 5), .ref (z 6), .int (xs 1), .ref (z 7), .ref (z 8), .ref (z 9), .ref (z 10), .ref (z 11), .ref (z 12), .int (xs 2), .ref (z 13), .ref (z 14), .int (xs 3), .ref (z 15)])), (z 1, .inl (gI g, 461, .inl D))] H := hP
    have hD : va_D A [(z 2, .inl (gI g, 7376, .inl Wk)), (z 0, .inr (12, [.ref (z 1), .ref (z 2), .int (nI kp), .int (xs 0), .ref (z 3), .ref (z 4), .ref (z 5), .ref (z 6), .int (xs 1), .ref (z 7), .ref (z 8), .ref (z 9), .ref (z 10), .ref (z 11), .ref (z 12), .int (xs 2), .ref (z 13), .ref (z 14), .int (xs 3), .ref (z 15)])), (z 1, .inl (gI g, 461, .inl D))] := hD
    rcases (show (r_5 = 1 ∧ (Int32.toInt 0 ≤ Int32.toInt y ∧ Int32.toInt y ≤ Int32.toInt 15)) ∨ (r_5 = 0 ∧ ¬ (Int32.toInt 0 ≤ Int32.toInt y ∧ Int32.toInt y ≤ Int32.toInt 15)) from hw_7) with ⟨rfl, hw_7b⟩ | ⟨rfl, hw_7b⟩ <;> clear hw_7
    · refine lv_if_ne (tgt := 24) hx hb dX12_over_15 (by decide) (fun _ => ?_) (fun c => absurd c (by decide))
      refine lv_aload_n hx hb dX12_over_24 rfl (lv_at hl 0 rfl) ?_
      refine va_get (ci := 12) (C := RX12) (T := TX12) (N := 20) hx hb hts inlX12 hown hKW.1 hP 1 rfl rfl 0 (by decide) (hts _ wd_6_5) (fun _ h => h) rfl dX12_over_25 ?_
      refine lv_bipush (v := 97) hx hb dX12_over_28 (by decide) ?_
      refine lv_iload_n hx hb dX12_over_30 rfl (lv_at hl 1 rfl) ?_
      refine lv_iadd hx hb dX12_over_31 ?_
      refine k_top (y := nI (j_4 + 97)) (by rw [Nat.add_comm]; exact nI_add 97 j_4) ?_
      refine va_iald hx hb hKW.1 hP 2 0 rfl rfl (vp_in_nI (by omega) (by decide)) dX12_over_32 ?_
      refine lv_topi (fun x_8 ex_8 => ?_)
      refine lv_if_ge (tgt := 43) hx hb dX12_over_33 (by decide) (fun c_9 => ?_) (fun c_9 => ?_)
      · refine lv_aload_n hx hb dX12_over_43 rfl (lv_at hl 0 rfl) ?_
        refine va_get (ci := 12) (C := RX12) (T := TX12) (N := 20) hx hb hts inlX12 hown hKW.1 hP 1 rfl rfl 0 (by decide) (hts _ wd_6_5) (fun _ h => h) rfl dX12_over_44 ?_
        refine lv_bipush (v := 127) hx hb dX12_over_47 (by decide) ?_
        refine lv_iload_n hx hb dX12_over_49 rfl (lv_at hl 1 rfl) ?_
        refine lv_iadd hx hb dX12_over_50 ?_
        refine k_top (y := nI (j_4 + 127)) (by rw [Nat.add_comm]; exact nI_add 127 j_4) ?_
        refine va_iald hx hb hKW.1 hP 2 0 rfl rfl (vp_in_nI (by omega) (by decide)) dX12_over_51 ?_
        refine lv_topi (fun x_10 ex_10 => ?_)
        refine lv_iload_n hx hb dX12_over_52 rfl (lv_at hl 2 rfl) ?_
        refine lv_ishr hx hb dX12_over_53 ?_
        refine lv_topi (fun x_11 ex_11 => ?_)
        refine lv_iconst (v := 1) hx hb dX12_over_54 (by decide) ?_
        refine lv_iand hx hb dX12_over_55 ?_
        refine lv_topi (fun x_12 ex_12 => ?_)
        refine lv_if_ne (tgt := 66) hx hb dX12_over_56 (by decide) (fun c_13 => ?_) (fun c_13 => ?_)
        · refine lv_aload_n hx hb dX12_over_66 rfl (lv_at hl 0 rfl) ?_
          refine k_Vv [1, 2, 0] [] 1 12 (wr := []) hx hb hml hown hts hKW hP hD hS hA hl.1 (c_X12_keep l g _ z kp xs D Wk (by first | assumption | omega | decide) (by first | assumption | omega | decide) (by first | assumption | omega | decide)) rfl rfl rfl wd_10_21 wd_1_5 wd_10_18 wd_10_19 wd_10_20 yd_X12_keep ⟨(Nat.le_of_ble_eq_true rfl), (Nat.le_of_ble_eq_true rfl)⟩ rfl rfl rfl rfl (by decide) rfl (Nat.le_of_ble_eq_true rfl) dX12_over_67 ⟨(Nat.le_of_ble_eq_true rfl), (Nat.le_of_ble_eq_true rfl)⟩ (fun u_15 H locs hw_16 hP hD hS => ?_)
          obtain ⟨q_17, f_18⟩ := u_15
          have hP : va_P g.1 vwCl [(z 0, .inr (12, [.ref (z 1), .ref (z 2), .int (nI q_17), .int (xs 0), .ref (z 3), .ref (z 4), .ref (z 5), .ref (z 6), .int (xs 1), .ref (z 7), .ref (z 8), .ref (z 9), .ref (z 10), .ref (z 11), .ref (z 12), .int (xs 2), .ref (z 13), .ref (z 14), .int (xs 3), .ref (z 15)])), (z 1, .inl (gI g, 461, .inl D)), (z 2, .inl (gI g, 7376, .inl f_18))] H := hP
          have hD : va_D A [(z 0, .inr (12, [.ref (z 1), .ref (z 2), .int (nI q_17), .int (xs 0), .ref (z 3), .ref (z 4), .ref (z 5), .ref (z 6), .int (xs 1), .ref (z 7), .ref (z 8), .ref (z 9), .ref (z 10), .ref (z 11), .ref (z 12), .int (xs 2), .ref (z 13), .ref (z 14), .int (xs 3), .ref (z 15)])), (z 1, .inl (gI g, 461, .inl D)), (z 2, .inl (gI g, 7376, .inl f_18))] := hD
          have hw_16 : q_17 ≤ 16 ∧ WI f_18 q_17 := hw_16
          obtain ⟨hkk, hkW⟩ := hw_16
          refine lv_aload_n hx hb dX12_over_70 rfl (lv_at hl 0 rfl) ?_
          refine va_get (ci := 12) (C := RX12) (T := TX12) (N := 20) hx hb hts inlX12 hown hKW.1 hP 0 rfl rfl 0 (by decide) (hts _ wd_6_5) (fun _ h => h) rfl dX12_over_71 ?_
          refine lv_bipush (v := 97) hx hb dX12_over_74 (by decide) ?_
          refine lv_iload_n hx hb dX12_over_76 rfl (lv_at hl 1 rfl) ?_
          refine lv_iadd hx hb dX12_over_77 ?_
          refine k_top (y := nI (j_4 + 97)) (by rw [Nat.add_comm]; exact nI_add 97 j_4) ?_
          refine lv_iconst (v := (-1)) hx hb dX12_over_78 (by decide) ?_
          refine va_iast hx hb hKW.1 hP hD hS 1 0 rfl rfl (vp_in_nI (by omega) (by decide)) dX12_over_79 (fun H locs hP hD hS => ?_)
          have hP : va_P g.1 vwCl [(z 0, .inr (12, [.ref (z 1), .ref (z 2), .int (nI q_17), .int (xs 0), .ref (z 3), .ref (z 4), .ref (z 5), .ref (z 6), .int (xs 1), .ref (z 7), .ref (z 8), .ref (z 9), .ref (z 10), .ref (z 11), .ref (z 12), .int (xs 2), .ref (z 13), .ref (z 14), .int (xs 3), .ref (z 15)])), (z 1, .inl (gI g, 461, .inl (upd D (nI (j_4 + 97)).toNatClampNeg (-1)))), (z 2, .inl (gI g, 7376, .inl f_18))] H := hP
          have hD : va_D A [(z 0, .inr (12, [.ref (z 1), .ref (z 2), .int (nI q_17), .int (xs 0), .ref (z 3), .ref (z 4), .ref (z 5), .ref (z 6), .int (xs 1), .ref (z 7), .ref (z 8), .ref (z 9), .ref (z 10), .ref (z 11), .ref (z 12), .int (xs 2), .ref (z 13), .ref (z 14), .int (xs 3), .ref (z 15)])), (z 1, .inl (gI g, 461, .inl (upd D (nI (j_4 + 97)).toNatClampNeg (-1)))), (z 2, .inl (gI g, 7376, .inl f_18))] := hD
          obtain ⟨f_19, ef_19⟩ : ∃ zz_ : Nat → Int32, zz_ = upd D (nI (j_4 + 97)).toNatClampNeg (-1) := ⟨_, rfl⟩
          rw [← ef_19] at hP hD
          have hDf_19 : DI f_19 := DI.free (i := (j_4 + 97)) (x := (-1)) hDI (by rw [ef_19, nI_clamp (by omega)]) (by unfold dFree; omega)
          refine lv_aload_n hx hb dX12_over_80 rfl (lv_at hl 0 rfl) ?_
          refine va_get (ci := 12) (C := RX12) (T := TX12) (N := 20) hx hb hts inlX12 hown hKW.1 hP 0 rfl rfl 0 (by decide) (hts _ wd_6_5) (fun _ h => h) rfl dX12_over_81 ?_
          refine lv_bipush (v := 107) hx hb dX12_over_84 (by decide) ?_
          refine lv_iload_n hx hb dX12_over_86 rfl (lv_at hl 1 rfl) ?_
          refine lv_iadd hx hb dX12_over_87 ?_
          refine k_top (y := nI (j_4 + 107)) (by rw [Nat.add_comm]; exact nI_add 107 j_4) ?_
          refine va_iald hx hb hKW.1 hP 1 0 rfl rfl (vp_in_nI (by omega) (by decide)) dX12_over_88 ?_
          refine lv_topi (fun x_20 ex_20 => ?_)
          refine lv_iconst (v := 1) hx hb dX12_over_89 (by decide) ?_
          refine lv_icmp_ne (tgt := 99) hx hb dX12_over_90 (by decide) (fun c_21 => ?_) (fun c_21 => ?_)
          · refine lv_aload_n hx hb dX12_over_99 rfl (lv_at hl 0 rfl) ?_
            refine va_get (ci := 12) (C := RX12) (T := TX12) (N := 20) hx hb hts inlX12 hown hKW.1 hP 0 rfl rfl 0 (by decide) (hts _ wd_6_5) (fun _ h => h) rfl dX12_over_100 ?_
            refine lv_bipush (v := 107) hx hb dX12_over_103 (by decide) ?_
            refine lv_iload_n hx hb dX12_over_105 rfl (lv_at hl 1 rfl) ?_
            refine lv_iadd hx hb dX12_over_106 ?_
            refine k_top (y := nI (j_4 + 107)) (by rw [Nat.add_comm]; exact nI_add 107 j_4) ?_
            refine lv_iconst (v := 0) hx hb dX12_over_107 (by decide) ?_
            refine va_iast hx hb hKW.1 hP hD hS 1 0 rfl rfl (vp_in_nI (by omega) (by decide)) dX12_over_108 (fun H locs hP hD hS => ?_)
            have hP : va_P g.1 vwCl [(z 0, .inr (12, [.ref (z 1), .ref (z 2), .int (nI q_17), .int (xs 0), .ref (z 3), .ref (z 4), .ref (z 5), .ref (z 6), .int (xs 1), .ref (z 7), .ref (z 8), .ref (z 9), .ref (z 10), .ref (z 11), .ref (z 12), .int (xs 2), .ref (z 13), .ref (z 14), .int (xs 3), .ref (z 15)])), (z 1, .inl (gI g, 461, .inl (upd f_19 (nI (j_4 + 107)).toNatClampNeg 0))), (z 2, .inl (gI g, 7376, .inl f_18))] H := hP
            have hD : va_D A [(z 0, .inr (12, [.ref (z 1), .ref (z 2), .int (nI q_17), .int (xs 0), .ref (z 3), .ref (z 4), .ref (z 5), .ref (z 6), .int (xs 1), .ref (z 7), .ref (z 8), .ref (z 9), .ref (z 10), .ref (z 11), .ref (z 12), .int (xs 2), .ref (z 13), .ref (z 14), .int (xs 3), .ref (z 15)])), (z 1, .inl (gI g, 461, .inl (upd f_19 (nI (j_4 + 107)).toNatClampNeg 0))), (z 2, .inl (gI g, 7376, .inl f_18))] := hD
            obtain ⟨f_22, ef_22⟩ : ∃ zz_ : Nat → Int32, zz_ = upd f_19 (nI (j_4 + 107)).toNatClampNeg 0 := ⟨_, rfl⟩
            rw [← ef_22] at hP hD
            have hDf_22 : DI f_22 := DI.free (i := (j_4 + 107)) (x := 0) hDf_19 (by rw [ef_22, nI_clamp (by omega)]) (by unfold dFree; omega)
            refine lv_aload_n hx hb dX12_over_109 rfl (lv_at hl 0 rfl) ?_
            refine lv_iload_n hx hb dX12_over_110 rfl (lv_at hl 1 rfl) ?_
            refine lv_iconst (v := 2) hx hb dX12_over_111 (by decide) ?_
            refine k_Vv [0, 1] [2] 0 12 (wr := [(z 2, .inl (gI g, 7376, .inl f_18))]) hx hb hml hown hts hKW hP hD hS hA hl.1 (c_X12_leadRoll l g _ z q_17 xs f_22 (nI j_4) 2 (by first | assumption | omega | decide)) rfl rfl rfl wd_20_15 wd_1_5 wd_20_12 wd_20_13 wd_20_14 yd_X12_leadRoll ⟨(Nat.le_of_ble_eq_true rfl), (Nat.le_of_ble_eq_true rfl)⟩ rfl rfl rfl rfl (by decide) rfl (Nat.le_of_ble_eq_true rfl) dX12_over_112 ⟨(Nat.le_of_ble_eq_true rfl), (Nat.le_of_ble_eq_true rfl)⟩ (fun u_24 H locs hw_25 hP hD hS => ?_)
            have hP : va_P g.1 vwCl [(z 2, .inl (gI g, 7376, .inl f_18)), (z 0, .inr (12, [.ref (z 1), .ref (z 2), .int (nI q_17), .int (xs 0), .ref (z 3), .ref (z 4), .ref (z 5), .ref (z 6), .int (xs 1), .ref (z 7), .ref (z 8), .ref (z 9), .ref (z 10), .ref (z 11), .ref (z 12), .int (xs 2), .ref (z 13), .ref (z 14), .int (xs 3), .ref (z 15)])), (z 1, .inl (gI g, 461, .inl u_24))] H := hP
            have hD : va_D A [(z 2, .inl (gI g, 7376, .inl f_18)), (z 0, .inr (12, [.ref (z 1), .ref (z 2), .int (nI q_17), .int (xs 0), .ref (z 3), .ref (z 4), .ref (z 5), .ref (z 6), .int (xs 1), .ref (z 7), .ref (z 8), .ref (z 9), .ref (z 10), .ref (z 11), .ref (z 12), .int (xs 2), .ref (z 13), .ref (z 14), .int (xs 3), .ref (z 15)])), (z 1, .inl (gI g, 461, .inl u_24))] := hD
            have hw_25 : DI u_24 := hw_25
            have hld_26 := hw_25
            refine lv_iconst (v := 1) hx hb dX12_over_115 (by decide) ?_
            exact k_iret (q_17, xs, u_24, f_18) [1, 2, 0] hx hb hr hlk hP hD hS (⟨hkk, hld_26, hkW⟩) rfl rfl rfl (Nat.le_of_ble_eq_true rfl) (Nat.le_of_ble_eq_true rfl) dX12_over_116
          · refine lv_aload_n hx hb dX12_over_93 rfl (lv_at hl 0 rfl) ?_
            refine lv_iload_n hx hb dX12_over_94 rfl (lv_at hl 1 rfl) ?_
            refine lv_iconst (v := 3) hx hb dX12_over_95 (by decide) ?_
            refine k_Vv [0, 1] [2] 0 12 (wr := [(z 2, .inl (gI g, 7376, .inl f_18))]) hx hb hml hown hts hKW hP hD hS hA hl.1 (c_X12_leadSleep l g _ z q_17 xs f_19 (nI j_4) 3 (by first | assumption | omega | decide)) rfl rfl rfl wd_22_2 wd_1_5 wd_21_23 wd_22_0 wd_22_1 yd_X12_leadSleep ⟨(Nat.le_of_ble_eq_true rfl), (Nat.le_of_ble_eq_true rfl)⟩ rfl rfl rfl rfl (by decide) rfl (Nat.le_of_ble_eq_true rfl) dX12_over_96 ⟨(Nat.le_of_ble_eq_true rfl), (Nat.le_of_ble_eq_true rfl)⟩ (fun u_28 H locs hw_29 hP hD hS => ?_)
            have hP : va_P g.1 vwCl [(z 2, .inl (gI g, 7376, .inl f_18)), (z 0, .inr (12, [.ref (z 1), .ref (z 2), .int (nI q_17), .int (xs 0), .ref (z 3), .ref (z 4), .ref (z 5), .ref (z 6), .int (xs 1), .ref (z 7), .ref (z 8), .ref (z 9), .ref (z 10), .ref (z 11), .ref (z 12), .int (xs 2), .ref (z 13), .ref (z 14), .int (xs 3), .ref (z 15)])), (z 1, .inl (gI g, 461, .inl u_28))] H := hP
            have hD : va_D A [(z 2, .inl (gI g, 7376, .inl f_18)), (z 0, .inr (12, [.ref (z 1), .ref (z 2), .int (nI q_17), .int (xs 0), .ref (z 3), .ref (z 4), .ref (z 5), .ref (z 6), .int (xs 1), .ref (z 7), .ref (z 8), .ref (z 9), .ref (z 10), .ref (z 11), .ref (z 12), .int (xs 2), .ref (z 13), .ref (z 14), .int (xs 3), .ref (z 15)])), (z 1, .inl (gI g, 461, .inl u_28))] := hD
            have hw_29 : DI u_28 := hw_29
            have hld_30 := hw_29
            refine lv_aload_n hx hb dX12_over_99 rfl (lv_at hl 0 rfl) ?_
            refine va_get (ci := 12) (C := RX12) (T := TX12) (N := 20) hx hb hts inlX12 hown hKW.1 hP 1 rfl rfl 0 (by decide) (hts _ wd_6_5) (fun _ h => h) rfl dX12_over_100 ?_
            refine lv_bipush (v := 107) hx hb dX12_over_103 (by decide) ?_
            refine lv_iload_n hx hb dX12_over_105 rfl (lv_at hl 1 rfl) ?_
            refine lv_iadd hx hb dX12_over_106 ?_
            refine k_top (y := nI (j_4 + 107)) (by rw [Nat.add_comm]; exact nI_add 107 j_4) ?_
            refine lv_iconst (v := 0) hx hb dX12_over_107 (by decide) ?_
            refine va_iast hx hb hKW.1 hP hD hS 2 0 rfl rfl (vp_in_nI (by omega) (by decide)) dX12_over_108 (fun H locs hP hD hS => ?_)
            have hP : va_P g.1 vwCl [(z 2, .inl (gI g, 7376, .inl f_18)), (z 0, .inr (12, [.ref (z 1), .ref (z 2), .int (nI q_17), .int (xs 0), .ref (z 3), .ref (z 4), .ref (z 5), .ref (z 6), .int (xs 1), .ref (z 7), .ref (z 8), .ref (z 9), .ref (z 10), .ref (z 11), .ref (z 12), .int (xs 2), .ref (z 13), .ref (z 14), .int (xs 3), .ref (z 15)])), (z 1, .inl (gI g, 461, .inl (upd u_28 (nI (j_4 + 107)).toNatClampNeg 0)))] H := hP
            have hD : va_D A [(z 2, .inl (gI g, 7376, .inl f_18)), (z 0, .inr (12, [.ref (z 1), .ref (z 2), .int (nI q_17), .int (xs 0), .ref (z 3), .ref (z 4), .ref (z 5), .ref (z 6), .int (xs 1), .ref (z 7), .ref (z 8), .ref (z 9), .ref (z 10), .ref (z 11), .ref (z 12), .int (xs 2), .ref (z 13), .ref (z 14), .int (xs 3), .ref (z 15)])), (z 1, .inl (gI g, 461, .inl (upd u_28 (nI (j_4 + 107)).toNatClampNeg 0)))] := hD
            obtain ⟨f_31, ef_31⟩ : ∃ zz_ : Nat → Int32, zz_ = upd u_28 (nI (j_4 + 107)).toNatClampNeg 0 := ⟨_, rfl⟩
            rw [← ef_31] at hP hD
            have hDf_31 : DI f_31 := DI.free (i := (j_4 + 107)) (x := 0) hld_30 (by rw [ef_31, nI_clamp (by omega)]) (by unfold dFree; omega)
            refine lv_aload_n hx hb dX12_over_109 rfl (lv_at hl 0 rfl) ?_
            refine lv_iload_n hx hb dX12_over_110 rfl (lv_at hl 1 rfl) ?_
            refine lv_iconst (v := 2) hx hb dX12_over_111 (by decide) ?_
            refine k_Vv [1, 2] [0] 1 12 (wr := [(z 2, .inl (gI g, 7376, .inl f_18))]) hx hb hml hown hts hKW hP hD hS hA hl.1 (c_X12_leadRoll l g _ z q_17 xs f_31 (nI j_4) 2 (by first | assumption | omega | decide)) rfl rfl rfl wd_20_15 wd_1_5 wd_20_12 wd_20_13 wd_20_14 yd_X12_leadRoll ⟨(Nat.le_of_ble_eq_true rfl), (Nat.le_of_ble_eq_true rfl)⟩ rfl rfl rfl rfl (by decide) rfl (Nat.le_of_ble_eq_true rfl) dX12_over_112 ⟨(Nat.le_of_ble_eq_true rfl), (Nat.le_of_ble_eq_true rfl)⟩ (fun u_33 H locs hw_34 hP hD hS => ?_)
            have hP : va_P g.1 vwCl [(z 2, .inl (gI g, 7376, .inl f_18)), (z 0, .inr (12, [.ref (z 1), .ref (z 2), .int (nI q_17), .int (xs 0), .ref (z 3), .ref (z 4), .ref (z 5), .ref (z 6), .int (xs 1), .ref (z 7), .ref (z 8), .ref (z 9), .ref (z 10), .ref (z 11), .ref (z 12), .int (xs 2), .ref (z 13), .ref (z 14), .int (xs 3), .ref (z 15)])), (z 1, .inl (gI g, 461, .inl u_33))] H := hP
            have hD : va_D A [(z 2, .inl (gI g, 7376, .inl f_18)), (z 0, .inr (12, [.ref (z 1), .ref (z 2), .int (nI q_17), .int (xs 0), .ref (z 3), .ref (z 4), .ref (z 5), .ref (z 6), .int (xs 1), .ref (z 7), .ref (z 8), .ref (z 9), .ref (z 10), .ref (z 11), .ref (z 12), .int (xs 2), .ref (z 13), .ref (z 14), .int (xs 3), .ref (z 15)])), (z 1, .inl (gI g, 461, .inl u_33))] := hD
            have hw_34 : DI u_33 := hw_34
            have hld_35 := hw_34
            refine lv_iconst (v := 1) hx hb dX12_over_115 (by decide) ?_
            exact k_iret (q_17, xs, u_33, f_18) [1, 2, 0] hx hb hr hlk hP hD hS (⟨hkk, hld_35, hkW⟩) rfl rfl rfl (Nat.le_of_ble_eq_true rfl) (Nat.le_of_ble_eq_true rfl) dX12_over_116
        · refine lv_aload_n hx hb dX12_over_59 rfl (lv_at hl 0 rfl) ?_
          refine lv_bipush (v := 8) hx hb dX12_over_60 (by decide) ?_
          refine k_Vi [1] [0, 2] 1 12 (wr := [(z 2, .inl (gI g, 7376, .inl Wk)), (z 1, .inl (gI g, 461, .inl D))]) hx hb hml hown hts hKW hP hD hS hA hl.1 (c_X12_finding_8 l g _ z kp xs ) rfl rfl rfl wd_10_15 wd_1_5 wd_10_12 wd_10_13 wd_10_14 yd_X12_finding ⟨(Nat.le_of_ble_eq_true rfl), (Nat.le_of_ble_eq_true rfl)⟩ rfl rfl rfl rfl (by decide) rfl (Nat.le_of_ble_eq_true rfl) dX12_over_62 ⟨(Nat.le_of_ble_eq_true rfl), (Nat.le_of_ble_eq_true rfl)⟩ (fun r_36 u_37 H locs hw_38 hP hD hS => ?_)
          have hP : va_P g.1 vwCl [(z 2, .inl (gI g, 7376, .inl Wk)), (z 1, .inl (gI g, 461, .inl D)), (z 0, .inr (12, [.ref (z 1), .ref (z 2), .int (nI kp), .int u_37, .ref (z 3), .ref (z 4), .ref (z 5), .ref (z 6), .int (xs 1), .ref (z 7), .ref (z 8), .ref (z 9), .ref (z 10), .ref (z 11), .ref (z 12), .int (xs 2), .ref (z 13), .ref (z 14), .int (xs 3), .ref (z 15)]))] H := hP
          have hD : va_D A [(z 2, .inl (gI g, 7376, .inl Wk)), (z 1, .inl (gI g, 461, .inl D)), (z 0, .inr (12, [.ref (z 1), .ref (z 2), .int (nI kp), .int u_37, .ref (z 3), .ref (z 4), .ref (z 5), .ref (z 6), .int (xs 1), .ref (z 7), .ref (z 8), .ref (z 9), .ref (z 10), .ref (z 11), .ref (z 12), .int (xs 2), .ref (z 13), .ref (z 14), .int (xs 3), .ref (z 15)]))] := hD
          have hw_38 : r_36 = (-100008) := hw_38
          subst hw_38
          exact k_iret (kp, (fun kk_ => ([u_37, (xs 1), (xs 2), (xs 3)] : List Int32).getD kk_ 0), D, Wk) [2, 1, 0] hx hb hr hlk hP hD hS (⟨hkp, hDI, hWI⟩) rfl rfl rfl (Nat.le_of_ble_eq_true rfl) (Nat.le_of_ble_eq_true rfl) dX12_over_65
      · refine lv_aload_n hx hb dX12_over_36 rfl (lv_at hl 0 rfl) ?_
        refine lv_bipush (v := 6) hx hb dX12_over_37 (by decide) ?_
        refine k_Vi [1] [0, 2] 1 12 (wr := [(z 2, .inl (gI g, 7376, .inl Wk)), (z 1, .inl (gI g, 461, .inl D))]) hx hb hml hown hts hKW hP hD hS hA hl.1 (c_X12_finding_6 l g _ z kp xs ) rfl rfl rfl wd_10_15 wd_1_5 wd_10_12 wd_10_13 wd_10_14 yd_X12_finding ⟨(Nat.le_of_ble_eq_true rfl), (Nat.le_of_ble_eq_true rfl)⟩ rfl rfl rfl rfl (by decide) rfl (Nat.le_of_ble_eq_true rfl) dX12_over_39 ⟨(Nat.le_of_ble_eq_true rfl), (Nat.le_of_ble_eq_true rfl)⟩ (fun r_39 u_40 H locs hw_41 hP hD hS => ?_)
        have hP : va_P g.1 vwCl [(z 2, .inl (gI g, 7376, .inl Wk)), (z 1, .inl (gI g, 461, .inl D)), (z 0, .inr (12, [.ref (z 1), .ref (z 2), .int (nI kp), .int u_40, .ref (z 3), .ref (z 4), .ref (z 5), .ref (z 6), .int (xs 1), .ref (z 7), .ref (z 8), .ref (z 9), .ref (z 10), .ref (z 11), .ref (z 12), .int (xs 2), .ref (z 13), .ref (z 14), .int (xs 3), .ref (z 15)]))] H := hP
        have hD : va_D A [(z 2, .inl (gI g, 7376, .inl Wk)), (z 1, .inl (gI g, 461, .inl D)), (z 0, .inr (12, [.ref (z 1), .ref (z 2), .int (nI kp), .int u_40, .ref (z 3), .ref (z 4), .ref (z 5), .ref (z 6), .int (xs 1), .ref (z 7), .ref (z 8), .ref (z 9), .ref (z 10), .ref (z 11), .ref (z 12), .int (xs 2), .ref (z 13), .ref (z 14), .int (xs 3), .ref (z 15)]))] := hD
        have hw_41 : r_39 = (-100006) := hw_41
        subst hw_41
        exact k_iret (kp, (fun kk_ => ([u_40, (xs 1), (xs 2), (xs 3)] : List Int32).getD kk_ 0), D, Wk) [2, 1, 0] hx hb hr hlk hP hD hS (⟨hkp, hDI, hWI⟩) rfl rfl rfl (Nat.le_of_ble_eq_true rfl) (Nat.le_of_ble_eq_true rfl) dX12_over_42
    · refine lv_if_ne (tgt := 24) hx hb dX12_over_15 (by decide) (fun c => absurd c (by decide)) (fun _ => ?_)
      refine lv_aload_n hx hb dX12_over_18 rfl (lv_at hl 0 rfl) ?_
      refine lv_iconst (v := 1) hx hb dX12_over_19 (by decide) ?_
      refine k_Vi [1] [0, 2] 1 12 (wr := [(z 2, .inl (gI g, 7376, .inl Wk)), (z 1, .inl (gI g, 461, .inl D))]) hx hb hml hown hts hKW hP hD hS hA hl.1 (c_X12_finding_1 l g _ z kp xs ) rfl rfl rfl wd_10_15 wd_1_5 wd_10_12 wd_10_13 wd_10_14 yd_X12_finding ⟨(Nat.le_of_ble_eq_true rfl), (Nat.le_of_ble_eq_true rfl)⟩ rfl rfl rfl rfl (by decide) rfl (Nat.le_of_ble_eq_true rfl) dX12_over_20 ⟨(Nat.le_of_ble_eq_true rfl), (Nat.le_of_ble_eq_true rfl)⟩ (fun r_42 u_43 H locs hw_44 hP hD hS => ?_)
      have hP : va_P g.1 vwCl [(z 2, .inl (gI g, 7376, .inl Wk)), (z 1, .inl (gI g, 461, .inl D)), (z 0, .inr (12, [.ref (z 1), .ref (z 2), .int (nI kp), .int u_43, .ref (z 3), .ref (z 4), .ref (z 5), .ref (z 6), .int (xs 1), .ref (z 7), .ref (z 8), .ref (z 9), .ref (z 10), .ref (z 11), .ref (z 12), .int (xs 2), .ref (z 13), .ref (z 14), .int (xs 3), .ref (z 15)]))] H := hP
      have hD : va_D A [(z 2, .inl (gI g, 7376, .inl Wk)), (z 1, .inl (gI g, 461, .inl D)), (z 0, .inr (12, [.ref (z 1), .ref (z 2), .int (nI kp), .int u_43, .ref (z 3), .ref (z 4), .ref (z 5), .ref (z 6), .int (xs 1), .ref (z 7), .ref (z 8), .ref (z 9), .ref (z 10), .ref (z 11), .ref (z 12), .int (xs 2), .ref (z 13), .ref (z 14), .int (xs 3), .ref (z 15)]))] := hD
      have hw_44 : r_42 = (-100001) := hw_44
      subst hw_44
      exact k_iret (kp, (fun kk_ => ([u_43, (xs 1), (xs 2), (xs 3)] : List Int32).getD kk_ 0), D, Wk) [2, 1, 0] hx hb hr hlk hP hD hS (⟨hkp, hDI, hWI⟩) rfl rfl rfl (Nat.le_of_ble_eq_true rfl) (Nat.le_of_ble_eq_true rfl) dX12_over_23
  · refine lv_if_eq (tgt := 18) hx hb dX12_over_5 (by decide) (fun _ => ?_) (fun c => absurd c (by decide))
    refine lv_aload_n hx hb dX12_over_18 rfl (lv_at hl 0 rfl) ?_
    refine lv_iconst (v := 1) hx hb dX12_over_19 (by decide) ?_
    refine k_Vi [1] [0, 2] 1 12 (wr := [(z 2, .inl (gI g, 7376, .inl Wk)), (z 1, .inl (gI g, 461, .inl D))]) hx hb hml hown hts hKW hP hD hS hA hl.1 (c_X12_finding_1 l g _ z kp xs ) rfl rfl rfl wd_10_15 wd_1_5 wd_10_12 wd_10_13 wd_10_14 yd_X12_finding ⟨(Nat.le_of_ble_eq_true rfl), (Nat.le_of_ble_eq_true rfl)⟩ rfl rfl rfl rfl (by decide) rfl (Nat.le_of_ble_eq_true rfl) dX12_over_20 ⟨(Nat.le_of_ble_eq_true rfl), (Nat.le_of_ble_eq_true rfl)⟩ (fun r_45 u_46 H locs hw_47 hP hD hS => ?_)
    have hP : va_P g.1 vwCl [(z 2, .inl (gI g, 7376, .inl Wk)), (z 1, .inl (gI g, 461, .inl D)), (z 0, .inr (12, [.ref (z 1), .ref (z 2), .int (nI kp), .int u_46, .ref (z 3), .ref (z 4), .ref (z 5), .ref (z 6), .int (xs 1), .ref (z 7), .ref (z 8), .ref (z 9), .ref (z 10), .ref (z 11), .ref (z 12), .int (xs 2), .ref (z 13), .ref (z 14), .int (xs 3), .ref (z 15)]))] H := hP
    have hD : va_D A [(z 2, .inl (gI g, 7376, .inl Wk)), (z 1, .inl (gI g, 461, .inl D)), (z 0, .inr (12, [.ref (z 1), .ref (z 2), .int (nI kp), .int u_46, .ref (z 3), .ref (z 4), .ref (z 5), .ref (z 6), .int (xs 1), .ref (z 7), .ref (z 8), .ref (z 9), .ref (z 10), .ref (z 11), .ref (z 12), .int (xs 2), .ref (z 13), .ref (z 14), .int (xs 3), .ref (z 15)]))] := hD
    have hw_47 : r_45 = (-100001) := hw_47
    subst hw_47
    exact k_iret (kp, (fun kk_ => ([u_46, (xs 1), (xs 2), (xs 3)] : List Int32).getD kk_ 0), D, Wk) [2, 1, 0] hx hb hr hlk hP hD hS (⟨hkp, hDI, hWI⟩) rfl rfl rfl (Nat.le_of_ble_eq_true rfl) (Nat.le_of_ble_eq_true rfl) dX12_over_23
theorem dX12_fetches_0 : decode cX12_fetches 0 = .ok (.aload_n 0, 1) := by decide +kernel
theorem dX12_fetches_1 : decode cX12_fetches 1 = .ok (.iload_n 1, 1) := by decide +kernel
theorem dX12_fetches_2 : decode cX12_fetches 2 = .ok (.invokevirtual 82, 3) := by decide +kernel
theorem dX12_fetches_5 : decode cX12_fetches 5 = .ok (.ifCond .eq 13, 3) := by decide +kernel
theorem dX12_fetches_8 : decode cX12_fetches 8 = .ok (.iload_n 2, 1) := by decide +kernel
theorem dX12_fetches_9 : decode cX12_fetches 9 = .ok (.iconst 0, 1) := by decide +kernel
theorem dX12_fetches_10 : decode cX12_fetches 10 = .ok (.bipush 15, 2) := by decide +kernel
theorem dX12_fetches_12 : decode cX12_fetches 12 = .ok (.invokestatic 64, 3) := by decide +kernel
theorem dX12_fetches_15 : decode cX12_fetches 15 = .ok (.ifCond .ne 9, 3) := by decide +kernel
theorem dX12_fetches_24 : decode cX12_fetches 24 = .ok (.aload_n 0, 1) := by decide +kernel
theorem dX12_fetches_25 : decode cX12_fetches 25 = .ok (.invokevirtual 72, 3) := by decide +kernel
theorem dX12_fetches_28 : decode cX12_fetches 28 = .ok (.aload_n 0, 1) := by decide +kernel
theorem dX12_fetches_29 : decode cX12_fetches 29 = .ok (.getfield 7, 3) := by decide +kernel
theorem dX12_fetches_32 : decode cX12_fetches 32 = .ok (.bipush 127, 2) := by decide +kernel
theorem dX12_fetches_34 : decode cX12_fetches 34 = .ok (.iload_n 1, 1) := by decide +kernel
theorem dX12_fetches_35 : decode cX12_fetches 35 = .ok (.iadd, 1) := by decide +kernel
theorem dX12_fetches_36 : decode cX12_fetches 36 = .ok (.iaload, 1) := by decide +kernel
theorem dX12_fetches_37 : decode cX12_fetches 37 = .ok (.istore 4, 2) := by decide +kernel
theorem dX12_fetches_39 : decode cX12_fetches 39 = .ok (.aload_n 0, 1) := by decide +kernel
theorem dX12_fetches_40 : decode cX12_fetches 40 = .ok (.getfield 7, 3) := by decide +kernel
theorem dX12_fetches_43 : decode cX12_fetches 43 = .ok (.bipush 127, 2) := by decide +kernel
theorem dX12_fetches_45 : decode cX12_fetches 45 = .ok (.iload_n 1, 1) := by decide +kernel
theorem dX12_fetches_46 : decode cX12_fetches 46 = .ok (.iadd, 1) := by decide +kernel
theorem dX12_fetches_47 : decode cX12_fetches 47 = .ok (.iload_n 3, 1) := by decide +kernel
theorem dX12_fetches_48 : decode cX12_fetches 48 = .ok (.ifCond .eq 12, 3) := by decide +kernel
theorem dX12_fetches_60 : decode cX12_fetches 60 = .ok (.iload 4, 2) := by decide +kernel
theorem dX12_fetches_62 : decode cX12_fetches 62 = .ok (.iconst 1, 1) := by decide +kernel
theorem dX12_fetches_63 : decode cX12_fetches 63 = .ok (.iload_n 2, 1) := by decide +kernel
theorem dX12_fetches_64 : decode cX12_fetches 64 = .ok (.ishl, 1) := by decide +kernel
theorem dX12_fetches_65 : decode cX12_fetches 65 = .ok (.iconst (-1), 1) := by decide +kernel
theorem dX12_fetches_66 : decode cX12_fetches 66 = .ok (.ixor, 1) := by decide +kernel
theorem dX12_fetches_67 : decode cX12_fetches 67 = .ok (.iand, 1) := by decide +kernel
theorem dX12_fetches_68 : decode cX12_fetches 68 = .ok (.iastore, 1) := by decide +kernel
theorem dX12_fetches_69 : decode cX12_fetches 69 = .ok (.aload_n 0, 1) := by decide +kernel
theorem dX12_fetches_70 : decode cX12_fetches 70 = .ok (.getfield 7, 3) := by decide +kernel
theorem dX12_fetches_73 : decode cX12_fetches 73 = .ok (.bipush 127, 2) := by decide +kernel
theorem dX12_fetches_75 : decode cX12_fetches 75 = .ok (.iload_n 1, 1) := by decide +kernel
theorem dX12_fetches_76 : decode cX12_fetches 76 = .ok (.iadd, 1) := by decide +kernel
theorem dX12_fetches_77 : decode cX12_fetches 77 = .ok (.iaload, 1) := by decide +kernel
theorem dX12_fetches_78 : decode cX12_fetches 78 = .ok (.iload 4, 2) := by decide +kernel
theorem dX12_fetches_80 : decode cX12_fetches 80 = .ok (.if_icmp .ne 7, 3) := by decide +kernel
theorem dX12_fetches_87 : decode cX12_fetches 87 = .ok (.iconst 1, 1) := by decide +kernel
theorem dX12_fetches_88 : decode cX12_fetches 88 = .ok (.ireturn, 1) := by decide +kernel
theorem dX12_fetches_83 : decode cX12_fetches 83 = .ok (.iconst 0, 1) := by decide +kernel
theorem dX12_fetches_84 : decode cX12_fetches 84 = .ok (.goto 4, 3) := by decide +kernel
theorem dX12_fetches_51 : decode cX12_fetches 51 = .ok (.iload 4, 2) := by decide +kernel
theorem dX12_fetches_53 : decode cX12_fetches 53 = .ok (.iconst 1, 1) := by decide +kernel
theorem dX12_fetches_54 : decode cX12_fetches 54 = .ok (.iload_n 2, 1) := by decide +kernel
theorem dX12_fetches_55 : decode cX12_fetches 55 = .ok (.ishl, 1) := by decide +kernel
theorem dX12_fetches_56 : decode cX12_fetches 56 = .ok (.ior, 1) := by decide +kernel
theorem dX12_fetches_57 : decode cX12_fetches 57 = .ok (.goto 11, 3) := by decide +kernel
theorem dX12_fetches_18 : decode cX12_fetches 18 = .ok (.aload_n 0, 1) := by decide +kernel
theorem dX12_fetches_19 : decode cX12_fetches 19 = .ok (.iconst 1, 1) := by decide +kernel
theorem dX12_fetches_20 : decode cX12_fetches 20 = .ok (.invokevirtual 68, 3) := by decide +kernel
theorem dX12_fetches_23 : decode cX12_fetches 23 = .ok (.ireturn, 1) := by decide +kernel
set_option maxHeartbeats 8000000 in
set_option maxRecDepth 100000 in
theorem c_X12_fetches (l : Launch) (g : kG) (sz : Nat) (z : Nat → Nat) (kp : Nat) (xs : Nat → Int32) (D : Nat → Int32) (Wk : Nat → Int32) (x : Int32) (y : Int32) (w : Int32) (hDI : DI D) (hkp : kp ≤ 16) (hWI : WI Wk kp) : kMi l g yX12_fetches cX12_fetches 5 (some .int) 4 0 0 [.ref (z 0), .int x, .int y, .int w] sz [(z 0, .inr (12, [.ref (z 1), .ref (z 2), .int (nI kp), .int (xs 0), .ref (z 3), .ref (z 4), .ref (z 5), .ref (z 6), .int (xs 1), .ref (z 7), .ref (z 8), .ref (z 9), .ref (z 10), .ref (z 11), .ref (z 12), .int (xs 2), .ref (z 13), .ref (z 14), .int (xs 3), .ref (z 15)])), (z 1, .inl (gI g, 461, .inl D)), (z 2, .inl (gI g, 7376, .inl Wk))] (fun (r : Int32) (u : Nat × (Nat → Int32) × (Nat → Int32) × (Nat → Int32)) => u.1 ≤ 16 ∧ DI u.2.2.1 ∧ WI u.2.2.2 u.1) (fun (u : Nat × (Nat → Int32) × (Nat → Int32) × (Nat → Int32)) => ([(z 0, .inr (12, [.ref (z 1), .ref (z 2), .int (nI u.1), .int (u.2.1 0), .ref (z 3), .ref (z 4), .ref (z 5), .ref (z 6), .int (u.2.1 1), .ref (z 7), .ref (z 8), .ref (z 9), .ref (z 10), .ref (z 11), .ref (z 12), .int (u.2.1 2), .ref (z 13), .ref (z 14), .int (u.2.1 3), .ref (z 15)])), (z 1, .inl (gI g, 461, .inl u.2.2.1)), (z 2, .inl (gI g, 7376, .inl u.2.2.2))] : va_W)) := by
  refine kMi.of (by decide) (Nat.le_of_ble_eq_true rfl) (fun p e s m below meth c A hx hb hr hml hown hts hlk hnm hKW hP hD hS hA ls hl => ?_)
  have hown : s.vm.findClass RX12 = some m.cls := hown
  have hl : lv_has ls 5 [(0, .ref (z 0)), (1, .int x), (2, .int y), (3, .int w)] := hl
  refine k_hide hP hS (fun H locs hP hS => ?_)
  refine lv_aload_n hx hb dX12_fetches_0 rfl (lv_at hl 0 rfl) ?_
  refine lv_iload_n hx hb dX12_fetches_1 rfl (lv_at hl 1 rfl) ?_
  refine k_Vi [0, 1] [2] 0 12 (wr := [(z 2, .inl (gI g, 7376, .inl Wk))]) hx hb hml hown hts hKW hP hD hS hA hl.1 (c_X12_isChild l g _ z kp xs D x (by first | assumption | omega | decide)) rfl rfl rfl wd_13_19 wd_1_5 wd_13_16 wd_13_17 wd_13_18 yd_X12_isChild ⟨(Nat.le_of_ble_eq_true rfl), (Nat.le_of_ble_eq_true rfl)⟩ rfl rfl rfl rfl (by decide) rfl (Nat.le_of_ble_eq_true rfl) dX12_fetches_2 ⟨(Nat.le_of_ble_eq_true rfl), (Nat.le_of_ble_eq_true rfl)⟩ (fun r_1 u_2 H locs hw_3 hP hD hS => ?_)
  have hP : va_P g.1 vwCl [(z 2, .inl (gI g, 7376, .inl Wk)), (z 0, .inr (12, [.ref (z 1), .ref (z 2), .int (nI kp), .int (xs 0), .ref (z 3), .ref (z 4), .ref (z 5), .ref (z 6), .int (xs 1), .ref (z 7), .ref (z 8), .ref (z 9), .ref (z 10), .ref (z 11), .ref (z 12), .int (xs 2), .ref (z 13), .ref (z 14), .int (xs 3), .ref (z 15)])), (z 1, .inl (gI g, 461, .inl D))] H := hP
  have hD : va_D A [(z 2, .inl (gI g, 7376, .inl Wk)), (z 0, .inr (12, [.ref (z 1), .ref (z 2), .int (nI kp), .int (xs 0), .ref (z 3), .ref (z 4), .ref (z 5), .ref (z 6), .int (xs 1), .ref (z 7), .ref (z 8), .ref (z 9), .ref (z 10), .ref (z 11), .ref (z 12), .int (xs 2), .ref (z 13), .ref (z 14), .int (xs 3), .ref (z 15)])), (z 1, .inl (gI g, 461, .inl D))] := hD
  rcases (show (r_1 = 1 ∧ (∃ j : Nat, (j < 10 ∧ (j : Int) < (D 2).toInt) ∧ x = nI j)) ∨ (r_1 = 0 ∧ ¬ (∃ j : Nat, (j < 10 ∧ (j : Int) < (D 2).toInt) ∧ x = nI j)) from hw_3) with ⟨rfl, hw_3b⟩ | ⟨rfl, hw_3b⟩ <;> clear hw_3
  · obtain ⟨j_4, hj_4, rfl⟩ := hw_3b
    refine lv_if_eq (tgt := 18) hx hb dX12_fetches_5 (by decide) (fun c => absurd c (by decide)) (fun _ => ?_)
    refine lv_iload_n hx hb dX12_fetches_8 rfl (lv_at hl 2 rfl) ?_
    refine lv_iconst (v := 0) hx hb dX12_fetches_9 (by decide) ?_
    refine lv_bipush (v := 15) hx hb dX12_fetches_10 (by decide) ?_
    refine k_Si [] [0, 1, 2] (wr := [(z 2, .inl (gI g, 7376, .inl Wk)), (z 0, .inr (12, [.ref (z 1), .ref (z 2), .int (nI kp), .int (xs 0), .ref (z 3), .ref (z 4), .ref (z 5), .ref (z 6), .int (xs 1), .ref (z 7), .ref (z 8), .ref (z 9), .ref (z 10), .ref (z 11), .ref (z 12), .int (xs 2), .ref (z 13), .ref (z 14), .int (xs 3), .ref (z 15)])), (z 1, .inl (gI g, 461, .inl D))]) hx hb hml hown hts hKW hP hD hS hA hl.1 (c_X12_isIn l g _ y 0 15 ) wd_10_11 wd_1_5 wd_10_9 wd_10_10 yd_X12_isIn ⟨(Nat.le_of_ble_eq_true rfl), (Nat.le_of_ble_eq_true rfl)⟩ rfl rfl rfl rfl (by decide) rfl (Nat.le_of_ble_eq_true rfl) dX12_fetches_12 ⟨(Nat.le_of_ble_eq_true rfl), (Nat.le_of_ble_eq_true rfl)⟩ (fun r_5 u_6 H locs hw_7 hP hD hS => ?_)
    have hP : va_P g.1 vwCl [(z 2, .inl (gI g, 7376, .inl Wk)), (z 0, .inr (12, [.ref (z 1), .ref (z 2), .int (nI kp), .int (xs 0), .ref (z 3), .ref (z 4), .ref (z 5), .ref (z 6), .int (xs 1), .ref (z 7), .ref (z 8), .ref (z 9), .ref (z 10), .ref (z 11), .ref (z 12), .int (xs 2), .ref (z 13), .ref (z 14), .int (xs 3), .ref (z 15)])), (z 1, .inl (gI g, 461, .inl D))] H := hP
    have hD : va_D A [(z 2, .inl (gI g, 7376, .inl Wk)), (z 0, .inr (12, [.ref (z 1), .ref (z 2), .int (nI kp), .int (xs 0), .ref (z 3), .ref (z 4), .ref (z 5), .ref (z 6), .int (xs 1), .ref (z 7), .ref (z 8), .ref (z 9), .ref (z 10), .ref (z 11), .ref (z 12), .int (xs 2), .ref (z 13), .ref (z 14), .int (xs 3), .ref (z 15)])), (z 1, .inl (gI g, 461, .inl D))] := hD
    rcases (show (r_5 = 1 ∧ (Int32.toInt 0 ≤ Int32.toInt y ∧ Int32.toInt y ≤ Int32.toInt 15)) ∨ (r_5 = 0 ∧ ¬ (Int32.toInt 0 ≤ Int32.toInt y ∧ Int32.toInt y ≤ Int32.toInt 15)) from hw_7) with ⟨rfl, hw_7b⟩ | ⟨rfl, hw_7b⟩ <;> clear hw_7
    · refine lv_if_ne (tgt := 24) hx hb dX12_fetches_15 (by decide) (fun _ => ?_) (fun c => absurd c (by decide))
      refine lv_aload_n hx hb dX12_fetches_24 rfl (lv_at hl 0 rfl) ?_
      refine k_Vv [1, 2, 0] [] 1 12 (wr := []) hx hb hml hown hts hKW hP hD hS hA hl.1 (c_X12_keep l g _ z kp xs D Wk (by first | assumption | omega | decide) (by first | assumption | omega | decide) (by first | assumption | omega | decide)) rfl rfl rfl wd_10_21 wd_1_5 wd_10_18 wd_10_19 wd_10_20 yd_X12_keep ⟨(Nat.le_of_ble_eq_true rfl), (Nat.le_of_ble_eq_true rfl)⟩ rfl rfl rfl rfl (by decide) rfl (Nat.le_of_ble_eq_true rfl) dX12_fetches_25 ⟨(Nat.le_of_ble_eq_true rfl), (Nat.le_of_ble_eq_true rfl)⟩ (fun u_9 H locs hw_10 hP hD hS => ?_)
      obtain ⟨q_11, f_12⟩ := u_9
      have hP : va_P g.1 vwCl [(z 0, .inr (12, [.ref (z 1), .ref (z 2), .int (nI q_11), .int (xs 0), .ref (z 3), .ref (z 4), .ref (z 5), .ref (z 6), .int (xs 1), .ref (z 7), .ref (z 8), .ref (z 9), .ref (z 10), .ref (z 11), .ref (z 12), .int (xs 2), .ref (z 13), .ref (z 14), .int (xs 3), .ref (z 15)])), (z 1, .inl (gI g, 461, .inl D)), (z 2, .inl (gI g, 7376, .inl f_12))] H := hP
      have hD : va_D A [(z 0, .inr (12, [.ref (z 1), .ref (z 2), .int (nI q_11), .int (xs 0), .ref (z 3), .ref (z 4), .ref (z 5), .ref (z 6), .int (xs 1), .ref (z 7), .ref (z 8), .ref (z 9), .ref (z 10), .ref (z 11), .ref (z 12), .int (xs 2), .ref (z 13), .ref (z 14), .int (xs 3), .ref (z 15)])), (z 1, .inl (gI g, 461, .inl D)), (z 2, .inl (gI g, 7376, .inl f_12))] := hD
      have hw_10 : q_11 ≤ 16 ∧ WI f_12 q_11 := hw_10
      obtain ⟨hkk, hkW⟩ := hw_10
      refine lv_aload_n hx hb dX12_fetches_28 rfl (lv_at hl 0 rfl) ?_
      refine va_get (ci := 12) (C := RX12) (T := TX12) (N := 20) hx hb hts inlX12 hown hKW.1 hP 0 rfl rfl 0 (by decide) (hts _ wd_6_5) (fun _ h => h) rfl dX12_fetches_29 ?_
      refine lv_bipush (v := 127) hx hb dX12_fetches_32 (by decide) ?_
      refine lv_iload_n hx hb dX12_fetches_34 rfl (lv_at hl 1 rfl) ?_
      refine lv_iadd hx hb dX12_fetches_35 ?_
      refine k_top (y := nI (j_4 + 127)) (by rw [Nat.add_comm]; exact nI_add 127 j_4) ?_
      refine va_iald hx hb hKW.1 hP 1 0 rfl rfl (vp_in_nI (by omega) (by decide)) dX12_fetches_36 ?_
      refine lv_topi (fun x_13 ex_13 => ?_)
      refine lv_istore (lv' := [(4, .int x_13), (0, .ref (z 0)), (1, .int (nI j_4)), (2, .int y), (3, .int w)]) hx hb dX12_fetches_37 hl (by decide) rfl (fun ls hl => ?_)
      refine lv_aload_n hx hb dX12_fetches_39 rfl (lv_at hl 1 rfl) ?_
      refine va_get (ci := 12) (C := RX12) (T := TX12) (N := 20) hx hb hts inlX12 hown hKW.1 hP 0 rfl rfl 0 (by decide) (hts _ wd_6_5) (fun _ h => h) rfl dX12_fetches_40 ?_
      refine lv_bipush (v := 127) hx hb dX12_fetches_43 (by decide) ?_
      refine lv_iload_n hx hb dX12_fetches_45 rfl (lv_at hl 2 rfl) ?_
      refine lv_iadd hx hb dX12_fetches_46 ?_
      refine k_top (y := nI (j_4 + 127)) (by rw [Nat.add_comm]; exact nI_add 127 j_4) ?_
      refine lv_iload_n hx hb dX12_fetches_47 rfl (lv_at hl 4 rfl) ?_
      refine lv_if_eq (tgt := 60) hx hb dX12_fetches_48 (by decide) (fun c_14 => ?_) (fun c_14 => ?_)
      · refine lv_iload hx hb dX12_fetches_60 (lv_at hl 0 rfl) ?_
        refine lv_iconst (v := 1) hx hb dX12_fetches_62 (by decide) ?_
        refine lv_iload_n hx hb dX12_fetches_63 rfl (lv_at hl 3 rfl) ?_
        refine lv_ishl hx hb dX12_fetches_64 ?_
        refine lv_topi (fun x_15 ex_15 => ?_)
        refine lv_iconst (v := (-1)) hx hb dX12_fetches_65 (by decide) ?_
        refine lv_ixor hx hb dX12_fetches_66 ?_
        refine lv_topi (fun x_16 ex_16 => ?_)
        refine lv_iand hx hb dX12_fetches_67 ?_
        refine lv_topi (fun x_17 ex_17 => ?_)
        refine va_iast hx hb hKW.1 hP hD hS 1 0 rfl rfl (vp_in_nI (by omega) (by decide)) dX12_fetches_68 (fun H locs hP hD hS => ?_)
        have hP : va_P g.1 vwCl [(z 0, .inr (12, [.ref (z 1), .ref (z 2), .int (nI q_11), .int (xs 0), .ref (z 3), .ref (z 4), .ref (z 5), .ref (z 6), .int (xs 1), .ref (z 7), .ref (z 8), .ref (z 9), .ref (z 10), .ref (z 11), .ref (z 12), .int (xs 2), .ref (z 13), .ref (z 14), .int (xs 3), .ref (z 15)])), (z 1, .inl (gI g, 461, .inl (upd D (nI (j_4 + 127)).toNatClampNeg x_17))), (z 2, .inl (gI g, 7376, .inl f_12))] H := hP
        have hD : va_D A [(z 0, .inr (12, [.ref (z 1), .ref (z 2), .int (nI q_11), .int (xs 0), .ref (z 3), .ref (z 4), .ref (z 5), .ref (z 6), .int (xs 1), .ref (z 7), .ref (z 8), .ref (z 9), .ref (z 10), .ref (z 11), .ref (z 12), .int (xs 2), .ref (z 13), .ref (z 14), .int (xs 3), .ref (z 15)])), (z 1, .inl (gI g, 461, .inl (upd D (nI (j_4 + 127)).toNatClampNeg x_17))), (z 2, .inl (gI g, 7376, .inl f_12))] := hD
        obtain ⟨f_18, ef_18⟩ : ∃ zz_ : Nat → Int32, zz_ = upd D (nI (j_4 + 127)).toNatClampNeg x_17 := ⟨_, rfl⟩
        rw [← ef_18] at hP hD
        have hDf_18 : DI f_18 := DI.free (i := (j_4 + 127)) (x := x_17) hDI (by rw [ef_18, nI_clamp (by omega)]) (by unfold dFree; omega)
        refine lv_aload_n hx hb dX12_fetches_69 rfl (lv_at hl 1 rfl) ?_
        refine va_get (ci := 12) (C := RX12) (T := TX12) (N := 20) hx hb hts inlX12 hown hKW.1 hP 0 rfl rfl 0 (by decide) (hts _ wd_6_5) (fun _ h => h) rfl dX12_fetches_70 ?_
        refine lv_bipush (v := 127) hx hb dX12_fetches_73 (by decide) ?_
        refine lv_iload_n hx hb dX12_fetches_75 rfl (lv_at hl 2 rfl) ?_
        refine lv_iadd hx hb dX12_fetches_76 ?_
        refine k_top (y := nI (j_4 + 127)) (by rw [Nat.add_comm]; exact nI_add 127 j_4) ?_
        refine va_iald hx hb hKW.1 hP 1 0 rfl rfl (vp_in_nI (by omega) (by decide)) dX12_fetches_77 ?_
        refine lv_topi (fun x_19 ex_19 => ?_)
        refine lv_iload hx hb dX12_fetches_78 (lv_at hl 0 rfl) ?_
        refine lv_icmp_ne (tgt := 87) hx hb dX12_fetches_80 (by decide) (fun c_20 => ?_) (fun c_20 => ?_)
        · refine lv_iconst (v := 1) hx hb dX12_fetches_87 (by decide) ?_
          exact k_iret (q_11, xs, f_18, f_12) [0, 1, 2] hx hb hr hlk hP hD hS (⟨hkk, hDf_18, hkW⟩) rfl rfl rfl (Nat.le_of_ble_eq_true rfl) (Nat.le_of_ble_eq_true rfl) dX12_fetches_88
        · refine lv_iconst (v := 0) hx hb dX12_fetches_83 (by decide) ?_
          refine lv_goto (tgt := 88) hx hb dX12_fetches_84 (by decide) ?_
          exact k_iret (q_11, xs, f_18, f_12) [0, 1, 2] hx hb hr hlk hP hD hS (⟨hkk, hDf_18, hkW⟩) rfl rfl rfl (Nat.le_of_ble_eq_true rfl) (Nat.le_of_ble_eq_true rfl) dX12_fetches_88
      · refine lv_iload hx hb dX12_fetches_51 (lv_at hl 0 rfl) ?_
        refine lv_iconst (v := 1) hx hb dX12_fetches_53 (by decide) ?_
        refine lv_iload_n hx hb dX12_fetches_54 rfl (lv_at hl 3 rfl) ?_
        refine lv_ishl hx hb dX12_fetches_55 ?_
        refine lv_topi (fun x_21 ex_21 => ?_)
        refine lv_ior hx hb dX12_fetches_56 ?_
        refine lv_topi (fun x_22 ex_22 => ?_)
        refine lv_goto (tgt := 68) hx hb dX12_fetches_57 (by decide) ?_
        refine va_iast hx hb hKW.1 hP hD hS 1 0 rfl rfl (vp_in_nI (by omega) (by decide)) dX12_fetches_68 (fun H locs hP hD hS => ?_)
        have hP : va_P g.1 vwCl [(z 0, .inr (12, [.ref (z 1), .ref (z 2), .int (nI q_11), .int (xs 0), .ref (z 3), .ref (z 4), .ref (z 5), .ref (z 6), .int (xs 1), .ref (z 7), .ref (z 8), .ref (z 9), .ref (z 10), .ref (z 11), .ref (z 12), .int (xs 2), .ref (z 13), .ref (z 14), .int (xs 3), .ref (z 15)])), (z 1, .inl (gI g, 461, .inl (upd D (nI (j_4 + 127)).toNatClampNeg x_22))), (z 2, .inl (gI g, 7376, .inl f_12))] H := hP
        have hD : va_D A [(z 0, .inr (12, [.ref (z 1), .ref (z 2), .int (nI q_11), .int (xs 0), .ref (z 3), .ref (z 4), .ref (z 5), .ref (z 6), .int (xs 1), .ref (z 7), .ref (z 8), .ref (z 9), .ref (z 10), .ref (z 11), .ref (z 12), .int (xs 2), .ref (z 13), .ref (z 14), .int (xs 3), .ref (z 15)])), (z 1, .inl (gI g, 461, .inl (upd D (nI (j_4 + 127)).toNatClampNeg x_22))), (z 2, .inl (gI g, 7376, .inl f_12))] := hD
        obtain ⟨f_23, ef_23⟩ : ∃ zz_ : Nat → Int32, zz_ = upd D (nI (j_4 + 127)).toNatClampNeg x_22 := ⟨_, rfl⟩
        rw [← ef_23] at hP hD
        have hDf_23 : DI f_23 := DI.free (i := (j_4 + 127)) (x := x_22) hDI (by rw [ef_23, nI_clamp (by omega)]) (by unfold dFree; omega)
        refine lv_aload_n hx hb dX12_fetches_69 rfl (lv_at hl 1 rfl) ?_
        refine va_get (ci := 12) (C := RX12) (T := TX12) (N := 20) hx hb hts inlX12 hown hKW.1 hP 0 rfl rfl 0 (by decide) (hts _ wd_6_5) (fun _ h => h) rfl dX12_fetches_70 ?_
        refine lv_bipush (v := 127) hx hb dX12_fetches_73 (by decide) ?_
        refine lv_iload_n hx hb dX12_fetches_75 rfl (lv_at hl 2 rfl) ?_
        refine lv_iadd hx hb dX12_fetches_76 ?_
        refine k_top (y := nI (j_4 + 127)) (by rw [Nat.add_comm]; exact nI_add 127 j_4) ?_
        refine va_iald hx hb hKW.1 hP 1 0 rfl rfl (vp_in_nI (by omega) (by decide)) dX12_fetches_77 ?_
        refine lv_topi (fun x_24 ex_24 => ?_)
        refine lv_iload hx hb dX12_fetches_78 (lv_at hl 0 rfl) ?_
        refine lv_icmp_ne (tgt := 87) hx hb dX12_fetches_80 (by decide) (fun c_25 => ?_) (fun c_25 => ?_)
        · refine lv_iconst (v := 1) hx hb dX12_fetches_87 (by decide) ?_
          exact k_iret (q_11, xs, f_23, f_12) [0, 1, 2] hx hb hr hlk hP hD hS (⟨hkk, hDf_23, hkW⟩) rfl rfl rfl (Nat.le_of_ble_eq_true rfl) (Nat.le_of_ble_eq_true rfl) dX12_fetches_88
        · refine lv_iconst (v := 0) hx hb dX12_fetches_83 (by decide) ?_
          refine lv_goto (tgt := 88) hx hb dX12_fetches_84 (by decide) ?_
          exact k_iret (q_11, xs, f_23, f_12) [0, 1, 2] hx hb hr hlk hP hD hS (⟨hkk, hDf_23, hkW⟩) rfl rfl rfl (Nat.le_of_ble_eq_true rfl) (Nat.le_of_ble_eq_true rfl) dX12_fetches_88
    · refine lv_if_ne (tgt := 24) hx hb dX12_fetches_15 (by decide) (fun c => absurd c (by decide)) (fun _ => ?_)
      refine lv_aload_n hx hb dX12_fetches_18 rfl (lv_at hl 0 rfl) ?_
      refine lv_iconst (v := 1) hx hb dX12_fetches_19 (by decide) ?_
      refine k_Vi [1] [0, 2] 1 12 (wr := [(z 2, .inl (gI g, 7376, .inl Wk)), (z 1, .inl (gI g, 461, .inl D))]) hx hb hml hown hts hKW hP hD hS hA hl.1 (c_X12_finding_1 l g _ z kp xs ) rfl rfl rfl wd_10_15 wd_1_5 wd_10_12 wd_10_13 wd_10_14 yd_X12_finding ⟨(Nat.le_of_ble_eq_true rfl), (Nat.le_of_ble_eq_true rfl)⟩ rfl rfl rfl rfl (by decide) rfl (Nat.le_of_ble_eq_true rfl) dX12_fetches_20 ⟨(Nat.le_of_ble_eq_true rfl), (Nat.le_of_ble_eq_true rfl)⟩ (fun r_26 u_27 H locs hw_28 hP hD hS => ?_)
      have hP : va_P g.1 vwCl [(z 2, .inl (gI g, 7376, .inl Wk)), (z 1, .inl (gI g, 461, .inl D)), (z 0, .inr (12, [.ref (z 1), .ref (z 2), .int (nI kp), .int u_27, .ref (z 3), .ref (z 4), .ref (z 5), .ref (z 6), .int (xs 1), .ref (z 7), .ref (z 8), .ref (z 9), .ref (z 10), .ref (z 11), .ref (z 12), .int (xs 2), .ref (z 13), .ref (z 14), .int (xs 3), .ref (z 15)]))] H := hP
      have hD : va_D A [(z 2, .inl (gI g, 7376, .inl Wk)), (z 1, .inl (gI g, 461, .inl D)), (z 0, .inr (12, [.ref (z 1), .ref (z 2), .int (nI kp), .int u_27, .ref (z 3), .ref (z 4), .ref (z 5), .ref (z 6), .int (xs 1), .ref (z 7), .ref (z 8), .ref (z 9), .ref (z 10), .ref (z 11), .ref (z 12), .int (xs 2), .ref (z 13), .ref (z 14), .int (xs 3), .ref (z 15)]))] := hD
      have hw_28 : r_26 = (-100001) := hw_28
      subst hw_28
      exact k_iret (kp, (fun kk_ => ([u_27, (xs 1), (xs 2), (xs 3)] : List Int32).getD kk_ 0), D, Wk) [2, 1, 0] hx hb hr hlk hP hD hS (⟨hkp, hDI, hWI⟩) rfl rfl rfl (Nat.le_of_ble_eq_true rfl) (Nat.le_of_ble_eq_true rfl) dX12_fetches_23
  · refine lv_if_eq (tgt := 18) hx hb dX12_fetches_5 (by decide) (fun _ => ?_) (fun c => absurd c (by decide))
    refine lv_aload_n hx hb dX12_fetches_18 rfl (lv_at hl 0 rfl) ?_
    refine lv_iconst (v := 1) hx hb dX12_fetches_19 (by decide) ?_
    refine k_Vi [1] [0, 2] 1 12 (wr := [(z 2, .inl (gI g, 7376, .inl Wk)), (z 1, .inl (gI g, 461, .inl D))]) hx hb hml hown hts hKW hP hD hS hA hl.1 (c_X12_finding_1 l g _ z kp xs ) rfl rfl rfl wd_10_15 wd_1_5 wd_10_12 wd_10_13 wd_10_14 yd_X12_finding ⟨(Nat.le_of_ble_eq_true rfl), (Nat.le_of_ble_eq_true rfl)⟩ rfl rfl rfl rfl (by decide) rfl (Nat.le_of_ble_eq_true rfl) dX12_fetches_20 ⟨(Nat.le_of_ble_eq_true rfl), (Nat.le_of_ble_eq_true rfl)⟩ (fun r_29 u_30 H locs hw_31 hP hD hS => ?_)
    have hP : va_P g.1 vwCl [(z 2, .inl (gI g, 7376, .inl Wk)), (z 1, .inl (gI g, 461, .inl D)), (z 0, .inr (12, [.ref (z 1), .ref (z 2), .int (nI kp), .int u_30, .ref (z 3), .ref (z 4), .ref (z 5), .ref (z 6), .int (xs 1), .ref (z 7), .ref (z 8), .ref (z 9), .ref (z 10), .ref (z 11), .ref (z 12), .int (xs 2), .ref (z 13), .ref (z 14), .int (xs 3), .ref (z 15)]))] H := hP
    have hD : va_D A [(z 2, .inl (gI g, 7376, .inl Wk)), (z 1, .inl (gI g, 461, .inl D)), (z 0, .inr (12, [.ref (z 1), .ref (z 2), .int (nI kp), .int u_30, .ref (z 3), .ref (z 4), .ref (z 5), .ref (z 6), .int (xs 1), .ref (z 7), .ref (z 8), .ref (z 9), .ref (z 10), .ref (z 11), .ref (z 12), .int (xs 2), .ref (z 13), .ref (z 14), .int (xs 3), .ref (z 15)]))] := hD
    have hw_31 : r_29 = (-100001) := hw_31
    subst hw_31
    exact k_iret (kp, (fun kk_ => ([u_30, (xs 1), (xs 2), (xs 3)] : List Int32).getD kk_ 0), D, Wk) [2, 1, 0] hx hb hr hlk hP hD hS (⟨hkp, hDI, hWI⟩) rfl rfl rfl (Nat.le_of_ble_eq_true rfl) (Nat.le_of_ble_eq_true rfl) dX12_fetches_23
theorem dX12_place_0 : decode cX12_place 0 = .ok (.aload_n 0, 1) := by decide +kernel
theorem dX12_place_1 : decode cX12_place 1 = .ok (.iload_n 1, 1) := by decide +kernel
theorem dX12_place_2 : decode cX12_place 2 = .ok (.invokevirtual 75, 3) := by decide +kernel
theorem dX12_place_5 : decode cX12_place 5 = .ok (.ifCond .eq 16, 3) := by decide +kernel
theorem dX12_place_8 : decode cX12_place 8 = .ok (.iload_n 2, 1) := by decide +kernel
theorem dX12_place_9 : decode cX12_place 9 = .ok (.iconst (-1), 1) := by decide +kernel
theorem dX12_place_10 : decode cX12_place 10 = .ok (.if_icmp .eq 17, 3) := by decide +kernel
theorem dX12_place_27 : decode cX12_place 27 = .ok (.aload_n 0, 1) := by decide +kernel
theorem dX12_place_28 : decode cX12_place 28 = .ok (.getfield 7, 3) := by decide +kernel
theorem dX12_place_31 : decode cX12_place 31 = .ok (.bipush 40, 2) := by decide +kernel
theorem dX12_place_33 : decode cX12_place 33 = .ok (.iload_n 1, 1) := by decide +kernel
theorem dX12_place_34 : decode cX12_place 34 = .ok (.iadd, 1) := by decide +kernel
theorem dX12_place_35 : decode cX12_place 35 = .ok (.iaload, 1) := by decide +kernel
theorem dX12_place_36 : decode cX12_place 36 = .ok (.iconst 1, 1) := by decide +kernel
theorem dX12_place_37 : decode cX12_place 37 = .ok (.if_icmp .ne 10, 3) := by decide +kernel
theorem dX12_place_47 : decode cX12_place 47 = .ok (.aload_n 0, 1) := by decide +kernel
theorem dX12_place_48 : decode cX12_place 48 = .ok (.invokevirtual 72, 3) := by decide +kernel
theorem dX12_place_51 : decode cX12_place 51 = .ok (.aload_n 0, 1) := by decide +kernel
theorem dX12_place_52 : decode cX12_place 52 = .ok (.getfield 7, 3) := by decide +kernel
theorem dX12_place_55 : decode cX12_place 55 = .ok (.bipush 33, 2) := by decide +kernel
theorem dX12_place_57 : decode cX12_place 57 = .ok (.iload_n 1, 1) := by decide +kernel
theorem dX12_place_58 : decode cX12_place 58 = .ok (.iadd, 1) := by decide +kernel
theorem dX12_place_59 : decode cX12_place 59 = .ok (.iaload, 1) := by decide +kernel
theorem dX12_place_60 : decode cX12_place 60 = .ok (.istore_n 3, 1) := by decide +kernel
theorem dX12_place_61 : decode cX12_place 61 = .ok (.aload_n 0, 1) := by decide +kernel
theorem dX12_place_62 : decode cX12_place 62 = .ok (.getfield 7, 3) := by decide +kernel
theorem dX12_place_65 : decode cX12_place 65 = .ok (.bipush 33, 2) := by decide +kernel
theorem dX12_place_67 : decode cX12_place 67 = .ok (.iload_n 1, 1) := by decide +kernel
theorem dX12_place_68 : decode cX12_place 68 = .ok (.iadd, 1) := by decide +kernel
theorem dX12_place_69 : decode cX12_place 69 = .ok (.iload_n 2, 1) := by decide +kernel
theorem dX12_place_70 : decode cX12_place 70 = .ok (.iastore, 1) := by decide +kernel
theorem dX12_place_71 : decode cX12_place 71 = .ok (.iload_n 3, 1) := by decide +kernel
theorem dX12_place_72 : decode cX12_place 72 = .ok (.ireturn, 1) := by decide +kernel
theorem dX12_place_40 : decode cX12_place 40 = .ok (.aload_n 0, 1) := by decide +kernel
theorem dX12_place_41 : decode cX12_place 41 = .ok (.bipush 6, 2) := by decide +kernel
theorem dX12_place_43 : decode cX12_place 43 = .ok (.invokevirtual 68, 3) := by decide +kernel
theorem dX12_place_46 : decode cX12_place 46 = .ok (.ireturn, 1) := by decide +kernel
theorem dX12_place_13 : decode cX12_place 13 = .ok (.aload_n 0, 1) := by decide +kernel
theorem dX12_place_14 : decode cX12_place 14 = .ok (.iload_n 2, 1) := by decide +kernel
theorem dX12_place_15 : decode cX12_place 15 = .ok (.invokevirtual 100, 3) := by decide +kernel
theorem dX12_place_18 : decode cX12_place 18 = .ok (.ifCond .ne 9, 3) := by decide +kernel
theorem dX12_place_21 : decode cX12_place 21 = .ok (.aload_n 0, 1) := by decide +kernel
theorem dX12_place_22 : decode cX12_place 22 = .ok (.iconst 1, 1) := by decide +kernel
theorem dX12_place_23 : decode cX12_place 23 = .ok (.invokevirtual 68, 3) := by decide +kernel
theorem dX12_place_26 : decode cX12_place 26 = .ok (.ireturn, 1) := by decide +kernel
set_option maxHeartbeats 8000000 in
set_option maxRecDepth 100000 in
theorem c_X12_place (l : Launch) (g : kG) (sz : Nat) (z : Nat → Nat) (kp : Nat) (xs : Nat → Int32) (D : Nat → Int32) (Wk : Nat → Int32) (x : Int32) (y : Int32) (hDI : DI D) (hkp : kp ≤ 16) (hWI : WI Wk kp) : kMi l g yX12_place cX12_place 4 (some .int) 4 0 0 [.ref (z 0), .int x, .int y] sz [(z 0, .inr (12, [.ref (z 1), .ref (z 2), .int (nI kp), .int (xs 0), .ref (z 3), .ref (z 4), .ref (z 5), .ref (z 6), .int (xs 1), .ref (z 7), .ref (z 8), .ref (z 9), .ref (z 10), .ref (z 11), .ref (z 12), .int (xs 2), .ref (z 13), .ref (z 14), .int (xs 3), .ref (z 15)])), (z 1, .inl (gI g, 461, .inl D)), (z 2, .inl (gI g, 7376, .inl Wk))] (fun (r : Int32) (u : Nat × (Nat → Int32) × (Nat → Int32) × (Nat → Int32)) => u.1 ≤ 16 ∧ DI u.2.2.1 ∧ WI u.2.2.2 u.1) (fun (u : Nat × (Nat → Int32) × (Nat → Int32) × (Nat → Int32)) => ([(z 0, .inr (12, [.ref (z 1), .ref (z 2), .int (nI u.1), .int (u.2.1 0), .ref (z 3), .ref (z 4), .ref (z 5), .ref (z 6), .int (u.2.1 1), .ref (z 7), .ref (z 8), .ref (z 9), .ref (z 10), .ref (z 11), .ref (z 12), .int (u.2.1 2), .ref (z 13), .ref (z 14), .int (u.2.1 3), .ref (z 15)])), (z 1, .inl (gI g, 461, .inl u.2.2.1)), (z 2, .inl (gI g, 7376, .inl u.2.2.2))] : va_W)) := by
  refine kMi.of (by decide) (Nat.le_of_ble_eq_true rfl) (fun p e s m below meth c A hx hb hr hml hown hts hlk hnm hKW hP hD hS hA ls hl => ?_)
  have hown : s.vm.findClass RX12 = some m.cls := hown
  have hl : lv_has ls 4 [(0, .ref (z 0)), (1, .int x), (2, .int y)] := hl
  refine k_hide hP hS (fun H locs hP hS => ?_)
  refine lv_aload_n hx hb dX12_place_0 rfl (lv_at hl 0 rfl) ?_
  refine lv_iload_n hx hb dX12_place_1 rfl (lv_at hl 1 rfl) ?_
  refine k_Vi [0, 1] [2] 0 12 (wr := [(z 2, .inl (gI g, 7376, .inl Wk))]) hx hb hml hown hts hKW hP hD hS hA hl.1 (c_X12_isHand l g _ z kp xs D x (by first | assumption | omega | decide)) rfl rfl rfl wd_12_14 wd_1_5 wd_12_11 wd_12_12 wd_12_13 yd_X12_isHand ⟨(Nat.le_of_ble_eq_true rfl), (Nat.le_of_ble_eq_true rfl)⟩ rfl rfl rfl rfl (by decide) rfl (Nat.le_of_ble_eq_true rfl) dX12_place_2 ⟨(Nat.le_of_ble_eq_true rfl), (Nat.le_of_ble_eq_true rfl)⟩ (fun r_1 u_2 H locs hw_3 hP hD hS => ?_)
  have hP : va_P g.1 vwCl [(z 2, .inl (gI g, 7376, .inl Wk)), (z 0, .inr (12, [.ref (z 1), .ref (z 2), .int (nI kp), .int (xs 0), .ref (z 3), .ref (z 4), .ref (z 5), .ref (z 6), .int (xs 1), .ref (z 7), .ref (z 8), .ref (z 9), .ref (z 10), .ref (z 11), .ref (z 12), .int (xs 2), .ref (z 13), .ref (z 14), .int (xs 3), .ref (z 15)])), (z 1, .inl (gI g, 461, .inl D))] H := hP
  have hD : va_D A [(z 2, .inl (gI g, 7376, .inl Wk)), (z 0, .inr (12, [.ref (z 1), .ref (z 2), .int (nI kp), .int (xs 0), .ref (z 3), .ref (z 4), .ref (z 5), .ref (z 6), .int (xs 1), .ref (z 7), .ref (z 8), .ref (z 9), .ref (z 10), .ref (z 11), .ref (z 12), .int (xs 2), .ref (z 13), .ref (z 14), .int (xs 3), .ref (z 15)])), (z 1, .inl (gI g, 461, .inl D))] := hD
  rcases (show (r_1 = 1 ∧ (∃ j : Nat, (j < 7 ∧ (j : Int) < (D 1).toInt) ∧ x = nI j)) ∨ (r_1 = 0 ∧ ¬ (∃ j : Nat, (j < 7 ∧ (j : Int) < (D 1).toInt) ∧ x = nI j)) from hw_3) with ⟨rfl, hw_3b⟩ | ⟨rfl, hw_3b⟩ <;> clear hw_3
  · obtain ⟨j_4, hj_4, rfl⟩ := hw_3b
    refine lv_if_eq (tgt := 21) hx hb dX12_place_5 (by decide) (fun c => absurd c (by decide)) (fun _ => ?_)
    refine lv_iload_n hx hb dX12_place_8 rfl (lv_at hl 2 rfl) ?_
    refine lv_iconst (v := (-1)) hx hb dX12_place_9 (by decide) ?_
    refine lv_icmp_eq (tgt := 27) hx hb dX12_place_10 (by decide) (fun c_5 => ?_) (fun c_5 => ?_)
    · refine lv_aload_n hx hb dX12_place_27 rfl (lv_at hl 0 rfl) ?_
      refine va_get (ci := 12) (C := RX12) (T := TX12) (N := 20) hx hb hts inlX12 hown hKW.1 hP 1 rfl rfl 0 (by decide) (hts _ wd_6_5) (fun _ h => h) rfl dX12_place_28 ?_
      refine lv_bipush (v := 40) hx hb dX12_place_31 (by decide) ?_
      refine lv_iload_n hx hb dX12_place_33 rfl (lv_at hl 1 rfl) ?_
      refine lv_iadd hx hb dX12_place_34 ?_
      refine k_top (y := nI (j_4 + 40)) (by rw [Nat.add_comm]; exact nI_add 40 j_4) ?_
      refine va_iald hx hb hKW.1 hP 2 0 rfl rfl (vp_in_nI (by omega) (by decide)) dX12_place_35 ?_
      refine lv_topi (fun x_6 ex_6 => ?_)
      refine lv_iconst (v := 1) hx hb dX12_place_36 (by decide) ?_
      refine lv_icmp_ne (tgt := 47) hx hb dX12_place_37 (by decide) (fun c_7 => ?_) (fun c_7 => ?_)
      · refine lv_aload_n hx hb dX12_place_47 rfl (lv_at hl 0 rfl) ?_
        refine k_Vv [1, 2, 0] [] 1 12 (wr := []) hx hb hml hown hts hKW hP hD hS hA hl.1 (c_X12_keep l g _ z kp xs D Wk (by first | assumption | omega | decide) (by first | assumption | omega | decide) (by first | assumption | omega | decide)) rfl rfl rfl wd_10_21 wd_1_5 wd_10_18 wd_10_19 wd_10_20 yd_X12_keep ⟨(Nat.le_of_ble_eq_true rfl), (Nat.le_of_ble_eq_true rfl)⟩ rfl rfl rfl rfl (by decide) rfl (Nat.le_of_ble_eq_true rfl) dX12_place_48 ⟨(Nat.le_of_ble_eq_true rfl), (Nat.le_of_ble_eq_true rfl)⟩ (fun u_9 H locs hw_10 hP hD hS => ?_)
        obtain ⟨q_11, f_12⟩ := u_9
        have hP : va_P g.1 vwCl [(z 0, .inr (12, [.ref (z 1), .ref (z 2), .int (nI q_11), .int (xs 0), .ref (z 3), .ref (z 4), .ref (z 5), .ref (z 6), .int (xs 1), .ref (z 7), .ref (z 8), .ref (z 9), .ref (z 10), .ref (z 11), .ref (z 12), .int (xs 2), .ref (z 13), .ref (z 14), .int (xs 3), .ref (z 15)])), (z 1, .inl (gI g, 461, .inl D)), (z 2, .inl (gI g, 7376, .inl f_12))] H := hP
        have hD : va_D A [(z 0, .inr (12, [.ref (z 1), .ref (z 2), .int (nI q_11), .int (xs 0), .ref (z 3), .ref (z 4), .ref (z 5), .ref (z 6), .int (xs 1), .ref (z 7), .ref (z 8), .ref (z 9), .ref (z 10), .ref (z 11), .ref (z 12), .int (xs 2), .ref (z 13), .ref (z 14), .int (xs 3), .ref (z 15)])), (z 1, .inl (gI g, 461, .inl D)), (z 2, .inl (gI g, 7376, .inl f_12))] := hD
        have hw_10 : q_11 ≤ 16 ∧ WI f_12 q_11 := hw_10
        obtain ⟨hkk, hkW⟩ := hw_10
        refine lv_aload_n hx hb dX12_place_51 rfl (lv_at hl 0 rfl) ?_
        refine va_get (ci := 12) (C := RX12) (T := TX12) (N := 20) hx hb hts inlX12 hown hKW.1 hP 0 rfl rfl 0 (by decide) (hts _ wd_6_5) (fun _ h => h) rfl dX12_place_52 ?_
        refine lv_bipush (v := 33) hx hb dX12_place_55 (by decide) ?_
        refine lv_iload_n hx hb dX12_place_57 rfl (lv_at hl 1 rfl) ?_
        refine lv_iadd hx hb dX12_place_58 ?_
        refine k_top (y := nI (j_4 + 33)) (by rw [Nat.add_comm]; exact nI_add 33 j_4) ?_
        refine va_iald hx hb hKW.1 hP 1 0 rfl rfl (vp_in_nI (by omega) (by decide)) dX12_place_59 ?_
        refine lv_topi (fun x_13 ex_13 => ?_)
        refine lv_istore_n (lv' := [(3, .int x_13), (0, .ref (z 0)), (1, .int (nI j_4)), (2, .int y)]) hx hb dX12_place_60 rfl hl (by decide) rfl (fun ls hl => ?_)
        refine lv_aload_n hx hb dX12_place_61 rfl (lv_at hl 1 rfl) ?_
        refine va_get (ci := 12) (C := RX12) (T := TX12) (N := 20) hx hb hts inlX12 hown hKW.1 hP 0 rfl rfl 0 (by decide) (hts _ wd_6_5) (fun _ h => h) rfl dX12_place_62 ?_
        refine lv_bipush (v := 33) hx hb dX12_place_65 (by decide) ?_
        refine lv_iload_n hx hb dX12_place_67 rfl (lv_at hl 2 rfl) ?_
        refine lv_iadd hx hb dX12_place_68 ?_
        refine k_top (y := nI (j_4 + 33)) (by rw [Nat.add_comm]; exact nI_add 33 j_4) ?_
        refine lv_iload_n hx hb dX12_place_69 rfl (lv_at hl 3 rfl) ?_
        refine va_iast hx hb hKW.1 hP hD hS 1 0 rfl rfl (vp_in_nI (by omega) (by decide)) dX12_place_70 (fun H locs hP hD hS => ?_)
        have hP : va_P g.1 vwCl [(z 0, .inr (12, [.ref (z 1), .ref (z 2), .int (nI q_11), .int (xs 0), .ref (z 3), .ref (z 4), .ref (z 5), .ref (z 6), .int (xs 1), .ref (z 7), .ref (z 8), .ref (z 9), .ref (z 10), .ref (z 11), .ref (z 12), .int (xs 2), .ref (z 13), .ref (z 14), .int (xs 3), .ref (z 15)])), (z 1, .inl (gI g, 461, .inl (upd D (nI (j_4 + 33)).toNatClampNeg y))), (z 2, .inl (gI g, 7376, .inl f_12))] H := hP
        have hD : va_D A [(z 0, .inr (12, [.ref (z 1), .ref (z 2), .int (nI q_11), .int (xs 0), .ref (z 3), .ref (z 4), .ref (z 5), .ref (z 6), .int (xs 1), .ref (z 7), .ref (z 8), .ref (z 9), .ref (z 10), .ref (z 11), .ref (z 12), .int (xs 2), .ref (z 13), .ref (z 14), .int (xs 3), .ref (z 15)])), (z 1, .inl (gI g, 461, .inl (upd D (nI (j_4 + 33)).toNatClampNeg y))), (z 2, .inl (gI g, 7376, .inl f_12))] := hD
        obtain ⟨f_14, ef_14⟩ : ∃ zz_ : Nat → Int32, zz_ = upd D (nI (j_4 + 33)).toNatClampNeg y := ⟨_, rfl⟩
        rw [← ef_14] at hP hD
        have hDf_14 : DI f_14 := DI.free (i := (j_4 + 33)) (x := y) hDI (by rw [ef_14, nI_clamp (by omega)]) (by unfold dFree; omega)
        refine lv_iload_n hx hb dX12_place_71 rfl (lv_at hl 0 rfl) ?_
        exact k_iret (q_11, xs, f_14, f_12) [0, 1, 2] hx hb hr hlk hP hD hS (⟨hkk, hDf_14, hkW⟩) rfl rfl rfl (Nat.le_of_ble_eq_true rfl) (Nat.le_of_ble_eq_true rfl) dX12_place_72
      · refine lv_aload_n hx hb dX12_place_40 rfl (lv_at hl 0 rfl) ?_
        refine lv_bipush (v := 6) hx hb dX12_place_41 (by decide) ?_
        refine k_Vi [1] [0, 2] 1 12 (wr := [(z 2, .inl (gI g, 7376, .inl Wk)), (z 1, .inl (gI g, 461, .inl D))]) hx hb hml hown hts hKW hP hD hS hA hl.1 (c_X12_finding_6 l g _ z kp xs ) rfl rfl rfl wd_10_15 wd_1_5 wd_10_12 wd_10_13 wd_10_14 yd_X12_finding ⟨(Nat.le_of_ble_eq_true rfl), (Nat.le_of_ble_eq_true rfl)⟩ rfl rfl rfl rfl (by decide) rfl (Nat.le_of_ble_eq_true rfl) dX12_place_43 ⟨(Nat.le_of_ble_eq_true rfl), (Nat.le_of_ble_eq_true rfl)⟩ (fun r_15 u_16 H locs hw_17 hP hD hS => ?_)
        have hP : va_P g.1 vwCl [(z 2, .inl (gI g, 7376, .inl Wk)), (z 1, .inl (gI g, 461, .inl D)), (z 0, .inr (12, [.ref (z 1), .ref (z 2), .int (nI kp), .int u_16, .ref (z 3), .ref (z 4), .ref (z 5), .ref (z 6), .int (xs 1), .ref (z 7), .ref (z 8), .ref (z 9), .ref (z 10), .ref (z 11), .ref (z 12), .int (xs 2), .ref (z 13), .ref (z 14), .int (xs 3), .ref (z 15)]))] H := hP
        have hD : va_D A [(z 2, .inl (gI g, 7376, .inl Wk)), (z 1, .inl (gI g, 461, .inl D)), (z 0, .inr (12, [.ref (z 1), .ref (z 2), .int (nI kp), .int u_16, .ref (z 3), .ref (z 4), .ref (z 5), .ref (z 6), .int (xs 1), .ref (z 7), .ref (z 8), .ref (z 9), .ref (z 10), .ref (z 11), .ref (z 12), .int (xs 2), .ref (z 13), .ref (z 14), .int (xs 3), .ref (z 15)]))] := hD
        have hw_17 : r_15 = (-100006) := hw_17
        subst hw_17
        exact k_iret (kp, (fun kk_ => ([u_16, (xs 1), (xs 2), (xs 3)] : List Int32).getD kk_ 0), D, Wk) [2, 1, 0] hx hb hr hlk hP hD hS (⟨hkp, hDI, hWI⟩) rfl rfl rfl (Nat.le_of_ble_eq_true rfl) (Nat.le_of_ble_eq_true rfl) dX12_place_46
    · refine lv_aload_n hx hb dX12_place_13 rfl (lv_at hl 0 rfl) ?_
      refine lv_iload_n hx hb dX12_place_14 rfl (lv_at hl 2 rfl) ?_
      refine k_Vi [1, 2] [0] 1 12 (wr := [(z 2, .inl (gI g, 7376, .inl Wk))]) hx hb hml hown hts hKW hP hD hS hA hl.1 (c_X12_isRoom l g _ z kp xs D y (by first | assumption | omega | decide)) rfl rfl rfl wd_20_4 wd_1_5 wd_20_1 wd_20_2 wd_20_3 yd_X12_isRoom ⟨(Nat.le_of_ble_eq_true rfl), (Nat.le_of_ble_eq_true rfl)⟩ rfl rfl rfl rfl (by decide) rfl (Nat.le_of_ble_eq_true rfl) dX12_place_15 ⟨(Nat.le_of_ble_eq_true rfl), (Nat.le_of_ble_eq_true rfl)⟩ (fun r_18 u_19 H locs hw_20 hP hD hS => ?_)
      have hP : va_P g.1 vwCl [(z 2, .inl (gI g, 7376, .inl Wk)), (z 0, .inr (12, [.ref (z 1), .ref (z 2), .int (nI kp), .int (xs 0), .ref (z 3), .ref (z 4), .ref (z 5), .ref (z 6), .int (xs 1), .ref (z 7), .ref (z 8), .ref (z 9), .ref (z 10), .ref (z 11), .ref (z 12), .int (xs 2), .ref (z 13), .ref (z 14), .int (xs 3), .ref (z 15)])), (z 1, .inl (gI g, 461, .inl D))] H := hP
      have hD : va_D A [(z 2, .inl (gI g, 7376, .inl Wk)), (z 0, .inr (12, [.ref (z 1), .ref (z 2), .int (nI kp), .int (xs 0), .ref (z 3), .ref (z 4), .ref (z 5), .ref (z 6), .int (xs 1), .ref (z 7), .ref (z 8), .ref (z 9), .ref (z 10), .ref (z 11), .ref (z 12), .int (xs 2), .ref (z 13), .ref (z 14), .int (xs 3), .ref (z 15)])), (z 1, .inl (gI g, 461, .inl D))] := hD
      rcases (show (r_18 = 1 ∧ (∃ j : Nat, (j < 5 ∧ (j : Int) < (D 0).toInt) ∧ y = nI j)) ∨ (r_18 = 0 ∧ ¬ (∃ j : Nat, (j < 5 ∧ (j : Int) < (D 0).toInt) ∧ y = nI j)) from hw_20) with ⟨rfl, hw_20b⟩ | ⟨rfl, hw_20b⟩ <;> clear hw_20
      · obtain ⟨j_21, hj_21, rfl⟩ := hw_20b
        refine lv_if_ne (tgt := 27) hx hb dX12_place_18 (by decide) (fun _ => ?_) (fun c => absurd c (by decide))
        refine lv_aload_n hx hb dX12_place_27 rfl (lv_at hl 0 rfl) ?_
        refine va_get (ci := 12) (C := RX12) (T := TX12) (N := 20) hx hb hts inlX12 hown hKW.1 hP 1 rfl rfl 0 (by decide) (hts _ wd_6_5) (fun _ h => h) rfl dX12_place_28 ?_
        refine lv_bipush (v := 40) hx hb dX12_place_31 (by decide) ?_
        refine lv_iload_n hx hb dX12_place_33 rfl (lv_at hl 1 rfl) ?_
        refine lv_iadd hx hb dX12_place_34 ?_
        refine k_top (y := nI (j_4 + 40)) (by rw [Nat.add_comm]; exact nI_add 40 j_4) ?_
        refine va_iald hx hb hKW.1 hP 2 0 rfl rfl (vp_in_nI (by omega) (by decide)) dX12_place_35 ?_
        refine lv_topi (fun x_22 ex_22 => ?_)
        refine lv_iconst (v := 1) hx hb dX12_place_36 (by decide) ?_
        refine lv_icmp_ne (tgt := 47) hx hb dX12_place_37 (by decide) (fun c_23 => ?_) (fun c_23 => ?_)
        · refine lv_aload_n hx hb dX12_place_47 rfl (lv_at hl 0 rfl) ?_
          refine k_Vv [1, 2, 0] [] 1 12 (wr := []) hx hb hml hown hts hKW hP hD hS hA hl.1 (c_X12_keep l g _ z kp xs D Wk (by first | assumption | omega | decide) (by first | assumption | omega | decide) (by first | assumption | omega | decide)) rfl rfl rfl wd_10_21 wd_1_5 wd_10_18 wd_10_19 wd_10_20 yd_X12_keep ⟨(Nat.le_of_ble_eq_true rfl), (Nat.le_of_ble_eq_true rfl)⟩ rfl rfl rfl rfl (by decide) rfl (Nat.le_of_ble_eq_true rfl) dX12_place_48 ⟨(Nat.le_of_ble_eq_true rfl), (Nat.le_of_ble_eq_true rfl)⟩ (fun u_25 H locs hw_26 hP hD hS => ?_)
          obtain ⟨q_27, f_28⟩ := u_25
          have hP : va_P g.1 vwCl [(z 0, .inr (12, [.ref (z 1), .ref (z 2), .int (nI q_27), .int (xs 0), .ref (z 3), .ref (z 4), .ref (z 5), .ref (z 6), .int (xs 1), .ref (z 7), .ref (z 8), .ref (z 9), .ref (z 10), .ref (z 11), .ref (z 12), .int (xs 2), .ref (z 13), .ref (z 14), .int (xs 3), .ref (z 15)])), (z 1, .inl (gI g, 461, .inl D)), (z 2, .inl (gI g, 7376, .inl f_28))] H := hP
          have hD : va_D A [(z 0, .inr (12, [.ref (z 1), .ref (z 2), .int (nI q_27), .int (xs 0), .ref (z 3), .ref (z 4), .ref (z 5), .ref (z 6), .int (xs 1), .ref (z 7), .ref (z 8), .ref (z 9), .ref (z 10), .ref (z 11), .ref (z 12), .int (xs 2), .ref (z 13), .ref (z 14), .int (xs 3), .ref (z 15)])), (z 1, .inl (gI g, 461, .inl D)), (z 2, .inl (gI g, 7376, .inl f_28))] := hD
          have hw_26 : q_27 ≤ 16 ∧ WI f_28 q_27 := hw_26
          obtain ⟨hkk, hkW⟩ := hw_26
          refine lv_aload_n hx hb dX12_place_51 rfl (lv_at hl 0 rfl) ?_
          refine va_get (ci := 12) (C := RX12) (T := TX12) (N := 20) hx hb hts inlX12 hown hKW.1 hP 0 rfl rfl 0 (by decide) (hts _ wd_6_5) (fun _ h => h) rfl dX12_place_52 ?_
          refine lv_bipush (v := 33) hx hb dX12_place_55 (by decide) ?_
          refine lv_iload_n hx hb dX12_place_57 rfl (lv_at hl 1 rfl) ?_
          refine lv_iadd hx hb dX12_place_58 ?_
          refine k_top (y := nI (j_4 + 33)) (by rw [Nat.add_comm]; exact nI_add 33 j_4) ?_
          refine va_iald hx hb hKW.1 hP 1 0 rfl rfl (vp_in_nI (by omega) (by decide)) dX12_place_59 ?_
          refine lv_topi (fun x_29 ex_29 => ?_)
          refine lv_istore_n (lv' := [(3, .int x_29), (0, .ref (z 0)), (1, .int (nI j_4)), (2, .int (nI j_21))]) hx hb dX12_place_60 rfl hl (by decide) rfl (fun ls hl => ?_)
          refine lv_aload_n hx hb dX12_place_61 rfl (lv_at hl 1 rfl) ?_
          refine va_get (ci := 12) (C := RX12) (T := TX12) (N := 20) hx hb hts inlX12 hown hKW.1 hP 0 rfl rfl 0 (by decide) (hts _ wd_6_5) (fun _ h => h) rfl dX12_place_62 ?_
          refine lv_bipush (v := 33) hx hb dX12_place_65 (by decide) ?_
          refine lv_iload_n hx hb dX12_place_67 rfl (lv_at hl 2 rfl) ?_
          refine lv_iadd hx hb dX12_place_68 ?_
          refine k_top (y := nI (j_4 + 33)) (by rw [Nat.add_comm]; exact nI_add 33 j_4) ?_
          refine lv_iload_n hx hb dX12_place_69 rfl (lv_at hl 3 rfl) ?_
          refine va_iast hx hb hKW.1 hP hD hS 1 0 rfl rfl (vp_in_nI (by omega) (by decide)) dX12_place_70 (fun H locs hP hD hS => ?_)
          have hP : va_P g.1 vwCl [(z 0, .inr (12, [.ref (z 1), .ref (z 2), .int (nI q_27), .int (xs 0), .ref (z 3), .ref (z 4), .ref (z 5), .ref (z 6), .int (xs 1), .ref (z 7), .ref (z 8), .ref (z 9), .ref (z 10), .ref (z 11), .ref (z 12), .int (xs 2), .ref (z 13), .ref (z 14), .int (xs 3), .ref (z 15)])), (z 1, .inl (gI g, 461, .inl (upd D (nI (j_4 + 33)).toNatClampNeg (nI j_21)))), (z 2, .inl (gI g, 7376, .inl f_28))] H := hP
          have hD : va_D A [(z 0, .inr (12, [.ref (z 1), .ref (z 2), .int (nI q_27), .int (xs 0), .ref (z 3), .ref (z 4), .ref (z 5), .ref (z 6), .int (xs 1), .ref (z 7), .ref (z 8), .ref (z 9), .ref (z 10), .ref (z 11), .ref (z 12), .int (xs 2), .ref (z 13), .ref (z 14), .int (xs 3), .ref (z 15)])), (z 1, .inl (gI g, 461, .inl (upd D (nI (j_4 + 33)).toNatClampNeg (nI j_21)))), (z 2, .inl (gI g, 7376, .inl f_28))] := hD
          obtain ⟨f_30, ef_30⟩ : ∃ zz_ : Nat → Int32, zz_ = upd D (nI (j_4 + 33)).toNatClampNeg (nI j_21) := ⟨_, rfl⟩
          rw [← ef_30] at hP hD
          have hDf_30 : DI f_30 := DI.free (i := (j_4 + 33)) (x := nI j_21) hDI (by rw [ef_30, nI_clamp (by omega)]) (by unfold dFree; omega)
          refine lv_iload_n hx hb dX12_place_71 rfl (lv_at hl 0 rfl) ?_
          exact k_iret (q_27, xs, f_30, f_28) [0, 1, 2] hx hb hr hlk hP hD hS (⟨hkk, hDf_30, hkW⟩) rfl rfl rfl (Nat.le_of_ble_eq_true rfl) (Nat.le_of_ble_eq_true rfl) dX12_place_72
        · refine lv_aload_n hx hb dX12_place_40 rfl (lv_at hl 0 rfl) ?_
          refine lv_bipush (v := 6) hx hb dX12_place_41 (by decide) ?_
          refine k_Vi [1] [0, 2] 1 12 (wr := [(z 2, .inl (gI g, 7376, .inl Wk)), (z 1, .inl (gI g, 461, .inl D))]) hx hb hml hown hts hKW hP hD hS hA hl.1 (c_X12_finding_6 l g _ z kp xs ) rfl rfl rfl wd_10_15 wd_1_5 wd_10_12 wd_10_13 wd_10_14 yd_X12_finding ⟨(Nat.le_of_ble_eq_true rfl), (Nat.le_of_ble_eq_true rfl)⟩ rfl rfl rfl rfl (by decide) rfl (Nat.le_of_ble_eq_true rfl) dX12_place_43 ⟨(Nat.le_of_ble_eq_true rfl), (Nat.le_of_ble_eq_true rfl)⟩ (fun r_31 u_32 H locs hw_33 hP hD hS => ?_)
          have hP : va_P g.1 vwCl [(z 2, .inl (gI g, 7376, .inl Wk)), (z 1, .inl (gI g, 461, .inl D)), (z 0, .inr (12, [.ref (z 1), .ref (z 2), .int (nI kp), .int u_32, .ref (z 3), .ref (z 4), .ref (z 5), .ref (z 6), .int (xs 1), .ref (z 7), .ref (z 8), .ref (z 9), .ref (z 10), .ref (z 11), .ref (z 12), .int (xs 2), .ref (z 13), .ref (z 14), .int (xs 3), .ref (z 15)]))] H := hP
          have hD : va_D A [(z 2, .inl (gI g, 7376, .inl Wk)), (z 1, .inl (gI g, 461, .inl D)), (z 0, .inr (12, [.ref (z 1), .ref (z 2), .int (nI kp), .int u_32, .ref (z 3), .ref (z 4), .ref (z 5), .ref (z 6), .int (xs 1), .ref (z 7), .ref (z 8), .ref (z 9), .ref (z 10), .ref (z 11), .ref (z 12), .int (xs 2), .ref (z 13), .ref (z 14), .int (xs 3), .ref (z 15)]))] := hD
          have hw_33 : r_31 = (-100006) := hw_33
          subst hw_33
          exact k_iret (kp, (fun kk_ => ([u_32, (xs 1), (xs 2), (xs 3)] : List Int32).getD kk_ 0), D, Wk) [2, 1, 0] hx hb hr hlk hP hD hS (⟨hkp, hDI, hWI⟩) rfl rfl rfl (Nat.le_of_ble_eq_true rfl) (Nat.le_of_ble_eq_true rfl) dX12_place_46
      · refine lv_if_ne (tgt := 27) hx hb dX12_place_18 (by decide) (fun c => absurd c (by decide)) (fun _ => ?_)
        refine lv_aload_n hx hb dX12_place_21 rfl (lv_at hl 0 rfl) ?_
        refine lv_iconst (v := 1) hx hb dX12_place_22 (by decide) ?_
        refine k_Vi [1] [0, 2] 1 12 (wr := [(z 2, .inl (gI g, 7376, .inl Wk)), (z 1, .inl (gI g, 461, .inl D))]) hx hb hml hown hts hKW hP hD hS hA hl.1 (c_X12_finding_1 l g _ z kp xs ) rfl rfl rfl wd_10_15 wd_1_5 wd_10_12 wd_10_13 wd_10_14 yd_X12_finding ⟨(Nat.le_of_ble_eq_true rfl), (Nat.le_of_ble_eq_true rfl)⟩ rfl rfl rfl rfl (by decide) rfl (Nat.le_of_ble_eq_true rfl) dX12_place_23 ⟨(Nat.le_of_ble_eq_true rfl), (Nat.le_of_ble_eq_true rfl)⟩ (fun r_34 u_35 H locs hw_36 hP hD hS => ?_)
        have hP : va_P g.1 vwCl [(z 2, .inl (gI g, 7376, .inl Wk)), (z 1, .inl (gI g, 461, .inl D)), (z 0, .inr (12, [.ref (z 1), .ref (z 2), .int (nI kp), .int u_35, .ref (z 3), .ref (z 4), .ref (z 5), .ref (z 6), .int (xs 1), .ref (z 7), .ref (z 8), .ref (z 9), .ref (z 10), .ref (z 11), .ref (z 12), .int (xs 2), .ref (z 13), .ref (z 14), .int (xs 3), .ref (z 15)]))] H := hP
        have hD : va_D A [(z 2, .inl (gI g, 7376, .inl Wk)), (z 1, .inl (gI g, 461, .inl D)), (z 0, .inr (12, [.ref (z 1), .ref (z 2), .int (nI kp), .int u_35, .ref (z 3), .ref (z 4), .ref (z 5), .ref (z 6), .int (xs 1), .ref (z 7), .ref (z 8), .ref (z 9), .ref (z 10), .ref (z 11), .ref (z 12), .int (xs 2), .ref (z 13), .ref (z 14), .int (xs 3), .ref (z 15)]))] := hD
        have hw_36 : r_34 = (-100001) := hw_36
        subst hw_36
        exact k_iret (kp, (fun kk_ => ([u_35, (xs 1), (xs 2), (xs 3)] : List Int32).getD kk_ 0), D, Wk) [2, 1, 0] hx hb hr hlk hP hD hS (⟨hkp, hDI, hWI⟩) rfl rfl rfl (Nat.le_of_ble_eq_true rfl) (Nat.le_of_ble_eq_true rfl) dX12_place_26
  · refine lv_if_eq (tgt := 21) hx hb dX12_place_5 (by decide) (fun _ => ?_) (fun c => absurd c (by decide))
    refine lv_aload_n hx hb dX12_place_21 rfl (lv_at hl 0 rfl) ?_
    refine lv_iconst (v := 1) hx hb dX12_place_22 (by decide) ?_
    refine k_Vi [1] [0, 2] 1 12 (wr := [(z 2, .inl (gI g, 7376, .inl Wk)), (z 1, .inl (gI g, 461, .inl D))]) hx hb hml hown hts hKW hP hD hS hA hl.1 (c_X12_finding_1 l g _ z kp xs ) rfl rfl rfl wd_10_15 wd_1_5 wd_10_12 wd_10_13 wd_10_14 yd_X12_finding ⟨(Nat.le_of_ble_eq_true rfl), (Nat.le_of_ble_eq_true rfl)⟩ rfl rfl rfl rfl (by decide) rfl (Nat.le_of_ble_eq_true rfl) dX12_place_23 ⟨(Nat.le_of_ble_eq_true rfl), (Nat.le_of_ble_eq_true rfl)⟩ (fun r_37 u_38 H locs hw_39 hP hD hS => ?_)
    have hP : va_P g.1 vwCl [(z 2, .inl (gI g, 7376, .inl Wk)), (z 1, .inl (gI g, 461, .inl D)), (z 0, .inr (12, [.ref (z 1), .ref (z 2), .int (nI kp), .int u_38, .ref (z 3), .ref (z 4), .ref (z 5), .ref (z 6), .int (xs 1), .ref (z 7), .ref (z 8), .ref (z 9), .ref (z 10), .ref (z 11), .ref (z 12), .int (xs 2), .ref (z 13), .ref (z 14), .int (xs 3), .ref (z 15)]))] H := hP
    have hD : va_D A [(z 2, .inl (gI g, 7376, .inl Wk)), (z 1, .inl (gI g, 461, .inl D)), (z 0, .inr (12, [.ref (z 1), .ref (z 2), .int (nI kp), .int u_38, .ref (z 3), .ref (z 4), .ref (z 5), .ref (z 6), .int (xs 1), .ref (z 7), .ref (z 8), .ref (z 9), .ref (z 10), .ref (z 11), .ref (z 12), .int (xs 2), .ref (z 13), .ref (z 14), .int (xs 3), .ref (z 15)]))] := hD
    have hw_39 : r_37 = (-100001) := hw_39
    subst hw_39
    exact k_iret (kp, (fun kk_ => ([u_38, (xs 1), (xs 2), (xs 3)] : List Int32).getD kk_ 0), D, Wk) [2, 1, 0] hx hb hr hlk hP hD hS (⟨hkp, hDI, hWI⟩) rfl rfl rfl (Nat.le_of_ble_eq_true rfl) (Nat.le_of_ble_eq_true rfl) dX12_place_26
theorem dX12_ill_0 : decode cX12_ill 0 = .ok (.aload_n 0, 1) := by decide +kernel
theorem dX12_ill_1 : decode cX12_ill 1 = .ok (.iload_n 1, 1) := by decide +kernel
theorem dX12_ill_2 : decode cX12_ill 2 = .ok (.invokevirtual 75, 3) := by decide +kernel
theorem dX12_ill_5 : decode cX12_ill 5 = .ok (.ifCond .ne 9, 3) := by decide +kernel
theorem dX12_ill_14 : decode cX12_ill 14 = .ok (.aload_n 0, 1) := by decide +kernel
theorem dX12_ill_15 : decode cX12_ill 15 = .ok (.getfield 7, 3) := by decide +kernel
theorem dX12_ill_18 : decode cX12_ill 18 = .ok (.bipush 40, 2) := by decide +kernel
theorem dX12_ill_20 : decode cX12_ill 20 = .ok (.iload_n 1, 1) := by decide +kernel
theorem dX12_ill_21 : decode cX12_ill 21 = .ok (.iadd, 1) := by decide +kernel
theorem dX12_ill_22 : decode cX12_ill 22 = .ok (.iaload, 1) := by decide +kernel
theorem dX12_ill_23 : decode cX12_ill 23 = .ok (.iconst 1, 1) := by decide +kernel
theorem dX12_ill_24 : decode cX12_ill 24 = .ok (.if_icmp .ne 10, 3) := by decide +kernel
theorem dX12_ill_34 : decode cX12_ill 34 = .ok (.aload_n 0, 1) := by decide +kernel
theorem dX12_ill_35 : decode cX12_ill 35 = .ok (.invokevirtual 72, 3) := by decide +kernel
theorem dX12_ill_38 : decode cX12_ill 38 = .ok (.aload_n 0, 1) := by decide +kernel
theorem dX12_ill_39 : decode cX12_ill 39 = .ok (.getfield 7, 3) := by decide +kernel
theorem dX12_ill_42 : decode cX12_ill 42 = .ok (.bipush 33, 2) := by decide +kernel
theorem dX12_ill_44 : decode cX12_ill 44 = .ok (.iload_n 1, 1) := by decide +kernel
theorem dX12_ill_45 : decode cX12_ill 45 = .ok (.iadd, 1) := by decide +kernel
theorem dX12_ill_46 : decode cX12_ill 46 = .ok (.iaload, 1) := by decide +kernel
theorem dX12_ill_47 : decode cX12_ill 47 = .ok (.istore_n 2, 1) := by decide +kernel
theorem dX12_ill_48 : decode cX12_ill 48 = .ok (.aload_n 0, 1) := by decide +kernel
theorem dX12_ill_49 : decode cX12_ill 49 = .ok (.getfield 7, 3) := by decide +kernel
theorem dX12_ill_52 : decode cX12_ill 52 = .ok (.bipush 33, 2) := by decide +kernel
theorem dX12_ill_54 : decode cX12_ill 54 = .ok (.iload_n 1, 1) := by decide +kernel
theorem dX12_ill_55 : decode cX12_ill 55 = .ok (.iadd, 1) := by decide +kernel
theorem dX12_ill_56 : decode cX12_ill 56 = .ok (.iconst (-1), 1) := by decide +kernel
theorem dX12_ill_57 : decode cX12_ill 57 = .ok (.iastore, 1) := by decide +kernel
theorem dX12_ill_58 : decode cX12_ill 58 = .ok (.aload_n 0, 1) := by decide +kernel
theorem dX12_ill_59 : decode cX12_ill 59 = .ok (.getfield 7, 3) := by decide +kernel
theorem dX12_ill_62 : decode cX12_ill 62 = .ok (.bipush 40, 2) := by decide +kernel
theorem dX12_ill_64 : decode cX12_ill 64 = .ok (.iload_n 1, 1) := by decide +kernel
theorem dX12_ill_65 : decode cX12_ill 65 = .ok (.iadd, 1) := by decide +kernel
theorem dX12_ill_66 : decode cX12_ill 66 = .ok (.iconst 1, 1) := by decide +kernel
theorem dX12_ill_67 : decode cX12_ill 67 = .ok (.iastore, 1) := by decide +kernel
theorem dX12_ill_68 : decode cX12_ill 68 = .ok (.iload_n 2, 1) := by decide +kernel
theorem dX12_ill_69 : decode cX12_ill 69 = .ok (.ireturn, 1) := by decide +kernel
theorem dX12_ill_27 : decode cX12_ill 27 = .ok (.aload_n 0, 1) := by decide +kernel
theorem dX12_ill_28 : decode cX12_ill 28 = .ok (.bipush 7, 2) := by decide +kernel
theorem dX12_ill_30 : decode cX12_ill 30 = .ok (.invokevirtual 68, 3) := by decide +kernel
theorem dX12_ill_33 : decode cX12_ill 33 = .ok (.ireturn, 1) := by decide +kernel
theorem dX12_ill_8 : decode cX12_ill 8 = .ok (.aload_n 0, 1) := by decide +kernel
theorem dX12_ill_9 : decode cX12_ill 9 = .ok (.iconst 1, 1) := by decide +kernel
theorem dX12_ill_10 : decode cX12_ill 10 = .ok (.invokevirtual 68, 3) := by decide +kernel
theorem dX12_ill_13 : decode cX12_ill 13 = .ok (.ireturn, 1) := by decide +kernel
set_option maxHeartbeats 8000000 in
set_option maxRecDepth 100000 in
theorem c_X12_ill (l : Launch) (g : kG) (sz : Nat) (z : Nat → Nat) (kp : Nat) (xs : Nat → Int32) (D : Nat → Int32) (Wk : Nat → Int32) (x : Int32) (hDI : DI D) (hkp : kp ≤ 16) (hWI : WI Wk kp) : kMi l g yX12_ill cX12_ill 3 (some .int) 4 0 0 [.ref (z 0), .int x] sz [(z 0, .inr (12, [.ref (z 1), .ref (z 2), .int (nI kp), .int (xs 0), .ref (z 3), .ref (z 4), .ref (z 5), .ref (z 6), .int (xs 1), .ref (z 7), .ref (z 8), .ref (z 9), .ref (z 10), .ref (z 11), .ref (z 12), .int (xs 2), .ref (z 13), .ref (z 14), .int (xs 3), .ref (z 15)])), (z 1, .inl (gI g, 461, .inl D)), (z 2, .inl (gI g, 7376, .inl Wk))] (fun (r : Int32) (u : Nat × (Nat → Int32) × (Nat → Int32) × (Nat → Int32)) => u.1 ≤ 16 ∧ DI u.2.2.1 ∧ WI u.2.2.2 u.1) (fun (u : Nat × (Nat → Int32) × (Nat → Int32) × (Nat → Int32)) => ([(z 0, .inr (12, [.ref (z 1), .ref (z 2), .int (nI u.1), .int (u.2.1 0), .ref (z 3), .ref (z 4), .ref (z 5), .ref (z 6), .int (u.2.1 1), .ref (z 7), .ref (z 8), .ref (z 9), .ref (z 10), .ref (z 11), .ref (z 12), .int (u.2.1 2), .ref (z 13), .ref (z 14), .int (u.2.1 3), .ref (z 15)])), (z 1, .inl (gI g, 461, .inl u.2.2.1)), (z 2, .inl (gI g, 7376, .inl u.2.2.2))] : va_W)) := by
  refine kMi.of (by decide) (Nat.le_of_ble_eq_true rfl) (fun p e s m below meth c A hx hb hr hml hown hts hlk hnm hKW hP hD hS hA ls hl => ?_)
  have hown : s.vm.findClass RX12 = some m.cls := hown
  have hl : lv_has ls 3 [(0, .ref (z 0)), (1, .int x)] := hl
  refine k_hide hP hS (fun H locs hP hS => ?_)
  refine lv_aload_n hx hb dX12_ill_0 rfl (lv_at hl 0 rfl) ?_
  refine lv_iload_n hx hb dX12_ill_1 rfl (lv_at hl 1 rfl) ?_
  refine k_Vi [0, 1] [2] 0 12 (wr := [(z 2, .inl (gI g, 7376, .inl Wk))]) hx hb hml hown hts hKW hP hD hS hA hl.1 (c_X12_isHand l g _ z kp xs D x (by first | assumption | omega | decide)) rfl rfl rfl wd_12_14 wd_1_5 wd_12_11 wd_12_12 wd_12_13 yd_X12_isHand ⟨(Nat.le_of_ble_eq_true rfl), (Nat.le_of_ble_eq_true rfl)⟩ rfl rfl rfl rfl (by decide) rfl (Nat.le_of_ble_eq_true rfl) dX12_ill_2 ⟨(Nat.le_of_ble_eq_true rfl), (Nat.le_of_ble_eq_true rfl)⟩ (fun r_1 u_2 H locs hw_3 hP hD hS => ?_)
  have hP : va_P g.1 vwCl [(z 2, .inl (gI g, 7376, .inl Wk)), (z 0, .inr (12, [.ref (z 1), .ref (z 2), .int (nI kp), .int (xs 0), .ref (z 3), .ref (z 4), .ref (z 5), .ref (z 6), .int (xs 1), .ref (z 7), .ref (z 8), .ref (z 9), .ref (z 10), .ref (z 11), .ref (z 12), .int (xs 2), .ref (z 13), .ref (z 14), .int (xs 3), .ref (z 15)])), (z 1, .inl (gI g, 461, .inl D))] H := hP
  have hD : va_D A [(z 2, .inl (gI g, 7376, .inl Wk)), (z 0, .inr (12, [.ref (z 1), .ref (z 2), .int (nI kp), .int (xs 0), .ref (z 3), .ref (z 4), .ref (z 5), .ref (z 6), .int (xs 1), .ref (z 7), .ref (z 8), .ref (z 9), .ref (z 10), .ref (z 11), .ref (z 12), .int (xs 2), .ref (z 13), .ref (z 14), .int (xs 3), .ref (z 15)])), (z 1, .inl (gI g, 461, .inl D))] := hD
  rcases (show (r_1 = 1 ∧ (∃ j : Nat, (j < 7 ∧ (j : Int) < (D 1).toInt) ∧ x = nI j)) ∨ (r_1 = 0 ∧ ¬ (∃ j : Nat, (j < 7 ∧ (j : Int) < (D 1).toInt) ∧ x = nI j)) from hw_3) with ⟨rfl, hw_3b⟩ | ⟨rfl, hw_3b⟩ <;> clear hw_3
  · obtain ⟨j_4, hj_4, rfl⟩ := hw_3b
    refine lv_if_ne (tgt := 14) hx hb dX12_ill_5 (by decide) (fun _ => ?_) (fun c => absurd c (by decide))
    refine lv_aload_n hx hb dX12_ill_14 rfl (lv_at hl 0 rfl) ?_
    refine va_get (ci := 12) (C := RX12) (T := TX12) (N := 20) hx hb hts inlX12 hown hKW.1 hP 1 rfl rfl 0 (by decide) (hts _ wd_6_5) (fun _ h => h) rfl dX12_ill_15 ?_
    refine lv_bipush (v := 40) hx hb dX12_ill_18 (by decide) ?_
    refine lv_iload_n hx hb dX12_ill_20 rfl (lv_at hl 1 rfl) ?_
    refine lv_iadd hx hb dX12_ill_21 ?_
    refine k_top (y := nI (j_4 + 40)) (by rw [Nat.add_comm]; exact nI_add 40 j_4) ?_
    refine va_iald hx hb hKW.1 hP 2 0 rfl rfl (vp_in_nI (by omega) (by decide)) dX12_ill_22 ?_
    refine lv_topi (fun x_5 ex_5 => ?_)
    refine lv_iconst (v := 1) hx hb dX12_ill_23 (by decide) ?_
    refine lv_icmp_ne (tgt := 34) hx hb dX12_ill_24 (by decide) (fun c_6 => ?_) (fun c_6 => ?_)
    · refine lv_aload_n hx hb dX12_ill_34 rfl (lv_at hl 0 rfl) ?_
      refine k_Vv [1, 2, 0] [] 1 12 (wr := []) hx hb hml hown hts hKW hP hD hS hA hl.1 (c_X12_keep l g _ z kp xs D Wk (by first | assumption | omega | decide) (by first | assumption | omega | decide) (by first | assumption | omega | decide)) rfl rfl rfl wd_10_21 wd_1_5 wd_10_18 wd_10_19 wd_10_20 yd_X12_keep ⟨(Nat.le_of_ble_eq_true rfl), (Nat.le_of_ble_eq_true rfl)⟩ rfl rfl rfl rfl (by decide) rfl (Nat.le_of_ble_eq_true rfl) dX12_ill_35 ⟨(Nat.le_of_ble_eq_true rfl), (Nat.le_of_ble_eq_true rfl)⟩ (fun u_8 H locs hw_9 hP hD hS => ?_)
      obtain ⟨q_10, f_11⟩ := u_8
      have hP : va_P g.1 vwCl [(z 0, .inr (12, [.ref (z 1), .ref (z 2), .int (nI q_10), .int (xs 0), .ref (z 3), .ref (z 4), .ref (z 5), .ref (z 6), .int (xs 1), .ref (z 7), .ref (z 8), .ref (z 9), .ref (z 10), .ref (z 11), .ref (z 12), .int (xs 2), .ref (z 13), .ref (z 14), .int (xs 3), .ref (z 15)])), (z 1, .inl (gI g, 461, .inl D)), (z 2, .inl (gI g, 7376, .inl f_11))] H := hP
      have hD : va_D A [(z 0, .inr (12, [.ref (z 1), .ref (z 2), .int (nI q_10), .int (xs 0), .ref (z 3), .ref (z 4), .ref (z 5), .ref (z 6), .int (xs 1), .ref (z 7), .ref (z 8), .ref (z 9), .ref (z 10), .ref (z 11), .ref (z 12), .int (xs 2), .ref (z 13), .ref (z 14), .int (xs 3), .ref (z 15)])), (z 1, .inl (gI g, 461, .inl D)), (z 2, .inl (gI g, 7376, .inl f_11))] := hD
      have hw_9 : q_10 ≤ 16 ∧ WI f_11 q_10 := hw_9
      obtain ⟨hkk, hkW⟩ := hw_9
      refine lv_aload_n hx hb dX12_ill_38 rfl (lv_at hl 0 rfl) ?_
      refine va_get (ci := 12) (C := RX12) (T := TX12) (N := 20) hx hb hts inlX12 hown hKW.1 hP 0 rfl rfl 0 (by decide) (hts _ wd_6_5) (fun _ h => h) rfl dX12_ill_39 ?_
      refine lv_bipush (v := 33) hx hb dX12_ill_42 (by decide) ?_
      refine lv_iload_n hx hb dX12_ill_44 rfl (lv_at hl 1 rfl) ?_
      refine lv_iadd hx hb dX12_ill_45 ?_
      refine k_top (y := nI (j_4 + 33)) (by rw [Nat.add_comm]; exact nI_add 33 j_4) ?_
      refine va_iald hx hb hKW.1 hP 1 0 rfl rfl (vp_in_nI (by omega) (by decide)) dX12_ill_46 ?_
      refine lv_topi (fun x_12 ex_12 => ?_)
      refine lv_istore_n (lv' := [(2, .int x_12), (0, .ref (z 0)), (1, .int (nI j_4))]) hx hb dX12_ill_47 rfl hl (by decide) rfl (fun ls hl => ?_)
      refine lv_aload_n hx hb dX12_ill_48 rfl (lv_at hl 1 rfl) ?_
      refine va_get (ci := 12) (C := RX12) (T := TX12) (N := 20) hx hb hts inlX12 hown hKW.1 hP 0 rfl rfl 0 (by decide) (hts _ wd_6_5) (fun _ h => h) rfl dX12_ill_49 ?_
      refine lv_bipush (v := 33) hx hb dX12_ill_52 (by decide) ?_
      refine lv_iload_n hx hb dX12_ill_54 rfl (lv_at hl 2 rfl) ?_
      refine lv_iadd hx hb dX12_ill_55 ?_
      refine k_top (y := nI (j_4 + 33)) (by rw [Nat.add_comm]; exact nI_add 33 j_4) ?_
      refine lv_iconst (v := (-1)) hx hb dX12_ill_56 (by decide) ?_
      refine va_iast hx hb hKW.1 hP hD hS 1 0 rfl rfl (vp_in_nI (by omega) (by decide)) dX12_ill_57 (fun H locs hP hD hS => ?_)
      have hP : va_P g.1 vwCl [(z 0, .inr (12, [.ref (z 1), .ref (z 2), .int (nI q_10), .int (xs 0), .ref (z 3), .ref (z 4), .ref (z 5), .ref (z 6), .int (xs 1), .ref (z 7), .ref (z 8), .ref (z 9), .ref (z 10), .ref (z 11), .ref (z 12), .int (xs 2), .ref (z 13), .ref (z 14), .int (xs 3), .ref (z 15)])), (z 1, .inl (gI g, 461, .inl (upd D (nI (j_4 + 33)).toNatClampNeg (-1)))), (z 2, .inl (gI g, 7376, .inl f_11))] H := hP
      have hD : va_D A [(z 0, .inr (12, [.ref (z 1), .ref (z 2), .int (nI q_10), .int (xs 0), .ref (z 3), .ref (z 4), .ref (z 5), .ref (z 6), .int (xs 1), .ref (z 7), .ref (z 8), .ref (z 9), .ref (z 10), .ref (z 11), .ref (z 12), .int (xs 2), .ref (z 13), .ref (z 14), .int (xs 3), .ref (z 15)])), (z 1, .inl (gI g, 461, .inl (upd D (nI (j_4 + 33)).toNatClampNeg (-1)))), (z 2, .inl (gI g, 7376, .inl f_11))] := hD
      obtain ⟨f_13, ef_13⟩ : ∃ zz_ : Nat → Int32, zz_ = upd D (nI (j_4 + 33)).toNatClampNeg (-1) := ⟨_, rfl⟩
      rw [← ef_13] at hP hD
      have hDf_13 : DI f_13 := DI.free (i := (j_4 + 33)) (x := (-1)) hDI (by rw [ef_13, nI_clamp (by omega)]) (by unfold dFree; omega)
      refine lv_aload_n hx hb dX12_ill_58 rfl (lv_at hl 1 rfl) ?_
      refine va_get (ci := 12) (C := RX12) (T := TX12) (N := 20) hx hb hts inlX12 hown hKW.1 hP 0 rfl rfl 0 (by decide) (hts _ wd_6_5) (fun _ h => h) rfl dX12_ill_59 ?_
      refine lv_bipush (v := 40) hx hb dX12_ill_62 (by decide) ?_
      refine lv_iload_n hx hb dX12_ill_64 rfl (lv_at hl 2 rfl) ?_
      refine lv_iadd hx hb dX12_ill_65 ?_
      refine k_top (y := nI (j_4 + 40)) (by rw [Nat.add_comm]; exact nI_add 40 j_4) ?_
      refine lv_iconst (v := 1) hx hb dX12_ill_66 (by decide) ?_
      refine va_iast hx hb hKW.1 hP hD hS 1 0 rfl rfl (vp_in_nI (by omega) (by decide)) dX12_ill_67 (fun H locs hP hD hS => ?_)
      have hP : va_P g.1 vwCl [(z 0, .inr (12, [.ref (z 1), .ref (z 2), .int (nI q_10), .int (xs 0), .ref (z 3), .ref (z 4), .ref (z 5), .ref (z 6), .int (xs 1), .ref (z 7), .ref (z 8), .ref (z 9), .ref (z 10), .ref (z 11), .ref (z 12), .int (xs 2), .ref (z 13), .ref (z 14), .int (xs 3), .ref (z 15)])), (z 1, .inl (gI g, 461, .inl (upd f_13 (nI (j_4 + 40)).toNatClampNeg 1))), (z 2, .inl (gI g, 7376, .inl f_11))] H := hP
      have hD : va_D A [(z 0, .inr (12, [.ref (z 1), .ref (z 2), .int (nI q_10), .int (xs 0), .ref (z 3), .ref (z 4), .ref (z 5), .ref (z 6), .int (xs 1), .ref (z 7), .ref (z 8), .ref (z 9), .ref (z 10), .ref (z 11), .ref (z 12), .int (xs 2), .ref (z 13), .ref (z 14), .int (xs 3), .ref (z 15)])), (z 1, .inl (gI g, 461, .inl (upd f_13 (nI (j_4 + 40)).toNatClampNeg 1))), (z 2, .inl (gI g, 7376, .inl f_11))] := hD
      obtain ⟨f_14, ef_14⟩ : ∃ zz_ : Nat → Int32, zz_ = upd f_13 (nI (j_4 + 40)).toNatClampNeg 1 := ⟨_, rfl⟩
      rw [← ef_14] at hP hD
      have hDf_14 : DI f_14 := DI.free (i := (j_4 + 40)) (x := 1) hDf_13 (by rw [ef_14, nI_clamp (by omega)]) (by unfold dFree; omega)
      refine lv_iload_n hx hb dX12_ill_68 rfl (lv_at hl 0 rfl) ?_
      exact k_iret (q_10, xs, f_14, f_11) [0, 1, 2] hx hb hr hlk hP hD hS (⟨hkk, hDf_14, hkW⟩) rfl rfl rfl (Nat.le_of_ble_eq_true rfl) (Nat.le_of_ble_eq_true rfl) dX12_ill_69
    · refine lv_aload_n hx hb dX12_ill_27 rfl (lv_at hl 0 rfl) ?_
      refine lv_bipush (v := 7) hx hb dX12_ill_28 (by decide) ?_
      refine k_Vi [1] [0, 2] 1 12 (wr := [(z 2, .inl (gI g, 7376, .inl Wk)), (z 1, .inl (gI g, 461, .inl D))]) hx hb hml hown hts hKW hP hD hS hA hl.1 (c_X12_finding_7 l g _ z kp xs ) rfl rfl rfl wd_10_15 wd_1_5 wd_10_12 wd_10_13 wd_10_14 yd_X12_finding ⟨(Nat.le_of_ble_eq_true rfl), (Nat.le_of_ble_eq_true rfl)⟩ rfl rfl rfl rfl (by decide) rfl (Nat.le_of_ble_eq_true rfl) dX12_ill_30 ⟨(Nat.le_of_ble_eq_true rfl), (Nat.le_of_ble_eq_true rfl)⟩ (fun r_15 u_16 H locs hw_17 hP hD hS => ?_)
      have hP : va_P g.1 vwCl [(z 2, .inl (gI g, 7376, .inl Wk)), (z 1, .inl (gI g, 461, .inl D)), (z 0, .inr (12, [.ref (z 1), .ref (z 2), .int (nI kp), .int u_16, .ref (z 3), .ref (z 4), .ref (z 5), .ref (z 6), .int (xs 1), .ref (z 7), .ref (z 8), .ref (z 9), .ref (z 10), .ref (z 11), .ref (z 12), .int (xs 2), .ref (z 13), .ref (z 14), .int (xs 3), .ref (z 15)]))] H := hP
      have hD : va_D A [(z 2, .inl (gI g, 7376, .inl Wk)), (z 1, .inl (gI g, 461, .inl D)), (z 0, .inr (12, [.ref (z 1), .ref (z 2), .int (nI kp), .int u_16, .ref (z 3), .ref (z 4), .ref (z 5), .ref (z 6), .int (xs 1), .ref (z 7), .ref (z 8), .ref (z 9), .ref (z 10), .ref (z 11), .ref (z 12), .int (xs 2), .ref (z 13), .ref (z 14), .int (xs 3), .ref (z 15)]))] := hD
      have hw_17 : r_15 = (-100007) := hw_17
      subst hw_17
      exact k_iret (kp, (fun kk_ => ([u_16, (xs 1), (xs 2), (xs 3)] : List Int32).getD kk_ 0), D, Wk) [2, 1, 0] hx hb hr hlk hP hD hS (⟨hkp, hDI, hWI⟩) rfl rfl rfl (Nat.le_of_ble_eq_true rfl) (Nat.le_of_ble_eq_true rfl) dX12_ill_33
  · refine lv_if_ne (tgt := 14) hx hb dX12_ill_5 (by decide) (fun c => absurd c (by decide)) (fun _ => ?_)
    refine lv_aload_n hx hb dX12_ill_8 rfl (lv_at hl 0 rfl) ?_
    refine lv_iconst (v := 1) hx hb dX12_ill_9 (by decide) ?_
    refine k_Vi [1] [0, 2] 1 12 (wr := [(z 2, .inl (gI g, 7376, .inl Wk)), (z 1, .inl (gI g, 461, .inl D))]) hx hb hml hown hts hKW hP hD hS hA hl.1 (c_X12_finding_1 l g _ z kp xs ) rfl rfl rfl wd_10_15 wd_1_5 wd_10_12 wd_10_13 wd_10_14 yd_X12_finding ⟨(Nat.le_of_ble_eq_true rfl), (Nat.le_of_ble_eq_true rfl)⟩ rfl rfl rfl rfl (by decide) rfl (Nat.le_of_ble_eq_true rfl) dX12_ill_10 ⟨(Nat.le_of_ble_eq_true rfl), (Nat.le_of_ble_eq_true rfl)⟩ (fun r_18 u_19 H locs hw_20 hP hD hS => ?_)
    have hP : va_P g.1 vwCl [(z 2, .inl (gI g, 7376, .inl Wk)), (z 1, .inl (gI g, 461, .inl D)), (z 0, .inr (12, [.ref (z 1), .ref (z 2), .int (nI kp), .int u_19, .ref (z 3), .ref (z 4), .ref (z 5), .ref (z 6), .int (xs 1), .ref (z 7), .ref (z 8), .ref (z 9), .ref (z 10), .ref (z 11), .ref (z 12), .int (xs 2), .ref (z 13), .ref (z 14), .int (xs 3), .ref (z 15)]))] H := hP
    have hD : va_D A [(z 2, .inl (gI g, 7376, .inl Wk)), (z 1, .inl (gI g, 461, .inl D)), (z 0, .inr (12, [.ref (z 1), .ref (z 2), .int (nI kp), .int u_19, .ref (z 3), .ref (z 4), .ref (z 5), .ref (z 6), .int (xs 1), .ref (z 7), .ref (z 8), .ref (z 9), .ref (z 10), .ref (z 11), .ref (z 12), .int (xs 2), .ref (z 13), .ref (z 14), .int (xs 3), .ref (z 15)]))] := hD
    have hw_20 : r_18 = (-100001) := hw_20
    subst hw_20
    exact k_iret (kp, (fun kk_ => ([u_19, (xs 1), (xs 2), (xs 3)] : List Int32).getD kk_ 0), D, Wk) [2, 1, 0] hx hb hr hlk hP hD hS (⟨hkp, hDI, hWI⟩) rfl rfl rfl (Nat.le_of_ble_eq_true rfl) (Nat.le_of_ble_eq_true rfl) dX12_ill_13
theorem dX12_move_0 : decode cX12_move 0 = .ok (.aload_n 0, 1) := by decide +kernel
theorem dX12_move_1 : decode cX12_move 1 = .ok (.invokevirtual 151, 3) := by decide +kernel
theorem dX12_move_4 : decode cX12_move 4 = .ok (.ifCond .ne 10, 3) := by decide +kernel
theorem dX12_move_14 : decode cX12_move 14 = .ok (.aload_n 0, 1) := by decide +kernel
theorem dX12_move_15 : decode cX12_move 15 = .ok (.invokevirtual 72, 3) := by decide +kernel
theorem dX12_move_18 : decode cX12_move 18 = .ok (.iconst 0, 1) := by decide +kernel
theorem dX12_move_19 : decode cX12_move 19 = .ok (.istore_n 1, 1) := by decide +kernel
theorem dX12_move_20 : decode cX12_move 20 = .ok (.iload_n 1, 1) := by decide +kernel
theorem dX12_move_21 : decode cX12_move 21 = .ok (.aload_n 0, 1) := by decide +kernel
theorem dX12_move_22 : decode cX12_move 22 = .ok (.getfield 7, 3) := by decide +kernel
theorem dX12_move_25 : decode cX12_move 25 = .ok (.iconst 1, 1) := by decide +kernel
theorem dX12_move_26 : decode cX12_move 26 = .ok (.iaload, 1) := by decide +kernel
theorem dX12_move_27 : decode cX12_move 27 = .ok (.if_icmp .ge 24, 3) := by decide +kernel
theorem dX12_move_51 : decode cX12_move 51 = .ok (.aload_n 0, 1) := by decide +kernel
theorem dX12_move_52 : decode cX12_move 52 = .ok (.getfield 145, 3) := by decide +kernel
theorem dX12_move_55 : decode cX12_move 55 = .ok (.ireturn, 1) := by decide +kernel
theorem dX12_move_30 : decode cX12_move 30 = .ok (.aload_n 0, 1) := by decide +kernel
theorem dX12_move_31 : decode cX12_move 31 = .ok (.getfield 7, 3) := by decide +kernel
theorem dX12_move_34 : decode cX12_move 34 = .ok (.bipush 33, 2) := by decide +kernel
theorem dX12_move_36 : decode cX12_move 36 = .ok (.iload_n 1, 1) := by decide +kernel
theorem dX12_move_37 : decode cX12_move 37 = .ok (.iadd, 1) := by decide +kernel
theorem dX12_move_38 : decode cX12_move 38 = .ok (.aload_n 0, 1) := by decide +kernel
theorem dX12_move_39 : decode cX12_move 39 = .ok (.getfield 44, 3) := by decide +kernel
theorem dX12_move_42 : decode cX12_move 42 = .ok (.iload_n 1, 1) := by decide +kernel
theorem dX12_move_43 : decode cX12_move 43 = .ok (.iaload, 1) := by decide +kernel
theorem dX12_move_44 : decode cX12_move 44 = .ok (.iastore, 1) := by decide +kernel
theorem dX12_move_45 : decode cX12_move 45 = .ok (.iinc 1 1, 3) := by decide +kernel
theorem dX12_move_48 : decode cX12_move 48 = .ok (.goto (-28), 3) := by decide +kernel
theorem dX12_move_7 : decode cX12_move 7 = .ok (.aload_n 0, 1) := by decide +kernel
theorem dX12_move_8 : decode cX12_move 8 = .ok (.bipush 6, 2) := by decide +kernel
theorem dX12_move_10 : decode cX12_move 10 = .ok (.invokevirtual 68, 3) := by decide +kernel
theorem dX12_move_13 : decode cX12_move 13 = .ok (.ireturn, 1) := by decide +kernel
set_option maxHeartbeats 8000000 in
set_option maxRecDepth 100000 in
theorem c_X12_move (l : Launch) (g : kG) (sz : Nat) (z : Nat → Nat) (kp : Nat) (xs : Nat → Int32) (D : Nat → Int32) (Wk : Nat → Int32) (pf : Nat → Int32) (cf : Nat → Int32) (f0 : Nat → Int32) (f1 : Nat → Int32) (f2 : Nat → Int32) (f3 : Nat → Int32) (f4 : Nat → Int32) (hDI : DI D) (hkp : kp ≤ 16) (hWI : WI Wk kp) : kMi l g yX12_move cX12_move 2 (some .int) 12 0 0 [.ref (z 0)] sz [(z 0, .inr (12, [.ref (z 1), .ref (z 2), .int (nI kp), .int (xs 0), .ref (z 3), .ref (z 4), .ref (z 5), .ref (z 6), .int (xs 1), .ref (z 7), .ref (z 8), .ref (z 9), .ref (z 10), .ref (z 11), .ref (z 12), .int (xs 2), .ref (z 13), .ref (z 14), .int (xs 3), .ref (z 15)])), (z 1, .inl (gI g, 461, .inl D)), (z 2, .inl (gI g, 7376, .inl Wk)), (z 6, .inl (gI g, 5, .inl pf)), (z 7, .inl (gI g, 7, .inl cf)), (z 8, .inl (gI g, 5, .inl f0)), (z 9, .inl (gI g, 5, .inl f1)), (z 10, .inl (gZ g, 5, .inl f2)), (z 11, .inl (gI g, 7, .inl f3)), (z 12, .inl (gI g, 7, .inl f4))] (fun (r : Int32) (u : Nat × (Nat → Int32) × (Nat → Int32) × (Nat → Int32) × (Nat → Int32) × (Nat → Int32) × (Nat → Int32) × (Nat → Int32) × (Nat → Int32) × (Nat → Int32) × (Nat → Int32)) => u.1 ≤ 16 ∧ DI u.2.2.1 ∧ WI u.2.2.2.1 u.1) (fun (u : Nat × (Nat → Int32) × (Nat → Int32) × (Nat → Int32) × (Nat → Int32) × (Nat → Int32) × (Nat → Int32) × (Nat → Int32) × (Nat → Int32) × (Nat → Int32) × (Nat → Int32)) => ([(z 0, .inr (12, [.ref (z 1), .ref (z 2), .int (nI u.1), .int (u.2.1 0), .ref (z 3), .ref (z 4), .ref (z 5), .ref (z 6), .int (u.2.1 1), .ref (z 7), .ref (z 8), .ref (z 9), .ref (z 10), .ref (z 11), .ref (z 12), .int (u.2.1 2), .ref (z 13), .ref (z 14), .int (u.2.1 3), .ref (z 15)])), (z 1, .inl (gI g, 461, .inl u.2.2.1)), (z 2, .inl (gI g, 7376, .inl u.2.2.2.1)), (z 6, .inl (gI g, 5, .inl u.2.2.2.2.1)), (z 7, .inl (gI g, 7, .inl u.2.2.2.2.2.1)), (z 8, .inl (gI g, 5, .inl u.2.2.2.2.2.2.1)), (z 9, .inl (gI g, 5, .inl u.2.2.2.2.2.2.2.1)), (z 10, .inl (gZ g, 5, .inl u.2.2.2.2.2.2.2.2.1)), (z 11, .inl (gI g, 7, .inl u.2.2.2.2.2.2.2.2.2.1)), (z 12, .inl (gI g, 7, .inl u.2.2.2.2.2.2.2.2.2.2))] : va_W)) := by
  refine kMi.of (by decide) (Nat.le_of_ble_eq_true rfl) (fun p e s m below meth c A hx hb hr hml hown hts hlk hnm hKW hP hD hS hA ls hl => ?_)
  have hown : s.vm.findClass RX12 = some m.cls := hown
  have hl : lv_has ls 2 [(0, .ref (z 0))] := hl
  refine k_hide hP hS (fun H locs hP hS => ?_)
  refine lv_aload_n hx hb dX12_move_0 rfl (lv_at hl 0 rfl) ?_
  refine k_Vi [0, 1, 3, 4, 5, 6, 7, 8, 9] [2] 0 12 (wr := [(z 2, .inl (gI g, 7376, .inl Wk))]) hx hb hml hown hts hKW hP hD hS hA hl.1 (c_X12_findMoves l g _ z kp xs D pf cf f0 f1 f2 f3 f4 (by first | assumption | omega | decide)) rfl rfl rfl wd_31_5 wd_1_5 wd_31_2 wd_31_3 wd_31_4 yd_X12_findMoves ⟨(Nat.le_of_ble_eq_true rfl), (Nat.le_of_ble_eq_true rfl)⟩ rfl rfl rfl rfl (by decide) rfl (Nat.le_of_ble_eq_true rfl) dX12_move_1 ⟨(Nat.le_of_ble_eq_true rfl), (Nat.le_of_ble_eq_true rfl)⟩ (fun r_1 u_2 H locs hw_3 hP hD hS => ?_)
  obtain ⟨f_4, f_5, f_6, f_7, f_8, f_9, f_10, f_11⟩ := u_2
  have hP : va_P g.1 vwCl [(z 2, .inl (gI g, 7376, .inl Wk)), (z 0, .inr (12, [.ref (z 1), .ref (z 2), .int (nI kp), .int (f_4 0), .ref (z 3), .ref (z 4), .ref (z 5), .ref (z 6), .int (f_4 1), .ref (z 7), .ref (z 8), .ref (z 9), .ref (z 10), .ref (z 11), .ref (z 12), .int (f_4 2), .ref (z 13), .ref (z 14), .int (f_4 3), .ref (z 15)])), (z 1, .inl (gI g, 461, .inl D)), (z 6, .inl (gI g, 5, .inl f_5)), (z 7, .inl (gI g, 7, .inl f_6)), (z 8, .inl (gI g, 5, .inl f_7)), (z 9, .inl (gI g, 5, .inl f_8)), (z 10, .inl (gZ g, 5, .inl f_9)), (z 11, .inl (gI g, 7, .inl f_10)), (z 12, .inl (gI g, 7, .inl f_11))] H := hP
  have hD : va_D A [(z 2, .inl (gI g, 7376, .inl Wk)), (z 0, .inr (12, [.ref (z 1), .ref (z 2), .int (nI kp), .int (f_4 0), .ref (z 3), .ref (z 4), .ref (z 5), .ref (z 6), .int (f_4 1), .ref (z 7), .ref (z 8), .ref (z 9), .ref (z 10), .ref (z 11), .ref (z 12), .int (f_4 2), .ref (z 13), .ref (z 14), .int (f_4 3), .ref (z 15)])), (z 1, .inl (gI g, 461, .inl D)), (z 6, .inl (gI g, 5, .inl f_5)), (z 7, .inl (gI g, 7, .inl f_6)), (z 8, .inl (gI g, 5, .inl f_7)), (z 9, .inl (gI g, 5, .inl f_8)), (z 10, .inl (gZ g, 5, .inl f_9)), (z 11, .inl (gI g, 7, .inl f_10)), (z 12, .inl (gI g, 7, .inl f_11))] := hD
  rcases (show r_1 = 1 ∨ r_1 = 0 from hw_3) with rfl | rfl <;> clear hw_3
  · refine lv_if_ne (tgt := 14) hx hb dX12_move_4 (by decide) (fun _ => ?_) (fun c => absurd c (by decide))
    refine lv_aload_n hx hb dX12_move_14 rfl (lv_at hl 0 rfl) ?_
    refine k_Vv [1, 2, 0] [3, 4, 5, 6, 7, 8, 9] 1 12 (wr := [(z 6, .inl (gI g, 5, .inl f_5)), (z 7, .inl (gI g, 7, .inl f_6)), (z 8, .inl (gI g, 5, .inl f_7)), (z 9, .inl (gI g, 5, .inl f_8)), (z 10, .inl (gZ g, 5, .inl f_9)), (z 11, .inl (gI g, 7, .inl f_10)), (z 12, .inl (gI g, 7, .inl f_11))]) hx hb hml hown hts hKW hP hD hS hA hl.1 (c_X12_keep l g _ z kp f_4 D Wk (by first | assumption | omega | decide) (by first | assumption | omega | decide) (by first | assumption | omega | decide)) rfl rfl rfl wd_10_21 wd_1_5 wd_10_18 wd_10_19 wd_10_20 yd_X12_keep ⟨(Nat.le_of_ble_eq_true rfl), (Nat.le_of_ble_eq_true rfl)⟩ rfl rfl rfl rfl (by decide) rfl (Nat.le_of_ble_eq_true rfl) dX12_move_15 ⟨(Nat.le_of_ble_eq_true rfl), (Nat.le_of_ble_eq_true rfl)⟩ (fun u_13 H locs hw_14 hP hD hS => ?_)
    obtain ⟨q_15, f_16⟩ := u_13
    have hP : va_P g.1 vwCl [(z 6, .inl (gI g, 5, .inl f_5)), (z 7, .inl (gI g, 7, .inl f_6)), (z 8, .inl (gI g, 5, .inl f_7)), (z 9, .inl (gI g, 5, .inl f_8)), (z 10, .inl (gZ g, 5, .inl f_9)), (z 11, .inl (gI g, 7, .inl f_10)), (z 12, .inl (gI g, 7, .inl f_11)), (z 0, .inr (12, [.ref (z 1), .ref (z 2), .int (nI q_15), .int (f_4 0), .ref (z 3), .ref (z 4), .ref (z 5), .ref (z 6), .int (f_4 1), .ref (z 7), .ref (z 8), .ref (z 9), .ref (z 10), .ref (z 11), .ref (z 12), .int (f_4 2), .ref (z 13), .ref (z 14), .int (f_4 3), .ref (z 15)])), (z 1, .inl (gI g, 461, .inl D)), (z 2, .inl (gI g, 7376, .inl f_16))] H := hP
    have hD : va_D A [(z 6, .inl (gI g, 5, .inl f_5)), (z 7, .inl (gI g, 7, .inl f_6)), (z 8, .inl (gI g, 5, .inl f_7)), (z 9, .inl (gI g, 5, .inl f_8)), (z 10, .inl (gZ g, 5, .inl f_9)), (z 11, .inl (gI g, 7, .inl f_10)), (z 12, .inl (gI g, 7, .inl f_11)), (z 0, .inr (12, [.ref (z 1), .ref (z 2), .int (nI q_15), .int (f_4 0), .ref (z 3), .ref (z 4), .ref (z 5), .ref (z 6), .int (f_4 1), .ref (z 7), .ref (z 8), .ref (z 9), .ref (z 10), .ref (z 11), .ref (z 12), .int (f_4 2), .ref (z 13), .ref (z 14), .int (f_4 3), .ref (z 15)])), (z 1, .inl (gI g, 461, .inl D)), (z 2, .inl (gI g, 7376, .inl f_16))] := hD
    have hw_14 : q_15 ≤ 16 ∧ WI f_16 q_15 := hw_14
    obtain ⟨hkk, hkW⟩ := hw_14
    refine lv_iconst (v := 0) hx hb dX12_move_18 (by decide) ?_
    refine lv_istore_n (lv' := [(1, .int 0), (0, .ref (z 0))]) hx hb dX12_move_19 rfl hl (by decide) rfl (fun ls hl => ?_)
    have L20 : ∀ (n20 : Nat) (i : Nat) (Da : Nat → Int32) (hfuel20 : 7 - i < n20) (hi : i ≤ 7) (hDa : DI Da) (H : Heap) (locs : List Loc) (hP : va_P g.1 vwCl [(z 6, .inl (gI g, 5, .inl f_5)), (z 7, .inl (gI g, 7, .inl f_6)), (z 8, .inl (gI g, 5, .inl f_7)), (z 9, .inl (gI g, 5, .inl f_8)), (z 10, .inl (gZ g, 5, .inl f_9)), (z 11, .inl (gI g, 7, .inl f_10)), (z 12, .inl (gI g, 7, .inl f_11)), (z 0, .inr (12, [.ref (z 1), .ref (z 2), .int (nI q_15), .int (f_4 0), .ref (z 3), .ref (z 4), .ref (z 5), .ref (z 6), .int (f_4 1), .ref (z 7), .ref (z 8), .ref (z 9), .ref (z 10), .ref (z 11), .ref (z 12), .int (f_4 2), .ref (z 13), .ref (z 14), .int (f_4 3), .ref (z 15)])), (z 1, .inl (gI g, 461, .inl Da)), (z 2, .inl (gI g, 7376, .inl f_16))] H) (hD : va_D A [(z 6, .inl (gI g, 5, .inl f_5)), (z 7, .inl (gI g, 7, .inl f_6)), (z 8, .inl (gI g, 5, .inl f_7)), (z 9, .inl (gI g, 5, .inl f_8)), (z 10, .inl (gZ g, 5, .inl f_9)), (z 11, .inl (gI g, 7, .inl f_10)), (z 12, .inl (gI g, 7, .inl f_11)), (z 0, .inr (12, [.ref (z 1), .ref (z 2), .int (nI q_15), .int (f_4 0), .ref (z 3), .ref (z 4), .ref (z 5), .ref (z 6), .int (f_4 1), .ref (z 7), .ref (z 8), .ref (z 9), .ref (z 10), .ref (z 11), .ref (z 12), .int (f_4 2), .ref (z 13), .ref (z 14), .int (f_4 3), .ref (z 15)])), (z 1, .inl (gI g, 461, .inl Da)), (z 2, .inl (gI g, 7376, .inl f_16))]) (hS : va_S A s.heap H locs) (ls : Array Slot) (hl : lv_has ls 2 [(1, .int (nI i)), (0, .ref (z 0))]), W p l e (kR 12 0 0) s m ([.ref (z 0)] : List Value).toArray below meth c H locs 0 0 (kQi g A below ([.ref (z 0)] : List Value).toArray s 0 0 (fun (r : Int32) (u : Nat × (Nat → Int32) × (Nat → Int32) × (Nat → Int32) × (Nat → Int32) × (Nat → Int32) × (Nat → Int32) × (Nat → Int32) × (Nat → Int32) × (Nat → Int32) × (Nat → Int32)) => u.1 ≤ 16 ∧ DI u.2.2.1 ∧ WI u.2.2.2.1 u.1) (fun (u : Nat × (Nat → Int32) × (Nat → Int32) × (Nat → Int32) × (Nat → Int32) × (Nat → Int32) × (Nat → Int32) × (Nat → Int32) × (Nat → Int32) × (Nat → Int32) × (Nat → Int32)) => ([(z 0, .inr (12, [.ref (z 1), .ref (z 2), .int (nI u.1), .int (u.2.1 0), .ref (z 3), .ref (z 4), .ref (z 5), .ref (z 6), .int (u.2.1 1), .ref (z 7), .ref (z 8), .ref (z 9), .ref (z 10), .ref (z 11), .ref (z 12), .int (u.2.1 2), .ref (z 13), .ref (z 14), .int (u.2.1 3), .ref (z 15)])), (z 1, .inl (gI g, 461, .inl u.2.2.1)), (z 2, .inl (gI g, 7376, .inl u.2.2.2.1)), (z 6, .inl (gI g, 5, .inl u.2.2.2.2.1)), (z 7, .inl (gI g, 7, .inl u.2.2.2.2.2.1)), (z 8, .inl (gI g, 5, .inl u.2.2.2.2.2.2.1)), (z 9, .inl (gI g, 5, .inl u.2.2.2.2.2.2.2.1)), (z 10, .inl (gZ g, 5, .inl u.2.2.2.2.2.2.2.2.1)), (z 11, .inl (gI g, 7, .inl u.2.2.2.2.2.2.2.2.2.1)), (z 12, .inl (gI g, 7, .inl u.2.2.2.2.2.2.2.2.2.2))] : va_W))) (F0 m 20 ls []) := by
      intro n20
      induction n20 with
      | zero => intro i Da hfuel20; exact absurd hfuel20 (Nat.not_lt_zero _)
      | succ n20 ih20 =>
        intro i Da hfuel20 hi hDa H locs hP hD hS ls hl
        refine lv_iload_n hx hb dX12_move_20 rfl (lv_at hl 0 rfl) ?_
        refine lv_aload_n hx hb dX12_move_21 rfl (lv_at hl 1 rfl) ?_
        refine va_get (ci := 12) (C := RX12) (T := TX12) (N := 20) hx hb hts inlX12 hown hKW.1 hP 7 rfl rfl 0 (by decide) (hts _ wd_6_5) (fun _ h => h) rfl dX12_move_22 ?_
        refine lv_iconst (v := 1) hx hb dX12_move_25 (by decide) ?_
        obtain ⟨dk_17, hdk_17a, hdk_17b, edk_17⟩ := DI.n1 hDa
        refine va_iald hx hb hKW.1 hP 8 0 rfl rfl (show ¬ _ by decide) dX12_move_26 ?_
        refine k_top (y := nI dk_17) edk_17 ?_
        refine lv_icmp_ge (tgt := 51) hx hb dX12_move_27 (by decide) (fun c_18 => ?_) (fun c_18 => ?_)
        · have c_18n : dk_17 ≤ i := (k_leI (a := dk_17) (b := i) (by omega) (by omega)).mp c_18
          refine lv_aload_n hx hb dX12_move_51 rfl (lv_at hl 1 rfl) ?_
          refine va_get (ci := 12) (C := RX12) (T := TX12) (N := 20) hx hb hts inlX12 hown hKW.1 hP 7 rfl rfl 15 (by decide) (hts _ wd_31_1) (fun _ h => h) rfl dX12_move_52 ?_
          exact k_iret (q_15, f_4, Da, f_16, f_5, f_6, f_7, f_8, f_9, f_10, f_11) [7, 8, 9, 0, 1, 2, 3, 4, 5, 6] hx hb hr hlk hP hD hS (⟨hkk, hDa, hkW⟩) rfl rfl rfl (Nat.le_of_ble_eq_true rfl) (Nat.le_of_ble_eq_true rfl) dX12_move_55
        · have c_18n : i < dk_17 := Nat.not_le.mp (fun h => c_18 ((k_leI (a := dk_17) (b := i) (by omega) (by omega)).mpr h))
          refine lv_aload_n hx hb dX12_move_30 rfl (lv_at hl 1 rfl) ?_
          refine va_get (ci := 12) (C := RX12) (T := TX12) (N := 20) hx hb hts inlX12 hown hKW.1 hP 7 rfl rfl 0 (by decide) (hts _ wd_6_5) (fun _ h => h) rfl dX12_move_31 ?_
          refine lv_bipush (v := 33) hx hb dX12_move_34 (by decide) ?_
          refine lv_iload_n hx hb dX12_move_36 rfl (lv_at hl 0 rfl) ?_
          refine lv_iadd hx hb dX12_move_37 ?_
          refine k_top (y := nI (i + 33)) (by rw [Nat.add_comm]; exact nI_add 33 i) ?_
          refine lv_aload_n hx hb dX12_move_38 rfl (lv_at hl 1 rfl) ?_
          refine va_get (ci := 12) (C := RX12) (T := TX12) (N := 20) hx hb hts inlX12 hown hKW.1 hP 7 rfl rfl 14 (by decide) (hts _ wd_6_17) (fun _ h => h) rfl dX12_move_39 ?_
          refine lv_iload_n hx hb dX12_move_42 rfl (lv_at hl 0 rfl) ?_
          refine va_iald hx hb hKW.1 hP 6 0 rfl rfl (vp_in_nI (by omega) (by decide)) dX12_move_43 ?_
          refine lv_topi (fun x_19 ex_19 => ?_)
          refine va_iast hx hb hKW.1 hP hD hS 8 0 rfl rfl (vp_in_nI (by omega) (by decide)) dX12_move_44 (fun H locs hP hD hS => ?_)
          have hP : va_P g.1 vwCl [(z 6, .inl (gI g, 5, .inl f_5)), (z 7, .inl (gI g, 7, .inl f_6)), (z 8, .inl (gI g, 5, .inl f_7)), (z 9, .inl (gI g, 5, .inl f_8)), (z 10, .inl (gZ g, 5, .inl f_9)), (z 11, .inl (gI g, 7, .inl f_10)), (z 12, .inl (gI g, 7, .inl f_11)), (z 0, .inr (12, [.ref (z 1), .ref (z 2), .int (nI q_15), .int (f_4 0), .ref (z 3), .ref (z 4), .ref (z 5), .ref (z 6), .int (f_4 1), .ref (z 7), .ref (z 8), .ref (z 9), .ref (z 10), .ref (z 11), .ref (z 12), .int (f_4 2), .ref (z 13), .ref (z 14), .int (f_4 3), .ref (z 15)])), (z 1, .inl (gI g, 461, .inl (upd Da (nI (i + 33)).toNatClampNeg x_19))), (z 2, .inl (gI g, 7376, .inl f_16))] H := hP
          have hD : va_D A [(z 6, .inl (gI g, 5, .inl f_5)), (z 7, .inl (gI g, 7, .inl f_6)), (z 8, .inl (gI g, 5, .inl f_7)), (z 9, .inl (gI g, 5, .inl f_8)), (z 10, .inl (gZ g, 5, .inl f_9)), (z 11, .inl (gI g, 7, .inl f_10)), (z 12, .inl (gI g, 7, .inl f_11)), (z 0, .inr (12, [.ref (z 1), .ref (z 2), .int (nI q_15), .int (f_4 0), .ref (z 3), .ref (z 4), .ref (z 5), .ref (z 6), .int (f_4 1), .ref (z 7), .ref (z 8), .ref (z 9), .ref (z 10), .ref (z 11), .ref (z 12), .int (f_4 2), .ref (z 13), .ref (z 14), .int (f_4 3), .ref (z 15)])), (z 1, .inl (gI g, 461, .inl (upd Da (nI (i + 33)).toNatClampNeg x_19))), (z 2, .inl (gI g, 7376, .inl f_16))] := hD
          obtain ⟨f_20, ef_20⟩ : ∃ zz_ : Nat → Int32, zz_ = upd Da (nI (i + 33)).toNatClampNeg x_19 := ⟨_, rfl⟩
          rw [← ef_20] at hP hD
          have dz_21 : f_20 1 = nI dk_17 := by rw [ef_20, nI_clamp (by omega), pk_un (by omega)]; exact edk_17
          have hDf_20 : DI f_20 := DI.free (i := (i + 33)) (x := x_19) hDa (by rw [ef_20, nI_clamp (by omega)]) (by unfold dFree; omega)
          refine lv_iinc (v := nI (i + 1)) (lv' := [(1, .int (nI (i + 1))), (0, .ref (z 0))]) hx hb dX12_move_45 hl (k := 0) rfl (nI_add i 1) (by decide) rfl (fun ls hl => ?_)
          refine lv_goto (tgt := 20) hx hb dX12_move_48 (by decide) ?_
          exact ih20 (i + 1) f_20 (by omega) (by first | assumption | omega) hDf_20 H locs (hP.sub [0, 1, 2, 3, 4, 5, 6, 7, 8, 9] rfl) (hD.sub [0, 1, 2, 3, 4, 5, 6, 7, 8, 9] (by decide) rfl) hS ls (lv_sub hl [0, 1] rfl)
    exact L20 (7 - 0 + 1) 0 D (Nat.lt_succ_self _) (by first | assumption | omega) hDI H locs (hP.sub [0, 1, 2, 3, 4, 5, 6, 7, 8, 9] rfl) (hD.sub [0, 1, 2, 3, 4, 5, 6, 7, 8, 9] (by decide) rfl) hS ls (lv_sub hl [0, 1] rfl)
  · refine lv_if_ne (tgt := 14) hx hb dX12_move_4 (by decide) (fun c => absurd c (by decide)) (fun _ => ?_)
    refine lv_aload_n hx hb dX12_move_7 rfl (lv_at hl 0 rfl) ?_
    refine lv_bipush (v := 6) hx hb dX12_move_8 (by decide) ?_
    refine k_Vi [1] [0, 2, 3, 4, 5, 6, 7, 8, 9] 1 12 (wr := [(z 2, .inl (gI g, 7376, .inl Wk)), (z 1, .inl (gI g, 461, .inl D)), (z 6, .inl (gI g, 5, .inl f_5)), (z 7, .inl (gI g, 7, .inl f_6)), (z 8, .inl (gI g, 5, .inl f_7)), (z 9, .inl (gI g, 5, .inl f_8)), (z 10, .inl (gZ g, 5, .inl f_9)), (z 11, .inl (gI g, 7, .inl f_10)), (z 12, .inl (gI g, 7, .inl f_11))]) hx hb hml hown hts hKW hP hD hS hA hl.1 (c_X12_finding_6 l g _ z kp f_4 ) rfl rfl rfl wd_10_15 wd_1_5 wd_10_12 wd_10_13 wd_10_14 yd_X12_finding ⟨(Nat.le_of_ble_eq_true rfl), (Nat.le_of_ble_eq_true rfl)⟩ rfl rfl rfl rfl (by decide) rfl (Nat.le_of_ble_eq_true rfl) dX12_move_10 ⟨(Nat.le_of_ble_eq_true rfl), (Nat.le_of_ble_eq_true rfl)⟩ (fun r_22 u_23 H locs hw_24 hP hD hS => ?_)
    have hP : va_P g.1 vwCl [(z 2, .inl (gI g, 7376, .inl Wk)), (z 1, .inl (gI g, 461, .inl D)), (z 6, .inl (gI g, 5, .inl f_5)), (z 7, .inl (gI g, 7, .inl f_6)), (z 8, .inl (gI g, 5, .inl f_7)), (z 9, .inl (gI g, 5, .inl f_8)), (z 10, .inl (gZ g, 5, .inl f_9)), (z 11, .inl (gI g, 7, .inl f_10)), (z 12, .inl (gI g, 7, .inl f_11)), (z 0, .inr (12, [.ref (z 1), .ref (z 2), .int (nI kp), .int u_23, .ref (z 3), .ref (z 4), .ref (z 5), .ref (z 6), .int (f_4 1), .ref (z 7), .ref (z 8), .ref (z 9), .ref (z 10), .ref (z 11), .ref (z 12), .int (f_4 2), .ref (z 13), .ref (z 14), .int (f_4 3), .ref (z 15)]))] H := hP
    have hD : va_D A [(z 2, .inl (gI g, 7376, .inl Wk)), (z 1, .inl (gI g, 461, .inl D)), (z 6, .inl (gI g, 5, .inl f_5)), (z 7, .inl (gI g, 7, .inl f_6)), (z 8, .inl (gI g, 5, .inl f_7)), (z 9, .inl (gI g, 5, .inl f_8)), (z 10, .inl (gZ g, 5, .inl f_9)), (z 11, .inl (gI g, 7, .inl f_10)), (z 12, .inl (gI g, 7, .inl f_11)), (z 0, .inr (12, [.ref (z 1), .ref (z 2), .int (nI kp), .int u_23, .ref (z 3), .ref (z 4), .ref (z 5), .ref (z 6), .int (f_4 1), .ref (z 7), .ref (z 8), .ref (z 9), .ref (z 10), .ref (z 11), .ref (z 12), .int (f_4 2), .ref (z 13), .ref (z 14), .int (f_4 3), .ref (z 15)]))] := hD
    have hw_24 : r_22 = (-100006) := hw_24
    subst hw_24
    exact k_iret (kp, (fun kk_ => ([u_23, (f_4 1), (f_4 2), (f_4 3)] : List Int32).getD kk_ 0), D, Wk, f_5, f_6, f_7, f_8, f_9, f_10, f_11) [9, 1, 0, 2, 3, 4, 5, 6, 7, 8] hx hb hr hlk hP hD hS (⟨hkp, hDI, hWI⟩) rfl rfl rfl (Nat.le_of_ble_eq_true rfl) (Nat.le_of_ble_eq_true rfl) dX12_move_13
theorem dX12_sleeps_0 : decode cX12_sleeps 0 = .ok (.aload_n 0, 1) := by decide +kernel
theorem dX12_sleeps_1 : decode cX12_sleeps 1 = .ok (.iload_n 1, 1) := by decide +kernel
theorem dX12_sleeps_2 : decode cX12_sleeps 2 = .ok (.invokevirtual 82, 3) := by decide +kernel
theorem dX12_sleeps_5 : decode cX12_sleeps 5 = .ok (.ifCond .ne 9, 3) := by decide +kernel
theorem dX12_sleeps_14 : decode cX12_sleeps 14 = .ok (.aload_n 0, 1) := by decide +kernel
theorem dX12_sleeps_15 : decode cX12_sleeps 15 = .ok (.getfield 7, 3) := by decide +kernel
theorem dX12_sleeps_18 : decode cX12_sleeps 18 = .ok (.bipush 97, 2) := by decide +kernel
theorem dX12_sleeps_20 : decode cX12_sleeps 20 = .ok (.iload_n 1, 1) := by decide +kernel
theorem dX12_sleeps_21 : decode cX12_sleeps 21 = .ok (.iadd, 1) := by decide +kernel
theorem dX12_sleeps_22 : decode cX12_sleeps 22 = .ok (.iaload, 1) := by decide +kernel
theorem dX12_sleeps_23 : decode cX12_sleeps 23 = .ok (.ifCond .ge 10, 3) := by decide +kernel
theorem dX12_sleeps_33 : decode cX12_sleeps 33 = .ok (.aload_n 0, 1) := by decide +kernel
theorem dX12_sleeps_34 : decode cX12_sleeps 34 = .ok (.invokevirtual 72, 3) := by decide +kernel
theorem dX12_sleeps_37 : decode cX12_sleeps 37 = .ok (.iload_n 2, 1) := by decide +kernel
theorem dX12_sleeps_38 : decode cX12_sleeps 38 = .ok (.ifCond .eq 7, 3) := by decide +kernel
theorem dX12_sleeps_45 : decode cX12_sleeps 45 = .ok (.iconst 0, 1) := by decide +kernel
theorem dX12_sleeps_46 : decode cX12_sleeps 46 = .ok (.istore_n 3, 1) := by decide +kernel
theorem dX12_sleeps_47 : decode cX12_sleeps 47 = .ok (.aload_n 0, 1) := by decide +kernel
theorem dX12_sleeps_48 : decode cX12_sleeps 48 = .ok (.getfield 7, 3) := by decide +kernel
theorem dX12_sleeps_51 : decode cX12_sleeps 51 = .ok (.bipush 107, 2) := by decide +kernel
theorem dX12_sleeps_53 : decode cX12_sleeps 53 = .ok (.iload_n 1, 1) := by decide +kernel
theorem dX12_sleeps_54 : decode cX12_sleeps 54 = .ok (.iadd, 1) := by decide +kernel
theorem dX12_sleeps_55 : decode cX12_sleeps 55 = .ok (.iaload, 1) := by decide +kernel
theorem dX12_sleeps_56 : decode cX12_sleeps 56 = .ok (.iload_n 3, 1) := by decide +kernel
theorem dX12_sleeps_57 : decode cX12_sleeps 57 = .ok (.if_icmp .ne 5, 3) := by decide +kernel
theorem dX12_sleeps_62 : decode cX12_sleeps 62 = .ok (.aload_n 0, 1) := by decide +kernel
theorem dX12_sleeps_63 : decode cX12_sleeps 63 = .ok (.getfield 7, 3) := by decide +kernel
theorem dX12_sleeps_66 : decode cX12_sleeps 66 = .ok (.bipush 107, 2) := by decide +kernel
theorem dX12_sleeps_68 : decode cX12_sleeps 68 = .ok (.iload_n 1, 1) := by decide +kernel
theorem dX12_sleeps_69 : decode cX12_sleeps 69 = .ok (.iadd, 1) := by decide +kernel
theorem dX12_sleeps_70 : decode cX12_sleeps 70 = .ok (.iload_n 3, 1) := by decide +kernel
theorem dX12_sleeps_71 : decode cX12_sleeps 71 = .ok (.iastore, 1) := by decide +kernel
theorem dX12_sleeps_72 : decode cX12_sleeps 72 = .ok (.aload_n 0, 1) := by decide +kernel
theorem dX12_sleeps_73 : decode cX12_sleeps 73 = .ok (.iload_n 1, 1) := by decide +kernel
theorem dX12_sleeps_74 : decode cX12_sleeps 74 = .ok (.iload_n 2, 1) := by decide +kernel
theorem dX12_sleeps_75 : decode cX12_sleeps 75 = .ok (.ifCond .eq 7, 3) := by decide +kernel
theorem dX12_sleeps_82 : decode cX12_sleeps 82 = .ok (.iconst 3, 1) := by decide +kernel
theorem dX12_sleeps_83 : decode cX12_sleeps 83 = .ok (.invokevirtual 113, 3) := by decide +kernel
theorem dX12_sleeps_86 : decode cX12_sleeps 86 = .ok (.iconst 1, 1) := by decide +kernel
theorem dX12_sleeps_87 : decode cX12_sleeps 87 = .ok (.ireturn, 1) := by decide +kernel
theorem dX12_sleeps_78 : decode cX12_sleeps 78 = .ok (.iconst 1, 1) := by decide +kernel
theorem dX12_sleeps_79 : decode cX12_sleeps 79 = .ok (.goto 4, 3) := by decide +kernel
theorem dX12_sleeps_60 : decode cX12_sleeps 60 = .ok (.iconst 0, 1) := by decide +kernel
theorem dX12_sleeps_61 : decode cX12_sleeps 61 = .ok (.ireturn, 1) := by decide +kernel
theorem dX12_sleeps_41 : decode cX12_sleeps 41 = .ok (.iconst 1, 1) := by decide +kernel
theorem dX12_sleeps_42 : decode cX12_sleeps 42 = .ok (.goto 4, 3) := by decide +kernel
theorem dX12_sleeps_26 : decode cX12_sleeps 26 = .ok (.aload_n 0, 1) := by decide +kernel
theorem dX12_sleeps_27 : decode cX12_sleeps 27 = .ok (.bipush 6, 2) := by decide +kernel
theorem dX12_sleeps_29 : decode cX12_sleeps 29 = .ok (.invokevirtual 68, 3) := by decide +kernel
theorem dX12_sleeps_32 : decode cX12_sleeps 32 = .ok (.ireturn, 1) := by decide +kernel
theorem dX12_sleeps_8 : decode cX12_sleeps 8 = .ok (.aload_n 0, 1) := by decide +kernel
theorem dX12_sleeps_9 : decode cX12_sleeps 9 = .ok (.iconst 1, 1) := by decide +kernel
theorem dX12_sleeps_10 : decode cX12_sleeps 10 = .ok (.invokevirtual 68, 3) := by decide +kernel
theorem dX12_sleeps_13 : decode cX12_sleeps 13 = .ok (.ireturn, 1) := by decide +kernel
set_option maxHeartbeats 8000000 in
set_option maxRecDepth 100000 in
theorem c_X12_sleeps (l : Launch) (g : kG) (sz : Nat) (z : Nat → Nat) (kp : Nat) (xs : Nat → Int32) (D : Nat → Int32) (Wk : Nat → Int32) (x : Int32) (y : Int32) (hDI : DI D) (hkp : kp ≤ 16) (hWI : WI Wk kp) : kMi l g yX12_sleeps cX12_sleeps 4 (some .int) 4 0 0 [.ref (z 0), .int x, .int y] sz [(z 0, .inr (12, [.ref (z 1), .ref (z 2), .int (nI kp), .int (xs 0), .ref (z 3), .ref (z 4), .ref (z 5), .ref (z 6), .int (xs 1), .ref (z 7), .ref (z 8), .ref (z 9), .ref (z 10), .ref (z 11), .ref (z 12), .int (xs 2), .ref (z 13), .ref (z 14), .int (xs 3), .ref (z 15)])), (z 1, .inl (gI g, 461, .inl D)), (z 2, .inl (gI g, 7376, .inl Wk))] (fun (r : Int32) (u : Nat × (Nat → Int32) × (Nat → Int32) × (Nat → Int32)) => u.1 ≤ 16 ∧ DI u.2.2.1 ∧ WI u.2.2.2 u.1) (fun (u : Nat × (Nat → Int32) × (Nat → Int32) × (Nat → Int32)) => ([(z 0, .inr (12, [.ref (z 1), .ref (z 2), .int (nI u.1), .int (u.2.1 0), .ref (z 3), .ref (z 4), .ref (z 5), .ref (z 6), .int (u.2.1 1), .ref (z 7), .ref (z 8), .ref (z 9), .ref (z 10), .ref (z 11), .ref (z 12), .int (u.2.1 2), .ref (z 13), .ref (z 14), .int (u.2.1 3), .ref (z 15)])), (z 1, .inl (gI g, 461, .inl u.2.2.1)), (z 2, .inl (gI g, 7376, .inl u.2.2.2))] : va_W)) := by
  refine kMi.of (by decide) (Nat.le_of_ble_eq_true rfl) (fun p e s m below meth c A hx hb hr hml hown hts hlk hnm hKW hP hD hS hA ls hl => ?_)
  have hown : s.vm.findClass RX12 = some m.cls := hown
  have hl : lv_has ls 4 [(0, .ref (z 0)), (1, .int x), (2, .int y)] := hl
  refine k_hide hP hS (fun H locs hP hS => ?_)
  refine lv_aload_n hx hb dX12_sleeps_0 rfl (lv_at hl 0 rfl) ?_
  refine lv_iload_n hx hb dX12_sleeps_1 rfl (lv_at hl 1 rfl) ?_
  refine k_Vi [0, 1] [2] 0 12 (wr := [(z 2, .inl (gI g, 7376, .inl Wk))]) hx hb hml hown hts hKW hP hD hS hA hl.1 (c_X12_isChild l g _ z kp xs D x (by first | assumption | omega | decide)) rfl rfl rfl wd_13_19 wd_1_5 wd_13_16 wd_13_17 wd_13_18 yd_X12_isChild ⟨(Nat.le_of_ble_eq_true rfl), (Nat.le_of_ble_eq_true rfl)⟩ rfl rfl rfl rfl (by decide) rfl (Nat.le_of_ble_eq_true rfl) dX12_sleeps_2 ⟨(Nat.le_of_ble_eq_true rfl), (Nat.le_of_ble_eq_true rfl)⟩ (fun r_1 u_2 H locs hw_3 hP hD hS => ?_)
  have hP : va_P g.1 vwCl [(z 2, .inl (gI g, 7376, .inl Wk)), (z 0, .inr (12, [.ref (z 1), .ref (z 2), .int (nI kp), .int (xs 0), .ref (z 3), .ref (z 4), .ref (z 5), .ref (z 6), .int (xs 1), .ref (z 7), .ref (z 8), .ref (z 9), .ref (z 10), .ref (z 11), .ref (z 12), .int (xs 2), .ref (z 13), .ref (z 14), .int (xs 3), .ref (z 15)])), (z 1, .inl (gI g, 461, .inl D))] H := hP
  have hD : va_D A [(z 2, .inl (gI g, 7376, .inl Wk)), (z 0, .inr (12, [.ref (z 1), .ref (z 2), .int (nI kp), .int (xs 0), .ref (z 3), .ref (z 4), .ref (z 5), .ref (z 6), .int (xs 1), .ref (z 7), .ref (z 8), .ref (z 9), .ref (z 10), .ref (z 11), .ref (z 12), .int (xs 2), .ref (z 13), .ref (z 14), .int (xs 3), .ref (z 15)])), (z 1, .inl (gI g, 461, .inl D))] := hD
  rcases (show (r_1 = 1 ∧ (∃ j : Nat, (j < 10 ∧ (j : Int) < (D 2).toInt) ∧ x = nI j)) ∨ (r_1 = 0 ∧ ¬ (∃ j : Nat, (j < 10 ∧ (j : Int) < (D 2).toInt) ∧ x = nI j)) from hw_3) with ⟨rfl, hw_3b⟩ | ⟨rfl, hw_3b⟩ <;> clear hw_3
  · obtain ⟨j_4, hj_4, rfl⟩ := hw_3b
    refine lv_if_ne (tgt := 14) hx hb dX12_sleeps_5 (by decide) (fun _ => ?_) (fun c => absurd c (by decide))
    refine lv_aload_n hx hb dX12_sleeps_14 rfl (lv_at hl 0 rfl) ?_
    refine va_get (ci := 12) (C := RX12) (T := TX12) (N := 20) hx hb hts inlX12 hown hKW.1 hP 1 rfl rfl 0 (by decide) (hts _ wd_6_5) (fun _ h => h) rfl dX12_sleeps_15 ?_
    refine lv_bipush (v := 97) hx hb dX12_sleeps_18 (by decide) ?_
    refine lv_iload_n hx hb dX12_sleeps_20 rfl (lv_at hl 1 rfl) ?_
    refine lv_iadd hx hb dX12_sleeps_21 ?_
    refine k_top (y := nI (j_4 + 97)) (by rw [Nat.add_comm]; exact nI_add 97 j_4) ?_
    refine va_iald hx hb hKW.1 hP 2 0 rfl rfl (vp_in_nI (by omega) (by decide)) dX12_sleeps_22 ?_
    refine lv_topi (fun x_5 ex_5 => ?_)
    refine lv_if_ge (tgt := 33) hx hb dX12_sleeps_23 (by decide) (fun c_6 => ?_) (fun c_6 => ?_)
    · refine lv_aload_n hx hb dX12_sleeps_33 rfl (lv_at hl 0 rfl) ?_
      refine k_Vv [1, 2, 0] [] 1 12 (wr := []) hx hb hml hown hts hKW hP hD hS hA hl.1 (c_X12_keep l g _ z kp xs D Wk (by first | assumption | omega | decide) (by first | assumption | omega | decide) (by first | assumption | omega | decide)) rfl rfl rfl wd_10_21 wd_1_5 wd_10_18 wd_10_19 wd_10_20 yd_X12_keep ⟨(Nat.le_of_ble_eq_true rfl), (Nat.le_of_ble_eq_true rfl)⟩ rfl rfl rfl rfl (by decide) rfl (Nat.le_of_ble_eq_true rfl) dX12_sleeps_34 ⟨(Nat.le_of_ble_eq_true rfl), (Nat.le_of_ble_eq_true rfl)⟩ (fun u_8 H locs hw_9 hP hD hS => ?_)
      obtain ⟨q_10, f_11⟩ := u_8
      have hP : va_P g.1 vwCl [(z 0, .inr (12, [.ref (z 1), .ref (z 2), .int (nI q_10), .int (xs 0), .ref (z 3), .ref (z 4), .ref (z 5), .ref (z 6), .int (xs 1), .ref (z 7), .ref (z 8), .ref (z 9), .ref (z 10), .ref (z 11), .ref (z 12), .int (xs 2), .ref (z 13), .ref (z 14), .int (xs 3), .ref (z 15)])), (z 1, .inl (gI g, 461, .inl D)), (z 2, .inl (gI g, 7376, .inl f_11))] H := hP
      have hD : va_D A [(z 0, .inr (12, [.ref (z 1), .ref (z 2), .int (nI q_10), .int (xs 0), .ref (z 3), .ref (z 4), .ref (z 5), .ref (z 6), .int (xs 1), .ref (z 7), .ref (z 8), .ref (z 9), .ref (z 10), .ref (z 11), .ref (z 12), .int (xs 2), .ref (z 13), .ref (z 14), .int (xs 3), .ref (z 15)])), (z 1, .inl (gI g, 461, .inl D)), (z 2, .inl (gI g, 7376, .inl f_11))] := hD
      have hw_9 : q_10 ≤ 16 ∧ WI f_11 q_10 := hw_9
      obtain ⟨hkk, hkW⟩ := hw_9
      refine lv_iload_n hx hb dX12_sleeps_37 rfl (lv_at hl 2 rfl) ?_
      refine lv_if_eq (tgt := 45) hx hb dX12_sleeps_38 (by decide) (fun c_12 => ?_) (fun c_12 => ?_)
      · refine lv_iconst (v := 0) hx hb dX12_sleeps_45 (by decide) ?_
        refine lv_istore_n (lv' := [(3, .int 0), (0, .ref (z 0)), (1, .int (nI j_4)), (2, .int y)]) hx hb dX12_sleeps_46 rfl hl (by decide) rfl (fun ls hl => ?_)
        refine lv_aload_n hx hb dX12_sleeps_47 rfl (lv_at hl 1 rfl) ?_
        refine va_get (ci := 12) (C := RX12) (T := TX12) (N := 20) hx hb hts inlX12 hown hKW.1 hP 0 rfl rfl 0 (by decide) (hts _ wd_6_5) (fun _ h => h) rfl dX12_sleeps_48 ?_
        refine lv_bipush (v := 107) hx hb dX12_sleeps_51 (by decide) ?_
        refine lv_iload_n hx hb dX12_sleeps_53 rfl (lv_at hl 2 rfl) ?_
        refine lv_iadd hx hb dX12_sleeps_54 ?_
        refine k_top (y := nI (j_4 + 107)) (by rw [Nat.add_comm]; exact nI_add 107 j_4) ?_
        refine va_iald hx hb hKW.1 hP 1 0 rfl rfl (vp_in_nI (by omega) (by decide)) dX12_sleeps_55 ?_
        refine lv_topi (fun x_13 ex_13 => ?_)
        refine lv_iload_n hx hb dX12_sleeps_56 rfl (lv_at hl 0 rfl) ?_
        refine lv_icmp_ne (tgt := 62) hx hb dX12_sleeps_57 (by decide) (fun c_14 => ?_) (fun c_14 => ?_)
        · refine lv_aload_n hx hb dX12_sleeps_62 rfl (lv_at hl 1 rfl) ?_
          refine va_get (ci := 12) (C := RX12) (T := TX12) (N := 20) hx hb hts inlX12 hown hKW.1 hP 0 rfl rfl 0 (by decide) (hts _ wd_6_5) (fun _ h => h) rfl dX12_sleeps_63 ?_
          refine lv_bipush (v := 107) hx hb dX12_sleeps_66 (by decide) ?_
          refine lv_iload_n hx hb dX12_sleeps_68 rfl (lv_at hl 2 rfl) ?_
          refine lv_iadd hx hb dX12_sleeps_69 ?_
          refine k_top (y := nI (j_4 + 107)) (by rw [Nat.add_comm]; exact nI_add 107 j_4) ?_
          refine lv_iload_n hx hb dX12_sleeps_70 rfl (lv_at hl 0 rfl) ?_
          refine va_iast hx hb hKW.1 hP hD hS 1 0 rfl rfl (vp_in_nI (by omega) (by decide)) dX12_sleeps_71 (fun H locs hP hD hS => ?_)
          have hP : va_P g.1 vwCl [(z 0, .inr (12, [.ref (z 1), .ref (z 2), .int (nI q_10), .int (xs 0), .ref (z 3), .ref (z 4), .ref (z 5), .ref (z 6), .int (xs 1), .ref (z 7), .ref (z 8), .ref (z 9), .ref (z 10), .ref (z 11), .ref (z 12), .int (xs 2), .ref (z 13), .ref (z 14), .int (xs 3), .ref (z 15)])), (z 1, .inl (gI g, 461, .inl (upd D (nI (j_4 + 107)).toNatClampNeg 0))), (z 2, .inl (gI g, 7376, .inl f_11))] H := hP
          have hD : va_D A [(z 0, .inr (12, [.ref (z 1), .ref (z 2), .int (nI q_10), .int (xs 0), .ref (z 3), .ref (z 4), .ref (z 5), .ref (z 6), .int (xs 1), .ref (z 7), .ref (z 8), .ref (z 9), .ref (z 10), .ref (z 11), .ref (z 12), .int (xs 2), .ref (z 13), .ref (z 14), .int (xs 3), .ref (z 15)])), (z 1, .inl (gI g, 461, .inl (upd D (nI (j_4 + 107)).toNatClampNeg 0))), (z 2, .inl (gI g, 7376, .inl f_11))] := hD
          obtain ⟨f_15, ef_15⟩ : ∃ zz_ : Nat → Int32, zz_ = upd D (nI (j_4 + 107)).toNatClampNeg 0 := ⟨_, rfl⟩
          rw [← ef_15] at hP hD
          have hDf_15 : DI f_15 := DI.free (i := (j_4 + 107)) (x := 0) hDI (by rw [ef_15, nI_clamp (by omega)]) (by unfold dFree; omega)
          refine lv_aload_n hx hb dX12_sleeps_72 rfl (lv_at hl 1 rfl) ?_
          refine lv_iload_n hx hb dX12_sleeps_73 rfl (lv_at hl 2 rfl) ?_
          refine lv_iload_n hx hb dX12_sleeps_74 rfl (lv_at hl 3 rfl) ?_
          refine lv_if_eq (tgt := 82) hx hb dX12_sleeps_75 (by decide) (fun c_16 => ?_) (fun c_16 => ?_)
          · refine lv_iconst (v := 3) hx hb dX12_sleeps_82 (by decide) ?_
            refine k_Vv [0, 1] [2] 0 12 (wr := [(z 2, .inl (gI g, 7376, .inl f_11))]) hx hb hml hown hts hKW hP hD hS hA hl.1 (c_X12_leadSleep l g _ z q_10 xs f_15 (nI j_4) 3 (by first | assumption | omega | decide)) rfl rfl rfl wd_22_2 wd_1_5 wd_21_23 wd_22_0 wd_22_1 yd_X12_leadSleep ⟨(Nat.le_of_ble_eq_true rfl), (Nat.le_of_ble_eq_true rfl)⟩ rfl rfl rfl rfl (by decide) rfl (Nat.le_of_ble_eq_true rfl) dX12_sleeps_83 ⟨(Nat.le_of_ble_eq_true rfl), (Nat.le_of_ble_eq_true rfl)⟩ (fun u_18 H locs hw_19 hP hD hS => ?_)
            have hP : va_P g.1 vwCl [(z 2, .inl (gI g, 7376, .inl f_11)), (z 0, .inr (12, [.ref (z 1), .ref (z 2), .int (nI q_10), .int (xs 0), .ref (z 3), .ref (z 4), .ref (z 5), .ref (z 6), .int (xs 1), .ref (z 7), .ref (z 8), .ref (z 9), .ref (z 10), .ref (z 11), .ref (z 12), .int (xs 2), .ref (z 13), .ref (z 14), .int (xs 3), .ref (z 15)])), (z 1, .inl (gI g, 461, .inl u_18))] H := hP
            have hD : va_D A [(z 2, .inl (gI g, 7376, .inl f_11)), (z 0, .inr (12, [.ref (z 1), .ref (z 2), .int (nI q_10), .int (xs 0), .ref (z 3), .ref (z 4), .ref (z 5), .ref (z 6), .int (xs 1), .ref (z 7), .ref (z 8), .ref (z 9), .ref (z 10), .ref (z 11), .ref (z 12), .int (xs 2), .ref (z 13), .ref (z 14), .int (xs 3), .ref (z 15)])), (z 1, .inl (gI g, 461, .inl u_18))] := hD
            have hw_19 : DI u_18 := hw_19
            have hld_20 := hw_19
            refine lv_iconst (v := 1) hx hb dX12_sleeps_86 (by decide) ?_
            exact k_iret (q_10, xs, u_18, f_11) [1, 2, 0] hx hb hr hlk hP hD hS (⟨hkk, hld_20, hkW⟩) rfl rfl rfl (Nat.le_of_ble_eq_true rfl) (Nat.le_of_ble_eq_true rfl) dX12_sleeps_87
          · refine lv_iconst (v := 1) hx hb dX12_sleeps_78 (by decide) ?_
            refine lv_goto (tgt := 83) hx hb dX12_sleeps_79 (by decide) ?_
            refine k_Vv [0, 1] [2] 0 12 (wr := [(z 2, .inl (gI g, 7376, .inl f_11))]) hx hb hml hown hts hKW hP hD hS hA hl.1 (c_X12_leadSleep l g _ z q_10 xs f_15 (nI j_4) 1 (by first | assumption | omega | decide)) rfl rfl rfl wd_22_2 wd_1_5 wd_21_23 wd_22_0 wd_22_1 yd_X12_leadSleep ⟨(Nat.le_of_ble_eq_true rfl), (Nat.le_of_ble_eq_true rfl)⟩ rfl rfl rfl rfl (by decide) rfl (Nat.le_of_ble_eq_true rfl) dX12_sleeps_83 ⟨(Nat.le_of_ble_eq_true rfl), (Nat.le_of_ble_eq_true rfl)⟩ (fun u_22 H locs hw_23 hP hD hS => ?_)
            have hP : va_P g.1 vwCl [(z 2, .inl (gI g, 7376, .inl f_11)), (z 0, .inr (12, [.ref (z 1), .ref (z 2), .int (nI q_10), .int (xs 0), .ref (z 3), .ref (z 4), .ref (z 5), .ref (z 6), .int (xs 1), .ref (z 7), .ref (z 8), .ref (z 9), .ref (z 10), .ref (z 11), .ref (z 12), .int (xs 2), .ref (z 13), .ref (z 14), .int (xs 3), .ref (z 15)])), (z 1, .inl (gI g, 461, .inl u_22))] H := hP
            have hD : va_D A [(z 2, .inl (gI g, 7376, .inl f_11)), (z 0, .inr (12, [.ref (z 1), .ref (z 2), .int (nI q_10), .int (xs 0), .ref (z 3), .ref (z 4), .ref (z 5), .ref (z 6), .int (xs 1), .ref (z 7), .ref (z 8), .ref (z 9), .ref (z 10), .ref (z 11), .ref (z 12), .int (xs 2), .ref (z 13), .ref (z 14), .int (xs 3), .ref (z 15)])), (z 1, .inl (gI g, 461, .inl u_22))] := hD
            have hw_23 : DI u_22 := hw_23
            have hld_24 := hw_23
            refine lv_iconst (v := 1) hx hb dX12_sleeps_86 (by decide) ?_
            exact k_iret (q_10, xs, u_22, f_11) [1, 2, 0] hx hb hr hlk hP hD hS (⟨hkk, hld_24, hkW⟩) rfl rfl rfl (Nat.le_of_ble_eq_true rfl) (Nat.le_of_ble_eq_true rfl) dX12_sleeps_87
        · refine lv_iconst (v := 0) hx hb dX12_sleeps_60 (by decide) ?_
          exact k_iret (q_10, xs, D, f_11) [0, 1, 2] hx hb hr hlk hP hD hS (⟨hkk, hDI, hkW⟩) rfl rfl rfl (Nat.le_of_ble_eq_true rfl) (Nat.le_of_ble_eq_true rfl) dX12_sleeps_61
      · refine lv_iconst (v := 1) hx hb dX12_sleeps_41 (by decide) ?_
        refine lv_goto (tgt := 46) hx hb dX12_sleeps_42 (by decide) ?_
        refine lv_istore_n (lv' := [(3, .int 1), (0, .ref (z 0)), (1, .int (nI j_4)), (2, .int y)]) hx hb dX12_sleeps_46 rfl hl (by decide) rfl (fun ls hl => ?_)
        refine lv_aload_n hx hb dX12_sleeps_47 rfl (lv_at hl 1 rfl) ?_
        refine va_get (ci := 12) (C := RX12) (T := TX12) (N := 20) hx hb hts inlX12 hown hKW.1 hP 0 rfl rfl 0 (by decide) (hts _ wd_6_5) (fun _ h => h) rfl dX12_sleeps_48 ?_
        refine lv_bipush (v := 107) hx hb dX12_sleeps_51 (by decide) ?_
        refine lv_iload_n hx hb dX12_sleeps_53 rfl (lv_at hl 2 rfl) ?_
        refine lv_iadd hx hb dX12_sleeps_54 ?_
        refine k_top (y := nI (j_4 + 107)) (by rw [Nat.add_comm]; exact nI_add 107 j_4) ?_
        refine va_iald hx hb hKW.1 hP 1 0 rfl rfl (vp_in_nI (by omega) (by decide)) dX12_sleeps_55 ?_
        refine lv_topi (fun x_25 ex_25 => ?_)
        refine lv_iload_n hx hb dX12_sleeps_56 rfl (lv_at hl 0 rfl) ?_
        refine lv_icmp_ne (tgt := 62) hx hb dX12_sleeps_57 (by decide) (fun c_26 => ?_) (fun c_26 => ?_)
        · refine lv_aload_n hx hb dX12_sleeps_62 rfl (lv_at hl 1 rfl) ?_
          refine va_get (ci := 12) (C := RX12) (T := TX12) (N := 20) hx hb hts inlX12 hown hKW.1 hP 0 rfl rfl 0 (by decide) (hts _ wd_6_5) (fun _ h => h) rfl dX12_sleeps_63 ?_
          refine lv_bipush (v := 107) hx hb dX12_sleeps_66 (by decide) ?_
          refine lv_iload_n hx hb dX12_sleeps_68 rfl (lv_at hl 2 rfl) ?_
          refine lv_iadd hx hb dX12_sleeps_69 ?_
          refine k_top (y := nI (j_4 + 107)) (by rw [Nat.add_comm]; exact nI_add 107 j_4) ?_
          refine lv_iload_n hx hb dX12_sleeps_70 rfl (lv_at hl 0 rfl) ?_
          refine va_iast hx hb hKW.1 hP hD hS 1 0 rfl rfl (vp_in_nI (by omega) (by decide)) dX12_sleeps_71 (fun H locs hP hD hS => ?_)
          have hP : va_P g.1 vwCl [(z 0, .inr (12, [.ref (z 1), .ref (z 2), .int (nI q_10), .int (xs 0), .ref (z 3), .ref (z 4), .ref (z 5), .ref (z 6), .int (xs 1), .ref (z 7), .ref (z 8), .ref (z 9), .ref (z 10), .ref (z 11), .ref (z 12), .int (xs 2), .ref (z 13), .ref (z 14), .int (xs 3), .ref (z 15)])), (z 1, .inl (gI g, 461, .inl (upd D (nI (j_4 + 107)).toNatClampNeg 1))), (z 2, .inl (gI g, 7376, .inl f_11))] H := hP
          have hD : va_D A [(z 0, .inr (12, [.ref (z 1), .ref (z 2), .int (nI q_10), .int (xs 0), .ref (z 3), .ref (z 4), .ref (z 5), .ref (z 6), .int (xs 1), .ref (z 7), .ref (z 8), .ref (z 9), .ref (z 10), .ref (z 11), .ref (z 12), .int (xs 2), .ref (z 13), .ref (z 14), .int (xs 3), .ref (z 15)])), (z 1, .inl (gI g, 461, .inl (upd D (nI (j_4 + 107)).toNatClampNeg 1))), (z 2, .inl (gI g, 7376, .inl f_11))] := hD
          obtain ⟨f_27, ef_27⟩ : ∃ zz_ : Nat → Int32, zz_ = upd D (nI (j_4 + 107)).toNatClampNeg 1 := ⟨_, rfl⟩
          rw [← ef_27] at hP hD
          have hDf_27 : DI f_27 := DI.free (i := (j_4 + 107)) (x := 1) hDI (by rw [ef_27, nI_clamp (by omega)]) (by unfold dFree; omega)
          refine lv_aload_n hx hb dX12_sleeps_72 rfl (lv_at hl 1 rfl) ?_
          refine lv_iload_n hx hb dX12_sleeps_73 rfl (lv_at hl 2 rfl) ?_
          refine lv_iload_n hx hb dX12_sleeps_74 rfl (lv_at hl 3 rfl) ?_
          refine lv_if_eq (tgt := 82) hx hb dX12_sleeps_75 (by decide) (fun c_28 => ?_) (fun c_28 => ?_)
          · refine lv_iconst (v := 3) hx hb dX12_sleeps_82 (by decide) ?_
            refine k_Vv [0, 1] [2] 0 12 (wr := [(z 2, .inl (gI g, 7376, .inl f_11))]) hx hb hml hown hts hKW hP hD hS hA hl.1 (c_X12_leadSleep l g _ z q_10 xs f_27 (nI j_4) 3 (by first | assumption | omega | decide)) rfl rfl rfl wd_22_2 wd_1_5 wd_21_23 wd_22_0 wd_22_1 yd_X12_leadSleep ⟨(Nat.le_of_ble_eq_true rfl), (Nat.le_of_ble_eq_true rfl)⟩ rfl rfl rfl rfl (by decide) rfl (Nat.le_of_ble_eq_true rfl) dX12_sleeps_83 ⟨(Nat.le_of_ble_eq_true rfl), (Nat.le_of_ble_eq_true rfl)⟩ (fun u_30 H locs hw_31 hP hD hS => ?_)
            have hP : va_P g.1 vwCl [(z 2, .inl (gI g, 7376, .inl f_11)), (z 0, .inr (12, [.ref (z 1), .ref (z 2), .int (nI q_10), .int (xs 0), .ref (z 3), .ref (z 4), .ref (z 5), .ref (z 6), .int (xs 1), .ref (z 7), .ref (z 8), .ref (z 9), .ref (z 10), .ref (z 11), .ref (z 12), .int (xs 2), .ref (z 13), .ref (z 14), .int (xs 3), .ref (z 15)])), (z 1, .inl (gI g, 461, .inl u_30))] H := hP
            have hD : va_D A [(z 2, .inl (gI g, 7376, .inl f_11)), (z 0, .inr (12, [.ref (z 1), .ref (z 2), .int (nI q_10), .int (xs 0), .ref (z 3), .ref (z 4), .ref (z 5), .ref (z 6), .int (xs 1), .ref (z 7), .ref (z 8), .ref (z 9), .ref (z 10), .ref (z 11), .ref (z 12), .int (xs 2), .ref (z 13), .ref (z 14), .int (xs 3), .ref (z 15)])), (z 1, .inl (gI g, 461, .inl u_30))] := hD
            have hw_31 : DI u_30 := hw_31
            have hld_32 := hw_31
            refine lv_iconst (v := 1) hx hb dX12_sleeps_86 (by decide) ?_
            exact k_iret (q_10, xs, u_30, f_11) [1, 2, 0] hx hb hr hlk hP hD hS (⟨hkk, hld_32, hkW⟩) rfl rfl rfl (Nat.le_of_ble_eq_true rfl) (Nat.le_of_ble_eq_true rfl) dX12_sleeps_87
          · refine lv_iconst (v := 1) hx hb dX12_sleeps_78 (by decide) ?_
            refine lv_goto (tgt := 83) hx hb dX12_sleeps_79 (by decide) ?_
            refine k_Vv [0, 1] [2] 0 12 (wr := [(z 2, .inl (gI g, 7376, .inl f_11))]) hx hb hml hown hts hKW hP hD hS hA hl.1 (c_X12_leadSleep l g _ z q_10 xs f_27 (nI j_4) 1 (by first | assumption | omega | decide)) rfl rfl rfl wd_22_2 wd_1_5 wd_21_23 wd_22_0 wd_22_1 yd_X12_leadSleep ⟨(Nat.le_of_ble_eq_true rfl), (Nat.le_of_ble_eq_true rfl)⟩ rfl rfl rfl rfl (by decide) rfl (Nat.le_of_ble_eq_true rfl) dX12_sleeps_83 ⟨(Nat.le_of_ble_eq_true rfl), (Nat.le_of_ble_eq_true rfl)⟩ (fun u_34 H locs hw_35 hP hD hS => ?_)
            have hP : va_P g.1 vwCl [(z 2, .inl (gI g, 7376, .inl f_11)), (z 0, .inr (12, [.ref (z 1), .ref (z 2), .int (nI q_10), .int (xs 0), .ref (z 3), .ref (z 4), .ref (z 5), .ref (z 6), .int (xs 1), .ref (z 7), .ref (z 8), .ref (z 9), .ref (z 10), .ref (z 11), .ref (z 12), .int (xs 2), .ref (z 13), .ref (z 14), .int (xs 3), .ref (z 15)])), (z 1, .inl (gI g, 461, .inl u_34))] H := hP
            have hD : va_D A [(z 2, .inl (gI g, 7376, .inl f_11)), (z 0, .inr (12, [.ref (z 1), .ref (z 2), .int (nI q_10), .int (xs 0), .ref (z 3), .ref (z 4), .ref (z 5), .ref (z 6), .int (xs 1), .ref (z 7), .ref (z 8), .ref (z 9), .ref (z 10), .ref (z 11), .ref (z 12), .int (xs 2), .ref (z 13), .ref (z 14), .int (xs 3), .ref (z 15)])), (z 1, .inl (gI g, 461, .inl u_34))] := hD
            have hw_35 : DI u_34 := hw_35
            have hld_36 := hw_35
            refine lv_iconst (v := 1) hx hb dX12_sleeps_86 (by decide) ?_
            exact k_iret (q_10, xs, u_34, f_11) [1, 2, 0] hx hb hr hlk hP hD hS (⟨hkk, hld_36, hkW⟩) rfl rfl rfl (Nat.le_of_ble_eq_true rfl) (Nat.le_of_ble_eq_true rfl) dX12_sleeps_87
        · refine lv_iconst (v := 0) hx hb dX12_sleeps_60 (by decide) ?_
          exact k_iret (q_10, xs, D, f_11) [0, 1, 2] hx hb hr hlk hP hD hS (⟨hkk, hDI, hkW⟩) rfl rfl rfl (Nat.le_of_ble_eq_true rfl) (Nat.le_of_ble_eq_true rfl) dX12_sleeps_61
    · refine lv_aload_n hx hb dX12_sleeps_26 rfl (lv_at hl 0 rfl) ?_
      refine lv_bipush (v := 6) hx hb dX12_sleeps_27 (by decide) ?_
      refine k_Vi [1] [0, 2] 1 12 (wr := [(z 2, .inl (gI g, 7376, .inl Wk)), (z 1, .inl (gI g, 461, .inl D))]) hx hb hml hown hts hKW hP hD hS hA hl.1 (c_X12_finding_6 l g _ z kp xs ) rfl rfl rfl wd_10_15 wd_1_5 wd_10_12 wd_10_13 wd_10_14 yd_X12_finding ⟨(Nat.le_of_ble_eq_true rfl), (Nat.le_of_ble_eq_true rfl)⟩ rfl rfl rfl rfl (by decide) rfl (Nat.le_of_ble_eq_true rfl) dX12_sleeps_29 ⟨(Nat.le_of_ble_eq_true rfl), (Nat.le_of_ble_eq_true rfl)⟩ (fun r_37 u_38 H locs hw_39 hP hD hS => ?_)
      have hP : va_P g.1 vwCl [(z 2, .inl (gI g, 7376, .inl Wk)), (z 1, .inl (gI g, 461, .inl D)), (z 0, .inr (12, [.ref (z 1), .ref (z 2), .int (nI kp), .int u_38, .ref (z 3), .ref (z 4), .ref (z 5), .ref (z 6), .int (xs 1), .ref (z 7), .ref (z 8), .ref (z 9), .ref (z 10), .ref (z 11), .ref (z 12), .int (xs 2), .ref (z 13), .ref (z 14), .int (xs 3), .ref (z 15)]))] H := hP
      have hD : va_D A [(z 2, .inl (gI g, 7376, .inl Wk)), (z 1, .inl (gI g, 461, .inl D)), (z 0, .inr (12, [.ref (z 1), .ref (z 2), .int (nI kp), .int u_38, .ref (z 3), .ref (z 4), .ref (z 5), .ref (z 6), .int (xs 1), .ref (z 7), .ref (z 8), .ref (z 9), .ref (z 10), .ref (z 11), .ref (z 12), .int (xs 2), .ref (z 13), .ref (z 14), .int (xs 3), .ref (z 15)]))] := hD
      have hw_39 : r_37 = (-100006) := hw_39
      subst hw_39
      exact k_iret (kp, (fun kk_ => ([u_38, (xs 1), (xs 2), (xs 3)] : List Int32).getD kk_ 0), D, Wk) [2, 1, 0] hx hb hr hlk hP hD hS (⟨hkp, hDI, hWI⟩) rfl rfl rfl (Nat.le_of_ble_eq_true rfl) (Nat.le_of_ble_eq_true rfl) dX12_sleeps_32
  · refine lv_if_ne (tgt := 14) hx hb dX12_sleeps_5 (by decide) (fun c => absurd c (by decide)) (fun _ => ?_)
    refine lv_aload_n hx hb dX12_sleeps_8 rfl (lv_at hl 0 rfl) ?_
    refine lv_iconst (v := 1) hx hb dX12_sleeps_9 (by decide) ?_
    refine k_Vi [1] [0, 2] 1 12 (wr := [(z 2, .inl (gI g, 7376, .inl Wk)), (z 1, .inl (gI g, 461, .inl D))]) hx hb hml hown hts hKW hP hD hS hA hl.1 (c_X12_finding_1 l g _ z kp xs ) rfl rfl rfl wd_10_15 wd_1_5 wd_10_12 wd_10_13 wd_10_14 yd_X12_finding ⟨(Nat.le_of_ble_eq_true rfl), (Nat.le_of_ble_eq_true rfl)⟩ rfl rfl rfl rfl (by decide) rfl (Nat.le_of_ble_eq_true rfl) dX12_sleeps_10 ⟨(Nat.le_of_ble_eq_true rfl), (Nat.le_of_ble_eq_true rfl)⟩ (fun r_40 u_41 H locs hw_42 hP hD hS => ?_)
    have hP : va_P g.1 vwCl [(z 2, .inl (gI g, 7376, .inl Wk)), (z 1, .inl (gI g, 461, .inl D)), (z 0, .inr (12, [.ref (z 1), .ref (z 2), .int (nI kp), .int u_41, .ref (z 3), .ref (z 4), .ref (z 5), .ref (z 6), .int (xs 1), .ref (z 7), .ref (z 8), .ref (z 9), .ref (z 10), .ref (z 11), .ref (z 12), .int (xs 2), .ref (z 13), .ref (z 14), .int (xs 3), .ref (z 15)]))] H := hP
    have hD : va_D A [(z 2, .inl (gI g, 7376, .inl Wk)), (z 1, .inl (gI g, 461, .inl D)), (z 0, .inr (12, [.ref (z 1), .ref (z 2), .int (nI kp), .int u_41, .ref (z 3), .ref (z 4), .ref (z 5), .ref (z 6), .int (xs 1), .ref (z 7), .ref (z 8), .ref (z 9), .ref (z 10), .ref (z 11), .ref (z 12), .int (xs 2), .ref (z 13), .ref (z 14), .int (xs 3), .ref (z 15)]))] := hD
    have hw_42 : r_40 = (-100001) := hw_42
    subst hw_42
    exact k_iret (kp, (fun kk_ => ([u_41, (xs 1), (xs 2), (xs 3)] : List Int32).getD kk_ 0), D, Wk) [2, 1, 0] hx hb hr hlk hP hD hS (⟨hkp, hDI, hWI⟩) rfl rfl rfl (Nat.le_of_ble_eq_true rfl) (Nat.le_of_ble_eq_true rfl) dX12_sleeps_13
theorem dX12_look_0 : decode cX12_look 0 = .ok (.aload_n 0, 1) := by decide +kernel
theorem dX12_look_1 : decode cX12_look 1 = .ok (.iload_n 1, 1) := by decide +kernel
theorem dX12_look_2 : decode cX12_look 2 = .ok (.invokevirtual 82, 3) := by decide +kernel
theorem dX12_look_5 : decode cX12_look 5 = .ok (.ifCond .ne 9, 3) := by decide +kernel
theorem dX12_look_14 : decode cX12_look 14 = .ok (.aload_n 0, 1) := by decide +kernel
theorem dX12_look_15 : decode cX12_look 15 = .ok (.getfield 7, 3) := by decide +kernel
theorem dX12_look_18 : decode cX12_look 18 = .ok (.bipush 107, 2) := by decide +kernel
theorem dX12_look_20 : decode cX12_look 20 = .ok (.iload_n 1, 1) := by decide +kernel
theorem dX12_look_21 : decode cX12_look 21 = .ok (.iadd, 1) := by decide +kernel
theorem dX12_look_22 : decode cX12_look 22 = .ok (.iaload, 1) := by decide +kernel
theorem dX12_look_23 : decode cX12_look 23 = .ok (.ifCond .ne 10, 3) := by decide +kernel
theorem dX12_look_33 : decode cX12_look 33 = .ok (.aload_n 0, 1) := by decide +kernel
theorem dX12_look_34 : decode cX12_look 34 = .ok (.invokevirtual 72, 3) := by decide +kernel
theorem dX12_look_37 : decode cX12_look 37 = .ok (.aload_n 0, 1) := by decide +kernel
theorem dX12_look_38 : decode cX12_look 38 = .ok (.iload_n 1, 1) := by decide +kernel
theorem dX12_look_39 : decode cX12_look 39 = .ok (.iconst 2, 1) := by decide +kernel
theorem dX12_look_40 : decode cX12_look 40 = .ok (.invokevirtual 113, 3) := by decide +kernel
theorem dX12_look_43 : decode cX12_look 43 = .ok (.iconst 0, 1) := by decide +kernel
theorem dX12_look_44 : decode cX12_look 44 = .ok (.istore_n 2, 1) := by decide +kernel
theorem dX12_look_45 : decode cX12_look 45 = .ok (.iconst 0, 1) := by decide +kernel
theorem dX12_look_46 : decode cX12_look 46 = .ok (.istore_n 3, 1) := by decide +kernel
theorem dX12_look_47 : decode cX12_look 47 = .ok (.iload_n 3, 1) := by decide +kernel
theorem dX12_look_48 : decode cX12_look 48 = .ok (.aload_n 0, 1) := by decide +kernel
theorem dX12_look_49 : decode cX12_look 49 = .ok (.getfield 7, 3) := by decide +kernel
theorem dX12_look_52 : decode cX12_look 52 = .ok (.bipush 6, 2) := by decide +kernel
theorem dX12_look_54 : decode cX12_look 54 = .ok (.iaload, 1) := by decide +kernel
theorem dX12_look_55 : decode cX12_look 55 = .ok (.if_icmp .ge 31, 3) := by decide +kernel
theorem dX12_look_86 : decode cX12_look 86 = .ok (.iload_n 2, 1) := by decide +kernel
theorem dX12_look_87 : decode cX12_look 87 = .ok (.ireturn, 1) := by decide +kernel
theorem dX12_look_58 : decode cX12_look 58 = .ok (.iload_n 2, 1) := by decide +kernel
theorem dX12_look_59 : decode cX12_look 59 = .ok (.aload_n 0, 1) := by decide +kernel
theorem dX12_look_60 : decode cX12_look 60 = .ok (.getfield 7, 3) := by decide +kernel
theorem dX12_look_63 : decode cX12_look 63 = .ok (.sipush 421, 3) := by decide +kernel
theorem dX12_look_66 : decode cX12_look 66 = .ok (.iload_n 3, 1) := by decide +kernel
theorem dX12_look_67 : decode cX12_look 67 = .ok (.iadd, 1) := by decide +kernel
theorem dX12_look_68 : decode cX12_look 68 = .ok (.iaload, 1) := by decide +kernel
theorem dX12_look_69 : decode cX12_look 69 = .ok (.iconst 2, 1) := by decide +kernel
theorem dX12_look_70 : decode cX12_look 70 = .ok (.if_icmp .ne 7, 3) := by decide +kernel
theorem dX12_look_77 : decode cX12_look 77 = .ok (.iconst 0, 1) := by decide +kernel
theorem dX12_look_78 : decode cX12_look 78 = .ok (.iadd, 1) := by decide +kernel
theorem dX12_look_79 : decode cX12_look 79 = .ok (.istore_n 2, 1) := by decide +kernel
theorem dX12_look_80 : decode cX12_look 80 = .ok (.iinc 3 1, 3) := by decide +kernel
theorem dX12_look_83 : decode cX12_look 83 = .ok (.goto (-36), 3) := by decide +kernel
theorem dX12_look_73 : decode cX12_look 73 = .ok (.iconst 1, 1) := by decide +kernel
theorem dX12_look_74 : decode cX12_look 74 = .ok (.goto 4, 3) := by decide +kernel
theorem dX12_look_26 : decode cX12_look 26 = .ok (.aload_n 0, 1) := by decide +kernel
theorem dX12_look_27 : decode cX12_look 27 = .ok (.bipush 6, 2) := by decide +kernel
theorem dX12_look_29 : decode cX12_look 29 = .ok (.invokevirtual 68, 3) := by decide +kernel
theorem dX12_look_32 : decode cX12_look 32 = .ok (.ireturn, 1) := by decide +kernel
theorem dX12_look_8 : decode cX12_look 8 = .ok (.aload_n 0, 1) := by decide +kernel
theorem dX12_look_9 : decode cX12_look 9 = .ok (.iconst 1, 1) := by decide +kernel
theorem dX12_look_10 : decode cX12_look 10 = .ok (.invokevirtual 68, 3) := by decide +kernel
theorem dX12_look_13 : decode cX12_look 13 = .ok (.ireturn, 1) := by decide +kernel
set_option maxHeartbeats 8000000 in
set_option maxRecDepth 100000 in
theorem c_X12_look (l : Launch) (g : kG) (sz : Nat) (z : Nat → Nat) (kp : Nat) (xs : Nat → Int32) (D : Nat → Int32) (Wk : Nat → Int32) (x : Int32) (hDI : DI D) (hkp : kp ≤ 16) (hWI : WI Wk kp) : kMi l g yX12_look cX12_look 4 (some .int) 4 0 0 [.ref (z 0), .int x] sz [(z 0, .inr (12, [.ref (z 1), .ref (z 2), .int (nI kp), .int (xs 0), .ref (z 3), .ref (z 4), .ref (z 5), .ref (z 6), .int (xs 1), .ref (z 7), .ref (z 8), .ref (z 9), .ref (z 10), .ref (z 11), .ref (z 12), .int (xs 2), .ref (z 13), .ref (z 14), .int (xs 3), .ref (z 15)])), (z 1, .inl (gI g, 461, .inl D)), (z 2, .inl (gI g, 7376, .inl Wk))] (fun (r : Int32) (u : Nat × (Nat → Int32) × (Nat → Int32) × (Nat → Int32)) => u.1 ≤ 16 ∧ DI u.2.2.1 ∧ WI u.2.2.2 u.1) (fun (u : Nat × (Nat → Int32) × (Nat → Int32) × (Nat → Int32)) => ([(z 0, .inr (12, [.ref (z 1), .ref (z 2), .int (nI u.1), .int (u.2.1 0), .ref (z 3), .ref (z 4), .ref (z 5), .ref (z 6), .int (u.2.1 1), .ref (z 7), .ref (z 8), .ref (z 9), .ref (z 10), .ref (z 11), .ref (z 12), .int (u.2.1 2), .ref (z 13), .ref (z 14), .int (u.2.1 3), .ref (z 15)])), (z 1, .inl (gI g, 461, .inl u.2.2.1)), (z 2, .inl (gI g, 7376, .inl u.2.2.2))] : va_W)) := by
  refine kMi.of (by decide) (Nat.le_of_ble_eq_true rfl) (fun p e s m below meth c A hx hb hr hml hown hts hlk hnm hKW hP hD hS hA ls hl => ?_)
  have hown : s.vm.findClass RX12 = some m.cls := hown
  have hl : lv_has ls 4 [(0, .ref (z 0)), (1, .int x)] := hl
  refine k_hide hP hS (fun H locs hP hS => ?_)
  refine lv_aload_n hx hb dX12_look_0 rfl (lv_at hl 0 rfl) ?_
  refine lv_iload_n hx hb dX12_look_1 rfl (lv_at hl 1 rfl) ?_
  refine k_Vi [0, 1] [2] 0 12 (wr := [(z 2, .inl (gI g, 7376, .inl Wk))]) hx hb hml hown hts hKW hP hD hS hA hl.1 (c_X12_isChild l g _ z kp xs D x (by first | assumption | omega | decide)) rfl rfl rfl wd_13_19 wd_1_5 wd_13_16 wd_13_17 wd_13_18 yd_X12_isChild ⟨(Nat.le_of_ble_eq_true rfl), (Nat.le_of_ble_eq_true rfl)⟩ rfl rfl rfl rfl (by decide) rfl (Nat.le_of_ble_eq_true rfl) dX12_look_2 ⟨(Nat.le_of_ble_eq_true rfl), (Nat.le_of_ble_eq_true rfl)⟩ (fun r_1 u_2 H locs hw_3 hP hD hS => ?_)
  have hP : va_P g.1 vwCl [(z 2, .inl (gI g, 7376, .inl Wk)), (z 0, .inr (12, [.ref (z 1), .ref (z 2), .int (nI kp), .int (xs 0), .ref (z 3), .ref (z 4), .ref (z 5), .ref (z 6), .int (xs 1), .ref (z 7), .ref (z 8), .ref (z 9), .ref (z 10), .ref (z 11), .ref (z 12), .int (xs 2), .ref (z 13), .ref (z 14), .int (xs 3), .ref (z 15)])), (z 1, .inl (gI g, 461, .inl D))] H := hP
  have hD : va_D A [(z 2, .inl (gI g, 7376, .inl Wk)), (z 0, .inr (12, [.ref (z 1), .ref (z 2), .int (nI kp), .int (xs 0), .ref (z 3), .ref (z 4), .ref (z 5), .ref (z 6), .int (xs 1), .ref (z 7), .ref (z 8), .ref (z 9), .ref (z 10), .ref (z 11), .ref (z 12), .int (xs 2), .ref (z 13), .ref (z 14), .int (xs 3), .ref (z 15)])), (z 1, .inl (gI g, 461, .inl D))] := hD
  rcases (show (r_1 = 1 ∧ (∃ j : Nat, (j < 10 ∧ (j : Int) < (D 2).toInt) ∧ x = nI j)) ∨ (r_1 = 0 ∧ ¬ (∃ j : Nat, (j < 10 ∧ (j : Int) < (D 2).toInt) ∧ x = nI j)) from hw_3) with ⟨rfl, hw_3b⟩ | ⟨rfl, hw_3b⟩ <;> clear hw_3
  · obtain ⟨j_4, hj_4, rfl⟩ := hw_3b
    refine lv_if_ne (tgt := 14) hx hb dX12_look_5 (by decide) (fun _ => ?_) (fun c => absurd c (by decide))
    refine lv_aload_n hx hb dX12_look_14 rfl (lv_at hl 0 rfl) ?_
    refine va_get (ci := 12) (C := RX12) (T := TX12) (N := 20) hx hb hts inlX12 hown hKW.1 hP 1 rfl rfl 0 (by decide) (hts _ wd_6_5) (fun _ h => h) rfl dX12_look_15 ?_
    refine lv_bipush (v := 107) hx hb dX12_look_18 (by decide) ?_
    refine lv_iload_n hx hb dX12_look_20 rfl (lv_at hl 1 rfl) ?_
    refine lv_iadd hx hb dX12_look_21 ?_
    refine k_top (y := nI (j_4 + 107)) (by rw [Nat.add_comm]; exact nI_add 107 j_4) ?_
    refine va_iald hx hb hKW.1 hP 2 0 rfl rfl (vp_in_nI (by omega) (by decide)) dX12_look_22 ?_
    refine lv_topi (fun x_5 ex_5 => ?_)
    refine lv_if_ne (tgt := 33) hx hb dX12_look_23 (by decide) (fun c_6 => ?_) (fun c_6 => ?_)
    · refine lv_aload_n hx hb dX12_look_33 rfl (lv_at hl 0 rfl) ?_
      refine k_Vv [1, 2, 0] [] 1 12 (wr := []) hx hb hml hown hts hKW hP hD hS hA hl.1 (c_X12_keep l g _ z kp xs D Wk (by first | assumption | omega | decide) (by first | assumption | omega | decide) (by first | assumption | omega | decide)) rfl rfl rfl wd_10_21 wd_1_5 wd_10_18 wd_10_19 wd_10_20 yd_X12_keep ⟨(Nat.le_of_ble_eq_true rfl), (Nat.le_of_ble_eq_true rfl)⟩ rfl rfl rfl rfl (by decide) rfl (Nat.le_of_ble_eq_true rfl) dX12_look_34 ⟨(Nat.le_of_ble_eq_true rfl), (Nat.le_of_ble_eq_true rfl)⟩ (fun u_8 H locs hw_9 hP hD hS => ?_)
      obtain ⟨q_10, f_11⟩ := u_8
      have hP : va_P g.1 vwCl [(z 0, .inr (12, [.ref (z 1), .ref (z 2), .int (nI q_10), .int (xs 0), .ref (z 3), .ref (z 4), .ref (z 5), .ref (z 6), .int (xs 1), .ref (z 7), .ref (z 8), .ref (z 9), .ref (z 10), .ref (z 11), .ref (z 12), .int (xs 2), .ref (z 13), .ref (z 14), .int (xs 3), .ref (z 15)])), (z 1, .inl (gI g, 461, .inl D)), (z 2, .inl (gI g, 7376, .inl f_11))] H := hP
      have hD : va_D A [(z 0, .inr (12, [.ref (z 1), .ref (z 2), .int (nI q_10), .int (xs 0), .ref (z 3), .ref (z 4), .ref (z 5), .ref (z 6), .int (xs 1), .ref (z 7), .ref (z 8), .ref (z 9), .ref (z 10), .ref (z 11), .ref (z 12), .int (xs 2), .ref (z 13), .ref (z 14), .int (xs 3), .ref (z 15)])), (z 1, .inl (gI g, 461, .inl D)), (z 2, .inl (gI g, 7376, .inl f_11))] := hD
      have hw_9 : q_10 ≤ 16 ∧ WI f_11 q_10 := hw_9
      obtain ⟨hkk, hkW⟩ := hw_9
      refine lv_aload_n hx hb dX12_look_37 rfl (lv_at hl 0 rfl) ?_
      refine lv_iload_n hx hb dX12_look_38 rfl (lv_at hl 1 rfl) ?_
      refine lv_iconst (v := 2) hx hb dX12_look_39 (by decide) ?_
      refine k_Vv [0, 1] [2] 0 12 (wr := [(z 2, .inl (gI g, 7376, .inl f_11))]) hx hb hml hown hts hKW hP hD hS hA hl.1 (c_X12_leadSleep l g _ z q_10 xs D (nI j_4) 2 (by first | assumption | omega | decide)) rfl rfl rfl wd_22_2 wd_1_5 wd_21_23 wd_22_0 wd_22_1 yd_X12_leadSleep ⟨(Nat.le_of_ble_eq_true rfl), (Nat.le_of_ble_eq_true rfl)⟩ rfl rfl rfl rfl (by decide) rfl (Nat.le_of_ble_eq_true rfl) dX12_look_40 ⟨(Nat.le_of_ble_eq_true rfl), (Nat.le_of_ble_eq_true rfl)⟩ (fun u_13 H locs hw_14 hP hD hS => ?_)
      have hP : va_P g.1 vwCl [(z 2, .inl (gI g, 7376, .inl f_11)), (z 0, .inr (12, [.ref (z 1), .ref (z 2), .int (nI q_10), .int (xs 0), .ref (z 3), .ref (z 4), .ref (z 5), .ref (z 6), .int (xs 1), .ref (z 7), .ref (z 8), .ref (z 9), .ref (z 10), .ref (z 11), .ref (z 12), .int (xs 2), .ref (z 13), .ref (z 14), .int (xs 3), .ref (z 15)])), (z 1, .inl (gI g, 461, .inl u_13))] H := hP
      have hD : va_D A [(z 2, .inl (gI g, 7376, .inl f_11)), (z 0, .inr (12, [.ref (z 1), .ref (z 2), .int (nI q_10), .int (xs 0), .ref (z 3), .ref (z 4), .ref (z 5), .ref (z 6), .int (xs 1), .ref (z 7), .ref (z 8), .ref (z 9), .ref (z 10), .ref (z 11), .ref (z 12), .int (xs 2), .ref (z 13), .ref (z 14), .int (xs 3), .ref (z 15)])), (z 1, .inl (gI g, 461, .inl u_13))] := hD
      have hw_14 : DI u_13 := hw_14
      have hld_15 := hw_14
      refine lv_iconst (v := 0) hx hb dX12_look_43 (by decide) ?_
      refine lv_istore_n (lv' := [(2, .int 0), (0, .ref (z 0)), (1, .int (nI j_4))]) hx hb dX12_look_44 rfl hl (by decide) rfl (fun ls hl => ?_)
      refine lv_iconst (v := 0) hx hb dX12_look_45 (by decide) ?_
      refine lv_istore_n (lv' := [(3, .int 0), (2, .int 0), (0, .ref (z 0)), (1, .int (nI j_4))]) hx hb dX12_look_46 rfl hl (by decide) rfl (fun ls hl => ?_)
      have L47 : ∀ (n47 : Nat) (i : Nat) (x2 : Int32) (hfuel47 : 40 - i < n47) (hi : i ≤ 40) (H : Heap) (locs : List Loc) (hP : va_P g.1 vwCl [(z 2, .inl (gI g, 7376, .inl f_11)), (z 0, .inr (12, [.ref (z 1), .ref (z 2), .int (nI q_10), .int (xs 0), .ref (z 3), .ref (z 4), .ref (z 5), .ref (z 6), .int (xs 1), .ref (z 7), .ref (z 8), .ref (z 9), .ref (z 10), .ref (z 11), .ref (z 12), .int (xs 2), .ref (z 13), .ref (z 14), .int (xs 3), .ref (z 15)])), (z 1, .inl (gI g, 461, .inl u_13))] H) (hD : va_D A [(z 2, .inl (gI g, 7376, .inl f_11)), (z 0, .inr (12, [.ref (z 1), .ref (z 2), .int (nI q_10), .int (xs 0), .ref (z 3), .ref (z 4), .ref (z 5), .ref (z 6), .int (xs 1), .ref (z 7), .ref (z 8), .ref (z 9), .ref (z 10), .ref (z 11), .ref (z 12), .int (xs 2), .ref (z 13), .ref (z 14), .int (xs 3), .ref (z 15)])), (z 1, .inl (gI g, 461, .inl u_13))]) (hS : va_S A s.heap H locs) (ls : Array Slot) (hl : lv_has ls 4 [(3, .int (nI i)), (2, .int x2), (0, .ref (z 0)), (1, .int (nI j_4))]), W p l e (kR 4 0 0) s m ([.ref (z 0), .int (nI j_4)] : List Value).toArray below meth c H locs 0 0 (kQi g A below ([.ref (z 0), .int (nI j_4)] : List Value).toArray s 0 0 (fun (r : Int32) (u : Nat × (Nat → Int32) × (Nat → Int32) × (Nat → Int32)) => u.1 ≤ 16 ∧ DI u.2.2.1 ∧ WI u.2.2.2 u.1) (fun (u : Nat × (Nat → Int32) × (Nat → Int32) × (Nat → Int32)) => ([(z 0, .inr (12, [.ref (z 1), .ref (z 2), .int (nI u.1), .int (u.2.1 0), .ref (z 3), .ref (z 4), .ref (z 5), .ref (z 6), .int (u.2.1 1), .ref (z 7), .ref (z 8), .ref (z 9), .ref (z 10), .ref (z 11), .ref (z 12), .int (u.2.1 2), .ref (z 13), .ref (z 14), .int (u.2.1 3), .ref (z 15)])), (z 1, .inl (gI g, 461, .inl u.2.2.1)), (z 2, .inl (gI g, 7376, .inl u.2.2.2))] : va_W))) (F0 m 47 ls []) := by
        intro n47
        induction n47 with
        | zero => intro i x2 hfuel47; exact absurd hfuel47 (Nat.not_lt_zero _)
        | succ n47 ih47 =>
          intro i x2 hfuel47 hi H locs hP hD hS ls hl
          refine lv_iload_n hx hb dX12_look_47 rfl (lv_at hl 0 rfl) ?_
          refine lv_aload_n hx hb dX12_look_48 rfl (lv_at hl 2 rfl) ?_
          refine va_get (ci := 12) (C := RX12) (T := TX12) (N := 20) hx hb hts inlX12 hown hKW.1 hP 1 rfl rfl 0 (by decide) (hts _ wd_6_5) (fun _ h => h) rfl dX12_look_49 ?_
          refine lv_bipush (v := 6) hx hb dX12_look_52 (by decide) ?_
          obtain ⟨dk_16, hdk_16a, hdk_16b, edk_16⟩ := DI.n6 hld_15
          refine va_iald hx hb hKW.1 hP 2 0 rfl rfl (show ¬ _ by decide) dX12_look_54 ?_
          refine k_top (y := nI dk_16) edk_16 ?_
          refine lv_icmp_ge (tgt := 86) hx hb dX12_look_55 (by decide) (fun c_17 => ?_) (fun c_17 => ?_)
          · have c_17n : dk_16 ≤ i := (k_leI (a := dk_16) (b := i) (by omega) (by omega)).mp c_17
            refine lv_iload_n hx hb dX12_look_86 rfl (lv_at hl 1 rfl) ?_
            exact k_iret (q_10, xs, u_13, f_11) [1, 2, 0] hx hb hr hlk hP hD hS (⟨hkk, hld_15, hkW⟩) rfl rfl rfl (Nat.le_of_ble_eq_true rfl) (Nat.le_of_ble_eq_true rfl) dX12_look_87
          · have c_17n : i < dk_16 := Nat.not_le.mp (fun h => c_17 ((k_leI (a := dk_16) (b := i) (by omega) (by omega)).mpr h))
            refine lv_iload_n hx hb dX12_look_58 rfl (lv_at hl 1 rfl) ?_
            refine lv_aload_n hx hb dX12_look_59 rfl (lv_at hl 2 rfl) ?_
            refine va_get (ci := 12) (C := RX12) (T := TX12) (N := 20) hx hb hts inlX12 hown hKW.1 hP 1 rfl rfl 0 (by decide) (hts _ wd_6_5) (fun _ h => h) rfl dX12_look_60 ?_
            refine lv_sipush (v := 421) hx hb dX12_look_63 (by decide) ?_
            refine lv_iload_n hx hb dX12_look_66 rfl (lv_at hl 0 rfl) ?_
            refine lv_iadd hx hb dX12_look_67 ?_
            refine k_top (y := nI (i + 421)) (by rw [Nat.add_comm]; exact nI_add 421 i) ?_
            refine va_iald hx hb hKW.1 hP 2 0 rfl rfl (vp_in_nI (by omega) (by decide)) dX12_look_68 ?_
            refine lv_topi (fun x_18 ex_18 => ?_)
            refine lv_iconst (v := 2) hx hb dX12_look_69 (by decide) ?_
            refine lv_icmp_ne (tgt := 77) hx hb dX12_look_70 (by decide) (fun c_19 => ?_) (fun c_19 => ?_)
            · refine lv_iconst (v := 0) hx hb dX12_look_77 (by decide) ?_
              refine lv_iadd hx hb dX12_look_78 ?_
              refine lv_topi (fun x_20 ex_20 => ?_)
              refine lv_istore_n (lv' := [(2, .int x_20), (3, .int (nI i)), (0, .ref (z 0)), (1, .int (nI j_4))]) hx hb dX12_look_79 rfl hl (by decide) rfl (fun ls hl => ?_)
              refine lv_iinc (v := nI (i + 1)) (lv' := [(3, .int (nI (i + 1))), (2, .int x_20), (0, .ref (z 0)), (1, .int (nI j_4))]) hx hb dX12_look_80 hl (k := 1) rfl (nI_add i 1) (by decide) rfl (fun ls hl => ?_)
              refine lv_goto (tgt := 47) hx hb dX12_look_83 (by decide) ?_
              exact ih47 (i + 1) x_20 (by omega) (by first | assumption | omega) H locs (hP.sub [0, 1, 2] rfl) (hD.sub [0, 1, 2] (by decide) rfl) hS ls (lv_sub hl [0, 1, 2, 3] rfl)
            · refine lv_iconst (v := 1) hx hb dX12_look_73 (by decide) ?_
              refine lv_goto (tgt := 78) hx hb dX12_look_74 (by decide) ?_
              refine lv_iadd hx hb dX12_look_78 ?_
              refine lv_topi (fun x_21 ex_21 => ?_)
              refine lv_istore_n (lv' := [(2, .int x_21), (3, .int (nI i)), (0, .ref (z 0)), (1, .int (nI j_4))]) hx hb dX12_look_79 rfl hl (by decide) rfl (fun ls hl => ?_)
              refine lv_iinc (v := nI (i + 1)) (lv' := [(3, .int (nI (i + 1))), (2, .int x_21), (0, .ref (z 0)), (1, .int (nI j_4))]) hx hb dX12_look_80 hl (k := 1) rfl (nI_add i 1) (by decide) rfl (fun ls hl => ?_)
              refine lv_goto (tgt := 47) hx hb dX12_look_83 (by decide) ?_
              exact ih47 (i + 1) x_21 (by omega) (by first | assumption | omega) H locs (hP.sub [0, 1, 2] rfl) (hD.sub [0, 1, 2] (by decide) rfl) hS ls (lv_sub hl [0, 1, 2, 3] rfl)
      exact L47 (40 - 0 + 1) 0 0 (Nat.lt_succ_self _) (by first | assumption | omega) H locs (hP.sub [0, 1, 2] rfl) (hD.sub [0, 1, 2] (by decide) rfl) hS ls (lv_sub hl [0, 1, 2, 3] rfl)
    · refine lv_aload_n hx hb dX12_look_26 rfl (lv_at hl 0 rfl) ?_
      refine lv_bipush (v := 6) hx hb dX12_look_27 (by decide) ?_
      refine k_Vi [1] [0, 2] 1 12 (wr := [(z 2, .inl (gI g, 7376, .inl Wk)), (z 1, .inl (gI g, 461, .inl D))]) hx hb hml hown hts hKW hP hD hS hA hl.1 (c_X12_finding_6 l g _ z kp xs ) rfl rfl rfl wd_10_15 wd_1_5 wd_10_12 wd_10_13 wd_10_14 yd_X12_finding ⟨(Nat.le_of_ble_eq_true rfl), (Nat.le_of_ble_eq_true rfl)⟩ rfl rfl rfl rfl (by decide) rfl (Nat.le_of_ble_eq_true rfl) dX12_look_29 ⟨(Nat.le_of_ble_eq_true rfl), (Nat.le_of_ble_eq_true rfl)⟩ (fun r_22 u_23 H locs hw_24 hP hD hS => ?_)
      have hP : va_P g.1 vwCl [(z 2, .inl (gI g, 7376, .inl Wk)), (z 1, .inl (gI g, 461, .inl D)), (z 0, .inr (12, [.ref (z 1), .ref (z 2), .int (nI kp), .int u_23, .ref (z 3), .ref (z 4), .ref (z 5), .ref (z 6), .int (xs 1), .ref (z 7), .ref (z 8), .ref (z 9), .ref (z 10), .ref (z 11), .ref (z 12), .int (xs 2), .ref (z 13), .ref (z 14), .int (xs 3), .ref (z 15)]))] H := hP
      have hD : va_D A [(z 2, .inl (gI g, 7376, .inl Wk)), (z 1, .inl (gI g, 461, .inl D)), (z 0, .inr (12, [.ref (z 1), .ref (z 2), .int (nI kp), .int u_23, .ref (z 3), .ref (z 4), .ref (z 5), .ref (z 6), .int (xs 1), .ref (z 7), .ref (z 8), .ref (z 9), .ref (z 10), .ref (z 11), .ref (z 12), .int (xs 2), .ref (z 13), .ref (z 14), .int (xs 3), .ref (z 15)]))] := hD
      have hw_24 : r_22 = (-100006) := hw_24
      subst hw_24
      exact k_iret (kp, (fun kk_ => ([u_23, (xs 1), (xs 2), (xs 3)] : List Int32).getD kk_ 0), D, Wk) [2, 1, 0] hx hb hr hlk hP hD hS (⟨hkp, hDI, hWI⟩) rfl rfl rfl (Nat.le_of_ble_eq_true rfl) (Nat.le_of_ble_eq_true rfl) dX12_look_32
  · refine lv_if_ne (tgt := 14) hx hb dX12_look_5 (by decide) (fun c => absurd c (by decide)) (fun _ => ?_)
    refine lv_aload_n hx hb dX12_look_8 rfl (lv_at hl 0 rfl) ?_
    refine lv_iconst (v := 1) hx hb dX12_look_9 (by decide) ?_
    refine k_Vi [1] [0, 2] 1 12 (wr := [(z 2, .inl (gI g, 7376, .inl Wk)), (z 1, .inl (gI g, 461, .inl D))]) hx hb hml hown hts hKW hP hD hS hA hl.1 (c_X12_finding_1 l g _ z kp xs ) rfl rfl rfl wd_10_15 wd_1_5 wd_10_12 wd_10_13 wd_10_14 yd_X12_finding ⟨(Nat.le_of_ble_eq_true rfl), (Nat.le_of_ble_eq_true rfl)⟩ rfl rfl rfl rfl (by decide) rfl (Nat.le_of_ble_eq_true rfl) dX12_look_10 ⟨(Nat.le_of_ble_eq_true rfl), (Nat.le_of_ble_eq_true rfl)⟩ (fun r_25 u_26 H locs hw_27 hP hD hS => ?_)
    have hP : va_P g.1 vwCl [(z 2, .inl (gI g, 7376, .inl Wk)), (z 1, .inl (gI g, 461, .inl D)), (z 0, .inr (12, [.ref (z 1), .ref (z 2), .int (nI kp), .int u_26, .ref (z 3), .ref (z 4), .ref (z 5), .ref (z 6), .int (xs 1), .ref (z 7), .ref (z 8), .ref (z 9), .ref (z 10), .ref (z 11), .ref (z 12), .int (xs 2), .ref (z 13), .ref (z 14), .int (xs 3), .ref (z 15)]))] H := hP
    have hD : va_D A [(z 2, .inl (gI g, 7376, .inl Wk)), (z 1, .inl (gI g, 461, .inl D)), (z 0, .inr (12, [.ref (z 1), .ref (z 2), .int (nI kp), .int u_26, .ref (z 3), .ref (z 4), .ref (z 5), .ref (z 6), .int (xs 1), .ref (z 7), .ref (z 8), .ref (z 9), .ref (z 10), .ref (z 11), .ref (z 12), .int (xs 2), .ref (z 13), .ref (z 14), .int (xs 3), .ref (z 15)]))] := hD
    have hw_27 : r_25 = (-100001) := hw_27
    subst hw_27
    exact k_iret (kp, (fun kk_ => ([u_26, (xs 1), (xs 2), (xs 3)] : List Int32).getD kk_ 0), D, Wk) [2, 1, 0] hx hb hr hlk hP hD hS (⟨hkp, hDI, hWI⟩) rfl rfl rfl (Nat.le_of_ble_eq_true rfl) (Nat.le_of_ble_eq_true rfl) dX12_look_13
theorem dX12_longer_0 : decode cX12_longer 0 = .ok (.iload_n 1, 1) := by decide +kernel
theorem dX12_longer_1 : decode cX12_longer 1 = .ok (.iconst 1, 1) := by decide +kernel
theorem dX12_longer_2 : decode cX12_longer 2 = .ok (.bipush 60, 2) := by decide +kernel
theorem dX12_longer_4 : decode cX12_longer 4 = .ok (.invokestatic 64, 3) := by decide +kernel
theorem dX12_longer_7 : decode cX12_longer 7 = .ok (.ifCond .ne 9, 3) := by decide +kernel
theorem dX12_longer_16 : decode cX12_longer 16 = .ok (.aload_n 0, 1) := by decide +kernel
theorem dX12_longer_17 : decode cX12_longer 17 = .ok (.invokevirtual 72, 3) := by decide +kernel
theorem dX12_longer_20 : decode cX12_longer 20 = .ok (.aload_n 0, 1) := by decide +kernel
theorem dX12_longer_21 : decode cX12_longer 21 = .ok (.getfield 7, 3) := by decide +kernel
theorem dX12_longer_24 : decode cX12_longer 24 = .ok (.bipush 7, 2) := by decide +kernel
theorem dX12_longer_26 : decode cX12_longer 26 = .ok (.iaload, 1) := by decide +kernel
theorem dX12_longer_27 : decode cX12_longer 27 = .ok (.istore_n 2, 1) := by decide +kernel
theorem dX12_longer_28 : decode cX12_longer 28 = .ok (.aload_n 0, 1) := by decide +kernel
theorem dX12_longer_29 : decode cX12_longer 29 = .ok (.getfield 7, 3) := by decide +kernel
theorem dX12_longer_32 : decode cX12_longer 32 = .ok (.bipush 7, 2) := by decide +kernel
theorem dX12_longer_34 : decode cX12_longer 34 = .ok (.iload_n 1, 1) := by decide +kernel
theorem dX12_longer_35 : decode cX12_longer 35 = .ok (.iastore, 1) := by decide +kernel
theorem dX12_longer_36 : decode cX12_longer 36 = .ok (.iload_n 2, 1) := by decide +kernel
theorem dX12_longer_37 : decode cX12_longer 37 = .ok (.ireturn, 1) := by decide +kernel
theorem dX12_longer_10 : decode cX12_longer 10 = .ok (.aload_n 0, 1) := by decide +kernel
theorem dX12_longer_11 : decode cX12_longer 11 = .ok (.iconst 1, 1) := by decide +kernel
theorem dX12_longer_12 : decode cX12_longer 12 = .ok (.invokevirtual 68, 3) := by decide +kernel
theorem dX12_longer_15 : decode cX12_longer 15 = .ok (.ireturn, 1) := by decide +kernel
set_option maxHeartbeats 8000000 in
set_option maxRecDepth 100000 in
theorem c_X12_longer (l : Launch) (g : kG) (sz : Nat) (z : Nat → Nat) (kp : Nat) (xs : Nat → Int32) (D : Nat → Int32) (Wk : Nat → Int32) (x : Int32) (hDI : DI D) (hkp : kp ≤ 16) (hWI : WI Wk kp) : kMi l g yX12_longer cX12_longer 3 (some .int) 4 0 0 [.ref (z 0), .int x] sz [(z 0, .inr (12, [.ref (z 1), .ref (z 2), .int (nI kp), .int (xs 0), .ref (z 3), .ref (z 4), .ref (z 5), .ref (z 6), .int (xs 1), .ref (z 7), .ref (z 8), .ref (z 9), .ref (z 10), .ref (z 11), .ref (z 12), .int (xs 2), .ref (z 13), .ref (z 14), .int (xs 3), .ref (z 15)])), (z 1, .inl (gI g, 461, .inl D)), (z 2, .inl (gI g, 7376, .inl Wk))] (fun (r : Int32) (u : Nat × (Nat → Int32) × (Nat → Int32) × (Nat → Int32)) => u.1 ≤ 16 ∧ DI u.2.2.1 ∧ WI u.2.2.2 u.1) (fun (u : Nat × (Nat → Int32) × (Nat → Int32) × (Nat → Int32)) => ([(z 0, .inr (12, [.ref (z 1), .ref (z 2), .int (nI u.1), .int (u.2.1 0), .ref (z 3), .ref (z 4), .ref (z 5), .ref (z 6), .int (u.2.1 1), .ref (z 7), .ref (z 8), .ref (z 9), .ref (z 10), .ref (z 11), .ref (z 12), .int (u.2.1 2), .ref (z 13), .ref (z 14), .int (u.2.1 3), .ref (z 15)])), (z 1, .inl (gI g, 461, .inl u.2.2.1)), (z 2, .inl (gI g, 7376, .inl u.2.2.2))] : va_W)) := by
  refine kMi.of (by decide) (Nat.le_of_ble_eq_true rfl) (fun p e s m below meth c A hx hb hr hml hown hts hlk hnm hKW hP hD hS hA ls hl => ?_)
  have hown : s.vm.findClass RX12 = some m.cls := hown
  have hl : lv_has ls 3 [(0, .ref (z 0)), (1, .int x)] := hl
  refine k_hide hP hS (fun H locs hP hS => ?_)
  refine lv_iload_n hx hb dX12_longer_0 rfl (lv_at hl 1 rfl) ?_
  refine lv_iconst (v := 1) hx hb dX12_longer_1 (by decide) ?_
  refine lv_bipush (v := 60) hx hb dX12_longer_2 (by decide) ?_
  refine k_Si [] [0, 1, 2] (wr := [(z 0, .inr (12, [.ref (z 1), .ref (z 2), .int (nI kp), .int (xs 0), .ref (z 3), .ref (z 4), .ref (z 5), .ref (z 6), .int (xs 1), .ref (z 7), .ref (z 8), .ref (z 9), .ref (z 10), .ref (z 11), .ref (z 12), .int (xs 2), .ref (z 13), .ref (z 14), .int (xs 3), .ref (z 15)])), (z 1, .inl (gI g, 461, .inl D)), (z 2, .inl (gI g, 7376, .inl Wk))]) hx hb hml hown hts hKW hP hD hS hA hl.1 (c_X12_isIn l g _ x 1 60 ) wd_10_11 wd_1_5 wd_10_9 wd_10_10 yd_X12_isIn ⟨(Nat.le_of_ble_eq_true rfl), (Nat.le_of_ble_eq_true rfl)⟩ rfl rfl rfl rfl (by decide) rfl (Nat.le_of_ble_eq_true rfl) dX12_longer_4 ⟨(Nat.le_of_ble_eq_true rfl), (Nat.le_of_ble_eq_true rfl)⟩ (fun r_1 u_2 H locs hw_3 hP hD hS => ?_)
  have hP : va_P g.1 vwCl [(z 0, .inr (12, [.ref (z 1), .ref (z 2), .int (nI kp), .int (xs 0), .ref (z 3), .ref (z 4), .ref (z 5), .ref (z 6), .int (xs 1), .ref (z 7), .ref (z 8), .ref (z 9), .ref (z 10), .ref (z 11), .ref (z 12), .int (xs 2), .ref (z 13), .ref (z 14), .int (xs 3), .ref (z 15)])), (z 1, .inl (gI g, 461, .inl D)), (z 2, .inl (gI g, 7376, .inl Wk))] H := hP
  have hD : va_D A [(z 0, .inr (12, [.ref (z 1), .ref (z 2), .int (nI kp), .int (xs 0), .ref (z 3), .ref (z 4), .ref (z 5), .ref (z 6), .int (xs 1), .ref (z 7), .ref (z 8), .ref (z 9), .ref (z 10), .ref (z 11), .ref (z 12), .int (xs 2), .ref (z 13), .ref (z 14), .int (xs 3), .ref (z 15)])), (z 1, .inl (gI g, 461, .inl D)), (z 2, .inl (gI g, 7376, .inl Wk))] := hD
  rcases (show (r_1 = 1 ∧ (Int32.toInt 1 ≤ Int32.toInt x ∧ Int32.toInt x ≤ Int32.toInt 60)) ∨ (r_1 = 0 ∧ ¬ (Int32.toInt 1 ≤ Int32.toInt x ∧ Int32.toInt x ≤ Int32.toInt 60)) from hw_3) with ⟨rfl, hw_3b⟩ | ⟨rfl, hw_3b⟩ <;> clear hw_3
  · refine lv_if_ne (tgt := 16) hx hb dX12_longer_7 (by decide) (fun _ => ?_) (fun c => absurd c (by decide))
    obtain ⟨jl, hjl, rfl⟩ := k_ofr (x := x) (n := 61) (by decide) (by have q := hw_3b; simp at q; omega)
    refine lv_aload_n hx hb dX12_longer_16 rfl (lv_at hl 0 rfl) ?_
    have hjl1 : 1 ≤ jl := by have q := hw_3b; rw [k_nIi (by omega)] at q; simp at q; omega
    refine k_Vv [0, 1, 2] [] 0 12 (wr := []) hx hb hml hown hts hKW hP hD hS hA hl.1 (c_X12_keep l g _ z kp xs D Wk (by first | assumption | omega | decide) (by first | assumption | omega | decide) (by first | assumption | omega | decide)) rfl rfl rfl wd_10_21 wd_1_5 wd_10_18 wd_10_19 wd_10_20 yd_X12_keep ⟨(Nat.le_of_ble_eq_true rfl), (Nat.le_of_ble_eq_true rfl)⟩ rfl rfl rfl rfl (by decide) rfl (Nat.le_of_ble_eq_true rfl) dX12_longer_17 ⟨(Nat.le_of_ble_eq_true rfl), (Nat.le_of_ble_eq_true rfl)⟩ (fun u_5 H locs hw_6 hP hD hS => ?_)
    obtain ⟨q_7, f_8⟩ := u_5
    have hP : va_P g.1 vwCl [(z 0, .inr (12, [.ref (z 1), .ref (z 2), .int (nI q_7), .int (xs 0), .ref (z 3), .ref (z 4), .ref (z 5), .ref (z 6), .int (xs 1), .ref (z 7), .ref (z 8), .ref (z 9), .ref (z 10), .ref (z 11), .ref (z 12), .int (xs 2), .ref (z 13), .ref (z 14), .int (xs 3), .ref (z 15)])), (z 1, .inl (gI g, 461, .inl D)), (z 2, .inl (gI g, 7376, .inl f_8))] H := hP
    have hD : va_D A [(z 0, .inr (12, [.ref (z 1), .ref (z 2), .int (nI q_7), .int (xs 0), .ref (z 3), .ref (z 4), .ref (z 5), .ref (z 6), .int (xs 1), .ref (z 7), .ref (z 8), .ref (z 9), .ref (z 10), .ref (z 11), .ref (z 12), .int (xs 2), .ref (z 13), .ref (z 14), .int (xs 3), .ref (z 15)])), (z 1, .inl (gI g, 461, .inl D)), (z 2, .inl (gI g, 7376, .inl f_8))] := hD
    have hw_6 : q_7 ≤ 16 ∧ WI f_8 q_7 := hw_6
    obtain ⟨hkk, hkW⟩ := hw_6
    refine lv_aload_n hx hb dX12_longer_20 rfl (lv_at hl 0 rfl) ?_
    refine va_get (ci := 12) (C := RX12) (T := TX12) (N := 20) hx hb hts inlX12 hown hKW.1 hP 0 rfl rfl 0 (by decide) (hts _ wd_6_5) (fun _ h => h) rfl dX12_longer_21 ?_
    refine lv_bipush (v := 7) hx hb dX12_longer_24 (by decide) ?_
    obtain ⟨dk_9, hdk_9a, hdk_9b, edk_9⟩ := DI.n7 hDI
    refine va_iald hx hb hKW.1 hP 1 0 rfl rfl (show ¬ _ by decide) dX12_longer_26 ?_
    refine k_top (y := nI dk_9) edk_9 ?_
    refine lv_istore_n (lv' := [(2, .int (nI dk_9)), (0, .ref (z 0)), (1, .int (nI jl))]) hx hb dX12_longer_27 rfl hl (by decide) rfl (fun ls hl => ?_)
    refine lv_aload_n hx hb dX12_longer_28 rfl (lv_at hl 1 rfl) ?_
    refine va_get (ci := 12) (C := RX12) (T := TX12) (N := 20) hx hb hts inlX12 hown hKW.1 hP 0 rfl rfl 0 (by decide) (hts _ wd_6_5) (fun _ h => h) rfl dX12_longer_29 ?_
    refine lv_bipush (v := 7) hx hb dX12_longer_32 (by decide) ?_
    refine lv_iload_n hx hb dX12_longer_34 rfl (lv_at hl 2 rfl) ?_
    refine va_iast hx hb hKW.1 hP hD hS 1 0 rfl rfl (show ¬ _ by decide) dX12_longer_35 (fun H locs hP hD hS => ?_)
    have hP : va_P g.1 vwCl [(z 0, .inr (12, [.ref (z 1), .ref (z 2), .int (nI q_7), .int (xs 0), .ref (z 3), .ref (z 4), .ref (z 5), .ref (z 6), .int (xs 1), .ref (z 7), .ref (z 8), .ref (z 9), .ref (z 10), .ref (z 11), .ref (z 12), .int (xs 2), .ref (z 13), .ref (z 14), .int (xs 3), .ref (z 15)])), (z 1, .inl (gI g, 461, .inl (upd D 7 (nI jl)))), (z 2, .inl (gI g, 7376, .inl f_8))] H := hP
    have hD : va_D A [(z 0, .inr (12, [.ref (z 1), .ref (z 2), .int (nI q_7), .int (xs 0), .ref (z 3), .ref (z 4), .ref (z 5), .ref (z 6), .int (xs 1), .ref (z 7), .ref (z 8), .ref (z 9), .ref (z 10), .ref (z 11), .ref (z 12), .int (xs 2), .ref (z 13), .ref (z 14), .int (xs 3), .ref (z 15)])), (z 1, .inl (gI g, 461, .inl (upd D 7 (nI jl)))), (z 2, .inl (gI g, 7376, .inl f_8))] := hD
    obtain ⟨f_10, ef_10⟩ : ∃ zz_ : Nat → Int32, zz_ = upd D 7 (nI jl) := ⟨_, rfl⟩
    rw [← ef_10] at hP hD
    have dz_11 : f_10 7 = nI jl := by rw [ef_10, pk_us]
    have hDf_10 : DI f_10 := DI.upd (i := 7) (x := nI jl) hDI ef_10 (h0 := (fun q => absurd q (by omega))) (h1 := (fun q => absurd q (by omega))) (h2 := (fun q => absurd q (by omega))) (h5 := (fun q => absurd q (by omega))) (h6 := (fun q => absurd q (by omega))) (h7 := (fun _ => k_rgI (lo := 1) (hi := 60) (n := jl) (by decide) (by omega) (by omega))) (h10 := (fun q => absurd q (by omega))) (hf := (fun q q2 => False.elim (by omega))) (hn := (fun q q2 => False.elim (by omega))) (ht := (fun q q2 => False.elim (by omega))) (hl := (fun q q2 => False.elim (by omega))) (h8 := (by omega))
    refine lv_iload_n hx hb dX12_longer_36 rfl (lv_at hl 0 rfl) ?_
    exact k_iret (q_7, xs, f_10, f_8) [0, 1, 2] hx hb hr hlk hP hD hS (⟨hkk, hDf_10, hkW⟩) rfl rfl rfl (Nat.le_of_ble_eq_true rfl) (Nat.le_of_ble_eq_true rfl) dX12_longer_37
  · refine lv_if_ne (tgt := 16) hx hb dX12_longer_7 (by decide) (fun c => absurd c (by decide)) (fun _ => ?_)
    refine lv_aload_n hx hb dX12_longer_10 rfl (lv_at hl 0 rfl) ?_
    refine lv_iconst (v := 1) hx hb dX12_longer_11 (by decide) ?_
    refine k_Vi [0] [1, 2] 0 12 (wr := [(z 1, .inl (gI g, 461, .inl D)), (z 2, .inl (gI g, 7376, .inl Wk))]) hx hb hml hown hts hKW hP hD hS hA hl.1 (c_X12_finding_1 l g _ z kp xs ) rfl rfl rfl wd_10_15 wd_1_5 wd_10_12 wd_10_13 wd_10_14 yd_X12_finding ⟨(Nat.le_of_ble_eq_true rfl), (Nat.le_of_ble_eq_true rfl)⟩ rfl rfl rfl rfl (by decide) rfl (Nat.le_of_ble_eq_true rfl) dX12_longer_12 ⟨(Nat.le_of_ble_eq_true rfl), (Nat.le_of_ble_eq_true rfl)⟩ (fun r_12 u_13 H locs hw_14 hP hD hS => ?_)
    have hP : va_P g.1 vwCl [(z 1, .inl (gI g, 461, .inl D)), (z 2, .inl (gI g, 7376, .inl Wk)), (z 0, .inr (12, [.ref (z 1), .ref (z 2), .int (nI kp), .int u_13, .ref (z 3), .ref (z 4), .ref (z 5), .ref (z 6), .int (xs 1), .ref (z 7), .ref (z 8), .ref (z 9), .ref (z 10), .ref (z 11), .ref (z 12), .int (xs 2), .ref (z 13), .ref (z 14), .int (xs 3), .ref (z 15)]))] H := hP
    have hD : va_D A [(z 1, .inl (gI g, 461, .inl D)), (z 2, .inl (gI g, 7376, .inl Wk)), (z 0, .inr (12, [.ref (z 1), .ref (z 2), .int (nI kp), .int u_13, .ref (z 3), .ref (z 4), .ref (z 5), .ref (z 6), .int (xs 1), .ref (z 7), .ref (z 8), .ref (z 9), .ref (z 10), .ref (z 11), .ref (z 12), .int (xs 2), .ref (z 13), .ref (z 14), .int (xs 3), .ref (z 15)]))] := hD
    have hw_14 : r_12 = (-100001) := hw_14
    subst hw_14
    exact k_iret (kp, (fun kk_ => ([u_13, (xs 1), (xs 2), (xs 3)] : List Int32).getD kk_ 0), D, Wk) [2, 0, 1] hx hb hr hlk hP hD hS (⟨hkp, hDI, hWI⟩) rfl rfl rfl (Nat.le_of_ble_eq_true rfl) (Nat.le_of_ble_eq_true rfl) dX12_longer_15
theorem dX12_waits_0 : decode cX12_waits 0 = .ok (.aload_n 0, 1) := by decide +kernel
theorem dX12_waits_1 : decode cX12_waits 1 = .ok (.iload_n 1, 1) := by decide +kernel
theorem dX12_waits_2 : decode cX12_waits 2 = .ok (.invokevirtual 82, 3) := by decide +kernel
theorem dX12_waits_5 : decode cX12_waits 5 = .ok (.ifCond .ne 9, 3) := by decide +kernel
theorem dX12_waits_14 : decode cX12_waits 14 = .ok (.aload_n 0, 1) := by decide +kernel
theorem dX12_waits_15 : decode cX12_waits 15 = .ok (.getfield 7, 3) := by decide +kernel
theorem dX12_waits_18 : decode cX12_waits 18 = .ok (.bipush 117, 2) := by decide +kernel
theorem dX12_waits_20 : decode cX12_waits 20 = .ok (.iload_n 1, 1) := by decide +kernel
theorem dX12_waits_21 : decode cX12_waits 21 = .ok (.iadd, 1) := by decide +kernel
theorem dX12_waits_22 : decode cX12_waits 22 = .ok (.iaload, 1) := by decide +kernel
theorem dX12_waits_23 : decode cX12_waits 23 = .ok (.iconst 1, 1) := by decide +kernel
theorem dX12_waits_24 : decode cX12_waits 24 = .ok (.if_icmp .eq 11, 3) := by decide +kernel
theorem dX12_waits_35 : decode cX12_waits 35 = .ok (.aload_n 0, 1) := by decide +kernel
theorem dX12_waits_36 : decode cX12_waits 36 = .ok (.bipush 7, 2) := by decide +kernel
theorem dX12_waits_38 : decode cX12_waits 38 = .ok (.invokevirtual 68, 3) := by decide +kernel
theorem dX12_waits_41 : decode cX12_waits 41 = .ok (.ireturn, 1) := by decide +kernel
theorem dX12_waits_27 : decode cX12_waits 27 = .ok (.aload_n 0, 1) := by decide +kernel
theorem dX12_waits_28 : decode cX12_waits 28 = .ok (.iload_n 1, 1) := by decide +kernel
theorem dX12_waits_29 : decode cX12_waits 29 = .ok (.invokevirtual 171, 3) := by decide +kernel
theorem dX12_waits_32 : decode cX12_waits 32 = .ok (.ifCond .lt 10, 3) := by decide +kernel
theorem dX12_waits_42 : decode cX12_waits 42 = .ok (.aload_n 0, 1) := by decide +kernel
theorem dX12_waits_43 : decode cX12_waits 43 = .ok (.invokevirtual 72, 3) := by decide +kernel
theorem dX12_waits_46 : decode cX12_waits 46 = .ok (.aload_n 0, 1) := by decide +kernel
theorem dX12_waits_47 : decode cX12_waits 47 = .ok (.getfield 7, 3) := by decide +kernel
theorem dX12_waits_50 : decode cX12_waits 50 = .ok (.sipush 137, 3) := by decide +kernel
theorem dX12_waits_53 : decode cX12_waits 53 = .ok (.aload_n 0, 1) := by decide +kernel
theorem dX12_waits_54 : decode cX12_waits 54 = .ok (.getfield 7, 3) := by decide +kernel
theorem dX12_waits_57 : decode cX12_waits 57 = .ok (.bipush 8, 2) := by decide +kernel
theorem dX12_waits_59 : decode cX12_waits 59 = .ok (.iaload, 1) := by decide +kernel
theorem dX12_waits_60 : decode cX12_waits 60 = .ok (.iadd, 1) := by decide +kernel
theorem dX12_waits_61 : decode cX12_waits 61 = .ok (.iload_n 1, 1) := by decide +kernel
theorem dX12_waits_62 : decode cX12_waits 62 = .ok (.iastore, 1) := by decide +kernel
theorem dX12_waits_63 : decode cX12_waits 63 = .ok (.aload_n 0, 1) := by decide +kernel
theorem dX12_waits_64 : decode cX12_waits 64 = .ok (.getfield 7, 3) := by decide +kernel
theorem dX12_waits_67 : decode cX12_waits 67 = .ok (.bipush 8, 2) := by decide +kernel
theorem dX12_waits_69 : decode cX12_waits 69 = .ok (.dup2, 1) := by decide +kernel
theorem dX12_waits_70 : decode cX12_waits 70 = .ok (.iaload, 1) := by decide +kernel
theorem dX12_waits_71 : decode cX12_waits 71 = .ok (.iconst 1, 1) := by decide +kernel
theorem dX12_waits_72 : decode cX12_waits 72 = .ok (.iadd, 1) := by decide +kernel
theorem dX12_waits_73 : decode cX12_waits 73 = .ok (.iastore, 1) := by decide +kernel
theorem dX12_waits_74 : decode cX12_waits 74 = .ok (.aload_n 0, 1) := by decide +kernel
theorem dX12_waits_75 : decode cX12_waits 75 = .ok (.getfield 7, 3) := by decide +kernel
theorem dX12_waits_78 : decode cX12_waits 78 = .ok (.bipush 8, 2) := by decide +kernel
theorem dX12_waits_80 : decode cX12_waits 80 = .ok (.iaload, 1) := by decide +kernel
theorem dX12_waits_81 : decode cX12_waits 81 = .ok (.ireturn, 1) := by decide +kernel
theorem dX12_waits_8 : decode cX12_waits 8 = .ok (.aload_n 0, 1) := by decide +kernel
theorem dX12_waits_9 : decode cX12_waits 9 = .ok (.iconst 1, 1) := by decide +kernel
theorem dX12_waits_10 : decode cX12_waits 10 = .ok (.invokevirtual 68, 3) := by decide +kernel
theorem dX12_waits_13 : decode cX12_waits 13 = .ok (.ireturn, 1) := by decide +kernel
set_option maxHeartbeats 8000000 in
set_option maxRecDepth 100000 in
theorem c_X12_waits (l : Launch) (g : kG) (sz : Nat) (z : Nat → Nat) (kp : Nat) (xs : Nat → Int32) (D : Nat → Int32) (Wk : Nat → Int32) (x : Int32) (hDI : DI D) (hkp : kp ≤ 16) (hWI : WI Wk kp) : kMi l g yX12_waits cX12_waits 2 (some .int) 4 0 0 [.ref (z 0), .int x] sz [(z 0, .inr (12, [.ref (z 1), .ref (z 2), .int (nI kp), .int (xs 0), .ref (z 3), .ref (z 4), .ref (z 5), .ref (z 6), .int (xs 1), .ref (z 7), .ref (z 8), .ref (z 9), .ref (z 10), .ref (z 11), .ref (z 12), .int (xs 2), .ref (z 13), .ref (z 14), .int (xs 3), .ref (z 15)])), (z 1, .inl (gI g, 461, .inl D)), (z 2, .inl (gI g, 7376, .inl Wk))] (fun (r : Int32) (u : Nat × (Nat → Int32) × (Nat → Int32) × (Nat → Int32)) => u.1 ≤ 16 ∧ DI u.2.2.1 ∧ WI u.2.2.2 u.1) (fun (u : Nat × (Nat → Int32) × (Nat → Int32) × (Nat → Int32)) => ([(z 0, .inr (12, [.ref (z 1), .ref (z 2), .int (nI u.1), .int (u.2.1 0), .ref (z 3), .ref (z 4), .ref (z 5), .ref (z 6), .int (u.2.1 1), .ref (z 7), .ref (z 8), .ref (z 9), .ref (z 10), .ref (z 11), .ref (z 12), .int (u.2.1 2), .ref (z 13), .ref (z 14), .int (u.2.1 3), .ref (z 15)])), (z 1, .inl (gI g, 461, .inl u.2.2.1)), (z 2, .inl (gI g, 7376, .inl u.2.2.2))] : va_W)) := by
  refine kMi.of (by decide) (Nat.le_of_ble_eq_true rfl) (fun p e s m below meth c A hx hb hr hml hown hts hlk hnm hKW hP hD hS hA ls hl => ?_)
  have hown : s.vm.findClass RX12 = some m.cls := hown
  have hl : lv_has ls 2 [(0, .ref (z 0)), (1, .int x)] := hl
  refine k_hide hP hS (fun H locs hP hS => ?_)
  refine lv_aload_n hx hb dX12_waits_0 rfl (lv_at hl 0 rfl) ?_
  refine lv_iload_n hx hb dX12_waits_1 rfl (lv_at hl 1 rfl) ?_
  refine k_Vi [0, 1] [2] 0 12 (wr := [(z 2, .inl (gI g, 7376, .inl Wk))]) hx hb hml hown hts hKW hP hD hS hA hl.1 (c_X12_isChild l g _ z kp xs D x (by first | assumption | omega | decide)) rfl rfl rfl wd_13_19 wd_1_5 wd_13_16 wd_13_17 wd_13_18 yd_X12_isChild ⟨(Nat.le_of_ble_eq_true rfl), (Nat.le_of_ble_eq_true rfl)⟩ rfl rfl rfl rfl (by decide) rfl (Nat.le_of_ble_eq_true rfl) dX12_waits_2 ⟨(Nat.le_of_ble_eq_true rfl), (Nat.le_of_ble_eq_true rfl)⟩ (fun r_1 u_2 H locs hw_3 hP hD hS => ?_)
  have hP : va_P g.1 vwCl [(z 2, .inl (gI g, 7376, .inl Wk)), (z 0, .inr (12, [.ref (z 1), .ref (z 2), .int (nI kp), .int (xs 0), .ref (z 3), .ref (z 4), .ref (z 5), .ref (z 6), .int (xs 1), .ref (z 7), .ref (z 8), .ref (z 9), .ref (z 10), .ref (z 11), .ref (z 12), .int (xs 2), .ref (z 13), .ref (z 14), .int (xs 3), .ref (z 15)])), (z 1, .inl (gI g, 461, .inl D))] H := hP
  have hD : va_D A [(z 2, .inl (gI g, 7376, .inl Wk)), (z 0, .inr (12, [.ref (z 1), .ref (z 2), .int (nI kp), .int (xs 0), .ref (z 3), .ref (z 4), .ref (z 5), .ref (z 6), .int (xs 1), .ref (z 7), .ref (z 8), .ref (z 9), .ref (z 10), .ref (z 11), .ref (z 12), .int (xs 2), .ref (z 13), .ref (z 14), .int (xs 3), .ref (z 15)])), (z 1, .inl (gI g, 461, .inl D))] := hD
  rcases (show (r_1 = 1 ∧ (∃ j : Nat, (j < 10 ∧ (j : Int) < (D 2).toInt) ∧ x = nI j)) ∨ (r_1 = 0 ∧ ¬ (∃ j : Nat, (j < 10 ∧ (j : Int) < (D 2).toInt) ∧ x = nI j)) from hw_3) with ⟨rfl, hw_3b⟩ | ⟨rfl, hw_3b⟩ <;> clear hw_3
  · obtain ⟨j_4, hj_4, rfl⟩ := hw_3b
    refine lv_if_ne (tgt := 14) hx hb dX12_waits_5 (by decide) (fun _ => ?_) (fun c => absurd c (by decide))
    refine lv_aload_n hx hb dX12_waits_14 rfl (lv_at hl 0 rfl) ?_
    refine va_get (ci := 12) (C := RX12) (T := TX12) (N := 20) hx hb hts inlX12 hown hKW.1 hP 1 rfl rfl 0 (by decide) (hts _ wd_6_5) (fun _ h => h) rfl dX12_waits_15 ?_
    refine lv_bipush (v := 117) hx hb dX12_waits_18 (by decide) ?_
    refine lv_iload_n hx hb dX12_waits_20 rfl (lv_at hl 1 rfl) ?_
    refine lv_iadd hx hb dX12_waits_21 ?_
    refine k_top (y := nI (j_4 + 117)) (by rw [Nat.add_comm]; exact nI_add 117 j_4) ?_
    refine va_iald hx hb hKW.1 hP 2 0 rfl rfl (vp_in_nI (by omega) (by decide)) dX12_waits_22 ?_
    refine lv_topi (fun x_5 ex_5 => ?_)
    refine lv_iconst (v := 1) hx hb dX12_waits_23 (by decide) ?_
    refine lv_icmp_eq (tgt := 35) hx hb dX12_waits_24 (by decide) (fun c_6 => ?_) (fun c_6 => ?_)
    · refine lv_aload_n hx hb dX12_waits_35 rfl (lv_at hl 0 rfl) ?_
      refine lv_bipush (v := 7) hx hb dX12_waits_36 (by decide) ?_
      refine k_Vi [1] [0, 2] 1 12 (wr := [(z 2, .inl (gI g, 7376, .inl Wk)), (z 1, .inl (gI g, 461, .inl D))]) hx hb hml hown hts hKW hP hD hS hA hl.1 (c_X12_finding_7 l g _ z kp xs ) rfl rfl rfl wd_10_15 wd_1_5 wd_10_12 wd_10_13 wd_10_14 yd_X12_finding ⟨(Nat.le_of_ble_eq_true rfl), (Nat.le_of_ble_eq_true rfl)⟩ rfl rfl rfl rfl (by decide) rfl (Nat.le_of_ble_eq_true rfl) dX12_waits_38 ⟨(Nat.le_of_ble_eq_true rfl), (Nat.le_of_ble_eq_true rfl)⟩ (fun r_7 u_8 H locs hw_9 hP hD hS => ?_)
      have hP : va_P g.1 vwCl [(z 2, .inl (gI g, 7376, .inl Wk)), (z 1, .inl (gI g, 461, .inl D)), (z 0, .inr (12, [.ref (z 1), .ref (z 2), .int (nI kp), .int u_8, .ref (z 3), .ref (z 4), .ref (z 5), .ref (z 6), .int (xs 1), .ref (z 7), .ref (z 8), .ref (z 9), .ref (z 10), .ref (z 11), .ref (z 12), .int (xs 2), .ref (z 13), .ref (z 14), .int (xs 3), .ref (z 15)]))] H := hP
      have hD : va_D A [(z 2, .inl (gI g, 7376, .inl Wk)), (z 1, .inl (gI g, 461, .inl D)), (z 0, .inr (12, [.ref (z 1), .ref (z 2), .int (nI kp), .int u_8, .ref (z 3), .ref (z 4), .ref (z 5), .ref (z 6), .int (xs 1), .ref (z 7), .ref (z 8), .ref (z 9), .ref (z 10), .ref (z 11), .ref (z 12), .int (xs 2), .ref (z 13), .ref (z 14), .int (xs 3), .ref (z 15)]))] := hD
      have hw_9 : r_7 = (-100007) := hw_9
      subst hw_9
      exact k_iret (kp, (fun kk_ => ([u_8, (xs 1), (xs 2), (xs 3)] : List Int32).getD kk_ 0), D, Wk) [2, 1, 0] hx hb hr hlk hP hD hS (⟨hkp, hDI, hWI⟩) rfl rfl rfl (Nat.le_of_ble_eq_true rfl) (Nat.le_of_ble_eq_true rfl) dX12_waits_41
    · refine lv_aload_n hx hb dX12_waits_27 rfl (lv_at hl 0 rfl) ?_
      refine lv_iload_n hx hb dX12_waits_28 rfl (lv_at hl 1 rfl) ?_
      refine k_Vi [1, 2] [0] 1 12 (wr := [(z 2, .inl (gI g, 7376, .inl Wk))]) hx hb hml hown hts hKW hP hD hS hA hl.1 (c_X12_listed l g _ z kp xs D (nI j_4) (by first | assumption | omega | decide)) rfl rfl rfl wd_39_11 wd_1_5 wd_39_8 wd_39_9 wd_39_10 yd_X12_listed ⟨(Nat.le_of_ble_eq_true rfl), (Nat.le_of_ble_eq_true rfl)⟩ rfl rfl rfl rfl (by decide) rfl (Nat.le_of_ble_eq_true rfl) dX12_waits_29 ⟨(Nat.le_of_ble_eq_true rfl), (Nat.le_of_ble_eq_true rfl)⟩ (fun r_10 u_11 H locs hw_12 hP hD hS => ?_)
      have hP : va_P g.1 vwCl [(z 2, .inl (gI g, 7376, .inl Wk)), (z 0, .inr (12, [.ref (z 1), .ref (z 2), .int (nI kp), .int (xs 0), .ref (z 3), .ref (z 4), .ref (z 5), .ref (z 6), .int (xs 1), .ref (z 7), .ref (z 8), .ref (z 9), .ref (z 10), .ref (z 11), .ref (z 12), .int (xs 2), .ref (z 13), .ref (z 14), .int (xs 3), .ref (z 15)])), (z 1, .inl (gI g, 461, .inl D))] H := hP
      have hD : va_D A [(z 2, .inl (gI g, 7376, .inl Wk)), (z 0, .inr (12, [.ref (z 1), .ref (z 2), .int (nI kp), .int (xs 0), .ref (z 3), .ref (z 4), .ref (z 5), .ref (z 6), .int (xs 1), .ref (z 7), .ref (z 8), .ref (z 9), .ref (z 10), .ref (z 11), .ref (z 12), .int (xs 2), .ref (z 13), .ref (z 14), .int (xs 3), .ref (z 15)])), (z 1, .inl (gI g, 461, .inl D))] := hD
      have hw_12 : (r_10 = -1 ∧ ∀ k : Nat, (k : Int) < (D 8).toInt → ¬ D (137 + k) = (nI j_4)) ∨ ∃ k : Nat, (k : Int) < (D 8).toInt ∧ r_10 = nI k := hw_12
      refine lv_if_lt (tgt := 42) hx hb dX12_waits_32 (by decide) (fun c_13 => ?_) (fun c_13 => ?_)
      · have hnl := k_nlis hDI hw_12 c_13
        refine lv_aload_n hx hb dX12_waits_42 rfl (lv_at hl 0 rfl) ?_
        refine k_Vv [1, 2, 0] [] 1 12 (wr := []) hx hb hml hown hts hKW hP hD hS hA hl.1 (c_X12_keep l g _ z kp xs D Wk (by first | assumption | omega | decide) (by first | assumption | omega | decide) (by first | assumption | omega | decide)) rfl rfl rfl wd_10_21 wd_1_5 wd_10_18 wd_10_19 wd_10_20 yd_X12_keep ⟨(Nat.le_of_ble_eq_true rfl), (Nat.le_of_ble_eq_true rfl)⟩ rfl rfl rfl rfl (by decide) rfl (Nat.le_of_ble_eq_true rfl) dX12_waits_43 ⟨(Nat.le_of_ble_eq_true rfl), (Nat.le_of_ble_eq_true rfl)⟩ (fun u_15 H locs hw_16 hP hD hS => ?_)
        obtain ⟨q_17, f_18⟩ := u_15
        have hP : va_P g.1 vwCl [(z 0, .inr (12, [.ref (z 1), .ref (z 2), .int (nI q_17), .int (xs 0), .ref (z 3), .ref (z 4), .ref (z 5), .ref (z 6), .int (xs 1), .ref (z 7), .ref (z 8), .ref (z 9), .ref (z 10), .ref (z 11), .ref (z 12), .int (xs 2), .ref (z 13), .ref (z 14), .int (xs 3), .ref (z 15)])), (z 1, .inl (gI g, 461, .inl D)), (z 2, .inl (gI g, 7376, .inl f_18))] H := hP
        have hD : va_D A [(z 0, .inr (12, [.ref (z 1), .ref (z 2), .int (nI q_17), .int (xs 0), .ref (z 3), .ref (z 4), .ref (z 5), .ref (z 6), .int (xs 1), .ref (z 7), .ref (z 8), .ref (z 9), .ref (z 10), .ref (z 11), .ref (z 12), .int (xs 2), .ref (z 13), .ref (z 14), .int (xs 3), .ref (z 15)])), (z 1, .inl (gI g, 461, .inl D)), (z 2, .inl (gI g, 7376, .inl f_18))] := hD
        have hw_16 : q_17 ≤ 16 ∧ WI f_18 q_17 := hw_16
        obtain ⟨hkk, hkW⟩ := hw_16
        refine lv_aload_n hx hb dX12_waits_46 rfl (lv_at hl 0 rfl) ?_
        refine va_get (ci := 12) (C := RX12) (T := TX12) (N := 20) hx hb hts inlX12 hown hKW.1 hP 0 rfl rfl 0 (by decide) (hts _ wd_6_5) (fun _ h => h) rfl dX12_waits_47 ?_
        refine lv_sipush (v := 137) hx hb dX12_waits_50 (by decide) ?_
        refine lv_aload_n hx hb dX12_waits_53 rfl (lv_at hl 0 rfl) ?_
        refine va_get (ci := 12) (C := RX12) (T := TX12) (N := 20) hx hb hts inlX12 hown hKW.1 hP 0 rfl rfl 0 (by decide) (hts _ wd_6_5) (fun _ h => h) rfl dX12_waits_54 ?_
        refine lv_bipush (v := 8) hx hb dX12_waits_57 (by decide) ?_
        obtain ⟨dk_19, hdk_19a, hdk_19b, edk_19⟩ := DI.n8 hDI
        refine va_iald hx hb hKW.1 hP 1 0 rfl rfl (show ¬ _ by decide) dX12_waits_59 ?_
        refine k_top (y := nI dk_19) edk_19 ?_
        have h9 : dk_19 < 10 := DI.room hDI edk_19 (by omega) hj_4.2 hnl
        refine lv_iadd hx hb dX12_waits_60 ?_
        refine k_top (y := nI (dk_19 + 137)) (by rw [Nat.add_comm]; exact nI_add 137 dk_19) ?_
        refine lv_iload_n hx hb dX12_waits_61 rfl (lv_at hl 1 rfl) ?_
        refine va_iast hx hb hKW.1 hP hD hS 1 0 rfl rfl (vp_in_nI (by omega) (by decide)) dX12_waits_62 (fun H locs hP hD hS => ?_)
        have hP : va_P g.1 vwCl [(z 0, .inr (12, [.ref (z 1), .ref (z 2), .int (nI q_17), .int (xs 0), .ref (z 3), .ref (z 4), .ref (z 5), .ref (z 6), .int (xs 1), .ref (z 7), .ref (z 8), .ref (z 9), .ref (z 10), .ref (z 11), .ref (z 12), .int (xs 2), .ref (z 13), .ref (z 14), .int (xs 3), .ref (z 15)])), (z 1, .inl (gI g, 461, .inl (upd D (nI (dk_19 + 137)).toNatClampNeg (nI j_4)))), (z 2, .inl (gI g, 7376, .inl f_18))] H := hP
        have hD : va_D A [(z 0, .inr (12, [.ref (z 1), .ref (z 2), .int (nI q_17), .int (xs 0), .ref (z 3), .ref (z 4), .ref (z 5), .ref (z 6), .int (xs 1), .ref (z 7), .ref (z 8), .ref (z 9), .ref (z 10), .ref (z 11), .ref (z 12), .int (xs 2), .ref (z 13), .ref (z 14), .int (xs 3), .ref (z 15)])), (z 1, .inl (gI g, 461, .inl (upd D (nI (dk_19 + 137)).toNatClampNeg (nI j_4)))), (z 2, .inl (gI g, 7376, .inl f_18))] := hD
        obtain ⟨f_20, ef_20⟩ : ∃ zz_ : Nat → Int32, zz_ = upd D (nI (dk_19 + 137)).toNatClampNeg (nI j_4) := ⟨_, rfl⟩
        rw [← ef_20] at hP hD
        have dz_21 : f_20 8 = nI dk_19 := by rw [ef_20, nI_clamp (by omega), pk_un (by omega)]; exact edk_19
        refine lv_aload_n hx hb dX12_waits_63 rfl (lv_at hl 0 rfl) ?_
        refine va_get (ci := 12) (C := RX12) (T := TX12) (N := 20) hx hb hts inlX12 hown hKW.1 hP 0 rfl rfl 0 (by decide) (hts _ wd_6_5) (fun _ h => h) rfl dX12_waits_64 ?_
        refine lv_bipush (v := 8) hx hb dX12_waits_67 (by decide) ?_
        refine lv_dup2_11 hx hb dX12_waits_69 rfl rfl ?_
        refine va_iald hx hb hKW.1 hP 1 0 rfl rfl (show ¬ _ by decide) dX12_waits_70 ?_
        refine k_top (y := nI dk_19) dz_21 ?_
        refine lv_iconst (v := 1) hx hb dX12_waits_71 (by decide) ?_
        refine lv_iadd hx hb dX12_waits_72 ?_
        refine k_top (y := nI (dk_19 + 1)) (nI_add dk_19 1) ?_
        refine va_iast hx hb hKW.1 hP hD hS 1 0 rfl rfl (show ¬ _ by decide) dX12_waits_73 (fun H locs hP hD hS => ?_)
        have hP : va_P g.1 vwCl [(z 0, .inr (12, [.ref (z 1), .ref (z 2), .int (nI q_17), .int (xs 0), .ref (z 3), .ref (z 4), .ref (z 5), .ref (z 6), .int (xs 1), .ref (z 7), .ref (z 8), .ref (z 9), .ref (z 10), .ref (z 11), .ref (z 12), .int (xs 2), .ref (z 13), .ref (z 14), .int (xs 3), .ref (z 15)])), (z 1, .inl (gI g, 461, .inl (upd f_20 8 (nI (dk_19 + 1))))), (z 2, .inl (gI g, 7376, .inl f_18))] H := hP
        have hD : va_D A [(z 0, .inr (12, [.ref (z 1), .ref (z 2), .int (nI q_17), .int (xs 0), .ref (z 3), .ref (z 4), .ref (z 5), .ref (z 6), .int (xs 1), .ref (z 7), .ref (z 8), .ref (z 9), .ref (z 10), .ref (z 11), .ref (z 12), .int (xs 2), .ref (z 13), .ref (z 14), .int (xs 3), .ref (z 15)])), (z 1, .inl (gI g, 461, .inl (upd f_20 8 (nI (dk_19 + 1))))), (z 2, .inl (gI g, 7376, .inl f_18))] := hD
        obtain ⟨f_22, ef_22⟩ : ∃ zz_ : Nat → Int32, zz_ = upd f_20 8 (nI (dk_19 + 1)) := ⟨_, rfl⟩
        rw [← ef_22] at hP hD
        have dz_23 : f_22 8 = nI (dk_19 + 1) := by rw [ef_22, pk_us]
        have hDf_22 : DI f_22 := k_diWait hDI ef_20 ef_22 edk_19 h9 hj_4.2 hnl
        refine lv_aload_n hx hb dX12_waits_74 rfl (lv_at hl 0 rfl) ?_
        refine va_get (ci := 12) (C := RX12) (T := TX12) (N := 20) hx hb hts inlX12 hown hKW.1 hP 0 rfl rfl 0 (by decide) (hts _ wd_6_5) (fun _ h => h) rfl dX12_waits_75 ?_
        refine lv_bipush (v := 8) hx hb dX12_waits_78 (by decide) ?_
        refine va_iald hx hb hKW.1 hP 1 0 rfl rfl (show ¬ _ by decide) dX12_waits_80 ?_
        refine k_top (y := nI (dk_19 + 1)) dz_23 ?_
        exact k_iret (q_17, xs, f_22, f_18) [0, 1, 2] hx hb hr hlk hP hD hS (⟨hkk, hDf_22, hkW⟩) rfl rfl rfl (Nat.le_of_ble_eq_true rfl) (Nat.le_of_ble_eq_true rfl) dX12_waits_81
      · refine lv_aload_n hx hb dX12_waits_35 rfl (lv_at hl 0 rfl) ?_
        refine lv_bipush (v := 7) hx hb dX12_waits_36 (by decide) ?_
        refine k_Vi [1] [0, 2] 1 12 (wr := [(z 2, .inl (gI g, 7376, .inl Wk)), (z 1, .inl (gI g, 461, .inl D))]) hx hb hml hown hts hKW hP hD hS hA hl.1 (c_X12_finding_7 l g _ z kp xs ) rfl rfl rfl wd_10_15 wd_1_5 wd_10_12 wd_10_13 wd_10_14 yd_X12_finding ⟨(Nat.le_of_ble_eq_true rfl), (Nat.le_of_ble_eq_true rfl)⟩ rfl rfl rfl rfl (by decide) rfl (Nat.le_of_ble_eq_true rfl) dX12_waits_38 ⟨(Nat.le_of_ble_eq_true rfl), (Nat.le_of_ble_eq_true rfl)⟩ (fun r_24 u_25 H locs hw_26 hP hD hS => ?_)
        have hP : va_P g.1 vwCl [(z 2, .inl (gI g, 7376, .inl Wk)), (z 1, .inl (gI g, 461, .inl D)), (z 0, .inr (12, [.ref (z 1), .ref (z 2), .int (nI kp), .int u_25, .ref (z 3), .ref (z 4), .ref (z 5), .ref (z 6), .int (xs 1), .ref (z 7), .ref (z 8), .ref (z 9), .ref (z 10), .ref (z 11), .ref (z 12), .int (xs 2), .ref (z 13), .ref (z 14), .int (xs 3), .ref (z 15)]))] H := hP
        have hD : va_D A [(z 2, .inl (gI g, 7376, .inl Wk)), (z 1, .inl (gI g, 461, .inl D)), (z 0, .inr (12, [.ref (z 1), .ref (z 2), .int (nI kp), .int u_25, .ref (z 3), .ref (z 4), .ref (z 5), .ref (z 6), .int (xs 1), .ref (z 7), .ref (z 8), .ref (z 9), .ref (z 10), .ref (z 11), .ref (z 12), .int (xs 2), .ref (z 13), .ref (z 14), .int (xs 3), .ref (z 15)]))] := hD
        have hw_26 : r_24 = (-100007) := hw_26
        subst hw_26
        exact k_iret (kp, (fun kk_ => ([u_25, (xs 1), (xs 2), (xs 3)] : List Int32).getD kk_ 0), D, Wk) [2, 1, 0] hx hb hr hlk hP hD hS (⟨hkp, hDI, hWI⟩) rfl rfl rfl (Nat.le_of_ble_eq_true rfl) (Nat.le_of_ble_eq_true rfl) dX12_waits_41
  · refine lv_if_ne (tgt := 14) hx hb dX12_waits_5 (by decide) (fun c => absurd c (by decide)) (fun _ => ?_)
    refine lv_aload_n hx hb dX12_waits_8 rfl (lv_at hl 0 rfl) ?_
    refine lv_iconst (v := 1) hx hb dX12_waits_9 (by decide) ?_
    refine k_Vi [1] [0, 2] 1 12 (wr := [(z 2, .inl (gI g, 7376, .inl Wk)), (z 1, .inl (gI g, 461, .inl D))]) hx hb hml hown hts hKW hP hD hS hA hl.1 (c_X12_finding_1 l g _ z kp xs ) rfl rfl rfl wd_10_15 wd_1_5 wd_10_12 wd_10_13 wd_10_14 yd_X12_finding ⟨(Nat.le_of_ble_eq_true rfl), (Nat.le_of_ble_eq_true rfl)⟩ rfl rfl rfl rfl (by decide) rfl (Nat.le_of_ble_eq_true rfl) dX12_waits_10 ⟨(Nat.le_of_ble_eq_true rfl), (Nat.le_of_ble_eq_true rfl)⟩ (fun r_27 u_28 H locs hw_29 hP hD hS => ?_)
    have hP : va_P g.1 vwCl [(z 2, .inl (gI g, 7376, .inl Wk)), (z 1, .inl (gI g, 461, .inl D)), (z 0, .inr (12, [.ref (z 1), .ref (z 2), .int (nI kp), .int u_28, .ref (z 3), .ref (z 4), .ref (z 5), .ref (z 6), .int (xs 1), .ref (z 7), .ref (z 8), .ref (z 9), .ref (z 10), .ref (z 11), .ref (z 12), .int (xs 2), .ref (z 13), .ref (z 14), .int (xs 3), .ref (z 15)]))] H := hP
    have hD : va_D A [(z 2, .inl (gI g, 7376, .inl Wk)), (z 1, .inl (gI g, 461, .inl D)), (z 0, .inr (12, [.ref (z 1), .ref (z 2), .int (nI kp), .int u_28, .ref (z 3), .ref (z 4), .ref (z 5), .ref (z 6), .int (xs 1), .ref (z 7), .ref (z 8), .ref (z 9), .ref (z 10), .ref (z 11), .ref (z 12), .int (xs 2), .ref (z 13), .ref (z 14), .int (xs 3), .ref (z 15)]))] := hD
    have hw_29 : r_27 = (-100001) := hw_29
    subst hw_29
    exact k_iret (kp, (fun kk_ => ([u_28, (xs 1), (xs 2), (xs 3)] : List Int32).getD kk_ 0), D, Wk) [2, 1, 0] hx hb hr hlk hP hD hS (⟨hkp, hDI, hWI⟩) rfl rfl rfl (Nat.le_of_ble_eq_true rfl) (Nat.le_of_ble_eq_true rfl) dX12_waits_13
