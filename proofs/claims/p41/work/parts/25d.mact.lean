theorem dX12_admit_0 : decode cX12_admit 0 = .ok (.aload_n 0, 1) := by decide +kernel
theorem dX12_admit_1 : decode cX12_admit 1 = .ok (.iload_n 1, 1) := by decide +kernel
theorem dX12_admit_2 : decode cX12_admit 2 = .ok (.invokevirtual 82, 3) := by decide +kernel
theorem dX12_admit_5 : decode cX12_admit 5 = .ok (.ifCond .ne 9, 3) := by decide +kernel
theorem dX12_admit_14 : decode cX12_admit 14 = .ok (.aload_n 0, 1) := by decide +kernel
theorem dX12_admit_15 : decode cX12_admit 15 = .ok (.getfield 7, 3) := by decide +kernel
theorem dX12_admit_18 : decode cX12_admit 18 = .ok (.bipush 117, 2) := by decide +kernel
theorem dX12_admit_20 : decode cX12_admit 20 = .ok (.iload_n 1, 1) := by decide +kernel
theorem dX12_admit_21 : decode cX12_admit 21 = .ok (.iadd, 1) := by decide +kernel
theorem dX12_admit_22 : decode cX12_admit 22 = .ok (.iaload, 1) := by decide +kernel
theorem dX12_admit_23 : decode cX12_admit 23 = .ok (.iconst 1, 1) := by decide +kernel
theorem dX12_admit_24 : decode cX12_admit 24 = .ok (.if_icmp .ne 10, 3) := by decide +kernel
theorem dX12_admit_34 : decode cX12_admit 34 = .ok (.aload_n 0, 1) := by decide +kernel
theorem dX12_admit_35 : decode cX12_admit 35 = .ok (.iload_n 1, 1) := by decide +kernel
theorem dX12_admit_36 : decode cX12_admit 36 = .ok (.invokevirtual 187, 3) := by decide +kernel
theorem dX12_admit_39 : decode cX12_admit 39 = .ok (.istore_n 2, 1) := by decide +kernel
theorem dX12_admit_40 : decode cX12_admit 40 = .ok (.iload_n 2, 1) := by decide +kernel
theorem dX12_admit_41 : decode cX12_admit 41 = .ok (.ifCond .ge 10, 3) := by decide +kernel
theorem dX12_admit_51 : decode cX12_admit 51 = .ok (.aload_n 0, 1) := by decide +kernel
theorem dX12_admit_52 : decode cX12_admit 52 = .ok (.invokevirtual 72, 3) := by decide +kernel
theorem dX12_admit_55 : decode cX12_admit 55 = .ok (.aload_n 0, 1) := by decide +kernel
theorem dX12_admit_56 : decode cX12_admit 56 = .ok (.iload_n 1, 1) := by decide +kernel
theorem dX12_admit_57 : decode cX12_admit 57 = .ok (.invokevirtual 171, 3) := by decide +kernel
theorem dX12_admit_60 : decode cX12_admit 60 = .ok (.istore_n 3, 1) := by decide +kernel
theorem dX12_admit_61 : decode cX12_admit 61 = .ok (.iload_n 3, 1) := by decide +kernel
theorem dX12_admit_62 : decode cX12_admit 62 = .ok (.ifCond .lt 59, 3) := by decide +kernel
theorem dX12_admit_121 : decode cX12_admit 121 = .ok (.aload_n 0, 1) := by decide +kernel
theorem dX12_admit_122 : decode cX12_admit 122 = .ok (.getfield 7, 3) := by decide +kernel
theorem dX12_admit_125 : decode cX12_admit 125 = .ok (.bipush 117, 2) := by decide +kernel
theorem dX12_admit_127 : decode cX12_admit 127 = .ok (.iload_n 1, 1) := by decide +kernel
theorem dX12_admit_128 : decode cX12_admit 128 = .ok (.iadd, 1) := by decide +kernel
theorem dX12_admit_129 : decode cX12_admit 129 = .ok (.iconst 1, 1) := by decide +kernel
theorem dX12_admit_130 : decode cX12_admit 130 = .ok (.iastore, 1) := by decide +kernel
theorem dX12_admit_131 : decode cX12_admit 131 = .ok (.aload_n 0, 1) := by decide +kernel
theorem dX12_admit_132 : decode cX12_admit 132 = .ok (.getfield 7, 3) := by decide +kernel
theorem dX12_admit_135 : decode cX12_admit 135 = .ok (.bipush 77, 2) := by decide +kernel
theorem dX12_admit_137 : decode cX12_admit 137 = .ok (.iload_n 1, 1) := by decide +kernel
theorem dX12_admit_138 : decode cX12_admit 138 = .ok (.iadd, 1) := by decide +kernel
theorem dX12_admit_139 : decode cX12_admit 139 = .ok (.iload_n 2, 1) := by decide +kernel
theorem dX12_admit_140 : decode cX12_admit 140 = .ok (.iastore, 1) := by decide +kernel
theorem dX12_admit_141 : decode cX12_admit 141 = .ok (.iload_n 2, 1) := by decide +kernel
theorem dX12_admit_142 : decode cX12_admit 142 = .ok (.ireturn, 1) := by decide +kernel
theorem dX12_admit_65 : decode cX12_admit 65 = .ok (.aload_n 0, 1) := by decide +kernel
theorem dX12_admit_66 : decode cX12_admit 66 = .ok (.getfield 7, 3) := by decide +kernel
theorem dX12_admit_69 : decode cX12_admit 69 = .ok (.bipush 8, 2) := by decide +kernel
theorem dX12_admit_71 : decode cX12_admit 71 = .ok (.dup2, 1) := by decide +kernel
theorem dX12_admit_72 : decode cX12_admit 72 = .ok (.iaload, 1) := by decide +kernel
theorem dX12_admit_73 : decode cX12_admit 73 = .ok (.iconst 1, 1) := by decide +kernel
theorem dX12_admit_74 : decode cX12_admit 74 = .ok (.isub, 1) := by decide +kernel
theorem dX12_admit_75 : decode cX12_admit 75 = .ok (.iastore, 1) := by decide +kernel
theorem dX12_admit_76 : decode cX12_admit 76 = .ok (.iload_n 3, 1) := by decide +kernel
theorem dX12_admit_77 : decode cX12_admit 77 = .ok (.istore 4, 2) := by decide +kernel
theorem dX12_admit_79 : decode cX12_admit 79 = .ok (.iload 4, 2) := by decide +kernel
theorem dX12_admit_81 : decode cX12_admit 81 = .ok (.aload_n 0, 1) := by decide +kernel
theorem dX12_admit_82 : decode cX12_admit 82 = .ok (.getfield 7, 3) := by decide +kernel
theorem dX12_admit_85 : decode cX12_admit 85 = .ok (.bipush 8, 2) := by decide +kernel
theorem dX12_admit_87 : decode cX12_admit 87 = .ok (.iaload, 1) := by decide +kernel
theorem dX12_admit_88 : decode cX12_admit 88 = .ok (.if_icmp .ge 33, 3) := by decide +kernel
theorem dX12_admit_91 : decode cX12_admit 91 = .ok (.aload_n 0, 1) := by decide +kernel
theorem dX12_admit_92 : decode cX12_admit 92 = .ok (.getfield 7, 3) := by decide +kernel
theorem dX12_admit_95 : decode cX12_admit 95 = .ok (.sipush 137, 3) := by decide +kernel
theorem dX12_admit_98 : decode cX12_admit 98 = .ok (.iload 4, 2) := by decide +kernel
theorem dX12_admit_100 : decode cX12_admit 100 = .ok (.iadd, 1) := by decide +kernel
theorem dX12_admit_101 : decode cX12_admit 101 = .ok (.aload_n 0, 1) := by decide +kernel
theorem dX12_admit_102 : decode cX12_admit 102 = .ok (.getfield 7, 3) := by decide +kernel
theorem dX12_admit_105 : decode cX12_admit 105 = .ok (.sipush 137, 3) := by decide +kernel
theorem dX12_admit_108 : decode cX12_admit 108 = .ok (.iload 4, 2) := by decide +kernel
theorem dX12_admit_110 : decode cX12_admit 110 = .ok (.iadd, 1) := by decide +kernel
theorem dX12_admit_111 : decode cX12_admit 111 = .ok (.iconst 1, 1) := by decide +kernel
theorem dX12_admit_112 : decode cX12_admit 112 = .ok (.iadd, 1) := by decide +kernel
theorem dX12_admit_113 : decode cX12_admit 113 = .ok (.iaload, 1) := by decide +kernel
theorem dX12_admit_114 : decode cX12_admit 114 = .ok (.iastore, 1) := by decide +kernel
theorem dX12_admit_115 : decode cX12_admit 115 = .ok (.iinc 4 1, 3) := by decide +kernel
theorem dX12_admit_118 : decode cX12_admit 118 = .ok (.goto (-39), 3) := by decide +kernel
theorem dX12_admit_44 : decode cX12_admit 44 = .ok (.aload_n 0, 1) := by decide +kernel
theorem dX12_admit_45 : decode cX12_admit 45 = .ok (.bipush 6, 2) := by decide +kernel
theorem dX12_admit_47 : decode cX12_admit 47 = .ok (.invokevirtual 68, 3) := by decide +kernel
theorem dX12_admit_50 : decode cX12_admit 50 = .ok (.ireturn, 1) := by decide +kernel
theorem dX12_admit_27 : decode cX12_admit 27 = .ok (.aload_n 0, 1) := by decide +kernel
theorem dX12_admit_28 : decode cX12_admit 28 = .ok (.bipush 7, 2) := by decide +kernel
theorem dX12_admit_30 : decode cX12_admit 30 = .ok (.invokevirtual 68, 3) := by decide +kernel
theorem dX12_admit_33 : decode cX12_admit 33 = .ok (.ireturn, 1) := by decide +kernel
theorem dX12_admit_8 : decode cX12_admit 8 = .ok (.aload_n 0, 1) := by decide +kernel
theorem dX12_admit_9 : decode cX12_admit 9 = .ok (.iconst 1, 1) := by decide +kernel
theorem dX12_admit_10 : decode cX12_admit 10 = .ok (.invokevirtual 68, 3) := by decide +kernel
theorem dX12_admit_13 : decode cX12_admit 13 = .ok (.ireturn, 1) := by decide +kernel
set_option maxHeartbeats 8000000 in
set_option maxRecDepth 100000 in
theorem c_X12_admit (l : Launch) (g : kG) (sz : Nat) (z : Nat → Nat) (kp : Nat) (xs : Nat → Int32) (D : Nat → Int32) (Wk : Nat → Int32) (x : Int32) (hDI : DI D) (hkp : kp ≤ 16) (hWI : WI Wk kp) : kMi l g yX12_admit cX12_admit 5 (some .int) 7 0 0 [.ref (z 0), .int x] sz [(z 0, .inr (12, [.ref (z 1), .ref (z 2), .int (nI kp), .int (xs 0), .ref (z 3), .ref (z 4), .ref (z 5), .ref (z 6), .int (xs 1), .ref (z 7), .ref (z 8), .ref (z 9), .ref (z 10), .ref (z 11), .ref (z 12), .int (xs 2), .ref (z 13), .ref (z 14), .int (xs 3), .ref (z 15)])), (z 1, .inl (gI g, 461, .inl D)), (z 2, .inl (gI g, 7376, .inl Wk))] (fun (r : Int32) (u : Nat × (Nat → Int32) × (Nat → Int32) × (Nat → Int32)) => u.1 ≤ 16 ∧ DI u.2.2.1 ∧ WI u.2.2.2 u.1) (fun (u : Nat × (Nat → Int32) × (Nat → Int32) × (Nat → Int32)) => ([(z 0, .inr (12, [.ref (z 1), .ref (z 2), .int (nI u.1), .int (u.2.1 0), .ref (z 3), .ref (z 4), .ref (z 5), .ref (z 6), .int (u.2.1 1), .ref (z 7), .ref (z 8), .ref (z 9), .ref (z 10), .ref (z 11), .ref (z 12), .int (u.2.1 2), .ref (z 13), .ref (z 14), .int (u.2.1 3), .ref (z 15)])), (z 1, .inl (gI g, 461, .inl u.2.2.1)), (z 2, .inl (gI g, 7376, .inl u.2.2.2))] : va_W)) := by
  refine kMi.of (by decide) (Nat.le_of_ble_eq_true rfl) (fun p e s m below meth c A hx hb hr hml hown hts hlk hnm hKW hP hD hS hA ls hl => ?_)
  have hown : s.vm.findClass RX12 = some m.cls := hown
  have hl : lv_has ls 5 [(0, .ref (z 0)), (1, .int x)] := hl
  refine k_hide hP hS (fun H locs hP hS => ?_)
  refine lv_aload_n hx hb dX12_admit_0 rfl (lv_at hl 0 rfl) ?_
  refine lv_iload_n hx hb dX12_admit_1 rfl (lv_at hl 1 rfl) ?_
  refine k_Vi [0, 1] [2] 0 12 (wr := [(z 2, .inl (gI g, 7376, .inl Wk))]) hx hb hml hown hts hKW hP hD hS hA hl.1 (c_X12_isChild l g _ z kp xs D x (by first | assumption | omega | decide)) rfl rfl rfl wd_13_19 wd_1_5 wd_13_16 wd_13_17 wd_13_18 yd_X12_isChild ⟨(Nat.le_of_ble_eq_true rfl), (Nat.le_of_ble_eq_true rfl)⟩ rfl rfl rfl rfl (by decide) rfl (Nat.le_of_ble_eq_true rfl) dX12_admit_2 ⟨(Nat.le_of_ble_eq_true rfl), (Nat.le_of_ble_eq_true rfl)⟩ (fun r_1 u_2 H locs hw_3 hP hD hS => ?_)
  have hP : va_P g.1 vwCl [(z 2, .inl (gI g, 7376, .inl Wk)), (z 0, .inr (12, [.ref (z 1), .ref (z 2), .int (nI kp), .int (xs 0), .ref (z 3), .ref (z 4), .ref (z 5), .ref (z 6), .int (xs 1), .ref (z 7), .ref (z 8), .ref (z 9), .ref (z 10), .ref (z 11), .ref (z 12), .int (xs 2), .ref (z 13), .ref (z 14), .int (xs 3), .ref (z 15)])), (z 1, .inl (gI g, 461, .inl D))] H := hP
  have hD : va_D A [(z 2, .inl (gI g, 7376, .inl Wk)), (z 0, .inr (12, [.ref (z 1), .ref (z 2), .int (nI kp), .int (xs 0), .ref (z 3), .ref (z 4), .ref (z 5), .ref (z 6), .int (xs 1), .ref (z 7), .ref (z 8), .ref (z 9), .ref (z 10), .ref (z 11), .ref (z 12), .int (xs 2), .ref (z 13), .ref (z 14), .int (xs 3), .ref (z 15)])), (z 1, .inl (gI g, 461, .inl D))] := hD
  rcases (show (r_1 = 1 ∧ (∃ j : Nat, (j < 10 ∧ (j : Int) < (D 2).toInt) ∧ x = nI j)) ∨ (r_1 = 0 ∧ ¬ (∃ j : Nat, (j < 10 ∧ (j : Int) < (D 2).toInt) ∧ x = nI j)) from hw_3) with ⟨rfl, hw_3b⟩ | ⟨rfl, hw_3b⟩ <;> clear hw_3
  · obtain ⟨j_4, hj_4, rfl⟩ := hw_3b
    refine lv_if_ne (tgt := 14) hx hb dX12_admit_5 (by decide) (fun _ => ?_) (fun c => absurd c (by decide))
    refine lv_aload_n hx hb dX12_admit_14 rfl (lv_at hl 0 rfl) ?_
    refine va_get (ci := 12) (C := RX12) (T := TX12) (N := 20) hx hb hts inlX12 hown hKW.1 hP 1 rfl rfl 0 (by decide) (hts _ wd_6_5) (fun _ h => h) rfl dX12_admit_15 ?_
    refine lv_bipush (v := 117) hx hb dX12_admit_18 (by decide) ?_
    refine lv_iload_n hx hb dX12_admit_20 rfl (lv_at hl 1 rfl) ?_
    refine lv_iadd hx hb dX12_admit_21 ?_
    refine k_top (y := nI (j_4 + 117)) (by rw [Nat.add_comm]; exact nI_add 117 j_4) ?_
    refine va_iald hx hb hKW.1 hP 2 0 rfl rfl (vp_in_nI (by omega) (by decide)) dX12_admit_22 ?_
    refine lv_topi (fun x_5 ex_5 => ?_)
    refine lv_iconst (v := 1) hx hb dX12_admit_23 (by decide) ?_
    refine lv_icmp_ne (tgt := 34) hx hb dX12_admit_24 (by decide) (fun c_6 => ?_) (fun c_6 => ?_)
    · refine lv_aload_n hx hb dX12_admit_34 rfl (lv_at hl 0 rfl) ?_
      refine lv_iload_n hx hb dX12_admit_35 rfl (lv_at hl 1 rfl) ?_
      refine k_Vi [1, 2] [0] 1 12 (wr := [(z 2, .inl (gI g, 7376, .inl Wk))]) hx hb hml hown hts hKW hP hD hS hA hl.1 (c_X12_leastMonth l g _ z kp xs D j_4 (by first | assumption | omega | decide) (by first | assumption | omega | decide)) rfl rfl rfl wd_42_8 wd_1_5 wd_42_5 wd_42_6 wd_42_7 yd_X12_leastMonth ⟨(Nat.le_of_ble_eq_true rfl), (Nat.le_of_ble_eq_true rfl)⟩ rfl rfl rfl rfl (by decide) rfl (Nat.le_of_ble_eq_true rfl) dX12_admit_36 ⟨(Nat.le_of_ble_eq_true rfl), (Nat.le_of_ble_eq_true rfl)⟩ (fun r_7 u_8 H locs hw_9 hP hD hS => ?_)
      have hP : va_P g.1 vwCl [(z 2, .inl (gI g, 7376, .inl Wk)), (z 0, .inr (12, [.ref (z 1), .ref (z 2), .int (nI kp), .int (xs 0), .ref (z 3), .ref (z 4), .ref (z 5), .ref (z 6), .int (xs 1), .ref (z 7), .ref (z 8), .ref (z 9), .ref (z 10), .ref (z 11), .ref (z 12), .int (xs 2), .ref (z 13), .ref (z 14), .int (xs 3), .ref (z 15)])), (z 1, .inl (gI g, 461, .inl D))] H := hP
      have hD : va_D A [(z 2, .inl (gI g, 7376, .inl Wk)), (z 0, .inr (12, [.ref (z 1), .ref (z 2), .int (nI kp), .int (xs 0), .ref (z 3), .ref (z 4), .ref (z 5), .ref (z 6), .int (xs 1), .ref (z 7), .ref (z 8), .ref (z 9), .ref (z 10), .ref (z 11), .ref (z 12), .int (xs 2), .ref (z 13), .ref (z 14), .int (xs 3), .ref (z 15)])), (z 1, .inl (gI g, 461, .inl D))] := hD
      have hw_9 : r_7 = -1 ∨ ∃ k : Nat, k ≤ 60 ∧ r_7 = nI k := hw_9
      refine lv_istore_n (lv' := [(2, .int r_7), (0, .ref (z 0)), (1, .int (nI j_4))]) hx hb dX12_admit_39 rfl hl (by decide) rfl (fun ls hl => ?_)
      refine lv_iload_n hx hb dX12_admit_40 rfl (lv_at hl 0 rfl) ?_
      refine lv_if_ge (tgt := 51) hx hb dX12_admit_41 (by decide) (fun c_10 => ?_) (fun c_10 => ?_)
      · obtain ⟨km, hkm, rfl⟩ := (hw_9).resolve_left (fun q => by have q2 := c_10; rw [q] at q2; exact absurd q2 (by decide))
        refine lv_aload_n hx hb dX12_admit_51 rfl (lv_at hl 1 rfl) ?_
        refine k_Vv [1, 2, 0] [] 1 12 (wr := []) hx hb hml hown hts hKW hP hD hS hA hl.1 (c_X12_keep l g _ z kp xs D Wk (by first | assumption | omega | decide) (by first | assumption | omega | decide) (by first | assumption | omega | decide)) rfl rfl rfl wd_10_21 wd_1_5 wd_10_18 wd_10_19 wd_10_20 yd_X12_keep ⟨(Nat.le_of_ble_eq_true rfl), (Nat.le_of_ble_eq_true rfl)⟩ rfl rfl rfl rfl (by decide) rfl (Nat.le_of_ble_eq_true rfl) dX12_admit_52 ⟨(Nat.le_of_ble_eq_true rfl), (Nat.le_of_ble_eq_true rfl)⟩ (fun u_12 H locs hw_13 hP hD hS => ?_)
        obtain ⟨q_14, f_15⟩ := u_12
        have hP : va_P g.1 vwCl [(z 0, .inr (12, [.ref (z 1), .ref (z 2), .int (nI q_14), .int (xs 0), .ref (z 3), .ref (z 4), .ref (z 5), .ref (z 6), .int (xs 1), .ref (z 7), .ref (z 8), .ref (z 9), .ref (z 10), .ref (z 11), .ref (z 12), .int (xs 2), .ref (z 13), .ref (z 14), .int (xs 3), .ref (z 15)])), (z 1, .inl (gI g, 461, .inl D)), (z 2, .inl (gI g, 7376, .inl f_15))] H := hP
        have hD : va_D A [(z 0, .inr (12, [.ref (z 1), .ref (z 2), .int (nI q_14), .int (xs 0), .ref (z 3), .ref (z 4), .ref (z 5), .ref (z 6), .int (xs 1), .ref (z 7), .ref (z 8), .ref (z 9), .ref (z 10), .ref (z 11), .ref (z 12), .int (xs 2), .ref (z 13), .ref (z 14), .int (xs 3), .ref (z 15)])), (z 1, .inl (gI g, 461, .inl D)), (z 2, .inl (gI g, 7376, .inl f_15))] := hD
        have hw_13 : q_14 ≤ 16 ∧ WI f_15 q_14 := hw_13
        obtain ⟨hkk, hkW⟩ := hw_13
        refine lv_aload_n hx hb dX12_admit_55 rfl (lv_at hl 1 rfl) ?_
        refine lv_iload_n hx hb dX12_admit_56 rfl (lv_at hl 2 rfl) ?_
        refine k_Vi [0, 1] [2] 0 12 (wr := [(z 2, .inl (gI g, 7376, .inl f_15))]) hx hb hml hown hts hKW hP hD hS hA hl.1 (c_X12_listed l g _ z q_14 xs D (nI j_4) (by first | assumption | omega | decide)) rfl rfl rfl wd_39_11 wd_1_5 wd_39_8 wd_39_9 wd_39_10 yd_X12_listed ⟨(Nat.le_of_ble_eq_true rfl), (Nat.le_of_ble_eq_true rfl)⟩ rfl rfl rfl rfl (by decide) rfl (Nat.le_of_ble_eq_true rfl) dX12_admit_57 ⟨(Nat.le_of_ble_eq_true rfl), (Nat.le_of_ble_eq_true rfl)⟩ (fun r_16 u_17 H locs hw_18 hP hD hS => ?_)
        have hP : va_P g.1 vwCl [(z 2, .inl (gI g, 7376, .inl f_15)), (z 0, .inr (12, [.ref (z 1), .ref (z 2), .int (nI q_14), .int (xs 0), .ref (z 3), .ref (z 4), .ref (z 5), .ref (z 6), .int (xs 1), .ref (z 7), .ref (z 8), .ref (z 9), .ref (z 10), .ref (z 11), .ref (z 12), .int (xs 2), .ref (z 13), .ref (z 14), .int (xs 3), .ref (z 15)])), (z 1, .inl (gI g, 461, .inl D))] H := hP
        have hD : va_D A [(z 2, .inl (gI g, 7376, .inl f_15)), (z 0, .inr (12, [.ref (z 1), .ref (z 2), .int (nI q_14), .int (xs 0), .ref (z 3), .ref (z 4), .ref (z 5), .ref (z 6), .int (xs 1), .ref (z 7), .ref (z 8), .ref (z 9), .ref (z 10), .ref (z 11), .ref (z 12), .int (xs 2), .ref (z 13), .ref (z 14), .int (xs 3), .ref (z 15)])), (z 1, .inl (gI g, 461, .inl D))] := hD
        have hw_18 : (r_16 = -1 ∧ ∀ k : Nat, (k : Int) < (D 8).toInt → ¬ D (137 + k) = (nI j_4)) ∨ ∃ k : Nat, (k : Int) < (D 8).toInt ∧ r_16 = nI k := hw_18
        refine lv_istore_n (lv' := [(3, .int r_16), (2, .int (nI km)), (0, .ref (z 0)), (1, .int (nI j_4))]) hx hb dX12_admit_60 rfl hl (by decide) rfl (fun ls hl => ?_)
        refine lv_iload_n hx hb dX12_admit_61 rfl (lv_at hl 0 rfl) ?_
        refine lv_if_lt (tgt := 121) hx hb dX12_admit_62 (by decide) (fun c_19 => ?_) (fun c_19 => ?_)
        · refine lv_aload_n hx hb dX12_admit_121 rfl (lv_at hl 2 rfl) ?_
          refine va_get (ci := 12) (C := RX12) (T := TX12) (N := 20) hx hb hts inlX12 hown hKW.1 hP 1 rfl rfl 0 (by decide) (hts _ wd_6_5) (fun _ h => h) rfl dX12_admit_122 ?_
          refine lv_bipush (v := 117) hx hb dX12_admit_125 (by decide) ?_
          refine lv_iload_n hx hb dX12_admit_127 rfl (lv_at hl 3 rfl) ?_
          refine lv_iadd hx hb dX12_admit_128 ?_
          refine k_top (y := nI (j_4 + 117)) (by rw [Nat.add_comm]; exact nI_add 117 j_4) ?_
          refine lv_iconst (v := 1) hx hb dX12_admit_129 (by decide) ?_
          refine va_iast hx hb hKW.1 hP hD hS 2 0 rfl rfl (vp_in_nI (by omega) (by decide)) dX12_admit_130 (fun H locs hP hD hS => ?_)
          have hP : va_P g.1 vwCl [(z 2, .inl (gI g, 7376, .inl f_15)), (z 0, .inr (12, [.ref (z 1), .ref (z 2), .int (nI q_14), .int (xs 0), .ref (z 3), .ref (z 4), .ref (z 5), .ref (z 6), .int (xs 1), .ref (z 7), .ref (z 8), .ref (z 9), .ref (z 10), .ref (z 11), .ref (z 12), .int (xs 2), .ref (z 13), .ref (z 14), .int (xs 3), .ref (z 15)])), (z 1, .inl (gI g, 461, .inl (upd D (nI (j_4 + 117)).toNatClampNeg 1)))] H := hP
          have hD : va_D A [(z 2, .inl (gI g, 7376, .inl f_15)), (z 0, .inr (12, [.ref (z 1), .ref (z 2), .int (nI q_14), .int (xs 0), .ref (z 3), .ref (z 4), .ref (z 5), .ref (z 6), .int (xs 1), .ref (z 7), .ref (z 8), .ref (z 9), .ref (z 10), .ref (z 11), .ref (z 12), .int (xs 2), .ref (z 13), .ref (z 14), .int (xs 3), .ref (z 15)])), (z 1, .inl (gI g, 461, .inl (upd D (nI (j_4 + 117)).toNatClampNeg 1)))] := hD
          obtain ⟨f_20, ef_20⟩ : ∃ zz_ : Nat → Int32, zz_ = upd D (nI (j_4 + 117)).toNatClampNeg 1 := ⟨_, rfl⟩
          rw [← ef_20] at hP hD
          have hDf_20 : DI f_20 := DI.free (i := (j_4 + 117)) (x := 1) hDI (by rw [ef_20, nI_clamp (by omega)]) (by unfold dFree; omega)
          refine lv_aload_n hx hb dX12_admit_131 rfl (lv_at hl 2 rfl) ?_
          refine va_get (ci := 12) (C := RX12) (T := TX12) (N := 20) hx hb hts inlX12 hown hKW.1 hP 1 rfl rfl 0 (by decide) (hts _ wd_6_5) (fun _ h => h) rfl dX12_admit_132 ?_
          refine lv_bipush (v := 77) hx hb dX12_admit_135 (by decide) ?_
          refine lv_iload_n hx hb dX12_admit_137 rfl (lv_at hl 3 rfl) ?_
          refine lv_iadd hx hb dX12_admit_138 ?_
          refine k_top (y := nI (j_4 + 77)) (by rw [Nat.add_comm]; exact nI_add 77 j_4) ?_
          refine lv_iload_n hx hb dX12_admit_139 rfl (lv_at hl 1 rfl) ?_
          refine va_iast hx hb hKW.1 hP hD hS 2 0 rfl rfl (vp_in_nI (by omega) (by decide)) dX12_admit_140 (fun H locs hP hD hS => ?_)
          have hP : va_P g.1 vwCl [(z 2, .inl (gI g, 7376, .inl f_15)), (z 0, .inr (12, [.ref (z 1), .ref (z 2), .int (nI q_14), .int (xs 0), .ref (z 3), .ref (z 4), .ref (z 5), .ref (z 6), .int (xs 1), .ref (z 7), .ref (z 8), .ref (z 9), .ref (z 10), .ref (z 11), .ref (z 12), .int (xs 2), .ref (z 13), .ref (z 14), .int (xs 3), .ref (z 15)])), (z 1, .inl (gI g, 461, .inl (upd f_20 (nI (j_4 + 77)).toNatClampNeg (nI km))))] H := hP
          have hD : va_D A [(z 2, .inl (gI g, 7376, .inl f_15)), (z 0, .inr (12, [.ref (z 1), .ref (z 2), .int (nI q_14), .int (xs 0), .ref (z 3), .ref (z 4), .ref (z 5), .ref (z 6), .int (xs 1), .ref (z 7), .ref (z 8), .ref (z 9), .ref (z 10), .ref (z 11), .ref (z 12), .int (xs 2), .ref (z 13), .ref (z 14), .int (xs 3), .ref (z 15)])), (z 1, .inl (gI g, 461, .inl (upd f_20 (nI (j_4 + 77)).toNatClampNeg (nI km))))] := hD
          obtain ⟨f_21, ef_21⟩ : ∃ zz_ : Nat → Int32, zz_ = upd f_20 (nI (j_4 + 77)).toNatClampNeg (nI km) := ⟨_, rfl⟩
          rw [← ef_21] at hP hD
          have hDf_21 : DI f_21 := DI.upd (i := (j_4 + 77)) (x := nI km) hDf_20 (by rw [ef_21, nI_clamp (by omega)]) (h0 := (fun q => absurd q (by omega))) (h1 := (fun q => absurd q (by omega))) (h2 := (fun q => absurd q (by omega))) (h5 := (fun q => absurd q (by omega))) (h6 := (fun q => absurd q (by omega))) (h7 := (fun q => absurd q (by omega))) (h10 := (fun q => absurd q (by omega))) (hf := (fun _ _ => k_rgI (lo := 0) (hi := 60) (n := km) (by decide) (by omega) (by omega))) (hn := (fun q q2 => False.elim (by omega))) (ht := (fun q q2 => False.elim (by omega))) (hl := (fun q q2 => False.elim (by omega))) (h8 := (by omega))
          refine lv_iload_n hx hb dX12_admit_141 rfl (lv_at hl 1 rfl) ?_
          exact k_iret (q_14, xs, f_21, f_15) [1, 2, 0] hx hb hr hlk hP hD hS (⟨hkk, hDf_21, hkW⟩) rfl rfl rfl (Nat.le_of_ble_eq_true rfl) (Nat.le_of_ble_eq_true rfl) dX12_admit_142
        · obtain ⟨kl, hkl, rfl⟩ := (hw_18).resolve_left (fun q => by have q2 := c_19; rw [q.1] at q2; exact q2 (by decide))
          refine lv_aload_n hx hb dX12_admit_65 rfl (lv_at hl 2 rfl) ?_
          refine va_get (ci := 12) (C := RX12) (T := TX12) (N := 20) hx hb hts inlX12 hown hKW.1 hP 1 rfl rfl 0 (by decide) (hts _ wd_6_5) (fun _ h => h) rfl dX12_admit_66 ?_
          refine lv_bipush (v := 8) hx hb dX12_admit_69 (by decide) ?_
          refine lv_dup2_11 hx hb dX12_admit_71 rfl rfl ?_
          obtain ⟨dk_22, hdk_22a, hdk_22b, edk_22⟩ := DI.n8 hDI
          refine va_iald hx hb hKW.1 hP 2 0 rfl rfl (show ¬ _ by decide) dX12_admit_72 ?_
          refine k_top (y := nI dk_22) edk_22 ?_
          have hk8 : kl < dk_22 := by have q := hkl; rw [edk_22, k_nIi (by omega)] at q; omega
          refine lv_iconst (v := 1) hx hb dX12_admit_73 (by decide) ?_
          refine lv_isub hx hb dX12_admit_74 ?_
          refine k_top (y := nI (dk_22 - 1)) (k_sub (b := 1) (by omega)) ?_
          refine va_iast hx hb hKW.1 hP hD hS 2 0 rfl rfl (show ¬ _ by decide) dX12_admit_75 (fun H locs hP hD hS => ?_)
          have hP : va_P g.1 vwCl [(z 2, .inl (gI g, 7376, .inl f_15)), (z 0, .inr (12, [.ref (z 1), .ref (z 2), .int (nI q_14), .int (xs 0), .ref (z 3), .ref (z 4), .ref (z 5), .ref (z 6), .int (xs 1), .ref (z 7), .ref (z 8), .ref (z 9), .ref (z 10), .ref (z 11), .ref (z 12), .int (xs 2), .ref (z 13), .ref (z 14), .int (xs 3), .ref (z 15)])), (z 1, .inl (gI g, 461, .inl (upd D 8 (nI (dk_22 - 1)))))] H := hP
          have hD : va_D A [(z 2, .inl (gI g, 7376, .inl f_15)), (z 0, .inr (12, [.ref (z 1), .ref (z 2), .int (nI q_14), .int (xs 0), .ref (z 3), .ref (z 4), .ref (z 5), .ref (z 6), .int (xs 1), .ref (z 7), .ref (z 8), .ref (z 9), .ref (z 10), .ref (z 11), .ref (z 12), .int (xs 2), .ref (z 13), .ref (z 14), .int (xs 3), .ref (z 15)])), (z 1, .inl (gI g, 461, .inl (upd D 8 (nI (dk_22 - 1)))))] := hD
          obtain ⟨f_23, ef_23⟩ : ∃ zz_ : Nat → Int32, zz_ = upd D 8 (nI (dk_22 - 1)) := ⟨_, rfl⟩
          rw [← ef_23] at hP hD
          have dz_24 : f_23 8 = nI (dk_22 - 1) := by rw [ef_23, pk_us]
          refine lv_iload_n hx hb dX12_admit_76 rfl (lv_at hl 0 rfl) ?_
          refine lv_istore (lv' := [(4, .int (nI kl)), (3, .int (nI kl)), (2, .int (nI km)), (0, .ref (z 0)), (1, .int (nI j_4))]) hx hb dX12_admit_77 hl (by decide) rfl (fun ls hl => ?_)
          have L79 : ∀ (n79 : Nat) (i : Nat) (Da : Nat → Int32) (hfuel79 : 10 - i < n79) (hi : kl ≤ i ∧ i ≤ dk_22 - 1) (hrm : kRm D Da dk_22 kl i) (H : Heap) (locs : List Loc) (hP : va_P g.1 vwCl [(z 2, .inl (gI g, 7376, .inl f_15)), (z 0, .inr (12, [.ref (z 1), .ref (z 2), .int (nI q_14), .int (xs 0), .ref (z 3), .ref (z 4), .ref (z 5), .ref (z 6), .int (xs 1), .ref (z 7), .ref (z 8), .ref (z 9), .ref (z 10), .ref (z 11), .ref (z 12), .int (xs 2), .ref (z 13), .ref (z 14), .int (xs 3), .ref (z 15)])), (z 1, .inl (gI g, 461, .inl Da))] H) (hD : va_D A [(z 2, .inl (gI g, 7376, .inl f_15)), (z 0, .inr (12, [.ref (z 1), .ref (z 2), .int (nI q_14), .int (xs 0), .ref (z 3), .ref (z 4), .ref (z 5), .ref (z 6), .int (xs 1), .ref (z 7), .ref (z 8), .ref (z 9), .ref (z 10), .ref (z 11), .ref (z 12), .int (xs 2), .ref (z 13), .ref (z 14), .int (xs 3), .ref (z 15)])), (z 1, .inl (gI g, 461, .inl Da))]) (hS : va_S A s.heap H locs) (ls : Array Slot) (hl : lv_has ls 5 [(4, .int (nI i)), (3, .int (nI kl)), (2, .int (nI km)), (0, .ref (z 0)), (1, .int (nI j_4))]), W p l e (kR 7 0 0) s m ([.ref (z 0), .int (nI j_4)] : List Value).toArray below meth c H locs 0 0 (kQi g A below ([.ref (z 0), .int (nI j_4)] : List Value).toArray s 0 0 (fun (r : Int32) (u : Nat × (Nat → Int32) × (Nat → Int32) × (Nat → Int32)) => u.1 ≤ 16 ∧ DI u.2.2.1 ∧ WI u.2.2.2 u.1) (fun (u : Nat × (Nat → Int32) × (Nat → Int32) × (Nat → Int32)) => ([(z 0, .inr (12, [.ref (z 1), .ref (z 2), .int (nI u.1), .int (u.2.1 0), .ref (z 3), .ref (z 4), .ref (z 5), .ref (z 6), .int (u.2.1 1), .ref (z 7), .ref (z 8), .ref (z 9), .ref (z 10), .ref (z 11), .ref (z 12), .int (u.2.1 2), .ref (z 13), .ref (z 14), .int (u.2.1 3), .ref (z 15)])), (z 1, .inl (gI g, 461, .inl u.2.2.1)), (z 2, .inl (gI g, 7376, .inl u.2.2.2))] : va_W))) (F0 m 79 ls []) := by
            intro n79
            induction n79 with
            | zero => intro i Da hfuel79; exact absurd hfuel79 (Nat.not_lt_zero _)
            | succ n79 ih79 =>
              intro i Da hfuel79 hi hrm H locs hP hD hS ls hl
              refine lv_iload hx hb dX12_admit_79 (lv_at hl 0 rfl) ?_
              refine lv_aload_n hx hb dX12_admit_81 rfl (lv_at hl 3 rfl) ?_
              refine va_get (ci := 12) (C := RX12) (T := TX12) (N := 20) hx hb hts inlX12 hown hKW.1 hP 1 rfl rfl 0 (by decide) (hts _ wd_6_5) (fun _ h => h) rfl dX12_admit_82 ?_
              refine lv_bipush (v := 8) hx hb dX12_admit_85 (by decide) ?_
              refine va_iald hx hb hKW.1 hP 2 0 rfl rfl (show ¬ _ by decide) dX12_admit_87 ?_
              refine k_top (y := nI (dk_22 - 1)) hrm.1 ?_
              refine lv_icmp_ge (tgt := 121) hx hb dX12_admit_88 (by decide) (fun c_25 => ?_) (fun c_25 => ?_)
              · have c_25n : (dk_22 - 1) ≤ i := (k_leI (a := (dk_22 - 1)) (b := i) (by omega) (by omega)).mp c_25
                have hDa : DI Da := k_rmD hDI edk_22 (by omega) hk8 hrm (by omega)
                refine lv_aload_n hx hb dX12_admit_121 rfl (lv_at hl 3 rfl) ?_
                refine va_get (ci := 12) (C := RX12) (T := TX12) (N := 20) hx hb hts inlX12 hown hKW.1 hP 1 rfl rfl 0 (by decide) (hts _ wd_6_5) (fun _ h => h) rfl dX12_admit_122 ?_
                refine lv_bipush (v := 117) hx hb dX12_admit_125 (by decide) ?_
                refine lv_iload_n hx hb dX12_admit_127 rfl (lv_at hl 4 rfl) ?_
                refine lv_iadd hx hb dX12_admit_128 ?_
                refine k_top (y := nI (j_4 + 117)) (by rw [Nat.add_comm]; exact nI_add 117 j_4) ?_
                refine lv_iconst (v := 1) hx hb dX12_admit_129 (by decide) ?_
                refine va_iast hx hb hKW.1 hP hD hS 2 0 rfl rfl (vp_in_nI (by omega) (by decide)) dX12_admit_130 (fun H locs hP hD hS => ?_)
                have hP : va_P g.1 vwCl [(z 2, .inl (gI g, 7376, .inl f_15)), (z 0, .inr (12, [.ref (z 1), .ref (z 2), .int (nI q_14), .int (xs 0), .ref (z 3), .ref (z 4), .ref (z 5), .ref (z 6), .int (xs 1), .ref (z 7), .ref (z 8), .ref (z 9), .ref (z 10), .ref (z 11), .ref (z 12), .int (xs 2), .ref (z 13), .ref (z 14), .int (xs 3), .ref (z 15)])), (z 1, .inl (gI g, 461, .inl (upd Da (nI (j_4 + 117)).toNatClampNeg 1)))] H := hP
                have hD : va_D A [(z 2, .inl (gI g, 7376, .inl f_15)), (z 0, .inr (12, [.ref (z 1), .ref (z 2), .int (nI q_14), .int (xs 0), .ref (z 3), .ref (z 4), .ref (z 5), .ref (z 6), .int (xs 1), .ref (z 7), .ref (z 8), .ref (z 9), .ref (z 10), .ref (z 11), .ref (z 12), .int (xs 2), .ref (z 13), .ref (z 14), .int (xs 3), .ref (z 15)])), (z 1, .inl (gI g, 461, .inl (upd Da (nI (j_4 + 117)).toNatClampNeg 1)))] := hD
                obtain ⟨f_26, ef_26⟩ : ∃ zz_ : Nat → Int32, zz_ = upd Da (nI (j_4 + 117)).toNatClampNeg 1 := ⟨_, rfl⟩
                rw [← ef_26] at hP hD
                have hDf_26 : DI f_26 := DI.free (i := (j_4 + 117)) (x := 1) hDa (by rw [ef_26, nI_clamp (by omega)]) (by unfold dFree; omega)
                refine lv_aload_n hx hb dX12_admit_131 rfl (lv_at hl 3 rfl) ?_
                refine va_get (ci := 12) (C := RX12) (T := TX12) (N := 20) hx hb hts inlX12 hown hKW.1 hP 1 rfl rfl 0 (by decide) (hts _ wd_6_5) (fun _ h => h) rfl dX12_admit_132 ?_
                refine lv_bipush (v := 77) hx hb dX12_admit_135 (by decide) ?_
                refine lv_iload_n hx hb dX12_admit_137 rfl (lv_at hl 4 rfl) ?_
                refine lv_iadd hx hb dX12_admit_138 ?_
                refine k_top (y := nI (j_4 + 77)) (by rw [Nat.add_comm]; exact nI_add 77 j_4) ?_
                refine lv_iload_n hx hb dX12_admit_139 rfl (lv_at hl 2 rfl) ?_
                refine va_iast hx hb hKW.1 hP hD hS 2 0 rfl rfl (vp_in_nI (by omega) (by decide)) dX12_admit_140 (fun H locs hP hD hS => ?_)
                have hP : va_P g.1 vwCl [(z 2, .inl (gI g, 7376, .inl f_15)), (z 0, .inr (12, [.ref (z 1), .ref (z 2), .int (nI q_14), .int (xs 0), .ref (z 3), .ref (z 4), .ref (z 5), .ref (z 6), .int (xs 1), .ref (z 7), .ref (z 8), .ref (z 9), .ref (z 10), .ref (z 11), .ref (z 12), .int (xs 2), .ref (z 13), .ref (z 14), .int (xs 3), .ref (z 15)])), (z 1, .inl (gI g, 461, .inl (upd f_26 (nI (j_4 + 77)).toNatClampNeg (nI km))))] H := hP
                have hD : va_D A [(z 2, .inl (gI g, 7376, .inl f_15)), (z 0, .inr (12, [.ref (z 1), .ref (z 2), .int (nI q_14), .int (xs 0), .ref (z 3), .ref (z 4), .ref (z 5), .ref (z 6), .int (xs 1), .ref (z 7), .ref (z 8), .ref (z 9), .ref (z 10), .ref (z 11), .ref (z 12), .int (xs 2), .ref (z 13), .ref (z 14), .int (xs 3), .ref (z 15)])), (z 1, .inl (gI g, 461, .inl (upd f_26 (nI (j_4 + 77)).toNatClampNeg (nI km))))] := hD
                obtain ⟨f_27, ef_27⟩ : ∃ zz_ : Nat → Int32, zz_ = upd f_26 (nI (j_4 + 77)).toNatClampNeg (nI km) := ⟨_, rfl⟩
                rw [← ef_27] at hP hD
                have hDf_27 : DI f_27 := DI.upd (i := (j_4 + 77)) (x := nI km) hDf_26 (by rw [ef_27, nI_clamp (by omega)]) (h0 := (fun q => absurd q (by omega))) (h1 := (fun q => absurd q (by omega))) (h2 := (fun q => absurd q (by omega))) (h5 := (fun q => absurd q (by omega))) (h6 := (fun q => absurd q (by omega))) (h7 := (fun q => absurd q (by omega))) (h10 := (fun q => absurd q (by omega))) (hf := (fun _ _ => k_rgI (lo := 0) (hi := 60) (n := km) (by decide) (by omega) (by omega))) (hn := (fun q q2 => False.elim (by omega))) (ht := (fun q q2 => False.elim (by omega))) (hl := (fun q q2 => False.elim (by omega))) (h8 := (by omega))
                refine lv_iload_n hx hb dX12_admit_141 rfl (lv_at hl 2 rfl) ?_
                exact k_iret (q_14, xs, f_27, f_15) [1, 2, 0] hx hb hr hlk hP hD hS (⟨hkk, hDf_27, hkW⟩) rfl rfl rfl (Nat.le_of_ble_eq_true rfl) (Nat.le_of_ble_eq_true rfl) dX12_admit_142
              · have c_25n : i < (dk_22 - 1) := Nat.not_le.mp (fun h => c_25 ((k_leI (a := (dk_22 - 1)) (b := i) (by omega) (by omega)).mpr h))
                refine lv_aload_n hx hb dX12_admit_91 rfl (lv_at hl 3 rfl) ?_
                refine va_get (ci := 12) (C := RX12) (T := TX12) (N := 20) hx hb hts inlX12 hown hKW.1 hP 1 rfl rfl 0 (by decide) (hts _ wd_6_5) (fun _ h => h) rfl dX12_admit_92 ?_
                refine lv_sipush (v := 137) hx hb dX12_admit_95 (by decide) ?_
                refine lv_iload hx hb dX12_admit_98 (lv_at hl 0 rfl) ?_
                refine lv_iadd hx hb dX12_admit_100 ?_
                refine k_top (y := nI (i + 137)) (by rw [Nat.add_comm]; exact nI_add 137 i) ?_
                refine lv_aload_n hx hb dX12_admit_101 rfl (lv_at hl 3 rfl) ?_
                refine va_get (ci := 12) (C := RX12) (T := TX12) (N := 20) hx hb hts inlX12 hown hKW.1 hP 1 rfl rfl 0 (by decide) (hts _ wd_6_5) (fun _ h => h) rfl dX12_admit_102 ?_
                refine lv_sipush (v := 137) hx hb dX12_admit_105 (by decide) ?_
                refine lv_iload hx hb dX12_admit_108 (lv_at hl 0 rfl) ?_
                refine lv_iadd hx hb dX12_admit_110 ?_
                refine k_top (y := nI (i + 137)) (by rw [Nat.add_comm]; exact nI_add 137 i) ?_
                refine lv_iconst (v := 1) hx hb dX12_admit_111 (by decide) ?_
                refine lv_iadd hx hb dX12_admit_112 ?_
                refine k_top (y := nI ((i + 137) + 1)) (nI_add (i + 137) 1) ?_
                refine va_iald hx hb hKW.1 hP 2 0 rfl rfl (vp_in_nI (by omega) (by decide)) dX12_admit_113 ?_
                refine lv_topi (fun x_28 ex_28 => ?_)
                refine va_iast hx hb hKW.1 hP hD hS 2 0 rfl rfl (vp_in_nI (by omega) (by decide)) dX12_admit_114 (fun H locs hP hD hS => ?_)
                have hP : va_P g.1 vwCl [(z 2, .inl (gI g, 7376, .inl f_15)), (z 0, .inr (12, [.ref (z 1), .ref (z 2), .int (nI q_14), .int (xs 0), .ref (z 3), .ref (z 4), .ref (z 5), .ref (z 6), .int (xs 1), .ref (z 7), .ref (z 8), .ref (z 9), .ref (z 10), .ref (z 11), .ref (z 12), .int (xs 2), .ref (z 13), .ref (z 14), .int (xs 3), .ref (z 15)])), (z 1, .inl (gI g, 461, .inl (upd Da (nI (i + 137)).toNatClampNeg x_28)))] H := hP
                have hD : va_D A [(z 2, .inl (gI g, 7376, .inl f_15)), (z 0, .inr (12, [.ref (z 1), .ref (z 2), .int (nI q_14), .int (xs 0), .ref (z 3), .ref (z 4), .ref (z 5), .ref (z 6), .int (xs 1), .ref (z 7), .ref (z 8), .ref (z 9), .ref (z 10), .ref (z 11), .ref (z 12), .int (xs 2), .ref (z 13), .ref (z 14), .int (xs 3), .ref (z 15)])), (z 1, .inl (gI g, 461, .inl (upd Da (nI (i + 137)).toNatClampNeg x_28)))] := hD
                obtain ⟨f_29, ef_29⟩ : ∃ zz_ : Nat → Int32, zz_ = upd Da (nI (i + 137)).toNatClampNeg x_28 := ⟨_, rfl⟩
                rw [← ef_29] at hP hD
                have dz_30 : f_29 8 = nI (dk_22 - 1) := by rw [ef_29, nI_clamp (by omega), pk_un (by omega)]; exact hrm.1
                refine lv_iinc (v := nI (i + 1)) (lv' := [(4, .int (nI (i + 1))), (3, .int (nI kl)), (2, .int (nI km)), (0, .ref (z 0)), (1, .int (nI j_4))]) hx hb dX12_admit_115 hl (k := 0) rfl (nI_add i 1) (by decide) rfl (fun ls hl => ?_)
                refine lv_goto (tgt := 79) hx hb dX12_admit_118 (by decide) ?_
                exact ih79 (i + 1) f_29 (by omega) (by first | assumption | omega) (k_rmS hrm (by omega) ex_28 ef_29) H locs (hP.sub [0, 1, 2] rfl) (hD.sub [0, 1, 2] (by decide) rfl) hS ls (lv_sub hl [0, 1, 2, 3, 4] rfl)
          exact L79 (10 - kl + 1) kl f_23 (Nat.lt_succ_self _) (by first | assumption | omega) (k_rm0 ef_23) H locs (hP.sub [0, 1, 2] rfl) (hD.sub [0, 1, 2] (by decide) rfl) hS ls (lv_sub hl [0, 1, 2, 3, 4] rfl)
      · refine lv_aload_n hx hb dX12_admit_44 rfl (lv_at hl 1 rfl) ?_
        refine lv_bipush (v := 6) hx hb dX12_admit_45 (by decide) ?_
        refine k_Vi [1] [0, 2] 1 12 (wr := [(z 2, .inl (gI g, 7376, .inl Wk)), (z 1, .inl (gI g, 461, .inl D))]) hx hb hml hown hts hKW hP hD hS hA hl.1 (c_X12_finding_6 l g _ z kp xs ) rfl rfl rfl wd_10_15 wd_1_5 wd_10_12 wd_10_13 wd_10_14 yd_X12_finding ⟨(Nat.le_of_ble_eq_true rfl), (Nat.le_of_ble_eq_true rfl)⟩ rfl rfl rfl rfl (by decide) rfl (Nat.le_of_ble_eq_true rfl) dX12_admit_47 ⟨(Nat.le_of_ble_eq_true rfl), (Nat.le_of_ble_eq_true rfl)⟩ (fun r_31 u_32 H locs hw_33 hP hD hS => ?_)
        have hP : va_P g.1 vwCl [(z 2, .inl (gI g, 7376, .inl Wk)), (z 1, .inl (gI g, 461, .inl D)), (z 0, .inr (12, [.ref (z 1), .ref (z 2), .int (nI kp), .int u_32, .ref (z 3), .ref (z 4), .ref (z 5), .ref (z 6), .int (xs 1), .ref (z 7), .ref (z 8), .ref (z 9), .ref (z 10), .ref (z 11), .ref (z 12), .int (xs 2), .ref (z 13), .ref (z 14), .int (xs 3), .ref (z 15)]))] H := hP
        have hD : va_D A [(z 2, .inl (gI g, 7376, .inl Wk)), (z 1, .inl (gI g, 461, .inl D)), (z 0, .inr (12, [.ref (z 1), .ref (z 2), .int (nI kp), .int u_32, .ref (z 3), .ref (z 4), .ref (z 5), .ref (z 6), .int (xs 1), .ref (z 7), .ref (z 8), .ref (z 9), .ref (z 10), .ref (z 11), .ref (z 12), .int (xs 2), .ref (z 13), .ref (z 14), .int (xs 3), .ref (z 15)]))] := hD
        have hw_33 : r_31 = (-100006) := hw_33
        subst hw_33
        exact k_iret (kp, (fun kk_ => ([u_32, (xs 1), (xs 2), (xs 3)] : List Int32).getD kk_ 0), D, Wk) [2, 1, 0] hx hb hr hlk hP hD hS (⟨hkp, hDI, hWI⟩) rfl rfl rfl (Nat.le_of_ble_eq_true rfl) (Nat.le_of_ble_eq_true rfl) dX12_admit_50
    · refine lv_aload_n hx hb dX12_admit_27 rfl (lv_at hl 0 rfl) ?_
      refine lv_bipush (v := 7) hx hb dX12_admit_28 (by decide) ?_
      refine k_Vi [1] [0, 2] 1 12 (wr := [(z 2, .inl (gI g, 7376, .inl Wk)), (z 1, .inl (gI g, 461, .inl D))]) hx hb hml hown hts hKW hP hD hS hA hl.1 (c_X12_finding_7 l g _ z kp xs ) rfl rfl rfl wd_10_15 wd_1_5 wd_10_12 wd_10_13 wd_10_14 yd_X12_finding ⟨(Nat.le_of_ble_eq_true rfl), (Nat.le_of_ble_eq_true rfl)⟩ rfl rfl rfl rfl (by decide) rfl (Nat.le_of_ble_eq_true rfl) dX12_admit_30 ⟨(Nat.le_of_ble_eq_true rfl), (Nat.le_of_ble_eq_true rfl)⟩ (fun r_34 u_35 H locs hw_36 hP hD hS => ?_)
      have hP : va_P g.1 vwCl [(z 2, .inl (gI g, 7376, .inl Wk)), (z 1, .inl (gI g, 461, .inl D)), (z 0, .inr (12, [.ref (z 1), .ref (z 2), .int (nI kp), .int u_35, .ref (z 3), .ref (z 4), .ref (z 5), .ref (z 6), .int (xs 1), .ref (z 7), .ref (z 8), .ref (z 9), .ref (z 10), .ref (z 11), .ref (z 12), .int (xs 2), .ref (z 13), .ref (z 14), .int (xs 3), .ref (z 15)]))] H := hP
      have hD : va_D A [(z 2, .inl (gI g, 7376, .inl Wk)), (z 1, .inl (gI g, 461, .inl D)), (z 0, .inr (12, [.ref (z 1), .ref (z 2), .int (nI kp), .int u_35, .ref (z 3), .ref (z 4), .ref (z 5), .ref (z 6), .int (xs 1), .ref (z 7), .ref (z 8), .ref (z 9), .ref (z 10), .ref (z 11), .ref (z 12), .int (xs 2), .ref (z 13), .ref (z 14), .int (xs 3), .ref (z 15)]))] := hD
      have hw_36 : r_34 = (-100007) := hw_36
      subst hw_36
      exact k_iret (kp, (fun kk_ => ([u_35, (xs 1), (xs 2), (xs 3)] : List Int32).getD kk_ 0), D, Wk) [2, 1, 0] hx hb hr hlk hP hD hS (⟨hkp, hDI, hWI⟩) rfl rfl rfl (Nat.le_of_ble_eq_true rfl) (Nat.le_of_ble_eq_true rfl) dX12_admit_33
  · refine lv_if_ne (tgt := 14) hx hb dX12_admit_5 (by decide) (fun c => absurd c (by decide)) (fun _ => ?_)
    refine lv_aload_n hx hb dX12_admit_8 rfl (lv_at hl 0 rfl) ?_
    refine lv_iconst (v := 1) hx hb dX12_admit_9 (by decide) ?_
    refine k_Vi [1] [0, 2] 1 12 (wr := [(z 2, .inl (gI g, 7376, .inl Wk)), (z 1, .inl (gI g, 461, .inl D))]) hx hb hml hown hts hKW hP hD hS hA hl.1 (c_X12_finding_1 l g _ z kp xs ) rfl rfl rfl wd_10_15 wd_1_5 wd_10_12 wd_10_13 wd_10_14 yd_X12_finding ⟨(Nat.le_of_ble_eq_true rfl), (Nat.le_of_ble_eq_true rfl)⟩ rfl rfl rfl rfl (by decide) rfl (Nat.le_of_ble_eq_true rfl) dX12_admit_10 ⟨(Nat.le_of_ble_eq_true rfl), (Nat.le_of_ble_eq_true rfl)⟩ (fun r_37 u_38 H locs hw_39 hP hD hS => ?_)
    have hP : va_P g.1 vwCl [(z 2, .inl (gI g, 7376, .inl Wk)), (z 1, .inl (gI g, 461, .inl D)), (z 0, .inr (12, [.ref (z 1), .ref (z 2), .int (nI kp), .int u_38, .ref (z 3), .ref (z 4), .ref (z 5), .ref (z 6), .int (xs 1), .ref (z 7), .ref (z 8), .ref (z 9), .ref (z 10), .ref (z 11), .ref (z 12), .int (xs 2), .ref (z 13), .ref (z 14), .int (xs 3), .ref (z 15)]))] H := hP
    have hD : va_D A [(z 2, .inl (gI g, 7376, .inl Wk)), (z 1, .inl (gI g, 461, .inl D)), (z 0, .inr (12, [.ref (z 1), .ref (z 2), .int (nI kp), .int u_38, .ref (z 3), .ref (z 4), .ref (z 5), .ref (z 6), .int (xs 1), .ref (z 7), .ref (z 8), .ref (z 9), .ref (z 10), .ref (z 11), .ref (z 12), .int (xs 2), .ref (z 13), .ref (z 14), .int (xs 3), .ref (z 15)]))] := hD
    have hw_39 : r_37 = (-100001) := hw_39
    subst hw_39
    exact k_iret (kp, (fun kk_ => ([u_38, (xs 1), (xs 2), (xs 3)] : List Int32).getD kk_ 0), D, Wk) [2, 1, 0] hx hb hr hlk hP hD hS (⟨hkp, hDI, hWI⟩) rfl rfl rfl (Nat.le_of_ble_eq_true rfl) (Nat.le_of_ble_eq_true rfl) dX12_admit_13
theorem dX12_needed_0 : decode cX12_needed 0 = .ok (.iload_n 1, 1) := by decide +kernel
theorem dX12_needed_1 : decode cX12_needed 1 = .ok (.iconst 0, 1) := by decide +kernel
theorem dX12_needed_2 : decode cX12_needed 2 = .ok (.bipush 59, 2) := by decide +kernel
theorem dX12_needed_4 : decode cX12_needed 4 = .ok (.invokestatic 64, 3) := by decide +kernel
theorem dX12_needed_7 : decode cX12_needed 7 = .ok (.ifCond .eq 23, 3) := by decide +kernel
theorem dX12_needed_10 : decode cX12_needed 10 = .ok (.iload_n 2, 1) := by decide +kernel
theorem dX12_needed_11 : decode cX12_needed 11 = .ok (.iload_n 1, 1) := by decide +kernel
theorem dX12_needed_12 : decode cX12_needed 12 = .ok (.bipush 59, 2) := by decide +kernel
theorem dX12_needed_14 : decode cX12_needed 14 = .ok (.invokestatic 64, 3) := by decide +kernel
theorem dX12_needed_17 : decode cX12_needed 17 = .ok (.ifCond .eq 13, 3) := by decide +kernel
theorem dX12_needed_20 : decode cX12_needed 20 = .ok (.iload_n 3, 1) := by decide +kernel
theorem dX12_needed_21 : decode cX12_needed 21 = .ok (.iconst 0, 1) := by decide +kernel
theorem dX12_needed_22 : decode cX12_needed 22 = .ok (.bipush 8, 2) := by decide +kernel
theorem dX12_needed_24 : decode cX12_needed 24 = .ok (.invokestatic 64, 3) := by decide +kernel
theorem dX12_needed_27 : decode cX12_needed 27 = .ok (.ifCond .ne 9, 3) := by decide +kernel
theorem dX12_needed_36 : decode cX12_needed 36 = .ok (.aload_n 0, 1) := by decide +kernel
theorem dX12_needed_37 : decode cX12_needed 37 = .ok (.invokevirtual 72, 3) := by decide +kernel
theorem dX12_needed_40 : decode cX12_needed 40 = .ok (.iload_n 1, 1) := by decide +kernel
theorem dX12_needed_41 : decode cX12_needed 41 = .ok (.istore 4, 2) := by decide +kernel
theorem dX12_needed_43 : decode cX12_needed 43 = .ok (.iload 4, 2) := by decide +kernel
theorem dX12_needed_45 : decode cX12_needed 45 = .ok (.iload_n 2, 1) := by decide +kernel
theorem dX12_needed_46 : decode cX12_needed 46 = .ok (.if_icmp .gt 21, 3) := by decide +kernel
theorem dX12_needed_67 : decode cX12_needed 67 = .ok (.iload_n 2, 1) := by decide +kernel
theorem dX12_needed_68 : decode cX12_needed 68 = .ok (.iload_n 1, 1) := by decide +kernel
theorem dX12_needed_69 : decode cX12_needed 69 = .ok (.isub, 1) := by decide +kernel
theorem dX12_needed_70 : decode cX12_needed 70 = .ok (.iconst 1, 1) := by decide +kernel
theorem dX12_needed_71 : decode cX12_needed 71 = .ok (.iadd, 1) := by decide +kernel
theorem dX12_needed_72 : decode cX12_needed 72 = .ok (.ireturn, 1) := by decide +kernel
theorem dX12_needed_49 : decode cX12_needed 49 = .ok (.aload_n 0, 1) := by decide +kernel
theorem dX12_needed_50 : decode cX12_needed 50 = .ok (.getfield 7, 3) := by decide +kernel
theorem dX12_needed_53 : decode cX12_needed 53 = .ok (.sipush 147, 3) := by decide +kernel
theorem dX12_needed_56 : decode cX12_needed 56 = .ok (.iload 4, 2) := by decide +kernel
theorem dX12_needed_58 : decode cX12_needed 58 = .ok (.iadd, 1) := by decide +kernel
theorem dX12_needed_59 : decode cX12_needed 59 = .ok (.iload_n 3, 1) := by decide +kernel
theorem dX12_needed_60 : decode cX12_needed 60 = .ok (.iastore, 1) := by decide +kernel
theorem dX12_needed_61 : decode cX12_needed 61 = .ok (.iinc 4 1, 3) := by decide +kernel
theorem dX12_needed_64 : decode cX12_needed 64 = .ok (.goto (-21), 3) := by decide +kernel
theorem dX12_needed_30 : decode cX12_needed 30 = .ok (.aload_n 0, 1) := by decide +kernel
theorem dX12_needed_31 : decode cX12_needed 31 = .ok (.iconst 1, 1) := by decide +kernel
theorem dX12_needed_32 : decode cX12_needed 32 = .ok (.invokevirtual 68, 3) := by decide +kernel
theorem dX12_needed_35 : decode cX12_needed 35 = .ok (.ireturn, 1) := by decide +kernel
set_option maxHeartbeats 8000000 in
set_option maxRecDepth 100000 in
theorem c_X12_needed (l : Launch) (g : kG) (sz : Nat) (z : Nat → Nat) (kp : Nat) (xs : Nat → Int32) (D : Nat → Int32) (Wk : Nat → Int32) (x : Int32) (y : Int32) (w : Int32) (hDI : DI D) (hkp : kp ≤ 16) (hWI : WI Wk kp) : kMi l g yX12_needed cX12_needed 5 (some .int) 4 0 0 [.ref (z 0), .int x, .int y, .int w] sz [(z 0, .inr (12, [.ref (z 1), .ref (z 2), .int (nI kp), .int (xs 0), .ref (z 3), .ref (z 4), .ref (z 5), .ref (z 6), .int (xs 1), .ref (z 7), .ref (z 8), .ref (z 9), .ref (z 10), .ref (z 11), .ref (z 12), .int (xs 2), .ref (z 13), .ref (z 14), .int (xs 3), .ref (z 15)])), (z 1, .inl (gI g, 461, .inl D)), (z 2, .inl (gI g, 7376, .inl Wk))] (fun (r : Int32) (u : Nat × (Nat → Int32) × (Nat → Int32) × (Nat → Int32)) => (r = aNeeded x y w) ∧ (u.1 ≤ 16 ∧ DI u.2.2.1 ∧ WI u.2.2.2 u.1)) (fun (u : Nat × (Nat → Int32) × (Nat → Int32) × (Nat → Int32)) => ([(z 0, .inr (12, [.ref (z 1), .ref (z 2), .int (nI u.1), .int (u.2.1 0), .ref (z 3), .ref (z 4), .ref (z 5), .ref (z 6), .int (u.2.1 1), .ref (z 7), .ref (z 8), .ref (z 9), .ref (z 10), .ref (z 11), .ref (z 12), .int (u.2.1 2), .ref (z 13), .ref (z 14), .int (u.2.1 3), .ref (z 15)])), (z 1, .inl (gI g, 461, .inl u.2.2.1)), (z 2, .inl (gI g, 7376, .inl u.2.2.2))] : va_W)) := by
  refine kMi.of (by decide) (Nat.le_of_ble_eq_true rfl) (fun p e s m below meth c A hx hb hr hml hown hts hlk hnm hKW hP hD hS hA ls hl => ?_)
  have hown : s.vm.findClass RX12 = some m.cls := hown
  have hl : lv_has ls 5 [(0, .ref (z 0)), (1, .int x), (2, .int y), (3, .int w)] := hl
  refine k_hide hP hS (fun H locs hP hS => ?_)
  refine lv_iload_n hx hb dX12_needed_0 rfl (lv_at hl 1 rfl) ?_
  refine lv_iconst (v := 0) hx hb dX12_needed_1 (by decide) ?_
  refine lv_bipush (v := 59) hx hb dX12_needed_2 (by decide) ?_
  refine k_Si [] [0, 1, 2] (wr := [(z 0, .inr (12, [.ref (z 1), .ref (z 2), .int (nI kp), .int (xs 0), .ref (z 3), .ref (z 4), .ref (z 5), .ref (z 6), .int (xs 1), .ref (z 7), .ref (z 8), .ref (z 9), .ref (z 10), .ref (z 11), .ref (z 12), .int (xs 2), .ref (z 13), .ref (z 14), .int (xs 3), .ref (z 15)])), (z 1, .inl (gI g, 461, .inl D)), (z 2, .inl (gI g, 7376, .inl Wk))]) hx hb hml hown hts hKW hP hD hS hA hl.1 (c_X12_isIn l g _ x 0 59 ) wd_10_11 wd_1_5 wd_10_9 wd_10_10 yd_X12_isIn ⟨(Nat.le_of_ble_eq_true rfl), (Nat.le_of_ble_eq_true rfl)⟩ rfl rfl rfl rfl (by decide) rfl (Nat.le_of_ble_eq_true rfl) dX12_needed_4 ⟨(Nat.le_of_ble_eq_true rfl), (Nat.le_of_ble_eq_true rfl)⟩ (fun r_1 u_2 H locs hw_3 hP hD hS => ?_)
  have hP : va_P g.1 vwCl [(z 0, .inr (12, [.ref (z 1), .ref (z 2), .int (nI kp), .int (xs 0), .ref (z 3), .ref (z 4), .ref (z 5), .ref (z 6), .int (xs 1), .ref (z 7), .ref (z 8), .ref (z 9), .ref (z 10), .ref (z 11), .ref (z 12), .int (xs 2), .ref (z 13), .ref (z 14), .int (xs 3), .ref (z 15)])), (z 1, .inl (gI g, 461, .inl D)), (z 2, .inl (gI g, 7376, .inl Wk))] H := hP
  have hD : va_D A [(z 0, .inr (12, [.ref (z 1), .ref (z 2), .int (nI kp), .int (xs 0), .ref (z 3), .ref (z 4), .ref (z 5), .ref (z 6), .int (xs 1), .ref (z 7), .ref (z 8), .ref (z 9), .ref (z 10), .ref (z 11), .ref (z 12), .int (xs 2), .ref (z 13), .ref (z 14), .int (xs 3), .ref (z 15)])), (z 1, .inl (gI g, 461, .inl D)), (z 2, .inl (gI g, 7376, .inl Wk))] := hD
  rcases (show (r_1 = 1 ∧ (Int32.toInt 0 ≤ Int32.toInt x ∧ Int32.toInt x ≤ Int32.toInt 59)) ∨ (r_1 = 0 ∧ ¬ (Int32.toInt 0 ≤ Int32.toInt x ∧ Int32.toInt x ≤ Int32.toInt 59)) from hw_3) with ⟨rfl, hw_3b⟩ | ⟨rfl, hw_3b⟩ <;> clear hw_3
  · refine lv_if_eq (tgt := 30) hx hb dX12_needed_7 (by decide) (fun c => absurd c (by decide)) (fun _ => ?_)
    refine lv_iload_n hx hb dX12_needed_10 rfl (lv_at hl 2 rfl) ?_
    refine lv_iload_n hx hb dX12_needed_11 rfl (lv_at hl 1 rfl) ?_
    refine lv_bipush (v := 59) hx hb dX12_needed_12 (by decide) ?_
    refine k_Si [] [0, 1, 2] (wr := [(z 0, .inr (12, [.ref (z 1), .ref (z 2), .int (nI kp), .int (xs 0), .ref (z 3), .ref (z 4), .ref (z 5), .ref (z 6), .int (xs 1), .ref (z 7), .ref (z 8), .ref (z 9), .ref (z 10), .ref (z 11), .ref (z 12), .int (xs 2), .ref (z 13), .ref (z 14), .int (xs 3), .ref (z 15)])), (z 1, .inl (gI g, 461, .inl D)), (z 2, .inl (gI g, 7376, .inl Wk))]) hx hb hml hown hts hKW hP hD hS hA hl.1 (c_X12_isIn l g _ y x 59 ) wd_10_11 wd_1_5 wd_10_9 wd_10_10 yd_X12_isIn ⟨(Nat.le_of_ble_eq_true rfl), (Nat.le_of_ble_eq_true rfl)⟩ rfl rfl rfl rfl (by decide) rfl (Nat.le_of_ble_eq_true rfl) dX12_needed_14 ⟨(Nat.le_of_ble_eq_true rfl), (Nat.le_of_ble_eq_true rfl)⟩ (fun r_4 u_5 H locs hw_6 hP hD hS => ?_)
    have hP : va_P g.1 vwCl [(z 0, .inr (12, [.ref (z 1), .ref (z 2), .int (nI kp), .int (xs 0), .ref (z 3), .ref (z 4), .ref (z 5), .ref (z 6), .int (xs 1), .ref (z 7), .ref (z 8), .ref (z 9), .ref (z 10), .ref (z 11), .ref (z 12), .int (xs 2), .ref (z 13), .ref (z 14), .int (xs 3), .ref (z 15)])), (z 1, .inl (gI g, 461, .inl D)), (z 2, .inl (gI g, 7376, .inl Wk))] H := hP
    have hD : va_D A [(z 0, .inr (12, [.ref (z 1), .ref (z 2), .int (nI kp), .int (xs 0), .ref (z 3), .ref (z 4), .ref (z 5), .ref (z 6), .int (xs 1), .ref (z 7), .ref (z 8), .ref (z 9), .ref (z 10), .ref (z 11), .ref (z 12), .int (xs 2), .ref (z 13), .ref (z 14), .int (xs 3), .ref (z 15)])), (z 1, .inl (gI g, 461, .inl D)), (z 2, .inl (gI g, 7376, .inl Wk))] := hD
    rcases (show (r_4 = 1 ∧ (Int32.toInt x ≤ Int32.toInt y ∧ Int32.toInt y ≤ Int32.toInt 59)) ∨ (r_4 = 0 ∧ ¬ (Int32.toInt x ≤ Int32.toInt y ∧ Int32.toInt y ≤ Int32.toInt 59)) from hw_6) with ⟨rfl, hw_6b⟩ | ⟨rfl, hw_6b⟩ <;> clear hw_6
    · refine lv_if_eq (tgt := 30) hx hb dX12_needed_17 (by decide) (fun c => absurd c (by decide)) (fun _ => ?_)
      refine lv_iload_n hx hb dX12_needed_20 rfl (lv_at hl 3 rfl) ?_
      refine lv_iconst (v := 0) hx hb dX12_needed_21 (by decide) ?_
      refine lv_bipush (v := 8) hx hb dX12_needed_22 (by decide) ?_
      refine k_Si [] [0, 1, 2] (wr := [(z 0, .inr (12, [.ref (z 1), .ref (z 2), .int (nI kp), .int (xs 0), .ref (z 3), .ref (z 4), .ref (z 5), .ref (z 6), .int (xs 1), .ref (z 7), .ref (z 8), .ref (z 9), .ref (z 10), .ref (z 11), .ref (z 12), .int (xs 2), .ref (z 13), .ref (z 14), .int (xs 3), .ref (z 15)])), (z 1, .inl (gI g, 461, .inl D)), (z 2, .inl (gI g, 7376, .inl Wk))]) hx hb hml hown hts hKW hP hD hS hA hl.1 (c_X12_isIn l g _ w 0 8 ) wd_10_11 wd_1_5 wd_10_9 wd_10_10 yd_X12_isIn ⟨(Nat.le_of_ble_eq_true rfl), (Nat.le_of_ble_eq_true rfl)⟩ rfl rfl rfl rfl (by decide) rfl (Nat.le_of_ble_eq_true rfl) dX12_needed_24 ⟨(Nat.le_of_ble_eq_true rfl), (Nat.le_of_ble_eq_true rfl)⟩ (fun r_7 u_8 H locs hw_9 hP hD hS => ?_)
      have hP : va_P g.1 vwCl [(z 0, .inr (12, [.ref (z 1), .ref (z 2), .int (nI kp), .int (xs 0), .ref (z 3), .ref (z 4), .ref (z 5), .ref (z 6), .int (xs 1), .ref (z 7), .ref (z 8), .ref (z 9), .ref (z 10), .ref (z 11), .ref (z 12), .int (xs 2), .ref (z 13), .ref (z 14), .int (xs 3), .ref (z 15)])), (z 1, .inl (gI g, 461, .inl D)), (z 2, .inl (gI g, 7376, .inl Wk))] H := hP
      have hD : va_D A [(z 0, .inr (12, [.ref (z 1), .ref (z 2), .int (nI kp), .int (xs 0), .ref (z 3), .ref (z 4), .ref (z 5), .ref (z 6), .int (xs 1), .ref (z 7), .ref (z 8), .ref (z 9), .ref (z 10), .ref (z 11), .ref (z 12), .int (xs 2), .ref (z 13), .ref (z 14), .int (xs 3), .ref (z 15)])), (z 1, .inl (gI g, 461, .inl D)), (z 2, .inl (gI g, 7376, .inl Wk))] := hD
      rcases (show (r_7 = 1 ∧ (Int32.toInt 0 ≤ Int32.toInt w ∧ Int32.toInt w ≤ Int32.toInt 8)) ∨ (r_7 = 0 ∧ ¬ (Int32.toInt 0 ≤ Int32.toInt w ∧ Int32.toInt w ≤ Int32.toInt 8)) from hw_9) with ⟨rfl, hw_9b⟩ | ⟨rfl, hw_9b⟩ <;> clear hw_9
      · refine lv_if_ne (tgt := 36) hx hb dX12_needed_27 (by decide) (fun _ => ?_) (fun c => absurd c (by decide))
        have htt : Int32.toInt y < (60 : Nat) := (by clear hP hD hS hA hts hKW hl hDI hWI; (first | omega | (simp only [Int32.lt_iff_toInt_lt, Int32.le_iff_toInt_le, ← Int32.toInt_inj] at *; omega) | (simp only [Int32.lt_iff_toInt_lt, Int32.le_iff_toInt_le, ← Int32.toInt_inj] at *; simp at *; omega) | (simp only [Int32.lt_iff_toInt_lt, Int32.le_iff_toInt_le, ← Int32.toInt_inj] at *; simp at *; done) | (simp at *; omega) | (simp at *; done)))
        have hw8 : kRg 0 8 w := hw_9b
        have hfin : aNeeded x y w = y - x + 1 := (by clear hP hD hS hA hts hKW hl hDI hWI; unfold aNeeded; split <;> first | rfl | (exfalso; (first | omega | (simp only [Int32.lt_iff_toInt_lt, Int32.le_iff_toInt_le, ← Int32.toInt_inj] at *; omega) | (simp only [Int32.lt_iff_toInt_lt, Int32.le_iff_toInt_le, ← Int32.toInt_inj] at *; simp at *; omega) | (simp only [Int32.lt_iff_toInt_lt, Int32.le_iff_toInt_le, ← Int32.toInt_inj] at *; simp at *; done) | (simp at *; omega) | (simp at *; done))))
        have hjx : ∃ j : Nat, j < 60 ∧ x = nI j := k_ofr (by decide) (by clear hP hD hS hA hts hKW hl hDI hWI; (first | omega | (simp only [Int32.lt_iff_toInt_lt, Int32.le_iff_toInt_le, ← Int32.toInt_inj] at *; omega) | (simp only [Int32.lt_iff_toInt_lt, Int32.le_iff_toInt_le, ← Int32.toInt_inj] at *; simp at *; omega) | (simp only [Int32.lt_iff_toInt_lt, Int32.le_iff_toInt_le, ← Int32.toInt_inj] at *; simp at *; done) | (simp at *; omega) | (simp at *; done)))
        refine lv_aload_n hx hb dX12_needed_36 rfl (lv_at hl 0 rfl) ?_
        refine k_Vv [0, 1, 2] [] 0 12 (wr := []) hx hb hml hown hts hKW hP hD hS hA hl.1 (c_X12_keep l g _ z kp xs D Wk (by first | assumption | omega | decide) (by first | assumption | omega | decide) (by first | assumption | omega | decide)) rfl rfl rfl wd_10_21 wd_1_5 wd_10_18 wd_10_19 wd_10_20 yd_X12_keep ⟨(Nat.le_of_ble_eq_true rfl), (Nat.le_of_ble_eq_true rfl)⟩ rfl rfl rfl rfl (by decide) rfl (Nat.le_of_ble_eq_true rfl) dX12_needed_37 ⟨(Nat.le_of_ble_eq_true rfl), (Nat.le_of_ble_eq_true rfl)⟩ (fun u_11 H locs hw_12 hP hD hS => ?_)
        obtain ⟨q_13, f_14⟩ := u_11
        have hP : va_P g.1 vwCl [(z 0, .inr (12, [.ref (z 1), .ref (z 2), .int (nI q_13), .int (xs 0), .ref (z 3), .ref (z 4), .ref (z 5), .ref (z 6), .int (xs 1), .ref (z 7), .ref (z 8), .ref (z 9), .ref (z 10), .ref (z 11), .ref (z 12), .int (xs 2), .ref (z 13), .ref (z 14), .int (xs 3), .ref (z 15)])), (z 1, .inl (gI g, 461, .inl D)), (z 2, .inl (gI g, 7376, .inl f_14))] H := hP
        have hD : va_D A [(z 0, .inr (12, [.ref (z 1), .ref (z 2), .int (nI q_13), .int (xs 0), .ref (z 3), .ref (z 4), .ref (z 5), .ref (z 6), .int (xs 1), .ref (z 7), .ref (z 8), .ref (z 9), .ref (z 10), .ref (z 11), .ref (z 12), .int (xs 2), .ref (z 13), .ref (z 14), .int (xs 3), .ref (z 15)])), (z 1, .inl (gI g, 461, .inl D)), (z 2, .inl (gI g, 7376, .inl f_14))] := hD
        have hw_12 : q_13 ≤ 16 ∧ WI f_14 q_13 := hw_12
        obtain ⟨hkk, hkW⟩ := hw_12
        obtain ⟨jx, hjx, rfl⟩ := hjx
        refine lv_iload_n hx hb dX12_needed_40 rfl (lv_at hl 1 rfl) ?_
        refine lv_istore (lv' := [(4, .int (nI jx)), (0, .ref (z 0)), (1, .int (nI jx)), (2, .int y), (3, .int w)]) hx hb dX12_needed_41 hl (by decide) rfl (fun ls hl => ?_)
        have L43 : ∀ (n43 : Nat) (i : Nat) (Da : Nat → Int32) (hfuel43 : 60 - i < n43) (hi : i ≤ 60) (hDa : DI Da) (H : Heap) (locs : List Loc) (hP : va_P g.1 vwCl [(z 0, .inr (12, [.ref (z 1), .ref (z 2), .int (nI q_13), .int (xs 0), .ref (z 3), .ref (z 4), .ref (z 5), .ref (z 6), .int (xs 1), .ref (z 7), .ref (z 8), .ref (z 9), .ref (z 10), .ref (z 11), .ref (z 12), .int (xs 2), .ref (z 13), .ref (z 14), .int (xs 3), .ref (z 15)])), (z 1, .inl (gI g, 461, .inl Da)), (z 2, .inl (gI g, 7376, .inl f_14))] H) (hD : va_D A [(z 0, .inr (12, [.ref (z 1), .ref (z 2), .int (nI q_13), .int (xs 0), .ref (z 3), .ref (z 4), .ref (z 5), .ref (z 6), .int (xs 1), .ref (z 7), .ref (z 8), .ref (z 9), .ref (z 10), .ref (z 11), .ref (z 12), .int (xs 2), .ref (z 13), .ref (z 14), .int (xs 3), .ref (z 15)])), (z 1, .inl (gI g, 461, .inl Da)), (z 2, .inl (gI g, 7376, .inl f_14))]) (hS : va_S A s.heap H locs) (ls : Array Slot) (hl : lv_has ls 5 [(4, .int (nI i)), (0, .ref (z 0)), (1, .int (nI jx)), (2, .int y), (3, .int w)]), W p l e (kR 4 0 0) s m ([.ref (z 0), .int (nI jx), .int y, .int w] : List Value).toArray below meth c H locs 0 0 (kQi g A below ([.ref (z 0), .int (nI jx), .int y, .int w] : List Value).toArray s 0 0 (fun (r : Int32) (u : Nat × (Nat → Int32) × (Nat → Int32) × (Nat → Int32)) => (r = aNeeded (nI jx) y w) ∧ (u.1 ≤ 16 ∧ DI u.2.2.1 ∧ WI u.2.2.2 u.1)) (fun (u : Nat × (Nat → Int32) × (Nat → Int32) × (Nat → Int32)) => ([(z 0, .inr (12, [.ref (z 1), .ref (z 2), .int (nI u.1), .int (u.2.1 0), .ref (z 3), .ref (z 4), .ref (z 5), .ref (z 6), .int (u.2.1 1), .ref (z 7), .ref (z 8), .ref (z 9), .ref (z 10), .ref (z 11), .ref (z 12), .int (u.2.1 2), .ref (z 13), .ref (z 14), .int (u.2.1 3), .ref (z 15)])), (z 1, .inl (gI g, 461, .inl u.2.2.1)), (z 2, .inl (gI g, 7376, .inl u.2.2.2))] : va_W))) (F0 m 43 ls []) := by
          intro n43
          induction n43 with
          | zero => intro i Da hfuel43; exact absurd hfuel43 (Nat.not_lt_zero _)
          | succ n43 ih43 =>
            intro i Da hfuel43 hi hDa H locs hP hD hS ls hl
            refine lv_iload hx hb dX12_needed_43 (lv_at hl 0 rfl) ?_
            refine lv_iload_n hx hb dX12_needed_45 rfl (lv_at hl 3 rfl) ?_
            refine lv_icmp_gt (tgt := 67) hx hb dX12_needed_46 (by decide) (fun c_15 => ?_) (fun c_15 => ?_)
            · refine lv_iload_n hx hb dX12_needed_67 rfl (lv_at hl 3 rfl) ?_
              refine lv_iload_n hx hb dX12_needed_68 rfl (lv_at hl 2 rfl) ?_
              refine lv_isub hx hb dX12_needed_69 ?_
              refine k_top (y := y - (nI jx)) rfl ?_
              refine lv_iconst (v := 1) hx hb dX12_needed_70 (by decide) ?_
              refine lv_iadd hx hb dX12_needed_71 ?_
              refine k_top (y := (y - (nI jx)) + 1) rfl ?_
              exact k_iret (q_13, xs, Da, f_14) [0, 1, 2] hx hb hr hlk hP hD hS (⟨hfin.symm, hkk, hDa, hkW⟩) rfl rfl rfl (Nat.le_of_ble_eq_true rfl) (Nat.le_of_ble_eq_true rfl) dX12_needed_72
            · have hlt : i < 60 := k_lew (by decide) hi htt c_15
              refine lv_aload_n hx hb dX12_needed_49 rfl (lv_at hl 1 rfl) ?_
              refine va_get (ci := 12) (C := RX12) (T := TX12) (N := 20) hx hb hts inlX12 hown hKW.1 hP 0 rfl rfl 0 (by decide) (hts _ wd_6_5) (fun _ h => h) rfl dX12_needed_50 ?_
              refine lv_sipush (v := 147) hx hb dX12_needed_53 (by decide) ?_
              refine lv_iload hx hb dX12_needed_56 (lv_at hl 0 rfl) ?_
              refine lv_iadd hx hb dX12_needed_58 ?_
              refine k_top (y := nI (i + 147)) (by rw [Nat.add_comm]; exact nI_add 147 i) ?_
              refine lv_iload_n hx hb dX12_needed_59 rfl (lv_at hl 4 rfl) ?_
              refine va_iast hx hb hKW.1 hP hD hS 1 0 rfl rfl (vp_in_nI (by omega) (by decide)) dX12_needed_60 (fun H locs hP hD hS => ?_)
              have hP : va_P g.1 vwCl [(z 0, .inr (12, [.ref (z 1), .ref (z 2), .int (nI q_13), .int (xs 0), .ref (z 3), .ref (z 4), .ref (z 5), .ref (z 6), .int (xs 1), .ref (z 7), .ref (z 8), .ref (z 9), .ref (z 10), .ref (z 11), .ref (z 12), .int (xs 2), .ref (z 13), .ref (z 14), .int (xs 3), .ref (z 15)])), (z 1, .inl (gI g, 461, .inl (upd Da (nI (i + 147)).toNatClampNeg w))), (z 2, .inl (gI g, 7376, .inl f_14))] H := hP
              have hD : va_D A [(z 0, .inr (12, [.ref (z 1), .ref (z 2), .int (nI q_13), .int (xs 0), .ref (z 3), .ref (z 4), .ref (z 5), .ref (z 6), .int (xs 1), .ref (z 7), .ref (z 8), .ref (z 9), .ref (z 10), .ref (z 11), .ref (z 12), .int (xs 2), .ref (z 13), .ref (z 14), .int (xs 3), .ref (z 15)])), (z 1, .inl (gI g, 461, .inl (upd Da (nI (i + 147)).toNatClampNeg w))), (z 2, .inl (gI g, 7376, .inl f_14))] := hD
              obtain ⟨f_16, ef_16⟩ : ∃ zz_ : Nat → Int32, zz_ = upd Da (nI (i + 147)).toNatClampNeg w := ⟨_, rfl⟩
              rw [← ef_16] at hP hD
              have hDf_16 : DI f_16 := DI.upd (i := (i + 147)) (x := w) hDa (by rw [ef_16, nI_clamp (by omega)]) (h0 := (fun q => absurd q (by omega))) (h1 := (fun q => absurd q (by omega))) (h2 := (fun q => absurd q (by omega))) (h5 := (fun q => absurd q (by omega))) (h6 := (fun q => absurd q (by omega))) (h7 := (fun q => absurd q (by omega))) (h10 := (fun q => absurd q (by omega))) (hf := (fun q q2 => False.elim (by omega))) (hn := (fun _ _ => hw8)) (ht := (fun q q2 => False.elim (by omega))) (hl := (fun q q2 => False.elim (by omega))) (h8 := (by omega))
              refine lv_iinc (v := nI (i + 1)) (lv' := [(4, .int (nI (i + 1))), (0, .ref (z 0)), (1, .int (nI jx)), (2, .int y), (3, .int w)]) hx hb dX12_needed_61 hl (k := 0) rfl (nI_add i 1) (by decide) rfl (fun ls hl => ?_)
              refine lv_goto (tgt := 43) hx hb dX12_needed_64 (by decide) ?_
              exact ih43 (i + 1) f_16 (by omega) (by first | assumption | omega) hDf_16 H locs (hP.sub [0, 1, 2] rfl) (hD.sub [0, 1, 2] (by decide) rfl) hS ls (lv_sub hl [0, 1, 2, 3, 4] rfl)
        exact L43 (60 - jx + 1) jx D (Nat.lt_succ_self _) (by first | assumption | omega) hDI H locs (hP.sub [0, 1, 2] rfl) (hD.sub [0, 1, 2] (by decide) rfl) hS ls (lv_sub hl [0, 1, 2, 3, 4] rfl)
      · refine lv_if_ne (tgt := 36) hx hb dX12_needed_27 (by decide) (fun c => absurd c (by decide)) (fun _ => ?_)
        refine lv_aload_n hx hb dX12_needed_30 rfl (lv_at hl 0 rfl) ?_
        refine lv_iconst (v := 1) hx hb dX12_needed_31 (by decide) ?_
        refine k_Vi [0] [1, 2] 0 12 (wr := [(z 1, .inl (gI g, 461, .inl D)), (z 2, .inl (gI g, 7376, .inl Wk))]) hx hb hml hown hts hKW hP hD hS hA hl.1 (c_X12_finding_1 l g _ z kp xs ) rfl rfl rfl wd_10_15 wd_1_5 wd_10_12 wd_10_13 wd_10_14 yd_X12_finding ⟨(Nat.le_of_ble_eq_true rfl), (Nat.le_of_ble_eq_true rfl)⟩ rfl rfl rfl rfl (by decide) rfl (Nat.le_of_ble_eq_true rfl) dX12_needed_32 ⟨(Nat.le_of_ble_eq_true rfl), (Nat.le_of_ble_eq_true rfl)⟩ (fun r_17 u_18 H locs hw_19 hP hD hS => ?_)
        have hP : va_P g.1 vwCl [(z 1, .inl (gI g, 461, .inl D)), (z 2, .inl (gI g, 7376, .inl Wk)), (z 0, .inr (12, [.ref (z 1), .ref (z 2), .int (nI kp), .int u_18, .ref (z 3), .ref (z 4), .ref (z 5), .ref (z 6), .int (xs 1), .ref (z 7), .ref (z 8), .ref (z 9), .ref (z 10), .ref (z 11), .ref (z 12), .int (xs 2), .ref (z 13), .ref (z 14), .int (xs 3), .ref (z 15)]))] H := hP
        have hD : va_D A [(z 1, .inl (gI g, 461, .inl D)), (z 2, .inl (gI g, 7376, .inl Wk)), (z 0, .inr (12, [.ref (z 1), .ref (z 2), .int (nI kp), .int u_18, .ref (z 3), .ref (z 4), .ref (z 5), .ref (z 6), .int (xs 1), .ref (z 7), .ref (z 8), .ref (z 9), .ref (z 10), .ref (z 11), .ref (z 12), .int (xs 2), .ref (z 13), .ref (z 14), .int (xs 3), .ref (z 15)]))] := hD
        have hw_19 : r_17 = (-100001) := hw_19
        subst hw_19
        exact k_iret (kp, (fun kk_ => ([u_18, (xs 1), (xs 2), (xs 3)] : List Int32).getD kk_ 0), D, Wk) [2, 0, 1] hx hb hr hlk hP hD hS (⟨(by clear hP hD hS hA hts hKW hl hDI hWI; unfold aNeeded; split <;> first | rfl | (exfalso; (first | omega | (simp only [Int32.lt_iff_toInt_lt, Int32.le_iff_toInt_le, ← Int32.toInt_inj] at *; omega) | (simp only [Int32.lt_iff_toInt_lt, Int32.le_iff_toInt_le, ← Int32.toInt_inj] at *; simp at *; omega) | (simp only [Int32.lt_iff_toInt_lt, Int32.le_iff_toInt_le, ← Int32.toInt_inj] at *; simp at *; done) | (simp at *; omega) | (simp at *; done)))), hkp, hDI, hWI⟩) rfl rfl rfl (Nat.le_of_ble_eq_true rfl) (Nat.le_of_ble_eq_true rfl) dX12_needed_35
    · refine lv_if_eq (tgt := 30) hx hb dX12_needed_17 (by decide) (fun _ => ?_) (fun c => absurd c (by decide))
      refine lv_aload_n hx hb dX12_needed_30 rfl (lv_at hl 0 rfl) ?_
      refine lv_iconst (v := 1) hx hb dX12_needed_31 (by decide) ?_
      refine k_Vi [0] [1, 2] 0 12 (wr := [(z 1, .inl (gI g, 461, .inl D)), (z 2, .inl (gI g, 7376, .inl Wk))]) hx hb hml hown hts hKW hP hD hS hA hl.1 (c_X12_finding_1 l g _ z kp xs ) rfl rfl rfl wd_10_15 wd_1_5 wd_10_12 wd_10_13 wd_10_14 yd_X12_finding ⟨(Nat.le_of_ble_eq_true rfl), (Nat.le_of_ble_eq_true rfl)⟩ rfl rfl rfl rfl (by decide) rfl (Nat.le_of_ble_eq_true rfl) dX12_needed_32 ⟨(Nat.le_of_ble_eq_true rfl), (Nat.le_of_ble_eq_true rfl)⟩ (fun r_20 u_21 H locs hw_22 hP hD hS => ?_)
      have hP : va_P g.1 vwCl [(z 1, .inl (gI g, 461, .inl D)), (z 2, .inl (gI g, 7376, .inl Wk)), (z 0, .inr (12, [.ref (z 1), .ref (z 2), .int (nI kp), .int u_21, .ref (z 3), .ref (z 4), .ref (z 5), .ref (z 6), .int (xs 1), .ref (z 7), .ref (z 8), .ref (z 9), .ref (z 10), .ref (z 11), .ref (z 12), .int (xs 2), .ref (z 13), .ref (z 14), .int (xs 3), .ref (z 15)]))] H := hP
      have hD : va_D A [(z 1, .inl (gI g, 461, .inl D)), (z 2, .inl (gI g, 7376, .inl Wk)), (z 0, .inr (12, [.ref (z 1), .ref (z 2), .int (nI kp), .int u_21, .ref (z 3), .ref (z 4), .ref (z 5), .ref (z 6), .int (xs 1), .ref (z 7), .ref (z 8), .ref (z 9), .ref (z 10), .ref (z 11), .ref (z 12), .int (xs 2), .ref (z 13), .ref (z 14), .int (xs 3), .ref (z 15)]))] := hD
      have hw_22 : r_20 = (-100001) := hw_22
      subst hw_22
      exact k_iret (kp, (fun kk_ => ([u_21, (xs 1), (xs 2), (xs 3)] : List Int32).getD kk_ 0), D, Wk) [2, 0, 1] hx hb hr hlk hP hD hS (⟨(by clear hP hD hS hA hts hKW hl hDI hWI; unfold aNeeded; split <;> first | rfl | (exfalso; (first | omega | (simp only [Int32.lt_iff_toInt_lt, Int32.le_iff_toInt_le, ← Int32.toInt_inj] at *; omega) | (simp only [Int32.lt_iff_toInt_lt, Int32.le_iff_toInt_le, ← Int32.toInt_inj] at *; simp at *; omega) | (simp only [Int32.lt_iff_toInt_lt, Int32.le_iff_toInt_le, ← Int32.toInt_inj] at *; simp at *; done) | (simp at *; omega) | (simp at *; done)))), hkp, hDI, hWI⟩) rfl rfl rfl (Nat.le_of_ble_eq_true rfl) (Nat.le_of_ble_eq_true rfl) dX12_needed_35
  · refine lv_if_eq (tgt := 30) hx hb dX12_needed_7 (by decide) (fun _ => ?_) (fun c => absurd c (by decide))
    refine lv_aload_n hx hb dX12_needed_30 rfl (lv_at hl 0 rfl) ?_
    refine lv_iconst (v := 1) hx hb dX12_needed_31 (by decide) ?_
    refine k_Vi [0] [1, 2] 0 12 (wr := [(z 1, .inl (gI g, 461, .inl D)), (z 2, .inl (gI g, 7376, .inl Wk))]) hx hb hml hown hts hKW hP hD hS hA hl.1 (c_X12_finding_1 l g _ z kp xs ) rfl rfl rfl wd_10_15 wd_1_5 wd_10_12 wd_10_13 wd_10_14 yd_X12_finding ⟨(Nat.le_of_ble_eq_true rfl), (Nat.le_of_ble_eq_true rfl)⟩ rfl rfl rfl rfl (by decide) rfl (Nat.le_of_ble_eq_true rfl) dX12_needed_32 ⟨(Nat.le_of_ble_eq_true rfl), (Nat.le_of_ble_eq_true rfl)⟩ (fun r_23 u_24 H locs hw_25 hP hD hS => ?_)
    have hP : va_P g.1 vwCl [(z 1, .inl (gI g, 461, .inl D)), (z 2, .inl (gI g, 7376, .inl Wk)), (z 0, .inr (12, [.ref (z 1), .ref (z 2), .int (nI kp), .int u_24, .ref (z 3), .ref (z 4), .ref (z 5), .ref (z 6), .int (xs 1), .ref (z 7), .ref (z 8), .ref (z 9), .ref (z 10), .ref (z 11), .ref (z 12), .int (xs 2), .ref (z 13), .ref (z 14), .int (xs 3), .ref (z 15)]))] H := hP
    have hD : va_D A [(z 1, .inl (gI g, 461, .inl D)), (z 2, .inl (gI g, 7376, .inl Wk)), (z 0, .inr (12, [.ref (z 1), .ref (z 2), .int (nI kp), .int u_24, .ref (z 3), .ref (z 4), .ref (z 5), .ref (z 6), .int (xs 1), .ref (z 7), .ref (z 8), .ref (z 9), .ref (z 10), .ref (z 11), .ref (z 12), .int (xs 2), .ref (z 13), .ref (z 14), .int (xs 3), .ref (z 15)]))] := hD
    have hw_25 : r_23 = (-100001) := hw_25
    subst hw_25
    exact k_iret (kp, (fun kk_ => ([u_24, (xs 1), (xs 2), (xs 3)] : List Int32).getD kk_ 0), D, Wk) [2, 0, 1] hx hb hr hlk hP hD hS (⟨(by clear hP hD hS hA hts hKW hl hDI hWI; unfold aNeeded; split <;> first | rfl | (exfalso; (first | omega | (simp only [Int32.lt_iff_toInt_lt, Int32.le_iff_toInt_le, ← Int32.toInt_inj] at *; omega) | (simp only [Int32.lt_iff_toInt_lt, Int32.le_iff_toInt_le, ← Int32.toInt_inj] at *; simp at *; omega) | (simp only [Int32.lt_iff_toInt_lt, Int32.le_iff_toInt_le, ← Int32.toInt_inj] at *; simp at *; done) | (simp at *; omega) | (simp at *; done)))), hkp, hDI, hWI⟩) rfl rfl rfl (Nat.le_of_ble_eq_true rfl) (Nat.le_of_ble_eq_true rfl) dX12_needed_35
