theorem dX12_can_0 : decode cX12_can 0 = .ok (.iload_n 2, 1) := by decide +kernel
theorem dX12_can_1 : decode cX12_can 1 = .ok (.istore_n 3, 1) := by decide +kernel
theorem dX12_can_2 : decode cX12_can 2 = .ok (.iload_n 3, 1) := by decide +kernel
theorem dX12_can_3 : decode cX12_can 3 = .ok (.aload_n 0, 1) := by decide +kernel
theorem dX12_can_4 : decode cX12_can 4 = .ok (.getfield 7, 3) := by decide +kernel
theorem dX12_can_7 : decode cX12_can 7 = .ok (.bipush 87, 2) := by decide +kernel
theorem dX12_can_9 : decode cX12_can 9 = .ok (.iload_n 1, 1) := by decide +kernel
theorem dX12_can_10 : decode cX12_can 10 = .ok (.iadd, 1) := by decide +kernel
theorem dX12_can_11 : decode cX12_can 11 = .ok (.iaload, 1) := by decide +kernel
theorem dX12_can_12 : decode cX12_can 12 = .ok (.if_icmp .gt 81, 3) := by decide +kernel
theorem dX12_can_93 : decode cX12_can 93 = .ok (.iconst 1, 1) := by decide +kernel
theorem dX12_can_94 : decode cX12_can 94 = .ok (.ireturn, 1) := by decide +kernel
theorem dX12_can_15 : decode cX12_can 15 = .ok (.aload_n 0, 1) := by decide +kernel
theorem dX12_can_16 : decode cX12_can 16 = .ok (.iload_n 1, 1) := by decide +kernel
theorem dX12_can_17 : decode cX12_can 17 = .ok (.iload_n 3, 1) := by decide +kernel
theorem dX12_can_18 : decode cX12_can 18 = .ok (.invokevirtual 92, 3) := by decide +kernel
theorem dX12_can_21 : decode cX12_can 21 = .ok (.istore 4, 2) := by decide +kernel
theorem dX12_can_23 : decode cX12_can 23 = .ok (.iconst 0, 1) := by decide +kernel
theorem dX12_can_24 : decode cX12_can 24 = .ok (.istore 5, 2) := by decide +kernel
theorem dX12_can_26 : decode cX12_can 26 = .ok (.iload 5, 2) := by decide +kernel
theorem dX12_can_28 : decode cX12_can 28 = .ok (.iconst 5, 1) := by decide +kernel
theorem dX12_can_29 : decode cX12_can 29 = .ok (.if_icmp .ge 58, 3) := by decide +kernel
theorem dX12_can_87 : decode cX12_can 87 = .ok (.iinc 3 1, 3) := by decide +kernel
theorem dX12_can_90 : decode cX12_can 90 = .ok (.goto (-88), 3) := by decide +kernel
theorem dX12_can_32 : decode cX12_can 32 = .ok (.iload 4, 2) := by decide +kernel
theorem dX12_can_34 : decode cX12_can 34 = .ok (.ifCond .lt 53, 3) := by decide +kernel
theorem dX12_can_37 : decode cX12_can 37 = .ok (.aload_n 0, 1) := by decide +kernel
theorem dX12_can_38 : decode cX12_can 38 = .ok (.getfield 7, 3) := by decide +kernel
theorem dX12_can_41 : decode cX12_can 41 = .ok (.bipush 67, 2) := by decide +kernel
theorem dX12_can_43 : decode cX12_can 43 = .ok (.iload_n 1, 1) := by decide +kernel
theorem dX12_can_44 : decode cX12_can 44 = .ok (.iadd, 1) := by decide +kernel
theorem dX12_can_45 : decode cX12_can 45 = .ok (.iaload, 1) := by decide +kernel
theorem dX12_can_46 : decode cX12_can 46 = .ok (.iload 5, 2) := by decide +kernel
theorem dX12_can_48 : decode cX12_can 48 = .ok (.ishr, 1) := by decide +kernel
theorem dX12_can_49 : decode cX12_can 49 = .ok (.iconst 1, 1) := by decide +kernel
theorem dX12_can_50 : decode cX12_can 50 = .ok (.iand, 1) := by decide +kernel
theorem dX12_can_51 : decode cX12_can 51 = .ok (.iconst 1, 1) := by decide +kernel
theorem dX12_can_52 : decode cX12_can 52 = .ok (.if_icmp .ne 29, 3) := by decide +kernel
theorem dX12_can_81 : decode cX12_can 81 = .ok (.iinc 5 1, 3) := by decide +kernel
theorem dX12_can_84 : decode cX12_can 84 = .ok (.goto (-58), 3) := by decide +kernel
theorem dX12_can_55 : decode cX12_can 55 = .ok (.aload_n 0, 1) := by decide +kernel
theorem dX12_can_56 : decode cX12_can 56 = .ok (.iload 4, 2) := by decide +kernel
theorem dX12_can_58 : decode cX12_can 58 = .ok (.iload 5, 2) := by decide +kernel
theorem dX12_can_60 : decode cX12_can 60 = .ok (.iload_n 3, 1) := by decide +kernel
theorem dX12_can_61 : decode cX12_can 61 = .ok (.invokevirtual 180, 3) := by decide +kernel
theorem dX12_can_64 : decode cX12_can 64 = .ok (.iconst 1, 1) := by decide +kernel
theorem dX12_can_65 : decode cX12_can 65 = .ok (.iadd, 1) := by decide +kernel
theorem dX12_can_66 : decode cX12_can 66 = .ok (.aload_n 0, 1) := by decide +kernel
theorem dX12_can_67 : decode cX12_can 67 = .ok (.getfield 7, 3) := by decide +kernel
theorem dX12_can_70 : decode cX12_can 70 = .ok (.bipush 21, 2) := by decide +kernel
theorem dX12_can_72 : decode cX12_can 72 = .ok (.iload 4, 2) := by decide +kernel
theorem dX12_can_74 : decode cX12_can 74 = .ok (.iadd, 1) := by decide +kernel
theorem dX12_can_75 : decode cX12_can 75 = .ok (.iaload, 1) := by decide +kernel
theorem dX12_can_76 : decode cX12_can 76 = .ok (.if_icmp .le 5, 3) := by decide +kernel
theorem dX12_can_79 : decode cX12_can 79 = .ok (.iconst 0, 1) := by decide +kernel
theorem dX12_can_80 : decode cX12_can 80 = .ok (.ireturn, 1) := by decide +kernel
set_option maxHeartbeats 8000000 in
set_option maxRecDepth 100000 in
theorem c_X12_can (l : Launch) (g : kG) (sz : Nat) (z : Nat → Nat) (kp : Nat) (xs : Nat → Int32) (D : Nat → Int32) (j : Nat) (k : Nat) (hj : j < 10) (hk : k ≤ 60) (hDI : DI D) : kMi l g yX12_can cX12_can 6 (some .boolean) 5 0 0 [.ref (z 0), .int (nI j), .int (nI k)] sz [(z 0, .inr (12, [.ref (z 1), .ref (z 2), .int (nI kp), .int (xs 0), .ref (z 3), .ref (z 4), .ref (z 5), .ref (z 6), .int (xs 1), .ref (z 7), .ref (z 8), .ref (z 9), .ref (z 10), .ref (z 11), .ref (z 12), .int (xs 2), .ref (z 13), .ref (z 14), .int (xs 3), .ref (z 15)])), (z 1, .inl (gI g, 461, .inl D))] (fun (r : Int32) (u : Unit) => r = 1 ∨ r = 0) (fun (u : Unit) => ([(z 0, .inr (12, [.ref (z 1), .ref (z 2), .int (nI kp), .int (xs 0), .ref (z 3), .ref (z 4), .ref (z 5), .ref (z 6), .int (xs 1), .ref (z 7), .ref (z 8), .ref (z 9), .ref (z 10), .ref (z 11), .ref (z 12), .int (xs 2), .ref (z 13), .ref (z 14), .int (xs 3), .ref (z 15)])), (z 1, .inl (gI g, 461, .inl D))] : va_W)) := by
  refine kMi.of (by decide) (Nat.le_of_ble_eq_true rfl) (fun p e s m below meth c A hx hb hr hml hown hts hlk hnm hKW hP hD hS hA ls hl => ?_)
  have hown : s.vm.findClass RX12 = some m.cls := hown
  have hl : lv_has ls 6 [(0, .ref (z 0)), (1, .int (nI j)), (2, .int (nI k))] := hl
  refine k_hide hP hS (fun H locs hP hS => ?_)
  refine lv_iload_n hx hb dX12_can_0 rfl (lv_at hl 2 rfl) ?_
  refine lv_istore_n (lv' := [(3, .int (nI k)), (0, .ref (z 0)), (1, .int (nI j)), (2, .int (nI k))]) hx hb dX12_can_1 rfl hl (by decide) rfl (fun ls hl => ?_)
  have L2 : ∀ (n2 : Nat) (i : Nat) (hfuel2 : 61 - i < n2) (hi : i ≤ 61) (H : Heap) (locs : List Loc) (hP : va_P g.1 vwCl [(z 0, .inr (12, [.ref (z 1), .ref (z 2), .int (nI kp), .int (xs 0), .ref (z 3), .ref (z 4), .ref (z 5), .ref (z 6), .int (xs 1), .ref (z 7), .ref (z 8), .ref (z 9), .ref (z 10), .ref (z 11), .ref (z 12), .int (xs 2), .ref (z 13), .ref (z 14), .int (xs 3), .ref (z 15)])), (z 1, .inl (gI g, 461, .inl D))] H) (hD : va_D A [(z 0, .inr (12, [.ref (z 1), .ref (z 2), .int (nI kp), .int (xs 0), .ref (z 3), .ref (z 4), .ref (z 5), .ref (z 6), .int (xs 1), .ref (z 7), .ref (z 8), .ref (z 9), .ref (z 10), .ref (z 11), .ref (z 12), .int (xs 2), .ref (z 13), .ref (z 14), .int (xs 3), .ref (z 15)])), (z 1, .inl (gI g, 461, .inl D))]) (hS : va_S A s.heap H locs) (ls : Array Slot) (hl : lv_has ls 6 [(3, .int (nI i)), (0, .ref (z 0)), (1, .int (nI j)), (2, .int (nI k))]), W p l e (kR 5 0 0) s m ([.ref (z 0), .int (nI j), .int (nI k)] : List Value).toArray below meth c H locs 0 0 (kQi g A below ([.ref (z 0), .int (nI j), .int (nI k)] : List Value).toArray s 0 0 (fun (r : Int32) (u : Unit) => r = 1 ∨ r = 0) (fun (u : Unit) => ([(z 0, .inr (12, [.ref (z 1), .ref (z 2), .int (nI kp), .int (xs 0), .ref (z 3), .ref (z 4), .ref (z 5), .ref (z 6), .int (xs 1), .ref (z 7), .ref (z 8), .ref (z 9), .ref (z 10), .ref (z 11), .ref (z 12), .int (xs 2), .ref (z 13), .ref (z 14), .int (xs 3), .ref (z 15)])), (z 1, .inl (gI g, 461, .inl D))] : va_W))) (F0 m 2 ls []) := by
    intro n2
    induction n2 with
    | zero => intro i hfuel2; exact absurd hfuel2 (Nat.not_lt_zero _)
    | succ n2 ih2 =>
      intro i hfuel2 hi H locs hP hD hS ls hl
      refine lv_iload_n hx hb dX12_can_2 rfl (lv_at hl 0 rfl) ?_
      refine lv_aload_n hx hb dX12_can_3 rfl (lv_at hl 1 rfl) ?_
      refine va_get (ci := 12) (C := RX12) (T := TX12) (N := 20) hx hb hts inlX12 hown hKW.1 hP 0 rfl rfl 0 (by decide) (hts _ wd_6_5) (fun _ h => h) rfl dX12_can_4 ?_
      refine lv_bipush (v := 87) hx hb dX12_can_7 (by decide) ?_
      refine lv_iload_n hx hb dX12_can_9 rfl (lv_at hl 2 rfl) ?_
      refine lv_iadd hx hb dX12_can_10 ?_
      refine k_top (y := nI (j + 87)) (by rw [Nat.add_comm]; exact nI_add 87 j) ?_
      obtain ⟨lq_1, hlq_1, elq_1⟩ := DI.lat hDI j (by omega)
      refine va_iald hx hb hKW.1 hP 1 0 rfl rfl (vp_in_nI (by omega) (by decide)) dX12_can_11 ?_
      refine k_top (y := nI lq_1) (by rw [nI_clamp (by omega)]; exact elq_1) ?_
      refine lv_icmp_gt (tgt := 93) hx hb dX12_can_12 (by decide) (fun c_2 => ?_) (fun c_2 => ?_)
      · have c_2n : lq_1 < i := (k_ltI (a := lq_1) (b := i) (by omega) (by omega)).mp c_2
        refine lv_iconst (v := 1) hx hb dX12_can_93 (by decide) ?_
        exact k_zret () [0, 1] hx hb hr hlk hP hD hS (Or.inl rfl) rfl rfl rfl rfl (Nat.le_of_ble_eq_true rfl) (Nat.le_of_ble_eq_true rfl) dX12_can_94
      · have c_2n : i ≤ lq_1 := Nat.not_lt.mp (fun h => c_2 ((k_ltI (a := lq_1) (b := i) (by omega) (by omega)).mpr h))
        refine lv_aload_n hx hb dX12_can_15 rfl (lv_at hl 1 rfl) ?_
        refine lv_iload_n hx hb dX12_can_16 rfl (lv_at hl 2 rfl) ?_
        refine lv_iload_n hx hb dX12_can_17 rfl (lv_at hl 0 rfl) ?_
        refine k_Vi [0, 1] [] 0 12 (wr := []) hx hb hml hown hts hKW hP hD hS hA hl.1 (c_X12_roomIn l g _ z kp xs D j (nI i) (by first | assumption | omega | decide) (by first | assumption | omega | decide)) rfl rfl rfl wd_15_19 wd_1_5 wd_15_16 wd_15_17 wd_15_18 yd_X12_roomIn ⟨(Nat.le_of_ble_eq_true rfl), (Nat.le_of_ble_eq_true rfl)⟩ rfl rfl rfl rfl (by decide) rfl (Nat.le_of_ble_eq_true rfl) dX12_can_18 ⟨(Nat.le_of_ble_eq_true rfl), (Nat.le_of_ble_eq_true rfl)⟩ (fun r_3 u_4 H locs hw_5 hP hD hS => ?_)
        have hP : va_P g.1 vwCl [(z 0, .inr (12, [.ref (z 1), .ref (z 2), .int (nI kp), .int (xs 0), .ref (z 3), .ref (z 4), .ref (z 5), .ref (z 6), .int (xs 1), .ref (z 7), .ref (z 8), .ref (z 9), .ref (z 10), .ref (z 11), .ref (z 12), .int (xs 2), .ref (z 13), .ref (z 14), .int (xs 3), .ref (z 15)])), (z 1, .inl (gI g, 461, .inl D))] H := hP
        have hD : va_D A [(z 0, .inr (12, [.ref (z 1), .ref (z 2), .int (nI kp), .int (xs 0), .ref (z 3), .ref (z 4), .ref (z 5), .ref (z 6), .int (xs 1), .ref (z 7), .ref (z 8), .ref (z 9), .ref (z 10), .ref (z 11), .ref (z 12), .int (xs 2), .ref (z 13), .ref (z 14), .int (xs 3), .ref (z 15)])), (z 1, .inl (gI g, 461, .inl D))] := hD
        have hw_5 : r_3 = -1 ∨ ∃ k : Nat, k < 5 ∧ r_3 = nI k := hw_5
        refine lv_istore (lv' := [(4, .int r_3), (3, .int (nI i)), (0, .ref (z 0)), (1, .int (nI j)), (2, .int (nI k))]) hx hb dX12_can_21 hl (by decide) rfl (fun ls hl => ?_)
        rcases hw_5 with rfl | ⟨kr, hkr, rfl⟩
        · skip
          refine lv_iconst (v := 0) hx hb dX12_can_23 (by decide) ?_
          refine lv_istore (lv' := [(5, .int 0), (4, .int (-1)), (3, .int (nI i)), (0, .ref (z 0)), (1, .int (nI j)), (2, .int (nI k))]) hx hb dX12_can_24 hl (by decide) rfl (fun ls hl => ?_)
          have L26 : ∀ (n26 : Nat) (dy : Nat) (hfuel26 : 5 - dy < n26) (hdy : dy ≤ 5) (H : Heap) (locs : List Loc) (hP : va_P g.1 vwCl [(z 0, .inr (12, [.ref (z 1), .ref (z 2), .int (nI kp), .int (xs 0), .ref (z 3), .ref (z 4), .ref (z 5), .ref (z 6), .int (xs 1), .ref (z 7), .ref (z 8), .ref (z 9), .ref (z 10), .ref (z 11), .ref (z 12), .int (xs 2), .ref (z 13), .ref (z 14), .int (xs 3), .ref (z 15)])), (z 1, .inl (gI g, 461, .inl D))] H) (hD : va_D A [(z 0, .inr (12, [.ref (z 1), .ref (z 2), .int (nI kp), .int (xs 0), .ref (z 3), .ref (z 4), .ref (z 5), .ref (z 6), .int (xs 1), .ref (z 7), .ref (z 8), .ref (z 9), .ref (z 10), .ref (z 11), .ref (z 12), .int (xs 2), .ref (z 13), .ref (z 14), .int (xs 3), .ref (z 15)])), (z 1, .inl (gI g, 461, .inl D))]) (hS : va_S A s.heap H locs) (ls : Array Slot) (hl : lv_has ls 6 [(5, .int (nI dy)), (4, .int (-1)), (3, .int (nI i)), (0, .ref (z 0)), (1, .int (nI j)), (2, .int (nI k))]), W p l e (kR 5 0 0) s m ([.ref (z 0), .int (nI j), .int (nI k)] : List Value).toArray below meth c H locs 0 0 (kQi g A below ([.ref (z 0), .int (nI j), .int (nI k)] : List Value).toArray s 0 0 (fun (r : Int32) (u : Unit) => r = 1 ∨ r = 0) (fun (u : Unit) => ([(z 0, .inr (12, [.ref (z 1), .ref (z 2), .int (nI kp), .int (xs 0), .ref (z 3), .ref (z 4), .ref (z 5), .ref (z 6), .int (xs 1), .ref (z 7), .ref (z 8), .ref (z 9), .ref (z 10), .ref (z 11), .ref (z 12), .int (xs 2), .ref (z 13), .ref (z 14), .int (xs 3), .ref (z 15)])), (z 1, .inl (gI g, 461, .inl D))] : va_W))) (F0 m 26 ls []) := by
            intro n26
            induction n26 with
            | zero => intro dy hfuel26; exact absurd hfuel26 (Nat.not_lt_zero _)
            | succ n26 ih26 =>
              intro dy hfuel26 hdy H locs hP hD hS ls hl
              refine lv_iload hx hb dX12_can_26 (lv_at hl 0 rfl) ?_
              refine lv_iconst (v := 5) hx hb dX12_can_28 (by decide) ?_
              refine lv_icmp_ge (tgt := 87) hx hb dX12_can_29 (by decide) (fun c_6 => ?_) (fun c_6 => ?_)
              · have c_6n : 5 ≤ dy := (k_leI (a := 5) (b := dy) (by omega) (by omega)).mp c_6
                refine lv_iinc (v := nI (i + 1)) (lv' := [(3, .int (nI (i + 1))), (5, .int (nI dy)), (4, .int (-1)), (0, .ref (z 0)), (1, .int (nI j)), (2, .int (nI k))]) hx hb dX12_can_87 hl (k := 2) rfl (nI_add i 1) (by decide) rfl (fun ls hl => ?_)
                refine lv_goto (tgt := 2) hx hb dX12_can_90 (by decide) ?_
                exact ih2 (i + 1) (by omega) (by first | assumption | omega) H locs (hP.sub [0, 1] rfl) (hD.sub [0, 1] (by decide) rfl) hS ls (lv_sub hl [0, 3, 4, 5] rfl)
              · have c_6n : dy < 5 := Nat.not_le.mp (fun h => c_6 ((k_leI (a := 5) (b := dy) (by omega) (by omega)).mpr h))
                refine lv_iload hx hb dX12_can_32 (lv_at hl 1 rfl) ?_
                refine lv_if_lt (tgt := 87) hx hb dX12_can_34 (by decide) (fun _ => ?_) (fun c => absurd c (by decide))
                refine lv_iinc (v := nI (i + 1)) (lv' := [(3, .int (nI (i + 1))), (5, .int (nI dy)), (4, .int (-1)), (0, .ref (z 0)), (1, .int (nI j)), (2, .int (nI k))]) hx hb dX12_can_87 hl (k := 2) rfl (nI_add i 1) (by decide) rfl (fun ls hl => ?_)
                refine lv_goto (tgt := 2) hx hb dX12_can_90 (by decide) ?_
                exact ih2 (i + 1) (by omega) (by first | assumption | omega) H locs (hP.sub [0, 1] rfl) (hD.sub [0, 1] (by decide) rfl) hS ls (lv_sub hl [0, 3, 4, 5] rfl)
          exact L26 (5 - 0 + 1) 0 (Nat.lt_succ_self _) (by first | assumption | omega) H locs (hP.sub [0, 1] rfl) (hD.sub [0, 1] (by decide) rfl) hS ls (lv_sub hl [0, 1, 2, 3, 4, 5] rfl)
        · skip
          refine lv_iconst (v := 0) hx hb dX12_can_23 (by decide) ?_
          refine lv_istore (lv' := [(5, .int 0), (4, .int (nI kr)), (3, .int (nI i)), (0, .ref (z 0)), (1, .int (nI j)), (2, .int (nI k))]) hx hb dX12_can_24 hl (by decide) rfl (fun ls hl => ?_)
          have L26 : ∀ (n26 : Nat) (dy : Nat) (hfuel26 : 5 - dy < n26) (hdy : dy ≤ 5) (H : Heap) (locs : List Loc) (hP : va_P g.1 vwCl [(z 0, .inr (12, [.ref (z 1), .ref (z 2), .int (nI kp), .int (xs 0), .ref (z 3), .ref (z 4), .ref (z 5), .ref (z 6), .int (xs 1), .ref (z 7), .ref (z 8), .ref (z 9), .ref (z 10), .ref (z 11), .ref (z 12), .int (xs 2), .ref (z 13), .ref (z 14), .int (xs 3), .ref (z 15)])), (z 1, .inl (gI g, 461, .inl D))] H) (hD : va_D A [(z 0, .inr (12, [.ref (z 1), .ref (z 2), .int (nI kp), .int (xs 0), .ref (z 3), .ref (z 4), .ref (z 5), .ref (z 6), .int (xs 1), .ref (z 7), .ref (z 8), .ref (z 9), .ref (z 10), .ref (z 11), .ref (z 12), .int (xs 2), .ref (z 13), .ref (z 14), .int (xs 3), .ref (z 15)])), (z 1, .inl (gI g, 461, .inl D))]) (hS : va_S A s.heap H locs) (ls : Array Slot) (hl : lv_has ls 6 [(5, .int (nI dy)), (4, .int (nI kr)), (3, .int (nI i)), (0, .ref (z 0)), (1, .int (nI j)), (2, .int (nI k))]), W p l e (kR 5 0 0) s m ([.ref (z 0), .int (nI j), .int (nI k)] : List Value).toArray below meth c H locs 0 0 (kQi g A below ([.ref (z 0), .int (nI j), .int (nI k)] : List Value).toArray s 0 0 (fun (r : Int32) (u : Unit) => r = 1 ∨ r = 0) (fun (u : Unit) => ([(z 0, .inr (12, [.ref (z 1), .ref (z 2), .int (nI kp), .int (xs 0), .ref (z 3), .ref (z 4), .ref (z 5), .ref (z 6), .int (xs 1), .ref (z 7), .ref (z 8), .ref (z 9), .ref (z 10), .ref (z 11), .ref (z 12), .int (xs 2), .ref (z 13), .ref (z 14), .int (xs 3), .ref (z 15)])), (z 1, .inl (gI g, 461, .inl D))] : va_W))) (F0 m 26 ls []) := by
            intro n26
            induction n26 with
            | zero => intro dy hfuel26; exact absurd hfuel26 (Nat.not_lt_zero _)
            | succ n26 ih26 =>
              intro dy hfuel26 hdy H locs hP hD hS ls hl
              refine lv_iload hx hb dX12_can_26 (lv_at hl 0 rfl) ?_
              refine lv_iconst (v := 5) hx hb dX12_can_28 (by decide) ?_
              refine lv_icmp_ge (tgt := 87) hx hb dX12_can_29 (by decide) (fun c_7 => ?_) (fun c_7 => ?_)
              · have c_7n : 5 ≤ dy := (k_leI (a := 5) (b := dy) (by omega) (by omega)).mp c_7
                refine lv_iinc (v := nI (i + 1)) (lv' := [(3, .int (nI (i + 1))), (5, .int (nI dy)), (4, .int (nI kr)), (0, .ref (z 0)), (1, .int (nI j)), (2, .int (nI k))]) hx hb dX12_can_87 hl (k := 2) rfl (nI_add i 1) (by decide) rfl (fun ls hl => ?_)
                refine lv_goto (tgt := 2) hx hb dX12_can_90 (by decide) ?_
                exact ih2 (i + 1) (by omega) (by first | assumption | omega) H locs (hP.sub [0, 1] rfl) (hD.sub [0, 1] (by decide) rfl) hS ls (lv_sub hl [0, 3, 4, 5] rfl)
              · have c_7n : dy < 5 := Nat.not_le.mp (fun h => c_7 ((k_leI (a := 5) (b := dy) (by omega) (by omega)).mpr h))
                refine lv_iload hx hb dX12_can_32 (lv_at hl 1 rfl) ?_
                refine lv_if_lt (tgt := 87) hx hb dX12_can_34 (by decide) (fun c => absurd c (k_n_lt (n := kr) 0 (by decide) (by omega))) (fun _ => ?_)
                refine lv_aload_n hx hb dX12_can_37 rfl (lv_at hl 3 rfl) ?_
                refine va_get (ci := 12) (C := RX12) (T := TX12) (N := 20) hx hb hts inlX12 hown hKW.1 hP 0 rfl rfl 0 (by decide) (hts _ wd_6_5) (fun _ h => h) rfl dX12_can_38 ?_
                refine lv_bipush (v := 67) hx hb dX12_can_41 (by decide) ?_
                refine lv_iload_n hx hb dX12_can_43 rfl (lv_at hl 4 rfl) ?_
                refine lv_iadd hx hb dX12_can_44 ?_
                refine k_top (y := nI (j + 67)) (by rw [Nat.add_comm]; exact nI_add 67 j) ?_
                refine va_iald hx hb hKW.1 hP 1 0 rfl rfl (vp_in_nI (by omega) (by decide)) dX12_can_45 ?_
                refine lv_topi (fun x_8 ex_8 => ?_)
                refine lv_iload hx hb dX12_can_46 (lv_at hl 0 rfl) ?_
                refine lv_ishr hx hb dX12_can_48 ?_
                refine lv_topi (fun x_9 ex_9 => ?_)
                refine lv_iconst (v := 1) hx hb dX12_can_49 (by decide) ?_
                refine lv_iand hx hb dX12_can_50 ?_
                refine lv_topi (fun x_10 ex_10 => ?_)
                refine lv_iconst (v := 1) hx hb dX12_can_51 (by decide) ?_
                refine lv_icmp_ne (tgt := 81) hx hb dX12_can_52 (by decide) (fun c_11 => ?_) (fun c_11 => ?_)
                · refine lv_iinc (v := nI (dy + 1)) (lv' := [(5, .int (nI (dy + 1))), (4, .int (nI kr)), (3, .int (nI i)), (0, .ref (z 0)), (1, .int (nI j)), (2, .int (nI k))]) hx hb dX12_can_81 hl (k := 0) rfl (nI_add dy 1) (by decide) rfl (fun ls hl => ?_)
                  refine lv_goto (tgt := 26) hx hb dX12_can_84 (by decide) ?_
                  exact ih26 (dy + 1) (by omega) (by first | assumption | omega) H locs (hP.sub [0, 1] rfl) (hD.sub [0, 1] (by decide) rfl) hS ls (lv_sub hl [0, 1, 2, 3, 4, 5] rfl)
                · refine lv_aload_n hx hb dX12_can_55 rfl (lv_at hl 3 rfl) ?_
                  refine lv_iload hx hb dX12_can_56 (lv_at hl 1 rfl) ?_
                  refine lv_iload hx hb dX12_can_58 (lv_at hl 0 rfl) ?_
                  refine lv_iload_n hx hb dX12_can_60 rfl (lv_at hl 2 rfl) ?_
                  refine k_Vi [0, 1] [] 0 12 (wr := []) hx hb hml hown hts hKW hP hD hS hA hl.1 (c_X12_haveIn l g _ z kp xs D (nI kr) (nI dy) (nI i) (by first | assumption | omega | decide)) rfl rfl rfl wd_42_16 wd_1_5 wd_42_13 wd_42_14 wd_42_15 yd_X12_haveIn ⟨(Nat.le_of_ble_eq_true rfl), (Nat.le_of_ble_eq_true rfl)⟩ rfl rfl rfl rfl (by decide) rfl (Nat.le_of_ble_eq_true rfl) dX12_can_61 ⟨(Nat.le_of_ble_eq_true rfl), (Nat.le_of_ble_eq_true rfl)⟩ (fun r_12 u_13 H locs hw_14 hP hD hS => ?_)
                  have hP : va_P g.1 vwCl [(z 0, .inr (12, [.ref (z 1), .ref (z 2), .int (nI kp), .int (xs 0), .ref (z 3), .ref (z 4), .ref (z 5), .ref (z 6), .int (xs 1), .ref (z 7), .ref (z 8), .ref (z 9), .ref (z 10), .ref (z 11), .ref (z 12), .int (xs 2), .ref (z 13), .ref (z 14), .int (xs 3), .ref (z 15)])), (z 1, .inl (gI g, 461, .inl D))] H := hP
                  have hD : va_D A [(z 0, .inr (12, [.ref (z 1), .ref (z 2), .int (nI kp), .int (xs 0), .ref (z 3), .ref (z 4), .ref (z 5), .ref (z 6), .int (xs 1), .ref (z 7), .ref (z 8), .ref (z 9), .ref (z 10), .ref (z 11), .ref (z 12), .int (xs 2), .ref (z 13), .ref (z 14), .int (xs 3), .ref (z 15)])), (z 1, .inl (gI g, 461, .inl D))] := hD
                  refine lv_iconst (v := 1) hx hb dX12_can_64 (by decide) ?_
                  refine lv_iadd hx hb dX12_can_65 ?_
                  refine lv_topi (fun x_15 ex_15 => ?_)
                  refine lv_aload_n hx hb dX12_can_66 rfl (lv_at hl 3 rfl) ?_
                  refine va_get (ci := 12) (C := RX12) (T := TX12) (N := 20) hx hb hts inlX12 hown hKW.1 hP 0 rfl rfl 0 (by decide) (hts _ wd_6_5) (fun _ h => h) rfl dX12_can_67 ?_
                  refine lv_bipush (v := 21) hx hb dX12_can_70 (by decide) ?_
                  refine lv_iload hx hb dX12_can_72 (lv_at hl 1 rfl) ?_
                  refine lv_iadd hx hb dX12_can_74 ?_
                  refine k_top (y := nI (kr + 21)) (by rw [Nat.add_comm]; exact nI_add 21 kr) ?_
                  refine va_iald hx hb hKW.1 hP 1 0 rfl rfl (vp_in_nI (by omega) (by decide)) dX12_can_75 ?_
                  refine lv_topi (fun x_16 ex_16 => ?_)
                  refine lv_icmp_le (tgt := 81) hx hb dX12_can_76 (by decide) (fun c_17 => ?_) (fun c_17 => ?_)
                  · refine lv_iinc (v := nI (dy + 1)) (lv' := [(5, .int (nI (dy + 1))), (4, .int (nI kr)), (3, .int (nI i)), (0, .ref (z 0)), (1, .int (nI j)), (2, .int (nI k))]) hx hb dX12_can_81 hl (k := 0) rfl (nI_add dy 1) (by decide) rfl (fun ls hl => ?_)
                    refine lv_goto (tgt := 26) hx hb dX12_can_84 (by decide) ?_
                    exact ih26 (dy + 1) (by omega) (by first | assumption | omega) H locs (hP.sub [0, 1] rfl) (hD.sub [0, 1] (by decide) rfl) hS ls (lv_sub hl [0, 1, 2, 3, 4, 5] rfl)
                  · refine lv_iconst (v := 0) hx hb dX12_can_79 (by decide) ?_
                    exact k_zret () [0, 1] hx hb hr hlk hP hD hS (Or.inr rfl) rfl rfl rfl rfl (Nat.le_of_ble_eq_true rfl) (Nat.le_of_ble_eq_true rfl) dX12_can_80
          exact L26 (5 - 0 + 1) 0 (Nat.lt_succ_self _) (by first | assumption | omega) H locs (hP.sub [0, 1] rfl) (hD.sub [0, 1] (by decide) rfl) hS ls (lv_sub hl [0, 1, 2, 3, 4, 5] rfl)
  exact L2 (61 - k + 1) k (Nat.lt_succ_self _) (by first | assumption | omega) H locs (hP.sub [0, 1] rfl) (hD.sub [0, 1] (by decide) rfl) hS ls (lv_sub hl [0, 1, 2, 3] rfl)
theorem dX12_leastMonth_0 : decode cX12_leastMonth 0 = .ok (.aload_n 0, 1) := by decide +kernel
theorem dX12_leastMonth_1 : decode cX12_leastMonth 1 = .ok (.getfield 7, 3) := by decide +kernel
theorem dX12_leastMonth_4 : decode cX12_leastMonth 4 = .ok (.bipush 77, 2) := by decide +kernel
theorem dX12_leastMonth_6 : decode cX12_leastMonth 6 = .ok (.iload_n 1, 1) := by decide +kernel
theorem dX12_leastMonth_7 : decode cX12_leastMonth 7 = .ok (.iadd, 1) := by decide +kernel
theorem dX12_leastMonth_8 : decode cX12_leastMonth 8 = .ok (.iaload, 1) := by decide +kernel
theorem dX12_leastMonth_9 : decode cX12_leastMonth 9 = .ok (.istore_n 2, 1) := by decide +kernel
theorem dX12_leastMonth_10 : decode cX12_leastMonth 10 = .ok (.iload_n 2, 1) := by decide +kernel
theorem dX12_leastMonth_11 : decode cX12_leastMonth 11 = .ok (.aload_n 0, 1) := by decide +kernel
theorem dX12_leastMonth_12 : decode cX12_leastMonth 12 = .ok (.getfield 7, 3) := by decide +kernel
theorem dX12_leastMonth_15 : decode cX12_leastMonth 15 = .ok (.bipush 87, 2) := by decide +kernel
theorem dX12_leastMonth_17 : decode cX12_leastMonth 17 = .ok (.iload_n 1, 1) := by decide +kernel
theorem dX12_leastMonth_18 : decode cX12_leastMonth 18 = .ok (.iadd, 1) := by decide +kernel
theorem dX12_leastMonth_19 : decode cX12_leastMonth 19 = .ok (.iaload, 1) := by decide +kernel
theorem dX12_leastMonth_20 : decode cX12_leastMonth 20 = .ok (.if_icmp .gt 20, 3) := by decide +kernel
theorem dX12_leastMonth_40 : decode cX12_leastMonth 40 = .ok (.iconst (-1), 1) := by decide +kernel
theorem dX12_leastMonth_41 : decode cX12_leastMonth 41 = .ok (.ireturn, 1) := by decide +kernel
theorem dX12_leastMonth_23 : decode cX12_leastMonth 23 = .ok (.aload_n 0, 1) := by decide +kernel
theorem dX12_leastMonth_24 : decode cX12_leastMonth 24 = .ok (.iload_n 1, 1) := by decide +kernel
theorem dX12_leastMonth_25 : decode cX12_leastMonth 25 = .ok (.iload_n 2, 1) := by decide +kernel
theorem dX12_leastMonth_26 : decode cX12_leastMonth 26 = .ok (.invokevirtual 184, 3) := by decide +kernel
theorem dX12_leastMonth_29 : decode cX12_leastMonth 29 = .ok (.ifCond .eq 5, 3) := by decide +kernel
theorem dX12_leastMonth_32 : decode cX12_leastMonth 32 = .ok (.iload_n 2, 1) := by decide +kernel
theorem dX12_leastMonth_33 : decode cX12_leastMonth 33 = .ok (.ireturn, 1) := by decide +kernel
theorem dX12_leastMonth_34 : decode cX12_leastMonth 34 = .ok (.iinc 2 1, 3) := by decide +kernel
theorem dX12_leastMonth_37 : decode cX12_leastMonth 37 = .ok (.goto (-27), 3) := by decide +kernel
set_option maxHeartbeats 8000000 in
set_option maxRecDepth 100000 in
theorem c_X12_leastMonth (l : Launch) (g : kG) (sz : Nat) (z : Nat → Nat) (kp : Nat) (xs : Nat → Int32) (D : Nat → Int32) (j : Nat) (hj : j < 10) (hDI : DI D) : kMi l g yX12_leastMonth cX12_leastMonth 3 (some .int) 6 0 0 [.ref (z 0), .int (nI j)] sz [(z 0, .inr (12, [.ref (z 1), .ref (z 2), .int (nI kp), .int (xs 0), .ref (z 3), .ref (z 4), .ref (z 5), .ref (z 6), .int (xs 1), .ref (z 7), .ref (z 8), .ref (z 9), .ref (z 10), .ref (z 11), .ref (z 12), .int (xs 2), .ref (z 13), .ref (z 14), .int (xs 3), .ref (z 15)])), (z 1, .inl (gI g, 461, .inl D))] (fun (r : Int32) (u : Unit) => r = -1 ∨ ∃ k : Nat, k ≤ 60 ∧ r = nI k) (fun (u : Unit) => ([(z 0, .inr (12, [.ref (z 1), .ref (z 2), .int (nI kp), .int (xs 0), .ref (z 3), .ref (z 4), .ref (z 5), .ref (z 6), .int (xs 1), .ref (z 7), .ref (z 8), .ref (z 9), .ref (z 10), .ref (z 11), .ref (z 12), .int (xs 2), .ref (z 13), .ref (z 14), .int (xs 3), .ref (z 15)])), (z 1, .inl (gI g, 461, .inl D))] : va_W)) := by
  refine kMi.of (by decide) (Nat.le_of_ble_eq_true rfl) (fun p e s m below meth c A hx hb hr hml hown hts hlk hnm hKW hP hD hS hA ls hl => ?_)
  have hown : s.vm.findClass RX12 = some m.cls := hown
  have hl : lv_has ls 3 [(0, .ref (z 0)), (1, .int (nI j))] := hl
  refine k_hide hP hS (fun H locs hP hS => ?_)
  refine lv_aload_n hx hb dX12_leastMonth_0 rfl (lv_at hl 0 rfl) ?_
  refine va_get (ci := 12) (C := RX12) (T := TX12) (N := 20) hx hb hts inlX12 hown hKW.1 hP 0 rfl rfl 0 (by decide) (hts _ wd_6_5) (fun _ h => h) rfl dX12_leastMonth_1 ?_
  refine lv_bipush (v := 77) hx hb dX12_leastMonth_4 (by decide) ?_
  refine lv_iload_n hx hb dX12_leastMonth_6 rfl (lv_at hl 1 rfl) ?_
  refine lv_iadd hx hb dX12_leastMonth_7 ?_
  refine k_top (y := nI (j + 77)) (by rw [Nat.add_comm]; exact nI_add 77 j) ?_
  obtain ⟨lq_1, hlq_1, elq_1⟩ := DI.fst hDI j (by omega)
  refine va_iald hx hb hKW.1 hP 1 0 rfl rfl (vp_in_nI (by omega) (by decide)) dX12_leastMonth_8 ?_
  refine k_top (y := nI lq_1) (by rw [nI_clamp (by omega)]; exact elq_1) ?_
  refine lv_istore_n (lv' := [(2, .int (nI lq_1)), (0, .ref (z 0)), (1, .int (nI j))]) hx hb dX12_leastMonth_9 rfl hl (by decide) rfl (fun ls hl => ?_)
  have L10 : ∀ (n10 : Nat) (i : Nat) (hfuel10 : 61 - i < n10) (hi : i ≤ 61) (H : Heap) (locs : List Loc) (hP : va_P g.1 vwCl [(z 0, .inr (12, [.ref (z 1), .ref (z 2), .int (nI kp), .int (xs 0), .ref (z 3), .ref (z 4), .ref (z 5), .ref (z 6), .int (xs 1), .ref (z 7), .ref (z 8), .ref (z 9), .ref (z 10), .ref (z 11), .ref (z 12), .int (xs 2), .ref (z 13), .ref (z 14), .int (xs 3), .ref (z 15)])), (z 1, .inl (gI g, 461, .inl D))] H) (hD : va_D A [(z 0, .inr (12, [.ref (z 1), .ref (z 2), .int (nI kp), .int (xs 0), .ref (z 3), .ref (z 4), .ref (z 5), .ref (z 6), .int (xs 1), .ref (z 7), .ref (z 8), .ref (z 9), .ref (z 10), .ref (z 11), .ref (z 12), .int (xs 2), .ref (z 13), .ref (z 14), .int (xs 3), .ref (z 15)])), (z 1, .inl (gI g, 461, .inl D))]) (hS : va_S A s.heap H locs) (ls : Array Slot) (hl : lv_has ls 3 [(2, .int (nI i)), (0, .ref (z 0)), (1, .int (nI j))]), W p l e (kR 6 0 0) s m ([.ref (z 0), .int (nI j)] : List Value).toArray below meth c H locs 0 0 (kQi g A below ([.ref (z 0), .int (nI j)] : List Value).toArray s 0 0 (fun (r : Int32) (u : Unit) => r = -1 ∨ ∃ k : Nat, k ≤ 60 ∧ r = nI k) (fun (u : Unit) => ([(z 0, .inr (12, [.ref (z 1), .ref (z 2), .int (nI kp), .int (xs 0), .ref (z 3), .ref (z 4), .ref (z 5), .ref (z 6), .int (xs 1), .ref (z 7), .ref (z 8), .ref (z 9), .ref (z 10), .ref (z 11), .ref (z 12), .int (xs 2), .ref (z 13), .ref (z 14), .int (xs 3), .ref (z 15)])), (z 1, .inl (gI g, 461, .inl D))] : va_W))) (F0 m 10 ls []) := by
    intro n10
    induction n10 with
    | zero => intro i hfuel10; exact absurd hfuel10 (Nat.not_lt_zero _)
    | succ n10 ih10 =>
      intro i hfuel10 hi H locs hP hD hS ls hl
      refine lv_iload_n hx hb dX12_leastMonth_10 rfl (lv_at hl 0 rfl) ?_
      refine lv_aload_n hx hb dX12_leastMonth_11 rfl (lv_at hl 1 rfl) ?_
      refine va_get (ci := 12) (C := RX12) (T := TX12) (N := 20) hx hb hts inlX12 hown hKW.1 hP 0 rfl rfl 0 (by decide) (hts _ wd_6_5) (fun _ h => h) rfl dX12_leastMonth_12 ?_
      refine lv_bipush (v := 87) hx hb dX12_leastMonth_15 (by decide) ?_
      refine lv_iload_n hx hb dX12_leastMonth_17 rfl (lv_at hl 2 rfl) ?_
      refine lv_iadd hx hb dX12_leastMonth_18 ?_
      refine k_top (y := nI (j + 87)) (by rw [Nat.add_comm]; exact nI_add 87 j) ?_
      obtain ⟨lq_2, hlq_2, elq_2⟩ := DI.lat hDI j (by omega)
      refine va_iald hx hb hKW.1 hP 1 0 rfl rfl (vp_in_nI (by omega) (by decide)) dX12_leastMonth_19 ?_
      refine k_top (y := nI lq_2) (by rw [nI_clamp (by omega)]; exact elq_2) ?_
      refine lv_icmp_gt (tgt := 40) hx hb dX12_leastMonth_20 (by decide) (fun c_3 => ?_) (fun c_3 => ?_)
      · have c_3n : lq_2 < i := (k_ltI (a := lq_2) (b := i) (by omega) (by omega)).mp c_3
        refine lv_iconst (v := (-1)) hx hb dX12_leastMonth_40 (by decide) ?_
        exact k_iret () [0, 1] hx hb hr hlk hP hD hS (Or.inl rfl) rfl rfl rfl (Nat.le_of_ble_eq_true rfl) (Nat.le_of_ble_eq_true rfl) dX12_leastMonth_41
      · have c_3n : i ≤ lq_2 := Nat.not_lt.mp (fun h => c_3 ((k_ltI (a := lq_2) (b := i) (by omega) (by omega)).mpr h))
        refine lv_aload_n hx hb dX12_leastMonth_23 rfl (lv_at hl 1 rfl) ?_
        refine lv_iload_n hx hb dX12_leastMonth_24 rfl (lv_at hl 2 rfl) ?_
        refine lv_iload_n hx hb dX12_leastMonth_25 rfl (lv_at hl 0 rfl) ?_
        refine k_Vi [0, 1] [] 0 12 (wr := []) hx hb hml hown hts hKW hP hD hS hA hl.1 (c_X12_can l g _ z kp xs D j i (by first | assumption | omega | decide) (by first | assumption | omega | decide) (by first | assumption | omega | decide)) rfl rfl rfl wd_42_12 wd_1_5 wd_42_9 wd_42_10 wd_42_11 yd_X12_can ⟨(Nat.le_of_ble_eq_true rfl), (Nat.le_of_ble_eq_true rfl)⟩ rfl rfl rfl rfl (by decide) rfl (Nat.le_of_ble_eq_true rfl) dX12_leastMonth_26 ⟨(Nat.le_of_ble_eq_true rfl), (Nat.le_of_ble_eq_true rfl)⟩ (fun r_4 u_5 H locs hw_6 hP hD hS => ?_)
        have hP : va_P g.1 vwCl [(z 0, .inr (12, [.ref (z 1), .ref (z 2), .int (nI kp), .int (xs 0), .ref (z 3), .ref (z 4), .ref (z 5), .ref (z 6), .int (xs 1), .ref (z 7), .ref (z 8), .ref (z 9), .ref (z 10), .ref (z 11), .ref (z 12), .int (xs 2), .ref (z 13), .ref (z 14), .int (xs 3), .ref (z 15)])), (z 1, .inl (gI g, 461, .inl D))] H := hP
        have hD : va_D A [(z 0, .inr (12, [.ref (z 1), .ref (z 2), .int (nI kp), .int (xs 0), .ref (z 3), .ref (z 4), .ref (z 5), .ref (z 6), .int (xs 1), .ref (z 7), .ref (z 8), .ref (z 9), .ref (z 10), .ref (z 11), .ref (z 12), .int (xs 2), .ref (z 13), .ref (z 14), .int (xs 3), .ref (z 15)])), (z 1, .inl (gI g, 461, .inl D))] := hD
        rcases (show r_4 = 1 ∨ r_4 = 0 from hw_6) with rfl | rfl <;> clear hw_6
        · refine lv_if_eq (tgt := 34) hx hb dX12_leastMonth_29 (by decide) (fun c => absurd c (by decide)) (fun _ => ?_)
          refine lv_iload_n hx hb dX12_leastMonth_32 rfl (lv_at hl 0 rfl) ?_
          exact k_iret () [0, 1] hx hb hr hlk hP hD hS (Or.inr ⟨i, by omega, rfl⟩) rfl rfl rfl (Nat.le_of_ble_eq_true rfl) (Nat.le_of_ble_eq_true rfl) dX12_leastMonth_33
        · refine lv_if_eq (tgt := 34) hx hb dX12_leastMonth_29 (by decide) (fun _ => ?_) (fun c => absurd c (by decide))
          refine lv_iinc (v := nI (i + 1)) (lv' := [(2, .int (nI (i + 1))), (0, .ref (z 0)), (1, .int (nI j))]) hx hb dX12_leastMonth_34 hl (k := 0) rfl (nI_add i 1) (by decide) rfl (fun ls hl => ?_)
          refine lv_goto (tgt := 10) hx hb dX12_leastMonth_37 (by decide) ?_
          exact ih10 (i + 1) (by omega) (by first | assumption | omega) H locs (hP.sub [0, 1] rfl) (hD.sub [0, 1] (by decide) rfl) hS ls (lv_sub hl [0, 1, 2] rfl)
  exact L10 (61 - lq_1 + 1) lq_1 (Nat.lt_succ_self _) (by first | assumption | omega) H locs (hP.sub [0, 1] rfl) (hD.sub [0, 1] (by decide) rfl) hS ls (lv_sub hl [0, 1, 2] rfl)
theorem dX12_earliest_0 : decode cX12_earliest 0 = .ok (.aload_n 0, 1) := by decide +kernel
theorem dX12_earliest_1 : decode cX12_earliest 1 = .ok (.iload_n 1, 1) := by decide +kernel
theorem dX12_earliest_2 : decode cX12_earliest 2 = .ok (.invokevirtual 82, 3) := by decide +kernel
theorem dX12_earliest_5 : decode cX12_earliest 5 = .ok (.ifCond .ne 9, 3) := by decide +kernel
theorem dX12_earliest_14 : decode cX12_earliest 14 = .ok (.aload_n 0, 1) := by decide +kernel
theorem dX12_earliest_15 : decode cX12_earliest 15 = .ok (.getfield 7, 3) := by decide +kernel
theorem dX12_earliest_18 : decode cX12_earliest 18 = .ok (.bipush 117, 2) := by decide +kernel
theorem dX12_earliest_20 : decode cX12_earliest 20 = .ok (.iload_n 1, 1) := by decide +kernel
theorem dX12_earliest_21 : decode cX12_earliest 21 = .ok (.iadd, 1) := by decide +kernel
theorem dX12_earliest_22 : decode cX12_earliest 22 = .ok (.iaload, 1) := by decide +kernel
theorem dX12_earliest_23 : decode cX12_earliest 23 = .ok (.iconst 1, 1) := by decide +kernel
theorem dX12_earliest_24 : decode cX12_earliest 24 = .ok (.if_icmp .ne 10, 3) := by decide +kernel
theorem dX12_earliest_34 : decode cX12_earliest 34 = .ok (.aload_n 0, 1) := by decide +kernel
theorem dX12_earliest_35 : decode cX12_earliest 35 = .ok (.iload_n 1, 1) := by decide +kernel
theorem dX12_earliest_36 : decode cX12_earliest 36 = .ok (.invokevirtual 187, 3) := by decide +kernel
theorem dX12_earliest_39 : decode cX12_earliest 39 = .ok (.istore_n 2, 1) := by decide +kernel
theorem dX12_earliest_40 : decode cX12_earliest 40 = .ok (.iload_n 2, 1) := by decide +kernel
theorem dX12_earliest_41 : decode cX12_earliest 41 = .ok (.ifCond .ge 12, 3) := by decide +kernel
theorem dX12_earliest_53 : decode cX12_earliest 53 = .ok (.iload_n 2, 1) := by decide +kernel
theorem dX12_earliest_54 : decode cX12_earliest 54 = .ok (.ireturn, 1) := by decide +kernel
theorem dX12_earliest_44 : decode cX12_earliest 44 = .ok (.aload_n 0, 1) := by decide +kernel
theorem dX12_earliest_45 : decode cX12_earliest 45 = .ok (.bipush 6, 2) := by decide +kernel
theorem dX12_earliest_47 : decode cX12_earliest 47 = .ok (.invokevirtual 68, 3) := by decide +kernel
theorem dX12_earliest_50 : decode cX12_earliest 50 = .ok (.goto 4, 3) := by decide +kernel
theorem dX12_earliest_27 : decode cX12_earliest 27 = .ok (.aload_n 0, 1) := by decide +kernel
theorem dX12_earliest_28 : decode cX12_earliest 28 = .ok (.bipush 7, 2) := by decide +kernel
theorem dX12_earliest_30 : decode cX12_earliest 30 = .ok (.invokevirtual 68, 3) := by decide +kernel
theorem dX12_earliest_33 : decode cX12_earliest 33 = .ok (.ireturn, 1) := by decide +kernel
theorem dX12_earliest_8 : decode cX12_earliest 8 = .ok (.aload_n 0, 1) := by decide +kernel
theorem dX12_earliest_9 : decode cX12_earliest 9 = .ok (.iconst 1, 1) := by decide +kernel
theorem dX12_earliest_10 : decode cX12_earliest 10 = .ok (.invokevirtual 68, 3) := by decide +kernel
theorem dX12_earliest_13 : decode cX12_earliest 13 = .ok (.ireturn, 1) := by decide +kernel
set_option maxHeartbeats 8000000 in
set_option maxRecDepth 100000 in
theorem c_X12_earliest (l : Launch) (g : kG) (sz : Nat) (z : Nat → Nat) (kp : Nat) (xs : Nat → Int32) (D : Nat → Int32) (x : Int32) (hDI : DI D) : kMi l g yX12_earliest cX12_earliest 3 (some .int) 7 0 0 [.ref (z 0), .int x] sz [(z 0, .inr (12, [.ref (z 1), .ref (z 2), .int (nI kp), .int (xs 0), .ref (z 3), .ref (z 4), .ref (z 5), .ref (z 6), .int (xs 1), .ref (z 7), .ref (z 8), .ref (z 9), .ref (z 10), .ref (z 11), .ref (z 12), .int (xs 2), .ref (z 13), .ref (z 14), .int (xs 3), .ref (z 15)])), (z 1, .inl (gI g, 461, .inl D))] (fun (r : Int32) (u : (Nat → Int32)) => True) (fun (u : (Nat → Int32)) => ([(z 0, .inr (12, [.ref (z 1), .ref (z 2), .int (nI kp), .int (u 0), .ref (z 3), .ref (z 4), .ref (z 5), .ref (z 6), .int (u 1), .ref (z 7), .ref (z 8), .ref (z 9), .ref (z 10), .ref (z 11), .ref (z 12), .int (u 2), .ref (z 13), .ref (z 14), .int (u 3), .ref (z 15)])), (z 1, .inl (gI g, 461, .inl D))] : va_W)) := by
  refine kMi.of (by decide) (Nat.le_of_ble_eq_true rfl) (fun p e s m below meth c A hx hb hr hml hown hts hlk hnm hKW hP hD hS hA ls hl => ?_)
  have hown : s.vm.findClass RX12 = some m.cls := hown
  have hl : lv_has ls 3 [(0, .ref (z 0)), (1, .int x)] := hl
  refine k_hide hP hS (fun H locs hP hS => ?_)
  refine lv_aload_n hx hb dX12_earliest_0 rfl (lv_at hl 0 rfl) ?_
  refine lv_iload_n hx hb dX12_earliest_1 rfl (lv_at hl 1 rfl) ?_
  refine k_Vi [0, 1] [] 0 12 (wr := []) hx hb hml hown hts hKW hP hD hS hA hl.1 (c_X12_isChild l g _ z kp xs D x (by first | assumption | omega | decide)) rfl rfl rfl wd_13_19 wd_1_5 wd_13_16 wd_13_17 wd_13_18 yd_X12_isChild ⟨(Nat.le_of_ble_eq_true rfl), (Nat.le_of_ble_eq_true rfl)⟩ rfl rfl rfl rfl (by decide) rfl (Nat.le_of_ble_eq_true rfl) dX12_earliest_2 ⟨(Nat.le_of_ble_eq_true rfl), (Nat.le_of_ble_eq_true rfl)⟩ (fun r_1 u_2 H locs hw_3 hP hD hS => ?_)
  have hP : va_P g.1 vwCl [(z 0, .inr (12, [.ref (z 1), .ref (z 2), .int (nI kp), .int (xs 0), .ref (z 3), .ref (z 4), .ref (z 5), .ref (z 6), .int (xs 1), .ref (z 7), .ref (z 8), .ref (z 9), .ref (z 10), .ref (z 11), .ref (z 12), .int (xs 2), .ref (z 13), .ref (z 14), .int (xs 3), .ref (z 15)])), (z 1, .inl (gI g, 461, .inl D))] H := hP
  have hD : va_D A [(z 0, .inr (12, [.ref (z 1), .ref (z 2), .int (nI kp), .int (xs 0), .ref (z 3), .ref (z 4), .ref (z 5), .ref (z 6), .int (xs 1), .ref (z 7), .ref (z 8), .ref (z 9), .ref (z 10), .ref (z 11), .ref (z 12), .int (xs 2), .ref (z 13), .ref (z 14), .int (xs 3), .ref (z 15)])), (z 1, .inl (gI g, 461, .inl D))] := hD
  rcases (show (r_1 = 1 ∧ (∃ j : Nat, (j < 10 ∧ (j : Int) < (D 2).toInt) ∧ x = nI j)) ∨ (r_1 = 0 ∧ ¬ (∃ j : Nat, (j < 10 ∧ (j : Int) < (D 2).toInt) ∧ x = nI j)) from hw_3) with ⟨rfl, hw_3b⟩ | ⟨rfl, hw_3b⟩ <;> clear hw_3
  · obtain ⟨j_4, hj_4, rfl⟩ := hw_3b
    refine lv_if_ne (tgt := 14) hx hb dX12_earliest_5 (by decide) (fun _ => ?_) (fun c => absurd c (by decide))
    refine lv_aload_n hx hb dX12_earliest_14 rfl (lv_at hl 0 rfl) ?_
    refine va_get (ci := 12) (C := RX12) (T := TX12) (N := 20) hx hb hts inlX12 hown hKW.1 hP 0 rfl rfl 0 (by decide) (hts _ wd_6_5) (fun _ h => h) rfl dX12_earliest_15 ?_
    refine lv_bipush (v := 117) hx hb dX12_earliest_18 (by decide) ?_
    refine lv_iload_n hx hb dX12_earliest_20 rfl (lv_at hl 1 rfl) ?_
    refine lv_iadd hx hb dX12_earliest_21 ?_
    refine k_top (y := nI (j_4 + 117)) (by rw [Nat.add_comm]; exact nI_add 117 j_4) ?_
    refine va_iald hx hb hKW.1 hP 1 0 rfl rfl (vp_in_nI (by omega) (by decide)) dX12_earliest_22 ?_
    refine lv_topi (fun x_5 ex_5 => ?_)
    refine lv_iconst (v := 1) hx hb dX12_earliest_23 (by decide) ?_
    refine lv_icmp_ne (tgt := 34) hx hb dX12_earliest_24 (by decide) (fun c_6 => ?_) (fun c_6 => ?_)
    · refine lv_aload_n hx hb dX12_earliest_34 rfl (lv_at hl 0 rfl) ?_
      refine lv_iload_n hx hb dX12_earliest_35 rfl (lv_at hl 1 rfl) ?_
      refine k_Vi [0, 1] [] 0 12 (wr := []) hx hb hml hown hts hKW hP hD hS hA hl.1 (c_X12_leastMonth l g _ z kp xs D j_4 (by first | assumption | omega | decide) (by first | assumption | omega | decide)) rfl rfl rfl wd_42_8 wd_1_5 wd_42_5 wd_42_6 wd_42_7 yd_X12_leastMonth ⟨(Nat.le_of_ble_eq_true rfl), (Nat.le_of_ble_eq_true rfl)⟩ rfl rfl rfl rfl (by decide) rfl (Nat.le_of_ble_eq_true rfl) dX12_earliest_36 ⟨(Nat.le_of_ble_eq_true rfl), (Nat.le_of_ble_eq_true rfl)⟩ (fun r_7 u_8 H locs hw_9 hP hD hS => ?_)
      have hP : va_P g.1 vwCl [(z 0, .inr (12, [.ref (z 1), .ref (z 2), .int (nI kp), .int (xs 0), .ref (z 3), .ref (z 4), .ref (z 5), .ref (z 6), .int (xs 1), .ref (z 7), .ref (z 8), .ref (z 9), .ref (z 10), .ref (z 11), .ref (z 12), .int (xs 2), .ref (z 13), .ref (z 14), .int (xs 3), .ref (z 15)])), (z 1, .inl (gI g, 461, .inl D))] H := hP
      have hD : va_D A [(z 0, .inr (12, [.ref (z 1), .ref (z 2), .int (nI kp), .int (xs 0), .ref (z 3), .ref (z 4), .ref (z 5), .ref (z 6), .int (xs 1), .ref (z 7), .ref (z 8), .ref (z 9), .ref (z 10), .ref (z 11), .ref (z 12), .int (xs 2), .ref (z 13), .ref (z 14), .int (xs 3), .ref (z 15)])), (z 1, .inl (gI g, 461, .inl D))] := hD
      have hw_9 : r_7 = -1 ∨ ∃ k : Nat, k ≤ 60 ∧ r_7 = nI k := hw_9
      refine lv_istore_n (lv' := [(2, .int r_7), (0, .ref (z 0)), (1, .int (nI j_4))]) hx hb dX12_earliest_39 rfl hl (by decide) rfl (fun ls hl => ?_)
      refine lv_iload_n hx hb dX12_earliest_40 rfl (lv_at hl 0 rfl) ?_
      refine lv_if_ge (tgt := 53) hx hb dX12_earliest_41 (by decide) (fun c_10 => ?_) (fun c_10 => ?_)
      · refine lv_iload_n hx hb dX12_earliest_53 rfl (lv_at hl 0 rfl) ?_
        exact k_iret xs [0, 1] hx hb hr hlk hP hD hS trivial rfl rfl rfl (Nat.le_of_ble_eq_true rfl) (Nat.le_of_ble_eq_true rfl) dX12_earliest_54
      · refine lv_aload_n hx hb dX12_earliest_44 rfl (lv_at hl 1 rfl) ?_
        refine lv_bipush (v := 6) hx hb dX12_earliest_45 (by decide) ?_
        refine k_Vi [0] [1] 0 12 (wr := [(z 1, .inl (gI g, 461, .inl D))]) hx hb hml hown hts hKW hP hD hS hA hl.1 (c_X12_finding_6 l g _ z kp xs ) rfl rfl rfl wd_10_15 wd_1_5 wd_10_12 wd_10_13 wd_10_14 yd_X12_finding ⟨(Nat.le_of_ble_eq_true rfl), (Nat.le_of_ble_eq_true rfl)⟩ rfl rfl rfl rfl (by decide) rfl (Nat.le_of_ble_eq_true rfl) dX12_earliest_47 ⟨(Nat.le_of_ble_eq_true rfl), (Nat.le_of_ble_eq_true rfl)⟩ (fun r_11 u_12 H locs hw_13 hP hD hS => ?_)
        have hP : va_P g.1 vwCl [(z 1, .inl (gI g, 461, .inl D)), (z 0, .inr (12, [.ref (z 1), .ref (z 2), .int (nI kp), .int u_12, .ref (z 3), .ref (z 4), .ref (z 5), .ref (z 6), .int (xs 1), .ref (z 7), .ref (z 8), .ref (z 9), .ref (z 10), .ref (z 11), .ref (z 12), .int (xs 2), .ref (z 13), .ref (z 14), .int (xs 3), .ref (z 15)]))] H := hP
        have hD : va_D A [(z 1, .inl (gI g, 461, .inl D)), (z 0, .inr (12, [.ref (z 1), .ref (z 2), .int (nI kp), .int u_12, .ref (z 3), .ref (z 4), .ref (z 5), .ref (z 6), .int (xs 1), .ref (z 7), .ref (z 8), .ref (z 9), .ref (z 10), .ref (z 11), .ref (z 12), .int (xs 2), .ref (z 13), .ref (z 14), .int (xs 3), .ref (z 15)]))] := hD
        have hw_13 : r_11 = (-100006) := hw_13
        subst hw_13
        refine lv_goto (tgt := 54) hx hb dX12_earliest_50 (by decide) ?_
        exact k_iret (fun kk_ => ([u_12, (xs 1), (xs 2), (xs 3)] : List Int32).getD kk_ 0) [1, 0] hx hb hr hlk hP hD hS trivial rfl rfl rfl (Nat.le_of_ble_eq_true rfl) (Nat.le_of_ble_eq_true rfl) dX12_earliest_54
    · refine lv_aload_n hx hb dX12_earliest_27 rfl (lv_at hl 0 rfl) ?_
      refine lv_bipush (v := 7) hx hb dX12_earliest_28 (by decide) ?_
      refine k_Vi [0] [1] 0 12 (wr := [(z 1, .inl (gI g, 461, .inl D))]) hx hb hml hown hts hKW hP hD hS hA hl.1 (c_X12_finding_7 l g _ z kp xs ) rfl rfl rfl wd_10_15 wd_1_5 wd_10_12 wd_10_13 wd_10_14 yd_X12_finding ⟨(Nat.le_of_ble_eq_true rfl), (Nat.le_of_ble_eq_true rfl)⟩ rfl rfl rfl rfl (by decide) rfl (Nat.le_of_ble_eq_true rfl) dX12_earliest_30 ⟨(Nat.le_of_ble_eq_true rfl), (Nat.le_of_ble_eq_true rfl)⟩ (fun r_14 u_15 H locs hw_16 hP hD hS => ?_)
      have hP : va_P g.1 vwCl [(z 1, .inl (gI g, 461, .inl D)), (z 0, .inr (12, [.ref (z 1), .ref (z 2), .int (nI kp), .int u_15, .ref (z 3), .ref (z 4), .ref (z 5), .ref (z 6), .int (xs 1), .ref (z 7), .ref (z 8), .ref (z 9), .ref (z 10), .ref (z 11), .ref (z 12), .int (xs 2), .ref (z 13), .ref (z 14), .int (xs 3), .ref (z 15)]))] H := hP
      have hD : va_D A [(z 1, .inl (gI g, 461, .inl D)), (z 0, .inr (12, [.ref (z 1), .ref (z 2), .int (nI kp), .int u_15, .ref (z 3), .ref (z 4), .ref (z 5), .ref (z 6), .int (xs 1), .ref (z 7), .ref (z 8), .ref (z 9), .ref (z 10), .ref (z 11), .ref (z 12), .int (xs 2), .ref (z 13), .ref (z 14), .int (xs 3), .ref (z 15)]))] := hD
      have hw_16 : r_14 = (-100007) := hw_16
      subst hw_16
      exact k_iret (fun kk_ => ([u_15, (xs 1), (xs 2), (xs 3)] : List Int32).getD kk_ 0) [1, 0] hx hb hr hlk hP hD hS trivial rfl rfl rfl (Nat.le_of_ble_eq_true rfl) (Nat.le_of_ble_eq_true rfl) dX12_earliest_33
  · refine lv_if_ne (tgt := 14) hx hb dX12_earliest_5 (by decide) (fun c => absurd c (by decide)) (fun _ => ?_)
    refine lv_aload_n hx hb dX12_earliest_8 rfl (lv_at hl 0 rfl) ?_
    refine lv_iconst (v := 1) hx hb dX12_earliest_9 (by decide) ?_
    refine k_Vi [0] [1] 0 12 (wr := [(z 1, .inl (gI g, 461, .inl D))]) hx hb hml hown hts hKW hP hD hS hA hl.1 (c_X12_finding_1 l g _ z kp xs ) rfl rfl rfl wd_10_15 wd_1_5 wd_10_12 wd_10_13 wd_10_14 yd_X12_finding ⟨(Nat.le_of_ble_eq_true rfl), (Nat.le_of_ble_eq_true rfl)⟩ rfl rfl rfl rfl (by decide) rfl (Nat.le_of_ble_eq_true rfl) dX12_earliest_10 ⟨(Nat.le_of_ble_eq_true rfl), (Nat.le_of_ble_eq_true rfl)⟩ (fun r_17 u_18 H locs hw_19 hP hD hS => ?_)
    have hP : va_P g.1 vwCl [(z 1, .inl (gI g, 461, .inl D)), (z 0, .inr (12, [.ref (z 1), .ref (z 2), .int (nI kp), .int u_18, .ref (z 3), .ref (z 4), .ref (z 5), .ref (z 6), .int (xs 1), .ref (z 7), .ref (z 8), .ref (z 9), .ref (z 10), .ref (z 11), .ref (z 12), .int (xs 2), .ref (z 13), .ref (z 14), .int (xs 3), .ref (z 15)]))] H := hP
    have hD : va_D A [(z 1, .inl (gI g, 461, .inl D)), (z 0, .inr (12, [.ref (z 1), .ref (z 2), .int (nI kp), .int u_18, .ref (z 3), .ref (z 4), .ref (z 5), .ref (z 6), .int (xs 1), .ref (z 7), .ref (z 8), .ref (z 9), .ref (z 10), .ref (z 11), .ref (z 12), .int (xs 2), .ref (z 13), .ref (z 14), .int (xs 3), .ref (z 15)]))] := hD
    have hw_19 : r_17 = (-100001) := hw_19
    subst hw_19
    exact k_iret (fun kk_ => ([u_18, (xs 1), (xs 2), (xs 3)] : List Int32).getD kk_ 0) [1, 0] hx hb hr hlk hP hD hS trivial rfl rfl rfl (Nat.le_of_ble_eq_true rfl) (Nat.le_of_ble_eq_true rfl) dX12_earliest_13
theorem dX12_places_0 : decode cX12_places 0 = .ok (.aload_n 0, 1) := by decide +kernel
theorem dX12_places_1 : decode cX12_places 1 = .ok (.iload_n 1, 1) := by decide +kernel
theorem dX12_places_2 : decode cX12_places 2 = .ok (.invokevirtual 100, 3) := by decide +kernel
theorem dX12_places_5 : decode cX12_places 5 = .ok (.ifCond .eq 19, 3) := by decide +kernel
theorem dX12_places_8 : decode cX12_places 8 = .ok (.iload_n 2, 1) := by decide +kernel
theorem dX12_places_9 : decode cX12_places 9 = .ok (.iconst 0, 1) := by decide +kernel
theorem dX12_places_10 : decode cX12_places 10 = .ok (.iconst 4, 1) := by decide +kernel
theorem dX12_places_11 : decode cX12_places 11 = .ok (.invokestatic 64, 3) := by decide +kernel
theorem dX12_places_14 : decode cX12_places 14 = .ok (.ifCond .eq 10, 3) := by decide +kernel
theorem dX12_places_17 : decode cX12_places 17 = .ok (.iload_n 3, 1) := by decide +kernel
theorem dX12_places_18 : decode cX12_places 18 = .ok (.invokestatic 89, 3) := by decide +kernel
theorem dX12_places_21 : decode cX12_places 21 = .ok (.ifCond .ne 9, 3) := by decide +kernel
theorem dX12_places_30 : decode cX12_places 30 = .ok (.aload_n 0, 1) := by decide +kernel
theorem dX12_places_31 : decode cX12_places 31 = .ok (.iload_n 1, 1) := by decide +kernel
theorem dX12_places_32 : decode cX12_places 32 = .ok (.iload_n 2, 1) := by decide +kernel
theorem dX12_places_33 : decode cX12_places 33 = .ok (.iload_n 3, 1) := by decide +kernel
theorem dX12_places_34 : decode cX12_places 34 = .ok (.invokevirtual 180, 3) := by decide +kernel
theorem dX12_places_37 : decode cX12_places 37 = .ok (.ireturn, 1) := by decide +kernel
theorem dX12_places_24 : decode cX12_places 24 = .ok (.aload_n 0, 1) := by decide +kernel
theorem dX12_places_25 : decode cX12_places 25 = .ok (.iconst 1, 1) := by decide +kernel
theorem dX12_places_26 : decode cX12_places 26 = .ok (.invokevirtual 68, 3) := by decide +kernel
theorem dX12_places_29 : decode cX12_places 29 = .ok (.ireturn, 1) := by decide +kernel
set_option maxHeartbeats 8000000 in
set_option maxRecDepth 100000 in
theorem c_X12_places (l : Launch) (g : kG) (sz : Nat) (z : Nat → Nat) (kp : Nat) (xs : Nat → Int32) (D : Nat → Int32) (x : Int32) (y : Int32) (w : Int32) (hDI : DI D) : kMi l g yX12_places cX12_places 4 (some .int) 5 0 0 [.ref (z 0), .int x, .int y, .int w] sz [(z 0, .inr (12, [.ref (z 1), .ref (z 2), .int (nI kp), .int (xs 0), .ref (z 3), .ref (z 4), .ref (z 5), .ref (z 6), .int (xs 1), .ref (z 7), .ref (z 8), .ref (z 9), .ref (z 10), .ref (z 11), .ref (z 12), .int (xs 2), .ref (z 13), .ref (z 14), .int (xs 3), .ref (z 15)])), (z 1, .inl (gI g, 461, .inl D))] (fun (r : Int32) (u : (Nat → Int32)) => True) (fun (u : (Nat → Int32)) => ([(z 0, .inr (12, [.ref (z 1), .ref (z 2), .int (nI kp), .int (u 0), .ref (z 3), .ref (z 4), .ref (z 5), .ref (z 6), .int (u 1), .ref (z 7), .ref (z 8), .ref (z 9), .ref (z 10), .ref (z 11), .ref (z 12), .int (u 2), .ref (z 13), .ref (z 14), .int (u 3), .ref (z 15)])), (z 1, .inl (gI g, 461, .inl D))] : va_W)) := by
  refine kMi.of (by decide) (Nat.le_of_ble_eq_true rfl) (fun p e s m below meth c A hx hb hr hml hown hts hlk hnm hKW hP hD hS hA ls hl => ?_)
  have hown : s.vm.findClass RX12 = some m.cls := hown
  have hl : lv_has ls 4 [(0, .ref (z 0)), (1, .int x), (2, .int y), (3, .int w)] := hl
  refine k_hide hP hS (fun H locs hP hS => ?_)
  refine lv_aload_n hx hb dX12_places_0 rfl (lv_at hl 0 rfl) ?_
  refine lv_iload_n hx hb dX12_places_1 rfl (lv_at hl 1 rfl) ?_
  refine k_Vi [0, 1] [] 0 12 (wr := []) hx hb hml hown hts hKW hP hD hS hA hl.1 (c_X12_isRoom l g _ z kp xs D x (by first | assumption | omega | decide)) rfl rfl rfl wd_20_4 wd_1_5 wd_20_1 wd_20_2 wd_20_3 yd_X12_isRoom ⟨(Nat.le_of_ble_eq_true rfl), (Nat.le_of_ble_eq_true rfl)⟩ rfl rfl rfl rfl (by decide) rfl (Nat.le_of_ble_eq_true rfl) dX12_places_2 ⟨(Nat.le_of_ble_eq_true rfl), (Nat.le_of_ble_eq_true rfl)⟩ (fun r_1 u_2 H locs hw_3 hP hD hS => ?_)
  have hP : va_P g.1 vwCl [(z 0, .inr (12, [.ref (z 1), .ref (z 2), .int (nI kp), .int (xs 0), .ref (z 3), .ref (z 4), .ref (z 5), .ref (z 6), .int (xs 1), .ref (z 7), .ref (z 8), .ref (z 9), .ref (z 10), .ref (z 11), .ref (z 12), .int (xs 2), .ref (z 13), .ref (z 14), .int (xs 3), .ref (z 15)])), (z 1, .inl (gI g, 461, .inl D))] H := hP
  have hD : va_D A [(z 0, .inr (12, [.ref (z 1), .ref (z 2), .int (nI kp), .int (xs 0), .ref (z 3), .ref (z 4), .ref (z 5), .ref (z 6), .int (xs 1), .ref (z 7), .ref (z 8), .ref (z 9), .ref (z 10), .ref (z 11), .ref (z 12), .int (xs 2), .ref (z 13), .ref (z 14), .int (xs 3), .ref (z 15)])), (z 1, .inl (gI g, 461, .inl D))] := hD
  rcases (show (r_1 = 1 ∧ (∃ j : Nat, (j < 5 ∧ (j : Int) < (D 0).toInt) ∧ x = nI j)) ∨ (r_1 = 0 ∧ ¬ (∃ j : Nat, (j < 5 ∧ (j : Int) < (D 0).toInt) ∧ x = nI j)) from hw_3) with ⟨rfl, hw_3b⟩ | ⟨rfl, hw_3b⟩ <;> clear hw_3
  · obtain ⟨j_4, hj_4, rfl⟩ := hw_3b
    refine lv_if_eq (tgt := 24) hx hb dX12_places_5 (by decide) (fun c => absurd c (by decide)) (fun _ => ?_)
    refine lv_iload_n hx hb dX12_places_8 rfl (lv_at hl 2 rfl) ?_
    refine lv_iconst (v := 0) hx hb dX12_places_9 (by decide) ?_
    refine lv_iconst (v := 4) hx hb dX12_places_10 (by decide) ?_
    refine k_Si [] [0, 1] (wr := [(z 0, .inr (12, [.ref (z 1), .ref (z 2), .int (nI kp), .int (xs 0), .ref (z 3), .ref (z 4), .ref (z 5), .ref (z 6), .int (xs 1), .ref (z 7), .ref (z 8), .ref (z 9), .ref (z 10), .ref (z 11), .ref (z 12), .int (xs 2), .ref (z 13), .ref (z 14), .int (xs 3), .ref (z 15)])), (z 1, .inl (gI g, 461, .inl D))]) hx hb hml hown hts hKW hP hD hS hA hl.1 (c_X12_isIn l g _ y 0 4 ) wd_10_11 wd_1_5 wd_10_9 wd_10_10 yd_X12_isIn ⟨(Nat.le_of_ble_eq_true rfl), (Nat.le_of_ble_eq_true rfl)⟩ rfl rfl rfl rfl (by decide) rfl (Nat.le_of_ble_eq_true rfl) dX12_places_11 ⟨(Nat.le_of_ble_eq_true rfl), (Nat.le_of_ble_eq_true rfl)⟩ (fun r_5 u_6 H locs hw_7 hP hD hS => ?_)
    have hP : va_P g.1 vwCl [(z 0, .inr (12, [.ref (z 1), .ref (z 2), .int (nI kp), .int (xs 0), .ref (z 3), .ref (z 4), .ref (z 5), .ref (z 6), .int (xs 1), .ref (z 7), .ref (z 8), .ref (z 9), .ref (z 10), .ref (z 11), .ref (z 12), .int (xs 2), .ref (z 13), .ref (z 14), .int (xs 3), .ref (z 15)])), (z 1, .inl (gI g, 461, .inl D))] H := hP
    have hD : va_D A [(z 0, .inr (12, [.ref (z 1), .ref (z 2), .int (nI kp), .int (xs 0), .ref (z 3), .ref (z 4), .ref (z 5), .ref (z 6), .int (xs 1), .ref (z 7), .ref (z 8), .ref (z 9), .ref (z 10), .ref (z 11), .ref (z 12), .int (xs 2), .ref (z 13), .ref (z 14), .int (xs 3), .ref (z 15)])), (z 1, .inl (gI g, 461, .inl D))] := hD
    rcases (show (r_5 = 1 ∧ (Int32.toInt 0 ≤ Int32.toInt y ∧ Int32.toInt y ≤ Int32.toInt 4)) ∨ (r_5 = 0 ∧ ¬ (Int32.toInt 0 ≤ Int32.toInt y ∧ Int32.toInt y ≤ Int32.toInt 4)) from hw_7) with ⟨rfl, hw_7b⟩ | ⟨rfl, hw_7b⟩ <;> clear hw_7
    · refine lv_if_eq (tgt := 24) hx hb dX12_places_14 (by decide) (fun c => absurd c (by decide)) (fun _ => ?_)
      refine lv_iload_n hx hb dX12_places_17 rfl (lv_at hl 3 rfl) ?_
      refine k_Si [] [0, 1] (wr := [(z 0, .inr (12, [.ref (z 1), .ref (z 2), .int (nI kp), .int (xs 0), .ref (z 3), .ref (z 4), .ref (z 5), .ref (z 6), .int (xs 1), .ref (z 7), .ref (z 8), .ref (z 9), .ref (z 10), .ref (z 11), .ref (z 12), .int (xs 2), .ref (z 13), .ref (z 14), .int (xs 3), .ref (z 15)])), (z 1, .inl (gI g, 461, .inl D))]) hx hb hml hown hts hKW hP hD hS hA hl.1 (c_X12_isMonth l g _ w ) wd_15_15 wd_1_5 wd_15_13 wd_15_14 yd_X12_isMonth ⟨(Nat.le_of_ble_eq_true rfl), (Nat.le_of_ble_eq_true rfl)⟩ rfl rfl rfl rfl (by decide) rfl (Nat.le_of_ble_eq_true rfl) dX12_places_18 ⟨(Nat.le_of_ble_eq_true rfl), (Nat.le_of_ble_eq_true rfl)⟩ (fun r_8 u_9 H locs hw_10 hP hD hS => ?_)
      have hP : va_P g.1 vwCl [(z 0, .inr (12, [.ref (z 1), .ref (z 2), .int (nI kp), .int (xs 0), .ref (z 3), .ref (z 4), .ref (z 5), .ref (z 6), .int (xs 1), .ref (z 7), .ref (z 8), .ref (z 9), .ref (z 10), .ref (z 11), .ref (z 12), .int (xs 2), .ref (z 13), .ref (z 14), .int (xs 3), .ref (z 15)])), (z 1, .inl (gI g, 461, .inl D))] H := hP
      have hD : va_D A [(z 0, .inr (12, [.ref (z 1), .ref (z 2), .int (nI kp), .int (xs 0), .ref (z 3), .ref (z 4), .ref (z 5), .ref (z 6), .int (xs 1), .ref (z 7), .ref (z 8), .ref (z 9), .ref (z 10), .ref (z 11), .ref (z 12), .int (xs 2), .ref (z 13), .ref (z 14), .int (xs 3), .ref (z 15)])), (z 1, .inl (gI g, 461, .inl D))] := hD
      rcases (show (r_8 = 1 ∧ ((0 : Int) ≤ Int32.toInt w ∧ Int32.toInt w ≤ 60)) ∨ (r_8 = 0 ∧ ¬ ((0 : Int) ≤ Int32.toInt w ∧ Int32.toInt w ≤ 60)) from hw_10) with ⟨rfl, hw_10b⟩ | ⟨rfl, hw_10b⟩ <;> clear hw_10
      · refine lv_if_ne (tgt := 30) hx hb dX12_places_21 (by decide) (fun _ => ?_) (fun c => absurd c (by decide))
        refine lv_aload_n hx hb dX12_places_30 rfl (lv_at hl 0 rfl) ?_
        refine lv_iload_n hx hb dX12_places_31 rfl (lv_at hl 1 rfl) ?_
        refine lv_iload_n hx hb dX12_places_32 rfl (lv_at hl 2 rfl) ?_
        refine lv_iload_n hx hb dX12_places_33 rfl (lv_at hl 3 rfl) ?_
        refine k_Vi [0, 1] [] 0 12 (wr := []) hx hb hml hown hts hKW hP hD hS hA hl.1 (c_X12_haveIn l g _ z kp xs D (nI j_4) y w (by first | assumption | omega | decide)) rfl rfl rfl wd_42_16 wd_1_5 wd_42_13 wd_42_14 wd_42_15 yd_X12_haveIn ⟨(Nat.le_of_ble_eq_true rfl), (Nat.le_of_ble_eq_true rfl)⟩ rfl rfl rfl rfl (by decide) rfl (Nat.le_of_ble_eq_true rfl) dX12_places_34 ⟨(Nat.le_of_ble_eq_true rfl), (Nat.le_of_ble_eq_true rfl)⟩ (fun r_11 u_12 H locs hw_13 hP hD hS => ?_)
        have hP : va_P g.1 vwCl [(z 0, .inr (12, [.ref (z 1), .ref (z 2), .int (nI kp), .int (xs 0), .ref (z 3), .ref (z 4), .ref (z 5), .ref (z 6), .int (xs 1), .ref (z 7), .ref (z 8), .ref (z 9), .ref (z 10), .ref (z 11), .ref (z 12), .int (xs 2), .ref (z 13), .ref (z 14), .int (xs 3), .ref (z 15)])), (z 1, .inl (gI g, 461, .inl D))] H := hP
        have hD : va_D A [(z 0, .inr (12, [.ref (z 1), .ref (z 2), .int (nI kp), .int (xs 0), .ref (z 3), .ref (z 4), .ref (z 5), .ref (z 6), .int (xs 1), .ref (z 7), .ref (z 8), .ref (z 9), .ref (z 10), .ref (z 11), .ref (z 12), .int (xs 2), .ref (z 13), .ref (z 14), .int (xs 3), .ref (z 15)])), (z 1, .inl (gI g, 461, .inl D))] := hD
        exact k_iret xs [0, 1] hx hb hr hlk hP hD hS trivial rfl rfl rfl (Nat.le_of_ble_eq_true rfl) (Nat.le_of_ble_eq_true rfl) dX12_places_37
      · refine lv_if_ne (tgt := 30) hx hb dX12_places_21 (by decide) (fun c => absurd c (by decide)) (fun _ => ?_)
        refine lv_aload_n hx hb dX12_places_24 rfl (lv_at hl 0 rfl) ?_
        refine lv_iconst (v := 1) hx hb dX12_places_25 (by decide) ?_
        refine k_Vi [0] [1] 0 12 (wr := [(z 1, .inl (gI g, 461, .inl D))]) hx hb hml hown hts hKW hP hD hS hA hl.1 (c_X12_finding_1 l g _ z kp xs ) rfl rfl rfl wd_10_15 wd_1_5 wd_10_12 wd_10_13 wd_10_14 yd_X12_finding ⟨(Nat.le_of_ble_eq_true rfl), (Nat.le_of_ble_eq_true rfl)⟩ rfl rfl rfl rfl (by decide) rfl (Nat.le_of_ble_eq_true rfl) dX12_places_26 ⟨(Nat.le_of_ble_eq_true rfl), (Nat.le_of_ble_eq_true rfl)⟩ (fun r_14 u_15 H locs hw_16 hP hD hS => ?_)
        have hP : va_P g.1 vwCl [(z 1, .inl (gI g, 461, .inl D)), (z 0, .inr (12, [.ref (z 1), .ref (z 2), .int (nI kp), .int u_15, .ref (z 3), .ref (z 4), .ref (z 5), .ref (z 6), .int (xs 1), .ref (z 7), .ref (z 8), .ref (z 9), .ref (z 10), .ref (z 11), .ref (z 12), .int (xs 2), .ref (z 13), .ref (z 14), .int (xs 3), .ref (z 15)]))] H := hP
        have hD : va_D A [(z 1, .inl (gI g, 461, .inl D)), (z 0, .inr (12, [.ref (z 1), .ref (z 2), .int (nI kp), .int u_15, .ref (z 3), .ref (z 4), .ref (z 5), .ref (z 6), .int (xs 1), .ref (z 7), .ref (z 8), .ref (z 9), .ref (z 10), .ref (z 11), .ref (z 12), .int (xs 2), .ref (z 13), .ref (z 14), .int (xs 3), .ref (z 15)]))] := hD
        have hw_16 : r_14 = (-100001) := hw_16
        subst hw_16
        exact k_iret (fun kk_ => ([u_15, (xs 1), (xs 2), (xs 3)] : List Int32).getD kk_ 0) [1, 0] hx hb hr hlk hP hD hS trivial rfl rfl rfl (Nat.le_of_ble_eq_true rfl) (Nat.le_of_ble_eq_true rfl) dX12_places_29
    · refine lv_if_eq (tgt := 24) hx hb dX12_places_14 (by decide) (fun _ => ?_) (fun c => absurd c (by decide))
      refine lv_aload_n hx hb dX12_places_24 rfl (lv_at hl 0 rfl) ?_
      refine lv_iconst (v := 1) hx hb dX12_places_25 (by decide) ?_
      refine k_Vi [0] [1] 0 12 (wr := [(z 1, .inl (gI g, 461, .inl D))]) hx hb hml hown hts hKW hP hD hS hA hl.1 (c_X12_finding_1 l g _ z kp xs ) rfl rfl rfl wd_10_15 wd_1_5 wd_10_12 wd_10_13 wd_10_14 yd_X12_finding ⟨(Nat.le_of_ble_eq_true rfl), (Nat.le_of_ble_eq_true rfl)⟩ rfl rfl rfl rfl (by decide) rfl (Nat.le_of_ble_eq_true rfl) dX12_places_26 ⟨(Nat.le_of_ble_eq_true rfl), (Nat.le_of_ble_eq_true rfl)⟩ (fun r_17 u_18 H locs hw_19 hP hD hS => ?_)
      have hP : va_P g.1 vwCl [(z 1, .inl (gI g, 461, .inl D)), (z 0, .inr (12, [.ref (z 1), .ref (z 2), .int (nI kp), .int u_18, .ref (z 3), .ref (z 4), .ref (z 5), .ref (z 6), .int (xs 1), .ref (z 7), .ref (z 8), .ref (z 9), .ref (z 10), .ref (z 11), .ref (z 12), .int (xs 2), .ref (z 13), .ref (z 14), .int (xs 3), .ref (z 15)]))] H := hP
      have hD : va_D A [(z 1, .inl (gI g, 461, .inl D)), (z 0, .inr (12, [.ref (z 1), .ref (z 2), .int (nI kp), .int u_18, .ref (z 3), .ref (z 4), .ref (z 5), .ref (z 6), .int (xs 1), .ref (z 7), .ref (z 8), .ref (z 9), .ref (z 10), .ref (z 11), .ref (z 12), .int (xs 2), .ref (z 13), .ref (z 14), .int (xs 3), .ref (z 15)]))] := hD
      have hw_19 : r_17 = (-100001) := hw_19
      subst hw_19
      exact k_iret (fun kk_ => ([u_18, (xs 1), (xs 2), (xs 3)] : List Int32).getD kk_ 0) [1, 0] hx hb hr hlk hP hD hS trivial rfl rfl rfl (Nat.le_of_ble_eq_true rfl) (Nat.le_of_ble_eq_true rfl) dX12_places_29
  · refine lv_if_eq (tgt := 24) hx hb dX12_places_5 (by decide) (fun _ => ?_) (fun c => absurd c (by decide))
    refine lv_aload_n hx hb dX12_places_24 rfl (lv_at hl 0 rfl) ?_
    refine lv_iconst (v := 1) hx hb dX12_places_25 (by decide) ?_
    refine k_Vi [0] [1] 0 12 (wr := [(z 1, .inl (gI g, 461, .inl D))]) hx hb hml hown hts hKW hP hD hS hA hl.1 (c_X12_finding_1 l g _ z kp xs ) rfl rfl rfl wd_10_15 wd_1_5 wd_10_12 wd_10_13 wd_10_14 yd_X12_finding ⟨(Nat.le_of_ble_eq_true rfl), (Nat.le_of_ble_eq_true rfl)⟩ rfl rfl rfl rfl (by decide) rfl (Nat.le_of_ble_eq_true rfl) dX12_places_26 ⟨(Nat.le_of_ble_eq_true rfl), (Nat.le_of_ble_eq_true rfl)⟩ (fun r_20 u_21 H locs hw_22 hP hD hS => ?_)
    have hP : va_P g.1 vwCl [(z 1, .inl (gI g, 461, .inl D)), (z 0, .inr (12, [.ref (z 1), .ref (z 2), .int (nI kp), .int u_21, .ref (z 3), .ref (z 4), .ref (z 5), .ref (z 6), .int (xs 1), .ref (z 7), .ref (z 8), .ref (z 9), .ref (z 10), .ref (z 11), .ref (z 12), .int (xs 2), .ref (z 13), .ref (z 14), .int (xs 3), .ref (z 15)]))] H := hP
    have hD : va_D A [(z 1, .inl (gI g, 461, .inl D)), (z 0, .inr (12, [.ref (z 1), .ref (z 2), .int (nI kp), .int u_21, .ref (z 3), .ref (z 4), .ref (z 5), .ref (z 6), .int (xs 1), .ref (z 7), .ref (z 8), .ref (z 9), .ref (z 10), .ref (z 11), .ref (z 12), .int (xs 2), .ref (z 13), .ref (z 14), .int (xs 3), .ref (z 15)]))] := hD
    have hw_22 : r_20 = (-100001) := hw_22
    subst hw_22
    exact k_iret (fun kk_ => ([u_21, (xs 1), (xs 2), (xs 3)] : List Int32).getD kk_ 0) [1, 0] hx hb hr hlk hP hD hS trivial rfl rfl rfl (Nat.le_of_ble_eq_true rfl) (Nat.le_of_ble_eq_true rfl) dX12_places_29
theorem dX12_bill_0 : decode cX12_bill 0 = .ok (.aload_n 0, 1) := by decide +kernel
theorem dX12_bill_1 : decode cX12_bill 1 = .ok (.iload_n 1, 1) := by decide +kernel
theorem dX12_bill_2 : decode cX12_bill 2 = .ok (.invokevirtual 82, 3) := by decide +kernel
theorem dX12_bill_5 : decode cX12_bill 5 = .ok (.ifCond .eq 23, 3) := by decide +kernel
theorem dX12_bill_8 : decode cX12_bill 8 = .ok (.iload_n 2, 1) := by decide +kernel
theorem dX12_bill_9 : decode cX12_bill 9 = .ok (.iconst 0, 1) := by decide +kernel
theorem dX12_bill_10 : decode cX12_bill 10 = .ok (.bipush 31, 2) := by decide +kernel
theorem dX12_bill_12 : decode cX12_bill 12 = .ok (.invokestatic 64, 3) := by decide +kernel
theorem dX12_bill_15 : decode cX12_bill 15 = .ok (.ifCond .eq 13, 3) := by decide +kernel
theorem dX12_bill_18 : decode cX12_bill 18 = .ok (.iload_n 3, 1) := by decide +kernel
theorem dX12_bill_19 : decode cX12_bill 19 = .ok (.iconst 0, 1) := by decide +kernel
theorem dX12_bill_20 : decode cX12_bill 20 = .ok (.bipush 30, 2) := by decide +kernel
theorem dX12_bill_22 : decode cX12_bill 22 = .ok (.invokestatic 64, 3) := by decide +kernel
theorem dX12_bill_25 : decode cX12_bill 25 = .ok (.ifCond .ne 9, 3) := by decide +kernel
theorem dX12_bill_34 : decode cX12_bill 34 = .ok (.bipush 10, 2) := by decide +kernel
theorem dX12_bill_36 : decode cX12_bill 36 = .ok (.aload_n 0, 1) := by decide +kernel
theorem dX12_bill_37 : decode cX12_bill 37 = .ok (.getfield 7, 3) := by decide +kernel
theorem dX12_bill_40 : decode cX12_bill 40 = .ok (.bipush 67, 2) := by decide +kernel
theorem dX12_bill_42 : decode cX12_bill 42 = .ok (.iload_n 1, 1) := by decide +kernel
theorem dX12_bill_43 : decode cX12_bill 43 = .ok (.iadd, 1) := by decide +kernel
theorem dX12_bill_44 : decode cX12_bill 44 = .ok (.iaload, 1) := by decide +kernel
theorem dX12_bill_45 : decode cX12_bill 45 = .ok (.iload_n 2, 1) := by decide +kernel
theorem dX12_bill_46 : decode cX12_bill 46 = .ok (.iconst (-1), 1) := by decide +kernel
theorem dX12_bill_47 : decode cX12_bill 47 = .ok (.ixor, 1) := by decide +kernel
theorem dX12_bill_48 : decode cX12_bill 48 = .ok (.iand, 1) := by decide +kernel
theorem dX12_bill_49 : decode cX12_bill 49 = .ok (.invokestatic 106, 3) := by decide +kernel
theorem dX12_bill_52 : decode cX12_bill 52 = .ok (.imul, 1) := by decide +kernel
theorem dX12_bill_53 : decode cX12_bill 53 = .ok (.iload 4, 2) := by decide +kernel
theorem dX12_bill_55 : decode cX12_bill 55 = .ok (.ifCond .eq 7, 3) := by decide +kernel
theorem dX12_bill_62 : decode cX12_bill 62 = .ok (.iconst 0, 1) := by decide +kernel
theorem dX12_bill_63 : decode cX12_bill 63 = .ok (.isub, 1) := by decide +kernel
theorem dX12_bill_64 : decode cX12_bill 64 = .ok (.istore 5, 2) := by decide +kernel
theorem dX12_bill_66 : decode cX12_bill 66 = .ok (.iconst (-1), 1) := by decide +kernel
theorem dX12_bill_67 : decode cX12_bill 67 = .ok (.istore 6, 2) := by decide +kernel
theorem dX12_bill_69 : decode cX12_bill 69 = .ok (.iconst 0, 1) := by decide +kernel
theorem dX12_bill_70 : decode cX12_bill 70 = .ok (.istore 7, 2) := by decide +kernel
theorem dX12_bill_72 : decode cX12_bill 72 = .ok (.iload 7, 2) := by decide +kernel
theorem dX12_bill_74 : decode cX12_bill 74 = .ok (.aload_n 0, 1) := by decide +kernel
theorem dX12_bill_75 : decode cX12_bill 75 = .ok (.getfield 7, 3) := by decide +kernel
theorem dX12_bill_78 : decode cX12_bill 78 = .ok (.iconst 5, 1) := by decide +kernel
theorem dX12_bill_79 : decode cX12_bill 79 = .ok (.iaload, 1) := by decide +kernel
theorem dX12_bill_80 : decode cX12_bill 80 = .ok (.if_icmp .ge 57, 3) := by decide +kernel
theorem dX12_bill_137 : decode cX12_bill 137 = .ok (.iload 5, 2) := by decide +kernel
theorem dX12_bill_139 : decode cX12_bill 139 = .ok (.ifCond .ge 7, 3) := by decide +kernel
theorem dX12_bill_146 : decode cX12_bill 146 = .ok (.iload 5, 2) := by decide +kernel
theorem dX12_bill_148 : decode cX12_bill 148 = .ok (.aload_n 0, 1) := by decide +kernel
theorem dX12_bill_149 : decode cX12_bill 149 = .ok (.getfield 7, 3) := by decide +kernel
theorem dX12_bill_152 : decode cX12_bill 152 = .ok (.bipush 9, 2) := by decide +kernel
theorem dX12_bill_154 : decode cX12_bill 154 = .ok (.iaload, 1) := by decide +kernel
theorem dX12_bill_155 : decode cX12_bill 155 = .ok (.imul, 1) := by decide +kernel
theorem dX12_bill_156 : decode cX12_bill 156 = .ok (.iload 6, 2) := by decide +kernel
theorem dX12_bill_158 : decode cX12_bill 158 = .ok (.bipush 54, 2) := by decide +kernel
theorem dX12_bill_160 : decode cX12_bill 160 = .ok (.if_icmp .le 13, 3) := by decide +kernel
theorem dX12_bill_173 : decode cX12_bill 173 = .ok (.iconst 0, 1) := by decide +kernel
theorem dX12_bill_174 : decode cX12_bill 174 = .ok (.iadd, 1) := by decide +kernel
theorem dX12_bill_175 : decode cX12_bill 175 = .ok (.ireturn, 1) := by decide +kernel
theorem dX12_bill_163 : decode cX12_bill 163 = .ok (.iconst 5, 1) := by decide +kernel
theorem dX12_bill_164 : decode cX12_bill 164 = .ok (.iload 6, 2) := by decide +kernel
theorem dX12_bill_166 : decode cX12_bill 166 = .ok (.bipush 54, 2) := by decide +kernel
theorem dX12_bill_168 : decode cX12_bill 168 = .ok (.isub, 1) := by decide +kernel
theorem dX12_bill_169 : decode cX12_bill 169 = .ok (.imul, 1) := by decide +kernel
theorem dX12_bill_170 : decode cX12_bill 170 = .ok (.goto 4, 3) := by decide +kernel
theorem dX12_bill_142 : decode cX12_bill 142 = .ok (.iconst 0, 1) := by decide +kernel
theorem dX12_bill_143 : decode cX12_bill 143 = .ok (.goto 5, 3) := by decide +kernel
theorem dX12_bill_83 : decode cX12_bill 83 = .ok (.aload_n 0, 1) := by decide +kernel
theorem dX12_bill_84 : decode cX12_bill 84 = .ok (.getfield 7, 3) := by decide +kernel
theorem dX12_bill_87 : decode cX12_bill 87 = .ok (.sipush 221, 3) := by decide +kernel
theorem dX12_bill_90 : decode cX12_bill 90 = .ok (.iload 7, 2) := by decide +kernel
theorem dX12_bill_92 : decode cX12_bill 92 = .ok (.iadd, 1) := by decide +kernel
theorem dX12_bill_93 : decode cX12_bill 93 = .ok (.iaload, 1) := by decide +kernel
theorem dX12_bill_94 : decode cX12_bill 94 = .ok (.iload_n 1, 1) := by decide +kernel
theorem dX12_bill_95 : decode cX12_bill 95 = .ok (.if_icmp .ne 32, 3) := by decide +kernel
theorem dX12_bill_127 : decode cX12_bill 127 = .ok (.iload 6, 2) := by decide +kernel
theorem dX12_bill_129 : decode cX12_bill 129 = .ok (.istore 6, 2) := by decide +kernel
theorem dX12_bill_131 : decode cX12_bill 131 = .ok (.iinc 7 1, 3) := by decide +kernel
theorem dX12_bill_134 : decode cX12_bill 134 = .ok (.goto (-62), 3) := by decide +kernel
theorem dX12_bill_98 : decode cX12_bill 98 = .ok (.aload_n 0, 1) := by decide +kernel
theorem dX12_bill_99 : decode cX12_bill 99 = .ok (.getfield 7, 3) := by decide +kernel
theorem dX12_bill_102 : decode cX12_bill 102 = .ok (.sipush 301, 3) := by decide +kernel
theorem dX12_bill_105 : decode cX12_bill 105 = .ok (.iload 7, 2) := by decide +kernel
theorem dX12_bill_107 : decode cX12_bill 107 = .ok (.iadd, 1) := by decide +kernel
theorem dX12_bill_108 : decode cX12_bill 108 = .ok (.iaload, 1) := by decide +kernel
theorem dX12_bill_109 : decode cX12_bill 109 = .ok (.iconst 2, 1) := by decide +kernel
theorem dX12_bill_110 : decode cX12_bill 110 = .ok (.if_icmp .ne 17, 3) := by decide +kernel
theorem dX12_bill_113 : decode cX12_bill 113 = .ok (.aload_n 0, 1) := by decide +kernel
theorem dX12_bill_114 : decode cX12_bill 114 = .ok (.getfield 7, 3) := by decide +kernel
theorem dX12_bill_117 : decode cX12_bill 117 = .ok (.sipush 261, 3) := by decide +kernel
theorem dX12_bill_120 : decode cX12_bill 120 = .ok (.iload 7, 2) := by decide +kernel
theorem dX12_bill_122 : decode cX12_bill 122 = .ok (.iadd, 1) := by decide +kernel
theorem dX12_bill_123 : decode cX12_bill 123 = .ok (.iaload, 1) := by decide +kernel
theorem dX12_bill_124 : decode cX12_bill 124 = .ok (.goto 5, 3) := by decide +kernel
theorem dX12_bill_58 : decode cX12_bill 58 = .ok (.iload_n 3, 1) := by decide +kernel
theorem dX12_bill_59 : decode cX12_bill 59 = .ok (.goto 4, 3) := by decide +kernel
theorem dX12_bill_28 : decode cX12_bill 28 = .ok (.aload_n 0, 1) := by decide +kernel
theorem dX12_bill_29 : decode cX12_bill 29 = .ok (.iconst 1, 1) := by decide +kernel
theorem dX12_bill_30 : decode cX12_bill 30 = .ok (.invokevirtual 68, 3) := by decide +kernel
theorem dX12_bill_33 : decode cX12_bill 33 = .ok (.ireturn, 1) := by decide +kernel
set_option maxHeartbeats 8000000 in
set_option maxRecDepth 100000 in
theorem c_X12_bill (l : Launch) (g : kG) (sz : Nat) (z : Nat → Nat) (kp : Nat) (xs : Nat → Int32) (D : Nat → Int32) (x : Int32) (y : Int32) (v : Int32) (w : Int32) (hDI : DI D) : kMi l g yX12_bill cX12_bill 8 (some .int) 4 0 0 [.ref (z 0), .int x, .int y, .int v, .int w] sz [(z 0, .inr (12, [.ref (z 1), .ref (z 2), .int (nI kp), .int (xs 0), .ref (z 3), .ref (z 4), .ref (z 5), .ref (z 6), .int (xs 1), .ref (z 7), .ref (z 8), .ref (z 9), .ref (z 10), .ref (z 11), .ref (z 12), .int (xs 2), .ref (z 13), .ref (z 14), .int (xs 3), .ref (z 15)])), (z 1, .inl (gI g, 461, .inl D))] (fun (r : Int32) (u : (Nat → Int32)) => True) (fun (u : (Nat → Int32)) => ([(z 0, .inr (12, [.ref (z 1), .ref (z 2), .int (nI kp), .int (u 0), .ref (z 3), .ref (z 4), .ref (z 5), .ref (z 6), .int (u 1), .ref (z 7), .ref (z 8), .ref (z 9), .ref (z 10), .ref (z 11), .ref (z 12), .int (u 2), .ref (z 13), .ref (z 14), .int (u 3), .ref (z 15)])), (z 1, .inl (gI g, 461, .inl D))] : va_W)) := by
  refine kMi.of (by decide) (Nat.le_of_ble_eq_true rfl) (fun p e s m below meth c A hx hb hr hml hown hts hlk hnm hKW hP hD hS hA ls hl => ?_)
  have hown : s.vm.findClass RX12 = some m.cls := hown
  have hl : lv_has ls 8 [(0, .ref (z 0)), (1, .int x), (2, .int y), (3, .int v), (4, .int w)] := hl
  refine k_hide hP hS (fun H locs hP hS => ?_)
  refine lv_aload_n hx hb dX12_bill_0 rfl (lv_at hl 0 rfl) ?_
  refine lv_iload_n hx hb dX12_bill_1 rfl (lv_at hl 1 rfl) ?_
  refine k_Vi [0, 1] [] 0 12 (wr := []) hx hb hml hown hts hKW hP hD hS hA hl.1 (c_X12_isChild l g _ z kp xs D x (by first | assumption | omega | decide)) rfl rfl rfl wd_13_19 wd_1_5 wd_13_16 wd_13_17 wd_13_18 yd_X12_isChild ⟨(Nat.le_of_ble_eq_true rfl), (Nat.le_of_ble_eq_true rfl)⟩ rfl rfl rfl rfl (by decide) rfl (Nat.le_of_ble_eq_true rfl) dX12_bill_2 ⟨(Nat.le_of_ble_eq_true rfl), (Nat.le_of_ble_eq_true rfl)⟩ (fun r_1 u_2 H locs hw_3 hP hD hS => ?_)
  have hP : va_P g.1 vwCl [(z 0, .inr (12, [.ref (z 1), .ref (z 2), .int (nI kp), .int (xs 0), .ref (z 3), .ref (z 4), .ref (z 5), .ref (z 6), .int (xs 1), .ref (z 7), .ref (z 8), .ref (z 9), .ref (z 10), .ref (z 11), .ref (z 12), .int (xs 2), .ref (z 13), .ref (z 14), .int (xs 3), .ref (z 15)])), (z 1, .inl (gI g, 461, .inl D))] H := hP
  have hD : va_D A [(z 0, .inr (12, [.ref (z 1), .ref (z 2), .int (nI kp), .int (xs 0), .ref (z 3), .ref (z 4), .ref (z 5), .ref (z 6), .int (xs 1), .ref (z 7), .ref (z 8), .ref (z 9), .ref (z 10), .ref (z 11), .ref (z 12), .int (xs 2), .ref (z 13), .ref (z 14), .int (xs 3), .ref (z 15)])), (z 1, .inl (gI g, 461, .inl D))] := hD
  rcases (show (r_1 = 1 ∧ (∃ j : Nat, (j < 10 ∧ (j : Int) < (D 2).toInt) ∧ x = nI j)) ∨ (r_1 = 0 ∧ ¬ (∃ j : Nat, (j < 10 ∧ (j : Int) < (D 2).toInt) ∧ x = nI j)) from hw_3) with ⟨rfl, hw_3b⟩ | ⟨rfl, hw_3b⟩ <;> clear hw_3
  · obtain ⟨j_4, hj_4, rfl⟩ := hw_3b
    refine lv_if_eq (tgt := 28) hx hb dX12_bill_5 (by decide) (fun c => absurd c (by decide)) (fun _ => ?_)
    refine lv_iload_n hx hb dX12_bill_8 rfl (lv_at hl 2 rfl) ?_
    refine lv_iconst (v := 0) hx hb dX12_bill_9 (by decide) ?_
    refine lv_bipush (v := 31) hx hb dX12_bill_10 (by decide) ?_
    refine k_Si [] [0, 1] (wr := [(z 0, .inr (12, [.ref (z 1), .ref (z 2), .int (nI kp), .int (xs 0), .ref (z 3), .ref (z 4), .ref (z 5), .ref (z 6), .int (xs 1), .ref (z 7), .ref (z 8), .ref (z 9), .ref (z 10), .ref (z 11), .ref (z 12), .int (xs 2), .ref (z 13), .ref (z 14), .int (xs 3), .ref (z 15)])), (z 1, .inl (gI g, 461, .inl D))]) hx hb hml hown hts hKW hP hD hS hA hl.1 (c_X12_isIn l g _ y 0 31 ) wd_10_11 wd_1_5 wd_10_9 wd_10_10 yd_X12_isIn ⟨(Nat.le_of_ble_eq_true rfl), (Nat.le_of_ble_eq_true rfl)⟩ rfl rfl rfl rfl (by decide) rfl (Nat.le_of_ble_eq_true rfl) dX12_bill_12 ⟨(Nat.le_of_ble_eq_true rfl), (Nat.le_of_ble_eq_true rfl)⟩ (fun r_5 u_6 H locs hw_7 hP hD hS => ?_)
    have hP : va_P g.1 vwCl [(z 0, .inr (12, [.ref (z 1), .ref (z 2), .int (nI kp), .int (xs 0), .ref (z 3), .ref (z 4), .ref (z 5), .ref (z 6), .int (xs 1), .ref (z 7), .ref (z 8), .ref (z 9), .ref (z 10), .ref (z 11), .ref (z 12), .int (xs 2), .ref (z 13), .ref (z 14), .int (xs 3), .ref (z 15)])), (z 1, .inl (gI g, 461, .inl D))] H := hP
    have hD : va_D A [(z 0, .inr (12, [.ref (z 1), .ref (z 2), .int (nI kp), .int (xs 0), .ref (z 3), .ref (z 4), .ref (z 5), .ref (z 6), .int (xs 1), .ref (z 7), .ref (z 8), .ref (z 9), .ref (z 10), .ref (z 11), .ref (z 12), .int (xs 2), .ref (z 13), .ref (z 14), .int (xs 3), .ref (z 15)])), (z 1, .inl (gI g, 461, .inl D))] := hD
    rcases (show (r_5 = 1 ∧ (Int32.toInt 0 ≤ Int32.toInt y ∧ Int32.toInt y ≤ Int32.toInt 31)) ∨ (r_5 = 0 ∧ ¬ (Int32.toInt 0 ≤ Int32.toInt y ∧ Int32.toInt y ≤ Int32.toInt 31)) from hw_7) with ⟨rfl, hw_7b⟩ | ⟨rfl, hw_7b⟩ <;> clear hw_7
    · refine lv_if_eq (tgt := 28) hx hb dX12_bill_15 (by decide) (fun c => absurd c (by decide)) (fun _ => ?_)
      refine lv_iload_n hx hb dX12_bill_18 rfl (lv_at hl 3 rfl) ?_
      refine lv_iconst (v := 0) hx hb dX12_bill_19 (by decide) ?_
      refine lv_bipush (v := 30) hx hb dX12_bill_20 (by decide) ?_
      refine k_Si [] [0, 1] (wr := [(z 0, .inr (12, [.ref (z 1), .ref (z 2), .int (nI kp), .int (xs 0), .ref (z 3), .ref (z 4), .ref (z 5), .ref (z 6), .int (xs 1), .ref (z 7), .ref (z 8), .ref (z 9), .ref (z 10), .ref (z 11), .ref (z 12), .int (xs 2), .ref (z 13), .ref (z 14), .int (xs 3), .ref (z 15)])), (z 1, .inl (gI g, 461, .inl D))]) hx hb hml hown hts hKW hP hD hS hA hl.1 (c_X12_isIn l g _ v 0 30 ) wd_10_11 wd_1_5 wd_10_9 wd_10_10 yd_X12_isIn ⟨(Nat.le_of_ble_eq_true rfl), (Nat.le_of_ble_eq_true rfl)⟩ rfl rfl rfl rfl (by decide) rfl (Nat.le_of_ble_eq_true rfl) dX12_bill_22 ⟨(Nat.le_of_ble_eq_true rfl), (Nat.le_of_ble_eq_true rfl)⟩ (fun r_8 u_9 H locs hw_10 hP hD hS => ?_)
      have hP : va_P g.1 vwCl [(z 0, .inr (12, [.ref (z 1), .ref (z 2), .int (nI kp), .int (xs 0), .ref (z 3), .ref (z 4), .ref (z 5), .ref (z 6), .int (xs 1), .ref (z 7), .ref (z 8), .ref (z 9), .ref (z 10), .ref (z 11), .ref (z 12), .int (xs 2), .ref (z 13), .ref (z 14), .int (xs 3), .ref (z 15)])), (z 1, .inl (gI g, 461, .inl D))] H := hP
      have hD : va_D A [(z 0, .inr (12, [.ref (z 1), .ref (z 2), .int (nI kp), .int (xs 0), .ref (z 3), .ref (z 4), .ref (z 5), .ref (z 6), .int (xs 1), .ref (z 7), .ref (z 8), .ref (z 9), .ref (z 10), .ref (z 11), .ref (z 12), .int (xs 2), .ref (z 13), .ref (z 14), .int (xs 3), .ref (z 15)])), (z 1, .inl (gI g, 461, .inl D))] := hD
      rcases (show (r_8 = 1 ∧ (Int32.toInt 0 ≤ Int32.toInt v ∧ Int32.toInt v ≤ Int32.toInt 30)) ∨ (r_8 = 0 ∧ ¬ (Int32.toInt 0 ≤ Int32.toInt v ∧ Int32.toInt v ≤ Int32.toInt 30)) from hw_10) with ⟨rfl, hw_10b⟩ | ⟨rfl, hw_10b⟩ <;> clear hw_10
      · refine lv_if_ne (tgt := 34) hx hb dX12_bill_25 (by decide) (fun _ => ?_) (fun c => absurd c (by decide))
        refine lv_bipush (v := 10) hx hb dX12_bill_34 (by decide) ?_
        refine lv_aload_n hx hb dX12_bill_36 rfl (lv_at hl 0 rfl) ?_
        refine va_get (ci := 12) (C := RX12) (T := TX12) (N := 20) hx hb hts inlX12 hown hKW.1 hP 0 rfl rfl 0 (by decide) (hts _ wd_6_5) (fun _ h => h) rfl dX12_bill_37 ?_
        refine lv_bipush (v := 67) hx hb dX12_bill_40 (by decide) ?_
        refine lv_iload_n hx hb dX12_bill_42 rfl (lv_at hl 1 rfl) ?_
        refine lv_iadd hx hb dX12_bill_43 ?_
        refine k_top (y := nI (j_4 + 67)) (by rw [Nat.add_comm]; exact nI_add 67 j_4) ?_
        refine va_iald hx hb hKW.1 hP 1 0 rfl rfl (vp_in_nI (by omega) (by decide)) dX12_bill_44 ?_
        refine lv_topi (fun x_11 ex_11 => ?_)
        refine lv_iload_n hx hb dX12_bill_45 rfl (lv_at hl 2 rfl) ?_
        refine lv_iconst (v := (-1)) hx hb dX12_bill_46 (by decide) ?_
        refine lv_ixor hx hb dX12_bill_47 ?_
        refine lv_topi (fun x_12 ex_12 => ?_)
        refine lv_iand hx hb dX12_bill_48 ?_
        refine lv_topi (fun x_13 ex_13 => ?_)
        refine k_Si [] [0, 1] (wr := [(z 0, .inr (12, [.ref (z 1), .ref (z 2), .int (nI kp), .int (xs 0), .ref (z 3), .ref (z 4), .ref (z 5), .ref (z 6), .int (xs 1), .ref (z 7), .ref (z 8), .ref (z 9), .ref (z 10), .ref (z 11), .ref (z 12), .int (xs 2), .ref (z 13), .ref (z 14), .int (xs 3), .ref (z 15)])), (z 1, .inl (gI g, 461, .inl D))]) hx hb hml hown hts hKW hP hD hS hA hl.1 (c_X12_ones l g _ x_13 ) wd_20_11 wd_1_5 wd_20_9 wd_20_10 yd_X12_ones ⟨(Nat.le_of_ble_eq_true rfl), (Nat.le_of_ble_eq_true rfl)⟩ rfl rfl rfl rfl (by decide) rfl (Nat.le_of_ble_eq_true rfl) dX12_bill_49 ⟨(Nat.le_of_ble_eq_true rfl), (Nat.le_of_ble_eq_true rfl)⟩ (fun r_14 u_15 H locs hw_16 hP hD hS => ?_)
        have hP : va_P g.1 vwCl [(z 0, .inr (12, [.ref (z 1), .ref (z 2), .int (nI kp), .int (xs 0), .ref (z 3), .ref (z 4), .ref (z 5), .ref (z 6), .int (xs 1), .ref (z 7), .ref (z 8), .ref (z 9), .ref (z 10), .ref (z 11), .ref (z 12), .int (xs 2), .ref (z 13), .ref (z 14), .int (xs 3), .ref (z 15)])), (z 1, .inl (gI g, 461, .inl D))] H := hP
        have hD : va_D A [(z 0, .inr (12, [.ref (z 1), .ref (z 2), .int (nI kp), .int (xs 0), .ref (z 3), .ref (z 4), .ref (z 5), .ref (z 6), .int (xs 1), .ref (z 7), .ref (z 8), .ref (z 9), .ref (z 10), .ref (z 11), .ref (z 12), .int (xs 2), .ref (z 13), .ref (z 14), .int (xs 3), .ref (z 15)])), (z 1, .inl (gI g, 461, .inl D))] := hD
        refine lv_imul hx hb dX12_bill_52 ?_
        refine lv_topi (fun x_17 ex_17 => ?_)
        refine lv_iload hx hb dX12_bill_53 (lv_at hl 4 rfl) ?_
        refine lv_if_eq (tgt := 62) hx hb dX12_bill_55 (by decide) (fun c_18 => ?_) (fun c_18 => ?_)
        · refine lv_iconst (v := 0) hx hb dX12_bill_62 (by decide) ?_
          refine lv_isub hx hb dX12_bill_63 ?_
          refine lv_topi (fun x_19 ex_19 => ?_)
          refine lv_istore (lv' := [(5, .int x_19), (0, .ref (z 0)), (1, .int (nI j_4)), (2, .int y), (3, .int v), (4, .int w)]) hx hb dX12_bill_64 hl (by decide) rfl (fun ls hl => ?_)
          refine lv_iconst (v := (-1)) hx hb dX12_bill_66 (by decide) ?_
          refine lv_istore (lv' := [(6, .int (-1)), (5, .int x_19), (0, .ref (z 0)), (1, .int (nI j_4)), (2, .int y), (3, .int v), (4, .int w)]) hx hb dX12_bill_67 hl (by decide) rfl (fun ls hl => ?_)
          refine lv_iconst (v := 0) hx hb dX12_bill_69 (by decide) ?_
          refine lv_istore (lv' := [(7, .int 0), (6, .int (-1)), (5, .int x_19), (0, .ref (z 0)), (1, .int (nI j_4)), (2, .int y), (3, .int v), (4, .int w)]) hx hb dX12_bill_70 hl (by decide) rfl (fun ls hl => ?_)
          have L72 : ∀ (n72 : Nat) (i : Nat) (x6 : Int32) (hfuel72 : 40 - i < n72) (hi : i ≤ 40) (H : Heap) (locs : List Loc) (hP : va_P g.1 vwCl [(z 0, .inr (12, [.ref (z 1), .ref (z 2), .int (nI kp), .int (xs 0), .ref (z 3), .ref (z 4), .ref (z 5), .ref (z 6), .int (xs 1), .ref (z 7), .ref (z 8), .ref (z 9), .ref (z 10), .ref (z 11), .ref (z 12), .int (xs 2), .ref (z 13), .ref (z 14), .int (xs 3), .ref (z 15)])), (z 1, .inl (gI g, 461, .inl D))] H) (hD : va_D A [(z 0, .inr (12, [.ref (z 1), .ref (z 2), .int (nI kp), .int (xs 0), .ref (z 3), .ref (z 4), .ref (z 5), .ref (z 6), .int (xs 1), .ref (z 7), .ref (z 8), .ref (z 9), .ref (z 10), .ref (z 11), .ref (z 12), .int (xs 2), .ref (z 13), .ref (z 14), .int (xs 3), .ref (z 15)])), (z 1, .inl (gI g, 461, .inl D))]) (hS : va_S A s.heap H locs) (ls : Array Slot) (hl : lv_has ls 8 [(7, .int (nI i)), (6, .int x6), (5, .int x_19), (0, .ref (z 0)), (1, .int (nI j_4)), (2, .int y), (3, .int v), (4, .int w)]), W p l e (kR 4 0 0) s m ([.ref (z 0), .int (nI j_4), .int y, .int v, .int w] : List Value).toArray below meth c H locs 0 0 (kQi g A below ([.ref (z 0), .int (nI j_4), .int y, .int v, .int w] : List Value).toArray s 0 0 (fun (r : Int32) (u : (Nat → Int32)) => True) (fun (u : (Nat → Int32)) => ([(z 0, .inr (12, [.ref (z 1), .ref (z 2), .int (nI kp), .int (u 0), .ref (z 3), .ref (z 4), .ref (z 5), .ref (z 6), .int (u 1), .ref (z 7), .ref (z 8), .ref (z 9), .ref (z 10), .ref (z 11), .ref (z 12), .int (u 2), .ref (z 13), .ref (z 14), .int (u 3), .ref (z 15)])), (z 1, .inl (gI g, 461, .inl D))] : va_W))) (F0 m 72 ls []) := by
            intro n72
            induction n72 with
            | zero => intro i x6 hfuel72; exact absurd hfuel72 (Nat.not_lt_zero _)
            | succ n72 ih72 =>
              intro i x6 hfuel72 hi H locs hP hD hS ls hl
              refine lv_iload hx hb dX12_bill_72 (lv_at hl 0 rfl) ?_
              refine lv_aload_n hx hb dX12_bill_74 rfl (lv_at hl 3 rfl) ?_
              refine va_get (ci := 12) (C := RX12) (T := TX12) (N := 20) hx hb hts inlX12 hown hKW.1 hP 0 rfl rfl 0 (by decide) (hts _ wd_6_5) (fun _ h => h) rfl dX12_bill_75 ?_
              refine lv_iconst (v := 5) hx hb dX12_bill_78 (by decide) ?_
              obtain ⟨dk_20, hdk_20a, hdk_20b, edk_20⟩ := DI.n5 hDI
              refine va_iald hx hb hKW.1 hP 1 0 rfl rfl (show ¬ _ by decide) dX12_bill_79 ?_
              refine k_top (y := nI dk_20) edk_20 ?_
              refine lv_icmp_ge (tgt := 137) hx hb dX12_bill_80 (by decide) (fun c_21 => ?_) (fun c_21 => ?_)
              · have c_21n : dk_20 ≤ i := (k_leI (a := dk_20) (b := i) (by omega) (by omega)).mp c_21
                refine lv_iload hx hb dX12_bill_137 (lv_at hl 2 rfl) ?_
                refine lv_if_ge (tgt := 146) hx hb dX12_bill_139 (by decide) (fun c_22 => ?_) (fun c_22 => ?_)
                · refine lv_iload hx hb dX12_bill_146 (lv_at hl 2 rfl) ?_
                  refine lv_aload_n hx hb dX12_bill_148 rfl (lv_at hl 3 rfl) ?_
                  refine va_get (ci := 12) (C := RX12) (T := TX12) (N := 20) hx hb hts inlX12 hown hKW.1 hP 0 rfl rfl 0 (by decide) (hts _ wd_6_5) (fun _ h => h) rfl dX12_bill_149 ?_
                  refine lv_bipush (v := 9) hx hb dX12_bill_152 (by decide) ?_
                  refine va_iald hx hb hKW.1 hP 1 0 rfl rfl (show ¬ _ by decide) dX12_bill_154 ?_
                  refine lv_topi (fun x_23 ex_23 => ?_)
                  refine lv_imul hx hb dX12_bill_155 ?_
                  refine lv_topi (fun x_24 ex_24 => ?_)
                  refine lv_iload hx hb dX12_bill_156 (lv_at hl 1 rfl) ?_
                  refine lv_bipush (v := 54) hx hb dX12_bill_158 (by decide) ?_
                  refine lv_icmp_le (tgt := 173) hx hb dX12_bill_160 (by decide) (fun c_25 => ?_) (fun c_25 => ?_)
                  · refine lv_iconst (v := 0) hx hb dX12_bill_173 (by decide) ?_
                    refine lv_iadd hx hb dX12_bill_174 ?_
                    refine lv_topi (fun x_26 ex_26 => ?_)
                    exact k_iret xs [0, 1] hx hb hr hlk hP hD hS trivial rfl rfl rfl (Nat.le_of_ble_eq_true rfl) (Nat.le_of_ble_eq_true rfl) dX12_bill_175
                  · refine lv_iconst (v := 5) hx hb dX12_bill_163 (by decide) ?_
                    refine lv_iload hx hb dX12_bill_164 (lv_at hl 1 rfl) ?_
                    refine lv_bipush (v := 54) hx hb dX12_bill_166 (by decide) ?_
                    refine lv_isub hx hb dX12_bill_168 ?_
                    refine lv_topi (fun x_27 ex_27 => ?_)
                    refine lv_imul hx hb dX12_bill_169 ?_
                    refine lv_topi (fun x_28 ex_28 => ?_)
                    refine lv_goto (tgt := 174) hx hb dX12_bill_170 (by decide) ?_
                    refine lv_iadd hx hb dX12_bill_174 ?_
                    refine lv_topi (fun x_29 ex_29 => ?_)
                    exact k_iret xs [0, 1] hx hb hr hlk hP hD hS trivial rfl rfl rfl (Nat.le_of_ble_eq_true rfl) (Nat.le_of_ble_eq_true rfl) dX12_bill_175
                · refine lv_iconst (v := 0) hx hb dX12_bill_142 (by decide) ?_
                  refine lv_goto (tgt := 148) hx hb dX12_bill_143 (by decide) ?_
                  refine lv_aload_n hx hb dX12_bill_148 rfl (lv_at hl 3 rfl) ?_
                  refine va_get (ci := 12) (C := RX12) (T := TX12) (N := 20) hx hb hts inlX12 hown hKW.1 hP 0 rfl rfl 0 (by decide) (hts _ wd_6_5) (fun _ h => h) rfl dX12_bill_149 ?_
                  refine lv_bipush (v := 9) hx hb dX12_bill_152 (by decide) ?_
                  refine va_iald hx hb hKW.1 hP 1 0 rfl rfl (show ¬ _ by decide) dX12_bill_154 ?_
                  refine lv_topi (fun x_30 ex_30 => ?_)
                  refine lv_imul hx hb dX12_bill_155 ?_
                  refine lv_topi (fun x_31 ex_31 => ?_)
                  refine lv_iload hx hb dX12_bill_156 (lv_at hl 1 rfl) ?_
                  refine lv_bipush (v := 54) hx hb dX12_bill_158 (by decide) ?_
                  refine lv_icmp_le (tgt := 173) hx hb dX12_bill_160 (by decide) (fun c_32 => ?_) (fun c_32 => ?_)
                  · refine lv_iconst (v := 0) hx hb dX12_bill_173 (by decide) ?_
                    refine lv_iadd hx hb dX12_bill_174 ?_
                    refine lv_topi (fun x_33 ex_33 => ?_)
                    exact k_iret xs [0, 1] hx hb hr hlk hP hD hS trivial rfl rfl rfl (Nat.le_of_ble_eq_true rfl) (Nat.le_of_ble_eq_true rfl) dX12_bill_175
                  · refine lv_iconst (v := 5) hx hb dX12_bill_163 (by decide) ?_
                    refine lv_iload hx hb dX12_bill_164 (lv_at hl 1 rfl) ?_
                    refine lv_bipush (v := 54) hx hb dX12_bill_166 (by decide) ?_
                    refine lv_isub hx hb dX12_bill_168 ?_
                    refine lv_topi (fun x_34 ex_34 => ?_)
                    refine lv_imul hx hb dX12_bill_169 ?_
                    refine lv_topi (fun x_35 ex_35 => ?_)
                    refine lv_goto (tgt := 174) hx hb dX12_bill_170 (by decide) ?_
                    refine lv_iadd hx hb dX12_bill_174 ?_
                    refine lv_topi (fun x_36 ex_36 => ?_)
                    exact k_iret xs [0, 1] hx hb hr hlk hP hD hS trivial rfl rfl rfl (Nat.le_of_ble_eq_true rfl) (Nat.le_of_ble_eq_true rfl) dX12_bill_175
              · have c_21n : i < dk_20 := Nat.not_le.mp (fun h => c_21 ((k_leI (a := dk_20) (b := i) (by omega) (by omega)).mpr h))
                refine lv_aload_n hx hb dX12_bill_83 rfl (lv_at hl 3 rfl) ?_
                refine va_get (ci := 12) (C := RX12) (T := TX12) (N := 20) hx hb hts inlX12 hown hKW.1 hP 0 rfl rfl 0 (by decide) (hts _ wd_6_5) (fun _ h => h) rfl dX12_bill_84 ?_
                refine lv_sipush (v := 221) hx hb dX12_bill_87 (by decide) ?_
                refine lv_iload hx hb dX12_bill_90 (lv_at hl 0 rfl) ?_
                refine lv_iadd hx hb dX12_bill_92 ?_
                refine k_top (y := nI (i + 221)) (by rw [Nat.add_comm]; exact nI_add 221 i) ?_
                refine va_iald hx hb hKW.1 hP 1 0 rfl rfl (vp_in_nI (by omega) (by decide)) dX12_bill_93 ?_
                refine lv_topi (fun x_37 ex_37 => ?_)
                refine lv_iload_n hx hb dX12_bill_94 rfl (lv_at hl 4 rfl) ?_
                refine lv_icmp_ne (tgt := 127) hx hb dX12_bill_95 (by decide) (fun c_38 => ?_) (fun c_38 => ?_)
                · refine lv_iload hx hb dX12_bill_127 (lv_at hl 1 rfl) ?_
                  refine lv_istore (lv' := [(6, .int x6), (7, .int (nI i)), (5, .int x_19), (0, .ref (z 0)), (1, .int (nI j_4)), (2, .int y), (3, .int v), (4, .int w)]) hx hb dX12_bill_129 hl (by decide) rfl (fun ls hl => ?_)
                  refine lv_iinc (v := nI (i + 1)) (lv' := [(7, .int (nI (i + 1))), (6, .int x6), (5, .int x_19), (0, .ref (z 0)), (1, .int (nI j_4)), (2, .int y), (3, .int v), (4, .int w)]) hx hb dX12_bill_131 hl (k := 1) rfl (nI_add i 1) (by decide) rfl (fun ls hl => ?_)
                  refine lv_goto (tgt := 72) hx hb dX12_bill_134 (by decide) ?_
                  exact ih72 (i + 1) x6 (by omega) (by first | assumption | omega) H locs (hP.sub [0, 1] rfl) (hD.sub [0, 1] (by decide) rfl) hS ls (lv_sub hl [0, 1, 2, 3, 4, 5, 6, 7] rfl)
                · refine lv_aload_n hx hb dX12_bill_98 rfl (lv_at hl 3 rfl) ?_
                  refine va_get (ci := 12) (C := RX12) (T := TX12) (N := 20) hx hb hts inlX12 hown hKW.1 hP 0 rfl rfl 0 (by decide) (hts _ wd_6_5) (fun _ h => h) rfl dX12_bill_99 ?_
                  refine lv_sipush (v := 301) hx hb dX12_bill_102 (by decide) ?_
                  refine lv_iload hx hb dX12_bill_105 (lv_at hl 0 rfl) ?_
                  refine lv_iadd hx hb dX12_bill_107 ?_
                  refine k_top (y := nI (i + 301)) (by rw [Nat.add_comm]; exact nI_add 301 i) ?_
                  refine va_iald hx hb hKW.1 hP 1 0 rfl rfl (vp_in_nI (by omega) (by decide)) dX12_bill_108 ?_
                  refine lv_topi (fun x_39 ex_39 => ?_)
                  refine lv_iconst (v := 2) hx hb dX12_bill_109 (by decide) ?_
                  refine lv_icmp_ne (tgt := 127) hx hb dX12_bill_110 (by decide) (fun c_40 => ?_) (fun c_40 => ?_)
                  · refine lv_iload hx hb dX12_bill_127 (lv_at hl 1 rfl) ?_
                    refine lv_istore (lv' := [(6, .int x6), (7, .int (nI i)), (5, .int x_19), (0, .ref (z 0)), (1, .int (nI j_4)), (2, .int y), (3, .int v), (4, .int w)]) hx hb dX12_bill_129 hl (by decide) rfl (fun ls hl => ?_)
                    refine lv_iinc (v := nI (i + 1)) (lv' := [(7, .int (nI (i + 1))), (6, .int x6), (5, .int x_19), (0, .ref (z 0)), (1, .int (nI j_4)), (2, .int y), (3, .int v), (4, .int w)]) hx hb dX12_bill_131 hl (k := 1) rfl (nI_add i 1) (by decide) rfl (fun ls hl => ?_)
                    refine lv_goto (tgt := 72) hx hb dX12_bill_134 (by decide) ?_
                    exact ih72 (i + 1) x6 (by omega) (by first | assumption | omega) H locs (hP.sub [0, 1] rfl) (hD.sub [0, 1] (by decide) rfl) hS ls (lv_sub hl [0, 1, 2, 3, 4, 5, 6, 7] rfl)
                  · refine lv_aload_n hx hb dX12_bill_113 rfl (lv_at hl 3 rfl) ?_
                    refine va_get (ci := 12) (C := RX12) (T := TX12) (N := 20) hx hb hts inlX12 hown hKW.1 hP 0 rfl rfl 0 (by decide) (hts _ wd_6_5) (fun _ h => h) rfl dX12_bill_114 ?_
                    refine lv_sipush (v := 261) hx hb dX12_bill_117 (by decide) ?_
                    refine lv_iload hx hb dX12_bill_120 (lv_at hl 0 rfl) ?_
                    refine lv_iadd hx hb dX12_bill_122 ?_
                    refine k_top (y := nI (i + 261)) (by rw [Nat.add_comm]; exact nI_add 261 i) ?_
                    refine va_iald hx hb hKW.1 hP 1 0 rfl rfl (vp_in_nI (by omega) (by decide)) dX12_bill_123 ?_
                    refine lv_topi (fun x_41 ex_41 => ?_)
                    refine lv_goto (tgt := 129) hx hb dX12_bill_124 (by decide) ?_
                    refine lv_istore (lv' := [(6, .int x_41), (7, .int (nI i)), (5, .int x_19), (0, .ref (z 0)), (1, .int (nI j_4)), (2, .int y), (3, .int v), (4, .int w)]) hx hb dX12_bill_129 hl (by decide) rfl (fun ls hl => ?_)
                    refine lv_iinc (v := nI (i + 1)) (lv' := [(7, .int (nI (i + 1))), (6, .int x_41), (5, .int x_19), (0, .ref (z 0)), (1, .int (nI j_4)), (2, .int y), (3, .int v), (4, .int w)]) hx hb dX12_bill_131 hl (k := 1) rfl (nI_add i 1) (by decide) rfl (fun ls hl => ?_)
                    refine lv_goto (tgt := 72) hx hb dX12_bill_134 (by decide) ?_
                    exact ih72 (i + 1) x_41 (by omega) (by first | assumption | omega) H locs (hP.sub [0, 1] rfl) (hD.sub [0, 1] (by decide) rfl) hS ls (lv_sub hl [0, 1, 2, 3, 4, 5, 6, 7] rfl)
          exact L72 (40 - 0 + 1) 0 (-1) (Nat.lt_succ_self _) (by first | assumption | omega) H locs (hP.sub [0, 1] rfl) (hD.sub [0, 1] (by decide) rfl) hS ls (lv_sub hl [0, 1, 2, 3, 4, 5, 6, 7] rfl)
        · refine lv_iload_n hx hb dX12_bill_58 rfl (lv_at hl 3 rfl) ?_
          refine lv_goto (tgt := 63) hx hb dX12_bill_59 (by decide) ?_
          refine lv_isub hx hb dX12_bill_63 ?_
          refine lv_topi (fun x_42 ex_42 => ?_)
          refine lv_istore (lv' := [(5, .int x_42), (0, .ref (z 0)), (1, .int (nI j_4)), (2, .int y), (3, .int v), (4, .int w)]) hx hb dX12_bill_64 hl (by decide) rfl (fun ls hl => ?_)
          refine lv_iconst (v := (-1)) hx hb dX12_bill_66 (by decide) ?_
          refine lv_istore (lv' := [(6, .int (-1)), (5, .int x_42), (0, .ref (z 0)), (1, .int (nI j_4)), (2, .int y), (3, .int v), (4, .int w)]) hx hb dX12_bill_67 hl (by decide) rfl (fun ls hl => ?_)
          refine lv_iconst (v := 0) hx hb dX12_bill_69 (by decide) ?_
          refine lv_istore (lv' := [(7, .int 0), (6, .int (-1)), (5, .int x_42), (0, .ref (z 0)), (1, .int (nI j_4)), (2, .int y), (3, .int v), (4, .int w)]) hx hb dX12_bill_70 hl (by decide) rfl (fun ls hl => ?_)
          have L72 : ∀ (n72 : Nat) (i : Nat) (x6 : Int32) (hfuel72 : 40 - i < n72) (hi : i ≤ 40) (H : Heap) (locs : List Loc) (hP : va_P g.1 vwCl [(z 0, .inr (12, [.ref (z 1), .ref (z 2), .int (nI kp), .int (xs 0), .ref (z 3), .ref (z 4), .ref (z 5), .ref (z 6), .int (xs 1), .ref (z 7), .ref (z 8), .ref (z 9), .ref (z 10), .ref (z 11), .ref (z 12), .int (xs 2), .ref (z 13), .ref (z 14), .int (xs 3), .ref (z 15)])), (z 1, .inl (gI g, 461, .inl D))] H) (hD : va_D A [(z 0, .inr (12, [.ref (z 1), .ref (z 2), .int (nI kp), .int (xs 0), .ref (z 3), .ref (z 4), .ref (z 5), .ref (z 6), .int (xs 1), .ref (z 7), .ref (z 8), .ref (z 9), .ref (z 10), .ref (z 11), .ref (z 12), .int (xs 2), .ref (z 13), .ref (z 14), .int (xs 3), .ref (z 15)])), (z 1, .inl (gI g, 461, .inl D))]) (hS : va_S A s.heap H locs) (ls : Array Slot) (hl : lv_has ls 8 [(7, .int (nI i)), (6, .int x6), (5, .int x_42), (0, .ref (z 0)), (1, .int (nI j_4)), (2, .int y), (3, .int v), (4, .int w)]), W p l e (kR 4 0 0) s m ([.ref (z 0), .int (nI j_4), .int y, .int v, .int w] : List Value).toArray below meth c H locs 0 0 (kQi g A below ([.ref (z 0), .int (nI j_4), .int y, .int v, .int w] : List Value).toArray s 0 0 (fun (r : Int32) (u : (Nat → Int32)) => True) (fun (u : (Nat → Int32)) => ([(z 0, .inr (12, [.ref (z 1), .ref (z 2), .int (nI kp), .int (u 0), .ref (z 3), .ref (z 4), .ref (z 5), .ref (z 6), .int (u 1), .ref (z 7), .ref (z 8), .ref (z 9), .ref (z 10), .ref (z 11), .ref (z 12), .int (u 2), .ref (z 13), .ref (z 14), .int (u 3), .ref (z 15)])), (z 1, .inl (gI g, 461, .inl D))] : va_W))) (F0 m 72 ls []) := by
            intro n72
            induction n72 with
            | zero => intro i x6 hfuel72; exact absurd hfuel72 (Nat.not_lt_zero _)
            | succ n72 ih72 =>
              intro i x6 hfuel72 hi H locs hP hD hS ls hl
              refine lv_iload hx hb dX12_bill_72 (lv_at hl 0 rfl) ?_
              refine lv_aload_n hx hb dX12_bill_74 rfl (lv_at hl 3 rfl) ?_
              refine va_get (ci := 12) (C := RX12) (T := TX12) (N := 20) hx hb hts inlX12 hown hKW.1 hP 0 rfl rfl 0 (by decide) (hts _ wd_6_5) (fun _ h => h) rfl dX12_bill_75 ?_
              refine lv_iconst (v := 5) hx hb dX12_bill_78 (by decide) ?_
              obtain ⟨dk_43, hdk_43a, hdk_43b, edk_43⟩ := DI.n5 hDI
              refine va_iald hx hb hKW.1 hP 1 0 rfl rfl (show ¬ _ by decide) dX12_bill_79 ?_
              refine k_top (y := nI dk_43) edk_43 ?_
              refine lv_icmp_ge (tgt := 137) hx hb dX12_bill_80 (by decide) (fun c_44 => ?_) (fun c_44 => ?_)
              · have c_44n : dk_43 ≤ i := (k_leI (a := dk_43) (b := i) (by omega) (by omega)).mp c_44
                refine lv_iload hx hb dX12_bill_137 (lv_at hl 2 rfl) ?_
                refine lv_if_ge (tgt := 146) hx hb dX12_bill_139 (by decide) (fun c_45 => ?_) (fun c_45 => ?_)
                · refine lv_iload hx hb dX12_bill_146 (lv_at hl 2 rfl) ?_
                  refine lv_aload_n hx hb dX12_bill_148 rfl (lv_at hl 3 rfl) ?_
                  refine va_get (ci := 12) (C := RX12) (T := TX12) (N := 20) hx hb hts inlX12 hown hKW.1 hP 0 rfl rfl 0 (by decide) (hts _ wd_6_5) (fun _ h => h) rfl dX12_bill_149 ?_
                  refine lv_bipush (v := 9) hx hb dX12_bill_152 (by decide) ?_
                  refine va_iald hx hb hKW.1 hP 1 0 rfl rfl (show ¬ _ by decide) dX12_bill_154 ?_
                  refine lv_topi (fun x_46 ex_46 => ?_)
                  refine lv_imul hx hb dX12_bill_155 ?_
                  refine lv_topi (fun x_47 ex_47 => ?_)
                  refine lv_iload hx hb dX12_bill_156 (lv_at hl 1 rfl) ?_
                  refine lv_bipush (v := 54) hx hb dX12_bill_158 (by decide) ?_
                  refine lv_icmp_le (tgt := 173) hx hb dX12_bill_160 (by decide) (fun c_48 => ?_) (fun c_48 => ?_)
                  · refine lv_iconst (v := 0) hx hb dX12_bill_173 (by decide) ?_
                    refine lv_iadd hx hb dX12_bill_174 ?_
                    refine lv_topi (fun x_49 ex_49 => ?_)
                    exact k_iret xs [0, 1] hx hb hr hlk hP hD hS trivial rfl rfl rfl (Nat.le_of_ble_eq_true rfl) (Nat.le_of_ble_eq_true rfl) dX12_bill_175
                  · refine lv_iconst (v := 5) hx hb dX12_bill_163 (by decide) ?_
                    refine lv_iload hx hb dX12_bill_164 (lv_at hl 1 rfl) ?_
                    refine lv_bipush (v := 54) hx hb dX12_bill_166 (by decide) ?_
                    refine lv_isub hx hb dX12_bill_168 ?_
                    refine lv_topi (fun x_50 ex_50 => ?_)
                    refine lv_imul hx hb dX12_bill_169 ?_
                    refine lv_topi (fun x_51 ex_51 => ?_)
                    refine lv_goto (tgt := 174) hx hb dX12_bill_170 (by decide) ?_
                    refine lv_iadd hx hb dX12_bill_174 ?_
                    refine lv_topi (fun x_52 ex_52 => ?_)
                    exact k_iret xs [0, 1] hx hb hr hlk hP hD hS trivial rfl rfl rfl (Nat.le_of_ble_eq_true rfl) (Nat.le_of_ble_eq_true rfl) dX12_bill_175
                · refine lv_iconst (v := 0) hx hb dX12_bill_142 (by decide) ?_
                  refine lv_goto (tgt := 148) hx hb dX12_bill_143 (by decide) ?_
                  refine lv_aload_n hx hb dX12_bill_148 rfl (lv_at hl 3 rfl) ?_
                  refine va_get (ci := 12) (C := RX12) (T := TX12) (N := 20) hx hb hts inlX12 hown hKW.1 hP 0 rfl rfl 0 (by decide) (hts _ wd_6_5) (fun _ h => h) rfl dX12_bill_149 ?_
                  refine lv_bipush (v := 9) hx hb dX12_bill_152 (by decide) ?_
                  refine va_iald hx hb hKW.1 hP 1 0 rfl rfl (show ¬ _ by decide) dX12_bill_154 ?_
                  refine lv_topi (fun x_53 ex_53 => ?_)
                  refine lv_imul hx hb dX12_bill_155 ?_
                  refine lv_topi (fun x_54 ex_54 => ?_)
                  refine lv_iload hx hb dX12_bill_156 (lv_at hl 1 rfl) ?_
                  refine lv_bipush (v := 54) hx hb dX12_bill_158 (by decide) ?_
                  refine lv_icmp_le (tgt := 173) hx hb dX12_bill_160 (by decide) (fun c_55 => ?_) (fun c_55 => ?_)
                  · refine lv_iconst (v := 0) hx hb dX12_bill_173 (by decide) ?_
                    refine lv_iadd hx hb dX12_bill_174 ?_
                    refine lv_topi (fun x_56 ex_56 => ?_)
                    exact k_iret xs [0, 1] hx hb hr hlk hP hD hS trivial rfl rfl rfl (Nat.le_of_ble_eq_true rfl) (Nat.le_of_ble_eq_true rfl) dX12_bill_175
                  · refine lv_iconst (v := 5) hx hb dX12_bill_163 (by decide) ?_
                    refine lv_iload hx hb dX12_bill_164 (lv_at hl 1 rfl) ?_
                    refine lv_bipush (v := 54) hx hb dX12_bill_166 (by decide) ?_
                    refine lv_isub hx hb dX12_bill_168 ?_
                    refine lv_topi (fun x_57 ex_57 => ?_)
                    refine lv_imul hx hb dX12_bill_169 ?_
                    refine lv_topi (fun x_58 ex_58 => ?_)
                    refine lv_goto (tgt := 174) hx hb dX12_bill_170 (by decide) ?_
                    refine lv_iadd hx hb dX12_bill_174 ?_
                    refine lv_topi (fun x_59 ex_59 => ?_)
                    exact k_iret xs [0, 1] hx hb hr hlk hP hD hS trivial rfl rfl rfl (Nat.le_of_ble_eq_true rfl) (Nat.le_of_ble_eq_true rfl) dX12_bill_175
              · have c_44n : i < dk_43 := Nat.not_le.mp (fun h => c_44 ((k_leI (a := dk_43) (b := i) (by omega) (by omega)).mpr h))
                refine lv_aload_n hx hb dX12_bill_83 rfl (lv_at hl 3 rfl) ?_
                refine va_get (ci := 12) (C := RX12) (T := TX12) (N := 20) hx hb hts inlX12 hown hKW.1 hP 0 rfl rfl 0 (by decide) (hts _ wd_6_5) (fun _ h => h) rfl dX12_bill_84 ?_
                refine lv_sipush (v := 221) hx hb dX12_bill_87 (by decide) ?_
                refine lv_iload hx hb dX12_bill_90 (lv_at hl 0 rfl) ?_
                refine lv_iadd hx hb dX12_bill_92 ?_
                refine k_top (y := nI (i + 221)) (by rw [Nat.add_comm]; exact nI_add 221 i) ?_
                refine va_iald hx hb hKW.1 hP 1 0 rfl rfl (vp_in_nI (by omega) (by decide)) dX12_bill_93 ?_
                refine lv_topi (fun x_60 ex_60 => ?_)
                refine lv_iload_n hx hb dX12_bill_94 rfl (lv_at hl 4 rfl) ?_
                refine lv_icmp_ne (tgt := 127) hx hb dX12_bill_95 (by decide) (fun c_61 => ?_) (fun c_61 => ?_)
                · refine lv_iload hx hb dX12_bill_127 (lv_at hl 1 rfl) ?_
                  refine lv_istore (lv' := [(6, .int x6), (7, .int (nI i)), (5, .int x_42), (0, .ref (z 0)), (1, .int (nI j_4)), (2, .int y), (3, .int v), (4, .int w)]) hx hb dX12_bill_129 hl (by decide) rfl (fun ls hl => ?_)
                  refine lv_iinc (v := nI (i + 1)) (lv' := [(7, .int (nI (i + 1))), (6, .int x6), (5, .int x_42), (0, .ref (z 0)), (1, .int (nI j_4)), (2, .int y), (3, .int v), (4, .int w)]) hx hb dX12_bill_131 hl (k := 1) rfl (nI_add i 1) (by decide) rfl (fun ls hl => ?_)
                  refine lv_goto (tgt := 72) hx hb dX12_bill_134 (by decide) ?_
                  exact ih72 (i + 1) x6 (by omega) (by first | assumption | omega) H locs (hP.sub [0, 1] rfl) (hD.sub [0, 1] (by decide) rfl) hS ls (lv_sub hl [0, 1, 2, 3, 4, 5, 6, 7] rfl)
                · refine lv_aload_n hx hb dX12_bill_98 rfl (lv_at hl 3 rfl) ?_
                  refine va_get (ci := 12) (C := RX12) (T := TX12) (N := 20) hx hb hts inlX12 hown hKW.1 hP 0 rfl rfl 0 (by decide) (hts _ wd_6_5) (fun _ h => h) rfl dX12_bill_99 ?_
                  refine lv_sipush (v := 301) hx hb dX12_bill_102 (by decide) ?_
                  refine lv_iload hx hb dX12_bill_105 (lv_at hl 0 rfl) ?_
                  refine lv_iadd hx hb dX12_bill_107 ?_
                  refine k_top (y := nI (i + 301)) (by rw [Nat.add_comm]; exact nI_add 301 i) ?_
                  refine va_iald hx hb hKW.1 hP 1 0 rfl rfl (vp_in_nI (by omega) (by decide)) dX12_bill_108 ?_
                  refine lv_topi (fun x_62 ex_62 => ?_)
                  refine lv_iconst (v := 2) hx hb dX12_bill_109 (by decide) ?_
                  refine lv_icmp_ne (tgt := 127) hx hb dX12_bill_110 (by decide) (fun c_63 => ?_) (fun c_63 => ?_)
                  · refine lv_iload hx hb dX12_bill_127 (lv_at hl 1 rfl) ?_
                    refine lv_istore (lv' := [(6, .int x6), (7, .int (nI i)), (5, .int x_42), (0, .ref (z 0)), (1, .int (nI j_4)), (2, .int y), (3, .int v), (4, .int w)]) hx hb dX12_bill_129 hl (by decide) rfl (fun ls hl => ?_)
                    refine lv_iinc (v := nI (i + 1)) (lv' := [(7, .int (nI (i + 1))), (6, .int x6), (5, .int x_42), (0, .ref (z 0)), (1, .int (nI j_4)), (2, .int y), (3, .int v), (4, .int w)]) hx hb dX12_bill_131 hl (k := 1) rfl (nI_add i 1) (by decide) rfl (fun ls hl => ?_)
                    refine lv_goto (tgt := 72) hx hb dX12_bill_134 (by decide) ?_
                    exact ih72 (i + 1) x6 (by omega) (by first | assumption | omega) H locs (hP.sub [0, 1] rfl) (hD.sub [0, 1] (by decide) rfl) hS ls (lv_sub hl [0, 1, 2, 3, 4, 5, 6, 7] rfl)
                  · refine lv_aload_n hx hb dX12_bill_113 rfl (lv_at hl 3 rfl) ?_
                    refine va_get (ci := 12) (C := RX12) (T := TX12) (N := 20) hx hb hts inlX12 hown hKW.1 hP 0 rfl rfl 0 (by decide) (hts _ wd_6_5) (fun _ h => h) rfl dX12_bill_114 ?_
                    refine lv_sipush (v := 261) hx hb dX12_bill_117 (by decide) ?_
                    refine lv_iload hx hb dX12_bill_120 (lv_at hl 0 rfl) ?_
                    refine lv_iadd hx hb dX12_bill_122 ?_
                    refine k_top (y := nI (i + 261)) (by rw [Nat.add_comm]; exact nI_add 261 i) ?_
                    refine va_iald hx hb hKW.1 hP 1 0 rfl rfl (vp_in_nI (by omega) (by decide)) dX12_bill_123 ?_
                    refine lv_topi (fun x_64 ex_64 => ?_)
                    refine lv_goto (tgt := 129) hx hb dX12_bill_124 (by decide) ?_
                    refine lv_istore (lv' := [(6, .int x_64), (7, .int (nI i)), (5, .int x_42), (0, .ref (z 0)), (1, .int (nI j_4)), (2, .int y), (3, .int v), (4, .int w)]) hx hb dX12_bill_129 hl (by decide) rfl (fun ls hl => ?_)
                    refine lv_iinc (v := nI (i + 1)) (lv' := [(7, .int (nI (i + 1))), (6, .int x_64), (5, .int x_42), (0, .ref (z 0)), (1, .int (nI j_4)), (2, .int y), (3, .int v), (4, .int w)]) hx hb dX12_bill_131 hl (k := 1) rfl (nI_add i 1) (by decide) rfl (fun ls hl => ?_)
                    refine lv_goto (tgt := 72) hx hb dX12_bill_134 (by decide) ?_
                    exact ih72 (i + 1) x_64 (by omega) (by first | assumption | omega) H locs (hP.sub [0, 1] rfl) (hD.sub [0, 1] (by decide) rfl) hS ls (lv_sub hl [0, 1, 2, 3, 4, 5, 6, 7] rfl)
          exact L72 (40 - 0 + 1) 0 (-1) (Nat.lt_succ_self _) (by first | assumption | omega) H locs (hP.sub [0, 1] rfl) (hD.sub [0, 1] (by decide) rfl) hS ls (lv_sub hl [0, 1, 2, 3, 4, 5, 6, 7] rfl)
      · refine lv_if_ne (tgt := 34) hx hb dX12_bill_25 (by decide) (fun c => absurd c (by decide)) (fun _ => ?_)
        refine lv_aload_n hx hb dX12_bill_28 rfl (lv_at hl 0 rfl) ?_
        refine lv_iconst (v := 1) hx hb dX12_bill_29 (by decide) ?_
        refine k_Vi [0] [1] 0 12 (wr := [(z 1, .inl (gI g, 461, .inl D))]) hx hb hml hown hts hKW hP hD hS hA hl.1 (c_X12_finding_1 l g _ z kp xs ) rfl rfl rfl wd_10_15 wd_1_5 wd_10_12 wd_10_13 wd_10_14 yd_X12_finding ⟨(Nat.le_of_ble_eq_true rfl), (Nat.le_of_ble_eq_true rfl)⟩ rfl rfl rfl rfl (by decide) rfl (Nat.le_of_ble_eq_true rfl) dX12_bill_30 ⟨(Nat.le_of_ble_eq_true rfl), (Nat.le_of_ble_eq_true rfl)⟩ (fun r_65 u_66 H locs hw_67 hP hD hS => ?_)
        have hP : va_P g.1 vwCl [(z 1, .inl (gI g, 461, .inl D)), (z 0, .inr (12, [.ref (z 1), .ref (z 2), .int (nI kp), .int u_66, .ref (z 3), .ref (z 4), .ref (z 5), .ref (z 6), .int (xs 1), .ref (z 7), .ref (z 8), .ref (z 9), .ref (z 10), .ref (z 11), .ref (z 12), .int (xs 2), .ref (z 13), .ref (z 14), .int (xs 3), .ref (z 15)]))] H := hP
        have hD : va_D A [(z 1, .inl (gI g, 461, .inl D)), (z 0, .inr (12, [.ref (z 1), .ref (z 2), .int (nI kp), .int u_66, .ref (z 3), .ref (z 4), .ref (z 5), .ref (z 6), .int (xs 1), .ref (z 7), .ref (z 8), .ref (z 9), .ref (z 10), .ref (z 11), .ref (z 12), .int (xs 2), .ref (z 13), .ref (z 14), .int (xs 3), .ref (z 15)]))] := hD
        have hw_67 : r_65 = (-100001) := hw_67
        subst hw_67
        exact k_iret (fun kk_ => ([u_66, (xs 1), (xs 2), (xs 3)] : List Int32).getD kk_ 0) [1, 0] hx hb hr hlk hP hD hS trivial rfl rfl rfl (Nat.le_of_ble_eq_true rfl) (Nat.le_of_ble_eq_true rfl) dX12_bill_33
    · refine lv_if_eq (tgt := 28) hx hb dX12_bill_15 (by decide) (fun _ => ?_) (fun c => absurd c (by decide))
      refine lv_aload_n hx hb dX12_bill_28 rfl (lv_at hl 0 rfl) ?_
      refine lv_iconst (v := 1) hx hb dX12_bill_29 (by decide) ?_
      refine k_Vi [0] [1] 0 12 (wr := [(z 1, .inl (gI g, 461, .inl D))]) hx hb hml hown hts hKW hP hD hS hA hl.1 (c_X12_finding_1 l g _ z kp xs ) rfl rfl rfl wd_10_15 wd_1_5 wd_10_12 wd_10_13 wd_10_14 yd_X12_finding ⟨(Nat.le_of_ble_eq_true rfl), (Nat.le_of_ble_eq_true rfl)⟩ rfl rfl rfl rfl (by decide) rfl (Nat.le_of_ble_eq_true rfl) dX12_bill_30 ⟨(Nat.le_of_ble_eq_true rfl), (Nat.le_of_ble_eq_true rfl)⟩ (fun r_68 u_69 H locs hw_70 hP hD hS => ?_)
      have hP : va_P g.1 vwCl [(z 1, .inl (gI g, 461, .inl D)), (z 0, .inr (12, [.ref (z 1), .ref (z 2), .int (nI kp), .int u_69, .ref (z 3), .ref (z 4), .ref (z 5), .ref (z 6), .int (xs 1), .ref (z 7), .ref (z 8), .ref (z 9), .ref (z 10), .ref (z 11), .ref (z 12), .int (xs 2), .ref (z 13), .ref (z 14), .int (xs 3), .ref (z 15)]))] H := hP
      have hD : va_D A [(z 1, .inl (gI g, 461, .inl D)), (z 0, .inr (12, [.ref (z 1), .ref (z 2), .int (nI kp), .int u_69, .ref (z 3), .ref (z 4), .ref (z 5), .ref (z 6), .int (xs 1), .ref (z 7), .ref (z 8), .ref (z 9), .ref (z 10), .ref (z 11), .ref (z 12), .int (xs 2), .ref (z 13), .ref (z 14), .int (xs 3), .ref (z 15)]))] := hD
      have hw_70 : r_68 = (-100001) := hw_70
      subst hw_70
      exact k_iret (fun kk_ => ([u_69, (xs 1), (xs 2), (xs 3)] : List Int32).getD kk_ 0) [1, 0] hx hb hr hlk hP hD hS trivial rfl rfl rfl (Nat.le_of_ble_eq_true rfl) (Nat.le_of_ble_eq_true rfl) dX12_bill_33
  · refine lv_if_eq (tgt := 28) hx hb dX12_bill_5 (by decide) (fun _ => ?_) (fun c => absurd c (by decide))
    refine lv_aload_n hx hb dX12_bill_28 rfl (lv_at hl 0 rfl) ?_
    refine lv_iconst (v := 1) hx hb dX12_bill_29 (by decide) ?_
    refine k_Vi [0] [1] 0 12 (wr := [(z 1, .inl (gI g, 461, .inl D))]) hx hb hml hown hts hKW hP hD hS hA hl.1 (c_X12_finding_1 l g _ z kp xs ) rfl rfl rfl wd_10_15 wd_1_5 wd_10_12 wd_10_13 wd_10_14 yd_X12_finding ⟨(Nat.le_of_ble_eq_true rfl), (Nat.le_of_ble_eq_true rfl)⟩ rfl rfl rfl rfl (by decide) rfl (Nat.le_of_ble_eq_true rfl) dX12_bill_30 ⟨(Nat.le_of_ble_eq_true rfl), (Nat.le_of_ble_eq_true rfl)⟩ (fun r_71 u_72 H locs hw_73 hP hD hS => ?_)
    have hP : va_P g.1 vwCl [(z 1, .inl (gI g, 461, .inl D)), (z 0, .inr (12, [.ref (z 1), .ref (z 2), .int (nI kp), .int u_72, .ref (z 3), .ref (z 4), .ref (z 5), .ref (z 6), .int (xs 1), .ref (z 7), .ref (z 8), .ref (z 9), .ref (z 10), .ref (z 11), .ref (z 12), .int (xs 2), .ref (z 13), .ref (z 14), .int (xs 3), .ref (z 15)]))] H := hP
    have hD : va_D A [(z 1, .inl (gI g, 461, .inl D)), (z 0, .inr (12, [.ref (z 1), .ref (z 2), .int (nI kp), .int u_72, .ref (z 3), .ref (z 4), .ref (z 5), .ref (z 6), .int (xs 1), .ref (z 7), .ref (z 8), .ref (z 9), .ref (z 10), .ref (z 11), .ref (z 12), .int (xs 2), .ref (z 13), .ref (z 14), .int (xs 3), .ref (z 15)]))] := hD
    have hw_73 : r_71 = (-100001) := hw_73
    subst hw_73
    exact k_iret (fun kk_ => ([u_72, (xs 1), (xs 2), (xs 3)] : List Int32).getD kk_ 0) [1, 0] hx hb hr hlk hP hD hS trivial rfl rfl rfl (Nat.le_of_ble_eq_true rfl) (Nat.le_of_ble_eq_true rfl) dX12_bill_33
theorem dX12_all_0 : decode cX12_all 0 = .ok (.iconst 0, 1) := by decide +kernel
theorem dX12_all_1 : decode cX12_all 1 = .ok (.istore_n 2, 1) := by decide +kernel
theorem dX12_all_2 : decode cX12_all 2 = .ok (.iload_n 1, 1) := by decide +kernel
theorem dX12_all_3 : decode cX12_all 3 = .ok (.tableswitch 133 0 7 #[45, 52, 59, 66, 106, 113, 120, 128], 45) := by decide +kernel
theorem dX12_all_136 : decode cX12_all 136 = .ok (.aload_n 0, 1) := by decide +kernel
theorem dX12_all_137 : decode cX12_all 137 = .ok (.iconst 1, 1) := by decide +kernel
theorem dX12_all_138 : decode cX12_all 138 = .ok (.invokevirtual 68, 3) := by decide +kernel
theorem dX12_all_141 : decode cX12_all 141 = .ok (.ireturn, 1) := by decide +kernel
theorem dX12_all_48 : decode cX12_all 48 = .ok (.aload_n 0, 1) := by decide +kernel
theorem dX12_all_49 : decode cX12_all 49 = .ok (.getfield 7, 3) := by decide +kernel
theorem dX12_all_52 : decode cX12_all 52 = .ok (.iconst 0, 1) := by decide +kernel
theorem dX12_all_53 : decode cX12_all 53 = .ok (.iaload, 1) := by decide +kernel
theorem dX12_all_54 : decode cX12_all 54 = .ok (.ireturn, 1) := by decide +kernel
theorem dX12_all_55 : decode cX12_all 55 = .ok (.aload_n 0, 1) := by decide +kernel
theorem dX12_all_56 : decode cX12_all 56 = .ok (.getfield 7, 3) := by decide +kernel
theorem dX12_all_59 : decode cX12_all 59 = .ok (.iconst 1, 1) := by decide +kernel
theorem dX12_all_60 : decode cX12_all 60 = .ok (.iaload, 1) := by decide +kernel
theorem dX12_all_61 : decode cX12_all 61 = .ok (.ireturn, 1) := by decide +kernel
theorem dX12_all_62 : decode cX12_all 62 = .ok (.aload_n 0, 1) := by decide +kernel
theorem dX12_all_63 : decode cX12_all 63 = .ok (.getfield 7, 3) := by decide +kernel
theorem dX12_all_66 : decode cX12_all 66 = .ok (.iconst 2, 1) := by decide +kernel
theorem dX12_all_67 : decode cX12_all 67 = .ok (.iaload, 1) := by decide +kernel
theorem dX12_all_68 : decode cX12_all 68 = .ok (.ireturn, 1) := by decide +kernel
theorem dX12_all_69 : decode cX12_all 69 = .ok (.iconst 0, 1) := by decide +kernel
theorem dX12_all_70 : decode cX12_all 70 = .ok (.istore_n 3, 1) := by decide +kernel
theorem dX12_all_71 : decode cX12_all 71 = .ok (.iload_n 3, 1) := by decide +kernel
theorem dX12_all_72 : decode cX12_all 72 = .ok (.aload_n 0, 1) := by decide +kernel
theorem dX12_all_73 : decode cX12_all 73 = .ok (.getfield 7, 3) := by decide +kernel
theorem dX12_all_76 : decode cX12_all 76 = .ok (.iconst 2, 1) := by decide +kernel
theorem dX12_all_77 : decode cX12_all 77 = .ok (.iaload, 1) := by decide +kernel
theorem dX12_all_78 : decode cX12_all 78 = .ok (.if_icmp .ge 29, 3) := by decide +kernel
theorem dX12_all_107 : decode cX12_all 107 = .ok (.iload_n 2, 1) := by decide +kernel
theorem dX12_all_108 : decode cX12_all 108 = .ok (.ireturn, 1) := by decide +kernel
theorem dX12_all_81 : decode cX12_all 81 = .ok (.iload_n 2, 1) := by decide +kernel
theorem dX12_all_82 : decode cX12_all 82 = .ok (.aload_n 0, 1) := by decide +kernel
theorem dX12_all_83 : decode cX12_all 83 = .ok (.getfield 7, 3) := by decide +kernel
theorem dX12_all_86 : decode cX12_all 86 = .ok (.bipush 97, 2) := by decide +kernel
theorem dX12_all_88 : decode cX12_all 88 = .ok (.iload_n 3, 1) := by decide +kernel
theorem dX12_all_89 : decode cX12_all 89 = .ok (.iadd, 1) := by decide +kernel
theorem dX12_all_90 : decode cX12_all 90 = .ok (.iaload, 1) := by decide +kernel
theorem dX12_all_91 : decode cX12_all 91 = .ok (.ifCond .lt 7, 3) := by decide +kernel
theorem dX12_all_98 : decode cX12_all 98 = .ok (.iconst 0, 1) := by decide +kernel
theorem dX12_all_99 : decode cX12_all 99 = .ok (.iadd, 1) := by decide +kernel
theorem dX12_all_100 : decode cX12_all 100 = .ok (.istore_n 2, 1) := by decide +kernel
theorem dX12_all_101 : decode cX12_all 101 = .ok (.iinc 3 1, 3) := by decide +kernel
theorem dX12_all_104 : decode cX12_all 104 = .ok (.goto (-33), 3) := by decide +kernel
theorem dX12_all_94 : decode cX12_all 94 = .ok (.iconst 1, 1) := by decide +kernel
theorem dX12_all_95 : decode cX12_all 95 = .ok (.goto 4, 3) := by decide +kernel
theorem dX12_all_109 : decode cX12_all 109 = .ok (.aload_n 0, 1) := by decide +kernel
theorem dX12_all_110 : decode cX12_all 110 = .ok (.getfield 7, 3) := by decide +kernel
theorem dX12_all_113 : decode cX12_all 113 = .ok (.iconst 4, 1) := by decide +kernel
theorem dX12_all_114 : decode cX12_all 114 = .ok (.iaload, 1) := by decide +kernel
theorem dX12_all_115 : decode cX12_all 115 = .ok (.ireturn, 1) := by decide +kernel
theorem dX12_all_116 : decode cX12_all 116 = .ok (.aload_n 0, 1) := by decide +kernel
theorem dX12_all_117 : decode cX12_all 117 = .ok (.getfield 7, 3) := by decide +kernel
theorem dX12_all_120 : decode cX12_all 120 = .ok (.iconst 5, 1) := by decide +kernel
theorem dX12_all_121 : decode cX12_all 121 = .ok (.iaload, 1) := by decide +kernel
theorem dX12_all_122 : decode cX12_all 122 = .ok (.ireturn, 1) := by decide +kernel
theorem dX12_all_123 : decode cX12_all 123 = .ok (.aload_n 0, 1) := by decide +kernel
theorem dX12_all_124 : decode cX12_all 124 = .ok (.getfield 7, 3) := by decide +kernel
theorem dX12_all_127 : decode cX12_all 127 = .ok (.bipush 6, 2) := by decide +kernel
theorem dX12_all_129 : decode cX12_all 129 = .ok (.iaload, 1) := by decide +kernel
theorem dX12_all_130 : decode cX12_all 130 = .ok (.ireturn, 1) := by decide +kernel
theorem dX12_all_131 : decode cX12_all 131 = .ok (.aload_n 0, 1) := by decide +kernel
theorem dX12_all_132 : decode cX12_all 132 = .ok (.getfield 56, 3) := by decide +kernel
theorem dX12_all_135 : decode cX12_all 135 = .ok (.ireturn, 1) := by decide +kernel
set_option maxHeartbeats 8000000 in
set_option maxRecDepth 100000 in
theorem c_X12_all (l : Launch) (g : kG) (sz : Nat) (z : Nat → Nat) (kp : Nat) (xs : Nat → Int32) (D : Nat → Int32) (x : Int32) (hDI : DI D) : kMi l g yX12_all cX12_all 4 (some .int) 4 0 0 [.ref (z 0), .int x] sz [(z 0, .inr (12, [.ref (z 1), .ref (z 2), .int (nI kp), .int (xs 0), .ref (z 3), .ref (z 4), .ref (z 5), .ref (z 6), .int (xs 1), .ref (z 7), .ref (z 8), .ref (z 9), .ref (z 10), .ref (z 11), .ref (z 12), .int (xs 2), .ref (z 13), .ref (z 14), .int (xs 3), .ref (z 15)])), (z 1, .inl (gI g, 461, .inl D))] (fun (r : Int32) (u : (Nat → Int32)) => True) (fun (u : (Nat → Int32)) => ([(z 0, .inr (12, [.ref (z 1), .ref (z 2), .int (nI kp), .int (u 0), .ref (z 3), .ref (z 4), .ref (z 5), .ref (z 6), .int (u 1), .ref (z 7), .ref (z 8), .ref (z 9), .ref (z 10), .ref (z 11), .ref (z 12), .int (u 2), .ref (z 13), .ref (z 14), .int (u 3), .ref (z 15)])), (z 1, .inl (gI g, 461, .inl D))] : va_W)) := by
  refine kMi.of (by decide) (Nat.le_of_ble_eq_true rfl) (fun p e s m below meth c A hx hb hr hml hown hts hlk hnm hKW hP hD hS hA ls hl => ?_)
  have hown : s.vm.findClass RX12 = some m.cls := hown
  have hl : lv_has ls 4 [(0, .ref (z 0)), (1, .int x)] := hl
  refine k_hide hP hS (fun H locs hP hS => ?_)
  refine lv_iconst (v := 0) hx hb dX12_all_0 (by decide) ?_
  refine lv_istore_n (lv' := [(2, .int 0), (0, .ref (z 0)), (1, .int x)]) hx hb dX12_all_1 rfl hl (by decide) rfl (fun ls hl => ?_)
  refine lv_iload_n hx hb dX12_all_2 rfl (lv_at hl 2 rfl) ?_
  by_cases c_1 : Int32.toInt x < 0 ∨ 7 < Int32.toInt x
  · refine lv_tableOut (tgt := 136) hx hb dX12_all_3 c_1 (by decide) ?_
    refine lv_aload_n hx hb dX12_all_136 rfl (lv_at hl 1 rfl) ?_
    refine lv_iconst (v := 1) hx hb dX12_all_137 (by decide) ?_
    refine k_Vi [0] [1] 0 12 (wr := [(z 1, .inl (gI g, 461, .inl D))]) hx hb hml hown hts hKW hP hD hS hA hl.1 (c_X12_finding_1 l g _ z kp xs ) rfl rfl rfl wd_10_15 wd_1_5 wd_10_12 wd_10_13 wd_10_14 yd_X12_finding ⟨(Nat.le_of_ble_eq_true rfl), (Nat.le_of_ble_eq_true rfl)⟩ rfl rfl rfl rfl (by decide) rfl (Nat.le_of_ble_eq_true rfl) dX12_all_138 ⟨(Nat.le_of_ble_eq_true rfl), (Nat.le_of_ble_eq_true rfl)⟩ (fun r_2 u_3 H locs hw_4 hP hD hS => ?_)
    have hP : va_P g.1 vwCl [(z 1, .inl (gI g, 461, .inl D)), (z 0, .inr (12, [.ref (z 1), .ref (z 2), .int (nI kp), .int u_3, .ref (z 3), .ref (z 4), .ref (z 5), .ref (z 6), .int (xs 1), .ref (z 7), .ref (z 8), .ref (z 9), .ref (z 10), .ref (z 11), .ref (z 12), .int (xs 2), .ref (z 13), .ref (z 14), .int (xs 3), .ref (z 15)]))] H := hP
    have hD : va_D A [(z 1, .inl (gI g, 461, .inl D)), (z 0, .inr (12, [.ref (z 1), .ref (z 2), .int (nI kp), .int u_3, .ref (z 3), .ref (z 4), .ref (z 5), .ref (z 6), .int (xs 1), .ref (z 7), .ref (z 8), .ref (z 9), .ref (z 10), .ref (z 11), .ref (z 12), .int (xs 2), .ref (z 13), .ref (z 14), .int (xs 3), .ref (z 15)]))] := hD
    have hw_4 : r_2 = (-100001) := hw_4
    subst hw_4
    exact k_iret (fun kk_ => ([u_3, (xs 1), (xs 2), (xs 3)] : List Int32).getD kk_ 0) [1, 0] hx hb hr hlk hP hD hS trivial rfl rfl rfl (Nat.le_of_ble_eq_true rfl) (Nat.le_of_ble_eq_true rfl) dX12_all_141
  · rcases (show x = 0 ∨ x = 1 ∨ x = 2 ∨ x = 3 ∨ x = 4 ∨ x = 5 ∨ x = 6 ∨ x = 7 by simp only [← Int32.toInt_inj]; simp at c_1 ⊢; omega) with c_1 | c_1 | c_1 | c_1 | c_1 | c_1 | c_1 | c_1
    · refine lv_tableIn (tgt := 48) hx hb dX12_all_3 (by rw [c_1]; decide) (by rw [c_1]; decide) (by rw [c_1]; rfl) (by decide) ?_
      refine lv_aload_n hx hb dX12_all_48 rfl (lv_at hl 1 rfl) ?_
      refine va_get (ci := 12) (C := RX12) (T := TX12) (N := 20) hx hb hts inlX12 hown hKW.1 hP 0 rfl rfl 0 (by decide) (hts _ wd_6_5) (fun _ h => h) rfl dX12_all_49 ?_
      refine lv_iconst (v := 0) hx hb dX12_all_52 (by decide) ?_
      obtain ⟨dk_5, hdk_5a, hdk_5b, edk_5⟩ := DI.n0 hDI
      refine va_iald hx hb hKW.1 hP 1 0 rfl rfl (show ¬ _ by decide) dX12_all_53 ?_
      refine k_top (y := nI dk_5) edk_5 ?_
      exact k_iret xs [0, 1] hx hb hr hlk hP hD hS trivial rfl rfl rfl (Nat.le_of_ble_eq_true rfl) (Nat.le_of_ble_eq_true rfl) dX12_all_54
    · refine lv_tableIn (tgt := 55) hx hb dX12_all_3 (by rw [c_1]; decide) (by rw [c_1]; decide) (by rw [c_1]; rfl) (by decide) ?_
      refine lv_aload_n hx hb dX12_all_55 rfl (lv_at hl 1 rfl) ?_
      refine va_get (ci := 12) (C := RX12) (T := TX12) (N := 20) hx hb hts inlX12 hown hKW.1 hP 0 rfl rfl 0 (by decide) (hts _ wd_6_5) (fun _ h => h) rfl dX12_all_56 ?_
      refine lv_iconst (v := 1) hx hb dX12_all_59 (by decide) ?_
      obtain ⟨dk_6, hdk_6a, hdk_6b, edk_6⟩ := DI.n1 hDI
      refine va_iald hx hb hKW.1 hP 1 0 rfl rfl (show ¬ _ by decide) dX12_all_60 ?_
      refine k_top (y := nI dk_6) edk_6 ?_
      exact k_iret xs [0, 1] hx hb hr hlk hP hD hS trivial rfl rfl rfl (Nat.le_of_ble_eq_true rfl) (Nat.le_of_ble_eq_true rfl) dX12_all_61
    · refine lv_tableIn (tgt := 62) hx hb dX12_all_3 (by rw [c_1]; decide) (by rw [c_1]; decide) (by rw [c_1]; rfl) (by decide) ?_
      refine lv_aload_n hx hb dX12_all_62 rfl (lv_at hl 1 rfl) ?_
      refine va_get (ci := 12) (C := RX12) (T := TX12) (N := 20) hx hb hts inlX12 hown hKW.1 hP 0 rfl rfl 0 (by decide) (hts _ wd_6_5) (fun _ h => h) rfl dX12_all_63 ?_
      refine lv_iconst (v := 2) hx hb dX12_all_66 (by decide) ?_
      obtain ⟨dk_7, hdk_7a, hdk_7b, edk_7⟩ := DI.n2 hDI
      refine va_iald hx hb hKW.1 hP 1 0 rfl rfl (show ¬ _ by decide) dX12_all_67 ?_
      refine k_top (y := nI dk_7) edk_7 ?_
      exact k_iret xs [0, 1] hx hb hr hlk hP hD hS trivial rfl rfl rfl (Nat.le_of_ble_eq_true rfl) (Nat.le_of_ble_eq_true rfl) dX12_all_68
    · refine lv_tableIn (tgt := 69) hx hb dX12_all_3 (by rw [c_1]; decide) (by rw [c_1]; decide) (by rw [c_1]; rfl) (by decide) ?_
      refine lv_iconst (v := 0) hx hb dX12_all_69 (by decide) ?_
      refine lv_istore_n (lv' := [(3, .int 0), (2, .int 0), (0, .ref (z 0)), (1, .int x)]) hx hb dX12_all_70 rfl hl (by decide) rfl (fun ls hl => ?_)
      have L71 : ∀ (n71 : Nat) (i : Nat) (x2 : Int32) (hfuel71 : 10 - i < n71) (hi : i ≤ 10) (H : Heap) (locs : List Loc) (hP : va_P g.1 vwCl [(z 0, .inr (12, [.ref (z 1), .ref (z 2), .int (nI kp), .int (xs 0), .ref (z 3), .ref (z 4), .ref (z 5), .ref (z 6), .int (xs 1), .ref (z 7), .ref (z 8), .ref (z 9), .ref (z 10), .ref (z 11), .ref (z 12), .int (xs 2), .ref (z 13), .ref (z 14), .int (xs 3), .ref (z 15)])), (z 1, .inl (gI g, 461, .inl D))] H) (hD : va_D A [(z 0, .inr (12, [.ref (z 1), .ref (z 2), .int (nI kp), .int (xs 0), .ref (z 3), .ref (z 4), .ref (z 5), .ref (z 6), .int (xs 1), .ref (z 7), .ref (z 8), .ref (z 9), .ref (z 10), .ref (z 11), .ref (z 12), .int (xs 2), .ref (z 13), .ref (z 14), .int (xs 3), .ref (z 15)])), (z 1, .inl (gI g, 461, .inl D))]) (hS : va_S A s.heap H locs) (ls : Array Slot) (hl : lv_has ls 4 [(3, .int (nI i)), (2, .int x2), (0, .ref (z 0)), (1, .int x)]), W p l e (kR 4 0 0) s m ([.ref (z 0), .int x] : List Value).toArray below meth c H locs 0 0 (kQi g A below ([.ref (z 0), .int x] : List Value).toArray s 0 0 (fun (r : Int32) (u : (Nat → Int32)) => True) (fun (u : (Nat → Int32)) => ([(z 0, .inr (12, [.ref (z 1), .ref (z 2), .int (nI kp), .int (u 0), .ref (z 3), .ref (z 4), .ref (z 5), .ref (z 6), .int (u 1), .ref (z 7), .ref (z 8), .ref (z 9), .ref (z 10), .ref (z 11), .ref (z 12), .int (u 2), .ref (z 13), .ref (z 14), .int (u 3), .ref (z 15)])), (z 1, .inl (gI g, 461, .inl D))] : va_W))) (F0 m 71 ls []) := by
        intro n71
        induction n71 with
        | zero => intro i x2 hfuel71; exact absurd hfuel71 (Nat.not_lt_zero _)
        | succ n71 ih71 =>
          intro i x2 hfuel71 hi H locs hP hD hS ls hl
          refine lv_iload_n hx hb dX12_all_71 rfl (lv_at hl 0 rfl) ?_
          refine lv_aload_n hx hb dX12_all_72 rfl (lv_at hl 2 rfl) ?_
          refine va_get (ci := 12) (C := RX12) (T := TX12) (N := 20) hx hb hts inlX12 hown hKW.1 hP 0 rfl rfl 0 (by decide) (hts _ wd_6_5) (fun _ h => h) rfl dX12_all_73 ?_
          refine lv_iconst (v := 2) hx hb dX12_all_76 (by decide) ?_
          obtain ⟨dk_8, hdk_8a, hdk_8b, edk_8⟩ := DI.n2 hDI
          refine va_iald hx hb hKW.1 hP 1 0 rfl rfl (show ¬ _ by decide) dX12_all_77 ?_
          refine k_top (y := nI dk_8) edk_8 ?_
          refine lv_icmp_ge (tgt := 107) hx hb dX12_all_78 (by decide) (fun c_9 => ?_) (fun c_9 => ?_)
          · have c_9n : dk_8 ≤ i := (k_leI (a := dk_8) (b := i) (by omega) (by omega)).mp c_9
            refine lv_iload_n hx hb dX12_all_107 rfl (lv_at hl 1 rfl) ?_
            exact k_iret xs [0, 1] hx hb hr hlk hP hD hS trivial rfl rfl rfl (Nat.le_of_ble_eq_true rfl) (Nat.le_of_ble_eq_true rfl) dX12_all_108
          · have c_9n : i < dk_8 := Nat.not_le.mp (fun h => c_9 ((k_leI (a := dk_8) (b := i) (by omega) (by omega)).mpr h))
            refine lv_iload_n hx hb dX12_all_81 rfl (lv_at hl 1 rfl) ?_
            refine lv_aload_n hx hb dX12_all_82 rfl (lv_at hl 2 rfl) ?_
            refine va_get (ci := 12) (C := RX12) (T := TX12) (N := 20) hx hb hts inlX12 hown hKW.1 hP 0 rfl rfl 0 (by decide) (hts _ wd_6_5) (fun _ h => h) rfl dX12_all_83 ?_
            refine lv_bipush (v := 97) hx hb dX12_all_86 (by decide) ?_
            refine lv_iload_n hx hb dX12_all_88 rfl (lv_at hl 0 rfl) ?_
            refine lv_iadd hx hb dX12_all_89 ?_
            refine k_top (y := nI (i + 97)) (by rw [Nat.add_comm]; exact nI_add 97 i) ?_
            refine va_iald hx hb hKW.1 hP 1 0 rfl rfl (vp_in_nI (by omega) (by decide)) dX12_all_90 ?_
            refine lv_topi (fun x_10 ex_10 => ?_)
            refine lv_if_lt (tgt := 98) hx hb dX12_all_91 (by decide) (fun c_11 => ?_) (fun c_11 => ?_)
            · refine lv_iconst (v := 0) hx hb dX12_all_98 (by decide) ?_
              refine lv_iadd hx hb dX12_all_99 ?_
              refine lv_topi (fun x_12 ex_12 => ?_)
              refine lv_istore_n (lv' := [(2, .int x_12), (3, .int (nI i)), (0, .ref (z 0)), (1, .int x)]) hx hb dX12_all_100 rfl hl (by decide) rfl (fun ls hl => ?_)
              refine lv_iinc (v := nI (i + 1)) (lv' := [(3, .int (nI (i + 1))), (2, .int x_12), (0, .ref (z 0)), (1, .int x)]) hx hb dX12_all_101 hl (k := 1) rfl (nI_add i 1) (by decide) rfl (fun ls hl => ?_)
              refine lv_goto (tgt := 71) hx hb dX12_all_104 (by decide) ?_
              exact ih71 (i + 1) x_12 (by omega) (by first | assumption | omega) H locs (hP.sub [0, 1] rfl) (hD.sub [0, 1] (by decide) rfl) hS ls (lv_sub hl [0, 1, 2, 3] rfl)
            · refine lv_iconst (v := 1) hx hb dX12_all_94 (by decide) ?_
              refine lv_goto (tgt := 99) hx hb dX12_all_95 (by decide) ?_
              refine lv_iadd hx hb dX12_all_99 ?_
              refine lv_topi (fun x_13 ex_13 => ?_)
              refine lv_istore_n (lv' := [(2, .int x_13), (3, .int (nI i)), (0, .ref (z 0)), (1, .int x)]) hx hb dX12_all_100 rfl hl (by decide) rfl (fun ls hl => ?_)
              refine lv_iinc (v := nI (i + 1)) (lv' := [(3, .int (nI (i + 1))), (2, .int x_13), (0, .ref (z 0)), (1, .int x)]) hx hb dX12_all_101 hl (k := 1) rfl (nI_add i 1) (by decide) rfl (fun ls hl => ?_)
              refine lv_goto (tgt := 71) hx hb dX12_all_104 (by decide) ?_
              exact ih71 (i + 1) x_13 (by omega) (by first | assumption | omega) H locs (hP.sub [0, 1] rfl) (hD.sub [0, 1] (by decide) rfl) hS ls (lv_sub hl [0, 1, 2, 3] rfl)
      exact L71 (10 - 0 + 1) 0 0 (Nat.lt_succ_self _) (by first | assumption | omega) H locs (hP.sub [0, 1] rfl) (hD.sub [0, 1] (by decide) rfl) hS ls (lv_sub hl [0, 1, 2, 3] rfl)
    · refine lv_tableIn (tgt := 109) hx hb dX12_all_3 (by rw [c_1]; decide) (by rw [c_1]; decide) (by rw [c_1]; rfl) (by decide) ?_
      refine lv_aload_n hx hb dX12_all_109 rfl (lv_at hl 1 rfl) ?_
      refine va_get (ci := 12) (C := RX12) (T := TX12) (N := 20) hx hb hts inlX12 hown hKW.1 hP 0 rfl rfl 0 (by decide) (hts _ wd_6_5) (fun _ h => h) rfl dX12_all_110 ?_
      refine lv_iconst (v := 4) hx hb dX12_all_113 (by decide) ?_
      refine va_iald hx hb hKW.1 hP 1 0 rfl rfl (show ¬ _ by decide) dX12_all_114 ?_
      refine lv_topi (fun x_14 ex_14 => ?_)
      exact k_iret xs [0, 1] hx hb hr hlk hP hD hS trivial rfl rfl rfl (Nat.le_of_ble_eq_true rfl) (Nat.le_of_ble_eq_true rfl) dX12_all_115
    · refine lv_tableIn (tgt := 116) hx hb dX12_all_3 (by rw [c_1]; decide) (by rw [c_1]; decide) (by rw [c_1]; rfl) (by decide) ?_
      refine lv_aload_n hx hb dX12_all_116 rfl (lv_at hl 1 rfl) ?_
      refine va_get (ci := 12) (C := RX12) (T := TX12) (N := 20) hx hb hts inlX12 hown hKW.1 hP 0 rfl rfl 0 (by decide) (hts _ wd_6_5) (fun _ h => h) rfl dX12_all_117 ?_
      refine lv_iconst (v := 5) hx hb dX12_all_120 (by decide) ?_
      obtain ⟨dk_15, hdk_15a, hdk_15b, edk_15⟩ := DI.n5 hDI
      refine va_iald hx hb hKW.1 hP 1 0 rfl rfl (show ¬ _ by decide) dX12_all_121 ?_
      refine k_top (y := nI dk_15) edk_15 ?_
      exact k_iret xs [0, 1] hx hb hr hlk hP hD hS trivial rfl rfl rfl (Nat.le_of_ble_eq_true rfl) (Nat.le_of_ble_eq_true rfl) dX12_all_122
    · refine lv_tableIn (tgt := 123) hx hb dX12_all_3 (by rw [c_1]; decide) (by rw [c_1]; decide) (by rw [c_1]; rfl) (by decide) ?_
      refine lv_aload_n hx hb dX12_all_123 rfl (lv_at hl 1 rfl) ?_
      refine va_get (ci := 12) (C := RX12) (T := TX12) (N := 20) hx hb hts inlX12 hown hKW.1 hP 0 rfl rfl 0 (by decide) (hts _ wd_6_5) (fun _ h => h) rfl dX12_all_124 ?_
      refine lv_bipush (v := 6) hx hb dX12_all_127 (by decide) ?_
      obtain ⟨dk_16, hdk_16a, hdk_16b, edk_16⟩ := DI.n6 hDI
      refine va_iald hx hb hKW.1 hP 1 0 rfl rfl (show ¬ _ by decide) dX12_all_129 ?_
      refine k_top (y := nI dk_16) edk_16 ?_
      exact k_iret xs [0, 1] hx hb hr hlk hP hD hS trivial rfl rfl rfl (Nat.le_of_ble_eq_true rfl) (Nat.le_of_ble_eq_true rfl) dX12_all_130
    · refine lv_tableIn (tgt := 131) hx hb dX12_all_3 (by rw [c_1]; decide) (by rw [c_1]; decide) (by rw [c_1]; rfl) (by decide) ?_
      refine lv_aload_n hx hb dX12_all_131 rfl (lv_at hl 1 rfl) ?_
      refine va_get (ci := 12) (C := RX12) (T := TX12) (N := 20) hx hb hts inlX12 hown hKW.1 hP 0 rfl rfl 3 (by decide) (hts _ wd_10_16) (fun _ h => h) rfl dX12_all_132 ?_
      exact k_iret xs [0, 1] hx hb hr hlk hP hD hS trivial rfl rfl rfl (Nat.le_of_ble_eq_true rfl) (Nat.le_of_ble_eq_true rfl) dX12_all_135
theorem dX12_putShift_0 : decode cX12_putShift 0 = .ok (.iload_n 1, 1) := by decide +kernel
theorem dX12_putShift_1 : decode cX12_putShift 1 = .ok (.istore_n 2, 1) := by decide +kernel
theorem dX12_putShift_2 : decode cX12_putShift 2 = .ok (.iload_n 2, 1) := by decide +kernel
theorem dX12_putShift_3 : decode cX12_putShift 3 = .ok (.iload_n 1, 1) := by decide +kernel
theorem dX12_putShift_4 : decode cX12_putShift 4 = .ok (.aload_n 0, 1) := by decide +kernel
theorem dX12_putShift_5 : decode cX12_putShift 5 = .ok (.getfield 7, 3) := by decide +kernel
theorem dX12_putShift_8 : decode cX12_putShift 8 = .ok (.bipush 7, 2) := by decide +kernel
theorem dX12_putShift_10 : decode cX12_putShift 10 = .ok (.iaload, 1) := by decide +kernel
theorem dX12_putShift_11 : decode cX12_putShift 11 = .ok (.iadd, 1) := by decide +kernel
theorem dX12_putShift_12 : decode cX12_putShift 12 = .ok (.if_icmp .ge 19, 3) := by decide +kernel
theorem dX12_putShift_31 : decode cX12_putShift 31 = .ok (.return_, 1) := by decide +kernel
theorem dX12_putShift_15 : decode cX12_putShift 15 = .ok (.aload_n 0, 1) := by decide +kernel
theorem dX12_putShift_16 : decode cX12_putShift 16 = .ok (.getfield 47, 3) := by decide +kernel
theorem dX12_putShift_19 : decode cX12_putShift 19 = .ok (.iload_n 2, 1) := by decide +kernel
theorem dX12_putShift_20 : decode cX12_putShift 20 = .ok (.dup2, 1) := by decide +kernel
theorem dX12_putShift_21 : decode cX12_putShift 21 = .ok (.iaload, 1) := by decide +kernel
theorem dX12_putShift_22 : decode cX12_putShift 22 = .ok (.iconst 1, 1) := by decide +kernel
theorem dX12_putShift_23 : decode cX12_putShift 23 = .ok (.iadd, 1) := by decide +kernel
theorem dX12_putShift_24 : decode cX12_putShift 24 = .ok (.iastore, 1) := by decide +kernel
theorem dX12_putShift_25 : decode cX12_putShift 25 = .ok (.iinc 2 1, 3) := by decide +kernel
theorem dX12_putShift_28 : decode cX12_putShift 28 = .ok (.goto (-26), 3) := by decide +kernel
set_option maxHeartbeats 8000000 in
set_option maxRecDepth 100000 in
theorem c_X12_putShift (l : Launch) (g : kG) (sz : Nat) (z : Nat → Nat) (kp : Nat) (xs : Nat → Int32) (D : Nat → Int32) (T : Nat → Int32) (b : Nat) (L : Nat) (hDI : DI D) (hL : D 7 = nI L) (hbL : b + L ≤ 60) : kMv l g yX12_putShift cX12_putShift 3 none 1 0 0 [.ref (z 0), .int (nI b)] sz [(z 0, .inr (12, [.ref (z 1), .ref (z 2), .int (nI kp), .int (xs 0), .ref (z 3), .ref (z 4), .ref (z 5), .ref (z 6), .int (xs 1), .ref (z 7), .ref (z 8), .ref (z 9), .ref (z 10), .ref (z 11), .ref (z 12), .int (xs 2), .ref (z 13), .ref (z 14), .int (xs 3), .ref (z 15)])), (z 1, .inl (gI g, 461, .inl D)), (z 13, .inl (gI g, 60, .inl T))] (fun (u : (Nat → Int32)) => ∀ j, j < 60 → u j = if b ≤ j ∧ j < b + L then T j + 1 else T j) (fun (u : (Nat → Int32)) => ([(z 0, .inr (12, [.ref (z 1), .ref (z 2), .int (nI kp), .int (xs 0), .ref (z 3), .ref (z 4), .ref (z 5), .ref (z 6), .int (xs 1), .ref (z 7), .ref (z 8), .ref (z 9), .ref (z 10), .ref (z 11), .ref (z 12), .int (xs 2), .ref (z 13), .ref (z 14), .int (xs 3), .ref (z 15)])), (z 1, .inl (gI g, 461, .inl D)), (z 13, .inl (gI g, 60, .inl u))] : va_W)) := by
  refine kMv.of (by decide) (Nat.le_of_ble_eq_true rfl) (fun p e s m below meth c A hx hb hr hml hown hts hlk hnm hKW hP hD hS hA ls hl => ?_)
  have hown : s.vm.findClass RX12 = some m.cls := hown
  have hl : lv_has ls 3 [(0, .ref (z 0)), (1, .int (nI b))] := hl
  refine k_hide hP hS (fun H locs hP hS => ?_)
  refine lv_iload_n hx hb dX12_putShift_0 rfl (lv_at hl 1 rfl) ?_
  refine lv_istore_n (lv' := [(2, .int (nI b)), (0, .ref (z 0)), (1, .int (nI b))]) hx hb dX12_putShift_1 rfl hl (by decide) rfl (fun ls hl => ?_)
  have L2 : ∀ (n2 : Nat) (i : Nat) (Ta : Nat → Int32) (hfuel2 : 60 - i < n2) (hi : b ≤ i ∧ i ≤ b + L) (hth : kThr T Ta b L i) (H : Heap) (locs : List Loc) (hP : va_P g.1 vwCl [(z 0, .inr (12, [.ref (z 1), .ref (z 2), .int (nI kp), .int (xs 0), .ref (z 3), .ref (z 4), .ref (z 5), .ref (z 6), .int (xs 1), .ref (z 7), .ref (z 8), .ref (z 9), .ref (z 10), .ref (z 11), .ref (z 12), .int (xs 2), .ref (z 13), .ref (z 14), .int (xs 3), .ref (z 15)])), (z 1, .inl (gI g, 461, .inl D)), (z 13, .inl (gI g, 60, .inl Ta))] H) (hD : va_D A [(z 0, .inr (12, [.ref (z 1), .ref (z 2), .int (nI kp), .int (xs 0), .ref (z 3), .ref (z 4), .ref (z 5), .ref (z 6), .int (xs 1), .ref (z 7), .ref (z 8), .ref (z 9), .ref (z 10), .ref (z 11), .ref (z 12), .int (xs 2), .ref (z 13), .ref (z 14), .int (xs 3), .ref (z 15)])), (z 1, .inl (gI g, 461, .inl D)), (z 13, .inl (gI g, 60, .inl Ta))]) (hS : va_S A s.heap H locs) (ls : Array Slot) (hl : lv_has ls 3 [(2, .int (nI i)), (0, .ref (z 0)), (1, .int (nI b))]), W p l e (kR 1 0 0) s m ([.ref (z 0), .int (nI b)] : List Value).toArray below meth c H locs 0 0 (kQv g A below ([.ref (z 0), .int (nI b)] : List Value).toArray s 0 0 (fun (u : (Nat → Int32)) => ∀ j, j < 60 → u j = if b ≤ j ∧ j < b + L then T j + 1 else T j) (fun (u : (Nat → Int32)) => ([(z 0, .inr (12, [.ref (z 1), .ref (z 2), .int (nI kp), .int (xs 0), .ref (z 3), .ref (z 4), .ref (z 5), .ref (z 6), .int (xs 1), .ref (z 7), .ref (z 8), .ref (z 9), .ref (z 10), .ref (z 11), .ref (z 12), .int (xs 2), .ref (z 13), .ref (z 14), .int (xs 3), .ref (z 15)])), (z 1, .inl (gI g, 461, .inl D)), (z 13, .inl (gI g, 60, .inl u))] : va_W))) (F0 m 2 ls []) := by
    intro n2
    induction n2 with
    | zero => intro i Ta hfuel2; exact absurd hfuel2 (Nat.not_lt_zero _)
    | succ n2 ih2 =>
      intro i Ta hfuel2 hi hth H locs hP hD hS ls hl
      refine lv_iload_n hx hb dX12_putShift_2 rfl (lv_at hl 0 rfl) ?_
      refine lv_iload_n hx hb dX12_putShift_3 rfl (lv_at hl 2 rfl) ?_
      refine lv_aload_n hx hb dX12_putShift_4 rfl (lv_at hl 1 rfl) ?_
      refine va_get (ci := 12) (C := RX12) (T := TX12) (N := 20) hx hb hts inlX12 hown hKW.1 hP 0 rfl rfl 0 (by decide) (hts _ wd_6_5) (fun _ h => h) rfl dX12_putShift_5 ?_
      refine lv_bipush (v := 7) hx hb dX12_putShift_8 (by decide) ?_
      refine va_iald hx hb hKW.1 hP 1 0 rfl rfl (show ¬ _ by decide) dX12_putShift_10 ?_
      refine k_top (y := nI L) hL ?_
      refine lv_iadd hx hb dX12_putShift_11 ?_
      refine k_top (y := nI (b + L)) (nI_add b L) ?_
      refine lv_icmp_ge (tgt := 31) hx hb dX12_putShift_12 (by decide) (fun c_2 => ?_) (fun c_2 => ?_)
      · have c_2n : (b + L) ≤ i := (k_leI (a := (b + L)) (b := i) (by omega) (by omega)).mp c_2
        exact k_vret Ta [0, 1, 2] hx hb hr hlk hP hD hS (k_thrE hth (by omega)) rfl rfl rfl (Nat.le_of_ble_eq_true rfl) (Nat.le_of_ble_eq_true rfl) dX12_putShift_31
      · have c_2n : i < (b + L) := Nat.not_le.mp (fun h => c_2 ((k_leI (a := (b + L)) (b := i) (by omega) (by omega)).mpr h))
        refine lv_aload_n hx hb dX12_putShift_15 rfl (lv_at hl 1 rfl) ?_
        refine va_get (ci := 12) (C := RX12) (T := TX12) (N := 20) hx hb hts inlX12 hown hKW.1 hP 0 rfl rfl 16 (by decide) (hts _ wd_6_18) (fun _ h => h) rfl dX12_putShift_16 ?_
        refine lv_iload_n hx hb dX12_putShift_19 rfl (lv_at hl 0 rfl) ?_
        refine lv_dup2_11 hx hb dX12_putShift_20 rfl rfl ?_
        refine va_iald hx hb hKW.1 hP 2 0 rfl rfl (vp_in_nI (by omega) (by decide)) dX12_putShift_21 ?_
        refine lv_topi (fun x_3 ex_3 => ?_)
        refine lv_iconst (v := 1) hx hb dX12_putShift_22 (by decide) ?_
        refine lv_iadd hx hb dX12_putShift_23 ?_
        refine lv_topi (fun x_4 ex_4 => ?_)
        refine va_iast hx hb hKW.1 hP hD hS 2 0 rfl rfl (vp_in_nI (by omega) (by decide)) dX12_putShift_24 (fun H locs hP hD hS => ?_)
        have hP : va_P g.1 vwCl [(z 0, .inr (12, [.ref (z 1), .ref (z 2), .int (nI kp), .int (xs 0), .ref (z 3), .ref (z 4), .ref (z 5), .ref (z 6), .int (xs 1), .ref (z 7), .ref (z 8), .ref (z 9), .ref (z 10), .ref (z 11), .ref (z 12), .int (xs 2), .ref (z 13), .ref (z 14), .int (xs 3), .ref (z 15)])), (z 1, .inl (gI g, 461, .inl D)), (z 13, .inl (gI g, 60, .inl (upd Ta (nI i).toNatClampNeg x_4)))] H := hP
        have hD : va_D A [(z 0, .inr (12, [.ref (z 1), .ref (z 2), .int (nI kp), .int (xs 0), .ref (z 3), .ref (z 4), .ref (z 5), .ref (z 6), .int (xs 1), .ref (z 7), .ref (z 8), .ref (z 9), .ref (z 10), .ref (z 11), .ref (z 12), .int (xs 2), .ref (z 13), .ref (z 14), .int (xs 3), .ref (z 15)])), (z 1, .inl (gI g, 461, .inl D)), (z 13, .inl (gI g, 60, .inl (upd Ta (nI i).toNatClampNeg x_4)))] := hD
        obtain ⟨f_5, ef_5⟩ : ∃ zz_ : Nat → Int32, zz_ = upd Ta (nI i).toNatClampNeg x_4 := ⟨_, rfl⟩
        rw [← ef_5] at hP hD
        refine lv_iinc (v := nI (i + 1)) (lv' := [(2, .int (nI (i + 1))), (0, .ref (z 0)), (1, .int (nI b))]) hx hb dX12_putShift_25 hl (k := 0) rfl (nI_add i 1) (by decide) rfl (fun ls hl => ?_)
        refine lv_goto (tgt := 2) hx hb dX12_putShift_28 (by decide) ?_
        exact ih2 (i + 1) f_5 (by omega) (by first | assumption | omega) (k_thrS hth (by omega) (by omega) (by omega) (by rw [← ex_3]; exact ex_4.symm) ef_5) H locs (hP.sub [0, 1, 2] rfl) (hD.sub [0, 1, 2] (by decide) rfl) hS ls (lv_sub hl [0, 1, 2] rfl)
  exact L2 (60 - b + 1) b T (Nat.lt_succ_self _) (by first | assumption | omega) k_thr0 H locs (hP.sub [0, 1, 2] rfl) (hD.sub [0, 1, 2] (by decide) rfl) hS ls (lv_sub hl [0, 1, 2] rfl)
