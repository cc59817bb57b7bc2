theorem dX0_waiterAt_0 : decode cX0_waiterAt 0 = .ok (.iconst 0, 1) := by decide +kernel
theorem dX0_waiterAt_1 : decode cX0_waiterAt 1 = .ok (.istore_n 2, 1) := by decide +kernel
theorem dX0_waiterAt_2 : decode cX0_waiterAt 2 = .ok (.iconst 0, 1) := by decide +kernel
theorem dX0_waiterAt_3 : decode cX0_waiterAt 3 = .ok (.istore_n 3, 1) := by decide +kernel
theorem dX0_waiterAt_4 : decode cX0_waiterAt 4 = .ok (.iload_n 3, 1) := by decide +kernel
theorem dX0_waiterAt_5 : decode cX0_waiterAt 5 = .ok (.aload_n 0, 1) := by decide +kernel
theorem dX0_waiterAt_6 : decode cX0_waiterAt 6 = .ok (.getfield 69, 3) := by decide +kernel
theorem dX0_waiterAt_9 : decode cX0_waiterAt 9 = .ok (.if_icmp .ge 25, 3) := by decide +kernel
theorem dX0_waiterAt_34 : decode cX0_waiterAt 34 = .ok (.iload_n 1, 1) := by decide +kernel
theorem dX0_waiterAt_35 : decode cX0_waiterAt 35 = .ok (.iload_n 2, 1) := by decide +kernel
theorem dX0_waiterAt_36 : decode cX0_waiterAt 36 = .ok (.if_icmp .ge 12, 3) := by decide +kernel
theorem dX0_waiterAt_48 : decode cX0_waiterAt 48 = .ok (.aload_n 0, 1) := by decide +kernel
theorem dX0_waiterAt_49 : decode cX0_waiterAt 49 = .ok (.iconst 0, 1) := by decide +kernel
theorem dX0_waiterAt_50 : decode cX0_waiterAt 50 = .ok (.iload_n 1, 1) := by decide +kernel
theorem dX0_waiterAt_51 : decode cX0_waiterAt 51 = .ok (.iload_n 2, 1) := by decide +kernel
theorem dX0_waiterAt_52 : decode cX0_waiterAt 52 = .ok (.isub, 1) := by decide +kernel
theorem dX0_waiterAt_53 : decode cX0_waiterAt 53 = .ok (.invokevirtual 80, 3) := by decide +kernel
theorem dX0_waiterAt_56 : decode cX0_waiterAt 56 = .ok (.ireturn, 1) := by decide +kernel
theorem dX0_waiterAt_39 : decode cX0_waiterAt 39 = .ok (.aload_n 0, 1) := by decide +kernel
theorem dX0_waiterAt_40 : decode cX0_waiterAt 40 = .ok (.iconst 1, 1) := by decide +kernel
theorem dX0_waiterAt_41 : decode cX0_waiterAt 41 = .ok (.iload_n 1, 1) := by decide +kernel
theorem dX0_waiterAt_42 : decode cX0_waiterAt 42 = .ok (.invokevirtual 80, 3) := by decide +kernel
theorem dX0_waiterAt_45 : decode cX0_waiterAt 45 = .ok (.goto 11, 3) := by decide +kernel
theorem dX0_waiterAt_12 : decode cX0_waiterAt 12 = .ok (.iload_n 2, 1) := by decide +kernel
theorem dX0_waiterAt_13 : decode cX0_waiterAt 13 = .ok (.aload_n 0, 1) := by decide +kernel
theorem dX0_waiterAt_14 : decode cX0_waiterAt 14 = .ok (.aload_n 0, 1) := by decide +kernel
theorem dX0_waiterAt_15 : decode cX0_waiterAt 15 = .ok (.getfield 33, 3) := by decide +kernel
theorem dX0_waiterAt_18 : decode cX0_waiterAt 18 = .ok (.iload_n 3, 1) := by decide +kernel
theorem dX0_waiterAt_19 : decode cX0_waiterAt 19 = .ok (.iaload, 1) := by decide +kernel
theorem dX0_waiterAt_20 : decode cX0_waiterAt 20 = .ok (.invokevirtual 72, 3) := by decide +kernel
theorem dX0_waiterAt_23 : decode cX0_waiterAt 23 = .ok (.invokestatic 76, 3) := by decide +kernel
theorem dX0_waiterAt_26 : decode cX0_waiterAt 26 = .ok (.iadd, 1) := by decide +kernel
theorem dX0_waiterAt_27 : decode cX0_waiterAt 27 = .ok (.istore_n 2, 1) := by decide +kernel
theorem dX0_waiterAt_28 : decode cX0_waiterAt 28 = .ok (.iinc 3 1, 3) := by decide +kernel
theorem dX0_waiterAt_31 : decode cX0_waiterAt 31 = .ok (.goto (-27), 3) := by decide +kernel
set_option maxHeartbeats 8000000 in
set_option maxRecDepth 100000 in
theorem c_X0_waiterAt (l : Launch) (g : kG) (sz : Nat) (a : Nat → Nat) (cnt : Nat) (wn : Nat) (xa : Int32) (xd : Int32) (f0 : Nat → Int32) (f1 : Nat → Int32) (f2 : Nat → Int32) (f3 : Nat → Int32) (f4 : Nat → Int32) (f5 : Nat → Int32) (f6 : Nat → Int32) (f7 : Nat → Int32) (x : Int32) (hc : cnt ≤ 10) (hw : wn ≤ 10) (hwt : ∀ j, j < 10 → (0 : Int) ≤ (f7 j).toInt ∧ (f7 j).toInt ≤ 9) : kMi l g yX0_waiterAt cX0_waiterAt 4 (some .int) 4 0 0 [.ref (a 0), .int x] sz [(a 0, .inr (0, [.int (nI cnt), .ref (a 1), .ref (a 2), .ref (a 3), .ref (a 4), .ref (a 5), .ref (a 6), .ref (a 7), .int xa, .int xd, .int (nI wn), .ref (a 8)])), (a 1, .inl (gI g, 10, .inl f0)), (a 2, .inl (gI g, 10, .inl f1)), (a 3, .inl (gI g, 10, .inl f2)), (a 4, .inl (gI g, 10, .inl f3)), (a 5, .inl (gI g, 10, .inl f4)), (a 6, .inl (gI g, 10, .inl f5)), (a 7, .inl (gI g, 10, .inl f6)), (a 8, .inl (gI g, 10, .inl f7))] (fun (r : Int32) (u : Unit) => True) (fun (u : Unit) => ([(a 0, .inr (0, [.int (nI cnt), .ref (a 1), .ref (a 2), .ref (a 3), .ref (a 4), .ref (a 5), .ref (a 6), .ref (a 7), .int xa, .int xd, .int (nI wn), .ref (a 8)])), (a 1, .inl (gI g, 10, .inl f0)), (a 2, .inl (gI g, 10, .inl f1)), (a 3, .inl (gI g, 10, .inl f2)), (a 4, .inl (gI g, 10, .inl f3)), (a 5, .inl (gI g, 10, .inl f4)), (a 6, .inl (gI g, 10, .inl f5)), (a 7, .inl (gI g, 10, .inl f6)), (a 8, .inl (gI g, 10, .inl f7))] : va_W)) := by
  refine kMi.of (by decide) (Nat.le_of_ble_eq_true rfl) (fun p e s m below meth c A hx hb hr hml hown hts hlk hnm hKW hP hD hS hA ls hl => ?_)
  have hown : s.vm.findClass RX0 = some m.cls := hown
  have hl : lv_has ls 4 [(0, .ref (a 0)), (1, .int x)] := hl
  refine k_hide hP hS (fun H locs hP hS => ?_)
  refine lv_iconst (v := 0) hx hb dX0_waiterAt_0 (by decide) ?_
  refine lv_istore_n (lv' := [(2, .int 0), (0, .ref (a 0)), (1, .int x)]) hx hb dX0_waiterAt_1 rfl hl (by decide) rfl (fun ls hl => ?_)
  refine lv_iconst (v := 0) hx hb dX0_waiterAt_2 (by decide) ?_
  refine lv_istore_n (lv' := [(3, .int 0), (2, .int 0), (0, .ref (a 0)), (1, .int x)]) hx hb dX0_waiterAt_3 rfl hl (by decide) rfl (fun ls hl => ?_)
  have L4 : ∀ (n4 : Nat) (i : Nat) (x2 : Int32) (hfuel4 : wn - i < n4) (hi : i ≤ wn) (H : Heap) (locs : List Loc) (hP : va_P g.1 vwCl [(a 0, .inr (0, [.int (nI cnt), .ref (a 1), .ref (a 2), .ref (a 3), .ref (a 4), .ref (a 5), .ref (a 6), .ref (a 7), .int xa, .int xd, .int (nI wn), .ref (a 8)])), (a 1, .inl (gI g, 10, .inl f0)), (a 2, .inl (gI g, 10, .inl f1)), (a 3, .inl (gI g, 10, .inl f2)), (a 4, .inl (gI g, 10, .inl f3)), (a 5, .inl (gI g, 10, .inl f4)), (a 6, .inl (gI g, 10, .inl f5)), (a 7, .inl (gI g, 10, .inl f6)), (a 8, .inl (gI g, 10, .inl f7))] H) (hD : va_D A [(a 0, .inr (0, [.int (nI cnt), .ref (a 1), .ref (a 2), .ref (a 3), .ref (a 4), .ref (a 5), .ref (a 6), .ref (a 7), .int xa, .int xd, .int (nI wn), .ref (a 8)])), (a 1, .inl (gI g, 10, .inl f0)), (a 2, .inl (gI g, 10, .inl f1)), (a 3, .inl (gI g, 10, .inl f2)), (a 4, .inl (gI g, 10, .inl f3)), (a 5, .inl (gI g, 10, .inl f4)), (a 6, .inl (gI g, 10, .inl f5)), (a 7, .inl (gI g, 10, .inl f6)), (a 8, .inl (gI g, 10, .inl f7))]) (hS : va_S A s.heap H locs) (ls : Array Slot) (hl : lv_has ls 4 [(3, .int (nI i)), (2, .int x2), (0, .ref (a 0)), (1, .int x)]), W p l e (kR 4 0 0) s m ([.ref (a 0), .int x] : List Value).toArray below meth c H locs 0 0 (kQi g A below ([.ref (a 0), .int x] : List Value).toArray s 0 0 (fun (r : Int32) (u : Unit) => True) (fun (u : Unit) => ([(a 0, .inr (0, [.int (nI cnt), .ref (a 1), .ref (a 2), .ref (a 3), .ref (a 4), .ref (a 5), .ref (a 6), .ref (a 7), .int xa, .int xd, .int (nI wn), .ref (a 8)])), (a 1, .inl (gI g, 10, .inl f0)), (a 2, .inl (gI g, 10, .inl f1)), (a 3, .inl (gI g, 10, .inl f2)), (a 4, .inl (gI g, 10, .inl f3)), (a 5, .inl (gI g, 10, .inl f4)), (a 6, .inl (gI g, 10, .inl f5)), (a 7, .inl (gI g, 10, .inl f6)), (a 8, .inl (gI g, 10, .inl f7))] : va_W))) (F0 m 4 ls []) := by
    intro n4
    induction n4 with
    | zero => intro i x2 hfuel4; exact absurd hfuel4 (Nat.not_lt_zero _)
    | succ n4 ih4 =>
      intro i x2 hfuel4 hi H locs hP hD hS ls hl
      refine lv_iload_n hx hb dX0_waiterAt_4 rfl (lv_at hl 0 rfl) ?_
      refine lv_aload_n hx hb dX0_waiterAt_5 rfl (lv_at hl 2 rfl) ?_
      refine va_get (ci := 0) (C := RX0) (T := TX0) (N := 12) hx hb hts inlX0 hown hKW.1 hP 0 rfl rfl 10 (by decide) (hts _ wd_9_8) (fun _ h => h) rfl dX0_waiterAt_6 ?_
      refine lv_icmp_ge (tgt := 34) hx hb dX0_waiterAt_9 (by decide) (fun c_1 => ?_) (fun c_1 => ?_)
      · have c_1n : wn ≤ i := (k_leI (a := wn) (b := i) (by omega) (by omega)).mp c_1
        refine lv_iload_n hx hb dX0_waiterAt_34 rfl (lv_at hl 3 rfl) ?_
        refine lv_iload_n hx hb dX0_waiterAt_35 rfl (lv_at hl 1 rfl) ?_
        refine lv_icmp_ge (tgt := 48) hx hb dX0_waiterAt_36 (by decide) (fun c_2 => ?_) (fun c_2 => ?_)
        · refine lv_aload_n hx hb dX0_waiterAt_48 rfl (lv_at hl 2 rfl) ?_
          refine lv_iconst (v := 0) hx hb dX0_waiterAt_49 (by decide) ?_
          refine lv_iload_n hx hb dX0_waiterAt_50 rfl (lv_at hl 3 rfl) ?_
          refine lv_iload_n hx hb dX0_waiterAt_51 rfl (lv_at hl 1 rfl) ?_
          refine lv_isub hx hb dX0_waiterAt_52 ?_
          refine lv_topi (fun x_3 ex_3 => ?_)
          refine k_Vi [0, 1, 2, 3, 4, 5, 6, 7, 8] [] 0 0 (wr := []) hx hb hml hown hts hKW hP hD hS hA hl.1 (c_X0_waiterOf l g _ a cnt wn xa xd f0 f1 f2 f3 f4 f5 f6 f7 0 x_3 (by first | assumption | omega | decide) (by first | assumption | omega | decide) (by first | assumption | omega | decide)) rfl rfl rfl wd_40_7 wd_3_1 wd_40_4 wd_40_5 wd_40_6 yd_X0_waiterOf ⟨(Nat.le_of_ble_eq_true rfl), (Nat.le_of_ble_eq_true rfl)⟩ rfl rfl rfl rfl (by decide) rfl (Nat.le_of_ble_eq_true rfl) dX0_waiterAt_53 ⟨(Nat.le_of_ble_eq_true rfl), (Nat.le_of_ble_eq_true rfl)⟩ (fun r_4 u_5 H locs hw_6 hP hD hS => ?_)
          have hP : va_P g.1 vwCl [(a 0, .inr (0, [.int (nI cnt), .ref (a 1), .ref (a 2), .ref (a 3), .ref (a 4), .ref (a 5), .ref (a 6), .ref (a 7), .int xa, .int xd, .int (nI wn), .ref (a 8)])), (a 1, .inl (gI g, 10, .inl f0)), (a 2, .inl (gI g, 10, .inl f1)), (a 3, .inl (gI g, 10, .inl f2)), (a 4, .inl (gI g, 10, .inl f3)), (a 5, .inl (gI g, 10, .inl f4)), (a 6, .inl (gI g, 10, .inl f5)), (a 7, .inl (gI g, 10, .inl f6)), (a 8, .inl (gI g, 10, .inl f7))] H := hP
          have hD : va_D A [(a 0, .inr (0, [.int (nI cnt), .ref (a 1), .ref (a 2), .ref (a 3), .ref (a 4), .ref (a 5), .ref (a 6), .ref (a 7), .int xa, .int xd, .int (nI wn), .ref (a 8)])), (a 1, .inl (gI g, 10, .inl f0)), (a 2, .inl (gI g, 10, .inl f1)), (a 3, .inl (gI g, 10, .inl f2)), (a 4, .inl (gI g, 10, .inl f3)), (a 5, .inl (gI g, 10, .inl f4)), (a 6, .inl (gI g, 10, .inl f5)), (a 7, .inl (gI g, 10, .inl f6)), (a 8, .inl (gI g, 10, .inl f7))] := hD
          exact k_iret () [0, 1, 2, 3, 4, 5, 6, 7, 8] hx hb hr hlk hP hD hS trivial rfl rfl rfl (Nat.le_of_ble_eq_true rfl) (Nat.le_of_ble_eq_true rfl) dX0_waiterAt_56
        · refine lv_aload_n hx hb dX0_waiterAt_39 rfl (lv_at hl 2 rfl) ?_
          refine lv_iconst (v := 1) hx hb dX0_waiterAt_40 (by decide) ?_
          refine lv_iload_n hx hb dX0_waiterAt_41 rfl (lv_at hl 3 rfl) ?_
          refine k_Vi [0, 1, 2, 3, 4, 5, 6, 7, 8] [] 0 0 (wr := []) hx hb hml hown hts hKW hP hD hS hA hl.1 (c_X0_waiterOf l g _ a cnt wn xa xd f0 f1 f2 f3 f4 f5 f6 f7 1 x (by first | assumption | omega | decide) (by first | assumption | omega | decide) (by first | assumption | omega | decide)) rfl rfl rfl wd_40_7 wd_3_1 wd_40_4 wd_40_5 wd_40_6 yd_X0_waiterOf ⟨(Nat.le_of_ble_eq_true rfl), (Nat.le_of_ble_eq_true rfl)⟩ rfl rfl rfl rfl (by decide) rfl (Nat.le_of_ble_eq_true rfl) dX0_waiterAt_42 ⟨(Nat.le_of_ble_eq_true rfl), (Nat.le_of_ble_eq_true rfl)⟩ (fun r_7 u_8 H locs hw_9 hP hD hS => ?_)
          have hP : va_P g.1 vwCl [(a 0, .inr (0, [.int (nI cnt), .ref (a 1), .ref (a 2), .ref (a 3), .ref (a 4), .ref (a 5), .ref (a 6), .ref (a 7), .int xa, .int xd, .int (nI wn), .ref (a 8)])), (a 1, .inl (gI g, 10, .inl f0)), (a 2, .inl (gI g, 10, .inl f1)), (a 3, .inl (gI g, 10, .inl f2)), (a 4, .inl (gI g, 10, .inl f3)), (a 5, .inl (gI g, 10, .inl f4)), (a 6, .inl (gI g, 10, .inl f5)), (a 7, .inl (gI g, 10, .inl f6)), (a 8, .inl (gI g, 10, .inl f7))] H := hP
          have hD : va_D A [(a 0, .inr (0, [.int (nI cnt), .ref (a 1), .ref (a 2), .ref (a 3), .ref (a 4), .ref (a 5), .ref (a 6), .ref (a 7), .int xa, .int xd, .int (nI wn), .ref (a 8)])), (a 1, .inl (gI g, 10, .inl f0)), (a 2, .inl (gI g, 10, .inl f1)), (a 3, .inl (gI g, 10, .inl f2)), (a 4, .inl (gI g, 10, .inl f3)), (a 5, .inl (gI g, 10, .inl f4)), (a 6, .inl (gI g, 10, .inl f5)), (a 7, .inl (gI g, 10, .inl f6)), (a 8, .inl (gI g, 10, .inl f7))] := hD
          refine lv_goto (tgt := 56) hx hb dX0_waiterAt_45 (by decide) ?_
          exact k_iret () [0, 1, 2, 3, 4, 5, 6, 7, 8] hx hb hr hlk hP hD hS trivial rfl rfl rfl (Nat.le_of_ble_eq_true rfl) (Nat.le_of_ble_eq_true rfl) dX0_waiterAt_56
      · have c_1n : i < wn := Nat.not_le.mp (fun h => c_1 ((k_leI (a := wn) (b := i) (by omega) (by omega)).mpr h))
        refine lv_iload_n hx hb dX0_waiterAt_12 rfl (lv_at hl 1 rfl) ?_
        refine lv_aload_n hx hb dX0_waiterAt_13 rfl (lv_at hl 2 rfl) ?_
        refine lv_aload_n hx hb dX0_waiterAt_14 rfl (lv_at hl 2 rfl) ?_
        refine va_get (ci := 0) (C := RX0) (T := TX0) (N := 12) hx hb hts inlX0 hown hKW.1 hP 0 rfl rfl 11 (by decide) (hts _ wd_4_13) (fun _ h => h) rfl dX0_waiterAt_15 ?_
        refine lv_iload_n hx hb dX0_waiterAt_18 rfl (lv_at hl 0 rfl) ?_
        refine va_iald hx hb hKW.1 hP 8 0 rfl rfl (vp_in_nI (by omega) (by decide)) dX0_waiterAt_19 ?_
        refine lv_topi (fun x_10 ex_10 => ?_)
        obtain ⟨kj, hkj, rfl⟩ := k_ofr (x := x_10) (n := 10) (by decide) (by rw [ex_10, nI_clamp (by omega)]; have := hwt i (by omega); omega)
        refine k_Vi [0, 1, 2, 3, 4, 5, 6, 7, 8] [] 0 0 (wr := []) hx hb hml hown hts hKW hP hD hS hA hl.1 (c_X0_hasAdmittedSibling l g _ a cnt wn xa xd f0 f1 f2 f3 f4 f5 f6 f7 kj (by first | assumption | omega | decide) (by first | assumption | omega | decide)) rfl rfl rfl wd_39_23 wd_3_1 wd_39_20 wd_39_21 wd_39_22 yd_X0_hasAdmittedSibling ⟨(Nat.le_of_ble_eq_true rfl), (Nat.le_of_ble_eq_true rfl)⟩ rfl rfl rfl rfl (by decide) rfl (Nat.le_of_ble_eq_true rfl) dX0_waiterAt_20 ⟨(Nat.le_of_ble_eq_true rfl), (Nat.le_of_ble_eq_true rfl)⟩ (fun r_11 u_12 H locs hw_13 hP hD hS => ?_)
        have hP : va_P g.1 vwCl [(a 0, .inr (0, [.int (nI cnt), .ref (a 1), .ref (a 2), .ref (a 3), .ref (a 4), .ref (a 5), .ref (a 6), .ref (a 7), .int xa, .int xd, .int (nI wn), .ref (a 8)])), (a 1, .inl (gI g, 10, .inl f0)), (a 2, .inl (gI g, 10, .inl f1)), (a 3, .inl (gI g, 10, .inl f2)), (a 4, .inl (gI g, 10, .inl f3)), (a 5, .inl (gI g, 10, .inl f4)), (a 6, .inl (gI g, 10, .inl f5)), (a 7, .inl (gI g, 10, .inl f6)), (a 8, .inl (gI g, 10, .inl f7))] H := hP
        have hD : va_D A [(a 0, .inr (0, [.int (nI cnt), .ref (a 1), .ref (a 2), .ref (a 3), .ref (a 4), .ref (a 5), .ref (a 6), .ref (a 7), .int xa, .int xd, .int (nI wn), .ref (a 8)])), (a 1, .inl (gI g, 10, .inl f0)), (a 2, .inl (gI g, 10, .inl f1)), (a 3, .inl (gI g, 10, .inl f2)), (a 4, .inl (gI g, 10, .inl f3)), (a 5, .inl (gI g, 10, .inl f4)), (a 6, .inl (gI g, 10, .inl f5)), (a 7, .inl (gI g, 10, .inl f6)), (a 8, .inl (gI g, 10, .inl f7))] := hD
        rcases (show r_11 = 1 ∨ r_11 = 0 from hw_13) with rfl | rfl <;> clear hw_13
        · refine k_SNi [] [0, 1, 2, 3, 4, 5, 6, 7, 8] (wr := [(a 0, .inr (0, [.int (nI cnt), .ref (a 1), .ref (a 2), .ref (a 3), .ref (a 4), .ref (a 5), .ref (a 6), .ref (a 7), .int xa, .int xd, .int (nI wn), .ref (a 8)])), (a 1, .inl (gI g, 10, .inl f0)), (a 2, .inl (gI g, 10, .inl f1)), (a 3, .inl (gI g, 10, .inl f2)), (a 4, .inl (gI g, 10, .inl f3)), (a 5, .inl (gI g, 10, .inl f4)), (a 6, .inl (gI g, 10, .inl f5)), (a 7, .inl (gI g, 10, .inl f6)), (a 8, .inl (gI g, 10, .inl f7))]) hx hb hml hown hts hKW hP hD hS hA hl.1 (c_X11_oneIf l g _ 1 ) wd_14_14 wd_1_2 nw_27 wd_14_13 yd_X11_oneIf ⟨(Nat.le_of_ble_eq_true rfl), (Nat.le_of_ble_eq_true rfl)⟩ rfl rfl rfl rfl (by decide) rfl (Nat.le_of_ble_eq_true rfl) dX0_waiterAt_23 ⟨(Nat.le_of_ble_eq_true rfl), (Nat.le_of_ble_eq_true rfl)⟩ (fun r_14 u_15 H locs hw_16 hP hD hS => ?_)
          have hP : va_P g.1 vwCl [(a 0, .inr (0, [.int (nI cnt), .ref (a 1), .ref (a 2), .ref (a 3), .ref (a 4), .ref (a 5), .ref (a 6), .ref (a 7), .int xa, .int xd, .int (nI wn), .ref (a 8)])), (a 1, .inl (gI g, 10, .inl f0)), (a 2, .inl (gI g, 10, .inl f1)), (a 3, .inl (gI g, 10, .inl f2)), (a 4, .inl (gI g, 10, .inl f3)), (a 5, .inl (gI g, 10, .inl f4)), (a 6, .inl (gI g, 10, .inl f5)), (a 7, .inl (gI g, 10, .inl f6)), (a 8, .inl (gI g, 10, .inl f7))] H := hP
          have hD : va_D A [(a 0, .inr (0, [.int (nI cnt), .ref (a 1), .ref (a 2), .ref (a 3), .ref (a 4), .ref (a 5), .ref (a 6), .ref (a 7), .int xa, .int xd, .int (nI wn), .ref (a 8)])), (a 1, .inl (gI g, 10, .inl f0)), (a 2, .inl (gI g, 10, .inl f1)), (a 3, .inl (gI g, 10, .inl f2)), (a 4, .inl (gI g, 10, .inl f3)), (a 5, .inl (gI g, 10, .inl f4)), (a 6, .inl (gI g, 10, .inl f5)), (a 7, .inl (gI g, 10, .inl f6)), (a 8, .inl (gI g, 10, .inl f7))] := hD
          refine lv_iadd hx hb dX0_waiterAt_26 ?_
          refine lv_topi (fun x_17 ex_17 => ?_)
          refine lv_istore_n (lv' := [(2, .int x_17), (3, .int (nI i)), (0, .ref (a 0)), (1, .int x)]) hx hb dX0_waiterAt_27 rfl hl (by decide) rfl (fun ls hl => ?_)
          refine lv_iinc (v := nI (i + 1)) (lv' := [(3, .int (nI (i + 1))), (2, .int x_17), (0, .ref (a 0)), (1, .int x)]) hx hb dX0_waiterAt_28 hl (k := 1) rfl (nI_add i 1) (by decide) rfl (fun ls hl => ?_)
          refine lv_goto (tgt := 4) hx hb dX0_waiterAt_31 (by decide) ?_
          exact ih4 (i + 1) x_17 (by omega) (by first | assumption | omega) H locs (hP.sub [0, 1, 2, 3, 4, 5, 6, 7, 8] rfl) (hD.sub [0, 1, 2, 3, 4, 5, 6, 7, 8] (by decide) rfl) hS ls (lv_sub hl [0, 1, 2, 3] rfl)
        · refine k_SNi [] [0, 1, 2, 3, 4, 5, 6, 7, 8] (wr := [(a 0, .inr (0, [.int (nI cnt), .ref (a 1), .ref (a 2), .ref (a 3), .ref (a 4), .ref (a 5), .ref (a 6), .ref (a 7), .int xa, .int xd, .int (nI wn), .ref (a 8)])), (a 1, .inl (gI g, 10, .inl f0)), (a 2, .inl (gI g, 10, .inl f1)), (a 3, .inl (gI g, 10, .inl f2)), (a 4, .inl (gI g, 10, .inl f3)), (a 5, .inl (gI g, 10, .inl f4)), (a 6, .inl (gI g, 10, .inl f5)), (a 7, .inl (gI g, 10, .inl f6)), (a 8, .inl (gI g, 10, .inl f7))]) hx hb hml hown hts hKW hP hD hS hA hl.1 (c_X11_oneIf l g _ 0 ) wd_14_14 wd_1_2 nw_27 wd_14_13 yd_X11_oneIf ⟨(Nat.le_of_ble_eq_true rfl), (Nat.le_of_ble_eq_true rfl)⟩ rfl rfl rfl rfl (by decide) rfl (Nat.le_of_ble_eq_true rfl) dX0_waiterAt_23 ⟨(Nat.le_of_ble_eq_true rfl), (Nat.le_of_ble_eq_true rfl)⟩ (fun r_18 u_19 H locs hw_20 hP hD hS => ?_)
          have hP : va_P g.1 vwCl [(a 0, .inr (0, [.int (nI cnt), .ref (a 1), .ref (a 2), .ref (a 3), .ref (a 4), .ref (a 5), .ref (a 6), .ref (a 7), .int xa, .int xd, .int (nI wn), .ref (a 8)])), (a 1, .inl (gI g, 10, .inl f0)), (a 2, .inl (gI g, 10, .inl f1)), (a 3, .inl (gI g, 10, .inl f2)), (a 4, .inl (gI g, 10, .inl f3)), (a 5, .inl (gI g, 10, .inl f4)), (a 6, .inl (gI g, 10, .inl f5)), (a 7, .inl (gI g, 10, .inl f6)), (a 8, .inl (gI g, 10, .inl f7))] H := hP
          have hD : va_D A [(a 0, .inr (0, [.int (nI cnt), .ref (a 1), .ref (a 2), .ref (a 3), .ref (a 4), .ref (a 5), .ref (a 6), .ref (a 7), .int xa, .int xd, .int (nI wn), .ref (a 8)])), (a 1, .inl (gI g, 10, .inl f0)), (a 2, .inl (gI g, 10, .inl f1)), (a 3, .inl (gI g, 10, .inl f2)), (a 4, .inl (gI g, 10, .inl f3)), (a 5, .inl (gI g, 10, .inl f4)), (a 6, .inl (gI g, 10, .inl f5)), (a 7, .inl (gI g, 10, .inl f6)), (a 8, .inl (gI g, 10, .inl f7))] := hD
          refine lv_iadd hx hb dX0_waiterAt_26 ?_
          refine lv_topi (fun x_21 ex_21 => ?_)
          refine lv_istore_n (lv' := [(2, .int x_21), (3, .int (nI i)), (0, .ref (a 0)), (1, .int x)]) hx hb dX0_waiterAt_27 rfl hl (by decide) rfl (fun ls hl => ?_)
          refine lv_iinc (v := nI (i + 1)) (lv' := [(3, .int (nI (i + 1))), (2, .int x_21), (0, .ref (a 0)), (1, .int x)]) hx hb dX0_waiterAt_28 hl (k := 1) rfl (nI_add i 1) (by decide) rfl (fun ls hl => ?_)
          refine lv_goto (tgt := 4) hx hb dX0_waiterAt_31 (by decide) ?_
          exact ih4 (i + 1) x_21 (by omega) (by first | assumption | omega) H locs (hP.sub [0, 1, 2, 3, 4, 5, 6, 7, 8] rfl) (hD.sub [0, 1, 2, 3, 4, 5, 6, 7, 8] (by decide) rfl) hS ls (lv_sub hl [0, 1, 2, 3] rfl)
  exact L4 (wn - 0 + 1) 0 0 (Nat.lt_succ_self _) (by first | assumption | omega) H locs (hP.sub [0, 1, 2, 3, 4, 5, 6, 7, 8] rfl) (hD.sub [0, 1, 2, 3, 4, 5, 6, 7, 8] (by decide) rfl) hS ls (lv_sub hl [0, 1, 2, 3] rfl)
theorem dX3_dropOldest_0 : decode cX3_dropOldest 0 = .ok (.aload_n 0, 1) := by decide +kernel
theorem dX3_dropOldest_1 : decode cX3_dropOldest 1 = .ok (.bipush 39, 2) := by decide +kernel
theorem dX3_dropOldest_3 : decode cX3_dropOldest 3 = .ok (.putfield 21, 3) := by decide +kernel
theorem dX3_dropOldest_6 : decode cX3_dropOldest 6 = .ok (.aload_n 0, 1) := by decide +kernel
theorem dX3_dropOldest_7 : decode cX3_dropOldest 7 = .ok (.getfield 9, 3) := by decide +kernel
theorem dX3_dropOldest_10 : decode cX3_dropOldest 10 = .ok (.iconst 1, 1) := by decide +kernel
theorem dX3_dropOldest_11 : decode cX3_dropOldest 11 = .ok (.aload_n 0, 1) := by decide +kernel
theorem dX3_dropOldest_12 : decode cX3_dropOldest 12 = .ok (.getfield 9, 3) := by decide +kernel
theorem dX3_dropOldest_15 : decode cX3_dropOldest 15 = .ok (.iconst 0, 1) := by decide +kernel
theorem dX3_dropOldest_16 : decode cX3_dropOldest 16 = .ok (.aload_n 0, 1) := by decide +kernel
theorem dX3_dropOldest_17 : decode cX3_dropOldest 17 = .ok (.getfield 21, 3) := by decide +kernel
theorem dX3_dropOldest_20 : decode cX3_dropOldest 20 = .ok (.invokestatic 28, 3) := by decide +kernel
theorem dX3_dropOldest_23 : decode cX3_dropOldest 23 = .ok (.aload_n 0, 1) := by decide +kernel
theorem dX3_dropOldest_24 : decode cX3_dropOldest 24 = .ok (.getfield 15, 3) := by decide +kernel
theorem dX3_dropOldest_27 : decode cX3_dropOldest 27 = .ok (.iconst 1, 1) := by decide +kernel
theorem dX3_dropOldest_28 : decode cX3_dropOldest 28 = .ok (.aload_n 0, 1) := by decide +kernel
theorem dX3_dropOldest_29 : decode cX3_dropOldest 29 = .ok (.getfield 15, 3) := by decide +kernel
theorem dX3_dropOldest_32 : decode cX3_dropOldest 32 = .ok (.iconst 0, 1) := by decide +kernel
theorem dX3_dropOldest_33 : decode cX3_dropOldest 33 = .ok (.aload_n 0, 1) := by decide +kernel
theorem dX3_dropOldest_34 : decode cX3_dropOldest 34 = .ok (.getfield 21, 3) := by decide +kernel
theorem dX3_dropOldest_37 : decode cX3_dropOldest 37 = .ok (.invokestatic 28, 3) := by decide +kernel
theorem dX3_dropOldest_40 : decode cX3_dropOldest 40 = .ok (.aload_n 0, 1) := by decide +kernel
theorem dX3_dropOldest_41 : decode cX3_dropOldest 41 = .ok (.getfield 18, 3) := by decide +kernel
theorem dX3_dropOldest_44 : decode cX3_dropOldest 44 = .ok (.iconst 1, 1) := by decide +kernel
theorem dX3_dropOldest_45 : decode cX3_dropOldest 45 = .ok (.aload_n 0, 1) := by decide +kernel
theorem dX3_dropOldest_46 : decode cX3_dropOldest 46 = .ok (.getfield 18, 3) := by decide +kernel
theorem dX3_dropOldest_49 : decode cX3_dropOldest 49 = .ok (.iconst 0, 1) := by decide +kernel
theorem dX3_dropOldest_50 : decode cX3_dropOldest 50 = .ok (.aload_n 0, 1) := by decide +kernel
theorem dX3_dropOldest_51 : decode cX3_dropOldest 51 = .ok (.getfield 21, 3) := by decide +kernel
theorem dX3_dropOldest_54 : decode cX3_dropOldest 54 = .ok (.invokestatic 28, 3) := by decide +kernel
theorem dX3_dropOldest_57 : decode cX3_dropOldest 57 = .ok (.return_, 1) := by decide +kernel
set_option maxHeartbeats 8000000 in
set_option maxRecDepth 100000 in
theorem c_X3_dropOldest (l : Launch) (g : kG) (sz : Nat) (a : Nat → Nat) (cnt : Nat) (f0 : Nat → Int32) (f1 : Nat → Int32) (f2 : Nat → Int32) : kMv l g yX3_dropOldest cX3_dropOldest 1 none 1 0 0 [.ref (a 0)] sz [(a 0, .inr (3, [.int (nI cnt), .ref (a 1), .ref (a 2), .ref (a 3)])), (a 1, .inl (gI g, 40, .inl f0)), (a 2, .inl (gI g, 40, .inl f1)), (a 3, .inl (gI g, 40, .inl f2))] (fun (u : (Nat → Int32) × (Nat → Int32) × (Nat → Int32)) => True) (fun (u : (Nat → Int32) × (Nat → Int32) × (Nat → Int32)) => ([(a 0, .inr (3, [.int 39, .ref (a 1), .ref (a 2), .ref (a 3)])), (a 1, .inl (gI g, 40, .inl u.1)), (a 2, .inl (gI g, 40, .inl u.2.1)), (a 3, .inl (gI g, 40, .inl u.2.2))] : va_W)) := by
  refine kMv.of (by decide) (Nat.le_of_ble_eq_true rfl) (fun p e s m below meth c A hx hb hr hml hown hts hlk hnm hKW hP hD hS hA ls hl => ?_)
  have hown : s.vm.findClass RX3 = some m.cls := hown
  have hl : lv_has ls 1 [(0, .ref (a 0))] := hl
  refine k_hide hP hS (fun H locs hP hS => ?_)
  refine lv_aload_n hx hb dX3_dropOldest_0 rfl (lv_at hl 0 rfl) ?_
  refine lv_bipush (v := 39) hx hb dX3_dropOldest_1 (by decide) ?_
  refine va_put (ci := 3) (v := .int 39) (C := RX3) (T := TX3) (N := 4) hx hb hts inlX3 tyX3 tyX3_ok nmX3 hown hKW.1 hP hD hS 0 rfl rfl 0 (by decide) (hts _ wd_9_16) (fun _ h => h) rfl (tyX3_ok 0 (by decide)) rfl rfl (Nat.le_of_ble_eq_true rfl) dX3_dropOldest_3 (fun H locs hP hD hS => ?_)
  have hP : va_P g.1 vwCl [(a 0, .inr (3, [.int 39, .ref (a 1), .ref (a 2), .ref (a 3)])), (a 1, .inl (gI g, 40, .inl f0)), (a 2, .inl (gI g, 40, .inl f1)), (a 3, .inl (gI g, 40, .inl f2))] H := hP
  have hD : va_D A [(a 0, .inr (3, [.int 39, .ref (a 1), .ref (a 2), .ref (a 3)])), (a 1, .inl (gI g, 40, .inl f0)), (a 2, .inl (gI g, 40, .inl f1)), (a 3, .inl (gI g, 40, .inl f2))] := hD
  refine lv_aload_n hx hb dX3_dropOldest_6 rfl (lv_at hl 0 rfl) ?_
  refine va_get (ci := 3) (C := RX3) (T := TX3) (N := 4) hx hb hts inlX3 hown hKW.1 hP 0 rfl rfl 1 (by decide) (hts _ wd_4_17) (fun _ h => h) rfl dX3_dropOldest_7 ?_
  refine lv_iconst (v := 1) hx hb dX3_dropOldest_10 (by decide) ?_
  refine lv_aload_n hx hb dX3_dropOldest_11 rfl (lv_at hl 0 rfl) ?_
  refine va_get (ci := 3) (C := RX3) (T := TX3) (N := 4) hx hb hts inlX3 hown hKW.1 hP 0 rfl rfl 1 (by decide) (hts _ wd_4_17) (fun _ h => h) rfl dX3_dropOldest_12 ?_
  refine lv_iconst (v := 0) hx hb dX3_dropOldest_15 (by decide) ?_
  refine lv_aload_n hx hb dX3_dropOldest_16 rfl (lv_at hl 0 rfl) ?_
  refine va_get (ci := 3) (C := RX3) (T := TX3) (N := 4) hx hb hts inlX3 hown hKW.1 hP 0 rfl rfl 0 (by decide) (hts _ wd_9_16) (fun _ h => h) rfl dX3_dropOldest_17 ?_
  refine va_copyi hx hb (hml.trans hl.1.symm) hown (hts _ wd_9_17) (hts _ wd_8_9) (hts _ wd_8_10) (hts _ wd_8_11) hKW.1 hP hD hS 1 1 0 0 rfl rfl rfl rfl rfl (by decide) (by decide) (by decide) (by decide) (by decide) (fun _ _ => rfl) (Nat.le_of_ble_eq_true rfl) (Nat.le_of_ble_eq_true (by decide)) dX3_dropOldest_20 (fun H locs hP hD hS => ?_)
  have hP : va_P g.1 vwCl [(a 0, .inr (3, [.int 39, .ref (a 1), .ref (a 2), .ref (a 3)])), (a 1, .inl (gI g, 40, .inl (va_cpy f0 f0 1 0 39))), (a 2, .inl (gI g, 40, .inl f1)), (a 3, .inl (gI g, 40, .inl f2))] H := hP
  have hD : va_D A [(a 0, .inr (3, [.int 39, .ref (a 1), .ref (a 2), .ref (a 3)])), (a 1, .inl (gI g, 40, .inl (va_cpy f0 f0 1 0 39))), (a 2, .inl (gI g, 40, .inl f1)), (a 3, .inl (gI g, 40, .inl f2))] := hD
  obtain ⟨f_1, ef_1⟩ : ∃ zz_ : Nat → Int32, zz_ = va_cpy f0 f0 1 0 39 := ⟨_, rfl⟩
  rw [← ef_1] at hP hD
  refine lv_aload_n hx hb dX3_dropOldest_23 rfl (lv_at hl 0 rfl) ?_
  refine va_get (ci := 3) (C := RX3) (T := TX3) (N := 4) hx hb hts inlX3 hown hKW.1 hP 0 rfl rfl 2 (by decide) (hts _ wd_4_18) (fun _ h => h) rfl dX3_dropOldest_24 ?_
  refine lv_iconst (v := 1) hx hb dX3_dropOldest_27 (by decide) ?_
  refine lv_aload_n hx hb dX3_dropOldest_28 rfl (lv_at hl 0 rfl) ?_
  refine va_get (ci := 3) (C := RX3) (T := TX3) (N := 4) hx hb hts inlX3 hown hKW.1 hP 0 rfl rfl 2 (by decide) (hts _ wd_4_18) (fun _ h => h) rfl dX3_dropOldest_29 ?_
  refine lv_iconst (v := 0) hx hb dX3_dropOldest_32 (by decide) ?_
  refine lv_aload_n hx hb dX3_dropOldest_33 rfl (lv_at hl 0 rfl) ?_
  refine va_get (ci := 3) (C := RX3) (T := TX3) (N := 4) hx hb hts inlX3 hown hKW.1 hP 0 rfl rfl 0 (by decide) (hts _ wd_9_16) (fun _ h => h) rfl dX3_dropOldest_34 ?_
  refine va_copyi hx hb (hml.trans hl.1.symm) hown (hts _ wd_9_17) (hts _ wd_8_9) (hts _ wd_8_10) (hts _ wd_8_11) hKW.1 hP hD hS 2 2 0 0 rfl rfl rfl rfl rfl (by decide) (by decide) (by decide) (by decide) (by decide) (fun _ _ => rfl) (Nat.le_of_ble_eq_true rfl) (Nat.le_of_ble_eq_true (by decide)) dX3_dropOldest_37 (fun H locs hP hD hS => ?_)
  have hP : va_P g.1 vwCl [(a 0, .inr (3, [.int 39, .ref (a 1), .ref (a 2), .ref (a 3)])), (a 1, .inl (gI g, 40, .inl f_1)), (a 2, .inl (gI g, 40, .inl (va_cpy f1 f1 1 0 39))), (a 3, .inl (gI g, 40, .inl f2))] H := hP
  have hD : va_D A [(a 0, .inr (3, [.int 39, .ref (a 1), .ref (a 2), .ref (a 3)])), (a 1, .inl (gI g, 40, .inl f_1)), (a 2, .inl (gI g, 40, .inl (va_cpy f1 f1 1 0 39))), (a 3, .inl (gI g, 40, .inl f2))] := hD
  obtain ⟨f_2, ef_2⟩ : ∃ zz_ : Nat → Int32, zz_ = va_cpy f1 f1 1 0 39 := ⟨_, rfl⟩
  rw [← ef_2] at hP hD
  refine lv_aload_n hx hb dX3_dropOldest_40 rfl (lv_at hl 0 rfl) ?_
  refine va_get (ci := 3) (C := RX3) (T := TX3) (N := 4) hx hb hts inlX3 hown hKW.1 hP 0 rfl rfl 3 (by decide) (hts _ wd_4_19) (fun _ h => h) rfl dX3_dropOldest_41 ?_
  refine lv_iconst (v := 1) hx hb dX3_dropOldest_44 (by decide) ?_
  refine lv_aload_n hx hb dX3_dropOldest_45 rfl (lv_at hl 0 rfl) ?_
  refine va_get (ci := 3) (C := RX3) (T := TX3) (N := 4) hx hb hts inlX3 hown hKW.1 hP 0 rfl rfl 3 (by decide) (hts _ wd_4_19) (fun _ h => h) rfl dX3_dropOldest_46 ?_
  refine lv_iconst (v := 0) hx hb dX3_dropOldest_49 (by decide) ?_
  refine lv_aload_n hx hb dX3_dropOldest_50 rfl (lv_at hl 0 rfl) ?_
  refine va_get (ci := 3) (C := RX3) (T := TX3) (N := 4) hx hb hts inlX3 hown hKW.1 hP 0 rfl rfl 0 (by decide) (hts _ wd_9_16) (fun _ h => h) rfl dX3_dropOldest_51 ?_
  refine va_copyi hx hb (hml.trans hl.1.symm) hown (hts _ wd_9_17) (hts _ wd_8_9) (hts _ wd_8_10) (hts _ wd_8_11) hKW.1 hP hD hS 3 3 0 0 rfl rfl rfl rfl rfl (by decide) (by decide) (by decide) (by decide) (by decide) (fun _ _ => rfl) (Nat.le_of_ble_eq_true rfl) (Nat.le_of_ble_eq_true (by decide)) dX3_dropOldest_54 (fun H locs hP hD hS => ?_)
  have hP : va_P g.1 vwCl [(a 0, .inr (3, [.int 39, .ref (a 1), .ref (a 2), .ref (a 3)])), (a 1, .inl (gI g, 40, .inl f_1)), (a 2, .inl (gI g, 40, .inl f_2)), (a 3, .inl (gI g, 40, .inl (va_cpy f2 f2 1 0 39)))] H := hP
  have hD : va_D A [(a 0, .inr (3, [.int 39, .ref (a 1), .ref (a 2), .ref (a 3)])), (a 1, .inl (gI g, 40, .inl f_1)), (a 2, .inl (gI g, 40, .inl f_2)), (a 3, .inl (gI g, 40, .inl (va_cpy f2 f2 1 0 39)))] := hD
  obtain ⟨f_3, ef_3⟩ : ∃ zz_ : Nat → Int32, zz_ = va_cpy f2 f2 1 0 39 := ⟨_, rfl⟩
  rw [← ef_3] at hP hD
  exact k_vret (f_1, f_2, f_3) [0, 1, 2, 3] hx hb hr hlk hP hD hS trivial rfl rfl rfl (Nat.le_of_ble_eq_true rfl) (Nat.le_of_ble_eq_true rfl) dX3_dropOldest_57
theorem dX3_lead_0 : decode cX3_lead 0 = .ok (.aload_n 0, 1) := by decide +kernel
theorem dX3_lead_1 : decode cX3_lead 1 = .ok (.getfield 21, 3) := by decide +kernel
theorem dX3_lead_4 : decode cX3_lead 4 = .ok (.bipush 40, 2) := by decide +kernel
theorem dX3_lead_6 : decode cX3_lead 6 = .ok (.if_icmp .lt 7, 3) := by decide +kernel
theorem dX3_lead_13 : decode cX3_lead 13 = .ok (.aload_n 0, 1) := by decide +kernel
theorem dX3_lead_14 : decode cX3_lead 14 = .ok (.getfield 9, 3) := by decide +kernel
theorem dX3_lead_17 : decode cX3_lead 17 = .ok (.aload_n 0, 1) := by decide +kernel
theorem dX3_lead_18 : decode cX3_lead 18 = .ok (.getfield 21, 3) := by decide +kernel
theorem dX3_lead_21 : decode cX3_lead 21 = .ok (.iload_n 1, 1) := by decide +kernel
theorem dX3_lead_22 : decode cX3_lead 22 = .ok (.iastore, 1) := by decide +kernel
theorem dX3_lead_23 : decode cX3_lead 23 = .ok (.aload_n 0, 1) := by decide +kernel
theorem dX3_lead_24 : decode cX3_lead 24 = .ok (.getfield 15, 3) := by decide +kernel
theorem dX3_lead_27 : decode cX3_lead 27 = .ok (.aload_n 0, 1) := by decide +kernel
theorem dX3_lead_28 : decode cX3_lead 28 = .ok (.getfield 21, 3) := by decide +kernel
theorem dX3_lead_31 : decode cX3_lead 31 = .ok (.iload_n 2, 1) := by decide +kernel
theorem dX3_lead_32 : decode cX3_lead 32 = .ok (.iastore, 1) := by decide +kernel
theorem dX3_lead_33 : decode cX3_lead 33 = .ok (.aload_n 0, 1) := by decide +kernel
theorem dX3_lead_34 : decode cX3_lead 34 = .ok (.getfield 18, 3) := by decide +kernel
theorem dX3_lead_37 : decode cX3_lead 37 = .ok (.aload_n 0, 1) := by decide +kernel
theorem dX3_lead_38 : decode cX3_lead 38 = .ok (.getfield 21, 3) := by decide +kernel
theorem dX3_lead_41 : decode cX3_lead 41 = .ok (.iload_n 3, 1) := by decide +kernel
theorem dX3_lead_42 : decode cX3_lead 42 = .ok (.iastore, 1) := by decide +kernel
theorem dX3_lead_43 : decode cX3_lead 43 = .ok (.aload_n 0, 1) := by decide +kernel
theorem dX3_lead_44 : decode cX3_lead 44 = .ok (.dup, 1) := by decide +kernel
theorem dX3_lead_45 : decode cX3_lead 45 = .ok (.getfield 21, 3) := by decide +kernel
theorem dX3_lead_48 : decode cX3_lead 48 = .ok (.iconst 1, 1) := by decide +kernel
theorem dX3_lead_49 : decode cX3_lead 49 = .ok (.iadd, 1) := by decide +kernel
theorem dX3_lead_50 : decode cX3_lead 50 = .ok (.putfield 21, 3) := by decide +kernel
theorem dX3_lead_53 : decode cX3_lead 53 = .ok (.return_, 1) := by decide +kernel
theorem dX3_lead_9 : decode cX3_lead 9 = .ok (.aload_n 0, 1) := by decide +kernel
theorem dX3_lead_10 : decode cX3_lead 10 = .ok (.invokevirtual 25, 3) := by decide +kernel
set_option maxHeartbeats 8000000 in
set_option maxRecDepth 100000 in
theorem c_X3_lead (l : Launch) (g : kG) (sz : Nat) (a : Nat → Nat) (cnt : Nat) (f0 : Nat → Int32) (f1 : Nat → Int32) (f2 : Nat → Int32) (x : Int32) (y : Int32) (z : Int32) (hc : cnt ≤ 40) : kMv l g yX3_lead cX3_lead 4 none 2 0 0 [.ref (a 0), .int x, .int y, .int z] sz [(a 0, .inr (3, [.int (nI cnt), .ref (a 1), .ref (a 2), .ref (a 3)])), (a 1, .inl (gI g, 40, .inl f0)), (a 2, .inl (gI g, 40, .inl f1)), (a 3, .inl (gI g, 40, .inl f2))] (fun (u : Nat × (Nat → Int32) × (Nat → Int32) × (Nat → Int32)) => u.1 ≤ 40) (fun (u : Nat × (Nat → Int32) × (Nat → Int32) × (Nat → Int32)) => ([(a 0, .inr (3, [.int (nI u.1), .ref (a 1), .ref (a 2), .ref (a 3)])), (a 1, .inl (gI g, 40, .inl u.2.1)), (a 2, .inl (gI g, 40, .inl u.2.2.1)), (a 3, .inl (gI g, 40, .inl u.2.2.2))] : va_W)) := by
  refine kMv.of (by decide) (Nat.le_of_ble_eq_true rfl) (fun p e s m below meth c A hx hb hr hml hown hts hlk hnm hKW hP hD hS hA ls hl => ?_)
  have hown : s.vm.findClass RX3 = some m.cls := hown
  have hl : lv_has ls 4 [(0, .ref (a 0)), (1, .int x), (2, .int y), (3, .int z)] := hl
  refine k_hide hP hS (fun H locs hP hS => ?_)
  refine lv_aload_n hx hb dX3_lead_0 rfl (lv_at hl 0 rfl) ?_
  refine va_get (ci := 3) (C := RX3) (T := TX3) (N := 4) hx hb hts inlX3 hown hKW.1 hP 0 rfl rfl 0 (by decide) (hts _ wd_9_16) (fun _ h => h) rfl dX3_lead_1 ?_
  refine lv_bipush (v := 40) hx hb dX3_lead_4 (by decide) ?_
  refine lv_icmp_lt (tgt := 13) hx hb dX3_lead_6 (by decide) (fun c_1 => ?_) (fun c_1 => ?_)
  · have c_1n : cnt < 40 := (k_ltI (a := cnt) (b := 40) (by omega) (by omega)).mp c_1
    refine lv_aload_n hx hb dX3_lead_13 rfl (lv_at hl 0 rfl) ?_
    refine va_get (ci := 3) (C := RX3) (T := TX3) (N := 4) hx hb hts inlX3 hown hKW.1 hP 0 rfl rfl 1 (by decide) (hts _ wd_4_17) (fun _ h => h) rfl dX3_lead_14 ?_
    refine lv_aload_n hx hb dX3_lead_17 rfl (lv_at hl 0 rfl) ?_
    refine va_get (ci := 3) (C := RX3) (T := TX3) (N := 4) hx hb hts inlX3 hown hKW.1 hP 0 rfl rfl 0 (by decide) (hts _ wd_9_16) (fun _ h => h) rfl dX3_lead_18 ?_
    refine lv_iload_n hx hb dX3_lead_21 rfl (lv_at hl 1 rfl) ?_
    refine va_iast hx hb hKW.1 hP hD hS 1 0 rfl rfl (vp_in_nI (by omega) (by decide)) dX3_lead_22 (fun H locs hP hD hS => ?_)
    have hP : va_P g.1 vwCl [(a 0, .inr (3, [.int (nI cnt), .ref (a 1), .ref (a 2), .ref (a 3)])), (a 1, .inl (gI g, 40, .inl (upd f0 (nI cnt).toNatClampNeg x))), (a 2, .inl (gI g, 40, .inl f1)), (a 3, .inl (gI g, 40, .inl f2))] H := hP
    have hD : va_D A [(a 0, .inr (3, [.int (nI cnt), .ref (a 1), .ref (a 2), .ref (a 3)])), (a 1, .inl (gI g, 40, .inl (upd f0 (nI cnt).toNatClampNeg x))), (a 2, .inl (gI g, 40, .inl f1)), (a 3, .inl (gI g, 40, .inl f2))] := hD
    obtain ⟨f_2, ef_2⟩ : ∃ zz_ : Nat → Int32, zz_ = upd f0 (nI cnt).toNatClampNeg x := ⟨_, rfl⟩
    rw [← ef_2] at hP hD
    refine lv_aload_n hx hb dX3_lead_23 rfl (lv_at hl 0 rfl) ?_
    refine va_get (ci := 3) (C := RX3) (T := TX3) (N := 4) hx hb hts inlX3 hown hKW.1 hP 0 rfl rfl 2 (by decide) (hts _ wd_4_18) (fun _ h => h) rfl dX3_lead_24 ?_
    refine lv_aload_n hx hb dX3_lead_27 rfl (lv_at hl 0 rfl) ?_
    refine va_get (ci := 3) (C := RX3) (T := TX3) (N := 4) hx hb hts inlX3 hown hKW.1 hP 0 rfl rfl 0 (by decide) (hts _ wd_9_16) (fun _ h => h) rfl dX3_lead_28 ?_
    refine lv_iload_n hx hb dX3_lead_31 rfl (lv_at hl 2 rfl) ?_
    refine va_iast hx hb hKW.1 hP hD hS 2 0 rfl rfl (vp_in_nI (by omega) (by decide)) dX3_lead_32 (fun H locs hP hD hS => ?_)
    have hP : va_P g.1 vwCl [(a 0, .inr (3, [.int (nI cnt), .ref (a 1), .ref (a 2), .ref (a 3)])), (a 1, .inl (gI g, 40, .inl f_2)), (a 2, .inl (gI g, 40, .inl (upd f1 (nI cnt).toNatClampNeg y))), (a 3, .inl (gI g, 40, .inl f2))] H := hP
    have hD : va_D A [(a 0, .inr (3, [.int (nI cnt), .ref (a 1), .ref (a 2), .ref (a 3)])), (a 1, .inl (gI g, 40, .inl f_2)), (a 2, .inl (gI g, 40, .inl (upd f1 (nI cnt).toNatClampNeg y))), (a 3, .inl (gI g, 40, .inl f2))] := hD
    obtain ⟨f_3, ef_3⟩ : ∃ zz_ : Nat → Int32, zz_ = upd f1 (nI cnt).toNatClampNeg y := ⟨_, rfl⟩
    rw [← ef_3] at hP hD
    refine lv_aload_n hx hb dX3_lead_33 rfl (lv_at hl 0 rfl) ?_
    refine va_get (ci := 3) (C := RX3) (T := TX3) (N := 4) hx hb hts inlX3 hown hKW.1 hP 0 rfl rfl 3 (by decide) (hts _ wd_4_19) (fun _ h => h) rfl dX3_lead_34 ?_
    refine lv_aload_n hx hb dX3_lead_37 rfl (lv_at hl 0 rfl) ?_
    refine va_get (ci := 3) (C := RX3) (T := TX3) (N := 4) hx hb hts inlX3 hown hKW.1 hP 0 rfl rfl 0 (by decide) (hts _ wd_9_16) (fun _ h => h) rfl dX3_lead_38 ?_
    refine lv_iload_n hx hb dX3_lead_41 rfl (lv_at hl 3 rfl) ?_
    refine va_iast hx hb hKW.1 hP hD hS 3 0 rfl rfl (vp_in_nI (by omega) (by decide)) dX3_lead_42 (fun H locs hP hD hS => ?_)
    have hP : va_P g.1 vwCl [(a 0, .inr (3, [.int (nI cnt), .ref (a 1), .ref (a 2), .ref (a 3)])), (a 1, .inl (gI g, 40, .inl f_2)), (a 2, .inl (gI g, 40, .inl f_3)), (a 3, .inl (gI g, 40, .inl (upd f2 (nI cnt).toNatClampNeg z)))] H := hP
    have hD : va_D A [(a 0, .inr (3, [.int (nI cnt), .ref (a 1), .ref (a 2), .ref (a 3)])), (a 1, .inl (gI g, 40, .inl f_2)), (a 2, .inl (gI g, 40, .inl f_3)), (a 3, .inl (gI g, 40, .inl (upd f2 (nI cnt).toNatClampNeg z)))] := hD
    obtain ⟨f_4, ef_4⟩ : ∃ zz_ : Nat → Int32, zz_ = upd f2 (nI cnt).toNatClampNeg z := ⟨_, rfl⟩
    rw [← ef_4] at hP hD
    refine lv_aload_n hx hb dX3_lead_43 rfl (lv_at hl 0 rfl) ?_
    refine lv_dup hx hb dX3_lead_44 rfl ?_
    refine va_get (ci := 3) (C := RX3) (T := TX3) (N := 4) hx hb hts inlX3 hown hKW.1 hP 0 rfl rfl 0 (by decide) (hts _ wd_9_16) (fun _ h => h) rfl dX3_lead_45 ?_
    refine lv_iconst (v := 1) hx hb dX3_lead_48 (by decide) ?_
    refine lv_iadd hx hb dX3_lead_49 ?_
    refine k_top (y := nI (cnt + 1)) (nI_add cnt 1) ?_
    refine va_put (ci := 3) (v := .int (nI (cnt + 1))) (C := RX3) (T := TX3) (N := 4) hx hb hts inlX3 tyX3 tyX3_ok nmX3 hown hKW.1 hP hD hS 0 rfl rfl 0 (by decide) (hts _ wd_9_16) (fun _ h => h) rfl (tyX3_ok 0 (by decide)) rfl rfl (Nat.le_of_ble_eq_true rfl) dX3_lead_50 (fun H locs hP hD hS => ?_)
    have hP : va_P g.1 vwCl [(a 0, .inr (3, [.int (nI (cnt + 1)), .ref (a 1), .ref (a 2), .ref (a 3)])), (a 1, .inl (gI g, 40, .inl f_2)), (a 2, .inl (gI g, 40, .inl f_3)), (a 3, .inl (gI g, 40, .inl f_4))] H := hP
    have hD : va_D A [(a 0, .inr (3, [.int (nI (cnt + 1)), .ref (a 1), .ref (a 2), .ref (a 3)])), (a 1, .inl (gI g, 40, .inl f_2)), (a 2, .inl (gI g, 40, .inl f_3)), (a 3, .inl (gI g, 40, .inl f_4))] := hD
    exact k_vret ((cnt + 1), f_2, f_3, f_4) [0, 1, 2, 3] hx hb hr hlk hP hD hS (by omega) rfl rfl rfl (Nat.le_of_ble_eq_true rfl) (Nat.le_of_ble_eq_true rfl) dX3_lead_53
  · have c_1n : 40 ≤ cnt := Nat.not_lt.mp (fun h => c_1 ((k_ltI (a := cnt) (b := 40) (by omega) (by omega)).mpr h))
    refine lv_aload_n hx hb dX3_lead_9 rfl (lv_at hl 0 rfl) ?_
    refine k_Vv [0, 1, 2, 3] [] 0 3 (wr := []) hx hb hml hown hts hKW hP hD hS hA hl.1 (c_X3_dropOldest l g _ a cnt f0 f1 f2 ) rfl rfl rfl wd_19_18 wd_3_5 wd_19_15 wd_19_16 wd_19_17 yd_X3_dropOldest ⟨(Nat.le_of_ble_eq_true rfl), (Nat.le_of_ble_eq_true rfl)⟩ rfl rfl rfl rfl (by decide) rfl (Nat.le_of_ble_eq_true rfl) dX3_lead_10 ⟨(Nat.le_of_ble_eq_true rfl), (Nat.le_of_ble_eq_true rfl)⟩ (fun u_6 H locs hw_7 hP hD hS => ?_)
    obtain ⟨f_8, f_9, f_10⟩ := u_6
    have hP : va_P g.1 vwCl [(a 0, .inr (3, [.int 39, .ref (a 1), .ref (a 2), .ref (a 3)])), (a 1, .inl (gI g, 40, .inl f_8)), (a 2, .inl (gI g, 40, .inl f_9)), (a 3, .inl (gI g, 40, .inl f_10))] H := hP
    have hD : va_D A [(a 0, .inr (3, [.int 39, .ref (a 1), .ref (a 2), .ref (a 3)])), (a 1, .inl (gI g, 40, .inl f_8)), (a 2, .inl (gI g, 40, .inl f_9)), (a 3, .inl (gI g, 40, .inl f_10))] := hD
    refine lv_aload_n hx hb dX3_lead_13 rfl (lv_at hl 0 rfl) ?_
    refine va_get (ci := 3) (C := RX3) (T := TX3) (N := 4) hx hb hts inlX3 hown hKW.1 hP 0 rfl rfl 1 (by decide) (hts _ wd_4_17) (fun _ h => h) rfl dX3_lead_14 ?_
    refine lv_aload_n hx hb dX3_lead_17 rfl (lv_at hl 0 rfl) ?_
    refine va_get (ci := 3) (C := RX3) (T := TX3) (N := 4) hx hb hts inlX3 hown hKW.1 hP 0 rfl rfl 0 (by decide) (hts _ wd_9_16) (fun _ h => h) rfl dX3_lead_18 ?_
    refine lv_iload_n hx hb dX3_lead_21 rfl (lv_at hl 1 rfl) ?_
    refine va_iast hx hb hKW.1 hP hD hS 1 0 rfl rfl (show ¬ _ by decide) dX3_lead_22 (fun H locs hP hD hS => ?_)
    have hP : va_P g.1 vwCl [(a 0, .inr (3, [.int 39, .ref (a 1), .ref (a 2), .ref (a 3)])), (a 1, .inl (gI g, 40, .inl (upd f_8 39 x))), (a 2, .inl (gI g, 40, .inl f_9)), (a 3, .inl (gI g, 40, .inl f_10))] H := hP
    have hD : va_D A [(a 0, .inr (3, [.int 39, .ref (a 1), .ref (a 2), .ref (a 3)])), (a 1, .inl (gI g, 40, .inl (upd f_8 39 x))), (a 2, .inl (gI g, 40, .inl f_9)), (a 3, .inl (gI g, 40, .inl f_10))] := hD
    obtain ⟨f_11, ef_11⟩ : ∃ zz_ : Nat → Int32, zz_ = upd f_8 39 x := ⟨_, rfl⟩
    rw [← ef_11] at hP hD
    refine lv_aload_n hx hb dX3_lead_23 rfl (lv_at hl 0 rfl) ?_
    refine va_get (ci := 3) (C := RX3) (T := TX3) (N := 4) hx hb hts inlX3 hown hKW.1 hP 0 rfl rfl 2 (by decide) (hts _ wd_4_18) (fun _ h => h) rfl dX3_lead_24 ?_
    refine lv_aload_n hx hb dX3_lead_27 rfl (lv_at hl 0 rfl) ?_
    refine va_get (ci := 3) (C := RX3) (T := TX3) (N := 4) hx hb hts inlX3 hown hKW.1 hP 0 rfl rfl 0 (by decide) (hts _ wd_9_16) (fun _ h => h) rfl dX3_lead_28 ?_
    refine lv_iload_n hx hb dX3_lead_31 rfl (lv_at hl 2 rfl) ?_
    refine va_iast hx hb hKW.1 hP hD hS 2 0 rfl rfl (show ¬ _ by decide) dX3_lead_32 (fun H locs hP hD hS => ?_)
    have hP : va_P g.1 vwCl [(a 0, .inr (3, [.int 39, .ref (a 1), .ref (a 2), .ref (a 3)])), (a 1, .inl (gI g, 40, .inl f_11)), (a 2, .inl (gI g, 40, .inl (upd f_9 39 y))), (a 3, .inl (gI g, 40, .inl f_10))] H := hP
    have hD : va_D A [(a 0, .inr (3, [.int 39, .ref (a 1), .ref (a 2), .ref (a 3)])), (a 1, .inl (gI g, 40, .inl f_11)), (a 2, .inl (gI g, 40, .inl (upd f_9 39 y))), (a 3, .inl (gI g, 40, .inl f_10))] := hD
    obtain ⟨f_12, ef_12⟩ : ∃ zz_ : Nat → Int32, zz_ = upd f_9 39 y := ⟨_, rfl⟩
    rw [← ef_12] at hP hD
    refine lv_aload_n hx hb dX3_lead_33 rfl (lv_at hl 0 rfl) ?_
    refine va_get (ci := 3) (C := RX3) (T := TX3) (N := 4) hx hb hts inlX3 hown hKW.1 hP 0 rfl rfl 3 (by decide) (hts _ wd_4_19) (fun _ h => h) rfl dX3_lead_34 ?_
    refine lv_aload_n hx hb dX3_lead_37 rfl (lv_at hl 0 rfl) ?_
    refine va_get (ci := 3) (C := RX3) (T := TX3) (N := 4) hx hb hts inlX3 hown hKW.1 hP 0 rfl rfl 0 (by decide) (hts _ wd_9_16) (fun _ h => h) rfl dX3_lead_38 ?_
    refine lv_iload_n hx hb dX3_lead_41 rfl (lv_at hl 3 rfl) ?_
    refine va_iast hx hb hKW.1 hP hD hS 3 0 rfl rfl (show ¬ _ by decide) dX3_lead_42 (fun H locs hP hD hS => ?_)
    have hP : va_P g.1 vwCl [(a 0, .inr (3, [.int 39, .ref (a 1), .ref (a 2), .ref (a 3)])), (a 1, .inl (gI g, 40, .inl f_11)), (a 2, .inl (gI g, 40, .inl f_12)), (a 3, .inl (gI g, 40, .inl (upd f_10 39 z)))] H := hP
    have hD : va_D A [(a 0, .inr (3, [.int 39, .ref (a 1), .ref (a 2), .ref (a 3)])), (a 1, .inl (gI g, 40, .inl f_11)), (a 2, .inl (gI g, 40, .inl f_12)), (a 3, .inl (gI g, 40, .inl (upd f_10 39 z)))] := hD
    obtain ⟨f_13, ef_13⟩ : ∃ zz_ : Nat → Int32, zz_ = upd f_10 39 z := ⟨_, rfl⟩
    rw [← ef_13] at hP hD
    refine lv_aload_n hx hb dX3_lead_43 rfl (lv_at hl 0 rfl) ?_
    refine lv_dup hx hb dX3_lead_44 rfl ?_
    refine va_get (ci := 3) (C := RX3) (T := TX3) (N := 4) hx hb hts inlX3 hown hKW.1 hP 0 rfl rfl 0 (by decide) (hts _ wd_9_16) (fun _ h => h) rfl dX3_lead_45 ?_
    refine lv_iconst (v := 1) hx hb dX3_lead_48 (by decide) ?_
    refine lv_iadd hx hb dX3_lead_49 ?_
    refine k_top (y := 40) (by decide) ?_
    refine va_put (ci := 3) (v := .int 40) (C := RX3) (T := TX3) (N := 4) hx hb hts inlX3 tyX3 tyX3_ok nmX3 hown hKW.1 hP hD hS 0 rfl rfl 0 (by decide) (hts _ wd_9_16) (fun _ h => h) rfl (tyX3_ok 0 (by decide)) rfl rfl (Nat.le_of_ble_eq_true rfl) dX3_lead_50 (fun H locs hP hD hS => ?_)
    have hP : va_P g.1 vwCl [(a 0, .inr (3, [.int 40, .ref (a 1), .ref (a 2), .ref (a 3)])), (a 1, .inl (gI g, 40, .inl f_11)), (a 2, .inl (gI g, 40, .inl f_12)), (a 3, .inl (gI g, 40, .inl f_13))] H := hP
    have hD : va_D A [(a 0, .inr (3, [.int 40, .ref (a 1), .ref (a 2), .ref (a 3)])), (a 1, .inl (gI g, 40, .inl f_11)), (a 2, .inl (gI g, 40, .inl f_12)), (a 3, .inl (gI g, 40, .inl f_13))] := hD
    exact k_vret (40, f_11, f_12, f_13) [0, 1, 2, 3] hx hb hr hlk hP hD hS (by omega) rfl rfl rfl (Nat.le_of_ble_eq_true rfl) (Nat.le_of_ble_eq_true rfl) dX3_lead_53
theorem dX3_countOf_0 : decode cX3_countOf 0 = .ok (.iconst 0, 1) := by decide +kernel
theorem dX3_countOf_1 : decode cX3_countOf 1 = .ok (.istore_n 2, 1) := by decide +kernel
theorem dX3_countOf_2 : decode cX3_countOf 2 = .ok (.iconst 0, 1) := by decide +kernel
theorem dX3_countOf_3 : decode cX3_countOf 3 = .ok (.istore_n 3, 1) := by decide +kernel
theorem dX3_countOf_4 : decode cX3_countOf 4 = .ok (.iload_n 3, 1) := by decide +kernel
theorem dX3_countOf_5 : decode cX3_countOf 5 = .ok (.aload_n 0, 1) := by decide +kernel
theorem dX3_countOf_6 : decode cX3_countOf 6 = .ok (.getfield 21, 3) := by decide +kernel
theorem dX3_countOf_9 : decode cX3_countOf 9 = .ok (.if_icmp .ge 30, 3) := by decide +kernel
theorem dX3_countOf_39 : decode cX3_countOf 39 = .ok (.iload_n 2, 1) := by decide +kernel
theorem dX3_countOf_40 : decode cX3_countOf 40 = .ok (.ireturn, 1) := by decide +kernel
theorem dX3_countOf_12 : decode cX3_countOf 12 = .ok (.iload_n 2, 1) := by decide +kernel
theorem dX3_countOf_13 : decode cX3_countOf 13 = .ok (.aload_n 0, 1) := by decide +kernel
theorem dX3_countOf_14 : decode cX3_countOf 14 = .ok (.getfield 18, 3) := by decide +kernel
theorem dX3_countOf_17 : decode cX3_countOf 17 = .ok (.iload_n 3, 1) := by decide +kernel
theorem dX3_countOf_18 : decode cX3_countOf 18 = .ok (.iaload, 1) := by decide +kernel
theorem dX3_countOf_19 : decode cX3_countOf 19 = .ok (.iload_n 1, 1) := by decide +kernel
theorem dX3_countOf_20 : decode cX3_countOf 20 = .ok (.if_icmp .ne 7, 3) := by decide +kernel
theorem dX3_countOf_27 : decode cX3_countOf 27 = .ok (.iconst 0, 1) := by decide +kernel
theorem dX3_countOf_28 : decode cX3_countOf 28 = .ok (.invokestatic 34, 3) := by decide +kernel
theorem dX3_countOf_31 : decode cX3_countOf 31 = .ok (.iadd, 1) := by decide +kernel
theorem dX3_countOf_32 : decode cX3_countOf 32 = .ok (.istore_n 2, 1) := by decide +kernel
theorem dX3_countOf_33 : decode cX3_countOf 33 = .ok (.iinc 3 1, 3) := by decide +kernel
theorem dX3_countOf_36 : decode cX3_countOf 36 = .ok (.goto (-32), 3) := by decide +kernel
theorem dX3_countOf_23 : decode cX3_countOf 23 = .ok (.iconst 1, 1) := by decide +kernel
theorem dX3_countOf_24 : decode cX3_countOf 24 = .ok (.goto 4, 3) := by decide +kernel
set_option maxHeartbeats 8000000 in
set_option maxRecDepth 100000 in
theorem c_X3_countOf (l : Launch) (g : kG) (sz : Nat) (a : Nat → Nat) (cnt : Nat) (f0 : Nat → Int32) (f1 : Nat → Int32) (f2 : Nat → Int32) (x : Int32) (hc : cnt ≤ 40) : kMi l g yX3_countOf cX3_countOf 4 (some .int) 2 0 0 [.ref (a 0), .int x] sz [(a 0, .inr (3, [.int (nI cnt), .ref (a 1), .ref (a 2), .ref (a 3)])), (a 1, .inl (gI g, 40, .inl f0)), (a 2, .inl (gI g, 40, .inl f1)), (a 3, .inl (gI g, 40, .inl f2))] (fun (r : Int32) (u : Unit) => True) (fun (u : Unit) => ([(a 0, .inr (3, [.int (nI cnt), .ref (a 1), .ref (a 2), .ref (a 3)])), (a 1, .inl (gI g, 40, .inl f0)), (a 2, .inl (gI g, 40, .inl f1)), (a 3, .inl (gI g, 40, .inl f2))] : va_W)) := by
  refine kMi.of (by decide) (Nat.le_of_ble_eq_true rfl) (fun p e s m below meth c A hx hb hr hml hown hts hlk hnm hKW hP hD hS hA ls hl => ?_)
  have hown : s.vm.findClass RX3 = some m.cls := hown
  have hl : lv_has ls 4 [(0, .ref (a 0)), (1, .int x)] := hl
  refine k_hide hP hS (fun H locs hP hS => ?_)
  refine lv_iconst (v := 0) hx hb dX3_countOf_0 (by decide) ?_
  refine lv_istore_n (lv' := [(2, .int 0), (0, .ref (a 0)), (1, .int x)]) hx hb dX3_countOf_1 rfl hl (by decide) rfl (fun ls hl => ?_)
  refine lv_iconst (v := 0) hx hb dX3_countOf_2 (by decide) ?_
  refine lv_istore_n (lv' := [(3, .int 0), (2, .int 0), (0, .ref (a 0)), (1, .int x)]) hx hb dX3_countOf_3 rfl hl (by decide) rfl (fun ls hl => ?_)
  have L4 : ∀ (n4 : Nat) (i : Nat) (x2 : Int32) (hfuel4 : cnt - i < n4) (hi : i ≤ cnt) (H : Heap) (locs : List Loc) (hP : va_P g.1 vwCl [(a 0, .inr (3, [.int (nI cnt), .ref (a 1), .ref (a 2), .ref (a 3)])), (a 1, .inl (gI g, 40, .inl f0)), (a 2, .inl (gI g, 40, .inl f1)), (a 3, .inl (gI g, 40, .inl f2))] H) (hD : va_D A [(a 0, .inr (3, [.int (nI cnt), .ref (a 1), .ref (a 2), .ref (a 3)])), (a 1, .inl (gI g, 40, .inl f0)), (a 2, .inl (gI g, 40, .inl f1)), (a 3, .inl (gI g, 40, .inl f2))]) (hS : va_S A s.heap H locs) (ls : Array Slot) (hl : lv_has ls 4 [(3, .int (nI i)), (2, .int x2), (0, .ref (a 0)), (1, .int x)]), W p l e (kR 2 0 0) s m ([.ref (a 0), .int x] : List Value).toArray below meth c H locs 0 0 (kQi g A below ([.ref (a 0), .int x] : List Value).toArray s 0 0 (fun (r : Int32) (u : Unit) => True) (fun (u : Unit) => ([(a 0, .inr (3, [.int (nI cnt), .ref (a 1), .ref (a 2), .ref (a 3)])), (a 1, .inl (gI g, 40, .inl f0)), (a 2, .inl (gI g, 40, .inl f1)), (a 3, .inl (gI g, 40, .inl f2))] : va_W))) (F0 m 4 ls []) := by
    intro n4
    induction n4 with
    | zero => intro i x2 hfuel4; exact absurd hfuel4 (Nat.not_lt_zero _)
    | succ n4 ih4 =>
      intro i x2 hfuel4 hi H locs hP hD hS ls hl
      refine lv_iload_n hx hb dX3_countOf_4 rfl (lv_at hl 0 rfl) ?_
      refine lv_aload_n hx hb dX3_countOf_5 rfl (lv_at hl 2 rfl) ?_
      refine va_get (ci := 3) (C := RX3) (T := TX3) (N := 4) hx hb hts inlX3 hown hKW.1 hP 0 rfl rfl 0 (by decide) (hts _ wd_9_16) (fun _ h => h) rfl dX3_countOf_6 ?_
      refine lv_icmp_ge (tgt := 39) hx hb dX3_countOf_9 (by decide) (fun c_1 => ?_) (fun c_1 => ?_)
      · have c_1n : cnt ≤ i := (k_leI (a := cnt) (b := i) (by omega) (by omega)).mp c_1
        refine lv_iload_n hx hb dX3_countOf_39 rfl (lv_at hl 1 rfl) ?_
        exact k_iret () [0, 1, 2, 3] hx hb hr hlk hP hD hS trivial rfl rfl rfl (Nat.le_of_ble_eq_true rfl) (Nat.le_of_ble_eq_true rfl) dX3_countOf_40
      · have c_1n : i < cnt := Nat.not_le.mp (fun h => c_1 ((k_leI (a := cnt) (b := i) (by omega) (by omega)).mpr h))
        refine lv_iload_n hx hb dX3_countOf_12 rfl (lv_at hl 1 rfl) ?_
        refine lv_aload_n hx hb dX3_countOf_13 rfl (lv_at hl 2 rfl) ?_
        refine va_get (ci := 3) (C := RX3) (T := TX3) (N := 4) hx hb hts inlX3 hown hKW.1 hP 0 rfl rfl 3 (by decide) (hts _ wd_4_19) (fun _ h => h) rfl dX3_countOf_14 ?_
        refine lv_iload_n hx hb dX3_countOf_17 rfl (lv_at hl 0 rfl) ?_
        refine va_iald hx hb hKW.1 hP 3 0 rfl rfl (vp_in_nI (by omega) (by decide)) dX3_countOf_18 ?_
        refine lv_topi (fun x_2 ex_2 => ?_)
        refine lv_iload_n hx hb dX3_countOf_19 rfl (lv_at hl 3 rfl) ?_
        refine lv_icmp_ne (tgt := 27) hx hb dX3_countOf_20 (by decide) (fun c_3 => ?_) (fun c_3 => ?_)
        · refine lv_iconst (v := 0) hx hb dX3_countOf_27 (by decide) ?_
          refine k_SNi [] [0, 1, 2, 3] (wr := [(a 0, .inr (3, [.int (nI cnt), .ref (a 1), .ref (a 2), .ref (a 3)])), (a 1, .inl (gI g, 40, .inl f0)), (a 2, .inl (gI g, 40, .inl f1)), (a 3, .inl (gI g, 40, .inl f2))]) hx hb hml hown hts hKW hP hD hS hA hl.1 (c_X11_oneIf l g _ 0 ) wd_14_14 wd_1_2 nw_23 wd_14_13 yd_X11_oneIf ⟨(Nat.le_of_ble_eq_true rfl), (Nat.le_of_ble_eq_true rfl)⟩ rfl rfl rfl rfl (by decide) rfl (Nat.le_of_ble_eq_true rfl) dX3_countOf_28 ⟨(Nat.le_of_ble_eq_true rfl), (Nat.le_of_ble_eq_true rfl)⟩ (fun r_4 u_5 H locs hw_6 hP hD hS => ?_)
          have hP : va_P g.1 vwCl [(a 0, .inr (3, [.int (nI cnt), .ref (a 1), .ref (a 2), .ref (a 3)])), (a 1, .inl (gI g, 40, .inl f0)), (a 2, .inl (gI g, 40, .inl f1)), (a 3, .inl (gI g, 40, .inl f2))] H := hP
          have hD : va_D A [(a 0, .inr (3, [.int (nI cnt), .ref (a 1), .ref (a 2), .ref (a 3)])), (a 1, .inl (gI g, 40, .inl f0)), (a 2, .inl (gI g, 40, .inl f1)), (a 3, .inl (gI g, 40, .inl f2))] := hD
          refine lv_iadd hx hb dX3_countOf_31 ?_
          refine lv_topi (fun x_7 ex_7 => ?_)
          refine lv_istore_n (lv' := [(2, .int x_7), (3, .int (nI i)), (0, .ref (a 0)), (1, .int x)]) hx hb dX3_countOf_32 rfl hl (by decide) rfl (fun ls hl => ?_)
          refine lv_iinc (v := nI (i + 1)) (lv' := [(3, .int (nI (i + 1))), (2, .int x_7), (0, .ref (a 0)), (1, .int x)]) hx hb dX3_countOf_33 hl (k := 1) rfl (nI_add i 1) (by decide) rfl (fun ls hl => ?_)
          refine lv_goto (tgt := 4) hx hb dX3_countOf_36 (by decide) ?_
          exact ih4 (i + 1) x_7 (by omega) (by first | assumption | omega) H locs (hP.sub [0, 1, 2, 3] rfl) (hD.sub [0, 1, 2, 3] (by decide) rfl) hS ls (lv_sub hl [0, 1, 2, 3] rfl)
        · refine lv_iconst (v := 1) hx hb dX3_countOf_23 (by decide) ?_
          refine lv_goto (tgt := 28) hx hb dX3_countOf_24 (by decide) ?_
          refine k_SNi [] [0, 1, 2, 3] (wr := [(a 0, .inr (3, [.int (nI cnt), .ref (a 1), .ref (a 2), .ref (a 3)])), (a 1, .inl (gI g, 40, .inl f0)), (a 2, .inl (gI g, 40, .inl f1)), (a 3, .inl (gI g, 40, .inl f2))]) hx hb hml hown hts hKW hP hD hS hA hl.1 (c_X11_oneIf l g _ 1 ) wd_14_14 wd_1_2 nw_23 wd_14_13 yd_X11_oneIf ⟨(Nat.le_of_ble_eq_true rfl), (Nat.le_of_ble_eq_true rfl)⟩ rfl rfl rfl rfl (by decide) rfl (Nat.le_of_ble_eq_true rfl) dX3_countOf_28 ⟨(Nat.le_of_ble_eq_true rfl), (Nat.le_of_ble_eq_true rfl)⟩ (fun r_8 u_9 H locs hw_10 hP hD hS => ?_)
          have hP : va_P g.1 vwCl [(a 0, .inr (3, [.int (nI cnt), .ref (a 1), .ref (a 2), .ref (a 3)])), (a 1, .inl (gI g, 40, .inl f0)), (a 2, .inl (gI g, 40, .inl f1)), (a 3, .inl (gI g, 40, .inl f2))] H := hP
          have hD : va_D A [(a 0, .inr (3, [.int (nI cnt), .ref (a 1), .ref (a 2), .ref (a 3)])), (a 1, .inl (gI g, 40, .inl f0)), (a 2, .inl (gI g, 40, .inl f1)), (a 3, .inl (gI g, 40, .inl f2))] := hD
          refine lv_iadd hx hb dX3_countOf_31 ?_
          refine lv_topi (fun x_11 ex_11 => ?_)
          refine lv_istore_n (lv' := [(2, .int x_11), (3, .int (nI i)), (0, .ref (a 0)), (1, .int x)]) hx hb dX3_countOf_32 rfl hl (by decide) rfl (fun ls hl => ?_)
          refine lv_iinc (v := nI (i + 1)) (lv' := [(3, .int (nI (i + 1))), (2, .int x_11), (0, .ref (a 0)), (1, .int x)]) hx hb dX3_countOf_33 hl (k := 1) rfl (nI_add i 1) (by decide) rfl (fun ls hl => ?_)
          refine lv_goto (tgt := 4) hx hb dX3_countOf_36 (by decide) ?_
          exact ih4 (i + 1) x_11 (by omega) (by first | assumption | omega) H locs (hP.sub [0, 1, 2, 3] rfl) (hD.sub [0, 1, 2, 3] (by decide) rfl) hS ls (lv_sub hl [0, 1, 2, 3] rfl)
  exact L4 (cnt - 0 + 1) 0 0 (Nat.lt_succ_self _) (by first | assumption | omega) H locs (hP.sub [0, 1, 2, 3] rfl) (hD.sub [0, 1, 2, 3] (by decide) rfl) hS ls (lv_sub hl [0, 1, 2, 3] rfl)
theorem dX3_wasIn_0 : decode cX3_wasIn 0 = .ok (.iconst 0, 1) := by decide +kernel
theorem dX3_wasIn_1 : decode cX3_wasIn 1 = .ok (.istore_n 3, 1) := by decide +kernel
theorem dX3_wasIn_2 : decode cX3_wasIn 2 = .ok (.iconst 0, 1) := by decide +kernel
theorem dX3_wasIn_3 : decode cX3_wasIn 3 = .ok (.istore 4, 2) := by decide +kernel
theorem dX3_wasIn_5 : decode cX3_wasIn 5 = .ok (.iload 4, 2) := by decide +kernel
theorem dX3_wasIn_7 : decode cX3_wasIn 7 = .ok (.aload_n 0, 1) := by decide +kernel
theorem dX3_wasIn_8 : decode cX3_wasIn 8 = .ok (.getfield 21, 3) := by decide +kernel
theorem dX3_wasIn_11 : decode cX3_wasIn 11 = .ok (.if_icmp .ge 48, 3) := by decide +kernel
theorem dX3_wasIn_59 : decode cX3_wasIn 59 = .ok (.iload_n 3, 1) := by decide +kernel
theorem dX3_wasIn_60 : decode cX3_wasIn 60 = .ok (.ireturn, 1) := by decide +kernel
theorem dX3_wasIn_14 : decode cX3_wasIn 14 = .ok (.aload_n 0, 1) := by decide +kernel
theorem dX3_wasIn_15 : decode cX3_wasIn 15 = .ok (.getfield 15, 3) := by decide +kernel
theorem dX3_wasIn_18 : decode cX3_wasIn 18 = .ok (.iload 4, 2) := by decide +kernel
theorem dX3_wasIn_20 : decode cX3_wasIn 20 = .ok (.iaload, 1) := by decide +kernel
theorem dX3_wasIn_21 : decode cX3_wasIn 21 = .ok (.iload_n 1, 1) := by decide +kernel
theorem dX3_wasIn_22 : decode cX3_wasIn 22 = .ok (.if_icmp .ne 31, 3) := by decide +kernel
theorem dX3_wasIn_53 : decode cX3_wasIn 53 = .ok (.iinc 4 1, 3) := by decide +kernel
theorem dX3_wasIn_56 : decode cX3_wasIn 56 = .ok (.goto (-51), 3) := by decide +kernel
theorem dX3_wasIn_25 : decode cX3_wasIn 25 = .ok (.aload_n 0, 1) := by decide +kernel
theorem dX3_wasIn_26 : decode cX3_wasIn 26 = .ok (.getfield 9, 3) := by decide +kernel
theorem dX3_wasIn_29 : decode cX3_wasIn 29 = .ok (.iload 4, 2) := by decide +kernel
theorem dX3_wasIn_31 : decode cX3_wasIn 31 = .ok (.iaload, 1) := by decide +kernel
theorem dX3_wasIn_32 : decode cX3_wasIn 32 = .ok (.iload_n 2, 1) := by decide +kernel
theorem dX3_wasIn_33 : decode cX3_wasIn 33 = .ok (.if_icmp .gt 20, 3) := by decide +kernel
theorem dX3_wasIn_36 : decode cX3_wasIn 36 = .ok (.aload_n 0, 1) := by decide +kernel
theorem dX3_wasIn_37 : decode cX3_wasIn 37 = .ok (.getfield 18, 3) := by decide +kernel
theorem dX3_wasIn_40 : decode cX3_wasIn 40 = .ok (.iload 4, 2) := by decide +kernel
theorem dX3_wasIn_42 : decode cX3_wasIn 42 = .ok (.iaload, 1) := by decide +kernel
theorem dX3_wasIn_43 : decode cX3_wasIn 43 = .ok (.iconst 1, 1) := by decide +kernel
theorem dX3_wasIn_44 : decode cX3_wasIn 44 = .ok (.if_icmp .ne 7, 3) := by decide +kernel
theorem dX3_wasIn_51 : decode cX3_wasIn 51 = .ok (.iconst 0, 1) := by decide +kernel
theorem dX3_wasIn_52 : decode cX3_wasIn 52 = .ok (.istore_n 3, 1) := by decide +kernel
theorem dX3_wasIn_47 : decode cX3_wasIn 47 = .ok (.iconst 1, 1) := by decide +kernel
theorem dX3_wasIn_48 : decode cX3_wasIn 48 = .ok (.goto 4, 3) := by decide +kernel
set_option maxHeartbeats 8000000 in
set_option maxRecDepth 100000 in
theorem c_X3_wasIn (l : Launch) (g : kG) (sz : Nat) (a : Nat → Nat) (cnt : Nat) (f0 : Nat → Int32) (f1 : Nat → Int32) (f2 : Nat → Int32) (x : Int32) (y : Int32) (hc : cnt ≤ 40) : kMi l g yX3_wasIn cX3_wasIn 5 (some .boolean) 1 0 0 [.ref (a 0), .int x, .int y] sz [(a 0, .inr (3, [.int (nI cnt), .ref (a 1), .ref (a 2), .ref (a 3)])), (a 1, .inl (gI g, 40, .inl f0)), (a 2, .inl (gI g, 40, .inl f1)), (a 3, .inl (gI g, 40, .inl f2))] (fun (r : Int32) (u : Unit) => r = 1 ∨ r = 0) (fun (u : Unit) => ([(a 0, .inr (3, [.int (nI cnt), .ref (a 1), .ref (a 2), .ref (a 3)])), (a 1, .inl (gI g, 40, .inl f0)), (a 2, .inl (gI g, 40, .inl f1)), (a 3, .inl (gI g, 40, .inl f2))] : va_W)) := by
  refine kMi.of (by decide) (Nat.le_of_ble_eq_true rfl) (fun p e s m below meth c A hx hb hr hml hown hts hlk hnm hKW hP hD hS hA ls hl => ?_)
  have hown : s.vm.findClass RX3 = some m.cls := hown
  have hl : lv_has ls 5 [(0, .ref (a 0)), (1, .int x), (2, .int y)] := hl
  refine k_hide hP hS (fun H locs hP hS => ?_)
  refine lv_iconst (v := 0) hx hb dX3_wasIn_0 (by decide) ?_
  refine lv_istore_n (lv' := [(3, .int 0), (0, .ref (a 0)), (1, .int x), (2, .int y)]) hx hb dX3_wasIn_1 rfl hl (by decide) rfl (fun ls hl => ?_)
  refine lv_iconst (v := 0) hx hb dX3_wasIn_2 (by decide) ?_
  refine lv_istore (lv' := [(4, .int 0), (3, .int 0), (0, .ref (a 0)), (1, .int x), (2, .int y)]) hx hb dX3_wasIn_3 hl (by decide) rfl (fun ls hl => ?_)
  have L5 : ∀ (n5 : Nat) (i : Nat) (x3 : Int32) (hfuel5 : cnt - i < n5) (hi : i ≤ cnt) (h01 : x3 = 1 ∨ x3 = 0) (H : Heap) (locs : List Loc) (hP : va_P g.1 vwCl [(a 0, .inr (3, [.int (nI cnt), .ref (a 1), .ref (a 2), .ref (a 3)])), (a 1, .inl (gI g, 40, .inl f0)), (a 2, .inl (gI g, 40, .inl f1)), (a 3, .inl (gI g, 40, .inl f2))] H) (hD : va_D A [(a 0, .inr (3, [.int (nI cnt), .ref (a 1), .ref (a 2), .ref (a 3)])), (a 1, .inl (gI g, 40, .inl f0)), (a 2, .inl (gI g, 40, .inl f1)), (a 3, .inl (gI g, 40, .inl f2))]) (hS : va_S A s.heap H locs) (ls : Array Slot) (hl : lv_has ls 5 [(4, .int (nI i)), (3, .int x3), (0, .ref (a 0)), (1, .int x), (2, .int y)]), W p l e (kR 1 0 0) s m ([.ref (a 0), .int x, .int y] : List Value).toArray below meth c H locs 0 0 (kQi g A below ([.ref (a 0), .int x, .int y] : List Value).toArray s 0 0 (fun (r : Int32) (u : Unit) => r = 1 ∨ r = 0) (fun (u : Unit) => ([(a 0, .inr (3, [.int (nI cnt), .ref (a 1), .ref (a 2), .ref (a 3)])), (a 1, .inl (gI g, 40, .inl f0)), (a 2, .inl (gI g, 40, .inl f1)), (a 3, .inl (gI g, 40, .inl f2))] : va_W))) (F0 m 5 ls []) := by
    intro n5
    induction n5 with
    | zero => intro i x3 hfuel5; exact absurd hfuel5 (Nat.not_lt_zero _)
    | succ n5 ih5 =>
      intro i x3 hfuel5 hi h01 H locs hP hD hS ls hl
      refine lv_iload hx hb dX3_wasIn_5 (lv_at hl 0 rfl) ?_
      refine lv_aload_n hx hb dX3_wasIn_7 rfl (lv_at hl 2 rfl) ?_
      refine va_get (ci := 3) (C := RX3) (T := TX3) (N := 4) hx hb hts inlX3 hown hKW.1 hP 0 rfl rfl 0 (by decide) (hts _ wd_9_16) (fun _ h => h) rfl dX3_wasIn_8 ?_
      refine lv_icmp_ge (tgt := 59) hx hb dX3_wasIn_11 (by decide) (fun c_1 => ?_) (fun c_1 => ?_)
      · have c_1n : cnt ≤ i := (k_leI (a := cnt) (b := i) (by omega) (by omega)).mp c_1
        rcases h01 with rfl | rfl
        · skip
          refine lv_iload_n hx hb dX3_wasIn_59 rfl (lv_at hl 1 rfl) ?_
          exact k_zret () [0, 1, 2, 3] hx hb hr hlk hP hD hS (Or.inl rfl) rfl rfl rfl rfl (Nat.le_of_ble_eq_true rfl) (Nat.le_of_ble_eq_true rfl) dX3_wasIn_60
        · skip
          refine lv_iload_n hx hb dX3_wasIn_59 rfl (lv_at hl 1 rfl) ?_
          exact k_zret () [0, 1, 2, 3] hx hb hr hlk hP hD hS (Or.inr rfl) rfl rfl rfl rfl (Nat.le_of_ble_eq_true rfl) (Nat.le_of_ble_eq_true rfl) dX3_wasIn_60
      · have c_1n : i < cnt := Nat.not_le.mp (fun h => c_1 ((k_leI (a := cnt) (b := i) (by omega) (by omega)).mpr h))
        refine lv_aload_n hx hb dX3_wasIn_14 rfl (lv_at hl 2 rfl) ?_
        refine va_get (ci := 3) (C := RX3) (T := TX3) (N := 4) hx hb hts inlX3 hown hKW.1 hP 0 rfl rfl 2 (by decide) (hts _ wd_4_18) (fun _ h => h) rfl dX3_wasIn_15 ?_
        refine lv_iload hx hb dX3_wasIn_18 (lv_at hl 0 rfl) ?_
        refine va_iald hx hb hKW.1 hP 2 0 rfl rfl (vp_in_nI (by omega) (by decide)) dX3_wasIn_20 ?_
        refine lv_topi (fun x_2 ex_2 => ?_)
        refine lv_iload_n hx hb dX3_wasIn_21 rfl (lv_at hl 3 rfl) ?_
        refine lv_icmp_ne (tgt := 53) hx hb dX3_wasIn_22 (by decide) (fun c_3 => ?_) (fun c_3 => ?_)
        · refine lv_iinc (v := nI (i + 1)) (lv' := [(4, .int (nI (i + 1))), (3, .int x3), (0, .ref (a 0)), (1, .int x), (2, .int y)]) hx hb dX3_wasIn_53 hl (k := 0) rfl (nI_add i 1) (by decide) rfl (fun ls hl => ?_)
          refine lv_goto (tgt := 5) hx hb dX3_wasIn_56 (by decide) ?_
          exact ih5 (i + 1) x3 (by omega) (by first | assumption | omega) (by first | assumption | decide) H locs (hP.sub [0, 1, 2, 3] rfl) (hD.sub [0, 1, 2, 3] (by decide) rfl) hS ls (lv_sub hl [0, 1, 2, 3, 4] rfl)
        · refine lv_aload_n hx hb dX3_wasIn_25 rfl (lv_at hl 2 rfl) ?_
          refine va_get (ci := 3) (C := RX3) (T := TX3) (N := 4) hx hb hts inlX3 hown hKW.1 hP 0 rfl rfl 1 (by decide) (hts _ wd_4_17) (fun _ h => h) rfl dX3_wasIn_26 ?_
          refine lv_iload hx hb dX3_wasIn_29 (lv_at hl 0 rfl) ?_
          refine va_iald hx hb hKW.1 hP 1 0 rfl rfl (vp_in_nI (by omega) (by decide)) dX3_wasIn_31 ?_
          refine lv_topi (fun x_4 ex_4 => ?_)
          refine lv_iload_n hx hb dX3_wasIn_32 rfl (lv_at hl 4 rfl) ?_
          refine lv_icmp_gt (tgt := 53) hx hb dX3_wasIn_33 (by decide) (fun c_5 => ?_) (fun c_5 => ?_)
          · refine lv_iinc (v := nI (i + 1)) (lv' := [(4, .int (nI (i + 1))), (3, .int x3), (0, .ref (a 0)), (1, .int x), (2, .int y)]) hx hb dX3_wasIn_53 hl (k := 0) rfl (nI_add i 1) (by decide) rfl (fun ls hl => ?_)
            refine lv_goto (tgt := 5) hx hb dX3_wasIn_56 (by decide) ?_
            exact ih5 (i + 1) x3 (by omega) (by first | assumption | omega) (by first | assumption | decide) H locs (hP.sub [0, 1, 2, 3] rfl) (hD.sub [0, 1, 2, 3] (by decide) rfl) hS ls (lv_sub hl [0, 1, 2, 3, 4] rfl)
          · refine lv_aload_n hx hb dX3_wasIn_36 rfl (lv_at hl 2 rfl) ?_
            refine va_get (ci := 3) (C := RX3) (T := TX3) (N := 4) hx hb hts inlX3 hown hKW.1 hP 0 rfl rfl 3 (by decide) (hts _ wd_4_19) (fun _ h => h) rfl dX3_wasIn_37 ?_
            refine lv_iload hx hb dX3_wasIn_40 (lv_at hl 0 rfl) ?_
            refine va_iald hx hb hKW.1 hP 3 0 rfl rfl (vp_in_nI (by omega) (by decide)) dX3_wasIn_42 ?_
            refine lv_topi (fun x_6 ex_6 => ?_)
            refine lv_iconst (v := 1) hx hb dX3_wasIn_43 (by decide) ?_
            refine lv_icmp_ne (tgt := 51) hx hb dX3_wasIn_44 (by decide) (fun c_7 => ?_) (fun c_7 => ?_)
            · refine lv_iconst (v := 0) hx hb dX3_wasIn_51 (by decide) ?_
              refine lv_istore_n (lv' := [(3, .int 0), (4, .int (nI i)), (0, .ref (a 0)), (1, .int x), (2, .int y)]) hx hb dX3_wasIn_52 rfl hl (by decide) rfl (fun ls hl => ?_)
              refine lv_iinc (v := nI (i + 1)) (lv' := [(4, .int (nI (i + 1))), (3, .int 0), (0, .ref (a 0)), (1, .int x), (2, .int y)]) hx hb dX3_wasIn_53 hl (k := 1) rfl (nI_add i 1) (by decide) rfl (fun ls hl => ?_)
              refine lv_goto (tgt := 5) hx hb dX3_wasIn_56 (by decide) ?_
              exact ih5 (i + 1) 0 (by omega) (by first | assumption | omega) (by first | assumption | decide) H locs (hP.sub [0, 1, 2, 3] rfl) (hD.sub [0, 1, 2, 3] (by decide) rfl) hS ls (lv_sub hl [0, 1, 2, 3, 4] rfl)
            · refine lv_iconst (v := 1) hx hb dX3_wasIn_47 (by decide) ?_
              refine lv_goto (tgt := 52) hx hb dX3_wasIn_48 (by decide) ?_
              refine lv_istore_n (lv' := [(3, .int 1), (4, .int (nI i)), (0, .ref (a 0)), (1, .int x), (2, .int y)]) hx hb dX3_wasIn_52 rfl hl (by decide) rfl (fun ls hl => ?_)
              refine lv_iinc (v := nI (i + 1)) (lv' := [(4, .int (nI (i + 1))), (3, .int 1), (0, .ref (a 0)), (1, .int x), (2, .int y)]) hx hb dX3_wasIn_53 hl (k := 1) rfl (nI_add i 1) (by decide) rfl (fun ls hl => ?_)
              refine lv_goto (tgt := 5) hx hb dX3_wasIn_56 (by decide) ?_
              exact ih5 (i + 1) 1 (by omega) (by first | assumption | omega) (by first | assumption | decide) H locs (hP.sub [0, 1, 2, 3] rfl) (hD.sub [0, 1, 2, 3] (by decide) rfl) hS ls (lv_sub hl [0, 1, 2, 3, 4] rfl)
  exact L5 (cnt - 0 + 1) 0 0 (Nat.lt_succ_self _) (by first | assumption | omega) (by first | assumption | decide) H locs (hP.sub [0, 1, 2, 3] rfl) (hD.sub [0, 1, 2, 3] (by decide) rfl) hS ls (lv_sub hl [0, 1, 2, 3, 4] rfl)
theorem dX3_latestGoingOut_0 : decode cX3_latestGoingOut 0 = .ok (.iconst 0, 1) := by decide +kernel
theorem dX3_latestGoingOut_1 : decode cX3_latestGoingOut 1 = .ok (.istore_n 2, 1) := by decide +kernel
theorem dX3_latestGoingOut_2 : decode cX3_latestGoingOut 2 = .ok (.iconst 0, 1) := by decide +kernel
theorem dX3_latestGoingOut_3 : decode cX3_latestGoingOut 3 = .ok (.istore_n 3, 1) := by decide +kernel
theorem dX3_latestGoingOut_4 : decode cX3_latestGoingOut 4 = .ok (.iload_n 3, 1) := by decide +kernel
theorem dX3_latestGoingOut_5 : decode cX3_latestGoingOut 5 = .ok (.aload_n 0, 1) := by decide +kernel
theorem dX3_latestGoingOut_6 : decode cX3_latestGoingOut 6 = .ok (.getfield 21, 3) := by decide +kernel
theorem dX3_latestGoingOut_9 : decode cX3_latestGoingOut 9 = .ok (.if_icmp .ge 36, 3) := by decide +kernel
theorem dX3_latestGoingOut_45 : decode cX3_latestGoingOut 45 = .ok (.iload_n 2, 1) := by decide +kernel
theorem dX3_latestGoingOut_46 : decode cX3_latestGoingOut 46 = .ok (.ireturn, 1) := by decide +kernel
theorem dX3_latestGoingOut_12 : decode cX3_latestGoingOut 12 = .ok (.aload_n 0, 1) := by decide +kernel
theorem dX3_latestGoingOut_13 : decode cX3_latestGoingOut 13 = .ok (.getfield 15, 3) := by decide +kernel
theorem dX3_latestGoingOut_16 : decode cX3_latestGoingOut 16 = .ok (.iload_n 3, 1) := by decide +kernel
theorem dX3_latestGoingOut_17 : decode cX3_latestGoingOut 17 = .ok (.iaload, 1) := by decide +kernel
theorem dX3_latestGoingOut_18 : decode cX3_latestGoingOut 18 = .ok (.iload_n 1, 1) := by decide +kernel
theorem dX3_latestGoingOut_19 : decode cX3_latestGoingOut 19 = .ok (.if_icmp .ne 20, 3) := by decide +kernel
theorem dX3_latestGoingOut_39 : decode cX3_latestGoingOut 39 = .ok (.iinc 3 1, 3) := by decide +kernel
theorem dX3_latestGoingOut_42 : decode cX3_latestGoingOut 42 = .ok (.goto (-38), 3) := by decide +kernel
theorem dX3_latestGoingOut_22 : decode cX3_latestGoingOut 22 = .ok (.aload_n 0, 1) := by decide +kernel
theorem dX3_latestGoingOut_23 : decode cX3_latestGoingOut 23 = .ok (.getfield 18, 3) := by decide +kernel
theorem dX3_latestGoingOut_26 : decode cX3_latestGoingOut 26 = .ok (.iload_n 3, 1) := by decide +kernel
theorem dX3_latestGoingOut_27 : decode cX3_latestGoingOut 27 = .ok (.iaload, 1) := by decide +kernel
theorem dX3_latestGoingOut_28 : decode cX3_latestGoingOut 28 = .ok (.iconst 2, 1) := by decide +kernel
theorem dX3_latestGoingOut_29 : decode cX3_latestGoingOut 29 = .ok (.if_icmp .ne 10, 3) := by decide +kernel
theorem dX3_latestGoingOut_32 : decode cX3_latestGoingOut 32 = .ok (.aload_n 0, 1) := by decide +kernel
theorem dX3_latestGoingOut_33 : decode cX3_latestGoingOut 33 = .ok (.getfield 9, 3) := by decide +kernel
theorem dX3_latestGoingOut_36 : decode cX3_latestGoingOut 36 = .ok (.iload_n 3, 1) := by decide +kernel
theorem dX3_latestGoingOut_37 : decode cX3_latestGoingOut 37 = .ok (.iaload, 1) := by decide +kernel
theorem dX3_latestGoingOut_38 : decode cX3_latestGoingOut 38 = .ok (.istore_n 2, 1) := by decide +kernel
set_option maxHeartbeats 8000000 in
set_option maxRecDepth 100000 in
theorem c_X3_latestGoingOut (l : Launch) (g : kG) (sz : Nat) (a : Nat → Nat) (cnt : Nat) (f0 : Nat → Int32) (f1 : Nat → Int32) (f2 : Nat → Int32) (x : Int32) (hc : cnt ≤ 40) : kMi l g yX3_latestGoingOut cX3_latestGoingOut 4 (some .int) 1 0 0 [.ref (a 0), .int x] sz [(a 0, .inr (3, [.int (nI cnt), .ref (a 1), .ref (a 2), .ref (a 3)])), (a 1, .inl (gI g, 40, .inl f0)), (a 2, .inl (gI g, 40, .inl f1)), (a 3, .inl (gI g, 40, .inl f2))] (fun (r : Int32) (u : Unit) => True) (fun (u : Unit) => ([(a 0, .inr (3, [.int (nI cnt), .ref (a 1), .ref (a 2), .ref (a 3)])), (a 1, .inl (gI g, 40, .inl f0)), (a 2, .inl (gI g, 40, .inl f1)), (a 3, .inl (gI g, 40, .inl f2))] : va_W)) := by
  refine kMi.of (by decide) (Nat.le_of_ble_eq_true rfl) (fun p e s m below meth c A hx hb hr hml hown hts hlk hnm hKW hP hD hS hA ls hl => ?_)
  have hown : s.vm.findClass RX3 = some m.cls := hown
  have hl : lv_has ls 4 [(0, .ref (a 0)), (1, .int x)] := hl
  refine k_hide hP hS (fun H locs hP hS => ?_)
  refine lv_iconst (v := 0) hx hb dX3_latestGoingOut_0 (by decide) ?_
  refine lv_istore_n (lv' := [(2, .int 0), (0, .ref (a 0)), (1, .int x)]) hx hb dX3_latestGoingOut_1 rfl hl (by decide) rfl (fun ls hl => ?_)
  refine lv_iconst (v := 0) hx hb dX3_latestGoingOut_2 (by decide) ?_
  refine lv_istore_n (lv' := [(3, .int 0), (2, .int 0), (0, .ref (a 0)), (1, .int x)]) hx hb dX3_latestGoingOut_3 rfl hl (by decide) rfl (fun ls hl => ?_)
  have L4 : ∀ (n4 : Nat) (i : Nat) (x2 : Int32) (hfuel4 : cnt - i < n4) (hi : i ≤ cnt) (H : Heap) (locs : List Loc) (hP : va_P g.1 vwCl [(a 0, .inr (3, [.int (nI cnt), .ref (a 1), .ref (a 2), .ref (a 3)])), (a 1, .inl (gI g, 40, .inl f0)), (a 2, .inl (gI g, 40, .inl f1)), (a 3, .inl (gI g, 40, .inl f2))] H) (hD : va_D A [(a 0, .inr (3, [.int (nI cnt), .ref (a 1), .ref (a 2), .ref (a 3)])), (a 1, .inl (gI g, 40, .inl f0)), (a 2, .inl (gI g, 40, .inl f1)), (a 3, .inl (gI g, 40, .inl f2))]) (hS : va_S A s.heap H locs) (ls : Array Slot) (hl : lv_has ls 4 [(3, .int (nI i)), (2, .int x2), (0, .ref (a 0)), (1, .int x)]), W p l e (kR 1 0 0) s m ([.ref (a 0), .int x] : List Value).toArray below meth c H locs 0 0 (kQi g A below ([.ref (a 0), .int x] : List Value).toArray s 0 0 (fun (r : Int32) (u : Unit) => True) (fun (u : Unit) => ([(a 0, .inr (3, [.int (nI cnt), .ref (a 1), .ref (a 2), .ref (a 3)])), (a 1, .inl (gI g, 40, .inl f0)), (a 2, .inl (gI g, 40, .inl f1)), (a 3, .inl (gI g, 40, .inl f2))] : va_W))) (F0 m 4 ls []) := by
    intro n4
    induction n4 with
    | zero => intro i x2 hfuel4; exact absurd hfuel4 (Nat.not_lt_zero _)
    | succ n4 ih4 =>
      intro i x2 hfuel4 hi H locs hP hD hS ls hl
      refine lv_iload_n hx hb dX3_latestGoingOut_4 rfl (lv_at hl 0 rfl) ?_
      refine lv_aload_n hx hb dX3_latestGoingOut_5 rfl (lv_at hl 2 rfl) ?_
      refine va_get (ci := 3) (C := RX3) (T := TX3) (N := 4) hx hb hts inlX3 hown hKW.1 hP 0 rfl rfl 0 (by decide) (hts _ wd_9_16) (fun _ h => h) rfl dX3_latestGoingOut_6 ?_
      refine lv_icmp_ge (tgt := 45) hx hb dX3_latestGoingOut_9 (by decide) (fun c_1 => ?_) (fun c_1 => ?_)
      · have c_1n : cnt ≤ i := (k_leI (a := cnt) (b := i) (by omega) (by omega)).mp c_1
        refine lv_iload_n hx hb dX3_latestGoingOut_45 rfl (lv_at hl 1 rfl) ?_
        exact k_iret () [0, 1, 2, 3] hx hb hr hlk hP hD hS trivial rfl rfl rfl (Nat.le_of_ble_eq_true rfl) (Nat.le_of_ble_eq_true rfl) dX3_latestGoingOut_46
      · have c_1n : i < cnt := Nat.not_le.mp (fun h => c_1 ((k_leI (a := cnt) (b := i) (by omega) (by omega)).mpr h))
        refine lv_aload_n hx hb dX3_latestGoingOut_12 rfl (lv_at hl 2 rfl) ?_
        refine va_get (ci := 3) (C := RX3) (T := TX3) (N := 4) hx hb hts inlX3 hown hKW.1 hP 0 rfl rfl 2 (by decide) (hts _ wd_4_18) (fun _ h => h) rfl dX3_latestGoingOut_13 ?_
        refine lv_iload_n hx hb dX3_latestGoingOut_16 rfl (lv_at hl 0 rfl) ?_
        refine va_iald hx hb hKW.1 hP 2 0 rfl rfl (vp_in_nI (by omega) (by decide)) dX3_latestGoingOut_17 ?_
        refine lv_topi (fun x_2 ex_2 => ?_)
        refine lv_iload_n hx hb dX3_latestGoingOut_18 rfl (lv_at hl 3 rfl) ?_
        refine lv_icmp_ne (tgt := 39) hx hb dX3_latestGoingOut_19 (by decide) (fun c_3 => ?_) (fun c_3 => ?_)
        · refine lv_iinc (v := nI (i + 1)) (lv' := [(3, .int (nI (i + 1))), (2, .int x2), (0, .ref (a 0)), (1, .int x)]) hx hb dX3_latestGoingOut_39 hl (k := 0) rfl (nI_add i 1) (by decide) rfl (fun ls hl => ?_)
          refine lv_goto (tgt := 4) hx hb dX3_latestGoingOut_42 (by decide) ?_
          exact ih4 (i + 1) x2 (by omega) (by first | assumption | omega) H locs (hP.sub [0, 1, 2, 3] rfl) (hD.sub [0, 1, 2, 3] (by decide) rfl) hS ls (lv_sub hl [0, 1, 2, 3] rfl)
        · refine lv_aload_n hx hb dX3_latestGoingOut_22 rfl (lv_at hl 2 rfl) ?_
          refine va_get (ci := 3) (C := RX3) (T := TX3) (N := 4) hx hb hts inlX3 hown hKW.1 hP 0 rfl rfl 3 (by decide) (hts _ wd_4_19) (fun _ h => h) rfl dX3_latestGoingOut_23 ?_
          refine lv_iload_n hx hb dX3_latestGoingOut_26 rfl (lv_at hl 0 rfl) ?_
          refine va_iald hx hb hKW.1 hP 3 0 rfl rfl (vp_in_nI (by omega) (by decide)) dX3_latestGoingOut_27 ?_
          refine lv_topi (fun x_4 ex_4 => ?_)
          refine lv_iconst (v := 2) hx hb dX3_latestGoingOut_28 (by decide) ?_
          refine lv_icmp_ne (tgt := 39) hx hb dX3_latestGoingOut_29 (by decide) (fun c_5 => ?_) (fun c_5 => ?_)
          · refine lv_iinc (v := nI (i + 1)) (lv' := [(3, .int (nI (i + 1))), (2, .int x2), (0, .ref (a 0)), (1, .int x)]) hx hb dX3_latestGoingOut_39 hl (k := 0) rfl (nI_add i 1) (by decide) rfl (fun ls hl => ?_)
            refine lv_goto (tgt := 4) hx hb dX3_latestGoingOut_42 (by decide) ?_
            exact ih4 (i + 1) x2 (by omega) (by first | assumption | omega) H locs (hP.sub [0, 1, 2, 3] rfl) (hD.sub [0, 1, 2, 3] (by decide) rfl) hS ls (lv_sub hl [0, 1, 2, 3] rfl)
          · refine lv_aload_n hx hb dX3_latestGoingOut_32 rfl (lv_at hl 2 rfl) ?_
            refine va_get (ci := 3) (C := RX3) (T := TX3) (N := 4) hx hb hts inlX3 hown hKW.1 hP 0 rfl rfl 1 (by decide) (hts _ wd_4_17) (fun _ h => h) rfl dX3_latestGoingOut_33 ?_
            refine lv_iload_n hx hb dX3_latestGoingOut_36 rfl (lv_at hl 0 rfl) ?_
            refine va_iald hx hb hKW.1 hP 1 0 rfl rfl (vp_in_nI (by omega) (by decide)) dX3_latestGoingOut_37 ?_
            refine lv_topi (fun x_6 ex_6 => ?_)
            refine lv_istore_n (lv' := [(2, .int x_6), (3, .int (nI i)), (0, .ref (a 0)), (1, .int x)]) hx hb dX3_latestGoingOut_38 rfl hl (by decide) rfl (fun ls hl => ?_)
            refine lv_iinc (v := nI (i + 1)) (lv' := [(3, .int (nI (i + 1))), (2, .int x_6), (0, .ref (a 0)), (1, .int x)]) hx hb dX3_latestGoingOut_39 hl (k := 1) rfl (nI_add i 1) (by decide) rfl (fun ls hl => ?_)
            refine lv_goto (tgt := 4) hx hb dX3_latestGoingOut_42 (by decide) ?_
            exact ih4 (i + 1) x_6 (by omega) (by first | assumption | omega) H locs (hP.sub [0, 1, 2, 3] rfl) (hD.sub [0, 1, 2, 3] (by decide) rfl) hS ls (lv_sub hl [0, 1, 2, 3] rfl)
  exact L4 (cnt - 0 + 1) 0 0 (Nat.lt_succ_self _) (by first | assumption | omega) H locs (hP.sub [0, 1, 2, 3] rfl) (hD.sub [0, 1, 2, 3] (by decide) rfl) hS ls (lv_sub hl [0, 1, 2, 3] rfl)
theorem dX3_isMissedFrom_0 : decode cX3_isMissedFrom 0 = .ok (.aload_n 0, 1) := by decide +kernel
theorem dX3_isMissedFrom_1 : decode cX3_isMissedFrom 1 = .ok (.getfield 18, 3) := by decide +kernel
theorem dX3_isMissedFrom_4 : decode cX3_isMissedFrom 4 = .ok (.iload_n 1, 1) := by decide +kernel
theorem dX3_isMissedFrom_5 : decode cX3_isMissedFrom 5 = .ok (.iaload, 1) := by decide +kernel
theorem dX3_isMissedFrom_6 : decode cX3_isMissedFrom 6 = .ok (.iconst 5, 1) := by decide +kernel
theorem dX3_isMissedFrom_7 : decode cX3_isMissedFrom 7 = .ok (.if_icmp .ne 5, 3) := by decide +kernel
theorem dX3_isMissedFrom_12 : decode cX3_isMissedFrom 12 = .ok (.iload_n 2, 1) := by decide +kernel
theorem dX3_isMissedFrom_13 : decode cX3_isMissedFrom 13 = .ok (.istore_n 3, 1) := by decide +kernel
theorem dX3_isMissedFrom_14 : decode cX3_isMissedFrom 14 = .ok (.aload_n 0, 1) := by decide +kernel
theorem dX3_isMissedFrom_15 : decode cX3_isMissedFrom 15 = .ok (.getfield 21, 3) := by decide +kernel
theorem dX3_isMissedFrom_18 : decode cX3_isMissedFrom 18 = .ok (.iconst 1, 1) := by decide +kernel
theorem dX3_isMissedFrom_19 : decode cX3_isMissedFrom 19 = .ok (.isub, 1) := by decide +kernel
theorem dX3_isMissedFrom_20 : decode cX3_isMissedFrom 20 = .ok (.istore 4, 2) := by decide +kernel
theorem dX3_isMissedFrom_22 : decode cX3_isMissedFrom 22 = .ok (.iload 4, 2) := by decide +kernel
theorem dX3_isMissedFrom_24 : decode cX3_isMissedFrom 24 = .ok (.iload_n 1, 1) := by decide +kernel
theorem dX3_isMissedFrom_25 : decode cX3_isMissedFrom 25 = .ok (.if_icmp .le 33, 3) := by decide +kernel
theorem dX3_isMissedFrom_58 : decode cX3_isMissedFrom 58 = .ok (.iload_n 3, 1) := by decide +kernel
theorem dX3_isMissedFrom_59 : decode cX3_isMissedFrom 59 = .ok (.aload_n 0, 1) := by decide +kernel
theorem dX3_isMissedFrom_60 : decode cX3_isMissedFrom 60 = .ok (.getfield 9, 3) := by decide +kernel
theorem dX3_isMissedFrom_63 : decode cX3_isMissedFrom 63 = .ok (.iload_n 1, 1) := by decide +kernel
theorem dX3_isMissedFrom_64 : decode cX3_isMissedFrom 64 = .ok (.iaload, 1) := by decide +kernel
theorem dX3_isMissedFrom_65 : decode cX3_isMissedFrom 65 = .ok (.isub, 1) := by decide +kernel
theorem dX3_isMissedFrom_66 : decode cX3_isMissedFrom 66 = .ok (.iconst 2, 1) := by decide +kernel
theorem dX3_isMissedFrom_67 : decode cX3_isMissedFrom 67 = .ok (.if_icmp .le 7, 3) := by decide +kernel
theorem dX3_isMissedFrom_74 : decode cX3_isMissedFrom 74 = .ok (.iconst 0, 1) := by decide +kernel
theorem dX3_isMissedFrom_75 : decode cX3_isMissedFrom 75 = .ok (.ireturn, 1) := by decide +kernel
theorem dX3_isMissedFrom_70 : decode cX3_isMissedFrom 70 = .ok (.iconst 1, 1) := by decide +kernel
theorem dX3_isMissedFrom_71 : decode cX3_isMissedFrom 71 = .ok (.goto 4, 3) := by decide +kernel
theorem dX3_isMissedFrom_28 : decode cX3_isMissedFrom 28 = .ok (.aload_n 0, 1) := by decide +kernel
theorem dX3_isMissedFrom_29 : decode cX3_isMissedFrom 29 = .ok (.getfield 15, 3) := by decide +kernel
theorem dX3_isMissedFrom_32 : decode cX3_isMissedFrom 32 = .ok (.iload 4, 2) := by decide +kernel
theorem dX3_isMissedFrom_34 : decode cX3_isMissedFrom 34 = .ok (.iaload, 1) := by decide +kernel
theorem dX3_isMissedFrom_35 : decode cX3_isMissedFrom 35 = .ok (.aload_n 0, 1) := by decide +kernel
theorem dX3_isMissedFrom_36 : decode cX3_isMissedFrom 36 = .ok (.getfield 15, 3) := by decide +kernel
theorem dX3_isMissedFrom_39 : decode cX3_isMissedFrom 39 = .ok (.iload_n 1, 1) := by decide +kernel
theorem dX3_isMissedFrom_40 : decode cX3_isMissedFrom 40 = .ok (.iaload, 1) := by decide +kernel
theorem dX3_isMissedFrom_41 : decode cX3_isMissedFrom 41 = .ok (.if_icmp .ne 11, 3) := by decide +kernel
theorem dX3_isMissedFrom_52 : decode cX3_isMissedFrom 52 = .ok (.iinc 4 (-1), 3) := by decide +kernel
theorem dX3_isMissedFrom_55 : decode cX3_isMissedFrom 55 = .ok (.goto (-33), 3) := by decide +kernel
theorem dX3_isMissedFrom_44 : decode cX3_isMissedFrom 44 = .ok (.aload_n 0, 1) := by decide +kernel
theorem dX3_isMissedFrom_45 : decode cX3_isMissedFrom 45 = .ok (.getfield 9, 3) := by decide +kernel
theorem dX3_isMissedFrom_48 : decode cX3_isMissedFrom 48 = .ok (.iload 4, 2) := by decide +kernel
theorem dX3_isMissedFrom_50 : decode cX3_isMissedFrom 50 = .ok (.iaload, 1) := by decide +kernel
theorem dX3_isMissedFrom_51 : decode cX3_isMissedFrom 51 = .ok (.istore_n 3, 1) := by decide +kernel
theorem dX3_isMissedFrom_10 : decode cX3_isMissedFrom 10 = .ok (.iconst 0, 1) := by decide +kernel
theorem dX3_isMissedFrom_11 : decode cX3_isMissedFrom 11 = .ok (.ireturn, 1) := by decide +kernel
set_option maxHeartbeats 8000000 in
set_option maxRecDepth 100000 in
theorem c_X3_isMissedFrom (l : Launch) (g : kG) (sz : Nat) (a : Nat → Nat) (cnt : Nat) (f0 : Nat → Int32) (f1 : Nat → Int32) (f2 : Nat → Int32) (j : Nat) (x : Int32) (hc : cnt ≤ 40) (hj : j < cnt) : kMi l g yX3_isMissedFrom cX3_isMissedFrom 5 (some .boolean) 1 0 0 [.ref (a 0), .int (nI j), .int x] sz [(a 0, .inr (3, [.int (nI cnt), .ref (a 1), .ref (a 2), .ref (a 3)])), (a 1, .inl (gI g, 40, .inl f0)), (a 2, .inl (gI g, 40, .inl f1)), (a 3, .inl (gI g, 40, .inl f2))] (fun (r : Int32) (u : Unit) => r = 1 ∨ r = 0) (fun (u : Unit) => ([(a 0, .inr (3, [.int (nI cnt), .ref (a 1), .ref (a 2), .ref (a 3)])), (a 1, .inl (gI g, 40, .inl f0)), (a 2, .inl (gI g, 40, .inl f1)), (a 3, .inl (gI g, 40, .inl f2))] : va_W)) := by
  refine kMi.of (by decide) (Nat.le_of_ble_eq_true rfl) (fun p e s m below meth c A hx hb hr hml hown hts hlk hnm hKW hP hD hS hA ls hl => ?_)
  have hown : s.vm.findClass RX3 = some m.cls := hown
  have hl : lv_has ls 5 [(0, .ref (a 0)), (1, .int (nI j)), (2, .int x)] := hl
  refine k_hide hP hS (fun H locs hP hS => ?_)
  refine lv_aload_n hx hb dX3_isMissedFrom_0 rfl (lv_at hl 0 rfl) ?_
  refine va_get (ci := 3) (C := RX3) (T := TX3) (N := 4) hx hb hts inlX3 hown hKW.1 hP 0 rfl rfl 3 (by decide) (hts _ wd_4_19) (fun _ h => h) rfl dX3_isMissedFrom_1 ?_
  refine lv_iload_n hx hb dX3_isMissedFrom_4 rfl (lv_at hl 1 rfl) ?_
  refine va_iald hx hb hKW.1 hP 3 0 rfl rfl (vp_in_nI (by omega) (by decide)) dX3_isMissedFrom_5 ?_
  refine lv_topi (fun x_1 ex_1 => ?_)
  refine lv_iconst (v := 5) hx hb dX3_isMissedFrom_6 (by decide) ?_
  refine lv_icmp_ne (tgt := 12) hx hb dX3_isMissedFrom_7 (by decide) (fun c_2 => ?_) (fun c_2 => ?_)
  · refine lv_iload_n hx hb dX3_isMissedFrom_12 rfl (lv_at hl 2 rfl) ?_
    refine lv_istore_n (lv' := [(3, .int x), (0, .ref (a 0)), (1, .int (nI j)), (2, .int x)]) hx hb dX3_isMissedFrom_13 rfl hl (by decide) rfl (fun ls hl => ?_)
    refine lv_aload_n hx hb dX3_isMissedFrom_14 rfl (lv_at hl 1 rfl) ?_
    refine va_get (ci := 3) (C := RX3) (T := TX3) (N := 4) hx hb hts inlX3 hown hKW.1 hP 0 rfl rfl 0 (by decide) (hts _ wd_9_16) (fun _ h => h) rfl dX3_isMissedFrom_15 ?_
    refine lv_iconst (v := 1) hx hb dX3_isMissedFrom_18 (by decide) ?_
    refine lv_isub hx hb dX3_isMissedFrom_19 ?_
    refine k_top (y := nI (cnt - 1)) (k_sub (b := 1) (by omega)) ?_
    refine lv_istore (lv' := [(4, .int (nI (cnt - 1))), (3, .int x), (0, .ref (a 0)), (1, .int (nI j)), (2, .int x)]) hx hb dX3_isMissedFrom_20 hl (by decide) rfl (fun ls hl => ?_)
    have L22 : ∀ (n22 : Nat) (k : Nat) (x3 : Int32) (hfuel22 : k < n22) (hk : k < 40) (H : Heap) (locs : List Loc) (hP : va_P g.1 vwCl [(a 0, .inr (3, [.int (nI cnt), .ref (a 1), .ref (a 2), .ref (a 3)])), (a 1, .inl (gI g, 40, .inl f0)), (a 2, .inl (gI g, 40, .inl f1)), (a 3, .inl (gI g, 40, .inl f2))] H) (hD : va_D A [(a 0, .inr (3, [.int (nI cnt), .ref (a 1), .ref (a 2), .ref (a 3)])), (a 1, .inl (gI g, 40, .inl f0)), (a 2, .inl (gI g, 40, .inl f1)), (a 3, .inl (gI g, 40, .inl f2))]) (hS : va_S A s.heap H locs) (ls : Array Slot) (hl : lv_has ls 5 [(4, .int (nI k)), (3, .int x3), (0, .ref (a 0)), (1, .int (nI j)), (2, .int x)]), W p l e (kR 1 0 0) s m ([.ref (a 0), .int (nI j), .int x] : List Value).toArray below meth c H locs 0 0 (kQi g A below ([.ref (a 0), .int (nI j), .int x] : List Value).toArray s 0 0 (fun (r : Int32) (u : Unit) => r = 1 ∨ r = 0) (fun (u : Unit) => ([(a 0, .inr (3, [.int (nI cnt), .ref (a 1), .ref (a 2), .ref (a 3)])), (a 1, .inl (gI g, 40, .inl f0)), (a 2, .inl (gI g, 40, .inl f1)), (a 3, .inl (gI g, 40, .inl f2))] : va_W))) (F0 m 22 ls []) := by
      intro n22
      induction n22 with
      | zero => intro k x3 hfuel22; exact absurd hfuel22 (Nat.not_lt_zero _)
      | succ n22 ih22 =>
        intro k x3 hfuel22 hk H locs hP hD hS ls hl
        refine lv_iload hx hb dX3_isMissedFrom_22 (lv_at hl 0 rfl) ?_
        refine lv_iload_n hx hb dX3_isMissedFrom_24 rfl (lv_at hl 3 rfl) ?_
        refine lv_icmp_le (tgt := 58) hx hb dX3_isMissedFrom_25 (by decide) (fun c_3 => ?_) (fun c_3 => ?_)
        · have c_3n : k ≤ j := (k_leI (a := k) (b := j) (by omega) (by omega)).mp c_3
          refine lv_iload_n hx hb dX3_isMissedFrom_58 rfl (lv_at hl 1 rfl) ?_
          refine lv_aload_n hx hb dX3_isMissedFrom_59 rfl (lv_at hl 2 rfl) ?_
          refine va_get (ci := 3) (C := RX3) (T := TX3) (N := 4) hx hb hts inlX3 hown hKW.1 hP 0 rfl rfl 1 (by decide) (hts _ wd_4_17) (fun _ h => h) rfl dX3_isMissedFrom_60 ?_
          refine lv_iload_n hx hb dX3_isMissedFrom_63 rfl (lv_at hl 3 rfl) ?_
          refine va_iald hx hb hKW.1 hP 1 0 rfl rfl (vp_in_nI (by omega) (by decide)) dX3_isMissedFrom_64 ?_
          refine lv_topi (fun x_4 ex_4 => ?_)
          refine lv_isub hx hb dX3_isMissedFrom_65 ?_
          refine lv_topi (fun x_5 ex_5 => ?_)
          refine lv_iconst (v := 2) hx hb dX3_isMissedFrom_66 (by decide) ?_
          refine lv_icmp_le (tgt := 74) hx hb dX3_isMissedFrom_67 (by decide) (fun c_6 => ?_) (fun c_6 => ?_)
          · refine lv_iconst (v := 0) hx hb dX3_isMissedFrom_74 (by decide) ?_
            exact k_zret () [0, 1, 2, 3] hx hb hr hlk hP hD hS (Or.inr rfl) rfl rfl rfl rfl (Nat.le_of_ble_eq_true rfl) (Nat.le_of_ble_eq_true rfl) dX3_isMissedFrom_75
          · refine lv_iconst (v := 1) hx hb dX3_isMissedFrom_70 (by decide) ?_
            refine lv_goto (tgt := 75) hx hb dX3_isMissedFrom_71 (by decide) ?_
            exact k_zret () [0, 1, 2, 3] hx hb hr hlk hP hD hS (Or.inl rfl) rfl rfl rfl rfl (Nat.le_of_ble_eq_true rfl) (Nat.le_of_ble_eq_true rfl) dX3_isMissedFrom_75
        · have c_3n : j < k := Nat.not_le.mp (fun h => c_3 ((k_leI (a := k) (b := j) (by omega) (by omega)).mpr h))
          refine lv_aload_n hx hb dX3_isMissedFrom_28 rfl (lv_at hl 2 rfl) ?_
          refine va_get (ci := 3) (C := RX3) (T := TX3) (N := 4) hx hb hts inlX3 hown hKW.1 hP 0 rfl rfl 2 (by decide) (hts _ wd_4_18) (fun _ h => h) rfl dX3_isMissedFrom_29 ?_
          refine lv_iload hx hb dX3_isMissedFrom_32 (lv_at hl 0 rfl) ?_
          refine va_iald hx hb hKW.1 hP 2 0 rfl rfl (vp_in_nI (by omega) (by decide)) dX3_isMissedFrom_34 ?_
          refine lv_topi (fun x_7 ex_7 => ?_)
          refine lv_aload_n hx hb dX3_isMissedFrom_35 rfl (lv_at hl 2 rfl) ?_
          refine va_get (ci := 3) (C := RX3) (T := TX3) (N := 4) hx hb hts inlX3 hown hKW.1 hP 0 rfl rfl 2 (by decide) (hts _ wd_4_18) (fun _ h => h) rfl dX3_isMissedFrom_36 ?_
          refine lv_iload_n hx hb dX3_isMissedFrom_39 rfl (lv_at hl 3 rfl) ?_
          refine va_iald hx hb hKW.1 hP 2 0 rfl rfl (vp_in_nI (by omega) (by decide)) dX3_isMissedFrom_40 ?_
          refine lv_topi (fun x_8 ex_8 => ?_)
          refine lv_icmp_ne (tgt := 52) hx hb dX3_isMissedFrom_41 (by decide) (fun c_9 => ?_) (fun c_9 => ?_)
          · refine lv_iinc (v := nI (k - 1)) (lv' := [(4, .int (nI (k - 1))), (3, .int x3), (0, .ref (a 0)), (1, .int (nI j)), (2, .int x)]) hx hb dX3_isMissedFrom_52 hl (k := 0) rfl (k_dec (by omega)) (by decide) rfl (fun ls hl => ?_)
            refine lv_goto (tgt := 22) hx hb dX3_isMissedFrom_55 (by decide) ?_
            exact ih22 (k - 1) x3 (by omega) (by first | assumption | omega) H locs (hP.sub [0, 1, 2, 3] rfl) (hD.sub [0, 1, 2, 3] (by decide) rfl) hS ls (lv_sub hl [0, 1, 2, 3, 4] rfl)
          · refine lv_aload_n hx hb dX3_isMissedFrom_44 rfl (lv_at hl 2 rfl) ?_
            refine va_get (ci := 3) (C := RX3) (T := TX3) (N := 4) hx hb hts inlX3 hown hKW.1 hP 0 rfl rfl 1 (by decide) (hts _ wd_4_17) (fun _ h => h) rfl dX3_isMissedFrom_45 ?_
            refine lv_iload hx hb dX3_isMissedFrom_48 (lv_at hl 0 rfl) ?_
            refine va_iald hx hb hKW.1 hP 1 0 rfl rfl (vp_in_nI (by omega) (by decide)) dX3_isMissedFrom_50 ?_
            refine lv_topi (fun x_10 ex_10 => ?_)
            refine lv_istore_n (lv' := [(3, .int x_10), (4, .int (nI k)), (0, .ref (a 0)), (1, .int (nI j)), (2, .int x)]) hx hb dX3_isMissedFrom_51 rfl hl (by decide) rfl (fun ls hl => ?_)
            refine lv_iinc (v := nI (k - 1)) (lv' := [(4, .int (nI (k - 1))), (3, .int x_10), (0, .ref (a 0)), (1, .int (nI j)), (2, .int x)]) hx hb dX3_isMissedFrom_52 hl (k := 1) rfl (k_dec (by omega)) (by decide) rfl (fun ls hl => ?_)
            refine lv_goto (tgt := 22) hx hb dX3_isMissedFrom_55 (by decide) ?_
            exact ih22 (k - 1) x_10 (by omega) (by first | assumption | omega) H locs (hP.sub [0, 1, 2, 3] rfl) (hD.sub [0, 1, 2, 3] (by decide) rfl) hS ls (lv_sub hl [0, 1, 2, 3, 4] rfl)
    exact L22 ((cnt - 1) + 1) (cnt - 1) x (Nat.lt_succ_self _) (by first | assumption | omega) H locs (hP.sub [0, 1, 2, 3] rfl) (hD.sub [0, 1, 2, 3] (by decide) rfl) hS ls (lv_sub hl [0, 1, 2, 3, 4] rfl)
  · refine lv_iconst (v := 0) hx hb dX3_isMissedFrom_10 (by decide) ?_
    exact k_zret () [0, 1, 2, 3] hx hb hr hlk hP hD hS (Or.inr rfl) rfl rfl rfl rfl (Nat.le_of_ble_eq_true rfl) (Nat.le_of_ble_eq_true rfl) dX3_isMissedFrom_11
theorem dX3_missedOf_0 : decode cX3_missedOf 0 = .ok (.iconst 0, 1) := by decide +kernel
theorem dX3_missedOf_1 : decode cX3_missedOf 1 = .ok (.istore_n 3, 1) := by decide +kernel
theorem dX3_missedOf_2 : decode cX3_missedOf 2 = .ok (.iconst 0, 1) := by decide +kernel
theorem dX3_missedOf_3 : decode cX3_missedOf 3 = .ok (.istore 4, 2) := by decide +kernel
theorem dX3_missedOf_5 : decode cX3_missedOf 5 = .ok (.iload 4, 2) := by decide +kernel
theorem dX3_missedOf_7 : decode cX3_missedOf 7 = .ok (.aload_n 0, 1) := by decide +kernel
theorem dX3_missedOf_8 : decode cX3_missedOf 8 = .ok (.getfield 21, 3) := by decide +kernel
theorem dX3_missedOf_11 : decode cX3_missedOf 11 = .ok (.if_icmp .ge 41, 3) := by decide +kernel
theorem dX3_missedOf_52 : decode cX3_missedOf 52 = .ok (.iload_n 3, 1) := by decide +kernel
theorem dX3_missedOf_53 : decode cX3_missedOf 53 = .ok (.ireturn, 1) := by decide +kernel
theorem dX3_missedOf_14 : decode cX3_missedOf 14 = .ok (.iload_n 3, 1) := by decide +kernel
theorem dX3_missedOf_15 : decode cX3_missedOf 15 = .ok (.aload_n 0, 1) := by decide +kernel
theorem dX3_missedOf_16 : decode cX3_missedOf 16 = .ok (.getfield 15, 3) := by decide +kernel
theorem dX3_missedOf_19 : decode cX3_missedOf 19 = .ok (.iload 4, 2) := by decide +kernel
theorem dX3_missedOf_21 : decode cX3_missedOf 21 = .ok (.iaload, 1) := by decide +kernel
theorem dX3_missedOf_22 : decode cX3_missedOf 22 = .ok (.iload_n 1, 1) := by decide +kernel
theorem dX3_missedOf_23 : decode cX3_missedOf 23 = .ok (.if_icmp .ne 17, 3) := by decide +kernel
theorem dX3_missedOf_40 : decode cX3_missedOf 40 = .ok (.iconst 0, 1) := by decide +kernel
theorem dX3_missedOf_41 : decode cX3_missedOf 41 = .ok (.invokestatic 34, 3) := by decide +kernel
theorem dX3_missedOf_44 : decode cX3_missedOf 44 = .ok (.iadd, 1) := by decide +kernel
theorem dX3_missedOf_45 : decode cX3_missedOf 45 = .ok (.istore_n 3, 1) := by decide +kernel
theorem dX3_missedOf_46 : decode cX3_missedOf 46 = .ok (.iinc 4 1, 3) := by decide +kernel
theorem dX3_missedOf_49 : decode cX3_missedOf 49 = .ok (.goto (-44), 3) := by decide +kernel
theorem dX3_missedOf_26 : decode cX3_missedOf 26 = .ok (.aload_n 0, 1) := by decide +kernel
theorem dX3_missedOf_27 : decode cX3_missedOf 27 = .ok (.iload 4, 2) := by decide +kernel
theorem dX3_missedOf_29 : decode cX3_missedOf 29 = .ok (.iload_n 2, 1) := by decide +kernel
theorem dX3_missedOf_30 : decode cX3_missedOf 30 = .ok (.invokevirtual 38, 3) := by decide +kernel
theorem dX3_missedOf_33 : decode cX3_missedOf 33 = .ok (.ifCond .eq 7, 3) := by decide +kernel
theorem dX3_missedOf_36 : decode cX3_missedOf 36 = .ok (.iconst 1, 1) := by decide +kernel
theorem dX3_missedOf_37 : decode cX3_missedOf 37 = .ok (.goto 4, 3) := by decide +kernel
set_option maxHeartbeats 8000000 in
set_option maxRecDepth 100000 in
theorem c_X3_missedOf (l : Launch) (g : kG) (sz : Nat) (a : Nat → Nat) (cnt : Nat) (f0 : Nat → Int32) (f1 : Nat → Int32) (f2 : Nat → Int32) (x : Int32) (y : Int32) (hc : cnt ≤ 40) : kMi l g yX3_missedOf cX3_missedOf 5 (some .int) 2 0 0 [.ref (a 0), .int x, .int y] sz [(a 0, .inr (3, [.int (nI cnt), .ref (a 1), .ref (a 2), .ref (a 3)])), (a 1, .inl (gI g, 40, .inl f0)), (a 2, .inl (gI g, 40, .inl f1)), (a 3, .inl (gI g, 40, .inl f2))] (fun (r : Int32) (u : Unit) => True) (fun (u : Unit) => ([(a 0, .inr (3, [.int (nI cnt), .ref (a 1), .ref (a 2), .ref (a 3)])), (a 1, .inl (gI g, 40, .inl f0)), (a 2, .inl (gI g, 40, .inl f1)), (a 3, .inl (gI g, 40, .inl f2))] : va_W)) := by
  refine kMi.of (by decide) (Nat.le_of_ble_eq_true rfl) (fun p e s m below meth c A hx hb hr hml hown hts hlk hnm hKW hP hD hS hA ls hl => ?_)
  have hown : s.vm.findClass RX3 = some m.cls := hown
  have hl : lv_has ls 5 [(0, .ref (a 0)), (1, .int x), (2, .int y)] := hl
  refine k_hide hP hS (fun H locs hP hS => ?_)
  refine lv_iconst (v := 0) hx hb dX3_missedOf_0 (by decide) ?_
  refine lv_istore_n (lv' := [(3, .int 0), (0, .ref (a 0)), (1, .int x), (2, .int y)]) hx hb dX3_missedOf_1 rfl hl (by decide) rfl (fun ls hl => ?_)
  refine lv_iconst (v := 0) hx hb dX3_missedOf_2 (by decide) ?_
  refine lv_istore (lv' := [(4, .int 0), (3, .int 0), (0, .ref (a 0)), (1, .int x), (2, .int y)]) hx hb dX3_missedOf_3 hl (by decide) rfl (fun ls hl => ?_)
  have L5 : ∀ (n5 : Nat) (i : Nat) (x3 : Int32) (hfuel5 : cnt - i < n5) (hi : i ≤ cnt) (H : Heap) (locs : List Loc) (hP : va_P g.1 vwCl [(a 0, .inr (3, [.int (nI cnt), .ref (a 1), .ref (a 2), .ref (a 3)])), (a 1, .inl (gI g, 40, .inl f0)), (a 2, .inl (gI g, 40, .inl f1)), (a 3, .inl (gI g, 40, .inl f2))] H) (hD : va_D A [(a 0, .inr (3, [.int (nI cnt), .ref (a 1), .ref (a 2), .ref (a 3)])), (a 1, .inl (gI g, 40, .inl f0)), (a 2, .inl (gI g, 40, .inl f1)), (a 3, .inl (gI g, 40, .inl f2))]) (hS : va_S A s.heap H locs) (ls : Array Slot) (hl : lv_has ls 5 [(4, .int (nI i)), (3, .int x3), (0, .ref (a 0)), (1, .int x), (2, .int y)]), W p l e (kR 2 0 0) s m ([.ref (a 0), .int x, .int y] : List Value).toArray below meth c H locs 0 0 (kQi g A below ([.ref (a 0), .int x, .int y] : List Value).toArray s 0 0 (fun (r : Int32) (u : Unit) => True) (fun (u : Unit) => ([(a 0, .inr (3, [.int (nI cnt), .ref (a 1), .ref (a 2), .ref (a 3)])), (a 1, .inl (gI g, 40, .inl f0)), (a 2, .inl (gI g, 40, .inl f1)), (a 3, .inl (gI g, 40, .inl f2))] : va_W))) (F0 m 5 ls []) := by
    intro n5
    induction n5 with
    | zero => intro i x3 hfuel5; exact absurd hfuel5 (Nat.not_lt_zero _)
    | succ n5 ih5 =>
      intro i x3 hfuel5 hi H locs hP hD hS ls hl
      refine lv_iload hx hb dX3_missedOf_5 (lv_at hl 0 rfl) ?_
      refine lv_aload_n hx hb dX3_missedOf_7 rfl (lv_at hl 2 rfl) ?_
      refine va_get (ci := 3) (C := RX3) (T := TX3) (N := 4) hx hb hts inlX3 hown hKW.1 hP 0 rfl rfl 0 (by decide) (hts _ wd_9_16) (fun _ h => h) rfl dX3_missedOf_8 ?_
      refine lv_icmp_ge (tgt := 52) hx hb dX3_missedOf_11 (by decide) (fun c_1 => ?_) (fun c_1 => ?_)
      · have c_1n : cnt ≤ i := (k_leI (a := cnt) (b := i) (by omega) (by omega)).mp c_1
        refine lv_iload_n hx hb dX3_missedOf_52 rfl (lv_at hl 1 rfl) ?_
        exact k_iret () [0, 1, 2, 3] hx hb hr hlk hP hD hS trivial rfl rfl rfl (Nat.le_of_ble_eq_true rfl) (Nat.le_of_ble_eq_true rfl) dX3_missedOf_53
      · have c_1n : i < cnt := Nat.not_le.mp (fun h => c_1 ((k_leI (a := cnt) (b := i) (by omega) (by omega)).mpr h))
        refine lv_iload_n hx hb dX3_missedOf_14 rfl (lv_at hl 1 rfl) ?_
        refine lv_aload_n hx hb dX3_missedOf_15 rfl (lv_at hl 2 rfl) ?_
        refine va_get (ci := 3) (C := RX3) (T := TX3) (N := 4) hx hb hts inlX3 hown hKW.1 hP 0 rfl rfl 2 (by decide) (hts _ wd_4_18) (fun _ h => h) rfl dX3_missedOf_16 ?_
        refine lv_iload hx hb dX3_missedOf_19 (lv_at hl 0 rfl) ?_
        refine va_iald hx hb hKW.1 hP 2 0 rfl rfl (vp_in_nI (by omega) (by decide)) dX3_missedOf_21 ?_
        refine lv_topi (fun x_2 ex_2 => ?_)
        refine lv_iload_n hx hb dX3_missedOf_22 rfl (lv_at hl 3 rfl) ?_
        refine lv_icmp_ne (tgt := 40) hx hb dX3_missedOf_23 (by decide) (fun c_3 => ?_) (fun c_3 => ?_)
        · refine lv_iconst (v := 0) hx hb dX3_missedOf_40 (by decide) ?_
          refine k_SNi [] [0, 1, 2, 3] (wr := [(a 0, .inr (3, [.int (nI cnt), .ref (a 1), .ref (a 2), .ref (a 3)])), (a 1, .inl (gI g, 40, .inl f0)), (a 2, .inl (gI g, 40, .inl f1)), (a 3, .inl (gI g, 40, .inl f2))]) hx hb hml hown hts hKW hP hD hS hA hl.1 (c_X11_oneIf l g _ 0 ) wd_14_14 wd_1_2 nw_23 wd_14_13 yd_X11_oneIf ⟨(Nat.le_of_ble_eq_true rfl), (Nat.le_of_ble_eq_true rfl)⟩ rfl rfl rfl rfl (by decide) rfl (Nat.le_of_ble_eq_true rfl) dX3_missedOf_41 ⟨(Nat.le_of_ble_eq_true rfl), (Nat.le_of_ble_eq_true rfl)⟩ (fun r_4 u_5 H locs hw_6 hP hD hS => ?_)
          have hP : va_P g.1 vwCl [(a 0, .inr (3, [.int (nI cnt), .ref (a 1), .ref (a 2), .ref (a 3)])), (a 1, .inl (gI g, 40, .inl f0)), (a 2, .inl (gI g, 40, .inl f1)), (a 3, .inl (gI g, 40, .inl f2))] H := hP
          have hD : va_D A [(a 0, .inr (3, [.int (nI cnt), .ref (a 1), .ref (a 2), .ref (a 3)])), (a 1, .inl (gI g, 40, .inl f0)), (a 2, .inl (gI g, 40, .inl f1)), (a 3, .inl (gI g, 40, .inl f2))] := hD
          refine lv_iadd hx hb dX3_missedOf_44 ?_
          refine lv_topi (fun x_7 ex_7 => ?_)
          refine lv_istore_n (lv' := [(3, .int x_7), (4, .int (nI i)), (0, .ref (a 0)), (1, .int x), (2, .int y)]) hx hb dX3_missedOf_45 rfl hl (by decide) rfl (fun ls hl => ?_)
          refine lv_iinc (v := nI (i + 1)) (lv' := [(4, .int (nI (i + 1))), (3, .int x_7), (0, .ref (a 0)), (1, .int x), (2, .int y)]) hx hb dX3_missedOf_46 hl (k := 1) rfl (nI_add i 1) (by decide) rfl (fun ls hl => ?_)
          refine lv_goto (tgt := 5) hx hb dX3_missedOf_49 (by decide) ?_
          exact ih5 (i + 1) x_7 (by omega) (by first | assumption | omega) H locs (hP.sub [0, 1, 2, 3] rfl) (hD.sub [0, 1, 2, 3] (by decide) rfl) hS ls (lv_sub hl [0, 1, 2, 3, 4] rfl)
        · refine lv_aload_n hx hb dX3_missedOf_26 rfl (lv_at hl 2 rfl) ?_
          refine lv_iload hx hb dX3_missedOf_27 (lv_at hl 0 rfl) ?_
          refine lv_iload_n hx hb dX3_missedOf_29 rfl (lv_at hl 4 rfl) ?_
          refine k_Vi [0, 1, 2, 3] [] 0 3 (wr := []) hx hb hml hown hts hKW hP hD hS hA hl.1 (c_X3_isMissedFrom l g _ a cnt f0 f1 f2 i y (by first | assumption | omega | decide) (by first | assumption | omega | decide)) rfl rfl rfl wd_34_6 wd_3_5 wd_34_3 wd_34_4 wd_34_5 yd_X3_isMissedFrom ⟨(Nat.le_of_ble_eq_true rfl), (Nat.le_of_ble_eq_true rfl)⟩ rfl rfl rfl rfl (by decide) rfl (Nat.le_of_ble_eq_true rfl) dX3_missedOf_30 ⟨(Nat.le_of_ble_eq_true rfl), (Nat.le_of_ble_eq_true rfl)⟩ (fun r_8 u_9 H locs hw_10 hP hD hS => ?_)
          have hP : va_P g.1 vwCl [(a 0, .inr (3, [.int (nI cnt), .ref (a 1), .ref (a 2), .ref (a 3)])), (a 1, .inl (gI g, 40, .inl f0)), (a 2, .inl (gI g, 40, .inl f1)), (a 3, .inl (gI g, 40, .inl f2))] H := hP
          have hD : va_D A [(a 0, .inr (3, [.int (nI cnt), .ref (a 1), .ref (a 2), .ref (a 3)])), (a 1, .inl (gI g, 40, .inl f0)), (a 2, .inl (gI g, 40, .inl f1)), (a 3, .inl (gI g, 40, .inl f2))] := hD
          rcases (show r_8 = 1 ∨ r_8 = 0 from hw_10) with rfl | rfl <;> clear hw_10
          · refine lv_if_eq (tgt := 40) hx hb dX3_missedOf_33 (by decide) (fun c => absurd c (by decide)) (fun _ => ?_)
            refine lv_iconst (v := 1) hx hb dX3_missedOf_36 (by decide) ?_
            refine lv_goto (tgt := 41) hx hb dX3_missedOf_37 (by decide) ?_
            refine k_SNi [] [0, 1, 2, 3] (wr := [(a 0, .inr (3, [.int (nI cnt), .ref (a 1), .ref (a 2), .ref (a 3)])), (a 1, .inl (gI g, 40, .inl f0)), (a 2, .inl (gI g, 40, .inl f1)), (a 3, .inl (gI g, 40, .inl f2))]) hx hb hml hown hts hKW hP hD hS hA hl.1 (c_X11_oneIf l g _ 1 ) wd_14_14 wd_1_2 nw_23 wd_14_13 yd_X11_oneIf ⟨(Nat.le_of_ble_eq_true rfl), (Nat.le_of_ble_eq_true rfl)⟩ rfl rfl rfl rfl (by decide) rfl (Nat.le_of_ble_eq_true rfl) dX3_missedOf_41 ⟨(Nat.le_of_ble_eq_true rfl), (Nat.le_of_ble_eq_true rfl)⟩ (fun r_11 u_12 H locs hw_13 hP hD hS => ?_)
            have hP : va_P g.1 vwCl [(a 0, .inr (3, [.int (nI cnt), .ref (a 1), .ref (a 2), .ref (a 3)])), (a 1, .inl (gI g, 40, .inl f0)), (a 2, .inl (gI g, 40, .inl f1)), (a 3, .inl (gI g, 40, .inl f2))] H := hP
            have hD : va_D A [(a 0, .inr (3, [.int (nI cnt), .ref (a 1), .ref (a 2), .ref (a 3)])), (a 1, .inl (gI g, 40, .inl f0)), (a 2, .inl (gI g, 40, .inl f1)), (a 3, .inl (gI g, 40, .inl f2))] := hD
            refine lv_iadd hx hb dX3_missedOf_44 ?_
            refine lv_topi (fun x_14 ex_14 => ?_)
            refine lv_istore_n (lv' := [(3, .int x_14), (4, .int (nI i)), (0, .ref (a 0)), (1, .int x), (2, .int y)]) hx hb dX3_missedOf_45 rfl hl (by decide) rfl (fun ls hl => ?_)
            refine lv_iinc (v := nI (i + 1)) (lv' := [(4, .int (nI (i + 1))), (3, .int x_14), (0, .ref (a 0)), (1, .int x), (2, .int y)]) hx hb dX3_missedOf_46 hl (k := 1) rfl (nI_add i 1) (by decide) rfl (fun ls hl => ?_)
            refine lv_goto (tgt := 5) hx hb dX3_missedOf_49 (by decide) ?_
            exact ih5 (i + 1) x_14 (by omega) (by first | assumption | omega) H locs (hP.sub [0, 1, 2, 3] rfl) (hD.sub [0, 1, 2, 3] (by decide) rfl) hS ls (lv_sub hl [0, 1, 2, 3, 4] rfl)
          · refine lv_if_eq (tgt := 40) hx hb dX3_missedOf_33 (by decide) (fun _ => ?_) (fun c => absurd c (by decide))
            refine lv_iconst (v := 0) hx hb dX3_missedOf_40 (by decide) ?_
            refine k_SNi [] [0, 1, 2, 3] (wr := [(a 0, .inr (3, [.int (nI cnt), .ref (a 1), .ref (a 2), .ref (a 3)])), (a 1, .inl (gI g, 40, .inl f0)), (a 2, .inl (gI g, 40, .inl f1)), (a 3, .inl (gI g, 40, .inl f2))]) hx hb hml hown hts hKW hP hD hS hA hl.1 (c_X11_oneIf l g _ 0 ) wd_14_14 wd_1_2 nw_23 wd_14_13 yd_X11_oneIf ⟨(Nat.le_of_ble_eq_true rfl), (Nat.le_of_ble_eq_true rfl)⟩ rfl rfl rfl rfl (by decide) rfl (Nat.le_of_ble_eq_true rfl) dX3_missedOf_41 ⟨(Nat.le_of_ble_eq_true rfl), (Nat.le_of_ble_eq_true rfl)⟩ (fun r_15 u_16 H locs hw_17 hP hD hS => ?_)
            have hP : va_P g.1 vwCl [(a 0, .inr (3, [.int (nI cnt), .ref (a 1), .ref (a 2), .ref (a 3)])), (a 1, .inl (gI g, 40, .inl f0)), (a 2, .inl (gI g, 40, .inl f1)), (a 3, .inl (gI g, 40, .inl f2))] H := hP
            have hD : va_D A [(a 0, .inr (3, [.int (nI cnt), .ref (a 1), .ref (a 2), .ref (a 3)])), (a 1, .inl (gI g, 40, .inl f0)), (a 2, .inl (gI g, 40, .inl f1)), (a 3, .inl (gI g, 40, .inl f2))] := hD
            refine lv_iadd hx hb dX3_missedOf_44 ?_
            refine lv_topi (fun x_18 ex_18 => ?_)
            refine lv_istore_n (lv' := [(3, .int x_18), (4, .int (nI i)), (0, .ref (a 0)), (1, .int x), (2, .int y)]) hx hb dX3_missedOf_45 rfl hl (by decide) rfl (fun ls hl => ?_)
            refine lv_iinc (v := nI (i + 1)) (lv' := [(4, .int (nI (i + 1))), (3, .int x_18), (0, .ref (a 0)), (1, .int x), (2, .int y)]) hx hb dX3_missedOf_46 hl (k := 1) rfl (nI_add i 1) (by decide) rfl (fun ls hl => ?_)
            refine lv_goto (tgt := 5) hx hb dX3_missedOf_49 (by decide) ?_
            exact ih5 (i + 1) x_18 (by omega) (by first | assumption | omega) H locs (hP.sub [0, 1, 2, 3] rfl) (hD.sub [0, 1, 2, 3] (by decide) rfl) hS ls (lv_sub hl [0, 1, 2, 3, 4] rfl)
  exact L5 (cnt - 0 + 1) 0 0 (Nat.lt_succ_self _) (by first | assumption | omega) H locs (hP.sub [0, 1, 2, 3] rfl) (hD.sub [0, 1, 2, 3] (by decide) rfl) hS ls (lv_sub hl [0, 1, 2, 3, 4] rfl)
theorem dX3_firstMissedOf_0 : decode cX3_firstMissedOf 0 = .ok (.iconst 0, 1) := by decide +kernel
theorem dX3_firstMissedOf_1 : decode cX3_firstMissedOf 1 = .ok (.istore_n 3, 1) := by decide +kernel
theorem dX3_firstMissedOf_2 : decode cX3_firstMissedOf 2 = .ok (.iload_n 3, 1) := by decide +kernel
theorem dX3_firstMissedOf_3 : decode cX3_firstMissedOf 3 = .ok (.aload_n 0, 1) := by decide +kernel
theorem dX3_firstMissedOf_4 : decode cX3_firstMissedOf 4 = .ok (.getfield 21, 3) := by decide +kernel
theorem dX3_firstMissedOf_7 : decode cX3_firstMissedOf 7 = .ok (.if_icmp .ge 35, 3) := by decide +kernel
theorem dX3_firstMissedOf_42 : decode cX3_firstMissedOf 42 = .ok (.iconst (-1), 1) := by decide +kernel
theorem dX3_firstMissedOf_43 : decode cX3_firstMissedOf 43 = .ok (.ireturn, 1) := by decide +kernel
theorem dX3_firstMissedOf_10 : decode cX3_firstMissedOf 10 = .ok (.aload_n 0, 1) := by decide +kernel
theorem dX3_firstMissedOf_11 : decode cX3_firstMissedOf 11 = .ok (.getfield 15, 3) := by decide +kernel
theorem dX3_firstMissedOf_14 : decode cX3_firstMissedOf 14 = .ok (.iload_n 3, 1) := by decide +kernel
theorem dX3_firstMissedOf_15 : decode cX3_firstMissedOf 15 = .ok (.iaload, 1) := by decide +kernel
theorem dX3_firstMissedOf_16 : decode cX3_firstMissedOf 16 = .ok (.iload_n 1, 1) := by decide +kernel
theorem dX3_firstMissedOf_17 : decode cX3_firstMissedOf 17 = .ok (.if_icmp .ne 19, 3) := by decide +kernel
theorem dX3_firstMissedOf_36 : decode cX3_firstMissedOf 36 = .ok (.iinc 3 1, 3) := by decide +kernel
theorem dX3_firstMissedOf_39 : decode cX3_firstMissedOf 39 = .ok (.goto (-37), 3) := by decide +kernel
theorem dX3_firstMissedOf_20 : decode cX3_firstMissedOf 20 = .ok (.aload_n 0, 1) := by decide +kernel
theorem dX3_firstMissedOf_21 : decode cX3_firstMissedOf 21 = .ok (.iload_n 3, 1) := by decide +kernel
theorem dX3_firstMissedOf_22 : decode cX3_firstMissedOf 22 = .ok (.iload_n 2, 1) := by decide +kernel
theorem dX3_firstMissedOf_23 : decode cX3_firstMissedOf 23 = .ok (.invokevirtual 38, 3) := by decide +kernel
theorem dX3_firstMissedOf_26 : decode cX3_firstMissedOf 26 = .ok (.ifCond .eq 10, 3) := by decide +kernel
theorem dX3_firstMissedOf_29 : decode cX3_firstMissedOf 29 = .ok (.aload_n 0, 1) := by decide +kernel
theorem dX3_firstMissedOf_30 : decode cX3_firstMissedOf 30 = .ok (.getfield 9, 3) := by decide +kernel
theorem dX3_firstMissedOf_33 : decode cX3_firstMissedOf 33 = .ok (.iload_n 3, 1) := by decide +kernel
theorem dX3_firstMissedOf_34 : decode cX3_firstMissedOf 34 = .ok (.iaload, 1) := by decide +kernel
theorem dX3_firstMissedOf_35 : decode cX3_firstMissedOf 35 = .ok (.ireturn, 1) := by decide +kernel
set_option maxHeartbeats 8000000 in
set_option maxRecDepth 100000 in
theorem c_X3_firstMissedOf (l : Launch) (g : kG) (sz : Nat) (a : Nat → Nat) (cnt : Nat) (f0 : Nat → Int32) (f1 : Nat → Int32) (f2 : Nat → Int32) (x : Int32) (y : Int32) (hc : cnt ≤ 40) : kMi l g yX3_firstMissedOf cX3_firstMissedOf 4 (some .int) 2 0 0 [.ref (a 0), .int x, .int y] sz [(a 0, .inr (3, [.int (nI cnt), .ref (a 1), .ref (a 2), .ref (a 3)])), (a 1, .inl (gI g, 40, .inl f0)), (a 2, .inl (gI g, 40, .inl f1)), (a 3, .inl (gI g, 40, .inl f2))] (fun (r : Int32) (u : Unit) => True) (fun (u : Unit) => ([(a 0, .inr (3, [.int (nI cnt), .ref (a 1), .ref (a 2), .ref (a 3)])), (a 1, .inl (gI g, 40, .inl f0)), (a 2, .inl (gI g, 40, .inl f1)), (a 3, .inl (gI g, 40, .inl f2))] : va_W)) := by
  refine kMi.of (by decide) (Nat.le_of_ble_eq_true rfl) (fun p e s m below meth c A hx hb hr hml hown hts hlk hnm hKW hP hD hS hA ls hl => ?_)
  have hown : s.vm.findClass RX3 = some m.cls := hown
  have hl : lv_has ls 4 [(0, .ref (a 0)), (1, .int x), (2, .int y)] := hl
  refine k_hide hP hS (fun H locs hP hS => ?_)
  refine lv_iconst (v := 0) hx hb dX3_firstMissedOf_0 (by decide) ?_
  refine lv_istore_n (lv' := [(3, .int 0), (0, .ref (a 0)), (1, .int x), (2, .int y)]) hx hb dX3_firstMissedOf_1 rfl hl (by decide) rfl (fun ls hl => ?_)
  have L2 : ∀ (n2 : Nat) (i : Nat) (hfuel2 : cnt - i < n2) (hi : i ≤ cnt) (H : Heap) (locs : List Loc) (hP : va_P g.1 vwCl [(a 0, .inr (3, [.int (nI cnt), .ref (a 1), .ref (a 2), .ref (a 3)])), (a 1, .inl (gI g, 40, .inl f0)), (a 2, .inl (gI g, 40, .inl f1)), (a 3, .inl (gI g, 40, .inl f2))] H) (hD : va_D A [(a 0, .inr (3, [.int (nI cnt), .ref (a 1), .ref (a 2), .ref (a 3)])), (a 1, .inl (gI g, 40, .inl f0)), (a 2, .inl (gI g, 40, .inl f1)), (a 3, .inl (gI g, 40, .inl f2))]) (hS : va_S A s.heap H locs) (ls : Array Slot) (hl : lv_has ls 4 [(3, .int (nI i)), (0, .ref (a 0)), (1, .int x), (2, .int y)]), W p l e (kR 2 0 0) s m ([.ref (a 0), .int x, .int y] : List Value).toArray below meth c H locs 0 0 (kQi g A below ([.ref (a 0), .int x, .int y] : List Value).toArray s 0 0 (fun (r : Int32) (u : Unit) => True) (fun (u : Unit) => ([(a 0, .inr (3, [.int (nI cnt), .ref (a 1), .ref (a 2), .ref (a 3)])), (a 1, .inl (gI g, 40, .inl f0)), (a 2, .inl (gI g, 40, .inl f1)), (a 3, .inl (gI g, 40, .inl f2))] : va_W))) (F0 m 2 ls []) := by
    intro n2
    induction n2 with
    | zero => intro i hfuel2; exact absurd hfuel2 (Nat.not_lt_zero _)
    | succ n2 ih2 =>
      intro i hfuel2 hi H locs hP hD hS ls hl
      refine lv_iload_n hx hb dX3_firstMissedOf_2 rfl (lv_at hl 0 rfl) ?_
      refine lv_aload_n hx hb dX3_firstMissedOf_3 rfl (lv_at hl 1 rfl) ?_
      refine va_get (ci := 3) (C := RX3) (T := TX3) (N := 4) hx hb hts inlX3 hown hKW.1 hP 0 rfl rfl 0 (by decide) (hts _ wd_9_16) (fun _ h => h) rfl dX3_firstMissedOf_4 ?_
      refine lv_icmp_ge (tgt := 42) hx hb dX3_firstMissedOf_7 (by decide) (fun c_1 => ?_) (fun c_1 => ?_)
      · have c_1n : cnt ≤ i := (k_leI (a := cnt) (b := i) (by omega) (by omega)).mp c_1
        refine lv_iconst (v := (-1)) hx hb dX3_firstMissedOf_42 (by decide) ?_
        exact k_iret () [0, 1, 2, 3] hx hb hr hlk hP hD hS trivial rfl rfl rfl (Nat.le_of_ble_eq_true rfl) (Nat.le_of_ble_eq_true rfl) dX3_firstMissedOf_43
      · have c_1n : i < cnt := Nat.not_le.mp (fun h => c_1 ((k_leI (a := cnt) (b := i) (by omega) (by omega)).mpr h))
        refine lv_aload_n hx hb dX3_firstMissedOf_10 rfl (lv_at hl 1 rfl) ?_
        refine va_get (ci := 3) (C := RX3) (T := TX3) (N := 4) hx hb hts inlX3 hown hKW.1 hP 0 rfl rfl 2 (by decide) (hts _ wd_4_18) (fun _ h => h) rfl dX3_firstMissedOf_11 ?_
        refine lv_iload_n hx hb dX3_firstMissedOf_14 rfl (lv_at hl 0 rfl) ?_
        refine va_iald hx hb hKW.1 hP 2 0 rfl rfl (vp_in_nI (by omega) (by decide)) dX3_firstMissedOf_15 ?_
        refine lv_topi (fun x_2 ex_2 => ?_)
        refine lv_iload_n hx hb dX3_firstMissedOf_16 rfl (lv_at hl 2 rfl) ?_
        refine lv_icmp_ne (tgt := 36) hx hb dX3_firstMissedOf_17 (by decide) (fun c_3 => ?_) (fun c_3 => ?_)
        · refine lv_iinc (v := nI (i + 1)) (lv' := [(3, .int (nI (i + 1))), (0, .ref (a 0)), (1, .int x), (2, .int y)]) hx hb dX3_firstMissedOf_36 hl (k := 0) rfl (nI_add i 1) (by decide) rfl (fun ls hl => ?_)
          refine lv_goto (tgt := 2) hx hb dX3_firstMissedOf_39 (by decide) ?_
          exact ih2 (i + 1) (by omega) (by first | assumption | omega) H locs (hP.sub [0, 1, 2, 3] rfl) (hD.sub [0, 1, 2, 3] (by decide) rfl) hS ls (lv_sub hl [0, 1, 2, 3] rfl)
        · refine lv_aload_n hx hb dX3_firstMissedOf_20 rfl (lv_at hl 1 rfl) ?_
          refine lv_iload_n hx hb dX3_firstMissedOf_21 rfl (lv_at hl 0 rfl) ?_
          refine lv_iload_n hx hb dX3_firstMissedOf_22 rfl (lv_at hl 3 rfl) ?_
          refine k_Vi [0, 1, 2, 3] [] 0 3 (wr := []) hx hb hml hown hts hKW hP hD hS hA hl.1 (c_X3_isMissedFrom l g _ a cnt f0 f1 f2 i y (by first | assumption | omega | decide) (by first | assumption | omega | decide)) rfl rfl rfl wd_34_6 wd_3_5 wd_34_3 wd_34_4 wd_34_5 yd_X3_isMissedFrom ⟨(Nat.le_of_ble_eq_true rfl), (Nat.le_of_ble_eq_true rfl)⟩ rfl rfl rfl rfl (by decide) rfl (Nat.le_of_ble_eq_true rfl) dX3_firstMissedOf_23 ⟨(Nat.le_of_ble_eq_true rfl), (Nat.le_of_ble_eq_true rfl)⟩ (fun r_4 u_5 H locs hw_6 hP hD hS => ?_)
          have hP : va_P g.1 vwCl [(a 0, .inr (3, [.int (nI cnt), .ref (a 1), .ref (a 2), .ref (a 3)])), (a 1, .inl (gI g, 40, .inl f0)), (a 2, .inl (gI g, 40, .inl f1)), (a 3, .inl (gI g, 40, .inl f2))] H := hP
          have hD : va_D A [(a 0, .inr (3, [.int (nI cnt), .ref (a 1), .ref (a 2), .ref (a 3)])), (a 1, .inl (gI g, 40, .inl f0)), (a 2, .inl (gI g, 40, .inl f1)), (a 3, .inl (gI g, 40, .inl f2))] := hD
          rcases (show r_4 = 1 ∨ r_4 = 0 from hw_6) with rfl | rfl <;> clear hw_6
          · refine lv_if_eq (tgt := 36) hx hb dX3_firstMissedOf_26 (by decide) (fun c => absurd c (by decide)) (fun _ => ?_)
            refine lv_aload_n hx hb dX3_firstMissedOf_29 rfl (lv_at hl 1 rfl) ?_
            refine va_get (ci := 3) (C := RX3) (T := TX3) (N := 4) hx hb hts inlX3 hown hKW.1 hP 0 rfl rfl 1 (by decide) (hts _ wd_4_17) (fun _ h => h) rfl dX3_firstMissedOf_30 ?_
            refine lv_iload_n hx hb dX3_firstMissedOf_33 rfl (lv_at hl 0 rfl) ?_
            refine va_iald hx hb hKW.1 hP 1 0 rfl rfl (vp_in_nI (by omega) (by decide)) dX3_firstMissedOf_34 ?_
            refine lv_topi (fun x_7 ex_7 => ?_)
            exact k_iret () [0, 1, 2, 3] hx hb hr hlk hP hD hS trivial rfl rfl rfl (Nat.le_of_ble_eq_true rfl) (Nat.le_of_ble_eq_true rfl) dX3_firstMissedOf_35
          · refine lv_if_eq (tgt := 36) hx hb dX3_firstMissedOf_26 (by decide) (fun _ => ?_) (fun c => absurd c (by decide))
            refine lv_iinc (v := nI (i + 1)) (lv' := [(3, .int (nI (i + 1))), (0, .ref (a 0)), (1, .int x), (2, .int y)]) hx hb dX3_firstMissedOf_36 hl (k := 0) rfl (nI_add i 1) (by decide) rfl (fun ls hl => ?_)
            refine lv_goto (tgt := 2) hx hb dX3_firstMissedOf_39 (by decide) ?_
            exact ih2 (i + 1) (by omega) (by first | assumption | omega) H locs (hP.sub [0, 1, 2, 3] rfl) (hD.sub [0, 1, 2, 3] (by decide) rfl) hS ls (lv_sub hl [0, 1, 2, 3] rfl)
  exact L2 (cnt - 0 + 1) 0 (Nat.lt_succ_self _) (by first | assumption | omega) H locs (hP.sub [0, 1, 2, 3] rfl) (hD.sub [0, 1, 2, 3] (by decide) rfl) hS ls (lv_sub hl [0, 1, 2, 3] rfl)
