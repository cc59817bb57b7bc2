abbrev NI (nn : Nat → Nat) (F : Nat → Nat → Int32) : Prop := nn 0 ≤ 5 ∧ nn 1 ≤ 7 ∧ nn 2 ≤ 10 ∧ nn 3 ≤ 10 ∧ nn 4 ≤ 40 ∧ nn 5 ≤ 40 ∧ nn 6 ≤ 14 ∧ (1 ≤ nn 7 ∧ nn 7 ≤ 60) ∧ (∀ j, j < 7 → (0 : Int) ≤ (F 3 j).toInt ∧ (F 3 j).toInt ≤ 3) ∧ (∀ j, j < 10 → (0 : Int) ≤ (F 8 j).toInt ∧ (F 8 j).toInt ≤ 60) ∧ (∀ j, j < 10 → (0 : Int) ≤ (F 9 j).toInt ∧ (F 9 j).toInt ≤ 60) ∧ (∀ j, j < 10 → (0 : Int) ≤ (F 12 j).toInt ∧ (F 12 j).toInt ≤ 9)
theorem k_nrm {r : Int32} {n : Nat} (h : r = -1 ∨ ∃ j : Nat, j < n ∧ r = nI j) (h1 : ¬ r = -1) : ∃ j : Nat, j < n ∧ r = nI j := h.resolve_left h1
theorem k_dn {x y : Int32} (e : x + Int32.ofInt (-1) = y) (h : 0 ≤ x.toInt) : y.toInt = x.toInt - 1 := by
  have := Int32.toInt_lt x
  rw [← e, Int32.toInt_add, show (Int32.ofInt (-1)).toInt = -1 from rfl]
  exact Int.bmod_eq_of_le (by omega) (by omega)
theorem dX5_addForHand_0 : decode cX5_addForHand 0 = .ok (.iconst 1, 1) := by decide +kernel
theorem dX5_addForHand_1 : decode cX5_addForHand 1 = .ok (.iload_n 1, 1) := by decide +kernel
theorem dX5_addForHand_2 : decode cX5_addForHand 2 = .ok (.ishl, 1) := by decide +kernel
theorem dX5_addForHand_3 : decode cX5_addForHand 3 = .ok (.istore_n 3, 1) := by decide +kernel
theorem dX5_addForHand_4 : decode cX5_addForHand 4 = .ok (.iconst 0, 1) := by decide +kernel
theorem dX5_addForHand_5 : decode cX5_addForHand 5 = .ok (.istore 4, 2) := by decide +kernel
theorem dX5_addForHand_7 : decode cX5_addForHand 7 = .ok (.iload 4, 2) := by decide +kernel
theorem dX5_addForHand_9 : decode cX5_addForHand 9 = .ok (.iload_n 3, 1) := by decide +kernel
theorem dX5_addForHand_10 : decode cX5_addForHand 10 = .ok (.if_icmp .ge 21, 3) := by decide +kernel
theorem dX5_addForHand_31 : decode cX5_addForHand 31 = .ok (.return_, 1) := by decide +kernel
theorem dX5_addForHand_13 : decode cX5_addForHand 13 = .ok (.aload_n 0, 1) := by decide +kernel
theorem dX5_addForHand_14 : decode cX5_addForHand 14 = .ok (.iload_n 3, 1) := by decide +kernel
theorem dX5_addForHand_15 : decode cX5_addForHand 15 = .ok (.iload 4, 2) := by decide +kernel
theorem dX5_addForHand_17 : decode cX5_addForHand 17 = .ok (.iadd, 1) := by decide +kernel
theorem dX5_addForHand_18 : decode cX5_addForHand 18 = .ok (.aload_n 0, 1) := by decide +kernel
theorem dX5_addForHand_19 : decode cX5_addForHand 19 = .ok (.iload 4, 2) := by decide +kernel
theorem dX5_addForHand_21 : decode cX5_addForHand 21 = .ok (.iaload, 1) := by decide +kernel
theorem dX5_addForHand_22 : decode cX5_addForHand 22 = .ok (.iload_n 2, 1) := by decide +kernel
theorem dX5_addForHand_23 : decode cX5_addForHand 23 = .ok (.iadd, 1) := by decide +kernel
theorem dX5_addForHand_24 : decode cX5_addForHand 24 = .ok (.iastore, 1) := by decide +kernel
theorem dX5_addForHand_25 : decode cX5_addForHand 25 = .ok (.iinc 4 1, 3) := by decide +kernel
theorem dX5_addForHand_28 : decode cX5_addForHand 28 = .ok (.goto (-21), 3) := by decide +kernel
set_option maxHeartbeats 8000000 in
set_option maxRecDepth 100000 in
theorem c_X5_addForHand (l : Launch) (g : kG) (sz : Nat) (q : Nat) (j : Nat) (f : Nat → Int32) (x : Int32) (hj : j < 7) : kMv l g yX5_addForHand cX5_addForHand 5 none 1 0 0 [.ref q, .int (nI j), .int x] sz [(q, .inl (gI g, 128, .inl f))] (fun (u : (Nat → Int32)) => True) (fun (u : (Nat → Int32)) => ([(q, .inl (gI g, 128, .inl u))] : va_W)) := by
  refine kMv.of (by decide) (Nat.le_of_ble_eq_true rfl) (fun p e s m below meth c A hx hb hr hml hown hts hlk hnm hKW hP hD hS hA ls hl => ?_)
  have hown : s.vm.findClass RX5 = some m.cls := hown
  have hl : lv_has ls 5 [(0, .ref q), (1, .int (nI j)), (2, .int x)] := hl
  refine k_hide hP hS (fun H locs hP hS => ?_)
  refine lv_iconst (v := 1) hx hb dX5_addForHand_0 (by decide) ?_
  refine lv_iload_n hx hb dX5_addForHand_1 rfl (lv_at hl 1 rfl) ?_
  obtain ⟨B, hB, eB⟩ := k_shl7 hj
  refine lv_ishl hx hb dX5_addForHand_2 ?_
  refine k_top (y := nI B) eB ?_
  refine lv_istore_n (lv' := [(3, .int (nI B)), (0, .ref q), (1, .int (nI j)), (2, .int x)]) hx hb dX5_addForHand_3 rfl hl (by decide) rfl (fun ls hl => ?_)
  refine lv_iconst (v := 0) hx hb dX5_addForHand_4 (by decide) ?_
  refine lv_istore (lv' := [(4, .int 0), (3, .int (nI B)), (0, .ref q), (1, .int (nI j)), (2, .int x)]) hx hb dX5_addForHand_5 hl (by decide) rfl (fun ls hl => ?_)
  have L7 : ∀ (n7 : Nat) (i : Nat) (ga : Nat → Int32) (hfuel7 : B - i < n7) (hi : i ≤ B) (H : Heap) (locs : List Loc) (hP : va_P g.1 vwCl [(q, .inl (gI g, 128, .inl ga))] H) (hD : va_D A [(q, .inl (gI g, 128, .inl ga))]) (hS : va_S A s.heap H locs) (ls : Array Slot) (hl : lv_has ls 5 [(4, .int (nI i)), (3, .int (nI B)), (0, .ref q), (1, .int (nI j)), (2, .int x)]), W p l e (kR 1 0 0) s m ([.ref q, .int (nI j), .int x] : List Value).toArray below meth c H locs 0 0 (kQv g A below ([.ref q, .int (nI j), .int x] : List Value).toArray s 0 0 (fun (u : (Nat → Int32)) => True) (fun (u : (Nat → Int32)) => ([(q, .inl (gI g, 128, .inl u))] : va_W))) (F0 m 7 ls []) := by
    intro n7
    induction n7 with
    | zero => intro i ga hfuel7; exact absurd hfuel7 (Nat.not_lt_zero _)
    | succ n7 ih7 =>
      intro i ga hfuel7 hi H locs hP hD hS ls hl
      refine lv_iload hx hb dX5_addForHand_7 (lv_at hl 0 rfl) ?_
      refine lv_iload_n hx hb dX5_addForHand_9 rfl (lv_at hl 1 rfl) ?_
      refine lv_icmp_ge (tgt := 31) hx hb dX5_addForHand_10 (by decide) (fun c_1 => ?_) (fun c_1 => ?_)
      · have c_1n : B ≤ i := (k_leI (a := B) (b := i) (by omega) (by omega)).mp c_1
        exact k_vret ga [0] hx hb hr hlk hP hD hS trivial rfl rfl rfl (Nat.le_of_ble_eq_true rfl) (Nat.le_of_ble_eq_true rfl) dX5_addForHand_31
      · have c_1n : i < B := Nat.not_le.mp (fun h => c_1 ((k_leI (a := B) (b := i) (by omega) (by omega)).mpr h))
        refine lv_aload_n hx hb dX5_addForHand_13 rfl (lv_at hl 2 rfl) ?_
        refine lv_iload_n hx hb dX5_addForHand_14 rfl (lv_at hl 1 rfl) ?_
        refine lv_iload hx hb dX5_addForHand_15 (lv_at hl 0 rfl) ?_
        refine lv_iadd hx hb dX5_addForHand_17 ?_
        refine k_top (y := nI (B + i)) (nI_add B i) ?_
        refine lv_aload_n hx hb dX5_addForHand_18 rfl (lv_at hl 2 rfl) ?_
        refine lv_iload hx hb dX5_addForHand_19 (lv_at hl 0 rfl) ?_
        refine va_iald hx hb hKW.1 hP 0 0 rfl rfl (vp_in_nI (by omega) (by decide)) dX5_addForHand_21 ?_
        refine lv_topi (fun x_2 ex_2 => ?_)
        refine lv_iload_n hx hb dX5_addForHand_22 rfl (lv_at hl 4 rfl) ?_
        refine lv_iadd hx hb dX5_addForHand_23 ?_
        refine lv_topi (fun x_3 ex_3 => ?_)
        refine va_iast hx hb hKW.1 hP hD hS 0 0 rfl rfl (vp_in_nI (by omega) (by decide)) dX5_addForHand_24 (fun H locs hP hD hS => ?_)
        have hP : va_P g.1 vwCl [(q, .inl (gI g, 128, .inl (upd ga (nI (B + i)).toNatClampNeg x_3)))] H := hP
        have hD : va_D A [(q, .inl (gI g, 128, .inl (upd ga (nI (B + i)).toNatClampNeg x_3)))] := hD
        obtain ⟨f_4, ef_4⟩ : ∃ zz_ : Nat → Int32, zz_ = upd ga (nI (B + i)).toNatClampNeg x_3 := ⟨_, rfl⟩
        rw [← ef_4] at hP hD
        refine lv_iinc (v := nI (i + 1)) (lv' := [(4, .int (nI (i + 1))), (3, .int (nI B)), (0, .ref q), (1, .int (nI j)), (2, .int x)]) hx hb dX5_addForHand_25 hl (k := 0) rfl (nI_add i 1) (by decide) rfl (fun ls hl => ?_)
        refine lv_goto (tgt := 7) hx hb dX5_addForHand_28 (by decide) ?_
        exact ih7 (i + 1) f_4 (by omega) (by first | assumption | omega) H locs (hP.sub [0] rfl) (hD.sub [0] (by decide) rfl) hS ls (lv_sub hl [0, 1, 2, 3, 4] rfl)
  exact L7 (B - 0 + 1) 0 f (Nat.lt_succ_self _) (by first | assumption | omega) H locs (hP.sub [0] rfl) (hD.sub [0] (by decide) rfl) hS ls (lv_sub hl [0, 1, 2, 3, 4] rfl)
theorem dX5_sumWorths_0 : decode cX5_sumWorths 0 = .ok (.iconst 0, 1) := by decide +kernel
theorem dX5_sumWorths_1 : decode cX5_sumWorths 1 = .ok (.istore_n 2, 1) := by decide +kernel
theorem dX5_sumWorths_2 : decode cX5_sumWorths 2 = .ok (.iload_n 2, 1) := by decide +kernel
theorem dX5_sumWorths_3 : decode cX5_sumWorths 3 = .ok (.aload_n 1, 1) := by decide +kernel
theorem dX5_sumWorths_4 : decode cX5_sumWorths 4 = .ok (.getfield 44, 3) := by decide +kernel
theorem dX5_sumWorths_7 : decode cX5_sumWorths 7 = .ok (.if_icmp .ge 22, 3) := by decide +kernel
theorem dX5_sumWorths_29 : decode cX5_sumWorths 29 = .ok (.return_, 1) := by decide +kernel
theorem dX5_sumWorths_10 : decode cX5_sumWorths 10 = .ok (.aload_n 0, 1) := by decide +kernel
theorem dX5_sumWorths_11 : decode cX5_sumWorths 11 = .ok (.getfield 18, 3) := by decide +kernel
theorem dX5_sumWorths_14 : decode cX5_sumWorths 14 = .ok (.iload_n 2, 1) := by decide +kernel
theorem dX5_sumWorths_15 : decode cX5_sumWorths 15 = .ok (.aload_n 1, 1) := by decide +kernel
theorem dX5_sumWorths_16 : decode cX5_sumWorths 16 = .ok (.iload_n 2, 1) := by decide +kernel
theorem dX5_sumWorths_17 : decode cX5_sumWorths 17 = .ok (.invokevirtual 47, 3) := by decide +kernel
theorem dX5_sumWorths_20 : decode cX5_sumWorths 20 = .ok (.invokestatic 49, 3) := by decide +kernel
theorem dX5_sumWorths_23 : decode cX5_sumWorths 23 = .ok (.iinc 2 1, 3) := by decide +kernel
theorem dX5_sumWorths_26 : decode cX5_sumWorths 26 = .ok (.goto (-24), 3) := by decide +kernel
set_option maxHeartbeats 8000000 in
set_option maxRecDepth 100000 in
theorem c_X5_sumWorths (l : Launch) (g : kG) (sz : Nat) (h : Nat) (p1 : Nat) (p2 : Nat) (p3 : Nat) (l1 : Nat → Int32) (l2 : Nat → Int32) (l3 : Nat → Int32) (xt : Int32) (xb : Int32) (a : Nat → Nat) (cnt : Nat) (f0 : Nat → Int32) (f1 : Nat → Int32) (xi : Int32) (hc : cnt ≤ 7) (hk : ∀ j, j < 7 → (0 : Int) ≤ (f0 j).toInt ∧ (f0 j).toInt ≤ 3) : kMv l g yX5_sumWorths cX5_sumWorths 3 none 2 0 0 [.ref h, .ref (a 0)] sz [(h, .inr (5, [.ref p1, .ref p2, .ref p3, .int xb, .int xt])), (p1, .inl (gI g, 128, .inl l1)), (p2, .inl (gI g, 128, .inl l2)), (p3, .inl (gI g, 128, .inl l3)), (a 0, .inr (1, [.int (nI cnt), .ref (a 1), .ref (a 2), .int xi])), (a 1, .inl (gI g, 7, .inl f0)), (a 2, .inl (gI g, 7, .inl f1))] (fun (u : (Nat → Int32)) => True) (fun (u : (Nat → Int32)) => ([(h, .inr (5, [.ref p1, .ref p2, .ref p3, .int xb, .int xt])), (p1, .inl (gI g, 128, .inl l1)), (p2, .inl (gI g, 128, .inl l2)), (p3, .inl (gI g, 128, .inl u)), (a 0, .inr (1, [.int (nI cnt), .ref (a 1), .ref (a 2), .int xi])), (a 1, .inl (gI g, 7, .inl f0)), (a 2, .inl (gI g, 7, .inl f1))] : va_W)) := by
  refine kMv.of (by decide) (Nat.le_of_ble_eq_true rfl) (fun p e s m below meth c A hx hb hr hml hown hts hlk hnm hKW hP hD hS hA ls hl => ?_)
  have hown : s.vm.findClass RX5 = some m.cls := hown
  have hl : lv_has ls 3 [(0, .ref h), (1, .ref (a 0))] := hl
  refine k_hide hP hS (fun H locs hP hS => ?_)
  refine lv_iconst (v := 0) hx hb dX5_sumWorths_0 (by decide) ?_
  refine lv_istore_n (lv' := [(2, .int 0), (0, .ref h), (1, .ref (a 0))]) hx hb dX5_sumWorths_1 rfl hl (by decide) rfl (fun ls hl => ?_)
  have L2 : ∀ (n2 : Nat) (i : Nat) (ga : Nat → Int32) (hfuel2 : cnt - i < n2) (hi : i ≤ cnt) (H : Heap) (locs : List Loc) (hP : va_P g.1 vwCl [(h, .inr (5, [.ref p1, .ref p2, .ref p3, .int xb, .int xt])), (p1, .inl (gI g, 128, .inl l1)), (p2, .inl (gI g, 128, .inl l2)), (p3, .inl (gI g, 128, .inl ga)), (a 0, .inr (1, [.int (nI cnt), .ref (a 1), .ref (a 2), .int xi])), (a 1, .inl (gI g, 7, .inl f0)), (a 2, .inl (gI g, 7, .inl f1))] H) (hD : va_D A [(h, .inr (5, [.ref p1, .ref p2, .ref p3, .int xb, .int xt])), (p1, .inl (gI g, 128, .inl l1)), (p2, .inl (gI g, 128, .inl l2)), (p3, .inl (gI g, 128, .inl ga)), (a 0, .inr (1, [.int (nI cnt), .ref (a 1), .ref (a 2), .int xi])), (a 1, .inl (gI g, 7, .inl f0)), (a 2, .inl (gI g, 7, .inl f1))]) (hS : va_S A s.heap H locs) (ls : Array Slot) (hl : lv_has ls 3 [(2, .int (nI i)), (0, .ref h), (1, .ref (a 0))]), W p l e (kR 2 0 0) s m ([.ref h, .ref (a 0)] : List Value).toArray below meth c H locs 0 0 (kQv g A below ([.ref h, .ref (a 0)] : List Value).toArray s 0 0 (fun (u : (Nat → Int32)) => True) (fun (u : (Nat → Int32)) => ([(h, .inr (5, [.ref p1, .ref p2, .ref p3, .int xb, .int xt])), (p1, .inl (gI g, 128, .inl l1)), (p2, .inl (gI g, 128, .inl l2)), (p3, .inl (gI g, 128, .inl u)), (a 0, .inr (1, [.int (nI cnt), .ref (a 1), .ref (a 2), .int xi])), (a 1, .inl (gI g, 7, .inl f0)), (a 2, .inl (gI g, 7, .inl f1))] : va_W))) (F0 m 2 ls []) := by
    intro n2
    induction n2 with
    | zero => intro i ga hfuel2; exact absurd hfuel2 (Nat.not_lt_zero _)
    | succ n2 ih2 =>
      intro i ga hfuel2 hi H locs hP hD hS ls hl
      refine lv_iload_n hx hb dX5_sumWorths_2 rfl (lv_at hl 0 rfl) ?_
      refine lv_aload_n hx hb dX5_sumWorths_3 rfl (lv_at hl 2 rfl) ?_
      refine va_get (ci := 1) (C := RX1) (T := TX1) (N := 4) hx hb hts inlX1 hown hKW.1 hP 4 rfl rfl 0 (by decide) (hts _ wd_29_11) (fun _ h => h) rfl dX5_sumWorths_4 ?_
      refine lv_icmp_ge (tgt := 29) hx hb dX5_sumWorths_7 (by decide) (fun c_1 => ?_) (fun c_1 => ?_)
      · have c_1n : cnt ≤ i := (k_leI (a := cnt) (b := i) (by omega) (by omega)).mp c_1
        exact k_vret ga [0, 1, 2, 3, 4, 5, 6] hx hb hr hlk hP hD hS trivial rfl rfl rfl (Nat.le_of_ble_eq_true rfl) (Nat.le_of_ble_eq_true rfl) dX5_sumWorths_29
      · have c_1n : i < cnt := Nat.not_le.mp (fun h => c_1 ((k_leI (a := cnt) (b := i) (by omega) (by omega)).mpr h))
        refine lv_aload_n hx hb dX5_sumWorths_10 rfl (lv_at hl 1 rfl) ?_
        refine va_get (ci := 5) (C := RX5) (T := TX5) (N := 5) hx hb hts inlX5 hown hKW.1 hP 0 rfl rfl 2 (by decide) (hts _ wd_5_16) (fun _ h => h) rfl dX5_sumWorths_11 ?_
        refine lv_iload_n hx hb dX5_sumWorths_14 rfl (lv_at hl 0 rfl) ?_
        refine lv_aload_n hx hb dX5_sumWorths_15 rfl (lv_at hl 2 rfl) ?_
        refine lv_iload_n hx hb dX5_sumWorths_16 rfl (lv_at hl 0 rfl) ?_
        refine k_Vi [4, 5, 6] [0, 1, 2, 3] 4 1 (wr := [(h, .inr (5, [.ref p1, .ref p2, .ref p3, .int xb, .int xt])), (p1, .inl (gI g, 128, .inl l1)), (p2, .inl (gI g, 128, .inl l2)), (p3, .inl (gI g, 128, .inl ga))]) hx hb hml hown hts hKW hP hD hS hA hl.1 (c_X1_worth l g _ a cnt f0 f1 xi i (by first | assumption | omega | decide) (by first | assumption | omega | decide)) rfl rfl rfl wd_26_6 wd_2_21 wd_29_12 wd_26_4 wd_26_5 yd_X1_worth ⟨(Nat.le_of_ble_eq_true rfl), (Nat.le_of_ble_eq_true rfl)⟩ rfl rfl rfl rfl (by decide) rfl (Nat.le_of_ble_eq_true rfl) dX5_sumWorths_17 ⟨(Nat.le_of_ble_eq_true rfl), (Nat.le_of_ble_eq_true rfl)⟩ (fun r_2 u_3 H locs hw_4 hP hD hS => ?_)
        have hP : va_P g.1 vwCl [(h, .inr (5, [.ref p1, .ref p2, .ref p3, .int xb, .int xt])), (p1, .inl (gI g, 128, .inl l1)), (p2, .inl (gI g, 128, .inl l2)), (p3, .inl (gI g, 128, .inl ga)), (a 0, .inr (1, [.int (nI cnt), .ref (a 1), .ref (a 2), .int xi])), (a 1, .inl (gI g, 7, .inl f0)), (a 2, .inl (gI g, 7, .inl f1))] H := hP
        have hD : va_D A [(h, .inr (5, [.ref p1, .ref p2, .ref p3, .int xb, .int xt])), (p1, .inl (gI g, 128, .inl l1)), (p2, .inl (gI g, 128, .inl l2)), (p3, .inl (gI g, 128, .inl ga)), (a 0, .inr (1, [.int (nI cnt), .ref (a 1), .ref (a 2), .int xi])), (a 1, .inl (gI g, 7, .inl f0)), (a 2, .inl (gI g, 7, .inl f1))] := hD
        refine k_Sv [3] [0, 1, 2, 4, 5, 6] (wr := [(h, .inr (5, [.ref p1, .ref p2, .ref p3, .int xb, .int xt])), (p1, .inl (gI g, 128, .inl l1)), (p2, .inl (gI g, 128, .inl l2)), (a 0, .inr (1, [.int (nI cnt), .ref (a 1), .ref (a 2), .int xi])), (a 1, .inl (gI g, 7, .inl f0)), (a 2, .inl (gI g, 7, .inl f1))]) hx hb hml hown hts hKW hP hD hS hA hl.1 (c_X5_addForHand l g _ p3 i ga r_2 (by first | assumption | omega | decide)) wd_29_15 wd_2_2 wd_29_13 wd_29_14 yd_X5_addForHand ⟨(Nat.le_of_ble_eq_true rfl), (Nat.le_of_ble_eq_true rfl)⟩ rfl rfl rfl rfl (by decide) rfl (Nat.le_of_ble_eq_true rfl) dX5_sumWorths_20 ⟨(Nat.le_of_ble_eq_true rfl), (Nat.le_of_ble_eq_true rfl)⟩ (fun u_6 H locs hw_7 hP hD hS => ?_)
        have hP : va_P g.1 vwCl [(h, .inr (5, [.ref p1, .ref p2, .ref p3, .int xb, .int xt])), (p1, .inl (gI g, 128, .inl l1)), (p2, .inl (gI g, 128, .inl l2)), (a 0, .inr (1, [.int (nI cnt), .ref (a 1), .ref (a 2), .int xi])), (a 1, .inl (gI g, 7, .inl f0)), (a 2, .inl (gI g, 7, .inl f1)), (p3, .inl (gI g, 128, .inl u_6))] H := hP
        have hD : va_D A [(h, .inr (5, [.ref p1, .ref p2, .ref p3, .int xb, .int xt])), (p1, .inl (gI g, 128, .inl l1)), (p2, .inl (gI g, 128, .inl l2)), (a 0, .inr (1, [.int (nI cnt), .ref (a 1), .ref (a 2), .int xi])), (a 1, .inl (gI g, 7, .inl f0)), (a 2, .inl (gI g, 7, .inl f1)), (p3, .inl (gI g, 128, .inl u_6))] := hD
        refine lv_iinc (v := nI (i + 1)) (lv' := [(2, .int (nI (i + 1))), (0, .ref h), (1, .ref (a 0))]) hx hb dX5_sumWorths_23 hl (k := 0) rfl (nI_add i 1) (by decide) rfl (fun ls hl => ?_)
        refine lv_goto (tgt := 2) hx hb dX5_sumWorths_26 (by decide) ?_
        exact ih2 (i + 1) u_6 (by omega) (by first | assumption | omega) H locs (hP.sub [0, 1, 2, 6, 3, 4, 5] rfl) (hD.sub [0, 1, 2, 6, 3, 4, 5] (by decide) rfl) hS ls (lv_sub hl [0, 1, 2] rfl)
  exact L2 (cnt - 0 + 1) 0 l3 (Nat.lt_succ_self _) (by first | assumption | omega) H locs (hP.sub [0, 1, 2, 3, 4, 5, 6] rfl) (hD.sub [0, 1, 2, 3, 4, 5, 6] (by decide) rfl) hS ls (lv_sub hl [0, 1, 2] rfl)
theorem dX5_sumCosts_0 : decode cX5_sumCosts 0 = .ok (.iconst 0, 1) := by decide +kernel
theorem dX5_sumCosts_1 : decode cX5_sumCosts 1 = .ok (.istore_n 3, 1) := by decide +kernel
theorem dX5_sumCosts_2 : decode cX5_sumCosts 2 = .ok (.iload_n 3, 1) := by decide +kernel
theorem dX5_sumCosts_3 : decode cX5_sumCosts 3 = .ok (.aload_n 1, 1) := by decide +kernel
theorem dX5_sumCosts_4 : decode cX5_sumCosts 4 = .ok (.getfield 44, 3) := by decide +kernel
theorem dX5_sumCosts_7 : decode cX5_sumCosts 7 = .ok (.if_icmp .ge 47, 3) := by decide +kernel
theorem dX5_sumCosts_54 : decode cX5_sumCosts 54 = .ok (.return_, 1) := by decide +kernel
theorem dX5_sumCosts_10 : decode cX5_sumCosts 10 = .ok (.aload_n 1, 1) := by decide +kernel
theorem dX5_sumCosts_11 : decode cX5_sumCosts 11 = .ok (.getfield 53, 3) := by decide +kernel
theorem dX5_sumCosts_14 : decode cX5_sumCosts 14 = .ok (.iload_n 3, 1) := by decide +kernel
theorem dX5_sumCosts_15 : decode cX5_sumCosts 15 = .ok (.iaload, 1) := by decide +kernel
theorem dX5_sumCosts_16 : decode cX5_sumCosts 16 = .ok (.iload_n 2, 1) := by decide +kernel
theorem dX5_sumCosts_17 : decode cX5_sumCosts 17 = .ok (.if_icmp .ne 7, 3) := by decide +kernel
theorem dX5_sumCosts_24 : decode cX5_sumCosts 24 = .ok (.ldc 56, 2) := by decide +kernel
theorem dX5_sumCosts_26 : decode cX5_sumCosts 26 = .ok (.istore 4, 2) := by decide +kernel
theorem dX5_sumCosts_28 : decode cX5_sumCosts 28 = .ok (.aload_n 0, 1) := by decide +kernel
theorem dX5_sumCosts_29 : decode cX5_sumCosts 29 = .ok (.getfield 15, 3) := by decide +kernel
theorem dX5_sumCosts_32 : decode cX5_sumCosts 32 = .ok (.iload_n 3, 1) := by decide +kernel
theorem dX5_sumCosts_33 : decode cX5_sumCosts 33 = .ok (.iload 4, 2) := by decide +kernel
theorem dX5_sumCosts_35 : decode cX5_sumCosts 35 = .ok (.iload_n 2, 1) := by decide +kernel
theorem dX5_sumCosts_36 : decode cX5_sumCosts 36 = .ok (.iconst 1, 1) := by decide +kernel
theorem dX5_sumCosts_37 : decode cX5_sumCosts 37 = .ok (.iadd, 1) := by decide +kernel
theorem dX5_sumCosts_38 : decode cX5_sumCosts 38 = .ok (.getstatic 57, 3) := by decide +kernel
theorem dX5_sumCosts_41 : decode cX5_sumCosts 41 = .ok (.iload_n 3, 1) := by decide +kernel
theorem dX5_sumCosts_42 : decode cX5_sumCosts 42 = .ok (.iaload, 1) := by decide +kernel
theorem dX5_sumCosts_43 : decode cX5_sumCosts 43 = .ok (.imul, 1) := by decide +kernel
theorem dX5_sumCosts_44 : decode cX5_sumCosts 44 = .ok (.iadd, 1) := by decide +kernel
theorem dX5_sumCosts_45 : decode cX5_sumCosts 45 = .ok (.invokestatic 49, 3) := by decide +kernel
theorem dX5_sumCosts_48 : decode cX5_sumCosts 48 = .ok (.iinc 3 1, 3) := by decide +kernel
theorem dX5_sumCosts_51 : decode cX5_sumCosts 51 = .ok (.goto (-49), 3) := by decide +kernel
theorem dX5_sumCosts_20 : decode cX5_sumCosts 20 = .ok (.iconst 0, 1) := by decide +kernel
theorem dX5_sumCosts_21 : decode cX5_sumCosts 21 = .ok (.goto 5, 3) := by decide +kernel
set_option maxHeartbeats 8000000 in
set_option maxRecDepth 100000 in
theorem c_X5_sumCosts (l : Launch) (g : kG) (sz : Nat) (h : Nat) (p1 : Nat) (p2 : Nat) (p3 : Nat) (l1 : Nat → Int32) (l2 : Nat → Int32) (l3 : Nat → Int32) (xt : Int32) (ja : Nat) (a : Nat → Nat) (cnt : Nat) (f0 : Nat → Int32) (f1 : Nat → Int32) (xi : Int32) (x : Int32) (hc : cnt ≤ 7) : kMv l g yX5_sumCosts cX5_sumCosts 5 none 2 0 0 [.ref h, .ref (a 0), .int x] sz [(h, .inr (5, [.ref p1, .ref p2, .ref p3, .int (nI ja), .int xt])), (p1, .inl (gI g, 128, .inl l1)), (p2, .inl (gI g, 128, .inl l2)), (p3, .inl (gI g, 128, .inl l3)), (a 0, .inr (1, [.int (nI cnt), .ref (a 1), .ref (a 2), .int xi])), (a 1, .inl (gI g, 7, .inl f0)), (a 2, .inl (gI g, 7, .inl f1))] (fun (u : (Nat → Int32)) => True) (fun (u : (Nat → Int32)) => ([(h, .inr (5, [.ref p1, .ref p2, .ref p3, .int (nI ja), .int xt])), (p1, .inl (gI g, 128, .inl l1)), (p2, .inl (gI g, 128, .inl u)), (p3, .inl (gI g, 128, .inl l3)), (a 0, .inr (1, [.int (nI cnt), .ref (a 1), .ref (a 2), .int xi])), (a 1, .inl (gI g, 7, .inl f0)), (a 2, .inl (gI g, 7, .inl f1))] : va_W)) := by
  refine kMv.of (by decide) (Nat.le_of_ble_eq_true rfl) (fun p e s m below meth c A hx hb hr hml hown hts hlk hnm hKW hP hD hS hA ls hl => ?_)
  have hown : s.vm.findClass RX5 = some m.cls := hown
  have hl : lv_has ls 5 [(0, .ref h), (1, .ref (a 0)), (2, .int x)] := hl
  refine k_hide hP hS (fun H locs hP hS => ?_)
  obtain ⟨zw0, zw1, zx0, zx1, zz0, zy0, zl0, zn0, zz1, zy1, zl1, zn1, zd⟩ := hKW.2.2.2.2
  refine lv_iconst (v := 0) hx hb dX5_sumCosts_0 (by decide) ?_
  refine lv_istore_n (lv' := [(3, .int 0), (0, .ref h), (1, .ref (a 0)), (2, .int x)]) hx hb dX5_sumCosts_1 rfl hl (by decide) rfl (fun ls hl => ?_)
  have L2 : ∀ (n2 : Nat) (i : Nat) (ga : Nat → Int32) (hfuel2 : cnt - i < n2) (hi : i ≤ cnt) (H : Heap) (locs : List Loc) (hP : va_P g.1 vwCl [(h, .inr (5, [.ref p1, .ref p2, .ref p3, .int (nI ja), .int xt])), (p1, .inl (gI g, 128, .inl l1)), (p2, .inl (gI g, 128, .inl ga)), (p3, .inl (gI g, 128, .inl l3)), (a 0, .inr (1, [.int (nI cnt), .ref (a 1), .ref (a 2), .int xi])), (a 1, .inl (gI g, 7, .inl f0)), (a 2, .inl (gI g, 7, .inl f1))] H) (hD : va_D A [(h, .inr (5, [.ref p1, .ref p2, .ref p3, .int (nI ja), .int xt])), (p1, .inl (gI g, 128, .inl l1)), (p2, .inl (gI g, 128, .inl ga)), (p3, .inl (gI g, 128, .inl l3)), (a 0, .inr (1, [.int (nI cnt), .ref (a 1), .ref (a 2), .int xi])), (a 1, .inl (gI g, 7, .inl f0)), (a 2, .inl (gI g, 7, .inl f1))]) (hS : va_S A s.heap H locs) (ls : Array Slot) (hl : lv_has ls 5 [(3, .int (nI i)), (0, .ref h), (1, .ref (a 0)), (2, .int x)]), W p l e (kR 2 0 0) s m ([.ref h, .ref (a 0), .int x] : List Value).toArray below meth c H locs 0 0 (kQv g A below ([.ref h, .ref (a 0), .int x] : List Value).toArray s 0 0 (fun (u : (Nat → Int32)) => True) (fun (u : (Nat → Int32)) => ([(h, .inr (5, [.ref p1, .ref p2, .ref p3, .int (nI ja), .int xt])), (p1, .inl (gI g, 128, .inl l1)), (p2, .inl (gI g, 128, .inl u)), (p3, .inl (gI g, 128, .inl l3)), (a 0, .inr (1, [.int (nI cnt), .ref (a 1), .ref (a 2), .int xi])), (a 1, .inl (gI g, 7, .inl f0)), (a 2, .inl (gI g, 7, .inl f1))] : va_W))) (F0 m 2 ls []) := by
    intro n2
    induction n2 with
    | zero => intro i ga hfuel2; exact absurd hfuel2 (Nat.not_lt_zero _)
    | succ n2 ih2 =>
      intro i ga hfuel2 hi H locs hP hD hS ls hl
      refine lv_iload_n hx hb dX5_sumCosts_2 rfl (lv_at hl 0 rfl) ?_
      refine lv_aload_n hx hb dX5_sumCosts_3 rfl (lv_at hl 2 rfl) ?_
      refine va_get (ci := 1) (C := RX1) (T := TX1) (N := 4) hx hb hts inlX1 hown hKW.1 hP 4 rfl rfl 0 (by decide) (hts _ wd_29_11) (fun _ h => h) rfl dX5_sumCosts_4 ?_
      refine lv_icmp_ge (tgt := 54) hx hb dX5_sumCosts_7 (by decide) (fun c_1 => ?_) (fun c_1 => ?_)
      · have c_1n : cnt ≤ i := (k_leI (a := cnt) (b := i) (by omega) (by omega)).mp c_1
        exact k_vret ga [0, 1, 2, 3, 4, 5, 6] hx hb hr hlk hP hD hS trivial rfl rfl rfl (Nat.le_of_ble_eq_true rfl) (Nat.le_of_ble_eq_true rfl) dX5_sumCosts_54
      · have c_1n : i < cnt := Nat.not_le.mp (fun h => c_1 ((k_leI (a := cnt) (b := i) (by omega) (by omega)).mpr h))
        refine lv_aload_n hx hb dX5_sumCosts_10 rfl (lv_at hl 2 rfl) ?_
        refine va_get (ci := 1) (C := RX1) (T := TX1) (N := 4) hx hb hts inlX1 hown hKW.1 hP 4 rfl rfl 2 (by decide) (hts _ wd_30_1) (fun _ h => h) rfl dX5_sumCosts_11 ?_
        refine lv_iload_n hx hb dX5_sumCosts_14 rfl (lv_at hl 0 rfl) ?_
        refine va_iald hx hb hKW.1 hP 6 0 rfl rfl (vp_in_nI (by omega) (by decide)) dX5_sumCosts_15 ?_
        refine lv_topi (fun x_2 ex_2 => ?_)
        refine lv_iload_n hx hb dX5_sumCosts_16 rfl (lv_at hl 3 rfl) ?_
        refine lv_icmp_ne (tgt := 24) hx hb dX5_sumCosts_17 (by decide) (fun c_3 => ?_) (fun c_3 => ?_)
        · refine lv_ldc (v := 279936) hx hb hown (hts _ wd_30_2) dX5_sumCosts_24 ?_
          refine lv_istore (lv' := [(4, .int 279936), (3, .int (nI i)), (0, .ref h), (1, .ref (a 0)), (2, .int x)]) hx hb dX5_sumCosts_26 hl (by decide) rfl (fun ls hl => ?_)
          refine lv_aload_n hx hb dX5_sumCosts_28 rfl (lv_at hl 2 rfl) ?_
          refine va_get (ci := 5) (C := RX5) (T := TX5) (N := 5) hx hb hts inlX5 hown hKW.1 hP 0 rfl rfl 1 (by decide) (hts _ wd_5_15) (fun _ h => h) rfl dX5_sumCosts_29 ?_
          refine lv_iload_n hx hb dX5_sumCosts_32 rfl (lv_at hl 1 rfl) ?_
          refine lv_iload hx hb dX5_sumCosts_33 (lv_at hl 0 rfl) ?_
          refine lv_iload_n hx hb dX5_sumCosts_35 rfl (lv_at hl 4 rfl) ?_
          refine lv_iconst (v := 1) hx hb dX5_sumCosts_36 (by decide) ?_
          refine lv_iadd hx hb dX5_sumCosts_37 ?_
          refine lv_topi (fun x_4 ex_4 => ?_)
          refine va_gets hx hb zz1 hS hown (hts _ wd_30_3) (fun _ h => h) dX5_sumCosts_38 ?_
          refine lv_iload_n hx hb dX5_sumCosts_41 rfl (lv_at hl 1 rfl) ?_
          refine k_sld hx hb zy1 zl1 zn1 hS (vp_in_nI (by omega) (by decide)) dX5_sumCosts_42 ?_
          refine lv_topi (fun x_5 ex_5 => ?_)
          refine lv_imul hx hb dX5_sumCosts_43 ?_
          refine lv_topi (fun x_6 ex_6 => ?_)
          refine lv_iadd hx hb dX5_sumCosts_44 ?_
          refine lv_topi (fun x_7 ex_7 => ?_)
          refine k_Sv [2] [0, 1, 3, 4, 5, 6] (wr := [(h, .inr (5, [.ref p1, .ref p2, .ref p3, .int (nI ja), .int xt])), (p1, .inl (gI g, 128, .inl l1)), (p3, .inl (gI g, 128, .inl l3)), (a 0, .inr (1, [.int (nI cnt), .ref (a 1), .ref (a 2), .int xi])), (a 1, .inl (gI g, 7, .inl f0)), (a 2, .inl (gI g, 7, .inl f1))]) hx hb hml hown hts hKW hP hD hS hA hl.1 (c_X5_addForHand l g _ p2 i ga x_7 (by first | assumption | omega | decide)) wd_29_15 wd_2_2 wd_29_13 wd_29_14 yd_X5_addForHand ⟨(Nat.le_of_ble_eq_true rfl), (Nat.le_of_ble_eq_true rfl)⟩ rfl rfl rfl rfl (by decide) rfl (Nat.le_of_ble_eq_true rfl) dX5_sumCosts_45 ⟨(Nat.le_of_ble_eq_true rfl), (Nat.le_of_ble_eq_true rfl)⟩ (fun u_9 H locs hw_10 hP hD hS => ?_)
          have hP : va_P g.1 vwCl [(h, .inr (5, [.ref p1, .ref p2, .ref p3, .int (nI ja), .int xt])), (p1, .inl (gI g, 128, .inl l1)), (p3, .inl (gI g, 128, .inl l3)), (a 0, .inr (1, [.int (nI cnt), .ref (a 1), .ref (a 2), .int xi])), (a 1, .inl (gI g, 7, .inl f0)), (a 2, .inl (gI g, 7, .inl f1)), (p2, .inl (gI g, 128, .inl u_9))] H := hP
          have hD : va_D A [(h, .inr (5, [.ref p1, .ref p2, .ref p3, .int (nI ja), .int xt])), (p1, .inl (gI g, 128, .inl l1)), (p3, .inl (gI g, 128, .inl l3)), (a 0, .inr (1, [.int (nI cnt), .ref (a 1), .ref (a 2), .int xi])), (a 1, .inl (gI g, 7, .inl f0)), (a 2, .inl (gI g, 7, .inl f1)), (p2, .inl (gI g, 128, .inl u_9))] := hD
          refine lv_iinc (v := nI (i + 1)) (lv' := [(3, .int (nI (i + 1))), (4, .int 279936), (0, .ref h), (1, .ref (a 0)), (2, .int x)]) hx hb dX5_sumCosts_48 hl (k := 1) rfl (nI_add i 1) (by decide) rfl (fun ls hl => ?_)
          refine lv_goto (tgt := 2) hx hb dX5_sumCosts_51 (by decide) ?_
          exact ih2 (i + 1) u_9 (by omega) (by first | assumption | omega) H locs (hP.sub [0, 1, 6, 2, 3, 4, 5] rfl) (hD.sub [0, 1, 6, 2, 3, 4, 5] (by decide) rfl) hS ls (lv_sub hl [0, 2, 3, 4] rfl)
        · refine lv_iconst (v := 0) hx hb dX5_sumCosts_20 (by decide) ?_
          refine lv_goto (tgt := 26) hx hb dX5_sumCosts_21 (by decide) ?_
          refine lv_istore (lv' := [(4, .int 0), (3, .int (nI i)), (0, .ref h), (1, .ref (a 0)), (2, .int x)]) hx hb dX5_sumCosts_26 hl (by decide) rfl (fun ls hl => ?_)
          refine lv_aload_n hx hb dX5_sumCosts_28 rfl (lv_at hl 2 rfl) ?_
          refine va_get (ci := 5) (C := RX5) (T := TX5) (N := 5) hx hb hts inlX5 hown hKW.1 hP 0 rfl rfl 1 (by decide) (hts _ wd_5_15) (fun _ h => h) rfl dX5_sumCosts_29 ?_
          refine lv_iload_n hx hb dX5_sumCosts_32 rfl (lv_at hl 1 rfl) ?_
          refine lv_iload hx hb dX5_sumCosts_33 (lv_at hl 0 rfl) ?_
          refine lv_iload_n hx hb dX5_sumCosts_35 rfl (lv_at hl 4 rfl) ?_
          refine lv_iconst (v := 1) hx hb dX5_sumCosts_36 (by decide) ?_
          refine lv_iadd hx hb dX5_sumCosts_37 ?_
          refine lv_topi (fun x_11 ex_11 => ?_)
          refine va_gets hx hb zz1 hS hown (hts _ wd_30_3) (fun _ h => h) dX5_sumCosts_38 ?_
          refine lv_iload_n hx hb dX5_sumCosts_41 rfl (lv_at hl 1 rfl) ?_
          refine k_sld hx hb zy1 zl1 zn1 hS (vp_in_nI (by omega) (by decide)) dX5_sumCosts_42 ?_
          refine lv_topi (fun x_12 ex_12 => ?_)
          refine lv_imul hx hb dX5_sumCosts_43 ?_
          refine lv_topi (fun x_13 ex_13 => ?_)
          refine lv_iadd hx hb dX5_sumCosts_44 ?_
          refine lv_topi (fun x_14 ex_14 => ?_)
          refine k_Sv [2] [0, 1, 3, 4, 5, 6] (wr := [(h, .inr (5, [.ref p1, .ref p2, .ref p3, .int (nI ja), .int xt])), (p1, .inl (gI g, 128, .inl l1)), (p3, .inl (gI g, 128, .inl l3)), (a 0, .inr (1, [.int (nI cnt), .ref (a 1), .ref (a 2), .int xi])), (a 1, .inl (gI g, 7, .inl f0)), (a 2, .inl (gI g, 7, .inl f1))]) hx hb hml hown hts hKW hP hD hS hA hl.1 (c_X5_addForHand l g _ p2 i ga x_14 (by first | assumption | omega | decide)) wd_29_15 wd_2_2 wd_29_13 wd_29_14 yd_X5_addForHand ⟨(Nat.le_of_ble_eq_true rfl), (Nat.le_of_ble_eq_true rfl)⟩ rfl rfl rfl rfl (by decide) rfl (Nat.le_of_ble_eq_true rfl) dX5_sumCosts_45 ⟨(Nat.le_of_ble_eq_true rfl), (Nat.le_of_ble_eq_true rfl)⟩ (fun u_16 H locs hw_17 hP hD hS => ?_)
          have hP : va_P g.1 vwCl [(h, .inr (5, [.ref p1, .ref p2, .ref p3, .int (nI ja), .int xt])), (p1, .inl (gI g, 128, .inl l1)), (p3, .inl (gI g, 128, .inl l3)), (a 0, .inr (1, [.int (nI cnt), .ref (a 1), .ref (a 2), .int xi])), (a 1, .inl (gI g, 7, .inl f0)), (a 2, .inl (gI g, 7, .inl f1)), (p2, .inl (gI g, 128, .inl u_16))] H := hP
          have hD : va_D A [(h, .inr (5, [.ref p1, .ref p2, .ref p3, .int (nI ja), .int xt])), (p1, .inl (gI g, 128, .inl l1)), (p3, .inl (gI g, 128, .inl l3)), (a 0, .inr (1, [.int (nI cnt), .ref (a 1), .ref (a 2), .int xi])), (a 1, .inl (gI g, 7, .inl f0)), (a 2, .inl (gI g, 7, .inl f1)), (p2, .inl (gI g, 128, .inl u_16))] := hD
          refine lv_iinc (v := nI (i + 1)) (lv' := [(3, .int (nI (i + 1))), (4, .int 0), (0, .ref h), (1, .ref (a 0)), (2, .int x)]) hx hb dX5_sumCosts_48 hl (k := 1) rfl (nI_add i 1) (by decide) rfl (fun ls hl => ?_)
          refine lv_goto (tgt := 2) hx hb dX5_sumCosts_51 (by decide) ?_
          exact ih2 (i + 1) u_16 (by omega) (by first | assumption | omega) H locs (hP.sub [0, 1, 6, 2, 3, 4, 5] rfl) (hD.sub [0, 1, 6, 2, 3, 4, 5] (by decide) rfl) hS ls (lv_sub hl [0, 2, 3, 4] rfl)
  exact L2 (cnt - 0 + 1) 0 l2 (Nat.lt_succ_self _) (by first | assumption | omega) H locs (hP.sub [0, 1, 2, 3, 4, 5, 6] rfl) (hD.sub [0, 1, 2, 3, 4, 5, 6] (by decide) rfl) hS ls (lv_sub hl [0, 1, 2, 3] rfl)
theorem dX5_begin_0 : decode cX5_begin 0 = .ok (.aload_n 0, 1) := by decide +kernel
theorem dX5_begin_1 : decode cX5_begin 1 = .ok (.aload_n 1, 1) := by decide +kernel
theorem dX5_begin_2 : decode cX5_begin 2 = .ok (.invokevirtual 21, 3) := by decide +kernel
theorem dX5_begin_5 : decode cX5_begin 5 = .ok (.putfield 27, 3) := by decide +kernel
theorem dX5_begin_8 : decode cX5_begin 8 = .ok (.aload_n 0, 1) := by decide +kernel
theorem dX5_begin_9 : decode cX5_begin 9 = .ok (.aload_n 1, 1) := by decide +kernel
theorem dX5_begin_10 : decode cX5_begin 10 = .ok (.invokevirtual 30, 3) := by decide +kernel
theorem dX5_begin_13 : decode cX5_begin 13 = .ok (.putfield 33, 3) := by decide +kernel
theorem dX5_begin_16 : decode cX5_begin 16 = .ok (.aload_n 0, 1) := by decide +kernel
theorem dX5_begin_17 : decode cX5_begin 17 = .ok (.aload_n 1, 1) := by decide +kernel
theorem dX5_begin_18 : decode cX5_begin 18 = .ok (.invokevirtual 35, 3) := by decide +kernel
theorem dX5_begin_21 : decode cX5_begin 21 = .ok (.aload_n 1, 1) := by decide +kernel
theorem dX5_begin_22 : decode cX5_begin 22 = .ok (.iconst (-1), 1) := by decide +kernel
theorem dX5_begin_23 : decode cX5_begin 23 = .ok (.invokevirtual 39, 3) := by decide +kernel
theorem dX5_begin_26 : decode cX5_begin 26 = .ok (.istore_n 2, 1) := by decide +kernel
theorem dX5_begin_27 : decode cX5_begin 27 = .ok (.iconst 0, 1) := by decide +kernel
theorem dX5_begin_28 : decode cX5_begin 28 = .ok (.istore_n 3, 1) := by decide +kernel
theorem dX5_begin_29 : decode cX5_begin 29 = .ok (.iload_n 3, 1) := by decide +kernel
theorem dX5_begin_30 : decode cX5_begin 30 = .ok (.sipush 128, 3) := by decide +kernel
theorem dX5_begin_33 : decode cX5_begin 33 = .ok (.if_icmp .ge 29, 3) := by decide +kernel
theorem dX5_begin_62 : decode cX5_begin 62 = .ok (.return_, 1) := by decide +kernel
theorem dX5_begin_36 : decode cX5_begin 36 = .ok (.aload_n 0, 1) := by decide +kernel
theorem dX5_begin_37 : decode cX5_begin 37 = .ok (.getfield 11, 3) := by decide +kernel
theorem dX5_begin_40 : decode cX5_begin 40 = .ok (.iload_n 3, 1) := by decide +kernel
theorem dX5_begin_41 : decode cX5_begin 41 = .ok (.iload_n 3, 1) := by decide +kernel
theorem dX5_begin_42 : decode cX5_begin 42 = .ok (.iload_n 2, 1) := by decide +kernel
theorem dX5_begin_43 : decode cX5_begin 43 = .ok (.iconst (-1), 1) := by decide +kernel
theorem dX5_begin_44 : decode cX5_begin 44 = .ok (.ixor, 1) := by decide +kernel
theorem dX5_begin_45 : decode cX5_begin 45 = .ok (.iand, 1) := by decide +kernel
theorem dX5_begin_46 : decode cX5_begin 46 = .ok (.ifCond .ne 7, 3) := by decide +kernel
theorem dX5_begin_53 : decode cX5_begin 53 = .ok (.ldc 43, 2) := by decide +kernel
theorem dX5_begin_55 : decode cX5_begin 55 = .ok (.iastore, 1) := by decide +kernel
theorem dX5_begin_56 : decode cX5_begin 56 = .ok (.iinc 3 1, 3) := by decide +kernel
theorem dX5_begin_59 : decode cX5_begin 59 = .ok (.goto (-30), 3) := by decide +kernel
theorem dX5_begin_49 : decode cX5_begin 49 = .ok (.iconst 0, 1) := by decide +kernel
theorem dX5_begin_50 : decode cX5_begin 50 = .ok (.goto 5, 3) := by decide +kernel
set_option maxHeartbeats 8000000 in
set_option maxRecDepth 100000 in
theorem c_X5_begin (l : Launch) (g : kG) (sz : Nat) (h : Nat) (p1 : Nat) (p2 : Nat) (p3 : Nat) (l1 : Nat → Int32) (l2 : Nat → Int32) (l3 : Nat → Int32) (xt : Int32) (xb : Int32) (a : Nat → Nat) (cnt : Nat) (f0 : Nat → Int32) (f1 : Nat → Int32) (xi : Int32) (hc : cnt ≤ 7) (hk : ∀ j, j < 7 → (0 : Int) ≤ (f0 j).toInt ∧ (f0 j).toInt ≤ 3) : kMv l g yX5_begin cX5_begin 4 none 3 0 0 [.ref h, .ref (a 0)] sz [(h, .inr (5, [.ref p1, .ref p2, .ref p3, .int xb, .int xt])), (p1, .inl (gI g, 128, .inl l1)), (p2, .inl (gI g, 128, .inl l2)), (p3, .inl (gI g, 128, .inl l3)), (a 0, .inr (1, [.int (nI cnt), .ref (a 1), .ref (a 2), .int xi])), (a 1, .inl (gI g, 7, .inl f0)), (a 2, .inl (gI g, 7, .inl f1))] (fun (u : (Nat → Int32) × (Nat → Int32) × Int32 × Nat) => u.2.2.2 < 128) (fun (u : (Nat → Int32) × (Nat → Int32) × Int32 × Nat) => ([(h, .inr (5, [.ref p1, .ref p2, .ref p3, .int (nI u.2.2.2), .int u.2.2.1])), (p1, .inl (gI g, 128, .inl u.1)), (p2, .inl (gI g, 128, .inl l2)), (p3, .inl (gI g, 128, .inl u.2.1)), (a 0, .inr (1, [.int (nI cnt), .ref (a 1), .ref (a 2), .int xi])), (a 1, .inl (gI g, 7, .inl f0)), (a 2, .inl (gI g, 7, .inl f1))] : va_W)) := by
  refine kMv.of (by decide) (Nat.le_of_ble_eq_true rfl) (fun p e s m below meth c A hx hb hr hml hown hts hlk hnm hKW hP hD hS hA ls hl => ?_)
  have hown : s.vm.findClass RX5 = some m.cls := hown
  have hl : lv_has ls 4 [(0, .ref h), (1, .ref (a 0))] := hl
  refine k_hide hP hS (fun H locs hP hS => ?_)
  refine lv_aload_n hx hb dX5_begin_0 rfl (lv_at hl 0 rfl) ?_
  refine lv_aload_n hx hb dX5_begin_1 rfl (lv_at hl 1 rfl) ?_
  refine k_Vi [4, 5, 6] [0, 1, 2, 3] 4 1 (wr := [(h, .inr (5, [.ref p1, .ref p2, .ref p3, .int xb, .int xt])), (p1, .inl (gI g, 128, .inl l1)), (p2, .inl (gI g, 128, .inl l2)), (p3, .inl (gI g, 128, .inl l3))]) hx hb hml hown hts hKW hP hD hS hA hl.1 (c_X1_able l g _ a cnt f0 f1 xi (by first | assumption | omega | decide)) rfl rfl rfl wd_29_5 wd_2_21 wd_29_2 wd_29_3 wd_29_4 yd_X1_able ⟨(Nat.le_of_ble_eq_true rfl), (Nat.le_of_ble_eq_true rfl)⟩ rfl rfl rfl rfl (by decide) rfl (Nat.le_of_ble_eq_true rfl) dX5_begin_2 ⟨(Nat.le_of_ble_eq_true rfl), (Nat.le_of_ble_eq_true rfl)⟩ (fun r_1 u_2 H locs hw_3 hP hD hS => ?_)
  have hP : va_P g.1 vwCl [(h, .inr (5, [.ref p1, .ref p2, .ref p3, .int xb, .int xt])), (p1, .inl (gI g, 128, .inl l1)), (p2, .inl (gI g, 128, .inl l2)), (p3, .inl (gI g, 128, .inl l3)), (a 0, .inr (1, [.int (nI cnt), .ref (a 1), .ref (a 2), .int xi])), (a 1, .inl (gI g, 7, .inl f0)), (a 2, .inl (gI g, 7, .inl f1))] H := hP
  have hD : va_D A [(h, .inr (5, [.ref p1, .ref p2, .ref p3, .int xb, .int xt])), (p1, .inl (gI g, 128, .inl l1)), (p2, .inl (gI g, 128, .inl l2)), (p3, .inl (gI g, 128, .inl l3)), (a 0, .inr (1, [.int (nI cnt), .ref (a 1), .ref (a 2), .int xi])), (a 1, .inl (gI g, 7, .inl f0)), (a 2, .inl (gI g, 7, .inl f1))] := hD
  obtain ⟨j_4, hw_3, hj_4⟩ := hw_3
  subst hw_3
  have hj_4 : j_4 < 128 := hj_4
  refine va_put (ci := 5) (v := .int (nI j_4)) (C := RX5) (T := TX5) (N := 5) hx hb hts inlX5 tyX5 tyX5_ok nmX5 hown hKW.1 hP hD hS 0 rfl rfl 3 (by decide) (hts _ wd_28_23) (fun _ h => h) rfl (tyX5_ok 3 (by decide)) rfl rfl (Nat.le_of_ble_eq_true rfl) dX5_begin_5 (fun H locs hP hD hS => ?_)
  have hP : va_P g.1 vwCl [(h, .inr (5, [.ref p1, .ref p2, .ref p3, .int (nI j_4), .int xt])), (p1, .inl (gI g, 128, .inl l1)), (p2, .inl (gI g, 128, .inl l2)), (p3, .inl (gI g, 128, .inl l3)), (a 0, .inr (1, [.int (nI cnt), .ref (a 1), .ref (a 2), .int xi])), (a 1, .inl (gI g, 7, .inl f0)), (a 2, .inl (gI g, 7, .inl f1))] H := hP
  have hD : va_D A [(h, .inr (5, [.ref p1, .ref p2, .ref p3, .int (nI j_4), .int xt])), (p1, .inl (gI g, 128, .inl l1)), (p2, .inl (gI g, 128, .inl l2)), (p3, .inl (gI g, 128, .inl l3)), (a 0, .inr (1, [.int (nI cnt), .ref (a 1), .ref (a 2), .int xi])), (a 1, .inl (gI g, 7, .inl f0)), (a 2, .inl (gI g, 7, .inl f1))] := hD
  refine lv_aload_n hx hb dX5_begin_8 rfl (lv_at hl 0 rfl) ?_
  refine lv_aload_n hx hb dX5_begin_9 rfl (lv_at hl 1 rfl) ?_
  refine k_Vi [4, 5, 6] [0, 1, 2, 3] 4 1 (wr := [(h, .inr (5, [.ref p1, .ref p2, .ref p3, .int (nI j_4), .int xt])), (p1, .inl (gI g, 128, .inl l1)), (p2, .inl (gI g, 128, .inl l2)), (p3, .inl (gI g, 128, .inl l3))]) hx hb hml hown hts hKW hP hD hS hA hl.1 (c_X1_trained l g _ a cnt f0 f1 xi (by first | assumption | omega | decide)) rfl rfl rfl wd_26_14 wd_2_21 wd_29_6 wd_26_12 wd_26_13 yd_X1_trained ⟨(Nat.le_of_ble_eq_true rfl), (Nat.le_of_ble_eq_true rfl)⟩ rfl rfl rfl rfl (by decide) rfl (Nat.le_of_ble_eq_true rfl) dX5_begin_10 ⟨(Nat.le_of_ble_eq_true rfl), (Nat.le_of_ble_eq_true rfl)⟩ (fun r_5 u_6 H locs hw_7 hP hD hS => ?_)
  have hP : va_P g.1 vwCl [(h, .inr (5, [.ref p1, .ref p2, .ref p3, .int (nI j_4), .int xt])), (p1, .inl (gI g, 128, .inl l1)), (p2, .inl (gI g, 128, .inl l2)), (p3, .inl (gI g, 128, .inl l3)), (a 0, .inr (1, [.int (nI cnt), .ref (a 1), .ref (a 2), .int xi])), (a 1, .inl (gI g, 7, .inl f0)), (a 2, .inl (gI g, 7, .inl f1))] H := hP
  have hD : va_D A [(h, .inr (5, [.ref p1, .ref p2, .ref p3, .int (nI j_4), .int xt])), (p1, .inl (gI g, 128, .inl l1)), (p2, .inl (gI g, 128, .inl l2)), (p3, .inl (gI g, 128, .inl l3)), (a 0, .inr (1, [.int (nI cnt), .ref (a 1), .ref (a 2), .int xi])), (a 1, .inl (gI g, 7, .inl f0)), (a 2, .inl (gI g, 7, .inl f1))] := hD
  refine va_put (ci := 5) (v := .int r_5) (C := RX5) (T := TX5) (N := 5) hx hb hts inlX5 tyX5 tyX5_ok nmX5 hown hKW.1 hP hD hS 0 rfl rfl 4 (by decide) (hts _ wd_29_0) (fun _ h => h) rfl (tyX5_ok 4 (by decide)) rfl rfl (Nat.le_of_ble_eq_true rfl) dX5_begin_13 (fun H locs hP hD hS => ?_)
  have hP : va_P g.1 vwCl [(h, .inr (5, [.ref p1, .ref p2, .ref p3, .int (nI j_4), .int r_5])), (p1, .inl (gI g, 128, .inl l1)), (p2, .inl (gI g, 128, .inl l2)), (p3, .inl (gI g, 128, .inl l3)), (a 0, .inr (1, [.int (nI cnt), .ref (a 1), .ref (a 2), .int xi])), (a 1, .inl (gI g, 7, .inl f0)), (a 2, .inl (gI g, 7, .inl f1))] H := hP
  have hD : va_D A [(h, .inr (5, [.ref p1, .ref p2, .ref p3, .int (nI j_4), .int r_5])), (p1, .inl (gI g, 128, .inl l1)), (p2, .inl (gI g, 128, .inl l2)), (p3, .inl (gI g, 128, .inl l3)), (a 0, .inr (1, [.int (nI cnt), .ref (a 1), .ref (a 2), .int xi])), (a 1, .inl (gI g, 7, .inl f0)), (a 2, .inl (gI g, 7, .inl f1))] := hD
  refine lv_aload_n hx hb dX5_begin_16 rfl (lv_at hl 0 rfl) ?_
  refine lv_aload_n hx hb dX5_begin_17 rfl (lv_at hl 1 rfl) ?_
  refine k_Vv [0, 1, 2, 3, 4, 5, 6] [] 0 5 (wr := []) hx hb hml hown hts hKW hP hD hS hA hl.1 (c_X5_sumWorths l g _ h p1 p2 p3 l1 l2 l3 r_5 (nI j_4) a cnt f0 f1 xi (by first | assumption | omega | decide) (by first | assumption | omega | decide)) rfl rfl rfl wd_29_10 wd_2_2 wd_29_7 wd_29_8 wd_29_9 yd_X5_sumWorths ⟨(Nat.le_of_ble_eq_true rfl), (Nat.le_of_ble_eq_true rfl)⟩ rfl rfl rfl rfl (by decide) rfl (Nat.le_of_ble_eq_true rfl) dX5_begin_18 ⟨(Nat.le_of_ble_eq_true rfl), (Nat.le_of_ble_eq_true rfl)⟩ (fun u_9 H locs hw_10 hP hD hS => ?_)
  have hP : va_P g.1 vwCl [(h, .inr (5, [.ref p1, .ref p2, .ref p3, .int (nI j_4), .int r_5])), (p1, .inl (gI g, 128, .inl l1)), (p2, .inl (gI g, 128, .inl l2)), (p3, .inl (gI g, 128, .inl u_9)), (a 0, .inr (1, [.int (nI cnt), .ref (a 1), .ref (a 2), .int xi])), (a 1, .inl (gI g, 7, .inl f0)), (a 2, .inl (gI g, 7, .inl f1))] H := hP
  have hD : va_D A [(h, .inr (5, [.ref p1, .ref p2, .ref p3, .int (nI j_4), .int r_5])), (p1, .inl (gI g, 128, .inl l1)), (p2, .inl (gI g, 128, .inl l2)), (p3, .inl (gI g, 128, .inl u_9)), (a 0, .inr (1, [.int (nI cnt), .ref (a 1), .ref (a 2), .int xi])), (a 1, .inl (gI g, 7, .inl f0)), (a 2, .inl (gI g, 7, .inl f1))] := hD
  refine lv_aload_n hx hb dX5_begin_21 rfl (lv_at hl 1 rfl) ?_
  refine lv_iconst (v := (-1)) hx hb dX5_begin_22 (by decide) ?_
  refine k_Vi [4, 5, 6] [0, 1, 2, 3] 4 1 (wr := [(h, .inr (5, [.ref p1, .ref p2, .ref p3, .int (nI j_4), .int r_5])), (p1, .inl (gI g, 128, .inl l1)), (p2, .inl (gI g, 128, .inl l2)), (p3, .inl (gI g, 128, .inl u_9))]) hx hb hml hown hts hKW hP hD hS hA hl.1 (c_X1_inRoom l g _ a cnt f0 f1 xi (-1) (by first | assumption | omega | decide)) rfl rfl rfl wd_23_14 wd_2_21 wd_29_16 wd_23_12 wd_23_13 yd_X1_inRoom ⟨(Nat.le_of_ble_eq_true rfl), (Nat.le_of_ble_eq_true rfl)⟩ rfl rfl rfl rfl (by decide) rfl (Nat.le_of_ble_eq_true rfl) dX5_begin_23 ⟨(Nat.le_of_ble_eq_true rfl), (Nat.le_of_ble_eq_true rfl)⟩ (fun r_11 u_12 H locs hw_13 hP hD hS => ?_)
  have hP : va_P g.1 vwCl [(h, .inr (5, [.ref p1, .ref p2, .ref p3, .int (nI j_4), .int r_5])), (p1, .inl (gI g, 128, .inl l1)), (p2, .inl (gI g, 128, .inl l2)), (p3, .inl (gI g, 128, .inl u_9)), (a 0, .inr (1, [.int (nI cnt), .ref (a 1), .ref (a 2), .int xi])), (a 1, .inl (gI g, 7, .inl f0)), (a 2, .inl (gI g, 7, .inl f1))] H := hP
  have hD : va_D A [(h, .inr (5, [.ref p1, .ref p2, .ref p3, .int (nI j_4), .int r_5])), (p1, .inl (gI g, 128, .inl l1)), (p2, .inl (gI g, 128, .inl l2)), (p3, .inl (gI g, 128, .inl u_9)), (a 0, .inr (1, [.int (nI cnt), .ref (a 1), .ref (a 2), .int xi])), (a 1, .inl (gI g, 7, .inl f0)), (a 2, .inl (gI g, 7, .inl f1))] := hD
  refine lv_istore_n (lv' := [(2, .int r_11), (0, .ref h), (1, .ref (a 0))]) hx hb dX5_begin_26 rfl hl (by decide) rfl (fun ls hl => ?_)
  refine lv_iconst (v := 0) hx hb dX5_begin_27 (by decide) ?_
  refine lv_istore_n (lv' := [(3, .int 0), (2, .int r_11), (0, .ref h), (1, .ref (a 0))]) hx hb dX5_begin_28 rfl hl (by decide) rfl (fun ls hl => ?_)
  have L29 : ∀ (n29 : Nat) (i : Nat) (ga : Nat → Int32) (hfuel29 : 128 - i < n29) (hi : i ≤ 128) (H : Heap) (locs : List Loc) (hP : va_P g.1 vwCl [(h, .inr (5, [.ref p1, .ref p2, .ref p3, .int (nI j_4), .int r_5])), (p1, .inl (gI g, 128, .inl ga)), (p2, .inl (gI g, 128, .inl l2)), (p3, .inl (gI g, 128, .inl u_9)), (a 0, .inr (1, [.int (nI cnt), .ref (a 1), .ref (a 2), .int xi])), (a 1, .inl (gI g, 7, .inl f0)), (a 2, .inl (gI g, 7, .inl f1))] H) (hD : va_D A [(h, .inr (5, [.ref p1, .ref p2, .ref p3, .int (nI j_4), .int r_5])), (p1, .inl (gI g, 128, .inl ga)), (p2, .inl (gI g, 128, .inl l2)), (p3, .inl (gI g, 128, .inl u_9)), (a 0, .inr (1, [.int (nI cnt), .ref (a 1), .ref (a 2), .int xi])), (a 1, .inl (gI g, 7, .inl f0)), (a 2, .inl (gI g, 7, .inl f1))]) (hS : va_S A s.heap H locs) (ls : Array Slot) (hl : lv_has ls 4 [(3, .int (nI i)), (2, .int r_11), (0, .ref h), (1, .ref (a 0))]), W p l e (kR 3 0 0) s m ([.ref h, .ref (a 0)] : List Value).toArray below meth c H locs 0 0 (kQv g A below ([.ref h, .ref (a 0)] : List Value).toArray s 0 0 (fun (u : (Nat → Int32) × (Nat → Int32) × Int32 × Nat) => u.2.2.2 < 128) (fun (u : (Nat → Int32) × (Nat → Int32) × Int32 × Nat) => ([(h, .inr (5, [.ref p1, .ref p2, .ref p3, .int (nI u.2.2.2), .int u.2.2.1])), (p1, .inl (gI g, 128, .inl u.1)), (p2, .inl (gI g, 128, .inl l2)), (p3, .inl (gI g, 128, .inl u.2.1)), (a 0, .inr (1, [.int (nI cnt), .ref (a 1), .ref (a 2), .int xi])), (a 1, .inl (gI g, 7, .inl f0)), (a 2, .inl (gI g, 7, .inl f1))] : va_W))) (F0 m 29 ls []) := by
    intro n29
    induction n29 with
    | zero => intro i ga hfuel29; exact absurd hfuel29 (Nat.not_lt_zero _)
    | succ n29 ih29 =>
      intro i ga hfuel29 hi H locs hP hD hS ls hl
      refine lv_iload_n hx hb dX5_begin_29 rfl (lv_at hl 0 rfl) ?_
      refine lv_sipush (v := 128) hx hb dX5_begin_30 (by decide) ?_
      refine lv_icmp_ge (tgt := 62) hx hb dX5_begin_33 (by decide) (fun c_14 => ?_) (fun c_14 => ?_)
      · have c_14n : 128 ≤ i := (k_leI (a := 128) (b := i) (by omega) (by omega)).mp c_14
        exact k_vret (ga, u_9, r_5, j_4) [0, 1, 2, 3, 4, 5, 6] hx hb hr hlk hP hD hS (by assumption) rfl rfl rfl (Nat.le_of_ble_eq_true rfl) (Nat.le_of_ble_eq_true rfl) dX5_begin_62
      · have c_14n : i < 128 := Nat.not_le.mp (fun h => c_14 ((k_leI (a := 128) (b := i) (by omega) (by omega)).mpr h))
        refine lv_aload_n hx hb dX5_begin_36 rfl (lv_at hl 2 rfl) ?_
        refine va_get (ci := 5) (C := RX5) (T := TX5) (N := 5) hx hb hts inlX5 hown hKW.1 hP 0 rfl rfl 0 (by decide) (hts _ wd_5_14) (fun _ h => h) rfl dX5_begin_37 ?_
        refine lv_iload_n hx hb dX5_begin_40 rfl (lv_at hl 0 rfl) ?_
        refine lv_iload_n hx hb dX5_begin_41 rfl (lv_at hl 0 rfl) ?_
        refine lv_iload_n hx hb dX5_begin_42 rfl (lv_at hl 1 rfl) ?_
        refine lv_iconst (v := (-1)) hx hb dX5_begin_43 (by decide) ?_
        refine lv_ixor hx hb dX5_begin_44 ?_
        refine lv_topi (fun x_15 ex_15 => ?_)
        refine lv_iand hx hb dX5_begin_45 ?_
        refine lv_topi (fun x_16 ex_16 => ?_)
        refine lv_if_ne (tgt := 53) hx hb dX5_begin_46 (by decide) (fun c_17 => ?_) (fun c_17 => ?_)
        · refine lv_ldc (v := 2147483647) hx hb hown (hts _ wd_29_1) dX5_begin_53 ?_
          refine va_iast hx hb hKW.1 hP hD hS 1 0 rfl rfl (vp_in_nI (by omega) (by decide)) dX5_begin_55 (fun H locs hP hD hS => ?_)
          have hP : va_P g.1 vwCl [(h, .inr (5, [.ref p1, .ref p2, .ref p3, .int (nI j_4), .int r_5])), (p1, .inl (gI g, 128, .inl (upd ga (nI i).toNatClampNeg 2147483647))), (p2, .inl (gI g, 128, .inl l2)), (p3, .inl (gI g, 128, .inl u_9)), (a 0, .inr (1, [.int (nI cnt), .ref (a 1), .ref (a 2), .int xi])), (a 1, .inl (gI g, 7, .inl f0)), (a 2, .inl (gI g, 7, .inl f1))] H := hP
          have hD : va_D A [(h, .inr (5, [.ref p1, .ref p2, .ref p3, .int (nI j_4), .int r_5])), (p1, .inl (gI g, 128, .inl (upd ga (nI i).toNatClampNeg 2147483647))), (p2, .inl (gI g, 128, .inl l2)), (p3, .inl (gI g, 128, .inl u_9)), (a 0, .inr (1, [.int (nI cnt), .ref (a 1), .ref (a 2), .int xi])), (a 1, .inl (gI g, 7, .inl f0)), (a 2, .inl (gI g, 7, .inl f1))] := hD
          obtain ⟨f_18, ef_18⟩ : ∃ zz_ : Nat → Int32, zz_ = upd ga (nI i).toNatClampNeg 2147483647 := ⟨_, rfl⟩
          rw [← ef_18] at hP hD
          refine lv_iinc (v := nI (i + 1)) (lv' := [(3, .int (nI (i + 1))), (2, .int r_11), (0, .ref h), (1, .ref (a 0))]) hx hb dX5_begin_56 hl (k := 0) rfl (nI_add i 1) (by decide) rfl (fun ls hl => ?_)
          refine lv_goto (tgt := 29) hx hb dX5_begin_59 (by decide) ?_
          exact ih29 (i + 1) f_18 (by omega) (by first | assumption | omega) H locs (hP.sub [0, 1, 2, 3, 4, 5, 6] rfl) (hD.sub [0, 1, 2, 3, 4, 5, 6] (by decide) rfl) hS ls (lv_sub hl [0, 1, 2, 3] rfl)
        · refine lv_iconst (v := 0) hx hb dX5_begin_49 (by decide) ?_
          refine lv_goto (tgt := 55) hx hb dX5_begin_50 (by decide) ?_
          refine va_iast hx hb hKW.1 hP hD hS 1 0 rfl rfl (vp_in_nI (by omega) (by decide)) dX5_begin_55 (fun H locs hP hD hS => ?_)
          have hP : va_P g.1 vwCl [(h, .inr (5, [.ref p1, .ref p2, .ref p3, .int (nI j_4), .int r_5])), (p1, .inl (gI g, 128, .inl (upd ga (nI i).toNatClampNeg 0))), (p2, .inl (gI g, 128, .inl l2)), (p3, .inl (gI g, 128, .inl u_9)), (a 0, .inr (1, [.int (nI cnt), .ref (a 1), .ref (a 2), .int xi])), (a 1, .inl (gI g, 7, .inl f0)), (a 2, .inl (gI g, 7, .inl f1))] H := hP
          have hD : va_D A [(h, .inr (5, [.ref p1, .ref p2, .ref p3, .int (nI j_4), .int r_5])), (p1, .inl (gI g, 128, .inl (upd ga (nI i).toNatClampNeg 0))), (p2, .inl (gI g, 128, .inl l2)), (p3, .inl (gI g, 128, .inl u_9)), (a 0, .inr (1, [.int (nI cnt), .ref (a 1), .ref (a 2), .int xi])), (a 1, .inl (gI g, 7, .inl f0)), (a 2, .inl (gI g, 7, .inl f1))] := hD
          obtain ⟨f_19, ef_19⟩ : ∃ zz_ : Nat → Int32, zz_ = upd ga (nI i).toNatClampNeg 0 := ⟨_, rfl⟩
          rw [← ef_19] at hP hD
          refine lv_iinc (v := nI (i + 1)) (lv' := [(3, .int (nI (i + 1))), (2, .int r_11), (0, .ref h), (1, .ref (a 0))]) hx hb dX5_begin_56 hl (k := 0) rfl (nI_add i 1) (by decide) rfl (fun ls hl => ?_)
          refine lv_goto (tgt := 29) hx hb dX5_begin_59 (by decide) ?_
          exact ih29 (i + 1) f_19 (by omega) (by first | assumption | omega) H locs (hP.sub [0, 1, 2, 3, 4, 5, 6] rfl) (hD.sub [0, 1, 2, 3, 4, 5, 6] (by decide) rfl) hS ls (lv_sub hl [0, 1, 2, 3] rfl)
  exact L29 (128 - 0 + 1) 0 l1 (Nat.lt_succ_self _) (by first | assumption | omega) H locs (hP.sub [0, 1, 2, 3, 4, 5, 6] rfl) (hD.sub [0, 1, 2, 3, 4, 5, 6] (by decide) rfl) hS ls (lv_sub hl [0, 1, 2, 3] rfl)
theorem dX5_partsOf_0 : decode cX5_partsOf 0 = .ok (.iconst 1, 1) := by decide +kernel
theorem dX5_partsOf_1 : decode cX5_partsOf 1 = .ok (.iload_n 0, 1) := by decide +kernel
theorem dX5_partsOf_2 : decode cX5_partsOf 2 = .ok (.invokestatic 77, 3) := by decide +kernel
theorem dX5_partsOf_5 : decode cX5_partsOf 5 = .ok (.ishl, 1) := by decide +kernel
theorem dX5_partsOf_6 : decode cX5_partsOf 6 = .ok (.ireturn, 1) := by decide +kernel
set_option maxHeartbeats 8000000 in
set_option maxRecDepth 100000 in
theorem c_X5_partsOf (l : Launch) (g : kG) (sz : Nat) (v : Int32) : kMi l g yX5_partsOf cX5_partsOf 1 (some .int) 2 0 0 [.int v] sz [] (fun (r : Int32) (u : Unit) => True) (fun (u : Unit) => ([] : va_W)) := by
  refine kMi.of (by decide) (Nat.le_of_ble_eq_true rfl) (fun p e s m below meth c A hx hb hr hml hown hts hlk hnm hKW hP hD hS hA ls hl => ?_)
  have hown : s.vm.findClass RX5 = some m.cls := hown
  have hl : lv_has ls 1 [(0, .int v)] := hl
  refine k_hide hP hS (fun H locs hP hS => ?_)
  refine lv_iconst (v := 1) hx hb dX5_partsOf_0 (by decide) ?_
  refine lv_iload_n hx hb dX5_partsOf_1 rfl (lv_at hl 0 rfl) ?_
  refine k_Si [] [] (wr := []) hx hb hml hown hts hKW hP hD hS hA hl.1 (c_J6_bitCount l g _ v ) wd_17_14 wd_17_13 wd_30_7 wd_17_12 yd_J6_bitCount_0f7a4 ⟨(Nat.le_of_ble_eq_true rfl), (Nat.le_of_ble_eq_true rfl)⟩ rfl rfl rfl rfl (by decide) rfl (Nat.le_of_ble_eq_true rfl) dX5_partsOf_2 ⟨(Nat.le_of_ble_eq_true rfl), (Nat.le_of_ble_eq_true rfl)⟩ (fun r_1 u_2 H locs hw_3 hP hD hS => ?_)
  have hP : va_P g.1 vwCl [] H := hP
  have hD : va_D A [] := hD
  refine lv_ishl hx hb dX5_partsOf_5 ?_
  refine lv_topi (fun x_4 ex_4 => ?_)
  exact k_iret () [] hx hb hr hlk hP hD hS trivial rfl rfl rfl (Nat.le_of_ble_eq_true rfl) (Nat.le_of_ble_eq_true rfl) dX5_partsOf_6
theorem dX5_leastWith_0 : decode cX5_leastWith 0 = .ok (.ldc 43, 2) := by decide +kernel
theorem dX5_leastWith_2 : decode cX5_leastWith 2 = .ok (.istore 4, 2) := by decide +kernel
theorem dX5_leastWith_4 : decode cX5_leastWith 4 = .ok (.iload_n 1, 1) := by decide +kernel
theorem dX5_leastWith_5 : decode cX5_leastWith 5 = .ok (.istore 5, 2) := by decide +kernel
theorem dX5_leastWith_7 : decode cX5_leastWith 7 = .ok (.iload_n 1, 1) := by decide +kernel
theorem dX5_leastWith_8 : decode cX5_leastWith 8 = .ok (.invokestatic 64, 3) := by decide +kernel
theorem dX5_leastWith_11 : decode cX5_leastWith 11 = .ok (.istore 6, 2) := by decide +kernel
theorem dX5_leastWith_13 : decode cX5_leastWith 13 = .ok (.iload 6, 2) := by decide +kernel
theorem dX5_leastWith_15 : decode cX5_leastWith 15 = .ok (.ifCond .le 89, 3) := by decide +kernel
theorem dX5_leastWith_104 : decode cX5_leastWith 104 = .ok (.iload 4, 2) := by decide +kernel
theorem dX5_leastWith_106 : decode cX5_leastWith 106 = .ok (.ireturn, 1) := by decide +kernel
theorem dX5_leastWith_18 : decode cX5_leastWith 18 = .ok (.aload_n 0, 1) := by decide +kernel
theorem dX5_leastWith_19 : decode cX5_leastWith 19 = .ok (.getfield 18, 3) := by decide +kernel
theorem dX5_leastWith_22 : decode cX5_leastWith 22 = .ok (.iload 5, 2) := by decide +kernel
theorem dX5_leastWith_24 : decode cX5_leastWith 24 = .ok (.iaload, 1) := by decide +kernel
theorem dX5_leastWith_25 : decode cX5_leastWith 25 = .ok (.iload_n 2, 1) := by decide +kernel
theorem dX5_leastWith_26 : decode cX5_leastWith 26 = .ok (.if_icmp .lt 21, 3) := by decide +kernel
theorem dX5_leastWith_47 : decode cX5_leastWith 47 = .ok (.iconst 0, 1) := by decide +kernel
theorem dX5_leastWith_48 : decode cX5_leastWith 48 = .ok (.istore 7, 2) := by decide +kernel
theorem dX5_leastWith_50 : decode cX5_leastWith 50 = .ok (.aload_n 0, 1) := by decide +kernel
theorem dX5_leastWith_51 : decode cX5_leastWith 51 = .ok (.getfield 11, 3) := by decide +kernel
theorem dX5_leastWith_54 : decode cX5_leastWith 54 = .ok (.iload_n 1, 1) := by decide +kernel
theorem dX5_leastWith_55 : decode cX5_leastWith 55 = .ok (.iload 5, 2) := by decide +kernel
theorem dX5_leastWith_57 : decode cX5_leastWith 57 = .ok (.ixor, 1) := by decide +kernel
theorem dX5_leastWith_58 : decode cX5_leastWith 58 = .ok (.iaload, 1) := by decide +kernel
theorem dX5_leastWith_59 : decode cX5_leastWith 59 = .ok (.istore 8, 2) := by decide +kernel
theorem dX5_leastWith_61 : decode cX5_leastWith 61 = .ok (.iload 7, 2) := by decide +kernel
theorem dX5_leastWith_63 : decode cX5_leastWith 63 = .ok (.ifCond .eq 27, 3) := by decide +kernel
theorem dX5_leastWith_90 : decode cX5_leastWith 90 = .ok (.iload 5, 2) := by decide +kernel
theorem dX5_leastWith_92 : decode cX5_leastWith 92 = .ok (.iconst 1, 1) := by decide +kernel
theorem dX5_leastWith_93 : decode cX5_leastWith 93 = .ok (.isub, 1) := by decide +kernel
theorem dX5_leastWith_94 : decode cX5_leastWith 94 = .ok (.iload_n 1, 1) := by decide +kernel
theorem dX5_leastWith_95 : decode cX5_leastWith 95 = .ok (.iand, 1) := by decide +kernel
theorem dX5_leastWith_96 : decode cX5_leastWith 96 = .ok (.istore 5, 2) := by decide +kernel
theorem dX5_leastWith_98 : decode cX5_leastWith 98 = .ok (.iinc 6 (-1), 3) := by decide +kernel
theorem dX5_leastWith_101 : decode cX5_leastWith 101 = .ok (.goto (-88), 3) := by decide +kernel
theorem dX5_leastWith_29 : decode cX5_leastWith 29 = .ok (.iload_n 3, 1) := by decide +kernel
theorem dX5_leastWith_30 : decode cX5_leastWith 30 = .ok (.ifCond .eq 13, 3) := by decide +kernel
theorem dX5_leastWith_43 : decode cX5_leastWith 43 = .ok (.iconst 1, 1) := by decide +kernel
theorem dX5_leastWith_44 : decode cX5_leastWith 44 = .ok (.goto 4, 3) := by decide +kernel
theorem dX5_leastWith_66 : decode cX5_leastWith 66 = .ok (.iload 8, 2) := by decide +kernel
theorem dX5_leastWith_68 : decode cX5_leastWith 68 = .ok (.ldc 43, 2) := by decide +kernel
theorem dX5_leastWith_70 : decode cX5_leastWith 70 = .ok (.if_icmp .eq 20, 3) := by decide +kernel
theorem dX5_leastWith_73 : decode cX5_leastWith 73 = .ok (.iload 4, 2) := by decide +kernel
theorem dX5_leastWith_75 : decode cX5_leastWith 75 = .ok (.iload 8, 2) := by decide +kernel
theorem dX5_leastWith_77 : decode cX5_leastWith 77 = .ok (.aload_n 0, 1) := by decide +kernel
theorem dX5_leastWith_78 : decode cX5_leastWith 78 = .ok (.getfield 15, 3) := by decide +kernel
theorem dX5_leastWith_81 : decode cX5_leastWith 81 = .ok (.iload 5, 2) := by decide +kernel
theorem dX5_leastWith_83 : decode cX5_leastWith 83 = .ok (.iaload, 1) := by decide +kernel
theorem dX5_leastWith_84 : decode cX5_leastWith 84 = .ok (.iadd, 1) := by decide +kernel
theorem dX5_leastWith_85 : decode cX5_leastWith 85 = .ok (.invokestatic 71, 3) := by decide +kernel
theorem dX5_leastWith_88 : decode cX5_leastWith 88 = .ok (.istore 4, 2) := by decide +kernel
theorem dX5_leastWith_33 : decode cX5_leastWith 33 = .ok (.iload 5, 2) := by decide +kernel
theorem dX5_leastWith_35 : decode cX5_leastWith 35 = .ok (.aload_n 0, 1) := by decide +kernel
theorem dX5_leastWith_36 : decode cX5_leastWith 36 = .ok (.getfield 33, 3) := by decide +kernel
theorem dX5_leastWith_39 : decode cX5_leastWith 39 = .ok (.iand, 1) := by decide +kernel
theorem dX5_leastWith_40 : decode cX5_leastWith 40 = .ok (.ifCond .eq 7, 3) := by decide +kernel
set_option maxHeartbeats 8000000 in
set_option maxRecDepth 100000 in
theorem c_X5_leastWith (l : Launch) (g : kG) (sz : Nat) (h : Nat) (p1 : Nat) (p2 : Nat) (p3 : Nat) (l1 : Nat → Int32) (l2 : Nat → Int32) (l3 : Nat → Int32) (xt : Int32) (ja : Nat) (j : Nat) (x : Int32) (y : Int32) (hj : j < 128) : kMi l g yX5_leastWith cX5_leastWith 9 (some .int) 3 0 0 [.ref h, .int (nI j), .int x, .int y] sz [(h, .inr (5, [.ref p1, .ref p2, .ref p3, .int (nI ja), .int xt])), (p1, .inl (gI g, 128, .inl l1)), (p2, .inl (gI g, 128, .inl l2)), (p3, .inl (gI g, 128, .inl l3))] (fun (r : Int32) (u : Unit) => True) (fun (u : Unit) => ([(h, .inr (5, [.ref p1, .ref p2, .ref p3, .int (nI ja), .int xt])), (p1, .inl (gI g, 128, .inl l1)), (p2, .inl (gI g, 128, .inl l2)), (p3, .inl (gI g, 128, .inl l3))] : va_W)) := by
  refine kMi.of (by decide) (Nat.le_of_ble_eq_true rfl) (fun p e s m below meth c A hx hb hr hml hown hts hlk hnm hKW hP hD hS hA ls hl => ?_)
  have hown : s.vm.findClass RX5 = some m.cls := hown
  have hl : lv_has ls 9 [(0, .ref h), (1, .int (nI j)), (2, .int x), (3, .int y)] := hl
  refine k_hide hP hS (fun H locs hP hS => ?_)
  refine lv_ldc (v := 2147483647) hx hb hown (hts _ wd_29_1) dX5_leastWith_0 ?_
  refine lv_istore (lv' := [(4, .int 2147483647), (0, .ref h), (1, .int (nI j)), (2, .int x), (3, .int y)]) hx hb dX5_leastWith_2 hl (by decide) rfl (fun ls hl => ?_)
  refine lv_iload_n hx hb dX5_leastWith_4 rfl (lv_at hl 2 rfl) ?_
  refine lv_istore (lv' := [(5, .int (nI j)), (4, .int 2147483647), (0, .ref h), (1, .int (nI j)), (2, .int x), (3, .int y)]) hx hb dX5_leastWith_5 hl (by decide) rfl (fun ls hl => ?_)
  refine lv_iload_n hx hb dX5_leastWith_7 rfl (lv_at hl 3 rfl) ?_
  refine k_Si [] [0, 1, 2, 3] (wr := [(h, .inr (5, [.ref p1, .ref p2, .ref p3, .int (nI ja), .int xt])), (p1, .inl (gI g, 128, .inl l1)), (p2, .inl (gI g, 128, .inl l2)), (p3, .inl (gI g, 128, .inl l3))]) hx hb hml hown hts hKW hP hD hS hA hl.1 (c_X5_partsOf l g _ (nI j) ) wd_30_6 wd_2_2 wd_30_4 wd_30_5 yd_X5_partsOf ⟨(Nat.le_of_ble_eq_true rfl), (Nat.le_of_ble_eq_true rfl)⟩ rfl rfl rfl rfl (by decide) rfl (Nat.le_of_ble_eq_true rfl) dX5_leastWith_8 ⟨(Nat.le_of_ble_eq_true rfl), (Nat.le_of_ble_eq_true rfl)⟩ (fun r_1 u_2 H locs hw_3 hP hD hS => ?_)
  have hP : va_P g.1 vwCl [(h, .inr (5, [.ref p1, .ref p2, .ref p3, .int (nI ja), .int xt])), (p1, .inl (gI g, 128, .inl l1)), (p2, .inl (gI g, 128, .inl l2)), (p3, .inl (gI g, 128, .inl l3))] H := hP
  have hD : va_D A [(h, .inr (5, [.ref p1, .ref p2, .ref p3, .int (nI ja), .int xt])), (p1, .inl (gI g, 128, .inl l1)), (p2, .inl (gI g, 128, .inl l2)), (p3, .inl (gI g, 128, .inl l3))] := hD
  refine lv_istore (lv' := [(6, .int r_1), (5, .int (nI j)), (4, .int 2147483647), (0, .ref h), (1, .int (nI j)), (2, .int x), (3, .int y)]) hx hb dX5_leastWith_11 hl (by decide) rfl (fun ls hl => ?_)
  have L13 : ∀ (n13 : Nat) (k : Nat) (x6 : Int32) (x4 : Int32) (hfuel13 : (Int32.toInt x6).toNat < n13) (hk : k < 128) (H : Heap) (locs : List Loc) (hP : va_P g.1 vwCl [(h, .inr (5, [.ref p1, .ref p2, .ref p3, .int (nI ja), .int xt])), (p1, .inl (gI g, 128, .inl l1)), (p2, .inl (gI g, 128, .inl l2)), (p3, .inl (gI g, 128, .inl l3))] H) (hD : va_D A [(h, .inr (5, [.ref p1, .ref p2, .ref p3, .int (nI ja), .int xt])), (p1, .inl (gI g, 128, .inl l1)), (p2, .inl (gI g, 128, .inl l2)), (p3, .inl (gI g, 128, .inl l3))]) (hS : va_S A s.heap H locs) (ls : Array Slot) (hl : lv_has ls 9 [(6, .int x6), (5, .int (nI k)), (4, .int x4), (0, .ref h), (1, .int (nI j)), (2, .int x), (3, .int y)]), W p l e (kR 3 0 0) s m ([.ref h, .int (nI j), .int x, .int y] : List Value).toArray below meth c H locs 0 0 (kQi g A below ([.ref h, .int (nI j), .int x, .int y] : List Value).toArray s 0 0 (fun (r : Int32) (u : Unit) => True) (fun (u : Unit) => ([(h, .inr (5, [.ref p1, .ref p2, .ref p3, .int (nI ja), .int xt])), (p1, .inl (gI g, 128, .inl l1)), (p2, .inl (gI g, 128, .inl l2)), (p3, .inl (gI g, 128, .inl l3))] : va_W))) (F0 m 13 ls []) := by
    intro n13
    induction n13 with
    | zero => intro k x6 x4 hfuel13; exact absurd hfuel13 (Nat.not_lt_zero _)
    | succ n13 ih13 =>
      intro k x6 x4 hfuel13 hk H locs hP hD hS ls hl
      refine lv_iload hx hb dX5_leastWith_13 (lv_at hl 0 rfl) ?_
      refine lv_if_le (tgt := 104) hx hb dX5_leastWith_15 (by decide) (fun c_4 => ?_) (fun c_4 => ?_)
      · refine lv_iload hx hb dX5_leastWith_104 (lv_at hl 2 rfl) ?_
        exact k_iret () [0, 1, 2, 3] hx hb hr hlk hP hD hS trivial rfl rfl rfl (Nat.le_of_ble_eq_true rfl) (Nat.le_of_ble_eq_true rfl) dX5_leastWith_106
      · refine lv_aload_n hx hb dX5_leastWith_18 rfl (lv_at hl 3 rfl) ?_
        refine va_get (ci := 5) (C := RX5) (T := TX5) (N := 5) hx hb hts inlX5 hown hKW.1 hP 0 rfl rfl 2 (by decide) (hts _ wd_5_16) (fun _ h => h) rfl dX5_leastWith_19 ?_
        refine lv_iload hx hb dX5_leastWith_22 (lv_at hl 1 rfl) ?_
        refine va_iald hx hb hKW.1 hP 3 0 rfl rfl (vp_in_nI (by omega) (by decide)) dX5_leastWith_24 ?_
        refine lv_topi (fun x_5 ex_5 => ?_)
        refine lv_iload_n hx hb dX5_leastWith_25 rfl (lv_at hl 5 rfl) ?_
        refine lv_icmp_lt (tgt := 47) hx hb dX5_leastWith_26 (by decide) (fun c_6 => ?_) (fun c_6 => ?_)
        · refine lv_iconst (v := 0) hx hb dX5_leastWith_47 (by decide) ?_
          refine lv_istore (lv' := [(7, .int 0), (6, .int x6), (5, .int (nI k)), (4, .int x4), (0, .ref h), (1, .int (nI j)), (2, .int x), (3, .int y)]) hx hb dX5_leastWith_48 hl (by decide) rfl (fun ls hl => ?_)
          refine lv_aload_n hx hb dX5_leastWith_50 rfl (lv_at hl 4 rfl) ?_
          refine va_get (ci := 5) (C := RX5) (T := TX5) (N := 5) hx hb hts inlX5 hown hKW.1 hP 0 rfl rfl 0 (by decide) (hts _ wd_5_14) (fun _ h => h) rfl dX5_leastWith_51 ?_
          refine lv_iload_n hx hb dX5_leastWith_54 rfl (lv_at hl 5 rfl) ?_
          refine lv_iload hx hb dX5_leastWith_55 (lv_at hl 2 rfl) ?_
          obtain ⟨kx, hkx, ekx⟩ := k_xor7 (a := j) (b := k) (by omega) (by omega)
          refine lv_ixor hx hb dX5_leastWith_57 ?_
          refine k_top (y := nI kx) ekx ?_
          refine va_iald hx hb hKW.1 hP 1 0 rfl rfl (vp_in_nI (by omega) (by decide)) dX5_leastWith_58 ?_
          refine lv_topi (fun x_7 ex_7 => ?_)
          refine lv_istore (lv' := [(8, .int x_7), (7, .int 0), (6, .int x6), (5, .int (nI k)), (4, .int x4), (0, .ref h), (1, .int (nI j)), (2, .int x), (3, .int y)]) hx hb dX5_leastWith_59 hl (by decide) rfl (fun ls hl => ?_)
          refine lv_iload hx hb dX5_leastWith_61 (lv_at hl 1 rfl) ?_
          refine lv_if_eq (tgt := 90) hx hb dX5_leastWith_63 (by decide) (fun _ => ?_) (fun c => absurd c (by decide))
          refine lv_iload hx hb dX5_leastWith_90 (lv_at hl 3 rfl) ?_
          refine lv_iconst (v := 1) hx hb dX5_leastWith_92 (by decide) ?_
          refine lv_isub hx hb dX5_leastWith_93 ?_
          refine lv_topi (fun x_8 ex_8 => ?_)
          refine lv_iload_n hx hb dX5_leastWith_94 rfl (lv_at hl 6 rfl) ?_
          obtain ⟨kk1, hkk1, ekk1⟩ := k_and7 (m := j) (by omega) x_8
          refine lv_iand hx hb dX5_leastWith_95 ?_
          refine k_top (y := nI kk1) ekk1 ?_
          refine lv_istore (lv' := [(5, .int (nI kk1)), (8, .int x_7), (7, .int 0), (6, .int x6), (4, .int x4), (0, .ref h), (1, .int (nI j)), (2, .int x), (3, .int y)]) hx hb dX5_leastWith_96 hl (by decide) rfl (fun ls hl => ?_)
          obtain ⟨x_9, ex_9⟩ : ∃ z : Int32, x6 + Int32.ofInt (-1) = z := ⟨_, rfl⟩
          refine lv_iinc (v := x_9) (lv' := [(6, .int x_9), (5, .int (nI kk1)), (8, .int x_7), (7, .int 0), (4, .int x4), (0, .ref h), (1, .int (nI j)), (2, .int x), (3, .int y)]) hx hb dX5_leastWith_98 hl (k := 3) rfl ex_9 (by decide) rfl (fun ls hl => ?_)
          refine lv_goto (tgt := 13) hx hb dX5_leastWith_101 (by decide) ?_
          exact ih13 kk1 x_9 x4 (k_left hfuel13 c_4 ex_9) (by first | assumption | omega) H locs (hP.sub [0, 1, 2, 3] rfl) (hD.sub [0, 1, 2, 3] (by decide) rfl) hS ls (lv_sub hl [0, 1, 4, 5, 6, 7, 8] rfl)
        · refine lv_iload_n hx hb dX5_leastWith_29 rfl (lv_at hl 6 rfl) ?_
          refine lv_if_eq (tgt := 43) hx hb dX5_leastWith_30 (by decide) (fun c_10 => ?_) (fun c_10 => ?_)
          · refine lv_iconst (v := 1) hx hb dX5_leastWith_43 (by decide) ?_
            refine lv_goto (tgt := 48) hx hb dX5_leastWith_44 (by decide) ?_
            refine lv_istore (lv' := [(7, .int 1), (6, .int x6), (5, .int (nI k)), (4, .int x4), (0, .ref h), (1, .int (nI j)), (2, .int x), (3, .int y)]) hx hb dX5_leastWith_48 hl (by decide) rfl (fun ls hl => ?_)
            refine lv_aload_n hx hb dX5_leastWith_50 rfl (lv_at hl 4 rfl) ?_
            refine va_get (ci := 5) (C := RX5) (T := TX5) (N := 5) hx hb hts inlX5 hown hKW.1 hP 0 rfl rfl 0 (by decide) (hts _ wd_5_14) (fun _ h => h) rfl dX5_leastWith_51 ?_
            refine lv_iload_n hx hb dX5_leastWith_54 rfl (lv_at hl 5 rfl) ?_
            refine lv_iload hx hb dX5_leastWith_55 (lv_at hl 2 rfl) ?_
            obtain ⟨kx, hkx, ekx⟩ := k_xor7 (a := j) (b := k) (by omega) (by omega)
            refine lv_ixor hx hb dX5_leastWith_57 ?_
            refine k_top (y := nI kx) ekx ?_
            refine va_iald hx hb hKW.1 hP 1 0 rfl rfl (vp_in_nI (by omega) (by decide)) dX5_leastWith_58 ?_
            refine lv_topi (fun x_11 ex_11 => ?_)
            refine lv_istore (lv' := [(8, .int x_11), (7, .int 1), (6, .int x6), (5, .int (nI k)), (4, .int x4), (0, .ref h), (1, .int (nI j)), (2, .int x), (3, .int y)]) hx hb dX5_leastWith_59 hl (by decide) rfl (fun ls hl => ?_)
            refine lv_iload hx hb dX5_leastWith_61 (lv_at hl 1 rfl) ?_
            refine lv_if_eq (tgt := 90) hx hb dX5_leastWith_63 (by decide) (fun c => absurd c (by decide)) (fun _ => ?_)
            refine lv_iload hx hb dX5_leastWith_66 (lv_at hl 0 rfl) ?_
            refine lv_ldc (v := 2147483647) hx hb hown (hts _ wd_29_1) dX5_leastWith_68 ?_
            refine lv_icmp_eq (tgt := 90) hx hb dX5_leastWith_70 (by decide) (fun c_12 => ?_) (fun c_12 => ?_)
            · refine lv_iload hx hb dX5_leastWith_90 (lv_at hl 3 rfl) ?_
              refine lv_iconst (v := 1) hx hb dX5_leastWith_92 (by decide) ?_
              refine lv_isub hx hb dX5_leastWith_93 ?_
              refine lv_topi (fun x_13 ex_13 => ?_)
              refine lv_iload_n hx hb dX5_leastWith_94 rfl (lv_at hl 6 rfl) ?_
              obtain ⟨kk2, hkk2, ekk2⟩ := k_and7 (m := j) (by omega) x_13
              refine lv_iand hx hb dX5_leastWith_95 ?_
              refine k_top (y := nI kk2) ekk2 ?_
              refine lv_istore (lv' := [(5, .int (nI kk2)), (8, .int x_11), (7, .int 1), (6, .int x6), (4, .int x4), (0, .ref h), (1, .int (nI j)), (2, .int x), (3, .int y)]) hx hb dX5_leastWith_96 hl (by decide) rfl (fun ls hl => ?_)
              obtain ⟨x_14, ex_14⟩ : ∃ z : Int32, x6 + Int32.ofInt (-1) = z := ⟨_, rfl⟩
              refine lv_iinc (v := x_14) (lv' := [(6, .int x_14), (5, .int (nI kk2)), (8, .int x_11), (7, .int 1), (4, .int x4), (0, .ref h), (1, .int (nI j)), (2, .int x), (3, .int y)]) hx hb dX5_leastWith_98 hl (k := 3) rfl ex_14 (by decide) rfl (fun ls hl => ?_)
              refine lv_goto (tgt := 13) hx hb dX5_leastWith_101 (by decide) ?_
              exact ih13 kk2 x_14 x4 (k_left hfuel13 c_4 ex_14) (by first | assumption | omega) H locs (hP.sub [0, 1, 2, 3] rfl) (hD.sub [0, 1, 2, 3] (by decide) rfl) hS ls (lv_sub hl [0, 1, 4, 5, 6, 7, 8] rfl)
            · refine lv_iload hx hb dX5_leastWith_73 (lv_at hl 4 rfl) ?_
              refine lv_iload hx hb dX5_leastWith_75 (lv_at hl 0 rfl) ?_
              refine lv_aload_n hx hb dX5_leastWith_77 rfl (lv_at hl 5 rfl) ?_
              refine va_get (ci := 5) (C := RX5) (T := TX5) (N := 5) hx hb hts inlX5 hown hKW.1 hP 0 rfl rfl 1 (by decide) (hts _ wd_5_15) (fun _ h => h) rfl dX5_leastWith_78 ?_
              refine lv_iload hx hb dX5_leastWith_81 (lv_at hl 3 rfl) ?_
              refine va_iald hx hb hKW.1 hP 2 0 rfl rfl (vp_in_nI (by omega) (by decide)) dX5_leastWith_83 ?_
              refine lv_topi (fun x_15 ex_15 => ?_)
              refine lv_iadd hx hb dX5_leastWith_84 ?_
              refine lv_topi (fun x_16 ex_16 => ?_)
              refine va_mmin hx hb (hml.trans hl.1.symm) hown (hts _ wd_30_12) (hts _ wd_8_1) (hts _ wd_8_2) (hts _ wd_8_3) (Nat.le_of_ble_eq_true rfl) (Nat.le_of_ble_eq_true rfl) (Nat.le_of_ble_eq_true rfl) (Nat.le_of_ble_eq_true rfl) dX5_leastWith_85 ?_
              refine lv_topi (fun x_17 ex_17 => ?_)
              refine lv_istore (lv' := [(4, .int x_17), (8, .int x_11), (7, .int 1), (6, .int x6), (5, .int (nI k)), (0, .ref h), (1, .int (nI j)), (2, .int x), (3, .int y)]) hx hb dX5_leastWith_88 hl (by decide) rfl (fun ls hl => ?_)
              refine lv_iload hx hb dX5_leastWith_90 (lv_at hl 4 rfl) ?_
              refine lv_iconst (v := 1) hx hb dX5_leastWith_92 (by decide) ?_
              refine lv_isub hx hb dX5_leastWith_93 ?_
              refine lv_topi (fun x_18 ex_18 => ?_)
              refine lv_iload_n hx hb dX5_leastWith_94 rfl (lv_at hl 6 rfl) ?_
              obtain ⟨kk3, hkk3, ekk3⟩ := k_and7 (m := j) (by omega) x_18
              refine lv_iand hx hb dX5_leastWith_95 ?_
              refine k_top (y := nI kk3) ekk3 ?_
              refine lv_istore (lv' := [(5, .int (nI kk3)), (4, .int x_17), (8, .int x_11), (7, .int 1), (6, .int x6), (0, .ref h), (1, .int (nI j)), (2, .int x), (3, .int y)]) hx hb dX5_leastWith_96 hl (by decide) rfl (fun ls hl => ?_)
              obtain ⟨x_19, ex_19⟩ : ∃ z : Int32, x6 + Int32.ofInt (-1) = z := ⟨_, rfl⟩
              refine lv_iinc (v := x_19) (lv' := [(6, .int x_19), (5, .int (nI kk3)), (4, .int x_17), (8, .int x_11), (7, .int 1), (0, .ref h), (1, .int (nI j)), (2, .int x), (3, .int y)]) hx hb dX5_leastWith_98 hl (k := 4) rfl ex_19 (by decide) rfl (fun ls hl => ?_)
              refine lv_goto (tgt := 13) hx hb dX5_leastWith_101 (by decide) ?_
              exact ih13 kk3 x_19 x_17 (k_left hfuel13 c_4 ex_19) (by first | assumption | omega) H locs (hP.sub [0, 1, 2, 3] rfl) (hD.sub [0, 1, 2, 3] (by decide) rfl) hS ls (lv_sub hl [0, 1, 2, 5, 6, 7, 8] rfl)
          · refine lv_iload hx hb dX5_leastWith_33 (lv_at hl 1 rfl) ?_
            refine lv_aload_n hx hb dX5_leastWith_35 rfl (lv_at hl 3 rfl) ?_
            refine va_get (ci := 5) (C := RX5) (T := TX5) (N := 5) hx hb hts inlX5 hown hKW.1 hP 0 rfl rfl 4 (by decide) (hts _ wd_29_0) (fun _ h => h) rfl dX5_leastWith_36 ?_
            refine lv_iand hx hb dX5_leastWith_39 ?_
            refine lv_topi (fun x_20 ex_20 => ?_)
            refine lv_if_eq (tgt := 47) hx hb dX5_leastWith_40 (by decide) (fun c_21 => ?_) (fun c_21 => ?_)
            · refine lv_iconst (v := 0) hx hb dX5_leastWith_47 (by decide) ?_
              refine lv_istore (lv' := [(7, .int 0), (6, .int x6), (5, .int (nI k)), (4, .int x4), (0, .ref h), (1, .int (nI j)), (2, .int x), (3, .int y)]) hx hb dX5_leastWith_48 hl (by decide) rfl (fun ls hl => ?_)
              refine lv_aload_n hx hb dX5_leastWith_50 rfl (lv_at hl 4 rfl) ?_
              refine va_get (ci := 5) (C := RX5) (T := TX5) (N := 5) hx hb hts inlX5 hown hKW.1 hP 0 rfl rfl 0 (by decide) (hts _ wd_5_14) (fun _ h => h) rfl dX5_leastWith_51 ?_
              refine lv_iload_n hx hb dX5_leastWith_54 rfl (lv_at hl 5 rfl) ?_
              refine lv_iload hx hb dX5_leastWith_55 (lv_at hl 2 rfl) ?_
              obtain ⟨kx, hkx, ekx⟩ := k_xor7 (a := j) (b := k) (by omega) (by omega)
              refine lv_ixor hx hb dX5_leastWith_57 ?_
              refine k_top (y := nI kx) ekx ?_
              refine va_iald hx hb hKW.1 hP 1 0 rfl rfl (vp_in_nI (by omega) (by decide)) dX5_leastWith_58 ?_
              refine lv_topi (fun x_22 ex_22 => ?_)
              refine lv_istore (lv' := [(8, .int x_22), (7, .int 0), (6, .int x6), (5, .int (nI k)), (4, .int x4), (0, .ref h), (1, .int (nI j)), (2, .int x), (3, .int y)]) hx hb dX5_leastWith_59 hl (by decide) rfl (fun ls hl => ?_)
              refine lv_iload hx hb dX5_leastWith_61 (lv_at hl 1 rfl) ?_
              refine lv_if_eq (tgt := 90) hx hb dX5_leastWith_63 (by decide) (fun _ => ?_) (fun c => absurd c (by decide))
              refine lv_iload hx hb dX5_leastWith_90 (lv_at hl 3 rfl) ?_
              refine lv_iconst (v := 1) hx hb dX5_leastWith_92 (by decide) ?_
              refine lv_isub hx hb dX5_leastWith_93 ?_
              refine lv_topi (fun x_23 ex_23 => ?_)
              refine lv_iload_n hx hb dX5_leastWith_94 rfl (lv_at hl 6 rfl) ?_
              obtain ⟨kk4, hkk4, ekk4⟩ := k_and7 (m := j) (by omega) x_23
              refine lv_iand hx hb dX5_leastWith_95 ?_
              refine k_top (y := nI kk4) ekk4 ?_
              refine lv_istore (lv' := [(5, .int (nI kk4)), (8, .int x_22), (7, .int 0), (6, .int x6), (4, .int x4), (0, .ref h), (1, .int (nI j)), (2, .int x), (3, .int y)]) hx hb dX5_leastWith_96 hl (by decide) rfl (fun ls hl => ?_)
              obtain ⟨x_24, ex_24⟩ : ∃ z : Int32, x6 + Int32.ofInt (-1) = z := ⟨_, rfl⟩
              refine lv_iinc (v := x_24) (lv' := [(6, .int x_24), (5, .int (nI kk4)), (8, .int x_22), (7, .int 0), (4, .int x4), (0, .ref h), (1, .int (nI j)), (2, .int x), (3, .int y)]) hx hb dX5_leastWith_98 hl (k := 3) rfl ex_24 (by decide) rfl (fun ls hl => ?_)
              refine lv_goto (tgt := 13) hx hb dX5_leastWith_101 (by decide) ?_
              exact ih13 kk4 x_24 x4 (k_left hfuel13 c_4 ex_24) (by first | assumption | omega) H locs (hP.sub [0, 1, 2, 3] rfl) (hD.sub [0, 1, 2, 3] (by decide) rfl) hS ls (lv_sub hl [0, 1, 4, 5, 6, 7, 8] rfl)
            · refine lv_iconst (v := 1) hx hb dX5_leastWith_43 (by decide) ?_
              refine lv_goto (tgt := 48) hx hb dX5_leastWith_44 (by decide) ?_
              refine lv_istore (lv' := [(7, .int 1), (6, .int x6), (5, .int (nI k)), (4, .int x4), (0, .ref h), (1, .int (nI j)), (2, .int x), (3, .int y)]) hx hb dX5_leastWith_48 hl (by decide) rfl (fun ls hl => ?_)
              refine lv_aload_n hx hb dX5_leastWith_50 rfl (lv_at hl 4 rfl) ?_
              refine va_get (ci := 5) (C := RX5) (T := TX5) (N := 5) hx hb hts inlX5 hown hKW.1 hP 0 rfl rfl 0 (by decide) (hts _ wd_5_14) (fun _ h => h) rfl dX5_leastWith_51 ?_
              refine lv_iload_n hx hb dX5_leastWith_54 rfl (lv_at hl 5 rfl) ?_
              refine lv_iload hx hb dX5_leastWith_55 (lv_at hl 2 rfl) ?_
              obtain ⟨kx, hkx, ekx⟩ := k_xor7 (a := j) (b := k) (by omega) (by omega)
              refine lv_ixor hx hb dX5_leastWith_57 ?_
              refine k_top (y := nI kx) ekx ?_
              refine va_iald hx hb hKW.1 hP 1 0 rfl rfl (vp_in_nI (by omega) (by decide)) dX5_leastWith_58 ?_
              refine lv_topi (fun x_25 ex_25 => ?_)
              refine lv_istore (lv' := [(8, .int x_25), (7, .int 1), (6, .int x6), (5, .int (nI k)), (4, .int x4), (0, .ref h), (1, .int (nI j)), (2, .int x), (3, .int y)]) hx hb dX5_leastWith_59 hl (by decide) rfl (fun ls hl => ?_)
              refine lv_iload hx hb dX5_leastWith_61 (lv_at hl 1 rfl) ?_
              refine lv_if_eq (tgt := 90) hx hb dX5_leastWith_63 (by decide) (fun c => absurd c (by decide)) (fun _ => ?_)
              refine lv_iload hx hb dX5_leastWith_66 (lv_at hl 0 rfl) ?_
              refine lv_ldc (v := 2147483647) hx hb hown (hts _ wd_29_1) dX5_leastWith_68 ?_
              refine lv_icmp_eq (tgt := 90) hx hb dX5_leastWith_70 (by decide) (fun c_26 => ?_) (fun c_26 => ?_)
              · refine lv_iload hx hb dX5_leastWith_90 (lv_at hl 3 rfl) ?_
                refine lv_iconst (v := 1) hx hb dX5_leastWith_92 (by decide) ?_
                refine lv_isub hx hb dX5_leastWith_93 ?_
                refine lv_topi (fun x_27 ex_27 => ?_)
                refine lv_iload_n hx hb dX5_leastWith_94 rfl (lv_at hl 6 rfl) ?_
                obtain ⟨kk5, hkk5, ekk5⟩ := k_and7 (m := j) (by omega) x_27
                refine lv_iand hx hb dX5_leastWith_95 ?_
                refine k_top (y := nI kk5) ekk5 ?_
                refine lv_istore (lv' := [(5, .int (nI kk5)), (8, .int x_25), (7, .int 1), (6, .int x6), (4, .int x4), (0, .ref h), (1, .int (nI j)), (2, .int x), (3, .int y)]) hx hb dX5_leastWith_96 hl (by decide) rfl (fun ls hl => ?_)
                obtain ⟨x_28, ex_28⟩ : ∃ z : Int32, x6 + Int32.ofInt (-1) = z := ⟨_, rfl⟩
                refine lv_iinc (v := x_28) (lv' := [(6, .int x_28), (5, .int (nI kk5)), (8, .int x_25), (7, .int 1), (4, .int x4), (0, .ref h), (1, .int (nI j)), (2, .int x), (3, .int y)]) hx hb dX5_leastWith_98 hl (k := 3) rfl ex_28 (by decide) rfl (fun ls hl => ?_)
                refine lv_goto (tgt := 13) hx hb dX5_leastWith_101 (by decide) ?_
                exact ih13 kk5 x_28 x4 (k_left hfuel13 c_4 ex_28) (by first | assumption | omega) H locs (hP.sub [0, 1, 2, 3] rfl) (hD.sub [0, 1, 2, 3] (by decide) rfl) hS ls (lv_sub hl [0, 1, 4, 5, 6, 7, 8] rfl)
              · refine lv_iload hx hb dX5_leastWith_73 (lv_at hl 4 rfl) ?_
                refine lv_iload hx hb dX5_leastWith_75 (lv_at hl 0 rfl) ?_
                refine lv_aload_n hx hb dX5_leastWith_77 rfl (lv_at hl 5 rfl) ?_
                refine va_get (ci := 5) (C := RX5) (T := TX5) (N := 5) hx hb hts inlX5 hown hKW.1 hP 0 rfl rfl 1 (by decide) (hts _ wd_5_15) (fun _ h => h) rfl dX5_leastWith_78 ?_
                refine lv_iload hx hb dX5_leastWith_81 (lv_at hl 3 rfl) ?_
                refine va_iald hx hb hKW.1 hP 2 0 rfl rfl (vp_in_nI (by omega) (by decide)) dX5_leastWith_83 ?_
                refine lv_topi (fun x_29 ex_29 => ?_)
                refine lv_iadd hx hb dX5_leastWith_84 ?_
                refine lv_topi (fun x_30 ex_30 => ?_)
                refine va_mmin hx hb (hml.trans hl.1.symm) hown (hts _ wd_30_12) (hts _ wd_8_1) (hts _ wd_8_2) (hts _ wd_8_3) (Nat.le_of_ble_eq_true rfl) (Nat.le_of_ble_eq_true rfl) (Nat.le_of_ble_eq_true rfl) (Nat.le_of_ble_eq_true rfl) dX5_leastWith_85 ?_
                refine lv_topi (fun x_31 ex_31 => ?_)
                refine lv_istore (lv' := [(4, .int x_31), (8, .int x_25), (7, .int 1), (6, .int x6), (5, .int (nI k)), (0, .ref h), (1, .int (nI j)), (2, .int x), (3, .int y)]) hx hb dX5_leastWith_88 hl (by decide) rfl (fun ls hl => ?_)
                refine lv_iload hx hb dX5_leastWith_90 (lv_at hl 4 rfl) ?_
                refine lv_iconst (v := 1) hx hb dX5_leastWith_92 (by decide) ?_
                refine lv_isub hx hb dX5_leastWith_93 ?_
                refine lv_topi (fun x_32 ex_32 => ?_)
                refine lv_iload_n hx hb dX5_leastWith_94 rfl (lv_at hl 6 rfl) ?_
                obtain ⟨kk6, hkk6, ekk6⟩ := k_and7 (m := j) (by omega) x_32
                refine lv_iand hx hb dX5_leastWith_95 ?_
                refine k_top (y := nI kk6) ekk6 ?_
                refine lv_istore (lv' := [(5, .int (nI kk6)), (4, .int x_31), (8, .int x_25), (7, .int 1), (6, .int x6), (0, .ref h), (1, .int (nI j)), (2, .int x), (3, .int y)]) hx hb dX5_leastWith_96 hl (by decide) rfl (fun ls hl => ?_)
                obtain ⟨x_33, ex_33⟩ : ∃ z : Int32, x6 + Int32.ofInt (-1) = z := ⟨_, rfl⟩
                refine lv_iinc (v := x_33) (lv' := [(6, .int x_33), (5, .int (nI kk6)), (4, .int x_31), (8, .int x_25), (7, .int 1), (0, .ref h), (1, .int (nI j)), (2, .int x), (3, .int y)]) hx hb dX5_leastWith_98 hl (k := 4) rfl ex_33 (by decide) rfl (fun ls hl => ?_)
                refine lv_goto (tgt := 13) hx hb dX5_leastWith_101 (by decide) ?_
                exact ih13 kk6 x_33 x_31 (k_left hfuel13 c_4 ex_33) (by first | assumption | omega) H locs (hP.sub [0, 1, 2, 3] rfl) (hD.sub [0, 1, 2, 3] (by decide) rfl) hS ls (lv_sub hl [0, 1, 2, 5, 6, 7, 8] rfl)
  exact L13 ((Int32.toInt r_1).toNat + 1) j r_1 2147483647 (Nat.lt_succ_self _) (by first | assumption | omega) H locs (hP.sub [0, 1, 2, 3] rfl) (hD.sub [0, 1, 2, 3] (by decide) rfl) hS ls (lv_sub hl [0, 1, 2, 3, 4, 5, 6] rfl)
theorem dX5_fill_0 : decode cX5_fill 0 = .ok (.aload_n 0, 1) := by decide +kernel
theorem dX5_fill_1 : decode cX5_fill 1 = .ok (.aload_n 1, 1) := by decide +kernel
theorem dX5_fill_2 : decode cX5_fill 2 = .ok (.iload_n 2, 1) := by decide +kernel
theorem dX5_fill_3 : decode cX5_fill 3 = .ok (.invokevirtual 60, 3) := by decide +kernel
theorem dX5_fill_6 : decode cX5_fill 6 = .ok (.aload_n 0, 1) := by decide +kernel
theorem dX5_fill_7 : decode cX5_fill 7 = .ok (.getfield 27, 3) := by decide +kernel
theorem dX5_fill_10 : decode cX5_fill 10 = .ok (.istore 5, 2) := by decide +kernel
theorem dX5_fill_12 : decode cX5_fill 12 = .ok (.aload_n 0, 1) := by decide +kernel
theorem dX5_fill_13 : decode cX5_fill 13 = .ok (.getfield 27, 3) := by decide +kernel
theorem dX5_fill_16 : decode cX5_fill 16 = .ok (.invokestatic 64, 3) := by decide +kernel
theorem dX5_fill_19 : decode cX5_fill 19 = .ok (.istore 6, 2) := by decide +kernel
theorem dX5_fill_21 : decode cX5_fill 21 = .ok (.iload 6, 2) := by decide +kernel
theorem dX5_fill_23 : decode cX5_fill 23 = .ok (.ifCond .le 36, 3) := by decide +kernel
theorem dX5_fill_59 : decode cX5_fill 59 = .ok (.return_, 1) := by decide +kernel
theorem dX5_fill_26 : decode cX5_fill 26 = .ok (.aload_n 0, 1) := by decide +kernel
theorem dX5_fill_27 : decode cX5_fill 27 = .ok (.getfield 11, 3) := by decide +kernel
theorem dX5_fill_30 : decode cX5_fill 30 = .ok (.iload 5, 2) := by decide +kernel
theorem dX5_fill_32 : decode cX5_fill 32 = .ok (.aload_n 0, 1) := by decide +kernel
theorem dX5_fill_33 : decode cX5_fill 33 = .ok (.iload 5, 2) := by decide +kernel
theorem dX5_fill_35 : decode cX5_fill 35 = .ok (.iload_n 3, 1) := by decide +kernel
theorem dX5_fill_36 : decode cX5_fill 36 = .ok (.iload 4, 2) := by decide +kernel
theorem dX5_fill_38 : decode cX5_fill 38 = .ok (.invokevirtual 67, 3) := by decide +kernel
theorem dX5_fill_41 : decode cX5_fill 41 = .ok (.iastore, 1) := by decide +kernel
theorem dX5_fill_42 : decode cX5_fill 42 = .ok (.iload 5, 2) := by decide +kernel
theorem dX5_fill_44 : decode cX5_fill 44 = .ok (.iconst 1, 1) := by decide +kernel
theorem dX5_fill_45 : decode cX5_fill 45 = .ok (.isub, 1) := by decide +kernel
theorem dX5_fill_46 : decode cX5_fill 46 = .ok (.aload_n 0, 1) := by decide +kernel
theorem dX5_fill_47 : decode cX5_fill 47 = .ok (.getfield 27, 3) := by decide +kernel
theorem dX5_fill_50 : decode cX5_fill 50 = .ok (.iand, 1) := by decide +kernel
theorem dX5_fill_51 : decode cX5_fill 51 = .ok (.istore 5, 2) := by decide +kernel
theorem dX5_fill_53 : decode cX5_fill 53 = .ok (.iinc 6 (-1), 3) := by decide +kernel
theorem dX5_fill_56 : decode cX5_fill 56 = .ok (.goto (-35), 3) := by decide +kernel
set_option maxHeartbeats 8000000 in
set_option maxRecDepth 100000 in
theorem c_X5_fill (l : Launch) (g : kG) (sz : Nat) (h : Nat) (p1 : Nat) (p2 : Nat) (p3 : Nat) (l1 : Nat → Int32) (l2 : Nat → Int32) (l3 : Nat → Int32) (xt : Int32) (ja : Nat) (a : Nat → Nat) (cnt : Nat) (f0 : Nat → Int32) (f1 : Nat → Int32) (xi : Int32) (x : Int32) (y : Int32) (z : Int32) (hc : cnt ≤ 7) (hja : ja < 128) : kMv l g yX5_fill cX5_fill 7 none 4 0 0 [.ref h, .ref (a 0), .int x, .int y, .int z] sz [(h, .inr (5, [.ref p1, .ref p2, .ref p3, .int (nI ja), .int xt])), (p1, .inl (gI g, 128, .inl l1)), (p2, .inl (gI g, 128, .inl l2)), (p3, .inl (gI g, 128, .inl l3)), (a 0, .inr (1, [.int (nI cnt), .ref (a 1), .ref (a 2), .int xi])), (a 1, .inl (gI g, 7, .inl f0)), (a 2, .inl (gI g, 7, .inl f1))] (fun (u : (Nat → Int32) × (Nat → Int32)) => True) (fun (u : (Nat → Int32) × (Nat → Int32)) => ([(h, .inr (5, [.ref p1, .ref p2, .ref p3, .int (nI ja), .int xt])), (p1, .inl (gI g, 128, .inl u.1)), (p2, .inl (gI g, 128, .inl u.2)), (p3, .inl (gI g, 128, .inl l3)), (a 0, .inr (1, [.int (nI cnt), .ref (a 1), .ref (a 2), .int xi])), (a 1, .inl (gI g, 7, .inl f0)), (a 2, .inl (gI g, 7, .inl f1))] : va_W)) := by
  refine kMv.of (by decide) (Nat.le_of_ble_eq_true rfl) (fun p e s m below meth c A hx hb hr hml hown hts hlk hnm hKW hP hD hS hA ls hl => ?_)
  have hown : s.vm.findClass RX5 = some m.cls := hown
  have hl : lv_has ls 7 [(0, .ref h), (1, .ref (a 0)), (2, .int x), (3, .int y), (4, .int z)] := hl
  refine k_hide hP hS (fun H locs hP hS => ?_)
  refine lv_aload_n hx hb dX5_fill_0 rfl (lv_at hl 0 rfl) ?_
  refine lv_aload_n hx hb dX5_fill_1 rfl (lv_at hl 1 rfl) ?_
  refine lv_iload_n hx hb dX5_fill_2 rfl (lv_at hl 2 rfl) ?_
  refine k_Vv [0, 1, 2, 3, 4, 5, 6] [] 0 5 (wr := []) hx hb hml hown hts hKW hP hD hS hA hl.1 (c_X5_sumCosts l g _ h p1 p2 p3 l1 l2 l3 xt ja a cnt f0 f1 xi x (by first | assumption | omega | decide)) rfl rfl rfl wd_30_0 wd_2_2 wd_29_21 wd_29_22 wd_29_23 yd_X5_sumCosts ⟨(Nat.le_of_ble_eq_true rfl), (Nat.le_of_ble_eq_true rfl)⟩ rfl rfl rfl rfl (by decide) rfl (Nat.le_of_ble_eq_true rfl) dX5_fill_3 ⟨(Nat.le_of_ble_eq_true rfl), (Nat.le_of_ble_eq_true rfl)⟩ (fun u_2 H locs hw_3 hP hD hS => ?_)
  have hP : va_P g.1 vwCl [(h, .inr (5, [.ref p1, .ref p2, .ref p3, .int (nI ja), .int xt])), (p1, .inl (gI g, 128, .inl l1)), (p2, .inl (gI g, 128, .inl u_2)), (p3, .inl (gI g, 128, .inl l3)), (a 0, .inr (1, [.int (nI cnt), .ref (a 1), .ref (a 2), .int xi])), (a 1, .inl (gI g, 7, .inl f0)), (a 2, .inl (gI g, 7, .inl f1))] H := hP
  have hD : va_D A [(h, .inr (5, [.ref p1, .ref p2, .ref p3, .int (nI ja), .int xt])), (p1, .inl (gI g, 128, .inl l1)), (p2, .inl (gI g, 128, .inl u_2)), (p3, .inl (gI g, 128, .inl l3)), (a 0, .inr (1, [.int (nI cnt), .ref (a 1), .ref (a 2), .int xi])), (a 1, .inl (gI g, 7, .inl f0)), (a 2, .inl (gI g, 7, .inl f1))] := hD
  refine lv_aload_n hx hb dX5_fill_6 rfl (lv_at hl 0 rfl) ?_
  refine va_get (ci := 5) (C := RX5) (T := TX5) (N := 5) hx hb hts inlX5 hown hKW.1 hP 0 rfl rfl 3 (by decide) (hts _ wd_28_23) (fun _ h => h) rfl dX5_fill_7 ?_
  refine lv_istore (lv' := [(5, .int (nI ja)), (0, .ref h), (1, .ref (a 0)), (2, .int x), (3, .int y), (4, .int z)]) hx hb dX5_fill_10 hl (by decide) rfl (fun ls hl => ?_)
  refine lv_aload_n hx hb dX5_fill_12 rfl (lv_at hl 1 rfl) ?_
  refine va_get (ci := 5) (C := RX5) (T := TX5) (N := 5) hx hb hts inlX5 hown hKW.1 hP 0 rfl rfl 3 (by decide) (hts _ wd_28_23) (fun _ h => h) rfl dX5_fill_13 ?_
  refine k_Si [] [0, 1, 2, 3, 4, 5, 6] (wr := [(h, .inr (5, [.ref p1, .ref p2, .ref p3, .int (nI ja), .int xt])), (p1, .inl (gI g, 128, .inl l1)), (p2, .inl (gI g, 128, .inl u_2)), (p3, .inl (gI g, 128, .inl l3)), (a 0, .inr (1, [.int (nI cnt), .ref (a 1), .ref (a 2), .int xi])), (a 1, .inl (gI g, 7, .inl f0)), (a 2, .inl (gI g, 7, .inl f1))]) hx hb hml hown hts hKW hP hD hS hA hl.1 (c_X5_partsOf l g _ (nI ja) ) wd_30_6 wd_2_2 wd_30_4 wd_30_5 yd_X5_partsOf ⟨(Nat.le_of_ble_eq_true rfl), (Nat.le_of_ble_eq_true rfl)⟩ rfl rfl rfl rfl (by decide) rfl (Nat.le_of_ble_eq_true rfl) dX5_fill_16 ⟨(Nat.le_of_ble_eq_true rfl), (Nat.le_of_ble_eq_true rfl)⟩ (fun r_4 u_5 H locs hw_6 hP hD hS => ?_)
  have hP : va_P g.1 vwCl [(h, .inr (5, [.ref p1, .ref p2, .ref p3, .int (nI ja), .int xt])), (p1, .inl (gI g, 128, .inl l1)), (p2, .inl (gI g, 128, .inl u_2)), (p3, .inl (gI g, 128, .inl l3)), (a 0, .inr (1, [.int (nI cnt), .ref (a 1), .ref (a 2), .int xi])), (a 1, .inl (gI g, 7, .inl f0)), (a 2, .inl (gI g, 7, .inl f1))] H := hP
  have hD : va_D A [(h, .inr (5, [.ref p1, .ref p2, .ref p3, .int (nI ja), .int xt])), (p1, .inl (gI g, 128, .inl l1)), (p2, .inl (gI g, 128, .inl u_2)), (p3, .inl (gI g, 128, .inl l3)), (a 0, .inr (1, [.int (nI cnt), .ref (a 1), .ref (a 2), .int xi])), (a 1, .inl (gI g, 7, .inl f0)), (a 2, .inl (gI g, 7, .inl f1))] := hD
  refine lv_istore (lv' := [(6, .int r_4), (5, .int (nI ja)), (0, .ref h), (1, .ref (a 0)), (2, .int x), (3, .int y), (4, .int z)]) hx hb dX5_fill_19 hl (by decide) rfl (fun ls hl => ?_)
  have L21 : ∀ (n21 : Nat) (k : Nat) (x6 : Int32) (ga : Nat → Int32) (hfuel21 : (Int32.toInt x6).toNat < n21) (hk : k < 128) (H : Heap) (locs : List Loc) (hP : va_P g.1 vwCl [(h, .inr (5, [.ref p1, .ref p2, .ref p3, .int (nI ja), .int xt])), (p1, .inl (gI g, 128, .inl ga)), (p2, .inl (gI g, 128, .inl u_2)), (p3, .inl (gI g, 128, .inl l3)), (a 0, .inr (1, [.int (nI cnt), .ref (a 1), .ref (a 2), .int xi])), (a 1, .inl (gI g, 7, .inl f0)), (a 2, .inl (gI g, 7, .inl f1))] H) (hD : va_D A [(h, .inr (5, [.ref p1, .ref p2, .ref p3, .int (nI ja), .int xt])), (p1, .inl (gI g, 128, .inl ga)), (p2, .inl (gI g, 128, .inl u_2)), (p3, .inl (gI g, 128, .inl l3)), (a 0, .inr (1, [.int (nI cnt), .ref (a 1), .ref (a 2), .int xi])), (a 1, .inl (gI g, 7, .inl f0)), (a 2, .inl (gI g, 7, .inl f1))]) (hS : va_S A s.heap H locs) (ls : Array Slot) (hl : lv_has ls 7 [(6, .int x6), (5, .int (nI k)), (0, .ref h), (1, .ref (a 0)), (2, .int x), (3, .int y), (4, .int z)]), W p l e (kR 4 0 0) s m ([.ref h, .ref (a 0), .int x, .int y, .int z] : List Value).toArray below meth c H locs 0 0 (kQv g A below ([.ref h, .ref (a 0), .int x, .int y, .int z] : List Value).toArray s 0 0 (fun (u : (Nat → Int32) × (Nat → Int32)) => True) (fun (u : (Nat → Int32) × (Nat → Int32)) => ([(h, .inr (5, [.ref p1, .ref p2, .ref p3, .int (nI ja), .int xt])), (p1, .inl (gI g, 128, .inl u.1)), (p2, .inl (gI g, 128, .inl u.2)), (p3, .inl (gI g, 128, .inl l3)), (a 0, .inr (1, [.int (nI cnt), .ref (a 1), .ref (a 2), .int xi])), (a 1, .inl (gI g, 7, .inl f0)), (a 2, .inl (gI g, 7, .inl f1))] : va_W))) (F0 m 21 ls []) := by
    intro n21
    induction n21 with
    | zero => intro k x6 ga hfuel21; exact absurd hfuel21 (Nat.not_lt_zero _)
    | succ n21 ih21 =>
      intro k x6 ga hfuel21 hk H locs hP hD hS ls hl
      refine lv_iload hx hb dX5_fill_21 (lv_at hl 0 rfl) ?_
      refine lv_if_le (tgt := 59) hx hb dX5_fill_23 (by decide) (fun c_7 => ?_) (fun c_7 => ?_)
      · exact k_vret (ga, u_2) [0, 1, 2, 3, 4, 5, 6] hx hb hr hlk hP hD hS trivial rfl rfl rfl (Nat.le_of_ble_eq_true rfl) (Nat.le_of_ble_eq_true rfl) dX5_fill_59
      · refine lv_aload_n hx hb dX5_fill_26 rfl (lv_at hl 2 rfl) ?_
        refine va_get (ci := 5) (C := RX5) (T := TX5) (N := 5) hx hb hts inlX5 hown hKW.1 hP 0 rfl rfl 0 (by decide) (hts _ wd_5_14) (fun _ h => h) rfl dX5_fill_27 ?_
        refine lv_iload hx hb dX5_fill_30 (lv_at hl 1 rfl) ?_
        refine lv_aload_n hx hb dX5_fill_32 rfl (lv_at hl 2 rfl) ?_
        refine lv_iload hx hb dX5_fill_33 (lv_at hl 1 rfl) ?_
        refine lv_iload_n hx hb dX5_fill_35 rfl (lv_at hl 5 rfl) ?_
        refine lv_iload hx hb dX5_fill_36 (lv_at hl 6 rfl) ?_
        refine k_Vi [0, 1, 2, 3] [4, 5, 6] 0 5 (wr := [(a 0, .inr (1, [.int (nI cnt), .ref (a 1), .ref (a 2), .int xi])), (a 1, .inl (gI g, 7, .inl f0)), (a 2, .inl (gI g, 7, .inl f1))]) hx hb hml hown hts hKW hP hD hS hA hl.1 (c_X5_leastWith l g _ h p1 p2 p3 ga u_2 l3 xt ja k y z (by first | assumption | omega | decide)) rfl rfl rfl wd_30_11 wd_2_2 wd_30_8 wd_30_9 wd_30_10 yd_X5_leastWith ⟨(Nat.le_of_ble_eq_true rfl), (Nat.le_of_ble_eq_true rfl)⟩ rfl rfl rfl rfl (by decide) rfl (Nat.le_of_ble_eq_true rfl) dX5_fill_38 ⟨(Nat.le_of_ble_eq_true rfl), (Nat.le_of_ble_eq_true rfl)⟩ (fun r_8 u_9 H locs hw_10 hP hD hS => ?_)
        have hP : va_P g.1 vwCl [(a 0, .inr (1, [.int (nI cnt), .ref (a 1), .ref (a 2), .int xi])), (a 1, .inl (gI g, 7, .inl f0)), (a 2, .inl (gI g, 7, .inl f1)), (h, .inr (5, [.ref p1, .ref p2, .ref p3, .int (nI ja), .int xt])), (p1, .inl (gI g, 128, .inl ga)), (p2, .inl (gI g, 128, .inl u_2)), (p3, .inl (gI g, 128, .inl l3))] H := hP
        have hD : va_D A [(a 0, .inr (1, [.int (nI cnt), .ref (a 1), .ref (a 2), .int xi])), (a 1, .inl (gI g, 7, .inl f0)), (a 2, .inl (gI g, 7, .inl f1)), (h, .inr (5, [.ref p1, .ref p2, .ref p3, .int (nI ja), .int xt])), (p1, .inl (gI g, 128, .inl ga)), (p2, .inl (gI g, 128, .inl u_2)), (p3, .inl (gI g, 128, .inl l3))] := hD
        refine va_iast hx hb hKW.1 hP hD hS 4 0 rfl rfl (vp_in_nI (by omega) (by decide)) dX5_fill_41 (fun H locs hP hD hS => ?_)
        have hP : va_P g.1 vwCl [(a 0, .inr (1, [.int (nI cnt), .ref (a 1), .ref (a 2), .int xi])), (a 1, .inl (gI g, 7, .inl f0)), (a 2, .inl (gI g, 7, .inl f1)), (h, .inr (5, [.ref p1, .ref p2, .ref p3, .int (nI ja), .int xt])), (p1, .inl (gI g, 128, .inl (upd ga (nI k).toNatClampNeg r_8))), (p2, .inl (gI g, 128, .inl u_2)), (p3, .inl (gI g, 128, .inl l3))] H := hP
        have hD : va_D A [(a 0, .inr (1, [.int (nI cnt), .ref (a 1), .ref (a 2), .int xi])), (a 1, .inl (gI g, 7, .inl f0)), (a 2, .inl (gI g, 7, .inl f1)), (h, .inr (5, [.ref p1, .ref p2, .ref p3, .int (nI ja), .int xt])), (p1, .inl (gI g, 128, .inl (upd ga (nI k).toNatClampNeg r_8))), (p2, .inl (gI g, 128, .inl u_2)), (p3, .inl (gI g, 128, .inl l3))] := hD
        obtain ⟨f_11, ef_11⟩ : ∃ zz_ : Nat → Int32, zz_ = upd ga (nI k).toNatClampNeg r_8 := ⟨_, rfl⟩
        rw [← ef_11] at hP hD
        refine lv_iload hx hb dX5_fill_42 (lv_at hl 1 rfl) ?_
        refine lv_iconst (v := 1) hx hb dX5_fill_44 (by decide) ?_
        refine lv_isub hx hb dX5_fill_45 ?_
        refine lv_topi (fun x_12 ex_12 => ?_)
        refine lv_aload_n hx hb dX5_fill_46 rfl (lv_at hl 2 rfl) ?_
        refine va_get (ci := 5) (C := RX5) (T := TX5) (N := 5) hx hb hts inlX5 hown hKW.1 hP 3 rfl rfl 3 (by decide) (hts _ wd_28_23) (fun _ h => h) rfl dX5_fill_47 ?_
        obtain ⟨kk1, hkk1, ekk1⟩ := k_and7 (m := ja) (by omega) x_12
        refine lv_iand hx hb dX5_fill_50 ?_
        refine k_top (y := nI kk1) ekk1 ?_
        refine lv_istore (lv' := [(5, .int (nI kk1)), (6, .int x6), (0, .ref h), (1, .ref (a 0)), (2, .int x), (3, .int y), (4, .int z)]) hx hb dX5_fill_51 hl (by decide) rfl (fun ls hl => ?_)
        obtain ⟨x_13, ex_13⟩ : ∃ z : Int32, x6 + Int32.ofInt (-1) = z := ⟨_, rfl⟩
        refine lv_iinc (v := x_13) (lv' := [(6, .int x_13), (5, .int (nI kk1)), (0, .ref h), (1, .ref (a 0)), (2, .int x), (3, .int y), (4, .int z)]) hx hb dX5_fill_53 hl (k := 1) rfl ex_13 (by decide) rfl (fun ls hl => ?_)
        refine lv_goto (tgt := 21) hx hb dX5_fill_56 (by decide) ?_
        exact ih21 kk1 x_13 f_11 (k_left hfuel21 c_7 ex_13) (by first | assumption | omega) H locs (hP.sub [3, 4, 5, 6, 0, 1, 2] rfl) (hD.sub [3, 4, 5, 6, 0, 1, 2] (by decide) rfl) hS ls (lv_sub hl [0, 1, 2, 3, 4, 5, 6] rfl)
  exact L21 ((Int32.toInt r_4).toNat + 1) ja r_4 l1 (Nat.lt_succ_self _) (by first | assumption | omega) H locs (hP.sub [0, 1, 2, 3, 4, 5, 6] rfl) (hD.sub [0, 1, 2, 3, 4, 5, 6] (by decide) rfl) hS ls (lv_sub hl [0, 1, 2, 3, 4, 5, 6] rfl)
theorem dX5_isPossible_0 : decode cX5_isPossible 0 = .ok (.aload_n 0, 1) := by decide +kernel
theorem dX5_isPossible_1 : decode cX5_isPossible 1 = .ok (.getfield 11, 3) := by decide +kernel
theorem dX5_isPossible_4 : decode cX5_isPossible 4 = .ok (.aload_n 0, 1) := by decide +kernel
theorem dX5_isPossible_5 : decode cX5_isPossible 5 = .ok (.getfield 27, 3) := by decide +kernel
theorem dX5_isPossible_8 : decode cX5_isPossible 8 = .ok (.iaload, 1) := by decide +kernel
theorem dX5_isPossible_9 : decode cX5_isPossible 9 = .ok (.ldc 43, 2) := by decide +kernel
theorem dX5_isPossible_11 : decode cX5_isPossible 11 = .ok (.if_icmp .eq 7, 3) := by decide +kernel
theorem dX5_isPossible_18 : decode cX5_isPossible 18 = .ok (.iconst 0, 1) := by decide +kernel
theorem dX5_isPossible_19 : decode cX5_isPossible 19 = .ok (.ireturn, 1) := by decide +kernel
theorem dX5_isPossible_14 : decode cX5_isPossible 14 = .ok (.iconst 1, 1) := by decide +kernel
theorem dX5_isPossible_15 : decode cX5_isPossible 15 = .ok (.goto 4, 3) := by decide +kernel
set_option maxHeartbeats 8000000 in
set_option maxRecDepth 100000 in
theorem c_X5_isPossible (l : Launch) (g : kG) (sz : Nat) (h : Nat) (p1 : Nat) (p2 : Nat) (p3 : Nat) (l1 : Nat → Int32) (l2 : Nat → Int32) (l3 : Nat → Int32) (xt : Int32) (ja : Nat) (hja : ja < 128) : kMi l g yX5_isPossible cX5_isPossible 1 (some .boolean) 1 0 0 [.ref h] sz [(h, .inr (5, [.ref p1, .ref p2, .ref p3, .int (nI ja), .int xt])), (p1, .inl (gI g, 128, .inl l1)), (p2, .inl (gI g, 128, .inl l2)), (p3, .inl (gI g, 128, .inl l3))] (fun (r : Int32) (u : Unit) => r = 1 ∨ r = 0) (fun (u : Unit) => ([(h, .inr (5, [.ref p1, .ref p2, .ref p3, .int (nI ja), .int xt])), (p1, .inl (gI g, 128, .inl l1)), (p2, .inl (gI g, 128, .inl l2)), (p3, .inl (gI g, 128, .inl l3))] : va_W)) := by
  refine kMi.of (by decide) (Nat.le_of_ble_eq_true rfl) (fun p e s m below meth c A hx hb hr hml hown hts hlk hnm hKW hP hD hS hA ls hl => ?_)
  have hown : s.vm.findClass RX5 = some m.cls := hown
  have hl : lv_has ls 1 [(0, .ref h)] := hl
  refine k_hide hP hS (fun H locs hP hS => ?_)
  refine lv_aload_n hx hb dX5_isPossible_0 rfl (lv_at hl 0 rfl) ?_
  refine va_get (ci := 5) (C := RX5) (T := TX5) (N := 5) hx hb hts inlX5 hown hKW.1 hP 0 rfl rfl 0 (by decide) (hts _ wd_5_14) (fun _ h => h) rfl dX5_isPossible_1 ?_
  refine lv_aload_n hx hb dX5_isPossible_4 rfl (lv_at hl 0 rfl) ?_
  refine va_get (ci := 5) (C := RX5) (T := TX5) (N := 5) hx hb hts inlX5 hown hKW.1 hP 0 rfl rfl 3 (by decide) (hts _ wd_28_23) (fun _ h => h) rfl dX5_isPossible_5 ?_
  refine va_iald hx hb hKW.1 hP 1 0 rfl rfl (vp_in_nI (by omega) (by decide)) dX5_isPossible_8 ?_
  refine lv_topi (fun x_1 ex_1 => ?_)
  refine lv_ldc (v := 2147483647) hx hb hown (hts _ wd_29_1) dX5_isPossible_9 ?_
  refine lv_icmp_eq (tgt := 18) hx hb dX5_isPossible_11 (by decide) (fun c_2 => ?_) (fun c_2 => ?_)
  · refine lv_iconst (v := 0) hx hb dX5_isPossible_18 (by decide) ?_
    exact k_zret () [0, 1, 2, 3] hx hb hr hlk hP hD hS (Or.inr rfl) rfl rfl rfl rfl (Nat.le_of_ble_eq_true rfl) (Nat.le_of_ble_eq_true rfl) dX5_isPossible_19
  · refine lv_iconst (v := 1) hx hb dX5_isPossible_14 (by decide) ?_
    refine lv_goto (tgt := 19) hx hb dX5_isPossible_15 (by decide) ?_
    exact k_zret () [0, 1, 2, 3] hx hb hr hlk hP hD hS (Or.inl rfl) rfl rfl rfl rfl (Nat.le_of_ble_eq_true rfl) (Nat.le_of_ble_eq_true rfl) dX5_isPossible_19
theorem dX5_movedHands_0 : decode cX5_movedHands 0 = .ok (.aload_n 0, 1) := by decide +kernel
theorem dX5_movedHands_1 : decode cX5_movedHands 1 = .ok (.getfield 11, 3) := by decide +kernel
theorem dX5_movedHands_4 : decode cX5_movedHands 4 = .ok (.aload_n 0, 1) := by decide +kernel
theorem dX5_movedHands_5 : decode cX5_movedHands 5 = .ok (.getfield 27, 3) := by decide +kernel
theorem dX5_movedHands_8 : decode cX5_movedHands 8 = .ok (.iaload, 1) := by decide +kernel
theorem dX5_movedHands_9 : decode cX5_movedHands 9 = .ok (.ldc 56, 2) := by decide +kernel
theorem dX5_movedHands_11 : decode cX5_movedHands 11 = .ok (.idiv, 1) := by decide +kernel
theorem dX5_movedHands_12 : decode cX5_movedHands 12 = .ok (.ireturn, 1) := by decide +kernel
set_option maxHeartbeats 8000000 in
set_option maxRecDepth 100000 in
theorem c_X5_movedHands (l : Launch) (g : kG) (sz : Nat) (h : Nat) (p1 : Nat) (p2 : Nat) (p3 : Nat) (l1 : Nat → Int32) (l2 : Nat → Int32) (l3 : Nat → Int32) (xt : Int32) (ja : Nat) (hja : ja < 128) : kMi l g yX5_movedHands cX5_movedHands 1 (some .int) 1 0 0 [.ref h] sz [(h, .inr (5, [.ref p1, .ref p2, .ref p3, .int (nI ja), .int xt])), (p1, .inl (gI g, 128, .inl l1)), (p2, .inl (gI g, 128, .inl l2)), (p3, .inl (gI g, 128, .inl l3))] (fun (r : Int32) (u : Unit) => True) (fun (u : Unit) => ([(h, .inr (5, [.ref p1, .ref p2, .ref p3, .int (nI ja), .int xt])), (p1, .inl (gI g, 128, .inl l1)), (p2, .inl (gI g, 128, .inl l2)), (p3, .inl (gI g, 128, .inl l3))] : va_W)) := by
  refine kMi.of (by decide) (Nat.le_of_ble_eq_true rfl) (fun p e s m below meth c A hx hb hr hml hown hts hlk hnm hKW hP hD hS hA ls hl => ?_)
  have hown : s.vm.findClass RX5 = some m.cls := hown
  have hl : lv_has ls 1 [(0, .ref h)] := hl
  refine k_hide hP hS (fun H locs hP hS => ?_)
  refine lv_aload_n hx hb dX5_movedHands_0 rfl (lv_at hl 0 rfl) ?_
  refine va_get (ci := 5) (C := RX5) (T := TX5) (N := 5) hx hb hts inlX5 hown hKW.1 hP 0 rfl rfl 0 (by decide) (hts _ wd_5_14) (fun _ h => h) rfl dX5_movedHands_1 ?_
  refine lv_aload_n hx hb dX5_movedHands_4 rfl (lv_at hl 0 rfl) ?_
  refine va_get (ci := 5) (C := RX5) (T := TX5) (N := 5) hx hb hts inlX5 hown hKW.1 hP 0 rfl rfl 3 (by decide) (hts _ wd_28_23) (fun _ h => h) rfl dX5_movedHands_5 ?_
  refine va_iald hx hb hKW.1 hP 1 0 rfl rfl (vp_in_nI (by omega) (by decide)) dX5_movedHands_8 ?_
  refine lv_topi (fun x_1 ex_1 => ?_)
  refine lv_ldc (v := 279936) hx hb hown (hts _ wd_30_2) dX5_movedHands_9 ?_
  refine lv_idiv hx hb dX5_movedHands_11 (by decide) ?_
  refine lv_topi (fun x_2 ex_2 => ?_)
  exact k_iret () [0, 1, 2, 3] hx hb hr hlk hP hD hS trivial rfl rfl rfl (Nat.le_of_ble_eq_true rfl) (Nat.le_of_ble_eq_true rfl) dX5_movedHands_12
theorem dX5_roomFor_0 : decode cX5_roomFor 0 = .ok (.aload_n 0, 1) := by decide +kernel
theorem dX5_roomFor_1 : decode cX5_roomFor 1 = .ok (.getfield 11, 3) := by decide +kernel
theorem dX5_roomFor_4 : decode cX5_roomFor 4 = .ok (.aload_n 0, 1) := by decide +kernel
theorem dX5_roomFor_5 : decode cX5_roomFor 5 = .ok (.getfield 27, 3) := by decide +kernel
theorem dX5_roomFor_8 : decode cX5_roomFor 8 = .ok (.iaload, 1) := by decide +kernel
theorem dX5_roomFor_9 : decode cX5_roomFor 9 = .ok (.getstatic 57, 3) := by decide +kernel
theorem dX5_roomFor_12 : decode cX5_roomFor 12 = .ok (.iload_n 1, 1) := by decide +kernel
theorem dX5_roomFor_13 : decode cX5_roomFor 13 = .ok (.iaload, 1) := by decide +kernel
theorem dX5_roomFor_14 : decode cX5_roomFor 14 = .ok (.idiv, 1) := by decide +kernel
theorem dX5_roomFor_15 : decode cX5_roomFor 15 = .ok (.bipush 6, 2) := by decide +kernel
theorem dX5_roomFor_17 : decode cX5_roomFor 17 = .ok (.irem, 1) := by decide +kernel
theorem dX5_roomFor_18 : decode cX5_roomFor 18 = .ok (.iconst 1, 1) := by decide +kernel
theorem dX5_roomFor_19 : decode cX5_roomFor 19 = .ok (.isub, 1) := by decide +kernel
theorem dX5_roomFor_20 : decode cX5_roomFor 20 = .ok (.ireturn, 1) := by decide +kernel
set_option maxHeartbeats 8000000 in
set_option maxRecDepth 100000 in
theorem c_X5_roomFor (l : Launch) (g : kG) (sz : Nat) (h : Nat) (p1 : Nat) (p2 : Nat) (p3 : Nat) (l1 : Nat → Int32) (l2 : Nat → Int32) (l3 : Nat → Int32) (xt : Int32) (ja : Nat) (j : Nat) (hja : ja < 128) (hj : j < 7) : kMi l g yX5_roomFor cX5_roomFor 2 (some .int) 1 0 0 [.ref h, .int (nI j)] sz [(h, .inr (5, [.ref p1, .ref p2, .ref p3, .int (nI ja), .int xt])), (p1, .inl (gI g, 128, .inl l1)), (p2, .inl (gI g, 128, .inl l2)), (p3, .inl (gI g, 128, .inl l3))] (fun (r : Int32) (u : Unit) => True) (fun (u : Unit) => ([(h, .inr (5, [.ref p1, .ref p2, .ref p3, .int (nI ja), .int xt])), (p1, .inl (gI g, 128, .inl l1)), (p2, .inl (gI g, 128, .inl l2)), (p3, .inl (gI g, 128, .inl l3))] : va_W)) := by
  refine kMi.of (by decide) (Nat.le_of_ble_eq_true rfl) (fun p e s m below meth c A hx hb hr hml hown hts hlk hnm hKW hP hD hS hA ls hl => ?_)
  have hown : s.vm.findClass RX5 = some m.cls := hown
  have hl : lv_has ls 2 [(0, .ref h), (1, .int (nI j))] := hl
  refine k_hide hP hS (fun H locs hP hS => ?_)
  obtain ⟨zw0, zw1, zx0, zx1, zz0, zy0, zl0, zn0, zz1, zy1, zl1, zn1, zd⟩ := hKW.2.2.2.2
  refine lv_aload_n hx hb dX5_roomFor_0 rfl (lv_at hl 0 rfl) ?_
  refine va_get (ci := 5) (C := RX5) (T := TX5) (N := 5) hx hb hts inlX5 hown hKW.1 hP 0 rfl rfl 0 (by decide) (hts _ wd_5_14) (fun _ h => h) rfl dX5_roomFor_1 ?_
  refine lv_aload_n hx hb dX5_roomFor_4 rfl (lv_at hl 0 rfl) ?_
  refine va_get (ci := 5) (C := RX5) (T := TX5) (N := 5) hx hb hts inlX5 hown hKW.1 hP 0 rfl rfl 3 (by decide) (hts _ wd_28_23) (fun _ h => h) rfl dX5_roomFor_5 ?_
  refine va_iald hx hb hKW.1 hP 1 0 rfl rfl (vp_in_nI (by omega) (by decide)) dX5_roomFor_8 ?_
  refine lv_topi (fun x_1 ex_1 => ?_)
  refine va_gets hx hb zz1 hS hown (hts _ wd_30_3) (fun _ h => h) dX5_roomFor_9 ?_
  refine lv_iload_n hx hb dX5_roomFor_12 rfl (lv_at hl 1 rfl) ?_
  refine k_sld hx hb zy1 zl1 zn1 hS (vp_in_nI (by omega) (by decide)) dX5_roomFor_13 ?_
  refine lv_topi (fun x_2 ex_2 => ?_)
  refine lv_idiv hx hb dX5_roomFor_14 (by rw [ex_2, nI_clamp (by omega)]; exact zd _ (by omega)) ?_
  refine lv_topi (fun x_3 ex_3 => ?_)
  refine lv_bipush (v := 6) hx hb dX5_roomFor_15 (by decide) ?_
  refine lv_irem hx hb dX5_roomFor_17 (by decide) ?_
  refine lv_topi (fun x_4 ex_4 => ?_)
  refine lv_iconst (v := 1) hx hb dX5_roomFor_18 (by decide) ?_
  refine lv_isub hx hb dX5_roomFor_19 ?_
  refine lv_topi (fun x_5 ex_5 => ?_)
  exact k_iret () [0, 1, 2, 3] hx hb hr hlk hP hD hS trivial rfl rfl rfl (Nat.le_of_ble_eq_true rfl) (Nat.le_of_ble_eq_true rfl) dX5_roomFor_20
theorem dX4_ageNow_0 : decode cX4_ageNow 0 = .ok (.aload_n 0, 1) := by decide +kernel
theorem dX4_ageNow_1 : decode cX4_ageNow 1 = .ok (.getfield 60, 3) := by decide +kernel
theorem dX4_ageNow_4 : decode cX4_ageNow 4 = .ok (.aload_n 0, 1) := by decide +kernel
theorem dX4_ageNow_5 : decode cX4_ageNow 5 = .ok (.getfield 28, 3) := by decide +kernel
theorem dX4_ageNow_8 : decode cX4_ageNow 8 = .ok (.getfield 63, 3) := by decide +kernel
theorem dX4_ageNow_11 : decode cX4_ageNow 11 = .ok (.iload_n 1, 1) := by decide +kernel
theorem dX4_ageNow_12 : decode cX4_ageNow 12 = .ok (.iaload, 1) := by decide +kernel
theorem dX4_ageNow_13 : decode cX4_ageNow 13 = .ok (.isub, 1) := by decide +kernel
theorem dX4_ageNow_14 : decode cX4_ageNow 14 = .ok (.ireturn, 1) := by decide +kernel
set_option maxHeartbeats 8000000 in
set_option maxRecDepth 100000 in
theorem c_X4_ageNow (l : Launch) (g : kG) (sz : Nat) (b : Nat → Nat) (nn : Nat → Nat) (v : Nat → Int32) (F : Nat → Nat → Int32) (j : Nat) (hj : j < 10) : kMi l g yX4_ageNow cX4_ageNow 2 (some .int) 1 0 0 [.ref (b 0), .int (nI j)] sz [(b 0, .inr (4, [.ref (b 1), .ref (b 5), .ref (b 8), .ref (b 17), .ref (b 21), .ref (b 25), .ref (b 27), .int (v 4), .int (v 5), .int (nI (nn 7)), .int (v 6)])), (b 8, .inr (0, [.int (nI (nn 2)), .ref (b 9), .ref (b 10), .ref (b 11), .ref (b 12), .ref (b 13), .ref (b 14), .ref (b 15), .int (v 1), .int (v 2), .int (nI (nn 3)), .ref (b 16)])), (b 9, .inl (gI g, 10, .inl (F 5)))] (fun (r : Int32) (u : Unit) => True) (fun (u : Unit) => ([(b 0, .inr (4, [.ref (b 1), .ref (b 5), .ref (b 8), .ref (b 17), .ref (b 21), .ref (b 25), .ref (b 27), .int (v 4), .int (v 5), .int (nI (nn 7)), .int (v 6)])), (b 8, .inr (0, [.int (nI (nn 2)), .ref (b 9), .ref (b 10), .ref (b 11), .ref (b 12), .ref (b 13), .ref (b 14), .ref (b 15), .int (v 1), .int (v 2), .int (nI (nn 3)), .ref (b 16)])), (b 9, .inl (gI g, 10, .inl (F 5)))] : va_W)) := by
  refine kMi.of (by decide) (Nat.le_of_ble_eq_true rfl) (fun p e s m below meth c A hx hb hr hml hown hts hlk hnm hKW hP hD hS hA ls hl => ?_)
  have hown : s.vm.findClass RX4 = some m.cls := hown
  have hl : lv_has ls 2 [(0, .ref (b 0)), (1, .int (nI j))] := hl
  refine k_hide hP hS (fun H locs hP hS => ?_)
  refine lv_aload_n hx hb dX4_ageNow_0 rfl (lv_at hl 0 rfl) ?_
  refine va_get (ci := 4) (C := RX4) (T := TX4) (N := 11) hx hb hts inlX4 hown hKW.1 hP 0 rfl rfl 7 (by decide) (hts _ wd_8_12) (fun _ h => h) rfl dX4_ageNow_1 ?_
  refine lv_aload_n hx hb dX4_ageNow_4 rfl (lv_at hl 0 rfl) ?_
  refine va_get (ci := 4) (C := RX4) (T := TX4) (N := 11) hx hb hts inlX4 hown hKW.1 hP 0 rfl rfl 2 (by decide) (hts _ wd_3_2) (fun _ h => h) rfl dX4_ageNow_5 ?_
  refine va_get (ci := 0) (C := RX0) (T := TX0) (N := 12) hx hb hts inlX0 hown hKW.1 hP 1 rfl rfl 1 (by decide) (hts _ wd_15_4) (fun _ h => h) rfl dX4_ageNow_8 ?_
  refine lv_iload_n hx hb dX4_ageNow_11 rfl (lv_at hl 1 rfl) ?_
  refine va_iald hx hb hKW.1 hP 2 0 rfl rfl (vp_in_nI (by omega) (by decide)) dX4_ageNow_12 ?_
  refine lv_topi (fun x_1 ex_1 => ?_)
  refine lv_isub hx hb dX4_ageNow_13 ?_
  refine lv_topi (fun x_2 ex_2 => ?_)
  exact k_iret () [0, 1, 2] hx hb hr hlk hP hD hS trivial rfl rfl rfl (Nat.le_of_ble_eq_true rfl) (Nat.le_of_ble_eq_true rfl) dX4_ageNow_14
theorem dX4_roomInMonth_0 : decode cX4_roomInMonth 0 = .ok (.aload_n 0, 1) := by decide +kernel
theorem dX4_roomInMonth_1 : decode cX4_roomInMonth 1 = .ok (.getfield 12, 3) := by decide +kernel
theorem dX4_roomInMonth_4 : decode cX4_roomInMonth 4 = .ok (.iload_n 2, 1) := by decide +kernel
theorem dX4_roomInMonth_5 : decode cX4_roomInMonth 5 = .ok (.aload_n 0, 1) := by decide +kernel
theorem dX4_roomInMonth_6 : decode cX4_roomInMonth 6 = .ok (.getfield 28, 3) := by decide +kernel
theorem dX4_roomInMonth_9 : decode cX4_roomInMonth 9 = .ok (.getfield 63, 3) := by decide +kernel
theorem dX4_roomInMonth_12 : decode cX4_roomInMonth 12 = .ok (.iload_n 1, 1) := by decide +kernel
theorem dX4_roomInMonth_13 : decode cX4_roomInMonth 13 = .ok (.iaload, 1) := by decide +kernel
theorem dX4_roomInMonth_14 : decode cX4_roomInMonth 14 = .ok (.isub, 1) := by decide +kernel
theorem dX4_roomInMonth_15 : decode cX4_roomInMonth 15 = .ok (.invokevirtual 66, 3) := by decide +kernel
theorem dX4_roomInMonth_18 : decode cX4_roomInMonth 18 = .ok (.ireturn, 1) := by decide +kernel
set_option maxHeartbeats 8000000 in
set_option maxRecDepth 100000 in
theorem c_X4_roomInMonth (l : Launch) (g : kG) (sz : Nat) (b : Nat → Nat) (nn : Nat → Nat) (v : Nat → Int32) (F : Nat → Nat → Int32) (j : Nat) (x : Int32) (hj : j < 10) (hn0 : nn 0 ≤ 5) : kMi l g yX4_roomInMonth cX4_roomInMonth 3 (some .int) 2 0 0 [.ref (b 0), .int (nI j), .int x] sz [(b 0, .inr (4, [.ref (b 1), .ref (b 5), .ref (b 8), .ref (b 17), .ref (b 21), .ref (b 25), .ref (b 27), .int (v 4), .int (v 5), .int (nI (nn 7)), .int (v 6)])), (b 1, .inr (8, [.int (nI (nn 0)), .ref (b 2), .ref (b 3), .ref (b 4)])), (b 2, .inl (gI g, 5, .inl (F 0))), (b 3, .inl (gI g, 5, .inl (F 1))), (b 4, .inl (gI g, 5, .inl (F 2))), (b 8, .inr (0, [.int (nI (nn 2)), .ref (b 9), .ref (b 10), .ref (b 11), .ref (b 12), .ref (b 13), .ref (b 14), .ref (b 15), .int (v 1), .int (v 2), .int (nI (nn 3)), .ref (b 16)])), (b 9, .inl (gI g, 10, .inl (F 5)))] (fun (r : Int32) (u : Unit) => r = -1 ∨ ∃ j : Nat, j < nn 0 ∧ r = nI j) (fun (u : Unit) => ([(b 0, .inr (4, [.ref (b 1), .ref (b 5), .ref (b 8), .ref (b 17), .ref (b 21), .ref (b 25), .ref (b 27), .int (v 4), .int (v 5), .int (nI (nn 7)), .int (v 6)])), (b 1, .inr (8, [.int (nI (nn 0)), .ref (b 2), .ref (b 3), .ref (b 4)])), (b 2, .inl (gI g, 5, .inl (F 0))), (b 3, .inl (gI g, 5, .inl (F 1))), (b 4, .inl (gI g, 5, .inl (F 2))), (b 8, .inr (0, [.int (nI (nn 2)), .ref (b 9), .ref (b 10), .ref (b 11), .ref (b 12), .ref (b 13), .ref (b 14), .ref (b 15), .int (v 1), .int (v 2), .int (nI (nn 3)), .ref (b 16)])), (b 9, .inl (gI g, 10, .inl (F 5)))] : va_W)) := by
  refine kMi.of (by decide) (Nat.le_of_ble_eq_true rfl) (fun p e s m below meth c A hx hb hr hml hown hts hlk hnm hKW hP hD hS hA ls hl => ?_)
  have hown : s.vm.findClass RX4 = some m.cls := hown
  have hl : lv_has ls 3 [(0, .ref (b 0)), (1, .int (nI j)), (2, .int x)] := hl
  refine k_hide hP hS (fun H locs hP hS => ?_)
  refine lv_aload_n hx hb dX4_roomInMonth_0 rfl (lv_at hl 0 rfl) ?_
  refine va_get (ci := 4) (C := RX4) (T := TX4) (N := 11) hx hb hts inlX4 hown hKW.1 hP 0 rfl rfl 0 (by decide) (hts _ wd_2_18) (fun _ h => h) rfl dX4_roomInMonth_1 ?_
  refine lv_iload_n hx hb dX4_roomInMonth_4 rfl (lv_at hl 2 rfl) ?_
  refine lv_aload_n hx hb dX4_roomInMonth_5 rfl (lv_at hl 0 rfl) ?_
  refine va_get (ci := 4) (C := RX4) (T := TX4) (N := 11) hx hb hts inlX4 hown hKW.1 hP 0 rfl rfl 2 (by decide) (hts _ wd_3_2) (fun _ h => h) rfl dX4_roomInMonth_6 ?_
  refine va_get (ci := 0) (C := RX0) (T := TX0) (N := 12) hx hb hts inlX0 hown hKW.1 hP 5 rfl rfl 1 (by decide) (hts _ wd_15_4) (fun _ h => h) rfl dX4_roomInMonth_9 ?_
  refine lv_iload_n hx hb dX4_roomInMonth_12 rfl (lv_at hl 1 rfl) ?_
  refine va_iald hx hb hKW.1 hP 6 0 rfl rfl (vp_in_nI (by omega) (by decide)) dX4_roomInMonth_13 ?_
  refine lv_topi (fun x_1 ex_1 => ?_)
  refine lv_isub hx hb dX4_roomInMonth_14 ?_
  refine lv_topi (fun x_2 ex_2 => ?_)
  refine k_Vi [1, 2, 3, 4] [0, 5, 6] 1 8 (wr := [(b 0, .inr (4, [.ref (b 1), .ref (b 5), .ref (b 8), .ref (b 17), .ref (b 21), .ref (b 25), .ref (b 27), .int (v 4), .int (v 5), .int (nI (nn 7)), .int (v 6)])), (b 8, .inr (0, [.int (nI (nn 2)), .ref (b 9), .ref (b 10), .ref (b 11), .ref (b 12), .ref (b 13), .ref (b 14), .ref (b 15), .int (v 1), .int (v 2), .int (nI (nn 3)), .ref (b 16)])), (b 9, .inl (gI g, 10, .inl (F 5)))]) hx hb hml hown hts hKW hP hD hS hA hl.1 (c_X8_forAge l g _ (fun kk_ => ([(b 1), (b 2), (b 3), (b 4)] : List Nat).getD kk_ 0) (nn 0) (F 0) (F 1) (F 2) x_2 (by first | assumption | omega | decide)) rfl rfl rfl wd_15_8 wd_2_17 wd_15_5 wd_15_6 wd_15_7 yd_X8_forAge ⟨(Nat.le_of_ble_eq_true rfl), (Nat.le_of_ble_eq_true rfl)⟩ rfl rfl rfl rfl (by decide) rfl (Nat.le_of_ble_eq_true rfl) dX4_roomInMonth_15 ⟨(Nat.le_of_ble_eq_true rfl), (Nat.le_of_ble_eq_true rfl)⟩ (fun r_3 u_4 H locs hw_5 hP hD hS => ?_)
  have hP : va_P g.1 vwCl [(b 0, .inr (4, [.ref (b 1), .ref (b 5), .ref (b 8), .ref (b 17), .ref (b 21), .ref (b 25), .ref (b 27), .int (v 4), .int (v 5), .int (nI (nn 7)), .int (v 6)])), (b 8, .inr (0, [.int (nI (nn 2)), .ref (b 9), .ref (b 10), .ref (b 11), .ref (b 12), .ref (b 13), .ref (b 14), .ref (b 15), .int (v 1), .int (v 2), .int (nI (nn 3)), .ref (b 16)])), (b 9, .inl (gI g, 10, .inl (F 5))), (b 1, .inr (8, [.int (nI (nn 0)), .ref (b 2), .ref (b 3), .ref (b 4)])), (b 2, .inl (gI g, 5, .inl (F 0))), (b 3, .inl (gI g, 5, .inl (F 1))), (b 4, .inl (gI g, 5, .inl (F 2)))] H := hP
  have hD : va_D A [(b 0, .inr (4, [.ref (b 1), .ref (b 5), .ref (b 8), .ref (b 17), .ref (b 21), .ref (b 25), .ref (b 27), .int (v 4), .int (v 5), .int (nI (nn 7)), .int (v 6)])), (b 8, .inr (0, [.int (nI (nn 2)), .ref (b 9), .ref (b 10), .ref (b 11), .ref (b 12), .ref (b 13), .ref (b 14), .ref (b 15), .int (v 1), .int (v 2), .int (nI (nn 3)), .ref (b 16)])), (b 9, .inl (gI g, 10, .inl (F 5))), (b 1, .inr (8, [.int (nI (nn 0)), .ref (b 2), .ref (b 3), .ref (b 4)])), (b 2, .inl (gI g, 5, .inl (F 0))), (b 3, .inl (gI g, 5, .inl (F 1))), (b 4, .inl (gI g, 5, .inl (F 2)))] := hD
  have hw_5 : r_3 = -1 ∨ ∃ j : Nat, j < (nn 0) ∧ r_3 = nI j := hw_5
  exact k_iret () [0, 3, 4, 5, 6, 1, 2] hx hb hr hlk hP hD hS hw_5 rfl rfl rfl (Nat.le_of_ble_eq_true rfl) (Nat.le_of_ble_eq_true rfl) dX4_roomInMonth_18
theorem dX4_refusal_0 : decode cX4_refusal 0 = .ok (.aload_n 0, 1) := by decide +kernel
theorem dX4_refusal_1 : decode cX4_refusal 1 = .ok (.getfield 12, 3) := by decide +kernel
theorem dX4_refusal_4 : decode cX4_refusal 4 = .ok (.iload_n 2, 1) := by decide +kernel
theorem dX4_refusal_5 : decode cX4_refusal 5 = .ok (.aload_n 0, 1) := by decide +kernel
theorem dX4_refusal_6 : decode cX4_refusal 6 = .ok (.iload_n 1, 1) := by decide +kernel
theorem dX4_refusal_7 : decode cX4_refusal 7 = .ok (.invokevirtual 70, 3) := by decide +kernel
theorem dX4_refusal_10 : decode cX4_refusal 10 = .ok (.invokevirtual 73, 3) := by decide +kernel
theorem dX4_refusal_13 : decode cX4_refusal 13 = .ok (.ifCond .ne 6, 3) := by decide +kernel
theorem dX4_refusal_19 : decode cX4_refusal 19 = .ok (.aload_n 0, 1) := by decide +kernel
theorem dX4_refusal_20 : decode cX4_refusal 20 = .ok (.getfield 28, 3) := by decide +kernel
theorem dX4_refusal_23 : decode cX4_refusal 23 = .ok (.iload_n 2, 1) := by decide +kernel
theorem dX4_refusal_24 : decode cX4_refusal 24 = .ok (.invokevirtual 78, 3) := by decide +kernel
theorem dX4_refusal_27 : decode cX4_refusal 27 = .ok (.invokestatic 81, 3) := by decide +kernel
theorem dX4_refusal_30 : decode cX4_refusal 30 = .ok (.aload_n 0, 1) := by decide +kernel
theorem dX4_refusal_31 : decode cX4_refusal 31 = .ok (.getfield 12, 3) := by decide +kernel
theorem dX4_refusal_34 : decode cX4_refusal 34 = .ok (.getfield 86, 3) := by decide +kernel
theorem dX4_refusal_37 : decode cX4_refusal 37 = .ok (.iload_n 2, 1) := by decide +kernel
theorem dX4_refusal_38 : decode cX4_refusal 38 = .ok (.iaload, 1) := by decide +kernel
theorem dX4_refusal_39 : decode cX4_refusal 39 = .ok (.if_icmp .lt 8, 3) := by decide +kernel
theorem dX4_refusal_47 : decode cX4_refusal 47 = .ok (.iconst 0, 1) := by decide +kernel
theorem dX4_refusal_48 : decode cX4_refusal 48 = .ok (.ireturn, 1) := by decide +kernel
theorem dX4_refusal_42 : decode cX4_refusal 42 = .ok (.ldc 89, 2) := by decide +kernel
theorem dX4_refusal_44 : decode cX4_refusal 44 = .ok (.goto 4, 3) := by decide +kernel
theorem dX4_refusal_16 : decode cX4_refusal 16 = .ok (.ldc 77, 2) := by decide +kernel
theorem dX4_refusal_18 : decode cX4_refusal 18 = .ok (.ireturn, 1) := by decide +kernel
set_option maxHeartbeats 8000000 in
set_option maxRecDepth 100000 in
theorem c_X4_refusal (l : Launch) (g : kG) (sz : Nat) (b : Nat → Nat) (nn : Nat → Nat) (v : Nat → Int32) (F : Nat → Nat → Int32) (j : Nat) (k : Nat) (hj : j < 10) (hk : k < 5) (hn2 : nn 2 ≤ 10) : kMi l g yX4_refusal cX4_refusal 3 (some .int) 3 0 0 [.ref (b 0), .int (nI j), .int (nI k)] sz [(b 0, .inr (4, [.ref (b 1), .ref (b 5), .ref (b 8), .ref (b 17), .ref (b 21), .ref (b 25), .ref (b 27), .int (v 4), .int (v 5), .int (nI (nn 7)), .int (v 6)])), (b 1, .inr (8, [.int (nI (nn 0)), .ref (b 2), .ref (b 3), .ref (b 4)])), (b 2, .inl (gI g, 5, .inl (F 0))), (b 3, .inl (gI g, 5, .inl (F 1))), (b 4, .inl (gI g, 5, .inl (F 2))), (b 8, .inr (0, [.int (nI (nn 2)), .ref (b 9), .ref (b 10), .ref (b 11), .ref (b 12), .ref (b 13), .ref (b 14), .ref (b 15), .int (v 1), .int (v 2), .int (nI (nn 3)), .ref (b 16)])), (b 9, .inl (gI g, 10, .inl (F 5))), (b 10, .inl (gI g, 10, .inl (F 6))), (b 11, .inl (gI g, 10, .inl (F 7))), (b 12, .inl (gI g, 10, .inl (F 8))), (b 13, .inl (gI g, 10, .inl (F 9))), (b 14, .inl (gI g, 10, .inl (F 10))), (b 15, .inl (gI g, 10, .inl (F 11))), (b 16, .inl (gI g, 10, .inl (F 12)))] (fun (r : Int32) (u : Unit) => True) (fun (u : Unit) => ([(b 0, .inr (4, [.ref (b 1), .ref (b 5), .ref (b 8), .ref (b 17), .ref (b 21), .ref (b 25), .ref (b 27), .int (v 4), .int (v 5), .int (nI (nn 7)), .int (v 6)])), (b 1, .inr (8, [.int (nI (nn 0)), .ref (b 2), .ref (b 3), .ref (b 4)])), (b 2, .inl (gI g, 5, .inl (F 0))), (b 3, .inl (gI g, 5, .inl (F 1))), (b 4, .inl (gI g, 5, .inl (F 2))), (b 8, .inr (0, [.int (nI (nn 2)), .ref (b 9), .ref (b 10), .ref (b 11), .ref (b 12), .ref (b 13), .ref (b 14), .ref (b 15), .int (v 1), .int (v 2), .int (nI (nn 3)), .ref (b 16)])), (b 9, .inl (gI g, 10, .inl (F 5))), (b 10, .inl (gI g, 10, .inl (F 6))), (b 11, .inl (gI g, 10, .inl (F 7))), (b 12, .inl (gI g, 10, .inl (F 8))), (b 13, .inl (gI g, 10, .inl (F 9))), (b 14, .inl (gI g, 10, .inl (F 10))), (b 15, .inl (gI g, 10, .inl (F 11))), (b 16, .inl (gI g, 10, .inl (F 12)))] : va_W)) := by
  refine kMi.of (by decide) (Nat.le_of_ble_eq_true rfl) (fun p e s m below meth c A hx hb hr hml hown hts hlk hnm hKW hP hD hS hA ls hl => ?_)
  have hown : s.vm.findClass RX4 = some m.cls := hown
  have hl : lv_has ls 3 [(0, .ref (b 0)), (1, .int (nI j)), (2, .int (nI k))] := hl
  refine k_hide hP hS (fun H locs hP hS => ?_)
  refine lv_aload_n hx hb dX4_refusal_0 rfl (lv_at hl 0 rfl) ?_
  refine va_get (ci := 4) (C := RX4) (T := TX4) (N := 11) hx hb hts inlX4 hown hKW.1 hP 0 rfl rfl 0 (by decide) (hts _ wd_2_18) (fun _ h => h) rfl dX4_refusal_1 ?_
  refine lv_iload_n hx hb dX4_refusal_4 rfl (lv_at hl 2 rfl) ?_
  refine lv_aload_n hx hb dX4_refusal_5 rfl (lv_at hl 0 rfl) ?_
  refine lv_iload_n hx hb dX4_refusal_6 rfl (lv_at hl 1 rfl) ?_
  refine k_Vi [0, 5, 6] [1, 2, 3, 4, 7, 8, 9, 10, 11, 12, 13] 0 4 (wr := [(b 1, .inr (8, [.int (nI (nn 0)), .ref (b 2), .ref (b 3), .ref (b 4)])), (b 2, .inl (gI g, 5, .inl (F 0))), (b 3, .inl (gI g, 5, .inl (F 1))), (b 4, .inl (gI g, 5, .inl (F 2))), (b 10, .inl (gI g, 10, .inl (F 6))), (b 11, .inl (gI g, 10, .inl (F 7))), (b 12, .inl (gI g, 10, .inl (F 8))), (b 13, .inl (gI g, 10, .inl (F 9))), (b 14, .inl (gI g, 10, .inl (F 10))), (b 15, .inl (gI g, 10, .inl (F 11))), (b 16, .inl (gI g, 10, .inl (F 12)))]) hx hb hml hown hts hKW hP hD hS hA hl.1 (c_X4_ageNow l g _ b nn v F j (by first | assumption | omega | decide)) rfl rfl rfl wd_19_4 wd_1_14 wd_19_1 wd_19_2 wd_19_3 yd_X4_ageNow ⟨(Nat.le_of_ble_eq_true rfl), (Nat.le_of_ble_eq_true rfl)⟩ rfl rfl rfl rfl (by decide) rfl (Nat.le_of_ble_eq_true rfl) dX4_refusal_7 ⟨(Nat.le_of_ble_eq_true rfl), (Nat.le_of_ble_eq_true rfl)⟩ (fun r_1 u_2 H locs hw_3 hP hD hS => ?_)
  have hP : va_P g.1 vwCl [(b 1, .inr (8, [.int (nI (nn 0)), .ref (b 2), .ref (b 3), .ref (b 4)])), (b 2, .inl (gI g, 5, .inl (F 0))), (b 3, .inl (gI g, 5, .inl (F 1))), (b 4, .inl (gI g, 5, .inl (F 2))), (b 10, .inl (gI g, 10, .inl (F 6))), (b 11, .inl (gI g, 10, .inl (F 7))), (b 12, .inl (gI g, 10, .inl (F 8))), (b 13, .inl (gI g, 10, .inl (F 9))), (b 14, .inl (gI g, 10, .inl (F 10))), (b 15, .inl (gI g, 10, .inl (F 11))), (b 16, .inl (gI g, 10, .inl (F 12))), (b 0, .inr (4, [.ref (b 1), .ref (b 5), .ref (b 8), .ref (b 17), .ref (b 21), .ref (b 25), .ref (b 27), .int (v 4), .int (v 5), .int (nI (nn 7)), .int (v 6)])), (b 8, .inr (0, [.int (nI (nn 2)), .ref (b 9), .ref (b 10), .ref (b 11), .ref (b 12), .ref (b 13), .ref (b 14), .ref (b 15), .int (v 1), .int (v 2), .int (nI (nn 3)), .ref (b 16)])), (b 9, .inl (gI g, 10, .inl (F 5)))] H := hP
  have hD : va_D A [(b 1, .inr (8, [.int (nI (nn 0)), .ref (b 2), .ref (b 3), .ref (b 4)])), (b 2, .inl (gI g, 5, .inl (F 0))), (b 3, .inl (gI g, 5, .inl (F 1))), (b 4, .inl (gI g, 5, .inl (F 2))), (b 10, .inl (gI g, 10, .inl (F 6))), (b 11, .inl (gI g, 10, .inl (F 7))), (b 12, .inl (gI g, 10, .inl (F 8))), (b 13, .inl (gI g, 10, .inl (F 9))), (b 14, .inl (gI g, 10, .inl (F 10))), (b 15, .inl (gI g, 10, .inl (F 11))), (b 16, .inl (gI g, 10, .inl (F 12))), (b 0, .inr (4, [.ref (b 1), .ref (b 5), .ref (b 8), .ref (b 17), .ref (b 21), .ref (b 25), .ref (b 27), .int (v 4), .int (v 5), .int (nI (nn 7)), .int (v 6)])), (b 8, .inr (0, [.int (nI (nn 2)), .ref (b 9), .ref (b 10), .ref (b 11), .ref (b 12), .ref (b 13), .ref (b 14), .ref (b 15), .int (v 1), .int (v 2), .int (nI (nn 3)), .ref (b 16)])), (b 9, .inl (gI g, 10, .inl (F 5)))] := hD
  refine k_Vi [0, 1, 2, 3] [4, 5, 6, 7, 8, 9, 10, 11, 12, 13] 0 8 (wr := [(b 10, .inl (gI g, 10, .inl (F 6))), (b 11, .inl (gI g, 10, .inl (F 7))), (b 12, .inl (gI g, 10, .inl (F 8))), (b 13, .inl (gI g, 10, .inl (F 9))), (b 14, .inl (gI g, 10, .inl (F 10))), (b 15, .inl (gI g, 10, .inl (F 11))), (b 16, .inl (gI g, 10, .inl (F 12))), (b 0, .inr (4, [.ref (b 1), .ref (b 5), .ref (b 8), .ref (b 17), .ref (b 21), .ref (b 25), .ref (b 27), .int (v 4), .int (v 5), .int (nI (nn 7)), .int (v 6)])), (b 8, .inr (0, [.int (nI (nn 2)), .ref (b 9), .ref (b 10), .ref (b 11), .ref (b 12), .ref (b 13), .ref (b 14), .ref (b 15), .int (v 1), .int (v 2), .int (nI (nn 3)), .ref (b 16)])), (b 9, .inl (gI g, 10, .inl (F 5)))]) hx hb hml hown hts hKW hP hD hS hA hl.1 (c_X8_takes l g _ (fun kk_ => ([(b 1), (b 2), (b 3), (b 4)] : List Nat).getD kk_ 0) (nn 0) (F 0) (F 1) (F 2) k r_1 (by first | assumption | omega | decide)) rfl rfl rfl wd_19_8 wd_2_17 wd_19_5 wd_19_6 wd_19_7 yd_X8_takes ⟨(Nat.le_of_ble_eq_true rfl), (Nat.le_of_ble_eq_true rfl)⟩ rfl rfl rfl rfl (by decide) rfl (Nat.le_of_ble_eq_true rfl) dX4_refusal_10 ⟨(Nat.le_of_ble_eq_true rfl), (Nat.le_of_ble_eq_true rfl)⟩ (fun r_4 u_5 H locs hw_6 hP hD hS => ?_)
  have hP : va_P g.1 vwCl [(b 10, .inl (gI g, 10, .inl (F 6))), (b 11, .inl (gI g, 10, .inl (F 7))), (b 12, .inl (gI g, 10, .inl (F 8))), (b 13, .inl (gI g, 10, .inl (F 9))), (b 14, .inl (gI g, 10, .inl (F 10))), (b 15, .inl (gI g, 10, .inl (F 11))), (b 16, .inl (gI g, 10, .inl (F 12))), (b 0, .inr (4, [.ref (b 1), .ref (b 5), .ref (b 8), .ref (b 17), .ref (b 21), .ref (b 25), .ref (b 27), .int (v 4), .int (v 5), .int (nI (nn 7)), .int (v 6)])), (b 8, .inr (0, [.int (nI (nn 2)), .ref (b 9), .ref (b 10), .ref (b 11), .ref (b 12), .ref (b 13), .ref (b 14), .ref (b 15), .int (v 1), .int (v 2), .int (nI (nn 3)), .ref (b 16)])), (b 9, .inl (gI g, 10, .inl (F 5))), (b 1, .inr (8, [.int (nI (nn 0)), .ref (b 2), .ref (b 3), .ref (b 4)])), (b 2, .inl (gI g, 5, .inl (F 0))), (b 3, .inl (gI g, 5, .inl (F 1))), (b 4, .inl (gI g, 5, .inl (F 2)))] H := hP
  have hD : va_D A [(b 10, .inl (gI g, 10, .inl (F 6))), (b 11, .inl (gI g, 10, .inl (F 7))), (b 12, .inl (gI g, 10, .inl (F 8))), (b 13, .inl (gI g, 10, .inl (F 9))), (b 14, .inl (gI g, 10, .inl (F 10))), (b 15, .inl (gI g, 10, .inl (F 11))), (b 16, .inl (gI g, 10, .inl (F 12))), (b 0, .inr (4, [.ref (b 1), .ref (b 5), .ref (b 8), .ref (b 17), .ref (b 21), .ref (b 25), .ref (b 27), .int (v 4), .int (v 5), .int (nI (nn 7)), .int (v 6)])), (b 8, .inr (0, [.int (nI (nn 2)), .ref (b 9), .ref (b 10), .ref (b 11), .ref (b 12), .ref (b 13), .ref (b 14), .ref (b 15), .int (v 1), .int (v 2), .int (nI (nn 3)), .ref (b 16)])), (b 9, .inl (gI g, 10, .inl (F 5))), (b 1, .inr (8, [.int (nI (nn 0)), .ref (b 2), .ref (b 3), .ref (b 4)])), (b 2, .inl (gI g, 5, .inl (F 0))), (b 3, .inl (gI g, 5, .inl (F 1))), (b 4, .inl (gI g, 5, .inl (F 2)))] := hD
  rcases (show r_4 = 1 ∨ r_4 = 0 from hw_6) with rfl | rfl <;> clear hw_6
  · refine lv_if_ne (tgt := 19) hx hb dX4_refusal_13 (by decide) (fun _ => ?_) (fun c => absurd c (by decide))
    refine lv_aload_n hx hb dX4_refusal_19 rfl (lv_at hl 0 rfl) ?_
    refine va_get (ci := 4) (C := RX4) (T := TX4) (N := 11) hx hb hts inlX4 hown hKW.1 hP 7 rfl rfl 2 (by decide) (hts _ wd_3_2) (fun _ h => h) rfl dX4_refusal_20 ?_
    refine lv_iload_n hx hb dX4_refusal_23 rfl (lv_at hl 2 rfl) ?_
    refine k_Vi [8, 9, 0, 1, 2, 3, 4, 5, 6] [7, 10, 11, 12, 13] 8 0 (wr := [(b 0, .inr (4, [.ref (b 1), .ref (b 5), .ref (b 8), .ref (b 17), .ref (b 21), .ref (b 25), .ref (b 27), .int (v 4), .int (v 5), .int (nI (nn 7)), .int (v 6)])), (b 1, .inr (8, [.int (nI (nn 0)), .ref (b 2), .ref (b 3), .ref (b 4)])), (b 2, .inl (gI g, 5, .inl (F 0))), (b 3, .inl (gI g, 5, .inl (F 1))), (b 4, .inl (gI g, 5, .inl (F 2)))]) hx hb hml hown hts hKW hP hD hS hA hl.1 (c_X0_inRoom l g _ (fun kk_ => ([(b 8), (b 9), (b 10), (b 11), (b 12), (b 13), (b 14), (b 15), (b 16)] : List Nat).getD kk_ 0) (nn 2) (nn 3) (v 1) (v 2) (F 5) (F 6) (F 7) (F 8) (F 9) (F 10) (F 11) (F 12) (nI k) (by first | assumption | omega | decide)) rfl rfl rfl wd_17_8 wd_3_1 wd_19_9 wd_17_6 wd_17_7 yd_X0_inRoom ⟨(Nat.le_of_ble_eq_true rfl), (Nat.le_of_ble_eq_true rfl)⟩ rfl rfl rfl rfl (by decide) rfl (Nat.le_of_ble_eq_true rfl) dX4_refusal_24 ⟨(Nat.le_of_ble_eq_true rfl), (Nat.le_of_ble_eq_true rfl)⟩ (fun r_7 u_8 H locs hw_9 hP hD hS => ?_)
    have hP : va_P g.1 vwCl [(b 0, .inr (4, [.ref (b 1), .ref (b 5), .ref (b 8), .ref (b 17), .ref (b 21), .ref (b 25), .ref (b 27), .int (v 4), .int (v 5), .int (nI (nn 7)), .int (v 6)])), (b 1, .inr (8, [.int (nI (nn 0)), .ref (b 2), .ref (b 3), .ref (b 4)])), (b 2, .inl (gI g, 5, .inl (F 0))), (b 3, .inl (gI g, 5, .inl (F 1))), (b 4, .inl (gI g, 5, .inl (F 2))), (b 8, .inr (0, [.int (nI (nn 2)), .ref (b 9), .ref (b 10), .ref (b 11), .ref (b 12), .ref (b 13), .ref (b 14), .ref (b 15), .int (v 1), .int (v 2), .int (nI (nn 3)), .ref (b 16)])), (b 9, .inl (gI g, 10, .inl (F 5))), (b 10, .inl (gI g, 10, .inl (F 6))), (b 11, .inl (gI g, 10, .inl (F 7))), (b 12, .inl (gI g, 10, .inl (F 8))), (b 13, .inl (gI g, 10, .inl (F 9))), (b 14, .inl (gI g, 10, .inl (F 10))), (b 15, .inl (gI g, 10, .inl (F 11))), (b 16, .inl (gI g, 10, .inl (F 12)))] H := hP
    have hD : va_D A [(b 0, .inr (4, [.ref (b 1), .ref (b 5), .ref (b 8), .ref (b 17), .ref (b 21), .ref (b 25), .ref (b 27), .int (v 4), .int (v 5), .int (nI (nn 7)), .int (v 6)])), (b 1, .inr (8, [.int (nI (nn 0)), .ref (b 2), .ref (b 3), .ref (b 4)])), (b 2, .inl (gI g, 5, .inl (F 0))), (b 3, .inl (gI g, 5, .inl (F 1))), (b 4, .inl (gI g, 5, .inl (F 2))), (b 8, .inr (0, [.int (nI (nn 2)), .ref (b 9), .ref (b 10), .ref (b 11), .ref (b 12), .ref (b 13), .ref (b 14), .ref (b 15), .int (v 1), .int (v 2), .int (nI (nn 3)), .ref (b 16)])), (b 9, .inl (gI g, 10, .inl (F 5))), (b 10, .inl (gI g, 10, .inl (F 6))), (b 11, .inl (gI g, 10, .inl (F 7))), (b 12, .inl (gI g, 10, .inl (F 8))), (b 13, .inl (gI g, 10, .inl (F 9))), (b 14, .inl (gI g, 10, .inl (F 10))), (b 15, .inl (gI g, 10, .inl (F 11))), (b 16, .inl (gI g, 10, .inl (F 12)))] := hD
    refine k_Si [] [0, 1, 2, 3, 4, 5, 6, 7, 8, 9, 10, 11, 12, 13] (wr := [(b 0, .inr (4, [.ref (b 1), .ref (b 5), .ref (b 8), .ref (b 17), .ref (b 21), .ref (b 25), .ref (b 27), .int (v 4), .int (v 5), .int (nI (nn 7)), .int (v 6)])), (b 1, .inr (8, [.int (nI (nn 0)), .ref (b 2), .ref (b 3), .ref (b 4)])), (b 2, .inl (gI g, 5, .inl (F 0))), (b 3, .inl (gI g, 5, .inl (F 1))), (b 4, .inl (gI g, 5, .inl (F 2))), (b 8, .inr (0, [.int (nI (nn 2)), .ref (b 9), .ref (b 10), .ref (b 11), .ref (b 12), .ref (b 13), .ref (b 14), .ref (b 15), .int (v 1), .int (v 2), .int (nI (nn 3)), .ref (b 16)])), (b 9, .inl (gI g, 10, .inl (F 5))), (b 10, .inl (gI g, 10, .inl (F 6))), (b 11, .inl (gI g, 10, .inl (F 7))), (b 12, .inl (gI g, 10, .inl (F 8))), (b 13, .inl (gI g, 10, .inl (F 9))), (b 14, .inl (gI g, 10, .inl (F 10))), (b 15, .inl (gI g, 10, .inl (F 11))), (b 16, .inl (gI g, 10, .inl (F 12)))]) hx hb hml hown hts hKW hP hD hS hA hl.1 (c_J6_bitCount l g _ r_7 ) wd_17_14 wd_17_13 wd_19_10 wd_17_12 yd_J6_bitCount_0f7a4 ⟨(Nat.le_of_ble_eq_true rfl), (Nat.le_of_ble_eq_true rfl)⟩ rfl rfl rfl rfl (by decide) rfl (Nat.le_of_ble_eq_true rfl) dX4_refusal_27 ⟨(Nat.le_of_ble_eq_true rfl), (Nat.le_of_ble_eq_true rfl)⟩ (fun r_10 u_11 H locs hw_12 hP hD hS => ?_)
    have hP : va_P g.1 vwCl [(b 0, .inr (4, [.ref (b 1), .ref (b 5), .ref (b 8), .ref (b 17), .ref (b 21), .ref (b 25), .ref (b 27), .int (v 4), .int (v 5), .int (nI (nn 7)), .int (v 6)])), (b 1, .inr (8, [.int (nI (nn 0)), .ref (b 2), .ref (b 3), .ref (b 4)])), (b 2, .inl (gI g, 5, .inl (F 0))), (b 3, .inl (gI g, 5, .inl (F 1))), (b 4, .inl (gI g, 5, .inl (F 2))), (b 8, .inr (0, [.int (nI (nn 2)), .ref (b 9), .ref (b 10), .ref (b 11), .ref (b 12), .ref (b 13), .ref (b 14), .ref (b 15), .int (v 1), .int (v 2), .int (nI (nn 3)), .ref (b 16)])), (b 9, .inl (gI g, 10, .inl (F 5))), (b 10, .inl (gI g, 10, .inl (F 6))), (b 11, .inl (gI g, 10, .inl (F 7))), (b 12, .inl (gI g, 10, .inl (F 8))), (b 13, .inl (gI g, 10, .inl (F 9))), (b 14, .inl (gI g, 10, .inl (F 10))), (b 15, .inl (gI g, 10, .inl (F 11))), (b 16, .inl (gI g, 10, .inl (F 12)))] H := hP
    have hD : va_D A [(b 0, .inr (4, [.ref (b 1), .ref (b 5), .ref (b 8), .ref (b 17), .ref (b 21), .ref (b 25), .ref (b 27), .int (v 4), .int (v 5), .int (nI (nn 7)), .int (v 6)])), (b 1, .inr (8, [.int (nI (nn 0)), .ref (b 2), .ref (b 3), .ref (b 4)])), (b 2, .inl (gI g, 5, .inl (F 0))), (b 3, .inl (gI g, 5, .inl (F 1))), (b 4, .inl (gI g, 5, .inl (F 2))), (b 8, .inr (0, [.int (nI (nn 2)), .ref (b 9), .ref (b 10), .ref (b 11), .ref (b 12), .ref (b 13), .ref (b 14), .ref (b 15), .int (v 1), .int (v 2), .int (nI (nn 3)), .ref (b 16)])), (b 9, .inl (gI g, 10, .inl (F 5))), (b 10, .inl (gI g, 10, .inl (F 6))), (b 11, .inl (gI g, 10, .inl (F 7))), (b 12, .inl (gI g, 10, .inl (F 8))), (b 13, .inl (gI g, 10, .inl (F 9))), (b 14, .inl (gI g, 10, .inl (F 10))), (b 15, .inl (gI g, 10, .inl (F 11))), (b 16, .inl (gI g, 10, .inl (F 12)))] := hD
    refine lv_aload_n hx hb dX4_refusal_30 rfl (lv_at hl 0 rfl) ?_
    refine va_get (ci := 4) (C := RX4) (T := TX4) (N := 11) hx hb hts inlX4 hown hKW.1 hP 0 rfl rfl 0 (by decide) (hts _ wd_2_18) (fun _ h => h) rfl dX4_refusal_31 ?_
    refine va_get (ci := 8) (C := RX8) (T := TX8) (N := 4) hx hb hts inlX8 hown hKW.1 hP 1 rfl rfl 3 (by decide) (hts _ wd_18_23) (fun _ h => h) rfl dX4_refusal_34 ?_
    refine lv_iload_n hx hb dX4_refusal_37 rfl (lv_at hl 2 rfl) ?_
    refine va_iald hx hb hKW.1 hP 4 0 rfl rfl (vp_in_nI (by omega) (by decide)) dX4_refusal_38 ?_
    refine lv_topi (fun x_13 ex_13 => ?_)
    refine lv_icmp_lt (tgt := 47) hx hb dX4_refusal_39 (by decide) (fun c_14 => ?_) (fun c_14 => ?_)
    · refine lv_iconst (v := 0) hx hb dX4_refusal_47 (by decide) ?_
      exact k_iret () [0, 1, 2, 3, 4, 5, 6, 7, 8, 9, 10, 11, 12, 13] hx hb hr hlk hP hD hS trivial rfl rfl rfl (Nat.le_of_ble_eq_true rfl) (Nat.le_of_ble_eq_true rfl) dX4_refusal_48
    · refine lv_ldc (v := (-100005)) hx hb hown (hts _ wd_19_0) dX4_refusal_42 ?_
      refine lv_goto (tgt := 48) hx hb dX4_refusal_44 (by decide) ?_
      exact k_iret () [0, 1, 2, 3, 4, 5, 6, 7, 8, 9, 10, 11, 12, 13] hx hb hr hlk hP hD hS trivial rfl rfl rfl (Nat.le_of_ble_eq_true rfl) (Nat.le_of_ble_eq_true rfl) dX4_refusal_48
  · refine lv_if_ne (tgt := 19) hx hb dX4_refusal_13 (by decide) (fun c => absurd c (by decide)) (fun _ => ?_)
    refine lv_ldc (v := (-100004)) hx hb hown (hts _ wd_18_22) dX4_refusal_16 ?_
    exact k_iret () [7, 10, 11, 12, 13, 8, 9, 0, 1, 2, 3, 4, 5, 6] hx hb hr hlk hP hD hS trivial rfl rfl rfl (Nat.le_of_ble_eq_true rfl) (Nat.le_of_ble_eq_true rfl) dX4_refusal_18
theorem dX4_placesTaken_0 : decode cX4_placesTaken 0 = .ok (.iconst 0, 1) := by decide +kernel
theorem dX4_placesTaken_1 : decode cX4_placesTaken 1 = .ok (.istore 4, 2) := by decide +kernel
theorem dX4_placesTaken_3 : decode cX4_placesTaken 3 = .ok (.iconst 0, 1) := by decide +kernel
theorem dX4_placesTaken_4 : decode cX4_placesTaken 4 = .ok (.istore 5, 2) := by decide +kernel
theorem dX4_placesTaken_6 : decode cX4_placesTaken 6 = .ok (.iload 5, 2) := by decide +kernel
theorem dX4_placesTaken_8 : decode cX4_placesTaken 8 = .ok (.aload_n 0, 1) := by decide +kernel
theorem dX4_placesTaken_9 : decode cX4_placesTaken 9 = .ok (.getfield 28, 3) := by decide +kernel
theorem dX4_placesTaken_12 : decode cX4_placesTaken 12 = .ok (.getfield 119, 3) := by decide +kernel
theorem dX4_placesTaken_15 : decode cX4_placesTaken 15 = .ok (.if_icmp .ge 37, 3) := by decide +kernel
theorem dX4_placesTaken_52 : decode cX4_placesTaken 52 = .ok (.iload 4, 2) := by decide +kernel
theorem dX4_placesTaken_54 : decode cX4_placesTaken 54 = .ok (.ireturn, 1) := by decide +kernel
theorem dX4_placesTaken_18 : decode cX4_placesTaken 18 = .ok (.aload_n 0, 1) := by decide +kernel
theorem dX4_placesTaken_19 : decode cX4_placesTaken 19 = .ok (.getfield 28, 3) := by decide +kernel
theorem dX4_placesTaken_22 : decode cX4_placesTaken 22 = .ok (.iload 5, 2) := by decide +kernel
theorem dX4_placesTaken_24 : decode cX4_placesTaken 24 = .ok (.iload_n 2, 1) := by decide +kernel
theorem dX4_placesTaken_25 : decode cX4_placesTaken 25 = .ok (.iload_n 3, 1) := by decide +kernel
theorem dX4_placesTaken_26 : decode cX4_placesTaken 26 = .ok (.invokevirtual 120, 3) := by decide +kernel
theorem dX4_placesTaken_29 : decode cX4_placesTaken 29 = .ok (.ifCond .eq 17, 3) := by decide +kernel
theorem dX4_placesTaken_32 : decode cX4_placesTaken 32 = .ok (.aload_n 0, 1) := by decide +kernel
theorem dX4_placesTaken_33 : decode cX4_placesTaken 33 = .ok (.iload 5, 2) := by decide +kernel
theorem dX4_placesTaken_35 : decode cX4_placesTaken 35 = .ok (.iload_n 3, 1) := by decide +kernel
theorem dX4_placesTaken_36 : decode cX4_placesTaken 36 = .ok (.invokevirtual 124, 3) := by decide +kernel
theorem dX4_placesTaken_39 : decode cX4_placesTaken 39 = .ok (.iload_n 1, 1) := by decide +kernel
theorem dX4_placesTaken_40 : decode cX4_placesTaken 40 = .ok (.if_icmp .ne 6, 3) := by decide +kernel
theorem dX4_placesTaken_46 : decode cX4_placesTaken 46 = .ok (.iinc 5 1, 3) := by decide +kernel
theorem dX4_placesTaken_49 : decode cX4_placesTaken 49 = .ok (.goto (-43), 3) := by decide +kernel
theorem dX4_placesTaken_43 : decode cX4_placesTaken 43 = .ok (.iinc 4 1, 3) := by decide +kernel
set_option maxHeartbeats 8000000 in
set_option maxRecDepth 100000 in
theorem c_X4_placesTaken (l : Launch) (g : kG) (sz : Nat) (b : Nat → Nat) (nn : Nat → Nat) (v : Nat → Int32) (F : Nat → Nat → Int32) (x : Int32) (y : Int32) (z : Int32) (hn0 : nn 0 ≤ 5) (hn2 : nn 2 ≤ 10) : kMi l g yX4_placesTaken cX4_placesTaken 6 (some .int) 4 0 0 [.ref (b 0), .int x, .int y, .int z] sz [(b 0, .inr (4, [.ref (b 1), .ref (b 5), .ref (b 8), .ref (b 17), .ref (b 21), .ref (b 25), .ref (b 27), .int (v 4), .int (v 5), .int (nI (nn 7)), .int (v 6)])), (b 1, .inr (8, [.int (nI (nn 0)), .ref (b 2), .ref (b 3), .ref (b 4)])), (b 2, .inl (gI g, 5, .inl (F 0))), (b 3, .inl (gI g, 5, .inl (F 1))), (b 4, .inl (gI g, 5, .inl (F 2))), (b 8, .inr (0, [.int (nI (nn 2)), .ref (b 9), .ref (b 10), .ref (b 11), .ref (b 12), .ref (b 13), .ref (b 14), .ref (b 15), .int (v 1), .int (v 2), .int (nI (nn 3)), .ref (b 16)])), (b 9, .inl (gI g, 10, .inl (F 5))), (b 10, .inl (gI g, 10, .inl (F 6))), (b 11, .inl (gI g, 10, .inl (F 7))), (b 12, .inl (gI g, 10, .inl (F 8))), (b 13, .inl (gI g, 10, .inl (F 9))), (b 14, .inl (gI g, 10, .inl (F 10))), (b 15, .inl (gI g, 10, .inl (F 11))), (b 16, .inl (gI g, 10, .inl (F 12)))] (fun (r : Int32) (u : Unit) => True) (fun (u : Unit) => ([(b 0, .inr (4, [.ref (b 1), .ref (b 5), .ref (b 8), .ref (b 17), .ref (b 21), .ref (b 25), .ref (b 27), .int (v 4), .int (v 5), .int (nI (nn 7)), .int (v 6)])), (b 1, .inr (8, [.int (nI (nn 0)), .ref (b 2), .ref (b 3), .ref (b 4)])), (b 2, .inl (gI g, 5, .inl (F 0))), (b 3, .inl (gI g, 5, .inl (F 1))), (b 4, .inl (gI g, 5, .inl (F 2))), (b 8, .inr (0, [.int (nI (nn 2)), .ref (b 9), .ref (b 10), .ref (b 11), .ref (b 12), .ref (b 13), .ref (b 14), .ref (b 15), .int (v 1), .int (v 2), .int (nI (nn 3)), .ref (b 16)])), (b 9, .inl (gI g, 10, .inl (F 5))), (b 10, .inl (gI g, 10, .inl (F 6))), (b 11, .inl (gI g, 10, .inl (F 7))), (b 12, .inl (gI g, 10, .inl (F 8))), (b 13, .inl (gI g, 10, .inl (F 9))), (b 14, .inl (gI g, 10, .inl (F 10))), (b 15, .inl (gI g, 10, .inl (F 11))), (b 16, .inl (gI g, 10, .inl (F 12)))] : va_W)) := by
  refine kMi.of (by decide) (Nat.le_of_ble_eq_true rfl) (fun p e s m below meth c A hx hb hr hml hown hts hlk hnm hKW hP hD hS hA ls hl => ?_)
  have hown : s.vm.findClass RX4 = some m.cls := hown
  have hl : lv_has ls 6 [(0, .ref (b 0)), (1, .int x), (2, .int y), (3, .int z)] := hl
  refine k_hide hP hS (fun H locs hP hS => ?_)
  refine lv_iconst (v := 0) hx hb dX4_placesTaken_0 (by decide) ?_
  refine lv_istore (lv' := [(4, .int 0), (0, .ref (b 0)), (1, .int x), (2, .int y), (3, .int z)]) hx hb dX4_placesTaken_1 hl (by decide) rfl (fun ls hl => ?_)
  refine lv_iconst (v := 0) hx hb dX4_placesTaken_3 (by decide) ?_
  refine lv_istore (lv' := [(5, .int 0), (4, .int 0), (0, .ref (b 0)), (1, .int x), (2, .int y), (3, .int z)]) hx hb dX4_placesTaken_4 hl (by decide) rfl (fun ls hl => ?_)
  have L6 : ∀ (n6 : Nat) (i : Nat) (x4 : Int32) (hfuel6 : nn 2 - i < n6) (hi : i ≤ nn 2) (H : Heap) (locs : List Loc) (hP : va_P g.1 vwCl [(b 0, .inr (4, [.ref (b 1), .ref (b 5), .ref (b 8), .ref (b 17), .ref (b 21), .ref (b 25), .ref (b 27), .int (v 4), .int (v 5), .int (nI (nn 7)), .int (v 6)])), (b 1, .inr (8, [.int (nI (nn 0)), .ref (b 2), .ref (b 3), .ref (b 4)])), (b 2, .inl (gI g, 5, .inl (F 0))), (b 3, .inl (gI g, 5, .inl (F 1))), (b 4, .inl (gI g, 5, .inl (F 2))), (b 8, .inr (0, [.int (nI (nn 2)), .ref (b 9), .ref (b 10), .ref (b 11), .ref (b 12), .ref (b 13), .ref (b 14), .ref (b 15), .int (v 1), .int (v 2), .int (nI (nn 3)), .ref (b 16)])), (b 9, .inl (gI g, 10, .inl (F 5))), (b 10, .inl (gI g, 10, .inl (F 6))), (b 11, .inl (gI g, 10, .inl (F 7))), (b 12, .inl (gI g, 10, .inl (F 8))), (b 13, .inl (gI g, 10, .inl (F 9))), (b 14, .inl (gI g, 10, .inl (F 10))), (b 15, .inl (gI g, 10, .inl (F 11))), (b 16, .inl (gI g, 10, .inl (F 12)))] H) (hD : va_D A [(b 0, .inr (4, [.ref (b 1), .ref (b 5), .ref (b 8), .ref (b 17), .ref (b 21), .ref (b 25), .ref (b 27), .int (v 4), .int (v 5), .int (nI (nn 7)), .int (v 6)])), (b 1, .inr (8, [.int (nI (nn 0)), .ref (b 2), .ref (b 3), .ref (b 4)])), (b 2, .inl (gI g, 5, .inl (F 0))), (b 3, .inl (gI g, 5, .inl (F 1))), (b 4, .inl (gI g, 5, .inl (F 2))), (b 8, .inr (0, [.int (nI (nn 2)), .ref (b 9), .ref (b 10), .ref (b 11), .ref (b 12), .ref (b 13), .ref (b 14), .ref (b 15), .int (v 1), .int (v 2), .int (nI (nn 3)), .ref (b 16)])), (b 9, .inl (gI g, 10, .inl (F 5))), (b 10, .inl (gI g, 10, .inl (F 6))), (b 11, .inl (gI g, 10, .inl (F 7))), (b 12, .inl (gI g, 10, .inl (F 8))), (b 13, .inl (gI g, 10, .inl (F 9))), (b 14, .inl (gI g, 10, .inl (F 10))), (b 15, .inl (gI g, 10, .inl (F 11))), (b 16, .inl (gI g, 10, .inl (F 12)))]) (hS : va_S A s.heap H locs) (ls : Array Slot) (hl : lv_has ls 6 [(5, .int (nI i)), (4, .int x4), (0, .ref (b 0)), (1, .int x), (2, .int y), (3, .int z)]), W p l e (kR 4 0 0) s m ([.ref (b 0), .int x, .int y, .int z] : List Value).toArray below meth c H locs 0 0 (kQi g A below ([.ref (b 0), .int x, .int y, .int z] : List Value).toArray s 0 0 (fun (r : Int32) (u : Unit) => True) (fun (u : Unit) => ([(b 0, .inr (4, [.ref (b 1), .ref (b 5), .ref (b 8), .ref (b 17), .ref (b 21), .ref (b 25), .ref (b 27), .int (v 4), .int (v 5), .int (nI (nn 7)), .int (v 6)])), (b 1, .inr (8, [.int (nI (nn 0)), .ref (b 2), .ref (b 3), .ref (b 4)])), (b 2, .inl (gI g, 5, .inl (F 0))), (b 3, .inl (gI g, 5, .inl (F 1))), (b 4, .inl (gI g, 5, .inl (F 2))), (b 8, .inr (0, [.int (nI (nn 2)), .ref (b 9), .ref (b 10), .ref (b 11), .ref (b 12), .ref (b 13), .ref (b 14), .ref (b 15), .int (v 1), .int (v 2), .int (nI (nn 3)), .ref (b 16)])), (b 9, .inl (gI g, 10, .inl (F 5))), (b 10, .inl (gI g, 10, .inl (F 6))), (b 11, .inl (gI g, 10, .inl (F 7))), (b 12, .inl (gI g, 10, .inl (F 8))), (b 13, .inl (gI g, 10, .inl (F 9))), (b 14, .inl (gI g, 10, .inl (F 10))), (b 15, .inl (gI g, 10, .inl (F 11))), (b 16, .inl (gI g, 10, .inl (F 12)))] : va_W))) (F0 m 6 ls []) := by
    intro n6
    induction n6 with
    | zero => intro i x4 hfuel6; exact absurd hfuel6 (Nat.not_lt_zero _)
    | succ n6 ih6 =>
      intro i x4 hfuel6 hi H locs hP hD hS ls hl
      refine lv_iload hx hb dX4_placesTaken_6 (lv_at hl 0 rfl) ?_
      refine lv_aload_n hx hb dX4_placesTaken_8 rfl (lv_at hl 2 rfl) ?_
      refine va_get (ci := 4) (C := RX4) (T := TX4) (N := 11) hx hb hts inlX4 hown hKW.1 hP 0 rfl rfl 2 (by decide) (hts _ wd_3_2) (fun _ h => h) rfl dX4_placesTaken_9 ?_
      refine va_get (ci := 0) (C := RX0) (T := TX0) (N := 12) hx hb hts inlX0 hown hKW.1 hP 5 rfl rfl 0 (by decide) (hts _ wd_41_20) (fun _ h => h) rfl dX4_placesTaken_12 ?_
      refine lv_icmp_ge (tgt := 52) hx hb dX4_placesTaken_15 (by decide) (fun c_1 => ?_) (fun c_1 => ?_)
      · have c_1n : (nn 2) ≤ i := (k_leI (a := (nn 2)) (b := i) (by omega) (by omega)).mp c_1
        refine lv_iload hx hb dX4_placesTaken_52 (lv_at hl 1 rfl) ?_
        exact k_iret () [0, 1, 2, 3, 4, 5, 6, 7, 8, 9, 10, 11, 12, 13] hx hb hr hlk hP hD hS trivial rfl rfl rfl (Nat.le_of_ble_eq_true rfl) (Nat.le_of_ble_eq_true rfl) dX4_placesTaken_54
      · have c_1n : i < (nn 2) := Nat.not_le.mp (fun h => c_1 ((k_leI (a := (nn 2)) (b := i) (by omega) (by omega)).mpr h))
        refine lv_aload_n hx hb dX4_placesTaken_18 rfl (lv_at hl 2 rfl) ?_
        refine va_get (ci := 4) (C := RX4) (T := TX4) (N := 11) hx hb hts inlX4 hown hKW.1 hP 0 rfl rfl 2 (by decide) (hts _ wd_3_2) (fun _ h => h) rfl dX4_placesTaken_19 ?_
        refine lv_iload hx hb dX4_placesTaken_22 (lv_at hl 0 rfl) ?_
        refine lv_iload_n hx hb dX4_placesTaken_24 rfl (lv_at hl 4 rfl) ?_
        refine lv_iload_n hx hb dX4_placesTaken_25 rfl (lv_at hl 5 rfl) ?_
        refine k_Vi [5, 6, 7, 8, 9, 10, 11, 12, 13] [0, 1, 2, 3, 4] 5 0 (wr := [(b 0, .inr (4, [.ref (b 1), .ref (b 5), .ref (b 8), .ref (b 17), .ref (b 21), .ref (b 25), .ref (b 27), .int (v 4), .int (v 5), .int (nI (nn 7)), .int (v 6)])), (b 1, .inr (8, [.int (nI (nn 0)), .ref (b 2), .ref (b 3), .ref (b 4)])), (b 2, .inl (gI g, 5, .inl (F 0))), (b 3, .inl (gI g, 5, .inl (F 1))), (b 4, .inl (gI g, 5, .inl (F 2)))]) hx hb hml hown hts hKW hP hD hS hA hl.1 (c_X0_isAwaited l g _ (fun kk_ => ([(b 8), (b 9), (b 10), (b 11), (b 12), (b 13), (b 14), (b 15), (b 16)] : List Nat).getD kk_ 0) (nn 2) (nn 3) (v 1) (v 2) (F 5) (F 6) (F 7) (F 8) (F 9) (F 10) (F 11) (F 12) i y z (by first | assumption | omega | decide)) rfl rfl rfl wd_42_0 wd_3_1 wd_41_21 wd_41_22 wd_41_23 yd_X0_isAwaited ⟨(Nat.le_of_ble_eq_true rfl), (Nat.le_of_ble_eq_true rfl)⟩ rfl rfl rfl rfl (by decide) rfl (Nat.le_of_ble_eq_true rfl) dX4_placesTaken_26 ⟨(Nat.le_of_ble_eq_true rfl), (Nat.le_of_ble_eq_true rfl)⟩ (fun r_2 u_3 H locs hw_4 hP hD hS => ?_)
        have hP : va_P g.1 vwCl [(b 0, .inr (4, [.ref (b 1), .ref (b 5), .ref (b 8), .ref (b 17), .ref (b 21), .ref (b 25), .ref (b 27), .int (v 4), .int (v 5), .int (nI (nn 7)), .int (v 6)])), (b 1, .inr (8, [.int (nI (nn 0)), .ref (b 2), .ref (b 3), .ref (b 4)])), (b 2, .inl (gI g, 5, .inl (F 0))), (b 3, .inl (gI g, 5, .inl (F 1))), (b 4, .inl (gI g, 5, .inl (F 2))), (b 8, .inr (0, [.int (nI (nn 2)), .ref (b 9), .ref (b 10), .ref (b 11), .ref (b 12), .ref (b 13), .ref (b 14), .ref (b 15), .int (v 1), .int (v 2), .int (nI (nn 3)), .ref (b 16)])), (b 9, .inl (gI g, 10, .inl (F 5))), (b 10, .inl (gI g, 10, .inl (F 6))), (b 11, .inl (gI g, 10, .inl (F 7))), (b 12, .inl (gI g, 10, .inl (F 8))), (b 13, .inl (gI g, 10, .inl (F 9))), (b 14, .inl (gI g, 10, .inl (F 10))), (b 15, .inl (gI g, 10, .inl (F 11))), (b 16, .inl (gI g, 10, .inl (F 12)))] H := hP
        have hD : va_D A [(b 0, .inr (4, [.ref (b 1), .ref (b 5), .ref (b 8), .ref (b 17), .ref (b 21), .ref (b 25), .ref (b 27), .int (v 4), .int (v 5), .int (nI (nn 7)), .int (v 6)])), (b 1, .inr (8, [.int (nI (nn 0)), .ref (b 2), .ref (b 3), .ref (b 4)])), (b 2, .inl (gI g, 5, .inl (F 0))), (b 3, .inl (gI g, 5, .inl (F 1))), (b 4, .inl (gI g, 5, .inl (F 2))), (b 8, .inr (0, [.int (nI (nn 2)), .ref (b 9), .ref (b 10), .ref (b 11), .ref (b 12), .ref (b 13), .ref (b 14), .ref (b 15), .int (v 1), .int (v 2), .int (nI (nn 3)), .ref (b 16)])), (b 9, .inl (gI g, 10, .inl (F 5))), (b 10, .inl (gI g, 10, .inl (F 6))), (b 11, .inl (gI g, 10, .inl (F 7))), (b 12, .inl (gI g, 10, .inl (F 8))), (b 13, .inl (gI g, 10, .inl (F 9))), (b 14, .inl (gI g, 10, .inl (F 10))), (b 15, .inl (gI g, 10, .inl (F 11))), (b 16, .inl (gI g, 10, .inl (F 12)))] := hD
        rcases (show r_2 = 1 ∨ r_2 = 0 from hw_4) with rfl | rfl <;> clear hw_4
        · refine lv_if_eq (tgt := 46) hx hb dX4_placesTaken_29 (by decide) (fun c => absurd c (by decide)) (fun _ => ?_)
          refine lv_aload_n hx hb dX4_placesTaken_32 rfl (lv_at hl 2 rfl) ?_
          refine lv_iload hx hb dX4_placesTaken_33 (lv_at hl 0 rfl) ?_
          refine lv_iload_n hx hb dX4_placesTaken_35 rfl (lv_at hl 5 rfl) ?_
          refine k_Vi [0, 1, 2, 3, 4, 5, 6] [7, 8, 9, 10, 11, 12, 13] 0 4 (wr := [(b 10, .inl (gI g, 10, .inl (F 6))), (b 11, .inl (gI g, 10, .inl (F 7))), (b 12, .inl (gI g, 10, .inl (F 8))), (b 13, .inl (gI g, 10, .inl (F 9))), (b 14, .inl (gI g, 10, .inl (F 10))), (b 15, .inl (gI g, 10, .inl (F 11))), (b 16, .inl (gI g, 10, .inl (F 12)))]) hx hb hml hown hts hKW hP hD hS hA hl.1 (c_X4_roomInMonth l g _ b nn v F i z (by first | assumption | omega | decide) (by first | assumption | omega | decide)) rfl rfl rfl wd_15_3 wd_1_14 wd_41_15 wd_15_1 wd_15_2 yd_X4_roomInMonth ⟨(Nat.le_of_ble_eq_true rfl), (Nat.le_of_ble_eq_true rfl)⟩ rfl rfl rfl rfl (by decide) rfl (Nat.le_of_ble_eq_true rfl) dX4_placesTaken_36 ⟨(Nat.le_of_ble_eq_true rfl), (Nat.le_of_ble_eq_true rfl)⟩ (fun r_5 u_6 H locs hw_7 hP hD hS => ?_)
          have hP : va_P g.1 vwCl [(b 10, .inl (gI g, 10, .inl (F 6))), (b 11, .inl (gI g, 10, .inl (F 7))), (b 12, .inl (gI g, 10, .inl (F 8))), (b 13, .inl (gI g, 10, .inl (F 9))), (b 14, .inl (gI g, 10, .inl (F 10))), (b 15, .inl (gI g, 10, .inl (F 11))), (b 16, .inl (gI g, 10, .inl (F 12))), (b 0, .inr (4, [.ref (b 1), .ref (b 5), .ref (b 8), .ref (b 17), .ref (b 21), .ref (b 25), .ref (b 27), .int (v 4), .int (v 5), .int (nI (nn 7)), .int (v 6)])), (b 1, .inr (8, [.int (nI (nn 0)), .ref (b 2), .ref (b 3), .ref (b 4)])), (b 2, .inl (gI g, 5, .inl (F 0))), (b 3, .inl (gI g, 5, .inl (F 1))), (b 4, .inl (gI g, 5, .inl (F 2))), (b 8, .inr (0, [.int (nI (nn 2)), .ref (b 9), .ref (b 10), .ref (b 11), .ref (b 12), .ref (b 13), .ref (b 14), .ref (b 15), .int (v 1), .int (v 2), .int (nI (nn 3)), .ref (b 16)])), (b 9, .inl (gI g, 10, .inl (F 5)))] H := hP
          have hD : va_D A [(b 10, .inl (gI g, 10, .inl (F 6))), (b 11, .inl (gI g, 10, .inl (F 7))), (b 12, .inl (gI g, 10, .inl (F 8))), (b 13, .inl (gI g, 10, .inl (F 9))), (b 14, .inl (gI g, 10, .inl (F 10))), (b 15, .inl (gI g, 10, .inl (F 11))), (b 16, .inl (gI g, 10, .inl (F 12))), (b 0, .inr (4, [.ref (b 1), .ref (b 5), .ref (b 8), .ref (b 17), .ref (b 21), .ref (b 25), .ref (b 27), .int (v 4), .int (v 5), .int (nI (nn 7)), .int (v 6)])), (b 1, .inr (8, [.int (nI (nn 0)), .ref (b 2), .ref (b 3), .ref (b 4)])), (b 2, .inl (gI g, 5, .inl (F 0))), (b 3, .inl (gI g, 5, .inl (F 1))), (b 4, .inl (gI g, 5, .inl (F 2))), (b 8, .inr (0, [.int (nI (nn 2)), .ref (b 9), .ref (b 10), .ref (b 11), .ref (b 12), .ref (b 13), .ref (b 14), .ref (b 15), .int (v 1), .int (v 2), .int (nI (nn 3)), .ref (b 16)])), (b 9, .inl (gI g, 10, .inl (F 5)))] := hD
          have hw_7 : r_5 = -1 ∨ ∃ i : Nat, i < (nn 0) ∧ r_5 = nI i := hw_7
          refine lv_iload_n hx hb dX4_placesTaken_39 rfl (lv_at hl 3 rfl) ?_
          refine lv_icmp_ne (tgt := 46) hx hb dX4_placesTaken_40 (by decide) (fun c_8 => ?_) (fun c_8 => ?_)
          · refine lv_iinc (v := nI (i + 1)) (lv' := [(5, .int (nI (i + 1))), (4, .int x4), (0, .ref (b 0)), (1, .int x), (2, .int y), (3, .int z)]) hx hb dX4_placesTaken_46 hl (k := 0) rfl (nI_add i 1) (by decide) rfl (fun ls hl => ?_)
            refine lv_goto (tgt := 6) hx hb dX4_placesTaken_49 (by decide) ?_
            exact ih6 (i + 1) x4 (by omega) (by first | assumption | omega) H locs (hP.sub [7, 8, 9, 10, 11, 12, 13, 0, 1, 2, 3, 4, 5, 6] rfl) (hD.sub [7, 8, 9, 10, 11, 12, 13, 0, 1, 2, 3, 4, 5, 6] (by decide) rfl) hS ls (lv_sub hl [0, 1, 2, 3, 4, 5] rfl)
          · obtain ⟨x_9, ex_9⟩ : ∃ z : Int32, x4 + Int32.ofInt 1 = z := ⟨_, rfl⟩
            refine lv_iinc (v := x_9) (lv' := [(4, .int x_9), (5, .int (nI i)), (0, .ref (b 0)), (1, .int x), (2, .int y), (3, .int z)]) hx hb dX4_placesTaken_43 hl (k := 1) rfl ex_9 (by decide) rfl (fun ls hl => ?_)
            refine lv_iinc (v := nI (i + 1)) (lv' := [(5, .int (nI (i + 1))), (4, .int x_9), (0, .ref (b 0)), (1, .int x), (2, .int y), (3, .int z)]) hx hb dX4_placesTaken_46 hl (k := 1) rfl (nI_add i 1) (by decide) rfl (fun ls hl => ?_)
            refine lv_goto (tgt := 6) hx hb dX4_placesTaken_49 (by decide) ?_
            exact ih6 (i + 1) x_9 (by omega) (by first | assumption | omega) H locs (hP.sub [7, 8, 9, 10, 11, 12, 13, 0, 1, 2, 3, 4, 5, 6] rfl) (hD.sub [7, 8, 9, 10, 11, 12, 13, 0, 1, 2, 3, 4, 5, 6] (by decide) rfl) hS ls (lv_sub hl [0, 1, 2, 3, 4, 5] rfl)
        · refine lv_if_eq (tgt := 46) hx hb dX4_placesTaken_29 (by decide) (fun _ => ?_) (fun c => absurd c (by decide))
          refine lv_iinc (v := nI (i + 1)) (lv' := [(5, .int (nI (i + 1))), (4, .int x4), (0, .ref (b 0)), (1, .int x), (2, .int y), (3, .int z)]) hx hb dX4_placesTaken_46 hl (k := 0) rfl (nI_add i 1) (by decide) rfl (fun ls hl => ?_)
          refine lv_goto (tgt := 6) hx hb dX4_placesTaken_49 (by decide) ?_
          exact ih6 (i + 1) x4 (by omega) (by first | assumption | omega) H locs (hP.sub [0, 1, 2, 3, 4, 5, 6, 7, 8, 9, 10, 11, 12, 13] rfl) (hD.sub [0, 1, 2, 3, 4, 5, 6, 7, 8, 9, 10, 11, 12, 13] (by decide) rfl) hS ls (lv_sub hl [0, 1, 2, 3, 4, 5] rfl)
  exact L6 (nn 2 - 0 + 1) 0 0 (Nat.lt_succ_self _) (by first | assumption | omega) H locs (hP.sub [0, 1, 2, 3, 4, 5, 6, 7, 8, 9, 10, 11, 12, 13] rfl) (hD.sub [0, 1, 2, 3, 4, 5, 6, 7, 8, 9, 10, 11, 12, 13] (by decide) rfl) hS ls (lv_sub hl [0, 1, 2, 3, 4, 5] rfl)
theorem dX4_fits_0 : decode cX4_fits 0 = .ok (.aload_n 0, 1) := by decide +kernel
theorem dX4_fits_1 : decode cX4_fits 1 = .ok (.iload_n 1, 1) := by decide +kernel
theorem dX4_fits_2 : decode cX4_fits 2 = .ok (.iload_n 2, 1) := by decide +kernel
theorem dX4_fits_3 : decode cX4_fits 3 = .ok (.invokevirtual 124, 3) := by decide +kernel
theorem dX4_fits_6 : decode cX4_fits 6 = .ok (.istore_n 3, 1) := by decide +kernel
theorem dX4_fits_7 : decode cX4_fits 7 = .ok (.iload_n 3, 1) := by decide +kernel
theorem dX4_fits_8 : decode cX4_fits 8 = .ok (.iconst (-1), 1) := by decide +kernel
theorem dX4_fits_9 : decode cX4_fits 9 = .ok (.if_icmp .ne 5, 3) := by decide +kernel
theorem dX4_fits_14 : decode cX4_fits 14 = .ok (.iconst 0, 1) := by decide +kernel
theorem dX4_fits_15 : decode cX4_fits 15 = .ok (.istore 4, 2) := by decide +kernel
theorem dX4_fits_17 : decode cX4_fits 17 = .ok (.iload 4, 2) := by decide +kernel
theorem dX4_fits_19 : decode cX4_fits 19 = .ok (.iconst 5, 1) := by decide +kernel
theorem dX4_fits_20 : decode cX4_fits 20 = .ok (.if_icmp .ge 52, 3) := by decide +kernel
theorem dX4_fits_72 : decode cX4_fits 72 = .ok (.iconst 1, 1) := by decide +kernel
theorem dX4_fits_73 : decode cX4_fits 73 = .ok (.ireturn, 1) := by decide +kernel
theorem dX4_fits_23 : decode cX4_fits 23 = .ok (.aload_n 0, 1) := by decide +kernel
theorem dX4_fits_24 : decode cX4_fits 24 = .ok (.getfield 28, 3) := by decide +kernel
theorem dX4_fits_27 : decode cX4_fits 27 = .ok (.getfield 127, 3) := by decide +kernel
theorem dX4_fits_30 : decode cX4_fits 30 = .ok (.iload_n 1, 1) := by decide +kernel
theorem dX4_fits_31 : decode cX4_fits 31 = .ok (.iaload, 1) := by decide +kernel
theorem dX4_fits_32 : decode cX4_fits 32 = .ok (.iload 4, 2) := by decide +kernel
theorem dX4_fits_34 : decode cX4_fits 34 = .ok (.invokestatic 103, 3) := by decide +kernel
theorem dX4_fits_37 : decode cX4_fits 37 = .ok (.istore 5, 2) := by decide +kernel
theorem dX4_fits_39 : decode cX4_fits 39 = .ok (.iload 5, 2) := by decide +kernel
theorem dX4_fits_41 : decode cX4_fits 41 = .ok (.ifCond .eq 25, 3) := by decide +kernel
theorem dX4_fits_44 : decode cX4_fits 44 = .ok (.aload_n 0, 1) := by decide +kernel
theorem dX4_fits_45 : decode cX4_fits 45 = .ok (.iload_n 3, 1) := by decide +kernel
theorem dX4_fits_46 : decode cX4_fits 46 = .ok (.iload 4, 2) := by decide +kernel
theorem dX4_fits_48 : decode cX4_fits 48 = .ok (.iload_n 2, 1) := by decide +kernel
theorem dX4_fits_49 : decode cX4_fits 49 = .ok (.invokevirtual 130, 3) := by decide +kernel
theorem dX4_fits_52 : decode cX4_fits 52 = .ok (.aload_n 0, 1) := by decide +kernel
theorem dX4_fits_53 : decode cX4_fits 53 = .ok (.getfield 12, 3) := by decide +kernel
theorem dX4_fits_56 : decode cX4_fits 56 = .ok (.getfield 86, 3) := by decide +kernel
theorem dX4_fits_59 : decode cX4_fits 59 = .ok (.iload_n 3, 1) := by decide +kernel
theorem dX4_fits_60 : decode cX4_fits 60 = .ok (.iaload, 1) := by decide +kernel
theorem dX4_fits_61 : decode cX4_fits 61 = .ok (.if_icmp .lt 5, 3) := by decide +kernel
theorem dX4_fits_66 : decode cX4_fits 66 = .ok (.iinc 4 1, 3) := by decide +kernel
theorem dX4_fits_69 : decode cX4_fits 69 = .ok (.goto (-52), 3) := by decide +kernel
theorem dX4_fits_64 : decode cX4_fits 64 = .ok (.iconst 0, 1) := by decide +kernel
theorem dX4_fits_65 : decode cX4_fits 65 = .ok (.ireturn, 1) := by decide +kernel
theorem dX4_fits_12 : decode cX4_fits 12 = .ok (.iconst 1, 1) := by decide +kernel
theorem dX4_fits_13 : decode cX4_fits 13 = .ok (.ireturn, 1) := by decide +kernel
set_option maxHeartbeats 8000000 in
set_option maxRecDepth 100000 in
theorem c_X4_fits (l : Launch) (g : kG) (sz : Nat) (b : Nat → Nat) (nn : Nat → Nat) (v : Nat → Int32) (F : Nat → Nat → Int32) (j : Nat) (x : Int32) (hj : j < 10) (hn0 : nn 0 ≤ 5) (hn2 : nn 2 ≤ 10) : kMi l g yX4_fits cX4_fits 6 (some .boolean) 5 0 0 [.ref (b 0), .int (nI j), .int x] sz [(b 0, .inr (4, [.ref (b 1), .ref (b 5), .ref (b 8), .ref (b 17), .ref (b 21), .ref (b 25), .ref (b 27), .int (v 4), .int (v 5), .int (nI (nn 7)), .int (v 6)])), (b 1, .inr (8, [.int (nI (nn 0)), .ref (b 2), .ref (b 3), .ref (b 4)])), (b 2, .inl (gI g, 5, .inl (F 0))), (b 3, .inl (gI g, 5, .inl (F 1))), (b 4, .inl (gI g, 5, .inl (F 2))), (b 8, .inr (0, [.int (nI (nn 2)), .ref (b 9), .ref (b 10), .ref (b 11), .ref (b 12), .ref (b 13), .ref (b 14), .ref (b 15), .int (v 1), .int (v 2), .int (nI (nn 3)), .ref (b 16)])), (b 9, .inl (gI g, 10, .inl (F 5))), (b 10, .inl (gI g, 10, .inl (F 6))), (b 11, .inl (gI g, 10, .inl (F 7))), (b 12, .inl (gI g, 10, .inl (F 8))), (b 13, .inl (gI g, 10, .inl (F 9))), (b 14, .inl (gI g, 10, .inl (F 10))), (b 15, .inl (gI g, 10, .inl (F 11))), (b 16, .inl (gI g, 10, .inl (F 12)))] (fun (r : Int32) (u : Unit) => r = 1 ∨ r = 0) (fun (u : Unit) => ([(b 0, .inr (4, [.ref (b 1), .ref (b 5), .ref (b 8), .ref (b 17), .ref (b 21), .ref (b 25), .ref (b 27), .int (v 4), .int (v 5), .int (nI (nn 7)), .int (v 6)])), (b 1, .inr (8, [.int (nI (nn 0)), .ref (b 2), .ref (b 3), .ref (b 4)])), (b 2, .inl (gI g, 5, .inl (F 0))), (b 3, .inl (gI g, 5, .inl (F 1))), (b 4, .inl (gI g, 5, .inl (F 2))), (b 8, .inr (0, [.int (nI (nn 2)), .ref (b 9), .ref (b 10), .ref (b 11), .ref (b 12), .ref (b 13), .ref (b 14), .ref (b 15), .int (v 1), .int (v 2), .int (nI (nn 3)), .ref (b 16)])), (b 9, .inl (gI g, 10, .inl (F 5))), (b 10, .inl (gI g, 10, .inl (F 6))), (b 11, .inl (gI g, 10, .inl (F 7))), (b 12, .inl (gI g, 10, .inl (F 8))), (b 13, .inl (gI g, 10, .inl (F 9))), (b 14, .inl (gI g, 10, .inl (F 10))), (b 15, .inl (gI g, 10, .inl (F 11))), (b 16, .inl (gI g, 10, .inl (F 12)))] : va_W)) := by
  refine kMi.of (by decide) (Nat.le_of_ble_eq_true rfl) (fun p e s m below meth c A hx hb hr hml hown hts hlk hnm hKW hP hD hS hA ls hl => ?_)
  have hown : s.vm.findClass RX4 = some m.cls := hown
  have hl : lv_has ls 6 [(0, .ref (b 0)), (1, .int (nI j)), (2, .int x)] := hl
  refine k_hide hP hS (fun H locs hP hS => ?_)
  refine lv_aload_n hx hb dX4_fits_0 rfl (lv_at hl 0 rfl) ?_
  refine lv_iload_n hx hb dX4_fits_1 rfl (lv_at hl 1 rfl) ?_
  refine lv_iload_n hx hb dX4_fits_2 rfl (lv_at hl 2 rfl) ?_
  refine k_Vi [0, 1, 2, 3, 4, 5, 6] [7, 8, 9, 10, 11, 12, 13] 0 4 (wr := [(b 10, .inl (gI g, 10, .inl (F 6))), (b 11, .inl (gI g, 10, .inl (F 7))), (b 12, .inl (gI g, 10, .inl (F 8))), (b 13, .inl (gI g, 10, .inl (F 9))), (b 14, .inl (gI g, 10, .inl (F 10))), (b 15, .inl (gI g, 10, .inl (F 11))), (b 16, .inl (gI g, 10, .inl (F 12)))]) hx hb hml hown hts hKW hP hD hS hA hl.1 (c_X4_roomInMonth l g _ b nn v F j x (by first | assumption | omega | decide) (by first | assumption | omega | decide)) rfl rfl rfl wd_15_3 wd_1_14 wd_41_15 wd_15_1 wd_15_2 yd_X4_roomInMonth ⟨(Nat.le_of_ble_eq_true rfl), (Nat.le_of_ble_eq_true rfl)⟩ rfl rfl rfl rfl (by decide) rfl (Nat.le_of_ble_eq_true rfl) dX4_fits_3 ⟨(Nat.le_of_ble_eq_true rfl), (Nat.le_of_ble_eq_true rfl)⟩ (fun r_1 u_2 H locs hw_3 hP hD hS => ?_)
  have hP : va_P g.1 vwCl [(b 10, .inl (gI g, 10, .inl (F 6))), (b 11, .inl (gI g, 10, .inl (F 7))), (b 12, .inl (gI g, 10, .inl (F 8))), (b 13, .inl (gI g, 10, .inl (F 9))), (b 14, .inl (gI g, 10, .inl (F 10))), (b 15, .inl (gI g, 10, .inl (F 11))), (b 16, .inl (gI g, 10, .inl (F 12))), (b 0, .inr (4, [.ref (b 1), .ref (b 5), .ref (b 8), .ref (b 17), .ref (b 21), .ref (b 25), .ref (b 27), .int (v 4), .int (v 5), .int (nI (nn 7)), .int (v 6)])), (b 1, .inr (8, [.int (nI (nn 0)), .ref (b 2), .ref (b 3), .ref (b 4)])), (b 2, .inl (gI g, 5, .inl (F 0))), (b 3, .inl (gI g, 5, .inl (F 1))), (b 4, .inl (gI g, 5, .inl (F 2))), (b 8, .inr (0, [.int (nI (nn 2)), .ref (b 9), .ref (b 10), .ref (b 11), .ref (b 12), .ref (b 13), .ref (b 14), .ref (b 15), .int (v 1), .int (v 2), .int (nI (nn 3)), .ref (b 16)])), (b 9, .inl (gI g, 10, .inl (F 5)))] H := hP
  have hD : va_D A [(b 10, .inl (gI g, 10, .inl (F 6))), (b 11, .inl (gI g, 10, .inl (F 7))), (b 12, .inl (gI g, 10, .inl (F 8))), (b 13, .inl (gI g, 10, .inl (F 9))), (b 14, .inl (gI g, 10, .inl (F 10))), (b 15, .inl (gI g, 10, .inl (F 11))), (b 16, .inl (gI g, 10, .inl (F 12))), (b 0, .inr (4, [.ref (b 1), .ref (b 5), .ref (b 8), .ref (b 17), .ref (b 21), .ref (b 25), .ref (b 27), .int (v 4), .int (v 5), .int (nI (nn 7)), .int (v 6)])), (b 1, .inr (8, [.int (nI (nn 0)), .ref (b 2), .ref (b 3), .ref (b 4)])), (b 2, .inl (gI g, 5, .inl (F 0))), (b 3, .inl (gI g, 5, .inl (F 1))), (b 4, .inl (gI g, 5, .inl (F 2))), (b 8, .inr (0, [.int (nI (nn 2)), .ref (b 9), .ref (b 10), .ref (b 11), .ref (b 12), .ref (b 13), .ref (b 14), .ref (b 15), .int (v 1), .int (v 2), .int (nI (nn 3)), .ref (b 16)])), (b 9, .inl (gI g, 10, .inl (F 5)))] := hD
  have hw_3 : r_1 = -1 ∨ ∃ j : Nat, j < (nn 0) ∧ r_1 = nI j := hw_3
  refine lv_istore_n (lv' := [(3, .int r_1), (0, .ref (b 0)), (1, .int (nI j)), (2, .int x)]) hx hb dX4_fits_6 rfl hl (by decide) rfl (fun ls hl => ?_)
  refine lv_iload_n hx hb dX4_fits_7 rfl (lv_at hl 0 rfl) ?_
  refine lv_iconst (v := (-1)) hx hb dX4_fits_8 (by decide) ?_
  refine lv_icmp_ne (tgt := 14) hx hb dX4_fits_9 (by decide) (fun c_4 => ?_) (fun c_4 => ?_)
  · obtain ⟨kr, hkr, rfl⟩ := k_nrm hw_3 c_4
    refine lv_iconst (v := 0) hx hb dX4_fits_14 (by decide) ?_
    refine lv_istore (lv' := [(4, .int 0), (3, .int (nI kr)), (0, .ref (b 0)), (1, .int (nI j)), (2, .int x)]) hx hb dX4_fits_15 hl (by decide) rfl (fun ls hl => ?_)
    have L17 : ∀ (n17 : Nat) (i : Nat) (hfuel17 : 5 - i < n17) (hi : i ≤ 5) (H : Heap) (locs : List Loc) (hP : va_P g.1 vwCl [(b 10, .inl (gI g, 10, .inl (F 6))), (b 11, .inl (gI g, 10, .inl (F 7))), (b 12, .inl (gI g, 10, .inl (F 8))), (b 13, .inl (gI g, 10, .inl (F 9))), (b 14, .inl (gI g, 10, .inl (F 10))), (b 15, .inl (gI g, 10, .inl (F 11))), (b 16, .inl (gI g, 10, .inl (F 12))), (b 0, .inr (4, [.ref (b 1), .ref (b 5), .ref (b 8), .ref (b 17), .ref (b 21), .ref (b 25), .ref (b 27), .int (v 4), .int (v 5), .int (nI (nn 7)), .int (v 6)])), (b 1, .inr (8, [.int (nI (nn 0)), .ref (b 2), .ref (b 3), .ref (b 4)])), (b 2, .inl (gI g, 5, .inl (F 0))), (b 3, .inl (gI g, 5, .inl (F 1))), (b 4, .inl (gI g, 5, .inl (F 2))), (b 8, .inr (0, [.int (nI (nn 2)), .ref (b 9), .ref (b 10), .ref (b 11), .ref (b 12), .ref (b 13), .ref (b 14), .ref (b 15), .int (v 1), .int (v 2), .int (nI (nn 3)), .ref (b 16)])), (b 9, .inl (gI g, 10, .inl (F 5)))] H) (hD : va_D A [(b 10, .inl (gI g, 10, .inl (F 6))), (b 11, .inl (gI g, 10, .inl (F 7))), (b 12, .inl (gI g, 10, .inl (F 8))), (b 13, .inl (gI g, 10, .inl (F 9))), (b 14, .inl (gI g, 10, .inl (F 10))), (b 15, .inl (gI g, 10, .inl (F 11))), (b 16, .inl (gI g, 10, .inl (F 12))), (b 0, .inr (4, [.ref (b 1), .ref (b 5), .ref (b 8), .ref (b 17), .ref (b 21), .ref (b 25), .ref (b 27), .int (v 4), .int (v 5), .int (nI (nn 7)), .int (v 6)])), (b 1, .inr (8, [.int (nI (nn 0)), .ref (b 2), .ref (b 3), .ref (b 4)])), (b 2, .inl (gI g, 5, .inl (F 0))), (b 3, .inl (gI g, 5, .inl (F 1))), (b 4, .inl (gI g, 5, .inl (F 2))), (b 8, .inr (0, [.int (nI (nn 2)), .ref (b 9), .ref (b 10), .ref (b 11), .ref (b 12), .ref (b 13), .ref (b 14), .ref (b 15), .int (v 1), .int (v 2), .int (nI (nn 3)), .ref (b 16)])), (b 9, .inl (gI g, 10, .inl (F 5)))]) (hS : va_S A s.heap H locs) (ls : Array Slot) (hl : lv_has ls 6 [(4, .int (nI i)), (3, .int (nI kr)), (0, .ref (b 0)), (1, .int (nI j)), (2, .int x)]), W p l e (kR 5 0 0) s m ([.ref (b 0), .int (nI j), .int x] : List Value).toArray below meth c H locs 0 0 (kQi g A below ([.ref (b 0), .int (nI j), .int x] : List Value).toArray s 0 0 (fun (r : Int32) (u : Unit) => r = 1 ∨ r = 0) (fun (u : Unit) => ([(b 0, .inr (4, [.ref (b 1), .ref (b 5), .ref (b 8), .ref (b 17), .ref (b 21), .ref (b 25), .ref (b 27), .int (v 4), .int (v 5), .int (nI (nn 7)), .int (v 6)])), (b 1, .inr (8, [.int (nI (nn 0)), .ref (b 2), .ref (b 3), .ref (b 4)])), (b 2, .inl (gI g, 5, .inl (F 0))), (b 3, .inl (gI g, 5, .inl (F 1))), (b 4, .inl (gI g, 5, .inl (F 2))), (b 8, .inr (0, [.int (nI (nn 2)), .ref (b 9), .ref (b 10), .ref (b 11), .ref (b 12), .ref (b 13), .ref (b 14), .ref (b 15), .int (v 1), .int (v 2), .int (nI (nn 3)), .ref (b 16)])), (b 9, .inl (gI g, 10, .inl (F 5))), (b 10, .inl (gI g, 10, .inl (F 6))), (b 11, .inl (gI g, 10, .inl (F 7))), (b 12, .inl (gI g, 10, .inl (F 8))), (b 13, .inl (gI g, 10, .inl (F 9))), (b 14, .inl (gI g, 10, .inl (F 10))), (b 15, .inl (gI g, 10, .inl (F 11))), (b 16, .inl (gI g, 10, .inl (F 12)))] : va_W))) (F0 m 17 ls []) := by
      intro n17
      induction n17 with
      | zero => intro i hfuel17; exact absurd hfuel17 (Nat.not_lt_zero _)
      | succ n17 ih17 =>
        intro i hfuel17 hi H locs hP hD hS ls hl
        refine lv_iload hx hb dX4_fits_17 (lv_at hl 0 rfl) ?_
        refine lv_iconst (v := 5) hx hb dX4_fits_19 (by decide) ?_
        refine lv_icmp_ge (tgt := 72) hx hb dX4_fits_20 (by decide) (fun c_5 => ?_) (fun c_5 => ?_)
        · have c_5n : 5 ≤ i := (k_leI (a := 5) (b := i) (by omega) (by omega)).mp c_5
          refine lv_iconst (v := 1) hx hb dX4_fits_72 (by decide) ?_
          exact k_zret () [7, 8, 9, 10, 11, 12, 13, 0, 1, 2, 3, 4, 5, 6] hx hb hr hlk hP hD hS (Or.inl rfl) rfl rfl rfl rfl (Nat.le_of_ble_eq_true rfl) (Nat.le_of_ble_eq_true rfl) dX4_fits_73
        · have c_5n : i < 5 := Nat.not_le.mp (fun h => c_5 ((k_leI (a := 5) (b := i) (by omega) (by omega)).mpr h))
          refine lv_aload_n hx hb dX4_fits_23 rfl (lv_at hl 2 rfl) ?_
          refine va_get (ci := 4) (C := RX4) (T := TX4) (N := 11) hx hb hts inlX4 hown hKW.1 hP 7 rfl rfl 2 (by decide) (hts _ wd_3_2) (fun _ h => h) rfl dX4_fits_24 ?_
          refine va_get (ci := 0) (C := RX0) (T := TX0) (N := 12) hx hb hts inlX0 hown hKW.1 hP 12 rfl rfl 3 (by decide) (hts _ wd_41_14) (fun _ h => h) rfl dX4_fits_27 ?_
          refine lv_iload_n hx hb dX4_fits_30 rfl (lv_at hl 3 rfl) ?_
          refine va_iald hx hb hKW.1 hP 1 0 rfl rfl (vp_in_nI (by omega) (by decide)) dX4_fits_31 ?_
          refine lv_topi (fun x_6 ex_6 => ?_)
          refine lv_iload hx hb dX4_fits_32 (lv_at hl 0 rfl) ?_
          refine k_SNi [] [0, 1, 2, 3, 4, 5, 6, 7, 8, 9, 10, 11, 12, 13] (wr := [(b 10, .inl (gI g, 10, .inl (F 6))), (b 11, .inl (gI g, 10, .inl (F 7))), (b 12, .inl (gI g, 10, .inl (F 8))), (b 13, .inl (gI g, 10, .inl (F 9))), (b 14, .inl (gI g, 10, .inl (F 10))), (b 15, .inl (gI g, 10, .inl (F 11))), (b 16, .inl (gI g, 10, .inl (F 12))), (b 0, .inr (4, [.ref (b 1), .ref (b 5), .ref (b 8), .ref (b 17), .ref (b 21), .ref (b 25), .ref (b 27), .int (v 4), .int (v 5), .int (nI (nn 7)), .int (v 6)])), (b 1, .inr (8, [.int (nI (nn 0)), .ref (b 2), .ref (b 3), .ref (b 4)])), (b 2, .inl (gI g, 5, .inl (F 0))), (b 3, .inl (gI g, 5, .inl (F 1))), (b 4, .inl (gI g, 5, .inl (F 2))), (b 8, .inr (0, [.int (nI (nn 2)), .ref (b 9), .ref (b 10), .ref (b 11), .ref (b 12), .ref (b 13), .ref (b 14), .ref (b 15), .int (v 1), .int (v 2), .int (nI (nn 3)), .ref (b 16)])), (b 9, .inl (gI g, 10, .inl (F 5)))]) hx hb hml hown hts hKW hP hD hS hA hl.1 (c_X11_hasBit l g _ x_6 (nI i) ) wd_14_11 wd_1_2 nw_15 wd_14_10 yd_X11_hasBit ⟨(Nat.le_of_ble_eq_true rfl), (Nat.le_of_ble_eq_true rfl)⟩ rfl rfl rfl rfl (by decide) rfl (Nat.le_of_ble_eq_true rfl) dX4_fits_34 ⟨(Nat.le_of_ble_eq_true rfl), (Nat.le_of_ble_eq_true rfl)⟩ (fun r_7 u_8 H locs hw_9 hP hD hS => ?_)
          have hP : va_P g.1 vwCl [(b 10, .inl (gI g, 10, .inl (F 6))), (b 11, .inl (gI g, 10, .inl (F 7))), (b 12, .inl (gI g, 10, .inl (F 8))), (b 13, .inl (gI g, 10, .inl (F 9))), (b 14, .inl (gI g, 10, .inl (F 10))), (b 15, .inl (gI g, 10, .inl (F 11))), (b 16, .inl (gI g, 10, .inl (F 12))), (b 0, .inr (4, [.ref (b 1), .ref (b 5), .ref (b 8), .ref (b 17), .ref (b 21), .ref (b 25), .ref (b 27), .int (v 4), .int (v 5), .int (nI (nn 7)), .int (v 6)])), (b 1, .inr (8, [.int (nI (nn 0)), .ref (b 2), .ref (b 3), .ref (b 4)])), (b 2, .inl (gI g, 5, .inl (F 0))), (b 3, .inl (gI g, 5, .inl (F 1))), (b 4, .inl (gI g, 5, .inl (F 2))), (b 8, .inr (0, [.int (nI (nn 2)), .ref (b 9), .ref (b 10), .ref (b 11), .ref (b 12), .ref (b 13), .ref (b 14), .ref (b 15), .int (v 1), .int (v 2), .int (nI (nn 3)), .ref (b 16)])), (b 9, .inl (gI g, 10, .inl (F 5)))] H := hP
          have hD : va_D A [(b 10, .inl (gI g, 10, .inl (F 6))), (b 11, .inl (gI g, 10, .inl (F 7))), (b 12, .inl (gI g, 10, .inl (F 8))), (b 13, .inl (gI g, 10, .inl (F 9))), (b 14, .inl (gI g, 10, .inl (F 10))), (b 15, .inl (gI g, 10, .inl (F 11))), (b 16, .inl (gI g, 10, .inl (F 12))), (b 0, .inr (4, [.ref (b 1), .ref (b 5), .ref (b 8), .ref (b 17), .ref (b 21), .ref (b 25), .ref (b 27), .int (v 4), .int (v 5), .int (nI (nn 7)), .int (v 6)])), (b 1, .inr (8, [.int (nI (nn 0)), .ref (b 2), .ref (b 3), .ref (b 4)])), (b 2, .inl (gI g, 5, .inl (F 0))), (b 3, .inl (gI g, 5, .inl (F 1))), (b 4, .inl (gI g, 5, .inl (F 2))), (b 8, .inr (0, [.int (nI (nn 2)), .ref (b 9), .ref (b 10), .ref (b 11), .ref (b 12), .ref (b 13), .ref (b 14), .ref (b 15), .int (v 1), .int (v 2), .int (nI (nn 3)), .ref (b 16)])), (b 9, .inl (gI g, 10, .inl (F 5)))] := hD
          rcases (show r_7 = 1 ∨ r_7 = 0 from hw_9) with rfl | rfl <;> clear hw_9
          · refine lv_istore (lv' := [(5, .int 1), (4, .int (nI i)), (3, .int (nI kr)), (0, .ref (b 0)), (1, .int (nI j)), (2, .int x)]) hx hb dX4_fits_37 hl (by decide) rfl (fun ls hl => ?_)
            refine lv_iload hx hb dX4_fits_39 (lv_at hl 0 rfl) ?_
            refine lv_if_eq (tgt := 66) hx hb dX4_fits_41 (by decide) (fun c => absurd c (by decide)) (fun _ => ?_)
            refine lv_aload_n hx hb dX4_fits_44 rfl (lv_at hl 3 rfl) ?_
            refine lv_iload_n hx hb dX4_fits_45 rfl (lv_at hl 2 rfl) ?_
            refine lv_iload hx hb dX4_fits_46 (lv_at hl 1 rfl) ?_
            refine lv_iload_n hx hb dX4_fits_48 rfl (lv_at hl 5 rfl) ?_
            refine k_Vi [7, 8, 9, 10, 11, 12, 13, 0, 1, 2, 3, 4, 5, 6] [] 7 4 (wr := []) hx hb hml hown hts hKW hP hD hS hA hl.1 (c_X4_placesTaken l g _ b nn v F (nI kr) (nI i) x (by first | assumption | omega | decide) (by first | assumption | omega | decide)) rfl rfl rfl wd_41_19 wd_1_14 wd_41_16 wd_41_17 wd_41_18 yd_X4_placesTaken ⟨(Nat.le_of_ble_eq_true rfl), (Nat.le_of_ble_eq_true rfl)⟩ rfl rfl rfl rfl (by decide) rfl (Nat.le_of_ble_eq_true rfl) dX4_fits_49 ⟨(Nat.le_of_ble_eq_true rfl), (Nat.le_of_ble_eq_true rfl)⟩ (fun r_10 u_11 H locs hw_12 hP hD hS => ?_)
            have hP : va_P g.1 vwCl [(b 0, .inr (4, [.ref (b 1), .ref (b 5), .ref (b 8), .ref (b 17), .ref (b 21), .ref (b 25), .ref (b 27), .int (v 4), .int (v 5), .int (nI (nn 7)), .int (v 6)])), (b 1, .inr (8, [.int (nI (nn 0)), .ref (b 2), .ref (b 3), .ref (b 4)])), (b 2, .inl (gI g, 5, .inl (F 0))), (b 3, .inl (gI g, 5, .inl (F 1))), (b 4, .inl (gI g, 5, .inl (F 2))), (b 8, .inr (0, [.int (nI (nn 2)), .ref (b 9), .ref (b 10), .ref (b 11), .ref (b 12), .ref (b 13), .ref (b 14), .ref (b 15), .int (v 1), .int (v 2), .int (nI (nn 3)), .ref (b 16)])), (b 9, .inl (gI g, 10, .inl (F 5))), (b 10, .inl (gI g, 10, .inl (F 6))), (b 11, .inl (gI g, 10, .inl (F 7))), (b 12, .inl (gI g, 10, .inl (F 8))), (b 13, .inl (gI g, 10, .inl (F 9))), (b 14, .inl (gI g, 10, .inl (F 10))), (b 15, .inl (gI g, 10, .inl (F 11))), (b 16, .inl (gI g, 10, .inl (F 12)))] H := hP
            have hD : va_D A [(b 0, .inr (4, [.ref (b 1), .ref (b 5), .ref (b 8), .ref (b 17), .ref (b 21), .ref (b 25), .ref (b 27), .int (v 4), .int (v 5), .int (nI (nn 7)), .int (v 6)])), (b 1, .inr (8, [.int (nI (nn 0)), .ref (b 2), .ref (b 3), .ref (b 4)])), (b 2, .inl (gI g, 5, .inl (F 0))), (b 3, .inl (gI g, 5, .inl (F 1))), (b 4, .inl (gI g, 5, .inl (F 2))), (b 8, .inr (0, [.int (nI (nn 2)), .ref (b 9), .ref (b 10), .ref (b 11), .ref (b 12), .ref (b 13), .ref (b 14), .ref (b 15), .int (v 1), .int (v 2), .int (nI (nn 3)), .ref (b 16)])), (b 9, .inl (gI g, 10, .inl (F 5))), (b 10, .inl (gI g, 10, .inl (F 6))), (b 11, .inl (gI g, 10, .inl (F 7))), (b 12, .inl (gI g, 10, .inl (F 8))), (b 13, .inl (gI g, 10, .inl (F 9))), (b 14, .inl (gI g, 10, .inl (F 10))), (b 15, .inl (gI g, 10, .inl (F 11))), (b 16, .inl (gI g, 10, .inl (F 12)))] := hD
            refine lv_aload_n hx hb dX4_fits_52 rfl (lv_at hl 3 rfl) ?_
            refine va_get (ci := 4) (C := RX4) (T := TX4) (N := 11) hx hb hts inlX4 hown hKW.1 hP 0 rfl rfl 0 (by decide) (hts _ wd_2_18) (fun _ h => h) rfl dX4_fits_53 ?_
            refine va_get (ci := 8) (C := RX8) (T := TX8) (N := 4) hx hb hts inlX8 hown hKW.1 hP 1 rfl rfl 3 (by decide) (hts _ wd_18_23) (fun _ h => h) rfl dX4_fits_56 ?_
            refine lv_iload_n hx hb dX4_fits_59 rfl (lv_at hl 2 rfl) ?_
            refine va_iald hx hb hKW.1 hP 4 0 rfl rfl (vp_in_nI (by omega) (by decide)) dX4_fits_60 ?_
            refine lv_topi (fun x_13 ex_13 => ?_)
            refine lv_icmp_lt (tgt := 66) hx hb dX4_fits_61 (by decide) (fun c_14 => ?_) (fun c_14 => ?_)
            · refine lv_iinc (v := nI (i + 1)) (lv' := [(4, .int (nI (i + 1))), (5, .int 1), (3, .int (nI kr)), (0, .ref (b 0)), (1, .int (nI j)), (2, .int x)]) hx hb dX4_fits_66 hl (k := 1) rfl (nI_add i 1) (by decide) rfl (fun ls hl => ?_)
              refine lv_goto (tgt := 17) hx hb dX4_fits_69 (by decide) ?_
              exact ih17 (i + 1) (by omega) (by first | assumption | omega) H locs (hP.sub [7, 8, 9, 10, 11, 12, 13, 0, 1, 2, 3, 4, 5, 6] rfl) (hD.sub [7, 8, 9, 10, 11, 12, 13, 0, 1, 2, 3, 4, 5, 6] (by decide) rfl) hS ls (lv_sub hl [0, 2, 3, 4, 5] rfl)
            · refine lv_iconst (v := 0) hx hb dX4_fits_64 (by decide) ?_
              exact k_zret () [0, 1, 2, 3, 4, 5, 6, 7, 8, 9, 10, 11, 12, 13] hx hb hr hlk hP hD hS (Or.inr rfl) rfl rfl rfl rfl (Nat.le_of_ble_eq_true rfl) (Nat.le_of_ble_eq_true rfl) dX4_fits_65
          · refine lv_istore (lv' := [(5, .int 0), (4, .int (nI i)), (3, .int (nI kr)), (0, .ref (b 0)), (1, .int (nI j)), (2, .int x)]) hx hb dX4_fits_37 hl (by decide) rfl (fun ls hl => ?_)
            refine lv_iload hx hb dX4_fits_39 (lv_at hl 0 rfl) ?_
            refine lv_if_eq (tgt := 66) hx hb dX4_fits_41 (by decide) (fun _ => ?_) (fun c => absurd c (by decide))
            refine lv_iinc (v := nI (i + 1)) (lv' := [(4, .int (nI (i + 1))), (5, .int 0), (3, .int (nI kr)), (0, .ref (b 0)), (1, .int (nI j)), (2, .int x)]) hx hb dX4_fits_66 hl (k := 1) rfl (nI_add i 1) (by decide) rfl (fun ls hl => ?_)
            refine lv_goto (tgt := 17) hx hb dX4_fits_69 (by decide) ?_
            exact ih17 (i + 1) (by omega) (by first | assumption | omega) H locs (hP.sub [0, 1, 2, 3, 4, 5, 6, 7, 8, 9, 10, 11, 12, 13] rfl) (hD.sub [0, 1, 2, 3, 4, 5, 6, 7, 8, 9, 10, 11, 12, 13] (by decide) rfl) hS ls (lv_sub hl [0, 2, 3, 4, 5] rfl)
    exact L17 (5 - 0 + 1) 0 (Nat.lt_succ_self _) (by first | assumption | omega) H locs (hP.sub [0, 1, 2, 3, 4, 5, 6, 7, 8, 9, 10, 11, 12, 13] rfl) (hD.sub [0, 1, 2, 3, 4, 5, 6, 7, 8, 9, 10, 11, 12, 13] (by decide) rfl) hS ls (lv_sub hl [0, 1, 2, 3, 4] rfl)
  · refine lv_iconst (v := 1) hx hb dX4_fits_12 (by decide) ?_
    exact k_zret () [7, 8, 9, 10, 11, 12, 13, 0, 1, 2, 3, 4, 5, 6] hx hb hr hlk hP hD hS (Or.inl rfl) rfl rfl rfl rfl (Nat.le_of_ble_eq_true rfl) (Nat.le_of_ble_eq_true rfl) dX4_fits_13
theorem dX4_earliestMonth_0 : decode cX4_earliestMonth 0 = .ok (.iconst (-1), 1) := by decide +kernel
theorem dX4_earliestMonth_1 : decode cX4_earliestMonth 1 = .ok (.istore_n 2, 1) := by decide +kernel
theorem dX4_earliestMonth_2 : decode cX4_earliestMonth 2 = .ok (.aload_n 0, 1) := by decide +kernel
theorem dX4_earliestMonth_3 : decode cX4_earliestMonth 3 = .ok (.getfield 28, 3) := by decide +kernel
theorem dX4_earliestMonth_6 : decode cX4_earliestMonth 6 = .ok (.getfield 134, 3) := by decide +kernel
theorem dX4_earliestMonth_9 : decode cX4_earliestMonth 9 = .ok (.iload_n 1, 1) := by decide +kernel
theorem dX4_earliestMonth_10 : decode cX4_earliestMonth 10 = .ok (.iaload, 1) := by decide +kernel
theorem dX4_earliestMonth_11 : decode cX4_earliestMonth 11 = .ok (.istore_n 3, 1) := by decide +kernel
theorem dX4_earliestMonth_12 : decode cX4_earliestMonth 12 = .ok (.iload_n 3, 1) := by decide +kernel
theorem dX4_earliestMonth_13 : decode cX4_earliestMonth 13 = .ok (.aload_n 0, 1) := by decide +kernel
theorem dX4_earliestMonth_14 : decode cX4_earliestMonth 14 = .ok (.getfield 28, 3) := by decide +kernel
theorem dX4_earliestMonth_17 : decode cX4_earliestMonth 17 = .ok (.getfield 137, 3) := by decide +kernel
theorem dX4_earliestMonth_20 : decode cX4_earliestMonth 20 = .ok (.iload_n 1, 1) := by decide +kernel
theorem dX4_earliestMonth_21 : decode cX4_earliestMonth 21 = .ok (.iaload, 1) := by decide +kernel
theorem dX4_earliestMonth_22 : decode cX4_earliestMonth 22 = .ok (.if_icmp .lt 22, 3) := by decide +kernel
theorem dX4_earliestMonth_44 : decode cX4_earliestMonth 44 = .ok (.iload_n 2, 1) := by decide +kernel
theorem dX4_earliestMonth_45 : decode cX4_earliestMonth 45 = .ok (.ireturn, 1) := by decide +kernel
theorem dX4_earliestMonth_25 : decode cX4_earliestMonth 25 = .ok (.aload_n 0, 1) := by decide +kernel
theorem dX4_earliestMonth_26 : decode cX4_earliestMonth 26 = .ok (.iload_n 1, 1) := by decide +kernel
theorem dX4_earliestMonth_27 : decode cX4_earliestMonth 27 = .ok (.iload_n 3, 1) := by decide +kernel
theorem dX4_earliestMonth_28 : decode cX4_earliestMonth 28 = .ok (.invokevirtual 140, 3) := by decide +kernel
theorem dX4_earliestMonth_31 : decode cX4_earliestMonth 31 = .ok (.ifCond .ne 5, 3) := by decide +kernel
theorem dX4_earliestMonth_36 : decode cX4_earliestMonth 36 = .ok (.iload_n 3, 1) := by decide +kernel
theorem dX4_earliestMonth_37 : decode cX4_earliestMonth 37 = .ok (.istore_n 2, 1) := by decide +kernel
theorem dX4_earliestMonth_38 : decode cX4_earliestMonth 38 = .ok (.iinc 3 (-1), 3) := by decide +kernel
theorem dX4_earliestMonth_41 : decode cX4_earliestMonth 41 = .ok (.goto (-29), 3) := by decide +kernel
theorem dX4_earliestMonth_34 : decode cX4_earliestMonth 34 = .ok (.iload_n 2, 1) := by decide +kernel
theorem dX4_earliestMonth_35 : decode cX4_earliestMonth 35 = .ok (.ireturn, 1) := by decide +kernel
set_option maxHeartbeats 8000000 in
set_option maxRecDepth 100000 in
theorem c_X4_earliestMonth (l : Launch) (g : kG) (sz : Nat) (b : Nat → Nat) (nn : Nat → Nat) (v : Nat → Int32) (F : Nat → Nat → Int32) (j : Nat) (hj : j < 10) (hn0 : nn 0 ≤ 5) (hn2 : nn 2 ≤ 10) (hq9 : ∀ j, j < 10 → (0 : Int) ≤ (F 8 j).toInt ∧ (F 8 j).toInt ≤ 60) (hq10 : ∀ j, j < 10 → (0 : Int) ≤ (F 9 j).toInt ∧ (F 9 j).toInt ≤ 60) : kMi l g yX4_earliestMonth cX4_earliestMonth 4 (some .int) 6 0 0 [.ref (b 0), .int (nI j)] sz [(b 0, .inr (4, [.ref (b 1), .ref (b 5), .ref (b 8), .ref (b 17), .ref (b 21), .ref (b 25), .ref (b 27), .int (v 4), .int (v 5), .int (nI (nn 7)), .int (v 6)])), (b 1, .inr (8, [.int (nI (nn 0)), .ref (b 2), .ref (b 3), .ref (b 4)])), (b 2, .inl (gI g, 5, .inl (F 0))), (b 3, .inl (gI g, 5, .inl (F 1))), (b 4, .inl (gI g, 5, .inl (F 2))), (b 8, .inr (0, [.int (nI (nn 2)), .ref (b 9), .ref (b 10), .ref (b 11), .ref (b 12), .ref (b 13), .ref (b 14), .ref (b 15), .int (v 1), .int (v 2), .int (nI (nn 3)), .ref (b 16)])), (b 9, .inl (gI g, 10, .inl (F 5))), (b 10, .inl (gI g, 10, .inl (F 6))), (b 11, .inl (gI g, 10, .inl (F 7))), (b 12, .inl (gI g, 10, .inl (F 8))), (b 13, .inl (gI g, 10, .inl (F 9))), (b 14, .inl (gI g, 10, .inl (F 10))), (b 15, .inl (gI g, 10, .inl (F 11))), (b 16, .inl (gI g, 10, .inl (F 12)))] (fun (r : Int32) (u : Unit) => r = -1 ∨ ((0 : Int) ≤ r.toInt ∧ r.toInt ≤ 60)) (fun (u : Unit) => ([(b 0, .inr (4, [.ref (b 1), .ref (b 5), .ref (b 8), .ref (b 17), .ref (b 21), .ref (b 25), .ref (b 27), .int (v 4), .int (v 5), .int (nI (nn 7)), .int (v 6)])), (b 1, .inr (8, [.int (nI (nn 0)), .ref (b 2), .ref (b 3), .ref (b 4)])), (b 2, .inl (gI g, 5, .inl (F 0))), (b 3, .inl (gI g, 5, .inl (F 1))), (b 4, .inl (gI g, 5, .inl (F 2))), (b 8, .inr (0, [.int (nI (nn 2)), .ref (b 9), .ref (b 10), .ref (b 11), .ref (b 12), .ref (b 13), .ref (b 14), .ref (b 15), .int (v 1), .int (v 2), .int (nI (nn 3)), .ref (b 16)])), (b 9, .inl (gI g, 10, .inl (F 5))), (b 10, .inl (gI g, 10, .inl (F 6))), (b 11, .inl (gI g, 10, .inl (F 7))), (b 12, .inl (gI g, 10, .inl (F 8))), (b 13, .inl (gI g, 10, .inl (F 9))), (b 14, .inl (gI g, 10, .inl (F 10))), (b 15, .inl (gI g, 10, .inl (F 11))), (b 16, .inl (gI g, 10, .inl (F 12)))] : va_W)) := by
  refine kMi.of (by decide) (Nat.le_of_ble_eq_true rfl) (fun p e s m below meth c A hx hb hr hml hown hts hlk hnm hKW hP hD hS hA ls hl => ?_)
  have hown : s.vm.findClass RX4 = some m.cls := hown
  have hl : lv_has ls 4 [(0, .ref (b 0)), (1, .int (nI j))] := hl
  refine k_hide hP hS (fun H locs hP hS => ?_)
  refine lv_iconst (v := (-1)) hx hb dX4_earliestMonth_0 (by decide) ?_
  refine lv_istore_n (lv' := [(2, .int (-1)), (0, .ref (b 0)), (1, .int (nI j))]) hx hb dX4_earliestMonth_1 rfl hl (by decide) rfl (fun ls hl => ?_)
  refine lv_aload_n hx hb dX4_earliestMonth_2 rfl (lv_at hl 1 rfl) ?_
  refine va_get (ci := 4) (C := RX4) (T := TX4) (N := 11) hx hb hts inlX4 hown hKW.1 hP 0 rfl rfl 2 (by decide) (hts _ wd_3_2) (fun _ h => h) rfl dX4_earliestMonth_3 ?_
  refine va_get (ci := 0) (C := RX0) (T := TX0) (N := 12) hx hb hts inlX0 hown hKW.1 hP 5 rfl rfl 5 (by decide) (hts _ wd_41_8) (fun _ h => h) rfl dX4_earliestMonth_6 ?_
  refine lv_iload_n hx hb dX4_earliestMonth_9 rfl (lv_at hl 2 rfl) ?_
  refine va_iald hx hb hKW.1 hP 10 0 rfl rfl (vp_in_nI (by omega) (by decide)) dX4_earliestMonth_10 ?_
  refine lv_topi (fun x_1 ex_1 => ?_)
  refine lv_istore_n (lv' := [(3, .int x_1), (2, .int (-1)), (0, .ref (b 0)), (1, .int (nI j))]) hx hb dX4_earliestMonth_11 rfl hl (by decide) rfl (fun ls hl => ?_)
  have L12 : ∀ (n12 : Nat) (x3 : Int32) (x2 : Int32) (hfuel12 : (Int32.toInt x3 + 1).toNat < n12) (h3 : (-1 : Int) ≤ Int32.toInt x3 ∧ Int32.toInt x3 ≤ 60) (h2 : x2 = -1 ∨ ((0 : Int) ≤ x2.toInt ∧ x2.toInt ≤ 60)) (H : Heap) (locs : List Loc) (hP : va_P g.1 vwCl [(b 0, .inr (4, [.ref (b 1), .ref (b 5), .ref (b 8), .ref (b 17), .ref (b 21), .ref (b 25), .ref (b 27), .int (v 4), .int (v 5), .int (nI (nn 7)), .int (v 6)])), (b 1, .inr (8, [.int (nI (nn 0)), .ref (b 2), .ref (b 3), .ref (b 4)])), (b 2, .inl (gI g, 5, .inl (F 0))), (b 3, .inl (gI g, 5, .inl (F 1))), (b 4, .inl (gI g, 5, .inl (F 2))), (b 8, .inr (0, [.int (nI (nn 2)), .ref (b 9), .ref (b 10), .ref (b 11), .ref (b 12), .ref (b 13), .ref (b 14), .ref (b 15), .int (v 1), .int (v 2), .int (nI (nn 3)), .ref (b 16)])), (b 9, .inl (gI g, 10, .inl (F 5))), (b 10, .inl (gI g, 10, .inl (F 6))), (b 11, .inl (gI g, 10, .inl (F 7))), (b 12, .inl (gI g, 10, .inl (F 8))), (b 13, .inl (gI g, 10, .inl (F 9))), (b 14, .inl (gI g, 10, .inl (F 10))), (b 15, .inl (gI g, 10, .inl (F 11))), (b 16, .inl (gI g, 10, .inl (F 12)))] H) (hD : va_D A [(b 0, .inr (4, [.ref (b 1), .ref (b 5), .ref (b 8), .ref (b 17), .ref (b 21), .ref (b 25), .ref (b 27), .int (v 4), .int (v 5), .int (nI (nn 7)), .int (v 6)])), (b 1, .inr (8, [.int (nI (nn 0)), .ref (b 2), .ref (b 3), .ref (b 4)])), (b 2, .inl (gI g, 5, .inl (F 0))), (b 3, .inl (gI g, 5, .inl (F 1))), (b 4, .inl (gI g, 5, .inl (F 2))), (b 8, .inr (0, [.int (nI (nn 2)), .ref (b 9), .ref (b 10), .ref (b 11), .ref (b 12), .ref (b 13), .ref (b 14), .ref (b 15), .int (v 1), .int (v 2), .int (nI (nn 3)), .ref (b 16)])), (b 9, .inl (gI g, 10, .inl (F 5))), (b 10, .inl (gI g, 10, .inl (F 6))), (b 11, .inl (gI g, 10, .inl (F 7))), (b 12, .inl (gI g, 10, .inl (F 8))), (b 13, .inl (gI g, 10, .inl (F 9))), (b 14, .inl (gI g, 10, .inl (F 10))), (b 15, .inl (gI g, 10, .inl (F 11))), (b 16, .inl (gI g, 10, .inl (F 12)))]) (hS : va_S A s.heap H locs) (ls : Array Slot) (hl : lv_has ls 4 [(3, .int x3), (2, .int x2), (0, .ref (b 0)), (1, .int (nI j))]), W p l e (kR 6 0 0) s m ([.ref (b 0), .int (nI j)] : List Value).toArray below meth c H locs 0 0 (kQi g A below ([.ref (b 0), .int (nI j)] : List Value).toArray s 0 0 (fun (r : Int32) (u : Unit) => r = -1 ∨ ((0 : Int) ≤ r.toInt ∧ r.toInt ≤ 60)) (fun (u : Unit) => ([(b 0, .inr (4, [.ref (b 1), .ref (b 5), .ref (b 8), .ref (b 17), .ref (b 21), .ref (b 25), .ref (b 27), .int (v 4), .int (v 5), .int (nI (nn 7)), .int (v 6)])), (b 1, .inr (8, [.int (nI (nn 0)), .ref (b 2), .ref (b 3), .ref (b 4)])), (b 2, .inl (gI g, 5, .inl (F 0))), (b 3, .inl (gI g, 5, .inl (F 1))), (b 4, .inl (gI g, 5, .inl (F 2))), (b 8, .inr (0, [.int (nI (nn 2)), .ref (b 9), .ref (b 10), .ref (b 11), .ref (b 12), .ref (b 13), .ref (b 14), .ref (b 15), .int (v 1), .int (v 2), .int (nI (nn 3)), .ref (b 16)])), (b 9, .inl (gI g, 10, .inl (F 5))), (b 10, .inl (gI g, 10, .inl (F 6))), (b 11, .inl (gI g, 10, .inl (F 7))), (b 12, .inl (gI g, 10, .inl (F 8))), (b 13, .inl (gI g, 10, .inl (F 9))), (b 14, .inl (gI g, 10, .inl (F 10))), (b 15, .inl (gI g, 10, .inl (F 11))), (b 16, .inl (gI g, 10, .inl (F 12)))] : va_W))) (F0 m 12 ls []) := by
    intro n12
    induction n12 with
    | zero => intro x3 x2 hfuel12; exact absurd hfuel12 (Nat.not_lt_zero _)
    | succ n12 ih12 =>
      intro x3 x2 hfuel12 h3 h2 H locs hP hD hS ls hl
      refine lv_iload_n hx hb dX4_earliestMonth_12 rfl (lv_at hl 0 rfl) ?_
      refine lv_aload_n hx hb dX4_earliestMonth_13 rfl (lv_at hl 2 rfl) ?_
      refine va_get (ci := 4) (C := RX4) (T := TX4) (N := 11) hx hb hts inlX4 hown hKW.1 hP 0 rfl rfl 2 (by decide) (hts _ wd_3_2) (fun _ h => h) rfl dX4_earliestMonth_14 ?_
      refine va_get (ci := 0) (C := RX0) (T := TX0) (N := 12) hx hb hts inlX0 hown hKW.1 hP 5 rfl rfl 4 (by decide) (hts _ wd_41_9) (fun _ h => h) rfl dX4_earliestMonth_17 ?_
      refine lv_iload_n hx hb dX4_earliestMonth_20 rfl (lv_at hl 3 rfl) ?_
      refine va_iald hx hb hKW.1 hP 9 0 rfl rfl (vp_in_nI (by omega) (by decide)) dX4_earliestMonth_21 ?_
      refine lv_topi (fun x_2 ex_2 => ?_)
      refine lv_icmp_lt (tgt := 44) hx hb dX4_earliestMonth_22 (by decide) (fun c_3 => ?_) (fun c_3 => ?_)
      · refine lv_iload_n hx hb dX4_earliestMonth_44 rfl (lv_at hl 1 rfl) ?_
        exact k_iret () [0, 1, 2, 3, 4, 5, 6, 7, 8, 9, 10, 11, 12, 13] hx hb hr hlk hP hD hS h2 rfl rfl rfl (Nat.le_of_ble_eq_true rfl) (Nat.le_of_ble_eq_true rfl) dX4_earliestMonth_45
      · have hx0 : (0 : Int) ≤ Int32.toInt x3 := by have q := c_3; rw [Int32.lt_iff_toInt_lt, ex_2, nI_clamp (by omega)] at q; have := hq9 j hj; omega
        refine lv_aload_n hx hb dX4_earliestMonth_25 rfl (lv_at hl 2 rfl) ?_
        refine lv_iload_n hx hb dX4_earliestMonth_26 rfl (lv_at hl 3 rfl) ?_
        refine lv_iload_n hx hb dX4_earliestMonth_27 rfl (lv_at hl 0 rfl) ?_
        refine k_Vi [0, 1, 2, 3, 4, 5, 6, 7, 8, 9, 10, 11, 12, 13] [] 0 4 (wr := []) hx hb hml hown hts hKW hP hD hS hA hl.1 (c_X4_fits l g _ b nn v F j x3 (by first | assumption | omega | decide) (by first | assumption | omega | decide) (by first | assumption | omega | decide)) rfl rfl rfl wd_41_13 wd_1_14 wd_41_10 wd_41_11 wd_41_12 yd_X4_fits ⟨(Nat.le_of_ble_eq_true rfl), (Nat.le_of_ble_eq_true rfl)⟩ rfl rfl rfl rfl (by decide) rfl (Nat.le_of_ble_eq_true rfl) dX4_earliestMonth_28 ⟨(Nat.le_of_ble_eq_true rfl), (Nat.le_of_ble_eq_true rfl)⟩ (fun r_4 u_5 H locs hw_6 hP hD hS => ?_)
        have hP : va_P g.1 vwCl [(b 0, .inr (4, [.ref (b 1), .ref (b 5), .ref (b 8), .ref (b 17), .ref (b 21), .ref (b 25), .ref (b 27), .int (v 4), .int (v 5), .int (nI (nn 7)), .int (v 6)])), (b 1, .inr (8, [.int (nI (nn 0)), .ref (b 2), .ref (b 3), .ref (b 4)])), (b 2, .inl (gI g, 5, .inl (F 0))), (b 3, .inl (gI g, 5, .inl (F 1))), (b 4, .inl (gI g, 5, .inl (F 2))), (b 8, .inr (0, [.int (nI (nn 2)), .ref (b 9), .ref (b 10), .ref (b 11), .ref (b 12), .ref (b 13), .ref (b 14), .ref (b 15), .int (v 1), .int (v 2), .int (nI (nn 3)), .ref (b 16)])), (b 9, .inl (gI g, 10, .inl (F 5))), (b 10, .inl (gI g, 10, .inl (F 6))), (b 11, .inl (gI g, 10, .inl (F 7))), (b 12, .inl (gI g, 10, .inl (F 8))), (b 13, .inl (gI g, 10, .inl (F 9))), (b 14, .inl (gI g, 10, .inl (F 10))), (b 15, .inl (gI g, 10, .inl (F 11))), (b 16, .inl (gI g, 10, .inl (F 12)))] H := hP
        have hD : va_D A [(b 0, .inr (4, [.ref (b 1), .ref (b 5), .ref (b 8), .ref (b 17), .ref (b 21), .ref (b 25), .ref (b 27), .int (v 4), .int (v 5), .int (nI (nn 7)), .int (v 6)])), (b 1, .inr (8, [.int (nI (nn 0)), .ref (b 2), .ref (b 3), .ref (b 4)])), (b 2, .inl (gI g, 5, .inl (F 0))), (b 3, .inl (gI g, 5, .inl (F 1))), (b 4, .inl (gI g, 5, .inl (F 2))), (b 8, .inr (0, [.int (nI (nn 2)), .ref (b 9), .ref (b 10), .ref (b 11), .ref (b 12), .ref (b 13), .ref (b 14), .ref (b 15), .int (v 1), .int (v 2), .int (nI (nn 3)), .ref (b 16)])), (b 9, .inl (gI g, 10, .inl (F 5))), (b 10, .inl (gI g, 10, .inl (F 6))), (b 11, .inl (gI g, 10, .inl (F 7))), (b 12, .inl (gI g, 10, .inl (F 8))), (b 13, .inl (gI g, 10, .inl (F 9))), (b 14, .inl (gI g, 10, .inl (F 10))), (b 15, .inl (gI g, 10, .inl (F 11))), (b 16, .inl (gI g, 10, .inl (F 12)))] := hD
        rcases (show r_4 = 1 ∨ r_4 = 0 from hw_6) with rfl | rfl <;> clear hw_6
        · refine lv_if_ne (tgt := 36) hx hb dX4_earliestMonth_31 (by decide) (fun _ => ?_) (fun c => absurd c (by decide))
          refine lv_iload_n hx hb dX4_earliestMonth_36 rfl (lv_at hl 0 rfl) ?_
          refine lv_istore_n (lv' := [(2, .int x3), (3, .int x3), (0, .ref (b 0)), (1, .int (nI j))]) hx hb dX4_earliestMonth_37 rfl hl (by decide) rfl (fun ls hl => ?_)
          obtain ⟨x_7, ex_7⟩ : ∃ z : Int32, x3 + Int32.ofInt (-1) = z := ⟨_, rfl⟩
          refine lv_iinc (v := x_7) (lv' := [(3, .int x_7), (2, .int x3), (0, .ref (b 0)), (1, .int (nI j))]) hx hb dX4_earliestMonth_38 hl (k := 1) rfl ex_7 (by decide) rfl (fun ls hl => ?_)
          refine lv_goto (tgt := 12) hx hb dX4_earliestMonth_41 (by decide) ?_
          exact ih12 x_7 x3 (by have := k_dn ex_7 hx0; omega) (by have := k_dn ex_7 hx0; omega) (Or.inr ⟨hx0, h3.2⟩) H locs (hP.sub [0, 1, 2, 3, 4, 5, 6, 7, 8, 9, 10, 11, 12, 13] rfl) (hD.sub [0, 1, 2, 3, 4, 5, 6, 7, 8, 9, 10, 11, 12, 13] (by decide) rfl) hS ls (lv_sub hl [0, 1, 2, 3] rfl)
        · refine lv_if_ne (tgt := 36) hx hb dX4_earliestMonth_31 (by decide) (fun c => absurd c (by decide)) (fun _ => ?_)
          refine lv_iload_n hx hb dX4_earliestMonth_34 rfl (lv_at hl 1 rfl) ?_
          exact k_iret () [0, 1, 2, 3, 4, 5, 6, 7, 8, 9, 10, 11, 12, 13] hx hb hr hlk hP hD hS h2 rfl rfl rfl (Nat.le_of_ble_eq_true rfl) (Nat.le_of_ble_eq_true rfl) dX4_earliestMonth_35
  exact L12 ((Int32.toInt x_1 + 1).toNat + 1) x_1 (-1) (Nat.lt_succ_self _) (by rw [ex_1, nI_clamp (by omega)]; have := hq10 j hj; omega) (Or.inl rfl) H locs (hP.sub [0, 1, 2, 3, 4, 5, 6, 7, 8, 9, 10, 11, 12, 13] rfl) (hD.sub [0, 1, 2, 3, 4, 5, 6, 7, 8, 9, 10, 11, 12, 13] (by decide) rfl) hS ls (lv_sub hl [0, 1, 2, 3] rfl)
theorem dX4_goOut_0 : decode cX4_goOut 0 = .ok (.aload_n 0, 1) := by decide +kernel
theorem dX4_goOut_1 : decode cX4_goOut 1 = .ok (.getfield 28, 3) := by decide +kernel
theorem dX4_goOut_4 : decode cX4_goOut 4 = .ok (.getfield 90, 3) := by decide +kernel
theorem dX4_goOut_7 : decode cX4_goOut 7 = .ok (.iload_n 1, 1) := by decide +kernel
theorem dX4_goOut_8 : decode cX4_goOut 8 = .ok (.iconst (-1), 1) := by decide +kernel
theorem dX4_goOut_9 : decode cX4_goOut 9 = .ok (.iastore, 1) := by decide +kernel
theorem dX4_goOut_10 : decode cX4_goOut 10 = .ok (.aload_n 0, 1) := by decide +kernel
theorem dX4_goOut_11 : decode cX4_goOut 11 = .ok (.getfield 35, 3) := by decide +kernel
theorem dX4_goOut_14 : decode cX4_goOut 14 = .ok (.aload_n 0, 1) := by decide +kernel
theorem dX4_goOut_15 : decode cX4_goOut 15 = .ok (.getfield 93, 3) := by decide +kernel
theorem dX4_goOut_18 : decode cX4_goOut 18 = .ok (.iload_n 1, 1) := by decide +kernel
theorem dX4_goOut_19 : decode cX4_goOut 19 = .ok (.iconst 2, 1) := by decide +kernel
theorem dX4_goOut_20 : decode cX4_goOut 20 = .ok (.invokevirtual 96, 3) := by decide +kernel
theorem dX4_goOut_23 : decode cX4_goOut 23 = .ok (.aload_n 0, 1) := by decide +kernel
theorem dX4_goOut_24 : decode cX4_goOut 24 = .ok (.getfield 28, 3) := by decide +kernel
theorem dX4_goOut_27 : decode cX4_goOut 27 = .ok (.getfield 100, 3) := by decide +kernel
theorem dX4_goOut_30 : decode cX4_goOut 30 = .ok (.iload_n 1, 1) := by decide +kernel
theorem dX4_goOut_31 : decode cX4_goOut 31 = .ok (.invokestatic 103, 3) := by decide +kernel
theorem dX4_goOut_34 : decode cX4_goOut 34 = .ok (.ifCond .eq 34, 3) := by decide +kernel
theorem dX4_goOut_37 : decode cX4_goOut 37 = .ok (.aload_n 0, 1) := by decide +kernel
theorem dX4_goOut_38 : decode cX4_goOut 38 = .ok (.getfield 28, 3) := by decide +kernel
theorem dX4_goOut_41 : decode cX4_goOut 41 = .ok (.aload_n 0, 1) := by decide +kernel
theorem dX4_goOut_42 : decode cX4_goOut 42 = .ok (.getfield 28, 3) := by decide +kernel
theorem dX4_goOut_45 : decode cX4_goOut 45 = .ok (.getfield 100, 3) := by decide +kernel
theorem dX4_goOut_48 : decode cX4_goOut 48 = .ok (.iload_n 1, 1) := by decide +kernel
theorem dX4_goOut_49 : decode cX4_goOut 49 = .ok (.invokestatic 106, 3) := by decide +kernel
theorem dX4_goOut_52 : decode cX4_goOut 52 = .ok (.putfield 100, 3) := by decide +kernel
theorem dX4_goOut_55 : decode cX4_goOut 55 = .ok (.aload_n 0, 1) := by decide +kernel
theorem dX4_goOut_56 : decode cX4_goOut 56 = .ok (.getfield 39, 3) := by decide +kernel
theorem dX4_goOut_59 : decode cX4_goOut 59 = .ok (.aload_n 0, 1) := by decide +kernel
theorem dX4_goOut_60 : decode cX4_goOut 60 = .ok (.getfield 93, 3) := by decide +kernel
theorem dX4_goOut_63 : decode cX4_goOut 63 = .ok (.iload_n 1, 1) := by decide +kernel
theorem dX4_goOut_64 : decode cX4_goOut 64 = .ok (.iconst 5, 1) := by decide +kernel
theorem dX4_goOut_65 : decode cX4_goOut 65 = .ok (.invokevirtual 96, 3) := by decide +kernel
theorem dX4_goOut_68 : decode cX4_goOut 68 = .ok (.return_, 1) := by decide +kernel
set_option maxHeartbeats 8000000 in
set_option maxRecDepth 100000 in
theorem c_X4_goOut (l : Launch) (g : kG) (sz : Nat) (b : Nat → Nat) (nn : Nat → Nat) (v : Nat → Int32) (F : Nat → Nat → Int32) (j : Nat) (hj : j < 10) (hn4 : nn 4 ≤ 40) (hn5 : nn 5 ≤ 40) : kMv l g yX4_goOut cX4_goOut 2 none 3 0 0 [.ref (b 0), .int (nI j)] sz [(b 0, .inr (4, [.ref (b 1), .ref (b 5), .ref (b 8), .ref (b 17), .ref (b 21), .ref (b 25), .ref (b 27), .int (v 4), .int (v 5), .int (nI (nn 7)), .int (v 6)])), (b 8, .inr (0, [.int (nI (nn 2)), .ref (b 9), .ref (b 10), .ref (b 11), .ref (b 12), .ref (b 13), .ref (b 14), .ref (b 15), .int (v 1), .int (v 2), .int (nI (nn 3)), .ref (b 16)])), (b 9, .inl (gI g, 10, .inl (F 5))), (b 10, .inl (gI g, 10, .inl (F 6))), (b 11, .inl (gI g, 10, .inl (F 7))), (b 12, .inl (gI g, 10, .inl (F 8))), (b 13, .inl (gI g, 10, .inl (F 9))), (b 14, .inl (gI g, 10, .inl (F 10))), (b 15, .inl (gI g, 10, .inl (F 11))), (b 16, .inl (gI g, 10, .inl (F 12))), (b 17, .inr (3, [.int (nI (nn 4)), .ref (b 18), .ref (b 19), .ref (b 20)])), (b 18, .inl (gI g, 40, .inl (F 13))), (b 19, .inl (gI g, 40, .inl (F 14))), (b 20, .inl (gI g, 40, .inl (F 15))), (b 21, .inr (3, [.int (nI (nn 5)), .ref (b 22), .ref (b 23), .ref (b 24)])), (b 22, .inl (gI g, 40, .inl (F 16))), (b 23, .inl (gI g, 40, .inl (F 17))), (b 24, .inl (gI g, 40, .inl (F 18)))] (fun (u : Int32 × Nat × Nat × (Nat → Int32) × (Nat → Int32) × (Nat → Int32) × (Nat → Int32) × (Nat → Int32) × (Nat → Int32) × (Nat → Int32)) => u.2.1 ≤ 40 ∧ u.2.2.1 ≤ 40) (fun (u : Int32 × Nat × Nat × (Nat → Int32) × (Nat → Int32) × (Nat → Int32) × (Nat → Int32) × (Nat → Int32) × (Nat → Int32) × (Nat → Int32)) => ([(b 0, .inr (4, [.ref (b 1), .ref (b 5), .ref (b 8), .ref (b 17), .ref (b 21), .ref (b 25), .ref (b 27), .int (v 4), .int (v 5), .int (nI (nn 7)), .int (v 6)])), (b 8, .inr (0, [.int (nI (nn 2)), .ref (b 9), .ref (b 10), .ref (b 11), .ref (b 12), .ref (b 13), .ref (b 14), .ref (b 15), .int u.1, .int (v 2), .int (nI (nn 3)), .ref (b 16)])), (b 9, .inl (gI g, 10, .inl (F 5))), (b 10, .inl (gI g, 10, .inl (F 6))), (b 11, .inl (gI g, 10, .inl (F 7))), (b 12, .inl (gI g, 10, .inl (F 8))), (b 13, .inl (gI g, 10, .inl (F 9))), (b 14, .inl (gI g, 10, .inl u.2.2.2.1)), (b 15, .inl (gI g, 10, .inl (F 11))), (b 16, .inl (gI g, 10, .inl (F 12))), (b 17, .inr (3, [.int (nI u.2.1), .ref (b 18), .ref (b 19), .ref (b 20)])), (b 18, .inl (gI g, 40, .inl u.2.2.2.2.1)), (b 19, .inl (gI g, 40, .inl u.2.2.2.2.2.1)), (b 20, .inl (gI g, 40, .inl u.2.2.2.2.2.2.1)), (b 21, .inr (3, [.int (nI u.2.2.1), .ref (b 22), .ref (b 23), .ref (b 24)])), (b 22, .inl (gI g, 40, .inl u.2.2.2.2.2.2.2.1)), (b 23, .inl (gI g, 40, .inl u.2.2.2.2.2.2.2.2.1)), (b 24, .inl (gI g, 40, .inl u.2.2.2.2.2.2.2.2.2))] : va_W)) := by
  refine kMv.of (by decide) (Nat.le_of_ble_eq_true rfl) (fun p e s m below meth c A hx hb hr hml hown hts hlk hnm hKW hP hD hS hA ls hl => ?_)
  have hown : s.vm.findClass RX4 = some m.cls := hown
  have hl : lv_has ls 2 [(0, .ref (b 0)), (1, .int (nI j))] := hl
  refine k_hide hP hS (fun H locs hP hS => ?_)
  refine lv_aload_n hx hb dX4_goOut_0 rfl (lv_at hl 0 rfl) ?_
  refine va_get (ci := 4) (C := RX4) (T := TX4) (N := 11) hx hb hts inlX4 hown hKW.1 hP 0 rfl rfl 2 (by decide) (hts _ wd_3_2) (fun _ h => h) rfl dX4_goOut_1 ?_
  refine va_get (ci := 0) (C := RX0) (T := TX0) (N := 12) hx hb hts inlX0 hown hKW.1 hP 1 rfl rfl 6 (by decide) (hts _ wd_21_16) (fun _ h => h) rfl dX4_goOut_4 ?_
  refine lv_iload_n hx hb dX4_goOut_7 rfl (lv_at hl 1 rfl) ?_
  refine lv_iconst (v := (-1)) hx hb dX4_goOut_8 (by decide) ?_
  refine va_iast hx hb hKW.1 hP hD hS 7 0 rfl rfl (vp_in_nI (by omega) (by decide)) dX4_goOut_9 (fun H locs hP hD hS => ?_)
  have hP : va_P g.1 vwCl [(b 0, .inr (4, [.ref (b 1), .ref (b 5), .ref (b 8), .ref (b 17), .ref (b 21), .ref (b 25), .ref (b 27), .int (v 4), .int (v 5), .int (nI (nn 7)), .int (v 6)])), (b 8, .inr (0, [.int (nI (nn 2)), .ref (b 9), .ref (b 10), .ref (b 11), .ref (b 12), .ref (b 13), .ref (b 14), .ref (b 15), .int (v 1), .int (v 2), .int (nI (nn 3)), .ref (b 16)])), (b 9, .inl (gI g, 10, .inl (F 5))), (b 10, .inl (gI g, 10, .inl (F 6))), (b 11, .inl (gI g, 10, .inl (F 7))), (b 12, .inl (gI g, 10, .inl (F 8))), (b 13, .inl (gI g, 10, .inl (F 9))), (b 14, .inl (gI g, 10, .inl (upd (F 10) (nI j).toNatClampNeg (-1)))), (b 15, .inl (gI g, 10, .inl (F 11))), (b 16, .inl (gI g, 10, .inl (F 12))), (b 17, .inr (3, [.int (nI (nn 4)), .ref (b 18), .ref (b 19), .ref (b 20)])), (b 18, .inl (gI g, 40, .inl (F 13))), (b 19, .inl (gI g, 40, .inl (F 14))), (b 20, .inl (gI g, 40, .inl (F 15))), (b 21, .inr (3, [.int (nI (nn 5)), .ref (b 22), .ref (b 23), .ref (b 24)])), (b 22, .inl (gI g, 40, .inl (F 16))), (b 23, .inl (gI g, 40, .inl (F 17))), (b 24, .inl (gI g, 40, .inl (F 18)))] H := hP
  have hD : va_D A [(b 0, .inr (4, [.ref (b 1), .ref (b 5), .ref (b 8), .ref (b 17), .ref (b 21), .ref (b 25), .ref (b 27), .int (v 4), .int (v 5), .int (nI (nn 7)), .int (v 6)])), (b 8, .inr (0, [.int (nI (nn 2)), .ref (b 9), .ref (b 10), .ref (b 11), .ref (b 12), .ref (b 13), .ref (b 14), .ref (b 15), .int (v 1), .int (v 2), .int (nI (nn 3)), .ref (b 16)])), (b 9, .inl (gI g, 10, .inl (F 5))), (b 10, .inl (gI g, 10, .inl (F 6))), (b 11, .inl (gI g, 10, .inl (F 7))), (b 12, .inl (gI g, 10, .inl (F 8))), (b 13, .inl (gI g, 10, .inl (F 9))), (b 14, .inl (gI g, 10, .inl (upd (F 10) (nI j).toNatClampNeg (-1)))), (b 15, .inl (gI g, 10, .inl (F 11))), (b 16, .inl (gI g, 10, .inl (F 12))), (b 17, .inr (3, [.int (nI (nn 4)), .ref (b 18), .ref (b 19), .ref (b 20)])), (b 18, .inl (gI g, 40, .inl (F 13))), (b 19, .inl (gI g, 40, .inl (F 14))), (b 20, .inl (gI g, 40, .inl (F 15))), (b 21, .inr (3, [.int (nI (nn 5)), .ref (b 22), .ref (b 23), .ref (b 24)])), (b 22, .inl (gI g, 40, .inl (F 16))), (b 23, .inl (gI g, 40, .inl (F 17))), (b 24, .inl (gI g, 40, .inl (F 18)))] := hD
  obtain ⟨f_1, ef_1⟩ : ∃ zz_ : Nat → Int32, zz_ = upd (F 10) (nI j).toNatClampNeg (-1) := ⟨_, rfl⟩
  rw [← ef_1] at hP hD
  refine lv_aload_n hx hb dX4_goOut_10 rfl (lv_at hl 0 rfl) ?_
  refine va_get (ci := 4) (C := RX4) (T := TX4) (N := 11) hx hb hts inlX4 hown hKW.1 hP 0 rfl rfl 3 (by decide) (hts _ wd_3_6) (fun _ h => h) rfl dX4_goOut_11 ?_
  refine lv_aload_n hx hb dX4_goOut_14 rfl (lv_at hl 0 rfl) ?_
  refine va_get (ci := 4) (C := RX4) (T := TX4) (N := 11) hx hb hts inlX4 hown hKW.1 hP 0 rfl rfl 8 (by decide) (hts _ wd_8_13) (fun _ h => h) rfl dX4_goOut_15 ?_
  refine lv_iload_n hx hb dX4_goOut_18 rfl (lv_at hl 1 rfl) ?_
  refine lv_iconst (v := 2) hx hb dX4_goOut_19 (by decide) ?_
  refine k_Vv [10, 11, 12, 13] [0, 1, 2, 3, 4, 5, 6, 7, 8, 9, 14, 15, 16, 17] 10 3 (wr := [(b 0, .inr (4, [.ref (b 1), .ref (b 5), .ref (b 8), .ref (b 17), .ref (b 21), .ref (b 25), .ref (b 27), .int (v 4), .int (v 5), .int (nI (nn 7)), .int (v 6)])), (b 8, .inr (0, [.int (nI (nn 2)), .ref (b 9), .ref (b 10), .ref (b 11), .ref (b 12), .ref (b 13), .ref (b 14), .ref (b 15), .int (v 1), .int (v 2), .int (nI (nn 3)), .ref (b 16)])), (b 9, .inl (gI g, 10, .inl (F 5))), (b 10, .inl (gI g, 10, .inl (F 6))), (b 11, .inl (gI g, 10, .inl (F 7))), (b 12, .inl (gI g, 10, .inl (F 8))), (b 13, .inl (gI g, 10, .inl (F 9))), (b 14, .inl (gI g, 10, .inl f_1)), (b 15, .inl (gI g, 10, .inl (F 11))), (b 16, .inl (gI g, 10, .inl (F 12))), (b 21, .inr (3, [.int (nI (nn 5)), .ref (b 22), .ref (b 23), .ref (b 24)])), (b 22, .inl (gI g, 40, .inl (F 16))), (b 23, .inl (gI g, 40, .inl (F 17))), (b 24, .inl (gI g, 40, .inl (F 18)))]) hx hb hml hown hts hKW hP hD hS hA hl.1 (c_X3_lead l g _ (fun kk_ => ([(b 17), (b 18), (b 19), (b 20)] : List Nat).getD kk_ 0) (nn 4) (F 13) (F 14) (F 15) (v 5) (nI j) 2 (by first | assumption | omega | decide)) rfl rfl rfl wd_19_14 wd_3_5 wd_21_18 wd_19_12 wd_19_13 yd_X3_lead ⟨(Nat.le_of_ble_eq_true rfl), (Nat.le_of_ble_eq_true rfl)⟩ rfl rfl rfl rfl (by decide) rfl (Nat.le_of_ble_eq_true rfl) dX4_goOut_20 ⟨(Nat.le_of_ble_eq_true rfl), (Nat.le_of_ble_eq_true rfl)⟩ (fun u_3 H locs hw_4 hP hD hS => ?_)
  obtain ⟨q_5, f_6, f_7, f_8⟩ := u_3
  have hP : va_P g.1 vwCl [(b 0, .inr (4, [.ref (b 1), .ref (b 5), .ref (b 8), .ref (b 17), .ref (b 21), .ref (b 25), .ref (b 27), .int (v 4), .int (v 5), .int (nI (nn 7)), .int (v 6)])), (b 8, .inr (0, [.int (nI (nn 2)), .ref (b 9), .ref (b 10), .ref (b 11), .ref (b 12), .ref (b 13), .ref (b 14), .ref (b 15), .int (v 1), .int (v 2), .int (nI (nn 3)), .ref (b 16)])), (b 9, .inl (gI g, 10, .inl (F 5))), (b 10, .inl (gI g, 10, .inl (F 6))), (b 11, .inl (gI g, 10, .inl (F 7))), (b 12, .inl (gI g, 10, .inl (F 8))), (b 13, .inl (gI g, 10, .inl (F 9))), (b 14, .inl (gI g, 10, .inl f_1)), (b 15, .inl (gI g, 10, .inl (F 11))), (b 16, .inl (gI g, 10, .inl (F 12))), (b 21, .inr (3, [.int (nI (nn 5)), .ref (b 22), .ref (b 23), .ref (b 24)])), (b 22, .inl (gI g, 40, .inl (F 16))), (b 23, .inl (gI g, 40, .inl (F 17))), (b 24, .inl (gI g, 40, .inl (F 18))), (b 17, .inr (3, [.int (nI q_5), .ref (b 18), .ref (b 19), .ref (b 20)])), (b 18, .inl (gI g, 40, .inl f_6)), (b 19, .inl (gI g, 40, .inl f_7)), (b 20, .inl (gI g, 40, .inl f_8))] H := hP
  have hD : va_D A [(b 0, .inr (4, [.ref (b 1), .ref (b 5), .ref (b 8), .ref (b 17), .ref (b 21), .ref (b 25), .ref (b 27), .int (v 4), .int (v 5), .int (nI (nn 7)), .int (v 6)])), (b 8, .inr (0, [.int (nI (nn 2)), .ref (b 9), .ref (b 10), .ref (b 11), .ref (b 12), .ref (b 13), .ref (b 14), .ref (b 15), .int (v 1), .int (v 2), .int (nI (nn 3)), .ref (b 16)])), (b 9, .inl (gI g, 10, .inl (F 5))), (b 10, .inl (gI g, 10, .inl (F 6))), (b 11, .inl (gI g, 10, .inl (F 7))), (b 12, .inl (gI g, 10, .inl (F 8))), (b 13, .inl (gI g, 10, .inl (F 9))), (b 14, .inl (gI g, 10, .inl f_1)), (b 15, .inl (gI g, 10, .inl (F 11))), (b 16, .inl (gI g, 10, .inl (F 12))), (b 21, .inr (3, [.int (nI (nn 5)), .ref (b 22), .ref (b 23), .ref (b 24)])), (b 22, .inl (gI g, 40, .inl (F 16))), (b 23, .inl (gI g, 40, .inl (F 17))), (b 24, .inl (gI g, 40, .inl (F 18))), (b 17, .inr (3, [.int (nI q_5), .ref (b 18), .ref (b 19), .ref (b 20)])), (b 18, .inl (gI g, 40, .inl f_6)), (b 19, .inl (gI g, 40, .inl f_7)), (b 20, .inl (gI g, 40, .inl f_8))] := hD
  have hw_4 : q_5 ≤ 40 := hw_4
  have hc4 := hw_4
  refine lv_aload_n hx hb dX4_goOut_23 rfl (lv_at hl 0 rfl) ?_
  refine va_get (ci := 4) (C := RX4) (T := TX4) (N := 11) hx hb hts inlX4 hown hKW.1 hP 0 rfl rfl 2 (by decide) (hts _ wd_3_2) (fun _ h => h) rfl dX4_goOut_24 ?_
  refine va_get (ci := 0) (C := RX0) (T := TX0) (N := 12) hx hb hts inlX0 hown hKW.1 hP 1 rfl rfl 8 (by decide) (hts _ wd_21_17) (fun _ h => h) rfl dX4_goOut_27 ?_
  refine lv_iload_n hx hb dX4_goOut_30 rfl (lv_at hl 1 rfl) ?_
  refine k_SNi [] [0, 1, 2, 3, 4, 5, 6, 7, 8, 9, 10, 11, 12, 13, 14, 15, 16, 17] (wr := [(b 0, .inr (4, [.ref (b 1), .ref (b 5), .ref (b 8), .ref (b 17), .ref (b 21), .ref (b 25), .ref (b 27), .int (v 4), .int (v 5), .int (nI (nn 7)), .int (v 6)])), (b 8, .inr (0, [.int (nI (nn 2)), .ref (b 9), .ref (b 10), .ref (b 11), .ref (b 12), .ref (b 13), .ref (b 14), .ref (b 15), .int (v 1), .int (v 2), .int (nI (nn 3)), .ref (b 16)])), (b 9, .inl (gI g, 10, .inl (F 5))), (b 10, .inl (gI g, 10, .inl (F 6))), (b 11, .inl (gI g, 10, .inl (F 7))), (b 12, .inl (gI g, 10, .inl (F 8))), (b 13, .inl (gI g, 10, .inl (F 9))), (b 14, .inl (gI g, 10, .inl f_1)), (b 15, .inl (gI g, 10, .inl (F 11))), (b 16, .inl (gI g, 10, .inl (F 12))), (b 21, .inr (3, [.int (nI (nn 5)), .ref (b 22), .ref (b 23), .ref (b 24)])), (b 22, .inl (gI g, 40, .inl (F 16))), (b 23, .inl (gI g, 40, .inl (F 17))), (b 24, .inl (gI g, 40, .inl (F 18))), (b 17, .inr (3, [.int (nI q_5), .ref (b 18), .ref (b 19), .ref (b 20)])), (b 18, .inl (gI g, 40, .inl f_6)), (b 19, .inl (gI g, 40, .inl f_7)), (b 20, .inl (gI g, 40, .inl f_8))]) hx hb hml hown hts hKW hP hD hS hA hl.1 (c_X11_hasBit l g _ (v 1) (nI j) ) wd_14_11 wd_1_2 nw_15 wd_14_10 yd_X11_hasBit ⟨(Nat.le_of_ble_eq_true rfl), (Nat.le_of_ble_eq_true rfl)⟩ rfl rfl rfl rfl (by decide) rfl (Nat.le_of_ble_eq_true rfl) dX4_goOut_31 ⟨(Nat.le_of_ble_eq_true rfl), (Nat.le_of_ble_eq_true rfl)⟩ (fun r_9 u_10 H locs hw_11 hP hD hS => ?_)
  have hP : va_P g.1 vwCl [(b 0, .inr (4, [.ref (b 1), .ref (b 5), .ref (b 8), .ref (b 17), .ref (b 21), .ref (b 25), .ref (b 27), .int (v 4), .int (v 5), .int (nI (nn 7)), .int (v 6)])), (b 8, .inr (0, [.int (nI (nn 2)), .ref (b 9), .ref (b 10), .ref (b 11), .ref (b 12), .ref (b 13), .ref (b 14), .ref (b 15), .int (v 1), .int (v 2), .int (nI (nn 3)), .ref (b 16)])), (b 9, .inl (gI g, 10, .inl (F 5))), (b 10, .inl (gI g, 10, .inl (F 6))), (b 11, .inl (gI g, 10, .inl (F 7))), (b 12, .inl (gI g, 10, .inl (F 8))), (b 13, .inl (gI g, 10, .inl (F 9))), (b 14, .inl (gI g, 10, .inl f_1)), (b 15, .inl (gI g, 10, .inl (F 11))), (b 16, .inl (gI g, 10, .inl (F 12))), (b 21, .inr (3, [.int (nI (nn 5)), .ref (b 22), .ref (b 23), .ref (b 24)])), (b 22, .inl (gI g, 40, .inl (F 16))), (b 23, .inl (gI g, 40, .inl (F 17))), (b 24, .inl (gI g, 40, .inl (F 18))), (b 17, .inr (3, [.int (nI q_5), .ref (b 18), .ref (b 19), .ref (b 20)])), (b 18, .inl (gI g, 40, .inl f_6)), (b 19, .inl (gI g, 40, .inl f_7)), (b 20, .inl (gI g, 40, .inl f_8))] H := hP
  have hD : va_D A [(b 0, .inr (4, [.ref (b 1), .ref (b 5), .ref (b 8), .ref (b 17), .ref (b 21), .ref (b 25), .ref (b 27), .int (v 4), .int (v 5), .int (nI (nn 7)), .int (v 6)])), (b 8, .inr (0, [.int (nI (nn 2)), .ref (b 9), .ref (b 10), .ref (b 11), .ref (b 12), .ref (b 13), .ref (b 14), .ref (b 15), .int (v 1), .int (v 2), .int (nI (nn 3)), .ref (b 16)])), (b 9, .inl (gI g, 10, .inl (F 5))), (b 10, .inl (gI g, 10, .inl (F 6))), (b 11, .inl (gI g, 10, .inl (F 7))), (b 12, .inl (gI g, 10, .inl (F 8))), (b 13, .inl (gI g, 10, .inl (F 9))), (b 14, .inl (gI g, 10, .inl f_1)), (b 15, .inl (gI g, 10, .inl (F 11))), (b 16, .inl (gI g, 10, .inl (F 12))), (b 21, .inr (3, [.int (nI (nn 5)), .ref (b 22), .ref (b 23), .ref (b 24)])), (b 22, .inl (gI g, 40, .inl (F 16))), (b 23, .inl (gI g, 40, .inl (F 17))), (b 24, .inl (gI g, 40, .inl (F 18))), (b 17, .inr (3, [.int (nI q_5), .ref (b 18), .ref (b 19), .ref (b 20)])), (b 18, .inl (gI g, 40, .inl f_6)), (b 19, .inl (gI g, 40, .inl f_7)), (b 20, .inl (gI g, 40, .inl f_8))] := hD
  rcases (show r_9 = 1 ∨ r_9 = 0 from hw_11) with rfl | rfl <;> clear hw_11
  · refine lv_if_eq (tgt := 68) hx hb dX4_goOut_34 (by decide) (fun c => absurd c (by decide)) (fun _ => ?_)
    refine lv_aload_n hx hb dX4_goOut_37 rfl (lv_at hl 0 rfl) ?_
    refine va_get (ci := 4) (C := RX4) (T := TX4) (N := 11) hx hb hts inlX4 hown hKW.1 hP 0 rfl rfl 2 (by decide) (hts _ wd_3_2) (fun _ h => h) rfl dX4_goOut_38 ?_
    refine lv_aload_n hx hb dX4_goOut_41 rfl (lv_at hl 0 rfl) ?_
    refine va_get (ci := 4) (C := RX4) (T := TX4) (N := 11) hx hb hts inlX4 hown hKW.1 hP 0 rfl rfl 2 (by decide) (hts _ wd_3_2) (fun _ h => h) rfl dX4_goOut_42 ?_
    refine va_get (ci := 0) (C := RX0) (T := TX0) (N := 12) hx hb hts inlX0 hown hKW.1 hP 1 rfl rfl 8 (by decide) (hts _ wd_21_17) (fun _ h => h) rfl dX4_goOut_45 ?_
    refine lv_iload_n hx hb dX4_goOut_48 rfl (lv_at hl 1 rfl) ?_
    refine k_SNi [] [0, 1, 2, 3, 4, 5, 6, 7, 8, 9, 10, 11, 12, 13, 14, 15, 16, 17] (wr := [(b 0, .inr (4, [.ref (b 1), .ref (b 5), .ref (b 8), .ref (b 17), .ref (b 21), .ref (b 25), .ref (b 27), .int (v 4), .int (v 5), .int (nI (nn 7)), .int (v 6)])), (b 8, .inr (0, [.int (nI (nn 2)), .ref (b 9), .ref (b 10), .ref (b 11), .ref (b 12), .ref (b 13), .ref (b 14), .ref (b 15), .int (v 1), .int (v 2), .int (nI (nn 3)), .ref (b 16)])), (b 9, .inl (gI g, 10, .inl (F 5))), (b 10, .inl (gI g, 10, .inl (F 6))), (b 11, .inl (gI g, 10, .inl (F 7))), (b 12, .inl (gI g, 10, .inl (F 8))), (b 13, .inl (gI g, 10, .inl (F 9))), (b 14, .inl (gI g, 10, .inl f_1)), (b 15, .inl (gI g, 10, .inl (F 11))), (b 16, .inl (gI g, 10, .inl (F 12))), (b 21, .inr (3, [.int (nI (nn 5)), .ref (b 22), .ref (b 23), .ref (b 24)])), (b 22, .inl (gI g, 40, .inl (F 16))), (b 23, .inl (gI g, 40, .inl (F 17))), (b 24, .inl (gI g, 40, .inl (F 18))), (b 17, .inr (3, [.int (nI q_5), .ref (b 18), .ref (b 19), .ref (b 20)])), (b 18, .inl (gI g, 40, .inl f_6)), (b 19, .inl (gI g, 40, .inl f_7)), (b 20, .inl (gI g, 40, .inl f_8))]) hx hb hml hown hts hKW hP hD hS hA hl.1 (c_X11_without l g _ (v 1) (nI j) ) wd_11_13 wd_1_2 nw_16 wd_11_12 yd_X11_without ⟨(Nat.le_of_ble_eq_true rfl), (Nat.le_of_ble_eq_true rfl)⟩ rfl rfl rfl rfl (by decide) rfl (Nat.le_of_ble_eq_true rfl) dX4_goOut_49 ⟨(Nat.le_of_ble_eq_true rfl), (Nat.le_of_ble_eq_true rfl)⟩ (fun r_12 u_13 H locs hw_14 hP hD hS => ?_)
    have hP : va_P g.1 vwCl [(b 0, .inr (4, [.ref (b 1), .ref (b 5), .ref (b 8), .ref (b 17), .ref (b 21), .ref (b 25), .ref (b 27), .int (v 4), .int (v 5), .int (nI (nn 7)), .int (v 6)])), (b 8, .inr (0, [.int (nI (nn 2)), .ref (b 9), .ref (b 10), .ref (b 11), .ref (b 12), .ref (b 13), .ref (b 14), .ref (b 15), .int (v 1), .int (v 2), .int (nI (nn 3)), .ref (b 16)])), (b 9, .inl (gI g, 10, .inl (F 5))), (b 10, .inl (gI g, 10, .inl (F 6))), (b 11, .inl (gI g, 10, .inl (F 7))), (b 12, .inl (gI g, 10, .inl (F 8))), (b 13, .inl (gI g, 10, .inl (F 9))), (b 14, .inl (gI g, 10, .inl f_1)), (b 15, .inl (gI g, 10, .inl (F 11))), (b 16, .inl (gI g, 10, .inl (F 12))), (b 21, .inr (3, [.int (nI (nn 5)), .ref (b 22), .ref (b 23), .ref (b 24)])), (b 22, .inl (gI g, 40, .inl (F 16))), (b 23, .inl (gI g, 40, .inl (F 17))), (b 24, .inl (gI g, 40, .inl (F 18))), (b 17, .inr (3, [.int (nI q_5), .ref (b 18), .ref (b 19), .ref (b 20)])), (b 18, .inl (gI g, 40, .inl f_6)), (b 19, .inl (gI g, 40, .inl f_7)), (b 20, .inl (gI g, 40, .inl f_8))] H := hP
    have hD : va_D A [(b 0, .inr (4, [.ref (b 1), .ref (b 5), .ref (b 8), .ref (b 17), .ref (b 21), .ref (b 25), .ref (b 27), .int (v 4), .int (v 5), .int (nI (nn 7)), .int (v 6)])), (b 8, .inr (0, [.int (nI (nn 2)), .ref (b 9), .ref (b 10), .ref (b 11), .ref (b 12), .ref (b 13), .ref (b 14), .ref (b 15), .int (v 1), .int (v 2), .int (nI (nn 3)), .ref (b 16)])), (b 9, .inl (gI g, 10, .inl (F 5))), (b 10, .inl (gI g, 10, .inl (F 6))), (b 11, .inl (gI g, 10, .inl (F 7))), (b 12, .inl (gI g, 10, .inl (F 8))), (b 13, .inl (gI g, 10, .inl (F 9))), (b 14, .inl (gI g, 10, .inl f_1)), (b 15, .inl (gI g, 10, .inl (F 11))), (b 16, .inl (gI g, 10, .inl (F 12))), (b 21, .inr (3, [.int (nI (nn 5)), .ref (b 22), .ref (b 23), .ref (b 24)])), (b 22, .inl (gI g, 40, .inl (F 16))), (b 23, .inl (gI g, 40, .inl (F 17))), (b 24, .inl (gI g, 40, .inl (F 18))), (b 17, .inr (3, [.int (nI q_5), .ref (b 18), .ref (b 19), .ref (b 20)])), (b 18, .inl (gI g, 40, .inl f_6)), (b 19, .inl (gI g, 40, .inl f_7)), (b 20, .inl (gI g, 40, .inl f_8))] := hD
    refine va_put (ci := 0) (v := .int r_12) (C := RX0) (T := TX0) (N := 12) hx hb hts inlX0 tyX0 tyX0_ok nmX0 hown hKW.1 hP hD hS 1 rfl rfl 8 (by decide) (hts _ wd_21_17) (fun _ h => h) rfl (tyX0_ok 8 (by decide)) rfl rfl (Nat.le_of_ble_eq_true rfl) dX4_goOut_52 (fun H locs hP hD hS => ?_)
    have hP : va_P g.1 vwCl [(b 0, .inr (4, [.ref (b 1), .ref (b 5), .ref (b 8), .ref (b 17), .ref (b 21), .ref (b 25), .ref (b 27), .int (v 4), .int (v 5), .int (nI (nn 7)), .int (v 6)])), (b 8, .inr (0, [.int (nI (nn 2)), .ref (b 9), .ref (b 10), .ref (b 11), .ref (b 12), .ref (b 13), .ref (b 14), .ref (b 15), .int r_12, .int (v 2), .int (nI (nn 3)), .ref (b 16)])), (b 9, .inl (gI g, 10, .inl (F 5))), (b 10, .inl (gI g, 10, .inl (F 6))), (b 11, .inl (gI g, 10, .inl (F 7))), (b 12, .inl (gI g, 10, .inl (F 8))), (b 13, .inl (gI g, 10, .inl (F 9))), (b 14, .inl (gI g, 10, .inl f_1)), (b 15, .inl (gI g, 10, .inl (F 11))), (b 16, .inl (gI g, 10, .inl (F 12))), (b 21, .inr (3, [.int (nI (nn 5)), .ref (b 22), .ref (b 23), .ref (b 24)])), (b 22, .inl (gI g, 40, .inl (F 16))), (b 23, .inl (gI g, 40, .inl (F 17))), (b 24, .inl (gI g, 40, .inl (F 18))), (b 17, .inr (3, [.int (nI q_5), .ref (b 18), .ref (b 19), .ref (b 20)])), (b 18, .inl (gI g, 40, .inl f_6)), (b 19, .inl (gI g, 40, .inl f_7)), (b 20, .inl (gI g, 40, .inl f_8))] H := hP
    have hD : va_D A [(b 0, .inr (4, [.ref (b 1), .ref (b 5), .ref (b 8), .ref (b 17), .ref (b 21), .ref (b 25), .ref (b 27), .int (v 4), .int (v 5), .int (nI (nn 7)), .int (v 6)])), (b 8, .inr (0, [.int (nI (nn 2)), .ref (b 9), .ref (b 10), .ref (b 11), .ref (b 12), .ref (b 13), .ref (b 14), .ref (b 15), .int r_12, .int (v 2), .int (nI (nn 3)), .ref (b 16)])), (b 9, .inl (gI g, 10, .inl (F 5))), (b 10, .inl (gI g, 10, .inl (F 6))), (b 11, .inl (gI g, 10, .inl (F 7))), (b 12, .inl (gI g, 10, .inl (F 8))), (b 13, .inl (gI g, 10, .inl (F 9))), (b 14, .inl (gI g, 10, .inl f_1)), (b 15, .inl (gI g, 10, .inl (F 11))), (b 16, .inl (gI g, 10, .inl (F 12))), (b 21, .inr (3, [.int (nI (nn 5)), .ref (b 22), .ref (b 23), .ref (b 24)])), (b 22, .inl (gI g, 40, .inl (F 16))), (b 23, .inl (gI g, 40, .inl (F 17))), (b 24, .inl (gI g, 40, .inl (F 18))), (b 17, .inr (3, [.int (nI q_5), .ref (b 18), .ref (b 19), .ref (b 20)])), (b 18, .inl (gI g, 40, .inl f_6)), (b 19, .inl (gI g, 40, .inl f_7)), (b 20, .inl (gI g, 40, .inl f_8))] := hD
    refine lv_aload_n hx hb dX4_goOut_55 rfl (lv_at hl 0 rfl) ?_
    refine va_get (ci := 4) (C := RX4) (T := TX4) (N := 11) hx hb hts inlX4 hown hKW.1 hP 0 rfl rfl 4 (by decide) (hts _ wd_3_7) (fun _ h => h) rfl dX4_goOut_56 ?_
    refine lv_aload_n hx hb dX4_goOut_59 rfl (lv_at hl 0 rfl) ?_
    refine va_get (ci := 4) (C := RX4) (T := TX4) (N := 11) hx hb hts inlX4 hown hKW.1 hP 0 rfl rfl 8 (by decide) (hts _ wd_8_13) (fun _ h => h) rfl dX4_goOut_60 ?_
    refine lv_iload_n hx hb dX4_goOut_63 rfl (lv_at hl 1 rfl) ?_
    refine lv_iconst (v := 5) hx hb dX4_goOut_64 (by decide) ?_
    refine k_Vv [10, 11, 12, 13] [0, 1, 2, 3, 4, 5, 6, 7, 8, 9, 14, 15, 16, 17] 10 3 (wr := [(b 0, .inr (4, [.ref (b 1), .ref (b 5), .ref (b 8), .ref (b 17), .ref (b 21), .ref (b 25), .ref (b 27), .int (v 4), .int (v 5), .int (nI (nn 7)), .int (v 6)])), (b 8, .inr (0, [.int (nI (nn 2)), .ref (b 9), .ref (b 10), .ref (b 11), .ref (b 12), .ref (b 13), .ref (b 14), .ref (b 15), .int r_12, .int (v 2), .int (nI (nn 3)), .ref (b 16)])), (b 9, .inl (gI g, 10, .inl (F 5))), (b 10, .inl (gI g, 10, .inl (F 6))), (b 11, .inl (gI g, 10, .inl (F 7))), (b 12, .inl (gI g, 10, .inl (F 8))), (b 13, .inl (gI g, 10, .inl (F 9))), (b 14, .inl (gI g, 10, .inl f_1)), (b 15, .inl (gI g, 10, .inl (F 11))), (b 16, .inl (gI g, 10, .inl (F 12))), (b 17, .inr (3, [.int (nI q_5), .ref (b 18), .ref (b 19), .ref (b 20)])), (b 18, .inl (gI g, 40, .inl f_6)), (b 19, .inl (gI g, 40, .inl f_7)), (b 20, .inl (gI g, 40, .inl f_8))]) hx hb hml hown hts hKW hP hD hS hA hl.1 (c_X3_lead l g _ (fun kk_ => ([(b 21), (b 22), (b 23), (b 24)] : List Nat).getD kk_ 0) (nn 5) (F 16) (F 17) (F 18) (v 5) (nI j) 5 (by first | assumption | omega | decide)) rfl rfl rfl wd_19_14 wd_3_5 wd_21_18 wd_19_12 wd_19_13 yd_X3_lead ⟨(Nat.le_of_ble_eq_true rfl), (Nat.le_of_ble_eq_true rfl)⟩ rfl rfl rfl rfl (by decide) rfl (Nat.le_of_ble_eq_true rfl) dX4_goOut_65 ⟨(Nat.le_of_ble_eq_true rfl), (Nat.le_of_ble_eq_true rfl)⟩ (fun u_16 H locs hw_17 hP hD hS => ?_)
    obtain ⟨q_18, f_19, f_20, f_21⟩ := u_16
    have hP : va_P g.1 vwCl [(b 0, .inr (4, [.ref (b 1), .ref (b 5), .ref (b 8), .ref (b 17), .ref (b 21), .ref (b 25), .ref (b 27), .int (v 4), .int (v 5), .int (nI (nn 7)), .int (v 6)])), (b 8, .inr (0, [.int (nI (nn 2)), .ref (b 9), .ref (b 10), .ref (b 11), .ref (b 12), .ref (b 13), .ref (b 14), .ref (b 15), .int r_12, .int (v 2), .int (nI (nn 3)), .ref (b 16)])), (b 9, .inl (gI g, 10, .inl (F 5))), (b 10, .inl (gI g, 10, .inl (F 6))), (b 11, .inl (gI g, 10, .inl (F 7))), (b 12, .inl (gI g, 10, .inl (F 8))), (b 13, .inl (gI g, 10, .inl (F 9))), (b 14, .inl (gI g, 10, .inl f_1)), (b 15, .inl (gI g, 10, .inl (F 11))), (b 16, .inl (gI g, 10, .inl (F 12))), (b 17, .inr (3, [.int (nI q_5), .ref (b 18), .ref (b 19), .ref (b 20)])), (b 18, .inl (gI g, 40, .inl f_6)), (b 19, .inl (gI g, 40, .inl f_7)), (b 20, .inl (gI g, 40, .inl f_8)), (b 21, .inr (3, [.int (nI q_18), .ref (b 22), .ref (b 23), .ref (b 24)])), (b 22, .inl (gI g, 40, .inl f_19)), (b 23, .inl (gI g, 40, .inl f_20)), (b 24, .inl (gI g, 40, .inl f_21))] H := hP
    have hD : va_D A [(b 0, .inr (4, [.ref (b 1), .ref (b 5), .ref (b 8), .ref (b 17), .ref (b 21), .ref (b 25), .ref (b 27), .int (v 4), .int (v 5), .int (nI (nn 7)), .int (v 6)])), (b 8, .inr (0, [.int (nI (nn 2)), .ref (b 9), .ref (b 10), .ref (b 11), .ref (b 12), .ref (b 13), .ref (b 14), .ref (b 15), .int r_12, .int (v 2), .int (nI (nn 3)), .ref (b 16)])), (b 9, .inl (gI g, 10, .inl (F 5))), (b 10, .inl (gI g, 10, .inl (F 6))), (b 11, .inl (gI g, 10, .inl (F 7))), (b 12, .inl (gI g, 10, .inl (F 8))), (b 13, .inl (gI g, 10, .inl (F 9))), (b 14, .inl (gI g, 10, .inl f_1)), (b 15, .inl (gI g, 10, .inl (F 11))), (b 16, .inl (gI g, 10, .inl (F 12))), (b 17, .inr (3, [.int (nI q_5), .ref (b 18), .ref (b 19), .ref (b 20)])), (b 18, .inl (gI g, 40, .inl f_6)), (b 19, .inl (gI g, 40, .inl f_7)), (b 20, .inl (gI g, 40, .inl f_8)), (b 21, .inr (3, [.int (nI q_18), .ref (b 22), .ref (b 23), .ref (b 24)])), (b 22, .inl (gI g, 40, .inl f_19)), (b 23, .inl (gI g, 40, .inl f_20)), (b 24, .inl (gI g, 40, .inl f_21))] := hD
    have hw_17 : q_18 ≤ 40 := hw_17
    have hc5 := hw_17
    exact k_vret (r_12, q_5, q_18, f_1, f_6, f_7, f_8, f_19, f_20, f_21) [0, 1, 2, 3, 4, 5, 6, 7, 8, 9, 10, 11, 12, 13, 14, 15, 16, 17] hx hb hr hlk hP hD hS (⟨by omega, by omega⟩) rfl rfl rfl (Nat.le_of_ble_eq_true rfl) (Nat.le_of_ble_eq_true rfl) dX4_goOut_68
  · refine lv_if_eq (tgt := 68) hx hb dX4_goOut_34 (by decide) (fun _ => ?_) (fun c => absurd c (by decide))
    exact k_vret ((v 1), q_5, (nn 5), f_1, f_6, f_7, f_8, (F 16), (F 17), (F 18)) [0, 1, 2, 3, 4, 5, 6, 7, 8, 9, 14, 15, 16, 17, 10, 11, 12, 13] hx hb hr hlk hP hD hS (⟨by omega, by omega⟩) rfl rfl rfl (Nat.le_of_ble_eq_true rfl) (Nat.le_of_ble_eq_true rfl) dX4_goOut_68
theorem dX4_beginDay_0 : decode cX4_beginDay 0 = .ok (.aload_n 0, 1) := by decide +kernel
theorem dX4_beginDay_1 : decode cX4_beginDay 1 = .ok (.iconst 0, 1) := by decide +kernel
theorem dX4_beginDay_2 : decode cX4_beginDay 2 = .ok (.putfield 93, 3) := by decide +kernel
theorem dX4_beginDay_5 : decode cX4_beginDay 5 = .ok (.aload_n 0, 1) := by decide +kernel
theorem dX4_beginDay_6 : decode cX4_beginDay 6 = .ok (.getfield 28, 3) := by decide +kernel
theorem dX4_beginDay_9 : decode cX4_beginDay 9 = .ok (.invokevirtual 110, 3) := by decide +kernel
theorem dX4_beginDay_12 : decode cX4_beginDay 12 = .ok (.aload_n 0, 1) := by decide +kernel
theorem dX4_beginDay_13 : decode cX4_beginDay 13 = .ok (.getfield 21, 3) := by decide +kernel
theorem dX4_beginDay_16 : decode cX4_beginDay 16 = .ok (.iconst 0, 1) := by decide +kernel
theorem dX4_beginDay_17 : decode cX4_beginDay 17 = .ok (.putfield 113, 3) := by decide +kernel
theorem dX4_beginDay_20 : decode cX4_beginDay 20 = .ok (.aload_n 0, 1) := by decide +kernel
theorem dX4_beginDay_21 : decode cX4_beginDay 21 = .ok (.getfield 35, 3) := by decide +kernel
theorem dX4_beginDay_24 : decode cX4_beginDay 24 = .ok (.iconst 0, 1) := by decide +kernel
theorem dX4_beginDay_25 : decode cX4_beginDay 25 = .ok (.putfield 116, 3) := by decide +kernel
theorem dX4_beginDay_28 : decode cX4_beginDay 28 = .ok (.aload_n 0, 1) := by decide +kernel
theorem dX4_beginDay_29 : decode cX4_beginDay 29 = .ok (.getfield 39, 3) := by decide +kernel
theorem dX4_beginDay_32 : decode cX4_beginDay 32 = .ok (.iconst 0, 1) := by decide +kernel
theorem dX4_beginDay_33 : decode cX4_beginDay 33 = .ok (.putfield 116, 3) := by decide +kernel
theorem dX4_beginDay_36 : decode cX4_beginDay 36 = .ok (.return_, 1) := by decide +kernel
set_option maxHeartbeats 8000000 in
set_option maxRecDepth 100000 in
theorem c_X4_beginDay (l : Launch) (g : kG) (sz : Nat) (b : Nat → Nat) (nn : Nat → Nat) (v : Nat → Int32) (F : Nat → Nat → Int32) (hn2 : nn 2 ≤ 10) : kMv l g yX4_beginDay cX4_beginDay 1 none 2 0 0 [.ref (b 0)] sz [(b 0, .inr (4, [.ref (b 1), .ref (b 5), .ref (b 8), .ref (b 17), .ref (b 21), .ref (b 25), .ref (b 27), .int (v 4), .int (v 5), .int (nI (nn 7)), .int (v 6)])), (b 5, .inr (1, [.int (nI (nn 1)), .ref (b 6), .ref (b 7), .int (v 0)])), (b 8, .inr (0, [.int (nI (nn 2)), .ref (b 9), .ref (b 10), .ref (b 11), .ref (b 12), .ref (b 13), .ref (b 14), .ref (b 15), .int (v 1), .int (v 2), .int (nI (nn 3)), .ref (b 16)])), (b 9, .inl (gI g, 10, .inl (F 5))), (b 10, .inl (gI g, 10, .inl (F 6))), (b 11, .inl (gI g, 10, .inl (F 7))), (b 12, .inl (gI g, 10, .inl (F 8))), (b 13, .inl (gI g, 10, .inl (F 9))), (b 14, .inl (gI g, 10, .inl (F 10))), (b 15, .inl (gI g, 10, .inl (F 11))), (b 16, .inl (gI g, 10, .inl (F 12))), (b 17, .inr (3, [.int (nI (nn 4)), .ref (b 18), .ref (b 19), .ref (b 20)])), (b 21, .inr (3, [.int (nI (nn 5)), .ref (b 22), .ref (b 23), .ref (b 24)]))] (fun (u : (Nat → Int32)) => True) (fun (u : (Nat → Int32)) => ([(b 0, .inr (4, [.ref (b 1), .ref (b 5), .ref (b 8), .ref (b 17), .ref (b 21), .ref (b 25), .ref (b 27), .int (v 4), .int 0, .int (nI (nn 7)), .int (v 6)])), (b 5, .inr (1, [.int (nI (nn 1)), .ref (b 6), .ref (b 7), .int 0])), (b 8, .inr (0, [.int (nI (nn 2)), .ref (b 9), .ref (b 10), .ref (b 11), .ref (b 12), .ref (b 13), .ref (b 14), .ref (b 15), .int 0, .int (v 2), .int (nI (nn 3)), .ref (b 16)])), (b 9, .inl (gI g, 10, .inl (F 5))), (b 10, .inl (gI g, 10, .inl (F 6))), (b 11, .inl (gI g, 10, .inl (F 7))), (b 12, .inl (gI g, 10, .inl (F 8))), (b 13, .inl (gI g, 10, .inl (F 9))), (b 14, .inl (gI g, 10, .inl u)), (b 15, .inl (gI g, 10, .inl (F 11))), (b 16, .inl (gI g, 10, .inl (F 12))), (b 17, .inr (3, [.int 0, .ref (b 18), .ref (b 19), .ref (b 20)])), (b 21, .inr (3, [.int 0, .ref (b 22), .ref (b 23), .ref (b 24)]))] : va_W)) := by
  refine kMv.of (by decide) (Nat.le_of_ble_eq_true rfl) (fun p e s m below meth c A hx hb hr hml hown hts hlk hnm hKW hP hD hS hA ls hl => ?_)
  have hown : s.vm.findClass RX4 = some m.cls := hown
  have hl : lv_has ls 1 [(0, .ref (b 0))] := hl
  refine k_hide hP hS (fun H locs hP hS => ?_)
  refine lv_aload_n hx hb dX4_beginDay_0 rfl (lv_at hl 0 rfl) ?_
  refine lv_iconst (v := 0) hx hb dX4_beginDay_1 (by decide) ?_
  refine va_put (ci := 4) (v := .int 0) (C := RX4) (T := TX4) (N := 11) hx hb hts inlX4 tyX4 tyX4_ok nmX4 hown hKW.1 hP hD hS 0 rfl rfl 8 (by decide) (hts _ wd_8_13) (fun _ h => h) rfl (tyX4_ok 8 (by decide)) rfl rfl (Nat.le_of_ble_eq_true rfl) dX4_beginDay_2 (fun H locs hP hD hS => ?_)
  have hP : va_P g.1 vwCl [(b 0, .inr (4, [.ref (b 1), .ref (b 5), .ref (b 8), .ref (b 17), .ref (b 21), .ref (b 25), .ref (b 27), .int (v 4), .int 0, .int (nI (nn 7)), .int (v 6)])), (b 5, .inr (1, [.int (nI (nn 1)), .ref (b 6), .ref (b 7), .int (v 0)])), (b 8, .inr (0, [.int (nI (nn 2)), .ref (b 9), .ref (b 10), .ref (b 11), .ref (b 12), .ref (b 13), .ref (b 14), .ref (b 15), .int (v 1), .int (v 2), .int (nI (nn 3)), .ref (b 16)])), (b 9, .inl (gI g, 10, .inl (F 5))), (b 10, .inl (gI g, 10, .inl (F 6))), (b 11, .inl (gI g, 10, .inl (F 7))), (b 12, .inl (gI g, 10, .inl (F 8))), (b 13, .inl (gI g, 10, .inl (F 9))), (b 14, .inl (gI g, 10, .inl (F 10))), (b 15, .inl (gI g, 10, .inl (F 11))), (b 16, .inl (gI g, 10, .inl (F 12))), (b 17, .inr (3, [.int (nI (nn 4)), .ref (b 18), .ref (b 19), .ref (b 20)])), (b 21, .inr (3, [.int (nI (nn 5)), .ref (b 22), .ref (b 23), .ref (b 24)]))] H := hP
  have hD : va_D A [(b 0, .inr (4, [.ref (b 1), .ref (b 5), .ref (b 8), .ref (b 17), .ref (b 21), .ref (b 25), .ref (b 27), .int (v 4), .int 0, .int (nI (nn 7)), .int (v 6)])), (b 5, .inr (1, [.int (nI (nn 1)), .ref (b 6), .ref (b 7), .int (v 0)])), (b 8, .inr (0, [.int (nI (nn 2)), .ref (b 9), .ref (b 10), .ref (b 11), .ref (b 12), .ref (b 13), .ref (b 14), .ref (b 15), .int (v 1), .int (v 2), .int (nI (nn 3)), .ref (b 16)])), (b 9, .inl (gI g, 10, .inl (F 5))), (b 10, .inl (gI g, 10, .inl (F 6))), (b 11, .inl (gI g, 10, .inl (F 7))), (b 12, .inl (gI g, 10, .inl (F 8))), (b 13, .inl (gI g, 10, .inl (F 9))), (b 14, .inl (gI g, 10, .inl (F 10))), (b 15, .inl (gI g, 10, .inl (F 11))), (b 16, .inl (gI g, 10, .inl (F 12))), (b 17, .inr (3, [.int (nI (nn 4)), .ref (b 18), .ref (b 19), .ref (b 20)])), (b 21, .inr (3, [.int (nI (nn 5)), .ref (b 22), .ref (b 23), .ref (b 24)]))] := hD
  refine lv_aload_n hx hb dX4_beginDay_5 rfl (lv_at hl 0 rfl) ?_
  refine va_get (ci := 4) (C := RX4) (T := TX4) (N := 11) hx hb hts inlX4 hown hKW.1 hP 0 rfl rfl 2 (by decide) (hts _ wd_3_2) (fun _ h => h) rfl dX4_beginDay_6 ?_
  refine k_Vv [2, 3, 4, 5, 6, 7, 8, 9, 10] [0, 1, 11, 12] 2 0 (wr := [(b 0, .inr (4, [.ref (b 1), .ref (b 5), .ref (b 8), .ref (b 17), .ref (b 21), .ref (b 25), .ref (b 27), .int (v 4), .int 0, .int (nI (nn 7)), .int (v 6)])), (b 5, .inr (1, [.int (nI (nn 1)), .ref (b 6), .ref (b 7), .int (v 0)])), (b 17, .inr (3, [.int (nI (nn 4)), .ref (b 18), .ref (b 19), .ref (b 20)])), (b 21, .inr (3, [.int (nI (nn 5)), .ref (b 22), .ref (b 23), .ref (b 24)]))]) hx hb hml hown hts hKW hP hD hS hA hl.1 (c_X0_allOut l g _ (fun kk_ => ([(b 8), (b 9), (b 10), (b 11), (b 12), (b 13), (b 14), (b 15), (b 16)] : List Nat).getD kk_ 0) (nn 2) (nn 3) (v 1) (v 2) (F 5) (F 6) (F 7) (F 8) (F 9) (F 10) (F 11) (F 12) (by first | assumption | omega | decide)) rfl rfl rfl wd_18_3 wd_3_1 wd_18_0 wd_18_1 wd_18_2 yd_X0_allOut ⟨(Nat.le_of_ble_eq_true rfl), (Nat.le_of_ble_eq_true rfl)⟩ rfl rfl rfl rfl (by decide) rfl (Nat.le_of_ble_eq_true rfl) dX4_beginDay_9 ⟨(Nat.le_of_ble_eq_true rfl), (Nat.le_of_ble_eq_true rfl)⟩ (fun u_2 H locs hw_3 hP hD hS => ?_)
  have hP : va_P g.1 vwCl [(b 0, .inr (4, [.ref (b 1), .ref (b 5), .ref (b 8), .ref (b 17), .ref (b 21), .ref (b 25), .ref (b 27), .int (v 4), .int 0, .int (nI (nn 7)), .int (v 6)])), (b 5, .inr (1, [.int (nI (nn 1)), .ref (b 6), .ref (b 7), .int (v 0)])), (b 17, .inr (3, [.int (nI (nn 4)), .ref (b 18), .ref (b 19), .ref (b 20)])), (b 21, .inr (3, [.int (nI (nn 5)), .ref (b 22), .ref (b 23), .ref (b 24)])), (b 8, .inr (0, [.int (nI (nn 2)), .ref (b 9), .ref (b 10), .ref (b 11), .ref (b 12), .ref (b 13), .ref (b 14), .ref (b 15), .int 0, .int (v 2), .int (nI (nn 3)), .ref (b 16)])), (b 9, .inl (gI g, 10, .inl (F 5))), (b 10, .inl (gI g, 10, .inl (F 6))), (b 11, .inl (gI g, 10, .inl (F 7))), (b 12, .inl (gI g, 10, .inl (F 8))), (b 13, .inl (gI g, 10, .inl (F 9))), (b 14, .inl (gI g, 10, .inl u_2)), (b 15, .inl (gI g, 10, .inl (F 11))), (b 16, .inl (gI g, 10, .inl (F 12)))] H := hP
  have hD : va_D A [(b 0, .inr (4, [.ref (b 1), .ref (b 5), .ref (b 8), .ref (b 17), .ref (b 21), .ref (b 25), .ref (b 27), .int (v 4), .int 0, .int (nI (nn 7)), .int (v 6)])), (b 5, .inr (1, [.int (nI (nn 1)), .ref (b 6), .ref (b 7), .int (v 0)])), (b 17, .inr (3, [.int (nI (nn 4)), .ref (b 18), .ref (b 19), .ref (b 20)])), (b 21, .inr (3, [.int (nI (nn 5)), .ref (b 22), .ref (b 23), .ref (b 24)])), (b 8, .inr (0, [.int (nI (nn 2)), .ref (b 9), .ref (b 10), .ref (b 11), .ref (b 12), .ref (b 13), .ref (b 14), .ref (b 15), .int 0, .int (v 2), .int (nI (nn 3)), .ref (b 16)])), (b 9, .inl (gI g, 10, .inl (F 5))), (b 10, .inl (gI g, 10, .inl (F 6))), (b 11, .inl (gI g, 10, .inl (F 7))), (b 12, .inl (gI g, 10, .inl (F 8))), (b 13, .inl (gI g, 10, .inl (F 9))), (b 14, .inl (gI g, 10, .inl u_2)), (b 15, .inl (gI g, 10, .inl (F 11))), (b 16, .inl (gI g, 10, .inl (F 12)))] := hD
  refine lv_aload_n hx hb dX4_beginDay_12 rfl (lv_at hl 0 rfl) ?_
  refine va_get (ci := 4) (C := RX4) (T := TX4) (N := 11) hx hb hts inlX4 hown hKW.1 hP 0 rfl rfl 1 (by decide) (hts _ wd_2_22) (fun _ h => h) rfl dX4_beginDay_13 ?_
  refine lv_iconst (v := 0) hx hb dX4_beginDay_16 (by decide) ?_
  refine va_put (ci := 1) (v := .int 0) (C := RX1) (T := TX1) (N := 4) hx hb hts inlX1 tyX1 tyX1_ok nmX1 hown hKW.1 hP hD hS 1 rfl rfl 3 (by decide) (hts _ wd_17_22) (fun _ h => h) rfl (tyX1_ok 3 (by decide)) rfl rfl (Nat.le_of_ble_eq_true rfl) dX4_beginDay_17 (fun H locs hP hD hS => ?_)
  have hP : va_P g.1 vwCl [(b 0, .inr (4, [.ref (b 1), .ref (b 5), .ref (b 8), .ref (b 17), .ref (b 21), .ref (b 25), .ref (b 27), .int (v 4), .int 0, .int (nI (nn 7)), .int (v 6)])), (b 5, .inr (1, [.int (nI (nn 1)), .ref (b 6), .ref (b 7), .int 0])), (b 17, .inr (3, [.int (nI (nn 4)), .ref (b 18), .ref (b 19), .ref (b 20)])), (b 21, .inr (3, [.int (nI (nn 5)), .ref (b 22), .ref (b 23), .ref (b 24)])), (b 8, .inr (0, [.int (nI (nn 2)), .ref (b 9), .ref (b 10), .ref (b 11), .ref (b 12), .ref (b 13), .ref (b 14), .ref (b 15), .int 0, .int (v 2), .int (nI (nn 3)), .ref (b 16)])), (b 9, .inl (gI g, 10, .inl (F 5))), (b 10, .inl (gI g, 10, .inl (F 6))), (b 11, .inl (gI g, 10, .inl (F 7))), (b 12, .inl (gI g, 10, .inl (F 8))), (b 13, .inl (gI g, 10, .inl (F 9))), (b 14, .inl (gI g, 10, .inl u_2)), (b 15, .inl (gI g, 10, .inl (F 11))), (b 16, .inl (gI g, 10, .inl (F 12)))] H := hP
  have hD : va_D A [(b 0, .inr (4, [.ref (b 1), .ref (b 5), .ref (b 8), .ref (b 17), .ref (b 21), .ref (b 25), .ref (b 27), .int (v 4), .int 0, .int (nI (nn 7)), .int (v 6)])), (b 5, .inr (1, [.int (nI (nn 1)), .ref (b 6), .ref (b 7), .int 0])), (b 17, .inr (3, [.int (nI (nn 4)), .ref (b 18), .ref (b 19), .ref (b 20)])), (b 21, .inr (3, [.int (nI (nn 5)), .ref (b 22), .ref (b 23), .ref (b 24)])), (b 8, .inr (0, [.int (nI (nn 2)), .ref (b 9), .ref (b 10), .ref (b 11), .ref (b 12), .ref (b 13), .ref (b 14), .ref (b 15), .int 0, .int (v 2), .int (nI (nn 3)), .ref (b 16)])), (b 9, .inl (gI g, 10, .inl (F 5))), (b 10, .inl (gI g, 10, .inl (F 6))), (b 11, .inl (gI g, 10, .inl (F 7))), (b 12, .inl (gI g, 10, .inl (F 8))), (b 13, .inl (gI g, 10, .inl (F 9))), (b 14, .inl (gI g, 10, .inl u_2)), (b 15, .inl (gI g, 10, .inl (F 11))), (b 16, .inl (gI g, 10, .inl (F 12)))] := hD
  refine lv_aload_n hx hb dX4_beginDay_20 rfl (lv_at hl 0 rfl) ?_
  refine va_get (ci := 4) (C := RX4) (T := TX4) (N := 11) hx hb hts inlX4 hown hKW.1 hP 0 rfl rfl 3 (by decide) (hts _ wd_3_6) (fun _ h => h) rfl dX4_beginDay_21 ?_
  refine lv_iconst (v := 0) hx hb dX4_beginDay_24 (by decide) ?_
  refine va_put (ci := 3) (v := .int 0) (C := RX3) (T := TX3) (N := 4) hx hb hts inlX3 tyX3 tyX3_ok nmX3 hown hKW.1 hP hD hS 2 rfl rfl 0 (by decide) (hts _ wd_17_23) (fun _ h => h) rfl (tyX3_ok 0 (by decide)) rfl rfl (Nat.le_of_ble_eq_true rfl) dX4_beginDay_25 (fun H locs hP hD hS => ?_)
  have hP : va_P g.1 vwCl [(b 0, .inr (4, [.ref (b 1), .ref (b 5), .ref (b 8), .ref (b 17), .ref (b 21), .ref (b 25), .ref (b 27), .int (v 4), .int 0, .int (nI (nn 7)), .int (v 6)])), (b 5, .inr (1, [.int (nI (nn 1)), .ref (b 6), .ref (b 7), .int 0])), (b 17, .inr (3, [.int 0, .ref (b 18), .ref (b 19), .ref (b 20)])), (b 21, .inr (3, [.int (nI (nn 5)), .ref (b 22), .ref (b 23), .ref (b 24)])), (b 8, .inr (0, [.int (nI (nn 2)), .ref (b 9), .ref (b 10), .ref (b 11), .ref (b 12), .ref (b 13), .ref (b 14), .ref (b 15), .int 0, .int (v 2), .int (nI (nn 3)), .ref (b 16)])), (b 9, .inl (gI g, 10, .inl (F 5))), (b 10, .inl (gI g, 10, .inl (F 6))), (b 11, .inl (gI g, 10, .inl (F 7))), (b 12, .inl (gI g, 10, .inl (F 8))), (b 13, .inl (gI g, 10, .inl (F 9))), (b 14, .inl (gI g, 10, .inl u_2)), (b 15, .inl (gI g, 10, .inl (F 11))), (b 16, .inl (gI g, 10, .inl (F 12)))] H := hP
  have hD : va_D A [(b 0, .inr (4, [.ref (b 1), .ref (b 5), .ref (b 8), .ref (b 17), .ref (b 21), .ref (b 25), .ref (b 27), .int (v 4), .int 0, .int (nI (nn 7)), .int (v 6)])), (b 5, .inr (1, [.int (nI (nn 1)), .ref (b 6), .ref (b 7), .int 0])), (b 17, .inr (3, [.int 0, .ref (b 18), .ref (b 19), .ref (b 20)])), (b 21, .inr (3, [.int (nI (nn 5)), .ref (b 22), .ref (b 23), .ref (b 24)])), (b 8, .inr (0, [.int (nI (nn 2)), .ref (b 9), .ref (b 10), .ref (b 11), .ref (b 12), .ref (b 13), .ref (b 14), .ref (b 15), .int 0, .int (v 2), .int (nI (nn 3)), .ref (b 16)])), (b 9, .inl (gI g, 10, .inl (F 5))), (b 10, .inl (gI g, 10, .inl (F 6))), (b 11, .inl (gI g, 10, .inl (F 7))), (b 12, .inl (gI g, 10, .inl (F 8))), (b 13, .inl (gI g, 10, .inl (F 9))), (b 14, .inl (gI g, 10, .inl u_2)), (b 15, .inl (gI g, 10, .inl (F 11))), (b 16, .inl (gI g, 10, .inl (F 12)))] := hD
  refine lv_aload_n hx hb dX4_beginDay_28 rfl (lv_at hl 0 rfl) ?_
  refine va_get (ci := 4) (C := RX4) (T := TX4) (N := 11) hx hb hts inlX4 hown hKW.1 hP 0 rfl rfl 4 (by decide) (hts _ wd_3_7) (fun _ h => h) rfl dX4_beginDay_29 ?_
  refine lv_iconst (v := 0) hx hb dX4_beginDay_32 (by decide) ?_
  refine va_put (ci := 3) (v := .int 0) (C := RX3) (T := TX3) (N := 4) hx hb hts inlX3 tyX3 tyX3_ok nmX3 hown hKW.1 hP hD hS 3 rfl rfl 0 (by decide) (hts _ wd_17_23) (fun _ h => h) rfl (tyX3_ok 0 (by decide)) rfl rfl (Nat.le_of_ble_eq_true rfl) dX4_beginDay_33 (fun H locs hP hD hS => ?_)
  have hP : va_P g.1 vwCl [(b 0, .inr (4, [.ref (b 1), .ref (b 5), .ref (b 8), .ref (b 17), .ref (b 21), .ref (b 25), .ref (b 27), .int (v 4), .int 0, .int (nI (nn 7)), .int (v 6)])), (b 5, .inr (1, [.int (nI (nn 1)), .ref (b 6), .ref (b 7), .int 0])), (b 17, .inr (3, [.int 0, .ref (b 18), .ref (b 19), .ref (b 20)])), (b 21, .inr (3, [.int 0, .ref (b 22), .ref (b 23), .ref (b 24)])), (b 8, .inr (0, [.int (nI (nn 2)), .ref (b 9), .ref (b 10), .ref (b 11), .ref (b 12), .ref (b 13), .ref (b 14), .ref (b 15), .int 0, .int (v 2), .int (nI (nn 3)), .ref (b 16)])), (b 9, .inl (gI g, 10, .inl (F 5))), (b 10, .inl (gI g, 10, .inl (F 6))), (b 11, .inl (gI g, 10, .inl (F 7))), (b 12, .inl (gI g, 10, .inl (F 8))), (b 13, .inl (gI g, 10, .inl (F 9))), (b 14, .inl (gI g, 10, .inl u_2)), (b 15, .inl (gI g, 10, .inl (F 11))), (b 16, .inl (gI g, 10, .inl (F 12)))] H := hP
  have hD : va_D A [(b 0, .inr (4, [.ref (b 1), .ref (b 5), .ref (b 8), .ref (b 17), .ref (b 21), .ref (b 25), .ref (b 27), .int (v 4), .int 0, .int (nI (nn 7)), .int (v 6)])), (b 5, .inr (1, [.int (nI (nn 1)), .ref (b 6), .ref (b 7), .int 0])), (b 17, .inr (3, [.int 0, .ref (b 18), .ref (b 19), .ref (b 20)])), (b 21, .inr (3, [.int 0, .ref (b 22), .ref (b 23), .ref (b 24)])), (b 8, .inr (0, [.int (nI (nn 2)), .ref (b 9), .ref (b 10), .ref (b 11), .ref (b 12), .ref (b 13), .ref (b 14), .ref (b 15), .int 0, .int (v 2), .int (nI (nn 3)), .ref (b 16)])), (b 9, .inl (gI g, 10, .inl (F 5))), (b 10, .inl (gI g, 10, .inl (F 6))), (b 11, .inl (gI g, 10, .inl (F 7))), (b 12, .inl (gI g, 10, .inl (F 8))), (b 13, .inl (gI g, 10, .inl (F 9))), (b 14, .inl (gI g, 10, .inl u_2)), (b 15, .inl (gI g, 10, .inl (F 11))), (b 16, .inl (gI g, 10, .inl (F 12)))] := hD
  exact k_vret u_2 [0, 1, 4, 5, 6, 7, 8, 9, 10, 11, 12, 2, 3] hx hb hr hlk hP hD hS trivial rfl rfl rfl (Nat.le_of_ble_eq_true rfl) (Nat.le_of_ble_eq_true rfl) dX4_beginDay_36
