theorem DI.lst {D : Nat → Int32} (h : DI D) (i : Nat) (hi : (i : Int) < (D 8).toInt) : ∃ k : Nat, k < 10 ∧ (k : Int) < (D 2).toInt ∧ D (i + 137) = nI k := by
  have h2 : (D 2).toInt ≤ 10 := h.2.2.1.2
  have q := h.li.1 i hi
  obtain ⟨j, hj, e⟩ := k_ofr (x := D (137 + i)) (n := 10) (by decide) ⟨q.1, by omega⟩
  refine ⟨j, hj, ?_, by rw [Nat.add_comm]; exact e⟩
  have := q.2
  rw [e, k_nIi (by omega)] at this
  exact this
theorem DI.fst {D : Nat → Int32} (h : DI D) (j : Nat) (hj : j < 10) : ∃ k : Nat, k ≤ 60 ∧ D (j + 77) = nI k := by
  obtain ⟨k, _, hk, e⟩ := k_rgN (lo := 0) (hi := 60) (by decide) (h.first j hj)
  exact ⟨k, hk, by rw [Nat.add_comm]; exact e⟩
theorem DI.lat {D : Nat → Int32} (h : DI D) (j : Nat) (hj : j < 10) : ∃ k : Nat, k ≤ 60 ∧ D (j + 87) = nI k := by
  obtain ⟨k, _, hk, e⟩ := k_rgN (lo := 0) (hi := 60) (by decide) (h.last j hj)
  exact ⟨k, hk, by rw [Nat.add_comm]; exact e⟩
abbrev kThr (T T1 : Nat → Int32) (b L : Nat) (i : Nat) : Prop := ∀ j, j < 60 → T1 j = if b ≤ j ∧ j < i ∧ j < b + L then T j + 1 else T j
theorem k_thr0 {T : Nat → Int32} {b L : Nat} : kThr T T b L b := fun j _ => by rw [if_neg (by omega)]
theorem k_thrS {T T1 T2 : Nat → Int32} {b L i : Nat} {y : Int32} (h : kThr T T1 b L i) (hb : b ≤ i) (hi : i < b + L) (hL : b + L ≤ 60) (ey : T1 (nI i).toNatClampNeg + 1 = y) (e : T2 = upd T1 (nI i).toNatClampNeg y) : kThr T T2 b L (i + 1) := by
  intro j hj
  rw [nI_clamp (by omega)] at ey e
  by_cases q : j = i
  · subst q
    rw [e, pk_us, if_pos (by omega), ← ey, h j hj, if_neg (by omega)]
  · rw [e, pk_un q, h j hj]
    by_cases q2 : b ≤ j ∧ j < i ∧ j < b + L
    · rw [if_pos q2, if_pos (by omega)]
    · rw [if_neg q2, if_neg (by omega)]
theorem k_thrE {T T1 : Nat → Int32} {b L i : Nat} (h : kThr T T1 b L i) (hi : i = b + L) : ∀ j, j < 60 → T1 j = if b ≤ j ∧ j < b + L then T j + 1 else T j := by
  intro j hj
  rw [h j hj, hi]
  by_cases q : b ≤ j ∧ j < b + L
  · rw [if_pos q, if_pos (by omega)]
  · rw [if_neg q, if_neg (by omega)]
theorem dX12_findMoves_0 : decode cX12_findMoves 0 = .ok (.iconst 0, 1) := by decide +kernel
theorem dX12_findMoves_1 : decode cX12_findMoves 1 = .ok (.istore_n 1, 1) := by decide +kernel
theorem dX12_findMoves_2 : decode cX12_findMoves 2 = .ok (.iload_n 1, 1) := by decide +kernel
theorem dX12_findMoves_3 : decode cX12_findMoves 3 = .ok (.aload_n 0, 1) := by decide +kernel
theorem dX12_findMoves_4 : decode cX12_findMoves 4 = .ok (.getfield 7, 3) := by decide +kernel
theorem dX12_findMoves_7 : decode cX12_findMoves 7 = .ok (.iconst 0, 1) := by decide +kernel
theorem dX12_findMoves_8 : decode cX12_findMoves 8 = .ok (.iaload, 1) := by decide +kernel
theorem dX12_findMoves_9 : decode cX12_findMoves 9 = .ok (.if_icmp .ge 46, 3) := by decide +kernel
theorem dX12_findMoves_55 : decode cX12_findMoves 55 = .ok (.aload_n 0, 1) := by decide +kernel
theorem dX12_findMoves_56 : decode cX12_findMoves 56 = .ok (.sipush 1000, 3) := by decide +kernel
theorem dX12_findMoves_59 : decode cX12_findMoves 59 = .ok (.putfield 145, 3) := by decide +kernel
theorem dX12_findMoves_62 : decode cX12_findMoves 62 = .ok (.aload_n 0, 1) := by decide +kernel
theorem dX12_findMoves_63 : decode cX12_findMoves 63 = .ok (.iconst 0, 1) := by decide +kernel
theorem dX12_findMoves_64 : decode cX12_findMoves 64 = .ok (.iconst 0, 1) := by decide +kernel
theorem dX12_findMoves_65 : decode cX12_findMoves 65 = .ok (.invokevirtual 148, 3) := by decide +kernel
theorem dX12_findMoves_68 : decode cX12_findMoves 68 = .ok (.aload_n 0, 1) := by decide +kernel
theorem dX12_findMoves_69 : decode cX12_findMoves 69 = .ok (.getfield 145, 3) := by decide +kernel
theorem dX12_findMoves_72 : decode cX12_findMoves 72 = .ok (.sipush 1000, 3) := by decide +kernel
theorem dX12_findMoves_75 : decode cX12_findMoves 75 = .ok (.if_icmp .ge 7, 3) := by decide +kernel
theorem dX12_findMoves_82 : decode cX12_findMoves 82 = .ok (.iconst 0, 1) := by decide +kernel
theorem dX12_findMoves_83 : decode cX12_findMoves 83 = .ok (.ireturn, 1) := by decide +kernel
theorem dX12_findMoves_78 : decode cX12_findMoves 78 = .ok (.iconst 1, 1) := by decide +kernel
theorem dX12_findMoves_79 : decode cX12_findMoves 79 = .ok (.goto 4, 3) := by decide +kernel
theorem dX12_findMoves_12 : decode cX12_findMoves 12 = .ok (.aload_n 0, 1) := by decide +kernel
theorem dX12_findMoves_13 : decode cX12_findMoves 13 = .ok (.getfield 31, 3) := by decide +kernel
theorem dX12_findMoves_16 : decode cX12_findMoves 16 = .ok (.iload_n 1, 1) := by decide +kernel
theorem dX12_findMoves_17 : decode cX12_findMoves 17 = .ok (.iconst 0, 1) := by decide +kernel
theorem dX12_findMoves_18 : decode cX12_findMoves 18 = .ok (.iastore, 1) := by decide +kernel
theorem dX12_findMoves_19 : decode cX12_findMoves 19 = .ok (.aload_n 0, 1) := by decide +kernel
theorem dX12_findMoves_20 : decode cX12_findMoves 20 = .ok (.getfield 34, 3) := by decide +kernel
theorem dX12_findMoves_23 : decode cX12_findMoves 23 = .ok (.iload_n 1, 1) := by decide +kernel
theorem dX12_findMoves_24 : decode cX12_findMoves 24 = .ok (.aload_n 0, 1) := by decide +kernel
theorem dX12_findMoves_25 : decode cX12_findMoves 25 = .ok (.iload_n 1, 1) := by decide +kernel
theorem dX12_findMoves_26 : decode cX12_findMoves 26 = .ok (.invokevirtual 135, 3) := by decide +kernel
theorem dX12_findMoves_29 : decode cX12_findMoves 29 = .ok (.iastore, 1) := by decide +kernel
theorem dX12_findMoves_30 : decode cX12_findMoves 30 = .ok (.aload_n 0, 1) := by decide +kernel
theorem dX12_findMoves_31 : decode cX12_findMoves 31 = .ok (.getfield 37, 3) := by decide +kernel
theorem dX12_findMoves_34 : decode cX12_findMoves 34 = .ok (.iload_n 1, 1) := by decide +kernel
theorem dX12_findMoves_35 : decode cX12_findMoves 35 = .ok (.aload_n 0, 1) := by decide +kernel
theorem dX12_findMoves_36 : decode cX12_findMoves 36 = .ok (.iload_n 1, 1) := by decide +kernel
theorem dX12_findMoves_37 : decode cX12_findMoves 37 = .ok (.invokevirtual 103, 3) := by decide +kernel
theorem dX12_findMoves_40 : decode cX12_findMoves 40 = .ok (.ifCond .eq 7, 3) := by decide +kernel
theorem dX12_findMoves_47 : decode cX12_findMoves 47 = .ok (.iconst 0, 1) := by decide +kernel
theorem dX12_findMoves_48 : decode cX12_findMoves 48 = .ok (.bastore, 1) := by decide +kernel
theorem dX12_findMoves_49 : decode cX12_findMoves 49 = .ok (.iinc 1 1, 3) := by decide +kernel
theorem dX12_findMoves_52 : decode cX12_findMoves 52 = .ok (.goto (-50), 3) := by decide +kernel
theorem dX12_findMoves_43 : decode cX12_findMoves 43 = .ok (.iconst 1, 1) := by decide +kernel
theorem dX12_findMoves_44 : decode cX12_findMoves 44 = .ok (.goto 4, 3) := by decide +kernel
set_option maxHeartbeats 8000000 in
set_option maxRecDepth 100000 in
theorem c_X12_findMoves (l : Launch) (g : kG) (sz : Nat) (z : Nat → Nat) (kp : Nat) (xs : Nat → Int32) (D : Nat → Int32) (pf : Nat → Int32) (cf : Nat → Int32) (f0 : Nat → Int32) (f1 : Nat → Int32) (f2 : Nat → Int32) (f3 : Nat → Int32) (f4 : Nat → Int32) (hDI : DI D) : kMi l g yX12_findMoves cX12_findMoves 2 (some .boolean) 11 0 0 [.ref (z 0)] sz [(z 0, .inr (12, [.ref (z 1), .ref (z 2), .int (nI kp), .int (xs 0), .ref (z 3), .ref (z 4), .ref (z 5), .ref (z 6), .int (xs 1), .ref (z 7), .ref (z 8), .ref (z 9), .ref (z 10), .ref (z 11), .ref (z 12), .int (xs 2), .ref (z 13), .ref (z 14), .int (xs 3), .ref (z 15)])), (z 1, .inl (gI g, 461, .inl D)), (z 6, .inl (gI g, 5, .inl pf)), (z 7, .inl (gI g, 7, .inl cf)), (z 8, .inl (gI g, 5, .inl f0)), (z 9, .inl (gI g, 5, .inl f1)), (z 10, .inl (gZ g, 5, .inl f2)), (z 11, .inl (gI g, 7, .inl f3)), (z 12, .inl (gI g, 7, .inl f4))] (fun (r : Int32) (u : (Nat → Int32) × (Nat → Int32) × (Nat → Int32) × (Nat → Int32) × (Nat → Int32) × (Nat → Int32) × (Nat → Int32) × (Nat → Int32)) => r = 1 ∨ r = 0) (fun (u : (Nat → Int32) × (Nat → Int32) × (Nat → Int32) × (Nat → Int32) × (Nat → Int32) × (Nat → Int32) × (Nat → Int32) × (Nat → Int32)) => ([(z 0, .inr (12, [.ref (z 1), .ref (z 2), .int (nI kp), .int (u.1 0), .ref (z 3), .ref (z 4), .ref (z 5), .ref (z 6), .int (u.1 1), .ref (z 7), .ref (z 8), .ref (z 9), .ref (z 10), .ref (z 11), .ref (z 12), .int (u.1 2), .ref (z 13), .ref (z 14), .int (u.1 3), .ref (z 15)])), (z 1, .inl (gI g, 461, .inl D)), (z 6, .inl (gI g, 5, .inl u.2.1)), (z 7, .inl (gI g, 7, .inl u.2.2.1)), (z 8, .inl (gI g, 5, .inl u.2.2.2.1)), (z 9, .inl (gI g, 5, .inl u.2.2.2.2.1)), (z 10, .inl (gZ g, 5, .inl u.2.2.2.2.2.1)), (z 11, .inl (gI g, 7, .inl u.2.2.2.2.2.2.1)), (z 12, .inl (gI g, 7, .inl u.2.2.2.2.2.2.2))] : va_W)) := by
  refine kMi.of (by decide) (Nat.le_of_ble_eq_true rfl) (fun p e s m below meth c A hx hb hr hml hown hts hlk hnm hKW hP hD hS hA ls hl => ?_)
  have hown : s.vm.findClass RX12 = some m.cls := hown
  have hl : lv_has ls 2 [(0, .ref (z 0))] := hl
  refine k_hide hP hS (fun H locs hP hS => ?_)
  refine lv_iconst (v := 0) hx hb dX12_findMoves_0 (by decide) ?_
  refine lv_istore_n (lv' := [(1, .int 0), (0, .ref (z 0))]) hx hb dX12_findMoves_1 rfl hl (by decide) rfl (fun ls hl => ?_)
  have L2 : ∀ (n2 : Nat) (i : Nat) (y0 : Int32) (y1 : Int32) (y2 : Int32) (y3 : Int32) (pa : Nat → Int32) (ca : Nat → Int32) (sa : Nat → Int32) (na : Nat → Int32) (fa : Nat → Int32) (hfuel2 : 5 - i < n2) (hi : i ≤ 5) (H : Heap) (locs : List Loc) (hP : va_P g.1 vwCl [(z 0, .inr (12, [.ref (z 1), .ref (z 2), .int (nI kp), .int y0, .ref (z 3), .ref (z 4), .ref (z 5), .ref (z 6), .int y1, .ref (z 7), .ref (z 8), .ref (z 9), .ref (z 10), .ref (z 11), .ref (z 12), .int y2, .ref (z 13), .ref (z 14), .int y3, .ref (z 15)])), (z 1, .inl (gI g, 461, .inl D)), (z 6, .inl (gI g, 5, .inl pa)), (z 7, .inl (gI g, 7, .inl ca)), (z 8, .inl (gI g, 5, .inl sa)), (z 9, .inl (gI g, 5, .inl na)), (z 10, .inl (gZ g, 5, .inl fa)), (z 11, .inl (gI g, 7, .inl f3)), (z 12, .inl (gI g, 7, .inl f4))] H) (hD : va_D A [(z 0, .inr (12, [.ref (z 1), .ref (z 2), .int (nI kp), .int y0, .ref (z 3), .ref (z 4), .ref (z 5), .ref (z 6), .int y1, .ref (z 7), .ref (z 8), .ref (z 9), .ref (z 10), .ref (z 11), .ref (z 12), .int y2, .ref (z 13), .ref (z 14), .int y3, .ref (z 15)])), (z 1, .inl (gI g, 461, .inl D)), (z 6, .inl (gI g, 5, .inl pa)), (z 7, .inl (gI g, 7, .inl ca)), (z 8, .inl (gI g, 5, .inl sa)), (z 9, .inl (gI g, 5, .inl na)), (z 10, .inl (gZ g, 5, .inl fa)), (z 11, .inl (gI g, 7, .inl f3)), (z 12, .inl (gI g, 7, .inl f4))]) (hS : va_S A s.heap H locs) (ls : Array Slot) (hl : lv_has ls 2 [(1, .int (nI i)), (0, .ref (z 0))]), W p l e (kR 11 0 0) s m ([.ref (z 0)] : List Value).toArray below meth c H locs 0 0 (kQi g A below ([.ref (z 0)] : List Value).toArray s 0 0 (fun (r : Int32) (u : (Nat → Int32) × (Nat → Int32) × (Nat → Int32) × (Nat → Int32) × (Nat → Int32) × (Nat → Int32) × (Nat → Int32) × (Nat → Int32)) => r = 1 ∨ r = 0) (fun (u : (Nat → Int32) × (Nat → Int32) × (Nat → Int32) × (Nat → Int32) × (Nat → Int32) × (Nat → Int32) × (Nat → Int32) × (Nat → Int32)) => ([(z 0, .inr (12, [.ref (z 1), .ref (z 2), .int (nI kp), .int (u.1 0), .ref (z 3), .ref (z 4), .ref (z 5), .ref (z 6), .int (u.1 1), .ref (z 7), .ref (z 8), .ref (z 9), .ref (z 10), .ref (z 11), .ref (z 12), .int (u.1 2), .ref (z 13), .ref (z 14), .int (u.1 3), .ref (z 15)])), (z 1, .inl (gI g, 461, .inl D)), (z 6, .inl (gI g, 5, .inl u.2.1)), (z 7, .inl (gI g, 7, .inl u.2.2.1)), (z 8, .inl (gI g, 5, .inl u.2.2.2.1)), (z 9, .inl (gI g, 5, .inl u.2.2.2.2.1)), (z 10, .inl (gZ g, 5, .inl u.2.2.2.2.2.1)), (z 11, .inl (gI g, 7, .inl u.2.2.2.2.2.2.1)), (z 12, .inl (gI g, 7, .inl u.2.2.2.2.2.2.2))] : va_W))) (F0 m 2 ls []) := by
    intro n2
    induction n2 with
    | zero => intro i y0 y1 y2 y3 pa ca sa na fa hfuel2; exact absurd hfuel2 (Nat.not_lt_zero _)
    | succ n2 ih2 =>
      intro i y0 y1 y2 y3 pa ca sa na fa hfuel2 hi H locs hP hD hS ls hl
      refine lv_iload_n hx hb dX12_findMoves_2 rfl (lv_at hl 0 rfl) ?_
      refine lv_aload_n hx hb dX12_findMoves_3 rfl (lv_at hl 1 rfl) ?_
      refine va_get (ci := 12) (C := RX12) (T := TX12) (N := 20) hx hb hts inlX12 hown hKW.1 hP 0 rfl rfl 0 (by decide) (hts _ wd_6_5) (fun _ h => h) rfl dX12_findMoves_4 ?_
      refine lv_iconst (v := 0) hx hb dX12_findMoves_7 (by decide) ?_
      obtain ⟨dk_1, hdk_1a, hdk_1b, edk_1⟩ := DI.n0 hDI
      refine va_iald hx hb hKW.1 hP 1 0 rfl rfl (show ¬ _ by decide) dX12_findMoves_8 ?_
      refine k_top (y := nI dk_1) edk_1 ?_
      refine lv_icmp_ge (tgt := 55) hx hb dX12_findMoves_9 (by decide) (fun c_2 => ?_) (fun c_2 => ?_)
      · have c_2n : dk_1 ≤ i := (k_leI (a := dk_1) (b := i) (by omega) (by omega)).mp c_2
        refine lv_aload_n hx hb dX12_findMoves_55 rfl (lv_at hl 1 rfl) ?_
        refine lv_sipush (v := 1000) hx hb dX12_findMoves_56 (by decide) ?_
        refine va_put (ci := 12) (v := .int 1000) (C := RX12) (T := TX12) (N := 20) hx hb hts inlX12 tyX12 tyX12_ok nmX12 hown hKW.1 hP hD hS 0 rfl rfl 15 (by decide) (hts _ wd_31_1) (fun _ h => h) rfl (tyX12_ok 15 (by decide)) rfl rfl (Nat.le_of_ble_eq_true rfl) dX12_findMoves_59 (fun H locs hP hD hS => ?_)
        have hP : va_P g.1 vwCl [(z 0, .inr (12, [.ref (z 1), .ref (z 2), .int (nI kp), .int y0, .ref (z 3), .ref (z 4), .ref (z 5), .ref (z 6), .int y1, .ref (z 7), .ref (z 8), .ref (z 9), .ref (z 10), .ref (z 11), .ref (z 12), .int 1000, .ref (z 13), .ref (z 14), .int y3, .ref (z 15)])), (z 1, .inl (gI g, 461, .inl D)), (z 6, .inl (gI g, 5, .inl pa)), (z 7, .inl (gI g, 7, .inl ca)), (z 8, .inl (gI g, 5, .inl sa)), (z 9, .inl (gI g, 5, .inl na)), (z 10, .inl (gZ g, 5, .inl fa)), (z 11, .inl (gI g, 7, .inl f3)), (z 12, .inl (gI g, 7, .inl f4))] H := hP
        have hD : va_D A [(z 0, .inr (12, [.ref (z 1), .ref (z 2), .int (nI kp), .int y0, .ref (z 3), .ref (z 4), .ref (z 5), .ref (z 6), .int y1, .ref (z 7), .ref (z 8), .ref (z 9), .ref (z 10), .ref (z 11), .ref (z 12), .int 1000, .ref (z 13), .ref (z 14), .int y3, .ref (z 15)])), (z 1, .inl (gI g, 461, .inl D)), (z 6, .inl (gI g, 5, .inl pa)), (z 7, .inl (gI g, 7, .inl ca)), (z 8, .inl (gI g, 5, .inl sa)), (z 9, .inl (gI g, 5, .inl na)), (z 10, .inl (gZ g, 5, .inl fa)), (z 11, .inl (gI g, 7, .inl f3)), (z 12, .inl (gI g, 7, .inl f4))] := hD
        refine lv_aload_n hx hb dX12_findMoves_62 rfl (lv_at hl 1 rfl) ?_
        refine lv_iconst (v := 0) hx hb dX12_findMoves_63 (by decide) ?_
        refine lv_iconst (v := 0) hx hb dX12_findMoves_64 (by decide) ?_
        refine k_Vv [0, 1, 4, 5, 6, 7, 8] [2, 3] 0 12 (wr := [(z 6, .inl (gI g, 5, .inl pa)), (z 7, .inl (gI g, 7, .inl ca))]) hx hb hml hown hts hKW hP hD hS hA hl.1 (c_X12_tries_0 l g _ z kp (fun kk_ => ([y0, y1, 1000, y3] : List Int32).getD kk_ 0) D sa na fa f3 f4 0 (by first | assumption | omega | decide) (by have q := hDI.2.1.1; omega)) rfl rfl rfl wd_31_9 wd_1_5 wd_31_6 wd_31_7 wd_31_8 yd_X12_tries ⟨(Nat.le_of_ble_eq_true rfl), (Nat.le_of_ble_eq_true rfl)⟩ rfl rfl rfl rfl (by decide) rfl (Nat.le_of_ble_eq_true rfl) dX12_findMoves_65 ⟨(Nat.le_of_ble_eq_true rfl), (Nat.le_of_ble_eq_true rfl)⟩ (fun u_4 H locs hw_5 hP hD hS => ?_)
        obtain ⟨f_6, f_7, f_8, f_9⟩ := u_4
        have hP : va_P g.1 vwCl [(z 6, .inl (gI g, 5, .inl pa)), (z 7, .inl (gI g, 7, .inl ca)), (z 0, .inr (12, [.ref (z 1), .ref (z 2), .int (nI kp), .int (f_6 0), .ref (z 3), .ref (z 4), .ref (z 5), .ref (z 6), .int (f_6 1), .ref (z 7), .ref (z 8), .ref (z 9), .ref (z 10), .ref (z 11), .ref (z 12), .int (f_6 2), .ref (z 13), .ref (z 14), .int (f_6 3), .ref (z 15)])), (z 1, .inl (gI g, 461, .inl D)), (z 8, .inl (gI g, 5, .inl f_7)), (z 9, .inl (gI g, 5, .inl na)), (z 10, .inl (gZ g, 5, .inl fa)), (z 11, .inl (gI g, 7, .inl f_8)), (z 12, .inl (gI g, 7, .inl f_9))] H := hP
        have hD : va_D A [(z 6, .inl (gI g, 5, .inl pa)), (z 7, .inl (gI g, 7, .inl ca)), (z 0, .inr (12, [.ref (z 1), .ref (z 2), .int (nI kp), .int (f_6 0), .ref (z 3), .ref (z 4), .ref (z 5), .ref (z 6), .int (f_6 1), .ref (z 7), .ref (z 8), .ref (z 9), .ref (z 10), .ref (z 11), .ref (z 12), .int (f_6 2), .ref (z 13), .ref (z 14), .int (f_6 3), .ref (z 15)])), (z 1, .inl (gI g, 461, .inl D)), (z 8, .inl (gI g, 5, .inl f_7)), (z 9, .inl (gI g, 5, .inl na)), (z 10, .inl (gZ g, 5, .inl fa)), (z 11, .inl (gI g, 7, .inl f_8)), (z 12, .inl (gI g, 7, .inl f_9))] := hD
        refine lv_aload_n hx hb dX12_findMoves_68 rfl (lv_at hl 1 rfl) ?_
        refine va_get (ci := 12) (C := RX12) (T := TX12) (N := 20) hx hb hts inlX12 hown hKW.1 hP 2 rfl rfl 15 (by decide) (hts _ wd_31_1) (fun _ h => h) rfl dX12_findMoves_69 ?_
        refine lv_sipush (v := 1000) hx hb dX12_findMoves_72 (by decide) ?_
        refine lv_icmp_ge (tgt := 82) hx hb dX12_findMoves_75 (by decide) (fun c_10 => ?_) (fun c_10 => ?_)
        · refine lv_iconst (v := 0) hx hb dX12_findMoves_82 (by decide) ?_
          exact k_zret (f_6, pa, ca, f_7, na, fa, f_8, f_9) [2, 3, 0, 1, 4, 5, 6, 7, 8] hx hb hr hlk hP hD hS (Or.inr rfl) rfl rfl rfl rfl (Nat.le_of_ble_eq_true rfl) (Nat.le_of_ble_eq_true rfl) dX12_findMoves_83
        · refine lv_iconst (v := 1) hx hb dX12_findMoves_78 (by decide) ?_
          refine lv_goto (tgt := 83) hx hb dX12_findMoves_79 (by decide) ?_
          exact k_zret (f_6, pa, ca, f_7, na, fa, f_8, f_9) [2, 3, 0, 1, 4, 5, 6, 7, 8] hx hb hr hlk hP hD hS (Or.inl rfl) rfl rfl rfl rfl (Nat.le_of_ble_eq_true rfl) (Nat.le_of_ble_eq_true rfl) dX12_findMoves_83
      · have c_2n : i < dk_1 := Nat.not_le.mp (fun h => c_2 ((k_leI (a := dk_1) (b := i) (by omega) (by omega)).mpr h))
        refine lv_aload_n hx hb dX12_findMoves_12 rfl (lv_at hl 1 rfl) ?_
        refine va_get (ci := 12) (C := RX12) (T := TX12) (N := 20) hx hb hts inlX12 hown hKW.1 hP 0 rfl rfl 10 (by decide) (hts _ wd_6_12) (fun _ h => h) rfl dX12_findMoves_13 ?_
        refine lv_iload_n hx hb dX12_findMoves_16 rfl (lv_at hl 0 rfl) ?_
        refine lv_iconst (v := 0) hx hb dX12_findMoves_17 (by decide) ?_
        refine va_iast hx hb hKW.1 hP hD hS 4 0 rfl rfl (vp_in_nI (by omega) (by decide)) dX12_findMoves_18 (fun H locs hP hD hS => ?_)
        have hP : va_P g.1 vwCl [(z 0, .inr (12, [.ref (z 1), .ref (z 2), .int (nI kp), .int y0, .ref (z 3), .ref (z 4), .ref (z 5), .ref (z 6), .int y1, .ref (z 7), .ref (z 8), .ref (z 9), .ref (z 10), .ref (z 11), .ref (z 12), .int y2, .ref (z 13), .ref (z 14), .int y3, .ref (z 15)])), (z 1, .inl (gI g, 461, .inl D)), (z 6, .inl (gI g, 5, .inl pa)), (z 7, .inl (gI g, 7, .inl ca)), (z 8, .inl (gI g, 5, .inl (upd sa (nI i).toNatClampNeg 0))), (z 9, .inl (gI g, 5, .inl na)), (z 10, .inl (gZ g, 5, .inl fa)), (z 11, .inl (gI g, 7, .inl f3)), (z 12, .inl (gI g, 7, .inl f4))] H := hP
        have hD : va_D A [(z 0, .inr (12, [.ref (z 1), .ref (z 2), .int (nI kp), .int y0, .ref (z 3), .ref (z 4), .ref (z 5), .ref (z 6), .int y1, .ref (z 7), .ref (z 8), .ref (z 9), .ref (z 10), .ref (z 11), .ref (z 12), .int y2, .ref (z 13), .ref (z 14), .int y3, .ref (z 15)])), (z 1, .inl (gI g, 461, .inl D)), (z 6, .inl (gI g, 5, .inl pa)), (z 7, .inl (gI g, 7, .inl ca)), (z 8, .inl (gI g, 5, .inl (upd sa (nI i).toNatClampNeg 0))), (z 9, .inl (gI g, 5, .inl na)), (z 10, .inl (gZ g, 5, .inl fa)), (z 11, .inl (gI g, 7, .inl f3)), (z 12, .inl (gI g, 7, .inl f4))] := hD
        obtain ⟨f_11, ef_11⟩ : ∃ zz_ : Nat → Int32, zz_ = upd sa (nI i).toNatClampNeg 0 := ⟨_, rfl⟩
        rw [← ef_11] at hP hD
        refine lv_aload_n hx hb dX12_findMoves_19 rfl (lv_at hl 1 rfl) ?_
        refine va_get (ci := 12) (C := RX12) (T := TX12) (N := 20) hx hb hts inlX12 hown hKW.1 hP 0 rfl rfl 11 (by decide) (hts _ wd_6_13) (fun _ h => h) rfl dX12_findMoves_20 ?_
        refine lv_iload_n hx hb dX12_findMoves_23 rfl (lv_at hl 0 rfl) ?_
        refine lv_aload_n hx hb dX12_findMoves_24 rfl (lv_at hl 1 rfl) ?_
        refine lv_iload_n hx hb dX12_findMoves_25 rfl (lv_at hl 0 rfl) ?_
        refine k_Vi [0, 1, 2, 3] [4, 5, 6, 7, 8] 0 12 (wr := [(z 8, .inl (gI g, 5, .inl f_11)), (z 9, .inl (gI g, 5, .inl na)), (z 10, .inl (gZ g, 5, .inl fa)), (z 11, .inl (gI g, 7, .inl f3)), (z 12, .inl (gI g, 7, .inl f4))]) hx hb hml hown hts hKW hP hD hS hA hl.1 (c_X12_needOf l g _ z kp (fun kk_ => ([y0, y1, y2, y3] : List Int32).getD kk_ 0) D pa ca (nI i) (by first | assumption | omega | decide)) rfl rfl rfl wd_27_6 wd_1_5 wd_27_3 wd_27_4 wd_27_5 yd_X12_needOf ⟨(Nat.le_of_ble_eq_true rfl), (Nat.le_of_ble_eq_true rfl)⟩ rfl rfl rfl rfl (by decide) rfl (Nat.le_of_ble_eq_true rfl) dX12_findMoves_26 ⟨(Nat.le_of_ble_eq_true rfl), (Nat.le_of_ble_eq_true rfl)⟩ (fun r_12 u_13 H locs hw_14 hP hD hS => ?_)
        obtain ⟨f_15, f_16, f_17⟩ := u_13
        have hP : va_P g.1 vwCl [(z 8, .inl (gI g, 5, .inl f_11)), (z 9, .inl (gI g, 5, .inl na)), (z 10, .inl (gZ g, 5, .inl fa)), (z 11, .inl (gI g, 7, .inl f3)), (z 12, .inl (gI g, 7, .inl f4)), (z 0, .inr (12, [.ref (z 1), .ref (z 2), .int (nI kp), .int (f_15 0), .ref (z 3), .ref (z 4), .ref (z 5), .ref (z 6), .int (f_15 1), .ref (z 7), .ref (z 8), .ref (z 9), .ref (z 10), .ref (z 11), .ref (z 12), .int (f_15 2), .ref (z 13), .ref (z 14), .int (f_15 3), .ref (z 15)])), (z 1, .inl (gI g, 461, .inl D)), (z 6, .inl (gI g, 5, .inl f_16)), (z 7, .inl (gI g, 7, .inl f_17))] H := hP
        have hD : va_D A [(z 8, .inl (gI g, 5, .inl f_11)), (z 9, .inl (gI g, 5, .inl na)), (z 10, .inl (gZ g, 5, .inl fa)), (z 11, .inl (gI g, 7, .inl f3)), (z 12, .inl (gI g, 7, .inl f4)), (z 0, .inr (12, [.ref (z 1), .ref (z 2), .int (nI kp), .int (f_15 0), .ref (z 3), .ref (z 4), .ref (z 5), .ref (z 6), .int (f_15 1), .ref (z 7), .ref (z 8), .ref (z 9), .ref (z 10), .ref (z 11), .ref (z 12), .int (f_15 2), .ref (z 13), .ref (z 14), .int (f_15 3), .ref (z 15)])), (z 1, .inl (gI g, 461, .inl D)), (z 6, .inl (gI g, 5, .inl f_16)), (z 7, .inl (gI g, 7, .inl f_17))] := hD
        refine va_iast hx hb hKW.1 hP hD hS 1 0 rfl rfl (vp_in_nI (by omega) (by decide)) dX12_findMoves_29 (fun H locs hP hD hS => ?_)
        have hP : va_P g.1 vwCl [(z 8, .inl (gI g, 5, .inl f_11)), (z 9, .inl (gI g, 5, .inl (upd na (nI i).toNatClampNeg r_12))), (z 10, .inl (gZ g, 5, .inl fa)), (z 11, .inl (gI g, 7, .inl f3)), (z 12, .inl (gI g, 7, .inl f4)), (z 0, .inr (12, [.ref (z 1), .ref (z 2), .int (nI kp), .int (f_15 0), .ref (z 3), .ref (z 4), .ref (z 5), .ref (z 6), .int (f_15 1), .ref (z 7), .ref (z 8), .ref (z 9), .ref (z 10), .ref (z 11), .ref (z 12), .int (f_15 2), .ref (z 13), .ref (z 14), .int (f_15 3), .ref (z 15)])), (z 1, .inl (gI g, 461, .inl D)), (z 6, .inl (gI g, 5, .inl f_16)), (z 7, .inl (gI g, 7, .inl f_17))] H := hP
        have hD : va_D A [(z 8, .inl (gI g, 5, .inl f_11)), (z 9, .inl (gI g, 5, .inl (upd na (nI i).toNatClampNeg r_12))), (z 10, .inl (gZ g, 5, .inl fa)), (z 11, .inl (gI g, 7, .inl f3)), (z 12, .inl (gI g, 7, .inl f4)), (z 0, .inr (12, [.ref (z 1), .ref (z 2), .int (nI kp), .int (f_15 0), .ref (z 3), .ref (z 4), .ref (z 5), .ref (z 6), .int (f_15 1), .ref (z 7), .ref (z 8), .ref (z 9), .ref (z 10), .ref (z 11), .ref (z 12), .int (f_15 2), .ref (z 13), .ref (z 14), .int (f_15 3), .ref (z 15)])), (z 1, .inl (gI g, 461, .inl D)), (z 6, .inl (gI g, 5, .inl f_16)), (z 7, .inl (gI g, 7, .inl f_17))] := hD
        obtain ⟨f_18, ef_18⟩ : ∃ zz_ : Nat → Int32, zz_ = upd na (nI i).toNatClampNeg r_12 := ⟨_, rfl⟩
        rw [← ef_18] at hP hD
        refine lv_aload_n hx hb dX12_findMoves_30 rfl (lv_at hl 1 rfl) ?_
        refine va_get (ci := 12) (C := RX12) (T := TX12) (N := 20) hx hb hts inlX12 hown hKW.1 hP 5 rfl rfl 12 (by decide) (hts _ wd_6_15) (fun _ h => h) rfl dX12_findMoves_31 ?_
        refine lv_iload_n hx hb dX12_findMoves_34 rfl (lv_at hl 0 rfl) ?_
        refine lv_aload_n hx hb dX12_findMoves_35 rfl (lv_at hl 1 rfl) ?_
        refine lv_iload_n hx hb dX12_findMoves_36 rfl (lv_at hl 0 rfl) ?_
        refine k_Vi [5, 6] [0, 1, 2, 3, 4, 7, 8] 5 12 (wr := [(z 8, .inl (gI g, 5, .inl f_11)), (z 9, .inl (gI g, 5, .inl f_18)), (z 10, .inl (gZ g, 5, .inl fa)), (z 11, .inl (gI g, 7, .inl f3)), (z 12, .inl (gI g, 7, .inl f4)), (z 6, .inl (gI g, 5, .inl f_16)), (z 7, .inl (gI g, 7, .inl f_17))]) hx hb hml hown hts hKW hP hD hS hA hl.1 (c_X12_childrenIn l g _ z kp f_15 D (nI i) (by first | assumption | omega | decide)) rfl rfl rfl wd_20_8 wd_1_5 wd_20_5 wd_20_6 wd_20_7 yd_X12_childrenIn ⟨(Nat.le_of_ble_eq_true rfl), (Nat.le_of_ble_eq_true rfl)⟩ rfl rfl rfl rfl (by decide) rfl (Nat.le_of_ble_eq_true rfl) dX12_findMoves_37 ⟨(Nat.le_of_ble_eq_true rfl), (Nat.le_of_ble_eq_true rfl)⟩ (fun r_19 u_20 H locs hw_21 hP hD hS => ?_)
        have hP : va_P g.1 vwCl [(z 8, .inl (gI g, 5, .inl f_11)), (z 9, .inl (gI g, 5, .inl f_18)), (z 10, .inl (gZ g, 5, .inl fa)), (z 11, .inl (gI g, 7, .inl f3)), (z 12, .inl (gI g, 7, .inl f4)), (z 6, .inl (gI g, 5, .inl f_16)), (z 7, .inl (gI g, 7, .inl f_17)), (z 0, .inr (12, [.ref (z 1), .ref (z 2), .int (nI kp), .int (f_15 0), .ref (z 3), .ref (z 4), .ref (z 5), .ref (z 6), .int (f_15 1), .ref (z 7), .ref (z 8), .ref (z 9), .ref (z 10), .ref (z 11), .ref (z 12), .int (f_15 2), .ref (z 13), .ref (z 14), .int (f_15 3), .ref (z 15)])), (z 1, .inl (gI g, 461, .inl D))] H := hP
        have hD : va_D A [(z 8, .inl (gI g, 5, .inl f_11)), (z 9, .inl (gI g, 5, .inl f_18)), (z 10, .inl (gZ g, 5, .inl fa)), (z 11, .inl (gI g, 7, .inl f3)), (z 12, .inl (gI g, 7, .inl f4)), (z 6, .inl (gI g, 5, .inl f_16)), (z 7, .inl (gI g, 7, .inl f_17)), (z 0, .inr (12, [.ref (z 1), .ref (z 2), .int (nI kp), .int (f_15 0), .ref (z 3), .ref (z 4), .ref (z 5), .ref (z 6), .int (f_15 1), .ref (z 7), .ref (z 8), .ref (z 9), .ref (z 10), .ref (z 11), .ref (z 12), .int (f_15 2), .ref (z 13), .ref (z 14), .int (f_15 3), .ref (z 15)])), (z 1, .inl (gI g, 461, .inl D))] := hD
        refine lv_if_eq (tgt := 47) hx hb dX12_findMoves_40 (by decide) (fun c_22 => ?_) (fun c_22 => ?_)
        · refine lv_iconst (v := 0) hx hb dX12_findMoves_47 (by decide) ?_
          refine va_zast hx hb hKW.1 hP hD hS 2 2 rfl rfl (vp_in_nI (by omega) (by decide)) dX12_findMoves_48 (fun H locs hP hD hS => ?_)
          have hP : va_P g.1 vwCl [(z 8, .inl (gI g, 5, .inl f_11)), (z 9, .inl (gI g, 5, .inl f_18)), (z 10, .inl (gZ g, 5, .inl (upd fa (nI i).toNatClampNeg (vp_nar .boolean 0)))), (z 11, .inl (gI g, 7, .inl f3)), (z 12, .inl (gI g, 7, .inl f4)), (z 6, .inl (gI g, 5, .inl f_16)), (z 7, .inl (gI g, 7, .inl f_17)), (z 0, .inr (12, [.ref (z 1), .ref (z 2), .int (nI kp), .int (f_15 0), .ref (z 3), .ref (z 4), .ref (z 5), .ref (z 6), .int (f_15 1), .ref (z 7), .ref (z 8), .ref (z 9), .ref (z 10), .ref (z 11), .ref (z 12), .int (f_15 2), .ref (z 13), .ref (z 14), .int (f_15 3), .ref (z 15)])), (z 1, .inl (gI g, 461, .inl D))] H := hP
          have hD : va_D A [(z 8, .inl (gI g, 5, .inl f_11)), (z 9, .inl (gI g, 5, .inl f_18)), (z 10, .inl (gZ g, 5, .inl (upd fa (nI i).toNatClampNeg (vp_nar .boolean 0)))), (z 11, .inl (gI g, 7, .inl f3)), (z 12, .inl (gI g, 7, .inl f4)), (z 6, .inl (gI g, 5, .inl f_16)), (z 7, .inl (gI g, 7, .inl f_17)), (z 0, .inr (12, [.ref (z 1), .ref (z 2), .int (nI kp), .int (f_15 0), .ref (z 3), .ref (z 4), .ref (z 5), .ref (z 6), .int (f_15 1), .ref (z 7), .ref (z 8), .ref (z 9), .ref (z 10), .ref (z 11), .ref (z 12), .int (f_15 2), .ref (z 13), .ref (z 14), .int (f_15 3), .ref (z 15)])), (z 1, .inl (gI g, 461, .inl D))] := hD
          obtain ⟨f_23, ef_23⟩ : ∃ zz_ : Nat → Int32, zz_ = upd fa (nI i).toNatClampNeg (vp_nar .boolean 0) := ⟨_, rfl⟩
          rw [← ef_23] at hP hD
          refine lv_iinc (v := nI (i + 1)) (lv' := [(1, .int (nI (i + 1))), (0, .ref (z 0))]) hx hb dX12_findMoves_49 hl (k := 0) rfl (nI_add i 1) (by decide) rfl (fun ls hl => ?_)
          refine lv_goto (tgt := 2) hx hb dX12_findMoves_52 (by decide) ?_
          exact ih2 (i + 1) (f_15 0) (f_15 1) (f_15 2) (f_15 3) f_16 f_17 f_11 f_18 f_23 (by omega) (by first | assumption | omega) H locs (hP.sub [7, 8, 5, 6, 0, 1, 2, 3, 4] rfl) (hD.sub [7, 8, 5, 6, 0, 1, 2, 3, 4] (by decide) rfl) hS ls (lv_sub hl [0, 1] rfl)
        · refine lv_iconst (v := 1) hx hb dX12_findMoves_43 (by decide) ?_
          refine lv_goto (tgt := 48) hx hb dX12_findMoves_44 (by decide) ?_
          refine va_zast hx hb hKW.1 hP hD hS 2 2 rfl rfl (vp_in_nI (by omega) (by decide)) dX12_findMoves_48 (fun H locs hP hD hS => ?_)
          have hP : va_P g.1 vwCl [(z 8, .inl (gI g, 5, .inl f_11)), (z 9, .inl (gI g, 5, .inl f_18)), (z 10, .inl (gZ g, 5, .inl (upd fa (nI i).toNatClampNeg (vp_nar .boolean 1)))), (z 11, .inl (gI g, 7, .inl f3)), (z 12, .inl (gI g, 7, .inl f4)), (z 6, .inl (gI g, 5, .inl f_16)), (z 7, .inl (gI g, 7, .inl f_17)), (z 0, .inr (12, [.ref (z 1), .ref (z 2), .int (nI kp), .int (f_15 0), .ref (z 3), .ref (z 4), .ref (z 5), .ref (z 6), .int (f_15 1), .ref (z 7), .ref (z 8), .ref (z 9), .ref (z 10), .ref (z 11), .ref (z 12), .int (f_15 2), .ref (z 13), .ref (z 14), .int (f_15 3), .ref (z 15)])), (z 1, .inl (gI g, 461, .inl D))] H := hP
          have hD : va_D A [(z 8, .inl (gI g, 5, .inl f_11)), (z 9, .inl (gI g, 5, .inl f_18)), (z 10, .inl (gZ g, 5, .inl (upd fa (nI i).toNatClampNeg (vp_nar .boolean 1)))), (z 11, .inl (gI g, 7, .inl f3)), (z 12, .inl (gI g, 7, .inl f4)), (z 6, .inl (gI g, 5, .inl f_16)), (z 7, .inl (gI g, 7, .inl f_17)), (z 0, .inr (12, [.ref (z 1), .ref (z 2), .int (nI kp), .int (f_15 0), .ref (z 3), .ref (z 4), .ref (z 5), .ref (z 6), .int (f_15 1), .ref (z 7), .ref (z 8), .ref (z 9), .ref (z 10), .ref (z 11), .ref (z 12), .int (f_15 2), .ref (z 13), .ref (z 14), .int (f_15 3), .ref (z 15)])), (z 1, .inl (gI g, 461, .inl D))] := hD
          obtain ⟨f_24, ef_24⟩ : ∃ zz_ : Nat → Int32, zz_ = upd fa (nI i).toNatClampNeg (vp_nar .boolean 1) := ⟨_, rfl⟩
          rw [← ef_24] at hP hD
          refine lv_iinc (v := nI (i + 1)) (lv' := [(1, .int (nI (i + 1))), (0, .ref (z 0))]) hx hb dX12_findMoves_49 hl (k := 0) rfl (nI_add i 1) (by decide) rfl (fun ls hl => ?_)
          refine lv_goto (tgt := 2) hx hb dX12_findMoves_52 (by decide) ?_
          exact ih2 (i + 1) (f_15 0) (f_15 1) (f_15 2) (f_15 3) f_16 f_17 f_11 f_18 f_24 (by omega) (by first | assumption | omega) H locs (hP.sub [7, 8, 5, 6, 0, 1, 2, 3, 4] rfl) (hD.sub [7, 8, 5, 6, 0, 1, 2, 3, 4] (by decide) rfl) hS ls (lv_sub hl [0, 1] rfl)
  exact L2 (5 - 0 + 1) 0 (xs 0) (xs 1) (xs 2) (xs 3) pf cf f0 f1 f2 (Nat.lt_succ_self _) (by first | assumption | omega) H locs (hP.sub [0, 1, 2, 3, 4, 5, 6, 7, 8] rfl) (hD.sub [0, 1, 2, 3, 4, 5, 6, 7, 8] (by decide) rfl) hS ls (lv_sub hl [0, 1] rfl)
theorem dX12_moves_0 : decode cX12_moves 0 = .ok (.aload_n 0, 1) := by decide +kernel
theorem dX12_moves_1 : decode cX12_moves 1 = .ok (.invokevirtual 151, 3) := by decide +kernel
theorem dX12_moves_4 : decode cX12_moves 4 = .ok (.ifCond .eq 10, 3) := by decide +kernel
theorem dX12_moves_7 : decode cX12_moves 7 = .ok (.aload_n 0, 1) := by decide +kernel
theorem dX12_moves_8 : decode cX12_moves 8 = .ok (.getfield 145, 3) := by decide +kernel
theorem dX12_moves_11 : decode cX12_moves 11 = .ok (.goto 9, 3) := by decide +kernel
theorem dX12_moves_20 : decode cX12_moves 20 = .ok (.ireturn, 1) := by decide +kernel
theorem dX12_moves_14 : decode cX12_moves 14 = .ok (.aload_n 0, 1) := by decide +kernel
theorem dX12_moves_15 : decode cX12_moves 15 = .ok (.bipush 6, 2) := by decide +kernel
theorem dX12_moves_17 : decode cX12_moves 17 = .ok (.invokevirtual 68, 3) := by decide +kernel
set_option maxHeartbeats 8000000 in
set_option maxRecDepth 100000 in
theorem c_X12_moves (l : Launch) (g : kG) (sz : Nat) (z : Nat → Nat) (kp : Nat) (xs : Nat → Int32) (D : Nat → Int32) (pf : Nat → Int32) (cf : Nat → Int32) (f0 : Nat → Int32) (f1 : Nat → Int32) (f2 : Nat → Int32) (f3 : Nat → Int32) (f4 : Nat → Int32) (hDI : DI D) : kMi l g yX12_moves cX12_moves 1 (some .int) 12 0 0 [.ref (z 0)] sz [(z 0, .inr (12, [.ref (z 1), .ref (z 2), .int (nI kp), .int (xs 0), .ref (z 3), .ref (z 4), .ref (z 5), .ref (z 6), .int (xs 1), .ref (z 7), .ref (z 8), .ref (z 9), .ref (z 10), .ref (z 11), .ref (z 12), .int (xs 2), .ref (z 13), .ref (z 14), .int (xs 3), .ref (z 15)])), (z 1, .inl (gI g, 461, .inl D)), (z 6, .inl (gI g, 5, .inl pf)), (z 7, .inl (gI g, 7, .inl cf)), (z 8, .inl (gI g, 5, .inl f0)), (z 9, .inl (gI g, 5, .inl f1)), (z 10, .inl (gZ g, 5, .inl f2)), (z 11, .inl (gI g, 7, .inl f3)), (z 12, .inl (gI g, 7, .inl f4))] (fun (r : Int32) (u : (Nat → Int32) × (Nat → Int32) × (Nat → Int32) × (Nat → Int32) × (Nat → Int32) × (Nat → Int32) × (Nat → Int32) × (Nat → Int32)) => True) (fun (u : (Nat → Int32) × (Nat → Int32) × (Nat → Int32) × (Nat → Int32) × (Nat → Int32) × (Nat → Int32) × (Nat → Int32) × (Nat → Int32)) => ([(z 0, .inr (12, [.ref (z 1), .ref (z 2), .int (nI kp), .int (u.1 0), .ref (z 3), .ref (z 4), .ref (z 5), .ref (z 6), .int (u.1 1), .ref (z 7), .ref (z 8), .ref (z 9), .ref (z 10), .ref (z 11), .ref (z 12), .int (u.1 2), .ref (z 13), .ref (z 14), .int (u.1 3), .ref (z 15)])), (z 1, .inl (gI g, 461, .inl D)), (z 6, .inl (gI g, 5, .inl u.2.1)), (z 7, .inl (gI g, 7, .inl u.2.2.1)), (z 8, .inl (gI g, 5, .inl u.2.2.2.1)), (z 9, .inl (gI g, 5, .inl u.2.2.2.2.1)), (z 10, .inl (gZ g, 5, .inl u.2.2.2.2.2.1)), (z 11, .inl (gI g, 7, .inl u.2.2.2.2.2.2.1)), (z 12, .inl (gI g, 7, .inl u.2.2.2.2.2.2.2))] : va_W)) := by
  refine kMi.of (by decide) (Nat.le_of_ble_eq_true rfl) (fun p e s m below meth c A hx hb hr hml hown hts hlk hnm hKW hP hD hS hA ls hl => ?_)
  have hown : s.vm.findClass RX12 = some m.cls := hown
  have hl : lv_has ls 1 [(0, .ref (z 0))] := hl
  refine k_hide hP hS (fun H locs hP hS => ?_)
  refine lv_aload_n hx hb dX12_moves_0 rfl (lv_at hl 0 rfl) ?_
  refine k_Vi [0, 1, 2, 3, 4, 5, 6, 7, 8] [] 0 12 (wr := []) hx hb hml hown hts hKW hP hD hS hA hl.1 (c_X12_findMoves l g _ z kp xs D pf cf f0 f1 f2 f3 f4 (by first | assumption | omega | decide)) rfl rfl rfl wd_31_5 wd_1_5 wd_31_2 wd_31_3 wd_31_4 yd_X12_findMoves ⟨(Nat.le_of_ble_eq_true rfl), (Nat.le_of_ble_eq_true rfl)⟩ rfl rfl rfl rfl (by decide) rfl (Nat.le_of_ble_eq_true rfl) dX12_moves_1 ⟨(Nat.le_of_ble_eq_true rfl), (Nat.le_of_ble_eq_true rfl)⟩ (fun r_1 u_2 H locs hw_3 hP hD hS => ?_)
  obtain ⟨f_4, f_5, f_6, f_7, f_8, f_9, f_10, f_11⟩ := u_2
  have hP : va_P g.1 vwCl [(z 0, .inr (12, [.ref (z 1), .ref (z 2), .int (nI kp), .int (f_4 0), .ref (z 3), .ref (z 4), .ref (z 5), .ref (z 6), .int (f_4 1), .ref (z 7), .ref (z 8), .ref (z 9), .ref (z 10), .ref (z 11), .ref (z 12), .int (f_4 2), .ref (z 13), .ref (z 14), .int (f_4 3), .ref (z 15)])), (z 1, .inl (gI g, 461, .inl D)), (z 6, .inl (gI g, 5, .inl f_5)), (z 7, .inl (gI g, 7, .inl f_6)), (z 8, .inl (gI g, 5, .inl f_7)), (z 9, .inl (gI g, 5, .inl f_8)), (z 10, .inl (gZ g, 5, .inl f_9)), (z 11, .inl (gI g, 7, .inl f_10)), (z 12, .inl (gI g, 7, .inl f_11))] H := hP
  have hD : va_D A [(z 0, .inr (12, [.ref (z 1), .ref (z 2), .int (nI kp), .int (f_4 0), .ref (z 3), .ref (z 4), .ref (z 5), .ref (z 6), .int (f_4 1), .ref (z 7), .ref (z 8), .ref (z 9), .ref (z 10), .ref (z 11), .ref (z 12), .int (f_4 2), .ref (z 13), .ref (z 14), .int (f_4 3), .ref (z 15)])), (z 1, .inl (gI g, 461, .inl D)), (z 6, .inl (gI g, 5, .inl f_5)), (z 7, .inl (gI g, 7, .inl f_6)), (z 8, .inl (gI g, 5, .inl f_7)), (z 9, .inl (gI g, 5, .inl f_8)), (z 10, .inl (gZ g, 5, .inl f_9)), (z 11, .inl (gI g, 7, .inl f_10)), (z 12, .inl (gI g, 7, .inl f_11))] := hD
  rcases (show r_1 = 1 ∨ r_1 = 0 from hw_3) with rfl | rfl <;> clear hw_3
  · refine lv_if_eq (tgt := 14) hx hb dX12_moves_4 (by decide) (fun c => absurd c (by decide)) (fun _ => ?_)
    refine lv_aload_n hx hb dX12_moves_7 rfl (lv_at hl 0 rfl) ?_
    refine va_get (ci := 12) (C := RX12) (T := TX12) (N := 20) hx hb hts inlX12 hown hKW.1 hP 0 rfl rfl 15 (by decide) (hts _ wd_31_1) (fun _ h => h) rfl dX12_moves_8 ?_
    refine lv_goto (tgt := 20) hx hb dX12_moves_11 (by decide) ?_
    exact k_iret (f_4, f_5, f_6, f_7, f_8, f_9, f_10, f_11) [0, 1, 2, 3, 4, 5, 6, 7, 8] hx hb hr hlk hP hD hS trivial rfl rfl rfl (Nat.le_of_ble_eq_true rfl) (Nat.le_of_ble_eq_true rfl) dX12_moves_20
  · refine lv_if_eq (tgt := 14) hx hb dX12_moves_4 (by decide) (fun _ => ?_) (fun c => absurd c (by decide))
    refine lv_aload_n hx hb dX12_moves_14 rfl (lv_at hl 0 rfl) ?_
    refine lv_bipush (v := 6) hx hb dX12_moves_15 (by decide) ?_
    refine k_Vi [0] [1, 2, 3, 4, 5, 6, 7, 8] 0 12 (wr := [(z 1, .inl (gI g, 461, .inl D)), (z 6, .inl (gI g, 5, .inl f_5)), (z 7, .inl (gI g, 7, .inl f_6)), (z 8, .inl (gI g, 5, .inl f_7)), (z 9, .inl (gI g, 5, .inl f_8)), (z 10, .inl (gZ g, 5, .inl f_9)), (z 11, .inl (gI g, 7, .inl f_10)), (z 12, .inl (gI g, 7, .inl f_11))]) hx hb hml hown hts hKW hP hD hS hA hl.1 (c_X12_finding_6 l g _ z kp f_4 ) rfl rfl rfl wd_10_15 wd_1_5 wd_10_12 wd_10_13 wd_10_14 yd_X12_finding ⟨(Nat.le_of_ble_eq_true rfl), (Nat.le_of_ble_eq_true rfl)⟩ rfl rfl rfl rfl (by decide) rfl (Nat.le_of_ble_eq_true rfl) dX12_moves_17 ⟨(Nat.le_of_ble_eq_true rfl), (Nat.le_of_ble_eq_true rfl)⟩ (fun r_12 u_13 H locs hw_14 hP hD hS => ?_)
    have hP : va_P g.1 vwCl [(z 1, .inl (gI g, 461, .inl D)), (z 6, .inl (gI g, 5, .inl f_5)), (z 7, .inl (gI g, 7, .inl f_6)), (z 8, .inl (gI g, 5, .inl f_7)), (z 9, .inl (gI g, 5, .inl f_8)), (z 10, .inl (gZ g, 5, .inl f_9)), (z 11, .inl (gI g, 7, .inl f_10)), (z 12, .inl (gI g, 7, .inl f_11)), (z 0, .inr (12, [.ref (z 1), .ref (z 2), .int (nI kp), .int u_13, .ref (z 3), .ref (z 4), .ref (z 5), .ref (z 6), .int (f_4 1), .ref (z 7), .ref (z 8), .ref (z 9), .ref (z 10), .ref (z 11), .ref (z 12), .int (f_4 2), .ref (z 13), .ref (z 14), .int (f_4 3), .ref (z 15)]))] H := hP
    have hD : va_D A [(z 1, .inl (gI g, 461, .inl D)), (z 6, .inl (gI g, 5, .inl f_5)), (z 7, .inl (gI g, 7, .inl f_6)), (z 8, .inl (gI g, 5, .inl f_7)), (z 9, .inl (gI g, 5, .inl f_8)), (z 10, .inl (gZ g, 5, .inl f_9)), (z 11, .inl (gI g, 7, .inl f_10)), (z 12, .inl (gI g, 7, .inl f_11)), (z 0, .inr (12, [.ref (z 1), .ref (z 2), .int (nI kp), .int u_13, .ref (z 3), .ref (z 4), .ref (z 5), .ref (z 6), .int (f_4 1), .ref (z 7), .ref (z 8), .ref (z 9), .ref (z 10), .ref (z 11), .ref (z 12), .int (f_4 2), .ref (z 13), .ref (z 14), .int (f_4 3), .ref (z 15)]))] := hD
    have hw_14 : r_12 = (-100006) := hw_14
    subst hw_14
    exact k_iret ((fun kk_ => ([u_13, (f_4 1), (f_4 2), (f_4 3)] : List Int32).getD kk_ 0), f_5, f_6, f_7, f_8, f_9, f_10, f_11) [8, 0, 1, 2, 3, 4, 5, 6, 7] hx hb hr hlk hP hD hS trivial rfl rfl rfl (Nat.le_of_ble_eq_true rfl) (Nat.le_of_ble_eq_true rfl) dX12_moves_20
theorem dX12_moved_0 : decode cX12_moved 0 = .ok (.aload_n 0, 1) := by decide +kernel
theorem dX12_moved_1 : decode cX12_moved 1 = .ok (.iload_n 1, 1) := by decide +kernel
theorem dX12_moved_2 : decode cX12_moved 2 = .ok (.invokevirtual 75, 3) := by decide +kernel
theorem dX12_moved_5 : decode cX12_moved 5 = .ok (.ifCond .ne 9, 3) := by decide +kernel
theorem dX12_moved_14 : decode cX12_moved 14 = .ok (.aload_n 0, 1) := by decide +kernel
theorem dX12_moved_15 : decode cX12_moved 15 = .ok (.getfield 7, 3) := by decide +kernel
theorem dX12_moved_18 : decode cX12_moved 18 = .ok (.bipush 40, 2) := by decide +kernel
theorem dX12_moved_20 : decode cX12_moved 20 = .ok (.iload_n 1, 1) := by decide +kernel
theorem dX12_moved_21 : decode cX12_moved 21 = .ok (.iadd, 1) := by decide +kernel
theorem dX12_moved_22 : decode cX12_moved 22 = .ok (.iaload, 1) := by decide +kernel
theorem dX12_moved_23 : decode cX12_moved 23 = .ok (.iconst 1, 1) := by decide +kernel
theorem dX12_moved_24 : decode cX12_moved 24 = .ok (.if_icmp .eq 10, 3) := by decide +kernel
theorem dX12_moved_34 : decode cX12_moved 34 = .ok (.aload_n 0, 1) := by decide +kernel
theorem dX12_moved_35 : decode cX12_moved 35 = .ok (.bipush 6, 2) := by decide +kernel
theorem dX12_moved_37 : decode cX12_moved 37 = .ok (.invokevirtual 68, 3) := by decide +kernel
theorem dX12_moved_40 : decode cX12_moved 40 = .ok (.ireturn, 1) := by decide +kernel
theorem dX12_moved_27 : decode cX12_moved 27 = .ok (.aload_n 0, 1) := by decide +kernel
theorem dX12_moved_28 : decode cX12_moved 28 = .ok (.invokevirtual 151, 3) := by decide +kernel
theorem dX12_moved_31 : decode cX12_moved 31 = .ok (.ifCond .ne 10, 3) := by decide +kernel
theorem dX12_moved_41 : decode cX12_moved 41 = .ok (.aload_n 0, 1) := by decide +kernel
theorem dX12_moved_42 : decode cX12_moved 42 = .ok (.getfield 44, 3) := by decide +kernel
theorem dX12_moved_45 : decode cX12_moved 45 = .ok (.iload_n 1, 1) := by decide +kernel
theorem dX12_moved_46 : decode cX12_moved 46 = .ok (.iaload, 1) := by decide +kernel
theorem dX12_moved_47 : decode cX12_moved 47 = .ok (.ireturn, 1) := by decide +kernel
theorem dX12_moved_8 : decode cX12_moved 8 = .ok (.aload_n 0, 1) := by decide +kernel
theorem dX12_moved_9 : decode cX12_moved 9 = .ok (.iconst 1, 1) := by decide +kernel
theorem dX12_moved_10 : decode cX12_moved 10 = .ok (.invokevirtual 68, 3) := by decide +kernel
theorem dX12_moved_13 : decode cX12_moved 13 = .ok (.ireturn, 1) := by decide +kernel
set_option maxHeartbeats 8000000 in
set_option maxRecDepth 100000 in
theorem c_X12_moved (l : Launch) (g : kG) (sz : Nat) (z : Nat → Nat) (kp : Nat) (xs : Nat → Int32) (D : Nat → Int32) (pf : Nat → Int32) (cf : Nat → Int32) (f0 : Nat → Int32) (f1 : Nat → Int32) (f2 : Nat → Int32) (f3 : Nat → Int32) (f4 : Nat → Int32) (x : Int32) (hDI : DI D) : kMi l g yX12_moved cX12_moved 2 (some .int) 12 0 0 [.ref (z 0), .int x] sz [(z 0, .inr (12, [.ref (z 1), .ref (z 2), .int (nI kp), .int (xs 0), .ref (z 3), .ref (z 4), .ref (z 5), .ref (z 6), .int (xs 1), .ref (z 7), .ref (z 8), .ref (z 9), .ref (z 10), .ref (z 11), .ref (z 12), .int (xs 2), .ref (z 13), .ref (z 14), .int (xs 3), .ref (z 15)])), (z 1, .inl (gI g, 461, .inl D)), (z 6, .inl (gI g, 5, .inl pf)), (z 7, .inl (gI g, 7, .inl cf)), (z 8, .inl (gI g, 5, .inl f0)), (z 9, .inl (gI g, 5, .inl f1)), (z 10, .inl (gZ g, 5, .inl f2)), (z 11, .inl (gI g, 7, .inl f3)), (z 12, .inl (gI g, 7, .inl f4))] (fun (r : Int32) (u : (Nat → Int32) × (Nat → Int32) × (Nat → Int32) × (Nat → Int32) × (Nat → Int32) × (Nat → Int32) × (Nat → Int32) × (Nat → Int32)) => True) (fun (u : (Nat → Int32) × (Nat → Int32) × (Nat → Int32) × (Nat → Int32) × (Nat → Int32) × (Nat → Int32) × (Nat → Int32) × (Nat → Int32)) => ([(z 0, .inr (12, [.ref (z 1), .ref (z 2), .int (nI kp), .int (u.1 0), .ref (z 3), .ref (z 4), .ref (z 5), .ref (z 6), .int (u.1 1), .ref (z 7), .ref (z 8), .ref (z 9), .ref (z 10), .ref (z 11), .ref (z 12), .int (u.1 2), .ref (z 13), .ref (z 14), .int (u.1 3), .ref (z 15)])), (z 1, .inl (gI g, 461, .inl D)), (z 6, .inl (gI g, 5, .inl u.2.1)), (z 7, .inl (gI g, 7, .inl u.2.2.1)), (z 8, .inl (gI g, 5, .inl u.2.2.2.1)), (z 9, .inl (gI g, 5, .inl u.2.2.2.2.1)), (z 10, .inl (gZ g, 5, .inl u.2.2.2.2.2.1)), (z 11, .inl (gI g, 7, .inl u.2.2.2.2.2.2.1)), (z 12, .inl (gI g, 7, .inl u.2.2.2.2.2.2.2))] : va_W)) := by
  refine kMi.of (by decide) (Nat.le_of_ble_eq_true rfl) (fun p e s m below meth c A hx hb hr hml hown hts hlk hnm hKW hP hD hS hA ls hl => ?_)
  have hown : s.vm.findClass RX12 = some m.cls := hown
  have hl : lv_has ls 2 [(0, .ref (z 0)), (1, .int x)] := hl
  refine k_hide hP hS (fun H locs hP hS => ?_)
  refine lv_aload_n hx hb dX12_moved_0 rfl (lv_at hl 0 rfl) ?_
  refine lv_iload_n hx hb dX12_moved_1 rfl (lv_at hl 1 rfl) ?_
  refine k_Vi [0, 1] [2, 3, 4, 5, 6, 7, 8] 0 12 (wr := [(z 6, .inl (gI g, 5, .inl pf)), (z 7, .inl (gI g, 7, .inl cf)), (z 8, .inl (gI g, 5, .inl f0)), (z 9, .inl (gI g, 5, .inl f1)), (z 10, .inl (gZ g, 5, .inl f2)), (z 11, .inl (gI g, 7, .inl f3)), (z 12, .inl (gI g, 7, .inl f4))]) hx hb hml hown hts hKW hP hD hS hA hl.1 (c_X12_isHand l g _ z kp xs D x (by first | assumption | omega | decide)) rfl rfl rfl wd_12_14 wd_1_5 wd_12_11 wd_12_12 wd_12_13 yd_X12_isHand ⟨(Nat.le_of_ble_eq_true rfl), (Nat.le_of_ble_eq_true rfl)⟩ rfl rfl rfl rfl (by decide) rfl (Nat.le_of_ble_eq_true rfl) dX12_moved_2 ⟨(Nat.le_of_ble_eq_true rfl), (Nat.le_of_ble_eq_true rfl)⟩ (fun r_1 u_2 H locs hw_3 hP hD hS => ?_)
  have hP : va_P g.1 vwCl [(z 6, .inl (gI g, 5, .inl pf)), (z 7, .inl (gI g, 7, .inl cf)), (z 8, .inl (gI g, 5, .inl f0)), (z 9, .inl (gI g, 5, .inl f1)), (z 10, .inl (gZ g, 5, .inl f2)), (z 11, .inl (gI g, 7, .inl f3)), (z 12, .inl (gI g, 7, .inl f4)), (z 0, .inr (12, [.ref (z 1), .ref (z 2), .int (nI kp), .int (xs 0), .ref (z 3), .ref (z 4), .ref (z 5), .ref (z 6), .int (xs 1), .ref (z 7), .ref (z 8), .ref (z 9), .ref (z 10), .ref (z 11), .ref (z 12), .int (xs 2), .ref (z 13), .ref (z 14), .int (xs 3), .ref (z 15)])), (z 1, .inl (gI g, 461, .inl D))] H := hP
  have hD : va_D A [(z 6, .inl (gI g, 5, .inl pf)), (z 7, .inl (gI g, 7, .inl cf)), (z 8, .inl (gI g, 5, .inl f0)), (z 9, .inl (gI g, 5, .inl f1)), (z 10, .inl (gZ g, 5, .inl f2)), (z 11, .inl (gI g, 7, .inl f3)), (z 12, .inl (gI g, 7, .inl f4)), (z 0, .inr (12, [.ref (z 1), .ref (z 2), .int (nI kp), .int (xs 0), .ref (z 3), .ref (z 4), .ref (z 5), .ref (z 6), .int (xs 1), .ref (z 7), .ref (z 8), .ref (z 9), .ref (z 10), .ref (z 11), .ref (z 12), .int (xs 2), .ref (z 13), .ref (z 14), .int (xs 3), .ref (z 15)])), (z 1, .inl (gI g, 461, .inl D))] := hD
  rcases (show (r_1 = 1 ∧ (∃ j : Nat, (j < 7 ∧ (j : Int) < (D 1).toInt) ∧ x = nI j)) ∨ (r_1 = 0 ∧ ¬ (∃ j : Nat, (j < 7 ∧ (j : Int) < (D 1).toInt) ∧ x = nI j)) from hw_3) with ⟨rfl, hw_3b⟩ | ⟨rfl, hw_3b⟩ <;> clear hw_3
  · obtain ⟨j_4, hj_4, rfl⟩ := hw_3b
    refine lv_if_ne (tgt := 14) hx hb dX12_moved_5 (by decide) (fun _ => ?_) (fun c => absurd c (by decide))
    refine lv_aload_n hx hb dX12_moved_14 rfl (lv_at hl 0 rfl) ?_
    refine va_get (ci := 12) (C := RX12) (T := TX12) (N := 20) hx hb hts inlX12 hown hKW.1 hP 7 rfl rfl 0 (by decide) (hts _ wd_6_5) (fun _ h => h) rfl dX12_moved_15 ?_
    refine lv_bipush (v := 40) hx hb dX12_moved_18 (by decide) ?_
    refine lv_iload_n hx hb dX12_moved_20 rfl (lv_at hl 1 rfl) ?_
    refine lv_iadd hx hb dX12_moved_21 ?_
    refine k_top (y := nI (j_4 + 40)) (by rw [Nat.add_comm]; exact nI_add 40 j_4) ?_
    refine va_iald hx hb hKW.1 hP 8 0 rfl rfl (vp_in_nI (by omega) (by decide)) dX12_moved_22 ?_
    refine lv_topi (fun x_5 ex_5 => ?_)
    refine lv_iconst (v := 1) hx hb dX12_moved_23 (by decide) ?_
    refine lv_icmp_eq (tgt := 34) hx hb dX12_moved_24 (by decide) (fun c_6 => ?_) (fun c_6 => ?_)
    · refine lv_aload_n hx hb dX12_moved_34 rfl (lv_at hl 0 rfl) ?_
      refine lv_bipush (v := 6) hx hb dX12_moved_35 (by decide) ?_
      refine k_Vi [7] [0, 1, 2, 3, 4, 5, 6, 8] 7 12 (wr := [(z 6, .inl (gI g, 5, .inl pf)), (z 7, .inl (gI g, 7, .inl cf)), (z 8, .inl (gI g, 5, .inl f0)), (z 9, .inl (gI g, 5, .inl f1)), (z 10, .inl (gZ g, 5, .inl f2)), (z 11, .inl (gI g, 7, .inl f3)), (z 12, .inl (gI g, 7, .inl f4)), (z 1, .inl (gI g, 461, .inl D))]) hx hb hml hown hts hKW hP hD hS hA hl.1 (c_X12_finding_6 l g _ z kp xs ) rfl rfl rfl wd_10_15 wd_1_5 wd_10_12 wd_10_13 wd_10_14 yd_X12_finding ⟨(Nat.le_of_ble_eq_true rfl), (Nat.le_of_ble_eq_true rfl)⟩ rfl rfl rfl rfl (by decide) rfl (Nat.le_of_ble_eq_true rfl) dX12_moved_37 ⟨(Nat.le_of_ble_eq_true rfl), (Nat.le_of_ble_eq_true rfl)⟩ (fun r_7 u_8 H locs hw_9 hP hD hS => ?_)
      have hP : va_P g.1 vwCl [(z 6, .inl (gI g, 5, .inl pf)), (z 7, .inl (gI g, 7, .inl cf)), (z 8, .inl (gI g, 5, .inl f0)), (z 9, .inl (gI g, 5, .inl f1)), (z 10, .inl (gZ g, 5, .inl f2)), (z 11, .inl (gI g, 7, .inl f3)), (z 12, .inl (gI g, 7, .inl f4)), (z 1, .inl (gI g, 461, .inl D)), (z 0, .inr (12, [.ref (z 1), .ref (z 2), .int (nI kp), .int u_8, .ref (z 3), .ref (z 4), .ref (z 5), .ref (z 6), .int (xs 1), .ref (z 7), .ref (z 8), .ref (z 9), .ref (z 10), .ref (z 11), .ref (z 12), .int (xs 2), .ref (z 13), .ref (z 14), .int (xs 3), .ref (z 15)]))] H := hP
      have hD : va_D A [(z 6, .inl (gI g, 5, .inl pf)), (z 7, .inl (gI g, 7, .inl cf)), (z 8, .inl (gI g, 5, .inl f0)), (z 9, .inl (gI g, 5, .inl f1)), (z 10, .inl (gZ g, 5, .inl f2)), (z 11, .inl (gI g, 7, .inl f3)), (z 12, .inl (gI g, 7, .inl f4)), (z 1, .inl (gI g, 461, .inl D)), (z 0, .inr (12, [.ref (z 1), .ref (z 2), .int (nI kp), .int u_8, .ref (z 3), .ref (z 4), .ref (z 5), .ref (z 6), .int (xs 1), .ref (z 7), .ref (z 8), .ref (z 9), .ref (z 10), .ref (z 11), .ref (z 12), .int (xs 2), .ref (z 13), .ref (z 14), .int (xs 3), .ref (z 15)]))] := hD
      have hw_9 : r_7 = (-100006) := hw_9
      subst hw_9
      exact k_iret ((fun kk_ => ([u_8, (xs 1), (xs 2), (xs 3)] : List Int32).getD kk_ 0), pf, cf, f0, f1, f2, f3, f4) [8, 7, 0, 1, 2, 3, 4, 5, 6] hx hb hr hlk hP hD hS trivial rfl rfl rfl (Nat.le_of_ble_eq_true rfl) (Nat.le_of_ble_eq_true rfl) dX12_moved_40
    · refine lv_aload_n hx hb dX12_moved_27 rfl (lv_at hl 0 rfl) ?_
      refine k_Vi [7, 8, 0, 1, 2, 3, 4, 5, 6] [] 7 12 (wr := []) hx hb hml hown hts hKW hP hD hS hA hl.1 (c_X12_findMoves l g _ z kp xs D pf cf f0 f1 f2 f3 f4 (by first | assumption | omega | decide)) rfl rfl rfl wd_31_5 wd_1_5 wd_31_2 wd_31_3 wd_31_4 yd_X12_findMoves ⟨(Nat.le_of_ble_eq_true rfl), (Nat.le_of_ble_eq_true rfl)⟩ rfl rfl rfl rfl (by decide) rfl (Nat.le_of_ble_eq_true rfl) dX12_moved_28 ⟨(Nat.le_of_ble_eq_true rfl), (Nat.le_of_ble_eq_true rfl)⟩ (fun r_10 u_11 H locs hw_12 hP hD hS => ?_)
      obtain ⟨f_13, f_14, f_15, f_16, f_17, f_18, f_19, f_20⟩ := u_11
      have hP : va_P g.1 vwCl [(z 0, .inr (12, [.ref (z 1), .ref (z 2), .int (nI kp), .int (f_13 0), .ref (z 3), .ref (z 4), .ref (z 5), .ref (z 6), .int (f_13 1), .ref (z 7), .ref (z 8), .ref (z 9), .ref (z 10), .ref (z 11), .ref (z 12), .int (f_13 2), .ref (z 13), .ref (z 14), .int (f_13 3), .ref (z 15)])), (z 1, .inl (gI g, 461, .inl D)), (z 6, .inl (gI g, 5, .inl f_14)), (z 7, .inl (gI g, 7, .inl f_15)), (z 8, .inl (gI g, 5, .inl f_16)), (z 9, .inl (gI g, 5, .inl f_17)), (z 10, .inl (gZ g, 5, .inl f_18)), (z 11, .inl (gI g, 7, .inl f_19)), (z 12, .inl (gI g, 7, .inl f_20))] H := hP
      have hD : va_D A [(z 0, .inr (12, [.ref (z 1), .ref (z 2), .int (nI kp), .int (f_13 0), .ref (z 3), .ref (z 4), .ref (z 5), .ref (z 6), .int (f_13 1), .ref (z 7), .ref (z 8), .ref (z 9), .ref (z 10), .ref (z 11), .ref (z 12), .int (f_13 2), .ref (z 13), .ref (z 14), .int (f_13 3), .ref (z 15)])), (z 1, .inl (gI g, 461, .inl D)), (z 6, .inl (gI g, 5, .inl f_14)), (z 7, .inl (gI g, 7, .inl f_15)), (z 8, .inl (gI g, 5, .inl f_16)), (z 9, .inl (gI g, 5, .inl f_17)), (z 10, .inl (gZ g, 5, .inl f_18)), (z 11, .inl (gI g, 7, .inl f_19)), (z 12, .inl (gI g, 7, .inl f_20))] := hD
      rcases (show r_10 = 1 ∨ r_10 = 0 from hw_12) with rfl | rfl <;> clear hw_12
      · refine lv_if_ne (tgt := 41) hx hb dX12_moved_31 (by decide) (fun _ => ?_) (fun c => absurd c (by decide))
        refine lv_aload_n hx hb dX12_moved_41 rfl (lv_at hl 0 rfl) ?_
        refine va_get (ci := 12) (C := RX12) (T := TX12) (N := 20) hx hb hts inlX12 hown hKW.1 hP 0 rfl rfl 14 (by decide) (hts _ wd_6_17) (fun _ h => h) rfl dX12_moved_42 ?_
        refine lv_iload_n hx hb dX12_moved_45 rfl (lv_at hl 1 rfl) ?_
        refine va_iald hx hb hKW.1 hP 8 0 rfl rfl (vp_in_nI (by omega) (by decide)) dX12_moved_46 ?_
        refine lv_topi (fun x_21 ex_21 => ?_)
        exact k_iret (f_13, f_14, f_15, f_16, f_17, f_18, f_19, f_20) [0, 1, 2, 3, 4, 5, 6, 7, 8] hx hb hr hlk hP hD hS trivial rfl rfl rfl (Nat.le_of_ble_eq_true rfl) (Nat.le_of_ble_eq_true rfl) dX12_moved_47
      · refine lv_if_ne (tgt := 41) hx hb dX12_moved_31 (by decide) (fun c => absurd c (by decide)) (fun _ => ?_)
        refine lv_aload_n hx hb dX12_moved_34 rfl (lv_at hl 0 rfl) ?_
        refine lv_bipush (v := 6) hx hb dX12_moved_35 (by decide) ?_
        refine k_Vi [0] [1, 2, 3, 4, 5, 6, 7, 8] 0 12 (wr := [(z 1, .inl (gI g, 461, .inl D)), (z 6, .inl (gI g, 5, .inl f_14)), (z 7, .inl (gI g, 7, .inl f_15)), (z 8, .inl (gI g, 5, .inl f_16)), (z 9, .inl (gI g, 5, .inl f_17)), (z 10, .inl (gZ g, 5, .inl f_18)), (z 11, .inl (gI g, 7, .inl f_19)), (z 12, .inl (gI g, 7, .inl f_20))]) hx hb hml hown hts hKW hP hD hS hA hl.1 (c_X12_finding_6 l g _ z kp f_13 ) rfl rfl rfl wd_10_15 wd_1_5 wd_10_12 wd_10_13 wd_10_14 yd_X12_finding ⟨(Nat.le_of_ble_eq_true rfl), (Nat.le_of_ble_eq_true rfl)⟩ rfl rfl rfl rfl (by decide) rfl (Nat.le_of_ble_eq_true rfl) dX12_moved_37 ⟨(Nat.le_of_ble_eq_true rfl), (Nat.le_of_ble_eq_true rfl)⟩ (fun r_22 u_23 H locs hw_24 hP hD hS => ?_)
        have hP : va_P g.1 vwCl [(z 1, .inl (gI g, 461, .inl D)), (z 6, .inl (gI g, 5, .inl f_14)), (z 7, .inl (gI g, 7, .inl f_15)), (z 8, .inl (gI g, 5, .inl f_16)), (z 9, .inl (gI g, 5, .inl f_17)), (z 10, .inl (gZ g, 5, .inl f_18)), (z 11, .inl (gI g, 7, .inl f_19)), (z 12, .inl (gI g, 7, .inl f_20)), (z 0, .inr (12, [.ref (z 1), .ref (z 2), .int (nI kp), .int u_23, .ref (z 3), .ref (z 4), .ref (z 5), .ref (z 6), .int (f_13 1), .ref (z 7), .ref (z 8), .ref (z 9), .ref (z 10), .ref (z 11), .ref (z 12), .int (f_13 2), .ref (z 13), .ref (z 14), .int (f_13 3), .ref (z 15)]))] H := hP
        have hD : va_D A [(z 1, .inl (gI g, 461, .inl D)), (z 6, .inl (gI g, 5, .inl f_14)), (z 7, .inl (gI g, 7, .inl f_15)), (z 8, .inl (gI g, 5, .inl f_16)), (z 9, .inl (gI g, 5, .inl f_17)), (z 10, .inl (gZ g, 5, .inl f_18)), (z 11, .inl (gI g, 7, .inl f_19)), (z 12, .inl (gI g, 7, .inl f_20)), (z 0, .inr (12, [.ref (z 1), .ref (z 2), .int (nI kp), .int u_23, .ref (z 3), .ref (z 4), .ref (z 5), .ref (z 6), .int (f_13 1), .ref (z 7), .ref (z 8), .ref (z 9), .ref (z 10), .ref (z 11), .ref (z 12), .int (f_13 2), .ref (z 13), .ref (z 14), .int (f_13 3), .ref (z 15)]))] := hD
        have hw_24 : r_22 = (-100006) := hw_24
        subst hw_24
        exact k_iret ((fun kk_ => ([u_23, (f_13 1), (f_13 2), (f_13 3)] : List Int32).getD kk_ 0), f_14, f_15, f_16, f_17, f_18, f_19, f_20) [8, 0, 1, 2, 3, 4, 5, 6, 7] hx hb hr hlk hP hD hS trivial rfl rfl rfl (Nat.le_of_ble_eq_true rfl) (Nat.le_of_ble_eq_true rfl) dX12_moved_40
  · refine lv_if_ne (tgt := 14) hx hb dX12_moved_5 (by decide) (fun c => absurd c (by decide)) (fun _ => ?_)
    refine lv_aload_n hx hb dX12_moved_8 rfl (lv_at hl 0 rfl) ?_
    refine lv_iconst (v := 1) hx hb dX12_moved_9 (by decide) ?_
    refine k_Vi [7] [0, 1, 2, 3, 4, 5, 6, 8] 7 12 (wr := [(z 6, .inl (gI g, 5, .inl pf)), (z 7, .inl (gI g, 7, .inl cf)), (z 8, .inl (gI g, 5, .inl f0)), (z 9, .inl (gI g, 5, .inl f1)), (z 10, .inl (gZ g, 5, .inl f2)), (z 11, .inl (gI g, 7, .inl f3)), (z 12, .inl (gI g, 7, .inl f4)), (z 1, .inl (gI g, 461, .inl D))]) hx hb hml hown hts hKW hP hD hS hA hl.1 (c_X12_finding_1 l g _ z kp xs ) rfl rfl rfl wd_10_15 wd_1_5 wd_10_12 wd_10_13 wd_10_14 yd_X12_finding ⟨(Nat.le_of_ble_eq_true rfl), (Nat.le_of_ble_eq_true rfl)⟩ rfl rfl rfl rfl (by decide) rfl (Nat.le_of_ble_eq_true rfl) dX12_moved_10 ⟨(Nat.le_of_ble_eq_true rfl), (Nat.le_of_ble_eq_true rfl)⟩ (fun r_25 u_26 H locs hw_27 hP hD hS => ?_)
    have hP : va_P g.1 vwCl [(z 6, .inl (gI g, 5, .inl pf)), (z 7, .inl (gI g, 7, .inl cf)), (z 8, .inl (gI g, 5, .inl f0)), (z 9, .inl (gI g, 5, .inl f1)), (z 10, .inl (gZ g, 5, .inl f2)), (z 11, .inl (gI g, 7, .inl f3)), (z 12, .inl (gI g, 7, .inl f4)), (z 1, .inl (gI g, 461, .inl D)), (z 0, .inr (12, [.ref (z 1), .ref (z 2), .int (nI kp), .int u_26, .ref (z 3), .ref (z 4), .ref (z 5), .ref (z 6), .int (xs 1), .ref (z 7), .ref (z 8), .ref (z 9), .ref (z 10), .ref (z 11), .ref (z 12), .int (xs 2), .ref (z 13), .ref (z 14), .int (xs 3), .ref (z 15)]))] H := hP
    have hD : va_D A [(z 6, .inl (gI g, 5, .inl pf)), (z 7, .inl (gI g, 7, .inl cf)), (z 8, .inl (gI g, 5, .inl f0)), (z 9, .inl (gI g, 5, .inl f1)), (z 10, .inl (gZ g, 5, .inl f2)), (z 11, .inl (gI g, 7, .inl f3)), (z 12, .inl (gI g, 7, .inl f4)), (z 1, .inl (gI g, 461, .inl D)), (z 0, .inr (12, [.ref (z 1), .ref (z 2), .int (nI kp), .int u_26, .ref (z 3), .ref (z 4), .ref (z 5), .ref (z 6), .int (xs 1), .ref (z 7), .ref (z 8), .ref (z 9), .ref (z 10), .ref (z 11), .ref (z 12), .int (xs 2), .ref (z 13), .ref (z 14), .int (xs 3), .ref (z 15)]))] := hD
    have hw_27 : r_25 = (-100001) := hw_27
    subst hw_27
    exact k_iret ((fun kk_ => ([u_26, (xs 1), (xs 2), (xs 3)] : List Int32).getD kk_ 0), pf, cf, f0, f1, f2, f3, f4) [8, 7, 0, 1, 2, 3, 4, 5, 6] hx hb hr hlk hP hD hS trivial rfl rfl rfl (Nat.le_of_ble_eq_true rfl) (Nat.le_of_ble_eq_true rfl) dX12_moved_13
theorem dX12_as_0 : decode cX12_as 0 = .ok (.aload_n 0, 1) := by decide +kernel
theorem dX12_as_1 : decode cX12_as 1 = .ok (.iload_n 1, 1) := by decide +kernel
theorem dX12_as_2 : decode cX12_as 2 = .ok (.invokevirtual 75, 3) := by decide +kernel
theorem dX12_as_5 : decode cX12_as 5 = .ok (.ifCond .eq 12, 3) := by decide +kernel
theorem dX12_as_8 : decode cX12_as 8 = .ok (.iload_n 2, 1) := by decide +kernel
theorem dX12_as_9 : decode cX12_as 9 = .ok (.iconst 0, 1) := by decide +kernel
theorem dX12_as_10 : decode cX12_as 10 = .ok (.iconst 3, 1) := by decide +kernel
theorem dX12_as_11 : decode cX12_as 11 = .ok (.invokestatic 64, 3) := by decide +kernel
theorem dX12_as_14 : decode cX12_as 14 = .ok (.ifCond .ne 9, 3) := by decide +kernel
theorem dX12_as_23 : decode cX12_as 23 = .ok (.iload_n 2, 1) := by decide +kernel
theorem dX12_as_24 : decode cX12_as 24 = .ok (.ifCond .eq 29, 3) := by decide +kernel
theorem dX12_as_53 : decode cX12_as 53 = .ok (.iload_n 1, 1) := by decide +kernel
theorem dX12_as_54 : decode cX12_as 54 = .ok (.goto 8, 3) := by decide +kernel
theorem dX12_as_62 : decode cX12_as 62 = .ok (.ireturn, 1) := by decide +kernel
theorem dX12_as_27 : decode cX12_as 27 = .ok (.aload_n 0, 1) := by decide +kernel
theorem dX12_as_28 : decode cX12_as 28 = .ok (.getfield 7, 3) := by decide +kernel
theorem dX12_as_31 : decode cX12_as 31 = .ok (.bipush 26, 2) := by decide +kernel
theorem dX12_as_33 : decode cX12_as 33 = .ok (.iload_n 1, 1) := by decide +kernel
theorem dX12_as_34 : decode cX12_as 34 = .ok (.iadd, 1) := by decide +kernel
theorem dX12_as_35 : decode cX12_as 35 = .ok (.iaload, 1) := by decide +kernel
theorem dX12_as_36 : decode cX12_as 36 = .ok (.iload_n 2, 1) := by decide +kernel
theorem dX12_as_37 : decode cX12_as 37 = .ok (.if_icmp .eq 16, 3) := by decide +kernel
theorem dX12_as_40 : decode cX12_as 40 = .ok (.iload_n 2, 1) := by decide +kernel
theorem dX12_as_41 : decode cX12_as 41 = .ok (.iconst 1, 1) := by decide +kernel
theorem dX12_as_42 : decode cX12_as 42 = .ok (.if_icmp .ne 15, 3) := by decide +kernel
theorem dX12_as_57 : decode cX12_as 57 = .ok (.aload_n 0, 1) := by decide +kernel
theorem dX12_as_58 : decode cX12_as 58 = .ok (.iconst 4, 1) := by decide +kernel
theorem dX12_as_59 : decode cX12_as 59 = .ok (.invokevirtual 68, 3) := by decide +kernel
theorem dX12_as_45 : decode cX12_as 45 = .ok (.aload_n 0, 1) := by decide +kernel
theorem dX12_as_46 : decode cX12_as 46 = .ok (.iload_n 1, 1) := by decide +kernel
theorem dX12_as_47 : decode cX12_as 47 = .ok (.invokevirtual 79, 3) := by decide +kernel
theorem dX12_as_50 : decode cX12_as 50 = .ok (.ifCond .eq 7, 3) := by decide +kernel
theorem dX12_as_17 : decode cX12_as 17 = .ok (.aload_n 0, 1) := by decide +kernel
theorem dX12_as_18 : decode cX12_as 18 = .ok (.iconst 1, 1) := by decide +kernel
theorem dX12_as_19 : decode cX12_as 19 = .ok (.invokevirtual 68, 3) := by decide +kernel
theorem dX12_as_22 : decode cX12_as 22 = .ok (.ireturn, 1) := by decide +kernel
set_option maxHeartbeats 8000000 in
set_option maxRecDepth 100000 in
theorem c_X12_as (l : Launch) (g : kG) (sz : Nat) (z : Nat → Nat) (kp : Nat) (xs : Nat → Int32) (D : Nat → Int32) (x : Int32) (y : Int32) (hDI : DI D) : kMi l g yX12_as cX12_as 3 (some .int) 4 0 0 [.ref (z 0), .int x, .int y] sz [(z 0, .inr (12, [.ref (z 1), .ref (z 2), .int (nI kp), .int (xs 0), .ref (z 3), .ref (z 4), .ref (z 5), .ref (z 6), .int (xs 1), .ref (z 7), .ref (z 8), .ref (z 9), .ref (z 10), .ref (z 11), .ref (z 12), .int (xs 2), .ref (z 13), .ref (z 14), .int (xs 3), .ref (z 15)])), (z 1, .inl (gI g, 461, .inl D))] (fun (r : Int32) (u : (Nat → Int32)) => True) (fun (u : (Nat → Int32)) => ([(z 0, .inr (12, [.ref (z 1), .ref (z 2), .int (nI kp), .int (u 0), .ref (z 3), .ref (z 4), .ref (z 5), .ref (z 6), .int (u 1), .ref (z 7), .ref (z 8), .ref (z 9), .ref (z 10), .ref (z 11), .ref (z 12), .int (u 2), .ref (z 13), .ref (z 14), .int (u 3), .ref (z 15)])), (z 1, .inl (gI g, 461, .inl D))] : va_W)) := by
  refine kMi.of (by decide) (Nat.le_of_ble_eq_true rfl) (fun p e s m below meth c A hx hb hr hml hown hts hlk hnm hKW hP hD hS hA ls hl => ?_)
  have hown : s.vm.findClass RX12 = some m.cls := hown
  have hl : lv_has ls 3 [(0, .ref (z 0)), (1, .int x), (2, .int y)] := hl
  refine k_hide hP hS (fun H locs hP hS => ?_)
  refine lv_aload_n hx hb dX12_as_0 rfl (lv_at hl 0 rfl) ?_
  refine lv_iload_n hx hb dX12_as_1 rfl (lv_at hl 1 rfl) ?_
  refine k_Vi [0, 1] [] 0 12 (wr := []) hx hb hml hown hts hKW hP hD hS hA hl.1 (c_X12_isHand l g _ z kp xs D x (by first | assumption | omega | decide)) rfl rfl rfl wd_12_14 wd_1_5 wd_12_11 wd_12_12 wd_12_13 yd_X12_isHand ⟨(Nat.le_of_ble_eq_true rfl), (Nat.le_of_ble_eq_true rfl)⟩ rfl rfl rfl rfl (by decide) rfl (Nat.le_of_ble_eq_true rfl) dX12_as_2 ⟨(Nat.le_of_ble_eq_true rfl), (Nat.le_of_ble_eq_true rfl)⟩ (fun r_1 u_2 H locs hw_3 hP hD hS => ?_)
  have hP : va_P g.1 vwCl [(z 0, .inr (12, [.ref (z 1), .ref (z 2), .int (nI kp), .int (xs 0), .ref (z 3), .ref (z 4), .ref (z 5), .ref (z 6), .int (xs 1), .ref (z 7), .ref (z 8), .ref (z 9), .ref (z 10), .ref (z 11), .ref (z 12), .int (xs 2), .ref (z 13), .ref (z 14), .int (xs 3), .ref (z 15)])), (z 1, .inl (gI g, 461, .inl D))] H := hP
  have hD : va_D A [(z 0, .inr (12, [.ref (z 1), .ref (z 2), .int (nI kp), .int (xs 0), .ref (z 3), .ref (z 4), .ref (z 5), .ref (z 6), .int (xs 1), .ref (z 7), .ref (z 8), .ref (z 9), .ref (z 10), .ref (z 11), .ref (z 12), .int (xs 2), .ref (z 13), .ref (z 14), .int (xs 3), .ref (z 15)])), (z 1, .inl (gI g, 461, .inl D))] := hD
  rcases (show (r_1 = 1 ∧ (∃ j : Nat, (j < 7 ∧ (j : Int) < (D 1).toInt) ∧ x = nI j)) ∨ (r_1 = 0 ∧ ¬ (∃ j : Nat, (j < 7 ∧ (j : Int) < (D 1).toInt) ∧ x = nI j)) from hw_3) with ⟨rfl, hw_3b⟩ | ⟨rfl, hw_3b⟩ <;> clear hw_3
  · obtain ⟨j_4, hj_4, rfl⟩ := hw_3b
    refine lv_if_eq (tgt := 17) hx hb dX12_as_5 (by decide) (fun c => absurd c (by decide)) (fun _ => ?_)
    refine lv_iload_n hx hb dX12_as_8 rfl (lv_at hl 2 rfl) ?_
    refine lv_iconst (v := 0) hx hb dX12_as_9 (by decide) ?_
    refine lv_iconst (v := 3) hx hb dX12_as_10 (by decide) ?_
    refine k_Si [] [0, 1] (wr := [(z 0, .inr (12, [.ref (z 1), .ref (z 2), .int (nI kp), .int (xs 0), .ref (z 3), .ref (z 4), .ref (z 5), .ref (z 6), .int (xs 1), .ref (z 7), .ref (z 8), .ref (z 9), .ref (z 10), .ref (z 11), .ref (z 12), .int (xs 2), .ref (z 13), .ref (z 14), .int (xs 3), .ref (z 15)])), (z 1, .inl (gI g, 461, .inl D))]) hx hb hml hown hts hKW hP hD hS hA hl.1 (c_X12_isIn l g _ y 0 3 ) wd_10_11 wd_1_5 wd_10_9 wd_10_10 yd_X12_isIn ⟨(Nat.le_of_ble_eq_true rfl), (Nat.le_of_ble_eq_true rfl)⟩ rfl rfl rfl rfl (by decide) rfl (Nat.le_of_ble_eq_true rfl) dX12_as_11 ⟨(Nat.le_of_ble_eq_true rfl), (Nat.le_of_ble_eq_true rfl)⟩ (fun r_5 u_6 H locs hw_7 hP hD hS => ?_)
    have hP : va_P g.1 vwCl [(z 0, .inr (12, [.ref (z 1), .ref (z 2), .int (nI kp), .int (xs 0), .ref (z 3), .ref (z 4), .ref (z 5), .ref (z 6), .int (xs 1), .ref (z 7), .ref (z 8), .ref (z 9), .ref (z 10), .ref (z 11), .ref (z 12), .int (xs 2), .ref (z 13), .ref (z 14), .int (xs 3), .ref (z 15)])), (z 1, .inl (gI g, 461, .inl D))] H := hP
    have hD : va_D A [(z 0, .inr (12, [.ref (z 1), .ref (z 2), .int (nI kp), .int (xs 0), .ref (z 3), .ref (z 4), .ref (z 5), .ref (z 6), .int (xs 1), .ref (z 7), .ref (z 8), .ref (z 9), .ref (z 10), .ref (z 11), .ref (z 12), .int (xs 2), .ref (z 13), .ref (z 14), .int (xs 3), .ref (z 15)])), (z 1, .inl (gI g, 461, .inl D))] := hD
    rcases (show (r_5 = 1 ∧ (Int32.toInt 0 ≤ Int32.toInt y ∧ Int32.toInt y ≤ Int32.toInt 3)) ∨ (r_5 = 0 ∧ ¬ (Int32.toInt 0 ≤ Int32.toInt y ∧ Int32.toInt y ≤ Int32.toInt 3)) from hw_7) with ⟨rfl, hw_7b⟩ | ⟨rfl, hw_7b⟩ <;> clear hw_7
    · refine lv_if_ne (tgt := 23) hx hb dX12_as_14 (by decide) (fun _ => ?_) (fun c => absurd c (by decide))
      refine lv_iload_n hx hb dX12_as_23 rfl (lv_at hl 2 rfl) ?_
      refine lv_if_eq (tgt := 53) hx hb dX12_as_24 (by decide) (fun c_8 => ?_) (fun c_8 => ?_)
      · refine lv_iload_n hx hb dX12_as_53 rfl (lv_at hl 1 rfl) ?_
        refine lv_goto (tgt := 62) hx hb dX12_as_54 (by decide) ?_
        exact k_iret xs [0, 1] hx hb hr hlk hP hD hS trivial rfl rfl rfl (Nat.le_of_ble_eq_true rfl) (Nat.le_of_ble_eq_true rfl) dX12_as_62
      · refine lv_aload_n hx hb dX12_as_27 rfl (lv_at hl 0 rfl) ?_
        refine va_get (ci := 12) (C := RX12) (T := TX12) (N := 20) hx hb hts inlX12 hown hKW.1 hP 0 rfl rfl 0 (by decide) (hts _ wd_6_5) (fun _ h => h) rfl dX12_as_28 ?_
        refine lv_bipush (v := 26) hx hb dX12_as_31 (by decide) ?_
        refine lv_iload_n hx hb dX12_as_33 rfl (lv_at hl 1 rfl) ?_
        refine lv_iadd hx hb dX12_as_34 ?_
        refine k_top (y := nI (j_4 + 26)) (by rw [Nat.add_comm]; exact nI_add 26 j_4) ?_
        refine va_iald hx hb hKW.1 hP 1 0 rfl rfl (vp_in_nI (by omega) (by decide)) dX12_as_35 ?_
        refine lv_topi (fun x_9 ex_9 => ?_)
        refine lv_iload_n hx hb dX12_as_36 rfl (lv_at hl 2 rfl) ?_
        refine lv_icmp_eq (tgt := 53) hx hb dX12_as_37 (by decide) (fun c_10 => ?_) (fun c_10 => ?_)
        · refine lv_iload_n hx hb dX12_as_53 rfl (lv_at hl 1 rfl) ?_
          refine lv_goto (tgt := 62) hx hb dX12_as_54 (by decide) ?_
          exact k_iret xs [0, 1] hx hb hr hlk hP hD hS trivial rfl rfl rfl (Nat.le_of_ble_eq_true rfl) (Nat.le_of_ble_eq_true rfl) dX12_as_62
        · refine lv_iload_n hx hb dX12_as_40 rfl (lv_at hl 2 rfl) ?_
          refine lv_iconst (v := 1) hx hb dX12_as_41 (by decide) ?_
          refine lv_icmp_ne (tgt := 57) hx hb dX12_as_42 (by decide) (fun c_11 => ?_) (fun c_11 => ?_)
          · refine lv_aload_n hx hb dX12_as_57 rfl (lv_at hl 0 rfl) ?_
            refine lv_iconst (v := 4) hx hb dX12_as_58 (by decide) ?_
            refine k_Vi [0] [1] 0 12 (wr := [(z 1, .inl (gI g, 461, .inl D))]) hx hb hml hown hts hKW hP hD hS hA hl.1 (c_X12_finding_4 l g _ z kp xs ) rfl rfl rfl wd_10_15 wd_1_5 wd_10_12 wd_10_13 wd_10_14 yd_X12_finding ⟨(Nat.le_of_ble_eq_true rfl), (Nat.le_of_ble_eq_true rfl)⟩ rfl rfl rfl rfl (by decide) rfl (Nat.le_of_ble_eq_true rfl) dX12_as_59 ⟨(Nat.le_of_ble_eq_true rfl), (Nat.le_of_ble_eq_true rfl)⟩ (fun r_12 u_13 H locs hw_14 hP hD hS => ?_)
            have hP : va_P g.1 vwCl [(z 1, .inl (gI g, 461, .inl D)), (z 0, .inr (12, [.ref (z 1), .ref (z 2), .int (nI kp), .int u_13, .ref (z 3), .ref (z 4), .ref (z 5), .ref (z 6), .int (xs 1), .ref (z 7), .ref (z 8), .ref (z 9), .ref (z 10), .ref (z 11), .ref (z 12), .int (xs 2), .ref (z 13), .ref (z 14), .int (xs 3), .ref (z 15)]))] H := hP
            have hD : va_D A [(z 1, .inl (gI g, 461, .inl D)), (z 0, .inr (12, [.ref (z 1), .ref (z 2), .int (nI kp), .int u_13, .ref (z 3), .ref (z 4), .ref (z 5), .ref (z 6), .int (xs 1), .ref (z 7), .ref (z 8), .ref (z 9), .ref (z 10), .ref (z 11), .ref (z 12), .int (xs 2), .ref (z 13), .ref (z 14), .int (xs 3), .ref (z 15)]))] := hD
            have hw_14 : r_12 = (-100004) := hw_14
            subst hw_14
            exact k_iret (fun kk_ => ([u_13, (xs 1), (xs 2), (xs 3)] : List Int32).getD kk_ 0) [1, 0] hx hb hr hlk hP hD hS trivial rfl rfl rfl (Nat.le_of_ble_eq_true rfl) (Nat.le_of_ble_eq_true rfl) dX12_as_62
          · refine lv_aload_n hx hb dX12_as_45 rfl (lv_at hl 0 rfl) ?_
            refine lv_iload_n hx hb dX12_as_46 rfl (lv_at hl 1 rfl) ?_
            refine k_Vi [0, 1] [] 0 12 (wr := []) hx hb hml hown hts hKW hP hD hS hA hl.1 (c_X12_isTrained l g _ z kp xs D j_4 (by first | assumption | omega | decide)) rfl rfl rfl wd_12_18 wd_1_5 wd_12_15 wd_12_16 wd_12_17 yd_X12_isTrained ⟨(Nat.le_of_ble_eq_true rfl), (Nat.le_of_ble_eq_true rfl)⟩ rfl rfl rfl rfl (by decide) rfl (Nat.le_of_ble_eq_true rfl) dX12_as_47 ⟨(Nat.le_of_ble_eq_true rfl), (Nat.le_of_ble_eq_true rfl)⟩ (fun r_15 u_16 H locs hw_17 hP hD hS => ?_)
            have hP : va_P g.1 vwCl [(z 0, .inr (12, [.ref (z 1), .ref (z 2), .int (nI kp), .int (xs 0), .ref (z 3), .ref (z 4), .ref (z 5), .ref (z 6), .int (xs 1), .ref (z 7), .ref (z 8), .ref (z 9), .ref (z 10), .ref (z 11), .ref (z 12), .int (xs 2), .ref (z 13), .ref (z 14), .int (xs 3), .ref (z 15)])), (z 1, .inl (gI g, 461, .inl D))] H := hP
            have hD : va_D A [(z 0, .inr (12, [.ref (z 1), .ref (z 2), .int (nI kp), .int (xs 0), .ref (z 3), .ref (z 4), .ref (z 5), .ref (z 6), .int (xs 1), .ref (z 7), .ref (z 8), .ref (z 9), .ref (z 10), .ref (z 11), .ref (z 12), .int (xs 2), .ref (z 13), .ref (z 14), .int (xs 3), .ref (z 15)])), (z 1, .inl (gI g, 461, .inl D))] := hD
            rcases (show r_15 = 1 ∨ r_15 = 0 from hw_17) with rfl | rfl <;> clear hw_17
            · refine lv_if_eq (tgt := 57) hx hb dX12_as_50 (by decide) (fun c => absurd c (by decide)) (fun _ => ?_)
              refine lv_iload_n hx hb dX12_as_53 rfl (lv_at hl 1 rfl) ?_
              refine lv_goto (tgt := 62) hx hb dX12_as_54 (by decide) ?_
              exact k_iret xs [0, 1] hx hb hr hlk hP hD hS trivial rfl rfl rfl (Nat.le_of_ble_eq_true rfl) (Nat.le_of_ble_eq_true rfl) dX12_as_62
            · refine lv_if_eq (tgt := 57) hx hb dX12_as_50 (by decide) (fun _ => ?_) (fun c => absurd c (by decide))
              refine lv_aload_n hx hb dX12_as_57 rfl (lv_at hl 0 rfl) ?_
              refine lv_iconst (v := 4) hx hb dX12_as_58 (by decide) ?_
              refine k_Vi [0] [1] 0 12 (wr := [(z 1, .inl (gI g, 461, .inl D))]) hx hb hml hown hts hKW hP hD hS hA hl.1 (c_X12_finding_4 l g _ z kp xs ) rfl rfl rfl wd_10_15 wd_1_5 wd_10_12 wd_10_13 wd_10_14 yd_X12_finding ⟨(Nat.le_of_ble_eq_true rfl), (Nat.le_of_ble_eq_true rfl)⟩ rfl rfl rfl rfl (by decide) rfl (Nat.le_of_ble_eq_true rfl) dX12_as_59 ⟨(Nat.le_of_ble_eq_true rfl), (Nat.le_of_ble_eq_true rfl)⟩ (fun r_18 u_19 H locs hw_20 hP hD hS => ?_)
              have hP : va_P g.1 vwCl [(z 1, .inl (gI g, 461, .inl D)), (z 0, .inr (12, [.ref (z 1), .ref (z 2), .int (nI kp), .int u_19, .ref (z 3), .ref (z 4), .ref (z 5), .ref (z 6), .int (xs 1), .ref (z 7), .ref (z 8), .ref (z 9), .ref (z 10), .ref (z 11), .ref (z 12), .int (xs 2), .ref (z 13), .ref (z 14), .int (xs 3), .ref (z 15)]))] H := hP
              have hD : va_D A [(z 1, .inl (gI g, 461, .inl D)), (z 0, .inr (12, [.ref (z 1), .ref (z 2), .int (nI kp), .int u_19, .ref (z 3), .ref (z 4), .ref (z 5), .ref (z 6), .int (xs 1), .ref (z 7), .ref (z 8), .ref (z 9), .ref (z 10), .ref (z 11), .ref (z 12), .int (xs 2), .ref (z 13), .ref (z 14), .int (xs 3), .ref (z 15)]))] := hD
              have hw_20 : r_18 = (-100004) := hw_20
              subst hw_20
              exact k_iret (fun kk_ => ([u_19, (xs 1), (xs 2), (xs 3)] : List Int32).getD kk_ 0) [1, 0] hx hb hr hlk hP hD hS trivial rfl rfl rfl (Nat.le_of_ble_eq_true rfl) (Nat.le_of_ble_eq_true rfl) dX12_as_62
    · refine lv_if_ne (tgt := 23) hx hb dX12_as_14 (by decide) (fun c => absurd c (by decide)) (fun _ => ?_)
      refine lv_aload_n hx hb dX12_as_17 rfl (lv_at hl 0 rfl) ?_
      refine lv_iconst (v := 1) hx hb dX12_as_18 (by decide) ?_
      refine k_Vi [0] [1] 0 12 (wr := [(z 1, .inl (gI g, 461, .inl D))]) hx hb hml hown hts hKW hP hD hS hA hl.1 (c_X12_finding_1 l g _ z kp xs ) rfl rfl rfl wd_10_15 wd_1_5 wd_10_12 wd_10_13 wd_10_14 yd_X12_finding ⟨(Nat.le_of_ble_eq_true rfl), (Nat.le_of_ble_eq_true rfl)⟩ rfl rfl rfl rfl (by decide) rfl (Nat.le_of_ble_eq_true rfl) dX12_as_19 ⟨(Nat.le_of_ble_eq_true rfl), (Nat.le_of_ble_eq_true rfl)⟩ (fun r_21 u_22 H locs hw_23 hP hD hS => ?_)
      have hP : va_P g.1 vwCl [(z 1, .inl (gI g, 461, .inl D)), (z 0, .inr (12, [.ref (z 1), .ref (z 2), .int (nI kp), .int u_22, .ref (z 3), .ref (z 4), .ref (z 5), .ref (z 6), .int (xs 1), .ref (z 7), .ref (z 8), .ref (z 9), .ref (z 10), .ref (z 11), .ref (z 12), .int (xs 2), .ref (z 13), .ref (z 14), .int (xs 3), .ref (z 15)]))] H := hP
      have hD : va_D A [(z 1, .inl (gI g, 461, .inl D)), (z 0, .inr (12, [.ref (z 1), .ref (z 2), .int (nI kp), .int u_22, .ref (z 3), .ref (z 4), .ref (z 5), .ref (z 6), .int (xs 1), .ref (z 7), .ref (z 8), .ref (z 9), .ref (z 10), .ref (z 11), .ref (z 12), .int (xs 2), .ref (z 13), .ref (z 14), .int (xs 3), .ref (z 15)]))] := hD
      have hw_23 : r_21 = (-100001) := hw_23
      subst hw_23
      exact k_iret (fun kk_ => ([u_22, (xs 1), (xs 2), (xs 3)] : List Int32).getD kk_ 0) [1, 0] hx hb hr hlk hP hD hS trivial rfl rfl rfl (Nat.le_of_ble_eq_true rfl) (Nat.le_of_ble_eq_true rfl) dX12_as_22
  · refine lv_if_eq (tgt := 17) hx hb dX12_as_5 (by decide) (fun _ => ?_) (fun c => absurd c (by decide))
    refine lv_aload_n hx hb dX12_as_17 rfl (lv_at hl 0 rfl) ?_
    refine lv_iconst (v := 1) hx hb dX12_as_18 (by decide) ?_
    refine k_Vi [0] [1] 0 12 (wr := [(z 1, .inl (gI g, 461, .inl D))]) hx hb hml hown hts hKW hP hD hS hA hl.1 (c_X12_finding_1 l g _ z kp xs ) rfl rfl rfl wd_10_15 wd_1_5 wd_10_12 wd_10_13 wd_10_14 yd_X12_finding ⟨(Nat.le_of_ble_eq_true rfl), (Nat.le_of_ble_eq_true rfl)⟩ rfl rfl rfl rfl (by decide) rfl (Nat.le_of_ble_eq_true rfl) dX12_as_19 ⟨(Nat.le_of_ble_eq_true rfl), (Nat.le_of_ble_eq_true rfl)⟩ (fun r_24 u_25 H locs hw_26 hP hD hS => ?_)
    have hP : va_P g.1 vwCl [(z 1, .inl (gI g, 461, .inl D)), (z 0, .inr (12, [.ref (z 1), .ref (z 2), .int (nI kp), .int u_25, .ref (z 3), .ref (z 4), .ref (z 5), .ref (z 6), .int (xs 1), .ref (z 7), .ref (z 8), .ref (z 9), .ref (z 10), .ref (z 11), .ref (z 12), .int (xs 2), .ref (z 13), .ref (z 14), .int (xs 3), .ref (z 15)]))] H := hP
    have hD : va_D A [(z 1, .inl (gI g, 461, .inl D)), (z 0, .inr (12, [.ref (z 1), .ref (z 2), .int (nI kp), .int u_25, .ref (z 3), .ref (z 4), .ref (z 5), .ref (z 6), .int (xs 1), .ref (z 7), .ref (z 8), .ref (z 9), .ref (z 10), .ref (z 11), .ref (z 12), .int (xs 2), .ref (z 13), .ref (z 14), .int (xs 3), .ref (z 15)]))] := hD
    have hw_26 : r_24 = (-100001) := hw_26
    subst hw_26
    exact k_iret (fun kk_ => ([u_25, (xs 1), (xs 2), (xs 3)] : List Int32).getD kk_ 0) [1, 0] hx hb hr hlk hP hD hS trivial rfl rfl rfl (Nat.le_of_ble_eq_true rfl) (Nat.le_of_ble_eq_true rfl) dX12_as_22
theorem dX12_childIs_0 : decode cX12_childIs 0 = .ok (.aload_n 0, 1) := by decide +kernel
theorem dX12_childIs_1 : decode cX12_childIs 1 = .ok (.iload_n 1, 1) := by decide +kernel
theorem dX12_childIs_2 : decode cX12_childIs 2 = .ok (.invokevirtual 82, 3) := by decide +kernel
theorem dX12_childIs_5 : decode cX12_childIs 5 = .ok (.ifCond .eq 13, 3) := by decide +kernel
theorem dX12_childIs_8 : decode cX12_childIs 8 = .ok (.iload_n 2, 1) := by decide +kernel
theorem dX12_childIs_9 : decode cX12_childIs 9 = .ok (.iconst 0, 1) := by decide +kernel
theorem dX12_childIs_10 : decode cX12_childIs 10 = .ok (.bipush 8, 2) := by decide +kernel
theorem dX12_childIs_12 : decode cX12_childIs 12 = .ok (.invokestatic 64, 3) := by decide +kernel
theorem dX12_childIs_15 : decode cX12_childIs 15 = .ok (.ifCond .ne 9, 3) := by decide +kernel
theorem dX12_childIs_24 : decode cX12_childIs 24 = .ok (.iload_n 2, 1) := by decide +kernel
theorem dX12_childIs_25 : decode cX12_childIs 25 = .ok (.tableswitch 127 0 7 #[47, 57, 67, 77, 87, 97, 107, 117], 47) := by decide +kernel
theorem dX12_childIs_152 : decode cX12_childIs 152 = .ok (.aload_n 0, 1) := by decide +kernel
theorem dX12_childIs_153 : decode cX12_childIs 153 = .ok (.getfield 7, 3) := by decide +kernel
theorem dX12_childIs_156 : decode cX12_childIs 156 = .ok (.bipush 127, 2) := by decide +kernel
theorem dX12_childIs_158 : decode cX12_childIs 158 = .ok (.iload_n 1, 1) := by decide +kernel
theorem dX12_childIs_159 : decode cX12_childIs 159 = .ok (.iadd, 1) := by decide +kernel
theorem dX12_childIs_160 : decode cX12_childIs 160 = .ok (.iaload, 1) := by decide +kernel
theorem dX12_childIs_161 : decode cX12_childIs 161 = .ok (.ireturn, 1) := by decide +kernel
theorem dX12_childIs_72 : decode cX12_childIs 72 = .ok (.aload_n 0, 1) := by decide +kernel
theorem dX12_childIs_73 : decode cX12_childIs 73 = .ok (.getfield 7, 3) := by decide +kernel
theorem dX12_childIs_76 : decode cX12_childIs 76 = .ok (.bipush 47, 2) := by decide +kernel
theorem dX12_childIs_78 : decode cX12_childIs 78 = .ok (.iload_n 1, 1) := by decide +kernel
theorem dX12_childIs_79 : decode cX12_childIs 79 = .ok (.iadd, 1) := by decide +kernel
theorem dX12_childIs_80 : decode cX12_childIs 80 = .ok (.iaload, 1) := by decide +kernel
theorem dX12_childIs_81 : decode cX12_childIs 81 = .ok (.ireturn, 1) := by decide +kernel
theorem dX12_childIs_82 : decode cX12_childIs 82 = .ok (.aload_n 0, 1) := by decide +kernel
theorem dX12_childIs_83 : decode cX12_childIs 83 = .ok (.getfield 7, 3) := by decide +kernel
theorem dX12_childIs_86 : decode cX12_childIs 86 = .ok (.bipush 57, 2) := by decide +kernel
theorem dX12_childIs_88 : decode cX12_childIs 88 = .ok (.iload_n 1, 1) := by decide +kernel
theorem dX12_childIs_89 : decode cX12_childIs 89 = .ok (.iadd, 1) := by decide +kernel
theorem dX12_childIs_90 : decode cX12_childIs 90 = .ok (.iaload, 1) := by decide +kernel
theorem dX12_childIs_91 : decode cX12_childIs 91 = .ok (.ireturn, 1) := by decide +kernel
theorem dX12_childIs_92 : decode cX12_childIs 92 = .ok (.aload_n 0, 1) := by decide +kernel
theorem dX12_childIs_93 : decode cX12_childIs 93 = .ok (.getfield 7, 3) := by decide +kernel
theorem dX12_childIs_96 : decode cX12_childIs 96 = .ok (.bipush 67, 2) := by decide +kernel
theorem dX12_childIs_98 : decode cX12_childIs 98 = .ok (.iload_n 1, 1) := by decide +kernel
theorem dX12_childIs_99 : decode cX12_childIs 99 = .ok (.iadd, 1) := by decide +kernel
theorem dX12_childIs_100 : decode cX12_childIs 100 = .ok (.iaload, 1) := by decide +kernel
theorem dX12_childIs_101 : decode cX12_childIs 101 = .ok (.ireturn, 1) := by decide +kernel
theorem dX12_childIs_102 : decode cX12_childIs 102 = .ok (.aload_n 0, 1) := by decide +kernel
theorem dX12_childIs_103 : decode cX12_childIs 103 = .ok (.getfield 7, 3) := by decide +kernel
theorem dX12_childIs_106 : decode cX12_childIs 106 = .ok (.bipush 77, 2) := by decide +kernel
theorem dX12_childIs_108 : decode cX12_childIs 108 = .ok (.iload_n 1, 1) := by decide +kernel
theorem dX12_childIs_109 : decode cX12_childIs 109 = .ok (.iadd, 1) := by decide +kernel
theorem dX12_childIs_110 : decode cX12_childIs 110 = .ok (.iaload, 1) := by decide +kernel
theorem dX12_childIs_111 : decode cX12_childIs 111 = .ok (.ireturn, 1) := by decide +kernel
theorem dX12_childIs_112 : decode cX12_childIs 112 = .ok (.aload_n 0, 1) := by decide +kernel
theorem dX12_childIs_113 : decode cX12_childIs 113 = .ok (.getfield 7, 3) := by decide +kernel
theorem dX12_childIs_116 : decode cX12_childIs 116 = .ok (.bipush 87, 2) := by decide +kernel
theorem dX12_childIs_118 : decode cX12_childIs 118 = .ok (.iload_n 1, 1) := by decide +kernel
theorem dX12_childIs_119 : decode cX12_childIs 119 = .ok (.iadd, 1) := by decide +kernel
theorem dX12_childIs_120 : decode cX12_childIs 120 = .ok (.iaload, 1) := by decide +kernel
theorem dX12_childIs_121 : decode cX12_childIs 121 = .ok (.ireturn, 1) := by decide +kernel
theorem dX12_childIs_122 : decode cX12_childIs 122 = .ok (.aload_n 0, 1) := by decide +kernel
theorem dX12_childIs_123 : decode cX12_childIs 123 = .ok (.getfield 7, 3) := by decide +kernel
theorem dX12_childIs_126 : decode cX12_childIs 126 = .ok (.bipush 97, 2) := by decide +kernel
theorem dX12_childIs_128 : decode cX12_childIs 128 = .ok (.iload_n 1, 1) := by decide +kernel
theorem dX12_childIs_129 : decode cX12_childIs 129 = .ok (.iadd, 1) := by decide +kernel
theorem dX12_childIs_130 : decode cX12_childIs 130 = .ok (.iaload, 1) := by decide +kernel
theorem dX12_childIs_131 : decode cX12_childIs 131 = .ok (.ireturn, 1) := by decide +kernel
theorem dX12_childIs_132 : decode cX12_childIs 132 = .ok (.aload_n 0, 1) := by decide +kernel
theorem dX12_childIs_133 : decode cX12_childIs 133 = .ok (.getfield 7, 3) := by decide +kernel
theorem dX12_childIs_136 : decode cX12_childIs 136 = .ok (.bipush 107, 2) := by decide +kernel
theorem dX12_childIs_138 : decode cX12_childIs 138 = .ok (.iload_n 1, 1) := by decide +kernel
theorem dX12_childIs_139 : decode cX12_childIs 139 = .ok (.iadd, 1) := by decide +kernel
theorem dX12_childIs_140 : decode cX12_childIs 140 = .ok (.iaload, 1) := by decide +kernel
theorem dX12_childIs_141 : decode cX12_childIs 141 = .ok (.ireturn, 1) := by decide +kernel
theorem dX12_childIs_142 : decode cX12_childIs 142 = .ok (.aload_n 0, 1) := by decide +kernel
theorem dX12_childIs_143 : decode cX12_childIs 143 = .ok (.getfield 7, 3) := by decide +kernel
theorem dX12_childIs_146 : decode cX12_childIs 146 = .ok (.bipush 117, 2) := by decide +kernel
theorem dX12_childIs_148 : decode cX12_childIs 148 = .ok (.iload_n 1, 1) := by decide +kernel
theorem dX12_childIs_149 : decode cX12_childIs 149 = .ok (.iadd, 1) := by decide +kernel
theorem dX12_childIs_150 : decode cX12_childIs 150 = .ok (.iaload, 1) := by decide +kernel
theorem dX12_childIs_151 : decode cX12_childIs 151 = .ok (.ireturn, 1) := by decide +kernel
theorem dX12_childIs_18 : decode cX12_childIs 18 = .ok (.aload_n 0, 1) := by decide +kernel
theorem dX12_childIs_19 : decode cX12_childIs 19 = .ok (.iconst 1, 1) := by decide +kernel
theorem dX12_childIs_20 : decode cX12_childIs 20 = .ok (.invokevirtual 68, 3) := by decide +kernel
theorem dX12_childIs_23 : decode cX12_childIs 23 = .ok (.ireturn, 1) := by decide +kernel
set_option maxHeartbeats 8000000 in
set_option maxRecDepth 100000 in
theorem c_X12_childIs (l : Launch) (g : kG) (sz : Nat) (z : Nat → Nat) (kp : Nat) (xs : Nat → Int32) (D : Nat → Int32) (x : Int32) (y : Int32) (hDI : DI D) : kMi l g yX12_childIs cX12_childIs 3 (some .int) 4 0 0 [.ref (z 0), .int x, .int y] sz [(z 0, .inr (12, [.ref (z 1), .ref (z 2), .int (nI kp), .int (xs 0), .ref (z 3), .ref (z 4), .ref (z 5), .ref (z 6), .int (xs 1), .ref (z 7), .ref (z 8), .ref (z 9), .ref (z 10), .ref (z 11), .ref (z 12), .int (xs 2), .ref (z 13), .ref (z 14), .int (xs 3), .ref (z 15)])), (z 1, .inl (gI g, 461, .inl D))] (fun (r : Int32) (u : (Nat → Int32)) => True) (fun (u : (Nat → Int32)) => ([(z 0, .inr (12, [.ref (z 1), .ref (z 2), .int (nI kp), .int (u 0), .ref (z 3), .ref (z 4), .ref (z 5), .ref (z 6), .int (u 1), .ref (z 7), .ref (z 8), .ref (z 9), .ref (z 10), .ref (z 11), .ref (z 12), .int (u 2), .ref (z 13), .ref (z 14), .int (u 3), .ref (z 15)])), (z 1, .inl (gI g, 461, .inl D))] : va_W)) := by
  refine kMi.of (by decide) (Nat.le_of_ble_eq_true rfl) (fun p e s m below meth c A hx hb hr hml hown hts hlk hnm hKW hP hD hS hA ls hl => ?_)
  have hown : s.vm.findClass RX12 = some m.cls := hown
  have hl : lv_has ls 3 [(0, .ref (z 0)), (1, .int x), (2, .int y)] := hl
  refine k_hide hP hS (fun H locs hP hS => ?_)
  refine lv_aload_n hx hb dX12_childIs_0 rfl (lv_at hl 0 rfl) ?_
  refine lv_iload_n hx hb dX12_childIs_1 rfl (lv_at hl 1 rfl) ?_
  refine k_Vi [0, 1] [] 0 12 (wr := []) hx hb hml hown hts hKW hP hD hS hA hl.1 (c_X12_isChild l g _ z kp xs D x (by first | assumption | omega | decide)) rfl rfl rfl wd_13_19 wd_1_5 wd_13_16 wd_13_17 wd_13_18 yd_X12_isChild ⟨(Nat.le_of_ble_eq_true rfl), (Nat.le_of_ble_eq_true rfl)⟩ rfl rfl rfl rfl (by decide) rfl (Nat.le_of_ble_eq_true rfl) dX12_childIs_2 ⟨(Nat.le_of_ble_eq_true rfl), (Nat.le_of_ble_eq_true rfl)⟩ (fun r_1 u_2 H locs hw_3 hP hD hS => ?_)
  have hP : va_P g.1 vwCl [(z 0, .inr (12, [.ref (z 1), .ref (z 2), .int (nI kp), .int (xs 0), .ref (z 3), .ref (z 4), .ref (z 5), .ref (z 6), .int (xs 1), .ref (z 7), .ref (z 8), .ref (z 9), .ref (z 10), .ref (z 11), .ref (z 12), .int (xs 2), .ref (z 13), .ref (z 14), .int (xs 3), .ref (z 15)])), (z 1, .inl (gI g, 461, .inl D))] H := hP
  have hD : va_D A [(z 0, .inr (12, [.ref (z 1), .ref (z 2), .int (nI kp), .int (xs 0), .ref (z 3), .ref (z 4), .ref (z 5), .ref (z 6), .int (xs 1), .ref (z 7), .ref (z 8), .ref (z 9), .ref (z 10), .ref (z 11), .ref (z 12), .int (xs 2), .ref (z 13), .ref (z 14), .int (xs 3), .ref (z 15)])), (z 1, .inl (gI g, 461, .inl D))] := hD
  rcases (show (r_1 = 1 ∧ (∃ j : Nat, (j < 10 ∧ (j : Int) < (D 2).toInt) ∧ x = nI j)) ∨ (r_1 = 0 ∧ ¬ (∃ j : Nat, (j < 10 ∧ (j : Int) < (D 2).toInt) ∧ x = nI j)) from hw_3) with ⟨rfl, hw_3b⟩ | ⟨rfl, hw_3b⟩ <;> clear hw_3
  · obtain ⟨j_4, hj_4, rfl⟩ := hw_3b
    refine lv_if_eq (tgt := 18) hx hb dX12_childIs_5 (by decide) (fun c => absurd c (by decide)) (fun _ => ?_)
    refine lv_iload_n hx hb dX12_childIs_8 rfl (lv_at hl 2 rfl) ?_
    refine lv_iconst (v := 0) hx hb dX12_childIs_9 (by decide) ?_
    refine lv_bipush (v := 8) hx hb dX12_childIs_10 (by decide) ?_
    refine k_Si [] [0, 1] (wr := [(z 0, .inr (12, [.ref (z 1), .ref (z 2), .int (nI kp), .int (xs 0), .ref (z 3), .ref (z 4), .ref (z 5), .ref (z 6), .int (xs 1), .ref (z 7), .ref (z 8), .ref (z 9), .ref (z 10), .ref (z 11), .ref (z 12), .int (xs 2), .ref (z 13), .ref (z 14), .int (xs 3), .ref (z 15)])), (z 1, .inl (gI g, 461, .inl D))]) hx hb hml hown hts hKW hP hD hS hA hl.1 (c_X12_isIn l g _ y 0 8 ) wd_10_11 wd_1_5 wd_10_9 wd_10_10 yd_X12_isIn ⟨(Nat.le_of_ble_eq_true rfl), (Nat.le_of_ble_eq_true rfl)⟩ rfl rfl rfl rfl (by decide) rfl (Nat.le_of_ble_eq_true rfl) dX12_childIs_12 ⟨(Nat.le_of_ble_eq_true rfl), (Nat.le_of_ble_eq_true rfl)⟩ (fun r_5 u_6 H locs hw_7 hP hD hS => ?_)
    have hP : va_P g.1 vwCl [(z 0, .inr (12, [.ref (z 1), .ref (z 2), .int (nI kp), .int (xs 0), .ref (z 3), .ref (z 4), .ref (z 5), .ref (z 6), .int (xs 1), .ref (z 7), .ref (z 8), .ref (z 9), .ref (z 10), .ref (z 11), .ref (z 12), .int (xs 2), .ref (z 13), .ref (z 14), .int (xs 3), .ref (z 15)])), (z 1, .inl (gI g, 461, .inl D))] H := hP
    have hD : va_D A [(z 0, .inr (12, [.ref (z 1), .ref (z 2), .int (nI kp), .int (xs 0), .ref (z 3), .ref (z 4), .ref (z 5), .ref (z 6), .int (xs 1), .ref (z 7), .ref (z 8), .ref (z 9), .ref (z 10), .ref (z 11), .ref (z 12), .int (xs 2), .ref (z 13), .ref (z 14), .int (xs 3), .ref (z 15)])), (z 1, .inl (gI g, 461, .inl D))] := hD
    rcases (show (r_5 = 1 ∧ (Int32.toInt 0 ≤ Int32.toInt y ∧ Int32.toInt y ≤ Int32.toInt 8)) ∨ (r_5 = 0 ∧ ¬ (Int32.toInt 0 ≤ Int32.toInt y ∧ Int32.toInt y ≤ Int32.toInt 8)) from hw_7) with ⟨rfl, hw_7b⟩ | ⟨rfl, hw_7b⟩ <;> clear hw_7
    · refine lv_if_ne (tgt := 24) hx hb dX12_childIs_15 (by decide) (fun _ => ?_) (fun c => absurd c (by decide))
      refine lv_iload_n hx hb dX12_childIs_24 rfl (lv_at hl 2 rfl) ?_
      by_cases c_8 : Int32.toInt y < 0 ∨ 7 < Int32.toInt y
      · refine lv_tableOut (tgt := 152) hx hb dX12_childIs_25 c_8 (by decide) ?_
        refine lv_aload_n hx hb dX12_childIs_152 rfl (lv_at hl 0 rfl) ?_
        refine va_get (ci := 12) (C := RX12) (T := TX12) (N := 20) hx hb hts inlX12 hown hKW.1 hP 0 rfl rfl 0 (by decide) (hts _ wd_6_5) (fun _ h => h) rfl dX12_childIs_153 ?_
        refine lv_bipush (v := 127) hx hb dX12_childIs_156 (by decide) ?_
        refine lv_iload_n hx hb dX12_childIs_158 rfl (lv_at hl 1 rfl) ?_
        refine lv_iadd hx hb dX12_childIs_159 ?_
        refine k_top (y := nI (j_4 + 127)) (by rw [Nat.add_comm]; exact nI_add 127 j_4) ?_
        refine va_iald hx hb hKW.1 hP 1 0 rfl rfl (vp_in_nI (by omega) (by decide)) dX12_childIs_160 ?_
        refine lv_topi (fun x_9 ex_9 => ?_)
        exact k_iret xs [0, 1] hx hb hr hlk hP hD hS trivial rfl rfl rfl (Nat.le_of_ble_eq_true rfl) (Nat.le_of_ble_eq_true rfl) dX12_childIs_161
      · rcases (show y = 0 ∨ y = 1 ∨ y = 2 ∨ y = 3 ∨ y = 4 ∨ y = 5 ∨ y = 6 ∨ y = 7 by simp only [← Int32.toInt_inj]; simp at c_8 ⊢; omega) with c_8 | c_8 | c_8 | c_8 | c_8 | c_8 | c_8 | c_8
        · refine lv_tableIn (tgt := 72) hx hb dX12_childIs_25 (by rw [c_8]; decide) (by rw [c_8]; decide) (by rw [c_8]; rfl) (by decide) ?_
          refine lv_aload_n hx hb dX12_childIs_72 rfl (lv_at hl 0 rfl) ?_
          refine va_get (ci := 12) (C := RX12) (T := TX12) (N := 20) hx hb hts inlX12 hown hKW.1 hP 0 rfl rfl 0 (by decide) (hts _ wd_6_5) (fun _ h => h) rfl dX12_childIs_73 ?_
          refine lv_bipush (v := 47) hx hb dX12_childIs_76 (by decide) ?_
          refine lv_iload_n hx hb dX12_childIs_78 rfl (lv_at hl 1 rfl) ?_
          refine lv_iadd hx hb dX12_childIs_79 ?_
          refine k_top (y := nI (j_4 + 47)) (by rw [Nat.add_comm]; exact nI_add 47 j_4) ?_
          refine va_iald hx hb hKW.1 hP 1 0 rfl rfl (vp_in_nI (by omega) (by decide)) dX12_childIs_80 ?_
          refine lv_topi (fun x_10 ex_10 => ?_)
          exact k_iret xs [0, 1] hx hb hr hlk hP hD hS trivial rfl rfl rfl (Nat.le_of_ble_eq_true rfl) (Nat.le_of_ble_eq_true rfl) dX12_childIs_81
        · refine lv_tableIn (tgt := 82) hx hb dX12_childIs_25 (by rw [c_8]; decide) (by rw [c_8]; decide) (by rw [c_8]; rfl) (by decide) ?_
          refine lv_aload_n hx hb dX12_childIs_82 rfl (lv_at hl 0 rfl) ?_
          refine va_get (ci := 12) (C := RX12) (T := TX12) (N := 20) hx hb hts inlX12 hown hKW.1 hP 0 rfl rfl 0 (by decide) (hts _ wd_6_5) (fun _ h => h) rfl dX12_childIs_83 ?_
          refine lv_bipush (v := 57) hx hb dX12_childIs_86 (by decide) ?_
          refine lv_iload_n hx hb dX12_childIs_88 rfl (lv_at hl 1 rfl) ?_
          refine lv_iadd hx hb dX12_childIs_89 ?_
          refine k_top (y := nI (j_4 + 57)) (by rw [Nat.add_comm]; exact nI_add 57 j_4) ?_
          refine va_iald hx hb hKW.1 hP 1 0 rfl rfl (vp_in_nI (by omega) (by decide)) dX12_childIs_90 ?_
          refine lv_topi (fun x_11 ex_11 => ?_)
          exact k_iret xs [0, 1] hx hb hr hlk hP hD hS trivial rfl rfl rfl (Nat.le_of_ble_eq_true rfl) (Nat.le_of_ble_eq_true rfl) dX12_childIs_91
        · refine lv_tableIn (tgt := 92) hx hb dX12_childIs_25 (by rw [c_8]; decide) (by rw [c_8]; decide) (by rw [c_8]; rfl) (by decide) ?_
          refine lv_aload_n hx hb dX12_childIs_92 rfl (lv_at hl 0 rfl) ?_
          refine va_get (ci := 12) (C := RX12) (T := TX12) (N := 20) hx hb hts inlX12 hown hKW.1 hP 0 rfl rfl 0 (by decide) (hts _ wd_6_5) (fun _ h => h) rfl dX12_childIs_93 ?_
          refine lv_bipush (v := 67) hx hb dX12_childIs_96 (by decide) ?_
          refine lv_iload_n hx hb dX12_childIs_98 rfl (lv_at hl 1 rfl) ?_
          refine lv_iadd hx hb dX12_childIs_99 ?_
          refine k_top (y := nI (j_4 + 67)) (by rw [Nat.add_comm]; exact nI_add 67 j_4) ?_
          refine va_iald hx hb hKW.1 hP 1 0 rfl rfl (vp_in_nI (by omega) (by decide)) dX12_childIs_100 ?_
          refine lv_topi (fun x_12 ex_12 => ?_)
          exact k_iret xs [0, 1] hx hb hr hlk hP hD hS trivial rfl rfl rfl (Nat.le_of_ble_eq_true rfl) (Nat.le_of_ble_eq_true rfl) dX12_childIs_101
        · refine lv_tableIn (tgt := 102) hx hb dX12_childIs_25 (by rw [c_8]; decide) (by rw [c_8]; decide) (by rw [c_8]; rfl) (by decide) ?_
          refine lv_aload_n hx hb dX12_childIs_102 rfl (lv_at hl 0 rfl) ?_
          refine va_get (ci := 12) (C := RX12) (T := TX12) (N := 20) hx hb hts inlX12 hown hKW.1 hP 0 rfl rfl 0 (by decide) (hts _ wd_6_5) (fun _ h => h) rfl dX12_childIs_103 ?_
          refine lv_bipush (v := 77) hx hb dX12_childIs_106 (by decide) ?_
          refine lv_iload_n hx hb dX12_childIs_108 rfl (lv_at hl 1 rfl) ?_
          refine lv_iadd hx hb dX12_childIs_109 ?_
          refine k_top (y := nI (j_4 + 77)) (by rw [Nat.add_comm]; exact nI_add 77 j_4) ?_
          refine va_iald hx hb hKW.1 hP 1 0 rfl rfl (vp_in_nI (by omega) (by decide)) dX12_childIs_110 ?_
          refine lv_topi (fun x_13 ex_13 => ?_)
          exact k_iret xs [0, 1] hx hb hr hlk hP hD hS trivial rfl rfl rfl (Nat.le_of_ble_eq_true rfl) (Nat.le_of_ble_eq_true rfl) dX12_childIs_111
        · refine lv_tableIn (tgt := 112) hx hb dX12_childIs_25 (by rw [c_8]; decide) (by rw [c_8]; decide) (by rw [c_8]; rfl) (by decide) ?_
          refine lv_aload_n hx hb dX12_childIs_112 rfl (lv_at hl 0 rfl) ?_
          refine va_get (ci := 12) (C := RX12) (T := TX12) (N := 20) hx hb hts inlX12 hown hKW.1 hP 0 rfl rfl 0 (by decide) (hts _ wd_6_5) (fun _ h => h) rfl dX12_childIs_113 ?_
          refine lv_bipush (v := 87) hx hb dX12_childIs_116 (by decide) ?_
          refine lv_iload_n hx hb dX12_childIs_118 rfl (lv_at hl 1 rfl) ?_
          refine lv_iadd hx hb dX12_childIs_119 ?_
          refine k_top (y := nI (j_4 + 87)) (by rw [Nat.add_comm]; exact nI_add 87 j_4) ?_
          refine va_iald hx hb hKW.1 hP 1 0 rfl rfl (vp_in_nI (by omega) (by decide)) dX12_childIs_120 ?_
          refine lv_topi (fun x_14 ex_14 => ?_)
          exact k_iret xs [0, 1] hx hb hr hlk hP hD hS trivial rfl rfl rfl (Nat.le_of_ble_eq_true rfl) (Nat.le_of_ble_eq_true rfl) dX12_childIs_121
        · refine lv_tableIn (tgt := 122) hx hb dX12_childIs_25 (by rw [c_8]; decide) (by rw [c_8]; decide) (by rw [c_8]; rfl) (by decide) ?_
          refine lv_aload_n hx hb dX12_childIs_122 rfl (lv_at hl 0 rfl) ?_
          refine va_get (ci := 12) (C := RX12) (T := TX12) (N := 20) hx hb hts inlX12 hown hKW.1 hP 0 rfl rfl 0 (by decide) (hts _ wd_6_5) (fun _ h => h) rfl dX12_childIs_123 ?_
          refine lv_bipush (v := 97) hx hb dX12_childIs_126 (by decide) ?_
          refine lv_iload_n hx hb dX12_childIs_128 rfl (lv_at hl 1 rfl) ?_
          refine lv_iadd hx hb dX12_childIs_129 ?_
          refine k_top (y := nI (j_4 + 97)) (by rw [Nat.add_comm]; exact nI_add 97 j_4) ?_
          refine va_iald hx hb hKW.1 hP 1 0 rfl rfl (vp_in_nI (by omega) (by decide)) dX12_childIs_130 ?_
          refine lv_topi (fun x_15 ex_15 => ?_)
          exact k_iret xs [0, 1] hx hb hr hlk hP hD hS trivial rfl rfl rfl (Nat.le_of_ble_eq_true rfl) (Nat.le_of_ble_eq_true rfl) dX12_childIs_131
        · refine lv_tableIn (tgt := 132) hx hb dX12_childIs_25 (by rw [c_8]; decide) (by rw [c_8]; decide) (by rw [c_8]; rfl) (by decide) ?_
          refine lv_aload_n hx hb dX12_childIs_132 rfl (lv_at hl 0 rfl) ?_
          refine va_get (ci := 12) (C := RX12) (T := TX12) (N := 20) hx hb hts inlX12 hown hKW.1 hP 0 rfl rfl 0 (by decide) (hts _ wd_6_5) (fun _ h => h) rfl dX12_childIs_133 ?_
          refine lv_bipush (v := 107) hx hb dX12_childIs_136 (by decide) ?_
          refine lv_iload_n hx hb dX12_childIs_138 rfl (lv_at hl 1 rfl) ?_
          refine lv_iadd hx hb dX12_childIs_139 ?_
          refine k_top (y := nI (j_4 + 107)) (by rw [Nat.add_comm]; exact nI_add 107 j_4) ?_
          refine va_iald hx hb hKW.1 hP 1 0 rfl rfl (vp_in_nI (by omega) (by decide)) dX12_childIs_140 ?_
          refine lv_topi (fun x_16 ex_16 => ?_)
          exact k_iret xs [0, 1] hx hb hr hlk hP hD hS trivial rfl rfl rfl (Nat.le_of_ble_eq_true rfl) (Nat.le_of_ble_eq_true rfl) dX12_childIs_141
        · refine lv_tableIn (tgt := 142) hx hb dX12_childIs_25 (by rw [c_8]; decide) (by rw [c_8]; decide) (by rw [c_8]; rfl) (by decide) ?_
          refine lv_aload_n hx hb dX12_childIs_142 rfl (lv_at hl 0 rfl) ?_
          refine va_get (ci := 12) (C := RX12) (T := TX12) (N := 20) hx hb hts inlX12 hown hKW.1 hP 0 rfl rfl 0 (by decide) (hts _ wd_6_5) (fun _ h => h) rfl dX12_childIs_143 ?_
          refine lv_bipush (v := 117) hx hb dX12_childIs_146 (by decide) ?_
          refine lv_iload_n hx hb dX12_childIs_148 rfl (lv_at hl 1 rfl) ?_
          refine lv_iadd hx hb dX12_childIs_149 ?_
          refine k_top (y := nI (j_4 + 117)) (by rw [Nat.add_comm]; exact nI_add 117 j_4) ?_
          refine va_iald hx hb hKW.1 hP 1 0 rfl rfl (vp_in_nI (by omega) (by decide)) dX12_childIs_150 ?_
          refine lv_topi (fun x_17 ex_17 => ?_)
          exact k_iret xs [0, 1] hx hb hr hlk hP hD hS trivial rfl rfl rfl (Nat.le_of_ble_eq_true rfl) (Nat.le_of_ble_eq_true rfl) dX12_childIs_151
    · refine lv_if_ne (tgt := 24) hx hb dX12_childIs_15 (by decide) (fun c => absurd c (by decide)) (fun _ => ?_)
      refine lv_aload_n hx hb dX12_childIs_18 rfl (lv_at hl 0 rfl) ?_
      refine lv_iconst (v := 1) hx hb dX12_childIs_19 (by decide) ?_
      refine k_Vi [0] [1] 0 12 (wr := [(z 1, .inl (gI g, 461, .inl D))]) hx hb hml hown hts hKW hP hD hS hA hl.1 (c_X12_finding_1 l g _ z kp xs ) rfl rfl rfl wd_10_15 wd_1_5 wd_10_12 wd_10_13 wd_10_14 yd_X12_finding ⟨(Nat.le_of_ble_eq_true rfl), (Nat.le_of_ble_eq_true rfl)⟩ rfl rfl rfl rfl (by decide) rfl (Nat.le_of_ble_eq_true rfl) dX12_childIs_20 ⟨(Nat.le_of_ble_eq_true rfl), (Nat.le_of_ble_eq_true rfl)⟩ (fun r_18 u_19 H locs hw_20 hP hD hS => ?_)
      have hP : va_P g.1 vwCl [(z 1, .inl (gI g, 461, .inl D)), (z 0, .inr (12, [.ref (z 1), .ref (z 2), .int (nI kp), .int u_19, .ref (z 3), .ref (z 4), .ref (z 5), .ref (z 6), .int (xs 1), .ref (z 7), .ref (z 8), .ref (z 9), .ref (z 10), .ref (z 11), .ref (z 12), .int (xs 2), .ref (z 13), .ref (z 14), .int (xs 3), .ref (z 15)]))] H := hP
      have hD : va_D A [(z 1, .inl (gI g, 461, .inl D)), (z 0, .inr (12, [.ref (z 1), .ref (z 2), .int (nI kp), .int u_19, .ref (z 3), .ref (z 4), .ref (z 5), .ref (z 6), .int (xs 1), .ref (z 7), .ref (z 8), .ref (z 9), .ref (z 10), .ref (z 11), .ref (z 12), .int (xs 2), .ref (z 13), .ref (z 14), .int (xs 3), .ref (z 15)]))] := hD
      have hw_20 : r_18 = (-100001) := hw_20
      subst hw_20
      exact k_iret (fun kk_ => ([u_19, (xs 1), (xs 2), (xs 3)] : List Int32).getD kk_ 0) [1, 0] hx hb hr hlk hP hD hS trivial rfl rfl rfl (Nat.le_of_ble_eq_true rfl) (Nat.le_of_ble_eq_true rfl) dX12_childIs_23
  · refine lv_if_eq (tgt := 18) hx hb dX12_childIs_5 (by decide) (fun _ => ?_) (fun c => absurd c (by decide))
    refine lv_aload_n hx hb dX12_childIs_18 rfl (lv_at hl 0 rfl) ?_
    refine lv_iconst (v := 1) hx hb dX12_childIs_19 (by decide) ?_
    refine k_Vi [0] [1] 0 12 (wr := [(z 1, .inl (gI g, 461, .inl D))]) hx hb hml hown hts hKW hP hD hS hA hl.1 (c_X12_finding_1 l g _ z kp xs ) rfl rfl rfl wd_10_15 wd_1_5 wd_10_12 wd_10_13 wd_10_14 yd_X12_finding ⟨(Nat.le_of_ble_eq_true rfl), (Nat.le_of_ble_eq_true rfl)⟩ rfl rfl rfl rfl (by decide) rfl (Nat.le_of_ble_eq_true rfl) dX12_childIs_20 ⟨(Nat.le_of_ble_eq_true rfl), (Nat.le_of_ble_eq_true rfl)⟩ (fun r_21 u_22 H locs hw_23 hP hD hS => ?_)
    have hP : va_P g.1 vwCl [(z 1, .inl (gI g, 461, .inl D)), (z 0, .inr (12, [.ref (z 1), .ref (z 2), .int (nI kp), .int u_22, .ref (z 3), .ref (z 4), .ref (z 5), .ref (z 6), .int (xs 1), .ref (z 7), .ref (z 8), .ref (z 9), .ref (z 10), .ref (z 11), .ref (z 12), .int (xs 2), .ref (z 13), .ref (z 14), .int (xs 3), .ref (z 15)]))] H := hP
    have hD : va_D A [(z 1, .inl (gI g, 461, .inl D)), (z 0, .inr (12, [.ref (z 1), .ref (z 2), .int (nI kp), .int u_22, .ref (z 3), .ref (z 4), .ref (z 5), .ref (z 6), .int (xs 1), .ref (z 7), .ref (z 8), .ref (z 9), .ref (z 10), .ref (z 11), .ref (z 12), .int (xs 2), .ref (z 13), .ref (z 14), .int (xs 3), .ref (z 15)]))] := hD
    have hw_23 : r_21 = (-100001) := hw_23
    subst hw_23
    exact k_iret (fun kk_ => ([u_22, (xs 1), (xs 2), (xs 3)] : List Int32).getD kk_ 0) [1, 0] hx hb hr hlk hP hD hS trivial rfl rfl rfl (Nat.le_of_ble_eq_true rfl) (Nat.le_of_ble_eq_true rfl) dX12_childIs_23
theorem dX12_roomOf_0 : decode cX12_roomOf 0 = .ok (.aload_n 0, 1) := by decide +kernel
theorem dX12_roomOf_1 : decode cX12_roomOf 1 = .ok (.iload_n 1, 1) := by decide +kernel
theorem dX12_roomOf_2 : decode cX12_roomOf 2 = .ok (.invokevirtual 82, 3) := by decide +kernel
theorem dX12_roomOf_5 : decode cX12_roomOf 5 = .ok (.ifCond .eq 10, 3) := by decide +kernel
theorem dX12_roomOf_8 : decode cX12_roomOf 8 = .ok (.iload_n 2, 1) := by decide +kernel
theorem dX12_roomOf_9 : decode cX12_roomOf 9 = .ok (.invokestatic 89, 3) := by decide +kernel
theorem dX12_roomOf_12 : decode cX12_roomOf 12 = .ok (.ifCond .ne 9, 3) := by decide +kernel
theorem dX12_roomOf_21 : decode cX12_roomOf 21 = .ok (.aload_n 0, 1) := by decide +kernel
theorem dX12_roomOf_22 : decode cX12_roomOf 22 = .ok (.iload_n 1, 1) := by decide +kernel
theorem dX12_roomOf_23 : decode cX12_roomOf 23 = .ok (.iload_n 2, 1) := by decide +kernel
theorem dX12_roomOf_24 : decode cX12_roomOf 24 = .ok (.invokevirtual 92, 3) := by decide +kernel
theorem dX12_roomOf_27 : decode cX12_roomOf 27 = .ok (.istore_n 3, 1) := by decide +kernel
theorem dX12_roomOf_28 : decode cX12_roomOf 28 = .ok (.iload_n 3, 1) := by decide +kernel
theorem dX12_roomOf_29 : decode cX12_roomOf 29 = .ok (.ifCond .ge 12, 3) := by decide +kernel
theorem dX12_roomOf_41 : decode cX12_roomOf 41 = .ok (.iload_n 3, 1) := by decide +kernel
theorem dX12_roomOf_42 : decode cX12_roomOf 42 = .ok (.ireturn, 1) := by decide +kernel
theorem dX12_roomOf_32 : decode cX12_roomOf 32 = .ok (.aload_n 0, 1) := by decide +kernel
theorem dX12_roomOf_33 : decode cX12_roomOf 33 = .ok (.bipush 6, 2) := by decide +kernel
theorem dX12_roomOf_35 : decode cX12_roomOf 35 = .ok (.invokevirtual 68, 3) := by decide +kernel
theorem dX12_roomOf_38 : decode cX12_roomOf 38 = .ok (.goto 4, 3) := by decide +kernel
theorem dX12_roomOf_15 : decode cX12_roomOf 15 = .ok (.aload_n 0, 1) := by decide +kernel
theorem dX12_roomOf_16 : decode cX12_roomOf 16 = .ok (.iconst 1, 1) := by decide +kernel
theorem dX12_roomOf_17 : decode cX12_roomOf 17 = .ok (.invokevirtual 68, 3) := by decide +kernel
theorem dX12_roomOf_20 : decode cX12_roomOf 20 = .ok (.ireturn, 1) := by decide +kernel
set_option maxHeartbeats 8000000 in
set_option maxRecDepth 100000 in
theorem c_X12_roomOf (l : Launch) (g : kG) (sz : Nat) (z : Nat → Nat) (kp : Nat) (xs : Nat → Int32) (D : Nat → Int32) (x : Int32) (y : Int32) (hDI : DI D) : kMi l g yX12_roomOf cX12_roomOf 4 (some .int) 4 0 0 [.ref (z 0), .int x, .int y] sz [(z 0, .inr (12, [.ref (z 1), .ref (z 2), .int (nI kp), .int (xs 0), .ref (z 3), .ref (z 4), .ref (z 5), .ref (z 6), .int (xs 1), .ref (z 7), .ref (z 8), .ref (z 9), .ref (z 10), .ref (z 11), .ref (z 12), .int (xs 2), .ref (z 13), .ref (z 14), .int (xs 3), .ref (z 15)])), (z 1, .inl (gI g, 461, .inl D))] (fun (r : Int32) (u : (Nat → Int32)) => True) (fun (u : (Nat → Int32)) => ([(z 0, .inr (12, [.ref (z 1), .ref (z 2), .int (nI kp), .int (u 0), .ref (z 3), .ref (z 4), .ref (z 5), .ref (z 6), .int (u 1), .ref (z 7), .ref (z 8), .ref (z 9), .ref (z 10), .ref (z 11), .ref (z 12), .int (u 2), .ref (z 13), .ref (z 14), .int (u 3), .ref (z 15)])), (z 1, .inl (gI g, 461, .inl D))] : va_W)) := by
  refine kMi.of (by decide) (Nat.le_of_ble_eq_true rfl) (fun p e s m below meth c A hx hb hr hml hown hts hlk hnm hKW hP hD hS hA ls hl => ?_)
  have hown : s.vm.findClass RX12 = some m.cls := hown
  have hl : lv_has ls 4 [(0, .ref (z 0)), (1, .int x), (2, .int y)] := hl
  refine k_hide hP hS (fun H locs hP hS => ?_)
  refine lv_aload_n hx hb dX12_roomOf_0 rfl (lv_at hl 0 rfl) ?_
  refine lv_iload_n hx hb dX12_roomOf_1 rfl (lv_at hl 1 rfl) ?_
  refine k_Vi [0, 1] [] 0 12 (wr := []) hx hb hml hown hts hKW hP hD hS hA hl.1 (c_X12_isChild l g _ z kp xs D x (by first | assumption | omega | decide)) rfl rfl rfl wd_13_19 wd_1_5 wd_13_16 wd_13_17 wd_13_18 yd_X12_isChild ⟨(Nat.le_of_ble_eq_true rfl), (Nat.le_of_ble_eq_true rfl)⟩ rfl rfl rfl rfl (by decide) rfl (Nat.le_of_ble_eq_true rfl) dX12_roomOf_2 ⟨(Nat.le_of_ble_eq_true rfl), (Nat.le_of_ble_eq_true rfl)⟩ (fun r_1 u_2 H locs hw_3 hP hD hS => ?_)
  have hP : va_P g.1 vwCl [(z 0, .inr (12, [.ref (z 1), .ref (z 2), .int (nI kp), .int (xs 0), .ref (z 3), .ref (z 4), .ref (z 5), .ref (z 6), .int (xs 1), .ref (z 7), .ref (z 8), .ref (z 9), .ref (z 10), .ref (z 11), .ref (z 12), .int (xs 2), .ref (z 13), .ref (z 14), .int (xs 3), .ref (z 15)])), (z 1, .inl (gI g, 461, .inl D))] H := hP
  have hD : va_D A [(z 0, .inr (12, [.ref (z 1), .ref (z 2), .int (nI kp), .int (xs 0), .ref (z 3), .ref (z 4), .ref (z 5), .ref (z 6), .int (xs 1), .ref (z 7), .ref (z 8), .ref (z 9), .ref (z 10), .ref (z 11), .ref (z 12), .int (xs 2), .ref (z 13), .ref (z 14), .int (xs 3), .ref (z 15)])), (z 1, .inl (gI g, 461, .inl D))] := hD
  rcases (show (r_1 = 1 ∧ (∃ j : Nat, (j < 10 ∧ (j : Int) < (D 2).toInt) ∧ x = nI j)) ∨ (r_1 = 0 ∧ ¬ (∃ j : Nat, (j < 10 ∧ (j : Int) < (D 2).toInt) ∧ x = nI j)) from hw_3) with ⟨rfl, hw_3b⟩ | ⟨rfl, hw_3b⟩ <;> clear hw_3
  · obtain ⟨j_4, hj_4, rfl⟩ := hw_3b
    refine lv_if_eq (tgt := 15) hx hb dX12_roomOf_5 (by decide) (fun c => absurd c (by decide)) (fun _ => ?_)
    refine lv_iload_n hx hb dX12_roomOf_8 rfl (lv_at hl 2 rfl) ?_
    refine k_Si [] [0, 1] (wr := [(z 0, .inr (12, [.ref (z 1), .ref (z 2), .int (nI kp), .int (xs 0), .ref (z 3), .ref (z 4), .ref (z 5), .ref (z 6), .int (xs 1), .ref (z 7), .ref (z 8), .ref (z 9), .ref (z 10), .ref (z 11), .ref (z 12), .int (xs 2), .ref (z 13), .ref (z 14), .int (xs 3), .ref (z 15)])), (z 1, .inl (gI g, 461, .inl D))]) hx hb hml hown hts hKW hP hD hS hA hl.1 (c_X12_isMonth l g _ y ) wd_15_15 wd_1_5 wd_15_13 wd_15_14 yd_X12_isMonth ⟨(Nat.le_of_ble_eq_true rfl), (Nat.le_of_ble_eq_true rfl)⟩ rfl rfl rfl rfl (by decide) rfl (Nat.le_of_ble_eq_true rfl) dX12_roomOf_9 ⟨(Nat.le_of_ble_eq_true rfl), (Nat.le_of_ble_eq_true rfl)⟩ (fun r_5 u_6 H locs hw_7 hP hD hS => ?_)
    have hP : va_P g.1 vwCl [(z 0, .inr (12, [.ref (z 1), .ref (z 2), .int (nI kp), .int (xs 0), .ref (z 3), .ref (z 4), .ref (z 5), .ref (z 6), .int (xs 1), .ref (z 7), .ref (z 8), .ref (z 9), .ref (z 10), .ref (z 11), .ref (z 12), .int (xs 2), .ref (z 13), .ref (z 14), .int (xs 3), .ref (z 15)])), (z 1, .inl (gI g, 461, .inl D))] H := hP
    have hD : va_D A [(z 0, .inr (12, [.ref (z 1), .ref (z 2), .int (nI kp), .int (xs 0), .ref (z 3), .ref (z 4), .ref (z 5), .ref (z 6), .int (xs 1), .ref (z 7), .ref (z 8), .ref (z 9), .ref (z 10), .ref (z 11), .ref (z 12), .int (xs 2), .ref (z 13), .ref (z 14), .int (xs 3), .ref (z 15)])), (z 1, .inl (gI g, 461, .inl D))] := hD
    rcases (show (r_5 = 1 ∧ ((0 : Int) ≤ Int32.toInt y ∧ Int32.toInt y ≤ 60)) ∨ (r_5 = 0 ∧ ¬ ((0 : Int) ≤ Int32.toInt y ∧ Int32.toInt y ≤ 60)) from hw_7) with ⟨rfl, hw_7b⟩ | ⟨rfl, hw_7b⟩ <;> clear hw_7
    · refine lv_if_ne (tgt := 21) hx hb dX12_roomOf_12 (by decide) (fun _ => ?_) (fun c => absurd c (by decide))
      refine lv_aload_n hx hb dX12_roomOf_21 rfl (lv_at hl 0 rfl) ?_
      refine lv_iload_n hx hb dX12_roomOf_22 rfl (lv_at hl 1 rfl) ?_
      refine lv_iload_n hx hb dX12_roomOf_23 rfl (lv_at hl 2 rfl) ?_
      refine k_Vi [0, 1] [] 0 12 (wr := []) hx hb hml hown hts hKW hP hD hS hA hl.1 (c_X12_roomIn l g _ z kp xs D j_4 y (by first | assumption | omega | decide) (by first | assumption | omega | decide)) rfl rfl rfl wd_15_19 wd_1_5 wd_15_16 wd_15_17 wd_15_18 yd_X12_roomIn ⟨(Nat.le_of_ble_eq_true rfl), (Nat.le_of_ble_eq_true rfl)⟩ rfl rfl rfl rfl (by decide) rfl (Nat.le_of_ble_eq_true rfl) dX12_roomOf_24 ⟨(Nat.le_of_ble_eq_true rfl), (Nat.le_of_ble_eq_true rfl)⟩ (fun r_8 u_9 H locs hw_10 hP hD hS => ?_)
      have hP : va_P g.1 vwCl [(z 0, .inr (12, [.ref (z 1), .ref (z 2), .int (nI kp), .int (xs 0), .ref (z 3), .ref (z 4), .ref (z 5), .ref (z 6), .int (xs 1), .ref (z 7), .ref (z 8), .ref (z 9), .ref (z 10), .ref (z 11), .ref (z 12), .int (xs 2), .ref (z 13), .ref (z 14), .int (xs 3), .ref (z 15)])), (z 1, .inl (gI g, 461, .inl D))] H := hP
      have hD : va_D A [(z 0, .inr (12, [.ref (z 1), .ref (z 2), .int (nI kp), .int (xs 0), .ref (z 3), .ref (z 4), .ref (z 5), .ref (z 6), .int (xs 1), .ref (z 7), .ref (z 8), .ref (z 9), .ref (z 10), .ref (z 11), .ref (z 12), .int (xs 2), .ref (z 13), .ref (z 14), .int (xs 3), .ref (z 15)])), (z 1, .inl (gI g, 461, .inl D))] := hD
      have hw_10 : r_8 = -1 ∨ ∃ k : Nat, k < 5 ∧ r_8 = nI k := hw_10
      refine lv_istore_n (lv' := [(3, .int r_8), (0, .ref (z 0)), (1, .int (nI j_4)), (2, .int y)]) hx hb dX12_roomOf_27 rfl hl (by decide) rfl (fun ls hl => ?_)
      refine lv_iload_n hx hb dX12_roomOf_28 rfl (lv_at hl 0 rfl) ?_
      refine lv_if_ge (tgt := 41) hx hb dX12_roomOf_29 (by decide) (fun c_11 => ?_) (fun c_11 => ?_)
      · refine lv_iload_n hx hb dX12_roomOf_41 rfl (lv_at hl 0 rfl) ?_
        exact k_iret xs [0, 1] hx hb hr hlk hP hD hS trivial rfl rfl rfl (Nat.le_of_ble_eq_true rfl) (Nat.le_of_ble_eq_true rfl) dX12_roomOf_42
      · refine lv_aload_n hx hb dX12_roomOf_32 rfl (lv_at hl 1 rfl) ?_
        refine lv_bipush (v := 6) hx hb dX12_roomOf_33 (by decide) ?_
        refine k_Vi [0] [1] 0 12 (wr := [(z 1, .inl (gI g, 461, .inl D))]) hx hb hml hown hts hKW hP hD hS hA hl.1 (c_X12_finding_6 l g _ z kp xs ) rfl rfl rfl wd_10_15 wd_1_5 wd_10_12 wd_10_13 wd_10_14 yd_X12_finding ⟨(Nat.le_of_ble_eq_true rfl), (Nat.le_of_ble_eq_true rfl)⟩ rfl rfl rfl rfl (by decide) rfl (Nat.le_of_ble_eq_true rfl) dX12_roomOf_35 ⟨(Nat.le_of_ble_eq_true rfl), (Nat.le_of_ble_eq_true rfl)⟩ (fun r_12 u_13 H locs hw_14 hP hD hS => ?_)
        have hP : va_P g.1 vwCl [(z 1, .inl (gI g, 461, .inl D)), (z 0, .inr (12, [.ref (z 1), .ref (z 2), .int (nI kp), .int u_13, .ref (z 3), .ref (z 4), .ref (z 5), .ref (z 6), .int (xs 1), .ref (z 7), .ref (z 8), .ref (z 9), .ref (z 10), .ref (z 11), .ref (z 12), .int (xs 2), .ref (z 13), .ref (z 14), .int (xs 3), .ref (z 15)]))] H := hP
        have hD : va_D A [(z 1, .inl (gI g, 461, .inl D)), (z 0, .inr (12, [.ref (z 1), .ref (z 2), .int (nI kp), .int u_13, .ref (z 3), .ref (z 4), .ref (z 5), .ref (z 6), .int (xs 1), .ref (z 7), .ref (z 8), .ref (z 9), .ref (z 10), .ref (z 11), .ref (z 12), .int (xs 2), .ref (z 13), .ref (z 14), .int (xs 3), .ref (z 15)]))] := hD
        have hw_14 : r_12 = (-100006) := hw_14
        subst hw_14
        refine lv_goto (tgt := 42) hx hb dX12_roomOf_38 (by decide) ?_
        exact k_iret (fun kk_ => ([u_13, (xs 1), (xs 2), (xs 3)] : List Int32).getD kk_ 0) [1, 0] hx hb hr hlk hP hD hS trivial rfl rfl rfl (Nat.le_of_ble_eq_true rfl) (Nat.le_of_ble_eq_true rfl) dX12_roomOf_42
    · refine lv_if_ne (tgt := 21) hx hb dX12_roomOf_12 (by decide) (fun c => absurd c (by decide)) (fun _ => ?_)
      refine lv_aload_n hx hb dX12_roomOf_15 rfl (lv_at hl 0 rfl) ?_
      refine lv_iconst (v := 1) hx hb dX12_roomOf_16 (by decide) ?_
      refine k_Vi [0] [1] 0 12 (wr := [(z 1, .inl (gI g, 461, .inl D))]) hx hb hml hown hts hKW hP hD hS hA hl.1 (c_X12_finding_1 l g _ z kp xs ) rfl rfl rfl wd_10_15 wd_1_5 wd_10_12 wd_10_13 wd_10_14 yd_X12_finding ⟨(Nat.le_of_ble_eq_true rfl), (Nat.le_of_ble_eq_true rfl)⟩ rfl rfl rfl rfl (by decide) rfl (Nat.le_of_ble_eq_true rfl) dX12_roomOf_17 ⟨(Nat.le_of_ble_eq_true rfl), (Nat.le_of_ble_eq_true rfl)⟩ (fun r_15 u_16 H locs hw_17 hP hD hS => ?_)
      have hP : va_P g.1 vwCl [(z 1, .inl (gI g, 461, .inl D)), (z 0, .inr (12, [.ref (z 1), .ref (z 2), .int (nI kp), .int u_16, .ref (z 3), .ref (z 4), .ref (z 5), .ref (z 6), .int (xs 1), .ref (z 7), .ref (z 8), .ref (z 9), .ref (z 10), .ref (z 11), .ref (z 12), .int (xs 2), .ref (z 13), .ref (z 14), .int (xs 3), .ref (z 15)]))] H := hP
      have hD : va_D A [(z 1, .inl (gI g, 461, .inl D)), (z 0, .inr (12, [.ref (z 1), .ref (z 2), .int (nI kp), .int u_16, .ref (z 3), .ref (z 4), .ref (z 5), .ref (z 6), .int (xs 1), .ref (z 7), .ref (z 8), .ref (z 9), .ref (z 10), .ref (z 11), .ref (z 12), .int (xs 2), .ref (z 13), .ref (z 14), .int (xs 3), .ref (z 15)]))] := hD
      have hw_17 : r_15 = (-100001) := hw_17
      subst hw_17
      exact k_iret (fun kk_ => ([u_16, (xs 1), (xs 2), (xs 3)] : List Int32).getD kk_ 0) [1, 0] hx hb hr hlk hP hD hS trivial rfl rfl rfl (Nat.le_of_ble_eq_true rfl) (Nat.le_of_ble_eq_true rfl) dX12_roomOf_20
  · refine lv_if_eq (tgt := 15) hx hb dX12_roomOf_5 (by decide) (fun _ => ?_) (fun c => absurd c (by decide))
    refine lv_aload_n hx hb dX12_roomOf_15 rfl (lv_at hl 0 rfl) ?_
    refine lv_iconst (v := 1) hx hb dX12_roomOf_16 (by decide) ?_
    refine k_Vi [0] [1] 0 12 (wr := [(z 1, .inl (gI g, 461, .inl D))]) hx hb hml hown hts hKW hP hD hS hA hl.1 (c_X12_finding_1 l g _ z kp xs ) rfl rfl rfl wd_10_15 wd_1_5 wd_10_12 wd_10_13 wd_10_14 yd_X12_finding ⟨(Nat.le_of_ble_eq_true rfl), (Nat.le_of_ble_eq_true rfl)⟩ rfl rfl rfl rfl (by decide) rfl (Nat.le_of_ble_eq_true rfl) dX12_roomOf_17 ⟨(Nat.le_of_ble_eq_true rfl), (Nat.le_of_ble_eq_true rfl)⟩ (fun r_18 u_19 H locs hw_20 hP hD hS => ?_)
    have hP : va_P g.1 vwCl [(z 1, .inl (gI g, 461, .inl D)), (z 0, .inr (12, [.ref (z 1), .ref (z 2), .int (nI kp), .int u_19, .ref (z 3), .ref (z 4), .ref (z 5), .ref (z 6), .int (xs 1), .ref (z 7), .ref (z 8), .ref (z 9), .ref (z 10), .ref (z 11), .ref (z 12), .int (xs 2), .ref (z 13), .ref (z 14), .int (xs 3), .ref (z 15)]))] H := hP
    have hD : va_D A [(z 1, .inl (gI g, 461, .inl D)), (z 0, .inr (12, [.ref (z 1), .ref (z 2), .int (nI kp), .int u_19, .ref (z 3), .ref (z 4), .ref (z 5), .ref (z 6), .int (xs 1), .ref (z 7), .ref (z 8), .ref (z 9), .ref (z 10), .ref (z 11), .ref (z 12), .int (xs 2), .ref (z 13), .ref (z 14), .int (xs 3), .ref (z 15)]))] := hD
    have hw_20 : r_18 = (-100001) := hw_20
    subst hw_20
    exact k_iret (fun kk_ => ([u_19, (xs 1), (xs 2), (xs 3)] : List Int32).getD kk_ 0) [1, 0] hx hb hr hlk hP hD hS trivial rfl rfl rfl (Nat.le_of_ble_eq_true rfl) (Nat.le_of_ble_eq_true rfl) dX12_roomOf_20
theorem dX12_roll_0 : decode cX12_roll 0 = .ok (.iload_n 1, 1) := by decide +kernel
theorem dX12_roll_1 : decode cX12_roll 1 = .ok (.iconst 0, 1) := by decide +kernel
theorem dX12_roll_2 : decode cX12_roll 2 = .ok (.bipush 59, 2) := by decide +kernel
theorem dX12_roll_4 : decode cX12_roll 4 = .ok (.invokestatic 64, 3) := by decide +kernel
theorem dX12_roll_7 : decode cX12_roll 7 = .ok (.ifCond .eq 16, 3) := by decide +kernel
theorem dX12_roll_10 : decode cX12_roll 10 = .ok (.iload_n 2, 1) := by decide +kernel
theorem dX12_roll_11 : decode cX12_roll 11 = .ok (.iconst (-1), 1) := by decide +kernel
theorem dX12_roll_12 : decode cX12_roll 12 = .ok (.if_icmp .eq 17, 3) := by decide +kernel
theorem dX12_roll_29 : decode cX12_roll 29 = .ok (.iconst 0, 1) := by decide +kernel
theorem dX12_roll_30 : decode cX12_roll 30 = .ok (.istore_n 3, 1) := by decide +kernel
theorem dX12_roll_31 : decode cX12_roll 31 = .ok (.iconst 0, 1) := by decide +kernel
theorem dX12_roll_32 : decode cX12_roll 32 = .ok (.istore 4, 2) := by decide +kernel
theorem dX12_roll_34 : decode cX12_roll 34 = .ok (.iload 4, 2) := by decide +kernel
theorem dX12_roll_36 : decode cX12_roll 36 = .ok (.aload_n 0, 1) := by decide +kernel
theorem dX12_roll_37 : decode cX12_roll 37 = .ok (.getfield 7, 3) := by decide +kernel
theorem dX12_roll_40 : decode cX12_roll 40 = .ok (.iconst 2, 1) := by decide +kernel
theorem dX12_roll_41 : decode cX12_roll 41 = .ok (.iaload, 1) := by decide +kernel
theorem dX12_roll_42 : decode cX12_roll 42 = .ok (.if_icmp .ge 38, 3) := by decide +kernel
theorem dX12_roll_80 : decode cX12_roll 80 = .ok (.iload_n 3, 1) := by decide +kernel
theorem dX12_roll_81 : decode cX12_roll 81 = .ok (.ireturn, 1) := by decide +kernel
theorem dX12_roll_45 : decode cX12_roll 45 = .ok (.iload_n 3, 1) := by decide +kernel
theorem dX12_roll_46 : decode cX12_roll 46 = .ok (.iload_n 2, 1) := by decide +kernel
theorem dX12_roll_47 : decode cX12_roll 47 = .ok (.iconst (-1), 1) := by decide +kernel
theorem dX12_roll_48 : decode cX12_roll 48 = .ok (.if_icmp .eq 9, 3) := by decide +kernel
theorem dX12_roll_57 : decode cX12_roll 57 = .ok (.aload_n 0, 1) := by decide +kernel
theorem dX12_roll_58 : decode cX12_roll 58 = .ok (.iload 4, 2) := by decide +kernel
theorem dX12_roll_60 : decode cX12_roll 60 = .ok (.iload_n 1, 1) := by decide +kernel
theorem dX12_roll_61 : decode cX12_roll 61 = .ok (.invokevirtual 155, 3) := by decide +kernel
theorem dX12_roll_64 : decode cX12_roll 64 = .ok (.ifCond .eq 7, 3) := by decide +kernel
theorem dX12_roll_67 : decode cX12_roll 67 = .ok (.iconst 1, 1) := by decide +kernel
theorem dX12_roll_68 : decode cX12_roll 68 = .ok (.goto 4, 3) := by decide +kernel
theorem dX12_roll_72 : decode cX12_roll 72 = .ok (.iadd, 1) := by decide +kernel
theorem dX12_roll_73 : decode cX12_roll 73 = .ok (.istore_n 3, 1) := by decide +kernel
theorem dX12_roll_74 : decode cX12_roll 74 = .ok (.iinc 4 1, 3) := by decide +kernel
theorem dX12_roll_77 : decode cX12_roll 77 = .ok (.goto (-43), 3) := by decide +kernel
theorem dX12_roll_71 : decode cX12_roll 71 = .ok (.iconst 0, 1) := by decide +kernel
theorem dX12_roll_51 : decode cX12_roll 51 = .ok (.iload_n 2, 1) := by decide +kernel
theorem dX12_roll_52 : decode cX12_roll 52 = .ok (.iload 4, 2) := by decide +kernel
theorem dX12_roll_54 : decode cX12_roll 54 = .ok (.if_icmp .ne 17, 3) := by decide +kernel
theorem dX12_roll_15 : decode cX12_roll 15 = .ok (.aload_n 0, 1) := by decide +kernel
theorem dX12_roll_16 : decode cX12_roll 16 = .ok (.iload_n 2, 1) := by decide +kernel
theorem dX12_roll_17 : decode cX12_roll 17 = .ok (.invokevirtual 82, 3) := by decide +kernel
theorem dX12_roll_20 : decode cX12_roll 20 = .ok (.ifCond .ne 9, 3) := by decide +kernel
theorem dX12_roll_23 : decode cX12_roll 23 = .ok (.aload_n 0, 1) := by decide +kernel
theorem dX12_roll_24 : decode cX12_roll 24 = .ok (.iconst 1, 1) := by decide +kernel
theorem dX12_roll_25 : decode cX12_roll 25 = .ok (.invokevirtual 68, 3) := by decide +kernel
theorem dX12_roll_28 : decode cX12_roll 28 = .ok (.ireturn, 1) := by decide +kernel
set_option maxHeartbeats 8000000 in
set_option maxRecDepth 100000 in
theorem c_X12_roll (l : Launch) (g : kG) (sz : Nat) (z : Nat → Nat) (kp : Nat) (xs : Nat → Int32) (D : Nat → Int32) (x : Int32) (y : Int32) (hDI : DI D) : kMi l g yX12_roll cX12_roll 5 (some .int) 4 0 0 [.ref (z 0), .int x, .int y] sz [(z 0, .inr (12, [.ref (z 1), .ref (z 2), .int (nI kp), .int (xs 0), .ref (z 3), .ref (z 4), .ref (z 5), .ref (z 6), .int (xs 1), .ref (z 7), .ref (z 8), .ref (z 9), .ref (z 10), .ref (z 11), .ref (z 12), .int (xs 2), .ref (z 13), .ref (z 14), .int (xs 3), .ref (z 15)])), (z 1, .inl (gI g, 461, .inl D))] (fun (r : Int32) (u : (Nat → Int32)) => True) (fun (u : (Nat → Int32)) => ([(z 0, .inr (12, [.ref (z 1), .ref (z 2), .int (nI kp), .int (u 0), .ref (z 3), .ref (z 4), .ref (z 5), .ref (z 6), .int (u 1), .ref (z 7), .ref (z 8), .ref (z 9), .ref (z 10), .ref (z 11), .ref (z 12), .int (u 2), .ref (z 13), .ref (z 14), .int (u 3), .ref (z 15)])), (z 1, .inl (gI g, 461, .inl D))] : va_W)) := by
  refine kMi.of (by decide) (Nat.le_of_ble_eq_true rfl) (fun p e s m below meth c A hx hb hr hml hown hts hlk hnm hKW hP hD hS hA ls hl => ?_)
  have hown : s.vm.findClass RX12 = some m.cls := hown
  have hl : lv_has ls 5 [(0, .ref (z 0)), (1, .int x), (2, .int y)] := hl
  refine k_hide hP hS (fun H locs hP hS => ?_)
  refine lv_iload_n hx hb dX12_roll_0 rfl (lv_at hl 1 rfl) ?_
  refine lv_iconst (v := 0) hx hb dX12_roll_1 (by decide) ?_
  refine lv_bipush (v := 59) hx hb dX12_roll_2 (by decide) ?_
  refine k_Si [] [0, 1] (wr := [(z 0, .inr (12, [.ref (z 1), .ref (z 2), .int (nI kp), .int (xs 0), .ref (z 3), .ref (z 4), .ref (z 5), .ref (z 6), .int (xs 1), .ref (z 7), .ref (z 8), .ref (z 9), .ref (z 10), .ref (z 11), .ref (z 12), .int (xs 2), .ref (z 13), .ref (z 14), .int (xs 3), .ref (z 15)])), (z 1, .inl (gI g, 461, .inl D))]) hx hb hml hown hts hKW hP hD hS hA hl.1 (c_X12_isIn l g _ x 0 59 ) wd_10_11 wd_1_5 wd_10_9 wd_10_10 yd_X12_isIn ⟨(Nat.le_of_ble_eq_true rfl), (Nat.le_of_ble_eq_true rfl)⟩ rfl rfl rfl rfl (by decide) rfl (Nat.le_of_ble_eq_true rfl) dX12_roll_4 ⟨(Nat.le_of_ble_eq_true rfl), (Nat.le_of_ble_eq_true rfl)⟩ (fun r_1 u_2 H locs hw_3 hP hD hS => ?_)
  have hP : va_P g.1 vwCl [(z 0, .inr (12, [.ref (z 1), .ref (z 2), .int (nI kp), .int (xs 0), .ref (z 3), .ref (z 4), .ref (z 5), .ref (z 6), .int (xs 1), .ref (z 7), .ref (z 8), .ref (z 9), .ref (z 10), .ref (z 11), .ref (z 12), .int (xs 2), .ref (z 13), .ref (z 14), .int (xs 3), .ref (z 15)])), (z 1, .inl (gI g, 461, .inl D))] H := hP
  have hD : va_D A [(z 0, .inr (12, [.ref (z 1), .ref (z 2), .int (nI kp), .int (xs 0), .ref (z 3), .ref (z 4), .ref (z 5), .ref (z 6), .int (xs 1), .ref (z 7), .ref (z 8), .ref (z 9), .ref (z 10), .ref (z 11), .ref (z 12), .int (xs 2), .ref (z 13), .ref (z 14), .int (xs 3), .ref (z 15)])), (z 1, .inl (gI g, 461, .inl D))] := hD
  rcases (show (r_1 = 1 ∧ (Int32.toInt 0 ≤ Int32.toInt x ∧ Int32.toInt x ≤ Int32.toInt 59)) ∨ (r_1 = 0 ∧ ¬ (Int32.toInt 0 ≤ Int32.toInt x ∧ Int32.toInt x ≤ Int32.toInt 59)) from hw_3) with ⟨rfl, hw_3b⟩ | ⟨rfl, hw_3b⟩ <;> clear hw_3
  · refine lv_if_eq (tgt := 23) hx hb dX12_roll_7 (by decide) (fun c => absurd c (by decide)) (fun _ => ?_)
    refine lv_iload_n hx hb dX12_roll_10 rfl (lv_at hl 2 rfl) ?_
    refine lv_iconst (v := (-1)) hx hb dX12_roll_11 (by decide) ?_
    refine lv_icmp_eq (tgt := 29) hx hb dX12_roll_12 (by decide) (fun c_4 => ?_) (fun c_4 => ?_)
    · refine lv_iconst (v := 0) hx hb dX12_roll_29 (by decide) ?_
      refine lv_istore_n (lv' := [(3, .int 0), (0, .ref (z 0)), (1, .int x), (2, .int y)]) hx hb dX12_roll_30 rfl hl (by decide) rfl (fun ls hl => ?_)
      refine lv_iconst (v := 0) hx hb dX12_roll_31 (by decide) ?_
      refine lv_istore (lv' := [(4, .int 0), (3, .int 0), (0, .ref (z 0)), (1, .int x), (2, .int y)]) hx hb dX12_roll_32 hl (by decide) rfl (fun ls hl => ?_)
      have L34 : ∀ (n34 : Nat) (i : Nat) (x3 : Int32) (hfuel34 : 10 - i < n34) (hi : i ≤ 10) (H : Heap) (locs : List Loc) (hP : va_P g.1 vwCl [(z 0, .inr (12, [.ref (z 1), .ref (z 2), .int (nI kp), .int (xs 0), .ref (z 3), .ref (z 4), .ref (z 5), .ref (z 6), .int (xs 1), .ref (z 7), .ref (z 8), .ref (z 9), .ref (z 10), .ref (z 11), .ref (z 12), .int (xs 2), .ref (z 13), .ref (z 14), .int (xs 3), .ref (z 15)])), (z 1, .inl (gI g, 461, .inl D))] H) (hD : va_D A [(z 0, .inr (12, [.ref (z 1), .ref (z 2), .int (nI kp), .int (xs 0), .ref (z 3), .ref (z 4), .ref (z 5), .ref (z 6), .int (xs 1), .ref (z 7), .ref (z 8), .ref (z 9), .ref (z 10), .ref (z 11), .ref (z 12), .int (xs 2), .ref (z 13), .ref (z 14), .int (xs 3), .ref (z 15)])), (z 1, .inl (gI g, 461, .inl D))]) (hS : va_S A s.heap H locs) (ls : Array Slot) (hl : lv_has ls 5 [(4, .int (nI i)), (3, .int x3), (0, .ref (z 0)), (1, .int x), (2, .int y)]), W p l e (kR 4 0 0) s m ([.ref (z 0), .int x, .int y] : List Value).toArray below meth c H locs 0 0 (kQi g A below ([.ref (z 0), .int x, .int y] : List Value).toArray s 0 0 (fun (r : Int32) (u : (Nat → Int32)) => True) (fun (u : (Nat → Int32)) => ([(z 0, .inr (12, [.ref (z 1), .ref (z 2), .int (nI kp), .int (u 0), .ref (z 3), .ref (z 4), .ref (z 5), .ref (z 6), .int (u 1), .ref (z 7), .ref (z 8), .ref (z 9), .ref (z 10), .ref (z 11), .ref (z 12), .int (u 2), .ref (z 13), .ref (z 14), .int (u 3), .ref (z 15)])), (z 1, .inl (gI g, 461, .inl D))] : va_W))) (F0 m 34 ls []) := by
        intro n34
        induction n34 with
        | zero => intro i x3 hfuel34; exact absurd hfuel34 (Nat.not_lt_zero _)
        | succ n34 ih34 =>
          intro i x3 hfuel34 hi H locs hP hD hS ls hl
          refine lv_iload hx hb dX12_roll_34 (lv_at hl 0 rfl) ?_
          refine lv_aload_n hx hb dX12_roll_36 rfl (lv_at hl 2 rfl) ?_
          refine va_get (ci := 12) (C := RX12) (T := TX12) (N := 20) hx hb hts inlX12 hown hKW.1 hP 0 rfl rfl 0 (by decide) (hts _ wd_6_5) (fun _ h => h) rfl dX12_roll_37 ?_
          refine lv_iconst (v := 2) hx hb dX12_roll_40 (by decide) ?_
          obtain ⟨dk_5, hdk_5a, hdk_5b, edk_5⟩ := DI.n2 hDI
          refine va_iald hx hb hKW.1 hP 1 0 rfl rfl (show ¬ _ by decide) dX12_roll_41 ?_
          refine k_top (y := nI dk_5) edk_5 ?_
          refine lv_icmp_ge (tgt := 80) hx hb dX12_roll_42 (by decide) (fun c_6 => ?_) (fun c_6 => ?_)
          · have c_6n : dk_5 ≤ i := (k_leI (a := dk_5) (b := i) (by omega) (by omega)).mp c_6
            refine lv_iload_n hx hb dX12_roll_80 rfl (lv_at hl 1 rfl) ?_
            exact k_iret xs [0, 1] hx hb hr hlk hP hD hS trivial rfl rfl rfl (Nat.le_of_ble_eq_true rfl) (Nat.le_of_ble_eq_true rfl) dX12_roll_81
          · have c_6n : i < dk_5 := Nat.not_le.mp (fun h => c_6 ((k_leI (a := dk_5) (b := i) (by omega) (by omega)).mpr h))
            refine lv_iload_n hx hb dX12_roll_45 rfl (lv_at hl 1 rfl) ?_
            refine lv_iload_n hx hb dX12_roll_46 rfl (lv_at hl 4 rfl) ?_
            refine lv_iconst (v := (-1)) hx hb dX12_roll_47 (by decide) ?_
            refine lv_icmp_eq (tgt := 57) hx hb dX12_roll_48 (by decide) (fun c_7 => ?_) (fun c_7 => ?_)
            · refine lv_aload_n hx hb dX12_roll_57 rfl (lv_at hl 2 rfl) ?_
              refine lv_iload hx hb dX12_roll_58 (lv_at hl 0 rfl) ?_
              refine lv_iload_n hx hb dX12_roll_60 rfl (lv_at hl 3 rfl) ?_
              refine k_Vi [0, 1] [] 0 12 (wr := []) hx hb hml hown hts hKW hP hD hS hA hl.1 (c_X12_wasIn l g _ z kp xs D (nI i) x (by first | assumption | omega | decide)) rfl rfl rfl wd_32_21 wd_1_5 wd_32_18 wd_32_19 wd_32_20 yd_X12_wasIn ⟨(Nat.le_of_ble_eq_true rfl), (Nat.le_of_ble_eq_true rfl)⟩ rfl rfl rfl rfl (by decide) rfl (Nat.le_of_ble_eq_true rfl) dX12_roll_61 ⟨(Nat.le_of_ble_eq_true rfl), (Nat.le_of_ble_eq_true rfl)⟩ (fun r_8 u_9 H locs hw_10 hP hD hS => ?_)
              have hP : va_P g.1 vwCl [(z 0, .inr (12, [.ref (z 1), .ref (z 2), .int (nI kp), .int (xs 0), .ref (z 3), .ref (z 4), .ref (z 5), .ref (z 6), .int (xs 1), .ref (z 7), .ref (z 8), .ref (z 9), .ref (z 10), .ref (z 11), .ref (z 12), .int (xs 2), .ref (z 13), .ref (z 14), .int (xs 3), .ref (z 15)])), (z 1, .inl (gI g, 461, .inl D))] H := hP
              have hD : va_D A [(z 0, .inr (12, [.ref (z 1), .ref (z 2), .int (nI kp), .int (xs 0), .ref (z 3), .ref (z 4), .ref (z 5), .ref (z 6), .int (xs 1), .ref (z 7), .ref (z 8), .ref (z 9), .ref (z 10), .ref (z 11), .ref (z 12), .int (xs 2), .ref (z 13), .ref (z 14), .int (xs 3), .ref (z 15)])), (z 1, .inl (gI g, 461, .inl D))] := hD
              rcases (show r_8 = 1 ∨ r_8 = 0 from hw_10) with rfl | rfl <;> clear hw_10
              · refine lv_if_eq (tgt := 71) hx hb dX12_roll_64 (by decide) (fun c => absurd c (by decide)) (fun _ => ?_)
                refine lv_iconst (v := 1) hx hb dX12_roll_67 (by decide) ?_
                refine lv_goto (tgt := 72) hx hb dX12_roll_68 (by decide) ?_
                refine lv_iadd hx hb dX12_roll_72 ?_
                refine lv_topi (fun x_11 ex_11 => ?_)
                refine lv_istore_n (lv' := [(3, .int x_11), (4, .int (nI i)), (0, .ref (z 0)), (1, .int x), (2, .int y)]) hx hb dX12_roll_73 rfl hl (by decide) rfl (fun ls hl => ?_)
                refine lv_iinc (v := nI (i + 1)) (lv' := [(4, .int (nI (i + 1))), (3, .int x_11), (0, .ref (z 0)), (1, .int x), (2, .int y)]) hx hb dX12_roll_74 hl (k := 1) rfl (nI_add i 1) (by decide) rfl (fun ls hl => ?_)
                refine lv_goto (tgt := 34) hx hb dX12_roll_77 (by decide) ?_
                exact ih34 (i + 1) x_11 (by omega) (by first | assumption | omega) H locs (hP.sub [0, 1] rfl) (hD.sub [0, 1] (by decide) rfl) hS ls (lv_sub hl [0, 1, 2, 3, 4] rfl)
              · refine lv_if_eq (tgt := 71) hx hb dX12_roll_64 (by decide) (fun _ => ?_) (fun c => absurd c (by decide))
                refine lv_iconst (v := 0) hx hb dX12_roll_71 (by decide) ?_
                refine lv_iadd hx hb dX12_roll_72 ?_
                refine lv_topi (fun x_12 ex_12 => ?_)
                refine lv_istore_n (lv' := [(3, .int x_12), (4, .int (nI i)), (0, .ref (z 0)), (1, .int x), (2, .int y)]) hx hb dX12_roll_73 rfl hl (by decide) rfl (fun ls hl => ?_)
                refine lv_iinc (v := nI (i + 1)) (lv' := [(4, .int (nI (i + 1))), (3, .int x_12), (0, .ref (z 0)), (1, .int x), (2, .int y)]) hx hb dX12_roll_74 hl (k := 1) rfl (nI_add i 1) (by decide) rfl (fun ls hl => ?_)
                refine lv_goto (tgt := 34) hx hb dX12_roll_77 (by decide) ?_
                exact ih34 (i + 1) x_12 (by omega) (by first | assumption | omega) H locs (hP.sub [0, 1] rfl) (hD.sub [0, 1] (by decide) rfl) hS ls (lv_sub hl [0, 1, 2, 3, 4] rfl)
            · refine lv_iload_n hx hb dX12_roll_51 rfl (lv_at hl 4 rfl) ?_
              refine lv_iload hx hb dX12_roll_52 (lv_at hl 0 rfl) ?_
              refine lv_icmp_ne (tgt := 71) hx hb dX12_roll_54 (by decide) (fun c_13 => ?_) (fun c_13 => ?_)
              · refine lv_iconst (v := 0) hx hb dX12_roll_71 (by decide) ?_
                refine lv_iadd hx hb dX12_roll_72 ?_
                refine lv_topi (fun x_14 ex_14 => ?_)
                refine lv_istore_n (lv' := [(3, .int x_14), (4, .int (nI i)), (0, .ref (z 0)), (1, .int x), (2, .int y)]) hx hb dX12_roll_73 rfl hl (by decide) rfl (fun ls hl => ?_)
                refine lv_iinc (v := nI (i + 1)) (lv' := [(4, .int (nI (i + 1))), (3, .int x_14), (0, .ref (z 0)), (1, .int x), (2, .int y)]) hx hb dX12_roll_74 hl (k := 1) rfl (nI_add i 1) (by decide) rfl (fun ls hl => ?_)
                refine lv_goto (tgt := 34) hx hb dX12_roll_77 (by decide) ?_
                exact ih34 (i + 1) x_14 (by omega) (by first | assumption | omega) H locs (hP.sub [0, 1] rfl) (hD.sub [0, 1] (by decide) rfl) hS ls (lv_sub hl [0, 1, 2, 3, 4] rfl)
              · refine lv_aload_n hx hb dX12_roll_57 rfl (lv_at hl 2 rfl) ?_
                refine lv_iload hx hb dX12_roll_58 (lv_at hl 0 rfl) ?_
                refine lv_iload_n hx hb dX12_roll_60 rfl (lv_at hl 3 rfl) ?_
                refine k_Vi [0, 1] [] 0 12 (wr := []) hx hb hml hown hts hKW hP hD hS hA hl.1 (c_X12_wasIn l g _ z kp xs D (nI i) x (by first | assumption | omega | decide)) rfl rfl rfl wd_32_21 wd_1_5 wd_32_18 wd_32_19 wd_32_20 yd_X12_wasIn ⟨(Nat.le_of_ble_eq_true rfl), (Nat.le_of_ble_eq_true rfl)⟩ rfl rfl rfl rfl (by decide) rfl (Nat.le_of_ble_eq_true rfl) dX12_roll_61 ⟨(Nat.le_of_ble_eq_true rfl), (Nat.le_of_ble_eq_true rfl)⟩ (fun r_15 u_16 H locs hw_17 hP hD hS => ?_)
                have hP : va_P g.1 vwCl [(z 0, .inr (12, [.ref (z 1), .ref (z 2), .int (nI kp), .int (xs 0), .ref (z 3), .ref (z 4), .ref (z 5), .ref (z 6), .int (xs 1), .ref (z 7), .ref (z 8), .ref (z 9), .ref (z 10), .ref (z 11), .ref (z 12), .int (xs 2), .ref (z 13), .ref (z 14), .int (xs 3), .ref (z 15)])), (z 1, .inl (gI g, 461, .inl D))] H := hP
                have hD : va_D A [(z 0, .inr (12, [.ref (z 1), .ref (z 2), .int (nI kp), .int (xs 0), .ref (z 3), .ref (z 4), .ref (z 5), .ref (z 6), .int (xs 1), .ref (z 7), .ref (z 8), .ref (z 9), .ref (z 10), .ref (z 11), .ref (z 12), .int (xs 2), .ref (z 13), .ref (z 14), .int (xs 3), .ref (z 15)])), (z 1, .inl (gI g, 461, .inl D))] := hD
                rcases (show r_15 = 1 ∨ r_15 = 0 from hw_17) with rfl | rfl <;> clear hw_17
                · refine lv_if_eq (tgt := 71) hx hb dX12_roll_64 (by decide) (fun c => absurd c (by decide)) (fun _ => ?_)
                  refine lv_iconst (v := 1) hx hb dX12_roll_67 (by decide) ?_
                  refine lv_goto (tgt := 72) hx hb dX12_roll_68 (by decide) ?_
                  refine lv_iadd hx hb dX12_roll_72 ?_
                  refine lv_topi (fun x_18 ex_18 => ?_)
                  refine lv_istore_n (lv' := [(3, .int x_18), (4, .int (nI i)), (0, .ref (z 0)), (1, .int x), (2, .int y)]) hx hb dX12_roll_73 rfl hl (by decide) rfl (fun ls hl => ?_)
                  refine lv_iinc (v := nI (i + 1)) (lv' := [(4, .int (nI (i + 1))), (3, .int x_18), (0, .ref (z 0)), (1, .int x), (2, .int y)]) hx hb dX12_roll_74 hl (k := 1) rfl (nI_add i 1) (by decide) rfl (fun ls hl => ?_)
                  refine lv_goto (tgt := 34) hx hb dX12_roll_77 (by decide) ?_
                  exact ih34 (i + 1) x_18 (by omega) (by first | assumption | omega) H locs (hP.sub [0, 1] rfl) (hD.sub [0, 1] (by decide) rfl) hS ls (lv_sub hl [0, 1, 2, 3, 4] rfl)
                · refine lv_if_eq (tgt := 71) hx hb dX12_roll_64 (by decide) (fun _ => ?_) (fun c => absurd c (by decide))
                  refine lv_iconst (v := 0) hx hb dX12_roll_71 (by decide) ?_
                  refine lv_iadd hx hb dX12_roll_72 ?_
                  refine lv_topi (fun x_19 ex_19 => ?_)
                  refine lv_istore_n (lv' := [(3, .int x_19), (4, .int (nI i)), (0, .ref (z 0)), (1, .int x), (2, .int y)]) hx hb dX12_roll_73 rfl hl (by decide) rfl (fun ls hl => ?_)
                  refine lv_iinc (v := nI (i + 1)) (lv' := [(4, .int (nI (i + 1))), (3, .int x_19), (0, .ref (z 0)), (1, .int x), (2, .int y)]) hx hb dX12_roll_74 hl (k := 1) rfl (nI_add i 1) (by decide) rfl (fun ls hl => ?_)
                  refine lv_goto (tgt := 34) hx hb dX12_roll_77 (by decide) ?_
                  exact ih34 (i + 1) x_19 (by omega) (by first | assumption | omega) H locs (hP.sub [0, 1] rfl) (hD.sub [0, 1] (by decide) rfl) hS ls (lv_sub hl [0, 1, 2, 3, 4] rfl)
      exact L34 (10 - 0 + 1) 0 0 (Nat.lt_succ_self _) (by first | assumption | omega) H locs (hP.sub [0, 1] rfl) (hD.sub [0, 1] (by decide) rfl) hS ls (lv_sub hl [0, 1, 2, 3, 4] rfl)
    · refine lv_aload_n hx hb dX12_roll_15 rfl (lv_at hl 0 rfl) ?_
      refine lv_iload_n hx hb dX12_roll_16 rfl (lv_at hl 2 rfl) ?_
      refine k_Vi [0, 1] [] 0 12 (wr := []) hx hb hml hown hts hKW hP hD hS hA hl.1 (c_X12_isChild l g _ z kp xs D y (by first | assumption | omega | decide)) rfl rfl rfl wd_13_19 wd_1_5 wd_13_16 wd_13_17 wd_13_18 yd_X12_isChild ⟨(Nat.le_of_ble_eq_true rfl), (Nat.le_of_ble_eq_true rfl)⟩ rfl rfl rfl rfl (by decide) rfl (Nat.le_of_ble_eq_true rfl) dX12_roll_17 ⟨(Nat.le_of_ble_eq_true rfl), (Nat.le_of_ble_eq_true rfl)⟩ (fun r_20 u_21 H locs hw_22 hP hD hS => ?_)
      have hP : va_P g.1 vwCl [(z 0, .inr (12, [.ref (z 1), .ref (z 2), .int (nI kp), .int (xs 0), .ref (z 3), .ref (z 4), .ref (z 5), .ref (z 6), .int (xs 1), .ref (z 7), .ref (z 8), .ref (z 9), .ref (z 10), .ref (z 11), .ref (z 12), .int (xs 2), .ref (z 13), .ref (z 14), .int (xs 3), .ref (z 15)])), (z 1, .inl (gI g, 461, .inl D))] H := hP
      have hD : va_D A [(z 0, .inr (12, [.ref (z 1), .ref (z 2), .int (nI kp), .int (xs 0), .ref (z 3), .ref (z 4), .ref (z 5), .ref (z 6), .int (xs 1), .ref (z 7), .ref (z 8), .ref (z 9), .ref (z 10), .ref (z 11), .ref (z 12), .int (xs 2), .ref (z 13), .ref (z 14), .int (xs 3), .ref (z 15)])), (z 1, .inl (gI g, 461, .inl D))] := hD
      rcases (show (r_20 = 1 ∧ (∃ j : Nat, (j < 10 ∧ (j : Int) < (D 2).toInt) ∧ y = nI j)) ∨ (r_20 = 0 ∧ ¬ (∃ j : Nat, (j < 10 ∧ (j : Int) < (D 2).toInt) ∧ y = nI j)) from hw_22) with ⟨rfl, hw_22b⟩ | ⟨rfl, hw_22b⟩ <;> clear hw_22
      · obtain ⟨j_23, hj_23, rfl⟩ := hw_22b
        refine lv_if_ne (tgt := 29) hx hb dX12_roll_20 (by decide) (fun _ => ?_) (fun c => absurd c (by decide))
        refine lv_iconst (v := 0) hx hb dX12_roll_29 (by decide) ?_
        refine lv_istore_n (lv' := [(3, .int 0), (0, .ref (z 0)), (1, .int x), (2, .int (nI j_23))]) hx hb dX12_roll_30 rfl hl (by decide) rfl (fun ls hl => ?_)
        refine lv_iconst (v := 0) hx hb dX12_roll_31 (by decide) ?_
        refine lv_istore (lv' := [(4, .int 0), (3, .int 0), (0, .ref (z 0)), (1, .int x), (2, .int (nI j_23))]) hx hb dX12_roll_32 hl (by decide) rfl (fun ls hl => ?_)
        have L34 : ∀ (n34 : Nat) (i : Nat) (x3 : Int32) (hfuel34 : 10 - i < n34) (hi : i ≤ 10) (H : Heap) (locs : List Loc) (hP : va_P g.1 vwCl [(z 0, .inr (12, [.ref (z 1), .ref (z 2), .int (nI kp), .int (xs 0), .ref (z 3), .ref (z 4), .ref (z 5), .ref (z 6), .int (xs 1), .ref (z 7), .ref (z 8), .ref (z 9), .ref (z 10), .ref (z 11), .ref (z 12), .int (xs 2), .ref (z 13), .ref (z 14), .int (xs 3), .ref (z 15)])), (z 1, .inl (gI g, 461, .inl D))] H) (hD : va_D A [(z 0, .inr (12, [.ref (z 1), .ref (z 2), .int (nI kp), .int (xs 0), .ref (z 3), .ref (z 4), .ref (z 5), .ref (z 6), .int (xs 1), .ref (z 7), .ref (z 8), .ref (z 9), .ref (z 10), .ref (z 11), .ref (z 12), .int (xs 2), .ref (z 13), .ref (z 14), .int (xs 3), .ref (z 15)])), (z 1, .inl (gI g, 461, .inl D))]) (hS : va_S A s.heap H locs) (ls : Array Slot) (hl : lv_has ls 5 [(4, .int (nI i)), (3, .int x3), (0, .ref (z 0)), (1, .int x), (2, .int (nI j_23))]), W p l e (kR 4 0 0) s m ([.ref (z 0), .int x, .int (nI j_23)] : List Value).toArray below meth c H locs 0 0 (kQi g A below ([.ref (z 0), .int x, .int (nI j_23)] : List Value).toArray s 0 0 (fun (r : Int32) (u : (Nat → Int32)) => True) (fun (u : (Nat → Int32)) => ([(z 0, .inr (12, [.ref (z 1), .ref (z 2), .int (nI kp), .int (u 0), .ref (z 3), .ref (z 4), .ref (z 5), .ref (z 6), .int (u 1), .ref (z 7), .ref (z 8), .ref (z 9), .ref (z 10), .ref (z 11), .ref (z 12), .int (u 2), .ref (z 13), .ref (z 14), .int (u 3), .ref (z 15)])), (z 1, .inl (gI g, 461, .inl D))] : va_W))) (F0 m 34 ls []) := by
          intro n34
          induction n34 with
          | zero => intro i x3 hfuel34; exact absurd hfuel34 (Nat.not_lt_zero _)
          | succ n34 ih34 =>
            intro i x3 hfuel34 hi H locs hP hD hS ls hl
            refine lv_iload hx hb dX12_roll_34 (lv_at hl 0 rfl) ?_
            refine lv_aload_n hx hb dX12_roll_36 rfl (lv_at hl 2 rfl) ?_
            refine va_get (ci := 12) (C := RX12) (T := TX12) (N := 20) hx hb hts inlX12 hown hKW.1 hP 0 rfl rfl 0 (by decide) (hts _ wd_6_5) (fun _ h => h) rfl dX12_roll_37 ?_
            refine lv_iconst (v := 2) hx hb dX12_roll_40 (by decide) ?_
            obtain ⟨dk_24, hdk_24a, hdk_24b, edk_24⟩ := DI.n2 hDI
            refine va_iald hx hb hKW.1 hP 1 0 rfl rfl (show ¬ _ by decide) dX12_roll_41 ?_
            refine k_top (y := nI dk_24) edk_24 ?_
            refine lv_icmp_ge (tgt := 80) hx hb dX12_roll_42 (by decide) (fun c_25 => ?_) (fun c_25 => ?_)
            · have c_25n : dk_24 ≤ i := (k_leI (a := dk_24) (b := i) (by omega) (by omega)).mp c_25
              refine lv_iload_n hx hb dX12_roll_80 rfl (lv_at hl 1 rfl) ?_
              exact k_iret xs [0, 1] hx hb hr hlk hP hD hS trivial rfl rfl rfl (Nat.le_of_ble_eq_true rfl) (Nat.le_of_ble_eq_true rfl) dX12_roll_81
            · have c_25n : i < dk_24 := Nat.not_le.mp (fun h => c_25 ((k_leI (a := dk_24) (b := i) (by omega) (by omega)).mpr h))
              refine lv_iload_n hx hb dX12_roll_45 rfl (lv_at hl 1 rfl) ?_
              refine lv_iload_n hx hb dX12_roll_46 rfl (lv_at hl 4 rfl) ?_
              refine lv_iconst (v := (-1)) hx hb dX12_roll_47 (by decide) ?_
              refine lv_icmp_eq (tgt := 57) hx hb dX12_roll_48 (by decide) (fun c => absurd c (k_n_eq (n := j_23) (-1) (by decide) (by omega))) (fun _ => ?_)
              refine lv_iload_n hx hb dX12_roll_51 rfl (lv_at hl 4 rfl) ?_
              refine lv_iload hx hb dX12_roll_52 (lv_at hl 0 rfl) ?_
              refine lv_icmp_ne (tgt := 71) hx hb dX12_roll_54 (by decide) (fun c_26 => ?_) (fun c_26 => ?_)
              · have c_26n : ¬ j_23 = i := fun h => c_26 ((k_eqI (a := j_23) (b := i) (by omega) (by omega)).mpr h)
                refine lv_iconst (v := 0) hx hb dX12_roll_71 (by decide) ?_
                refine lv_iadd hx hb dX12_roll_72 ?_
                refine lv_topi (fun x_27 ex_27 => ?_)
                refine lv_istore_n (lv' := [(3, .int x_27), (4, .int (nI i)), (0, .ref (z 0)), (1, .int x), (2, .int (nI j_23))]) hx hb dX12_roll_73 rfl hl (by decide) rfl (fun ls hl => ?_)
                refine lv_iinc (v := nI (i + 1)) (lv' := [(4, .int (nI (i + 1))), (3, .int x_27), (0, .ref (z 0)), (1, .int x), (2, .int (nI j_23))]) hx hb dX12_roll_74 hl (k := 1) rfl (nI_add i 1) (by decide) rfl (fun ls hl => ?_)
                refine lv_goto (tgt := 34) hx hb dX12_roll_77 (by decide) ?_
                exact ih34 (i + 1) x_27 (by omega) (by first | assumption | omega) H locs (hP.sub [0, 1] rfl) (hD.sub [0, 1] (by decide) rfl) hS ls (lv_sub hl [0, 1, 2, 3, 4] rfl)
              · have c_26n : j_23 = i := (k_eqI (a := j_23) (b := i) (by omega) (by omega)).mp c_26
                refine lv_aload_n hx hb dX12_roll_57 rfl (lv_at hl 2 rfl) ?_
                refine lv_iload hx hb dX12_roll_58 (lv_at hl 0 rfl) ?_
                refine lv_iload_n hx hb dX12_roll_60 rfl (lv_at hl 3 rfl) ?_
                refine k_Vi [0, 1] [] 0 12 (wr := []) hx hb hml hown hts hKW hP hD hS hA hl.1 (c_X12_wasIn l g _ z kp xs D (nI i) x (by first | assumption | omega | decide)) rfl rfl rfl wd_32_21 wd_1_5 wd_32_18 wd_32_19 wd_32_20 yd_X12_wasIn ⟨(Nat.le_of_ble_eq_true rfl), (Nat.le_of_ble_eq_true rfl)⟩ rfl rfl rfl rfl (by decide) rfl (Nat.le_of_ble_eq_true rfl) dX12_roll_61 ⟨(Nat.le_of_ble_eq_true rfl), (Nat.le_of_ble_eq_true rfl)⟩ (fun r_28 u_29 H locs hw_30 hP hD hS => ?_)
                have hP : va_P g.1 vwCl [(z 0, .inr (12, [.ref (z 1), .ref (z 2), .int (nI kp), .int (xs 0), .ref (z 3), .ref (z 4), .ref (z 5), .ref (z 6), .int (xs 1), .ref (z 7), .ref (z 8), .ref (z 9), .ref (z 10), .ref (z 11), .ref (z 12), .int (xs 2), .ref (z 13), .ref (z 14), .int (xs 3), .ref (z 15)])), (z 1, .inl (gI g, 461, .inl D))] H := hP
                have hD : va_D A [(z 0, .inr (12, [.ref (z 1), .ref (z 2), .int (nI kp), .int (xs 0), .ref (z 3), .ref (z 4), .ref (z 5), .ref (z 6), .int (xs 1), .ref (z 7), .ref (z 8), .ref (z 9), .ref (z 10), .ref (z 11), .ref (z 12), .int (xs 2), .ref (z 13), .ref (z 14), .int (xs 3), .ref (z 15)])), (z 1, .inl (gI g, 461, .inl D))] := hD
                rcases (show r_28 = 1 ∨ r_28 = 0 from hw_30) with rfl | rfl <;> clear hw_30
                · refine lv_if_eq (tgt := 71) hx hb dX12_roll_64 (by decide) (fun c => absurd c (by decide)) (fun _ => ?_)
                  refine lv_iconst (v := 1) hx hb dX12_roll_67 (by decide) ?_
                  refine lv_goto (tgt := 72) hx hb dX12_roll_68 (by decide) ?_
                  refine lv_iadd hx hb dX12_roll_72 ?_
                  refine lv_topi (fun x_31 ex_31 => ?_)
                  refine lv_istore_n (lv' := [(3, .int x_31), (4, .int (nI i)), (0, .ref (z 0)), (1, .int x), (2, .int (nI j_23))]) hx hb dX12_roll_73 rfl hl (by decide) rfl (fun ls hl => ?_)
                  refine lv_iinc (v := nI (i + 1)) (lv' := [(4, .int (nI (i + 1))), (3, .int x_31), (0, .ref (z 0)), (1, .int x), (2, .int (nI j_23))]) hx hb dX12_roll_74 hl (k := 1) rfl (nI_add i 1) (by decide) rfl (fun ls hl => ?_)
                  refine lv_goto (tgt := 34) hx hb dX12_roll_77 (by decide) ?_
                  exact ih34 (i + 1) x_31 (by omega) (by first | assumption | omega) H locs (hP.sub [0, 1] rfl) (hD.sub [0, 1] (by decide) rfl) hS ls (lv_sub hl [0, 1, 2, 3, 4] rfl)
                · refine lv_if_eq (tgt := 71) hx hb dX12_roll_64 (by decide) (fun _ => ?_) (fun c => absurd c (by decide))
                  refine lv_iconst (v := 0) hx hb dX12_roll_71 (by decide) ?_
                  refine lv_iadd hx hb dX12_roll_72 ?_
                  refine lv_topi (fun x_32 ex_32 => ?_)
                  refine lv_istore_n (lv' := [(3, .int x_32), (4, .int (nI i)), (0, .ref (z 0)), (1, .int x), (2, .int (nI j_23))]) hx hb dX12_roll_73 rfl hl (by decide) rfl (fun ls hl => ?_)
                  refine lv_iinc (v := nI (i + 1)) (lv' := [(4, .int (nI (i + 1))), (3, .int x_32), (0, .ref (z 0)), (1, .int x), (2, .int (nI j_23))]) hx hb dX12_roll_74 hl (k := 1) rfl (nI_add i 1) (by decide) rfl (fun ls hl => ?_)
                  refine lv_goto (tgt := 34) hx hb dX12_roll_77 (by decide) ?_
                  exact ih34 (i + 1) x_32 (by omega) (by first | assumption | omega) H locs (hP.sub [0, 1] rfl) (hD.sub [0, 1] (by decide) rfl) hS ls (lv_sub hl [0, 1, 2, 3, 4] rfl)
        exact L34 (10 - 0 + 1) 0 0 (Nat.lt_succ_self _) (by first | assumption | omega) H locs (hP.sub [0, 1] rfl) (hD.sub [0, 1] (by decide) rfl) hS ls (lv_sub hl [0, 1, 2, 3, 4] rfl)
      · refine lv_if_ne (tgt := 29) hx hb dX12_roll_20 (by decide) (fun c => absurd c (by decide)) (fun _ => ?_)
        refine lv_aload_n hx hb dX12_roll_23 rfl (lv_at hl 0 rfl) ?_
        refine lv_iconst (v := 1) hx hb dX12_roll_24 (by decide) ?_
        refine k_Vi [0] [1] 0 12 (wr := [(z 1, .inl (gI g, 461, .inl D))]) hx hb hml hown hts hKW hP hD hS hA hl.1 (c_X12_finding_1 l g _ z kp xs ) rfl rfl rfl wd_10_15 wd_1_5 wd_10_12 wd_10_13 wd_10_14 yd_X12_finding ⟨(Nat.le_of_ble_eq_true rfl), (Nat.le_of_ble_eq_true rfl)⟩ rfl rfl rfl rfl (by decide) rfl (Nat.le_of_ble_eq_true rfl) dX12_roll_25 ⟨(Nat.le_of_ble_eq_true rfl), (Nat.le_of_ble_eq_true rfl)⟩ (fun r_33 u_34 H locs hw_35 hP hD hS => ?_)
        have hP : va_P g.1 vwCl [(z 1, .inl (gI g, 461, .inl D)), (z 0, .inr (12, [.ref (z 1), .ref (z 2), .int (nI kp), .int u_34, .ref (z 3), .ref (z 4), .ref (z 5), .ref (z 6), .int (xs 1), .ref (z 7), .ref (z 8), .ref (z 9), .ref (z 10), .ref (z 11), .ref (z 12), .int (xs 2), .ref (z 13), .ref (z 14), .int (xs 3), .ref (z 15)]))] H := hP
        have hD : va_D A [(z 1, .inl (gI g, 461, .inl D)), (z 0, .inr (12, [.ref (z 1), .ref (z 2), .int (nI kp), .int u_34, .ref (z 3), .ref (z 4), .ref (z 5), .ref (z 6), .int (xs 1), .ref (z 7), .ref (z 8), .ref (z 9), .ref (z 10), .ref (z 11), .ref (z 12), .int (xs 2), .ref (z 13), .ref (z 14), .int (xs 3), .ref (z 15)]))] := hD
        have hw_35 : r_33 = (-100001) := hw_35
        subst hw_35
        exact k_iret (fun kk_ => ([u_34, (xs 1), (xs 2), (xs 3)] : List Int32).getD kk_ 0) [1, 0] hx hb hr hlk hP hD hS trivial rfl rfl rfl (Nat.le_of_ble_eq_true rfl) (Nat.le_of_ble_eq_true rfl) dX12_roll_28
  · refine lv_if_eq (tgt := 23) hx hb dX12_roll_7 (by decide) (fun _ => ?_) (fun c => absurd c (by decide))
    refine lv_aload_n hx hb dX12_roll_23 rfl (lv_at hl 0 rfl) ?_
    refine lv_iconst (v := 1) hx hb dX12_roll_24 (by decide) ?_
    refine k_Vi [0] [1] 0 12 (wr := [(z 1, .inl (gI g, 461, .inl D))]) hx hb hml hown hts hKW hP hD hS hA hl.1 (c_X12_finding_1 l g _ z kp xs ) rfl rfl rfl wd_10_15 wd_1_5 wd_10_12 wd_10_13 wd_10_14 yd_X12_finding ⟨(Nat.le_of_ble_eq_true rfl), (Nat.le_of_ble_eq_true rfl)⟩ rfl rfl rfl rfl (by decide) rfl (Nat.le_of_ble_eq_true rfl) dX12_roll_25 ⟨(Nat.le_of_ble_eq_true rfl), (Nat.le_of_ble_eq_true rfl)⟩ (fun r_36 u_37 H locs hw_38 hP hD hS => ?_)
    have hP : va_P g.1 vwCl [(z 1, .inl (gI g, 461, .inl D)), (z 0, .inr (12, [.ref (z 1), .ref (z 2), .int (nI kp), .int u_37, .ref (z 3), .ref (z 4), .ref (z 5), .ref (z 6), .int (xs 1), .ref (z 7), .ref (z 8), .ref (z 9), .ref (z 10), .ref (z 11), .ref (z 12), .int (xs 2), .ref (z 13), .ref (z 14), .int (xs 3), .ref (z 15)]))] H := hP
    have hD : va_D A [(z 1, .inl (gI g, 461, .inl D)), (z 0, .inr (12, [.ref (z 1), .ref (z 2), .int (nI kp), .int u_37, .ref (z 3), .ref (z 4), .ref (z 5), .ref (z 6), .int (xs 1), .ref (z 7), .ref (z 8), .ref (z 9), .ref (z 10), .ref (z 11), .ref (z 12), .int (xs 2), .ref (z 13), .ref (z 14), .int (xs 3), .ref (z 15)]))] := hD
    have hw_38 : r_36 = (-100001) := hw_38
    subst hw_38
    exact k_iret (fun kk_ => ([u_37, (xs 1), (xs 2), (xs 3)] : List Int32).getD kk_ 0) [1, 0] hx hb hr hlk hP hD hS trivial rfl rfl rfl (Nat.le_of_ble_eq_true rfl) (Nat.le_of_ble_eq_true rfl) dX12_roll_28
theorem dX12_missed_0 : decode cX12_missed 0 = .ok (.aload_n 0, 1) := by decide +kernel
theorem dX12_missed_1 : decode cX12_missed 1 = .ok (.iload_n 1, 1) := by decide +kernel
theorem dX12_missed_2 : decode cX12_missed 2 = .ok (.invokevirtual 82, 3) := by decide +kernel
theorem dX12_missed_5 : decode cX12_missed 5 = .ok (.ifCond .ne 9, 3) := by decide +kernel
theorem dX12_missed_14 : decode cX12_missed 14 = .ok (.iconst 0, 1) := by decide +kernel
theorem dX12_missed_15 : decode cX12_missed 15 = .ok (.istore_n 3, 1) := by decide +kernel
theorem dX12_missed_16 : decode cX12_missed 16 = .ok (.iconst (-1), 1) := by decide +kernel
theorem dX12_missed_17 : decode cX12_missed 17 = .ok (.istore 4, 2) := by decide +kernel
theorem dX12_missed_19 : decode cX12_missed 19 = .ok (.iconst (-1), 1) := by decide +kernel
theorem dX12_missed_20 : decode cX12_missed 20 = .ok (.istore 5, 2) := by decide +kernel
theorem dX12_missed_22 : decode cX12_missed 22 = .ok (.iconst 0, 1) := by decide +kernel
theorem dX12_missed_23 : decode cX12_missed 23 = .ok (.istore 6, 2) := by decide +kernel
theorem dX12_missed_25 : decode cX12_missed 25 = .ok (.iload 6, 2) := by decide +kernel
theorem dX12_missed_27 : decode cX12_missed 27 = .ok (.aload_n 0, 1) := by decide +kernel
theorem dX12_missed_28 : decode cX12_missed 28 = .ok (.getfield 7, 3) := by decide +kernel
theorem dX12_missed_31 : decode cX12_missed 31 = .ok (.bipush 6, 2) := by decide +kernel
theorem dX12_missed_33 : decode cX12_missed 33 = .ok (.iaload, 1) := by decide +kernel
theorem dX12_missed_34 : decode cX12_missed 34 = .ok (.if_icmp .gt 133, 3) := by decide +kernel
theorem dX12_missed_167 : decode cX12_missed 167 = .ok (.iload_n 2, 1) := by decide +kernel
theorem dX12_missed_168 : decode cX12_missed 168 = .ok (.ifCond .ne 7, 3) := by decide +kernel
theorem dX12_missed_175 : decode cX12_missed 175 = .ok (.iload_n 3, 1) := by decide +kernel
theorem dX12_missed_176 : decode cX12_missed 176 = .ok (.ifCond .ne 12, 3) := by decide +kernel
theorem dX12_missed_188 : decode cX12_missed 188 = .ok (.iload 4, 2) := by decide +kernel
theorem dX12_missed_190 : decode cX12_missed 190 = .ok (.ireturn, 1) := by decide +kernel
theorem dX12_missed_179 : decode cX12_missed 179 = .ok (.aload_n 0, 1) := by decide +kernel
theorem dX12_missed_180 : decode cX12_missed 180 = .ok (.bipush 6, 2) := by decide +kernel
theorem dX12_missed_182 : decode cX12_missed 182 = .ok (.invokevirtual 68, 3) := by decide +kernel
theorem dX12_missed_185 : decode cX12_missed 185 = .ok (.goto 5, 3) := by decide +kernel
theorem dX12_missed_171 : decode cX12_missed 171 = .ok (.iload_n 3, 1) := by decide +kernel
theorem dX12_missed_172 : decode cX12_missed 172 = .ok (.goto 18, 3) := by decide +kernel
theorem dX12_missed_37 : decode cX12_missed 37 = .ok (.iload 6, 2) := by decide +kernel
theorem dX12_missed_39 : decode cX12_missed 39 = .ok (.aload_n 0, 1) := by decide +kernel
theorem dX12_missed_40 : decode cX12_missed 40 = .ok (.getfield 7, 3) := by decide +kernel
theorem dX12_missed_43 : decode cX12_missed 43 = .ok (.bipush 6, 2) := by decide +kernel
theorem dX12_missed_45 : decode cX12_missed 45 = .ok (.iaload, 1) := by decide +kernel
theorem dX12_missed_46 : decode cX12_missed 46 = .ok (.if_icmp .ne 7, 3) := by decide +kernel
theorem dX12_missed_53 : decode cX12_missed 53 = .ok (.iconst 0, 1) := by decide +kernel
theorem dX12_missed_54 : decode cX12_missed 54 = .ok (.istore 7, 2) := by decide +kernel
theorem dX12_missed_56 : decode cX12_missed 56 = .ok (.iload 7, 2) := by decide +kernel
theorem dX12_missed_58 : decode cX12_missed 58 = .ok (.ifCond .ne 18, 3) := by decide +kernel
theorem dX12_missed_61 : decode cX12_missed 61 = .ok (.aload_n 0, 1) := by decide +kernel
theorem dX12_missed_62 : decode cX12_missed 62 = .ok (.getfield 7, 3) := by decide +kernel
theorem dX12_missed_65 : decode cX12_missed 65 = .ok (.sipush 341, 3) := by decide +kernel
theorem dX12_missed_68 : decode cX12_missed 68 = .ok (.iload 6, 2) := by decide +kernel
theorem dX12_missed_70 : decode cX12_missed 70 = .ok (.iadd, 1) := by decide +kernel
theorem dX12_missed_71 : decode cX12_missed 71 = .ok (.iaload, 1) := by decide +kernel
theorem dX12_missed_72 : decode cX12_missed 72 = .ok (.iload_n 1, 1) := by decide +kernel
theorem dX12_missed_73 : decode cX12_missed 73 = .ok (.if_icmp .ne 88, 3) := by decide +kernel
theorem dX12_missed_161 : decode cX12_missed 161 = .ok (.iinc 6 1, 3) := by decide +kernel
theorem dX12_missed_164 : decode cX12_missed 164 = .ok (.goto (-139), 3) := by decide +kernel
theorem dX12_missed_76 : decode cX12_missed 76 = .ok (.iload 7, 2) := by decide +kernel
theorem dX12_missed_78 : decode cX12_missed 78 = .ok (.ifCond .eq 12, 3) := by decide +kernel
theorem dX12_missed_90 : decode cX12_missed 90 = .ok (.aload_n 0, 1) := by decide +kernel
theorem dX12_missed_91 : decode cX12_missed 91 = .ok (.getfield 7, 3) := by decide +kernel
theorem dX12_missed_94 : decode cX12_missed 94 = .ok (.sipush 381, 3) := by decide +kernel
theorem dX12_missed_97 : decode cX12_missed 97 = .ok (.iload 6, 2) := by decide +kernel
theorem dX12_missed_99 : decode cX12_missed 99 = .ok (.iadd, 1) := by decide +kernel
theorem dX12_missed_100 : decode cX12_missed 100 = .ok (.iaload, 1) := by decide +kernel
theorem dX12_missed_101 : decode cX12_missed 101 = .ok (.istore 8, 2) := by decide +kernel
theorem dX12_missed_103 : decode cX12_missed 103 = .ok (.iload 5, 2) := by decide +kernel
theorem dX12_missed_105 : decode cX12_missed 105 = .ok (.ifCond .lt 28, 3) := by decide +kernel
theorem dX12_missed_133 : decode cX12_missed 133 = .ok (.iload 7, 2) := by decide +kernel
theorem dX12_missed_135 : decode cX12_missed 135 = .ok (.ifCond .ne 18, 3) := by decide +kernel
theorem dX12_missed_138 : decode cX12_missed 138 = .ok (.aload_n 0, 1) := by decide +kernel
theorem dX12_missed_139 : decode cX12_missed 139 = .ok (.getfield 7, 3) := by decide +kernel
theorem dX12_missed_142 : decode cX12_missed 142 = .ok (.sipush 421, 3) := by decide +kernel
theorem dX12_missed_145 : decode cX12_missed 145 = .ok (.iload 6, 2) := by decide +kernel
theorem dX12_missed_147 : decode cX12_missed 147 = .ok (.iadd, 1) := by decide +kernel
theorem dX12_missed_148 : decode cX12_missed 148 = .ok (.iaload, 1) := by decide +kernel
theorem dX12_missed_149 : decode cX12_missed 149 = .ok (.iconst 3, 1) := by decide +kernel
theorem dX12_missed_150 : decode cX12_missed 150 = .ok (.if_icmp .ne 7, 3) := by decide +kernel
theorem dX12_missed_157 : decode cX12_missed 157 = .ok (.iload 8, 2) := by decide +kernel
theorem dX12_missed_159 : decode cX12_missed 159 = .ok (.istore 5, 2) := by decide +kernel
theorem dX12_missed_153 : decode cX12_missed 153 = .ok (.iconst (-1), 1) := by decide +kernel
theorem dX12_missed_154 : decode cX12_missed 154 = .ok (.goto 5, 3) := by decide +kernel
theorem dX12_missed_108 : decode cX12_missed 108 = .ok (.iload 8, 2) := by decide +kernel
theorem dX12_missed_110 : decode cX12_missed 110 = .ok (.iload 5, 2) := by decide +kernel
theorem dX12_missed_112 : decode cX12_missed 112 = .ok (.isub, 1) := by decide +kernel
theorem dX12_missed_113 : decode cX12_missed 113 = .ok (.iconst 2, 1) := by decide +kernel
theorem dX12_missed_114 : decode cX12_missed 114 = .ok (.if_icmp .le 19, 3) := by decide +kernel
theorem dX12_missed_117 : decode cX12_missed 117 = .ok (.iload_n 3, 1) := by decide +kernel
theorem dX12_missed_118 : decode cX12_missed 118 = .ok (.ifCond .ne 8, 3) := by decide +kernel
theorem dX12_missed_126 : decode cX12_missed 126 = .ok (.iload 4, 2) := by decide +kernel
theorem dX12_missed_128 : decode cX12_missed 128 = .ok (.istore 4, 2) := by decide +kernel
theorem dX12_missed_130 : decode cX12_missed 130 = .ok (.iinc 3 1, 3) := by decide +kernel
theorem dX12_missed_121 : decode cX12_missed 121 = .ok (.iload 5, 2) := by decide +kernel
theorem dX12_missed_123 : decode cX12_missed 123 = .ok (.goto 5, 3) := by decide +kernel
theorem dX12_missed_49 : decode cX12_missed 49 = .ok (.iconst 1, 1) := by decide +kernel
theorem dX12_missed_50 : decode cX12_missed 50 = .ok (.goto 4, 3) := by decide +kernel
theorem dX12_missed_81 : decode cX12_missed 81 = .ok (.aload_n 0, 1) := by decide +kernel
theorem dX12_missed_82 : decode cX12_missed 82 = .ok (.getfield 7, 3) := by decide +kernel
theorem dX12_missed_85 : decode cX12_missed 85 = .ok (.iconst 4, 1) := by decide +kernel
theorem dX12_missed_86 : decode cX12_missed 86 = .ok (.iaload, 1) := by decide +kernel
theorem dX12_missed_87 : decode cX12_missed 87 = .ok (.goto 14, 3) := by decide +kernel
theorem dX12_missed_8 : decode cX12_missed 8 = .ok (.aload_n 0, 1) := by decide +kernel
theorem dX12_missed_9 : decode cX12_missed 9 = .ok (.iconst 1, 1) := by decide +kernel
theorem dX12_missed_10 : decode cX12_missed 10 = .ok (.invokevirtual 68, 3) := by decide +kernel
theorem dX12_missed_13 : decode cX12_missed 13 = .ok (.ireturn, 1) := by decide +kernel
set_option maxHeartbeats 8000000 in
set_option maxRecDepth 100000 in
theorem c_X12_missed (l : Launch) (g : kG) (sz : Nat) (z : Nat → Nat) (kp : Nat) (xs : Nat → Int32) (D : Nat → Int32) (x : Int32) (y : Int32) (hDI : DI D) : kMi l g yX12_missed cX12_missed 9 (some .int) 4 0 0 [.ref (z 0), .int x, .int y] sz [(z 0, .inr (12, [.ref (z 1), .ref (z 2), .int (nI kp), .int (xs 0), .ref (z 3), .ref (z 4), .ref (z 5), .ref (z 6), .int (xs 1), .ref (z 7), .ref (z 8), .ref (z 9), .ref (z 10), .ref (z 11), .ref (z 12), .int (xs 2), .ref (z 13), .ref (z 14), .int (xs 3), .ref (z 15)])), (z 1, .inl (gI g, 461, .inl D))] (fun (r : Int32) (u : (Nat → Int32)) => True) (fun (u : (Nat → Int32)) => ([(z 0, .inr (12, [.ref (z 1), .ref (z 2), .int (nI kp), .int (u 0), .ref (z 3), .ref (z 4), .ref (z 5), .ref (z 6), .int (u 1), .ref (z 7), .ref (z 8), .ref (z 9), .ref (z 10), .ref (z 11), .ref (z 12), .int (u 2), .ref (z 13), .ref (z 14), .int (u 3), .ref (z 15)])), (z 1, .inl (gI g, 461, .inl D))] : va_W)) := by
  refine kMi.of (by decide) (Nat.le_of_ble_eq_true rfl) (fun p e s m below meth c A hx hb hr hml hown hts hlk hnm hKW hP hD hS hA ls hl => ?_)
  have hown : s.vm.findClass RX12 = some m.cls := hown
  have hl : lv_has ls 9 [(0, .ref (z 0)), (1, .int x), (2, .int y)] := hl
  refine k_hide hP hS (fun H locs hP hS => ?_)
  refine lv_aload_n hx hb dX12_missed_0 rfl (lv_at hl 0 rfl) ?_
  refine lv_iload_n hx hb dX12_missed_1 rfl (lv_at hl 1 rfl) ?_
  refine k_Vi [0, 1] [] 0 12 (wr := []) hx hb hml hown hts hKW hP hD hS hA hl.1 (c_X12_isChild l g _ z kp xs D x (by first | assumption | omega | decide)) rfl rfl rfl wd_13_19 wd_1_5 wd_13_16 wd_13_17 wd_13_18 yd_X12_isChild ⟨(Nat.le_of_ble_eq_true rfl), (Nat.le_of_ble_eq_true rfl)⟩ rfl rfl rfl rfl (by decide) rfl (Nat.le_of_ble_eq_true rfl) dX12_missed_2 ⟨(Nat.le_of_ble_eq_true rfl), (Nat.le_of_ble_eq_true rfl)⟩ (fun r_1 u_2 H locs hw_3 hP hD hS => ?_)
  have hP : va_P g.1 vwCl [(z 0, .inr (12, [.ref (z 1), .ref (z 2), .int (nI kp), .int (xs 0), .ref (z 3), .ref (z 4), .ref (z 5), .ref (z 6), .int (xs 1), .ref (z 7), .ref (z 8), .ref (z 9), .ref (z 10), .ref (z 11), .ref (z 12), .int (xs 2), .ref (z 13), .ref (z 14), .int (xs 3), .ref (z 15)])), (z 1, .inl (gI g, 461, .inl D))] H := hP
  have hD : va_D A [(z 0, .inr (12, [.ref (z 1), .ref (z 2), .int (nI kp), .int (xs 0), .ref (z 3), .ref (z 4), .ref (z 5), .ref (z 6), .int (xs 1), .ref (z 7), .ref (z 8), .ref (z 9), .ref (z 10), .ref (z 11), .ref (z 12), .int (xs 2), .ref (z 13), .ref (z 14), .int (xs 3), .ref (z 15)])), (z 1, .inl (gI g, 461, .inl D))] := hD
  rcases (show (r_1 = 1 ∧ (∃ j : Nat, (j < 10 ∧ (j : Int) < (D 2).toInt) ∧ x = nI j)) ∨ (r_1 = 0 ∧ ¬ (∃ j : Nat, (j < 10 ∧ (j : Int) < (D 2).toInt) ∧ x = nI j)) from hw_3) with ⟨rfl, hw_3b⟩ | ⟨rfl, hw_3b⟩ <;> clear hw_3
  · obtain ⟨j_4, hj_4, rfl⟩ := hw_3b
    refine lv_if_ne (tgt := 14) hx hb dX12_missed_5 (by decide) (fun _ => ?_) (fun c => absurd c (by decide))
    refine lv_iconst (v := 0) hx hb dX12_missed_14 (by decide) ?_
    refine lv_istore_n (lv' := [(3, .int 0), (0, .ref (z 0)), (1, .int (nI j_4)), (2, .int y)]) hx hb dX12_missed_15 rfl hl (by decide) rfl (fun ls hl => ?_)
    refine lv_iconst (v := (-1)) hx hb dX12_missed_16 (by decide) ?_
    refine lv_istore (lv' := [(4, .int (-1)), (3, .int 0), (0, .ref (z 0)), (1, .int (nI j_4)), (2, .int y)]) hx hb dX12_missed_17 hl (by decide) rfl (fun ls hl => ?_)
    refine lv_iconst (v := (-1)) hx hb dX12_missed_19 (by decide) ?_
    refine lv_istore (lv' := [(5, .int (-1)), (4, .int (-1)), (3, .int 0), (0, .ref (z 0)), (1, .int (nI j_4)), (2, .int y)]) hx hb dX12_missed_20 hl (by decide) rfl (fun ls hl => ?_)
    refine lv_iconst (v := 0) hx hb dX12_missed_22 (by decide) ?_
    refine lv_istore (lv' := [(6, .int 0), (5, .int (-1)), (4, .int (-1)), (3, .int 0), (0, .ref (z 0)), (1, .int (nI j_4)), (2, .int y)]) hx hb dX12_missed_23 hl (by decide) rfl (fun ls hl => ?_)
    have L25 : ∀ (n25 : Nat) (i : Nat) (x3 : Int32) (x4 : Int32) (x5 : Int32) (hfuel25 : 41 - i < n25) (hi : i ≤ 41) (H : Heap) (locs : List Loc) (hP : va_P g.1 vwCl [(z 0, .inr (12, [.ref (z 1), .ref (z 2), .int (nI kp), .int (xs 0), .ref (z 3), .ref (z 4), .ref (z 5), .ref (z 6), .int (xs 1), .ref (z 7), .ref (z 8), .ref (z 9), .ref (z 10), .ref (z 11), .ref (z 12), .int (xs 2), .ref (z 13), .ref (z 14), .int (xs 3), .ref (z 15)])), (z 1, .inl (gI g, 461, .inl D))] H) (hD : va_D A [(z 0, .inr (12, [.ref (z 1), .ref (z 2), .int (nI kp), .int (xs 0), .ref (z 3), .ref (z 4), .ref (z 5), .ref (z 6), .int (xs 1), .ref (z 7), .ref (z 8), .ref (z 9), .ref (z 10), .ref (z 11), .ref (z 12), .int (xs 2), .ref (z 13), .ref (z 14), .int (xs 3), .ref (z 15)])), (z 1, .inl (gI g, 461, .inl D))]) (hS : va_S A s.heap H locs) (ls : Array Slot) (hl : lv_has ls 9 [(6, .int (nI i)), (5, .int x5), (4, .int x4), (3, .int x3), (0, .ref (z 0)), (1, .int (nI j_4)), (2, .int y)]), W p l e (kR 4 0 0) s m ([.ref (z 0), .int (nI j_4), .int y] : List Value).toArray below meth c H locs 0 0 (kQi g A below ([.ref (z 0), .int (nI j_4), .int y] : List Value).toArray s 0 0 (fun (r : Int32) (u : (Nat → Int32)) => True) (fun (u : (Nat → Int32)) => ([(z 0, .inr (12, [.ref (z 1), .ref (z 2), .int (nI kp), .int (u 0), .ref (z 3), .ref (z 4), .ref (z 5), .ref (z 6), .int (u 1), .ref (z 7), .ref (z 8), .ref (z 9), .ref (z 10), .ref (z 11), .ref (z 12), .int (u 2), .ref (z 13), .ref (z 14), .int (u 3), .ref (z 15)])), (z 1, .inl (gI g, 461, .inl D))] : va_W))) (F0 m 25 ls []) := by
      intro n25
      induction n25 with
      | zero => intro i x3 x4 x5 hfuel25; exact absurd hfuel25 (Nat.not_lt_zero _)
      | succ n25 ih25 =>
        intro i x3 x4 x5 hfuel25 hi H locs hP hD hS ls hl
        refine lv_iload hx hb dX12_missed_25 (lv_at hl 0 rfl) ?_
        refine lv_aload_n hx hb dX12_missed_27 rfl (lv_at hl 4 rfl) ?_
        refine va_get (ci := 12) (C := RX12) (T := TX12) (N := 20) hx hb hts inlX12 hown hKW.1 hP 0 rfl rfl 0 (by decide) (hts _ wd_6_5) (fun _ h => h) rfl dX12_missed_28 ?_
        refine lv_bipush (v := 6) hx hb dX12_missed_31 (by decide) ?_
        obtain ⟨dk_5, hdk_5a, hdk_5b, edk_5⟩ := DI.n6 hDI
        refine va_iald hx hb hKW.1 hP 1 0 rfl rfl (show ¬ _ by decide) dX12_missed_33 ?_
        refine k_top (y := nI dk_5) edk_5 ?_
        refine lv_icmp_gt (tgt := 167) hx hb dX12_missed_34 (by decide) (fun c_6 => ?_) (fun c_6 => ?_)
        · have c_6n : dk_5 < i := (k_ltI (a := dk_5) (b := i) (by omega) (by omega)).mp c_6
          refine lv_iload_n hx hb dX12_missed_167 rfl (lv_at hl 6 rfl) ?_
          refine lv_if_ne (tgt := 175) hx hb dX12_missed_168 (by decide) (fun c_7 => ?_) (fun c_7 => ?_)
          · refine lv_iload_n hx hb dX12_missed_175 rfl (lv_at hl 3 rfl) ?_
            refine lv_if_ne (tgt := 188) hx hb dX12_missed_176 (by decide) (fun c_8 => ?_) (fun c_8 => ?_)
            · refine lv_iload hx hb dX12_missed_188 (lv_at hl 2 rfl) ?_
              exact k_iret xs [0, 1] hx hb hr hlk hP hD hS trivial rfl rfl rfl (Nat.le_of_ble_eq_true rfl) (Nat.le_of_ble_eq_true rfl) dX12_missed_190
            · refine lv_aload_n hx hb dX12_missed_179 rfl (lv_at hl 4 rfl) ?_
              refine lv_bipush (v := 6) hx hb dX12_missed_180 (by decide) ?_
              refine k_Vi [0] [1] 0 12 (wr := [(z 1, .inl (gI g, 461, .inl D))]) hx hb hml hown hts hKW hP hD hS hA hl.1 (c_X12_finding_6 l g _ z kp xs ) rfl rfl rfl wd_10_15 wd_1_5 wd_10_12 wd_10_13 wd_10_14 yd_X12_finding ⟨(Nat.le_of_ble_eq_true rfl), (Nat.le_of_ble_eq_true rfl)⟩ rfl rfl rfl rfl (by decide) rfl (Nat.le_of_ble_eq_true rfl) dX12_missed_182 ⟨(Nat.le_of_ble_eq_true rfl), (Nat.le_of_ble_eq_true rfl)⟩ (fun r_9 u_10 H locs hw_11 hP hD hS => ?_)
              have hP : va_P g.1 vwCl [(z 1, .inl (gI g, 461, .inl D)), (z 0, .inr (12, [.ref (z 1), .ref (z 2), .int (nI kp), .int u_10, .ref (z 3), .ref (z 4), .ref (z 5), .ref (z 6), .int (xs 1), .ref (z 7), .ref (z 8), .ref (z 9), .ref (z 10), .ref (z 11), .ref (z 12), .int (xs 2), .ref (z 13), .ref (z 14), .int (xs 3), .ref (z 15)]))] H := hP
              have hD : va_D A [(z 1, .inl (gI g, 461, .inl D)), (z 0, .inr (12, [.ref (z 1), .ref (z 2), .int (nI kp), .int u_10, .ref (z 3), .ref (z 4), .ref (z 5), .ref (z 6), .int (xs 1), .ref (z 7), .ref (z 8), .ref (z 9), .ref (z 10), .ref (z 11), .ref (z 12), .int (xs 2), .ref (z 13), .ref (z 14), .int (xs 3), .ref (z 15)]))] := hD
              have hw_11 : r_9 = (-100006) := hw_11
              subst hw_11
              refine lv_goto (tgt := 190) hx hb dX12_missed_185 (by decide) ?_
              exact k_iret (fun kk_ => ([u_10, (xs 1), (xs 2), (xs 3)] : List Int32).getD kk_ 0) [1, 0] hx hb hr hlk hP hD hS trivial rfl rfl rfl (Nat.le_of_ble_eq_true rfl) (Nat.le_of_ble_eq_true rfl) dX12_missed_190
          · refine lv_iload_n hx hb dX12_missed_171 rfl (lv_at hl 3 rfl) ?_
            refine lv_goto (tgt := 190) hx hb dX12_missed_172 (by decide) ?_
            exact k_iret xs [0, 1] hx hb hr hlk hP hD hS trivial rfl rfl rfl (Nat.le_of_ble_eq_true rfl) (Nat.le_of_ble_eq_true rfl) dX12_missed_190
        · have c_6n : i ≤ dk_5 := Nat.not_lt.mp (fun h => c_6 ((k_ltI (a := dk_5) (b := i) (by omega) (by omega)).mpr h))
          refine lv_iload hx hb dX12_missed_37 (lv_at hl 0 rfl) ?_
          refine lv_aload_n hx hb dX12_missed_39 rfl (lv_at hl 4 rfl) ?_
          refine va_get (ci := 12) (C := RX12) (T := TX12) (N := 20) hx hb hts inlX12 hown hKW.1 hP 0 rfl rfl 0 (by decide) (hts _ wd_6_5) (fun _ h => h) rfl dX12_missed_40 ?_
          refine lv_bipush (v := 6) hx hb dX12_missed_43 (by decide) ?_
          refine va_iald hx hb hKW.1 hP 1 0 rfl rfl (show ¬ _ by decide) dX12_missed_45 ?_
          refine k_top (y := nI dk_5) edk_5 ?_
          refine lv_icmp_ne (tgt := 53) hx hb dX12_missed_46 (by decide) (fun c_12 => ?_) (fun c_12 => ?_)
          · have c_12n : ¬ i = dk_5 := fun h => c_12 ((k_eqI (a := i) (b := dk_5) (by omega) (by omega)).mpr h)
            refine lv_iconst (v := 0) hx hb dX12_missed_53 (by decide) ?_
            refine lv_istore (lv' := [(7, .int 0), (6, .int (nI i)), (5, .int x5), (4, .int x4), (3, .int x3), (0, .ref (z 0)), (1, .int (nI j_4)), (2, .int y)]) hx hb dX12_missed_54 hl (by decide) rfl (fun ls hl => ?_)
            refine lv_iload hx hb dX12_missed_56 (lv_at hl 0 rfl) ?_
            refine lv_if_ne (tgt := 76) hx hb dX12_missed_58 (by decide) (fun c => absurd c (by decide)) (fun _ => ?_)
            refine lv_aload_n hx hb dX12_missed_61 rfl (lv_at hl 5 rfl) ?_
            refine va_get (ci := 12) (C := RX12) (T := TX12) (N := 20) hx hb hts inlX12 hown hKW.1 hP 0 rfl rfl 0 (by decide) (hts _ wd_6_5) (fun _ h => h) rfl dX12_missed_62 ?_
            refine lv_sipush (v := 341) hx hb dX12_missed_65 (by decide) ?_
            refine lv_iload hx hb dX12_missed_68 (lv_at hl 1 rfl) ?_
            refine lv_iadd hx hb dX12_missed_70 ?_
            refine k_top (y := nI (i + 341)) (by rw [Nat.add_comm]; exact nI_add 341 i) ?_
            refine va_iald hx hb hKW.1 hP 1 0 rfl rfl (vp_in_nI (by omega) (by decide)) dX12_missed_71 ?_
            refine lv_topi (fun x_13 ex_13 => ?_)
            refine lv_iload_n hx hb dX12_missed_72 rfl (lv_at hl 6 rfl) ?_
            refine lv_icmp_ne (tgt := 161) hx hb dX12_missed_73 (by decide) (fun c_14 => ?_) (fun c_14 => ?_)
            · refine lv_iinc (v := nI (i + 1)) (lv' := [(6, .int (nI (i + 1))), (7, .int 0), (5, .int x5), (4, .int x4), (3, .int x3), (0, .ref (z 0)), (1, .int (nI j_4)), (2, .int y)]) hx hb dX12_missed_161 hl (k := 1) rfl (nI_add i 1) (by decide) rfl (fun ls hl => ?_)
              refine lv_goto (tgt := 25) hx hb dX12_missed_164 (by decide) ?_
              exact ih25 (i + 1) x3 x4 x5 (by omega) (by first | assumption | omega) H locs (hP.sub [0, 1] rfl) (hD.sub [0, 1] (by decide) rfl) hS ls (lv_sub hl [0, 2, 3, 4, 5, 6, 7] rfl)
            · refine lv_iload hx hb dX12_missed_76 (lv_at hl 0 rfl) ?_
              refine lv_if_eq (tgt := 90) hx hb dX12_missed_78 (by decide) (fun _ => ?_) (fun c => absurd c (by decide))
              refine lv_aload_n hx hb dX12_missed_90 rfl (lv_at hl 5 rfl) ?_
              refine va_get (ci := 12) (C := RX12) (T := TX12) (N := 20) hx hb hts inlX12 hown hKW.1 hP 0 rfl rfl 0 (by decide) (hts _ wd_6_5) (fun _ h => h) rfl dX12_missed_91 ?_
              refine lv_sipush (v := 381) hx hb dX12_missed_94 (by decide) ?_
              refine lv_iload hx hb dX12_missed_97 (lv_at hl 1 rfl) ?_
              refine lv_iadd hx hb dX12_missed_99 ?_
              refine k_top (y := nI (i + 381)) (by rw [Nat.add_comm]; exact nI_add 381 i) ?_
              refine va_iald hx hb hKW.1 hP 1 0 rfl rfl (vp_in_nI (by omega) (by decide)) dX12_missed_100 ?_
              refine lv_topi (fun x_15 ex_15 => ?_)
              refine lv_istore (lv' := [(8, .int x_15), (7, .int 0), (6, .int (nI i)), (5, .int x5), (4, .int x4), (3, .int x3), (0, .ref (z 0)), (1, .int (nI j_4)), (2, .int y)]) hx hb dX12_missed_101 hl (by decide) rfl (fun ls hl => ?_)
              refine lv_iload hx hb dX12_missed_103 (lv_at hl 3 rfl) ?_
              refine lv_if_lt (tgt := 133) hx hb dX12_missed_105 (by decide) (fun c_16 => ?_) (fun c_16 => ?_)
              · refine lv_iload hx hb dX12_missed_133 (lv_at hl 1 rfl) ?_
                refine lv_if_ne (tgt := 153) hx hb dX12_missed_135 (by decide) (fun c => absurd c (by decide)) (fun _ => ?_)
                refine lv_aload_n hx hb dX12_missed_138 rfl (lv_at hl 6 rfl) ?_
                refine va_get (ci := 12) (C := RX12) (T := TX12) (N := 20) hx hb hts inlX12 hown hKW.1 hP 0 rfl rfl 0 (by decide) (hts _ wd_6_5) (fun _ h => h) rfl dX12_missed_139 ?_
                refine lv_sipush (v := 421) hx hb dX12_missed_142 (by decide) ?_
                refine lv_iload hx hb dX12_missed_145 (lv_at hl 2 rfl) ?_
                refine lv_iadd hx hb dX12_missed_147 ?_
                refine k_top (y := nI (i + 421)) (by rw [Nat.add_comm]; exact nI_add 421 i) ?_
                refine va_iald hx hb hKW.1 hP 1 0 rfl rfl (vp_in_nI (by omega) (by decide)) dX12_missed_148 ?_
                refine lv_topi (fun x_17 ex_17 => ?_)
                refine lv_iconst (v := 3) hx hb dX12_missed_149 (by decide) ?_
                refine lv_icmp_ne (tgt := 157) hx hb dX12_missed_150 (by decide) (fun c_18 => ?_) (fun c_18 => ?_)
                · refine lv_iload hx hb dX12_missed_157 (lv_at hl 0 rfl) ?_
                  refine lv_istore (lv' := [(5, .int x_15), (8, .int x_15), (7, .int 0), (6, .int (nI i)), (4, .int x4), (3, .int x3), (0, .ref (z 0)), (1, .int (nI j_4)), (2, .int y)]) hx hb dX12_missed_159 hl (by decide) rfl (fun ls hl => ?_)
                  refine lv_iinc (v := nI (i + 1)) (lv' := [(6, .int (nI (i + 1))), (5, .int x_15), (8, .int x_15), (7, .int 0), (4, .int x4), (3, .int x3), (0, .ref (z 0)), (1, .int (nI j_4)), (2, .int y)]) hx hb dX12_missed_161 hl (k := 3) rfl (nI_add i 1) (by decide) rfl (fun ls hl => ?_)
                  refine lv_goto (tgt := 25) hx hb dX12_missed_164 (by decide) ?_
                  exact ih25 (i + 1) x3 x4 x_15 (by omega) (by first | assumption | omega) H locs (hP.sub [0, 1] rfl) (hD.sub [0, 1] (by decide) rfl) hS ls (lv_sub hl [0, 1, 4, 5, 6, 7, 8] rfl)
                · refine lv_iconst (v := (-1)) hx hb dX12_missed_153 (by decide) ?_
                  refine lv_goto (tgt := 159) hx hb dX12_missed_154 (by decide) ?_
                  refine lv_istore (lv' := [(5, .int (-1)), (8, .int x_15), (7, .int 0), (6, .int (nI i)), (4, .int x4), (3, .int x3), (0, .ref (z 0)), (1, .int (nI j_4)), (2, .int y)]) hx hb dX12_missed_159 hl (by decide) rfl (fun ls hl => ?_)
                  refine lv_iinc (v := nI (i + 1)) (lv' := [(6, .int (nI (i + 1))), (5, .int (-1)), (8, .int x_15), (7, .int 0), (4, .int x4), (3, .int x3), (0, .ref (z 0)), (1, .int (nI j_4)), (2, .int y)]) hx hb dX12_missed_161 hl (k := 3) rfl (nI_add i 1) (by decide) rfl (fun ls hl => ?_)
                  refine lv_goto (tgt := 25) hx hb dX12_missed_164 (by decide) ?_
                  exact ih25 (i + 1) x3 x4 (-1) (by omega) (by first | assumption | omega) H locs (hP.sub [0, 1] rfl) (hD.sub [0, 1] (by decide) rfl) hS ls (lv_sub hl [0, 1, 4, 5, 6, 7, 8] rfl)
              · refine lv_iload hx hb dX12_missed_108 (lv_at hl 0 rfl) ?_
                refine lv_iload hx hb dX12_missed_110 (lv_at hl 3 rfl) ?_
                refine lv_isub hx hb dX12_missed_112 ?_
                refine lv_topi (fun x_19 ex_19 => ?_)
                refine lv_iconst (v := 2) hx hb dX12_missed_113 (by decide) ?_
                refine lv_icmp_le (tgt := 133) hx hb dX12_missed_114 (by decide) (fun c_20 => ?_) (fun c_20 => ?_)
                · refine lv_iload hx hb dX12_missed_133 (lv_at hl 1 rfl) ?_
                  refine lv_if_ne (tgt := 153) hx hb dX12_missed_135 (by decide) (fun c => absurd c (by decide)) (fun _ => ?_)
                  refine lv_aload_n hx hb dX12_missed_138 rfl (lv_at hl 6 rfl) ?_
                  refine va_get (ci := 12) (C := RX12) (T := TX12) (N := 20) hx hb hts inlX12 hown hKW.1 hP 0 rfl rfl 0 (by decide) (hts _ wd_6_5) (fun _ h => h) rfl dX12_missed_139 ?_
                  refine lv_sipush (v := 421) hx hb dX12_missed_142 (by decide) ?_
                  refine lv_iload hx hb dX12_missed_145 (lv_at hl 2 rfl) ?_
                  refine lv_iadd hx hb dX12_missed_147 ?_
                  refine k_top (y := nI (i + 421)) (by rw [Nat.add_comm]; exact nI_add 421 i) ?_
                  refine va_iald hx hb hKW.1 hP 1 0 rfl rfl (vp_in_nI (by omega) (by decide)) dX12_missed_148 ?_
                  refine lv_topi (fun x_21 ex_21 => ?_)
                  refine lv_iconst (v := 3) hx hb dX12_missed_149 (by decide) ?_
                  refine lv_icmp_ne (tgt := 157) hx hb dX12_missed_150 (by decide) (fun c_22 => ?_) (fun c_22 => ?_)
                  · refine lv_iload hx hb dX12_missed_157 (lv_at hl 0 rfl) ?_
                    refine lv_istore (lv' := [(5, .int x_15), (8, .int x_15), (7, .int 0), (6, .int (nI i)), (4, .int x4), (3, .int x3), (0, .ref (z 0)), (1, .int (nI j_4)), (2, .int y)]) hx hb dX12_missed_159 hl (by decide) rfl (fun ls hl => ?_)
                    refine lv_iinc (v := nI (i + 1)) (lv' := [(6, .int (nI (i + 1))), (5, .int x_15), (8, .int x_15), (7, .int 0), (4, .int x4), (3, .int x3), (0, .ref (z 0)), (1, .int (nI j_4)), (2, .int y)]) hx hb dX12_missed_161 hl (k := 3) rfl (nI_add i 1) (by decide) rfl (fun ls hl => ?_)
                    refine lv_goto (tgt := 25) hx hb dX12_missed_164 (by decide) ?_
                    exact ih25 (i + 1) x3 x4 x_15 (by omega) (by first | assumption | omega) H locs (hP.sub [0, 1] rfl) (hD.sub [0, 1] (by decide) rfl) hS ls (lv_sub hl [0, 1, 4, 5, 6, 7, 8] rfl)
                  · refine lv_iconst (v := (-1)) hx hb dX12_missed_153 (by decide) ?_
                    refine lv_goto (tgt := 159) hx hb dX12_missed_154 (by decide) ?_
                    refine lv_istore (lv' := [(5, .int (-1)), (8, .int x_15), (7, .int 0), (6, .int (nI i)), (4, .int x4), (3, .int x3), (0, .ref (z 0)), (1, .int (nI j_4)), (2, .int y)]) hx hb dX12_missed_159 hl (by decide) rfl (fun ls hl => ?_)
                    refine lv_iinc (v := nI (i + 1)) (lv' := [(6, .int (nI (i + 1))), (5, .int (-1)), (8, .int x_15), (7, .int 0), (4, .int x4), (3, .int x3), (0, .ref (z 0)), (1, .int (nI j_4)), (2, .int y)]) hx hb dX12_missed_161 hl (k := 3) rfl (nI_add i 1) (by decide) rfl (fun ls hl => ?_)
                    refine lv_goto (tgt := 25) hx hb dX12_missed_164 (by decide) ?_
                    exact ih25 (i + 1) x3 x4 (-1) (by omega) (by first | assumption | omega) H locs (hP.sub [0, 1] rfl) (hD.sub [0, 1] (by decide) rfl) hS ls (lv_sub hl [0, 1, 4, 5, 6, 7, 8] rfl)
                · refine lv_iload_n hx hb dX12_missed_117 rfl (lv_at hl 5 rfl) ?_
                  refine lv_if_ne (tgt := 126) hx hb dX12_missed_118 (by decide) (fun c_23 => ?_) (fun c_23 => ?_)
                  · refine lv_iload hx hb dX12_missed_126 (lv_at hl 4 rfl) ?_
                    refine lv_istore (lv' := [(4, .int x4), (8, .int x_15), (7, .int 0), (6, .int (nI i)), (5, .int x5), (3, .int x3), (0, .ref (z 0)), (1, .int (nI j_4)), (2, .int y)]) hx hb dX12_missed_128 hl (by decide) rfl (fun ls hl => ?_)
                    obtain ⟨x_24, ex_24⟩ : ∃ z : Int32, x3 + Int32.ofInt 1 = z := ⟨_, rfl⟩
                    refine lv_iinc (v := x_24) (lv' := [(3, .int x_24), (4, .int x4), (8, .int x_15), (7, .int 0), (6, .int (nI i)), (5, .int x5), (0, .ref (z 0)), (1, .int (nI j_4)), (2, .int y)]) hx hb dX12_missed_130 hl (k := 5) rfl ex_24 (by decide) rfl (fun ls hl => ?_)
                    refine lv_iload hx hb dX12_missed_133 (lv_at hl 3 rfl) ?_
                    refine lv_if_ne (tgt := 153) hx hb dX12_missed_135 (by decide) (fun c => absurd c (by decide)) (fun _ => ?_)
                    refine lv_aload_n hx hb dX12_missed_138 rfl (lv_at hl 6 rfl) ?_
                    refine va_get (ci := 12) (C := RX12) (T := TX12) (N := 20) hx hb hts inlX12 hown hKW.1 hP 0 rfl rfl 0 (by decide) (hts _ wd_6_5) (fun _ h => h) rfl dX12_missed_139 ?_
                    refine lv_sipush (v := 421) hx hb dX12_missed_142 (by decide) ?_
                    refine lv_iload hx hb dX12_missed_145 (lv_at hl 4 rfl) ?_
                    refine lv_iadd hx hb dX12_missed_147 ?_
                    refine k_top (y := nI (i + 421)) (by rw [Nat.add_comm]; exact nI_add 421 i) ?_
                    refine va_iald hx hb hKW.1 hP 1 0 rfl rfl (vp_in_nI (by omega) (by decide)) dX12_missed_148 ?_
                    refine lv_topi (fun x_25 ex_25 => ?_)
                    refine lv_iconst (v := 3) hx hb dX12_missed_149 (by decide) ?_
                    refine lv_icmp_ne (tgt := 157) hx hb dX12_missed_150 (by decide) (fun c_26 => ?_) (fun c_26 => ?_)
                    · refine lv_iload hx hb dX12_missed_157 (lv_at hl 2 rfl) ?_
                      refine lv_istore (lv' := [(5, .int x_15), (3, .int x_24), (4, .int x4), (8, .int x_15), (7, .int 0), (6, .int (nI i)), (0, .ref (z 0)), (1, .int (nI j_4)), (2, .int y)]) hx hb dX12_missed_159 hl (by decide) rfl (fun ls hl => ?_)
                      refine lv_iinc (v := nI (i + 1)) (lv' := [(6, .int (nI (i + 1))), (5, .int x_15), (3, .int x_24), (4, .int x4), (8, .int x_15), (7, .int 0), (0, .ref (z 0)), (1, .int (nI j_4)), (2, .int y)]) hx hb dX12_missed_161 hl (k := 5) rfl (nI_add i 1) (by decide) rfl (fun ls hl => ?_)
                      refine lv_goto (tgt := 25) hx hb dX12_missed_164 (by decide) ?_
                      exact ih25 (i + 1) x_24 x4 x_15 (by omega) (by first | assumption | omega) H locs (hP.sub [0, 1] rfl) (hD.sub [0, 1] (by decide) rfl) hS ls (lv_sub hl [0, 1, 3, 2, 6, 7, 8] rfl)
                    · refine lv_iconst (v := (-1)) hx hb dX12_missed_153 (by decide) ?_
                      refine lv_goto (tgt := 159) hx hb dX12_missed_154 (by decide) ?_
                      refine lv_istore (lv' := [(5, .int (-1)), (3, .int x_24), (4, .int x4), (8, .int x_15), (7, .int 0), (6, .int (nI i)), (0, .ref (z 0)), (1, .int (nI j_4)), (2, .int y)]) hx hb dX12_missed_159 hl (by decide) rfl (fun ls hl => ?_)
                      refine lv_iinc (v := nI (i + 1)) (lv' := [(6, .int (nI (i + 1))), (5, .int (-1)), (3, .int x_24), (4, .int x4), (8, .int x_15), (7, .int 0), (0, .ref (z 0)), (1, .int (nI j_4)), (2, .int y)]) hx hb dX12_missed_161 hl (k := 5) rfl (nI_add i 1) (by decide) rfl (fun ls hl => ?_)
                      refine lv_goto (tgt := 25) hx hb dX12_missed_164 (by decide) ?_
                      exact ih25 (i + 1) x_24 x4 (-1) (by omega) (by first | assumption | omega) H locs (hP.sub [0, 1] rfl) (hD.sub [0, 1] (by decide) rfl) hS ls (lv_sub hl [0, 1, 3, 2, 6, 7, 8] rfl)
                  · refine lv_iload hx hb dX12_missed_121 (lv_at hl 3 rfl) ?_
                    refine lv_goto (tgt := 128) hx hb dX12_missed_123 (by decide) ?_
                    refine lv_istore (lv' := [(4, .int x5), (8, .int x_15), (7, .int 0), (6, .int (nI i)), (5, .int x5), (3, .int x3), (0, .ref (z 0)), (1, .int (nI j_4)), (2, .int y)]) hx hb dX12_missed_128 hl (by decide) rfl (fun ls hl => ?_)
                    obtain ⟨x_27, ex_27⟩ : ∃ z : Int32, x3 + Int32.ofInt 1 = z := ⟨_, rfl⟩
                    refine lv_iinc (v := x_27) (lv' := [(3, .int x_27), (4, .int x5), (8, .int x_15), (7, .int 0), (6, .int (nI i)), (5, .int x5), (0, .ref (z 0)), (1, .int (nI j_4)), (2, .int y)]) hx hb dX12_missed_130 hl (k := 5) rfl ex_27 (by decide) rfl (fun ls hl => ?_)
                    refine lv_iload hx hb dX12_missed_133 (lv_at hl 3 rfl) ?_
                    refine lv_if_ne (tgt := 153) hx hb dX12_missed_135 (by decide) (fun c => absurd c (by decide)) (fun _ => ?_)
                    refine lv_aload_n hx hb dX12_missed_138 rfl (lv_at hl 6 rfl) ?_
                    refine va_get (ci := 12) (C := RX12) (T := TX12) (N := 20) hx hb hts inlX12 hown hKW.1 hP 0 rfl rfl 0 (by decide) (hts _ wd_6_5) (fun _ h => h) rfl dX12_missed_139 ?_
                    refine lv_sipush (v := 421) hx hb dX12_missed_142 (by decide) ?_
                    refine lv_iload hx hb dX12_missed_145 (lv_at hl 4 rfl) ?_
                    refine lv_iadd hx hb dX12_missed_147 ?_
                    refine k_top (y := nI (i + 421)) (by rw [Nat.add_comm]; exact nI_add 421 i) ?_
                    refine va_iald hx hb hKW.1 hP 1 0 rfl rfl (vp_in_nI (by omega) (by decide)) dX12_missed_148 ?_
                    refine lv_topi (fun x_28 ex_28 => ?_)
                    refine lv_iconst (v := 3) hx hb dX12_missed_149 (by decide) ?_
                    refine lv_icmp_ne (tgt := 157) hx hb dX12_missed_150 (by decide) (fun c_29 => ?_) (fun c_29 => ?_)
                    · refine lv_iload hx hb dX12_missed_157 (lv_at hl 2 rfl) ?_
                      refine lv_istore (lv' := [(5, .int x_15), (3, .int x_27), (4, .int x5), (8, .int x_15), (7, .int 0), (6, .int (nI i)), (0, .ref (z 0)), (1, .int (nI j_4)), (2, .int y)]) hx hb dX12_missed_159 hl (by decide) rfl (fun ls hl => ?_)
                      refine lv_iinc (v := nI (i + 1)) (lv' := [(6, .int (nI (i + 1))), (5, .int x_15), (3, .int x_27), (4, .int x5), (8, .int x_15), (7, .int 0), (0, .ref (z 0)), (1, .int (nI j_4)), (2, .int y)]) hx hb dX12_missed_161 hl (k := 5) rfl (nI_add i 1) (by decide) rfl (fun ls hl => ?_)
                      refine lv_goto (tgt := 25) hx hb dX12_missed_164 (by decide) ?_
                      exact ih25 (i + 1) x_27 x5 x_15 (by omega) (by first | assumption | omega) H locs (hP.sub [0, 1] rfl) (hD.sub [0, 1] (by decide) rfl) hS ls (lv_sub hl [0, 1, 3, 2, 6, 7, 8] rfl)
                    · refine lv_iconst (v := (-1)) hx hb dX12_missed_153 (by decide) ?_
                      refine lv_goto (tgt := 159) hx hb dX12_missed_154 (by decide) ?_
                      refine lv_istore (lv' := [(5, .int (-1)), (3, .int x_27), (4, .int x5), (8, .int x_15), (7, .int 0), (6, .int (nI i)), (0, .ref (z 0)), (1, .int (nI j_4)), (2, .int y)]) hx hb dX12_missed_159 hl (by decide) rfl (fun ls hl => ?_)
                      refine lv_iinc (v := nI (i + 1)) (lv' := [(6, .int (nI (i + 1))), (5, .int (-1)), (3, .int x_27), (4, .int x5), (8, .int x_15), (7, .int 0), (0, .ref (z 0)), (1, .int (nI j_4)), (2, .int y)]) hx hb dX12_missed_161 hl (k := 5) rfl (nI_add i 1) (by decide) rfl (fun ls hl => ?_)
                      refine lv_goto (tgt := 25) hx hb dX12_missed_164 (by decide) ?_
                      exact ih25 (i + 1) x_27 x5 (-1) (by omega) (by first | assumption | omega) H locs (hP.sub [0, 1] rfl) (hD.sub [0, 1] (by decide) rfl) hS ls (lv_sub hl [0, 1, 3, 2, 6, 7, 8] rfl)
          · have c_12n : i = dk_5 := (k_eqI (a := i) (b := dk_5) (by omega) (by omega)).mp c_12
            refine lv_iconst (v := 1) hx hb dX12_missed_49 (by decide) ?_
            refine lv_goto (tgt := 54) hx hb dX12_missed_50 (by decide) ?_
            refine lv_istore (lv' := [(7, .int 1), (6, .int (nI i)), (5, .int x5), (4, .int x4), (3, .int x3), (0, .ref (z 0)), (1, .int (nI j_4)), (2, .int y)]) hx hb dX12_missed_54 hl (by decide) rfl (fun ls hl => ?_)
            refine lv_iload hx hb dX12_missed_56 (lv_at hl 0 rfl) ?_
            refine lv_if_ne (tgt := 76) hx hb dX12_missed_58 (by decide) (fun _ => ?_) (fun c => absurd c (by decide))
            refine lv_iload hx hb dX12_missed_76 (lv_at hl 0 rfl) ?_
            refine lv_if_eq (tgt := 90) hx hb dX12_missed_78 (by decide) (fun c => absurd c (by decide)) (fun _ => ?_)
            refine lv_aload_n hx hb dX12_missed_81 rfl (lv_at hl 5 rfl) ?_
            refine va_get (ci := 12) (C := RX12) (T := TX12) (N := 20) hx hb hts inlX12 hown hKW.1 hP 0 rfl rfl 0 (by decide) (hts _ wd_6_5) (fun _ h => h) rfl dX12_missed_82 ?_
            refine lv_iconst (v := 4) hx hb dX12_missed_85 (by decide) ?_
            refine va_iald hx hb hKW.1 hP 1 0 rfl rfl (show ¬ _ by decide) dX12_missed_86 ?_
            refine lv_topi (fun x_30 ex_30 => ?_)
            refine lv_goto (tgt := 101) hx hb dX12_missed_87 (by decide) ?_
            refine lv_istore (lv' := [(8, .int x_30), (7, .int 1), (6, .int (nI i)), (5, .int x5), (4, .int x4), (3, .int x3), (0, .ref (z 0)), (1, .int (nI j_4)), (2, .int y)]) hx hb dX12_missed_101 hl (by decide) rfl (fun ls hl => ?_)
            refine lv_iload hx hb dX12_missed_103 (lv_at hl 3 rfl) ?_
            refine lv_if_lt (tgt := 133) hx hb dX12_missed_105 (by decide) (fun c_31 => ?_) (fun c_31 => ?_)
            · refine lv_iload hx hb dX12_missed_133 (lv_at hl 1 rfl) ?_
              refine lv_if_ne (tgt := 153) hx hb dX12_missed_135 (by decide) (fun _ => ?_) (fun c => absurd c (by decide))
              refine lv_iconst (v := (-1)) hx hb dX12_missed_153 (by decide) ?_
              refine lv_goto (tgt := 159) hx hb dX12_missed_154 (by decide) ?_
              refine lv_istore (lv' := [(5, .int (-1)), (8, .int x_30), (7, .int 1), (6, .int (nI i)), (4, .int x4), (3, .int x3), (0, .ref (z 0)), (1, .int (nI j_4)), (2, .int y)]) hx hb dX12_missed_159 hl (by decide) rfl (fun ls hl => ?_)
              refine lv_iinc (v := nI (i + 1)) (lv' := [(6, .int (nI (i + 1))), (5, .int (-1)), (8, .int x_30), (7, .int 1), (4, .int x4), (3, .int x3), (0, .ref (z 0)), (1, .int (nI j_4)), (2, .int y)]) hx hb dX12_missed_161 hl (k := 3) rfl (nI_add i 1) (by decide) rfl (fun ls hl => ?_)
              refine lv_goto (tgt := 25) hx hb dX12_missed_164 (by decide) ?_
              exact ih25 (i + 1) x3 x4 (-1) (by omega) (by first | assumption | omega) H locs (hP.sub [0, 1] rfl) (hD.sub [0, 1] (by decide) rfl) hS ls (lv_sub hl [0, 1, 4, 5, 6, 7, 8] rfl)
            · refine lv_iload hx hb dX12_missed_108 (lv_at hl 0 rfl) ?_
              refine lv_iload hx hb dX12_missed_110 (lv_at hl 3 rfl) ?_
              refine lv_isub hx hb dX12_missed_112 ?_
              refine lv_topi (fun x_32 ex_32 => ?_)
              refine lv_iconst (v := 2) hx hb dX12_missed_113 (by decide) ?_
              refine lv_icmp_le (tgt := 133) hx hb dX12_missed_114 (by decide) (fun c_33 => ?_) (fun c_33 => ?_)
              · refine lv_iload hx hb dX12_missed_133 (lv_at hl 1 rfl) ?_
                refine lv_if_ne (tgt := 153) hx hb dX12_missed_135 (by decide) (fun _ => ?_) (fun c => absurd c (by decide))
                refine lv_iconst (v := (-1)) hx hb dX12_missed_153 (by decide) ?_
                refine lv_goto (tgt := 159) hx hb dX12_missed_154 (by decide) ?_
                refine lv_istore (lv' := [(5, .int (-1)), (8, .int x_30), (7, .int 1), (6, .int (nI i)), (4, .int x4), (3, .int x3), (0, .ref (z 0)), (1, .int (nI j_4)), (2, .int y)]) hx hb dX12_missed_159 hl (by decide) rfl (fun ls hl => ?_)
                refine lv_iinc (v := nI (i + 1)) (lv' := [(6, .int (nI (i + 1))), (5, .int (-1)), (8, .int x_30), (7, .int 1), (4, .int x4), (3, .int x3), (0, .ref (z 0)), (1, .int (nI j_4)), (2, .int y)]) hx hb dX12_missed_161 hl (k := 3) rfl (nI_add i 1) (by decide) rfl (fun ls hl => ?_)
                refine lv_goto (tgt := 25) hx hb dX12_missed_164 (by decide) ?_
                exact ih25 (i + 1) x3 x4 (-1) (by omega) (by first | assumption | omega) H locs (hP.sub [0, 1] rfl) (hD.sub [0, 1] (by decide) rfl) hS ls (lv_sub hl [0, 1, 4, 5, 6, 7, 8] rfl)
              · refine lv_iload_n hx hb dX12_missed_117 rfl (lv_at hl 5 rfl) ?_
                refine lv_if_ne (tgt := 126) hx hb dX12_missed_118 (by decide) (fun c_34 => ?_) (fun c_34 => ?_)
                · refine lv_iload hx hb dX12_missed_126 (lv_at hl 4 rfl) ?_
                  refine lv_istore (lv' := [(4, .int x4), (8, .int x_30), (7, .int 1), (6, .int (nI i)), (5, .int x5), (3, .int x3), (0, .ref (z 0)), (1, .int (nI j_4)), (2, .int y)]) hx hb dX12_missed_128 hl (by decide) rfl (fun ls hl => ?_)
                  obtain ⟨x_35, ex_35⟩ : ∃ z : Int32, x3 + Int32.ofInt 1 = z := ⟨_, rfl⟩
                  refine lv_iinc (v := x_35) (lv' := [(3, .int x_35), (4, .int x4), (8, .int x_30), (7, .int 1), (6, .int (nI i)), (5, .int x5), (0, .ref (z 0)), (1, .int (nI j_4)), (2, .int y)]) hx hb dX12_missed_130 hl (k := 5) rfl ex_35 (by decide) rfl (fun ls hl => ?_)
                  refine lv_iload hx hb dX12_missed_133 (lv_at hl 3 rfl) ?_
                  refine lv_if_ne (tgt := 153) hx hb dX12_missed_135 (by decide) (fun _ => ?_) (fun c => absurd c (by decide))
                  refine lv_iconst (v := (-1)) hx hb dX12_missed_153 (by decide) ?_
                  refine lv_goto (tgt := 159) hx hb dX12_missed_154 (by decide) ?_
                  refine lv_istore (lv' := [(5, .int (-1)), (3, .int x_35), (4, .int x4), (8, .int x_30), (7, .int 1), (6, .int (nI i)), (0, .ref (z 0)), (1, .int (nI j_4)), (2, .int y)]) hx hb dX12_missed_159 hl (by decide) rfl (fun ls hl => ?_)
                  refine lv_iinc (v := nI (i + 1)) (lv' := [(6, .int (nI (i + 1))), (5, .int (-1)), (3, .int x_35), (4, .int x4), (8, .int x_30), (7, .int 1), (0, .ref (z 0)), (1, .int (nI j_4)), (2, .int y)]) hx hb dX12_missed_161 hl (k := 5) rfl (nI_add i 1) (by decide) rfl (fun ls hl => ?_)
                  refine lv_goto (tgt := 25) hx hb dX12_missed_164 (by decide) ?_
                  exact ih25 (i + 1) x_35 x4 (-1) (by omega) (by first | assumption | omega) H locs (hP.sub [0, 1] rfl) (hD.sub [0, 1] (by decide) rfl) hS ls (lv_sub hl [0, 1, 3, 2, 6, 7, 8] rfl)
                · refine lv_iload hx hb dX12_missed_121 (lv_at hl 3 rfl) ?_
                  refine lv_goto (tgt := 128) hx hb dX12_missed_123 (by decide) ?_
                  refine lv_istore (lv' := [(4, .int x5), (8, .int x_30), (7, .int 1), (6, .int (nI i)), (5, .int x5), (3, .int x3), (0, .ref (z 0)), (1, .int (nI j_4)), (2, .int y)]) hx hb dX12_missed_128 hl (by decide) rfl (fun ls hl => ?_)
                  obtain ⟨x_36, ex_36⟩ : ∃ z : Int32, x3 + Int32.ofInt 1 = z := ⟨_, rfl⟩
                  refine lv_iinc (v := x_36) (lv' := [(3, .int x_36), (4, .int x5), (8, .int x_30), (7, .int 1), (6, .int (nI i)), (5, .int x5), (0, .ref (z 0)), (1, .int (nI j_4)), (2, .int y)]) hx hb dX12_missed_130 hl (k := 5) rfl ex_36 (by decide) rfl (fun ls hl => ?_)
                  refine lv_iload hx hb dX12_missed_133 (lv_at hl 3 rfl) ?_
                  refine lv_if_ne (tgt := 153) hx hb dX12_missed_135 (by decide) (fun _ => ?_) (fun c => absurd c (by decide))
                  refine lv_iconst (v := (-1)) hx hb dX12_missed_153 (by decide) ?_
                  refine lv_goto (tgt := 159) hx hb dX12_missed_154 (by decide) ?_
                  refine lv_istore (lv' := [(5, .int (-1)), (3, .int x_36), (4, .int x5), (8, .int x_30), (7, .int 1), (6, .int (nI i)), (0, .ref (z 0)), (1, .int (nI j_4)), (2, .int y)]) hx hb dX12_missed_159 hl (by decide) rfl (fun ls hl => ?_)
                  refine lv_iinc (v := nI (i + 1)) (lv' := [(6, .int (nI (i + 1))), (5, .int (-1)), (3, .int x_36), (4, .int x5), (8, .int x_30), (7, .int 1), (0, .ref (z 0)), (1, .int (nI j_4)), (2, .int y)]) hx hb dX12_missed_161 hl (k := 5) rfl (nI_add i 1) (by decide) rfl (fun ls hl => ?_)
                  refine lv_goto (tgt := 25) hx hb dX12_missed_164 (by decide) ?_
                  exact ih25 (i + 1) x_36 x5 (-1) (by omega) (by first | assumption | omega) H locs (hP.sub [0, 1] rfl) (hD.sub [0, 1] (by decide) rfl) hS ls (lv_sub hl [0, 1, 3, 2, 6, 7, 8] rfl)
    exact L25 (41 - 0 + 1) 0 0 (-1) (-1) (Nat.lt_succ_self _) (by first | assumption | omega) H locs (hP.sub [0, 1] rfl) (hD.sub [0, 1] (by decide) rfl) hS ls (lv_sub hl [0, 1, 2, 3, 4, 5, 6] rfl)
  · refine lv_if_ne (tgt := 14) hx hb dX12_missed_5 (by decide) (fun c => absurd c (by decide)) (fun _ => ?_)
    refine lv_aload_n hx hb dX12_missed_8 rfl (lv_at hl 0 rfl) ?_
    refine lv_iconst (v := 1) hx hb dX12_missed_9 (by decide) ?_
    refine k_Vi [0] [1] 0 12 (wr := [(z 1, .inl (gI g, 461, .inl D))]) hx hb hml hown hts hKW hP hD hS hA hl.1 (c_X12_finding_1 l g _ z kp xs ) rfl rfl rfl wd_10_15 wd_1_5 wd_10_12 wd_10_13 wd_10_14 yd_X12_finding ⟨(Nat.le_of_ble_eq_true rfl), (Nat.le_of_ble_eq_true rfl)⟩ rfl rfl rfl rfl (by decide) rfl (Nat.le_of_ble_eq_true rfl) dX12_missed_10 ⟨(Nat.le_of_ble_eq_true rfl), (Nat.le_of_ble_eq_true rfl)⟩ (fun r_37 u_38 H locs hw_39 hP hD hS => ?_)
    have hP : va_P g.1 vwCl [(z 1, .inl (gI g, 461, .inl D)), (z 0, .inr (12, [.ref (z 1), .ref (z 2), .int (nI kp), .int u_38, .ref (z 3), .ref (z 4), .ref (z 5), .ref (z 6), .int (xs 1), .ref (z 7), .ref (z 8), .ref (z 9), .ref (z 10), .ref (z 11), .ref (z 12), .int (xs 2), .ref (z 13), .ref (z 14), .int (xs 3), .ref (z 15)]))] H := hP
    have hD : va_D A [(z 1, .inl (gI g, 461, .inl D)), (z 0, .inr (12, [.ref (z 1), .ref (z 2), .int (nI kp), .int u_38, .ref (z 3), .ref (z 4), .ref (z 5), .ref (z 6), .int (xs 1), .ref (z 7), .ref (z 8), .ref (z 9), .ref (z 10), .ref (z 11), .ref (z 12), .int (xs 2), .ref (z 13), .ref (z 14), .int (xs 3), .ref (z 15)]))] := hD
    have hw_39 : r_37 = (-100001) := hw_39
    subst hw_39
    exact k_iret (fun kk_ => ([u_38, (xs 1), (xs 2), (xs 3)] : List Int32).getD kk_ 0) [1, 0] hx hb hr hlk hP hD hS trivial rfl rfl rfl (Nat.le_of_ble_eq_true rfl) (Nat.le_of_ble_eq_true rfl) dX12_missed_13
theorem dX12_list_0 : decode cX12_list 0 = .ok (.iload_n 1, 1) := by decide +kernel
theorem dX12_list_1 : decode cX12_list 1 = .ok (.ifCond .ge 9, 3) := by decide +kernel
theorem dX12_list_10 : decode cX12_list 10 = .ok (.iload_n 1, 1) := by decide +kernel
theorem dX12_list_11 : decode cX12_list 11 = .ok (.istore_n 2, 1) := by decide +kernel
theorem dX12_list_12 : decode cX12_list 12 = .ok (.iconst 0, 1) := by decide +kernel
theorem dX12_list_13 : decode cX12_list 13 = .ok (.istore_n 3, 1) := by decide +kernel
theorem dX12_list_14 : decode cX12_list 14 = .ok (.iload_n 3, 1) := by decide +kernel
theorem dX12_list_15 : decode cX12_list 15 = .ok (.iconst 2, 1) := by decide +kernel
theorem dX12_list_16 : decode cX12_list 16 = .ok (.if_icmp .ge 76, 3) := by decide +kernel
theorem dX12_list_92 : decode cX12_list 92 = .ok (.aload_n 0, 1) := by decide +kernel
theorem dX12_list_93 : decode cX12_list 93 = .ok (.bipush 6, 2) := by decide +kernel
theorem dX12_list_95 : decode cX12_list 95 = .ok (.invokevirtual 68, 3) := by decide +kernel
theorem dX12_list_98 : decode cX12_list 98 = .ok (.ireturn, 1) := by decide +kernel
theorem dX12_list_19 : decode cX12_list 19 = .ok (.iconst 0, 1) := by decide +kernel
theorem dX12_list_20 : decode cX12_list 20 = .ok (.istore 4, 2) := by decide +kernel
theorem dX12_list_22 : decode cX12_list 22 = .ok (.iload 4, 2) := by decide +kernel
theorem dX12_list_24 : decode cX12_list 24 = .ok (.aload_n 0, 1) := by decide +kernel
theorem dX12_list_25 : decode cX12_list 25 = .ok (.getfield 7, 3) := by decide +kernel
theorem dX12_list_28 : decode cX12_list 28 = .ok (.bipush 8, 2) := by decide +kernel
theorem dX12_list_30 : decode cX12_list 30 = .ok (.iaload, 1) := by decide +kernel
theorem dX12_list_31 : decode cX12_list 31 = .ok (.if_icmp .ge 55, 3) := by decide +kernel
theorem dX12_list_86 : decode cX12_list 86 = .ok (.iinc 3 1, 3) := by decide +kernel
theorem dX12_list_89 : decode cX12_list 89 = .ok (.goto (-75), 3) := by decide +kernel
theorem dX12_list_34 : decode cX12_list 34 = .ok (.aload_n 0, 1) := by decide +kernel
theorem dX12_list_35 : decode cX12_list 35 = .ok (.aload_n 0, 1) := by decide +kernel
theorem dX12_list_36 : decode cX12_list 36 = .ok (.getfield 7, 3) := by decide +kernel
theorem dX12_list_39 : decode cX12_list 39 = .ok (.sipush 137, 3) := by decide +kernel
theorem dX12_list_42 : decode cX12_list 42 = .ok (.iload 4, 2) := by decide +kernel
theorem dX12_list_44 : decode cX12_list 44 = .ok (.iadd, 1) := by decide +kernel
theorem dX12_list_45 : decode cX12_list 45 = .ok (.iaload, 1) := by decide +kernel
theorem dX12_list_46 : decode cX12_list 46 = .ok (.invokevirtual 177, 3) := by decide +kernel
theorem dX12_list_49 : decode cX12_list 49 = .ok (.iload_n 3, 1) := by decide +kernel
theorem dX12_list_50 : decode cX12_list 50 = .ok (.ifCond .ne 7, 3) := by decide +kernel
theorem dX12_list_57 : decode cX12_list 57 = .ok (.iconst 0, 1) := by decide +kernel
theorem dX12_list_58 : decode cX12_list 58 = .ok (.if_icmp .ne 22, 3) := by decide +kernel
theorem dX12_list_80 : decode cX12_list 80 = .ok (.iinc 4 1, 3) := by decide +kernel
theorem dX12_list_83 : decode cX12_list 83 = .ok (.goto (-61), 3) := by decide +kernel
theorem dX12_list_53 : decode cX12_list 53 = .ok (.iconst 1, 1) := by decide +kernel
theorem dX12_list_54 : decode cX12_list 54 = .ok (.goto 4, 3) := by decide +kernel
theorem dX12_list_61 : decode cX12_list 61 = .ok (.iload_n 2, 1) := by decide +kernel
theorem dX12_list_62 : decode cX12_list 62 = .ok (.ifCond .ne 15, 3) := by decide +kernel
theorem dX12_list_77 : decode cX12_list 77 = .ok (.iinc 2 (-1), 3) := by decide +kernel
theorem dX12_list_65 : decode cX12_list 65 = .ok (.aload_n 0, 1) := by decide +kernel
theorem dX12_list_66 : decode cX12_list 66 = .ok (.getfield 7, 3) := by decide +kernel
theorem dX12_list_69 : decode cX12_list 69 = .ok (.sipush 137, 3) := by decide +kernel
theorem dX12_list_72 : decode cX12_list 72 = .ok (.iload 4, 2) := by decide +kernel
theorem dX12_list_74 : decode cX12_list 74 = .ok (.iadd, 1) := by decide +kernel
theorem dX12_list_75 : decode cX12_list 75 = .ok (.iaload, 1) := by decide +kernel
theorem dX12_list_76 : decode cX12_list 76 = .ok (.ireturn, 1) := by decide +kernel
theorem dX12_list_4 : decode cX12_list 4 = .ok (.aload_n 0, 1) := by decide +kernel
theorem dX12_list_5 : decode cX12_list 5 = .ok (.iconst 1, 1) := by decide +kernel
theorem dX12_list_6 : decode cX12_list 6 = .ok (.invokevirtual 68, 3) := by decide +kernel
theorem dX12_list_9 : decode cX12_list 9 = .ok (.ireturn, 1) := by decide +kernel
set_option maxHeartbeats 8000000 in
set_option maxRecDepth 100000 in
theorem c_X12_list (l : Launch) (g : kG) (sz : Nat) (z : Nat → Nat) (kp : Nat) (xs : Nat → Int32) (D : Nat → Int32) (x : Int32) (hDI : DI D) : kMi l g yX12_list cX12_list 5 (some .int) 4 0 0 [.ref (z 0), .int x] sz [(z 0, .inr (12, [.ref (z 1), .ref (z 2), .int (nI kp), .int (xs 0), .ref (z 3), .ref (z 4), .ref (z 5), .ref (z 6), .int (xs 1), .ref (z 7), .ref (z 8), .ref (z 9), .ref (z 10), .ref (z 11), .ref (z 12), .int (xs 2), .ref (z 13), .ref (z 14), .int (xs 3), .ref (z 15)])), (z 1, .inl (gI g, 461, .inl D))] (fun (r : Int32) (u : (Nat → Int32)) => True) (fun (u : (Nat → Int32)) => ([(z 0, .inr (12, [.ref (z 1), .ref (z 2), .int (nI kp), .int (u 0), .ref (z 3), .ref (z 4), .ref (z 5), .ref (z 6), .int (u 1), .ref (z 7), .ref (z 8), .ref (z 9), .ref (z 10), .ref (z 11), .ref (z 12), .int (u 2), .ref (z 13), .ref (z 14), .int (u 3), .ref (z 15)])), (z 1, .inl (gI g, 461, .inl D))] : va_W)) := by
  refine kMi.of (by decide) (Nat.le_of_ble_eq_true rfl) (fun p e s m below meth c A hx hb hr hml hown hts hlk hnm hKW hP hD hS hA ls hl => ?_)
  have hown : s.vm.findClass RX12 = some m.cls := hown
  have hl : lv_has ls 5 [(0, .ref (z 0)), (1, .int x)] := hl
  refine k_hide hP hS (fun H locs hP hS => ?_)
  refine lv_iload_n hx hb dX12_list_0 rfl (lv_at hl 1 rfl) ?_
  refine lv_if_ge (tgt := 10) hx hb dX12_list_1 (by decide) (fun c_1 => ?_) (fun c_1 => ?_)
  · refine lv_iload_n hx hb dX12_list_10 rfl (lv_at hl 1 rfl) ?_
    refine lv_istore_n (lv' := [(2, .int x), (0, .ref (z 0)), (1, .int x)]) hx hb dX12_list_11 rfl hl (by decide) rfl (fun ls hl => ?_)
    refine lv_iconst (v := 0) hx hb dX12_list_12 (by decide) ?_
    refine lv_istore_n (lv' := [(3, .int 0), (2, .int x), (0, .ref (z 0)), (1, .int x)]) hx hb dX12_list_13 rfl hl (by decide) rfl (fun ls hl => ?_)
    have L14 : ∀ (n14 : Nat) (rd : Nat) (x2 : Int32) (hfuel14 : 2 - rd < n14) (hrd : rd ≤ 2) (H : Heap) (locs : List Loc) (hP : va_P g.1 vwCl [(z 0, .inr (12, [.ref (z 1), .ref (z 2), .int (nI kp), .int (xs 0), .ref (z 3), .ref (z 4), .ref (z 5), .ref (z 6), .int (xs 1), .ref (z 7), .ref (z 8), .ref (z 9), .ref (z 10), .ref (z 11), .ref (z 12), .int (xs 2), .ref (z 13), .ref (z 14), .int (xs 3), .ref (z 15)])), (z 1, .inl (gI g, 461, .inl D))] H) (hD : va_D A [(z 0, .inr (12, [.ref (z 1), .ref (z 2), .int (nI kp), .int (xs 0), .ref (z 3), .ref (z 4), .ref (z 5), .ref (z 6), .int (xs 1), .ref (z 7), .ref (z 8), .ref (z 9), .ref (z 10), .ref (z 11), .ref (z 12), .int (xs 2), .ref (z 13), .ref (z 14), .int (xs 3), .ref (z 15)])), (z 1, .inl (gI g, 461, .inl D))]) (hS : va_S A s.heap H locs) (ls : Array Slot) (hl : lv_has ls 5 [(3, .int (nI rd)), (2, .int x2), (0, .ref (z 0)), (1, .int x)]), W p l e (kR 4 0 0) s m ([.ref (z 0), .int x] : List Value).toArray below meth c H locs 0 0 (kQi g A below ([.ref (z 0), .int x] : List Value).toArray s 0 0 (fun (r : Int32) (u : (Nat → Int32)) => True) (fun (u : (Nat → Int32)) => ([(z 0, .inr (12, [.ref (z 1), .ref (z 2), .int (nI kp), .int (u 0), .ref (z 3), .ref (z 4), .ref (z 5), .ref (z 6), .int (u 1), .ref (z 7), .ref (z 8), .ref (z 9), .ref (z 10), .ref (z 11), .ref (z 12), .int (u 2), .ref (z 13), .ref (z 14), .int (u 3), .ref (z 15)])), (z 1, .inl (gI g, 461, .inl D))] : va_W))) (F0 m 14 ls []) := by
      intro n14
      induction n14 with
      | zero => intro rd x2 hfuel14; exact absurd hfuel14 (Nat.not_lt_zero _)
      | succ n14 ih14 =>
        intro rd x2 hfuel14 hrd H locs hP hD hS ls hl
        refine lv_iload_n hx hb dX12_list_14 rfl (lv_at hl 0 rfl) ?_
        refine lv_iconst (v := 2) hx hb dX12_list_15 (by decide) ?_
        refine lv_icmp_ge (tgt := 92) hx hb dX12_list_16 (by decide) (fun c_2 => ?_) (fun c_2 => ?_)
        · have c_2n : 2 ≤ rd := (k_leI (a := 2) (b := rd) (by omega) (by omega)).mp c_2
          refine lv_aload_n hx hb dX12_list_92 rfl (lv_at hl 2 rfl) ?_
          refine lv_bipush (v := 6) hx hb dX12_list_93 (by decide) ?_
          refine k_Vi [0] [1] 0 12 (wr := [(z 1, .inl (gI g, 461, .inl D))]) hx hb hml hown hts hKW hP hD hS hA hl.1 (c_X12_finding_6 l g _ z kp xs ) rfl rfl rfl wd_10_15 wd_1_5 wd_10_12 wd_10_13 wd_10_14 yd_X12_finding ⟨(Nat.le_of_ble_eq_true rfl), (Nat.le_of_ble_eq_true rfl)⟩ rfl rfl rfl rfl (by decide) rfl (Nat.le_of_ble_eq_true rfl) dX12_list_95 ⟨(Nat.le_of_ble_eq_true rfl), (Nat.le_of_ble_eq_true rfl)⟩ (fun r_3 u_4 H locs hw_5 hP hD hS => ?_)
          have hP : va_P g.1 vwCl [(z 1, .inl (gI g, 461, .inl D)), (z 0, .inr (12, [.ref (z 1), .ref (z 2), .int (nI kp), .int u_4, .ref (z 3), .ref (z 4), .ref (z 5), .ref (z 6), .int (xs 1), .ref (z 7), .ref (z 8), .ref (z 9), .ref (z 10), .ref (z 11), .ref (z 12), .int (xs 2), .ref (z 13), .ref (z 14), .int (xs 3), .ref (z 15)]))] H := hP
          have hD : va_D A [(z 1, .inl (gI g, 461, .inl D)), (z 0, .inr (12, [.ref (z 1), .ref (z 2), .int (nI kp), .int u_4, .ref (z 3), .ref (z 4), .ref (z 5), .ref (z 6), .int (xs 1), .ref (z 7), .ref (z 8), .ref (z 9), .ref (z 10), .ref (z 11), .ref (z 12), .int (xs 2), .ref (z 13), .ref (z 14), .int (xs 3), .ref (z 15)]))] := hD
          have hw_5 : r_3 = (-100006) := hw_5
          subst hw_5
          exact k_iret (fun kk_ => ([u_4, (xs 1), (xs 2), (xs 3)] : List Int32).getD kk_ 0) [1, 0] hx hb hr hlk hP hD hS trivial rfl rfl rfl (Nat.le_of_ble_eq_true rfl) (Nat.le_of_ble_eq_true rfl) dX12_list_98
        · have c_2n : rd < 2 := Nat.not_le.mp (fun h => c_2 ((k_leI (a := 2) (b := rd) (by omega) (by omega)).mpr h))
          refine lv_iconst (v := 0) hx hb dX12_list_19 (by decide) ?_
          refine lv_istore (lv' := [(4, .int 0), (3, .int (nI rd)), (2, .int x2), (0, .ref (z 0)), (1, .int x)]) hx hb dX12_list_20 hl (by decide) rfl (fun ls hl => ?_)
          have L22 : ∀ (n22 : Nat) (i : Nat) (x2 : Int32) (hfuel22 : 10 - i < n22) (hi : i ≤ 10) (H : Heap) (locs : List Loc) (hP : va_P g.1 vwCl [(z 0, .inr (12, [.ref (z 1), .ref (z 2), .int (nI kp), .int (xs 0), .ref (z 3), .ref (z 4), .ref (z 5), .ref (z 6), .int (xs 1), .ref (z 7), .ref (z 8), .ref (z 9), .ref (z 10), .ref (z 11), .ref (z 12), .int (xs 2), .ref (z 13), .ref (z 14), .int (xs 3), .ref (z 15)])), (z 1, .inl (gI g, 461, .inl D))] H) (hD : va_D A [(z 0, .inr (12, [.ref (z 1), .ref (z 2), .int (nI kp), .int (xs 0), .ref (z 3), .ref (z 4), .ref (z 5), .ref (z 6), .int (xs 1), .ref (z 7), .ref (z 8), .ref (z 9), .ref (z 10), .ref (z 11), .ref (z 12), .int (xs 2), .ref (z 13), .ref (z 14), .int (xs 3), .ref (z 15)])), (z 1, .inl (gI g, 461, .inl D))]) (hS : va_S A s.heap H locs) (ls : Array Slot) (hl : lv_has ls 5 [(4, .int (nI i)), (3, .int (nI rd)), (2, .int x2), (0, .ref (z 0)), (1, .int x)]), W p l e (kR 4 0 0) s m ([.ref (z 0), .int x] : List Value).toArray below meth c H locs 0 0 (kQi g A below ([.ref (z 0), .int x] : List Value).toArray s 0 0 (fun (r : Int32) (u : (Nat → Int32)) => True) (fun (u : (Nat → Int32)) => ([(z 0, .inr (12, [.ref (z 1), .ref (z 2), .int (nI kp), .int (u 0), .ref (z 3), .ref (z 4), .ref (z 5), .ref (z 6), .int (u 1), .ref (z 7), .ref (z 8), .ref (z 9), .ref (z 10), .ref (z 11), .ref (z 12), .int (u 2), .ref (z 13), .ref (z 14), .int (u 3), .ref (z 15)])), (z 1, .inl (gI g, 461, .inl D))] : va_W))) (F0 m 22 ls []) := by
            intro n22
            induction n22 with
            | zero => intro i x2 hfuel22; exact absurd hfuel22 (Nat.not_lt_zero _)
            | succ n22 ih22 =>
              intro i x2 hfuel22 hi H locs hP hD hS ls hl
              refine lv_iload hx hb dX12_list_22 (lv_at hl 0 rfl) ?_
              refine lv_aload_n hx hb dX12_list_24 rfl (lv_at hl 3 rfl) ?_
              refine va_get (ci := 12) (C := RX12) (T := TX12) (N := 20) hx hb hts inlX12 hown hKW.1 hP 0 rfl rfl 0 (by decide) (hts _ wd_6_5) (fun _ h => h) rfl dX12_list_25 ?_
              refine lv_bipush (v := 8) hx hb dX12_list_28 (by decide) ?_
              obtain ⟨dk_6, hdk_6a, hdk_6b, edk_6⟩ := DI.n8 hDI
              refine va_iald hx hb hKW.1 hP 1 0 rfl rfl (show ¬ _ by decide) dX12_list_30 ?_
              refine k_top (y := nI dk_6) edk_6 ?_
              refine lv_icmp_ge (tgt := 86) hx hb dX12_list_31 (by decide) (fun c_7 => ?_) (fun c_7 => ?_)
              · have c_7n : dk_6 ≤ i := (k_leI (a := dk_6) (b := i) (by omega) (by omega)).mp c_7
                refine lv_iinc (v := nI (rd + 1)) (lv' := [(3, .int (nI (rd + 1))), (4, .int (nI i)), (2, .int x2), (0, .ref (z 0)), (1, .int x)]) hx hb dX12_list_86 hl (k := 1) rfl (nI_add rd 1) (by decide) rfl (fun ls hl => ?_)
                refine lv_goto (tgt := 14) hx hb dX12_list_89 (by decide) ?_
                exact ih14 (rd + 1) x2 (by omega) (by first | assumption | omega) H locs (hP.sub [0, 1] rfl) (hD.sub [0, 1] (by decide) rfl) hS ls (lv_sub hl [0, 2, 3, 4] rfl)
              · have c_7n : i < dk_6 := Nat.not_le.mp (fun h => c_7 ((k_leI (a := dk_6) (b := i) (by omega) (by omega)).mpr h))
                refine lv_aload_n hx hb dX12_list_34 rfl (lv_at hl 3 rfl) ?_
                refine lv_aload_n hx hb dX12_list_35 rfl (lv_at hl 3 rfl) ?_
                refine va_get (ci := 12) (C := RX12) (T := TX12) (N := 20) hx hb hts inlX12 hown hKW.1 hP 0 rfl rfl 0 (by decide) (hts _ wd_6_5) (fun _ h => h) rfl dX12_list_36 ?_
                refine lv_sipush (v := 137) hx hb dX12_list_39 (by decide) ?_
                refine lv_iload hx hb dX12_list_42 (lv_at hl 0 rfl) ?_
                refine lv_iadd hx hb dX12_list_44 ?_
                refine k_top (y := nI (i + 137)) (by rw [Nat.add_comm]; exact nI_add 137 i) ?_
                obtain ⟨lq_8, hlq_8a, hlq_8b, elq_8⟩ := DI.lst hDI i (by rw [edk_6, k_nIi (by omega)]; omega)
                refine va_iald hx hb hKW.1 hP 1 0 rfl rfl (vp_in_nI (by omega) (by decide)) dX12_list_45 ?_
                refine k_top (y := nI lq_8) (by rw [nI_clamp (by omega)]; exact elq_8) ?_
                refine k_Vi [0, 1] [] 0 12 (wr := []) hx hb hml hown hts hKW hP hD hS hA hl.1 (c_X12_hasSibling l g _ z kp xs D lq_8 (by first | assumption | omega | decide) (by first | assumption | omega | decide)) rfl rfl rfl wd_40_15 wd_1_5 wd_40_12 wd_40_13 wd_40_14 yd_X12_hasSibling ⟨(Nat.le_of_ble_eq_true rfl), (Nat.le_of_ble_eq_true rfl)⟩ rfl rfl rfl rfl (by decide) rfl (Nat.le_of_ble_eq_true rfl) dX12_list_46 ⟨(Nat.le_of_ble_eq_true rfl), (Nat.le_of_ble_eq_true rfl)⟩ (fun r_9 u_10 H locs hw_11 hP hD hS => ?_)
                have hP : va_P g.1 vwCl [(z 0, .inr (12, [.ref (z 1), .ref (z 2), .int (nI kp), .int (xs 0), .ref (z 3), .ref (z 4), .ref (z 5), .ref (z 6), .int (xs 1), .ref (z 7), .ref (z 8), .ref (z 9), .ref (z 10), .ref (z 11), .ref (z 12), .int (xs 2), .ref (z 13), .ref (z 14), .int (xs 3), .ref (z 15)])), (z 1, .inl (gI g, 461, .inl D))] H := hP
                have hD : va_D A [(z 0, .inr (12, [.ref (z 1), .ref (z 2), .int (nI kp), .int (xs 0), .ref (z 3), .ref (z 4), .ref (z 5), .ref (z 6), .int (xs 1), .ref (z 7), .ref (z 8), .ref (z 9), .ref (z 10), .ref (z 11), .ref (z 12), .int (xs 2), .ref (z 13), .ref (z 14), .int (xs 3), .ref (z 15)])), (z 1, .inl (gI g, 461, .inl D))] := hD
                rcases (show r_9 = 1 ∨ r_9 = 0 from hw_11) with rfl | rfl <;> clear hw_11
                · refine lv_iload_n hx hb dX12_list_49 rfl (lv_at hl 1 rfl) ?_
                  refine lv_if_ne (tgt := 57) hx hb dX12_list_50 (by decide) (fun c_12 => ?_) (fun c_12 => ?_)
                  · have c_12n : ¬ rd = 0 := fun h => c_12 ((k_eqI (a := rd) (b := 0) (by omega) (by omega)).mpr h)
                    refine lv_iconst (v := 0) hx hb dX12_list_57 (by decide) ?_
                    refine lv_icmp_ne (tgt := 80) hx hb dX12_list_58 (by decide) (fun _ => ?_) (fun c => absurd c (by decide))
                    refine lv_iinc (v := nI (i + 1)) (lv' := [(4, .int (nI (i + 1))), (3, .int (nI rd)), (2, .int x2), (0, .ref (z 0)), (1, .int x)]) hx hb dX12_list_80 hl (k := 0) rfl (nI_add i 1) (by decide) rfl (fun ls hl => ?_)
                    refine lv_goto (tgt := 22) hx hb dX12_list_83 (by decide) ?_
                    exact ih22 (i + 1) x2 (by omega) (by first | assumption | omega) H locs (hP.sub [0, 1] rfl) (hD.sub [0, 1] (by decide) rfl) hS ls (lv_sub hl [0, 1, 2, 3, 4] rfl)
                  · have c_12n : rd = 0 := (k_eqI (a := rd) (b := 0) (by omega) (by omega)).mp c_12
                    refine lv_iconst (v := 1) hx hb dX12_list_53 (by decide) ?_
                    refine lv_goto (tgt := 58) hx hb dX12_list_54 (by decide) ?_
                    refine lv_icmp_ne (tgt := 80) hx hb dX12_list_58 (by decide) (fun c => absurd c (by decide)) (fun _ => ?_)
                    refine lv_iload_n hx hb dX12_list_61 rfl (lv_at hl 2 rfl) ?_
                    refine lv_if_ne (tgt := 77) hx hb dX12_list_62 (by decide) (fun c_13 => ?_) (fun c_13 => ?_)
                    · obtain ⟨x_14, ex_14⟩ : ∃ z : Int32, x2 + Int32.ofInt (-1) = z := ⟨_, rfl⟩
                      refine lv_iinc (v := x_14) (lv' := [(2, .int x_14), (4, .int (nI i)), (3, .int (nI rd)), (0, .ref (z 0)), (1, .int x)]) hx hb dX12_list_77 hl (k := 2) rfl ex_14 (by decide) rfl (fun ls hl => ?_)
                      refine lv_iinc (v := nI (i + 1)) (lv' := [(4, .int (nI (i + 1))), (2, .int x_14), (3, .int (nI rd)), (0, .ref (z 0)), (1, .int x)]) hx hb dX12_list_80 hl (k := 1) rfl (nI_add i 1) (by decide) rfl (fun ls hl => ?_)
                      refine lv_goto (tgt := 22) hx hb dX12_list_83 (by decide) ?_
                      exact ih22 (i + 1) x_14 (by omega) (by first | assumption | omega) H locs (hP.sub [0, 1] rfl) (hD.sub [0, 1] (by decide) rfl) hS ls (lv_sub hl [0, 2, 1, 3, 4] rfl)
                    · refine lv_aload_n hx hb dX12_list_65 rfl (lv_at hl 3 rfl) ?_
                      refine va_get (ci := 12) (C := RX12) (T := TX12) (N := 20) hx hb hts inlX12 hown hKW.1 hP 0 rfl rfl 0 (by decide) (hts _ wd_6_5) (fun _ h => h) rfl dX12_list_66 ?_
                      refine lv_sipush (v := 137) hx hb dX12_list_69 (by decide) ?_
                      refine lv_iload hx hb dX12_list_72 (lv_at hl 0 rfl) ?_
                      refine lv_iadd hx hb dX12_list_74 ?_
                      refine k_top (y := nI (i + 137)) (by rw [Nat.add_comm]; exact nI_add 137 i) ?_
                      refine va_iald hx hb hKW.1 hP 1 0 rfl rfl (vp_in_nI (by omega) (by decide)) dX12_list_75 ?_
                      refine lv_topi (fun x_15 ex_15 => ?_)
                      exact k_iret xs [0, 1] hx hb hr hlk hP hD hS trivial rfl rfl rfl (Nat.le_of_ble_eq_true rfl) (Nat.le_of_ble_eq_true rfl) dX12_list_76
                · refine lv_iload_n hx hb dX12_list_49 rfl (lv_at hl 1 rfl) ?_
                  refine lv_if_ne (tgt := 57) hx hb dX12_list_50 (by decide) (fun c_16 => ?_) (fun c_16 => ?_)
                  · have c_16n : ¬ rd = 0 := fun h => c_16 ((k_eqI (a := rd) (b := 0) (by omega) (by omega)).mpr h)
                    refine lv_iconst (v := 0) hx hb dX12_list_57 (by decide) ?_
                    refine lv_icmp_ne (tgt := 80) hx hb dX12_list_58 (by decide) (fun c => absurd c (by decide)) (fun _ => ?_)
                    refine lv_iload_n hx hb dX12_list_61 rfl (lv_at hl 2 rfl) ?_
                    refine lv_if_ne (tgt := 77) hx hb dX12_list_62 (by decide) (fun c_17 => ?_) (fun c_17 => ?_)
                    · obtain ⟨x_18, ex_18⟩ : ∃ z : Int32, x2 + Int32.ofInt (-1) = z := ⟨_, rfl⟩
                      refine lv_iinc (v := x_18) (lv' := [(2, .int x_18), (4, .int (nI i)), (3, .int (nI rd)), (0, .ref (z 0)), (1, .int x)]) hx hb dX12_list_77 hl (k := 2) rfl ex_18 (by decide) rfl (fun ls hl => ?_)
                      refine lv_iinc (v := nI (i + 1)) (lv' := [(4, .int (nI (i + 1))), (2, .int x_18), (3, .int (nI rd)), (0, .ref (z 0)), (1, .int x)]) hx hb dX12_list_80 hl (k := 1) rfl (nI_add i 1) (by decide) rfl (fun ls hl => ?_)
                      refine lv_goto (tgt := 22) hx hb dX12_list_83 (by decide) ?_
                      exact ih22 (i + 1) x_18 (by omega) (by first | assumption | omega) H locs (hP.sub [0, 1] rfl) (hD.sub [0, 1] (by decide) rfl) hS ls (lv_sub hl [0, 2, 1, 3, 4] rfl)
                    · refine lv_aload_n hx hb dX12_list_65 rfl (lv_at hl 3 rfl) ?_
                      refine va_get (ci := 12) (C := RX12) (T := TX12) (N := 20) hx hb hts inlX12 hown hKW.1 hP 0 rfl rfl 0 (by decide) (hts _ wd_6_5) (fun _ h => h) rfl dX12_list_66 ?_
                      refine lv_sipush (v := 137) hx hb dX12_list_69 (by decide) ?_
                      refine lv_iload hx hb dX12_list_72 (lv_at hl 0 rfl) ?_
                      refine lv_iadd hx hb dX12_list_74 ?_
                      refine k_top (y := nI (i + 137)) (by rw [Nat.add_comm]; exact nI_add 137 i) ?_
                      refine va_iald hx hb hKW.1 hP 1 0 rfl rfl (vp_in_nI (by omega) (by decide)) dX12_list_75 ?_
                      refine lv_topi (fun x_19 ex_19 => ?_)
                      exact k_iret xs [0, 1] hx hb hr hlk hP hD hS trivial rfl rfl rfl (Nat.le_of_ble_eq_true rfl) (Nat.le_of_ble_eq_true rfl) dX12_list_76
                  · have c_16n : rd = 0 := (k_eqI (a := rd) (b := 0) (by omega) (by omega)).mp c_16
                    refine lv_iconst (v := 1) hx hb dX12_list_53 (by decide) ?_
                    refine lv_goto (tgt := 58) hx hb dX12_list_54 (by decide) ?_
                    refine lv_icmp_ne (tgt := 80) hx hb dX12_list_58 (by decide) (fun _ => ?_) (fun c => absurd c (by decide))
                    refine lv_iinc (v := nI (i + 1)) (lv' := [(4, .int (nI (i + 1))), (3, .int (nI rd)), (2, .int x2), (0, .ref (z 0)), (1, .int x)]) hx hb dX12_list_80 hl (k := 0) rfl (nI_add i 1) (by decide) rfl (fun ls hl => ?_)
                    refine lv_goto (tgt := 22) hx hb dX12_list_83 (by decide) ?_
                    exact ih22 (i + 1) x2 (by omega) (by first | assumption | omega) H locs (hP.sub [0, 1] rfl) (hD.sub [0, 1] (by decide) rfl) hS ls (lv_sub hl [0, 1, 2, 3, 4] rfl)
          exact L22 (10 - 0 + 1) 0 x2 (Nat.lt_succ_self _) (by first | assumption | omega) H locs (hP.sub [0, 1] rfl) (hD.sub [0, 1] (by decide) rfl) hS ls (lv_sub hl [0, 1, 2, 3, 4] rfl)
    exact L14 (2 - 0 + 1) 0 x (Nat.lt_succ_self _) (by first | assumption | omega) H locs (hP.sub [0, 1] rfl) (hD.sub [0, 1] (by decide) rfl) hS ls (lv_sub hl [0, 1, 2, 3] rfl)
  · refine lv_aload_n hx hb dX12_list_4 rfl (lv_at hl 0 rfl) ?_
    refine lv_iconst (v := 1) hx hb dX12_list_5 (by decide) ?_
    refine k_Vi [0] [1] 0 12 (wr := [(z 1, .inl (gI g, 461, .inl D))]) hx hb hml hown hts hKW hP hD hS hA hl.1 (c_X12_finding_1 l g _ z kp xs ) rfl rfl rfl wd_10_15 wd_1_5 wd_10_12 wd_10_13 wd_10_14 yd_X12_finding ⟨(Nat.le_of_ble_eq_true rfl), (Nat.le_of_ble_eq_true rfl)⟩ rfl rfl rfl rfl (by decide) rfl (Nat.le_of_ble_eq_true rfl) dX12_list_6 ⟨(Nat.le_of_ble_eq_true rfl), (Nat.le_of_ble_eq_true rfl)⟩ (fun r_20 u_21 H locs hw_22 hP hD hS => ?_)
    have hP : va_P g.1 vwCl [(z 1, .inl (gI g, 461, .inl D)), (z 0, .inr (12, [.ref (z 1), .ref (z 2), .int (nI kp), .int u_21, .ref (z 3), .ref (z 4), .ref (z 5), .ref (z 6), .int (xs 1), .ref (z 7), .ref (z 8), .ref (z 9), .ref (z 10), .ref (z 11), .ref (z 12), .int (xs 2), .ref (z 13), .ref (z 14), .int (xs 3), .ref (z 15)]))] H := hP
    have hD : va_D A [(z 1, .inl (gI g, 461, .inl D)), (z 0, .inr (12, [.ref (z 1), .ref (z 2), .int (nI kp), .int u_21, .ref (z 3), .ref (z 4), .ref (z 5), .ref (z 6), .int (xs 1), .ref (z 7), .ref (z 8), .ref (z 9), .ref (z 10), .ref (z 11), .ref (z 12), .int (xs 2), .ref (z 13), .ref (z 14), .int (xs 3), .ref (z 15)]))] := hD
    have hw_22 : r_20 = (-100001) := hw_22
    subst hw_22
    exact k_iret (fun kk_ => ([u_21, (xs 1), (xs 2), (xs 3)] : List Int32).getD kk_ 0) [1, 0] hx hb hr hlk hP hD hS trivial rfl rfl rfl (Nat.le_of_ble_eq_true rfl) (Nat.le_of_ble_eq_true rfl) dX12_list_9
theorem dX12_haveIn_0 : decode cX12_haveIn 0 = .ok (.iconst 0, 1) := by decide +kernel
theorem dX12_haveIn_1 : decode cX12_haveIn 1 = .ok (.istore 4, 2) := by decide +kernel
theorem dX12_haveIn_3 : decode cX12_haveIn 3 = .ok (.iconst 0, 1) := by decide +kernel
theorem dX12_haveIn_4 : decode cX12_haveIn 4 = .ok (.istore 5, 2) := by decide +kernel
theorem dX12_haveIn_6 : decode cX12_haveIn 6 = .ok (.iload 5, 2) := by decide +kernel
theorem dX12_haveIn_8 : decode cX12_haveIn 8 = .ok (.aload_n 0, 1) := by decide +kernel
theorem dX12_haveIn_9 : decode cX12_haveIn 9 = .ok (.getfield 7, 3) := by decide +kernel
theorem dX12_haveIn_12 : decode cX12_haveIn 12 = .ok (.iconst 2, 1) := by decide +kernel
theorem dX12_haveIn_13 : decode cX12_haveIn 13 = .ok (.iaload, 1) := by decide +kernel
theorem dX12_haveIn_14 : decode cX12_haveIn 14 = .ok (.if_icmp .ge 101, 3) := by decide +kernel
theorem dX12_haveIn_115 : decode cX12_haveIn 115 = .ok (.iload 4, 2) := by decide +kernel
theorem dX12_haveIn_117 : decode cX12_haveIn 117 = .ok (.ireturn, 1) := by decide +kernel
theorem dX12_haveIn_17 : decode cX12_haveIn 17 = .ok (.aload_n 0, 1) := by decide +kernel
theorem dX12_haveIn_18 : decode cX12_haveIn 18 = .ok (.getfield 7, 3) := by decide +kernel
theorem dX12_haveIn_21 : decode cX12_haveIn 21 = .ok (.bipush 117, 2) := by decide +kernel
theorem dX12_haveIn_23 : decode cX12_haveIn 23 = .ok (.iload 5, 2) := by decide +kernel
theorem dX12_haveIn_25 : decode cX12_haveIn 25 = .ok (.iadd, 1) := by decide +kernel
theorem dX12_haveIn_26 : decode cX12_haveIn 26 = .ok (.iaload, 1) := by decide +kernel
theorem dX12_haveIn_27 : decode cX12_haveIn 27 = .ok (.iconst 1, 1) := by decide +kernel
theorem dX12_haveIn_28 : decode cX12_haveIn 28 = .ok (.if_icmp .ne 52, 3) := by decide +kernel
theorem dX12_haveIn_80 : decode cX12_haveIn 80 = .ok (.iconst 0, 1) := by decide +kernel
theorem dX12_haveIn_81 : decode cX12_haveIn 81 = .ok (.istore 6, 2) := by decide +kernel
theorem dX12_haveIn_83 : decode cX12_haveIn 83 = .ok (.iload 4, 2) := by decide +kernel
theorem dX12_haveIn_85 : decode cX12_haveIn 85 = .ok (.iload 6, 2) := by decide +kernel
theorem dX12_haveIn_87 : decode cX12_haveIn 87 = .ok (.ifCond .eq 18, 3) := by decide +kernel
theorem dX12_haveIn_105 : decode cX12_haveIn 105 = .ok (.iconst 0, 1) := by decide +kernel
theorem dX12_haveIn_106 : decode cX12_haveIn 106 = .ok (.iadd, 1) := by decide +kernel
theorem dX12_haveIn_107 : decode cX12_haveIn 107 = .ok (.istore 4, 2) := by decide +kernel
theorem dX12_haveIn_109 : decode cX12_haveIn 109 = .ok (.iinc 5 1, 3) := by decide +kernel
theorem dX12_haveIn_112 : decode cX12_haveIn 112 = .ok (.goto (-106), 3) := by decide +kernel
theorem dX12_haveIn_31 : decode cX12_haveIn 31 = .ok (.iload_n 3, 1) := by decide +kernel
theorem dX12_haveIn_32 : decode cX12_haveIn 32 = .ok (.aload_n 0, 1) := by decide +kernel
theorem dX12_haveIn_33 : decode cX12_haveIn 33 = .ok (.getfield 7, 3) := by decide +kernel
theorem dX12_haveIn_36 : decode cX12_haveIn 36 = .ok (.bipush 77, 2) := by decide +kernel
theorem dX12_haveIn_38 : decode cX12_haveIn 38 = .ok (.iload 5, 2) := by decide +kernel
theorem dX12_haveIn_40 : decode cX12_haveIn 40 = .ok (.iadd, 1) := by decide +kernel
theorem dX12_haveIn_41 : decode cX12_haveIn 41 = .ok (.iaload, 1) := by decide +kernel
theorem dX12_haveIn_42 : decode cX12_haveIn 42 = .ok (.aload_n 0, 1) := by decide +kernel
theorem dX12_haveIn_43 : decode cX12_haveIn 43 = .ok (.getfield 7, 3) := by decide +kernel
theorem dX12_haveIn_46 : decode cX12_haveIn 46 = .ok (.bipush 87, 2) := by decide +kernel
theorem dX12_haveIn_48 : decode cX12_haveIn 48 = .ok (.iload 5, 2) := by decide +kernel
theorem dX12_haveIn_50 : decode cX12_haveIn 50 = .ok (.iadd, 1) := by decide +kernel
theorem dX12_haveIn_51 : decode cX12_haveIn 51 = .ok (.iaload, 1) := by decide +kernel
theorem dX12_haveIn_52 : decode cX12_haveIn 52 = .ok (.invokestatic 64, 3) := by decide +kernel
theorem dX12_haveIn_55 : decode cX12_haveIn 55 = .ok (.ifCond .eq 25, 3) := by decide +kernel
theorem dX12_haveIn_58 : decode cX12_haveIn 58 = .ok (.aload_n 0, 1) := by decide +kernel
theorem dX12_haveIn_59 : decode cX12_haveIn 59 = .ok (.getfield 7, 3) := by decide +kernel
theorem dX12_haveIn_62 : decode cX12_haveIn 62 = .ok (.bipush 67, 2) := by decide +kernel
theorem dX12_haveIn_64 : decode cX12_haveIn 64 = .ok (.iload 5, 2) := by decide +kernel
theorem dX12_haveIn_66 : decode cX12_haveIn 66 = .ok (.iadd, 1) := by decide +kernel
theorem dX12_haveIn_67 : decode cX12_haveIn 67 = .ok (.iaload, 1) := by decide +kernel
theorem dX12_haveIn_68 : decode cX12_haveIn 68 = .ok (.iload_n 2, 1) := by decide +kernel
theorem dX12_haveIn_69 : decode cX12_haveIn 69 = .ok (.ishr, 1) := by decide +kernel
theorem dX12_haveIn_70 : decode cX12_haveIn 70 = .ok (.iconst 1, 1) := by decide +kernel
theorem dX12_haveIn_71 : decode cX12_haveIn 71 = .ok (.iand, 1) := by decide +kernel
theorem dX12_haveIn_72 : decode cX12_haveIn 72 = .ok (.iconst 1, 1) := by decide +kernel
theorem dX12_haveIn_73 : decode cX12_haveIn 73 = .ok (.if_icmp .ne 7, 3) := by decide +kernel
theorem dX12_haveIn_76 : decode cX12_haveIn 76 = .ok (.iconst 1, 1) := by decide +kernel
theorem dX12_haveIn_77 : decode cX12_haveIn 77 = .ok (.goto 4, 3) := by decide +kernel
theorem dX12_haveIn_90 : decode cX12_haveIn 90 = .ok (.aload_n 0, 1) := by decide +kernel
theorem dX12_haveIn_91 : decode cX12_haveIn 91 = .ok (.iload 5, 2) := by decide +kernel
theorem dX12_haveIn_93 : decode cX12_haveIn 93 = .ok (.iload_n 3, 1) := by decide +kernel
theorem dX12_haveIn_94 : decode cX12_haveIn 94 = .ok (.invokevirtual 92, 3) := by decide +kernel
theorem dX12_haveIn_97 : decode cX12_haveIn 97 = .ok (.iload_n 1, 1) := by decide +kernel
theorem dX12_haveIn_98 : decode cX12_haveIn 98 = .ok (.if_icmp .ne 7, 3) := by decide +kernel
theorem dX12_haveIn_101 : decode cX12_haveIn 101 = .ok (.iconst 1, 1) := by decide +kernel
theorem dX12_haveIn_102 : decode cX12_haveIn 102 = .ok (.goto 4, 3) := by decide +kernel
set_option maxHeartbeats 8000000 in
set_option maxRecDepth 100000 in
theorem c_X12_haveIn (l : Launch) (g : kG) (sz : Nat) (z : Nat → Nat) (kp : Nat) (xs : Nat → Int32) (D : Nat → Int32) (x : Int32) (y : Int32) (w : Int32) (hDI : DI D) : kMi l g yX12_haveIn cX12_haveIn 7 (some .int) 4 0 0 [.ref (z 0), .int x, .int y, .int w] sz [(z 0, .inr (12, [.ref (z 1), .ref (z 2), .int (nI kp), .int (xs 0), .ref (z 3), .ref (z 4), .ref (z 5), .ref (z 6), .int (xs 1), .ref (z 7), .ref (z 8), .ref (z 9), .ref (z 10), .ref (z 11), .ref (z 12), .int (xs 2), .ref (z 13), .ref (z 14), .int (xs 3), .ref (z 15)])), (z 1, .inl (gI g, 461, .inl D))] (fun (r : Int32) (u : Unit) => True) (fun (u : Unit) => ([(z 0, .inr (12, [.ref (z 1), .ref (z 2), .int (nI kp), .int (xs 0), .ref (z 3), .ref (z 4), .ref (z 5), .ref (z 6), .int (xs 1), .ref (z 7), .ref (z 8), .ref (z 9), .ref (z 10), .ref (z 11), .ref (z 12), .int (xs 2), .ref (z 13), .ref (z 14), .int (xs 3), .ref (z 15)])), (z 1, .inl (gI g, 461, .inl D))] : va_W)) := by
  refine kMi.of (by decide) (Nat.le_of_ble_eq_true rfl) (fun p e s m below meth c A hx hb hr hml hown hts hlk hnm hKW hP hD hS hA ls hl => ?_)
  have hown : s.vm.findClass RX12 = some m.cls := hown
  have hl : lv_has ls 7 [(0, .ref (z 0)), (1, .int x), (2, .int y), (3, .int w)] := hl
  refine k_hide hP hS (fun H locs hP hS => ?_)
  refine lv_iconst (v := 0) hx hb dX12_haveIn_0 (by decide) ?_
  refine lv_istore (lv' := [(4, .int 0), (0, .ref (z 0)), (1, .int x), (2, .int y), (3, .int w)]) hx hb dX12_haveIn_1 hl (by decide) rfl (fun ls hl => ?_)
  refine lv_iconst (v := 0) hx hb dX12_haveIn_3 (by decide) ?_
  refine lv_istore (lv' := [(5, .int 0), (4, .int 0), (0, .ref (z 0)), (1, .int x), (2, .int y), (3, .int w)]) hx hb dX12_haveIn_4 hl (by decide) rfl (fun ls hl => ?_)
  have L6 : ∀ (n6 : Nat) (i : Nat) (x4 : Int32) (hfuel6 : 10 - i < n6) (hi : i ≤ 10) (H : Heap) (locs : List Loc) (hP : va_P g.1 vwCl [(z 0, .inr (12, [.ref (z 1), .ref (z 2), .int (nI kp), .int (xs 0), .ref (z 3), .ref (z 4), .ref (z 5), .ref (z 6), .int (xs 1), .ref (z 7), .ref (z 8), .ref (z 9), .ref (z 10), .ref (z 11), .ref (z 12), .int (xs 2), .ref (z 13), .ref (z 14), .int (xs 3), .ref (z 15)])), (z 1, .inl (gI g, 461, .inl D))] H) (hD : va_D A [(z 0, .inr (12, [.ref (z 1), .ref (z 2), .int (nI kp), .int (xs 0), .ref (z 3), .ref (z 4), .ref (z 5), .ref (z 6), .int (xs 1), .ref (z 7), .ref (z 8), .ref (z 9), .ref (z 10), .ref (z 11), .ref (z 12), .int (xs 2), .ref (z 13), .ref (z 14), .int (xs 3), .ref (z 15)])), (z 1, .inl (gI g, 461, .inl D))]) (hS : va_S A s.heap H locs) (ls : Array Slot) (hl : lv_has ls 7 [(5, .int (nI i)), (4, .int x4), (0, .ref (z 0)), (1, .int x), (2, .int y), (3, .int w)]), W p l e (kR 4 0 0) s m ([.ref (z 0), .int x, .int y, .int w] : List Value).toArray below meth c H locs 0 0 (kQi g A below ([.ref (z 0), .int x, .int y, .int w] : List Value).toArray s 0 0 (fun (r : Int32) (u : Unit) => True) (fun (u : Unit) => ([(z 0, .inr (12, [.ref (z 1), .ref (z 2), .int (nI kp), .int (xs 0), .ref (z 3), .ref (z 4), .ref (z 5), .ref (z 6), .int (xs 1), .ref (z 7), .ref (z 8), .ref (z 9), .ref (z 10), .ref (z 11), .ref (z 12), .int (xs 2), .ref (z 13), .ref (z 14), .int (xs 3), .ref (z 15)])), (z 1, .inl (gI g, 461, .inl D))] : va_W))) (F0 m 6 ls []) := by
    intro n6
    induction n6 with
    | zero => intro i x4 hfuel6; exact absurd hfuel6 (Nat.not_lt_zero _)
    | succ n6 ih6 =>
      intro i x4 hfuel6 hi H locs hP hD hS ls hl
      refine lv_iload hx hb dX12_haveIn_6 (lv_at hl 0 rfl) ?_
      refine lv_aload_n hx hb dX12_haveIn_8 rfl (lv_at hl 2 rfl) ?_
      refine va_get (ci := 12) (C := RX12) (T := TX12) (N := 20) hx hb hts inlX12 hown hKW.1 hP 0 rfl rfl 0 (by decide) (hts _ wd_6_5) (fun _ h => h) rfl dX12_haveIn_9 ?_
      refine lv_iconst (v := 2) hx hb dX12_haveIn_12 (by decide) ?_
      obtain ⟨dk_1, hdk_1a, hdk_1b, edk_1⟩ := DI.n2 hDI
      refine va_iald hx hb hKW.1 hP 1 0 rfl rfl (show ¬ _ by decide) dX12_haveIn_13 ?_
      refine k_top (y := nI dk_1) edk_1 ?_
      refine lv_icmp_ge (tgt := 115) hx hb dX12_haveIn_14 (by decide) (fun c_2 => ?_) (fun c_2 => ?_)
      · have c_2n : dk_1 ≤ i := (k_leI (a := dk_1) (b := i) (by omega) (by omega)).mp c_2
        refine lv_iload hx hb dX12_haveIn_115 (lv_at hl 1 rfl) ?_
        exact k_iret () [0, 1] hx hb hr hlk hP hD hS trivial rfl rfl rfl (Nat.le_of_ble_eq_true rfl) (Nat.le_of_ble_eq_true rfl) dX12_haveIn_117
      · have c_2n : i < dk_1 := Nat.not_le.mp (fun h => c_2 ((k_leI (a := dk_1) (b := i) (by omega) (by omega)).mpr h))
        refine lv_aload_n hx hb dX12_haveIn_17 rfl (lv_at hl 2 rfl) ?_
        refine va_get (ci := 12) (C := RX12) (T := TX12) (N := 20) hx hb hts inlX12 hown hKW.1 hP 0 rfl rfl 0 (by decide) (hts _ wd_6_5) (fun _ h => h) rfl dX12_haveIn_18 ?_
        refine lv_bipush (v := 117) hx hb dX12_haveIn_21 (by decide) ?_
        refine lv_iload hx hb dX12_haveIn_23 (lv_at hl 0 rfl) ?_
        refine lv_iadd hx hb dX12_haveIn_25 ?_
        refine k_top (y := nI (i + 117)) (by rw [Nat.add_comm]; exact nI_add 117 i) ?_
        refine va_iald hx hb hKW.1 hP 1 0 rfl rfl (vp_in_nI (by omega) (by decide)) dX12_haveIn_26 ?_
        refine lv_topi (fun x_3 ex_3 => ?_)
        refine lv_iconst (v := 1) hx hb dX12_haveIn_27 (by decide) ?_
        refine lv_icmp_ne (tgt := 80) hx hb dX12_haveIn_28 (by decide) (fun c_4 => ?_) (fun c_4 => ?_)
        · refine lv_iconst (v := 0) hx hb dX12_haveIn_80 (by decide) ?_
          refine lv_istore (lv' := [(6, .int 0), (5, .int (nI i)), (4, .int x4), (0, .ref (z 0)), (1, .int x), (2, .int y), (3, .int w)]) hx hb dX12_haveIn_81 hl (by decide) rfl (fun ls hl => ?_)
          refine lv_iload hx hb dX12_haveIn_83 (lv_at hl 2 rfl) ?_
          refine lv_iload hx hb dX12_haveIn_85 (lv_at hl 0 rfl) ?_
          refine lv_if_eq (tgt := 105) hx hb dX12_haveIn_87 (by decide) (fun _ => ?_) (fun c => absurd c (by decide))
          refine lv_iconst (v := 0) hx hb dX12_haveIn_105 (by decide) ?_
          refine lv_iadd hx hb dX12_haveIn_106 ?_
          refine lv_topi (fun x_5 ex_5 => ?_)
          refine lv_istore (lv' := [(4, .int x_5), (6, .int 0), (5, .int (nI i)), (0, .ref (z 0)), (1, .int x), (2, .int y), (3, .int w)]) hx hb dX12_haveIn_107 hl (by decide) rfl (fun ls hl => ?_)
          refine lv_iinc (v := nI (i + 1)) (lv' := [(5, .int (nI (i + 1))), (4, .int x_5), (6, .int 0), (0, .ref (z 0)), (1, .int x), (2, .int y), (3, .int w)]) hx hb dX12_haveIn_109 hl (k := 2) rfl (nI_add i 1) (by decide) rfl (fun ls hl => ?_)
          refine lv_goto (tgt := 6) hx hb dX12_haveIn_112 (by decide) ?_
          exact ih6 (i + 1) x_5 (by omega) (by first | assumption | omega) H locs (hP.sub [0, 1] rfl) (hD.sub [0, 1] (by decide) rfl) hS ls (lv_sub hl [0, 1, 3, 4, 5, 6] rfl)
        · refine lv_iload_n hx hb dX12_haveIn_31 rfl (lv_at hl 5 rfl) ?_
          refine lv_aload_n hx hb dX12_haveIn_32 rfl (lv_at hl 2 rfl) ?_
          refine va_get (ci := 12) (C := RX12) (T := TX12) (N := 20) hx hb hts inlX12 hown hKW.1 hP 0 rfl rfl 0 (by decide) (hts _ wd_6_5) (fun _ h => h) rfl dX12_haveIn_33 ?_
          refine lv_bipush (v := 77) hx hb dX12_haveIn_36 (by decide) ?_
          refine lv_iload hx hb dX12_haveIn_38 (lv_at hl 0 rfl) ?_
          refine lv_iadd hx hb dX12_haveIn_40 ?_
          refine k_top (y := nI (i + 77)) (by rw [Nat.add_comm]; exact nI_add 77 i) ?_
          refine va_iald hx hb hKW.1 hP 1 0 rfl rfl (vp_in_nI (by omega) (by decide)) dX12_haveIn_41 ?_
          refine lv_topi (fun x_6 ex_6 => ?_)
          refine lv_aload_n hx hb dX12_haveIn_42 rfl (lv_at hl 2 rfl) ?_
          refine va_get (ci := 12) (C := RX12) (T := TX12) (N := 20) hx hb hts inlX12 hown hKW.1 hP 0 rfl rfl 0 (by decide) (hts _ wd_6_5) (fun _ h => h) rfl dX12_haveIn_43 ?_
          refine lv_bipush (v := 87) hx hb dX12_haveIn_46 (by decide) ?_
          refine lv_iload hx hb dX12_haveIn_48 (lv_at hl 0 rfl) ?_
          refine lv_iadd hx hb dX12_haveIn_50 ?_
          refine k_top (y := nI (i + 87)) (by rw [Nat.add_comm]; exact nI_add 87 i) ?_
          refine va_iald hx hb hKW.1 hP 1 0 rfl rfl (vp_in_nI (by omega) (by decide)) dX12_haveIn_51 ?_
          refine lv_topi (fun x_7 ex_7 => ?_)
          refine k_Si [] [0, 1] (wr := [(z 0, .inr (12, [.ref (z 1), .ref (z 2), .int (nI kp), .int (xs 0), .ref (z 3), .ref (z 4), .ref (z 5), .ref (z 6), .int (xs 1), .ref (z 7), .ref (z 8), .ref (z 9), .ref (z 10), .ref (z 11), .ref (z 12), .int (xs 2), .ref (z 13), .ref (z 14), .int (xs 3), .ref (z 15)])), (z 1, .inl (gI g, 461, .inl D))]) hx hb hml hown hts hKW hP hD hS hA hl.1 (c_X12_isIn l g _ w x_6 x_7 ) wd_10_11 wd_1_5 wd_10_9 wd_10_10 yd_X12_isIn ⟨(Nat.le_of_ble_eq_true rfl), (Nat.le_of_ble_eq_true rfl)⟩ rfl rfl rfl rfl (by decide) rfl (Nat.le_of_ble_eq_true rfl) dX12_haveIn_52 ⟨(Nat.le_of_ble_eq_true rfl), (Nat.le_of_ble_eq_true rfl)⟩ (fun r_8 u_9 H locs hw_10 hP hD hS => ?_)
          have hP : va_P g.1 vwCl [(z 0, .inr (12, [.ref (z 1), .ref (z 2), .int (nI kp), .int (xs 0), .ref (z 3), .ref (z 4), .ref (z 5), .ref (z 6), .int (xs 1), .ref (z 7), .ref (z 8), .ref (z 9), .ref (z 10), .ref (z 11), .ref (z 12), .int (xs 2), .ref (z 13), .ref (z 14), .int (xs 3), .ref (z 15)])), (z 1, .inl (gI g, 461, .inl D))] H := hP
          have hD : va_D A [(z 0, .inr (12, [.ref (z 1), .ref (z 2), .int (nI kp), .int (xs 0), .ref (z 3), .ref (z 4), .ref (z 5), .ref (z 6), .int (xs 1), .ref (z 7), .ref (z 8), .ref (z 9), .ref (z 10), .ref (z 11), .ref (z 12), .int (xs 2), .ref (z 13), .ref (z 14), .int (xs 3), .ref (z 15)])), (z 1, .inl (gI g, 461, .inl D))] := hD
          rcases (show (r_8 = 1 ∧ (Int32.toInt x_6 ≤ Int32.toInt w ∧ Int32.toInt w ≤ Int32.toInt x_7)) ∨ (r_8 = 0 ∧ ¬ (Int32.toInt x_6 ≤ Int32.toInt w ∧ Int32.toInt w ≤ Int32.toInt x_7)) from hw_10) with ⟨rfl, hw_10b⟩ | ⟨rfl, hw_10b⟩ <;> clear hw_10
          · refine lv_if_eq (tgt := 80) hx hb dX12_haveIn_55 (by decide) (fun c => absurd c (by decide)) (fun _ => ?_)
            refine lv_aload_n hx hb dX12_haveIn_58 rfl (lv_at hl 2 rfl) ?_
            refine va_get (ci := 12) (C := RX12) (T := TX12) (N := 20) hx hb hts inlX12 hown hKW.1 hP 0 rfl rfl 0 (by decide) (hts _ wd_6_5) (fun _ h => h) rfl dX12_haveIn_59 ?_
            refine lv_bipush (v := 67) hx hb dX12_haveIn_62 (by decide) ?_
            refine lv_iload hx hb dX12_haveIn_64 (lv_at hl 0 rfl) ?_
            refine lv_iadd hx hb dX12_haveIn_66 ?_
            refine k_top (y := nI (i + 67)) (by rw [Nat.add_comm]; exact nI_add 67 i) ?_
            refine va_iald hx hb hKW.1 hP 1 0 rfl rfl (vp_in_nI (by omega) (by decide)) dX12_haveIn_67 ?_
            refine lv_topi (fun x_11 ex_11 => ?_)
            refine lv_iload_n hx hb dX12_haveIn_68 rfl (lv_at hl 4 rfl) ?_
            refine lv_ishr hx hb dX12_haveIn_69 ?_
            refine lv_topi (fun x_12 ex_12 => ?_)
            refine lv_iconst (v := 1) hx hb dX12_haveIn_70 (by decide) ?_
            refine lv_iand hx hb dX12_haveIn_71 ?_
            refine lv_topi (fun x_13 ex_13 => ?_)
            refine lv_iconst (v := 1) hx hb dX12_haveIn_72 (by decide) ?_
            refine lv_icmp_ne (tgt := 80) hx hb dX12_haveIn_73 (by decide) (fun c_14 => ?_) (fun c_14 => ?_)
            · refine lv_iconst (v := 0) hx hb dX12_haveIn_80 (by decide) ?_
              refine lv_istore (lv' := [(6, .int 0), (5, .int (nI i)), (4, .int x4), (0, .ref (z 0)), (1, .int x), (2, .int y), (3, .int w)]) hx hb dX12_haveIn_81 hl (by decide) rfl (fun ls hl => ?_)
              refine lv_iload hx hb dX12_haveIn_83 (lv_at hl 2 rfl) ?_
              refine lv_iload hx hb dX12_haveIn_85 (lv_at hl 0 rfl) ?_
              refine lv_if_eq (tgt := 105) hx hb dX12_haveIn_87 (by decide) (fun _ => ?_) (fun c => absurd c (by decide))
              refine lv_iconst (v := 0) hx hb dX12_haveIn_105 (by decide) ?_
              refine lv_iadd hx hb dX12_haveIn_106 ?_
              refine lv_topi (fun x_15 ex_15 => ?_)
              refine lv_istore (lv' := [(4, .int x_15), (6, .int 0), (5, .int (nI i)), (0, .ref (z 0)), (1, .int x), (2, .int y), (3, .int w)]) hx hb dX12_haveIn_107 hl (by decide) rfl (fun ls hl => ?_)
              refine lv_iinc (v := nI (i + 1)) (lv' := [(5, .int (nI (i + 1))), (4, .int x_15), (6, .int 0), (0, .ref (z 0)), (1, .int x), (2, .int y), (3, .int w)]) hx hb dX12_haveIn_109 hl (k := 2) rfl (nI_add i 1) (by decide) rfl (fun ls hl => ?_)
              refine lv_goto (tgt := 6) hx hb dX12_haveIn_112 (by decide) ?_
              exact ih6 (i + 1) x_15 (by omega) (by first | assumption | omega) H locs (hP.sub [0, 1] rfl) (hD.sub [0, 1] (by decide) rfl) hS ls (lv_sub hl [0, 1, 3, 4, 5, 6] rfl)
            · refine lv_iconst (v := 1) hx hb dX12_haveIn_76 (by decide) ?_
              refine lv_goto (tgt := 81) hx hb dX12_haveIn_77 (by decide) ?_
              refine lv_istore (lv' := [(6, .int 1), (5, .int (nI i)), (4, .int x4), (0, .ref (z 0)), (1, .int x), (2, .int y), (3, .int w)]) hx hb dX12_haveIn_81 hl (by decide) rfl (fun ls hl => ?_)
              refine lv_iload hx hb dX12_haveIn_83 (lv_at hl 2 rfl) ?_
              refine lv_iload hx hb dX12_haveIn_85 (lv_at hl 0 rfl) ?_
              refine lv_if_eq (tgt := 105) hx hb dX12_haveIn_87 (by decide) (fun c => absurd c (by decide)) (fun _ => ?_)
              refine lv_aload_n hx hb dX12_haveIn_90 rfl (lv_at hl 3 rfl) ?_
              refine lv_iload hx hb dX12_haveIn_91 (lv_at hl 1 rfl) ?_
              refine lv_iload_n hx hb dX12_haveIn_93 rfl (lv_at hl 6 rfl) ?_
              refine k_Vi [0, 1] [] 0 12 (wr := []) hx hb hml hown hts hKW hP hD hS hA hl.1 (c_X12_roomIn l g _ z kp xs D i w (by first | assumption | omega | decide) (by first | assumption | omega | decide)) rfl rfl rfl wd_15_19 wd_1_5 wd_15_16 wd_15_17 wd_15_18 yd_X12_roomIn ⟨(Nat.le_of_ble_eq_true rfl), (Nat.le_of_ble_eq_true rfl)⟩ rfl rfl rfl rfl (by decide) rfl (Nat.le_of_ble_eq_true rfl) dX12_haveIn_94 ⟨(Nat.le_of_ble_eq_true rfl), (Nat.le_of_ble_eq_true rfl)⟩ (fun r_16 u_17 H locs hw_18 hP hD hS => ?_)
              have hP : va_P g.1 vwCl [(z 0, .inr (12, [.ref (z 1), .ref (z 2), .int (nI kp), .int (xs 0), .ref (z 3), .ref (z 4), .ref (z 5), .ref (z 6), .int (xs 1), .ref (z 7), .ref (z 8), .ref (z 9), .ref (z 10), .ref (z 11), .ref (z 12), .int (xs 2), .ref (z 13), .ref (z 14), .int (xs 3), .ref (z 15)])), (z 1, .inl (gI g, 461, .inl D))] H := hP
              have hD : va_D A [(z 0, .inr (12, [.ref (z 1), .ref (z 2), .int (nI kp), .int (xs 0), .ref (z 3), .ref (z 4), .ref (z 5), .ref (z 6), .int (xs 1), .ref (z 7), .ref (z 8), .ref (z 9), .ref (z 10), .ref (z 11), .ref (z 12), .int (xs 2), .ref (z 13), .ref (z 14), .int (xs 3), .ref (z 15)])), (z 1, .inl (gI g, 461, .inl D))] := hD
              have hw_18 : r_16 = -1 ∨ ∃ k : Nat, k < 5 ∧ r_16 = nI k := hw_18
              refine lv_iload_n hx hb dX12_haveIn_97 rfl (lv_at hl 4 rfl) ?_
              refine lv_icmp_ne (tgt := 105) hx hb dX12_haveIn_98 (by decide) (fun c_19 => ?_) (fun c_19 => ?_)
              · refine lv_iconst (v := 0) hx hb dX12_haveIn_105 (by decide) ?_
                refine lv_iadd hx hb dX12_haveIn_106 ?_
                refine lv_topi (fun x_20 ex_20 => ?_)
                refine lv_istore (lv' := [(4, .int x_20), (6, .int 1), (5, .int (nI i)), (0, .ref (z 0)), (1, .int x), (2, .int y), (3, .int w)]) hx hb dX12_haveIn_107 hl (by decide) rfl (fun ls hl => ?_)
                refine lv_iinc (v := nI (i + 1)) (lv' := [(5, .int (nI (i + 1))), (4, .int x_20), (6, .int 1), (0, .ref (z 0)), (1, .int x), (2, .int y), (3, .int w)]) hx hb dX12_haveIn_109 hl (k := 2) rfl (nI_add i 1) (by decide) rfl (fun ls hl => ?_)
                refine lv_goto (tgt := 6) hx hb dX12_haveIn_112 (by decide) ?_
                exact ih6 (i + 1) x_20 (by omega) (by first | assumption | omega) H locs (hP.sub [0, 1] rfl) (hD.sub [0, 1] (by decide) rfl) hS ls (lv_sub hl [0, 1, 3, 4, 5, 6] rfl)
              · refine lv_iconst (v := 1) hx hb dX12_haveIn_101 (by decide) ?_
                refine lv_goto (tgt := 106) hx hb dX12_haveIn_102 (by decide) ?_
                refine lv_iadd hx hb dX12_haveIn_106 ?_
                refine lv_topi (fun x_21 ex_21 => ?_)
                refine lv_istore (lv' := [(4, .int x_21), (6, .int 1), (5, .int (nI i)), (0, .ref (z 0)), (1, .int x), (2, .int y), (3, .int w)]) hx hb dX12_haveIn_107 hl (by decide) rfl (fun ls hl => ?_)
                refine lv_iinc (v := nI (i + 1)) (lv' := [(5, .int (nI (i + 1))), (4, .int x_21), (6, .int 1), (0, .ref (z 0)), (1, .int x), (2, .int y), (3, .int w)]) hx hb dX12_haveIn_109 hl (k := 2) rfl (nI_add i 1) (by decide) rfl (fun ls hl => ?_)
                refine lv_goto (tgt := 6) hx hb dX12_haveIn_112 (by decide) ?_
                exact ih6 (i + 1) x_21 (by omega) (by first | assumption | omega) H locs (hP.sub [0, 1] rfl) (hD.sub [0, 1] (by decide) rfl) hS ls (lv_sub hl [0, 1, 3, 4, 5, 6] rfl)
          · refine lv_if_eq (tgt := 80) hx hb dX12_haveIn_55 (by decide) (fun _ => ?_) (fun c => absurd c (by decide))
            refine lv_iconst (v := 0) hx hb dX12_haveIn_80 (by decide) ?_
            refine lv_istore (lv' := [(6, .int 0), (5, .int (nI i)), (4, .int x4), (0, .ref (z 0)), (1, .int x), (2, .int y), (3, .int w)]) hx hb dX12_haveIn_81 hl (by decide) rfl (fun ls hl => ?_)
            refine lv_iload hx hb dX12_haveIn_83 (lv_at hl 2 rfl) ?_
            refine lv_iload hx hb dX12_haveIn_85 (lv_at hl 0 rfl) ?_
            refine lv_if_eq (tgt := 105) hx hb dX12_haveIn_87 (by decide) (fun _ => ?_) (fun c => absurd c (by decide))
            refine lv_iconst (v := 0) hx hb dX12_haveIn_105 (by decide) ?_
            refine lv_iadd hx hb dX12_haveIn_106 ?_
            refine lv_topi (fun x_22 ex_22 => ?_)
            refine lv_istore (lv' := [(4, .int x_22), (6, .int 0), (5, .int (nI i)), (0, .ref (z 0)), (1, .int x), (2, .int y), (3, .int w)]) hx hb dX12_haveIn_107 hl (by decide) rfl (fun ls hl => ?_)
            refine lv_iinc (v := nI (i + 1)) (lv' := [(5, .int (nI (i + 1))), (4, .int x_22), (6, .int 0), (0, .ref (z 0)), (1, .int x), (2, .int y), (3, .int w)]) hx hb dX12_haveIn_109 hl (k := 2) rfl (nI_add i 1) (by decide) rfl (fun ls hl => ?_)
            refine lv_goto (tgt := 6) hx hb dX12_haveIn_112 (by decide) ?_
            exact ih6 (i + 1) x_22 (by omega) (by first | assumption | omega) H locs (hP.sub [0, 1] rfl) (hD.sub [0, 1] (by decide) rfl) hS ls (lv_sub hl [0, 1, 3, 4, 5, 6] rfl)
  exact L6 (10 - 0 + 1) 0 0 (Nat.lt_succ_self _) (by first | assumption | omega) H locs (hP.sub [0, 1] rfl) (hD.sub [0, 1] (by decide) rfl) hS ls (lv_sub hl [0, 1, 2, 3, 4, 5] rfl)
