theorem k_lt {i N : Nat} (hN : N < 2 ^ 31) (hi : i ≤ N) (h : ¬ nI N ≤ nI i) : i < N := by
  rcases Nat.lt_or_ge i N with q | q
  · exact q
  · exact absurd (nI_le q (by omega)) h
theorem k_ge {i N : Nat} (hN : N < 2 ^ 31) (hi : i ≤ N) (h : nI N ≤ nI i) : N ≤ i := (nI_leI hN (by omega)).mp h
theorem k_nlt {i N : Nat} (hN : N < 2 ^ 31) (hi : i < 2 ^ 31) (h : ¬ nI i < nI N) : N ≤ i := by
  rcases Nat.lt_or_ge i N with q | q
  · exact absurd (nI_lt q hN) h
  · exact q
theorem k_beg {f f' : Nat → Int32} {i : Nat} {v : Int32} (hf : 1 ≤ i → f 0 = 0) (e : f' = upd f (nI i).toNatClampNeg v) (hi : i < 2 ^ 31) (hv : i = 0 → v = 0) : f' 0 = 0 := by
  rw [e, nI_clamp hi]
  rcases Nat.eq_zero_or_pos i with h0 | h0
  · rw [h0, pk_us]; exact hv h0
  · rw [pk_un (by omega)]; exact hf h0
theorem k_sub {a b : Nat} (h : b ≤ a) : nI a - nI b = nI (a - b) := by
  have h1 : nI a = nI (a - b) + nI b := by rw [nI_add, Nat.sub_add_cancel h]
  rw [h1, Int32.add_sub_cancel]
theorem k_upd0 {f f' : Nat → Int32} {i N : Nat} {v : Int32} (e : f' = upd f (nI i).toNatClampNeg v) (hi : i < 2 ^ 31) (hv : v = 0) (h : ∀ j, j < N → j ≠ i → f j = 0) : ∀ j, j < N → f' j = 0 := by
  intro j hj
  rw [e, nI_clamp hi]
  by_cases h1 : j = i
  · rw [h1, pk_us, hv]
  · rw [pk_un h1]; exact h j hj h1
theorem k_min24 {i : Nat} (h : i < 60) : ∃ k : Nat, k < 60 ∧ (if (24 : Int32) < nI i then 24 else nI i) = nI k := by
  by_cases c : (24 : Int32) < nI i
  · exact ⟨24, by omega, by rw [if_pos c]; rfl⟩
  · exact ⟨i, h, if_neg c⟩
theorem dX8_become_0 : decode cX8_become 0 = .ok (.aload_n 0, 1) := by decide +kernel
theorem dX8_become_1 : decode cX8_become 1 = .ok (.aload_n 1, 1) := by decide +kernel
theorem dX8_become_2 : decode cX8_become 2 = .ok (.getfield 21, 3) := by decide +kernel
theorem dX8_become_5 : decode cX8_become 5 = .ok (.putfield 21, 3) := by decide +kernel
theorem dX8_become_8 : decode cX8_become 8 = .ok (.aload_n 1, 1) := by decide +kernel
theorem dX8_become_9 : decode cX8_become 9 = .ok (.getfield 9, 3) := by decide +kernel
theorem dX8_become_12 : decode cX8_become 12 = .ok (.iconst 0, 1) := by decide +kernel
theorem dX8_become_13 : decode cX8_become 13 = .ok (.aload_n 0, 1) := by decide +kernel
theorem dX8_become_14 : decode cX8_become 14 = .ok (.getfield 9, 3) := by decide +kernel
theorem dX8_become_17 : decode cX8_become 17 = .ok (.iconst 0, 1) := by decide +kernel
theorem dX8_become_18 : decode cX8_become 18 = .ok (.iconst 5, 1) := by decide +kernel
theorem dX8_become_19 : decode cX8_become 19 = .ok (.invokestatic 25, 3) := by decide +kernel
theorem dX8_become_22 : decode cX8_become 22 = .ok (.aload_n 1, 1) := by decide +kernel
theorem dX8_become_23 : decode cX8_become 23 = .ok (.getfield 15, 3) := by decide +kernel
theorem dX8_become_26 : decode cX8_become 26 = .ok (.iconst 0, 1) := by decide +kernel
theorem dX8_become_27 : decode cX8_become 27 = .ok (.aload_n 0, 1) := by decide +kernel
theorem dX8_become_28 : decode cX8_become 28 = .ok (.getfield 15, 3) := by decide +kernel
theorem dX8_become_31 : decode cX8_become 31 = .ok (.iconst 0, 1) := by decide +kernel
theorem dX8_become_32 : decode cX8_become 32 = .ok (.iconst 5, 1) := by decide +kernel
theorem dX8_become_33 : decode cX8_become 33 = .ok (.invokestatic 25, 3) := by decide +kernel
theorem dX8_become_36 : decode cX8_become 36 = .ok (.aload_n 1, 1) := by decide +kernel
theorem dX8_become_37 : decode cX8_become 37 = .ok (.getfield 18, 3) := by decide +kernel
theorem dX8_become_40 : decode cX8_become 40 = .ok (.iconst 0, 1) := by decide +kernel
theorem dX8_become_41 : decode cX8_become 41 = .ok (.aload_n 0, 1) := by decide +kernel
theorem dX8_become_42 : decode cX8_become 42 = .ok (.getfield 18, 3) := by decide +kernel
theorem dX8_become_45 : decode cX8_become 45 = .ok (.iconst 0, 1) := by decide +kernel
theorem dX8_become_46 : decode cX8_become 46 = .ok (.iconst 5, 1) := by decide +kernel
theorem dX8_become_47 : decode cX8_become 47 = .ok (.invokestatic 25, 3) := by decide +kernel
theorem dX8_become_50 : decode cX8_become 50 = .ok (.return_, 1) := by decide +kernel
set_option maxHeartbeats 4000000 in
set_option maxRecDepth 100000 in
theorem c_X8_become (l : Launch) (g : kG) (sz : Nat) (a : Nat → Nat) (b : Nat → Nat) : kMv l g yX8_become cX8_become 2 none 1 0 0 [.ref (a 0), .ref (b 0)] sz [(a 0, .inr (8, [.int 0, .ref (a 1), .ref (a 2), .ref (a 3)])), (a 1, .inl (gI g, 5, .inl (fun _ => 0))), (a 2, .inl (gI g, 5, .inl (fun _ => 0))), (a 3, .inl (gI g, 5, .inl (fun _ => 0))), (b 0, .inr (8, [.int 0, .ref (b 1), .ref (b 2), .ref (b 3)])), (b 1, .inl (gI g, 5, .inl (fun _ => 0))), (b 2, .inl (gI g, 5, .inl (fun _ => 0))), (b 3, .inl (gI g, 5, .inl (fun _ => 0)))] (fun (u : Unit) => True) (fun (u : Unit) => ([(b 0, .inr (8, [.int 0, .ref (b 1), .ref (b 2), .ref (b 3)])), (b 1, .inl (gI g, 5, .inl (fun _ => 0))), (b 2, .inl (gI g, 5, .inl (fun _ => 0))), (b 3, .inl (gI g, 5, .inl (fun _ => 0)))] : va_W)) := by
  refine kMv.of (by decide) (Nat.le_of_ble_eq_true rfl) (fun p e s m below meth c A hx hb hr hml hown hts hlk hnm hKW hP hD hS hA ls hl => ?_)
  have hown : s.vm.findClass RX8 = some m.cls := hown
  have hl : lv_has ls 2 [(0, .ref (a 0)), (1, .ref (b 0))] := hl
  refine lv_aload_n hx hb dX8_become_0 rfl (lv_at hl 0 rfl) ?_
  refine lv_aload_n hx hb dX8_become_1 rfl (lv_at hl 1 rfl) ?_
  refine va_get (ci := 8) (C := RX8) (T := TX8) (N := 4) hx hb hts inlX8 hown hKW.1 hP 4 rfl rfl 0 (by decide) (hts _ wd_8_18) (fun _ h => h) rfl dX8_become_2 ?_
  refine va_put (ci := 8) (v := .int 0) (C := RX8) (T := TX8) (N := 4) hx hb hts inlX8 tyX8 tyX8_ok nmX8 hown hKW.1 hP hD hS 0 rfl rfl 0 (by decide) (hts _ wd_8_18) (fun _ h => h) rfl (tyX8_ok 0 (by decide)) rfl rfl (Nat.le_of_ble_eq_true rfl) dX8_become_5 (fun H locs hP hD hS => ?_)
  have hP : va_P g.1 vwCl [(a 0, .inr (8, [.int 0, .ref (a 1), .ref (a 2), .ref (a 3)])), (a 1, .inl (gI g, 5, .inl (fun _ => 0))), (a 2, .inl (gI g, 5, .inl (fun _ => 0))), (a 3, .inl (gI g, 5, .inl (fun _ => 0))), (b 0, .inr (8, [.int 0, .ref (b 1), .ref (b 2), .ref (b 3)])), (b 1, .inl (gI g, 5, .inl (fun _ => 0))), (b 2, .inl (gI g, 5, .inl (fun _ => 0))), (b 3, .inl (gI g, 5, .inl (fun _ => 0)))] H := hP
  have hD : va_D A [(a 0, .inr (8, [.int 0, .ref (a 1), .ref (a 2), .ref (a 3)])), (a 1, .inl (gI g, 5, .inl (fun _ => 0))), (a 2, .inl (gI g, 5, .inl (fun _ => 0))), (a 3, .inl (gI g, 5, .inl (fun _ => 0))), (b 0, .inr (8, [.int 0, .ref (b 1), .ref (b 2), .ref (b 3)])), (b 1, .inl (gI g, 5, .inl (fun _ => 0))), (b 2, .inl (gI g, 5, .inl (fun _ => 0))), (b 3, .inl (gI g, 5, .inl (fun _ => 0)))] := hD
  refine lv_aload_n hx hb dX8_become_8 rfl (lv_at hl 1 rfl) ?_
  refine va_get (ci := 8) (C := RX8) (T := TX8) (N := 4) hx hb hts inlX8 hown hKW.1 hP 4 rfl rfl 1 (by decide) (hts _ wd_3_19) (fun _ h => h) rfl dX8_become_9 ?_
  refine lv_iconst (v := 0) hx hb dX8_become_12 (by decide) ?_
  refine lv_aload_n hx hb dX8_become_13 rfl (lv_at hl 0 rfl) ?_
  refine va_get (ci := 8) (C := RX8) (T := TX8) (N := 4) hx hb hts inlX8 hown hKW.1 hP 0 rfl rfl 1 (by decide) (hts _ wd_3_19) (fun _ h => h) rfl dX8_become_14 ?_
  refine lv_iconst (v := 0) hx hb dX8_become_17 (by decide) ?_
  refine lv_iconst (v := 5) hx hb dX8_become_18 (by decide) ?_
  refine va_copyi hx hb (hml.trans hl.1.symm) hown (hts _ wd_8_19) (hts _ wd_8_9) (hts _ wd_8_10) (hts _ wd_8_11) hKW.1 hP hD hS 5 1 0 0 rfl rfl rfl rfl rfl (by decide) (by decide) (by decide) (by decide) (by decide) (fun _ _ => rfl) (Nat.le_of_ble_eq_true rfl) (Nat.le_of_ble_eq_true (by decide)) dX8_become_19 (fun H locs hP hD hS => ?_)
  have hP : va_P g.1 vwCl [(a 0, .inr (8, [.int 0, .ref (a 1), .ref (a 2), .ref (a 3)])), (a 1, .inl (gI g, 5, .inl (va_cpy (fun _ => 0) (fun _ => 0) 0 0 5))), (a 2, .inl (gI g, 5, .inl (fun _ => 0))), (a 3, .inl (gI g, 5, .inl (fun _ => 0))), (b 0, .inr (8, [.int 0, .ref (b 1), .ref (b 2), .ref (b 3)])), (b 1, .inl (gI g, 5, .inl (fun _ => 0))), (b 2, .inl (gI g, 5, .inl (fun _ => 0))), (b 3, .inl (gI g, 5, .inl (fun _ => 0)))] H := hP
  have hD : va_D A [(a 0, .inr (8, [.int 0, .ref (a 1), .ref (a 2), .ref (a 3)])), (a 1, .inl (gI g, 5, .inl (va_cpy (fun _ => 0) (fun _ => 0) 0 0 5))), (a 2, .inl (gI g, 5, .inl (fun _ => 0))), (a 3, .inl (gI g, 5, .inl (fun _ => 0))), (b 0, .inr (8, [.int 0, .ref (b 1), .ref (b 2), .ref (b 3)])), (b 1, .inl (gI g, 5, .inl (fun _ => 0))), (b 2, .inl (gI g, 5, .inl (fun _ => 0))), (b 3, .inl (gI g, 5, .inl (fun _ => 0)))] := hD
  obtain ⟨f_1, ef_1⟩ : ∃ zz_ : Nat → Int32, zz_ = va_cpy (fun _ => 0) (fun _ => 0) 0 0 5 := ⟨_, rfl⟩
  rw [← ef_1] at hP hD
  refine lv_aload_n hx hb dX8_become_22 rfl (lv_at hl 1 rfl) ?_
  refine va_get (ci := 8) (C := RX8) (T := TX8) (N := 4) hx hb hts inlX8 hown hKW.1 hP 4 rfl rfl 2 (by decide) (hts _ wd_3_20) (fun _ h => h) rfl dX8_become_23 ?_
  refine lv_iconst (v := 0) hx hb dX8_become_26 (by decide) ?_
  refine lv_aload_n hx hb dX8_become_27 rfl (lv_at hl 0 rfl) ?_
  refine va_get (ci := 8) (C := RX8) (T := TX8) (N := 4) hx hb hts inlX8 hown hKW.1 hP 0 rfl rfl 2 (by decide) (hts _ wd_3_20) (fun _ h => h) rfl dX8_become_28 ?_
  refine lv_iconst (v := 0) hx hb dX8_become_31 (by decide) ?_
  refine lv_iconst (v := 5) hx hb dX8_become_32 (by decide) ?_
  refine va_copyi hx hb (hml.trans hl.1.symm) hown (hts _ wd_8_19) (hts _ wd_8_9) (hts _ wd_8_10) (hts _ wd_8_11) hKW.1 hP hD hS 6 2 0 0 rfl rfl rfl rfl rfl (by decide) (by decide) (by decide) (by decide) (by decide) (fun _ _ => rfl) (Nat.le_of_ble_eq_true rfl) (Nat.le_of_ble_eq_true (by decide)) dX8_become_33 (fun H locs hP hD hS => ?_)
  have hP : va_P g.1 vwCl [(a 0, .inr (8, [.int 0, .ref (a 1), .ref (a 2), .ref (a 3)])), (a 1, .inl (gI g, 5, .inl f_1)), (a 2, .inl (gI g, 5, .inl (va_cpy (fun _ => 0) (fun _ => 0) 0 0 5))), (a 3, .inl (gI g, 5, .inl (fun _ => 0))), (b 0, .inr (8, [.int 0, .ref (b 1), .ref (b 2), .ref (b 3)])), (b 1, .inl (gI g, 5, .inl (fun _ => 0))), (b 2, .inl (gI g, 5, .inl (fun _ => 0))), (b 3, .inl (gI g, 5, .inl (fun _ => 0)))] H := hP
  have hD : va_D A [(a 0, .inr (8, [.int 0, .ref (a 1), .ref (a 2), .ref (a 3)])), (a 1, .inl (gI g, 5, .inl f_1)), (a 2, .inl (gI g, 5, .inl (va_cpy (fun _ => 0) (fun _ => 0) 0 0 5))), (a 3, .inl (gI g, 5, .inl (fun _ => 0))), (b 0, .inr (8, [.int 0, .ref (b 1), .ref (b 2), .ref (b 3)])), (b 1, .inl (gI g, 5, .inl (fun _ => 0))), (b 2, .inl (gI g, 5, .inl (fun _ => 0))), (b 3, .inl (gI g, 5, .inl (fun _ => 0)))] := hD
  obtain ⟨f_2, ef_2⟩ : ∃ zz_ : Nat → Int32, zz_ = va_cpy (fun _ => 0) (fun _ => 0) 0 0 5 := ⟨_, rfl⟩
  rw [← ef_2] at hP hD
  refine lv_aload_n hx hb dX8_become_36 rfl (lv_at hl 1 rfl) ?_
  refine va_get (ci := 8) (C := RX8) (T := TX8) (N := 4) hx hb hts inlX8 hown hKW.1 hP 4 rfl rfl 3 (by decide) (hts _ wd_3_21) (fun _ h => h) rfl dX8_become_37 ?_
  refine lv_iconst (v := 0) hx hb dX8_become_40 (by decide) ?_
  refine lv_aload_n hx hb dX8_become_41 rfl (lv_at hl 0 rfl) ?_
  refine va_get (ci := 8) (C := RX8) (T := TX8) (N := 4) hx hb hts inlX8 hown hKW.1 hP 0 rfl rfl 3 (by decide) (hts _ wd_3_21) (fun _ h => h) rfl dX8_become_42 ?_
  refine lv_iconst (v := 0) hx hb dX8_become_45 (by decide) ?_
  refine lv_iconst (v := 5) hx hb dX8_become_46 (by decide) ?_
  refine va_copyi hx hb (hml.trans hl.1.symm) hown (hts _ wd_8_19) (hts _ wd_8_9) (hts _ wd_8_10) (hts _ wd_8_11) hKW.1 hP hD hS 7 3 0 0 rfl rfl rfl rfl rfl (by decide) (by decide) (by decide) (by decide) (by decide) (fun _ _ => rfl) (Nat.le_of_ble_eq_true rfl) (Nat.le_of_ble_eq_true (by decide)) dX8_become_47 (fun H locs hP hD hS => ?_)
  have hP : va_P g.1 vwCl [(a 0, .inr (8, [.int 0, .ref (a 1), .ref (a 2), .ref (a 3)])), (a 1, .inl (gI g, 5, .inl f_1)), (a 2, .inl (gI g, 5, .inl f_2)), (a 3, .inl (gI g, 5, .inl (va_cpy (fun _ => 0) (fun _ => 0) 0 0 5))), (b 0, .inr (8, [.int 0, .ref (b 1), .ref (b 2), .ref (b 3)])), (b 1, .inl (gI g, 5, .inl (fun _ => 0))), (b 2, .inl (gI g, 5, .inl (fun _ => 0))), (b 3, .inl (gI g, 5, .inl (fun _ => 0)))] H := hP
  have hD : va_D A [(a 0, .inr (8, [.int 0, .ref (a 1), .ref (a 2), .ref (a 3)])), (a 1, .inl (gI g, 5, .inl f_1)), (a 2, .inl (gI g, 5, .inl f_2)), (a 3, .inl (gI g, 5, .inl (va_cpy (fun _ => 0) (fun _ => 0) 0 0 5))), (b 0, .inr (8, [.int 0, .ref (b 1), .ref (b 2), .ref (b 3)])), (b 1, .inl (gI g, 5, .inl (fun _ => 0))), (b 2, .inl (gI g, 5, .inl (fun _ => 0))), (b 3, .inl (gI g, 5, .inl (fun _ => 0)))] := hD
  obtain ⟨f_3, ef_3⟩ : ∃ zz_ : Nat → Int32, zz_ = va_cpy (fun _ => 0) (fun _ => 0) 0 0 5 := ⟨_, rfl⟩
  rw [← ef_3] at hP hD
  exact k_vret () [4, 5, 6, 7] hx hb hr hlk hP hD hS trivial rfl rfl rfl (Nat.le_of_ble_eq_true rfl) (Nat.le_of_ble_eq_true rfl) dX8_become_50
theorem dX1_become_0 : decode cX1_become 0 = .ok (.aload_n 0, 1) := by decide +kernel
theorem dX1_become_1 : decode cX1_become 1 = .ok (.aload_n 1, 1) := by decide +kernel
theorem dX1_become_2 : decode cX1_become 2 = .ok (.getfield 18, 3) := by decide +kernel
theorem dX1_become_5 : decode cX1_become 5 = .ok (.putfield 18, 3) := by decide +kernel
theorem dX1_become_8 : decode cX1_become 8 = .ok (.aload_n 1, 1) := by decide +kernel
theorem dX1_become_9 : decode cX1_become 9 = .ok (.getfield 9, 3) := by decide +kernel
theorem dX1_become_12 : decode cX1_become 12 = .ok (.iconst 0, 1) := by decide +kernel
theorem dX1_become_13 : decode cX1_become 13 = .ok (.aload_n 0, 1) := by decide +kernel
theorem dX1_become_14 : decode cX1_become 14 = .ok (.getfield 9, 3) := by decide +kernel
theorem dX1_become_17 : decode cX1_become 17 = .ok (.iconst 0, 1) := by decide +kernel
theorem dX1_become_18 : decode cX1_become 18 = .ok (.bipush 7, 2) := by decide +kernel
theorem dX1_become_20 : decode cX1_become 20 = .ok (.invokestatic 43, 3) := by decide +kernel
theorem dX1_become_23 : decode cX1_become 23 = .ok (.aload_n 1, 1) := by decide +kernel
theorem dX1_become_24 : decode cX1_become 24 = .ok (.getfield 15, 3) := by decide +kernel
theorem dX1_become_27 : decode cX1_become 27 = .ok (.iconst 0, 1) := by decide +kernel
theorem dX1_become_28 : decode cX1_become 28 = .ok (.aload_n 0, 1) := by decide +kernel
theorem dX1_become_29 : decode cX1_become 29 = .ok (.getfield 15, 3) := by decide +kernel
theorem dX1_become_32 : decode cX1_become 32 = .ok (.iconst 0, 1) := by decide +kernel
theorem dX1_become_33 : decode cX1_become 33 = .ok (.bipush 7, 2) := by decide +kernel
theorem dX1_become_35 : decode cX1_become 35 = .ok (.invokestatic 43, 3) := by decide +kernel
theorem dX1_become_38 : decode cX1_become 38 = .ok (.aload_n 0, 1) := by decide +kernel
theorem dX1_become_39 : decode cX1_become 39 = .ok (.aload_n 1, 1) := by decide +kernel
theorem dX1_become_40 : decode cX1_become 40 = .ok (.getfield 22, 3) := by decide +kernel
theorem dX1_become_43 : decode cX1_become 43 = .ok (.putfield 22, 3) := by decide +kernel
theorem dX1_become_46 : decode cX1_become 46 = .ok (.return_, 1) := by decide +kernel
set_option maxHeartbeats 4000000 in
set_option maxRecDepth 100000 in
theorem c_X1_become (l : Launch) (g : kG) (sz : Nat) (a : Nat → Nat) (b : Nat → Nat) : kMv l g yX1_become cX1_become 2 none 1 0 0 [.ref (a 0), .ref (b 0)] sz [(a 0, .inr (1, [.int 0, .ref (a 1), .ref (a 2), .int 0])), (a 1, .inl (gI g, 7, .inl (fun _ => 0))), (a 2, .inl (gI g, 7, .inl (fun _ => 0))), (b 0, .inr (1, [.int 0, .ref (b 1), .ref (b 2), .int 0])), (b 1, .inl (gI g, 7, .inl (fun _ => 0))), (b 2, .inl (gI g, 7, .inl (fun _ => 0)))] (fun (u : Unit) => True) (fun (u : Unit) => ([(b 0, .inr (1, [.int 0, .ref (b 1), .ref (b 2), .int 0])), (b 1, .inl (gI g, 7, .inl (fun _ => 0))), (b 2, .inl (gI g, 7, .inl (fun _ => 0)))] : va_W)) := by
  refine kMv.of (by decide) (Nat.le_of_ble_eq_true rfl) (fun p e s m below meth c A hx hb hr hml hown hts hlk hnm hKW hP hD hS hA ls hl => ?_)
  have hown : s.vm.findClass RX1 = some m.cls := hown
  have hl : lv_has ls 2 [(0, .ref (a 0)), (1, .ref (b 0))] := hl
  refine lv_aload_n hx hb dX1_become_0 rfl (lv_at hl 0 rfl) ?_
  refine lv_aload_n hx hb dX1_become_1 rfl (lv_at hl 1 rfl) ?_
  refine va_get (ci := 1) (C := RX1) (T := TX1) (N := 4) hx hb hts inlX1 hown hKW.1 hP 3 rfl rfl 0 (by decide) (hts _ wd_9_0) (fun _ h => h) rfl dX1_become_2 ?_
  refine va_put (ci := 1) (v := .int 0) (C := RX1) (T := TX1) (N := 4) hx hb hts inlX1 tyX1 tyX1_ok nmX1 hown hKW.1 hP hD hS 0 rfl rfl 0 (by decide) (hts _ wd_9_0) (fun _ h => h) rfl (tyX1_ok 0 (by decide)) rfl rfl (Nat.le_of_ble_eq_true rfl) dX1_become_5 (fun H locs hP hD hS => ?_)
  have hP : va_P g.1 vwCl [(a 0, .inr (1, [.int 0, .ref (a 1), .ref (a 2), .int 0])), (a 1, .inl (gI g, 7, .inl (fun _ => 0))), (a 2, .inl (gI g, 7, .inl (fun _ => 0))), (b 0, .inr (1, [.int 0, .ref (b 1), .ref (b 2), .int 0])), (b 1, .inl (gI g, 7, .inl (fun _ => 0))), (b 2, .inl (gI g, 7, .inl (fun _ => 0)))] H := hP
  have hD : va_D A [(a 0, .inr (1, [.int 0, .ref (a 1), .ref (a 2), .int 0])), (a 1, .inl (gI g, 7, .inl (fun _ => 0))), (a 2, .inl (gI g, 7, .inl (fun _ => 0))), (b 0, .inr (1, [.int 0, .ref (b 1), .ref (b 2), .int 0])), (b 1, .inl (gI g, 7, .inl (fun _ => 0))), (b 2, .inl (gI g, 7, .inl (fun _ => 0)))] := hD
  refine lv_aload_n hx hb dX1_become_8 rfl (lv_at hl 1 rfl) ?_
  refine va_get (ci := 1) (C := RX1) (T := TX1) (N := 4) hx hb hts inlX1 hown hKW.1 hP 3 rfl rfl 1 (by decide) (hts _ wd_4_1) (fun _ h => h) rfl dX1_become_9 ?_
  refine lv_iconst (v := 0) hx hb dX1_become_12 (by decide) ?_
  refine lv_aload_n hx hb dX1_become_13 rfl (lv_at hl 0 rfl) ?_
  refine va_get (ci := 1) (C := RX1) (T := TX1) (N := 4) hx hb hts inlX1 hown hKW.1 hP 0 rfl rfl 1 (by decide) (hts _ wd_4_1) (fun _ h => h) rfl dX1_become_14 ?_
  refine lv_iconst (v := 0) hx hb dX1_become_17 (by decide) ?_
  refine lv_bipush (v := 7) hx hb dX1_become_18 (by decide) ?_
  refine va_copyi hx hb (hml.trans hl.1.symm) hown (hts _ wd_9_1) (hts _ wd_8_9) (hts _ wd_8_10) (hts _ wd_8_11) hKW.1 hP hD hS 4 1 0 0 rfl rfl rfl rfl rfl (by decide) (by decide) (by decide) (by decide) (by decide) (fun _ _ => rfl) (Nat.le_of_ble_eq_true rfl) (Nat.le_of_ble_eq_true (by decide)) dX1_become_20 (fun H locs hP hD hS => ?_)
  have hP : va_P g.1 vwCl [(a 0, .inr (1, [.int 0, .ref (a 1), .ref (a 2), .int 0])), (a 1, .inl (gI g, 7, .inl (va_cpy (fun _ => 0) (fun _ => 0) 0 0 7))), (a 2, .inl (gI g, 7, .inl (fun _ => 0))), (b 0, .inr (1, [.int 0, .ref (b 1), .ref (b 2), .int 0])), (b 1, .inl (gI g, 7, .inl (fun _ => 0))), (b 2, .inl (gI g, 7, .inl (fun _ => 0)))] H := hP
  have hD : va_D A [(a 0, .inr (1, [.int 0, .ref (a 1), .ref (a 2), .int 0])), (a 1, .inl (gI g, 7, .inl (va_cpy (fun _ => 0) (fun _ => 0) 0 0 7))), (a 2, .inl (gI g, 7, .inl (fun _ => 0))), (b 0, .inr (1, [.int 0, .ref (b 1), .ref (b 2), .int 0])), (b 1, .inl (gI g, 7, .inl (fun _ => 0))), (b 2, .inl (gI g, 7, .inl (fun _ => 0)))] := hD
  obtain ⟨f_1, ef_1⟩ : ∃ zz_ : Nat → Int32, zz_ = va_cpy (fun _ => 0) (fun _ => 0) 0 0 7 := ⟨_, rfl⟩
  rw [← ef_1] at hP hD
  refine lv_aload_n hx hb dX1_become_23 rfl (lv_at hl 1 rfl) ?_
  refine va_get (ci := 1) (C := RX1) (T := TX1) (N := 4) hx hb hts inlX1 hown hKW.1 hP 3 rfl rfl 2 (by decide) (hts _ wd_4_2) (fun _ h => h) rfl dX1_become_24 ?_
  refine lv_iconst (v := 0) hx hb dX1_become_27 (by decide) ?_
  refine lv_aload_n hx hb dX1_become_28 rfl (lv_at hl 0 rfl) ?_
  refine va_get (ci := 1) (C := RX1) (T := TX1) (N := 4) hx hb hts inlX1 hown hKW.1 hP 0 rfl rfl 2 (by decide) (hts _ wd_4_2) (fun _ h => h) rfl dX1_become_29 ?_
  refine lv_iconst (v := 0) hx hb dX1_become_32 (by decide) ?_
  refine lv_bipush (v := 7) hx hb dX1_become_33 (by decide) ?_
  refine va_copyi hx hb (hml.trans hl.1.symm) hown (hts _ wd_9_1) (hts _ wd_8_9) (hts _ wd_8_10) (hts _ wd_8_11) hKW.1 hP hD hS 5 2 0 0 rfl rfl rfl rfl rfl (by decide) (by decide) (by decide) (by decide) (by decide) (fun _ _ => rfl) (Nat.le_of_ble_eq_true rfl) (Nat.le_of_ble_eq_true (by decide)) dX1_become_35 (fun H locs hP hD hS => ?_)
  have hP : va_P g.1 vwCl [(a 0, .inr (1, [.int 0, .ref (a 1), .ref (a 2), .int 0])), (a 1, .inl (gI g, 7, .inl f_1)), (a 2, .inl (gI g, 7, .inl (va_cpy (fun _ => 0) (fun _ => 0) 0 0 7))), (b 0, .inr (1, [.int 0, .ref (b 1), .ref (b 2), .int 0])), (b 1, .inl (gI g, 7, .inl (fun _ => 0))), (b 2, .inl (gI g, 7, .inl (fun _ => 0)))] H := hP
  have hD : va_D A [(a 0, .inr (1, [.int 0, .ref (a 1), .ref (a 2), .int 0])), (a 1, .inl (gI g, 7, .inl f_1)), (a 2, .inl (gI g, 7, .inl (va_cpy (fun _ => 0) (fun _ => 0) 0 0 7))), (b 0, .inr (1, [.int 0, .ref (b 1), .ref (b 2), .int 0])), (b 1, .inl (gI g, 7, .inl (fun _ => 0))), (b 2, .inl (gI g, 7, .inl (fun _ => 0)))] := hD
  obtain ⟨f_2, ef_2⟩ : ∃ zz_ : Nat → Int32, zz_ = va_cpy (fun _ => 0) (fun _ => 0) 0 0 7 := ⟨_, rfl⟩
  rw [← ef_2] at hP hD
  refine lv_aload_n hx hb dX1_become_38 rfl (lv_at hl 0 rfl) ?_
  refine lv_aload_n hx hb dX1_become_39 rfl (lv_at hl 1 rfl) ?_
  refine va_get (ci := 1) (C := RX1) (T := TX1) (N := 4) hx hb hts inlX1 hown hKW.1 hP 3 rfl rfl 3 (by decide) (hts _ wd_9_2) (fun _ h => h) rfl dX1_become_40 ?_
  refine va_put (ci := 1) (v := .int 0) (C := RX1) (T := TX1) (N := 4) hx hb hts inlX1 tyX1 tyX1_ok nmX1 hown hKW.1 hP hD hS 0 rfl rfl 3 (by decide) (hts _ wd_9_2) (fun _ h => h) rfl (tyX1_ok 3 (by decide)) rfl rfl (Nat.le_of_ble_eq_true rfl) dX1_become_43 (fun H locs hP hD hS => ?_)
  have hP : va_P g.1 vwCl [(a 0, .inr (1, [.int 0, .ref (a 1), .ref (a 2), .int 0])), (a 1, .inl (gI g, 7, .inl f_1)), (a 2, .inl (gI g, 7, .inl f_2)), (b 0, .inr (1, [.int 0, .ref (b 1), .ref (b 2), .int 0])), (b 1, .inl (gI g, 7, .inl (fun _ => 0))), (b 2, .inl (gI g, 7, .inl (fun _ => 0)))] H := hP
  have hD : va_D A [(a 0, .inr (1, [.int 0, .ref (a 1), .ref (a 2), .int 0])), (a 1, .inl (gI g, 7, .inl f_1)), (a 2, .inl (gI g, 7, .inl f_2)), (b 0, .inr (1, [.int 0, .ref (b 1), .ref (b 2), .int 0])), (b 1, .inl (gI g, 7, .inl (fun _ => 0))), (b 2, .inl (gI g, 7, .inl (fun _ => 0)))] := hD
  exact k_vret () [3, 4, 5] hx hb hr hlk hP hD hS trivial rfl rfl rfl (Nat.le_of_ble_eq_true rfl) (Nat.le_of_ble_eq_true rfl) dX1_become_46
theorem dX0_become_0 : decode cX0_become 0 = .ok (.aload_n 0, 1) := by decide +kernel
theorem dX0_become_1 : decode cX0_become 1 = .ok (.aload_n 1, 1) := by decide +kernel
theorem dX0_become_2 : decode cX0_become 2 = .ok (.getfield 36, 3) := by decide +kernel
theorem dX0_become_5 : decode cX0_become 5 = .ok (.putfield 36, 3) := by decide +kernel
theorem dX0_become_8 : decode cX0_become 8 = .ok (.aload_n 0, 1) := by decide +kernel
theorem dX0_become_9 : decode cX0_become 9 = .ok (.aload_n 1, 1) := by decide +kernel
theorem dX0_become_10 : decode cX0_become 10 = .ok (.getfield 69, 3) := by decide +kernel
theorem dX0_become_13 : decode cX0_become 13 = .ok (.putfield 69, 3) := by decide +kernel
theorem dX0_become_16 : decode cX0_become 16 = .ok (.aload_n 1, 1) := by decide +kernel
theorem dX0_become_17 : decode cX0_become 17 = .ok (.getfield 33, 3) := by decide +kernel
theorem dX0_become_20 : decode cX0_become 20 = .ok (.iconst 0, 1) := by decide +kernel
theorem dX0_become_21 : decode cX0_become 21 = .ok (.aload_n 0, 1) := by decide +kernel
theorem dX0_become_22 : decode cX0_become 22 = .ok (.getfield 33, 3) := by decide +kernel
theorem dX0_become_25 : decode cX0_become 25 = .ok (.iconst 0, 1) := by decide +kernel
theorem dX0_become_26 : decode cX0_become 26 = .ok (.bipush 10, 2) := by decide +kernel
theorem dX0_become_28 : decode cX0_become 28 = .ok (.invokestatic 84, 3) := by decide +kernel
theorem dX0_become_31 : decode cX0_become 31 = .ok (.aload_n 1, 1) := by decide +kernel
theorem dX0_become_32 : decode cX0_become 32 = .ok (.getfield 9, 3) := by decide +kernel
theorem dX0_become_35 : decode cX0_become 35 = .ok (.iconst 0, 1) := by decide +kernel
theorem dX0_become_36 : decode cX0_become 36 = .ok (.aload_n 0, 1) := by decide +kernel
theorem dX0_become_37 : decode cX0_become 37 = .ok (.getfield 9, 3) := by decide +kernel
theorem dX0_become_40 : decode cX0_become 40 = .ok (.iconst 0, 1) := by decide +kernel
theorem dX0_become_41 : decode cX0_become 41 = .ok (.bipush 10, 2) := by decide +kernel
theorem dX0_become_43 : decode cX0_become 43 = .ok (.invokestatic 84, 3) := by decide +kernel
theorem dX0_become_46 : decode cX0_become 46 = .ok (.aload_n 1, 1) := by decide +kernel
theorem dX0_become_47 : decode cX0_become 47 = .ok (.getfield 15, 3) := by decide +kernel
theorem dX0_become_50 : decode cX0_become 50 = .ok (.iconst 0, 1) := by decide +kernel
theorem dX0_become_51 : decode cX0_become 51 = .ok (.aload_n 0, 1) := by decide +kernel
theorem dX0_become_52 : decode cX0_become 52 = .ok (.getfield 15, 3) := by decide +kernel
theorem dX0_become_55 : decode cX0_become 55 = .ok (.iconst 0, 1) := by decide +kernel
theorem dX0_become_56 : decode cX0_become 56 = .ok (.bipush 10, 2) := by decide +kernel
theorem dX0_become_58 : decode cX0_become 58 = .ok (.invokestatic 84, 3) := by decide +kernel
theorem dX0_become_61 : decode cX0_become 61 = .ok (.aload_n 1, 1) := by decide +kernel
theorem dX0_become_62 : decode cX0_become 62 = .ok (.getfield 18, 3) := by decide +kernel
theorem dX0_become_65 : decode cX0_become 65 = .ok (.iconst 0, 1) := by decide +kernel
theorem dX0_become_66 : decode cX0_become 66 = .ok (.aload_n 0, 1) := by decide +kernel
theorem dX0_become_67 : decode cX0_become 67 = .ok (.getfield 18, 3) := by decide +kernel
theorem dX0_become_70 : decode cX0_become 70 = .ok (.iconst 0, 1) := by decide +kernel
theorem dX0_become_71 : decode cX0_become 71 = .ok (.bipush 10, 2) := by decide +kernel
theorem dX0_become_73 : decode cX0_become 73 = .ok (.invokestatic 84, 3) := by decide +kernel
theorem dX0_become_76 : decode cX0_become 76 = .ok (.aload_n 1, 1) := by decide +kernel
theorem dX0_become_77 : decode cX0_become 77 = .ok (.getfield 21, 3) := by decide +kernel
theorem dX0_become_80 : decode cX0_become 80 = .ok (.iconst 0, 1) := by decide +kernel
theorem dX0_become_81 : decode cX0_become 81 = .ok (.aload_n 0, 1) := by decide +kernel
theorem dX0_become_82 : decode cX0_become 82 = .ok (.getfield 21, 3) := by decide +kernel
theorem dX0_become_85 : decode cX0_become 85 = .ok (.iconst 0, 1) := by decide +kernel
theorem dX0_become_86 : decode cX0_become 86 = .ok (.bipush 10, 2) := by decide +kernel
theorem dX0_become_88 : decode cX0_become 88 = .ok (.invokestatic 84, 3) := by decide +kernel
theorem dX0_become_91 : decode cX0_become 91 = .ok (.aload_n 1, 1) := by decide +kernel
theorem dX0_become_92 : decode cX0_become 92 = .ok (.getfield 24, 3) := by decide +kernel
theorem dX0_become_95 : decode cX0_become 95 = .ok (.iconst 0, 1) := by decide +kernel
theorem dX0_become_96 : decode cX0_become 96 = .ok (.aload_n 0, 1) := by decide +kernel
theorem dX0_become_97 : decode cX0_become 97 = .ok (.getfield 24, 3) := by decide +kernel
theorem dX0_become_100 : decode cX0_become 100 = .ok (.iconst 0, 1) := by decide +kernel
theorem dX0_become_101 : decode cX0_become 101 = .ok (.bipush 10, 2) := by decide +kernel
theorem dX0_become_103 : decode cX0_become 103 = .ok (.invokestatic 84, 3) := by decide +kernel
theorem dX0_become_106 : decode cX0_become 106 = .ok (.aload_n 1, 1) := by decide +kernel
theorem dX0_become_107 : decode cX0_become 107 = .ok (.getfield 27, 3) := by decide +kernel
theorem dX0_become_110 : decode cX0_become 110 = .ok (.iconst 0, 1) := by decide +kernel
theorem dX0_become_111 : decode cX0_become 111 = .ok (.aload_n 0, 1) := by decide +kernel
theorem dX0_become_112 : decode cX0_become 112 = .ok (.getfield 27, 3) := by decide +kernel
theorem dX0_become_115 : decode cX0_become 115 = .ok (.iconst 0, 1) := by decide +kernel
theorem dX0_become_116 : decode cX0_become 116 = .ok (.bipush 10, 2) := by decide +kernel
theorem dX0_become_118 : decode cX0_become 118 = .ok (.invokestatic 84, 3) := by decide +kernel
theorem dX0_become_121 : decode cX0_become 121 = .ok (.aload_n 1, 1) := by decide +kernel
theorem dX0_become_122 : decode cX0_become 122 = .ok (.getfield 30, 3) := by decide +kernel
theorem dX0_become_125 : decode cX0_become 125 = .ok (.iconst 0, 1) := by decide +kernel
theorem dX0_become_126 : decode cX0_become 126 = .ok (.aload_n 0, 1) := by decide +kernel
theorem dX0_become_127 : decode cX0_become 127 = .ok (.getfield 30, 3) := by decide +kernel
theorem dX0_become_130 : decode cX0_become 130 = .ok (.iconst 0, 1) := by decide +kernel
theorem dX0_become_131 : decode cX0_become 131 = .ok (.bipush 10, 2) := by decide +kernel
theorem dX0_become_133 : decode cX0_become 133 = .ok (.invokestatic 84, 3) := by decide +kernel
theorem dX0_become_136 : decode cX0_become 136 = .ok (.aload_n 0, 1) := by decide +kernel
theorem dX0_become_137 : decode cX0_become 137 = .ok (.aload_n 1, 1) := by decide +kernel
theorem dX0_become_138 : decode cX0_become 138 = .ok (.getfield 40, 3) := by decide +kernel
theorem dX0_become_141 : decode cX0_become 141 = .ok (.putfield 40, 3) := by decide +kernel
theorem dX0_become_144 : decode cX0_become 144 = .ok (.aload_n 0, 1) := by decide +kernel
theorem dX0_become_145 : decode cX0_become 145 = .ok (.aload_n 1, 1) := by decide +kernel
theorem dX0_become_146 : decode cX0_become 146 = .ok (.getfield 47, 3) := by decide +kernel
theorem dX0_become_149 : decode cX0_become 149 = .ok (.putfield 47, 3) := by decide +kernel
theorem dX0_become_152 : decode cX0_become 152 = .ok (.return_, 1) := by decide +kernel
set_option maxHeartbeats 4000000 in
set_option maxRecDepth 100000 in
theorem c_X0_become (l : Launch) (g : kG) (sz : Nat) (a : Nat → Nat) (b : Nat → Nat) : kMv l g yX0_become cX0_become 2 none 1 0 0 [.ref (a 0), .ref (b 0)] sz [(a 0, .inr (0, [.int 0, .ref (a 1), .ref (a 2), .ref (a 3), .ref (a 4), .ref (a 5), .ref (a 6), .ref (a 7), .int 0, .int 0, .int 0, .ref (a 8)])), (a 1, .inl (gI g, 10, .inl (fun _ => 0))), (a 2, .inl (gI g, 10, .inl (fun _ => 0))), (a 3, .inl (gI g, 10, .inl (fun _ => 0))), (a 4, .inl (gI g, 10, .inl (fun _ => 0))), (a 5, .inl (gI g, 10, .inl (fun _ => 0))), (a 6, .inl (gI g, 10, .inl (fun _ => 0))), (a 7, .inl (gI g, 10, .inl (fun _ => 0))), (a 8, .inl (gI g, 10, .inl (fun _ => 0))), (b 0, .inr (0, [.int 0, .ref (b 1), .ref (b 2), .ref (b 3), .ref (b 4), .ref (b 5), .ref (b 6), .ref (b 7), .int 0, .int 0, .int 0, .ref (b 8)])), (b 1, .inl (gI g, 10, .inl (fun _ => 0))), (b 2, .inl (gI g, 10, .inl (fun _ => 0))), (b 3, .inl (gI g, 10, .inl (fun _ => 0))), (b 4, .inl (gI g, 10, .inl (fun _ => 0))), (b 5, .inl (gI g, 10, .inl (fun _ => 0))), (b 6, .inl (gI g, 10, .inl (fun _ => 0))), (b 7, .inl (gI g, 10, .inl (fun _ => 0))), (b 8, .inl (gI g, 10, .inl (fun _ => 0)))] (fun (u : Unit) => True) (fun (u : Unit) => ([(b 0, .inr (0, [.int 0, .ref (b 1), .ref (b 2), .ref (b 3), .ref (b 4), .ref (b 5), .ref (b 6), .ref (b 7), .int 0, .int 0, .int 0, .ref (b 8)])), (b 1, .inl (gI g, 10, .inl (fun _ => 0))), (b 2, .inl (gI g, 10, .inl (fun _ => 0))), (b 3, .inl (gI g, 10, .inl (fun _ => 0))), (b 4, .inl (gI g, 10, .inl (fun _ => 0))), (b 5, .inl (gI g, 10, .inl (fun _ => 0))), (b 6, .inl (gI g, 10, .inl (fun _ => 0))), (b 7, .inl (gI g, 10, .inl (fun _ => 0))), (b 8, .inl (gI g, 10, .inl (fun _ => 0)))] : va_W)) := by
  refine kMv.of (by decide) (Nat.le_of_ble_eq_true rfl) (fun p e s m below meth c A hx hb hr hml hown hts hlk hnm hKW hP hD hS hA ls hl => ?_)
  have hown : s.vm.findClass RX0 = some m.cls := hown
  have hl : lv_has ls 2 [(0, .ref (a 0)), (1, .ref (b 0))] := hl
  refine lv_aload_n hx hb dX0_become_0 rfl (lv_at hl 0 rfl) ?_
  refine lv_aload_n hx hb dX0_become_1 rfl (lv_at hl 1 rfl) ?_
  refine va_get (ci := 0) (C := RX0) (T := TX0) (N := 12) hx hb hts inlX0 hown hKW.1 hP 9 rfl rfl 0 (by decide) (hts _ wd_9_7) (fun _ h => h) rfl dX0_become_2 ?_
  refine va_put (ci := 0) (v := .int 0) (C := RX0) (T := TX0) (N := 12) hx hb hts inlX0 tyX0 tyX0_ok nmX0 hown hKW.1 hP hD hS 0 rfl rfl 0 (by decide) (hts _ wd_9_7) (fun _ h => h) rfl (tyX0_ok 0 (by decide)) rfl rfl (Nat.le_of_ble_eq_true rfl) dX0_become_5 (fun H locs hP hD hS => ?_)
  have hP : va_P g.1 vwCl [(a 0, .inr (0, [.int 0, .ref (a 1), .ref (a 2), .ref (a 3), .ref (a 4), .ref (a 5), .ref (a 6), .ref (a 7), .int 0, .int 0, .int 0, .ref (a 8)])), (a 1, .inl (gI g, 10, .inl (fun _ => 0))), (a 2, .inl (gI g, 10, .inl (fun _ => 0))), (a 3, .inl (gI g, 10, .inl (fun _ => 0))), (a 4, .inl (gI g, 10, .inl (fun _ => 0))), (a 5, .inl (gI g, 10, .inl (fun _ => 0))), (a 6, .inl (gI g, 10, .inl (fun _ => 0))), (a 7, .inl (gI g, 10, .inl (fun _ => 0))), (a 8, .inl (gI g, 10, .inl (fun _ => 0))), (b 0, .inr (0, [.int 0, .ref (b 1), .ref (b 2), .ref (b 3), .ref (b 4), .ref (b 5), .ref (b 6), .ref (b 7), .int 0, .int 0, .int 0, .ref (b 8)])), (b 1, .inl (gI g, 10, .inl (fun _ => 0))), (b 2, .inl (gI g, 10, .inl (fun _ => 0))), (b 3, .inl (gI g, 10, .inl (fun _ => 0))), (b 4, .inl (gI g, 10, .inl (fun _ => 0))), (b 5, .inl (gI g, 10, .inl (fun _ => 0))), (b 6, .inl (gI g, 10, .inl (fun _ => 0))), (b 7, .inl (gI g, 10, .inl (fun _ => 0))), (b 8, .inl (gI g, 10, .inl (fun _ => 0)))] H := hP
  have hD : va_D A [(a 0, .inr (0, [.int 0, .ref (a 1), .ref (a 2), .ref (a 3), .ref (a 4), .ref (a 5), .ref (a 6), .ref (a 7), .int 0, .int 0, .int 0, .ref (a 8)])), (a 1, .inl (gI g, 10, .inl (fun _ => 0))), (a 2, .inl (gI g, 10, .inl (fun _ => 0))), (a 3, .inl (gI g, 10, .inl (fun _ => 0))), (a 4, .inl (gI g, 10, .inl (fun _ => 0))), (a 5, .inl (gI g, 10, .inl (fun _ => 0))), (a 6, .inl (gI g, 10, .inl (fun _ => 0))), (a 7, .inl (gI g, 10, .inl (fun _ => 0))), (a 8, .inl (gI g, 10, .inl (fun _ => 0))), (b 0, .inr (0, [.int 0, .ref (b 1), .ref (b 2), .ref (b 3), .ref (b 4), .ref (b 5), .ref (b 6), .ref (b 7), .int 0, .int 0, .int 0, .ref (b 8)])), (b 1, .inl (gI g, 10, .inl (fun _ => 0))), (b 2, .inl (gI g, 10, .inl (fun _ => 0))), (b 3, .inl (gI g, 10, .inl (fun _ => 0))), (b 4, .inl (gI g, 10, .inl (fun _ => 0))), (b 5, .inl (gI g, 10, .inl (fun _ => 0))), (b 6, .inl (gI g, 10, .inl (fun _ => 0))), (b 7, .inl (gI g, 10, .inl (fun _ => 0))), (b 8, .inl (gI g, 10, .inl (fun _ => 0)))] := hD
  refine lv_aload_n hx hb dX0_become_8 rfl (lv_at hl 0 rfl) ?_
  refine lv_aload_n hx hb dX0_become_9 rfl (lv_at hl 1 rfl) ?_
  refine va_get (ci := 0) (C := RX0) (T := TX0) (N := 12) hx hb hts inlX0 hown hKW.1 hP 9 rfl rfl 10 (by decide) (hts _ wd_9_8) (fun _ h => h) rfl dX0_become_10 ?_
  refine va_put (ci := 0) (v := .int 0) (C := RX0) (T := TX0) (N := 12) hx hb hts inlX0 tyX0 tyX0_ok nmX0 hown hKW.1 hP hD hS 0 rfl rfl 10 (by decide) (hts _ wd_9_8) (fun _ h => h) rfl (tyX0_ok 10 (by decide)) rfl rfl (Nat.le_of_ble_eq_true rfl) dX0_become_13 (fun H locs hP hD hS => ?_)
  have hP : va_P g.1 vwCl [(a 0, .inr (0, [.int 0, .ref (a 1), .ref (a 2), .ref (a 3), .ref (a 4), .ref (a 5), .ref (a 6), .ref (a 7), .int 0, .int 0, .int 0, .ref (a 8)])), (a 1, .inl (gI g, 10, .inl (fun _ => 0))), (a 2, .inl (gI g, 10, .inl (fun _ => 0))), (a 3, .inl (gI g, 10, .inl (fun _ => 0))), (a 4, .inl (gI g, 10, .inl (fun _ => 0))), (a 5, .inl (gI g, 10, .inl (fun _ => 0))), (a 6, .inl (gI g, 10, .inl (fun _ => 0))), (a 7, .inl (gI g, 10, .inl (fun _ => 0))), (a 8, .inl (gI g, 10, .inl (fun _ => 0))), (b 0, .inr (0, [.int 0, .ref (b 1), .ref (b 2), .ref (b 3), .ref (b 4), .ref (b 5), .ref (b 6), .ref (b 7), .int 0, .int 0, .int 0, .ref (b 8)])), (b 1, .inl (gI g, 10, .inl (fun _ => 0))), (b 2, .inl (gI g, 10, .inl (fun _ => 0))), (b 3, .inl (gI g, 10, .inl (fun _ => 0))), (b 4, .inl (gI g, 10, .inl (fun _ => 0))), (b 5, .inl (gI g, 10, .inl (fun _ => 0))), (b 6, .inl (gI g, 10, .inl (fun _ => 0))), (b 7, .inl (gI g, 10, .inl (fun _ => 0))), (b 8, .inl (gI g, 10, .inl (fun _ => 0)))] H := hP
  have hD : va_D A [(a 0, .inr (0, [.int 0, .ref (a 1), .ref (a 2), .ref (a 3), .ref (a 4), .ref (a 5), .ref (a 6), .ref (a 7), .int 0, .int 0, .int 0, .ref (a 8)])), (a 1, .inl (gI g, 10, .inl (fun _ => 0))), (a 2, .inl (gI g, 10, .inl (fun _ => 0))), (a 3, .inl (gI g, 10, .inl (fun _ => 0))), (a 4, .inl (gI g, 10, .inl (fun _ => 0))), (a 5, .inl (gI g, 10, .inl (fun _ => 0))), (a 6, .inl (gI g, 10, .inl (fun _ => 0))), (a 7, .inl (gI g, 10, .inl (fun _ => 0))), (a 8, .inl (gI g, 10, .inl (fun _ => 0))), (b 0, .inr (0, [.int 0, .ref (b 1), .ref (b 2), .ref (b 3), .ref (b 4), .ref (b 5), .ref (b 6), .ref (b 7), .int 0, .int 0, .int 0, .ref (b 8)])), (b 1, .inl (gI g, 10, .inl (fun _ => 0))), (b 2, .inl (gI g, 10, .inl (fun _ => 0))), (b 3, .inl (gI g, 10, .inl (fun _ => 0))), (b 4, .inl (gI g, 10, .inl (fun _ => 0))), (b 5, .inl (gI g, 10, .inl (fun _ => 0))), (b 6, .inl (gI g, 10, .inl (fun _ => 0))), (b 7, .inl (gI g, 10, .inl (fun _ => 0))), (b 8, .inl (gI g, 10, .inl (fun _ => 0)))] := hD
  refine lv_aload_n hx hb dX0_become_16 rfl (lv_at hl 1 rfl) ?_
  refine va_get (ci := 0) (C := RX0) (T := TX0) (N := 12) hx hb hts inlX0 hown hKW.1 hP 9 rfl rfl 11 (by decide) (hts _ wd_4_13) (fun _ h => h) rfl dX0_become_17 ?_
  refine lv_iconst (v := 0) hx hb dX0_become_20 (by decide) ?_
  refine lv_aload_n hx hb dX0_become_21 rfl (lv_at hl 0 rfl) ?_
  refine va_get (ci := 0) (C := RX0) (T := TX0) (N := 12) hx hb hts inlX0 hown hKW.1 hP 0 rfl rfl 11 (by decide) (hts _ wd_4_13) (fun _ h => h) rfl dX0_become_22 ?_
  refine lv_iconst (v := 0) hx hb dX0_become_25 (by decide) ?_
  refine lv_bipush (v := 10) hx hb dX0_become_26 (by decide) ?_
  refine va_copyi hx hb (hml.trans hl.1.symm) hown (hts _ wd_9_9) (hts _ wd_8_9) (hts _ wd_8_10) (hts _ wd_8_11) hKW.1 hP hD hS 17 8 0 0 rfl rfl rfl rfl rfl (by decide) (by decide) (by decide) (by decide) (by decide) (fun _ _ => rfl) (Nat.le_of_ble_eq_true rfl) (Nat.le_of_ble_eq_true (by decide)) dX0_become_28 (fun H locs hP hD hS => ?_)
  have hP : va_P g.1 vwCl [(a 0, .inr (0, [.int 0, .ref (a 1), .ref (a 2), .ref (a 3), .ref (a 4), .ref (a 5), .ref (a 6), .ref (a 7), .int 0, .int 0, .int 0, .ref (a 8)])), (a 1, .inl (gI g, 10, .inl (fun _ => 0))), (a 2, .inl (gI g, 10, .inl (fun _ => 0))), (a 3, .inl (gI g, 10, .inl (fun _ => 0))), (a 4, .inl (gI g, 10, .inl (fun _ => 0))), (a 5, .inl (gI g, 10, .inl (fun _ => 0))), (a 6, .inl (gI g, 10, .inl (fun _ => 0))), (a 7, .inl (gI g, 10, .inl (fun _ => 0))), (a 8, .inl (gI g, 10, .inl (va_cpy (fun _ => 0) (fun _ => 0) 0 0 10))), (b 0, .inr (0, [.int 0, .ref (b 1), .ref (b 2), .ref (b 3), .ref (b 4), .ref (b 5), .ref (b 6), .ref (b 7), .int 0, .int 0, .int 0, .ref (b 8)])), (b 1, .inl (gI g, 10, .inl (fun _ => 0))), (b 2, .inl (gI g, 10, .inl (fun _ => 0))), (b 3, .inl (gI g, 10, .inl (fun _ => 0))), (b 4, .inl (gI g, 10, .inl (fun _ => 0))), (b 5, .inl (gI g, 10, .inl (fun _ => 0))), (b 6, .inl (gI g, 10, .inl (fun _ => 0))), (b 7, .inl (gI g, 10, .inl (fun _ => 0))), (b 8, .inl (gI g, 10, .inl (fun _ => 0)))] H := hP
  have hD : va_D A [(a 0, .inr (0, [.int 0, .ref (a 1), .ref (a 2), .ref (a 3), .ref (a 4), .ref (a 5), .ref (a 6), .ref (a 7), .int 0, .int 0, .int 0, .ref (a 8)])), (a 1, .inl (gI g, 10, .inl (fun _ => 0))), (a 2, .inl (gI g, 10, .inl (fun _ => 0))), (a 3, .inl (gI g, 10, .inl (fun _ => 0))), (a 4, .inl (gI g, 10, .inl (fun _ => 0))), (a 5, .inl (gI g, 10, .inl (fun _ => 0))), (a 6, .inl (gI g, 10, .inl (fun _ => 0))), (a 7, .inl (gI g, 10, .inl (fun _ => 0))), (a 8, .inl (gI g, 10, .inl (va_cpy (fun _ => 0) (fun _ => 0) 0 0 10))), (b 0, .inr (0, [.int 0, .ref (b 1), .ref (b 2), .ref (b 3), .ref (b 4), .ref (b 5), .ref (b 6), .ref (b 7), .int 0, .int 0, .int 0, .ref (b 8)])), (b 1, .inl (gI g, 10, .inl (fun _ => 0))), (b 2, .inl (gI g, 10, .inl (fun _ => 0))), (b 3, .inl (gI g, 10, .inl (fun _ => 0))), (b 4, .inl (gI g, 10, .inl (fun _ => 0))), (b 5, .inl (gI g, 10, .inl (fun _ => 0))), (b 6, .inl (gI g, 10, .inl (fun _ => 0))), (b 7, .inl (gI g, 10, .inl (fun _ => 0))), (b 8, .inl (gI g, 10, .inl (fun _ => 0)))] := hD
  obtain ⟨f_1, ef_1⟩ : ∃ zz_ : Nat → Int32, zz_ = va_cpy (fun _ => 0) (fun _ => 0) 0 0 10 := ⟨_, rfl⟩
  rw [← ef_1] at hP hD
  refine lv_aload_n hx hb dX0_become_31 rfl (lv_at hl 1 rfl) ?_
  refine va_get (ci := 0) (C := RX0) (T := TX0) (N := 12) hx hb hts inlX0 hown hKW.1 hP 9 rfl rfl 1 (by decide) (hts _ wd_4_6) (fun _ h => h) rfl dX0_become_32 ?_
  refine lv_iconst (v := 0) hx hb dX0_become_35 (by decide) ?_
  refine lv_aload_n hx hb dX0_become_36 rfl (lv_at hl 0 rfl) ?_
  refine va_get (ci := 0) (C := RX0) (T := TX0) (N := 12) hx hb hts inlX0 hown hKW.1 hP 0 rfl rfl 1 (by decide) (hts _ wd_4_6) (fun _ h => h) rfl dX0_become_37 ?_
  refine lv_iconst (v := 0) hx hb dX0_become_40 (by decide) ?_
  refine lv_bipush (v := 10) hx hb dX0_become_41 (by decide) ?_
  refine va_copyi hx hb (hml.trans hl.1.symm) hown (hts _ wd_9_9) (hts _ wd_8_9) (hts _ wd_8_10) (hts _ wd_8_11) hKW.1 hP hD hS 10 1 0 0 rfl rfl rfl rfl rfl (by decide) (by decide) (by decide) (by decide) (by decide) (fun _ _ => rfl) (Nat.le_of_ble_eq_true rfl) (Nat.le_of_ble_eq_true (by decide)) dX0_become_43 (fun H locs hP hD hS => ?_)
  have hP : va_P g.1 vwCl [(a 0, .inr (0, [.int 0, .ref (a 1), .ref (a 2), .ref (a 3), .ref (a 4), .ref (a 5), .ref (a 6), .ref (a 7), .int 0, .int 0, .int 0, .ref (a 8)])), (a 1, .inl (gI g, 10, .inl (va_cpy (fun _ => 0) (fun _ => 0) 0 0 10))), (a 2, .inl (gI g, 10, .inl (fun _ => 0))), (a 3, .inl (gI g, 10, .inl (fun _ => 0))), (a 4, .inl (gI g, 10, .inl (fun _ => 0))), (a 5, .inl (gI g, 10, .inl (fun _ => 0))), (a 6, .inl (gI g, 10, .inl (fun _ => 0))), (a 7, .inl (gI g, 10, .inl (fun _ => 0))), (a 8, .inl (gI g, 10, .inl f_1)), (b 0, .inr (0, [.int 0, .ref (b 1), .ref (b 2), .ref (b 3), .ref (b 4), .ref (b 5), .ref (b 6), .ref (b 7), .int 0, .int 0, .int 0, .ref (b 8)])), (b 1, .inl (gI g, 10, .inl (fun _ => 0))), (b 2, .inl (gI g, 10, .inl (fun _ => 0))), (b 3, .inl (gI g, 10, .inl (fun _ => 0))), (b 4, .inl (gI g, 10, .inl (fun _ => 0))), (b 5, .inl (gI g, 10, .inl (fun _ => 0))), (b 6, .inl (gI g, 10, .inl (fun _ => 0))), (b 7, .inl (gI g, 10, .inl (fun _ => 0))), (b 8, .inl (gI g, 10, .inl (fun _ => 0)))] H := hP
  have hD : va_D A [(a 0, .inr (0, [.int 0, .ref (a 1), .ref (a 2), .ref (a 3), .ref (a 4), .ref (a 5), .ref (a 6), .ref (a 7), .int 0, .int 0, .int 0, .ref (a 8)])), (a 1, .inl (gI g, 10, .inl (va_cpy (fun _ => 0) (fun _ => 0) 0 0 10))), (a 2, .inl (gI g, 10, .inl (fun _ => 0))), (a 3, .inl (gI g, 10, .inl (fun _ => 0))), (a 4, .inl (gI g, 10, .inl (fun _ => 0))), (a 5, .inl (gI g, 10, .inl (fun _ => 0))), (a 6, .inl (gI g, 10, .inl (fun _ => 0))), (a 7, .inl (gI g, 10, .inl (fun _ => 0))), (a 8, .inl (gI g, 10, .inl f_1)), (b 0, .inr (0, [.int 0, .ref (b 1), .ref (b 2), .ref (b 3), .ref (b 4), .ref (b 5), .ref (b 6), .ref (b 7), .int 0, .int 0, .int 0, .ref (b 8)])), (b 1, .inl (gI g, 10, .inl (fun _ => 0))), (b 2, .inl (gI g, 10, .inl (fun _ => 0))), (b 3, .inl (gI g, 10, .inl (fun _ => 0))), (b 4, .inl (gI g, 10, .inl (fun _ => 0))), (b 5, .inl (gI g, 10, .inl (fun _ => 0))), (b 6, .inl (gI g, 10, .inl (fun _ => 0))), (b 7, .inl (gI g, 10, .inl (fun _ => 0))), (b 8, .inl (gI g, 10, .inl (fun _ => 0)))] := hD
  obtain ⟨f_2, ef_2⟩ : ∃ zz_ : Nat → Int32, zz_ = va_cpy (fun _ => 0) (fun _ => 0) 0 0 10 := ⟨_, rfl⟩
  rw [← ef_2] at hP hD
  refine lv_aload_n hx hb dX0_become_46 rfl (lv_at hl 1 rfl) ?_
  refine va_get (ci := 0) (C := RX0) (T := TX0) (N := 12) hx hb hts inlX0 hown hKW.1 hP 9 rfl rfl 2 (by decide) (hts _ wd_4_7) (fun _ h => h) rfl dX0_become_47 ?_
  refine lv_iconst (v := 0) hx hb dX0_become_50 (by decide) ?_
  refine lv_aload_n hx hb dX0_become_51 rfl (lv_at hl 0 rfl) ?_
  refine va_get (ci := 0) (C := RX0) (T := TX0) (N := 12) hx hb hts inlX0 hown hKW.1 hP 0 rfl rfl 2 (by decide) (hts _ wd_4_7) (fun _ h => h) rfl dX0_become_52 ?_
  refine lv_iconst (v := 0) hx hb dX0_become_55 (by decide) ?_
  refine lv_bipush (v := 10) hx hb dX0_become_56 (by decide) ?_
  refine va_copyi hx hb (hml.trans hl.1.symm) hown (hts _ wd_9_9) (hts _ wd_8_9) (hts _ wd_8_10) (hts _ wd_8_11) hKW.1 hP hD hS 11 2 0 0 rfl rfl rfl rfl rfl (by decide) (by decide) (by decide) (by decide) (by decide) (fun _ _ => rfl) (Nat.le_of_ble_eq_true rfl) (Nat.le_of_ble_eq_true (by decide)) dX0_become_58 (fun H locs hP hD hS => ?_)
  have hP : va_P g.1 vwCl [(a 0, .inr (0, [.int 0, .ref (a 1), .ref (a 2), .ref (a 3), .ref (a 4), .ref (a 5), .ref (a 6), .ref (a 7), .int 0, .int 0, .int 0, .ref (a 8)])), (a 1, .inl (gI g, 10, .inl f_2)), (a 2, .inl (gI g, 10, .inl (va_cpy (fun _ => 0) (fun _ => 0) 0 0 10))), (a 3, .inl (gI g, 10, .inl (fun _ => 0))), (a 4, .inl (gI g, 10, .inl (fun _ => 0))), (a 5, .inl (gI g, 10, .inl (fun _ => 0))), (a 6, .inl (gI g, 10, .inl (fun _ => 0))), (a 7, .inl (gI g, 10, .inl (fun _ => 0))), (a 8, .inl (gI g, 10, .inl f_1)), (b 0, .inr (0, [.int 0, .ref (b 1), .ref (b 2), .ref (b 3), .ref (b 4), .ref (b 5), .ref (b 6), .ref (b 7), .int 0, .int 0, .int 0, .ref (b 8)])), (b 1, .inl (gI g, 10, .inl (fun _ => 0))), (b 2, .inl (gI g, 10, .inl (fun _ => 0))), (b 3, .inl (gI g, 10, .inl (fun _ => 0))), (b 4, .inl (gI g, 10, .inl (fun _ => 0))), (b 5, .inl (gI g, 10, .inl (fun _ => 0))), (b 6, .inl (gI g, 10, .inl (fun _ => 0))), (b 7, .inl (gI g, 10, .inl (fun _ => 0))), (b 8, .inl (gI g, 10, .inl (fun _ => 0)))] H := hP
  have hD : va_D A [(a 0, .inr (0, [.int 0, .ref (a 1), .ref (a 2), .ref (a 3), .ref (a 4), .ref (a 5), .ref (a 6), .ref (a 7), .int 0, .int 0, .int 0, .ref (a 8)])), (a 1, .inl (gI g, 10, .inl f_2)), (a 2, .inl (gI g, 10, .inl (va_cpy (fun _ => 0) (fun _ => 0) 0 0 10))), (a 3, .inl (gI g, 10, .inl (fun _ => 0))), (a 4, .inl (gI g, 10, .inl (fun _ => 0))), (a 5, .inl (gI g, 10, .inl (fun _ => 0))), (a 6, .inl (gI g, 10, .inl (fun _ => 0))), (a 7, .inl (gI g, 10, .inl (fun _ => 0))), (a 8, .inl (gI g, 10, .inl f_1)), (b 0, .inr (0, [.int 0, .ref (b 1), .ref (b 2), .ref (b 3), .ref (b 4), .ref (b 5), .ref (b 6), .ref (b 7), .int 0, .int 0, .int 0, .ref (b 8)])), (b 1, .inl (gI g, 10, .inl (fun _ => 0))), (b 2, .inl (gI g, 10, .inl (fun _ => 0))), (b 3, .inl (gI g, 10, .inl (fun _ => 0))), (b 4, .inl (gI g, 10, .inl (fun _ => 0))), (b 5, .inl (gI g, 10, .inl (fun _ => 0))), (b 6, .inl (gI g, 10, .inl (fun _ => 0))), (b 7, .inl (gI g, 10, .inl (fun _ => 0))), (b 8, .inl (gI g, 10, .inl (fun _ => 0)))] := hD
  obtain ⟨f_3, ef_3⟩ : ∃ zz_ : Nat → Int32, zz_ = va_cpy (fun _ => 0) (fun _ => 0) 0 0 10 := ⟨_, rfl⟩
  rw [← ef_3] at hP hD
  refine lv_aload_n hx hb dX0_become_61 rfl (lv_at hl 1 rfl) ?_
  refine va_get (ci := 0) (C := RX0) (T := TX0) (N := 12) hx hb hts inlX0 hown hKW.1 hP 9 rfl rfl 3 (by decide) (hts _ wd_4_8) (fun _ h => h) rfl dX0_become_62 ?_
  refine lv_iconst (v := 0) hx hb dX0_become_65 (by decide) ?_
  refine lv_aload_n hx hb dX0_become_66 rfl (lv_at hl 0 rfl) ?_
  refine va_get (ci := 0) (C := RX0) (T := TX0) (N := 12) hx hb hts inlX0 hown hKW.1 hP 0 rfl rfl 3 (by decide) (hts _ wd_4_8) (fun _ h => h) rfl dX0_become_67 ?_
  refine lv_iconst (v := 0) hx hb dX0_become_70 (by decide) ?_
  refine lv_bipush (v := 10) hx hb dX0_become_71 (by decide) ?_
  refine va_copyi hx hb (hml.trans hl.1.symm) hown (hts _ wd_9_9) (hts _ wd_8_9) (hts _ wd_8_10) (hts _ wd_8_11) hKW.1 hP hD hS 12 3 0 0 rfl rfl rfl rfl rfl (by decide) (by decide) (by decide) (by decide) (by decide) (fun _ _ => rfl) (Nat.le_of_ble_eq_true rfl) (Nat.le_of_ble_eq_true (by decide)) dX0_become_73 (fun H locs hP hD hS => ?_)
  have hP : va_P g.1 vwCl [(a 0, .inr (0, [.int 0, .ref (a 1), .ref (a 2), .ref (a 3), .ref (a 4), .ref (a 5), .ref (a 6), .ref (a 7), .int 0, .int 0, .int 0, .ref (a 8)])), (a 1, .inl (gI g, 10, .inl f_2)), (a 2, .inl (gI g, 10, .inl f_3)), (a 3, .inl (gI g, 10, .inl (va_cpy (fun _ => 0) (fun _ => 0) 0 0 10))), (a 4, .inl (gI g, 10, .inl (fun _ => 0))), (a 5, .inl (gI g, 10, .inl (fun _ => 0))), (a 6, .inl (gI g, 10, .inl (fun _ => 0))), (a 7, .inl (gI g, 10, .inl (fun _ => 0))), (a 8, .inl (gI g, 10, .inl f_1)), (b 0, .inr (0, [.int 0, .ref (b 1), .ref (b 2), .ref (b 3), .ref (b 4), .ref (b 5), .ref (b 6), .ref (b 7), .int 0, .int 0, .int 0, .ref (b 8)])), (b 1, .inl (gI g, 10, .inl (fun _ => 0))), (b 2, .inl (gI g, 10, .inl (fun _ => 0))), (b 3, .inl (gI g, 10, .inl (fun _ => 0))), (b 4, .inl (gI g, 10, .inl (fun _ => 0))), (b 5, .inl (gI g, 10, .inl (fun _ => 0))), (b 6, .inl (gI g, 10, .inl (fun _ => 0))), (b 7, .inl (gI g, 10, .inl (fun _ => 0))), (b 8, .inl (gI g, 10, .inl (fun _ => 0)))] H := hP
  have hD : va_D A [(a 0, .inr (0, [.int 0, .ref (a 1), .ref (a 2), .ref (a 3), .ref (a 4), .ref (a 5), .ref (a 6), .ref (a 7), .int 0, .int 0, .int 0, .ref (a 8)])), (a 1, .inl (gI g, 10, .inl f_2)), (a 2, .inl (gI g, 10, .inl f_3)), (a 3, .inl (gI g, 10, .inl (va_cpy (fun _ => 0) (fun _ => 0) 0 0 10))), (a 4, .inl (gI g, 10, .inl (fun _ => 0))), (a 5, .inl (gI g, 10, .inl (fun _ => 0))), (a 6, .inl (gI g, 10, .inl (fun _ => 0))), (a 7, .inl (gI g, 10, .inl (fun _ => 0))), (a 8, .inl (gI g, 10, .inl f_1)), (b 0, .inr (0, [.int 0, .ref (b 1), .ref (b 2), .ref (b 3), .ref (b 4), .ref (b 5), .ref (b 6), .ref (b 7), .int 0, .int 0, .int 0, .ref (b 8)])), (b 1, .inl (gI g, 10, .inl (fun _ => 0))), (b 2, .inl (gI g, 10, .inl (fun _ => 0))), (b 3, .inl (gI g, 10, .inl (fun _ => 0))), (b 4, .inl (gI g, 10, .inl (fun _ => 0))), (b 5, .inl (gI g, 10, .inl (fun _ => 0))), (b 6, .inl (gI g, 10, .inl (fun _ => 0))), (b 7, .inl (gI g, 10, .inl (fun _ => 0))), (b 8, .inl (gI g, 10, .inl (fun _ => 0)))] := hD
  obtain ⟨f_4, ef_4⟩ : ∃ zz_ : Nat → Int32, zz_ = va_cpy (fun _ => 0) (fun _ => 0) 0 0 10 := ⟨_, rfl⟩
  rw [← ef_4] at hP hD
  refine lv_aload_n hx hb dX0_become_76 rfl (lv_at hl 1 rfl) ?_
  refine va_get (ci := 0) (C := RX0) (T := TX0) (N := 12) hx hb hts inlX0 hown hKW.1 hP 9 rfl rfl 4 (by decide) (hts _ wd_4_9) (fun _ h => h) rfl dX0_become_77 ?_
  refine lv_iconst (v := 0) hx hb dX0_become_80 (by decide) ?_
  refine lv_aload_n hx hb dX0_become_81 rfl (lv_at hl 0 rfl) ?_
  refine va_get (ci := 0) (C := RX0) (T := TX0) (N := 12) hx hb hts inlX0 hown hKW.1 hP 0 rfl rfl 4 (by decide) (hts _ wd_4_9) (fun _ h => h) rfl dX0_become_82 ?_
  refine lv_iconst (v := 0) hx hb dX0_become_85 (by decide) ?_
  refine lv_bipush (v := 10) hx hb dX0_become_86 (by decide) ?_
  refine va_copyi hx hb (hml.trans hl.1.symm) hown (hts _ wd_9_9) (hts _ wd_8_9) (hts _ wd_8_10) (hts _ wd_8_11) hKW.1 hP hD hS 13 4 0 0 rfl rfl rfl rfl rfl (by decide) (by decide) (by decide) (by decide) (by decide) (fun _ _ => rfl) (Nat.le_of_ble_eq_true rfl) (Nat.le_of_ble_eq_true (by decide)) dX0_become_88 (fun H locs hP hD hS => ?_)
  have hP : va_P g.1 vwCl [(a 0, .inr (0, [.int 0, .ref (a 1), .ref (a 2), .ref (a 3), .ref (a 4), .ref (a 5), .ref (a 6), .ref (a 7), .int 0, .int 0, .int 0, .ref (a 8)])), (a 1, .inl (gI g, 10, .inl f_2)), (a 2, .inl (gI g, 10, .inl f_3)), (a 3, .inl (gI g, 10, .inl f_4)), (a 4, .inl (gI g, 10, .inl (va_cpy (fun _ => 0) (fun _ => 0) 0 0 10))), (a 5, .inl (gI g, 10, .inl (fun _ => 0))), (a 6, .inl (gI g, 10, .inl (fun _ => 0))), (a 7, .inl (gI g, 10, .inl (fun _ => 0))), (a 8, .inl (gI g, 10, .inl f_1)), (b 0, .inr (0, [.int 0, .ref (b 1), .ref (b 2), .ref (b 3), .ref (b 4), .ref (b 5), .ref (b 6), .ref (b 7), .int 0, .int 0, .int 0, .ref (b 8)])), (b 1, .inl (gI g, 10, .inl (fun _ => 0))), (b 2, .inl (gI g, 10, .inl (fun _ => 0))), (b 3, .inl (gI g, 10, .inl (fun _ => 0))), (b 4, .inl (gI g, 10, .inl (fun _ => 0))), (b 5, .inl (gI g, 10, .inl (fun _ => 0))), (b 6, .inl (gI g, 10, .inl (fun _ => 0))), (b 7, .inl (gI g, 10, .inl (fun _ => 0))), (b 8, .inl (gI g, 10, .inl (fun _ => 0)))] H := hP
  have hD : va_D A [(a 0, .inr (0, [.int 0, .ref (a 1), .ref (a 2), .ref (a 3), .ref (a 4), .ref (a 5), .ref (a 6), .ref (a 7), .int 0, .int 0, .int 0, .ref (a 8)])), (a 1, .inl (gI g, 10, .inl f_2)), (a 2, .inl (gI g, 10, .inl f_3)), (a 3, .inl (gI g, 10, .inl f_4)), (a 4, .inl (gI g, 10, .inl (va_cpy (fun _ => 0) (fun _ => 0) 0 0 10))), (a 5, .inl (gI g, 10, .inl (fun _ => 0))), (a 6, .inl (gI g, 10, .inl (fun _ => 0))), (a 7, .inl (gI g, 10, .inl (fun _ => 0))), (a 8, .inl (gI g, 10, .inl f_1)), (b 0, .inr (0, [.int 0, .ref (b 1), .ref (b 2), .ref (b 3), .ref (b 4), .ref (b 5), .ref (b 6), .ref (b 7), .int 0, .int 0, .int 0, .ref (b 8)])), (b 1, .inl (gI g, 10, .inl (fun _ => 0))), (b 2, .inl (gI g, 10, .inl (fun _ => 0))), (b 3, .inl (gI g, 10, .inl (fun _ => 0))), (b 4, .inl (gI g, 10, .inl (fun _ => 0))), (b 5, .inl (gI g, 10, .inl (fun _ => 0))), (b 6, .inl (gI g, 10, .inl (fun _ => 0))), (b 7, .inl (gI g, 10, .inl (fun _ => 0))), (b 8, .inl (gI g, 10, .inl (fun _ => 0)))] := hD
  obtain ⟨f_5, ef_5⟩ : ∃ zz_ : Nat → Int32, zz_ = va_cpy (fun _ => 0) (fun _ => 0) 0 0 10 := ⟨_, rfl⟩
  rw [← ef_5] at hP hD
  refine lv_aload_n hx hb dX0_become_91 rfl (lv_at hl 1 rfl) ?_
  refine va_get (ci := 0) (C := RX0) (T := TX0) (N := 12) hx hb hts inlX0 hown hKW.1 hP 9 rfl rfl 5 (by decide) (hts _ wd_4_10) (fun _ h => h) rfl dX0_become_92 ?_
  refine lv_iconst (v := 0) hx hb dX0_become_95 (by decide) ?_
  refine lv_aload_n hx hb dX0_become_96 rfl (lv_at hl 0 rfl) ?_
  refine va_get (ci := 0) (C := RX0) (T := TX0) (N := 12) hx hb hts inlX0 hown hKW.1 hP 0 rfl rfl 5 (by decide) (hts _ wd_4_10) (fun _ h => h) rfl dX0_become_97 ?_
  refine lv_iconst (v := 0) hx hb dX0_become_100 (by decide) ?_
  refine lv_bipush (v := 10) hx hb dX0_become_101 (by decide) ?_
  refine va_copyi hx hb (hml.trans hl.1.symm) hown (hts _ wd_9_9) (hts _ wd_8_9) (hts _ wd_8_10) (hts _ wd_8_11) hKW.1 hP hD hS 14 5 0 0 rfl rfl rfl rfl rfl (by decide) (by decide) (by decide) (by decide) (by decide) (fun _ _ => rfl) (Nat.le_of_ble_eq_true rfl) (Nat.le_of_ble_eq_true (by decide)) dX0_become_103 (fun H locs hP hD hS => ?_)
  have hP : va_P g.1 vwCl [(a 0, .inr (0, [.int 0, .ref (a 1), .ref (a 2), .ref (a 3), .ref (a 4), .ref (a 5), .ref (a 6), .ref (a 7), .int 0, .int 0, .int 0, .ref (a 8)])), (a 1, .inl (gI g, 10, .inl f_2)), (a 2, .inl (gI g, 10, .inl f_3)), (a 3, .inl (gI g, 10, .inl f_4)), (a 4, .inl (gI g, 10, .inl f_5)), (a 5, .inl (gI g, 10, .inl (va_cpy (fun _ => 0) (fun _ => 0) 0 0 10))), (a 6, .inl (gI g, 10, .inl (fun _ => 0))), (a 7, .inl (gI g, 10, .inl (fun _ => 0))), (a 8, .inl (gI g, 10, .inl f_1)), (b 0, .inr (0, [.int 0, .ref (b 1), .ref (b 2), .ref (b 3), .ref (b 4), .ref (b 5), .ref (b 6), .ref (b 7), .int 0, .int 0, .int 0, .ref (b 8)])), (b 1, .inl (gI g, 10, .inl (fun _ => 0))), (b 2, .inl (gI g, 10, .inl (fun _ => 0))), (b 3, .inl (gI g, 10, .inl (fun _ => 0))), (b 4, .inl (gI g, 10, .inl (fun _ => 0))), (b 5, .inl (gI g, 10, .inl (fun _ => 0))), (b 6, .inl (gI g, 10, .inl (fun _ => 0))), (b 7, .inl (gI g, 10, .inl (fun _ => 0))), (b 8, .inl (gI g, 10, .inl (fun _ => 0)))] H := hP
  have hD : va_D A [(a 0, .inr (0, [.int 0, .ref (a 1), .ref (a 2), .ref (a 3), .ref (a 4), .ref (a 5), .ref (a 6), .ref (a 7), .int 0, .int 0, .int 0, .ref (a 8)])), (a 1, .inl (gI g, 10, .inl f_2)), (a 2, .inl (gI g, 10, .inl f_3)), (a 3, .inl (gI g, 10, .inl f_4)), (a 4, .inl (gI g, 10, .inl f_5)), (a 5, .inl (gI g, 10, .inl (va_cpy (fun _ => 0) (fun _ => 0) 0 0 10))), (a 6, .inl (gI g, 10, .inl (fun _ => 0))), (a 7, .inl (gI g, 10, .inl (fun _ => 0))), (a 8, .inl (gI g, 10, .inl f_1)), (b 0, .inr (0, [.int 0, .ref (b 1), .ref (b 2), .ref (b 3), .ref (b 4), .ref (b 5), .ref (b 6), .ref (b 7), .int 0, .int 0, .int 0, .ref (b 8)])), (b 1, .inl (gI g, 10, .inl (fun _ => 0))), (b 2, .inl (gI g, 10, .inl (fun _ => 0))), (b 3, .inl (gI g, 10, .inl (fun _ => 0))), (b 4, .inl (gI g, 10, .inl (fun _ => 0))), (b 5, .inl (gI g, 10, .inl (fun _ => 0))), (b 6, .inl (gI g, 10, .inl (fun _ => 0))), (b 7, .inl (gI g, 10, .inl (fun _ => 0))), (b 8, .inl (gI g, 10, .inl (fun _ => 0)))] := hD
  obtain ⟨f_6, ef_6⟩ : ∃ zz_ : Nat → Int32, zz_ = va_cpy (fun _ => 0) (fun _ => 0) 0 0 10 := ⟨_, rfl⟩
  rw [← ef_6] at hP hD
  refine lv_aload_n hx hb dX0_become_106 rfl (lv_at hl 1 rfl) ?_
  refine va_get (ci := 0) (C := RX0) (T := TX0) (N := 12) hx hb hts inlX0 hown hKW.1 hP 9 rfl rfl 6 (by decide) (hts _ wd_4_11) (fun _ h => h) rfl dX0_become_107 ?_
  refine lv_iconst (v := 0) hx hb dX0_become_110 (by decide) ?_
  refine lv_aload_n hx hb dX0_become_111 rfl (lv_at hl 0 rfl) ?_
  refine va_get (ci := 0) (C := RX0) (T := TX0) (N := 12) hx hb hts inlX0 hown hKW.1 hP 0 rfl rfl 6 (by decide) (hts _ wd_4_11) (fun _ h => h) rfl dX0_become_112 ?_
  refine lv_iconst (v := 0) hx hb dX0_become_115 (by decide) ?_
  refine lv_bipush (v := 10) hx hb dX0_become_116 (by decide) ?_
  refine va_copyi hx hb (hml.trans hl.1.symm) hown (hts _ wd_9_9) (hts _ wd_8_9) (hts _ wd_8_10) (hts _ wd_8_11) hKW.1 hP hD hS 15 6 0 0 rfl rfl rfl rfl rfl (by decide) (by decide) (by decide) (by decide) (by decide) (fun _ _ => rfl) (Nat.le_of_ble_eq_true rfl) (Nat.le_of_ble_eq_true (by decide)) dX0_become_118 (fun H locs hP hD hS => ?_)
  have hP : va_P g.1 vwCl [(a 0, .inr (0, [.int 0, .ref (a 1), .ref (a 2), .ref (a 3), .ref (a 4), .ref (a 5), .ref (a 6), .ref (a 7), .int 0, .int 0, .int 0, .ref (a 8)])), (a 1, .inl (gI g, 10, .inl f_2)), (a 2, .inl (gI g, 10, .inl f_3)), (a 3, .inl (gI g, 10, .inl f_4)), (a 4, .inl (gI g, 10, .inl f_5)), (a 5, .inl (gI g, 10, .inl f_6)), (a 6, .inl (gI g, 10, .inl (va_cpy (fun _ => 0) (fun _ => 0) 0 0 10))), (a 7, .inl (gI g, 10, .inl (fun _ => 0))), (a 8, .inl (gI g, 10, .inl f_1)), (b 0, .inr (0, [.int 0, .ref (b 1), .ref (b 2), .ref (b 3), .ref (b 4), .ref (b 5), .ref (b 6), .ref (b 7), .int 0, .int 0, .int 0, .ref (b 8)])), (b 1, .inl (gI g, 10, .inl (fun _ => 0))), (b 2, .inl (gI g, 10, .inl (fun _ => 0))), (b 3, .inl (gI g, 10, .inl (fun _ => 0))), (b 4, .inl (gI g, 10, .inl (fun _ => 0))), (b 5, .inl (gI g, 10, .inl (fun _ => 0))), (b 6, .inl (gI g, 10, .inl (fun _ => 0))), (b 7, .inl (gI g, 10, .inl (fun _ => 0))), (b 8, .inl (gI g, 10, .inl (fun _ => 0)))] H := hP
  have hD : va_D A [(a 0, .inr (0, [.int 0, .ref (a 1), .ref (a 2), .ref (a 3), .ref (a 4), .ref (a 5), .ref (a 6), .ref (a 7), .int 0, .int 0, .int 0, .ref (a 8)])), (a 1, .inl (gI g, 10, .inl f_2)), (a 2, .inl (gI g, 10, .inl f_3)), (a 3, .inl (gI g, 10, .inl f_4)), (a 4, .inl (gI g, 10, .inl f_5)), (a 5, .inl (gI g, 10, .inl f_6)), (a 6, .inl (gI g, 10, .inl (va_cpy (fun _ => 0) (fun _ => 0) 0 0 10))), (a 7, .inl (gI g, 10, .inl (fun _ => 0))), (a 8, .inl (gI g, 10, .inl f_1)), (b 0, .inr (0, [.int 0, .ref (b 1), .ref (b 2), .ref (b 3), .ref (b 4), .ref (b 5), .ref (b 6), .ref (b 7), .int 0, .int 0, .int 0, .ref (b 8)])), (b 1, .inl (gI g, 10, .inl (fun _ => 0))), (b 2, .inl (gI g, 10, .inl (fun _ => 0))), (b 3, .inl (gI g, 10, .inl (fun _ => 0))), (b 4, .inl (gI g, 10, .inl (fun _ => 0))), (b 5, .inl (gI g, 10, .inl (fun _ => 0))), (b 6, .inl (gI g, 10, .inl (fun _ => 0))), (b 7, .inl (gI g, 10, .inl (fun _ => 0))), (b 8, .inl (gI g, 10, .inl (fun _ => 0)))] := hD
  obtain ⟨f_7, ef_7⟩ : ∃ zz_ : Nat → Int32, zz_ = va_cpy (fun _ => 0) (fun _ => 0) 0 0 10 := ⟨_, rfl⟩
  rw [← ef_7] at hP hD
  refine lv_aload_n hx hb dX0_become_121 rfl (lv_at hl 1 rfl) ?_
  refine va_get (ci := 0) (C := RX0) (T := TX0) (N := 12) hx hb hts inlX0 hown hKW.1 hP 9 rfl rfl 7 (by decide) (hts _ wd_4_12) (fun _ h => h) rfl dX0_become_122 ?_
  refine lv_iconst (v := 0) hx hb dX0_become_125 (by decide) ?_
  refine lv_aload_n hx hb dX0_become_126 rfl (lv_at hl 0 rfl) ?_
  refine va_get (ci := 0) (C := RX0) (T := TX0) (N := 12) hx hb hts inlX0 hown hKW.1 hP 0 rfl rfl 7 (by decide) (hts _ wd_4_12) (fun _ h => h) rfl dX0_become_127 ?_
  refine lv_iconst (v := 0) hx hb dX0_become_130 (by decide) ?_
  refine lv_bipush (v := 10) hx hb dX0_become_131 (by decide) ?_
  refine va_copyi hx hb (hml.trans hl.1.symm) hown (hts _ wd_9_9) (hts _ wd_8_9) (hts _ wd_8_10) (hts _ wd_8_11) hKW.1 hP hD hS 16 7 0 0 rfl rfl rfl rfl rfl (by decide) (by decide) (by decide) (by decide) (by decide) (fun _ _ => rfl) (Nat.le_of_ble_eq_true rfl) (Nat.le_of_ble_eq_true (by decide)) dX0_become_133 (fun H locs hP hD hS => ?_)
  have hP : va_P g.1 vwCl [(a 0, .inr (0, [.int 0, .ref (a 1), .ref (a 2), .ref (a 3), .ref (a 4), .ref (a 5), .ref (a 6), .ref (a 7), .int 0, .int 0, .int 0, .ref (a 8)])), (a 1, .inl (gI g, 10, .inl f_2)), (a 2, .inl (gI g, 10, .inl f_3)), (a 3, .inl (gI g, 10, .inl f_4)), (a 4, .inl (gI g, 10, .inl f_5)), (a 5, .inl (gI g, 10, .inl f_6)), (a 6, .inl (gI g, 10, .inl f_7)), (a 7, .inl (gI g, 10, .inl (va_cpy (fun _ => 0) (fun _ => 0) 0 0 10))), (a 8, .inl (gI g, 10, .inl f_1)), (b 0, .inr (0, [.int 0, .ref (b 1), .ref (b 2), .ref (b 3), .ref (b 4), .ref (b 5), .ref (b 6), .ref (b 7), .int 0, .int 0, .int 0, .ref (b 8)])), (b 1, .inl (gI g, 10, .inl (fun _ => 0))), (b 2, .inl (gI g, 10, .inl (fun _ => 0))), (b 3, .inl (gI g, 10, .inl (fun _ => 0))), (b 4, .inl (gI g, 10, .inl (fun _ => 0))), (b 5, .inl (gI g, 10, .inl (fun _ => 0))), (b 6, .inl (gI g, 10, .inl (fun _ => 0))), (b 7, .inl (gI g, 10, .inl (fun _ => 0))), (b 8, .inl (gI g, 10, .inl (fun _ => 0)))] H := hP
  have hD : va_D A [(a 0, .inr (0, [.int 0, .ref (a 1), .ref (a 2), .ref (a 3), .ref (a 4), .ref (a 5), .ref (a 6), .ref (a 7), .int 0, .int 0, .int 0, .ref (a 8)])), (a 1, .inl (gI g, 10, .inl f_2)), (a 2, .inl (gI g, 10, .inl f_3)), (a 3, .inl (gI g, 10, .inl f_4)), (a 4, .inl (gI g, 10, .inl f_5)), (a 5, .inl (gI g, 10, .inl f_6)), (a 6, .inl (gI g, 10, .inl f_7)), (a 7, .inl (gI g, 10, .inl (va_cpy (fun _ => 0) (fun _ => 0) 0 0 10))), (a 8, .inl (gI g, 10, .inl f_1)), (b 0, .inr (0, [.int 0, .ref (b 1), .ref (b 2), .ref (b 3), .ref (b 4), .ref (b 5), .ref (b 6), .ref (b 7), .int 0, .int 0, .int 0, .ref (b 8)])), (b 1, .inl (gI g, 10, .inl (fun _ => 0))), (b 2, .inl (gI g, 10, .inl (fun _ => 0))), (b 3, .inl (gI g, 10, .inl (fun _ => 0))), (b 4, .inl (gI g, 10, .inl (fun _ => 0))), (b 5, .inl (gI g, 10, .inl (fun _ => 0))), (b 6, .inl (gI g, 10, .inl (fun _ => 0))), (b 7, .inl (gI g, 10, .inl (fun _ => 0))), (b 8, .inl (gI g, 10, .inl (fun _ => 0)))] := hD
  obtain ⟨f_8, ef_8⟩ : ∃ zz_ : Nat → Int32, zz_ = va_cpy (fun _ => 0) (fun _ => 0) 0 0 10 := ⟨_, rfl⟩
  rw [← ef_8] at hP hD
  refine lv_aload_n hx hb dX0_become_136 rfl (lv_at hl 0 rfl) ?_
  refine lv_aload_n hx hb dX0_become_137 rfl (lv_at hl 1 rfl) ?_
  refine va_get (ci := 0) (C := RX0) (T := TX0) (N := 12) hx hb hts inlX0 hown hKW.1 hP 9 rfl rfl 8 (by decide) (hts _ wd_9_10) (fun _ h => h) rfl dX0_become_138 ?_
  refine va_put (ci := 0) (v := .int 0) (C := RX0) (T := TX0) (N := 12) hx hb hts inlX0 tyX0 tyX0_ok nmX0 hown hKW.1 hP hD hS 0 rfl rfl 8 (by decide) (hts _ wd_9_10) (fun _ h => h) rfl (tyX0_ok 8 (by decide)) rfl rfl (Nat.le_of_ble_eq_true rfl) dX0_become_141 (fun H locs hP hD hS => ?_)
  have hP : va_P g.1 vwCl [(a 0, .inr (0, [.int 0, .ref (a 1), .ref (a 2), .ref (a 3), .ref (a 4), .ref (a 5), .ref (a 6), .ref (a 7), .int 0, .int 0, .int 0, .ref (a 8)])), (a 1, .inl (gI g, 10, .inl f_2)), (a 2, .inl (gI g, 10, .inl f_3)), (a 3, .inl (gI g, 10, .inl f_4)), (a 4, .inl (gI g, 10, .inl f_5)), (a 5, .inl (gI g, 10, .inl f_6)), (a 6, .inl (gI g, 10, .inl f_7)), (a 7, .inl (gI g, 10, .inl f_8)), (a 8, .inl (gI g, 10, .inl f_1)), (b 0, .inr (0, [.int 0, .ref (b 1), .ref (b 2), .ref (b 3), .ref (b 4), .ref (b 5), .ref (b 6), .ref (b 7), .int 0, .int 0, .int 0, .ref (b 8)])), (b 1, .inl (gI g, 10, .inl (fun _ => 0))), (b 2, .inl (gI g, 10, .inl (fun _ => 0))), (b 3, .inl (gI g, 10, .inl (fun _ => 0))), (b 4, .inl (gI g, 10, .inl (fun _ => 0))), (b 5, .inl (gI g, 10, .inl (fun _ => 0))), (b 6, .inl (gI g, 10, .inl (fun _ => 0))), (b 7, .inl (gI g, 10, .inl (fun _ => 0))), (b 8, .inl (gI g, 10, .inl (fun _ => 0)))] H := hP
  have hD : va_D A [(a 0, .inr (0, [.int 0, .ref (a 1), .ref (a 2), .ref (a 3), .ref (a 4), .ref (a 5), .ref (a 6), .ref (a 7), .int 0, .int 0, .int 0, .ref (a 8)])), (a 1, .inl (gI g, 10, .inl f_2)), (a 2, .inl (gI g, 10, .inl f_3)), (a 3, .inl (gI g, 10, .inl f_4)), (a 4, .inl (gI g, 10, .inl f_5)), (a 5, .inl (gI g, 10, .inl f_6)), (a 6, .inl (gI g, 10, .inl f_7)), (a 7, .inl (gI g, 10, .inl f_8)), (a 8, .inl (gI g, 10, .inl f_1)), (b 0, .inr (0, [.int 0, .ref (b 1), .ref (b 2), .ref (b 3), .ref (b 4), .ref (b 5), .ref (b 6), .ref (b 7), .int 0, .int 0, .int 0, .ref (b 8)])), (b 1, .inl (gI g, 10, .inl (fun _ => 0))), (b 2, .inl (gI g, 10, .inl (fun _ => 0))), (b 3, .inl (gI g, 10, .inl (fun _ => 0))), (b 4, .inl (gI g, 10, .inl (fun _ => 0))), (b 5, .inl (gI g, 10, .inl (fun _ => 0))), (b 6, .inl (gI g, 10, .inl (fun _ => 0))), (b 7, .inl (gI g, 10, .inl (fun _ => 0))), (b 8, .inl (gI g, 10, .inl (fun _ => 0)))] := hD
  refine lv_aload_n hx hb dX0_become_144 rfl (lv_at hl 0 rfl) ?_
  refine lv_aload_n hx hb dX0_become_145 rfl (lv_at hl 1 rfl) ?_
  refine va_get (ci := 0) (C := RX0) (T := TX0) (N := 12) hx hb hts inlX0 hown hKW.1 hP 9 rfl rfl 9 (by decide) (hts _ wd_9_11) (fun _ h => h) rfl dX0_become_146 ?_
  refine va_put (ci := 0) (v := .int 0) (C := RX0) (T := TX0) (N := 12) hx hb hts inlX0 tyX0 tyX0_ok nmX0 hown hKW.1 hP hD hS 0 rfl rfl 9 (by decide) (hts _ wd_9_11) (fun _ h => h) rfl (tyX0_ok 9 (by decide)) rfl rfl (Nat.le_of_ble_eq_true rfl) dX0_become_149 (fun H locs hP hD hS => ?_)
  have hP : va_P g.1 vwCl [(a 0, .inr (0, [.int 0, .ref (a 1), .ref (a 2), .ref (a 3), .ref (a 4), .ref (a 5), .ref (a 6), .ref (a 7), .int 0, .int 0, .int 0, .ref (a 8)])), (a 1, .inl (gI g, 10, .inl f_2)), (a 2, .inl (gI g, 10, .inl f_3)), (a 3, .inl (gI g, 10, .inl f_4)), (a 4, .inl (gI g, 10, .inl f_5)), (a 5, .inl (gI g, 10, .inl f_6)), (a 6, .inl (gI g, 10, .inl f_7)), (a 7, .inl (gI g, 10, .inl f_8)), (a 8, .inl (gI g, 10, .inl f_1)), (b 0, .inr (0, [.int 0, .ref (b 1), .ref (b 2), .ref (b 3), .ref (b 4), .ref (b 5), .ref (b 6), .ref (b 7), .int 0, .int 0, .int 0, .ref (b 8)])), (b 1, .inl (gI g, 10, .inl (fun _ => 0))), (b 2, .inl (gI g, 10, .inl (fun _ => 0))), (b 3, .inl (gI g, 10, .inl (fun _ => 0))), (b 4, .inl (gI g, 10, .inl (fun _ => 0))), (b 5, .inl (gI g, 10, .inl (fun _ => 0))), (b 6, .inl (gI g, 10, .inl (fun _ => 0))), (b 7, .inl (gI g, 10, .inl (fun _ => 0))), (b 8, .inl (gI g, 10, .inl (fun _ => 0)))] H := hP
  have hD : va_D A [(a 0, .inr (0, [.int 0, .ref (a 1), .ref (a 2), .ref (a 3), .ref (a 4), .ref (a 5), .ref (a 6), .ref (a 7), .int 0, .int 0, .int 0, .ref (a 8)])), (a 1, .inl (gI g, 10, .inl f_2)), (a 2, .inl (gI g, 10, .inl f_3)), (a 3, .inl (gI g, 10, .inl f_4)), (a 4, .inl (gI g, 10, .inl f_5)), (a 5, .inl (gI g, 10, .inl f_6)), (a 6, .inl (gI g, 10, .inl f_7)), (a 7, .inl (gI g, 10, .inl f_8)), (a 8, .inl (gI g, 10, .inl f_1)), (b 0, .inr (0, [.int 0, .ref (b 1), .ref (b 2), .ref (b 3), .ref (b 4), .ref (b 5), .ref (b 6), .ref (b 7), .int 0, .int 0, .int 0, .ref (b 8)])), (b 1, .inl (gI g, 10, .inl (fun _ => 0))), (b 2, .inl (gI g, 10, .inl (fun _ => 0))), (b 3, .inl (gI g, 10, .inl (fun _ => 0))), (b 4, .inl (gI g, 10, .inl (fun _ => 0))), (b 5, .inl (gI g, 10, .inl (fun _ => 0))), (b 6, .inl (gI g, 10, .inl (fun _ => 0))), (b 7, .inl (gI g, 10, .inl (fun _ => 0))), (b 8, .inl (gI g, 10, .inl (fun _ => 0)))] := hD
  exact k_vret () [9, 10, 11, 12, 13, 14, 15, 16, 17] hx hb hr hlk hP hD hS trivial rfl rfl rfl (Nat.le_of_ble_eq_true rfl) (Nat.le_of_ble_eq_true rfl) dX0_become_152
theorem dX3_become_0 : decode cX3_become 0 = .ok (.aload_n 0, 1) := by decide +kernel
theorem dX3_become_1 : decode cX3_become 1 = .ok (.aload_n 1, 1) := by decide +kernel
theorem dX3_become_2 : decode cX3_become 2 = .ok (.getfield 21, 3) := by decide +kernel
theorem dX3_become_5 : decode cX3_become 5 = .ok (.putfield 21, 3) := by decide +kernel
theorem dX3_become_8 : decode cX3_become 8 = .ok (.aload_n 1, 1) := by decide +kernel
theorem dX3_become_9 : decode cX3_become 9 = .ok (.getfield 9, 3) := by decide +kernel
theorem dX3_become_12 : decode cX3_become 12 = .ok (.iconst 0, 1) := by decide +kernel
theorem dX3_become_13 : decode cX3_become 13 = .ok (.aload_n 0, 1) := by decide +kernel
theorem dX3_become_14 : decode cX3_become 14 = .ok (.getfield 9, 3) := by decide +kernel
theorem dX3_become_17 : decode cX3_become 17 = .ok (.iconst 0, 1) := by decide +kernel
theorem dX3_become_18 : decode cX3_become 18 = .ok (.bipush 40, 2) := by decide +kernel
theorem dX3_become_20 : decode cX3_become 20 = .ok (.invokestatic 28, 3) := by decide +kernel
theorem dX3_become_23 : decode cX3_become 23 = .ok (.aload_n 1, 1) := by decide +kernel
theorem dX3_become_24 : decode cX3_become 24 = .ok (.getfield 15, 3) := by decide +kernel
theorem dX3_become_27 : decode cX3_become 27 = .ok (.iconst 0, 1) := by decide +kernel
theorem dX3_become_28 : decode cX3_become 28 = .ok (.aload_n 0, 1) := by decide +kernel
theorem dX3_become_29 : decode cX3_become 29 = .ok (.getfield 15, 3) := by decide +kernel
theorem dX3_become_32 : decode cX3_become 32 = .ok (.iconst 0, 1) := by decide +kernel
theorem dX3_become_33 : decode cX3_become 33 = .ok (.bipush 40, 2) := by decide +kernel
theorem dX3_become_35 : decode cX3_become 35 = .ok (.invokestatic 28, 3) := by decide +kernel
theorem dX3_become_38 : decode cX3_become 38 = .ok (.aload_n 1, 1) := by decide +kernel
theorem dX3_become_39 : decode cX3_become 39 = .ok (.getfield 18, 3) := by decide +kernel
theorem dX3_become_42 : decode cX3_become 42 = .ok (.iconst 0, 1) := by decide +kernel
theorem dX3_become_43 : decode cX3_become 43 = .ok (.aload_n 0, 1) := by decide +kernel
theorem dX3_become_44 : decode cX3_become 44 = .ok (.getfield 18, 3) := by decide +kernel
theorem dX3_become_47 : decode cX3_become 47 = .ok (.iconst 0, 1) := by decide +kernel
theorem dX3_become_48 : decode cX3_become 48 = .ok (.bipush 40, 2) := by decide +kernel
theorem dX3_become_50 : decode cX3_become 50 = .ok (.invokestatic 28, 3) := by decide +kernel
theorem dX3_become_53 : decode cX3_become 53 = .ok (.return_, 1) := by decide +kernel
set_option maxHeartbeats 4000000 in
set_option maxRecDepth 100000 in
theorem c_X3_become (l : Launch) (g : kG) (sz : Nat) (a : Nat → Nat) (b : Nat → Nat) : kMv l g yX3_become cX3_become 2 none 1 0 0 [.ref (a 0), .ref (b 0)] sz [(a 0, .inr (3, [.int 0, .ref (a 1), .ref (a 2), .ref (a 3)])), (a 1, .inl (gI g, 40, .inl (fun _ => 0))), (a 2, .inl (gI g, 40, .inl (fun _ => 0))), (a 3, .inl (gI g, 40, .inl (fun _ => 0))), (b 0, .inr (3, [.int 0, .ref (b 1), .ref (b 2), .ref (b 3)])), (b 1, .inl (gI g, 40, .inl (fun _ => 0))), (b 2, .inl (gI g, 40, .inl (fun _ => 0))), (b 3, .inl (gI g, 40, .inl (fun _ => 0)))] (fun (u : Unit) => True) (fun (u : Unit) => ([(b 0, .inr (3, [.int 0, .ref (b 1), .ref (b 2), .ref (b 3)])), (b 1, .inl (gI g, 40, .inl (fun _ => 0))), (b 2, .inl (gI g, 40, .inl (fun _ => 0))), (b 3, .inl (gI g, 40, .inl (fun _ => 0)))] : va_W)) := by
  refine kMv.of (by decide) (Nat.le_of_ble_eq_true rfl) (fun p e s m below meth c A hx hb hr hml hown hts hlk hnm hKW hP hD hS hA ls hl => ?_)
  have hown : s.vm.findClass RX3 = some m.cls := hown
  have hl : lv_has ls 2 [(0, .ref (a 0)), (1, .ref (b 0))] := hl
  refine lv_aload_n hx hb dX3_become_0 rfl (lv_at hl 0 rfl) ?_
  refine lv_aload_n hx hb dX3_become_1 rfl (lv_at hl 1 rfl) ?_
  refine va_get (ci := 3) (C := RX3) (T := TX3) (N := 4) hx hb hts inlX3 hown hKW.1 hP 4 rfl rfl 0 (by decide) (hts _ wd_9_16) (fun _ h => h) rfl dX3_become_2 ?_
  refine va_put (ci := 3) (v := .int 0) (C := RX3) (T := TX3) (N := 4) hx hb hts inlX3 tyX3 tyX3_ok nmX3 hown hKW.1 hP hD hS 0 rfl rfl 0 (by decide) (hts _ wd_9_16) (fun _ h => h) rfl (tyX3_ok 0 (by decide)) rfl rfl (Nat.le_of_ble_eq_true rfl) dX3_become_5 (fun H locs hP hD hS => ?_)
  have hP : va_P g.1 vwCl [(a 0, .inr (3, [.int 0, .ref (a 1), .ref (a 2), .ref (a 3)])), (a 1, .inl (gI g, 40, .inl (fun _ => 0))), (a 2, .inl (gI g, 40, .inl (fun _ => 0))), (a 3, .inl (gI g, 40, .inl (fun _ => 0))), (b 0, .inr (3, [.int 0, .ref (b 1), .ref (b 2), .ref (b 3)])), (b 1, .inl (gI g, 40, .inl (fun _ => 0))), (b 2, .inl (gI g, 40, .inl (fun _ => 0))), (b 3, .inl (gI g, 40, .inl (fun _ => 0)))] H := hP
  have hD : va_D A [(a 0, .inr (3, [.int 0, .ref (a 1), .ref (a 2), .ref (a 3)])), (a 1, .inl (gI g, 40, .inl (fun _ => 0))), (a 2, .inl (gI g, 40, .inl (fun _ => 0))), (a 3, .inl (gI g, 40, .inl (fun _ => 0))), (b 0, .inr (3, [.int 0, .ref (b 1), .ref (b 2), .ref (b 3)])), (b 1, .inl (gI g, 40, .inl (fun _ => 0))), (b 2, .inl (gI g, 40, .inl (fun _ => 0))), (b 3, .inl (gI g, 40, .inl (fun _ => 0)))] := hD
  refine lv_aload_n hx hb dX3_become_8 rfl (lv_at hl 1 rfl) ?_
  refine va_get (ci := 3) (C := RX3) (T := TX3) (N := 4) hx hb hts inlX3 hown hKW.1 hP 4 rfl rfl 1 (by decide) (hts _ wd_4_17) (fun _ h => h) rfl dX3_become_9 ?_
  refine lv_iconst (v := 0) hx hb dX3_become_12 (by decide) ?_
  refine lv_aload_n hx hb dX3_become_13 rfl (lv_at hl 0 rfl) ?_
  refine va_get (ci := 3) (C := RX3) (T := TX3) (N := 4) hx hb hts inlX3 hown hKW.1 hP 0 rfl rfl 1 (by decide) (hts _ wd_4_17) (fun _ h => h) rfl dX3_become_14 ?_
  refine lv_iconst (v := 0) hx hb dX3_become_17 (by decide) ?_
  refine lv_bipush (v := 40) hx hb dX3_become_18 (by decide) ?_
  refine va_copyi hx hb (hml.trans hl.1.symm) hown (hts _ wd_9_17) (hts _ wd_8_9) (hts _ wd_8_10) (hts _ wd_8_11) hKW.1 hP hD hS 5 1 0 0 rfl rfl rfl rfl rfl (by decide) (by decide) (by decide) (by decide) (by decide) (fun _ _ => rfl) (Nat.le_of_ble_eq_true rfl) (Nat.le_of_ble_eq_true (by decide)) dX3_become_20 (fun H locs hP hD hS => ?_)
  have hP : va_P g.1 vwCl [(a 0, .inr (3, [.int 0, .ref (a 1), .ref (a 2), .ref (a 3)])), (a 1, .inl (gI g, 40, .inl (va_cpy (fun _ => 0) (fun _ => 0) 0 0 40))), (a 2, .inl (gI g, 40, .inl (fun _ => 0))), (a 3, .inl (gI g, 40, .inl (fun _ => 0))), (b 0, .inr (3, [.int 0, .ref (b 1), .ref (b 2), .ref (b 3)])), (b 1, .inl (gI g, 40, .inl (fun _ => 0))), (b 2, .inl (gI g, 40, .inl (fun _ => 0))), (b 3, .inl (gI g, 40, .inl (fun _ => 0)))] H := hP
  have hD : va_D A [(a 0, .inr (3, [.int 0, .ref (a 1), .ref (a 2), .ref (a 3)])), (a 1, .inl (gI g, 40, .inl (va_cpy (fun _ => 0) (fun _ => 0) 0 0 40))), (a 2, .inl (gI g, 40, .inl (fun _ => 0))), (a 3, .inl (gI g, 40, .inl (fun _ => 0))), (b 0, .inr (3, [.int 0, .ref (b 1), .ref (b 2), .ref (b 3)])), (b 1, .inl (gI g, 40, .inl (fun _ => 0))), (b 2, .inl (gI g, 40, .inl (fun _ => 0))), (b 3, .inl (gI g, 40, .inl (fun _ => 0)))] := hD
  obtain ⟨f_1, ef_1⟩ : ∃ zz_ : Nat → Int32, zz_ = va_cpy (fun _ => 0) (fun _ => 0) 0 0 40 := ⟨_, rfl⟩
  rw [← ef_1] at hP hD
  refine lv_aload_n hx hb dX3_become_23 rfl (lv_at hl 1 rfl) ?_
  refine va_get (ci := 3) (C := RX3) (T := TX3) (N := 4) hx hb hts inlX3 hown hKW.1 hP 4 rfl rfl 2 (by decide) (hts _ wd_4_18) (fun _ h => h) rfl dX3_become_24 ?_
  refine lv_iconst (v := 0) hx hb dX3_become_27 (by decide) ?_
  refine lv_aload_n hx hb dX3_become_28 rfl (lv_at hl 0 rfl) ?_
  refine va_get (ci := 3) (C := RX3) (T := TX3) (N := 4) hx hb hts inlX3 hown hKW.1 hP 0 rfl rfl 2 (by decide) (hts _ wd_4_18) (fun _ h => h) rfl dX3_become_29 ?_
  refine lv_iconst (v := 0) hx hb dX3_become_32 (by decide) ?_
  refine lv_bipush (v := 40) hx hb dX3_become_33 (by decide) ?_
  refine va_copyi hx hb (hml.trans hl.1.symm) hown (hts _ wd_9_17) (hts _ wd_8_9) (hts _ wd_8_10) (hts _ wd_8_11) hKW.1 hP hD hS 6 2 0 0 rfl rfl rfl rfl rfl (by decide) (by decide) (by decide) (by decide) (by decide) (fun _ _ => rfl) (Nat.le_of_ble_eq_true rfl) (Nat.le_of_ble_eq_true (by decide)) dX3_become_35 (fun H locs hP hD hS => ?_)
  have hP : va_P g.1 vwCl [(a 0, .inr (3, [.int 0, .ref (a 1), .ref (a 2), .ref (a 3)])), (a 1, .inl (gI g, 40, .inl f_1)), (a 2, .inl (gI g, 40, .inl (va_cpy (fun _ => 0) (fun _ => 0) 0 0 40))), (a 3, .inl (gI g, 40, .inl (fun _ => 0))), (b 0, .inr (3, [.int 0, .ref (b 1), .ref (b 2), .ref (b 3)])), (b 1, .inl (gI g, 40, .inl (fun _ => 0))), (b 2, .inl (gI g, 40, .inl (fun _ => 0))), (b 3, .inl (gI g, 40, .inl (fun _ => 0)))] H := hP
  have hD : va_D A [(a 0, .inr (3, [.int 0, .ref (a 1), .ref (a 2), .ref (a 3)])), (a 1, .inl (gI g, 40, .inl f_1)), (a 2, .inl (gI g, 40, .inl (va_cpy (fun _ => 0) (fun _ => 0) 0 0 40))), (a 3, .inl (gI g, 40, .inl (fun _ => 0))), (b 0, .inr (3, [.int 0, .ref (b 1), .ref (b 2), .ref (b 3)])), (b 1, .inl (gI g, 40, .inl (fun _ => 0))), (b 2, .inl (gI g, 40, .inl (fun _ => 0))), (b 3, .inl (gI g, 40, .inl (fun _ => 0)))] := hD
  obtain ⟨f_2, ef_2⟩ : ∃ zz_ : Nat → Int32, zz_ = va_cpy (fun _ => 0) (fun _ => 0) 0 0 40 := ⟨_, rfl⟩
  rw [← ef_2] at hP hD
  refine lv_aload_n hx hb dX3_become_38 rfl (lv_at hl 1 rfl) ?_
  refine va_get (ci := 3) (C := RX3) (T := TX3) (N := 4) hx hb hts inlX3 hown hKW.1 hP 4 rfl rfl 3 (by decide) (hts _ wd_4_19) (fun _ h => h) rfl dX3_become_39 ?_
  refine lv_iconst (v := 0) hx hb dX3_become_42 (by decide) ?_
  refine lv_aload_n hx hb dX3_become_43 rfl (lv_at hl 0 rfl) ?_
  refine va_get (ci := 3) (C := RX3) (T := TX3) (N := 4) hx hb hts inlX3 hown hKW.1 hP 0 rfl rfl 3 (by decide) (hts _ wd_4_19) (fun _ h => h) rfl dX3_become_44 ?_
  refine lv_iconst (v := 0) hx hb dX3_become_47 (by decide) ?_
  refine lv_bipush (v := 40) hx hb dX3_become_48 (by decide) ?_
  refine va_copyi hx hb (hml.trans hl.1.symm) hown (hts _ wd_9_17) (hts _ wd_8_9) (hts _ wd_8_10) (hts _ wd_8_11) hKW.1 hP hD hS 7 3 0 0 rfl rfl rfl rfl rfl (by decide) (by decide) (by decide) (by decide) (by decide) (fun _ _ => rfl) (Nat.le_of_ble_eq_true rfl) (Nat.le_of_ble_eq_true (by decide)) dX3_become_50 (fun H locs hP hD hS => ?_)
  have hP : va_P g.1 vwCl [(a 0, .inr (3, [.int 0, .ref (a 1), .ref (a 2), .ref (a 3)])), (a 1, .inl (gI g, 40, .inl f_1)), (a 2, .inl (gI g, 40, .inl f_2)), (a 3, .inl (gI g, 40, .inl (va_cpy (fun _ => 0) (fun _ => 0) 0 0 40))), (b 0, .inr (3, [.int 0, .ref (b 1), .ref (b 2), .ref (b 3)])), (b 1, .inl (gI g, 40, .inl (fun _ => 0))), (b 2, .inl (gI g, 40, .inl (fun _ => 0))), (b 3, .inl (gI g, 40, .inl (fun _ => 0)))] H := hP
  have hD : va_D A [(a 0, .inr (3, [.int 0, .ref (a 1), .ref (a 2), .ref (a 3)])), (a 1, .inl (gI g, 40, .inl f_1)), (a 2, .inl (gI g, 40, .inl f_2)), (a 3, .inl (gI g, 40, .inl (va_cpy (fun _ => 0) (fun _ => 0) 0 0 40))), (b 0, .inr (3, [.int 0, .ref (b 1), .ref (b 2), .ref (b 3)])), (b 1, .inl (gI g, 40, .inl (fun _ => 0))), (b 2, .inl (gI g, 40, .inl (fun _ => 0))), (b 3, .inl (gI g, 40, .inl (fun _ => 0)))] := hD
  obtain ⟨f_3, ef_3⟩ : ∃ zz_ : Nat → Int32, zz_ = va_cpy (fun _ => 0) (fun _ => 0) 0 0 40 := ⟨_, rfl⟩
  rw [← ef_3] at hP hD
  exact k_vret () [4, 5, 6, 7] hx hb hr hlk hP hD hS trivial rfl rfl rfl (Nat.le_of_ble_eq_true rfl) (Nat.le_of_ble_eq_true rfl) dX3_become_53
theorem dX6_become_0 : decode cX6_become 0 = .ok (.aload_n 0, 1) := by decide +kernel
theorem dX6_become_1 : decode cX6_become 1 = .ok (.aload_n 1, 1) := by decide +kernel
theorem dX6_become_2 : decode cX6_become 2 = .ok (.getfield 27, 3) := by decide +kernel
theorem dX6_become_5 : decode cX6_become 5 = .ok (.putfield 27, 3) := by decide +kernel
theorem dX6_become_8 : decode cX6_become 8 = .ok (.aload_n 0, 1) := by decide +kernel
theorem dX6_become_9 : decode cX6_become 9 = .ok (.aload_n 1, 1) := by decide +kernel
theorem dX6_become_10 : decode cX6_become 10 = .ok (.getfield 43, 3) := by decide +kernel
theorem dX6_become_13 : decode cX6_become 13 = .ok (.putfield 43, 3) := by decide +kernel
theorem dX6_become_16 : decode cX6_become 16 = .ok (.aload_n 1, 1) := by decide +kernel
theorem dX6_become_17 : decode cX6_become 17 = .ok (.getfield 9, 3) := by decide +kernel
theorem dX6_become_20 : decode cX6_become 20 = .ok (.iconst 0, 1) := by decide +kernel
theorem dX6_become_21 : decode cX6_become 21 = .ok (.aload_n 0, 1) := by decide +kernel
theorem dX6_become_22 : decode cX6_become 22 = .ok (.getfield 9, 3) := by decide +kernel
theorem dX6_become_25 : decode cX6_become 25 = .ok (.iconst 0, 1) := by decide +kernel
theorem dX6_become_26 : decode cX6_become 26 = .ok (.bipush 14, 2) := by decide +kernel
theorem dX6_become_28 : decode cX6_become 28 = .ok (.invokestatic 33, 3) := by decide +kernel
theorem dX6_become_31 : decode cX6_become 31 = .ok (.return_, 1) := by decide +kernel
set_option maxHeartbeats 4000000 in
set_option maxRecDepth 100000 in
theorem c_X6_become (l : Launch) (g : kG) (sz : Nat) (a : Nat → Nat) (b : Nat → Nat) : kMv l g yX6_become cX6_become 2 none 1 0 0 [.ref (a 0), .ref (b 0)] sz [(a 0, .inr (6, [.int 0, .int 0, .ref (a 1)])), (a 1, .inl (gI g, 14, .inl (fun _ => 0))), (b 0, .inr (6, [.int 0, .int 0, .ref (b 1)])), (b 1, .inl (gI g, 14, .inl (fun _ => 0)))] (fun (u : Unit) => True) (fun (u : Unit) => ([(b 0, .inr (6, [.int 0, .int 0, .ref (b 1)])), (b 1, .inl (gI g, 14, .inl (fun _ => 0)))] : va_W)) := by
  refine kMv.of (by decide) (Nat.le_of_ble_eq_true rfl) (fun p e s m below meth c A hx hb hr hml hown hts hlk hnm hKW hP hD hS hA ls hl => ?_)
  have hown : s.vm.findClass RX6 = some m.cls := hown
  have hl : lv_has ls 2 [(0, .ref (a 0)), (1, .ref (b 0))] := hl
  refine lv_aload_n hx hb dX6_become_0 rfl (lv_at hl 0 rfl) ?_
  refine lv_aload_n hx hb dX6_become_1 rfl (lv_at hl 1 rfl) ?_
  refine va_get (ci := 6) (C := RX6) (T := TX6) (N := 3) hx hb hts inlX6 hown hKW.1 hP 2 rfl rfl 0 (by decide) (hts _ wd_9_22) (fun _ h => h) rfl dX6_become_2 ?_
  refine va_put (ci := 6) (v := .int 0) (C := RX6) (T := TX6) (N := 3) hx hb hts inlX6 tyX6 tyX6_ok nmX6 hown hKW.1 hP hD hS 0 rfl rfl 0 (by decide) (hts _ wd_9_22) (fun _ h => h) rfl (tyX6_ok 0 (by decide)) rfl rfl (Nat.le_of_ble_eq_true rfl) dX6_become_5 (fun H locs hP hD hS => ?_)
  have hP : va_P g.1 vwCl [(a 0, .inr (6, [.int 0, .int 0, .ref (a 1)])), (a 1, .inl (gI g, 14, .inl (fun _ => 0))), (b 0, .inr (6, [.int 0, .int 0, .ref (b 1)])), (b 1, .inl (gI g, 14, .inl (fun _ => 0)))] H := hP
  have hD : va_D A [(a 0, .inr (6, [.int 0, .int 0, .ref (a 1)])), (a 1, .inl (gI g, 14, .inl (fun _ => 0))), (b 0, .inr (6, [.int 0, .int 0, .ref (b 1)])), (b 1, .inl (gI g, 14, .inl (fun _ => 0)))] := hD
  refine lv_aload_n hx hb dX6_become_8 rfl (lv_at hl 0 rfl) ?_
  refine lv_aload_n hx hb dX6_become_9 rfl (lv_at hl 1 rfl) ?_
  refine va_get (ci := 6) (C := RX6) (T := TX6) (N := 3) hx hb hts inlX6 hown hKW.1 hP 2 rfl rfl 1 (by decide) (hts _ wd_9_23) (fun _ h => h) rfl dX6_become_10 ?_
  refine va_put (ci := 6) (v := .int 0) (C := RX6) (T := TX6) (N := 3) hx hb hts inlX6 tyX6 tyX6_ok nmX6 hown hKW.1 hP hD hS 0 rfl rfl 1 (by decide) (hts _ wd_9_23) (fun _ h => h) rfl (tyX6_ok 1 (by decide)) rfl rfl (Nat.le_of_ble_eq_true rfl) dX6_become_13 (fun H locs hP hD hS => ?_)
  have hP : va_P g.1 vwCl [(a 0, .inr (6, [.int 0, .int 0, .ref (a 1)])), (a 1, .inl (gI g, 14, .inl (fun _ => 0))), (b 0, .inr (6, [.int 0, .int 0, .ref (b 1)])), (b 1, .inl (gI g, 14, .inl (fun _ => 0)))] H := hP
  have hD : va_D A [(a 0, .inr (6, [.int 0, .int 0, .ref (a 1)])), (a 1, .inl (gI g, 14, .inl (fun _ => 0))), (b 0, .inr (6, [.int 0, .int 0, .ref (b 1)])), (b 1, .inl (gI g, 14, .inl (fun _ => 0)))] := hD
  refine lv_aload_n hx hb dX6_become_16 rfl (lv_at hl 1 rfl) ?_
  refine va_get (ci := 6) (C := RX6) (T := TX6) (N := 3) hx hb hts inlX6 hown hKW.1 hP 2 rfl rfl 2 (by decide) (hts _ wd_4_23) (fun _ h => h) rfl dX6_become_17 ?_
  refine lv_iconst (v := 0) hx hb dX6_become_20 (by decide) ?_
  refine lv_aload_n hx hb dX6_become_21 rfl (lv_at hl 0 rfl) ?_
  refine va_get (ci := 6) (C := RX6) (T := TX6) (N := 3) hx hb hts inlX6 hown hKW.1 hP 0 rfl rfl 2 (by decide) (hts _ wd_4_23) (fun _ h => h) rfl dX6_become_22 ?_
  refine lv_iconst (v := 0) hx hb dX6_become_25 (by decide) ?_
  refine lv_bipush (v := 14) hx hb dX6_become_26 (by decide) ?_
  refine va_copyi hx hb (hml.trans hl.1.symm) hown (hts _ wd_10_0) (hts _ wd_8_9) (hts _ wd_8_10) (hts _ wd_8_11) hKW.1 hP hD hS 3 1 0 0 rfl rfl rfl rfl rfl (by decide) (by decide) (by decide) (by decide) (by decide) (fun _ _ => rfl) (Nat.le_of_ble_eq_true rfl) (Nat.le_of_ble_eq_true (by decide)) dX6_become_28 (fun H locs hP hD hS => ?_)
  have hP : va_P g.1 vwCl [(a 0, .inr (6, [.int 0, .int 0, .ref (a 1)])), (a 1, .inl (gI g, 14, .inl (va_cpy (fun _ => 0) (fun _ => 0) 0 0 14))), (b 0, .inr (6, [.int 0, .int 0, .ref (b 1)])), (b 1, .inl (gI g, 14, .inl (fun _ => 0)))] H := hP
  have hD : va_D A [(a 0, .inr (6, [.int 0, .int 0, .ref (a 1)])), (a 1, .inl (gI g, 14, .inl (va_cpy (fun _ => 0) (fun _ => 0) 0 0 14))), (b 0, .inr (6, [.int 0, .int 0, .ref (b 1)])), (b 1, .inl (gI g, 14, .inl (fun _ => 0)))] := hD
  obtain ⟨f_1, ef_1⟩ : ∃ zz_ : Nat → Int32, zz_ = va_cpy (fun _ => 0) (fun _ => 0) 0 0 14 := ⟨_, rfl⟩
  rw [← ef_1] at hP hD
  exact k_vret () [2, 3] hx hb hr hlk hP hD hS trivial rfl rfl rfl (Nat.le_of_ble_eq_true rfl) (Nat.le_of_ble_eq_true rfl) dX6_become_31
theorem dX4_become_0 : decode cX4_become 0 = .ok (.aload_n 0, 1) := by decide +kernel
theorem dX4_become_1 : decode cX4_become 1 = .ok (.getfield 12, 3) := by decide +kernel
theorem dX4_become_4 : decode cX4_become 4 = .ok (.aload_n 1, 1) := by decide +kernel
theorem dX4_become_5 : decode cX4_become 5 = .ok (.getfield 12, 3) := by decide +kernel
theorem dX4_become_8 : decode cX4_become 8 = .ok (.invokevirtual 143, 3) := by decide +kernel
theorem dX4_become_11 : decode cX4_become 11 = .ok (.aload_n 0, 1) := by decide +kernel
theorem dX4_become_12 : decode cX4_become 12 = .ok (.getfield 21, 3) := by decide +kernel
theorem dX4_become_15 : decode cX4_become 15 = .ok (.aload_n 1, 1) := by decide +kernel
theorem dX4_become_16 : decode cX4_become 16 = .ok (.getfield 21, 3) := by decide +kernel
theorem dX4_become_19 : decode cX4_become 19 = .ok (.invokevirtual 147, 3) := by decide +kernel
theorem dX4_become_22 : decode cX4_become 22 = .ok (.aload_n 0, 1) := by decide +kernel
theorem dX4_become_23 : decode cX4_become 23 = .ok (.getfield 28, 3) := by decide +kernel
theorem dX4_become_26 : decode cX4_become 26 = .ok (.aload_n 1, 1) := by decide +kernel
theorem dX4_become_27 : decode cX4_become 27 = .ok (.getfield 28, 3) := by decide +kernel
theorem dX4_become_30 : decode cX4_become 30 = .ok (.invokevirtual 150, 3) := by decide +kernel
theorem dX4_become_33 : decode cX4_become 33 = .ok (.aload_n 0, 1) := by decide +kernel
theorem dX4_become_34 : decode cX4_become 34 = .ok (.getfield 35, 3) := by decide +kernel
theorem dX4_become_37 : decode cX4_become 37 = .ok (.aload_n 1, 1) := by decide +kernel
theorem dX4_become_38 : decode cX4_become 38 = .ok (.getfield 35, 3) := by decide +kernel
theorem dX4_become_41 : decode cX4_become 41 = .ok (.invokevirtual 153, 3) := by decide +kernel
theorem dX4_become_44 : decode cX4_become 44 = .ok (.aload_n 0, 1) := by decide +kernel
theorem dX4_become_45 : decode cX4_become 45 = .ok (.getfield 39, 3) := by decide +kernel
theorem dX4_become_48 : decode cX4_become 48 = .ok (.aload_n 1, 1) := by decide +kernel
theorem dX4_become_49 : decode cX4_become 49 = .ok (.getfield 39, 3) := by decide +kernel
theorem dX4_become_52 : decode cX4_become 52 = .ok (.invokevirtual 153, 3) := by decide +kernel
theorem dX4_become_55 : decode cX4_become 55 = .ok (.aload_n 0, 1) := by decide +kernel
theorem dX4_become_56 : decode cX4_become 56 = .ok (.getfield 45, 3) := by decide +kernel
theorem dX4_become_59 : decode cX4_become 59 = .ok (.aload_n 1, 1) := by decide +kernel
theorem dX4_become_60 : decode cX4_become 60 = .ok (.getfield 45, 3) := by decide +kernel
theorem dX4_become_63 : decode cX4_become 63 = .ok (.invokevirtual 156, 3) := by decide +kernel
theorem dX4_become_66 : decode cX4_become 66 = .ok (.aload_n 1, 1) := by decide +kernel
theorem dX4_become_67 : decode cX4_become 67 = .ok (.getfield 49, 3) := by decide +kernel
theorem dX4_become_70 : decode cX4_become 70 = .ok (.iconst 0, 1) := by decide +kernel
theorem dX4_become_71 : decode cX4_become 71 = .ok (.aload_n 0, 1) := by decide +kernel
theorem dX4_become_72 : decode cX4_become 72 = .ok (.getfield 49, 3) := by decide +kernel
theorem dX4_become_75 : decode cX4_become 75 = .ok (.iconst 0, 1) := by decide +kernel
theorem dX4_become_76 : decode cX4_become 76 = .ok (.bipush 60, 2) := by decide +kernel
theorem dX4_become_78 : decode cX4_become 78 = .ok (.invokestatic 159, 3) := by decide +kernel
theorem dX4_become_81 : decode cX4_become 81 = .ok (.aload_n 0, 1) := by decide +kernel
theorem dX4_become_82 : decode cX4_become 82 = .ok (.aload_n 1, 1) := by decide +kernel
theorem dX4_become_83 : decode cX4_become 83 = .ok (.getfield 60, 3) := by decide +kernel
theorem dX4_become_86 : decode cX4_become 86 = .ok (.putfield 60, 3) := by decide +kernel
theorem dX4_become_89 : decode cX4_become 89 = .ok (.aload_n 0, 1) := by decide +kernel
theorem dX4_become_90 : decode cX4_become 90 = .ok (.aload_n 1, 1) := by decide +kernel
theorem dX4_become_91 : decode cX4_become 91 = .ok (.getfield 93, 3) := by decide +kernel
theorem dX4_become_94 : decode cX4_become 94 = .ok (.putfield 93, 3) := by decide +kernel
theorem dX4_become_97 : decode cX4_become 97 = .ok (.aload_n 0, 1) := by decide +kernel
theorem dX4_become_98 : decode cX4_become 98 = .ok (.aload_n 1, 1) := by decide +kernel
theorem dX4_become_99 : decode cX4_become 99 = .ok (.getfield 53, 3) := by decide +kernel
theorem dX4_become_102 : decode cX4_become 102 = .ok (.putfield 53, 3) := by decide +kernel
theorem dX4_become_105 : decode cX4_become 105 = .ok (.aload_n 0, 1) := by decide +kernel
theorem dX4_become_106 : decode cX4_become 106 = .ok (.aload_n 1, 1) := by decide +kernel
theorem dX4_become_107 : decode cX4_become 107 = .ok (.getfield 57, 3) := by decide +kernel
theorem dX4_become_110 : decode cX4_become 110 = .ok (.putfield 57, 3) := by decide +kernel
theorem dX4_become_113 : decode cX4_become 113 = .ok (.return_, 1) := by decide +kernel
set_option maxHeartbeats 4000000 in
set_option maxRecDepth 100000 in
theorem c_X4_become (l : Launch) (g : kG) (sz : Nat) (a : Nat → Nat) (b : Nat → Nat) : kMv l g yX4_become cX4_become 2 none 2 0 0 [.ref (a 0), .ref (b 0)] sz [(a 0, .inr (4, [.ref (a 1), .ref (a 5), .ref (a 8), .ref (a 17), .ref (a 21), .ref (a 25), .ref (a 27), .int 0, .int 0, .int 36, .int 10])), (a 1, .inr (8, [.int 0, .ref (a 2), .ref (a 3), .ref (a 4)])), (a 2, .inl (gI g, 5, .inl (fun _ => 0))), (a 3, .inl (gI g, 5, .inl (fun _ => 0))), (a 4, .inl (gI g, 5, .inl (fun _ => 0))), (a 5, .inr (1, [.int 0, .ref (a 6), .ref (a 7), .int 0])), (a 6, .inl (gI g, 7, .inl (fun _ => 0))), (a 7, .inl (gI g, 7, .inl (fun _ => 0))), (a 8, .inr (0, [.int 0, .ref (a 9), .ref (a 10), .ref (a 11), .ref (a 12), .ref (a 13), .ref (a 14), .ref (a 15), .int 0, .int 0, .int 0, .ref (a 16)])), (a 9, .inl (gI g, 10, .inl (fun _ => 0))), (a 10, .inl (gI g, 10, .inl (fun _ => 0))), (a 11, .inl (gI g, 10, .inl (fun _ => 0))), (a 12, .inl (gI g, 10, .inl (fun _ => 0))), (a 13, .inl (gI g, 10, .inl (fun _ => 0))), (a 14, .inl (gI g, 10, .inl (fun _ => 0))), (a 15, .inl (gI g, 10, .inl (fun _ => 0))), (a 16, .inl (gI g, 10, .inl (fun _ => 0))), (a 17, .inr (3, [.int 0, .ref (a 18), .ref (a 19), .ref (a 20)])), (a 18, .inl (gI g, 40, .inl (fun _ => 0))), (a 19, .inl (gI g, 40, .inl (fun _ => 0))), (a 20, .inl (gI g, 40, .inl (fun _ => 0))), (a 21, .inr (3, [.int 0, .ref (a 22), .ref (a 23), .ref (a 24)])), (a 22, .inl (gI g, 40, .inl (fun _ => 0))), (a 23, .inl (gI g, 40, .inl (fun _ => 0))), (a 24, .inl (gI g, 40, .inl (fun _ => 0))), (a 25, .inr (6, [.int 0, .int 0, .ref (a 26)])), (a 26, .inl (gI g, 14, .inl (fun _ => 0))), (a 27, .inl (gI g, 60, .inl (fun _ => 0))), (b 0, .inr (4, [.ref (b 1), .ref (b 5), .ref (b 8), .ref (b 17), .ref (b 21), .ref (b 25), .ref (b 27), .int 0, .int 0, .int 36, .int 10])), (b 1, .inr (8, [.int 0, .ref (b 2), .ref (b 3), .ref (b 4)])), (b 2, .inl (gI g, 5, .inl (fun _ => 0))), (b 3, .inl (gI g, 5, .inl (fun _ => 0))), (b 4, .inl (gI g, 5, .inl (fun _ => 0))), (b 5, .inr (1, [.int 0, .ref (b 6), .ref (b 7), .int 0])), (b 6, .inl (gI g, 7, .inl (fun _ => 0))), (b 7, .inl (gI g, 7, .inl (fun _ => 0))), (b 8, .inr (0, [.int 0, .ref (b 9), .ref (b 10), .ref (b 11), .ref (b 12), .ref (b 13), .ref (b 14), .ref (b 15), .int 0, .int 0, .int 0, .ref (b 16)])), (b 9, .inl (gI g, 10, .inl (fun _ => 0))), (b 10, .inl (gI g, 10, .inl (fun _ => 0))), (b 11, .inl (gI g, 10, .inl (fun _ => 0))), (b 12, .inl (gI g, 10, .inl (fun _ => 0))), (b 13, .inl (gI g, 10, .inl (fun _ => 0))), (b 14, .inl (gI g, 10, .inl (fun _ => 0))), (b 15, .inl (gI g, 10, .inl (fun _ => 0))), (b 16, .inl (gI g, 10, .inl (fun _ => 0))), (b 17, .inr (3, [.int 0, .ref (b 18), .ref (b 19), .ref (b 20)])), (b 18, .inl (gI g, 40, .inl (fun _ => 0))), (b 19, .inl (gI g, 40, .inl (fun _ => 0))), (b 20, .inl (gI g, 40, .inl (fun _ => 0))), (b 21, .inr (3, [.int 0, .ref (b 22), .ref (b 23), .ref (b 24)])), (b 22, .inl (gI g, 40, .inl (fun _ => 0))), (b 23, .inl (gI g, 40, .inl (fun _ => 0))), (b 24, .inl (gI g, 40, .inl (fun _ => 0))), (b 25, .inr (6, [.int 0, .int 0, .ref (b 26)])), (b 26, .inl (gI g, 14, .inl (fun _ => 0))), (b 27, .inl (gI g, 60, .inl (fun _ => 0)))] (fun (u : Unit) => True) (fun (u : Unit) => ([(b 0, .inr (4, [.ref (b 1), .ref (b 5), .ref (b 8), .ref (b 17), .ref (b 21), .ref (b 25), .ref (b 27), .int 0, .int 0, .int 36, .int 10])), (b 1, .inr (8, [.int 0, .ref (b 2), .ref (b 3), .ref (b 4)])), (b 2, .inl (gI g, 5, .inl (fun _ => 0))), (b 3, .inl (gI g, 5, .inl (fun _ => 0))), (b 4, .inl (gI g, 5, .inl (fun _ => 0))), (b 5, .inr (1, [.int 0, .ref (b 6), .ref (b 7), .int 0])), (b 6, .inl (gI g, 7, .inl (fun _ => 0))), (b 7, .inl (gI g, 7, .inl (fun _ => 0))), (b 8, .inr (0, [.int 0, .ref (b 9), .ref (b 10), .ref (b 11), .ref (b 12), .ref (b 13), .ref (b 14), .ref (b 15), .int 0, .int 0, .int 0, .ref (b 16)])), (b 9, .inl (gI g, 10, .inl (fun _ => 0))), (b 10, .inl (gI g, 10, .inl (fun _ => 0))), (b 11, .inl (gI g, 10, .inl (fun _ => 0))), (b 12, .inl (gI g, 10, .inl (fun _ => 0))), (b 13, .inl (gI g, 10, .inl (fun _ => 0))), (b 14, .inl (gI g, 10, .inl (fun _ => 0))), (b 15, .inl (gI g, 10, .inl (fun _ => 0))), (b 16, .inl (gI g, 10, .inl (fun _ => 0))), (b 17, .inr (3, [.int 0, .ref (b 18), .ref (b 19), .ref (b 20)])), (b 18, .inl (gI g, 40, .inl (fun _ => 0))), (b 19, .inl (gI g, 40, .inl (fun _ => 0))), (b 20, .inl (gI g, 40, .inl (fun _ => 0))), (b 21, .inr (3, [.int 0, .ref (b 22), .ref (b 23), .ref (b 24)])), (b 22, .inl (gI g, 40, .inl (fun _ => 0))), (b 23, .inl (gI g, 40, .inl (fun _ => 0))), (b 24, .inl (gI g, 40, .inl (fun _ => 0))), (b 25, .inr (6, [.int 0, .int 0, .ref (b 26)])), (b 26, .inl (gI g, 14, .inl (fun _ => 0))), (b 27, .inl (gI g, 60, .inl (fun _ => 0)))] : va_W)) := by
  refine kMv.of (by decide) (Nat.le_of_ble_eq_true rfl) (fun p e s m below meth c A hx hb hr hml hown hts hlk hnm hKW hP hD hS hA ls hl => ?_)
  have hown : s.vm.findClass RX4 = some m.cls := hown
  have hl : lv_has ls 2 [(0, .ref (a 0)), (1, .ref (b 0))] := hl
  refine lv_aload_n hx hb dX4_become_0 rfl (lv_at hl 0 rfl) ?_
  refine va_get (ci := 4) (C := RX4) (T := TX4) (N := 11) hx hb hts inlX4 hown hKW.1 hP 0 rfl rfl 0 (by decide) (hts _ wd_2_18) (fun _ h => h) rfl dX4_become_1 ?_
  refine lv_aload_n hx hb dX4_become_4 rfl (lv_at hl 1 rfl) ?_
  refine va_get (ci := 4) (C := RX4) (T := TX4) (N := 11) hx hb hts inlX4 hown hKW.1 hP 28 rfl rfl 0 (by decide) (hts _ wd_2_18) (fun _ h => h) rfl dX4_become_5 ?_
  refine k_Vv [1, 2, 3, 4, 29, 30, 31, 32] [0, 5, 6, 7, 8, 9, 10, 11, 12, 13, 14, 15, 16, 17, 18, 19, 20, 21, 22, 23, 24, 25, 26, 27, 28, 33, 34, 35, 36, 37, 38, 39, 40, 41, 42, 43, 44, 45, 46, 47, 48, 49, 50, 51, 52, 53, 54, 55] 1 8 (wr := [(a 0, .inr (4, [.ref (a 1), .ref (a 5), .ref (a 8), .ref (a 17), .ref (a 21), .ref (a 25), .ref (a 27), .int 0, .int 0, .int 36, .int 10])), (a 5, .inr (1, [.int 0, .ref (a 6), .ref (a 7), .int 0])), (a 6, .inl (gI g, 7, .inl (fun _ => 0))), (a 7, .inl (gI g, 7, .inl (fun _ => 0))), (a 8, .inr (0, [.int 0, .ref (a 9), .ref (a 10), .ref (a 11), .ref (a 12), .ref (a 13), .ref (a 14), .ref (a 15), .int 0, .int 0, .int 0, .ref (a 16)])), (a 9, .inl (gI g, 10, .inl (fun _ => 0))), (a 10, .inl (gI g, 10, .inl (fun _ => 0))), (a 11, .inl (gI g, 10, .inl (fun _ => 0))), (a 12, .inl (gI g, 10, .inl (fun _ => 0))), (a 13, .inl (gI g, 10, .inl (fun _ => 0))), (a 14, .inl (gI g, 10, .inl (fun _ => 0))), (a 15, .inl (gI g, 10, .inl (fun _ => 0))), (a 16, .inl (gI g, 10, .inl (fun _ => 0))), (a 17, .inr (3, [.int 0, .ref (a 18), .ref (a 19), .ref (a 20)])), (a 18, .inl (gI g, 40, .inl (fun _ => 0))), (a 19, .inl (gI g, 40, .inl (fun _ => 0))), (a 20, .inl (gI g, 40, .inl (fun _ => 0))), (a 21, .inr (3, [.int 0, .ref (a 22), .ref (a 23), .ref (a 24)])), (a 22, .inl (gI g, 40, .inl (fun _ => 0))), (a 23, .inl (gI g, 40, .inl (fun _ => 0))), (a 24, .inl (gI g, 40, .inl (fun _ => 0))), (a 25, .inr (6, [.int 0, .int 0, .ref (a 26)])), (a 26, .inl (gI g, 14, .inl (fun _ => 0))), (a 27, .inl (gI g, 60, .inl (fun _ => 0))), (b 0, .inr (4, [.ref (b 1), .ref (b 5), .ref (b 8), .ref (b 17), .ref (b 21), .ref (b 25), .ref (b 27), .int 0, .int 0, .int 36, .int 10])), (b 5, .inr (1, [.int 0, .ref (b 6), .ref (b 7), .int 0])), (b 6, .inl (gI g, 7, .inl (fun _ => 0))), (b 7, .inl (gI g, 7, .inl (fun _ => 0))), (b 8, .inr (0, [.int 0, .ref (b 9), .ref (b 10), .ref (b 11), .ref (b 12), .ref (b 13), .ref (b 14), .ref (b 15), .int 0, .int 0, .int 0, .ref (b 16)])), (b 9, .inl (gI g, 10, .inl (fun _ => 0))), (b 10, .inl (gI g, 10, .inl (fun _ => 0))), (b 11, .inl (gI g, 10, .inl (fun _ => 0))), (b 12, .inl (gI g, 10, .inl (fun _ => 0))), (b 13, .inl (gI g, 10, .inl (fun _ => 0))), (b 14, .inl (gI g, 10, .inl (fun _ => 0))), (b 15, .inl (gI g, 10, .inl (fun _ => 0))), (b 16, .inl (gI g, 10, .inl (fun _ => 0))), (b 17, .inr (3, [.int 0, .ref (b 18), .ref (b 19), .ref (b 20)])), (b 18, .inl (gI g, 40, .inl (fun _ => 0))), (b 19, .inl (gI g, 40, .inl (fun _ => 0))), (b 20, .inl (gI g, 40, .inl (fun _ => 0))), (b 21, .inr (3, [.int 0, .ref (b 22), .ref (b 23), .ref (b 24)])), (b 22, .inl (gI g, 40, .inl (fun _ => 0))), (b 23, .inl (gI g, 40, .inl (fun _ => 0))), (b 24, .inl (gI g, 40, .inl (fun _ => 0))), (b 25, .inr (6, [.int 0, .int 0, .ref (b 26)])), (b 26, .inl (gI g, 14, .inl (fun _ => 0))), (b 27, .inl (gI g, 60, .inl (fun _ => 0)))]) hx hb hml hown hts hKW hP hD hS hA hl.1 (c_X8_become l g _ (fun k => ([a 1, a 2, a 3, a 4] : List Nat).getD k 0) (fun k => ([b 1, b 2, b 3, b 4] : List Nat).getD k 0) ) rfl rfl rfl wd_8_17 wd_2_17 wd_8_14 wd_8_15 wd_8_16 yd_X8_become ⟨Nat.le_of_ble_eq_true rfl, Nat.le_of_ble_eq_true rfl⟩ rfl rfl rfl rfl rfl (by decide) rfl (Nat.le_of_ble_eq_true rfl) dX4_become_8 ⟨Nat.le_of_ble_eq_true rfl, Nat.le_of_ble_eq_true rfl⟩ (fun u_2 H locs hw_3 hP hD hS => ?_)
  have hP : va_P g.1 vwCl [(a 0, .inr (4, [.ref (a 1), .ref (a 5), .ref (a 8), .ref (a 17), .ref (a 21), .ref (a 25), .ref (a 27), .int 0, .int 0, .int 36, .int 10])), (a 5, .inr (1, [.int 0, .ref (a 6), .ref (a 7), .int 0])), (a 6, .inl (gI g, 7, .inl (fun _ => 0))), (a 7, .inl (gI g, 7, .inl (fun _ => 0))), (a 8, .inr (0, [.int 0, .ref (a 9), .ref (a 10), .ref (a 11), .ref (a 12), .ref (a 13), .ref (a 14), .ref (a 15), .int 0, .int 0, .int 0, .ref (a 16)])), (a 9, .inl (gI g, 10, .inl (fun _ => 0))), (a 10, .inl (gI g, 10, .inl (fun _ => 0))), (a 11, .inl (gI g, 10, .inl (fun _ => 0))), (a 12, .inl (gI g, 10, .inl (fun _ => 0))), (a 13, .inl (gI g, 10, .inl (fun _ => 0))), (a 14, .inl (gI g, 10, .inl (fun _ => 0))), (a 15, .inl (gI g, 10, .inl (fun _ => 0))), (a 16, .inl (gI g, 10, .inl (fun _ => 0))), (a 17, .inr (3, [.int 0, .ref (a 18), .ref (a 19), .ref (a 20)])), (a 18, .inl (gI g, 40, .inl (fun _ => 0))), (a 19, .inl (gI g, 40, .inl (fun _ => 0))), (a 20, .inl (gI g, 40, .inl (fun _ => 0))), (a 21, .inr (3, [.int 0, .ref (a 22), .ref (a 23), .ref (a 24)])), (a 22, .inl (gI g, 40, .inl (fun _ => 0))), (a 23, .inl (gI g, 40, .inl (fun _ => 0))), (a 24, .inl (gI g, 40, .inl (fun _ => 0))), (a 25, .inr (6, [.int 0, .int 0, .ref (a 26)])), (a 26, .inl (gI g, 14, .inl (fun _ => 0))), (a 27, .inl (gI g, 60, .inl (fun _ => 0))), (b 0, .inr (4, [.ref (b 1), .ref (b 5), .ref (b 8), .ref (b 17), .ref (b 21), .ref (b 25), .ref (b 27), .int 0, .int 0, .int 36, .int 10])), (b 5, .inr (1, [.int 0, .ref (b 6), .ref (b 7), .int 0])), (b 6, .inl (gI g, 7, .inl (fun _ => 0))), (b 7, .inl (gI g, 7, .inl (fun _ => 0))), (b 8, .inr (0, [.int 0, .ref (b 9), .ref (b 10), .ref (b 11), .ref (b 12), .ref (b 13), .ref (b 14), .ref (b 15), .int 0, .int 0, .int 0, .ref (b 16)])), (b 9, .inl (gI g, 10, .inl (fun _ => 0))), (b 10, .inl (gI g, 10, .inl (fun _ => 0))), (b 11, .inl (gI g, 10, .inl (fun _ => 0))), (b 12, .inl (gI g, 10, .inl (fun _ => 0))), (b 13, .inl (gI g, 10, .inl (fun _ => 0))), (b 14, .inl (gI g, 10, .inl (fun _ => 0))), (b 15, .inl (gI g, 10, .inl (fun _ => 0))), (b 16, .inl (gI g, 10, .inl (fun _ => 0))), (b 17, .inr (3, [.int 0, .ref (b 18), .ref (b 19), .ref (b 20)])), (b 18, .inl (gI g, 40, .inl (fun _ => 0))), (b 19, .inl (gI g, 40, .inl (fun _ => 0))), (b 20, .inl (gI g, 40, .inl (fun _ => 0))), (b 21, .inr (3, [.int 0, .ref (b 22), .ref (b 23), .ref (b 24)])), (b 22, .inl (gI g, 40, .inl (fun _ => 0))), (b 23, .inl (gI g, 40, .inl (fun _ => 0))), (b 24, .inl (gI g, 40, .inl (fun _ => 0))), (b 25, .inr (6, [.int 0, .int 0, .ref (b 26)])), (b 26, .inl (gI g, 14, .inl (fun _ => 0))), (b 27, .inl (gI g, 60, .inl (fun _ => 0))), (b 1, .inr (8, [.int 0, .ref (b 2), .ref (b 3), .ref (b 4)])), (b 2, .inl (gI g, 5, .inl (fun _ => 0))), (b 3, .inl (gI g, 5, .inl (fun _ => 0))), (b 4, .inl (gI g, 5, .inl (fun _ => 0)))] H := hP
  have hD : va_D A [(a 0, .inr (4, [.ref (a 1), .ref (a 5), .ref (a 8), .ref (a 17), .ref (a 21), .ref (a 25), .ref (a 27), .int 0, .int 0, .int 36, .int 10])), (a 5, .inr (1, [.int 0, .ref (a 6), .ref (a 7), .int 0])), (a 6, .inl (gI g, 7, .inl (fun _ => 0))), (a 7, .inl (gI g, 7, .inl (fun _ => 0))), (a 8, .inr (0, [.int 0, .ref (a 9), .ref (a 10), .ref (a 11), .ref (a 12), .ref (a 13), .ref (a 14), .ref (a 15), .int 0, .int 0, .int 0, .ref (a 16)])), (a 9, .inl (gI g, 10, .inl (fun _ => 0))), (a 10, .inl (gI g, 10, .inl (fun _ => 0))), (a 11, .inl (gI g, 10, .inl (fun _ => 0))), (a 12, .inl (gI g, 10, .inl (fun _ => 0))), (a 13, .inl (gI g, 10, .inl (fun _ => 0))), (a 14, .inl (gI g, 10, .inl (fun _ => 0))), (a 15, .inl (gI g, 10, .inl (fun _ => 0))), (a 16, .inl (gI g, 10, .inl (fun _ => 0))), (a 17, .inr (3, [.int 0, .ref (a 18), .ref (a 19), .ref (a 20)])), (a 18, .inl (gI g, 40, .inl (fun _ => 0))), (a 19, .inl (gI g, 40, .inl (fun _ => 0))), (a 20, .inl (gI g, 40, .inl (fun _ => 0))), (a 21, .inr (3, [.int 0, .ref (a 22), .ref (a 23), .ref (a 24)])), (a 22, .inl (gI g, 40, .inl (fun _ => 0))), (a 23, .inl (gI g, 40, .inl (fun _ => 0))), (a 24, .inl (gI g, 40, .inl (fun _ => 0))), (a 25, .inr (6, [.int 0, .int 0, .ref (a 26)])), (a 26, .inl (gI g, 14, .inl (fun _ => 0))), (a 27, .inl (gI g, 60, .inl (fun _ => 0))), (b 0, .inr (4, [.ref (b 1), .ref (b 5), .ref (b 8), .ref (b 17), .ref (b 21), .ref (b 25), .ref (b 27), .int 0, .int 0, .int 36, .int 10])), (b 5, .inr (1, [.int 0, .ref (b 6), .ref (b 7), .int 0])), (b 6, .inl (gI g, 7, .inl (fun _ => 0))), (b 7, .inl (gI g, 7, .inl (fun _ => 0))), (b 8, .inr (0, [.int 0, .ref (b 9), .ref (b 10), .ref (b 11), .ref (b 12), .ref (b 13), .ref (b 14), .ref (b 15), .int 0, .int 0, .int 0, .ref (b 16)])), (b 9, .inl (gI g, 10, .inl (fun _ => 0))), (b 10, .inl (gI g, 10, .inl (fun _ => 0))), (b 11, .inl (gI g, 10, .inl (fun _ => 0))), (b 12, .inl (gI g, 10, .inl (fun _ => 0))), (b 13, .inl (gI g, 10, .inl (fun _ => 0))), (b 14, .inl (gI g, 10, .inl (fun _ => 0))), (b 15, .inl (gI g, 10, .inl (fun _ => 0))), (b 16, .inl (gI g, 10, .inl (fun _ => 0))), (b 17, .inr (3, [.int 0, .ref (b 18), .ref (b 19), .ref (b 20)])), (b 18, .inl (gI g, 40, .inl (fun _ => 0))), (b 19, .inl (gI g, 40, .inl (fun _ => 0))), (b 20, .inl (gI g, 40, .inl (fun _ => 0))), (b 21, .inr (3, [.int 0, .ref (b 22), .ref (b 23), .ref (b 24)])), (b 22, .inl (gI g, 40, .inl (fun _ => 0))), (b 23, .inl (gI g, 40, .inl (fun _ => 0))), (b 24, .inl (gI g, 40, .inl (fun _ => 0))), (b 25, .inr (6, [.int 0, .int 0, .ref (b 26)])), (b 26, .inl (gI g, 14, .inl (fun _ => 0))), (b 27, .inl (gI g, 60, .inl (fun _ => 0))), (b 1, .inr (8, [.int 0, .ref (b 2), .ref (b 3), .ref (b 4)])), (b 2, .inl (gI g, 5, .inl (fun _ => 0))), (b 3, .inl (gI g, 5, .inl (fun _ => 0))), (b 4, .inl (gI g, 5, .inl (fun _ => 0)))] := hD
  refine lv_aload_n hx hb dX4_become_11 rfl (lv_at hl 0 rfl) ?_
  refine va_get (ci := 4) (C := RX4) (T := TX4) (N := 11) hx hb hts inlX4 hown hKW.1 hP 0 rfl rfl 1 (by decide) (hts _ wd_2_22) (fun _ h => h) rfl dX4_become_12 ?_
  refine lv_aload_n hx hb dX4_become_15 rfl (lv_at hl 1 rfl) ?_
  refine va_get (ci := 4) (C := RX4) (T := TX4) (N := 11) hx hb hts inlX4 hown hKW.1 hP 24 rfl rfl 1 (by decide) (hts _ wd_2_22) (fun _ h => h) rfl dX4_become_16 ?_
  refine k_Vv [1, 2, 3, 25, 26, 27] [0, 4, 5, 6, 7, 8, 9, 10, 11, 12, 13, 14, 15, 16, 17, 18, 19, 20, 21, 22, 23, 24, 28, 29, 30, 31, 32, 33, 34, 35, 36, 37, 38, 39, 40, 41, 42, 43, 44, 45, 46, 47, 48, 49, 50, 51] 1 1 (wr := [(a 0, .inr (4, [.ref (a 1), .ref (a 5), .ref (a 8), .ref (a 17), .ref (a 21), .ref (a 25), .ref (a 27), .int 0, .int 0, .int 36, .int 10])), (a 8, .inr (0, [.int 0, .ref (a 9), .ref (a 10), .ref (a 11), .ref (a 12), .ref (a 13), .ref (a 14), .ref (a 15), .int 0, .int 0, .int 0, .ref (a 16)])), (a 9, .inl (gI g, 10, .inl (fun _ => 0))), (a 10, .inl (gI g, 10, .inl (fun _ => 0))), (a 11, .inl (gI g, 10, .inl (fun _ => 0))), (a 12, .inl (gI g, 10, .inl (fun _ => 0))), (a 13, .inl (gI g, 10, .inl (fun _ => 0))), (a 14, .inl (gI g, 10, .inl (fun _ => 0))), (a 15, .inl (gI g, 10, .inl (fun _ => 0))), (a 16, .inl (gI g, 10, .inl (fun _ => 0))), (a 17, .inr (3, [.int 0, .ref (a 18), .ref (a 19), .ref (a 20)])), (a 18, .inl (gI g, 40, .inl (fun _ => 0))), (a 19, .inl (gI g, 40, .inl (fun _ => 0))), (a 20, .inl (gI g, 40, .inl (fun _ => 0))), (a 21, .inr (3, [.int 0, .ref (a 22), .ref (a 23), .ref (a 24)])), (a 22, .inl (gI g, 40, .inl (fun _ => 0))), (a 23, .inl (gI g, 40, .inl (fun _ => 0))), (a 24, .inl (gI g, 40, .inl (fun _ => 0))), (a 25, .inr (6, [.int 0, .int 0, .ref (a 26)])), (a 26, .inl (gI g, 14, .inl (fun _ => 0))), (a 27, .inl (gI g, 60, .inl (fun _ => 0))), (b 0, .inr (4, [.ref (b 1), .ref (b 5), .ref (b 8), .ref (b 17), .ref (b 21), .ref (b 25), .ref (b 27), .int 0, .int 0, .int 36, .int 10])), (b 8, .inr (0, [.int 0, .ref (b 9), .ref (b 10), .ref (b 11), .ref (b 12), .ref (b 13), .ref (b 14), .ref (b 15), .int 0, .int 0, .int 0, .ref (b 16)])), (b 9, .inl (gI g, 10, .inl (fun _ => 0))), (b 10, .inl (gI g, 10, .inl (fun _ => 0))), (b 11, .inl (gI g, 10, .inl (fun _ => 0))), (b 12, .inl (gI g, 10, .inl (fun _ => 0))), (b 13, .inl (gI g, 10, .inl (fun _ => 0))), (b 14, .inl (gI g, 10, .inl (fun _ => 0))), (b 15, .inl (gI g, 10, .inl (fun _ => 0))), (b 16, .inl (gI g, 10, .inl (fun _ => 0))), (b 17, .inr (3, [.int 0, .ref (b 18), .ref (b 19), .ref (b 20)])), (b 18, .inl (gI g, 40, .inl (fun _ => 0))), (b 19, .inl (gI g, 40, .inl (fun _ => 0))), (b 20, .inl (gI g, 40, .inl (fun _ => 0))), (b 21, .inr (3, [.int 0, .ref (b 22), .ref (b 23), .ref (b 24)])), (b 22, .inl (gI g, 40, .inl (fun _ => 0))), (b 23, .inl (gI g, 40, .inl (fun _ => 0))), (b 24, .inl (gI g, 40, .inl (fun _ => 0))), (b 25, .inr (6, [.int 0, .int 0, .ref (b 26)])), (b 26, .inl (gI g, 14, .inl (fun _ => 0))), (b 27, .inl (gI g, 60, .inl (fun _ => 0))), (b 1, .inr (8, [.int 0, .ref (b 2), .ref (b 3), .ref (b 4)])), (b 2, .inl (gI g, 5, .inl (fun _ => 0))), (b 3, .inl (gI g, 5, .inl (fun _ => 0))), (b 4, .inl (gI g, 5, .inl (fun _ => 0)))]) hx hb hml hown hts hKW hP hD hS hA hl.1 (c_X1_become l g _ (fun k => ([a 5, a 6, a 7] : List Nat).getD k 0) (fun k => ([b 5, b 6, b 7] : List Nat).getD k 0) ) rfl rfl rfl wd_8_23 wd_2_21 wd_8_20 wd_8_21 wd_8_22 yd_X1_become ⟨Nat.le_of_ble_eq_true rfl, Nat.le_of_ble_eq_true rfl⟩ rfl rfl rfl rfl rfl (by decide) rfl (Nat.le_of_ble_eq_true rfl) dX4_become_19 ⟨Nat.le_of_ble_eq_true rfl, Nat.le_of_ble_eq_true rfl⟩ (fun u_5 H locs hw_6 hP hD hS => ?_)
  have hP : va_P g.1 vwCl [(a 0, .inr (4, [.ref (a 1), .ref (a 5), .ref (a 8), .ref (a 17), .ref (a 21), .ref (a 25), .ref (a 27), .int 0, .int 0, .int 36, .int 10])), (a 8, .inr (0, [.int 0, .ref (a 9), .ref (a 10), .ref (a 11), .ref (a 12), .ref (a 13), .ref (a 14), .ref (a 15), .int 0, .int 0, .int 0, .ref (a 16)])), (a 9, .inl (gI g, 10, .inl (fun _ => 0))), (a 10, .inl (gI g, 10, .inl (fun _ => 0))), (a 11, .inl (gI g, 10, .inl (fun _ => 0))), (a 12, .inl (gI g, 10, .inl (fun _ => 0))), (a 13, .inl (gI g, 10, .inl (fun _ => 0))), (a 14, .inl (gI g, 10, .inl (fun _ => 0))), (a 15, .inl (gI g, 10, .inl (fun _ => 0))), (a 16, .inl (gI g, 10, .inl (fun _ => 0))), (a 17, .inr (3, [.int 0, .ref (a 18), .ref (a 19), .ref (a 20)])), (a 18, .inl (gI g, 40, .inl (fun _ => 0))), (a 19, .inl (gI g, 40, .inl (fun _ => 0))), (a 20, .inl (gI g, 40, .inl (fun _ => 0))), (a 21, .inr (3, [.int 0, .ref (a 22), .ref (a 23), .ref (a 24)])), (a 22, .inl (gI g, 40, .inl (fun _ => 0))), (a 23, .inl (gI g, 40, .inl (fun _ => 0))), (a 24, .inl (gI g, 40, .inl (fun _ => 0))), (a 25, .inr (6, [.int 0, .int 0, .ref (a 26)])), (a 26, .inl (gI g, 14, .inl (fun _ => 0))), (a 27, .inl (gI g, 60, .inl (fun _ => 0))), (b 0, .inr (4, [.ref (b 1), .ref (b 5), .ref (b 8), .ref (b 17), .ref (b 21), .ref (b 25), .ref (b 27), .int 0, .int 0, .int 36, .int 10])), (b 8, .inr (0, [.int 0, .ref (b 9), .ref (b 10), .ref (b 11), .ref (b 12), .ref (b 13), .ref (b 14), .ref (b 15), .int 0, .int 0, .int 0, .ref (b 16)])), (b 9, .inl (gI g, 10, .inl (fun _ => 0))), (b 10, .inl (gI g, 10, .inl (fun _ => 0))), (b 11, .inl (gI g, 10, .inl (fun _ => 0))), (b 12, .inl (gI g, 10, .inl (fun _ => 0))), (b 13, .inl (gI g, 10, .inl (fun _ => 0))), (b 14, .inl (gI g, 10, .inl (fun _ => 0))), (b 15, .inl (gI g, 10, .inl (fun _ => 0))), (b 16, .inl (gI g, 10, .inl (fun _ => 0))), (b 17, .inr (3, [.int 0, .ref (b 18), .ref (b 19), .ref (b 20)])), (b 18, .inl (gI g, 40, .inl (fun _ => 0))), (b 19, .inl (gI g, 40, .inl (fun _ => 0))), (b 20, .inl (gI g, 40, .inl (fun _ => 0))), (b 21, .inr (3, [.int 0, .ref (b 22), .ref (b 23), .ref (b 24)])), (b 22, .inl (gI g, 40, .inl (fun _ => 0))), (b 23, .inl (gI g, 40, .inl (fun _ => 0))), (b 24, .inl (gI g, 40, .inl (fun _ => 0))), (b 25, .inr (6, [.int 0, .int 0, .ref (b 26)])), (b 26, .inl (gI g, 14, .inl (fun _ => 0))), (b 27, .inl (gI g, 60, .inl (fun _ => 0))), (b 1, .inr (8, [.int 0, .ref (b 2), .ref (b 3), .ref (b 4)])), (b 2, .inl (gI g, 5, .inl (fun _ => 0))), (b 3, .inl (gI g, 5, .inl (fun _ => 0))), (b 4, .inl (gI g, 5, .inl (fun _ => 0))), (b 5, .inr (1, [.int 0, .ref (b 6), .ref (b 7), .int 0])), (b 6, .inl (gI g, 7, .inl (fun _ => 0))), (b 7, .inl (gI g, 7, .inl (fun _ => 0)))] H := hP
  have hD : va_D A [(a 0, .inr (4, [.ref (a 1), .ref (a 5), .ref (a 8), .ref (a 17), .ref (a 21), .ref (a 25), .ref (a 27), .int 0, .int 0, .int 36, .int 10])), (a 8, .inr (0, [.int 0, .ref (a 9), .ref (a 10), .ref (a 11), .ref (a 12), .ref (a 13), .ref (a 14), .ref (a 15), .int 0, .int 0, .int 0, .ref (a 16)])), (a 9, .inl (gI g, 10, .inl (fun _ => 0))), (a 10, .inl (gI g, 10, .inl (fun _ => 0))), (a 11, .inl (gI g, 10, .inl (fun _ => 0))), (a 12, .inl (gI g, 10, .inl (fun _ => 0))), (a 13, .inl (gI g, 10, .inl (fun _ => 0))), (a 14, .inl (gI g, 10, .inl (fun _ => 0))), (a 15, .inl (gI g, 10, .inl (fun _ => 0))), (a 16, .inl (gI g, 10, .inl (fun _ => 0))), (a 17, .inr (3, [.int 0, .ref (a 18), .ref (a 19), .ref (a 20)])), (a 18, .inl (gI g, 40, .inl (fun _ => 0))), (a 19, .inl (gI g, 40, .inl (fun _ => 0))), (a 20, .inl (gI g, 40, .inl (fun _ => 0))), (a 21, .inr (3, [.int 0, .ref (a 22), .ref (a 23), .ref (a 24)])), (a 22, .inl (gI g, 40, .inl (fun _ => 0))), (a 23, .inl (gI g, 40, .inl (fun _ => 0))), (a 24, .inl (gI g, 40, .inl (fun _ => 0))), (a 25, .inr (6, [.int 0, .int 0, .ref (a 26)])), (a 26, .inl (gI g, 14, .inl (fun _ => 0))), (a 27, .inl (gI g, 60, .inl (fun _ => 0))), (b 0, .inr (4, [.ref (b 1), .ref (b 5), .ref (b 8), .ref (b 17), .ref (b 21), .ref (b 25), .ref (b 27), .int 0, .int 0, .int 36, .int 10])), (b 8, .inr (0, [.int 0, .ref (b 9), .ref (b 10), .ref (b 11), .ref (b 12), .ref (b 13), .ref (b 14), .ref (b 15), .int 0, .int 0, .int 0, .ref (b 16)])), (b 9, .inl (gI g, 10, .inl (fun _ => 0))), (b 10, .inl (gI g, 10, .inl (fun _ => 0))), (b 11, .inl (gI g, 10, .inl (fun _ => 0))), (b 12, .inl (gI g, 10, .inl (fun _ => 0))), (b 13, .inl (gI g, 10, .inl (fun _ => 0))), (b 14, .inl (gI g, 10, .inl (fun _ => 0))), (b 15, .inl (gI g, 10, .inl (fun _ => 0))), (b 16, .inl (gI g, 10, .inl (fun _ => 0))), (b 17, .inr (3, [.int 0, .ref (b 18), .ref (b 19), .ref (b 20)])), (b 18, .inl (gI g, 40, .inl (fun _ => 0))), (b 19, .inl (gI g, 40, .inl (fun _ => 0))), (b 20, .inl (gI g, 40, .inl (fun _ => 0))), (b 21, .inr (3, [.int 0, .ref (b 22), .ref (b 23), .ref (b 24)])), (b 22, .inl (gI g, 40, .inl (fun _ => 0))), (b 23, .inl (gI g, 40, .inl (fun _ => 0))), (b 24, .inl (gI g, 40, .inl (fun _ => 0))), (b 25, .inr (6, [.int 0, .int 0, .ref (b 26)])), (b 26, .inl (gI g, 14, .inl (fun _ => 0))), (b 27, .inl (gI g, 60, .inl (fun _ => 0))), (b 1, .inr (8, [.int 0, .ref (b 2), .ref (b 3), .ref (b 4)])), (b 2, .inl (gI g, 5, .inl (fun _ => 0))), (b 3, .inl (gI g, 5, .inl (fun _ => 0))), (b 4, .inl (gI g, 5, .inl (fun _ => 0))), (b 5, .inr (1, [.int 0, .ref (b 6), .ref (b 7), .int 0])), (b 6, .inl (gI g, 7, .inl (fun _ => 0))), (b 7, .inl (gI g, 7, .inl (fun _ => 0)))] := hD
  refine lv_aload_n hx hb dX4_become_22 rfl (lv_at hl 0 rfl) ?_
  refine va_get (ci := 4) (C := RX4) (T := TX4) (N := 11) hx hb hts inlX4 hown hKW.1 hP 0 rfl rfl 2 (by decide) (hts _ wd_3_2) (fun _ h => h) rfl dX4_become_23 ?_
  refine lv_aload_n hx hb dX4_become_26 rfl (lv_at hl 1 rfl) ?_
  refine va_get (ci := 4) (C := RX4) (T := TX4) (N := 11) hx hb hts inlX4 hown hKW.1 hP 21 rfl rfl 2 (by decide) (hts _ wd_3_2) (fun _ h => h) rfl dX4_become_27 ?_
  refine k_Vv [1, 2, 3, 4, 5, 6, 7, 8, 9, 22, 23, 24, 25, 26, 27, 28, 29, 30] [0, 10, 11, 12, 13, 14, 15, 16, 17, 18, 19, 20, 21, 31, 32, 33, 34, 35, 36, 37, 38, 39, 40, 41, 42, 43, 44, 45, 46, 47, 48] 1 0 (wr := [(a 0, .inr (4, [.ref (a 1), .ref (a 5), .ref (a 8), .ref (a 17), .ref (a 21), .ref (a 25), .ref (a 27), .int 0, .int 0, .int 36, .int 10])), (a 17, .inr (3, [.int 0, .ref (a 18), .ref (a 19), .ref (a 20)])), (a 18, .inl (gI g, 40, .inl (fun _ => 0))), (a 19, .inl (gI g, 40, .inl (fun _ => 0))), (a 20, .inl (gI g, 40, .inl (fun _ => 0))), (a 21, .inr (3, [.int 0, .ref (a 22), .ref (a 23), .ref (a 24)])), (a 22, .inl (gI g, 40, .inl (fun _ => 0))), (a 23, .inl (gI g, 40, .inl (fun _ => 0))), (a 24, .inl (gI g, 40, .inl (fun _ => 0))), (a 25, .inr (6, [.int 0, .int 0, .ref (a 26)])), (a 26, .inl (gI g, 14, .inl (fun _ => 0))), (a 27, .inl (gI g, 60, .inl (fun _ => 0))), (b 0, .inr (4, [.ref (b 1), .ref (b 5), .ref (b 8), .ref (b 17), .ref (b 21), .ref (b 25), .ref (b 27), .int 0, .int 0, .int 36, .int 10])), (b 17, .inr (3, [.int 0, .ref (b 18), .ref (b 19), .ref (b 20)])), (b 18, .inl (gI g, 40, .inl (fun _ => 0))), (b 19, .inl (gI g, 40, .inl (fun _ => 0))), (b 20, .inl (gI g, 40, .inl (fun _ => 0))), (b 21, .inr (3, [.int 0, .ref (b 22), .ref (b 23), .ref (b 24)])), (b 22, .inl (gI g, 40, .inl (fun _ => 0))), (b 23, .inl (gI g, 40, .inl (fun _ => 0))), (b 24, .inl (gI g, 40, .inl (fun _ => 0))), (b 25, .inr (6, [.int 0, .int 0, .ref (b 26)])), (b 26, .inl (gI g, 14, .inl (fun _ => 0))), (b 27, .inl (gI g, 60, .inl (fun _ => 0))), (b 1, .inr (8, [.int 0, .ref (b 2), .ref (b 3), .ref (b 4)])), (b 2, .inl (gI g, 5, .inl (fun _ => 0))), (b 3, .inl (gI g, 5, .inl (fun _ => 0))), (b 4, .inl (gI g, 5, .inl (fun _ => 0))), (b 5, .inr (1, [.int 0, .ref (b 6), .ref (b 7), .int 0])), (b 6, .inl (gI g, 7, .inl (fun _ => 0))), (b 7, .inl (gI g, 7, .inl (fun _ => 0)))]) hx hb hml hown hts hKW hP hD hS hA hl.1 (c_X0_become l g _ (fun k => ([a 8, a 9, a 10, a 11, a 12, a 13, a 14, a 15, a 16] : List Nat).getD k 0) (fun k => ([b 8, b 9, b 10, b 11, b 12, b 13, b 14, b 15, b 16] : List Nat).getD k 0) ) rfl rfl rfl wd_9_6 wd_3_1 wd_9_3 wd_9_4 wd_9_5 yd_X0_become ⟨Nat.le_of_ble_eq_true rfl, Nat.le_of_ble_eq_true rfl⟩ rfl rfl rfl rfl rfl (by decide) rfl (Nat.le_of_ble_eq_true rfl) dX4_become_30 ⟨Nat.le_of_ble_eq_true rfl, Nat.le_of_ble_eq_true rfl⟩ (fun u_8 H locs hw_9 hP hD hS => ?_)
  have hP : va_P g.1 vwCl [(a 0, .inr (4, [.ref (a 1), .ref (a 5), .ref (a 8), .ref (a 17), .ref (a 21), .ref (a 25), .ref (a 27), .int 0, .int 0, .int 36, .int 10])), (a 17, .inr (3, [.int 0, .ref (a 18), .ref (a 19), .ref (a 20)])), (a 18, .inl (gI g, 40, .inl (fun _ => 0))), (a 19, .inl (gI g, 40, .inl (fun _ => 0))), (a 20, .inl (gI g, 40, .inl (fun _ => 0))), (a 21, .inr (3, [.int 0, .ref (a 22), .ref (a 23), .ref (a 24)])), (a 22, .inl (gI g, 40, .inl (fun _ => 0))), (a 23, .inl (gI g, 40, .inl (fun _ => 0))), (a 24, .inl (gI g, 40, .inl (fun _ => 0))), (a 25, .inr (6, [.int 0, .int 0, .ref (a 26)])), (a 26, .inl (gI g, 14, .inl (fun _ => 0))), (a 27, .inl (gI g, 60, .inl (fun _ => 0))), (b 0, .inr (4, [.ref (b 1), .ref (b 5), .ref (b 8), .ref (b 17), .ref (b 21), .ref (b 25), .ref (b 27), .int 0, .int 0, .int 36, .int 10])), (b 17, .inr (3, [.int 0, .ref (b 18), .ref (b 19), .ref (b 20)])), (b 18, .inl (gI g, 40, .inl (fun _ => 0))), (b 19, .inl (gI g, 40, .inl (fun _ => 0))), (b 20, .inl (gI g, 40, .inl (fun _ => 0))), (b 21, .inr (3, [.int 0, .ref (b 22), .ref (b 23), .ref (b 24)])), (b 22, .inl (gI g, 40, .inl (fun _ => 0))), (b 23, .inl (gI g, 40, .inl (fun _ => 0))), (b 24, .inl (gI g, 40, .inl (fun _ => 0))), (b 25, .inr (6, [.int 0, .int 0, .ref (b 26)])), (b 26, .inl (gI g, 14, .inl (fun _ => 0))), (b 27, .inl (gI g, 60, .inl (fun _ => 0))), (b 1, .inr (8, [.int 0, .ref (b 2), .ref (b 3), .ref (b 4)])), (b 2, .inl (gI g, 5, .inl (fun _ => 0))), (b 3, .inl (gI g, 5, .inl (fun _ => 0))), (b 4, .inl (gI g, 5, .inl (fun _ => 0))), (b 5, .inr (1, [.int 0, .ref (b 6), .ref (b 7), .int 0])), (b 6, .inl (gI g, 7, .inl (fun _ => 0))), (b 7, .inl (gI g, 7, .inl (fun _ => 0))), (b 8, .inr (0, [.int 0, .ref (b 9), .ref (b 10), .ref (b 11), .ref (b 12), .ref (b 13), .ref (b 14), .ref (b 15), .int 0, .int 0, .int 0, .ref (b 16)])), (b 9, .inl (gI g, 10, .inl (fun _ => 0))), (b 10, .inl (gI g, 10, .inl (fun _ => 0))), (b 11, .inl (gI g, 10, .inl (fun _ => 0))), (b 12, .inl (gI g, 10, .inl (fun _ => 0))), (b 13, .inl (gI g, 10, .inl (fun _ => 0))), (b 14, .inl (gI g, 10, .inl (fun _ => 0))), (b 15, .inl (gI g, 10, .inl (fun _ => 0))), (b 16, .inl (gI g, 10, .inl (fun _ => 0)))] H := hP
  have hD : va_D A [(a 0, .inr (4, [.ref (a 1), .ref (a 5), .ref (a 8), .ref (a 17), .ref (a 21), .ref (a 25), .ref (a 27), .int 0, .int 0, .int 36, .int 10])), (a 17, .inr (3, [.int 0, .ref (a 18), .ref (a 19), .ref (a 20)])), (a 18, .inl (gI g, 40, .inl (fun _ => 0))), (a 19, .inl (gI g, 40, .inl (fun _ => 0))), (a 20, .inl (gI g, 40, .inl (fun _ => 0))), (a 21, .inr (3, [.int 0, .ref (a 22), .ref (a 23), .ref (a 24)])), (a 22, .inl (gI g, 40, .inl (fun _ => 0))), (a 23, .inl (gI g, 40, .inl (fun _ => 0))), (a 24, .inl (gI g, 40, .inl (fun _ => 0))), (a 25, .inr (6, [.int 0, .int 0, .ref (a 26)])), (a 26, .inl (gI g, 14, .inl (fun _ => 0))), (a 27, .inl (gI g, 60, .inl (fun _ => 0))), (b 0, .inr (4, [.ref (b 1), .ref (b 5), .ref (b 8), .ref (b 17), .ref (b 21), .ref (b 25), .ref (b 27), .int 0, .int 0, .int 36, .int 10])), (b 17, .inr (3, [.int 0, .ref (b 18), .ref (b 19), .ref (b 20)])), (b 18, .inl (gI g, 40, .inl (fun _ => 0))), (b 19, .inl (gI g, 40, .inl (fun _ => 0))), (b 20, .inl (gI g, 40, .inl (fun _ => 0))), (b 21, .inr (3, [.int 0, .ref (b 22), .ref (b 23), .ref (b 24)])), (b 22, .inl (gI g, 40, .inl (fun _ => 0))), (b 23, .inl (gI g, 40, .inl (fun _ => 0))), (b 24, .inl (gI g, 40, .inl (fun _ => 0))), (b 25, .inr (6, [.int 0, .int 0, .ref (b 26)])), (b 26, .inl (gI g, 14, .inl (fun _ => 0))), (b 27, .inl (gI g, 60, .inl (fun _ => 0))), (b 1, .inr (8, [.int 0, .ref (b 2), .ref (b 3), .ref (b 4)])), (b 2, .inl (gI g, 5, .inl (fun _ => 0))), (b 3, .inl (gI g, 5, .inl (fun _ => 0))), (b 4, .inl (gI g, 5, .inl (fun _ => 0))), (b 5, .inr (1, [.int 0, .ref (b 6), .ref (b 7), .int 0])), (b 6, .inl (gI g, 7, .inl (fun _ => 0))), (b 7, .inl (gI g, 7, .inl (fun _ => 0))), (b 8, .inr (0, [.int 0, .ref (b 9), .ref (b 10), .ref (b 11), .ref (b 12), .ref (b 13), .ref (b 14), .ref (b 15), .int 0, .int 0, .int 0, .ref (b 16)])), (b 9, .inl (gI g, 10, .inl (fun _ => 0))), (b 10, .inl (gI g, 10, .inl (fun _ => 0))), (b 11, .inl (gI g, 10, .inl (fun _ => 0))), (b 12, .inl (gI g, 10, .inl (fun _ => 0))), (b 13, .inl (gI g, 10, .inl (fun _ => 0))), (b 14, .inl (gI g, 10, .inl (fun _ => 0))), (b 15, .inl (gI g, 10, .inl (fun _ => 0))), (b 16, .inl (gI g, 10, .inl (fun _ => 0)))] := hD
  refine lv_aload_n hx hb dX4_become_33 rfl (lv_at hl 0 rfl) ?_
  refine va_get (ci := 4) (C := RX4) (T := TX4) (N := 11) hx hb hts inlX4 hown hKW.1 hP 0 rfl rfl 3 (by decide) (hts _ wd_3_6) (fun _ h => h) rfl dX4_become_34 ?_
  refine lv_aload_n hx hb dX4_become_37 rfl (lv_at hl 1 rfl) ?_
  refine va_get (ci := 4) (C := RX4) (T := TX4) (N := 11) hx hb hts inlX4 hown hKW.1 hP 12 rfl rfl 3 (by decide) (hts _ wd_3_6) (fun _ h => h) rfl dX4_become_38 ?_
  refine k_Vv [1, 2, 3, 4, 13, 14, 15, 16] [0, 5, 6, 7, 8, 9, 10, 11, 12, 17, 18, 19, 20, 21, 22, 23, 24, 25, 26, 27, 28, 29, 30, 31, 32, 33, 34, 35, 36, 37, 38, 39] 1 3 (wr := [(a 0, .inr (4, [.ref (a 1), .ref (a 5), .ref (a 8), .ref (a 17), .ref (a 21), .ref (a 25), .ref (a 27), .int 0, .int 0, .int 36, .int 10])), (a 21, .inr (3, [.int 0, .ref (a 22), .ref (a 23), .ref (a 24)])), (a 22, .inl (gI g, 40, .inl (fun _ => 0))), (a 23, .inl (gI g, 40, .inl (fun _ => 0))), (a 24, .inl (gI g, 40, .inl (fun _ => 0))), (a 25, .inr (6, [.int 0, .int 0, .ref (a 26)])), (a 26, .inl (gI g, 14, .inl (fun _ => 0))), (a 27, .inl (gI g, 60, .inl (fun _ => 0))), (b 0, .inr (4, [.ref (b 1), .ref (b 5), .ref (b 8), .ref (b 17), .ref (b 21), .ref (b 25), .ref (b 27), .int 0, .int 0, .int 36, .int 10])), (b 21, .inr (3, [.int 0, .ref (b 22), .ref (b 23), .ref (b 24)])), (b 22, .inl (gI g, 40, .inl (fun _ => 0))), (b 23, .inl (gI g, 40, .inl (fun _ => 0))), (b 24, .inl (gI g, 40, .inl (fun _ => 0))), (b 25, .inr (6, [.int 0, .int 0, .ref (b 26)])), (b 26, .inl (gI g, 14, .inl (fun _ => 0))), (b 27, .inl (gI g, 60, .inl (fun _ => 0))), (b 1, .inr (8, [.int 0, .ref (b 2), .ref (b 3), .ref (b 4)])), (b 2, .inl (gI g, 5, .inl (fun _ => 0))), (b 3, .inl (gI g, 5, .inl (fun _ => 0))), (b 4, .inl (gI g, 5, .inl (fun _ => 0))), (b 5, .inr (1, [.int 0, .ref (b 6), .ref (b 7), .int 0])), (b 6, .inl (gI g, 7, .inl (fun _ => 0))), (b 7, .inl (gI g, 7, .inl (fun _ => 0))), (b 8, .inr (0, [.int 0, .ref (b 9), .ref (b 10), .ref (b 11), .ref (b 12), .ref (b 13), .ref (b 14), .ref (b 15), .int 0, .int 0, .int 0, .ref (b 16)])), (b 9, .inl (gI g, 10, .inl (fun _ => 0))), (b 10, .inl (gI g, 10, .inl (fun _ => 0))), (b 11, .inl (gI g, 10, .inl (fun _ => 0))), (b 12, .inl (gI g, 10, .inl (fun _ => 0))), (b 13, .inl (gI g, 10, .inl (fun _ => 0))), (b 14, .inl (gI g, 10, .inl (fun _ => 0))), (b 15, .inl (gI g, 10, .inl (fun _ => 0))), (b 16, .inl (gI g, 10, .inl (fun _ => 0)))]) hx hb hml hown hts hKW hP hD hS hA hl.1 (c_X3_become l g _ (fun k => ([a 17, a 18, a 19, a 20] : List Nat).getD k 0) (fun k => ([b 17, b 18, b 19, b 20] : List Nat).getD k 0) ) rfl rfl rfl wd_9_15 wd_3_5 wd_9_12 wd_9_13 wd_9_14 yd_X3_become ⟨Nat.le_of_ble_eq_true rfl, Nat.le_of_ble_eq_true rfl⟩ rfl rfl rfl rfl rfl (by decide) rfl (Nat.le_of_ble_eq_true rfl) dX4_become_41 ⟨Nat.le_of_ble_eq_true rfl, Nat.le_of_ble_eq_true rfl⟩ (fun u_11 H locs hw_12 hP hD hS => ?_)
  have hP : va_P g.1 vwCl [(a 0, .inr (4, [.ref (a 1), .ref (a 5), .ref (a 8), .ref (a 17), .ref (a 21), .ref (a 25), .ref (a 27), .int 0, .int 0, .int 36, .int 10])), (a 21, .inr (3, [.int 0, .ref (a 22), .ref (a 23), .ref (a 24)])), (a 22, .inl (gI g, 40, .inl (fun _ => 0))), (a 23, .inl (gI g, 40, .inl (fun _ => 0))), (a 24, .inl (gI g, 40, .inl (fun _ => 0))), (a 25, .inr (6, [.int 0, .int 0, .ref (a 26)])), (a 26, .inl (gI g, 14, .inl (fun _ => 0))), (a 27, .inl (gI g, 60, .inl (fun _ => 0))), (b 0, .inr (4, [.ref (b 1), .ref (b 5), .ref (b 8), .ref (b 17), .ref (b 21), .ref (b 25), .ref (b 27), .int 0, .int 0, .int 36, .int 10])), (b 21, .inr (3, [.int 0, .ref (b 22), .ref (b 23), .ref (b 24)])), (b 22, .inl (gI g, 40, .inl (fun _ => 0))), (b 23, .inl (gI g, 40, .inl (fun _ => 0))), (b 24, .inl (gI g, 40, .inl (fun _ => 0))), (b 25, .inr (6, [.int 0, .int 0, .ref (b 26)])), (b 26, .inl (gI g, 14, .inl (fun _ => 0))), (b 27, .inl (gI g, 60, .inl (fun _ => 0))), (b 1, .inr (8, [.int 0, .ref (b 2), .ref (b 3), .ref (b 4)])), (b 2, .inl (gI g, 5, .inl (fun _ => 0))), (b 3, .inl (gI g, 5, .inl (fun _ => 0))), (b 4, .inl (gI g, 5, .inl (fun _ => 0))), (b 5, .inr (1, [.int 0, .ref (b 6), .ref (b 7), .int 0])), (b 6, .inl (gI g, 7, .inl (fun _ => 0))), (b 7, .inl (gI g, 7, .inl (fun _ => 0))), (b 8, .inr (0, [.int 0, .ref (b 9), .ref (b 10), .ref (b 11), .ref (b 12), .ref (b 13), .ref (b 14), .ref (b 15), .int 0, .int 0, .int 0, .ref (b 16)])), (b 9, .inl (gI g, 10, .inl (fun _ => 0))), (b 10, .inl (gI g, 10, .inl (fun _ => 0))), (b 11, .inl (gI g, 10, .inl (fun _ => 0))), (b 12, .inl (gI g, 10, .inl (fun _ => 0))), (b 13, .inl (gI g, 10, .inl (fun _ => 0))), (b 14, .inl (gI g, 10, .inl (fun _ => 0))), (b 15, .inl (gI g, 10, .inl (fun _ => 0))), (b 16, .inl (gI g, 10, .inl (fun _ => 0))), (b 17, .inr (3, [.int 0, .ref (b 18), .ref (b 19), .ref (b 20)])), (b 18, .inl (gI g, 40, .inl (fun _ => 0))), (b 19, .inl (gI g, 40, .inl (fun _ => 0))), (b 20, .inl (gI g, 40, .inl (fun _ => 0)))] H := hP
  have hD : va_D A [(a 0, .inr (4, [.ref (a 1), .ref (a 5), .ref (a 8), .ref (a 17), .ref (a 21), .ref (a 25), .ref (a 27), .int 0, .int 0, .int 36, .int 10])), (a 21, .inr (3, [.int 0, .ref (a 22), .ref (a 23), .ref (a 24)])), (a 22, .inl (gI g, 40, .inl (fun _ => 0))), (a 23, .inl (gI g, 40, .inl (fun _ => 0))), (a 24, .inl (gI g, 40, .inl (fun _ => 0))), (a 25, .inr (6, [.int 0, .int 0, .ref (a 26)])), (a 26, .inl (gI g, 14, .inl (fun _ => 0))), (a 27, .inl (gI g, 60, .inl (fun _ => 0))), (b 0, .inr (4, [.ref (b 1), .ref (b 5), .ref (b 8), .ref (b 17), .ref (b 21), .ref (b 25), .ref (b 27), .int 0, .int 0, .int 36, .int 10])), (b 21, .inr (3, [.int 0, .ref (b 22), .ref (b 23), .ref (b 24)])), (b 22, .inl (gI g, 40, .inl (fun _ => 0))), (b 23, .inl (gI g, 40, .inl (fun _ => 0))), (b 24, .inl (gI g, 40, .inl (fun _ => 0))), (b 25, .inr (6, [.int 0, .int 0, .ref (b 26)])), (b 26, .inl (gI g, 14, .inl (fun _ => 0))), (b 27, .inl (gI g, 60, .inl (fun _ => 0))), (b 1, .inr (8, [.int 0, .ref (b 2), .ref (b 3), .ref (b 4)])), (b 2, .inl (gI g, 5, .inl (fun _ => 0))), (b 3, .inl (gI g, 5, .inl (fun _ => 0))), (b 4, .inl (gI g, 5, .inl (fun _ => 0))), (b 5, .inr (1, [.int 0, .ref (b 6), .ref (b 7), .int 0])), (b 6, .inl (gI g, 7, .inl (fun _ => 0))), (b 7, .inl (gI g, 7, .inl (fun _ => 0))), (b 8, .inr (0, [.int 0, .ref (b 9), .ref (b 10), .ref (b 11), .ref (b 12), .ref (b 13), .ref (b 14), .ref (b 15), .int 0, .int 0, .int 0, .ref (b 16)])), (b 9, .inl (gI g, 10, .inl (fun _ => 0))), (b 10, .inl (gI g, 10, .inl (fun _ => 0))), (b 11, .inl (gI g, 10, .inl (fun _ => 0))), (b 12, .inl (gI g, 10, .inl (fun _ => 0))), (b 13, .inl (gI g, 10, .inl (fun _ => 0))), (b 14, .inl (gI g, 10, .inl (fun _ => 0))), (b 15, .inl (gI g, 10, .inl (fun _ => 0))), (b 16, .inl (gI g, 10, .inl (fun _ => 0))), (b 17, .inr (3, [.int 0, .ref (b 18), .ref (b 19), .ref (b 20)])), (b 18, .inl (gI g, 40, .inl (fun _ => 0))), (b 19, .inl (gI g, 40, .inl (fun _ => 0))), (b 20, .inl (gI g, 40, .inl (fun _ => 0)))] := hD
  refine lv_aload_n hx hb dX4_become_44 rfl (lv_at hl 0 rfl) ?_
  refine va_get (ci := 4) (C := RX4) (T := TX4) (N := 11) hx hb hts inlX4 hown hKW.1 hP 0 rfl rfl 4 (by decide) (hts _ wd_3_7) (fun _ h => h) rfl dX4_become_45 ?_
  refine lv_aload_n hx hb dX4_become_48 rfl (lv_at hl 1 rfl) ?_
  refine va_get (ci := 4) (C := RX4) (T := TX4) (N := 11) hx hb hts inlX4 hown hKW.1 hP 8 rfl rfl 4 (by decide) (hts _ wd_3_7) (fun _ h => h) rfl dX4_become_49 ?_
  refine k_Vv [1, 2, 3, 4, 9, 10, 11, 12] [0, 5, 6, 7, 8, 13, 14, 15, 16, 17, 18, 19, 20, 21, 22, 23, 24, 25, 26, 27, 28, 29, 30, 31, 32, 33, 34, 35] 1 3 (wr := [(a 0, .inr (4, [.ref (a 1), .ref (a 5), .ref (a 8), .ref (a 17), .ref (a 21), .ref (a 25), .ref (a 27), .int 0, .int 0, .int 36, .int 10])), (a 25, .inr (6, [.int 0, .int 0, .ref (a 26)])), (a 26, .inl (gI g, 14, .inl (fun _ => 0))), (a 27, .inl (gI g, 60, .inl (fun _ => 0))), (b 0, .inr (4, [.ref (b 1), .ref (b 5), .ref (b 8), .ref (b 17), .ref (b 21), .ref (b 25), .ref (b 27), .int 0, .int 0, .int 36, .int 10])), (b 25, .inr (6, [.int 0, .int 0, .ref (b 26)])), (b 26, .inl (gI g, 14, .inl (fun _ => 0))), (b 27, .inl (gI g, 60, .inl (fun _ => 0))), (b 1, .inr (8, [.int 0, .ref (b 2), .ref (b 3), .ref (b 4)])), (b 2, .inl (gI g, 5, .inl (fun _ => 0))), (b 3, .inl (gI g, 5, .inl (fun _ => 0))), (b 4, .inl (gI g, 5, .inl (fun _ => 0))), (b 5, .inr (1, [.int 0, .ref (b 6), .ref (b 7), .int 0])), (b 6, .inl (gI g, 7, .inl (fun _ => 0))), (b 7, .inl (gI g, 7, .inl (fun _ => 0))), (b 8, .inr (0, [.int 0, .ref (b 9), .ref (b 10), .ref (b 11), .ref (b 12), .ref (b 13), .ref (b 14), .ref (b 15), .int 0, .int 0, .int 0, .ref (b 16)])), (b 9, .inl (gI g, 10, .inl (fun _ => 0))), (b 10, .inl (gI g, 10, .inl (fun _ => 0))), (b 11, .inl (gI g, 10, .inl (fun _ => 0))), (b 12, .inl (gI g, 10, .inl (fun _ => 0))), (b 13, .inl (gI g, 10, .inl (fun _ => 0))), (b 14, .inl (gI g, 10, .inl (fun _ => 0))), (b 15, .inl (gI g, 10, .inl (fun _ => 0))), (b 16, .inl (gI g, 10, .inl (fun _ => 0))), (b 17, .inr (3, [.int 0, .ref (b 18), .ref (b 19), .ref (b 20)])), (b 18, .inl (gI g, 40, .inl (fun _ => 0))), (b 19, .inl (gI g, 40, .inl (fun _ => 0))), (b 20, .inl (gI g, 40, .inl (fun _ => 0)))]) hx hb hml hown hts hKW hP hD hS hA hl.1 (c_X3_become l g _ (fun k => ([a 21, a 22, a 23, a 24] : List Nat).getD k 0) (fun k => ([b 21, b 22, b 23, b 24] : List Nat).getD k 0) ) rfl rfl rfl wd_9_15 wd_3_5 wd_9_12 wd_9_13 wd_9_14 yd_X3_become ⟨Nat.le_of_ble_eq_true rfl, Nat.le_of_ble_eq_true rfl⟩ rfl rfl rfl rfl rfl (by decide) rfl (Nat.le_of_ble_eq_true rfl) dX4_become_52 ⟨Nat.le_of_ble_eq_true rfl, Nat.le_of_ble_eq_true rfl⟩ (fun u_14 H locs hw_15 hP hD hS => ?_)
  have hP : va_P g.1 vwCl [(a 0, .inr (4, [.ref (a 1), .ref (a 5), .ref (a 8), .ref (a 17), .ref (a 21), .ref (a 25), .ref (a 27), .int 0, .int 0, .int 36, .int 10])), (a 25, .inr (6, [.int 0, .int 0, .ref (a 26)])), (a 26, .inl (gI g, 14, .inl (fun _ => 0))), (a 27, .inl (gI g, 60, .inl (fun _ => 0))), (b 0, .inr (4, [.ref (b 1), .ref (b 5), .ref (b 8), .ref (b 17), .ref (b 21), .ref (b 25), .ref (b 27), .int 0, .int 0, .int 36, .int 10])), (b 25, .inr (6, [.int 0, .int 0, .ref (b 26)])), (b 26, .inl (gI g, 14, .inl (fun _ => 0))), (b 27, .inl (gI g, 60, .inl (fun _ => 0))), (b 1, .inr (8, [.int 0, .ref (b 2), .ref (b 3), .ref (b 4)])), (b 2, .inl (gI g, 5, .inl (fun _ => 0))), (b 3, .inl (gI g, 5, .inl (fun _ => 0))), (b 4, .inl (gI g, 5, .inl (fun _ => 0))), (b 5, .inr (1, [.int 0, .ref (b 6), .ref (b 7), .int 0])), (b 6, .inl (gI g, 7, .inl (fun _ => 0))), (b 7, .inl (gI g, 7, .inl (fun _ => 0))), (b 8, .inr (0, [.int 0, .ref (b 9), .ref (b 10), .ref (b 11), .ref (b 12), .ref (b 13), .ref (b 14), .ref (b 15), .int 0, .int 0, .int 0, .ref (b 16)])), (b 9, .inl (gI g, 10, .inl (fun _ => 0))), (b 10, .inl (gI g, 10, .inl (fun _ => 0))), (b 11, .inl (gI g, 10, .inl (fun _ => 0))), (b 12, .inl (gI g, 10, .inl (fun _ => 0))), (b 13, .inl (gI g, 10, .inl (fun _ => 0))), (b 14, .inl (gI g, 10, .inl (fun _ => 0))), (b 15, .inl (gI g, 10, .inl (fun _ => 0))), (b 16, .inl (gI g, 10, .inl (fun _ => 0))), (b 17, .inr (3, [.int 0, .ref (b 18), .ref (b 19), .ref (b 20)])), (b 18, .inl (gI g, 40, .inl (fun _ => 0))), (b 19, .inl (gI g, 40, .inl (fun _ => 0))), (b 20, .inl (gI g, 40, .inl (fun _ => 0))), (b 21, .inr (3, [.int 0, .ref (b 22), .ref (b 23), .ref (b 24)])), (b 22, .inl (gI g, 40, .inl (fun _ => 0))), (b 23, .inl (gI g, 40, .inl (fun _ => 0))), (b 24, .inl (gI g, 40, .inl (fun _ => 0)))] H := hP
  have hD : va_D A [(a 0, .inr (4, [.ref (a 1), .ref (a 5), .ref (a 8), .ref (a 17), .ref (a 21), .ref (a 25), .ref (a 27), .int 0, .int 0, .int 36, .int 10])), (a 25, .inr (6, [.int 0, .int 0, .ref (a 26)])), (a 26, .inl (gI g, 14, .inl (fun _ => 0))), (a 27, .inl (gI g, 60, .inl (fun _ => 0))), (b 0, .inr (4, [.ref (b 1), .ref (b 5), .ref (b 8), .ref (b 17), .ref (b 21), .ref (b 25), .ref (b 27), .int 0, .int 0, .int 36, .int 10])), (b 25, .inr (6, [.int 0, .int 0, .ref (b 26)])), (b 26, .inl (gI g, 14, .inl (fun _ => 0))), (b 27, .inl (gI g, 60, .inl (fun _ => 0))), (b 1, .inr (8, [.int 0, .ref (b 2), .ref (b 3), .ref (b 4)])), (b 2, .inl (gI g, 5, .inl (fun _ => 0))), (b 3, .inl (gI g, 5, .inl (fun _ => 0))), (b 4, .inl (gI g, 5, .inl (fun _ => 0))), (b 5, .inr (1, [.int 0, .ref (b 6), .ref (b 7), .int 0])), (b 6, .inl (gI g, 7, .inl (fun _ => 0))), (b 7, .inl (gI g, 7, .inl (fun _ => 0))), (b 8, .inr (0, [.int 0, .ref (b 9), .ref (b 10), .ref (b 11), .ref (b 12), .ref (b 13), .ref (b 14), .ref (b 15), .int 0, .int 0, .int 0, .ref (b 16)])), (b 9, .inl (gI g, 10, .inl (fun _ => 0))), (b 10, .inl (gI g, 10, .inl (fun _ => 0))), (b 11, .inl (gI g, 10, .inl (fun _ => 0))), (b 12, .inl (gI g, 10, .inl (fun _ => 0))), (b 13, .inl (gI g, 10, .inl (fun _ => 0))), (b 14, .inl (gI g, 10, .inl (fun _ => 0))), (b 15, .inl (gI g, 10, .inl (fun _ => 0))), (b 16, .inl (gI g, 10, .inl (fun _ => 0))), (b 17, .inr (3, [.int 0, .ref (b 18), .ref (b 19), .ref (b 20)])), (b 18, .inl (gI g, 40, .inl (fun _ => 0))), (b 19, .inl (gI g, 40, .inl (fun _ => 0))), (b 20, .inl (gI g, 40, .inl (fun _ => 0))), (b 21, .inr (3, [.int 0, .ref (b 22), .ref (b 23), .ref (b 24)])), (b 22, .inl (gI g, 40, .inl (fun _ => 0))), (b 23, .inl (gI g, 40, .inl (fun _ => 0))), (b 24, .inl (gI g, 40, .inl (fun _ => 0)))] := hD
  refine lv_aload_n hx hb dX4_become_55 rfl (lv_at hl 0 rfl) ?_
  refine va_get (ci := 4) (C := RX4) (T := TX4) (N := 11) hx hb hts inlX4 hown hKW.1 hP 0 rfl rfl 5 (by decide) (hts _ wd_3_11) (fun _ h => h) rfl dX4_become_56 ?_
  refine lv_aload_n hx hb dX4_become_59 rfl (lv_at hl 1 rfl) ?_
  refine va_get (ci := 4) (C := RX4) (T := TX4) (N := 11) hx hb hts inlX4 hown hKW.1 hP 4 rfl rfl 5 (by decide) (hts _ wd_3_11) (fun _ h => h) rfl dX4_become_60 ?_
  refine k_Vv [1, 2, 5, 6] [0, 3, 4, 7, 8, 9, 10, 11, 12, 13, 14, 15, 16, 17, 18, 19, 20, 21, 22, 23, 24, 25, 26, 27, 28, 29, 30, 31] 1 6 (wr := [(a 0, .inr (4, [.ref (a 1), .ref (a 5), .ref (a 8), .ref (a 17), .ref (a 21), .ref (a 25), .ref (a 27), .int 0, .int 0, .int 36, .int 10])), (a 27, .inl (gI g, 60, .inl (fun _ => 0))), (b 0, .inr (4, [.ref (b 1), .ref (b 5), .ref (b 8), .ref (b 17), .ref (b 21), .ref (b 25), .ref (b 27), .int 0, .int 0, .int 36, .int 10])), (b 27, .inl (gI g, 60, .inl (fun _ => 0))), (b 1, .inr (8, [.int 0, .ref (b 2), .ref (b 3), .ref (b 4)])), (b 2, .inl (gI g, 5, .inl (fun _ => 0))), (b 3, .inl (gI g, 5, .inl (fun _ => 0))), (b 4, .inl (gI g, 5, .inl (fun _ => 0))), (b 5, .inr (1, [.int 0, .ref (b 6), .ref (b 7), .int 0])), (b 6, .inl (gI g, 7, .inl (fun _ => 0))), (b 7, .inl (gI g, 7, .inl (fun _ => 0))), (b 8, .inr (0, [.int 0, .ref (b 9), .ref (b 10), .ref (b 11), .ref (b 12), .ref (b 13), .ref (b 14), .ref (b 15), .int 0, .int 0, .int 0, .ref (b 16)])), (b 9, .inl (gI g, 10, .inl (fun _ => 0))), (b 10, .inl (gI g, 10, .inl (fun _ => 0))), (b 11, .inl (gI g, 10, .inl (fun _ => 0))), (b 12, .inl (gI g, 10, .inl (fun _ => 0))), (b 13, .inl (gI g, 10, .inl (fun _ => 0))), (b 14, .inl (gI g, 10, .inl (fun _ => 0))), (b 15, .inl (gI g, 10, .inl (fun _ => 0))), (b 16, .inl (gI g, 10, .inl (fun _ => 0))), (b 17, .inr (3, [.int 0, .ref (b 18), .ref (b 19), .ref (b 20)])), (b 18, .inl (gI g, 40, .inl (fun _ => 0))), (b 19, .inl (gI g, 40, .inl (fun _ => 0))), (b 20, .inl (gI g, 40, .inl (fun _ => 0))), (b 21, .inr (3, [.int 0, .ref (b 22), .ref (b 23), .ref (b 24)])), (b 22, .inl (gI g, 40, .inl (fun _ => 0))), (b 23, .inl (gI g, 40, .inl (fun _ => 0))), (b 24, .inl (gI g, 40, .inl (fun _ => 0)))]) hx hb hml hown hts hKW hP hD hS hA hl.1 (c_X6_become l g _ (fun k => ([a 25, a 26] : List Nat).getD k 0) (fun k => ([b 25, b 26] : List Nat).getD k 0) ) rfl rfl rfl wd_9_21 wd_3_10 wd_9_18 wd_9_19 wd_9_20 yd_X6_become ⟨Nat.le_of_ble_eq_true rfl, Nat.le_of_ble_eq_true rfl⟩ rfl rfl rfl rfl rfl (by decide) rfl (Nat.le_of_ble_eq_true rfl) dX4_become_63 ⟨Nat.le_of_ble_eq_true rfl, Nat.le_of_ble_eq_true rfl⟩ (fun u_17 H locs hw_18 hP hD hS => ?_)
  have hP : va_P g.1 vwCl [(a 0, .inr (4, [.ref (a 1), .ref (a 5), .ref (a 8), .ref (a 17), .ref (a 21), .ref (a 25), .ref (a 27), .int 0, .int 0, .int 36, .int 10])), (a 27, .inl (gI g, 60, .inl (fun _ => 0))), (b 0, .inr (4, [.ref (b 1), .ref (b 5), .ref (b 8), .ref (b 17), .ref (b 21), .ref (b 25), .ref (b 27), .int 0, .int 0, .int 36, .int 10])), (b 27, .inl (gI g, 60, .inl (fun _ => 0))), (b 1, .inr (8, [.int 0, .ref (b 2), .ref (b 3), .ref (b 4)])), (b 2, .inl (gI g, 5, .inl (fun _ => 0))), (b 3, .inl (gI g, 5, .inl (fun _ => 0))), (b 4, .inl (gI g, 5, .inl (fun _ => 0))), (b 5, .inr (1, [.int 0, .ref (b 6), .ref (b 7), .int 0])), (b 6, .inl (gI g, 7, .inl (fun _ => 0))), (b 7, .inl (gI g, 7, .inl (fun _ => 0))), (b 8, .inr (0, [.int 0, .ref (b 9), .ref (b 10), .ref (b 11), .ref (b 12), .ref (b 13), .ref (b 14), .ref (b 15), .int 0, .int 0, .int 0, .ref (b 16)])), (b 9, .inl (gI g, 10, .inl (fun _ => 0))), (b 10, .inl (gI g, 10, .inl (fun _ => 0))), (b 11, .inl (gI g, 10, .inl (fun _ => 0))), (b 12, .inl (gI g, 10, .inl (fun _ => 0))), (b 13, .inl (gI g, 10, .inl (fun _ => 0))), (b 14, .inl (gI g, 10, .inl (fun _ => 0))), (b 15, .inl (gI g, 10, .inl (fun _ => 0))), (b 16, .inl (gI g, 10, .inl (fun _ => 0))), (b 17, .inr (3, [.int 0, .ref (b 18), .ref (b 19), .ref (b 20)])), (b 18, .inl (gI g, 40, .inl (fun _ => 0))), (b 19, .inl (gI g, 40, .inl (fun _ => 0))), (b 20, .inl (gI g, 40, .inl (fun _ => 0))), (b 21, .inr (3, [.int 0, .ref (b 22), .ref (b 23), .ref (b 24)])), (b 22, .inl (gI g, 40, .inl (fun _ => 0))), (b 23, .inl (gI g, 40, .inl (fun _ => 0))), (b 24, .inl (gI g, 40, .inl (fun _ => 0))), (b 25, .inr (6, [.int 0, .int 0, .ref (b 26)])), (b 26, .inl (gI g, 14, .inl (fun _ => 0)))] H := hP
  have hD : va_D A [(a 0, .inr (4, [.ref (a 1), .ref (a 5), .ref (a 8), .ref (a 17), .ref (a 21), .ref (a 25), .ref (a 27), .int 0, .int 0, .int 36, .int 10])), (a 27, .inl (gI g, 60, .inl (fun _ => 0))), (b 0, .inr (4, [.ref (b 1), .ref (b 5), .ref (b 8), .ref (b 17), .ref (b 21), .ref (b 25), .ref (b 27), .int 0, .int 0, .int 36, .int 10])), (b 27, .inl (gI g, 60, .inl (fun _ => 0))), (b 1, .inr (8, [.int 0, .ref (b 2), .ref (b 3), .ref (b 4)])), (b 2, .inl (gI g, 5, .inl (fun _ => 0))), (b 3, .inl (gI g, 5, .inl (fun _ => 0))), (b 4, .inl (gI g, 5, .inl (fun _ => 0))), (b 5, .inr (1, [.int 0, .ref (b 6), .ref (b 7), .int 0])), (b 6, .inl (gI g, 7, .inl (fun _ => 0))), (b 7, .inl (gI g, 7, .inl (fun _ => 0))), (b 8, .inr (0, [.int 0, .ref (b 9), .ref (b 10), .ref (b 11), .ref (b 12), .ref (b 13), .ref (b 14), .ref (b 15), .int 0, .int 0, .int 0, .ref (b 16)])), (b 9, .inl (gI g, 10, .inl (fun _ => 0))), (b 10, .inl (gI g, 10, .inl (fun _ => 0))), (b 11, .inl (gI g, 10, .inl (fun _ => 0))), (b 12, .inl (gI g, 10, .inl (fun _ => 0))), (b 13, .inl (gI g, 10, .inl (fun _ => 0))), (b 14, .inl (gI g, 10, .inl (fun _ => 0))), (b 15, .inl (gI g, 10, .inl (fun _ => 0))), (b 16, .inl (gI g, 10, .inl (fun _ => 0))), (b 17, .inr (3, [.int 0, .ref (b 18), .ref (b 19), .ref (b 20)])), (b 18, .inl (gI g, 40, .inl (fun _ => 0))), (b 19, .inl (gI g, 40, .inl (fun _ => 0))), (b 20, .inl (gI g, 40, .inl (fun _ => 0))), (b 21, .inr (3, [.int 0, .ref (b 22), .ref (b 23), .ref (b 24)])), (b 22, .inl (gI g, 40, .inl (fun _ => 0))), (b 23, .inl (gI g, 40, .inl (fun _ => 0))), (b 24, .inl (gI g, 40, .inl (fun _ => 0))), (b 25, .inr (6, [.int 0, .int 0, .ref (b 26)])), (b 26, .inl (gI g, 14, .inl (fun _ => 0)))] := hD
  refine lv_aload_n hx hb dX4_become_66 rfl (lv_at hl 1 rfl) ?_
  refine va_get (ci := 4) (C := RX4) (T := TX4) (N := 11) hx hb hts inlX4 hown hKW.1 hP 2 rfl rfl 6 (by decide) (hts _ wd_3_13) (fun _ h => h) rfl dX4_become_67 ?_
  refine lv_iconst (v := 0) hx hb dX4_become_70 (by decide) ?_
  refine lv_aload_n hx hb dX4_become_71 rfl (lv_at hl 0 rfl) ?_
  refine va_get (ci := 4) (C := RX4) (T := TX4) (N := 11) hx hb hts inlX4 hown hKW.1 hP 0 rfl rfl 6 (by decide) (hts _ wd_3_13) (fun _ h => h) rfl dX4_become_72 ?_
  refine lv_iconst (v := 0) hx hb dX4_become_75 (by decide) ?_
  refine lv_bipush (v := 60) hx hb dX4_become_76 (by decide) ?_
  refine va_copyi hx hb (hml.trans hl.1.symm) hown (hts _ wd_8_8) (hts _ wd_8_9) (hts _ wd_8_10) (hts _ wd_8_11) hKW.1 hP hD hS 3 1 0 0 rfl rfl rfl rfl rfl (by decide) (by decide) (by decide) (by decide) (by decide) (fun _ _ => rfl) (Nat.le_of_ble_eq_true rfl) (Nat.le_of_ble_eq_true (by decide)) dX4_become_78 (fun H locs hP hD hS => ?_)
  have hP : va_P g.1 vwCl [(a 0, .inr (4, [.ref (a 1), .ref (a 5), .ref (a 8), .ref (a 17), .ref (a 21), .ref (a 25), .ref (a 27), .int 0, .int 0, .int 36, .int 10])), (a 27, .inl (gI g, 60, .inl (va_cpy (fun _ => 0) (fun _ => 0) 0 0 60))), (b 0, .inr (4, [.ref (b 1), .ref (b 5), .ref (b 8), .ref (b 17), .ref (b 21), .ref (b 25), .ref (b 27), .int 0, .int 0, .int 36, .int 10])), (b 27, .inl (gI g, 60, .inl (fun _ => 0))), (b 1, .inr (8, [.int 0, .ref (b 2), .ref (b 3), .ref (b 4)])), (b 2, .inl (gI g, 5, .inl (fun _ => 0))), (b 3, .inl (gI g, 5, .inl (fun _ => 0))), (b 4, .inl (gI g, 5, .inl (fun _ => 0))), (b 5, .inr (1, [.int 0, .ref (b 6), .ref (b 7), .int 0])), (b 6, .inl (gI g, 7, .inl (fun _ => 0))), (b 7, .inl (gI g, 7, .inl (fun _ => 0))), (b 8, .inr (0, [.int 0, .ref (b 9), .ref (b 10), .ref (b 11), .ref (b 12), .ref (b 13), .ref (b 14), .ref (b 15), .int 0, .int 0, .int 0, .ref (b 16)])), (b 9, .inl (gI g, 10, .inl (fun _ => 0))), (b 10, .inl (gI g, 10, .inl (fun _ => 0))), (b 11, .inl (gI g, 10, .inl (fun _ => 0))), (b 12, .inl (gI g, 10, .inl (fun _ => 0))), (b 13, .inl (gI g, 10, .inl (fun _ => 0))), (b 14, .inl (gI g, 10, .inl (fun _ => 0))), (b 15, .inl (gI g, 10, .inl (fun _ => 0))), (b 16, .inl (gI g, 10, .inl (fun _ => 0))), (b 17, .inr (3, [.int 0, .ref (b 18), .ref (b 19), .ref (b 20)])), (b 18, .inl (gI g, 40, .inl (fun _ => 0))), (b 19, .inl (gI g, 40, .inl (fun _ => 0))), (b 20, .inl (gI g, 40, .inl (fun _ => 0))), (b 21, .inr (3, [.int 0, .ref (b 22), .ref (b 23), .ref (b 24)])), (b 22, .inl (gI g, 40, .inl (fun _ => 0))), (b 23, .inl (gI g, 40, .inl (fun _ => 0))), (b 24, .inl (gI g, 40, .inl (fun _ => 0))), (b 25, .inr (6, [.int 0, .int 0, .ref (b 26)])), (b 26, .inl (gI g, 14, .inl (fun _ => 0)))] H := hP
  have hD : va_D A [(a 0, .inr (4, [.ref (a 1), .ref (a 5), .ref (a 8), .ref (a 17), .ref (a 21), .ref (a 25), .ref (a 27), .int 0, .int 0, .int 36, .int 10])), (a 27, .inl (gI g, 60, .inl (va_cpy (fun _ => 0) (fun _ => 0) 0 0 60))), (b 0, .inr (4, [.ref (b 1), .ref (b 5), .ref (b 8), .ref (b 17), .ref (b 21), .ref (b 25), .ref (b 27), .int 0, .int 0, .int 36, .int 10])), (b 27, .inl (gI g, 60, .inl (fun _ => 0))), (b 1, .inr (8, [.int 0, .ref (b 2), .ref (b 3), .ref (b 4)])), (b 2, .inl (gI g, 5, .inl (fun _ => 0))), (b 3, .inl (gI g, 5, .inl (fun _ => 0))), (b 4, .inl (gI g, 5, .inl (fun _ => 0))), (b 5, .inr (1, [.int 0, .ref (b 6), .ref (b 7), .int 0])), (b 6, .inl (gI g, 7, .inl (fun _ => 0))), (b 7, .inl (gI g, 7, .inl (fun _ => 0))), (b 8, .inr (0, [.int 0, .ref (b 9), .ref (b 10), .ref (b 11), .ref (b 12), .ref (b 13), .ref (b 14), .ref (b 15), .int 0, .int 0, .int 0, .ref (b 16)])), (b 9, .inl (gI g, 10, .inl (fun _ => 0))), (b 10, .inl (gI g, 10, .inl (fun _ => 0))), (b 11, .inl (gI g, 10, .inl (fun _ => 0))), (b 12, .inl (gI g, 10, .inl (fun _ => 0))), (b 13, .inl (gI g, 10, .inl (fun _ => 0))), (b 14, .inl (gI g, 10, .inl (fun _ => 0))), (b 15, .inl (gI g, 10, .inl (fun _ => 0))), (b 16, .inl (gI g, 10, .inl (fun _ => 0))), (b 17, .inr (3, [.int 0, .ref (b 18), .ref (b 19), .ref (b 20)])), (b 18, .inl (gI g, 40, .inl (fun _ => 0))), (b 19, .inl (gI g, 40, .inl (fun _ => 0))), (b 20, .inl (gI g, 40, .inl (fun _ => 0))), (b 21, .inr (3, [.int 0, .ref (b 22), .ref (b 23), .ref (b 24)])), (b 22, .inl (gI g, 40, .inl (fun _ => 0))), (b 23, .inl (gI g, 40, .inl (fun _ => 0))), (b 24, .inl (gI g, 40, .inl (fun _ => 0))), (b 25, .inr (6, [.int 0, .int 0, .ref (b 26)])), (b 26, .inl (gI g, 14, .inl (fun _ => 0)))] := hD
  obtain ⟨f_19, ef_19⟩ : ∃ zz_ : Nat → Int32, zz_ = va_cpy (fun _ => 0) (fun _ => 0) 0 0 60 := ⟨_, rfl⟩
  rw [← ef_19] at hP hD
  refine lv_aload_n hx hb dX4_become_81 rfl (lv_at hl 0 rfl) ?_
  refine lv_aload_n hx hb dX4_become_82 rfl (lv_at hl 1 rfl) ?_
  refine va_get (ci := 4) (C := RX4) (T := TX4) (N := 11) hx hb hts inlX4 hown hKW.1 hP 2 rfl rfl 7 (by decide) (hts _ wd_8_12) (fun _ h => h) rfl dX4_become_83 ?_
  refine va_put (ci := 4) (v := .int 0) (C := RX4) (T := TX4) (N := 11) hx hb hts inlX4 tyX4 tyX4_ok nmX4 hown hKW.1 hP hD hS 0 rfl rfl 7 (by decide) (hts _ wd_8_12) (fun _ h => h) rfl (tyX4_ok 7 (by decide)) rfl rfl (Nat.le_of_ble_eq_true rfl) dX4_become_86 (fun H locs hP hD hS => ?_)
  have hP : va_P g.1 vwCl [(a 0, .inr (4, [.ref (a 1), .ref (a 5), .ref (a 8), .ref (a 17), .ref (a 21), .ref (a 25), .ref (a 27), .int 0, .int 0, .int 36, .int 10])), (a 27, .inl (gI g, 60, .inl f_19)), (b 0, .inr (4, [.ref (b 1), .ref (b 5), .ref (b 8), .ref (b 17), .ref (b 21), .ref (b 25), .ref (b 27), .int 0, .int 0, .int 36, .int 10])), (b 27, .inl (gI g, 60, .inl (fun _ => 0))), (b 1, .inr (8, [.int 0, .ref (b 2), .ref (b 3), .ref (b 4)])), (b 2, .inl (gI g, 5, .inl (fun _ => 0))), (b 3, .inl (gI g, 5, .inl (fun _ => 0))), (b 4, .inl (gI g, 5, .inl (fun _ => 0))), (b 5, .inr (1, [.int 0, .ref (b 6), .ref (b 7), .int 0])), (b 6, .inl (gI g, 7, .inl (fun _ => 0))), (b 7, .inl (gI g, 7, .inl (fun _ => 0))), (b 8, .inr (0, [.int 0, .ref (b 9), .ref (b 10), .ref (b 11), .ref (b 12), .ref (b 13), .ref (b 14), .ref (b 15), .int 0, .int 0, .int 0, .ref (b 16)])), (b 9, .inl (gI g, 10, .inl (fun _ => 0))), (b 10, .inl (gI g, 10, .inl (fun _ => 0))), (b 11, .inl (gI g, 10, .inl (fun _ => 0))), (b 12, .inl (gI g, 10, .inl (fun _ => 0))), (b 13, .inl (gI g, 10, .inl (fun _ => 0))), (b 14, .inl (gI g, 10, .inl (fun _ => 0))), (b 15, .inl (gI g, 10, .inl (fun _ => 0))), (b 16, .inl (gI g, 10, .inl (fun _ => 0))), (b 17, .inr (3, [.int 0, .ref (b 18), .ref (b 19), .ref (b 20)])), (b 18, .inl (gI g, 40, .inl (fun _ => 0))), (b 19, .inl (gI g, 40, .inl (fun _ => 0))), (b 20, .inl (gI g, 40, .inl (fun _ => 0))), (b 21, .inr (3, [.int 0, .ref (b 22), .ref (b 23), .ref (b 24)])), (b 22, .inl (gI g, 40, .inl (fun _ => 0))), (b 23, .inl (gI g, 40, .inl (fun _ => 0))), (b 24, .inl (gI g, 40, .inl (fun _ => 0))), (b 25, .inr (6, [.int 0, .int 0, .ref (b 26)])), (b 26, .inl (gI g, 14, .inl (fun _ => 0)))] H := hP
  have hD : va_D A [(a 0, .inr (4, [.ref (a 1), .ref (a 5), .ref (a 8), .ref (a 17), .ref (a 21), .ref (a 25), .ref (a 27), .int 0, .int 0, .int 36, .int 10])), (a 27, .inl (gI g, 60, .inl f_19)), (b 0, .inr (4, [.ref (b 1), .ref (b 5), .ref (b 8), .ref (b 17), .ref (b 21), .ref (b 25), .ref (b 27), .int 0, .int 0, .int 36, .int 10])), (b 27, .inl (gI g, 60, .inl (fun _ => 0))), (b 1, .inr (8, [.int 0, .ref (b 2), .ref (b 3), .ref (b 4)])), (b 2, .inl (gI g, 5, .inl (fun _ => 0))), (b 3, .inl (gI g, 5, .inl (fun _ => 0))), (b 4, .inl (gI g, 5, .inl (fun _ => 0))), (b 5, .inr (1, [.int 0, .ref (b 6), .ref (b 7), .int 0])), (b 6, .inl (gI g, 7, .inl (fun _ => 0))), (b 7, .inl (gI g, 7, .inl (fun _ => 0))), (b 8, .inr (0, [.int 0, .ref (b 9), .ref (b 10), .ref (b 11), .ref (b 12), .ref (b 13), .ref (b 14), .ref (b 15), .int 0, .int 0, .int 0, .ref (b 16)])), (b 9, .inl (gI g, 10, .inl (fun _ => 0))), (b 10, .inl (gI g, 10, .inl (fun _ => 0))), (b 11, .inl (gI g, 10, .inl (fun _ => 0))), (b 12, .inl (gI g, 10, .inl (fun _ => 0))), (b 13, .inl (gI g, 10, .inl (fun _ => 0))), (b 14, .inl (gI g, 10, .inl (fun _ => 0))), (b 15, .inl (gI g, 10, .inl (fun _ => 0))), (b 16, .inl (gI g, 10, .inl (fun _ => 0))), (b 17, .inr (3, [.int 0, .ref (b 18), .ref (b 19), .ref (b 20)])), (b 18, .inl (gI g, 40, .inl (fun _ => 0))), (b 19, .inl (gI g, 40, .inl (fun _ => 0))), (b 20, .inl (gI g, 40, .inl (fun _ => 0))), (b 21, .inr (3, [.int 0, .ref (b 22), .ref (b 23), .ref (b 24)])), (b 22, .inl (gI g, 40, .inl (fun _ => 0))), (b 23, .inl (gI g, 40, .inl (fun _ => 0))), (b 24, .inl (gI g, 40, .inl (fun _ => 0))), (b 25, .inr (6, [.int 0, .int 0, .ref (b 26)])), (b 26, .inl (gI g, 14, .inl (fun _ => 0)))] := hD
  refine lv_aload_n hx hb dX4_become_89 rfl (lv_at hl 0 rfl) ?_
  refine lv_aload_n hx hb dX4_become_90 rfl (lv_at hl 1 rfl) ?_
  refine va_get (ci := 4) (C := RX4) (T := TX4) (N := 11) hx hb hts inlX4 hown hKW.1 hP 2 rfl rfl 8 (by decide) (hts _ wd_8_13) (fun _ h => h) rfl dX4_become_91 ?_
  refine va_put (ci := 4) (v := .int 0) (C := RX4) (T := TX4) (N := 11) hx hb hts inlX4 tyX4 tyX4_ok nmX4 hown hKW.1 hP hD hS 0 rfl rfl 8 (by decide) (hts _ wd_8_13) (fun _ h => h) rfl (tyX4_ok 8 (by decide)) rfl rfl (Nat.le_of_ble_eq_true rfl) dX4_become_94 (fun H locs hP hD hS => ?_)
  have hP : va_P g.1 vwCl [(a 0, .inr (4, [.ref (a 1), .ref (a 5), .ref (a 8), .ref (a 17), .ref (a 21), .ref (a 25), .ref (a 27), .int 0, .int 0, .int 36, .int 10])), (a 27, .inl (gI g, 60, .inl f_19)), (b 0, .inr (4, [.ref (b 1), .ref (b 5), .ref (b 8), .ref (b 17), .ref (b 21), .ref (b 25), .ref (b 27), .int 0, .int 0, .int 36, .int 10])), (b 27, .inl (gI g, 60, .inl (fun _ => 0))), (b 1, .inr (8, [.int 0, .ref (b 2), .ref (b 3), .ref (b 4)])), (b 2, .inl (gI g, 5, .inl (fun _ => 0))), (b 3, .inl (gI g, 5, .inl (fun _ => 0))), (b 4, .inl (gI g, 5, .inl (fun _ => 0))), (b 5, .inr (1, [.int 0, .ref (b 6), .ref (b 7), .int 0])), (b 6, .inl (gI g, 7, .inl (fun _ => 0))), (b 7, .inl (gI g, 7, .inl (fun _ => 0))), (b 8, .inr (0, [.int 0, .ref (b 9), .ref (b 10), .ref (b 11), .ref (b 12), .ref (b 13), .ref (b 14), .ref (b 15), .int 0, .int 0, .int 0, .ref (b 16)])), (b 9, .inl (gI g, 10, .inl (fun _ => 0))), (b 10, .inl (gI g, 10, .inl (fun _ => 0))), (b 11, .inl (gI g, 10, .inl (fun _ => 0))), (b 12, .inl (gI g, 10, .inl (fun _ => 0))), (b 13, .inl (gI g, 10, .inl (fun _ => 0))), (b 14, .inl (gI g, 10, .inl (fun _ => 0))), (b 15, .inl (gI g, 10, .inl (fun _ => 0))), (b 16, .inl (gI g, 10, .inl (fun _ => 0))), (b 17, .inr (3, [.int 0, .ref (b 18), .ref (b 19), .ref (b 20)])), (b 18, .inl (gI g, 40, .inl (fun _ => 0))), (b 19, .inl (gI g, 40, .inl (fun _ => 0))), (b 20, .inl (gI g, 40, .inl (fun _ => 0))), (b 21, .inr (3, [.int 0, .ref (b 22), .ref (b 23), .ref (b 24)])), (b 22, .inl (gI g, 40, .inl (fun _ => 0))), (b 23, .inl (gI g, 40, .inl (fun _ => 0))), (b 24, .inl (gI g, 40, .inl (fun _ => 0))), (b 25, .inr (6, [.int 0, .int 0, .ref (b 26)])), (b 26, .inl (gI g, 14, .inl (fun _ => 0)))] H := hP
  have hD : va_D A [(a 0, .inr (4, [.ref (a 1), .ref (a 5), .ref (a 8), .ref (a 17), .ref (a 21), .ref (a 25), .ref (a 27), .int 0, .int 0, .int 36, .int 10])), (a 27, .inl (gI g, 60, .inl f_19)), (b 0, .inr (4, [.ref (b 1), .ref (b 5), .ref (b 8), .ref (b 17), .ref (b 21), .ref (b 25), .ref (b 27), .int 0, .int 0, .int 36, .int 10])), (b 27, .inl (gI g, 60, .inl (fun _ => 0))), (b 1, .inr (8, [.int 0, .ref (b 2), .ref (b 3), .ref (b 4)])), (b 2, .inl (gI g, 5, .inl (fun _ => 0))), (b 3, .inl (gI g, 5, .inl (fun _ => 0))), (b 4, .inl (gI g, 5, .inl (fun _ => 0))), (b 5, .inr (1, [.int 0, .ref (b 6), .ref (b 7), .int 0])), (b 6, .inl (gI g, 7, .inl (fun _ => 0))), (b 7, .inl (gI g, 7, .inl (fun _ => 0))), (b 8, .inr (0, [.int 0, .ref (b 9), .ref (b 10), .ref (b 11), .ref (b 12), .ref (b 13), .ref (b 14), .ref (b 15), .int 0, .int 0, .int 0, .ref (b 16)])), (b 9, .inl (gI g, 10, .inl (fun _ => 0))), (b 10, .inl (gI g, 10, .inl (fun _ => 0))), (b 11, .inl (gI g, 10, .inl (fun _ => 0))), (b 12, .inl (gI g, 10, .inl (fun _ => 0))), (b 13, .inl (gI g, 10, .inl (fun _ => 0))), (b 14, .inl (gI g, 10, .inl (fun _ => 0))), (b 15, .inl (gI g, 10, .inl (fun _ => 0))), (b 16, .inl (gI g, 10, .inl (fun _ => 0))), (b 17, .inr (3, [.int 0, .ref (b 18), .ref (b 19), .ref (b 20)])), (b 18, .inl (gI g, 40, .inl (fun _ => 0))), (b 19, .inl (gI g, 40, .inl (fun _ => 0))), (b 20, .inl (gI g, 40, .inl (fun _ => 0))), (b 21, .inr (3, [.int 0, .ref (b 22), .ref (b 23), .ref (b 24)])), (b 22, .inl (gI g, 40, .inl (fun _ => 0))), (b 23, .inl (gI g, 40, .inl (fun _ => 0))), (b 24, .inl (gI g, 40, .inl (fun _ => 0))), (b 25, .inr (6, [.int 0, .int 0, .ref (b 26)])), (b 26, .inl (gI g, 14, .inl (fun _ => 0)))] := hD
  refine lv_aload_n hx hb dX4_become_97 rfl (lv_at hl 0 rfl) ?_
  refine lv_aload_n hx hb dX4_become_98 rfl (lv_at hl 1 rfl) ?_
  refine va_get (ci := 4) (C := RX4) (T := TX4) (N := 11) hx hb hts inlX4 hown hKW.1 hP 2 rfl rfl 9 (by decide) (hts _ wd_3_14) (fun _ h => h) rfl dX4_become_99 ?_
  refine va_put (ci := 4) (v := .int 36) (C := RX4) (T := TX4) (N := 11) hx hb hts inlX4 tyX4 tyX4_ok nmX4 hown hKW.1 hP hD hS 0 rfl rfl 9 (by decide) (hts _ wd_3_14) (fun _ h => h) rfl (tyX4_ok 9 (by decide)) rfl rfl (Nat.le_of_ble_eq_true rfl) dX4_become_102 (fun H locs hP hD hS => ?_)
  have hP : va_P g.1 vwCl [(a 0, .inr (4, [.ref (a 1), .ref (a 5), .ref (a 8), .ref (a 17), .ref (a 21), .ref (a 25), .ref (a 27), .int 0, .int 0, .int 36, .int 10])), (a 27, .inl (gI g, 60, .inl f_19)), (b 0, .inr (4, [.ref (b 1), .ref (b 5), .ref (b 8), .ref (b 17), .ref (b 21), .ref (b 25), .ref (b 27), .int 0, .int 0, .int 36, .int 10])), (b 27, .inl (gI g, 60, .inl (fun _ => 0))), (b 1, .inr (8, [.int 0, .ref (b 2), .ref (b 3), .ref (b 4)])), (b 2, .inl (gI g, 5, .inl (fun _ => 0))), (b 3, .inl (gI g, 5, .inl (fun _ => 0))), (b 4, .inl (gI g, 5, .inl (fun _ => 0))), (b 5, .inr (1, [.int 0, .ref (b 6), .ref (b 7), .int 0])), (b 6, .inl (gI g, 7, .inl (fun _ => 0))), (b 7, .inl (gI g, 7, .inl (fun _ => 0))), (b 8, .inr (0, [.int 0, .ref (b 9), .ref (b 10), .ref (b 11), .ref (b 12), .ref (b 13), .ref (b 14), .ref (b 15), .int 0, .int 0, .int 0, .ref (b 16)])), (b 9, .inl (gI g, 10, .inl (fun _ => 0))), (b 10, .inl (gI g, 10, .inl (fun _ => 0))), (b 11, .inl (gI g, 10, .inl (fun _ => 0))), (b 12, .inl (gI g, 10, .inl (fun _ => 0))), (b 13, .inl (gI g, 10, .inl (fun _ => 0))), (b 14, .inl (gI g, 10, .inl (fun _ => 0))), (b 15, .inl (gI g, 10, .inl (fun _ => 0))), (b 16, .inl (gI g, 10, .inl (fun _ => 0))), (b 17, .inr (3, [.int 0, .ref (b 18), .ref (b 19), .ref (b 20)])), (b 18, .inl (gI g, 40, .inl (fun _ => 0))), (b 19, .inl (gI g, 40, .inl (fun _ => 0))), (b 20, .inl (gI g, 40, .inl (fun _ => 0))), (b 21, .inr (3, [.int 0, .ref (b 22), .ref (b 23), .ref (b 24)])), (b 22, .inl (gI g, 40, .inl (fun _ => 0))), (b 23, .inl (gI g, 40, .inl (fun _ => 0))), (b 24, .inl (gI g, 40, .inl (fun _ => 0))), (b 25, .inr (6, [.int 0, .int 0, .ref (b 26)])), (b 26, .inl (gI g, 14, .inl (fun _ => 0)))] H := hP
  have hD : va_D A [(a 0, .inr (4, [.ref (a 1), .ref (a 5), .ref (a 8), .ref (a 17), .ref (a 21), .ref (a 25), .ref (a 27), .int 0, .int 0, .int 36, .int 10])), (a 27, .inl (gI g, 60, .inl f_19)), (b 0, .inr (4, [.ref (b 1), .ref (b 5), .ref (b 8), .ref (b 17), .ref (b 21), .ref (b 25), .ref (b 27), .int 0, .int 0, .int 36, .int 10])), (b 27, .inl (gI g, 60, .inl (fun _ => 0))), (b 1, .inr (8, [.int 0, .ref (b 2), .ref (b 3), .ref (b 4)])), (b 2, .inl (gI g, 5, .inl (fun _ => 0))), (b 3, .inl (gI g, 5, .inl (fun _ => 0))), (b 4, .inl (gI g, 5, .inl (fun _ => 0))), (b 5, .inr (1, [.int 0, .ref (b 6), .ref (b 7), .int 0])), (b 6, .inl (gI g, 7, .inl (fun _ => 0))), (b 7, .inl (gI g, 7, .inl (fun _ => 0))), (b 8, .inr (0, [.int 0, .ref (b 9), .ref (b 10), .ref (b 11), .ref (b 12), .ref (b 13), .ref (b 14), .ref (b 15), .int 0, .int 0, .int 0, .ref (b 16)])), (b 9, .inl (gI g, 10, .inl (fun _ => 0))), (b 10, .inl (gI g, 10, .inl (fun _ => 0))), (b 11, .inl (gI g, 10, .inl (fun _ => 0))), (b 12, .inl (gI g, 10, .inl (fun _ => 0))), (b 13, .inl (gI g, 10, .inl (fun _ => 0))), (b 14, .inl (gI g, 10, .inl (fun _ => 0))), (b 15, .inl (gI g, 10, .inl (fun _ => 0))), (b 16, .inl (gI g, 10, .inl (fun _ => 0))), (b 17, .inr (3, [.int 0, .ref (b 18), .ref (b 19), .ref (b 20)])), (b 18, .inl (gI g, 40, .inl (fun _ => 0))), (b 19, .inl (gI g, 40, .inl (fun _ => 0))), (b 20, .inl (gI g, 40, .inl (fun _ => 0))), (b 21, .inr (3, [.int 0, .ref (b 22), .ref (b 23), .ref (b 24)])), (b 22, .inl (gI g, 40, .inl (fun _ => 0))), (b 23, .inl (gI g, 40, .inl (fun _ => 0))), (b 24, .inl (gI g, 40, .inl (fun _ => 0))), (b 25, .inr (6, [.int 0, .int 0, .ref (b 26)])), (b 26, .inl (gI g, 14, .inl (fun _ => 0)))] := hD
  refine lv_aload_n hx hb dX4_become_105 rfl (lv_at hl 0 rfl) ?_
  refine lv_aload_n hx hb dX4_become_106 rfl (lv_at hl 1 rfl) ?_
  refine va_get (ci := 4) (C := RX4) (T := TX4) (N := 11) hx hb hts inlX4 hown hKW.1 hP 2 rfl rfl 10 (by decide) (hts _ wd_3_15) (fun _ h => h) rfl dX4_become_107 ?_
  refine va_put (ci := 4) (v := .int 10) (C := RX4) (T := TX4) (N := 11) hx hb hts inlX4 tyX4 tyX4_ok nmX4 hown hKW.1 hP hD hS 0 rfl rfl 10 (by decide) (hts _ wd_3_15) (fun _ h => h) rfl (tyX4_ok 10 (by decide)) rfl rfl (Nat.le_of_ble_eq_true rfl) dX4_become_110 (fun H locs hP hD hS => ?_)
  have hP : va_P g.1 vwCl [(a 0, .inr (4, [.ref (a 1), .ref (a 5), .ref (a 8), .ref (a 17), .ref (a 21), .ref (a 25), .ref (a 27), .int 0, .int 0, .int 36, .int 10])), (a 27, .inl (gI g, 60, .inl f_19)), (b 0, .inr (4, [.ref (b 1), .ref (b 5), .ref (b 8), .ref (b 17), .ref (b 21), .ref (b 25), .ref (b 27), .int 0, .int 0, .int 36, .int 10])), (b 27, .inl (gI g, 60, .inl (fun _ => 0))), (b 1, .inr (8, [.int 0, .ref (b 2), .ref (b 3), .ref (b 4)])), (b 2, .inl (gI g, 5, .inl (fun _ => 0))), (b 3, .inl (gI g, 5, .inl (fun _ => 0))), (b 4, .inl (gI g, 5, .inl (fun _ => 0))), (b 5, .inr (1, [.int 0, .ref (b 6), .ref (b 7), .int 0])), (b 6, .inl (gI g, 7, .inl (fun _ => 0))), (b 7, .inl (gI g, 7, .inl (fun _ => 0))), (b 8, .inr (0, [.int 0, .ref (b 9), .ref (b 10), .ref (b 11), .ref (b 12), .ref (b 13), .ref (b 14), .ref (b 15), .int 0, .int 0, .int 0, .ref (b 16)])), (b 9, .inl (gI g, 10, .inl (fun _ => 0))), (b 10, .inl (gI g, 10, .inl (fun _ => 0))), (b 11, .inl (gI g, 10, .inl (fun _ => 0))), (b 12, .inl (gI g, 10, .inl (fun _ => 0))), (b 13, .inl (gI g, 10, .inl (fun _ => 0))), (b 14, .inl (gI g, 10, .inl (fun _ => 0))), (b 15, .inl (gI g, 10, .inl (fun _ => 0))), (b 16, .inl (gI g, 10, .inl (fun _ => 0))), (b 17, .inr (3, [.int 0, .ref (b 18), .ref (b 19), .ref (b 20)])), (b 18, .inl (gI g, 40, .inl (fun _ => 0))), (b 19, .inl (gI g, 40, .inl (fun _ => 0))), (b 20, .inl (gI g, 40, .inl (fun _ => 0))), (b 21, .inr (3, [.int 0, .ref (b 22), .ref (b 23), .ref (b 24)])), (b 22, .inl (gI g, 40, .inl (fun _ => 0))), (b 23, .inl (gI g, 40, .inl (fun _ => 0))), (b 24, .inl (gI g, 40, .inl (fun _ => 0))), (b 25, .inr (6, [.int 0, .int 0, .ref (b 26)])), (b 26, .inl (gI g, 14, .inl (fun _ => 0)))] H := hP
  have hD : va_D A [(a 0, .inr (4, [.ref (a 1), .ref (a 5), .ref (a 8), .ref (a 17), .ref (a 21), .ref (a 25), .ref (a 27), .int 0, .int 0, .int 36, .int 10])), (a 27, .inl (gI g, 60, .inl f_19)), (b 0, .inr (4, [.ref (b 1), .ref (b 5), .ref (b 8), .ref (b 17), .ref (b 21), .ref (b 25), .ref (b 27), .int 0, .int 0, .int 36, .int 10])), (b 27, .inl (gI g, 60, .inl (fun _ => 0))), (b 1, .inr (8, [.int 0, .ref (b 2), .ref (b 3), .ref (b 4)])), (b 2, .inl (gI g, 5, .inl (fun _ => 0))), (b 3, .inl (gI g, 5, .inl (fun _ => 0))), (b 4, .inl (gI g, 5, .inl (fun _ => 0))), (b 5, .inr (1, [.int 0, .ref (b 6), .ref (b 7), .int 0])), (b 6, .inl (gI g, 7, .inl (fun _ => 0))), (b 7, .inl (gI g, 7, .inl (fun _ => 0))), (b 8, .inr (0, [.int 0, .ref (b 9), .ref (b 10), .ref (b 11), .ref (b 12), .ref (b 13), .ref (b 14), .ref (b 15), .int 0, .int 0, .int 0, .ref (b 16)])), (b 9, .inl (gI g, 10, .inl (fun _ => 0))), (b 10, .inl (gI g, 10, .inl (fun _ => 0))), (b 11, .inl (gI g, 10, .inl (fun _ => 0))), (b 12, .inl (gI g, 10, .inl (fun _ => 0))), (b 13, .inl (gI g, 10, .inl (fun _ => 0))), (b 14, .inl (gI g, 10, .inl (fun _ => 0))), (b 15, .inl (gI g, 10, .inl (fun _ => 0))), (b 16, .inl (gI g, 10, .inl (fun _ => 0))), (b 17, .inr (3, [.int 0, .ref (b 18), .ref (b 19), .ref (b 20)])), (b 18, .inl (gI g, 40, .inl (fun _ => 0))), (b 19, .inl (gI g, 40, .inl (fun _ => 0))), (b 20, .inl (gI g, 40, .inl (fun _ => 0))), (b 21, .inr (3, [.int 0, .ref (b 22), .ref (b 23), .ref (b 24)])), (b 22, .inl (gI g, 40, .inl (fun _ => 0))), (b 23, .inl (gI g, 40, .inl (fun _ => 0))), (b 24, .inl (gI g, 40, .inl (fun _ => 0))), (b 25, .inr (6, [.int 0, .int 0, .ref (b 26)])), (b 26, .inl (gI g, 14, .inl (fun _ => 0)))] := hD
  exact k_vret () [2, 4, 5, 6, 7, 8, 9, 10, 11, 12, 13, 14, 15, 16, 17, 18, 19, 20, 21, 22, 23, 24, 25, 26, 27, 28, 29, 3] hx hb hr hlk hP hD hS trivial rfl rfl rfl (Nat.le_of_ble_eq_true rfl) (Nat.le_of_ble_eq_true rfl) dX4_become_113
theorem dX2_add_0 : decode cX2_add 0 = .ok (.aload_n 0, 1) := by decide +kernel
theorem dX2_add_1 : decode cX2_add 1 = .ok (.getfield 11, 3) := by decide +kernel
theorem dX2_add_4 : decode cX2_add 4 = .ok (.aload_n 0, 1) := by decide +kernel
theorem dX2_add_5 : decode cX2_add 5 = .ok (.getfield 17, 3) := by decide +kernel
theorem dX2_add_8 : decode cX2_add 8 = .ok (.aaload, 1) := by decide +kernel
theorem dX2_add_9 : decode cX2_add 9 = .ok (.ifnonnull 19, 3) := by decide +kernel
theorem dX2_add_12 : decode cX2_add 12 = .ok (.aload_n 0, 1) := by decide +kernel
theorem dX2_add_13 : decode cX2_add 13 = .ok (.getfield 11, 3) := by decide +kernel
theorem dX2_add_16 : decode cX2_add 16 = .ok (.aload_n 0, 1) := by decide +kernel
theorem dX2_add_17 : decode cX2_add 17 = .ok (.getfield 17, 3) := by decide +kernel
theorem dX2_add_20 : decode cX2_add 20 = .ok (.new 9, 3) := by decide +kernel
theorem dX2_add_23 : decode cX2_add 23 = .ok (.dup, 1) := by decide +kernel
theorem dX2_add_24 : decode cX2_add 24 = .ok (.invokespecial 21, 3) := by decide +kernel
theorem dX2_add_27 : decode cX2_add 27 = .ok (.aastore, 1) := by decide +kernel
theorem dX2_add_28 : decode cX2_add 28 = .ok (.aload_n 0, 1) := by decide +kernel
theorem dX2_add_29 : decode cX2_add 29 = .ok (.getfield 11, 3) := by decide +kernel
theorem dX2_add_32 : decode cX2_add 32 = .ok (.aload_n 0, 1) := by decide +kernel
theorem dX2_add_33 : decode cX2_add 33 = .ok (.getfield 17, 3) := by decide +kernel
theorem dX2_add_36 : decode cX2_add 36 = .ok (.aaload, 1) := by decide +kernel
theorem dX2_add_37 : decode cX2_add 37 = .ok (.aload_n 1, 1) := by decide +kernel
theorem dX2_add_38 : decode cX2_add 38 = .ok (.invokevirtual 22, 3) := by decide +kernel
theorem dX2_add_41 : decode cX2_add 41 = .ok (.aload_n 0, 1) := by decide +kernel
theorem dX2_add_42 : decode cX2_add 42 = .ok (.aload_n 0, 1) := by decide +kernel
theorem dX2_add_43 : decode cX2_add 43 = .ok (.getfield 17, 3) := by decide +kernel
theorem dX2_add_46 : decode cX2_add 46 = .ok (.iconst 1, 1) := by decide +kernel
theorem dX2_add_47 : decode cX2_add 47 = .ok (.iadd, 1) := by decide +kernel
theorem dX2_add_48 : decode cX2_add 48 = .ok (.bipush 16, 2) := by decide +kernel
theorem dX2_add_50 : decode cX2_add 50 = .ok (.irem, 1) := by decide +kernel
theorem dX2_add_51 : decode cX2_add 51 = .ok (.putfield 17, 3) := by decide +kernel
theorem dX2_add_54 : decode cX2_add 54 = .ok (.aload_n 0, 1) := by decide +kernel
theorem dX2_add_55 : decode cX2_add 55 = .ok (.aload_n 0, 1) := by decide +kernel
theorem dX2_add_56 : decode cX2_add 56 = .ok (.getfield 26, 3) := by decide +kernel
theorem dX2_add_59 : decode cX2_add 59 = .ok (.iconst 1, 1) := by decide +kernel
theorem dX2_add_60 : decode cX2_add 60 = .ok (.iadd, 1) := by decide +kernel
theorem dX2_add_61 : decode cX2_add 61 = .ok (.bipush 16, 2) := by decide +kernel
theorem dX2_add_63 : decode cX2_add 63 = .ok (.invokestatic 29, 3) := by decide +kernel
theorem dX2_add_66 : decode cX2_add 66 = .ok (.putfield 26, 3) := by decide +kernel
theorem dX2_add_69 : decode cX2_add 69 = .ok (.return_, 1) := by decide +kernel
set_option maxHeartbeats 4000000 in
set_option maxRecDepth 100000 in
theorem c_X2_add (l : Launch) (g : kG) (sz : Nat) (h : Nat) (k : Nat) (b : Nat → Nat) : kMv l g yX2_add cX2_add 2 none 3 28 465 [.ref h, .ref (b 0)] sz [(h, .inr (2, [.int 0, .int 0, .ref k])), (k, .inl (gN g, 16, .inr (.inr (.inr (.inr (fun _ => none)))))), (b 0, .inr (4, [.ref (b 1), .ref (b 5), .ref (b 8), .ref (b 17), .ref (b 21), .ref (b 25), .ref (b 27), .int 0, .int 0, .int 36, .int 10])), (b 1, .inr (8, [.int 0, .ref (b 2), .ref (b 3), .ref (b 4)])), (b 2, .inl (gI g, 5, .inl (fun _ => 0))), (b 3, .inl (gI g, 5, .inl (fun _ => 0))), (b 4, .inl (gI g, 5, .inl (fun _ => 0))), (b 5, .inr (1, [.int 0, .ref (b 6), .ref (b 7), .int 0])), (b 6, .inl (gI g, 7, .inl (fun _ => 0))), (b 7, .inl (gI g, 7, .inl (fun _ => 0))), (b 8, .inr (0, [.int 0, .ref (b 9), .ref (b 10), .ref (b 11), .ref (b 12), .ref (b 13), .ref (b 14), .ref (b 15), .int 0, .int 0, .int 0, .ref (b 16)])), (b 9, .inl (gI g, 10, .inl (fun _ => 0))), (b 10, .inl (gI g, 10, .inl (fun _ => 0))), (b 11, .inl (gI g, 10, .inl (fun _ => 0))), (b 12, .inl (gI g, 10, .inl (fun _ => 0))), (b 13, .inl (gI g, 10, .inl (fun _ => 0))), (b 14, .inl (gI g, 10, .inl (fun _ => 0))), (b 15, .inl (gI g, 10, .inl (fun _ => 0))), (b 16, .inl (gI g, 10, .inl (fun _ => 0))), (b 17, .inr (3, [.int 0, .ref (b 18), .ref (b 19), .ref (b 20)])), (b 18, .inl (gI g, 40, .inl (fun _ => 0))), (b 19, .inl (gI g, 40, .inl (fun _ => 0))), (b 20, .inl (gI g, 40, .inl (fun _ => 0))), (b 21, .inr (3, [.int 0, .ref (b 22), .ref (b 23), .ref (b 24)])), (b 22, .inl (gI g, 40, .inl (fun _ => 0))), (b 23, .inl (gI g, 40, .inl (fun _ => 0))), (b 24, .inl (gI g, 40, .inl (fun _ => 0))), (b 25, .inr (6, [.int 0, .int 0, .ref (b 26)])), (b 26, .inl (gI g, 14, .inl (fun _ => 0))), (b 27, .inl (gI g, 60, .inl (fun _ => 0)))] (fun (u : Unit) => True) (fun (u : Unit) => ([(b 0, .inr (4, [.ref (b 1), .ref (b 5), .ref (b 8), .ref (b 17), .ref (b 21), .ref (b 25), .ref (b 27), .int 0, .int 0, .int 36, .int 10])), (b 1, .inr (8, [.int 0, .ref (b 2), .ref (b 3), .ref (b 4)])), (b 2, .inl (gI g, 5, .inl (fun _ => 0))), (b 3, .inl (gI g, 5, .inl (fun _ => 0))), (b 4, .inl (gI g, 5, .inl (fun _ => 0))), (b 5, .inr (1, [.int 0, .ref (b 6), .ref (b 7), .int 0])), (b 6, .inl (gI g, 7, .inl (fun _ => 0))), (b 7, .inl (gI g, 7, .inl (fun _ => 0))), (b 8, .inr (0, [.int 0, .ref (b 9), .ref (b 10), .ref (b 11), .ref (b 12), .ref (b 13), .ref (b 14), .ref (b 15), .int 0, .int 0, .int 0, .ref (b 16)])), (b 9, .inl (gI g, 10, .inl (fun _ => 0))), (b 10, .inl (gI g, 10, .inl (fun _ => 0))), (b 11, .inl (gI g, 10, .inl (fun _ => 0))), (b 12, .inl (gI g, 10, .inl (fun _ => 0))), (b 13, .inl (gI g, 10, .inl (fun _ => 0))), (b 14, .inl (gI g, 10, .inl (fun _ => 0))), (b 15, .inl (gI g, 10, .inl (fun _ => 0))), (b 16, .inl (gI g, 10, .inl (fun _ => 0))), (b 17, .inr (3, [.int 0, .ref (b 18), .ref (b 19), .ref (b 20)])), (b 18, .inl (gI g, 40, .inl (fun _ => 0))), (b 19, .inl (gI g, 40, .inl (fun _ => 0))), (b 20, .inl (gI g, 40, .inl (fun _ => 0))), (b 21, .inr (3, [.int 0, .ref (b 22), .ref (b 23), .ref (b 24)])), (b 22, .inl (gI g, 40, .inl (fun _ => 0))), (b 23, .inl (gI g, 40, .inl (fun _ => 0))), (b 24, .inl (gI g, 40, .inl (fun _ => 0))), (b 25, .inr (6, [.int 0, .int 0, .ref (b 26)])), (b 26, .inl (gI g, 14, .inl (fun _ => 0))), (b 27, .inl (gI g, 60, .inl (fun _ => 0)))] : va_W)) := by
  refine kMv.of (by decide) (Nat.le_of_ble_eq_true rfl) (fun p e s m below meth c A hx hb hr hml hown hts hlk hnm hKW hP hD hS hA ls hl => ?_)
  have hown : s.vm.findClass RX2 = some m.cls := hown
  have hl : lv_has ls 2 [(0, .ref h), (1, .ref (b 0))] := hl
  refine lv_aload_n hx hb dX2_add_0 rfl (lv_at hl 0 rfl) ?_
  refine va_get (ci := 2) (C := RX2) (T := TX2) (N := 3) hx hb hts inlX2 hown hKW.1 hP 0 rfl rfl 2 (by decide) (hts _ wd_5_4) (fun _ h => h) rfl dX2_add_1 ?_
  refine lv_aload_n hx hb dX2_add_4 rfl (lv_at hl 0 rfl) ?_
  refine va_get (ci := 2) (C := RX2) (T := TX2) (N := 3) hx hb hts inlX2 hown hKW.1 hP 0 rfl rfl 1 (by decide) (hts _ wd_7_22) (fun _ h => h) rfl dX2_add_5 ?_
  refine va_aldq hx hb hKW.1 hP 1 3 rfl rfl (show ¬ _ by decide) dX2_add_8 ?_
  refine W.eq (g2 := F0 m 9 ls [.null]) rfl ?_
  refine lv_ifnonnullN hx hb dX2_add_9 ?_
  refine lv_aload_n hx hb dX2_add_12 rfl (lv_at hl 0 rfl) ?_
  refine va_get (ci := 2) (C := RX2) (T := TX2) (N := 3) hx hb hts inlX2 hown hKW.1 hP 0 rfl rfl 2 (by decide) (hts _ wd_5_4) (fun _ h => h) rfl dX2_add_13 ?_
  refine lv_aload_n hx hb dX2_add_16 rfl (lv_at hl 0 rfl) ?_
  refine va_get (ci := 2) (C := RX2) (T := TX2) (N := 3) hx hb hts inlX2 hown hKW.1 hP 0 rfl rfl 1 (by decide) (hts _ wd_7_22) (fun _ h => h) rfl dX2_add_17 ?_
  refine va_new (ci := 4) (fs := [.null, .null, .null, .null, .null, .null, .null, .int 0, .int 0, .int 0, .int 0]) (C := RX4) (T := TX4) (N := 11) hx hb hts inlX4 tyX4 tyX4_ok hown (hts _ wd_5_3) (hts _ wd_1_13) (hts _ wd_1_14) hKW.1 hP hD hS hA rfl (fun j hj => by rcases (show j = 0 ∨ j = 1 ∨ j = 2 ∨ j = 3 ∨ j = 4 ∨ j = 5 ∨ j = 6 ∨ j = 7 ∨ j = 8 ∨ j = 9 ∨ j = 10 by omega) with rfl | rfl | rfl | rfl | rfl | rfl | rfl | rfl | rfl | rfl | rfl <;> rfl) (Nat.le_of_ble_eq_true rfl) (Nat.le_of_ble_eq_true rfl) dX2_add_20 (fun q_1 H hP hD hS => ?_)
  have hP : va_P g.1 vwCl [(h, .inr (2, [.int 0, .int 0, .ref k])), (k, .inl (gN g, 16, .inr (.inr (.inr (.inr (fun _ => none)))))), (b 0, .inr (4, [.ref (b 1), .ref (b 5), .ref (b 8), .ref (b 17), .ref (b 21), .ref (b 25), .ref (b 27), .int 0, .int 0, .int 36, .int 10])), (b 1, .inr (8, [.int 0, .ref (b 2), .ref (b 3), .ref (b 4)])), (b 2, .inl (gI g, 5, .inl (fun _ => 0))), (b 3, .inl (gI g, 5, .inl (fun _ => 0))), (b 4, .inl (gI g, 5, .inl (fun _ => 0))), (b 5, .inr (1, [.int 0, .ref (b 6), .ref (b 7), .int 0])), (b 6, .inl (gI g, 7, .inl (fun _ => 0))), (b 7, .inl (gI g, 7, .inl (fun _ => 0))), (b 8, .inr (0, [.int 0, .ref (b 9), .ref (b 10), .ref (b 11), .ref (b 12), .ref (b 13), .ref (b 14), .ref (b 15), .int 0, .int 0, .int 0, .ref (b 16)])), (b 9, .inl (gI g, 10, .inl (fun _ => 0))), (b 10, .inl (gI g, 10, .inl (fun _ => 0))), (b 11, .inl (gI g, 10, .inl (fun _ => 0))), (b 12, .inl (gI g, 10, .inl (fun _ => 0))), (b 13, .inl (gI g, 10, .inl (fun _ => 0))), (b 14, .inl (gI g, 10, .inl (fun _ => 0))), (b 15, .inl (gI g, 10, .inl (fun _ => 0))), (b 16, .inl (gI g, 10, .inl (fun _ => 0))), (b 17, .inr (3, [.int 0, .ref (b 18), .ref (b 19), .ref (b 20)])), (b 18, .inl (gI g, 40, .inl (fun _ => 0))), (b 19, .inl (gI g, 40, .inl (fun _ => 0))), (b 20, .inl (gI g, 40, .inl (fun _ => 0))), (b 21, .inr (3, [.int 0, .ref (b 22), .ref (b 23), .ref (b 24)])), (b 22, .inl (gI g, 40, .inl (fun _ => 0))), (b 23, .inl (gI g, 40, .inl (fun _ => 0))), (b 24, .inl (gI g, 40, .inl (fun _ => 0))), (b 25, .inr (6, [.int 0, .int 0, .ref (b 26)])), (b 26, .inl (gI g, 14, .inl (fun _ => 0))), (b 27, .inl (gI g, 60, .inl (fun _ => 0))), (q_1, .inr (4, [.null, .null, .null, .null, .null, .null, .null, .int 0, .int 0, .int 0, .int 0]))] H := hP
  have hD : va_D A [(h, .inr (2, [.int 0, .int 0, .ref k])), (k, .inl (gN g, 16, .inr (.inr (.inr (.inr (fun _ => none)))))), (b 0, .inr (4, [.ref (b 1), .ref (b 5), .ref (b 8), .ref (b 17), .ref (b 21), .ref (b 25), .ref (b 27), .int 0, .int 0, .int 36, .int 10])), (b 1, .inr (8, [.int 0, .ref (b 2), .ref (b 3), .ref (b 4)])), (b 2, .inl (gI g, 5, .inl (fun _ => 0))), (b 3, .inl (gI g, 5, .inl (fun _ => 0))), (b 4, .inl (gI g, 5, .inl (fun _ => 0))), (b 5, .inr (1, [.int 0, .ref (b 6), .ref (b 7), .int 0])), (b 6, .inl (gI g, 7, .inl (fun _ => 0))), (b 7, .inl (gI g, 7, .inl (fun _ => 0))), (b 8, .inr (0, [.int 0, .ref (b 9), .ref (b 10), .ref (b 11), .ref (b 12), .ref (b 13), .ref (b 14), .ref (b 15), .int 0, .int 0, .int 0, .ref (b 16)])), (b 9, .inl (gI g, 10, .inl (fun _ => 0))), (b 10, .inl (gI g, 10, .inl (fun _ => 0))), (b 11, .inl (gI g, 10, .inl (fun _ => 0))), (b 12, .inl (gI g, 10, .inl (fun _ => 0))), (b 13, .inl (gI g, 10, .inl (fun _ => 0))), (b 14, .inl (gI g, 10, .inl (fun _ => 0))), (b 15, .inl (gI g, 10, .inl (fun _ => 0))), (b 16, .inl (gI g, 10, .inl (fun _ => 0))), (b 17, .inr (3, [.int 0, .ref (b 18), .ref (b 19), .ref (b 20)])), (b 18, .inl (gI g, 40, .inl (fun _ => 0))), (b 19, .inl (gI g, 40, .inl (fun _ => 0))), (b 20, .inl (gI g, 40, .inl (fun _ => 0))), (b 21, .inr (3, [.int 0, .ref (b 22), .ref (b 23), .ref (b 24)])), (b 22, .inl (gI g, 40, .inl (fun _ => 0))), (b 23, .inl (gI g, 40, .inl (fun _ => 0))), (b 24, .inl (gI g, 40, .inl (fun _ => 0))), (b 25, .inr (6, [.int 0, .int 0, .ref (b 26)])), (b 26, .inl (gI g, 14, .inl (fun _ => 0))), (b 27, .inl (gI g, 60, .inl (fun _ => 0))), (q_1, .inr (4, [.null, .null, .null, .null, .null, .null, .null, .int 0, .int 0, .int 0, .int 0]))] := hD
  refine W.widen (k := 1) (n := 11) (Nat.le_of_ble_eq_true rfl) (Nat.le_of_ble_eq_true rfl) ?_
  refine lv_dup hx hb dX2_add_23 rfl ?_
  refine k_IN [30] [0, 1, 2, 3, 4, 5, 6, 7, 8, 9, 10, 11, 12, 13, 14, 15, 16, 17, 18, 19, 20, 21, 22, 23, 24, 25, 26, 27, 28, 29] (wr := [(h, .inr (2, [.int 0, .int 0, .ref k])), (k, .inl (gN g, 16, .inr (.inr (.inr (.inr (fun _ => none)))))), (b 0, .inr (4, [.ref (b 1), .ref (b 5), .ref (b 8), .ref (b 17), .ref (b 21), .ref (b 25), .ref (b 27), .int 0, .int 0, .int 36, .int 10])), (b 1, .inr (8, [.int 0, .ref (b 2), .ref (b 3), .ref (b 4)])), (b 2, .inl (gI g, 5, .inl (fun _ => 0))), (b 3, .inl (gI g, 5, .inl (fun _ => 0))), (b 4, .inl (gI g, 5, .inl (fun _ => 0))), (b 5, .inr (1, [.int 0, .ref (b 6), .ref (b 7), .int 0])), (b 6, .inl (gI g, 7, .inl (fun _ => 0))), (b 7, .inl (gI g, 7, .inl (fun _ => 0))), (b 8, .inr (0, [.int 0, .ref (b 9), .ref (b 10), .ref (b 11), .ref (b 12), .ref (b 13), .ref (b 14), .ref (b 15), .int 0, .int 0, .int 0, .ref (b 16)])), (b 9, .inl (gI g, 10, .inl (fun _ => 0))), (b 10, .inl (gI g, 10, .inl (fun _ => 0))), (b 11, .inl (gI g, 10, .inl (fun _ => 0))), (b 12, .inl (gI g, 10, .inl (fun _ => 0))), (b 13, .inl (gI g, 10, .inl (fun _ => 0))), (b 14, .inl (gI g, 10, .inl (fun _ => 0))), (b 15, .inl (gI g, 10, .inl (fun _ => 0))), (b 16, .inl (gI g, 10, .inl (fun _ => 0))), (b 17, .inr (3, [.int 0, .ref (b 18), .ref (b 19), .ref (b 20)])), (b 18, .inl (gI g, 40, .inl (fun _ => 0))), (b 19, .inl (gI g, 40, .inl (fun _ => 0))), (b 20, .inl (gI g, 40, .inl (fun _ => 0))), (b 21, .inr (3, [.int 0, .ref (b 22), .ref (b 23), .ref (b 24)])), (b 22, .inl (gI g, 40, .inl (fun _ => 0))), (b 23, .inl (gI g, 40, .inl (fun _ => 0))), (b 24, .inl (gI g, 40, .inl (fun _ => 0))), (b 25, .inr (6, [.int 0, .int 0, .ref (b 26)])), (b 26, .inl (gI g, 14, .inl (fun _ => 0))), (b 27, .inl (gI g, 60, .inl (fun _ => 0)))]) hx hb hml hown hts hKW hP hD hS hA hl.1 (c_X4_init l g _ q_1 ) rfl wd_2_13 wd_1_14 nw_11 wd_2_12 yd_X4_init ⟨Nat.le_of_ble_eq_true rfl, Nat.le_of_ble_eq_true rfl⟩ rfl rfl rfl rfl rfl (by decide) rfl (Nat.le_of_ble_eq_true rfl) dX2_add_24 ⟨Nat.le_of_ble_eq_true rfl, Nat.le_of_ble_eq_true rfl⟩ (fun u_3 H locs hw_4 hP hD hS => ?_)
  have hP : va_P g.1 vwCl [(h, .inr (2, [.int 0, .int 0, .ref k])), (k, .inl (gN g, 16, .inr (.inr (.inr (.inr (fun _ => none)))))), (b 0, .inr (4, [.ref (b 1), .ref (b 5), .ref (b 8), .ref (b 17), .ref (b 21), .ref (b 25), .ref (b 27), .int 0, .int 0, .int 36, .int 10])), (b 1, .inr (8, [.int 0, .ref (b 2), .ref (b 3), .ref (b 4)])), (b 2, .inl (gI g, 5, .inl (fun _ => 0))), (b 3, .inl (gI g, 5, .inl (fun _ => 0))), (b 4, .inl (gI g, 5, .inl (fun _ => 0))), (b 5, .inr (1, [.int 0, .ref (b 6), .ref (b 7), .int 0])), (b 6, .inl (gI g, 7, .inl (fun _ => 0))), (b 7, .inl (gI g, 7, .inl (fun _ => 0))), (b 8, .inr (0, [.int 0, .ref (b 9), .ref (b 10), .ref (b 11), .ref (b 12), .ref (b 13), .ref (b 14), .ref (b 15), .int 0, .int 0, .int 0, .ref (b 16)])), (b 9, .inl (gI g, 10, .inl (fun _ => 0))), (b 10, .inl (gI g, 10, .inl (fun _ => 0))), (b 11, .inl (gI g, 10, .inl (fun _ => 0))), (b 12, .inl (gI g, 10, .inl (fun _ => 0))), (b 13, .inl (gI g, 10, .inl (fun _ => 0))), (b 14, .inl (gI g, 10, .inl (fun _ => 0))), (b 15, .inl (gI g, 10, .inl (fun _ => 0))), (b 16, .inl (gI g, 10, .inl (fun _ => 0))), (b 17, .inr (3, [.int 0, .ref (b 18), .ref (b 19), .ref (b 20)])), (b 18, .inl (gI g, 40, .inl (fun _ => 0))), (b 19, .inl (gI g, 40, .inl (fun _ => 0))), (b 20, .inl (gI g, 40, .inl (fun _ => 0))), (b 21, .inr (3, [.int 0, .ref (b 22), .ref (b 23), .ref (b 24)])), (b 22, .inl (gI g, 40, .inl (fun _ => 0))), (b 23, .inl (gI g, 40, .inl (fun _ => 0))), (b 24, .inl (gI g, 40, .inl (fun _ => 0))), (b 25, .inr (6, [.int 0, .int 0, .ref (b 26)])), (b 26, .inl (gI g, 14, .inl (fun _ => 0))), (b 27, .inl (gI g, 60, .inl (fun _ => 0))), (q_1, .inr (4, [.ref (u_3 1), .ref (u_3 5), .ref (u_3 8), .ref (u_3 17), .ref (u_3 21), .ref (u_3 25), .ref (u_3 27), .int 0, .int 0, .int 36, .int 10])), (u_3 1, .inr (8, [.int 0, .ref (u_3 2), .ref (u_3 3), .ref (u_3 4)])), (u_3 2, .inl (gI g, 5, .inl (fun _ => 0))), (u_3 3, .inl (gI g, 5, .inl (fun _ => 0))), (u_3 4, .inl (gI g, 5, .inl (fun _ => 0))), (u_3 5, .inr (1, [.int 0, .ref (u_3 6), .ref (u_3 7), .int 0])), (u_3 6, .inl (gI g, 7, .inl (fun _ => 0))), (u_3 7, .inl (gI g, 7, .inl (fun _ => 0))), (u_3 8, .inr (0, [.int 0, .ref (u_3 9), .ref (u_3 10), .ref (u_3 11), .ref (u_3 12), .ref (u_3 13), .ref (u_3 14), .ref (u_3 15), .int 0, .int 0, .int 0, .ref (u_3 16)])), (u_3 9, .inl (gI g, 10, .inl (fun _ => 0))), (u_3 10, .inl (gI g, 10, .inl (fun _ => 0))), (u_3 11, .inl (gI g, 10, .inl (fun _ => 0))), (u_3 12, .inl (gI g, 10, .inl (fun _ => 0))), (u_3 13, .inl (gI g, 10, .inl (fun _ => 0))), (u_3 14, .inl (gI g, 10, .inl (fun _ => 0))), (u_3 15, .inl (gI g, 10, .inl (fun _ => 0))), (u_3 16, .inl (gI g, 10, .inl (fun _ => 0))), (u_3 17, .inr (3, [.int 0, .ref (u_3 18), .ref (u_3 19), .ref (u_3 20)])), (u_3 18, .inl (gI g, 40, .inl (fun _ => 0))), (u_3 19, .inl (gI g, 40, .inl (fun _ => 0))), (u_3 20, .inl (gI g, 40, .inl (fun _ => 0))), (u_3 21, .inr (3, [.int 0, .ref (u_3 22), .ref (u_3 23), .ref (u_3 24)])), (u_3 22, .inl (gI g, 40, .inl (fun _ => 0))), (u_3 23, .inl (gI g, 40, .inl (fun _ => 0))), (u_3 24, .inl (gI g, 40, .inl (fun _ => 0))), (u_3 25, .inr (6, [.int 0, .int 0, .ref (u_3 26)])), (u_3 26, .inl (gI g, 14, .inl (fun _ => 0))), (u_3 27, .inl (gI g, 60, .inl (fun _ => 0)))] H := hP
  have hD : va_D A [(h, .inr (2, [.int 0, .int 0, .ref k])), (k, .inl (gN g, 16, .inr (.inr (.inr (.inr (fun _ => none)))))), (b 0, .inr (4, [.ref (b 1), .ref (b 5), .ref (b 8), .ref (b 17), .ref (b 21), .ref (b 25), .ref (b 27), .int 0, .int 0, .int 36, .int 10])), (b 1, .inr (8, [.int 0, .ref (b 2), .ref (b 3), .ref (b 4)])), (b 2, .inl (gI g, 5, .inl (fun _ => 0))), (b 3, .inl (gI g, 5, .inl (fun _ => 0))), (b 4, .inl (gI g, 5, .inl (fun _ => 0))), (b 5, .inr (1, [.int 0, .ref (b 6), .ref (b 7), .int 0])), (b 6, .inl (gI g, 7, .inl (fun _ => 0))), (b 7, .inl (gI g, 7, .inl (fun _ => 0))), (b 8, .inr (0, [.int 0, .ref (b 9), .ref (b 10), .ref (b 11), .ref (b 12), .ref (b 13), .ref (b 14), .ref (b 15), .int 0, .int 0, .int 0, .ref (b 16)])), (b 9, .inl (gI g, 10, .inl (fun _ => 0))), (b 10, .inl (gI g, 10, .inl (fun _ => 0))), (b 11, .inl (gI g, 10, .inl (fun _ => 0))), (b 12, .inl (gI g, 10, .inl (fun _ => 0))), (b 13, .inl (gI g, 10, .inl (fun _ => 0))), (b 14, .inl (gI g, 10, .inl (fun _ => 0))), (b 15, .inl (gI g, 10, .inl (fun _ => 0))), (b 16, .inl (gI g, 10, .inl (fun _ => 0))), (b 17, .inr (3, [.int 0, .ref (b 18), .ref (b 19), .ref (b 20)])), (b 18, .inl (gI g, 40, .inl (fun _ => 0))), (b 19, .inl (gI g, 40, .inl (fun _ => 0))), (b 20, .inl (gI g, 40, .inl (fun _ => 0))), (b 21, .inr (3, [.int 0, .ref (b 22), .ref (b 23), .ref (b 24)])), (b 22, .inl (gI g, 40, .inl (fun _ => 0))), (b 23, .inl (gI g, 40, .inl (fun _ => 0))), (b 24, .inl (gI g, 40, .inl (fun _ => 0))), (b 25, .inr (6, [.int 0, .int 0, .ref (b 26)])), (b 26, .inl (gI g, 14, .inl (fun _ => 0))), (b 27, .inl (gI g, 60, .inl (fun _ => 0))), (q_1, .inr (4, [.ref (u_3 1), .ref (u_3 5), .ref (u_3 8), .ref (u_3 17), .ref (u_3 21), .ref (u_3 25), .ref (u_3 27), .int 0, .int 0, .int 36, .int 10])), (u_3 1, .inr (8, [.int 0, .ref (u_3 2), .ref (u_3 3), .ref (u_3 4)])), (u_3 2, .inl (gI g, 5, .inl (fun _ => 0))), (u_3 3, .inl (gI g, 5, .inl (fun _ => 0))), (u_3 4, .inl (gI g, 5, .inl (fun _ => 0))), (u_3 5, .inr (1, [.int 0, .ref (u_3 6), .ref (u_3 7), .int 0])), (u_3 6, .inl (gI g, 7, .inl (fun _ => 0))), (u_3 7, .inl (gI g, 7, .inl (fun _ => 0))), (u_3 8, .inr (0, [.int 0, .ref (u_3 9), .ref (u_3 10), .ref (u_3 11), .ref (u_3 12), .ref (u_3 13), .ref (u_3 14), .ref (u_3 15), .int 0, .int 0, .int 0, .ref (u_3 16)])), (u_3 9, .inl (gI g, 10, .inl (fun _ => 0))), (u_3 10, .inl (gI g, 10, .inl (fun _ => 0))), (u_3 11, .inl (gI g, 10, .inl (fun _ => 0))), (u_3 12, .inl (gI g, 10, .inl (fun _ => 0))), (u_3 13, .inl (gI g, 10, .inl (fun _ => 0))), (u_3 14, .inl (gI g, 10, .inl (fun _ => 0))), (u_3 15, .inl (gI g, 10, .inl (fun _ => 0))), (u_3 16, .inl (gI g, 10, .inl (fun _ => 0))), (u_3 17, .inr (3, [.int 0, .ref (u_3 18), .ref (u_3 19), .ref (u_3 20)])), (u_3 18, .inl (gI g, 40, .inl (fun _ => 0))), (u_3 19, .inl (gI g, 40, .inl (fun _ => 0))), (u_3 20, .inl (gI g, 40, .inl (fun _ => 0))), (u_3 21, .inr (3, [.int 0, .ref (u_3 22), .ref (u_3 23), .ref (u_3 24)])), (u_3 22, .inl (gI g, 40, .inl (fun _ => 0))), (u_3 23, .inl (gI g, 40, .inl (fun _ => 0))), (u_3 24, .inl (gI g, 40, .inl (fun _ => 0))), (u_3 25, .inr (6, [.int 0, .int 0, .ref (u_3 26)])), (u_3 26, .inl (gI g, 14, .inl (fun _ => 0))), (u_3 27, .inl (gI g, 60, .inl (fun _ => 0)))] := hD
  refine W.widen (k := 28) (n := 465) (Nat.le_of_ble_eq_true rfl) (Nat.le_of_ble_eq_true rfl) ?_
  refine va_astq hx hb hKW.1 hP hD hS 1 3 30 4 rfl rfl rfl rfl (show ¬ _ by decide) dX2_add_27 (fun H locs hP hD hS => ?_)
  have hP : va_P g.1 vwCl [(h, .inr (2, [.int 0, .int 0, .ref k])), (k, .inl (gN g, 16, .inr (.inr (.inr (.inr (va_up (fun _ => none) 0 (some q_1))))))), (b 0, .inr (4, [.ref (b 1), .ref (b 5), .ref (b 8), .ref (b 17), .ref (b 21), .ref (b 25), .ref (b 27), .int 0, .int 0, .int 36, .int 10])), (b 1, .inr (8, [.int 0, .ref (b 2), .ref (b 3), .ref (b 4)])), (b 2, .inl (gI g, 5, .inl (fun _ => 0))), (b 3, .inl (gI g, 5, .inl (fun _ => 0))), (b 4, .inl (gI g, 5, .inl (fun _ => 0))), (b 5, .inr (1, [.int 0, .ref (b 6), .ref (b 7), .int 0])), (b 6, .inl (gI g, 7, .inl (fun _ => 0))), (b 7, .inl (gI g, 7, .inl (fun _ => 0))), (b 8, .inr (0, [.int 0, .ref (b 9), .ref (b 10), .ref (b 11), .ref (b 12), .ref (b 13), .ref (b 14), .ref (b 15), .int 0, .int 0, .int 0, .ref (b 16)])), (b 9, .inl (gI g, 10, .inl (fun _ => 0))), (b 10, .inl (gI g, 10, .inl (fun _ => 0))), (b 11, .inl (gI g, 10, .inl (fun _ => 0))), (b 12, .inl (gI g, 10, .inl (fun _ => 0))), (b 13, .inl (gI g, 10, .inl (fun _ => 0))), (b 14, .inl (gI g, 10, .inl (fun _ => 0))), (b 15, .inl (gI g, 10, .inl (fun _ => 0))), (b 16, .inl (gI g, 10, .inl (fun _ => 0))), (b 17, .inr (3, [.int 0, .ref (b 18), .ref (b 19), .ref (b 20)])), (b 18, .inl (gI g, 40, .inl (fun _ => 0))), (b 19, .inl (gI g, 40, .inl (fun _ => 0))), (b 20, .inl (gI g, 40, .inl (fun _ => 0))), (b 21, .inr (3, [.int 0, .ref (b 22), .ref (b 23), .ref (b 24)])), (b 22, .inl (gI g, 40, .inl (fun _ => 0))), (b 23, .inl (gI g, 40, .inl (fun _ => 0))), (b 24, .inl (gI g, 40, .inl (fun _ => 0))), (b 25, .inr (6, [.int 0, .int 0, .ref (b 26)])), (b 26, .inl (gI g, 14, .inl (fun _ => 0))), (b 27, .inl (gI g, 60, .inl (fun _ => 0))), (q_1, .inr (4, [.ref (u_3 1), .ref (u_3 5), .ref (u_3 8), .ref (u_3 17), .ref (u_3 21), .ref (u_3 25), .ref (u_3 27), .int 0, .int 0, .int 36, .int 10])), (u_3 1, .inr (8, [.int 0, .ref (u_3 2), .ref (u_3 3), .ref (u_3 4)])), (u_3 2, .inl (gI g, 5, .inl (fun _ => 0))), (u_3 3, .inl (gI g, 5, .inl (fun _ => 0))), (u_3 4, .inl (gI g, 5, .inl (fun _ => 0))), (u_3 5, .inr (1, [.int 0, .ref (u_3 6), .ref (u_3 7), .int 0])), (u_3 6, .inl (gI g, 7, .inl (fun _ => 0))), (u_3 7, .inl (gI g, 7, .inl (fun _ => 0))), (u_3 8, .inr (0, [.int 0, .ref (u_3 9), .ref (u_3 10), .ref (u_3 11), .ref (u_3 12), .ref (u_3 13), .ref (u_3 14), .ref (u_3 15), .int 0, .int 0, .int 0, .ref (u_3 16)])), (u_3 9, .inl (gI g, 10, .inl (fun _ => 0))), (u_3 10, .inl (gI g, 10, .inl (fun _ => 0))), (u_3 11, .inl (gI g, 10, .inl (fun _ => 0))), (u_3 12, .inl (gI g, 10, .inl (fun _ => 0))), (u_3 13, .inl (gI g, 10, .inl (fun _ => 0))), (u_3 14, .inl (gI g, 10, .inl (fun _ => 0))), (u_3 15, .inl (gI g, 10, .inl (fun _ => 0))), (u_3 16, .inl (gI g, 10, .inl (fun _ => 0))), (u_3 17, .inr (3, [.int 0, .ref (u_3 18), .ref (u_3 19), .ref (u_3 20)])), (u_3 18, .inl (gI g, 40, .inl (fun _ => 0))), (u_3 19, .inl (gI g, 40, .inl (fun _ => 0))), (u_3 20, .inl (gI g, 40, .inl (fun _ => 0))), (u_3 21, .inr (3, [.int 0, .ref (u_3 22), .ref (u_3 23), .ref (u_3 24)])), (u_3 22, .inl (gI g, 40, .inl (fun _ => 0))), (u_3 23, .inl (gI g, 40, .inl (fun _ => 0))), (u_3 24, .inl (gI g, 40, .inl (fun _ => 0))), (u_3 25, .inr (6, [.int 0, .int 0, .ref (u_3 26)])), (u_3 26, .inl (gI g, 14, .inl (fun _ => 0))), (u_3 27, .inl (gI g, 60, .inl (fun _ => 0)))] H := hP
  have hD : va_D A [(h, .inr (2, [.int 0, .int 0, .ref k])), (k, .inl (gN g, 16, .inr (.inr (.inr (.inr (va_up (fun _ => none) 0 (some q_1))))))), (b 0, .inr (4, [.ref (b 1), .ref (b 5), .ref (b 8), .ref (b 17), .ref (b 21), .ref (b 25), .ref (b 27), .int 0, .int 0, .int 36, .int 10])), (b 1, .inr (8, [.int 0, .ref (b 2), .ref (b 3), .ref (b 4)])), (b 2, .inl (gI g, 5, .inl (fun _ => 0))), (b 3, .inl (gI g, 5, .inl (fun _ => 0))), (b 4, .inl (gI g, 5, .inl (fun _ => 0))), (b 5, .inr (1, [.int 0, .ref (b 6), .ref (b 7), .int 0])), (b 6, .inl (gI g, 7, .inl (fun _ => 0))), (b 7, .inl (gI g, 7, .inl (fun _ => 0))), (b 8, .inr (0, [.int 0, .ref (b 9), .ref (b 10), .ref (b 11), .ref (b 12), .ref (b 13), .ref (b 14), .ref (b 15), .int 0, .int 0, .int 0, .ref (b 16)])), (b 9, .inl (gI g, 10, .inl (fun _ => 0))), (b 10, .inl (gI g, 10, .inl (fun _ => 0))), (b 11, .inl (gI g, 10, .inl (fun _ => 0))), (b 12, .inl (gI g, 10, .inl (fun _ => 0))), (b 13, .inl (gI g, 10, .inl (fun _ => 0))), (b 14, .inl (gI g, 10, .inl (fun _ => 0))), (b 15, .inl (gI g, 10, .inl (fun _ => 0))), (b 16, .inl (gI g, 10, .inl (fun _ => 0))), (b 17, .inr (3, [.int 0, .ref (b 18), .ref (b 19), .ref (b 20)])), (b 18, .inl (gI g, 40, .inl (fun _ => 0))), (b 19, .inl (gI g, 40, .inl (fun _ => 0))), (b 20, .inl (gI g, 40, .inl (fun _ => 0))), (b 21, .inr (3, [.int 0, .ref (b 22), .ref (b 23), .ref (b 24)])), (b 22, .inl (gI g, 40, .inl (fun _ => 0))), (b 23, .inl (gI g, 40, .inl (fun _ => 0))), (b 24, .inl (gI g, 40, .inl (fun _ => 0))), (b 25, .inr (6, [.int 0, .int 0, .ref (b 26)])), (b 26, .inl (gI g, 14, .inl (fun _ => 0))), (b 27, .inl (gI g, 60, .inl (fun _ => 0))), (q_1, .inr (4, [.ref (u_3 1), .ref (u_3 5), .ref (u_3 8), .ref (u_3 17), .ref (u_3 21), .ref (u_3 25), .ref (u_3 27), .int 0, .int 0, .int 36, .int 10])), (u_3 1, .inr (8, [.int 0, .ref (u_3 2), .ref (u_3 3), .ref (u_3 4)])), (u_3 2, .inl (gI g, 5, .inl (fun _ => 0))), (u_3 3, .inl (gI g, 5, .inl (fun _ => 0))), (u_3 4, .inl (gI g, 5, .inl (fun _ => 0))), (u_3 5, .inr (1, [.int 0, .ref (u_3 6), .ref (u_3 7), .int 0])), (u_3 6, .inl (gI g, 7, .inl (fun _ => 0))), (u_3 7, .inl (gI g, 7, .inl (fun _ => 0))), (u_3 8, .inr (0, [.int 0, .ref (u_3 9), .ref (u_3 10), .ref (u_3 11), .ref (u_3 12), .ref (u_3 13), .ref (u_3 14), .ref (u_3 15), .int 0, .int 0, .int 0, .ref (u_3 16)])), (u_3 9, .inl (gI g, 10, .inl (fun _ => 0))), (u_3 10, .inl (gI g, 10, .inl (fun _ => 0))), (u_3 11, .inl (gI g, 10, .inl (fun _ => 0))), (u_3 12, .inl (gI g, 10, .inl (fun _ => 0))), (u_3 13, .inl (gI g, 10, .inl (fun _ => 0))), (u_3 14, .inl (gI g, 10, .inl (fun _ => 0))), (u_3 15, .inl (gI g, 10, .inl (fun _ => 0))), (u_3 16, .inl (gI g, 10, .inl (fun _ => 0))), (u_3 17, .inr (3, [.int 0, .ref (u_3 18), .ref (u_3 19), .ref (u_3 20)])), (u_3 18, .inl (gI g, 40, .inl (fun _ => 0))), (u_3 19, .inl (gI g, 40, .inl (fun _ => 0))), (u_3 20, .inl (gI g, 40, .inl (fun _ => 0))), (u_3 21, .inr (3, [.int 0, .ref (u_3 22), .ref (u_3 23), .ref (u_3 24)])), (u_3 22, .inl (gI g, 40, .inl (fun _ => 0))), (u_3 23, .inl (gI g, 40, .inl (fun _ => 0))), (u_3 24, .inl (gI g, 40, .inl (fun _ => 0))), (u_3 25, .inr (6, [.int 0, .int 0, .ref (u_3 26)])), (u_3 26, .inl (gI g, 14, .inl (fun _ => 0))), (u_3 27, .inl (gI g, 60, .inl (fun _ => 0)))] := hD
  refine lv_aload_n hx hb dX2_add_28 rfl (lv_at hl 0 rfl) ?_
  refine va_get (ci := 2) (C := RX2) (T := TX2) (N := 3) hx hb hts inlX2 hown hKW.1 hP 0 rfl rfl 2 (by decide) (hts _ wd_5_4) (fun _ h => h) rfl dX2_add_29 ?_
  refine lv_aload_n hx hb dX2_add_32 rfl (lv_at hl 0 rfl) ?_
  refine va_get (ci := 2) (C := RX2) (T := TX2) (N := 3) hx hb hts inlX2 hown hKW.1 hP 0 rfl rfl 1 (by decide) (hts _ wd_7_22) (fun _ h => h) rfl dX2_add_33 ?_
  refine va_aldq hx hb hKW.1 hP 1 3 rfl rfl (show ¬ _ by decide) dX2_add_36 ?_
  refine W.eq (g2 := F0 m 37 ls [.ref q_1]) rfl ?_
  refine lv_aload_n hx hb dX2_add_37 rfl (lv_at hl 1 rfl) ?_
  refine k_Vv [30, 31, 32, 33, 34, 35, 36, 37, 38, 39, 40, 41, 42, 43, 44, 45, 46, 47, 48, 49, 50, 51, 52, 53, 54, 55, 56, 57, 2, 3, 4, 5, 6, 7, 8, 9, 10, 11, 12, 13, 14, 15, 16, 17, 18, 19, 20, 21, 22, 23, 24, 25, 26, 27, 28, 29] [0, 1] 30 4 (wr := [(h, .inr (2, [.int 0, .int 0, .ref k])), (k, .inl (gN g, 16, .inr (.inr (.inr (.inr (va_up (fun _ => none) 0 (some q_1)))))))]) hx hb hml hown hts hKW hP hD hS hA hl.1 (c_X4_become l g _ (fun k => ([q_1, u_3 1, u_3 2, u_3 3, u_3 4, u_3 5, u_3 6, u_3 7, u_3 8, u_3 9, u_3 10, u_3 11, u_3 12, u_3 13, u_3 14, u_3 15, u_3 16, u_3 17, u_3 18, u_3 19, u_3 20, u_3 21, u_3 22, u_3 23, u_3 24, u_3 25, u_3 26, u_3 27] : List Nat).getD k 0) b ) rfl rfl rfl wd_8_7 wd_1_14 wd_8_4 wd_8_5 wd_8_6 yd_X4_become ⟨Nat.le_of_ble_eq_true rfl, Nat.le_of_ble_eq_true rfl⟩ rfl rfl rfl rfl rfl (by decide) rfl (Nat.le_of_ble_eq_true rfl) dX2_add_38 ⟨Nat.le_of_ble_eq_true rfl, Nat.le_of_ble_eq_true rfl⟩ (fun u_6 H locs hw_7 hP hD hS => ?_)
  have hP : va_P g.1 vwCl [(h, .inr (2, [.int 0, .int 0, .ref k])), (k, .inl (gN g, 16, .inr (.inr (.inr (.inr (va_up (fun _ => none) 0 (some q_1))))))), (b 0, .inr (4, [.ref (b 1), .ref (b 5), .ref (b 8), .ref (b 17), .ref (b 21), .ref (b 25), .ref (b 27), .int 0, .int 0, .int 36, .int 10])), (b 1, .inr (8, [.int 0, .ref (b 2), .ref (b 3), .ref (b 4)])), (b 2, .inl (gI g, 5, .inl (fun _ => 0))), (b 3, .inl (gI g, 5, .inl (fun _ => 0))), (b 4, .inl (gI g, 5, .inl (fun _ => 0))), (b 5, .inr (1, [.int 0, .ref (b 6), .ref (b 7), .int 0])), (b 6, .inl (gI g, 7, .inl (fun _ => 0))), (b 7, .inl (gI g, 7, .inl (fun _ => 0))), (b 8, .inr (0, [.int 0, .ref (b 9), .ref (b 10), .ref (b 11), .ref (b 12), .ref (b 13), .ref (b 14), .ref (b 15), .int 0, .int 0, .int 0, .ref (b 16)])), (b 9, .inl (gI g, 10, .inl (fun _ => 0))), (b 10, .inl (gI g, 10, .inl (fun _ => 0))), (b 11, .inl (gI g, 10, .inl (fun _ => 0))), (b 12, .inl (gI g, 10, .inl (fun _ => 0))), (b 13, .inl (gI g, 10, .inl (fun _ => 0))), (b 14, .inl (gI g, 10, .inl (fun _ => 0))), (b 15, .inl (gI g, 10, .inl (fun _ => 0))), (b 16, .inl (gI g, 10, .inl (fun _ => 0))), (b 17, .inr (3, [.int 0, .ref (b 18), .ref (b 19), .ref (b 20)])), (b 18, .inl (gI g, 40, .inl (fun _ => 0))), (b 19, .inl (gI g, 40, .inl (fun _ => 0))), (b 20, .inl (gI g, 40, .inl (fun _ => 0))), (b 21, .inr (3, [.int 0, .ref (b 22), .ref (b 23), .ref (b 24)])), (b 22, .inl (gI g, 40, .inl (fun _ => 0))), (b 23, .inl (gI g, 40, .inl (fun _ => 0))), (b 24, .inl (gI g, 40, .inl (fun _ => 0))), (b 25, .inr (6, [.int 0, .int 0, .ref (b 26)])), (b 26, .inl (gI g, 14, .inl (fun _ => 0))), (b 27, .inl (gI g, 60, .inl (fun _ => 0)))] H := hP
  have hD : va_D A [(h, .inr (2, [.int 0, .int 0, .ref k])), (k, .inl (gN g, 16, .inr (.inr (.inr (.inr (va_up (fun _ => none) 0 (some q_1))))))), (b 0, .inr (4, [.ref (b 1), .ref (b 5), .ref (b 8), .ref (b 17), .ref (b 21), .ref (b 25), .ref (b 27), .int 0, .int 0, .int 36, .int 10])), (b 1, .inr (8, [.int 0, .ref (b 2), .ref (b 3), .ref (b 4)])), (b 2, .inl (gI g, 5, .inl (fun _ => 0))), (b 3, .inl (gI g, 5, .inl (fun _ => 0))), (b 4, .inl (gI g, 5, .inl (fun _ => 0))), (b 5, .inr (1, [.int 0, .ref (b 6), .ref (b 7), .int 0])), (b 6, .inl (gI g, 7, .inl (fun _ => 0))), (b 7, .inl (gI g, 7, .inl (fun _ => 0))), (b 8, .inr (0, [.int 0, .ref (b 9), .ref (b 10), .ref (b 11), .ref (b 12), .ref (b 13), .ref (b 14), .ref (b 15), .int 0, .int 0, .int 0, .ref (b 16)])), (b 9, .inl (gI g, 10, .inl (fun _ => 0))), (b 10, .inl (gI g, 10, .inl (fun _ => 0))), (b 11, .inl (gI g, 10, .inl (fun _ => 0))), (b 12, .inl (gI g, 10, .inl (fun _ => 0))), (b 13, .inl (gI g, 10, .inl (fun _ => 0))), (b 14, .inl (gI g, 10, .inl (fun _ => 0))), (b 15, .inl (gI g, 10, .inl (fun _ => 0))), (b 16, .inl (gI g, 10, .inl (fun _ => 0))), (b 17, .inr (3, [.int 0, .ref (b 18), .ref (b 19), .ref (b 20)])), (b 18, .inl (gI g, 40, .inl (fun _ => 0))), (b 19, .inl (gI g, 40, .inl (fun _ => 0))), (b 20, .inl (gI g, 40, .inl (fun _ => 0))), (b 21, .inr (3, [.int 0, .ref (b 22), .ref (b 23), .ref (b 24)])), (b 22, .inl (gI g, 40, .inl (fun _ => 0))), (b 23, .inl (gI g, 40, .inl (fun _ => 0))), (b 24, .inl (gI g, 40, .inl (fun _ => 0))), (b 25, .inr (6, [.int 0, .int 0, .ref (b 26)])), (b 26, .inl (gI g, 14, .inl (fun _ => 0))), (b 27, .inl (gI g, 60, .inl (fun _ => 0)))] := hD
  refine lv_aload_n hx hb dX2_add_41 rfl (lv_at hl 0 rfl) ?_
  refine lv_aload_n hx hb dX2_add_42 rfl (lv_at hl 0 rfl) ?_
  refine va_get (ci := 2) (C := RX2) (T := TX2) (N := 3) hx hb hts inlX2 hown hKW.1 hP 0 rfl rfl 1 (by decide) (hts _ wd_7_22) (fun _ h => h) rfl dX2_add_43 ?_
  refine lv_iconst (v := 1) hx hb dX2_add_46 (by decide) ?_
  refine lv_iadd hx hb dX2_add_47 ?_
  refine k_top (y := 1) (by decide) ?_
  refine lv_bipush (v := 16) hx hb dX2_add_48 (by decide) ?_
  refine lv_irem hx hb dX2_add_50 (by decide) ?_
  refine k_top (y := 1) (by decide) ?_
  refine va_put (ci := 2) (v := .int 1) (C := RX2) (T := TX2) (N := 3) hx hb hts inlX2 tyX2 tyX2_ok nmX2 hown hKW.1 hP hD hS 0 rfl rfl 1 (by decide) (hts _ wd_7_22) (fun _ h => h) rfl (tyX2_ok 1 (by decide)) rfl rfl (Nat.le_of_ble_eq_true rfl) dX2_add_51 (fun H locs hP hD hS => ?_)
  have hP : va_P g.1 vwCl [(h, .inr (2, [.int 0, .int 1, .ref k])), (k, .inl (gN g, 16, .inr (.inr (.inr (.inr (va_up (fun _ => none) 0 (some q_1))))))), (b 0, .inr (4, [.ref (b 1), .ref (b 5), .ref (b 8), .ref (b 17), .ref (b 21), .ref (b 25), .ref (b 27), .int 0, .int 0, .int 36, .int 10])), (b 1, .inr (8, [.int 0, .ref (b 2), .ref (b 3), .ref (b 4)])), (b 2, .inl (gI g, 5, .inl (fun _ => 0))), (b 3, .inl (gI g, 5, .inl (fun _ => 0))), (b 4, .inl (gI g, 5, .inl (fun _ => 0))), (b 5, .inr (1, [.int 0, .ref (b 6), .ref (b 7), .int 0])), (b 6, .inl (gI g, 7, .inl (fun _ => 0))), (b 7, .inl (gI g, 7, .inl (fun _ => 0))), (b 8, .inr (0, [.int 0, .ref (b 9), .ref (b 10), .ref (b 11), .ref (b 12), .ref (b 13), .ref (b 14), .ref (b 15), .int 0, .int 0, .int 0, .ref (b 16)])), (b 9, .inl (gI g, 10, .inl (fun _ => 0))), (b 10, .inl (gI g, 10, .inl (fun _ => 0))), (b 11, .inl (gI g, 10, .inl (fun _ => 0))), (b 12, .inl (gI g, 10, .inl (fun _ => 0))), (b 13, .inl (gI g, 10, .inl (fun _ => 0))), (b 14, .inl (gI g, 10, .inl (fun _ => 0))), (b 15, .inl (gI g, 10, .inl (fun _ => 0))), (b 16, .inl (gI g, 10, .inl (fun _ => 0))), (b 17, .inr (3, [.int 0, .ref (b 18), .ref (b 19), .ref (b 20)])), (b 18, .inl (gI g, 40, .inl (fun _ => 0))), (b 19, .inl (gI g, 40, .inl (fun _ => 0))), (b 20, .inl (gI g, 40, .inl (fun _ => 0))), (b 21, .inr (3, [.int 0, .ref (b 22), .ref (b 23), .ref (b 24)])), (b 22, .inl (gI g, 40, .inl (fun _ => 0))), (b 23, .inl (gI g, 40, .inl (fun _ => 0))), (b 24, .inl (gI g, 40, .inl (fun _ => 0))), (b 25, .inr (6, [.int 0, .int 0, .ref (b 26)])), (b 26, .inl (gI g, 14, .inl (fun _ => 0))), (b 27, .inl (gI g, 60, .inl (fun _ => 0)))] H := hP
  have hD : va_D A [(h, .inr (2, [.int 0, .int 1, .ref k])), (k, .inl (gN g, 16, .inr (.inr (.inr (.inr (va_up (fun _ => none) 0 (some q_1))))))), (b 0, .inr (4, [.ref (b 1), .ref (b 5), .ref (b 8), .ref (b 17), .ref (b 21), .ref (b 25), .ref (b 27), .int 0, .int 0, .int 36, .int 10])), (b 1, .inr (8, [.int 0, .ref (b 2), .ref (b 3), .ref (b 4)])), (b 2, .inl (gI g, 5, .inl (fun _ => 0))), (b 3, .inl (gI g, 5, .inl (fun _ => 0))), (b 4, .inl (gI g, 5, .inl (fun _ => 0))), (b 5, .inr (1, [.int 0, .ref (b 6), .ref (b 7), .int 0])), (b 6, .inl (gI g, 7, .inl (fun _ => 0))), (b 7, .inl (gI g, 7, .inl (fun _ => 0))), (b 8, .inr (0, [.int 0, .ref (b 9), .ref (b 10), .ref (b 11), .ref (b 12), .ref (b 13), .ref (b 14), .ref (b 15), .int 0, .int 0, .int 0, .ref (b 16)])), (b 9, .inl (gI g, 10, .inl (fun _ => 0))), (b 10, .inl (gI g, 10, .inl (fun _ => 0))), (b 11, .inl (gI g, 10, .inl (fun _ => 0))), (b 12, .inl (gI g, 10, .inl (fun _ => 0))), (b 13, .inl (gI g, 10, .inl (fun _ => 0))), (b 14, .inl (gI g, 10, .inl (fun _ => 0))), (b 15, .inl (gI g, 10, .inl (fun _ => 0))), (b 16, .inl (gI g, 10, .inl (fun _ => 0))), (b 17, .inr (3, [.int 0, .ref (b 18), .ref (b 19), .ref (b 20)])), (b 18, .inl (gI g, 40, .inl (fun _ => 0))), (b 19, .inl (gI g, 40, .inl (fun _ => 0))), (b 20, .inl (gI g, 40, .inl (fun _ => 0))), (b 21, .inr (3, [.int 0, .ref (b 22), .ref (b 23), .ref (b 24)])), (b 22, .inl (gI g, 40, .inl (fun _ => 0))), (b 23, .inl (gI g, 40, .inl (fun _ => 0))), (b 24, .inl (gI g, 40, .inl (fun _ => 0))), (b 25, .inr (6, [.int 0, .int 0, .ref (b 26)])), (b 26, .inl (gI g, 14, .inl (fun _ => 0))), (b 27, .inl (gI g, 60, .inl (fun _ => 0)))] := hD
  refine lv_aload_n hx hb dX2_add_54 rfl (lv_at hl 0 rfl) ?_
  refine lv_aload_n hx hb dX2_add_55 rfl (lv_at hl 0 rfl) ?_
  refine va_get (ci := 2) (C := RX2) (T := TX2) (N := 3) hx hb hts inlX2 hown hKW.1 hP 0 rfl rfl 0 (by decide) (hts _ wd_7_23) (fun _ h => h) rfl dX2_add_56 ?_
  refine lv_iconst (v := 1) hx hb dX2_add_59 (by decide) ?_
  refine lv_iadd hx hb dX2_add_60 ?_
  refine k_top (y := 1) (by decide) ?_
  refine lv_bipush (v := 16) hx hb dX2_add_61 (by decide) ?_
  refine va_mmin hx hb (hml.trans hl.1.symm) hown (hts _ wd_8_0) (hts _ wd_8_1) (hts _ wd_8_2) (hts _ wd_8_3) (Nat.le_of_ble_eq_true rfl) (Nat.le_of_ble_eq_true rfl) (Nat.le_of_ble_eq_true rfl) (Nat.le_of_ble_eq_true rfl) dX2_add_63 ?_
  refine k_top (y := 1) (by decide) ?_
  refine va_put (ci := 2) (v := .int 1) (C := RX2) (T := TX2) (N := 3) hx hb hts inlX2 tyX2 tyX2_ok nmX2 hown hKW.1 hP hD hS 0 rfl rfl 0 (by decide) (hts _ wd_7_23) (fun _ h => h) rfl (tyX2_ok 0 (by decide)) rfl rfl (Nat.le_of_ble_eq_true rfl) dX2_add_66 (fun H locs hP hD hS => ?_)
  have hP : va_P g.1 vwCl [(h, .inr (2, [.int 1, .int 1, .ref k])), (k, .inl (gN g, 16, .inr (.inr (.inr (.inr (va_up (fun _ => none) 0 (some q_1))))))), (b 0, .inr (4, [.ref (b 1), .ref (b 5), .ref (b 8), .ref (b 17), .ref (b 21), .ref (b 25), .ref (b 27), .int 0, .int 0, .int 36, .int 10])), (b 1, .inr (8, [.int 0, .ref (b 2), .ref (b 3), .ref (b 4)])), (b 2, .inl (gI g, 5, .inl (fun _ => 0))), (b 3, .inl (gI g, 5, .inl (fun _ => 0))), (b 4, .inl (gI g, 5, .inl (fun _ => 0))), (b 5, .inr (1, [.int 0, .ref (b 6), .ref (b 7), .int 0])), (b 6, .inl (gI g, 7, .inl (fun _ => 0))), (b 7, .inl (gI g, 7, .inl (fun _ => 0))), (b 8, .inr (0, [.int 0, .ref (b 9), .ref (b 10), .ref (b 11), .ref (b 12), .ref (b 13), .ref (b 14), .ref (b 15), .int 0, .int 0, .int 0, .ref (b 16)])), (b 9, .inl (gI g, 10, .inl (fun _ => 0))), (b 10, .inl (gI g, 10, .inl (fun _ => 0))), (b 11, .inl (gI g, 10, .inl (fun _ => 0))), (b 12, .inl (gI g, 10, .inl (fun _ => 0))), (b 13, .inl (gI g, 10, .inl (fun _ => 0))), (b 14, .inl (gI g, 10, .inl (fun _ => 0))), (b 15, .inl (gI g, 10, .inl (fun _ => 0))), (b 16, .inl (gI g, 10, .inl (fun _ => 0))), (b 17, .inr (3, [.int 0, .ref (b 18), .ref (b 19), .ref (b 20)])), (b 18, .inl (gI g, 40, .inl (fun _ => 0))), (b 19, .inl (gI g, 40, .inl (fun _ => 0))), (b 20, .inl (gI g, 40, .inl (fun _ => 0))), (b 21, .inr (3, [.int 0, .ref (b 22), .ref (b 23), .ref (b 24)])), (b 22, .inl (gI g, 40, .inl (fun _ => 0))), (b 23, .inl (gI g, 40, .inl (fun _ => 0))), (b 24, .inl (gI g, 40, .inl (fun _ => 0))), (b 25, .inr (6, [.int 0, .int 0, .ref (b 26)])), (b 26, .inl (gI g, 14, .inl (fun _ => 0))), (b 27, .inl (gI g, 60, .inl (fun _ => 0)))] H := hP
  have hD : va_D A [(h, .inr (2, [.int 1, .int 1, .ref k])), (k, .inl (gN g, 16, .inr (.inr (.inr (.inr (va_up (fun _ => none) 0 (some q_1))))))), (b 0, .inr (4, [.ref (b 1), .ref (b 5), .ref (b 8), .ref (b 17), .ref (b 21), .ref (b 25), .ref (b 27), .int 0, .int 0, .int 36, .int 10])), (b 1, .inr (8, [.int 0, .ref (b 2), .ref (b 3), .ref (b 4)])), (b 2, .inl (gI g, 5, .inl (fun _ => 0))), (b 3, .inl (gI g, 5, .inl (fun _ => 0))), (b 4, .inl (gI g, 5, .inl (fun _ => 0))), (b 5, .inr (1, [.int 0, .ref (b 6), .ref (b 7), .int 0])), (b 6, .inl (gI g, 7, .inl (fun _ => 0))), (b 7, .inl (gI g, 7, .inl (fun _ => 0))), (b 8, .inr (0, [.int 0, .ref (b 9), .ref (b 10), .ref (b 11), .ref (b 12), .ref (b 13), .ref (b 14), .ref (b 15), .int 0, .int 0, .int 0, .ref (b 16)])), (b 9, .inl (gI g, 10, .inl (fun _ => 0))), (b 10, .inl (gI g, 10, .inl (fun _ => 0))), (b 11, .inl (gI g, 10, .inl (fun _ => 0))), (b 12, .inl (gI g, 10, .inl (fun _ => 0))), (b 13, .inl (gI g, 10, .inl (fun _ => 0))), (b 14, .inl (gI g, 10, .inl (fun _ => 0))), (b 15, .inl (gI g, 10, .inl (fun _ => 0))), (b 16, .inl (gI g, 10, .inl (fun _ => 0))), (b 17, .inr (3, [.int 0, .ref (b 18), .ref (b 19), .ref (b 20)])), (b 18, .inl (gI g, 40, .inl (fun _ => 0))), (b 19, .inl (gI g, 40, .inl (fun _ => 0))), (b 20, .inl (gI g, 40, .inl (fun _ => 0))), (b 21, .inr (3, [.int 0, .ref (b 22), .ref (b 23), .ref (b 24)])), (b 22, .inl (gI g, 40, .inl (fun _ => 0))), (b 23, .inl (gI g, 40, .inl (fun _ => 0))), (b 24, .inl (gI g, 40, .inl (fun _ => 0))), (b 25, .inr (6, [.int 0, .int 0, .ref (b 26)])), (b 26, .inl (gI g, 14, .inl (fun _ => 0))), (b 27, .inl (gI g, 60, .inl (fun _ => 0)))] := hD
  exact k_vret () [2, 3, 4, 5, 6, 7, 8, 9, 10, 11, 12, 13, 14, 15, 16, 17, 18, 19, 20, 21, 22, 23, 24, 25, 26, 27, 28, 29] hx hb hr hlk hP hD hS trivial rfl rfl rfl (Nat.le_of_ble_eq_true rfl) (Nat.le_of_ble_eq_true rfl) dX2_add_69
theorem dX11_keep_0 : decode cX11_keep 0 = .ok (.aload_n 0, 1) := by decide +kernel
theorem dX11_keep_1 : decode cX11_keep 1 = .ok (.getfield 19, 3) := by decide +kernel
theorem dX11_keep_4 : decode cX11_keep 4 = .ok (.aload_n 0, 1) := by decide +kernel
theorem dX11_keep_5 : decode cX11_keep 5 = .ok (.getfield 10, 3) := by decide +kernel
theorem dX11_keep_8 : decode cX11_keep 8 = .ok (.invokevirtual 367, 3) := by decide +kernel
theorem dX11_keep_11 : decode cX11_keep 11 = .ok (.return_, 1) := by decide +kernel
set_option maxHeartbeats 4000000 in
set_option maxRecDepth 100000 in
theorem c_X11_keep (l : Launch) (g : kG) (sz : Nat) (q : Nat → Nat) : kMv l g yX11_keep cX11_keep 1 none 4 28 465 [.ref (q 0)] sz [(q 0, .inr (11, [.ref (q 1), .ref (q 29), .ref (q 31), .ref (q 34), .ref (q 38), .ref (q 40), .int 0])), (q 1, .inr (4, [.ref (q 2), .ref (q 6), .ref (q 9), .ref (q 18), .ref (q 22), .ref (q 26), .ref (q 28), .int 0, .int 0, .int 36, .int 10])), (q 2, .inr (8, [.int 0, .ref (q 3), .ref (q 4), .ref (q 5)])), (q 3, .inl (gI g, 5, .inl (fun _ => 0))), (q 4, .inl (gI g, 5, .inl (fun _ => 0))), (q 5, .inl (gI g, 5, .inl (fun _ => 0))), (q 6, .inr (1, [.int 0, .ref (q 7), .ref (q 8), .int 0])), (q 7, .inl (gI g, 7, .inl (fun _ => 0))), (q 8, .inl (gI g, 7, .inl (fun _ => 0))), (q 9, .inr (0, [.int 0, .ref (q 10), .ref (q 11), .ref (q 12), .ref (q 13), .ref (q 14), .ref (q 15), .ref (q 16), .int 0, .int 0, .int 0, .ref (q 17)])), (q 10, .inl (gI g, 10, .inl (fun _ => 0))), (q 11, .inl (gI g, 10, .inl (fun _ => 0))), (q 12, .inl (gI g, 10, .inl (fun _ => 0))), (q 13, .inl (gI g, 10, .inl (fun _ => 0))), (q 14, .inl (gI g, 10, .inl (fun _ => 0))), (q 15, .inl (gI g, 10, .inl (fun _ => 0))), (q 16, .inl (gI g, 10, .inl (fun _ => 0))), (q 17, .inl (gI g, 10, .inl (fun _ => 0))), (q 18, .inr (3, [.int 0, .ref (q 19), .ref (q 20), .ref (q 21)])), (q 19, .inl (gI g, 40, .inl (fun _ => 0))), (q 20, .inl (gI g, 40, .inl (fun _ => 0))), (q 21, .inl (gI g, 40, .inl (fun _ => 0))), (q 22, .inr (3, [.int 0, .ref (q 23), .ref (q 24), .ref (q 25)])), (q 23, .inl (gI g, 40, .inl (fun _ => 0))), (q 24, .inl (gI g, 40, .inl (fun _ => 0))), (q 25, .inl (gI g, 40, .inl (fun _ => 0))), (q 26, .inr (6, [.int 0, .int 0, .ref (q 27)])), (q 27, .inl (gI g, 14, .inl (fun _ => 0))), (q 28, .inl (gI g, 60, .inl (fun _ => 0))), (q 29, .inr (2, [.int 0, .int 0, .ref (q 30)])), (q 30, .inl (gN g, 16, .inr (.inr (.inr (.inr (fun _ => none))))))] (fun (u : Unit) => True) (fun (u : Unit) => ([(q 0, .inr (11, [.ref (q 1), .ref (q 29), .ref (q 31), .ref (q 34), .ref (q 38), .ref (q 40), .int 0])), (q 1, .inr (4, [.ref (q 2), .ref (q 6), .ref (q 9), .ref (q 18), .ref (q 22), .ref (q 26), .ref (q 28), .int 0, .int 0, .int 36, .int 10])), (q 2, .inr (8, [.int 0, .ref (q 3), .ref (q 4), .ref (q 5)])), (q 3, .inl (gI g, 5, .inl (fun _ => 0))), (q 4, .inl (gI g, 5, .inl (fun _ => 0))), (q 5, .inl (gI g, 5, .inl (fun _ => 0))), (q 6, .inr (1, [.int 0, .ref (q 7), .ref (q 8), .int 0])), (q 7, .inl (gI g, 7, .inl (fun _ => 0))), (q 8, .inl (gI g, 7, .inl (fun _ => 0))), (q 9, .inr (0, [.int 0, .ref (q 10), .ref (q 11), .ref (q 12), .ref (q 13), .ref (q 14), .ref (q 15), .ref (q 16), .int 0, .int 0, .int 0, .ref (q 17)])), (q 10, .inl (gI g, 10, .inl (fun _ => 0))), (q 11, .inl (gI g, 10, .inl (fun _ => 0))), (q 12, .inl (gI g, 10, .inl (fun _ => 0))), (q 13, .inl (gI g, 10, .inl (fun _ => 0))), (q 14, .inl (gI g, 10, .inl (fun _ => 0))), (q 15, .inl (gI g, 10, .inl (fun _ => 0))), (q 16, .inl (gI g, 10, .inl (fun _ => 0))), (q 17, .inl (gI g, 10, .inl (fun _ => 0))), (q 18, .inr (3, [.int 0, .ref (q 19), .ref (q 20), .ref (q 21)])), (q 19, .inl (gI g, 40, .inl (fun _ => 0))), (q 20, .inl (gI g, 40, .inl (fun _ => 0))), (q 21, .inl (gI g, 40, .inl (fun _ => 0))), (q 22, .inr (3, [.int 0, .ref (q 23), .ref (q 24), .ref (q 25)])), (q 23, .inl (gI g, 40, .inl (fun _ => 0))), (q 24, .inl (gI g, 40, .inl (fun _ => 0))), (q 25, .inl (gI g, 40, .inl (fun _ => 0))), (q 26, .inr (6, [.int 0, .int 0, .ref (q 27)])), (q 27, .inl (gI g, 14, .inl (fun _ => 0))), (q 28, .inl (gI g, 60, .inl (fun _ => 0)))] : va_W)) := by
  refine kMv.of (by decide) (Nat.le_of_ble_eq_true rfl) (fun p e s m below meth c A hx hb hr hml hown hts hlk hnm hKW hP hD hS hA ls hl => ?_)
  have hown : s.vm.findClass RX11 = some m.cls := hown
  have hl : lv_has ls 1 [(0, .ref (q 0))] := hl
  refine lv_aload_n hx hb dX11_keep_0 rfl (lv_at hl 0 rfl) ?_
  refine va_get (ci := 11) (C := RX11) (T := TX11) (N := 7) hx hb hts inlX11 hown hKW.1 hP 0 rfl rfl 1 (by decide) (hts _ wd_1_19) (fun _ h => h) rfl dX11_keep_1 ?_
  refine lv_aload_n hx hb dX11_keep_4 rfl (lv_at hl 0 rfl) ?_
  refine va_get (ci := 11) (C := RX11) (T := TX11) (N := 7) hx hb hts inlX11 hown hKW.1 hP 0 rfl rfl 0 (by decide) (hts _ wd_1_15) (fun _ h => h) rfl dX11_keep_5 ?_
  refine k_Vv [29, 30, 1, 2, 3, 4, 5, 6, 7, 8, 9, 10, 11, 12, 13, 14, 15, 16, 17, 18, 19, 20, 21, 22, 23, 24, 25, 26, 27, 28] [0] 29 2 (wr := [(q 0, .inr (11, [.ref (q 1), .ref (q 29), .ref (q 31), .ref (q 34), .ref (q 38), .ref (q 40), .int 0]))]) hx hb hml hown hts hKW hP hD hS hA hl.1 (c_X2_add l g _ (q 29) (q 30) (fun k => ([q 1, q 2, q 3, q 4, q 5, q 6, q 7, q 8, q 9, q 10, q 11, q 12, q 13, q 14, q 15, q 16, q 17, q 18, q 19, q 20, q 21, q 22, q 23, q 24, q 25, q 26, q 27, q 28] : List Nat).getD k 0) ) rfl rfl rfl wd_7_21 wd_1_18 wd_7_18 wd_7_19 wd_7_20 yd_X2_add ⟨Nat.le_of_ble_eq_true rfl, Nat.le_of_ble_eq_true rfl⟩ rfl rfl rfl rfl rfl (by decide) rfl (Nat.le_of_ble_eq_true rfl) dX11_keep_8 ⟨Nat.le_of_ble_eq_true rfl, Nat.le_of_ble_eq_true rfl⟩ (fun u_2 H locs hw_3 hP hD hS => ?_)
  have hP : va_P g.1 vwCl [(q 0, .inr (11, [.ref (q 1), .ref (q 29), .ref (q 31), .ref (q 34), .ref (q 38), .ref (q 40), .int 0])), (q 1, .inr (4, [.ref (q 2), .ref (q 6), .ref (q 9), .ref (q 18), .ref (q 22), .ref (q 26), .ref (q 28), .int 0, .int 0, .int 36, .int 10])), (q 2, .inr (8, [.int 0, .ref (q 3), .ref (q 4), .ref (q 5)])), (q 3, .inl (gI g, 5, .inl (fun _ => 0))), (q 4, .inl (gI g, 5, .inl (fun _ => 0))), (q 5, .inl (gI g, 5, .inl (fun _ => 0))), (q 6, .inr (1, [.int 0, .ref (q 7), .ref (q 8), .int 0])), (q 7, .inl (gI g, 7, .inl (fun _ => 0))), (q 8, .inl (gI g, 7, .inl (fun _ => 0))), (q 9, .inr (0, [.int 0, .ref (q 10), .ref (q 11), .ref (q 12), .ref (q 13), .ref (q 14), .ref (q 15), .ref (q 16), .int 0, .int 0, .int 0, .ref (q 17)])), (q 10, .inl (gI g, 10, .inl (fun _ => 0))), (q 11, .inl (gI g, 10, .inl (fun _ => 0))), (q 12, .inl (gI g, 10, .inl (fun _ => 0))), (q 13, .inl (gI g, 10, .inl (fun _ => 0))), (q 14, .inl (gI g, 10, .inl (fun _ => 0))), (q 15, .inl (gI g, 10, .inl (fun _ => 0))), (q 16, .inl (gI g, 10, .inl (fun _ => 0))), (q 17, .inl (gI g, 10, .inl (fun _ => 0))), (q 18, .inr (3, [.int 0, .ref (q 19), .ref (q 20), .ref (q 21)])), (q 19, .inl (gI g, 40, .inl (fun _ => 0))), (q 20, .inl (gI g, 40, .inl (fun _ => 0))), (q 21, .inl (gI g, 40, .inl (fun _ => 0))), (q 22, .inr (3, [.int 0, .ref (q 23), .ref (q 24), .ref (q 25)])), (q 23, .inl (gI g, 40, .inl (fun _ => 0))), (q 24, .inl (gI g, 40, .inl (fun _ => 0))), (q 25, .inl (gI g, 40, .inl (fun _ => 0))), (q 26, .inr (6, [.int 0, .int 0, .ref (q 27)])), (q 27, .inl (gI g, 14, .inl (fun _ => 0))), (q 28, .inl (gI g, 60, .inl (fun _ => 0)))] H := hP
  have hD : va_D A [(q 0, .inr (11, [.ref (q 1), .ref (q 29), .ref (q 31), .ref (q 34), .ref (q 38), .ref (q 40), .int 0])), (q 1, .inr (4, [.ref (q 2), .ref (q 6), .ref (q 9), .ref (q 18), .ref (q 22), .ref (q 26), .ref (q 28), .int 0, .int 0, .int 36, .int 10])), (q 2, .inr (8, [.int 0, .ref (q 3), .ref (q 4), .ref (q 5)])), (q 3, .inl (gI g, 5, .inl (fun _ => 0))), (q 4, .inl (gI g, 5, .inl (fun _ => 0))), (q 5, .inl (gI g, 5, .inl (fun _ => 0))), (q 6, .inr (1, [.int 0, .ref (q 7), .ref (q 8), .int 0])), (q 7, .inl (gI g, 7, .inl (fun _ => 0))), (q 8, .inl (gI g, 7, .inl (fun _ => 0))), (q 9, .inr (0, [.int 0, .ref (q 10), .ref (q 11), .ref (q 12), .ref (q 13), .ref (q 14), .ref (q 15), .ref (q 16), .int 0, .int 0, .int 0, .ref (q 17)])), (q 10, .inl (gI g, 10, .inl (fun _ => 0))), (q 11, .inl (gI g, 10, .inl (fun _ => 0))), (q 12, .inl (gI g, 10, .inl (fun _ => 0))), (q 13, .inl (gI g, 10, .inl (fun _ => 0))), (q 14, .inl (gI g, 10, .inl (fun _ => 0))), (q 15, .inl (gI g, 10, .inl (fun _ => 0))), (q 16, .inl (gI g, 10, .inl (fun _ => 0))), (q 17, .inl (gI g, 10, .inl (fun _ => 0))), (q 18, .inr (3, [.int 0, .ref (q 19), .ref (q 20), .ref (q 21)])), (q 19, .inl (gI g, 40, .inl (fun _ => 0))), (q 20, .inl (gI g, 40, .inl (fun _ => 0))), (q 21, .inl (gI g, 40, .inl (fun _ => 0))), (q 22, .inr (3, [.int 0, .ref (q 23), .ref (q 24), .ref (q 25)])), (q 23, .inl (gI g, 40, .inl (fun _ => 0))), (q 24, .inl (gI g, 40, .inl (fun _ => 0))), (q 25, .inl (gI g, 40, .inl (fun _ => 0))), (q 26, .inr (6, [.int 0, .int 0, .ref (q 27)])), (q 27, .inl (gI g, 14, .inl (fun _ => 0))), (q 28, .inl (gI g, 60, .inl (fun _ => 0)))] := hD
  refine W.widen (k := 28) (n := 465) (Nat.le_of_ble_eq_true rfl) (Nat.le_of_ble_eq_true rfl) ?_
  exact k_vret () [0, 1, 2, 3, 4, 5, 6, 7, 8, 9, 10, 11, 12, 13, 14, 15, 16, 17, 18, 19, 20, 21, 22, 23, 24, 25, 26, 27, 28] hx hb hr hlk hP hD hS trivial rfl rfl rfl (Nat.le_of_ble_eq_true rfl) (Nat.le_of_ble_eq_true rfl) dX11_keep_11
theorem dX11_without_0 : decode cX11_without 0 = .ok (.iload_n 0, 1) := by decide +kernel
theorem dX11_without_1 : decode cX11_without 1 = .ok (.iconst 1, 1) := by decide +kernel
theorem dX11_without_2 : decode cX11_without 2 = .ok (.iload_n 1, 1) := by decide +kernel
theorem dX11_without_3 : decode cX11_without 3 = .ok (.ishl, 1) := by decide +kernel
theorem dX11_without_4 : decode cX11_without 4 = .ok (.iconst (-1), 1) := by decide +kernel
theorem dX11_without_5 : decode cX11_without 5 = .ok (.ixor, 1) := by decide +kernel
theorem dX11_without_6 : decode cX11_without 6 = .ok (.iand, 1) := by decide +kernel
theorem dX11_without_7 : decode cX11_without 7 = .ok (.ireturn, 1) := by decide +kernel
set_option maxHeartbeats 4000000 in
set_option maxRecDepth 100000 in
theorem c_X11_without00 (l : Launch) (g : kG) (sz : Nat) : kMi l g yX11_without cX11_without 2 (some .int) 1 0 0 [.int 0, .int 0] sz [] (fun (r : Int32) (u : Unit) => r = 0) (fun (u : Unit) => ([] : va_W)) := by
  refine kMi.of (by decide) (Nat.le_of_ble_eq_true rfl) (fun p e s m below meth c A hx hb hr hml hown hts hlk hnm hKW hP hD hS hA ls hl => ?_)
  have hown : s.vm.findClass RX11 = some m.cls := hown
  have hl : lv_has ls 2 [(0, .int 0), (1, .int 0)] := hl
  refine lv_iload_n hx hb dX11_without_0 rfl (lv_at hl 0 rfl) ?_
  refine lv_iconst (v := 1) hx hb dX11_without_1 (by decide) ?_
  refine lv_iload_n hx hb dX11_without_2 rfl (lv_at hl 1 rfl) ?_
  refine lv_ishl hx hb dX11_without_3 ?_
  refine k_top (y := 1) (by decide) ?_
  refine lv_iconst (v := (-1)) hx hb dX11_without_4 (by decide) ?_
  refine lv_ixor hx hb dX11_without_5 ?_
  refine k_top (y := (-2)) (by decide) ?_
  refine lv_iand hx hb dX11_without_6 ?_
  refine k_top (y := 0) (by decide) ?_
  exact k_iret () [] hx hb hr hlk hP hD hS rfl rfl rfl rfl (Nat.le_of_ble_eq_true rfl) (Nat.le_of_ble_eq_true rfl) dX11_without_7
theorem dX8_add_0 : decode cX8_add 0 = .ok (.aload_n 0, 1) := by decide +kernel
theorem dX8_add_1 : decode cX8_add 1 = .ok (.getfield 9, 3) := by decide +kernel
theorem dX8_add_4 : decode cX8_add 4 = .ok (.aload_n 0, 1) := by decide +kernel
theorem dX8_add_5 : decode cX8_add 5 = .ok (.getfield 21, 3) := by decide +kernel
theorem dX8_add_8 : decode cX8_add 8 = .ok (.iload_n 1, 1) := by decide +kernel
theorem dX8_add_9 : decode cX8_add 9 = .ok (.iastore, 1) := by decide +kernel
theorem dX8_add_10 : decode cX8_add 10 = .ok (.aload_n 0, 1) := by decide +kernel
theorem dX8_add_11 : decode cX8_add 11 = .ok (.getfield 15, 3) := by decide +kernel
theorem dX8_add_14 : decode cX8_add 14 = .ok (.aload_n 0, 1) := by decide +kernel
theorem dX8_add_15 : decode cX8_add 15 = .ok (.getfield 21, 3) := by decide +kernel
theorem dX8_add_18 : decode cX8_add 18 = .ok (.iload_n 2, 1) := by decide +kernel
theorem dX8_add_19 : decode cX8_add 19 = .ok (.iastore, 1) := by decide +kernel
theorem dX8_add_20 : decode cX8_add 20 = .ok (.aload_n 0, 1) := by decide +kernel
theorem dX8_add_21 : decode cX8_add 21 = .ok (.getfield 18, 3) := by decide +kernel
theorem dX8_add_24 : decode cX8_add 24 = .ok (.aload_n 0, 1) := by decide +kernel
theorem dX8_add_25 : decode cX8_add 25 = .ok (.getfield 21, 3) := by decide +kernel
theorem dX8_add_28 : decode cX8_add 28 = .ok (.iload_n 3, 1) := by decide +kernel
theorem dX8_add_29 : decode cX8_add 29 = .ok (.iastore, 1) := by decide +kernel
theorem dX8_add_30 : decode cX8_add 30 = .ok (.aload_n 0, 1) := by decide +kernel
theorem dX8_add_31 : decode cX8_add 31 = .ok (.dup, 1) := by decide +kernel
theorem dX8_add_32 : decode cX8_add 32 = .ok (.getfield 21, 3) := by decide +kernel
theorem dX8_add_35 : decode cX8_add 35 = .ok (.iconst 1, 1) := by decide +kernel
theorem dX8_add_36 : decode cX8_add 36 = .ok (.iadd, 1) := by decide +kernel
theorem dX8_add_37 : decode cX8_add 37 = .ok (.putfield 21, 3) := by decide +kernel
theorem dX8_add_40 : decode cX8_add 40 = .ok (.aload_n 0, 1) := by decide +kernel
theorem dX8_add_41 : decode cX8_add 41 = .ok (.getfield 21, 3) := by decide +kernel
theorem dX8_add_44 : decode cX8_add 44 = .ok (.iconst 1, 1) := by decide +kernel
theorem dX8_add_45 : decode cX8_add 45 = .ok (.isub, 1) := by decide +kernel
theorem dX8_add_46 : decode cX8_add 46 = .ok (.ireturn, 1) := by decide +kernel
set_option maxHeartbeats 4000000 in
set_option maxRecDepth 100000 in
theorem c_X8_add (l : Launch) (g : kG) (sz : Nat) (a : Nat → Nat) (x : Int32) (y : Int32) (z : Int32) : kMi l g yX8_add cX8_add 4 (some .int) 1 0 0 [.ref (a 0), .int x, .int y, .int z] sz [(a 0, .inr (8, [.int 0, .ref (a 1), .ref (a 2), .ref (a 3)])), (a 1, .inl (gI g, 5, .inl (fun _ => 0))), (a 2, .inl (gI g, 5, .inl (fun _ => 0))), (a 3, .inl (gI g, 5, .inl (fun _ => 0)))] (fun (r : Int32) (u : Unit) => r = 0) (fun (u : Unit) => ([] : va_W)) := by
  refine kMi.of (by decide) (Nat.le_of_ble_eq_true rfl) (fun p e s m below meth c A hx hb hr hml hown hts hlk hnm hKW hP hD hS hA ls hl => ?_)
  have hown : s.vm.findClass RX8 = some m.cls := hown
  have hl : lv_has ls 4 [(0, .ref (a 0)), (1, .int x), (2, .int y), (3, .int z)] := hl
  refine lv_aload_n hx hb dX8_add_0 rfl (lv_at hl 0 rfl) ?_
  refine va_get (ci := 8) (C := RX8) (T := TX8) (N := 4) hx hb hts inlX8 hown hKW.1 hP 0 rfl rfl 1 (by decide) (hts _ wd_3_19) (fun _ h => h) rfl dX8_add_1 ?_
  refine lv_aload_n hx hb dX8_add_4 rfl (lv_at hl 0 rfl) ?_
  refine va_get (ci := 8) (C := RX8) (T := TX8) (N := 4) hx hb hts inlX8 hown hKW.1 hP 0 rfl rfl 0 (by decide) (hts _ wd_8_18) (fun _ h => h) rfl dX8_add_5 ?_
  refine lv_iload_n hx hb dX8_add_8 rfl (lv_at hl 1 rfl) ?_
  refine va_iast hx hb hKW.1 hP hD hS 1 0 rfl rfl (show ¬ _ by decide) dX8_add_9 (fun H locs hP hD hS => ?_)
  have hP : va_P g.1 vwCl [(a 0, .inr (8, [.int 0, .ref (a 1), .ref (a 2), .ref (a 3)])), (a 1, .inl (gI g, 5, .inl (upd (fun _ => 0) 0 x))), (a 2, .inl (gI g, 5, .inl (fun _ => 0))), (a 3, .inl (gI g, 5, .inl (fun _ => 0)))] H := hP
  have hD : va_D A [(a 0, .inr (8, [.int 0, .ref (a 1), .ref (a 2), .ref (a 3)])), (a 1, .inl (gI g, 5, .inl (upd (fun _ => 0) 0 x))), (a 2, .inl (gI g, 5, .inl (fun _ => 0))), (a 3, .inl (gI g, 5, .inl (fun _ => 0)))] := hD
  obtain ⟨f_1, ef_1⟩ : ∃ zz_ : Nat → Int32, zz_ = upd (fun _ => 0) 0 x := ⟨_, rfl⟩
  rw [← ef_1] at hP hD
  refine lv_aload_n hx hb dX8_add_10 rfl (lv_at hl 0 rfl) ?_
  refine va_get (ci := 8) (C := RX8) (T := TX8) (N := 4) hx hb hts inlX8 hown hKW.1 hP 0 rfl rfl 2 (by decide) (hts _ wd_3_20) (fun _ h => h) rfl dX8_add_11 ?_
  refine lv_aload_n hx hb dX8_add_14 rfl (lv_at hl 0 rfl) ?_
  refine va_get (ci := 8) (C := RX8) (T := TX8) (N := 4) hx hb hts inlX8 hown hKW.1 hP 0 rfl rfl 0 (by decide) (hts _ wd_8_18) (fun _ h => h) rfl dX8_add_15 ?_
  refine lv_iload_n hx hb dX8_add_18 rfl (lv_at hl 2 rfl) ?_
  refine va_iast hx hb hKW.1 hP hD hS 2 0 rfl rfl (show ¬ _ by decide) dX8_add_19 (fun H locs hP hD hS => ?_)
  have hP : va_P g.1 vwCl [(a 0, .inr (8, [.int 0, .ref (a 1), .ref (a 2), .ref (a 3)])), (a 1, .inl (gI g, 5, .inl f_1)), (a 2, .inl (gI g, 5, .inl (upd (fun _ => 0) 0 y))), (a 3, .inl (gI g, 5, .inl (fun _ => 0)))] H := hP
  have hD : va_D A [(a 0, .inr (8, [.int 0, .ref (a 1), .ref (a 2), .ref (a 3)])), (a 1, .inl (gI g, 5, .inl f_1)), (a 2, .inl (gI g, 5, .inl (upd (fun _ => 0) 0 y))), (a 3, .inl (gI g, 5, .inl (fun _ => 0)))] := hD
  obtain ⟨f_2, ef_2⟩ : ∃ zz_ : Nat → Int32, zz_ = upd (fun _ => 0) 0 y := ⟨_, rfl⟩
  rw [← ef_2] at hP hD
  refine lv_aload_n hx hb dX8_add_20 rfl (lv_at hl 0 rfl) ?_
  refine va_get (ci := 8) (C := RX8) (T := TX8) (N := 4) hx hb hts inlX8 hown hKW.1 hP 0 rfl rfl 3 (by decide) (hts _ wd_3_21) (fun _ h => h) rfl dX8_add_21 ?_
  refine lv_aload_n hx hb dX8_add_24 rfl (lv_at hl 0 rfl) ?_
  refine va_get (ci := 8) (C := RX8) (T := TX8) (N := 4) hx hb hts inlX8 hown hKW.1 hP 0 rfl rfl 0 (by decide) (hts _ wd_8_18) (fun _ h => h) rfl dX8_add_25 ?_
  refine lv_iload_n hx hb dX8_add_28 rfl (lv_at hl 3 rfl) ?_
  refine va_iast hx hb hKW.1 hP hD hS 3 0 rfl rfl (show ¬ _ by decide) dX8_add_29 (fun H locs hP hD hS => ?_)
  have hP : va_P g.1 vwCl [(a 0, .inr (8, [.int 0, .ref (a 1), .ref (a 2), .ref (a 3)])), (a 1, .inl (gI g, 5, .inl f_1)), (a 2, .inl (gI g, 5, .inl f_2)), (a 3, .inl (gI g, 5, .inl (upd (fun _ => 0) 0 z)))] H := hP
  have hD : va_D A [(a 0, .inr (8, [.int 0, .ref (a 1), .ref (a 2), .ref (a 3)])), (a 1, .inl (gI g, 5, .inl f_1)), (a 2, .inl (gI g, 5, .inl f_2)), (a 3, .inl (gI g, 5, .inl (upd (fun _ => 0) 0 z)))] := hD
  obtain ⟨f_3, ef_3⟩ : ∃ zz_ : Nat → Int32, zz_ = upd (fun _ => 0) 0 z := ⟨_, rfl⟩
  rw [← ef_3] at hP hD
  refine lv_aload_n hx hb dX8_add_30 rfl (lv_at hl 0 rfl) ?_
  refine lv_dup hx hb dX8_add_31 rfl ?_
  refine va_get (ci := 8) (C := RX8) (T := TX8) (N := 4) hx hb hts inlX8 hown hKW.1 hP 0 rfl rfl 0 (by decide) (hts _ wd_8_18) (fun _ h => h) rfl dX8_add_32 ?_
  refine lv_iconst (v := 1) hx hb dX8_add_35 (by decide) ?_
  refine lv_iadd hx hb dX8_add_36 ?_
  refine k_top (y := 1) (by decide) ?_
  refine va_put (ci := 8) (v := .int 1) (C := RX8) (T := TX8) (N := 4) hx hb hts inlX8 tyX8 tyX8_ok nmX8 hown hKW.1 hP hD hS 0 rfl rfl 0 (by decide) (hts _ wd_8_18) (fun _ h => h) rfl (tyX8_ok 0 (by decide)) rfl rfl (Nat.le_of_ble_eq_true rfl) dX8_add_37 (fun H locs hP hD hS => ?_)
  have hP : va_P g.1 vwCl [(a 0, .inr (8, [.int 1, .ref (a 1), .ref (a 2), .ref (a 3)])), (a 1, .inl (gI g, 5, .inl f_1)), (a 2, .inl (gI g, 5, .inl f_2)), (a 3, .inl (gI g, 5, .inl f_3))] H := hP
  have hD : va_D A [(a 0, .inr (8, [.int 1, .ref (a 1), .ref (a 2), .ref (a 3)])), (a 1, .inl (gI g, 5, .inl f_1)), (a 2, .inl (gI g, 5, .inl f_2)), (a 3, .inl (gI g, 5, .inl f_3))] := hD
  refine lv_aload_n hx hb dX8_add_40 rfl (lv_at hl 0 rfl) ?_
  refine va_get (ci := 8) (C := RX8) (T := TX8) (N := 4) hx hb hts inlX8 hown hKW.1 hP 0 rfl rfl 0 (by decide) (hts _ wd_8_18) (fun _ h => h) rfl dX8_add_41 ?_
  refine lv_iconst (v := 1) hx hb dX8_add_44 (by decide) ?_
  refine lv_isub hx hb dX8_add_45 ?_
  refine k_top (y := 0) (by decide) ?_
  exact k_iret () [] hx hb hr hlk hP hD hS rfl rfl rfl rfl (Nat.le_of_ble_eq_true rfl) (Nat.le_of_ble_eq_true rfl) dX8_add_46
theorem dX1_add_0 : decode cX1_add 0 = .ok (.aload_n 0, 1) := by decide +kernel
theorem dX1_add_1 : decode cX1_add 1 = .ok (.getfield 9, 3) := by decide +kernel
theorem dX1_add_4 : decode cX1_add 4 = .ok (.aload_n 0, 1) := by decide +kernel
theorem dX1_add_5 : decode cX1_add 5 = .ok (.getfield 18, 3) := by decide +kernel
theorem dX1_add_8 : decode cX1_add 8 = .ok (.iload_n 1, 1) := by decide +kernel
theorem dX1_add_9 : decode cX1_add 9 = .ok (.iastore, 1) := by decide +kernel
theorem dX1_add_10 : decode cX1_add 10 = .ok (.aload_n 0, 1) := by decide +kernel
theorem dX1_add_11 : decode cX1_add 11 = .ok (.getfield 15, 3) := by decide +kernel
theorem dX1_add_14 : decode cX1_add 14 = .ok (.aload_n 0, 1) := by decide +kernel
theorem dX1_add_15 : decode cX1_add 15 = .ok (.getfield 18, 3) := by decide +kernel
theorem dX1_add_18 : decode cX1_add 18 = .ok (.iconst (-1), 1) := by decide +kernel
theorem dX1_add_19 : decode cX1_add 19 = .ok (.iastore, 1) := by decide +kernel
theorem dX1_add_20 : decode cX1_add 20 = .ok (.aload_n 0, 1) := by decide +kernel
theorem dX1_add_21 : decode cX1_add 21 = .ok (.aload_n 0, 1) := by decide +kernel
theorem dX1_add_22 : decode cX1_add 22 = .ok (.getfield 22, 3) := by decide +kernel
theorem dX1_add_25 : decode cX1_add 25 = .ok (.aload_n 0, 1) := by decide +kernel
theorem dX1_add_26 : decode cX1_add 26 = .ok (.getfield 18, 3) := by decide +kernel
theorem dX1_add_29 : decode cX1_add 29 = .ok (.invokestatic 25, 3) := by decide +kernel
theorem dX1_add_32 : decode cX1_add 32 = .ok (.putfield 22, 3) := by decide +kernel
theorem dX1_add_35 : decode cX1_add 35 = .ok (.aload_n 0, 1) := by decide +kernel
theorem dX1_add_36 : decode cX1_add 36 = .ok (.dup, 1) := by decide +kernel
theorem dX1_add_37 : decode cX1_add 37 = .ok (.getfield 18, 3) := by decide +kernel
theorem dX1_add_40 : decode cX1_add 40 = .ok (.iconst 1, 1) := by decide +kernel
theorem dX1_add_41 : decode cX1_add 41 = .ok (.iadd, 1) := by decide +kernel
theorem dX1_add_42 : decode cX1_add 42 = .ok (.putfield 18, 3) := by decide +kernel
theorem dX1_add_45 : decode cX1_add 45 = .ok (.aload_n 0, 1) := by decide +kernel
theorem dX1_add_46 : decode cX1_add 46 = .ok (.getfield 18, 3) := by decide +kernel
theorem dX1_add_49 : decode cX1_add 49 = .ok (.iconst 1, 1) := by decide +kernel
theorem dX1_add_50 : decode cX1_add 50 = .ok (.isub, 1) := by decide +kernel
theorem dX1_add_51 : decode cX1_add 51 = .ok (.ireturn, 1) := by decide +kernel
set_option maxHeartbeats 4000000 in
set_option maxRecDepth 100000 in
theorem c_X1_add (l : Launch) (g : kG) (sz : Nat) (a : Nat → Nat) (x : Int32) : kMi l g yX1_add cX1_add 2 (some .int) 2 0 0 [.ref (a 0), .int x] sz [(a 0, .inr (1, [.int 0, .ref (a 1), .ref (a 2), .int 0])), (a 1, .inl (gI g, 7, .inl (fun _ => 0))), (a 2, .inl (gI g, 7, .inl (fun _ => 0)))] (fun (r : Int32) (u : Unit) => r = 0) (fun (u : Unit) => ([] : va_W)) := by
  refine kMi.of (by decide) (Nat.le_of_ble_eq_true rfl) (fun p e s m below meth c A hx hb hr hml hown hts hlk hnm hKW hP hD hS hA ls hl => ?_)
  have hown : s.vm.findClass RX1 = some m.cls := hown
  have hl : lv_has ls 2 [(0, .ref (a 0)), (1, .int x)] := hl
  refine lv_aload_n hx hb dX1_add_0 rfl (lv_at hl 0 rfl) ?_
  refine va_get (ci := 1) (C := RX1) (T := TX1) (N := 4) hx hb hts inlX1 hown hKW.1 hP 0 rfl rfl 1 (by decide) (hts _ wd_4_1) (fun _ h => h) rfl dX1_add_1 ?_
  refine lv_aload_n hx hb dX1_add_4 rfl (lv_at hl 0 rfl) ?_
  refine va_get (ci := 1) (C := RX1) (T := TX1) (N := 4) hx hb hts inlX1 hown hKW.1 hP 0 rfl rfl 0 (by decide) (hts _ wd_9_0) (fun _ h => h) rfl dX1_add_5 ?_
  refine lv_iload_n hx hb dX1_add_8 rfl (lv_at hl 1 rfl) ?_
  refine va_iast hx hb hKW.1 hP hD hS 1 0 rfl rfl (show ¬ _ by decide) dX1_add_9 (fun H locs hP hD hS => ?_)
  have hP : va_P g.1 vwCl [(a 0, .inr (1, [.int 0, .ref (a 1), .ref (a 2), .int 0])), (a 1, .inl (gI g, 7, .inl (upd (fun _ => 0) 0 x))), (a 2, .inl (gI g, 7, .inl (fun _ => 0)))] H := hP
  have hD : va_D A [(a 0, .inr (1, [.int 0, .ref (a 1), .ref (a 2), .int 0])), (a 1, .inl (gI g, 7, .inl (upd (fun _ => 0) 0 x))), (a 2, .inl (gI g, 7, .inl (fun _ => 0)))] := hD
  obtain ⟨f_1, ef_1⟩ : ∃ zz_ : Nat → Int32, zz_ = upd (fun _ => 0) 0 x := ⟨_, rfl⟩
  rw [← ef_1] at hP hD
  refine lv_aload_n hx hb dX1_add_10 rfl (lv_at hl 0 rfl) ?_
  refine va_get (ci := 1) (C := RX1) (T := TX1) (N := 4) hx hb hts inlX1 hown hKW.1 hP 0 rfl rfl 2 (by decide) (hts _ wd_4_2) (fun _ h => h) rfl dX1_add_11 ?_
  refine lv_aload_n hx hb dX1_add_14 rfl (lv_at hl 0 rfl) ?_
  refine va_get (ci := 1) (C := RX1) (T := TX1) (N := 4) hx hb hts inlX1 hown hKW.1 hP 0 rfl rfl 0 (by decide) (hts _ wd_9_0) (fun _ h => h) rfl dX1_add_15 ?_
  refine lv_iconst (v := (-1)) hx hb dX1_add_18 (by decide) ?_
  refine va_iast hx hb hKW.1 hP hD hS 2 0 rfl rfl (show ¬ _ by decide) dX1_add_19 (fun H locs hP hD hS => ?_)
  have hP : va_P g.1 vwCl [(a 0, .inr (1, [.int 0, .ref (a 1), .ref (a 2), .int 0])), (a 1, .inl (gI g, 7, .inl f_1)), (a 2, .inl (gI g, 7, .inl (upd (fun _ => 0) 0 (-1))))] H := hP
  have hD : va_D A [(a 0, .inr (1, [.int 0, .ref (a 1), .ref (a 2), .int 0])), (a 1, .inl (gI g, 7, .inl f_1)), (a 2, .inl (gI g, 7, .inl (upd (fun _ => 0) 0 (-1))))] := hD
  obtain ⟨f_2, ef_2⟩ : ∃ zz_ : Nat → Int32, zz_ = upd (fun _ => 0) 0 (-1) := ⟨_, rfl⟩
  rw [← ef_2] at hP hD
  refine lv_aload_n hx hb dX1_add_20 rfl (lv_at hl 0 rfl) ?_
  refine lv_aload_n hx hb dX1_add_21 rfl (lv_at hl 0 rfl) ?_
  refine va_get (ci := 1) (C := RX1) (T := TX1) (N := 4) hx hb hts inlX1 hown hKW.1 hP 0 rfl rfl 3 (by decide) (hts _ wd_9_2) (fun _ h => h) rfl dX1_add_22 ?_
  refine lv_aload_n hx hb dX1_add_25 rfl (lv_at hl 0 rfl) ?_
  refine va_get (ci := 1) (C := RX1) (T := TX1) (N := 4) hx hb hts inlX1 hown hKW.1 hP 0 rfl rfl 0 (by decide) (hts _ wd_9_0) (fun _ h => h) rfl dX1_add_26 ?_
  refine k_SNi [] [0, 1, 2] (wr := [(a 0, .inr (1, [.int 0, .ref (a 1), .ref (a 2), .int 0])), (a 1, .inl (gI g, 7, .inl f_1)), (a 2, .inl (gI g, 7, .inl f_2))]) hx hb hml hown hts hKW hP hD hS hA hl.1 (c_X11_without00 l g _  ) wd_11_13 wd_1_2 nw_12 wd_11_12 yd_X11_without ⟨Nat.le_of_ble_eq_true rfl, Nat.le_of_ble_eq_true rfl⟩ rfl rfl rfl rfl rfl (by decide) rfl (Nat.le_of_ble_eq_true rfl) dX1_add_29 ⟨Nat.le_of_ble_eq_true rfl, Nat.le_of_ble_eq_true rfl⟩ (fun r_3 u_4 H locs hw_5 hP hD hS => ?_)
  have hP : va_P g.1 vwCl [(a 0, .inr (1, [.int 0, .ref (a 1), .ref (a 2), .int 0])), (a 1, .inl (gI g, 7, .inl f_1)), (a 2, .inl (gI g, 7, .inl f_2))] H := hP
  have hD : va_D A [(a 0, .inr (1, [.int 0, .ref (a 1), .ref (a 2), .int 0])), (a 1, .inl (gI g, 7, .inl f_1)), (a 2, .inl (gI g, 7, .inl f_2))] := hD
  have hw_5 : r_3 = 0 := hw_5
  subst hw_5
  refine va_put (ci := 1) (v := .int 0) (C := RX1) (T := TX1) (N := 4) hx hb hts inlX1 tyX1 tyX1_ok nmX1 hown hKW.1 hP hD hS 0 rfl rfl 3 (by decide) (hts _ wd_9_2) (fun _ h => h) rfl (tyX1_ok 3 (by decide)) rfl rfl (Nat.le_of_ble_eq_true rfl) dX1_add_32 (fun H locs hP hD hS => ?_)
  have hP : va_P g.1 vwCl [(a 0, .inr (1, [.int 0, .ref (a 1), .ref (a 2), .int 0])), (a 1, .inl (gI g, 7, .inl f_1)), (a 2, .inl (gI g, 7, .inl f_2))] H := hP
  have hD : va_D A [(a 0, .inr (1, [.int 0, .ref (a 1), .ref (a 2), .int 0])), (a 1, .inl (gI g, 7, .inl f_1)), (a 2, .inl (gI g, 7, .inl f_2))] := hD
  refine lv_aload_n hx hb dX1_add_35 rfl (lv_at hl 0 rfl) ?_
  refine lv_dup hx hb dX1_add_36 rfl ?_
  refine va_get (ci := 1) (C := RX1) (T := TX1) (N := 4) hx hb hts inlX1 hown hKW.1 hP 0 rfl rfl 0 (by decide) (hts _ wd_9_0) (fun _ h => h) rfl dX1_add_37 ?_
  refine lv_iconst (v := 1) hx hb dX1_add_40 (by decide) ?_
  refine lv_iadd hx hb dX1_add_41 ?_
  refine k_top (y := 1) (by decide) ?_
  refine va_put (ci := 1) (v := .int 1) (C := RX1) (T := TX1) (N := 4) hx hb hts inlX1 tyX1 tyX1_ok nmX1 hown hKW.1 hP hD hS 0 rfl rfl 0 (by decide) (hts _ wd_9_0) (fun _ h => h) rfl (tyX1_ok 0 (by decide)) rfl rfl (Nat.le_of_ble_eq_true rfl) dX1_add_42 (fun H locs hP hD hS => ?_)
  have hP : va_P g.1 vwCl [(a 0, .inr (1, [.int 1, .ref (a 1), .ref (a 2), .int 0])), (a 1, .inl (gI g, 7, .inl f_1)), (a 2, .inl (gI g, 7, .inl f_2))] H := hP
  have hD : va_D A [(a 0, .inr (1, [.int 1, .ref (a 1), .ref (a 2), .int 0])), (a 1, .inl (gI g, 7, .inl f_1)), (a 2, .inl (gI g, 7, .inl f_2))] := hD
  refine lv_aload_n hx hb dX1_add_45 rfl (lv_at hl 0 rfl) ?_
  refine va_get (ci := 1) (C := RX1) (T := TX1) (N := 4) hx hb hts inlX1 hown hKW.1 hP 0 rfl rfl 0 (by decide) (hts _ wd_9_0) (fun _ h => h) rfl dX1_add_46 ?_
  refine lv_iconst (v := 1) hx hb dX1_add_49 (by decide) ?_
  refine lv_isub hx hb dX1_add_50 ?_
  refine k_top (y := 0) (by decide) ?_
  exact k_iret () [] hx hb hr hlk hP hD hS rfl rfl rfl rfl (Nat.le_of_ble_eq_true rfl) (Nat.le_of_ble_eq_true rfl) dX1_add_51
theorem dX0_add_0 : decode cX0_add 0 = .ok (.aload_n 0, 1) := by decide +kernel
theorem dX0_add_1 : decode cX0_add 1 = .ok (.getfield 9, 3) := by decide +kernel
theorem dX0_add_4 : decode cX0_add 4 = .ok (.aload_n 0, 1) := by decide +kernel
theorem dX0_add_5 : decode cX0_add 5 = .ok (.getfield 36, 3) := by decide +kernel
theorem dX0_add_8 : decode cX0_add 8 = .ok (.iload_n 1, 1) := by decide +kernel
theorem dX0_add_9 : decode cX0_add 9 = .ok (.iastore, 1) := by decide +kernel
theorem dX0_add_10 : decode cX0_add 10 = .ok (.aload_n 0, 1) := by decide +kernel
theorem dX0_add_11 : decode cX0_add 11 = .ok (.getfield 15, 3) := by decide +kernel
theorem dX0_add_14 : decode cX0_add 14 = .ok (.aload_n 0, 1) := by decide +kernel
theorem dX0_add_15 : decode cX0_add 15 = .ok (.getfield 36, 3) := by decide +kernel
theorem dX0_add_18 : decode cX0_add 18 = .ok (.iload_n 2, 1) := by decide +kernel
theorem dX0_add_19 : decode cX0_add 19 = .ok (.iastore, 1) := by decide +kernel
theorem dX0_add_20 : decode cX0_add 20 = .ok (.aload_n 0, 1) := by decide +kernel
theorem dX0_add_21 : decode cX0_add 21 = .ok (.getfield 18, 3) := by decide +kernel
theorem dX0_add_24 : decode cX0_add 24 = .ok (.aload_n 0, 1) := by decide +kernel
theorem dX0_add_25 : decode cX0_add 25 = .ok (.getfield 36, 3) := by decide +kernel
theorem dX0_add_28 : decode cX0_add 28 = .ok (.iload_n 3, 1) := by decide +kernel
theorem dX0_add_29 : decode cX0_add 29 = .ok (.iastore, 1) := by decide +kernel
theorem dX0_add_30 : decode cX0_add 30 = .ok (.aload_n 0, 1) := by decide +kernel
theorem dX0_add_31 : decode cX0_add 31 = .ok (.getfield 21, 3) := by decide +kernel
theorem dX0_add_34 : decode cX0_add 34 = .ok (.aload_n 0, 1) := by decide +kernel
theorem dX0_add_35 : decode cX0_add 35 = .ok (.getfield 36, 3) := by decide +kernel
theorem dX0_add_38 : decode cX0_add 38 = .ok (.iload 4, 2) := by decide +kernel
theorem dX0_add_40 : decode cX0_add 40 = .ok (.iastore, 1) := by decide +kernel
theorem dX0_add_41 : decode cX0_add 41 = .ok (.aload_n 0, 1) := by decide +kernel
theorem dX0_add_42 : decode cX0_add 42 = .ok (.getfield 24, 3) := by decide +kernel
theorem dX0_add_45 : decode cX0_add 45 = .ok (.aload_n 0, 1) := by decide +kernel
theorem dX0_add_46 : decode cX0_add 46 = .ok (.getfield 36, 3) := by decide +kernel
theorem dX0_add_49 : decode cX0_add 49 = .ok (.iload 5, 2) := by decide +kernel
theorem dX0_add_51 : decode cX0_add 51 = .ok (.iastore, 1) := by decide +kernel
theorem dX0_add_52 : decode cX0_add 52 = .ok (.aload_n 0, 1) := by decide +kernel
theorem dX0_add_53 : decode cX0_add 53 = .ok (.getfield 27, 3) := by decide +kernel
theorem dX0_add_56 : decode cX0_add 56 = .ok (.aload_n 0, 1) := by decide +kernel
theorem dX0_add_57 : decode cX0_add 57 = .ok (.getfield 36, 3) := by decide +kernel
theorem dX0_add_60 : decode cX0_add 60 = .ok (.iconst (-1), 1) := by decide +kernel
theorem dX0_add_61 : decode cX0_add 61 = .ok (.iastore, 1) := by decide +kernel
theorem dX0_add_62 : decode cX0_add 62 = .ok (.aload_n 0, 1) := by decide +kernel
theorem dX0_add_63 : decode cX0_add 63 = .ok (.getfield 30, 3) := by decide +kernel
theorem dX0_add_66 : decode cX0_add 66 = .ok (.aload_n 0, 1) := by decide +kernel
theorem dX0_add_67 : decode cX0_add 67 = .ok (.getfield 36, 3) := by decide +kernel
theorem dX0_add_70 : decode cX0_add 70 = .ok (.iconst 0, 1) := by decide +kernel
theorem dX0_add_71 : decode cX0_add 71 = .ok (.iastore, 1) := by decide +kernel
theorem dX0_add_72 : decode cX0_add 72 = .ok (.aload_n 0, 1) := by decide +kernel
theorem dX0_add_73 : decode cX0_add 73 = .ok (.aload_n 0, 1) := by decide +kernel
theorem dX0_add_74 : decode cX0_add 74 = .ok (.getfield 40, 3) := by decide +kernel
theorem dX0_add_77 : decode cX0_add 77 = .ok (.aload_n 0, 1) := by decide +kernel
theorem dX0_add_78 : decode cX0_add 78 = .ok (.getfield 36, 3) := by decide +kernel
theorem dX0_add_81 : decode cX0_add 81 = .ok (.invokestatic 43, 3) := by decide +kernel
theorem dX0_add_84 : decode cX0_add 84 = .ok (.putfield 40, 3) := by decide +kernel
theorem dX0_add_87 : decode cX0_add 87 = .ok (.aload_n 0, 1) := by decide +kernel
theorem dX0_add_88 : decode cX0_add 88 = .ok (.aload_n 0, 1) := by decide +kernel
theorem dX0_add_89 : decode cX0_add 89 = .ok (.getfield 47, 3) := by decide +kernel
theorem dX0_add_92 : decode cX0_add 92 = .ok (.aload_n 0, 1) := by decide +kernel
theorem dX0_add_93 : decode cX0_add 93 = .ok (.getfield 36, 3) := by decide +kernel
theorem dX0_add_96 : decode cX0_add 96 = .ok (.invokestatic 43, 3) := by decide +kernel
theorem dX0_add_99 : decode cX0_add 99 = .ok (.putfield 47, 3) := by decide +kernel
theorem dX0_add_102 : decode cX0_add 102 = .ok (.aload_n 0, 1) := by decide +kernel
theorem dX0_add_103 : decode cX0_add 103 = .ok (.dup, 1) := by decide +kernel
theorem dX0_add_104 : decode cX0_add 104 = .ok (.getfield 36, 3) := by decide +kernel
theorem dX0_add_107 : decode cX0_add 107 = .ok (.iconst 1, 1) := by decide +kernel
theorem dX0_add_108 : decode cX0_add 108 = .ok (.iadd, 1) := by decide +kernel
theorem dX0_add_109 : decode cX0_add 109 = .ok (.putfield 36, 3) := by decide +kernel
theorem dX0_add_112 : decode cX0_add 112 = .ok (.aload_n 0, 1) := by decide +kernel
theorem dX0_add_113 : decode cX0_add 113 = .ok (.getfield 36, 3) := by decide +kernel
theorem dX0_add_116 : decode cX0_add 116 = .ok (.iconst 1, 1) := by decide +kernel
theorem dX0_add_117 : decode cX0_add 117 = .ok (.isub, 1) := by decide +kernel
theorem dX0_add_118 : decode cX0_add 118 = .ok (.ireturn, 1) := by decide +kernel
set_option maxHeartbeats 4000000 in
set_option maxRecDepth 100000 in
theorem c_X0_add (l : Launch) (g : kG) (sz : Nat) (a : Nat → Nat) (x : Int32) (y : Int32) (z : Int32) (v : Int32) (w : Int32) : kMi l g yX0_add cX0_add 6 (some .int) 2 0 0 [.ref (a 0), .int x, .int y, .int z, .int v, .int w] sz [(a 0, .inr (0, [.int 0, .ref (a 1), .ref (a 2), .ref (a 3), .ref (a 4), .ref (a 5), .ref (a 6), .ref (a 7), .int 0, .int 0, .int 0, .ref (a 8)])), (a 1, .inl (gI g, 10, .inl (fun _ => 0))), (a 2, .inl (gI g, 10, .inl (fun _ => 0))), (a 3, .inl (gI g, 10, .inl (fun _ => 0))), (a 4, .inl (gI g, 10, .inl (fun _ => 0))), (a 5, .inl (gI g, 10, .inl (fun _ => 0))), (a 6, .inl (gI g, 10, .inl (fun _ => 0))), (a 7, .inl (gI g, 10, .inl (fun _ => 0))), (a 8, .inl (gI g, 10, .inl (fun _ => 0)))] (fun (r : Int32) (u : Unit) => r = 0) (fun (u : Unit) => ([] : va_W)) := by
  refine kMi.of (by decide) (Nat.le_of_ble_eq_true rfl) (fun p e s m below meth c A hx hb hr hml hown hts hlk hnm hKW hP hD hS hA ls hl => ?_)
  have hown : s.vm.findClass RX0 = some m.cls := hown
  have hl : lv_has ls 6 [(0, .ref (a 0)), (1, .int x), (2, .int y), (3, .int z), (4, .int v), (5, .int w)] := hl
  refine lv_aload_n hx hb dX0_add_0 rfl (lv_at hl 0 rfl) ?_
  refine va_get (ci := 0) (C := RX0) (T := TX0) (N := 12) hx hb hts inlX0 hown hKW.1 hP 0 rfl rfl 1 (by decide) (hts _ wd_4_6) (fun _ h => h) rfl dX0_add_1 ?_
  refine lv_aload_n hx hb dX0_add_4 rfl (lv_at hl 0 rfl) ?_
  refine va_get (ci := 0) (C := RX0) (T := TX0) (N := 12) hx hb hts inlX0 hown hKW.1 hP 0 rfl rfl 0 (by decide) (hts _ wd_9_7) (fun _ h => h) rfl dX0_add_5 ?_
  refine lv_iload_n hx hb dX0_add_8 rfl (lv_at hl 1 rfl) ?_
  refine va_iast hx hb hKW.1 hP hD hS 1 0 rfl rfl (show ¬ _ by decide) dX0_add_9 (fun H locs hP hD hS => ?_)
  have hP : va_P g.1 vwCl [(a 0, .inr (0, [.int 0, .ref (a 1), .ref (a 2), .ref (a 3), .ref (a 4), .ref (a 5), .ref (a 6), .ref (a 7), .int 0, .int 0, .int 0, .ref (a 8)])), (a 1, .inl (gI g, 10, .inl (upd (fun _ => 0) 0 x))), (a 2, .inl (gI g, 10, .inl (fun _ => 0))), (a 3, .inl (gI g, 10, .inl (fun _ => 0))), (a 4, .inl (gI g, 10, .inl (fun _ => 0))), (a 5, .inl (gI g, 10, .inl (fun _ => 0))), (a 6, .inl (gI g, 10, .inl (fun _ => 0))), (a 7, .inl (gI g, 10, .inl (fun _ => 0))), (a 8, .inl (gI g, 10, .inl (fun _ => 0)))] H := hP
  have hD : va_D A [(a 0, .inr (0, [.int 0, .ref (a 1), .ref (a 2), .ref (a 3), .ref (a 4), .ref (a 5), .ref (a 6), .ref (a 7), .int 0, .int 0, .int 0, .ref (a 8)])), (a 1, .inl (gI g, 10, .inl (upd (fun _ => 0) 0 x))), (a 2, .inl (gI g, 10, .inl (fun _ => 0))), (a 3, .inl (gI g, 10, .inl (fun _ => 0))), (a 4, .inl (gI g, 10, .inl (fun _ => 0))), (a 5, .inl (gI g, 10, .inl (fun _ => 0))), (a 6, .inl (gI g, 10, .inl (fun _ => 0))), (a 7, .inl (gI g, 10, .inl (fun _ => 0))), (a 8, .inl (gI g, 10, .inl (fun _ => 0)))] := hD
  obtain ⟨f_1, ef_1⟩ : ∃ zz_ : Nat → Int32, zz_ = upd (fun _ => 0) 0 x := ⟨_, rfl⟩
  rw [← ef_1] at hP hD
  refine lv_aload_n hx hb dX0_add_10 rfl (lv_at hl 0 rfl) ?_
  refine va_get (ci := 0) (C := RX0) (T := TX0) (N := 12) hx hb hts inlX0 hown hKW.1 hP 0 rfl rfl 2 (by decide) (hts _ wd_4_7) (fun _ h => h) rfl dX0_add_11 ?_
  refine lv_aload_n hx hb dX0_add_14 rfl (lv_at hl 0 rfl) ?_
  refine va_get (ci := 0) (C := RX0) (T := TX0) (N := 12) hx hb hts inlX0 hown hKW.1 hP 0 rfl rfl 0 (by decide) (hts _ wd_9_7) (fun _ h => h) rfl dX0_add_15 ?_
  refine lv_iload_n hx hb dX0_add_18 rfl (lv_at hl 2 rfl) ?_
  refine va_iast hx hb hKW.1 hP hD hS 2 0 rfl rfl (show ¬ _ by decide) dX0_add_19 (fun H locs hP hD hS => ?_)
  have hP : va_P g.1 vwCl [(a 0, .inr (0, [.int 0, .ref (a 1), .ref (a 2), .ref (a 3), .ref (a 4), .ref (a 5), .ref (a 6), .ref (a 7), .int 0, .int 0, .int 0, .ref (a 8)])), (a 1, .inl (gI g, 10, .inl f_1)), (a 2, .inl (gI g, 10, .inl (upd (fun _ => 0) 0 y))), (a 3, .inl (gI g, 10, .inl (fun _ => 0))), (a 4, .inl (gI g, 10, .inl (fun _ => 0))), (a 5, .inl (gI g, 10, .inl (fun _ => 0))), (a 6, .inl (gI g, 10, .inl (fun _ => 0))), (a 7, .inl (gI g, 10, .inl (fun _ => 0))), (a 8, .inl (gI g, 10, .inl (fun _ => 0)))] H := hP
  have hD : va_D A [(a 0, .inr (0, [.int 0, .ref (a 1), .ref (a 2), .ref (a 3), .ref (a 4), .ref (a 5), .ref (a 6), .ref (a 7), .int 0, .int 0, .int 0, .ref (a 8)])), (a 1, .inl (gI g, 10, .inl f_1)), (a 2, .inl (gI g, 10, .inl (upd (fun _ => 0) 0 y))), (a 3, .inl (gI g, 10, .inl (fun _ => 0))), (a 4, .inl (gI g, 10, .inl (fun _ => 0))), (a 5, .inl (gI g, 10, .inl (fun _ => 0))), (a 6, .inl (gI g, 10, .inl (fun _ => 0))), (a 7, .inl (gI g, 10, .inl (fun _ => 0))), (a 8, .inl (gI g, 10, .inl (fun _ => 0)))] := hD
  obtain ⟨f_2, ef_2⟩ : ∃ zz_ : Nat → Int32, zz_ = upd (fun _ => 0) 0 y := ⟨_, rfl⟩
  rw [← ef_2] at hP hD
  refine lv_aload_n hx hb dX0_add_20 rfl (lv_at hl 0 rfl) ?_
  refine va_get (ci := 0) (C := RX0) (T := TX0) (N := 12) hx hb hts inlX0 hown hKW.1 hP 0 rfl rfl 3 (by decide) (hts _ wd_4_8) (fun _ h => h) rfl dX0_add_21 ?_
  refine lv_aload_n hx hb dX0_add_24 rfl (lv_at hl 0 rfl) ?_
  refine va_get (ci := 0) (C := RX0) (T := TX0) (N := 12) hx hb hts inlX0 hown hKW.1 hP 0 rfl rfl 0 (by decide) (hts _ wd_9_7) (fun _ h => h) rfl dX0_add_25 ?_
  refine lv_iload_n hx hb dX0_add_28 rfl (lv_at hl 3 rfl) ?_
  refine va_iast hx hb hKW.1 hP hD hS 3 0 rfl rfl (show ¬ _ by decide) dX0_add_29 (fun H locs hP hD hS => ?_)
  have hP : va_P g.1 vwCl [(a 0, .inr (0, [.int 0, .ref (a 1), .ref (a 2), .ref (a 3), .ref (a 4), .ref (a 5), .ref (a 6), .ref (a 7), .int 0, .int 0, .int 0, .ref (a 8)])), (a 1, .inl (gI g, 10, .inl f_1)), (a 2, .inl (gI g, 10, .inl f_2)), (a 3, .inl (gI g, 10, .inl (upd (fun _ => 0) 0 z))), (a 4, .inl (gI g, 10, .inl (fun _ => 0))), (a 5, .inl (gI g, 10, .inl (fun _ => 0))), (a 6, .inl (gI g, 10, .inl (fun _ => 0))), (a 7, .inl (gI g, 10, .inl (fun _ => 0))), (a 8, .inl (gI g, 10, .inl (fun _ => 0)))] H := hP
  have hD : va_D A [(a 0, .inr (0, [.int 0, .ref (a 1), .ref (a 2), .ref (a 3), .ref (a 4), .ref (a 5), .ref (a 6), .ref (a 7), .int 0, .int 0, .int 0, .ref (a 8)])), (a 1, .inl (gI g, 10, .inl f_1)), (a 2, .inl (gI g, 10, .inl f_2)), (a 3, .inl (gI g, 10, .inl (upd (fun _ => 0) 0 z))), (a 4, .inl (gI g, 10, .inl (fun _ => 0))), (a 5, .inl (gI g, 10, .inl (fun _ => 0))), (a 6, .inl (gI g, 10, .inl (fun _ => 0))), (a 7, .inl (gI g, 10, .inl (fun _ => 0))), (a 8, .inl (gI g, 10, .inl (fun _ => 0)))] := hD
  obtain ⟨f_3, ef_3⟩ : ∃ zz_ : Nat → Int32, zz_ = upd (fun _ => 0) 0 z := ⟨_, rfl⟩
  rw [← ef_3] at hP hD
  refine lv_aload_n hx hb dX0_add_30 rfl (lv_at hl 0 rfl) ?_
  refine va_get (ci := 0) (C := RX0) (T := TX0) (N := 12) hx hb hts inlX0 hown hKW.1 hP 0 rfl rfl 4 (by decide) (hts _ wd_4_9) (fun _ h => h) rfl dX0_add_31 ?_
  refine lv_aload_n hx hb dX0_add_34 rfl (lv_at hl 0 rfl) ?_
  refine va_get (ci := 0) (C := RX0) (T := TX0) (N := 12) hx hb hts inlX0 hown hKW.1 hP 0 rfl rfl 0 (by decide) (hts _ wd_9_7) (fun _ h => h) rfl dX0_add_35 ?_
  refine lv_iload hx hb dX0_add_38 (lv_at hl 4 rfl) ?_
  refine va_iast hx hb hKW.1 hP hD hS 4 0 rfl rfl (show ¬ _ by decide) dX0_add_40 (fun H locs hP hD hS => ?_)
  have hP : va_P g.1 vwCl [(a 0, .inr (0, [.int 0, .ref (a 1), .ref (a 2), .ref (a 3), .ref (a 4), .ref (a 5), .ref (a 6), .ref (a 7), .int 0, .int 0, .int 0, .ref (a 8)])), (a 1, .inl (gI g, 10, .inl f_1)), (a 2, .inl (gI g, 10, .inl f_2)), (a 3, .inl (gI g, 10, .inl f_3)), (a 4, .inl (gI g, 10, .inl (upd (fun _ => 0) 0 v))), (a 5, .inl (gI g, 10, .inl (fun _ => 0))), (a 6, .inl (gI g, 10, .inl (fun _ => 0))), (a 7, .inl (gI g, 10, .inl (fun _ => 0))), (a 8, .inl (gI g, 10, .inl (fun _ => 0)))] H := hP
  have hD : va_D A [(a 0, .inr (0, [.int 0, .ref (a 1), .ref (a 2), .ref (a 3), .ref (a 4), .ref (a 5), .ref (a 6), .ref (a 7), .int 0, .int 0, .int 0, .ref (a 8)])), (a 1, .inl (gI g, 10, .inl f_1)), (a 2, .inl (gI g, 10, .inl f_2)), (a 3, .inl (gI g, 10, .inl f_3)), (a 4, .inl (gI g, 10, .inl (upd (fun _ => 0) 0 v))), (a 5, .inl (gI g, 10, .inl (fun _ => 0))), (a 6, .inl (gI g, 10, .inl (fun _ => 0))), (a 7, .inl (gI g, 10, .inl (fun _ => 0))), (a 8, .inl (gI g, 10, .inl (fun _ => 0)))] := hD
  obtain ⟨f_4, ef_4⟩ : ∃ zz_ : Nat → Int32, zz_ = upd (fun _ => 0) 0 v := ⟨_, rfl⟩
  rw [← ef_4] at hP hD
  refine lv_aload_n hx hb dX0_add_41 rfl (lv_at hl 0 rfl) ?_
  refine va_get (ci := 0) (C := RX0) (T := TX0) (N := 12) hx hb hts inlX0 hown hKW.1 hP 0 rfl rfl 5 (by decide) (hts _ wd_4_10) (fun _ h => h) rfl dX0_add_42 ?_
  refine lv_aload_n hx hb dX0_add_45 rfl (lv_at hl 0 rfl) ?_
  refine va_get (ci := 0) (C := RX0) (T := TX0) (N := 12) hx hb hts inlX0 hown hKW.1 hP 0 rfl rfl 0 (by decide) (hts _ wd_9_7) (fun _ h => h) rfl dX0_add_46 ?_
  refine lv_iload hx hb dX0_add_49 (lv_at hl 5 rfl) ?_
  refine va_iast hx hb hKW.1 hP hD hS 5 0 rfl rfl (show ¬ _ by decide) dX0_add_51 (fun H locs hP hD hS => ?_)
  have hP : va_P g.1 vwCl [(a 0, .inr (0, [.int 0, .ref (a 1), .ref (a 2), .ref (a 3), .ref (a 4), .ref (a 5), .ref (a 6), .ref (a 7), .int 0, .int 0, .int 0, .ref (a 8)])), (a 1, .inl (gI g, 10, .inl f_1)), (a 2, .inl (gI g, 10, .inl f_2)), (a 3, .inl (gI g, 10, .inl f_3)), (a 4, .inl (gI g, 10, .inl f_4)), (a 5, .inl (gI g, 10, .inl (upd (fun _ => 0) 0 w))), (a 6, .inl (gI g, 10, .inl (fun _ => 0))), (a 7, .inl (gI g, 10, .inl (fun _ => 0))), (a 8, .inl (gI g, 10, .inl (fun _ => 0)))] H := hP
  have hD : va_D A [(a 0, .inr (0, [.int 0, .ref (a 1), .ref (a 2), .ref (a 3), .ref (a 4), .ref (a 5), .ref (a 6), .ref (a 7), .int 0, .int 0, .int 0, .ref (a 8)])), (a 1, .inl (gI g, 10, .inl f_1)), (a 2, .inl (gI g, 10, .inl f_2)), (a 3, .inl (gI g, 10, .inl f_3)), (a 4, .inl (gI g, 10, .inl f_4)), (a 5, .inl (gI g, 10, .inl (upd (fun _ => 0) 0 w))), (a 6, .inl (gI g, 10, .inl (fun _ => 0))), (a 7, .inl (gI g, 10, .inl (fun _ => 0))), (a 8, .inl (gI g, 10, .inl (fun _ => 0)))] := hD
  obtain ⟨f_5, ef_5⟩ : ∃ zz_ : Nat → Int32, zz_ = upd (fun _ => 0) 0 w := ⟨_, rfl⟩
  rw [← ef_5] at hP hD
  refine lv_aload_n hx hb dX0_add_52 rfl (lv_at hl 0 rfl) ?_
  refine va_get (ci := 0) (C := RX0) (T := TX0) (N := 12) hx hb hts inlX0 hown hKW.1 hP 0 rfl rfl 6 (by decide) (hts _ wd_4_11) (fun _ h => h) rfl dX0_add_53 ?_
  refine lv_aload_n hx hb dX0_add_56 rfl (lv_at hl 0 rfl) ?_
  refine va_get (ci := 0) (C := RX0) (T := TX0) (N := 12) hx hb hts inlX0 hown hKW.1 hP 0 rfl rfl 0 (by decide) (hts _ wd_9_7) (fun _ h => h) rfl dX0_add_57 ?_
  refine lv_iconst (v := (-1)) hx hb dX0_add_60 (by decide) ?_
  refine va_iast hx hb hKW.1 hP hD hS 6 0 rfl rfl (show ¬ _ by decide) dX0_add_61 (fun H locs hP hD hS => ?_)
  have hP : va_P g.1 vwCl [(a 0, .inr (0, [.int 0, .ref (a 1), .ref (a 2), .ref (a 3), .ref (a 4), .ref (a 5), .ref (a 6), .ref (a 7), .int 0, .int 0, .int 0, .ref (a 8)])), (a 1, .inl (gI g, 10, .inl f_1)), (a 2, .inl (gI g, 10, .inl f_2)), (a 3, .inl (gI g, 10, .inl f_3)), (a 4, .inl (gI g, 10, .inl f_4)), (a 5, .inl (gI g, 10, .inl f_5)), (a 6, .inl (gI g, 10, .inl (upd (fun _ => 0) 0 (-1)))), (a 7, .inl (gI g, 10, .inl (fun _ => 0))), (a 8, .inl (gI g, 10, .inl (fun _ => 0)))] H := hP
  have hD : va_D A [(a 0, .inr (0, [.int 0, .ref (a 1), .ref (a 2), .ref (a 3), .ref (a 4), .ref (a 5), .ref (a 6), .ref (a 7), .int 0, .int 0, .int 0, .ref (a 8)])), (a 1, .inl (gI g, 10, .inl f_1)), (a 2, .inl (gI g, 10, .inl f_2)), (a 3, .inl (gI g, 10, .inl f_3)), (a 4, .inl (gI g, 10, .inl f_4)), (a 5, .inl (gI g, 10, .inl f_5)), (a 6, .inl (gI g, 10, .inl (upd (fun _ => 0) 0 (-1)))), (a 7, .inl (gI g, 10, .inl (fun _ => 0))), (a 8, .inl (gI g, 10, .inl (fun _ => 0)))] := hD
  obtain ⟨f_6, ef_6⟩ : ∃ zz_ : Nat → Int32, zz_ = upd (fun _ => 0) 0 (-1) := ⟨_, rfl⟩
  rw [← ef_6] at hP hD
  refine lv_aload_n hx hb dX0_add_62 rfl (lv_at hl 0 rfl) ?_
  refine va_get (ci := 0) (C := RX0) (T := TX0) (N := 12) hx hb hts inlX0 hown hKW.1 hP 0 rfl rfl 7 (by decide) (hts _ wd_4_12) (fun _ h => h) rfl dX0_add_63 ?_
  refine lv_aload_n hx hb dX0_add_66 rfl (lv_at hl 0 rfl) ?_
  refine va_get (ci := 0) (C := RX0) (T := TX0) (N := 12) hx hb hts inlX0 hown hKW.1 hP 0 rfl rfl 0 (by decide) (hts _ wd_9_7) (fun _ h => h) rfl dX0_add_67 ?_
  refine lv_iconst (v := 0) hx hb dX0_add_70 (by decide) ?_
  refine va_iast hx hb hKW.1 hP hD hS 7 0 rfl rfl (show ¬ _ by decide) dX0_add_71 (fun H locs hP hD hS => ?_)
  have hP : va_P g.1 vwCl [(a 0, .inr (0, [.int 0, .ref (a 1), .ref (a 2), .ref (a 3), .ref (a 4), .ref (a 5), .ref (a 6), .ref (a 7), .int 0, .int 0, .int 0, .ref (a 8)])), (a 1, .inl (gI g, 10, .inl f_1)), (a 2, .inl (gI g, 10, .inl f_2)), (a 3, .inl (gI g, 10, .inl f_3)), (a 4, .inl (gI g, 10, .inl f_4)), (a 5, .inl (gI g, 10, .inl f_5)), (a 6, .inl (gI g, 10, .inl f_6)), (a 7, .inl (gI g, 10, .inl (upd (fun _ => 0) 0 0))), (a 8, .inl (gI g, 10, .inl (fun _ => 0)))] H := hP
  have hD : va_D A [(a 0, .inr (0, [.int 0, .ref (a 1), .ref (a 2), .ref (a 3), .ref (a 4), .ref (a 5), .ref (a 6), .ref (a 7), .int 0, .int 0, .int 0, .ref (a 8)])), (a 1, .inl (gI g, 10, .inl f_1)), (a 2, .inl (gI g, 10, .inl f_2)), (a 3, .inl (gI g, 10, .inl f_3)), (a 4, .inl (gI g, 10, .inl f_4)), (a 5, .inl (gI g, 10, .inl f_5)), (a 6, .inl (gI g, 10, .inl f_6)), (a 7, .inl (gI g, 10, .inl (upd (fun _ => 0) 0 0))), (a 8, .inl (gI g, 10, .inl (fun _ => 0)))] := hD
  obtain ⟨f_7, ef_7⟩ : ∃ zz_ : Nat → Int32, zz_ = upd (fun _ => 0) 0 0 := ⟨_, rfl⟩
  rw [← ef_7] at hP hD
  refine lv_aload_n hx hb dX0_add_72 rfl (lv_at hl 0 rfl) ?_
  refine lv_aload_n hx hb dX0_add_73 rfl (lv_at hl 0 rfl) ?_
  refine va_get (ci := 0) (C := RX0) (T := TX0) (N := 12) hx hb hts inlX0 hown hKW.1 hP 0 rfl rfl 8 (by decide) (hts _ wd_9_10) (fun _ h => h) rfl dX0_add_74 ?_
  refine lv_aload_n hx hb dX0_add_77 rfl (lv_at hl 0 rfl) ?_
  refine va_get (ci := 0) (C := RX0) (T := TX0) (N := 12) hx hb hts inlX0 hown hKW.1 hP 0 rfl rfl 0 (by decide) (hts _ wd_9_7) (fun _ h => h) rfl dX0_add_78 ?_
  refine k_SNi [] [0, 1, 2, 3, 4, 5, 6, 7, 8] (wr := [(a 0, .inr (0, [.int 0, .ref (a 1), .ref (a 2), .ref (a 3), .ref (a 4), .ref (a 5), .ref (a 6), .ref (a 7), .int 0, .int 0, .int 0, .ref (a 8)])), (a 1, .inl (gI g, 10, .inl f_1)), (a 2, .inl (gI g, 10, .inl f_2)), (a 3, .inl (gI g, 10, .inl f_3)), (a 4, .inl (gI g, 10, .inl f_4)), (a 5, .inl (gI g, 10, .inl f_5)), (a 6, .inl (gI g, 10, .inl f_6)), (a 7, .inl (gI g, 10, .inl f_7)), (a 8, .inl (gI g, 10, .inl (fun _ => 0)))]) hx hb hml hown hts hKW hP hD hS hA hl.1 (c_X11_without00 l g _  ) wd_11_13 wd_1_2 nw_13 wd_11_12 yd_X11_without ⟨Nat.le_of_ble_eq_true rfl, Nat.le_of_ble_eq_true rfl⟩ rfl rfl rfl rfl rfl (by decide) rfl (Nat.le_of_ble_eq_true rfl) dX0_add_81 ⟨Nat.le_of_ble_eq_true rfl, Nat.le_of_ble_eq_true rfl⟩ (fun r_8 u_9 H locs hw_10 hP hD hS => ?_)
  have hP : va_P g.1 vwCl [(a 0, .inr (0, [.int 0, .ref (a 1), .ref (a 2), .ref (a 3), .ref (a 4), .ref (a 5), .ref (a 6), .ref (a 7), .int 0, .int 0, .int 0, .ref (a 8)])), (a 1, .inl (gI g, 10, .inl f_1)), (a 2, .inl (gI g, 10, .inl f_2)), (a 3, .inl (gI g, 10, .inl f_3)), (a 4, .inl (gI g, 10, .inl f_4)), (a 5, .inl (gI g, 10, .inl f_5)), (a 6, .inl (gI g, 10, .inl f_6)), (a 7, .inl (gI g, 10, .inl f_7)), (a 8, .inl (gI g, 10, .inl (fun _ => 0)))] H := hP
  have hD : va_D A [(a 0, .inr (0, [.int 0, .ref (a 1), .ref (a 2), .ref (a 3), .ref (a 4), .ref (a 5), .ref (a 6), .ref (a 7), .int 0, .int 0, .int 0, .ref (a 8)])), (a 1, .inl (gI g, 10, .inl f_1)), (a 2, .inl (gI g, 10, .inl f_2)), (a 3, .inl (gI g, 10, .inl f_3)), (a 4, .inl (gI g, 10, .inl f_4)), (a 5, .inl (gI g, 10, .inl f_5)), (a 6, .inl (gI g, 10, .inl f_6)), (a 7, .inl (gI g, 10, .inl f_7)), (a 8, .inl (gI g, 10, .inl (fun _ => 0)))] := hD
  have hw_10 : r_8 = 0 := hw_10
  subst hw_10
  refine va_put (ci := 0) (v := .int 0) (C := RX0) (T := TX0) (N := 12) hx hb hts inlX0 tyX0 tyX0_ok nmX0 hown hKW.1 hP hD hS 0 rfl rfl 8 (by decide) (hts _ wd_9_10) (fun _ h => h) rfl (tyX0_ok 8 (by decide)) rfl rfl (Nat.le_of_ble_eq_true rfl) dX0_add_84 (fun H locs hP hD hS => ?_)
  have hP : va_P g.1 vwCl [(a 0, .inr (0, [.int 0, .ref (a 1), .ref (a 2), .ref (a 3), .ref (a 4), .ref (a 5), .ref (a 6), .ref (a 7), .int 0, .int 0, .int 0, .ref (a 8)])), (a 1, .inl (gI g, 10, .inl f_1)), (a 2, .inl (gI g, 10, .inl f_2)), (a 3, .inl (gI g, 10, .inl f_3)), (a 4, .inl (gI g, 10, .inl f_4)), (a 5, .inl (gI g, 10, .inl f_5)), (a 6, .inl (gI g, 10, .inl f_6)), (a 7, .inl (gI g, 10, .inl f_7)), (a 8, .inl (gI g, 10, .inl (fun _ => 0)))] H := hP
  have hD : va_D A [(a 0, .inr (0, [.int 0, .ref (a 1), .ref (a 2), .ref (a 3), .ref (a 4), .ref (a 5), .ref (a 6), .ref (a 7), .int 0, .int 0, .int 0, .ref (a 8)])), (a 1, .inl (gI g, 10, .inl f_1)), (a 2, .inl (gI g, 10, .inl f_2)), (a 3, .inl (gI g, 10, .inl f_3)), (a 4, .inl (gI g, 10, .inl f_4)), (a 5, .inl (gI g, 10, .inl f_5)), (a 6, .inl (gI g, 10, .inl f_6)), (a 7, .inl (gI g, 10, .inl f_7)), (a 8, .inl (gI g, 10, .inl (fun _ => 0)))] := hD
  refine lv_aload_n hx hb dX0_add_87 rfl (lv_at hl 0 rfl) ?_
  refine lv_aload_n hx hb dX0_add_88 rfl (lv_at hl 0 rfl) ?_
  refine va_get (ci := 0) (C := RX0) (T := TX0) (N := 12) hx hb hts inlX0 hown hKW.1 hP 0 rfl rfl 9 (by decide) (hts _ wd_9_11) (fun _ h => h) rfl dX0_add_89 ?_
  refine lv_aload_n hx hb dX0_add_92 rfl (lv_at hl 0 rfl) ?_
  refine va_get (ci := 0) (C := RX0) (T := TX0) (N := 12) hx hb hts inlX0 hown hKW.1 hP 0 rfl rfl 0 (by decide) (hts _ wd_9_7) (fun _ h => h) rfl dX0_add_93 ?_
  refine k_SNi [] [0, 1, 2, 3, 4, 5, 6, 7, 8] (wr := [(a 0, .inr (0, [.int 0, .ref (a 1), .ref (a 2), .ref (a 3), .ref (a 4), .ref (a 5), .ref (a 6), .ref (a 7), .int 0, .int 0, .int 0, .ref (a 8)])), (a 1, .inl (gI g, 10, .inl f_1)), (a 2, .inl (gI g, 10, .inl f_2)), (a 3, .inl (gI g, 10, .inl f_3)), (a 4, .inl (gI g, 10, .inl f_4)), (a 5, .inl (gI g, 10, .inl f_5)), (a 6, .inl (gI g, 10, .inl f_6)), (a 7, .inl (gI g, 10, .inl f_7)), (a 8, .inl (gI g, 10, .inl (fun _ => 0)))]) hx hb hml hown hts hKW hP hD hS hA hl.1 (c_X11_without00 l g _  ) wd_11_13 wd_1_2 nw_13 wd_11_12 yd_X11_without ⟨Nat.le_of_ble_eq_true rfl, Nat.le_of_ble_eq_true rfl⟩ rfl rfl rfl rfl rfl (by decide) rfl (Nat.le_of_ble_eq_true rfl) dX0_add_96 ⟨Nat.le_of_ble_eq_true rfl, Nat.le_of_ble_eq_true rfl⟩ (fun r_11 u_12 H locs hw_13 hP hD hS => ?_)
  have hP : va_P g.1 vwCl [(a 0, .inr (0, [.int 0, .ref (a 1), .ref (a 2), .ref (a 3), .ref (a 4), .ref (a 5), .ref (a 6), .ref (a 7), .int 0, .int 0, .int 0, .ref (a 8)])), (a 1, .inl (gI g, 10, .inl f_1)), (a 2, .inl (gI g, 10, .inl f_2)), (a 3, .inl (gI g, 10, .inl f_3)), (a 4, .inl (gI g, 10, .inl f_4)), (a 5, .inl (gI g, 10, .inl f_5)), (a 6, .inl (gI g, 10, .inl f_6)), (a 7, .inl (gI g, 10, .inl f_7)), (a 8, .inl (gI g, 10, .inl (fun _ => 0)))] H := hP
  have hD : va_D A [(a 0, .inr (0, [.int 0, .ref (a 1), .ref (a 2), .ref (a 3), .ref (a 4), .ref (a 5), .ref (a 6), .ref (a 7), .int 0, .int 0, .int 0, .ref (a 8)])), (a 1, .inl (gI g, 10, .inl f_1)), (a 2, .inl (gI g, 10, .inl f_2)), (a 3, .inl (gI g, 10, .inl f_3)), (a 4, .inl (gI g, 10, .inl f_4)), (a 5, .inl (gI g, 10, .inl f_5)), (a 6, .inl (gI g, 10, .inl f_6)), (a 7, .inl (gI g, 10, .inl f_7)), (a 8, .inl (gI g, 10, .inl (fun _ => 0)))] := hD
  have hw_13 : r_11 = 0 := hw_13
  subst hw_13
  refine va_put (ci := 0) (v := .int 0) (C := RX0) (T := TX0) (N := 12) hx hb hts inlX0 tyX0 tyX0_ok nmX0 hown hKW.1 hP hD hS 0 rfl rfl 9 (by decide) (hts _ wd_9_11) (fun _ h => h) rfl (tyX0_ok 9 (by decide)) rfl rfl (Nat.le_of_ble_eq_true rfl) dX0_add_99 (fun H locs hP hD hS => ?_)
  have hP : va_P g.1 vwCl [(a 0, .inr (0, [.int 0, .ref (a 1), .ref (a 2), .ref (a 3), .ref (a 4), .ref (a 5), .ref (a 6), .ref (a 7), .int 0, .int 0, .int 0, .ref (a 8)])), (a 1, .inl (gI g, 10, .inl f_1)), (a 2, .inl (gI g, 10, .inl f_2)), (a 3, .inl (gI g, 10, .inl f_3)), (a 4, .inl (gI g, 10, .inl f_4)), (a 5, .inl (gI g, 10, .inl f_5)), (a 6, .inl (gI g, 10, .inl f_6)), (a 7, .inl (gI g, 10, .inl f_7)), (a 8, .inl (gI g, 10, .inl (fun _ => 0)))] H := hP
  have hD : va_D A [(a 0, .inr (0, [.int 0, .ref (a 1), .ref (a 2), .ref (a 3), .ref (a 4), .ref (a 5), .ref (a 6), .ref (a 7), .int 0, .int 0, .int 0, .ref (a 8)])), (a 1, .inl (gI g, 10, .inl f_1)), (a 2, .inl (gI g, 10, .inl f_2)), (a 3, .inl (gI g, 10, .inl f_3)), (a 4, .inl (gI g, 10, .inl f_4)), (a 5, .inl (gI g, 10, .inl f_5)), (a 6, .inl (gI g, 10, .inl f_6)), (a 7, .inl (gI g, 10, .inl f_7)), (a 8, .inl (gI g, 10, .inl (fun _ => 0)))] := hD
  refine lv_aload_n hx hb dX0_add_102 rfl (lv_at hl 0 rfl) ?_
  refine lv_dup hx hb dX0_add_103 rfl ?_
  refine va_get (ci := 0) (C := RX0) (T := TX0) (N := 12) hx hb hts inlX0 hown hKW.1 hP 0 rfl rfl 0 (by decide) (hts _ wd_9_7) (fun _ h => h) rfl dX0_add_104 ?_
  refine lv_iconst (v := 1) hx hb dX0_add_107 (by decide) ?_
  refine lv_iadd hx hb dX0_add_108 ?_
  refine k_top (y := 1) (by decide) ?_
  refine va_put (ci := 0) (v := .int 1) (C := RX0) (T := TX0) (N := 12) hx hb hts inlX0 tyX0 tyX0_ok nmX0 hown hKW.1 hP hD hS 0 rfl rfl 0 (by decide) (hts _ wd_9_7) (fun _ h => h) rfl (tyX0_ok 0 (by decide)) rfl rfl (Nat.le_of_ble_eq_true rfl) dX0_add_109 (fun H locs hP hD hS => ?_)
  have hP : va_P g.1 vwCl [(a 0, .inr (0, [.int 1, .ref (a 1), .ref (a 2), .ref (a 3), .ref (a 4), .ref (a 5), .ref (a 6), .ref (a 7), .int 0, .int 0, .int 0, .ref (a 8)])), (a 1, .inl (gI g, 10, .inl f_1)), (a 2, .inl (gI g, 10, .inl f_2)), (a 3, .inl (gI g, 10, .inl f_3)), (a 4, .inl (gI g, 10, .inl f_4)), (a 5, .inl (gI g, 10, .inl f_5)), (a 6, .inl (gI g, 10, .inl f_6)), (a 7, .inl (gI g, 10, .inl f_7)), (a 8, .inl (gI g, 10, .inl (fun _ => 0)))] H := hP
  have hD : va_D A [(a 0, .inr (0, [.int 1, .ref (a 1), .ref (a 2), .ref (a 3), .ref (a 4), .ref (a 5), .ref (a 6), .ref (a 7), .int 0, .int 0, .int 0, .ref (a 8)])), (a 1, .inl (gI g, 10, .inl f_1)), (a 2, .inl (gI g, 10, .inl f_2)), (a 3, .inl (gI g, 10, .inl f_3)), (a 4, .inl (gI g, 10, .inl f_4)), (a 5, .inl (gI g, 10, .inl f_5)), (a 6, .inl (gI g, 10, .inl f_6)), (a 7, .inl (gI g, 10, .inl f_7)), (a 8, .inl (gI g, 10, .inl (fun _ => 0)))] := hD
  refine lv_aload_n hx hb dX0_add_112 rfl (lv_at hl 0 rfl) ?_
  refine va_get (ci := 0) (C := RX0) (T := TX0) (N := 12) hx hb hts inlX0 hown hKW.1 hP 0 rfl rfl 0 (by decide) (hts _ wd_9_7) (fun _ h => h) rfl dX0_add_113 ?_
  refine lv_iconst (v := 1) hx hb dX0_add_116 (by decide) ?_
  refine lv_isub hx hb dX0_add_117 ?_
  refine k_top (y := 0) (by decide) ?_
  exact k_iret () [] hx hb hr hlk hP hD hS rfl rfl rfl rfl (Nat.le_of_ble_eq_true rfl) (Nat.le_of_ble_eq_true rfl) dX0_add_118
theorem dX0_inRoom_0 : decode cX0_inRoom 0 = .ok (.iconst 0, 1) := by decide +kernel
theorem dX0_inRoom_1 : decode cX0_inRoom 1 = .ok (.istore_n 2, 1) := by decide +kernel
theorem dX0_inRoom_2 : decode cX0_inRoom 2 = .ok (.iconst 0, 1) := by decide +kernel
theorem dX0_inRoom_3 : decode cX0_inRoom 3 = .ok (.istore_n 3, 1) := by decide +kernel
theorem dX0_inRoom_4 : decode cX0_inRoom 4 = .ok (.iload_n 3, 1) := by decide +kernel
theorem dX0_inRoom_5 : decode cX0_inRoom 5 = .ok (.aload_n 0, 1) := by decide +kernel
theorem dX0_inRoom_6 : decode cX0_inRoom 6 = .ok (.getfield 36, 3) := by decide +kernel
theorem dX0_inRoom_9 : decode cX0_inRoom 9 = .ok (.if_icmp .ge 25, 3) := by decide +kernel
theorem dX0_inRoom_34 : decode cX0_inRoom 34 = .ok (.iload_n 2, 1) := by decide +kernel
theorem dX0_inRoom_35 : decode cX0_inRoom 35 = .ok (.ireturn, 1) := by decide +kernel
set_option maxHeartbeats 4000000 in
set_option maxRecDepth 100000 in
theorem c_X0_inRoom0 (l : Launch) (g : kG) (sz : Nat) (a : Nat → Nat) (x : Int32) : kMi l g yX0_inRoom cX0_inRoom 4 (some .int) 1 0 0 [.ref (a 0), .int x] sz [(a 0, .inr (0, [.int 0, .ref (a 1), .ref (a 2), .ref (a 3), .ref (a 4), .ref (a 5), .ref (a 6), .ref (a 7), .int 0, .int 0, .int 0, .ref (a 8)])), (a 1, .inl (gI g, 10, .inl (fun _ => 0))), (a 2, .inl (gI g, 10, .inl (fun _ => 0))), (a 3, .inl (gI g, 10, .inl (fun _ => 0))), (a 4, .inl (gI g, 10, .inl (fun _ => 0))), (a 5, .inl (gI g, 10, .inl (fun _ => 0))), (a 6, .inl (gI g, 10, .inl (fun _ => 0))), (a 7, .inl (gI g, 10, .inl (fun _ => 0))), (a 8, .inl (gI g, 10, .inl (fun _ => 0)))] (fun (r : Int32) (u : Unit) => r = 0) (fun (u : Unit) => ([(a 0, .inr (0, [.int 0, .ref (a 1), .ref (a 2), .ref (a 3), .ref (a 4), .ref (a 5), .ref (a 6), .ref (a 7), .int 0, .int 0, .int 0, .ref (a 8)])), (a 1, .inl (gI g, 10, .inl (fun _ => 0))), (a 2, .inl (gI g, 10, .inl (fun _ => 0))), (a 3, .inl (gI g, 10, .inl (fun _ => 0))), (a 4, .inl (gI g, 10, .inl (fun _ => 0))), (a 5, .inl (gI g, 10, .inl (fun _ => 0))), (a 6, .inl (gI g, 10, .inl (fun _ => 0))), (a 7, .inl (gI g, 10, .inl (fun _ => 0))), (a 8, .inl (gI g, 10, .inl (fun _ => 0)))] : va_W)) := by
  refine kMi.of (by decide) (Nat.le_of_ble_eq_true rfl) (fun p e s m below meth c A hx hb hr hml hown hts hlk hnm hKW hP hD hS hA ls hl => ?_)
  have hown : s.vm.findClass RX0 = some m.cls := hown
  have hl : lv_has ls 4 [(0, .ref (a 0)), (1, .int x)] := hl
  refine lv_iconst (v := 0) hx hb dX0_inRoom_0 (by decide) ?_
  refine lv_istore_n (lv' := [(2, .int 0), (0, .ref (a 0)), (1, .int x)]) hx hb dX0_inRoom_1 rfl hl (by decide) rfl (fun ls hl => ?_)
  refine lv_iconst (v := 0) hx hb dX0_inRoom_2 (by decide) ?_
  refine lv_istore_n (lv' := [(3, .int 0), (2, .int 0), (0, .ref (a 0)), (1, .int x)]) hx hb dX0_inRoom_3 rfl hl (by decide) rfl (fun ls hl => ?_)
  refine lv_iload_n hx hb dX0_inRoom_4 rfl (lv_at hl 0 rfl) ?_
  refine lv_aload_n hx hb dX0_inRoom_5 rfl (lv_at hl 2 rfl) ?_
  refine va_get (ci := 0) (C := RX0) (T := TX0) (N := 12) hx hb hts inlX0 hown hKW.1 hP 0 rfl rfl 0 (by decide) (hts _ wd_9_7) (fun _ h => h) rfl dX0_inRoom_6 ?_
  refine lv_icmp_ge (tgt := 34) hx hb dX0_inRoom_9 (by decide) (fun _ => ?_) (fun c => absurd c (by decide))
  refine lv_iload_n hx hb dX0_inRoom_34 rfl (lv_at hl 1 rfl) ?_
  exact k_iret () [0, 1, 2, 3, 4, 5, 6, 7, 8] hx hb hr hlk hP hD hS rfl rfl rfl rfl (Nat.le_of_ble_eq_true rfl) (Nat.le_of_ble_eq_true rfl) dX0_inRoom_35
theorem dJ6_bitCount_0f7a4_0 : decode cJ6_bitCount_0f7a4 0 = .ok (.iload_n 0, 1) := by decide +kernel
theorem dJ6_bitCount_0f7a4_1 : decode cJ6_bitCount_0f7a4 1 = .ok (.iload_n 0, 1) := by decide +kernel
theorem dJ6_bitCount_0f7a4_2 : decode cJ6_bitCount_0f7a4 2 = .ok (.iconst 1, 1) := by decide +kernel
theorem dJ6_bitCount_0f7a4_3 : decode cJ6_bitCount_0f7a4 3 = .ok (.iushr, 1) := by decide +kernel
theorem dJ6_bitCount_0f7a4_4 : decode cJ6_bitCount_0f7a4 4 = .ok (.ldc_w 265, 3) := by decide +kernel
theorem dJ6_bitCount_0f7a4_7 : decode cJ6_bitCount_0f7a4 7 = .ok (.iand, 1) := by decide +kernel
theorem dJ6_bitCount_0f7a4_8 : decode cJ6_bitCount_0f7a4 8 = .ok (.isub, 1) := by decide +kernel
theorem dJ6_bitCount_0f7a4_9 : decode cJ6_bitCount_0f7a4 9 = .ok (.istore_n 0, 1) := by decide +kernel
theorem dJ6_bitCount_0f7a4_10 : decode cJ6_bitCount_0f7a4 10 = .ok (.iload_n 0, 1) := by decide +kernel
theorem dJ6_bitCount_0f7a4_11 : decode cJ6_bitCount_0f7a4 11 = .ok (.ldc_w 266, 3) := by decide +kernel
theorem dJ6_bitCount_0f7a4_14 : decode cJ6_bitCount_0f7a4 14 = .ok (.iand, 1) := by decide +kernel
theorem dJ6_bitCount_0f7a4_15 : decode cJ6_bitCount_0f7a4 15 = .ok (.iload_n 0, 1) := by decide +kernel
theorem dJ6_bitCount_0f7a4_16 : decode cJ6_bitCount_0f7a4 16 = .ok (.iconst 2, 1) := by decide +kernel
theorem dJ6_bitCount_0f7a4_17 : decode cJ6_bitCount_0f7a4 17 = .ok (.iushr, 1) := by decide +kernel
theorem dJ6_bitCount_0f7a4_18 : decode cJ6_bitCount_0f7a4 18 = .ok (.ldc_w 266, 3) := by decide +kernel
theorem dJ6_bitCount_0f7a4_21 : decode cJ6_bitCount_0f7a4 21 = .ok (.iand, 1) := by decide +kernel
theorem dJ6_bitCount_0f7a4_22 : decode cJ6_bitCount_0f7a4 22 = .ok (.iadd, 1) := by decide +kernel
theorem dJ6_bitCount_0f7a4_23 : decode cJ6_bitCount_0f7a4 23 = .ok (.istore_n 0, 1) := by decide +kernel
theorem dJ6_bitCount_0f7a4_24 : decode cJ6_bitCount_0f7a4 24 = .ok (.iload_n 0, 1) := by decide +kernel
theorem dJ6_bitCount_0f7a4_25 : decode cJ6_bitCount_0f7a4 25 = .ok (.iload_n 0, 1) := by decide +kernel
theorem dJ6_bitCount_0f7a4_26 : decode cJ6_bitCount_0f7a4 26 = .ok (.iconst 4, 1) := by decide +kernel
theorem dJ6_bitCount_0f7a4_27 : decode cJ6_bitCount_0f7a4 27 = .ok (.iushr, 1) := by decide +kernel
theorem dJ6_bitCount_0f7a4_28 : decode cJ6_bitCount_0f7a4 28 = .ok (.iadd, 1) := by decide +kernel
theorem dJ6_bitCount_0f7a4_29 : decode cJ6_bitCount_0f7a4 29 = .ok (.ldc_w 267, 3) := by decide +kernel
theorem dJ6_bitCount_0f7a4_32 : decode cJ6_bitCount_0f7a4 32 = .ok (.iand, 1) := by decide +kernel
theorem dJ6_bitCount_0f7a4_33 : decode cJ6_bitCount_0f7a4 33 = .ok (.istore_n 0, 1) := by decide +kernel
theorem dJ6_bitCount_0f7a4_34 : decode cJ6_bitCount_0f7a4 34 = .ok (.iload_n 0, 1) := by decide +kernel
theorem dJ6_bitCount_0f7a4_35 : decode cJ6_bitCount_0f7a4 35 = .ok (.iload_n 0, 1) := by decide +kernel
theorem dJ6_bitCount_0f7a4_36 : decode cJ6_bitCount_0f7a4 36 = .ok (.bipush 8, 2) := by decide +kernel
theorem dJ6_bitCount_0f7a4_38 : decode cJ6_bitCount_0f7a4 38 = .ok (.iushr, 1) := by decide +kernel
theorem dJ6_bitCount_0f7a4_39 : decode cJ6_bitCount_0f7a4 39 = .ok (.iadd, 1) := by decide +kernel
theorem dJ6_bitCount_0f7a4_40 : decode cJ6_bitCount_0f7a4 40 = .ok (.istore_n 0, 1) := by decide +kernel
theorem dJ6_bitCount_0f7a4_41 : decode cJ6_bitCount_0f7a4 41 = .ok (.iload_n 0, 1) := by decide +kernel
theorem dJ6_bitCount_0f7a4_42 : decode cJ6_bitCount_0f7a4 42 = .ok (.iload_n 0, 1) := by decide +kernel
theorem dJ6_bitCount_0f7a4_43 : decode cJ6_bitCount_0f7a4 43 = .ok (.bipush 16, 2) := by decide +kernel
theorem dJ6_bitCount_0f7a4_45 : decode cJ6_bitCount_0f7a4 45 = .ok (.iushr, 1) := by decide +kernel
theorem dJ6_bitCount_0f7a4_46 : decode cJ6_bitCount_0f7a4 46 = .ok (.iadd, 1) := by decide +kernel
theorem dJ6_bitCount_0f7a4_47 : decode cJ6_bitCount_0f7a4 47 = .ok (.istore_n 0, 1) := by decide +kernel
theorem dJ6_bitCount_0f7a4_48 : decode cJ6_bitCount_0f7a4 48 = .ok (.iload_n 0, 1) := by decide +kernel
theorem dJ6_bitCount_0f7a4_49 : decode cJ6_bitCount_0f7a4 49 = .ok (.bipush 63, 2) := by decide +kernel
theorem dJ6_bitCount_0f7a4_51 : decode cJ6_bitCount_0f7a4 51 = .ok (.iand, 1) := by decide +kernel
theorem dJ6_bitCount_0f7a4_52 : decode cJ6_bitCount_0f7a4 52 = .ok (.ireturn, 1) := by decide +kernel
set_option maxHeartbeats 4000000 in
set_option maxRecDepth 100000 in
theorem c_J6_bitCount0 (l : Launch) (g : kG) (sz : Nat) : kMi l g yJ6_bitCount_0f7a4 cJ6_bitCount_0f7a4 1 (some .int) 1 0 0 [.int 0] sz [] (fun (r : Int32) (u : Unit) => r = 0) (fun (u : Unit) => ([] : va_W)) := by
  refine kMi.of (by decide) (Nat.le_of_ble_eq_true rfl) (fun p e s m below meth c A hx hb hr hml hown hts hlk hnm hKW hP hD hS hA ls hl => ?_)
  have hown : s.vm.findClass RJ6 = some m.cls := hown
  have hl : lv_has ls 1 [(0, .int 0)] := hl
  refine lv_iload_n hx hb dJ6_bitCount_0f7a4_0 rfl (lv_at hl 0 rfl) ?_
  refine lv_iload_n hx hb dJ6_bitCount_0f7a4_1 rfl (lv_at hl 0 rfl) ?_
  refine lv_iconst (v := 1) hx hb dJ6_bitCount_0f7a4_2 (by decide) ?_
  refine lv_iushr (v := 0) hx hb dJ6_bitCount_0f7a4_3 (by decide) ?_
  refine lv_ldcw (v := 1431655765) hx hb hown (hts _ wd_17_15) dJ6_bitCount_0f7a4_4 ?_
  refine lv_iand hx hb dJ6_bitCount_0f7a4_7 ?_
  refine k_top (y := 0) (by decide) ?_
  refine lv_isub hx hb dJ6_bitCount_0f7a4_8 ?_
  refine k_top (y := 0) (by decide) ?_
  refine lv_istore_n (lv' := [(0, .int 0)]) hx hb dJ6_bitCount_0f7a4_9 rfl hl (by decide) rfl (fun ls hl => ?_)
  refine lv_iload_n hx hb dJ6_bitCount_0f7a4_10 rfl (lv_at hl 0 rfl) ?_
  refine lv_ldcw (v := 858993459) hx hb hown (hts _ wd_17_16) dJ6_bitCount_0f7a4_11 ?_
  refine lv_iand hx hb dJ6_bitCount_0f7a4_14 ?_
  refine k_top (y := 0) (by decide) ?_
  refine lv_iload_n hx hb dJ6_bitCount_0f7a4_15 rfl (lv_at hl 0 rfl) ?_
  refine lv_iconst (v := 2) hx hb dJ6_bitCount_0f7a4_16 (by decide) ?_
  refine lv_iushr (v := 0) hx hb dJ6_bitCount_0f7a4_17 (by decide) ?_
  refine lv_ldcw (v := 858993459) hx hb hown (hts _ wd_17_16) dJ6_bitCount_0f7a4_18 ?_
  refine lv_iand hx hb dJ6_bitCount_0f7a4_21 ?_
  refine k_top (y := 0) (by decide) ?_
  refine lv_iadd hx hb dJ6_bitCount_0f7a4_22 ?_
  refine k_top (y := 0) (by decide) ?_
  refine lv_istore_n (lv' := [(0, .int 0)]) hx hb dJ6_bitCount_0f7a4_23 rfl hl (by decide) rfl (fun ls hl => ?_)
  refine lv_iload_n hx hb dJ6_bitCount_0f7a4_24 rfl (lv_at hl 0 rfl) ?_
  refine lv_iload_n hx hb dJ6_bitCount_0f7a4_25 rfl (lv_at hl 0 rfl) ?_
  refine lv_iconst (v := 4) hx hb dJ6_bitCount_0f7a4_26 (by decide) ?_
  refine lv_iushr (v := 0) hx hb dJ6_bitCount_0f7a4_27 (by decide) ?_
  refine lv_iadd hx hb dJ6_bitCount_0f7a4_28 ?_
  refine k_top (y := 0) (by decide) ?_
  refine lv_ldcw (v := 252645135) hx hb hown (hts _ wd_17_17) dJ6_bitCount_0f7a4_29 ?_
  refine lv_iand hx hb dJ6_bitCount_0f7a4_32 ?_
  refine k_top (y := 0) (by decide) ?_
  refine lv_istore_n (lv' := [(0, .int 0)]) hx hb dJ6_bitCount_0f7a4_33 rfl hl (by decide) rfl (fun ls hl => ?_)
  refine lv_iload_n hx hb dJ6_bitCount_0f7a4_34 rfl (lv_at hl 0 rfl) ?_
  refine lv_iload_n hx hb dJ6_bitCount_0f7a4_35 rfl (lv_at hl 0 rfl) ?_
  refine lv_bipush (v := 8) hx hb dJ6_bitCount_0f7a4_36 (by decide) ?_
  refine lv_iushr (v := 0) hx hb dJ6_bitCount_0f7a4_38 (by decide) ?_
  refine lv_iadd hx hb dJ6_bitCount_0f7a4_39 ?_
  refine k_top (y := 0) (by decide) ?_
  refine lv_istore_n (lv' := [(0, .int 0)]) hx hb dJ6_bitCount_0f7a4_40 rfl hl (by decide) rfl (fun ls hl => ?_)
  refine lv_iload_n hx hb dJ6_bitCount_0f7a4_41 rfl (lv_at hl 0 rfl) ?_
  refine lv_iload_n hx hb dJ6_bitCount_0f7a4_42 rfl (lv_at hl 0 rfl) ?_
  refine lv_bipush (v := 16) hx hb dJ6_bitCount_0f7a4_43 (by decide) ?_
  refine lv_iushr (v := 0) hx hb dJ6_bitCount_0f7a4_45 (by decide) ?_
  refine lv_iadd hx hb dJ6_bitCount_0f7a4_46 ?_
  refine k_top (y := 0) (by decide) ?_
  refine lv_istore_n (lv' := [(0, .int 0)]) hx hb dJ6_bitCount_0f7a4_47 rfl hl (by decide) rfl (fun ls hl => ?_)
  refine lv_iload_n hx hb dJ6_bitCount_0f7a4_48 rfl (lv_at hl 0 rfl) ?_
  refine lv_bipush (v := 63) hx hb dJ6_bitCount_0f7a4_49 (by decide) ?_
  refine lv_iand hx hb dJ6_bitCount_0f7a4_51 ?_
  refine k_top (y := 0) (by decide) ?_
  exact k_iret () [] hx hb hr hlk hP hD hS rfl rfl rfl rfl (Nat.le_of_ble_eq_true rfl) (Nat.le_of_ble_eq_true rfl) dJ6_bitCount_0f7a4_52
theorem dX0_countIn_0 : decode cX0_countIn 0 = .ok (.aload_n 0, 1) := by decide +kernel
theorem dX0_countIn_1 : decode cX0_countIn 1 = .ok (.getfield 36, 3) := by decide +kernel
theorem dX0_countIn_4 : decode cX0_countIn 4 = .ok (.aload_n 0, 1) := by decide +kernel
theorem dX0_countIn_5 : decode cX0_countIn 5 = .ok (.iconst (-1), 1) := by decide +kernel
theorem dX0_countIn_6 : decode cX0_countIn 6 = .ok (.invokevirtual 53, 3) := by decide +kernel
theorem dX0_countIn_9 : decode cX0_countIn 9 = .ok (.invokestatic 57, 3) := by decide +kernel
theorem dX0_countIn_12 : decode cX0_countIn 12 = .ok (.isub, 1) := by decide +kernel
theorem dX0_countIn_13 : decode cX0_countIn 13 = .ok (.ireturn, 1) := by decide +kernel
set_option maxHeartbeats 4000000 in
set_option maxRecDepth 100000 in
theorem c_X0_countIn0 (l : Launch) (g : kG) (sz : Nat) (a : Nat → Nat) : kMi l g yX0_countIn cX0_countIn 1 (some .int) 2 0 0 [.ref (a 0)] sz [(a 0, .inr (0, [.int 0, .ref (a 1), .ref (a 2), .ref (a 3), .ref (a 4), .ref (a 5), .ref (a 6), .ref (a 7), .int 0, .int 0, .int 0, .ref (a 8)])), (a 1, .inl (gI g, 10, .inl (fun _ => 0))), (a 2, .inl (gI g, 10, .inl (fun _ => 0))), (a 3, .inl (gI g, 10, .inl (fun _ => 0))), (a 4, .inl (gI g, 10, .inl (fun _ => 0))), (a 5, .inl (gI g, 10, .inl (fun _ => 0))), (a 6, .inl (gI g, 10, .inl (fun _ => 0))), (a 7, .inl (gI g, 10, .inl (fun _ => 0))), (a 8, .inl (gI g, 10, .inl (fun _ => 0)))] (fun (r : Int32) (u : Unit) => r = 0) (fun (u : Unit) => ([(a 0, .inr (0, [.int 0, .ref (a 1), .ref (a 2), .ref (a 3), .ref (a 4), .ref (a 5), .ref (a 6), .ref (a 7), .int 0, .int 0, .int 0, .ref (a 8)])), (a 1, .inl (gI g, 10, .inl (fun _ => 0))), (a 2, .inl (gI g, 10, .inl (fun _ => 0))), (a 3, .inl (gI g, 10, .inl (fun _ => 0))), (a 4, .inl (gI g, 10, .inl (fun _ => 0))), (a 5, .inl (gI g, 10, .inl (fun _ => 0))), (a 6, .inl (gI g, 10, .inl (fun _ => 0))), (a 7, .inl (gI g, 10, .inl (fun _ => 0))), (a 8, .inl (gI g, 10, .inl (fun _ => 0)))] : va_W)) := by
  refine kMi.of (by decide) (Nat.le_of_ble_eq_true rfl) (fun p e s m below meth c A hx hb hr hml hown hts hlk hnm hKW hP hD hS hA ls hl => ?_)
  have hown : s.vm.findClass RX0 = some m.cls := hown
  have hl : lv_has ls 1 [(0, .ref (a 0))] := hl
  refine lv_aload_n hx hb dX0_countIn_0 rfl (lv_at hl 0 rfl) ?_
  refine va_get (ci := 0) (C := RX0) (T := TX0) (N := 12) hx hb hts inlX0 hown hKW.1 hP 0 rfl rfl 0 (by decide) (hts _ wd_9_7) (fun _ h => h) rfl dX0_countIn_1 ?_
  refine lv_aload_n hx hb dX0_countIn_4 rfl (lv_at hl 0 rfl) ?_
  refine lv_iconst (v := (-1)) hx hb dX0_countIn_5 (by decide) ?_
  refine k_Vi [0, 1, 2, 3, 4, 5, 6, 7, 8] [] 0 0 (wr := []) hx hb hml hown hts hKW hP hD hS hA hl.1 (c_X0_inRoom0 l g _ a (-1) ) rfl rfl rfl wd_17_8 wd_3_1 wd_17_5 wd_17_6 wd_17_7 yd_X0_inRoom ⟨Nat.le_of_ble_eq_true rfl, Nat.le_of_ble_eq_true rfl⟩ rfl rfl rfl rfl rfl (by decide) rfl (Nat.le_of_ble_eq_true rfl) dX0_countIn_6 ⟨Nat.le_of_ble_eq_true rfl, Nat.le_of_ble_eq_true rfl⟩ (fun r_1 u_2 H locs hw_3 hP hD hS => ?_)
  have hP : va_P g.1 vwCl [(a 0, .inr (0, [.int 0, .ref (a 1), .ref (a 2), .ref (a 3), .ref (a 4), .ref (a 5), .ref (a 6), .ref (a 7), .int 0, .int 0, .int 0, .ref (a 8)])), (a 1, .inl (gI g, 10, .inl (fun _ => 0))), (a 2, .inl (gI g, 10, .inl (fun _ => 0))), (a 3, .inl (gI g, 10, .inl (fun _ => 0))), (a 4, .inl (gI g, 10, .inl (fun _ => 0))), (a 5, .inl (gI g, 10, .inl (fun _ => 0))), (a 6, .inl (gI g, 10, .inl (fun _ => 0))), (a 7, .inl (gI g, 10, .inl (fun _ => 0))), (a 8, .inl (gI g, 10, .inl (fun _ => 0)))] H := hP
  have hD : va_D A [(a 0, .inr (0, [.int 0, .ref (a 1), .ref (a 2), .ref (a 3), .ref (a 4), .ref (a 5), .ref (a 6), .ref (a 7), .int 0, .int 0, .int 0, .ref (a 8)])), (a 1, .inl (gI g, 10, .inl (fun _ => 0))), (a 2, .inl (gI g, 10, .inl (fun _ => 0))), (a 3, .inl (gI g, 10, .inl (fun _ => 0))), (a 4, .inl (gI g, 10, .inl (fun _ => 0))), (a 5, .inl (gI g, 10, .inl (fun _ => 0))), (a 6, .inl (gI g, 10, .inl (fun _ => 0))), (a 7, .inl (gI g, 10, .inl (fun _ => 0))), (a 8, .inl (gI g, 10, .inl (fun _ => 0)))] := hD
  have hw_3 : r_1 = 0 := hw_3
  subst hw_3
  refine k_Si [] [0, 1, 2, 3, 4, 5, 6, 7, 8] (wr := [(a 0, .inr (0, [.int 0, .ref (a 1), .ref (a 2), .ref (a 3), .ref (a 4), .ref (a 5), .ref (a 6), .ref (a 7), .int 0, .int 0, .int 0, .ref (a 8)])), (a 1, .inl (gI g, 10, .inl (fun _ => 0))), (a 2, .inl (gI g, 10, .inl (fun _ => 0))), (a 3, .inl (gI g, 10, .inl (fun _ => 0))), (a 4, .inl (gI g, 10, .inl (fun _ => 0))), (a 5, .inl (gI g, 10, .inl (fun _ => 0))), (a 6, .inl (gI g, 10, .inl (fun _ => 0))), (a 7, .inl (gI g, 10, .inl (fun _ => 0))), (a 8, .inl (gI g, 10, .inl (fun _ => 0)))]) hx hb hml hown hts hKW hP hD hS hA hl.1 (c_J6_bitCount0 l g _  ) wd_17_14 wd_17_13 wd_17_11 wd_17_12 yd_J6_bitCount_0f7a4 ⟨Nat.le_of_ble_eq_true rfl, Nat.le_of_ble_eq_true rfl⟩ rfl rfl rfl rfl rfl (by decide) rfl (Nat.le_of_ble_eq_true rfl) dX0_countIn_9 ⟨Nat.le_of_ble_eq_true rfl, Nat.le_of_ble_eq_true rfl⟩ (fun r_4 u_5 H locs hw_6 hP hD hS => ?_)
  have hP : va_P g.1 vwCl [(a 0, .inr (0, [.int 0, .ref (a 1), .ref (a 2), .ref (a 3), .ref (a 4), .ref (a 5), .ref (a 6), .ref (a 7), .int 0, .int 0, .int 0, .ref (a 8)])), (a 1, .inl (gI g, 10, .inl (fun _ => 0))), (a 2, .inl (gI g, 10, .inl (fun _ => 0))), (a 3, .inl (gI g, 10, .inl (fun _ => 0))), (a 4, .inl (gI g, 10, .inl (fun _ => 0))), (a 5, .inl (gI g, 10, .inl (fun _ => 0))), (a 6, .inl (gI g, 10, .inl (fun _ => 0))), (a 7, .inl (gI g, 10, .inl (fun _ => 0))), (a 8, .inl (gI g, 10, .inl (fun _ => 0)))] H := hP
  have hD : va_D A [(a 0, .inr (0, [.int 0, .ref (a 1), .ref (a 2), .ref (a 3), .ref (a 4), .ref (a 5), .ref (a 6), .ref (a 7), .int 0, .int 0, .int 0, .ref (a 8)])), (a 1, .inl (gI g, 10, .inl (fun _ => 0))), (a 2, .inl (gI g, 10, .inl (fun _ => 0))), (a 3, .inl (gI g, 10, .inl (fun _ => 0))), (a 4, .inl (gI g, 10, .inl (fun _ => 0))), (a 5, .inl (gI g, 10, .inl (fun _ => 0))), (a 6, .inl (gI g, 10, .inl (fun _ => 0))), (a 7, .inl (gI g, 10, .inl (fun _ => 0))), (a 8, .inl (gI g, 10, .inl (fun _ => 0)))] := hD
  have hw_6 : r_4 = 0 := hw_6
  subst hw_6
  refine lv_isub hx hb dX0_countIn_12 ?_
  refine k_top (y := 0) (by decide) ?_
  exact k_iret () [0, 1, 2, 3, 4, 5, 6, 7, 8] hx hb hr hlk hP hD hS rfl rfl rfl rfl (Nat.le_of_ble_eq_true rfl) (Nat.le_of_ble_eq_true rfl) dX0_countIn_13
theorem dX0_allOut_0 : decode cX0_allOut 0 = .ok (.iconst 0, 1) := by decide +kernel
theorem dX0_allOut_1 : decode cX0_allOut 1 = .ok (.istore_n 1, 1) := by decide +kernel
theorem dX0_allOut_2 : decode cX0_allOut 2 = .ok (.iload_n 1, 1) := by decide +kernel
theorem dX0_allOut_3 : decode cX0_allOut 3 = .ok (.aload_n 0, 1) := by decide +kernel
theorem dX0_allOut_4 : decode cX0_allOut 4 = .ok (.getfield 36, 3) := by decide +kernel
theorem dX0_allOut_7 : decode cX0_allOut 7 = .ok (.if_icmp .ge 16, 3) := by decide +kernel
theorem dX0_allOut_23 : decode cX0_allOut 23 = .ok (.aload_n 0, 1) := by decide +kernel
theorem dX0_allOut_24 : decode cX0_allOut 24 = .ok (.iconst 0, 1) := by decide +kernel
theorem dX0_allOut_25 : decode cX0_allOut 25 = .ok (.putfield 40, 3) := by decide +kernel
theorem dX0_allOut_28 : decode cX0_allOut 28 = .ok (.return_, 1) := by decide +kernel
set_option maxHeartbeats 4000000 in
set_option maxRecDepth 100000 in
theorem c_X0_allOut0 (l : Launch) (g : kG) (sz : Nat) (a : Nat → Nat) : kMv l g yX0_allOut cX0_allOut 2 none 1 0 0 [.ref (a 0)] sz [(a 0, .inr (0, [.int 0, .ref (a 1), .ref (a 2), .ref (a 3), .ref (a 4), .ref (a 5), .ref (a 6), .ref (a 7), .int 0, .int 0, .int 0, .ref (a 8)])), (a 1, .inl (gI g, 10, .inl (fun _ => 0))), (a 2, .inl (gI g, 10, .inl (fun _ => 0))), (a 3, .inl (gI g, 10, .inl (fun _ => 0))), (a 4, .inl (gI g, 10, .inl (fun _ => 0))), (a 5, .inl (gI g, 10, .inl (fun _ => 0))), (a 6, .inl (gI g, 10, .inl (fun _ => 0))), (a 7, .inl (gI g, 10, .inl (fun _ => 0))), (a 8, .inl (gI g, 10, .inl (fun _ => 0)))] (fun (u : Unit) => True) (fun (u : Unit) => ([] : va_W)) := by
  refine kMv.of (by decide) (Nat.le_of_ble_eq_true rfl) (fun p e s m below meth c A hx hb hr hml hown hts hlk hnm hKW hP hD hS hA ls hl => ?_)
  have hown : s.vm.findClass RX0 = some m.cls := hown
  have hl : lv_has ls 2 [(0, .ref (a 0))] := hl
  refine lv_iconst (v := 0) hx hb dX0_allOut_0 (by decide) ?_
  refine lv_istore_n (lv' := [(1, .int 0), (0, .ref (a 0))]) hx hb dX0_allOut_1 rfl hl (by decide) rfl (fun ls hl => ?_)
  refine lv_iload_n hx hb dX0_allOut_2 rfl (lv_at hl 0 rfl) ?_
  refine lv_aload_n hx hb dX0_allOut_3 rfl (lv_at hl 1 rfl) ?_
  refine va_get (ci := 0) (C := RX0) (T := TX0) (N := 12) hx hb hts inlX0 hown hKW.1 hP 0 rfl rfl 0 (by decide) (hts _ wd_9_7) (fun _ h => h) rfl dX0_allOut_4 ?_
  refine lv_icmp_ge (tgt := 23) hx hb dX0_allOut_7 (by decide) (fun _ => ?_) (fun c => absurd c (by decide))
  refine lv_aload_n hx hb dX0_allOut_23 rfl (lv_at hl 1 rfl) ?_
  refine lv_iconst (v := 0) hx hb dX0_allOut_24 (by decide) ?_
  refine va_put (ci := 0) (v := .int 0) (C := RX0) (T := TX0) (N := 12) hx hb hts inlX0 tyX0 tyX0_ok nmX0 hown hKW.1 hP hD hS 0 rfl rfl 8 (by decide) (hts _ wd_9_10) (fun _ h => h) rfl (tyX0_ok 8 (by decide)) rfl rfl (Nat.le_of_ble_eq_true rfl) dX0_allOut_25 (fun H locs hP hD hS => ?_)
  have hP : va_P g.1 vwCl [(a 0, .inr (0, [.int 0, .ref (a 1), .ref (a 2), .ref (a 3), .ref (a 4), .ref (a 5), .ref (a 6), .ref (a 7), .int 0, .int 0, .int 0, .ref (a 8)])), (a 1, .inl (gI g, 10, .inl (fun _ => 0))), (a 2, .inl (gI g, 10, .inl (fun _ => 0))), (a 3, .inl (gI g, 10, .inl (fun _ => 0))), (a 4, .inl (gI g, 10, .inl (fun _ => 0))), (a 5, .inl (gI g, 10, .inl (fun _ => 0))), (a 6, .inl (gI g, 10, .inl (fun _ => 0))), (a 7, .inl (gI g, 10, .inl (fun _ => 0))), (a 8, .inl (gI g, 10, .inl (fun _ => 0)))] H := hP
  have hD : va_D A [(a 0, .inr (0, [.int 0, .ref (a 1), .ref (a 2), .ref (a 3), .ref (a 4), .ref (a 5), .ref (a 6), .ref (a 7), .int 0, .int 0, .int 0, .ref (a 8)])), (a 1, .inl (gI g, 10, .inl (fun _ => 0))), (a 2, .inl (gI g, 10, .inl (fun _ => 0))), (a 3, .inl (gI g, 10, .inl (fun _ => 0))), (a 4, .inl (gI g, 10, .inl (fun _ => 0))), (a 5, .inl (gI g, 10, .inl (fun _ => 0))), (a 6, .inl (gI g, 10, .inl (fun _ => 0))), (a 7, .inl (gI g, 10, .inl (fun _ => 0))), (a 8, .inl (gI g, 10, .inl (fun _ => 0)))] := hD
  exact k_vret () [] hx hb hr hlk hP hD hS trivial rfl rfl rfl (Nat.le_of_ble_eq_true rfl) (Nat.le_of_ble_eq_true rfl) dX0_allOut_28
theorem dX4_beginDay_0 : decode cX4_beginDay 0 = .ok (.aload_n 0, 1) := by decide +kernel
theorem dX4_beginDay_1 : decode cX4_beginDay 1 = .ok (.iconst 0, 1) := by decide +kernel
theorem dX4_beginDay_2 : decode cX4_beginDay 2 = .ok (.putfield 93, 3) := by decide +kernel
theorem dX4_beginDay_5 : decode cX4_beginDay 5 = .ok (.aload_n 0, 1) := by decide +kernel
theorem dX4_beginDay_6 : decode cX4_beginDay 6 = .ok (.getfield 28, 3) := by decide +kernel
theorem dX4_beginDay_9 : decode cX4_beginDay 9 = .ok (.invokevirtual 110, 3) := by decide +kernel
theorem dX4_beginDay_12 : decode cX4_beginDay 12 = .ok (.aload_n 0, 1) := by decide +kernel
theorem dX4_beginDay_13 : decode cX4_beginDay 13 = .ok (.getfield 21, 3) := by decide +kernel
theorem dX4_beginDay_16 : decode cX4_beginDay 16 = .ok (.iconst 0, 1) := by decide +kernel
theorem dX4_beginDay_17 : decode cX4_beginDay 17 = .ok (.putfield 113, 3) := by decide +kernel
theorem dX4_beginDay_20 : decode cX4_beginDay 20 = .ok (.aload_n 0, 1) := by decide +kernel
theorem dX4_beginDay_21 : decode cX4_beginDay 21 = .ok (.getfield 35, 3) := by decide +kernel
theorem dX4_beginDay_24 : decode cX4_beginDay 24 = .ok (.iconst 0, 1) := by decide +kernel
theorem dX4_beginDay_25 : decode cX4_beginDay 25 = .ok (.putfield 116, 3) := by decide +kernel
theorem dX4_beginDay_28 : decode cX4_beginDay 28 = .ok (.aload_n 0, 1) := by decide +kernel
theorem dX4_beginDay_29 : decode cX4_beginDay 29 = .ok (.getfield 39, 3) := by decide +kernel
theorem dX4_beginDay_32 : decode cX4_beginDay 32 = .ok (.iconst 0, 1) := by decide +kernel
theorem dX4_beginDay_33 : decode cX4_beginDay 33 = .ok (.putfield 116, 3) := by decide +kernel
theorem dX4_beginDay_36 : decode cX4_beginDay 36 = .ok (.return_, 1) := by decide +kernel
set_option maxHeartbeats 4000000 in
set_option maxRecDepth 100000 in
theorem c_X4_beginDay (l : Launch) (g : kG) (sz : Nat) (a : Nat → Nat) : kMv l g yX4_beginDay cX4_beginDay 1 none 2 0 0 [.ref (a 0)] sz [(a 0, .inr (4, [.ref (a 1), .ref (a 5), .ref (a 8), .ref (a 17), .ref (a 21), .ref (a 25), .ref (a 27), .int 0, .int 0, .int 36, .int 10])), (a 1, .inr (8, [.int 0, .ref (a 2), .ref (a 3), .ref (a 4)])), (a 2, .inl (gI g, 5, .inl (fun _ => 0))), (a 3, .inl (gI g, 5, .inl (fun _ => 0))), (a 4, .inl (gI g, 5, .inl (fun _ => 0))), (a 5, .inr (1, [.int 0, .ref (a 6), .ref (a 7), .int 0])), (a 6, .inl (gI g, 7, .inl (fun _ => 0))), (a 7, .inl (gI g, 7, .inl (fun _ => 0))), (a 8, .inr (0, [.int 0, .ref (a 9), .ref (a 10), .ref (a 11), .ref (a 12), .ref (a 13), .ref (a 14), .ref (a 15), .int 0, .int 0, .int 0, .ref (a 16)])), (a 9, .inl (gI g, 10, .inl (fun _ => 0))), (a 10, .inl (gI g, 10, .inl (fun _ => 0))), (a 11, .inl (gI g, 10, .inl (fun _ => 0))), (a 12, .inl (gI g, 10, .inl (fun _ => 0))), (a 13, .inl (gI g, 10, .inl (fun _ => 0))), (a 14, .inl (gI g, 10, .inl (fun _ => 0))), (a 15, .inl (gI g, 10, .inl (fun _ => 0))), (a 16, .inl (gI g, 10, .inl (fun _ => 0))), (a 17, .inr (3, [.int 0, .ref (a 18), .ref (a 19), .ref (a 20)])), (a 18, .inl (gI g, 40, .inl (fun _ => 0))), (a 19, .inl (gI g, 40, .inl (fun _ => 0))), (a 20, .inl (gI g, 40, .inl (fun _ => 0))), (a 21, .inr (3, [.int 0, .ref (a 22), .ref (a 23), .ref (a 24)])), (a 22, .inl (gI g, 40, .inl (fun _ => 0))), (a 23, .inl (gI g, 40, .inl (fun _ => 0))), (a 24, .inl (gI g, 40, .inl (fun _ => 0))), (a 25, .inr (6, [.int 0, .int 0, .ref (a 26)])), (a 26, .inl (gI g, 14, .inl (fun _ => 0))), (a 27, .inl (gI g, 60, .inl (fun _ => 0)))] (fun (u : Unit) => True) (fun (u : Unit) => ([] : va_W)) := by
  refine kMv.of (by decide) (Nat.le_of_ble_eq_true rfl) (fun p e s m below meth c A hx hb hr hml hown hts hlk hnm hKW hP hD hS hA ls hl => ?_)
  have hown : s.vm.findClass RX4 = some m.cls := hown
  have hl : lv_has ls 1 [(0, .ref (a 0))] := hl
  refine lv_aload_n hx hb dX4_beginDay_0 rfl (lv_at hl 0 rfl) ?_
  refine lv_iconst (v := 0) hx hb dX4_beginDay_1 (by decide) ?_
  refine va_put (ci := 4) (v := .int 0) (C := RX4) (T := TX4) (N := 11) hx hb hts inlX4 tyX4 tyX4_ok nmX4 hown hKW.1 hP hD hS 0 rfl rfl 8 (by decide) (hts _ wd_8_13) (fun _ h => h) rfl (tyX4_ok 8 (by decide)) rfl rfl (Nat.le_of_ble_eq_true rfl) dX4_beginDay_2 (fun H locs hP hD hS => ?_)
  have hP : va_P g.1 vwCl [(a 0, .inr (4, [.ref (a 1), .ref (a 5), .ref (a 8), .ref (a 17), .ref (a 21), .ref (a 25), .ref (a 27), .int 0, .int 0, .int 36, .int 10])), (a 1, .inr (8, [.int 0, .ref (a 2), .ref (a 3), .ref (a 4)])), (a 2, .inl (gI g, 5, .inl (fun _ => 0))), (a 3, .inl (gI g, 5, .inl (fun _ => 0))), (a 4, .inl (gI g, 5, .inl (fun _ => 0))), (a 5, .inr (1, [.int 0, .ref (a 6), .ref (a 7), .int 0])), (a 6, .inl (gI g, 7, .inl (fun _ => 0))), (a 7, .inl (gI g, 7, .inl (fun _ => 0))), (a 8, .inr (0, [.int 0, .ref (a 9), .ref (a 10), .ref (a 11), .ref (a 12), .ref (a 13), .ref (a 14), .ref (a 15), .int 0, .int 0, .int 0, .ref (a 16)])), (a 9, .inl (gI g, 10, .inl (fun _ => 0))), (a 10, .inl (gI g, 10, .inl (fun _ => 0))), (a 11, .inl (gI g, 10, .inl (fun _ => 0))), (a 12, .inl (gI g, 10, .inl (fun _ => 0))), (a 13, .inl (gI g, 10, .inl (fun _ => 0))), (a 14, .inl (gI g, 10, .inl (fun _ => 0))), (a 15, .inl (gI g, 10, .inl (fun _ => 0))), (a 16, .inl (gI g, 10, .inl (fun _ => 0))), (a 17, .inr (3, [.int 0, .ref (a 18), .ref (a 19), .ref (a 20)])), (a 18, .inl (gI g, 40, .inl (fun _ => 0))), (a 19, .inl (gI g, 40, .inl (fun _ => 0))), (a 20, .inl (gI g, 40, .inl (fun _ => 0))), (a 21, .inr (3, [.int 0, .ref (a 22), .ref (a 23), .ref (a 24)])), (a 22, .inl (gI g, 40, .inl (fun _ => 0))), (a 23, .inl (gI g, 40, .inl (fun _ => 0))), (a 24, .inl (gI g, 40, .inl (fun _ => 0))), (a 25, .inr (6, [.int 0, .int 0, .ref (a 26)])), (a 26, .inl (gI g, 14, .inl (fun _ => 0))), (a 27, .inl (gI g, 60, .inl (fun _ => 0)))] H := hP
  have hD : va_D A [(a 0, .inr (4, [.ref (a 1), .ref (a 5), .ref (a 8), .ref (a 17), .ref (a 21), .ref (a 25), .ref (a 27), .int 0, .int 0, .int 36, .int 10])), (a 1, .inr (8, [.int 0, .ref (a 2), .ref (a 3), .ref (a 4)])), (a 2, .inl (gI g, 5, .inl (fun _ => 0))), (a 3, .inl (gI g, 5, .inl (fun _ => 0))), (a 4, .inl (gI g, 5, .inl (fun _ => 0))), (a 5, .inr (1, [.int 0, .ref (a 6), .ref (a 7), .int 0])), (a 6, .inl (gI g, 7, .inl (fun _ => 0))), (a 7, .inl (gI g, 7, .inl (fun _ => 0))), (a 8, .inr (0, [.int 0, .ref (a 9), .ref (a 10), .ref (a 11), .ref (a 12), .ref (a 13), .ref (a 14), .ref (a 15), .int 0, .int 0, .int 0, .ref (a 16)])), (a 9, .inl (gI g, 10, .inl (fun _ => 0))), (a 10, .inl (gI g, 10, .inl (fun _ => 0))), (a 11, .inl (gI g, 10, .inl (fun _ => 0))), (a 12, .inl (gI g, 10, .inl (fun _ => 0))), (a 13, .inl (gI g, 10, .inl (fun _ => 0))), (a 14, .inl (gI g, 10, .inl (fun _ => 0))), (a 15, .inl (gI g, 10, .inl (fun _ => 0))), (a 16, .inl (gI g, 10, .inl (fun _ => 0))), (a 17, .inr (3, [.int 0, .ref (a 18), .ref (a 19), .ref (a 20)])), (a 18, .inl (gI g, 40, .inl (fun _ => 0))), (a 19, .inl (gI g, 40, .inl (fun _ => 0))), (a 20, .inl (gI g, 40, .inl (fun _ => 0))), (a 21, .inr (3, [.int 0, .ref (a 22), .ref (a 23), .ref (a 24)])), (a 22, .inl (gI g, 40, .inl (fun _ => 0))), (a 23, .inl (gI g, 40, .inl (fun _ => 0))), (a 24, .inl (gI g, 40, .inl (fun _ => 0))), (a 25, .inr (6, [.int 0, .int 0, .ref (a 26)])), (a 26, .inl (gI g, 14, .inl (fun _ => 0))), (a 27, .inl (gI g, 60, .inl (fun _ => 0)))] := hD
  refine lv_aload_n hx hb dX4_beginDay_5 rfl (lv_at hl 0 rfl) ?_
  refine va_get (ci := 4) (C := RX4) (T := TX4) (N := 11) hx hb hts inlX4 hown hKW.1 hP 0 rfl rfl 2 (by decide) (hts _ wd_3_2) (fun _ h => h) rfl dX4_beginDay_6 ?_
  refine k_Vv [8, 9, 10, 11, 12, 13, 14, 15, 16] [0, 1, 2, 3, 4, 5, 6, 7, 17, 18, 19, 20, 21, 22, 23, 24, 25, 26, 27] 8 0 (wr := [(a 0, .inr (4, [.ref (a 1), .ref (a 5), .ref (a 8), .ref (a 17), .ref (a 21), .ref (a 25), .ref (a 27), .int 0, .int 0, .int 36, .int 10])), (a 1, .inr (8, [.int 0, .ref (a 2), .ref (a 3), .ref (a 4)])), (a 2, .inl (gI g, 5, .inl (fun _ => 0))), (a 3, .inl (gI g, 5, .inl (fun _ => 0))), (a 4, .inl (gI g, 5, .inl (fun _ => 0))), (a 5, .inr (1, [.int 0, .ref (a 6), .ref (a 7), .int 0])), (a 6, .inl (gI g, 7, .inl (fun _ => 0))), (a 7, .inl (gI g, 7, .inl (fun _ => 0))), (a 17, .inr (3, [.int 0, .ref (a 18), .ref (a 19), .ref (a 20)])), (a 18, .inl (gI g, 40, .inl (fun _ => 0))), (a 19, .inl (gI g, 40, .inl (fun _ => 0))), (a 20, .inl (gI g, 40, .inl (fun _ => 0))), (a 21, .inr (3, [.int 0, .ref (a 22), .ref (a 23), .ref (a 24)])), (a 22, .inl (gI g, 40, .inl (fun _ => 0))), (a 23, .inl (gI g, 40, .inl (fun _ => 0))), (a 24, .inl (gI g, 40, .inl (fun _ => 0))), (a 25, .inr (6, [.int 0, .int 0, .ref (a 26)])), (a 26, .inl (gI g, 14, .inl (fun _ => 0))), (a 27, .inl (gI g, 60, .inl (fun _ => 0)))]) hx hb hml hown hts hKW hP hD hS hA hl.1 (c_X0_allOut0 l g _ (fun k => ([a 8, a 9, a 10, a 11, a 12, a 13, a 14, a 15, a 16] : List Nat).getD k 0) ) rfl rfl rfl wd_18_3 wd_3_1 wd_18_0 wd_18_1 wd_18_2 yd_X0_allOut ⟨Nat.le_of_ble_eq_true rfl, Nat.le_of_ble_eq_true rfl⟩ rfl rfl rfl rfl rfl (by decide) rfl (Nat.le_of_ble_eq_true rfl) dX4_beginDay_9 ⟨Nat.le_of_ble_eq_true rfl, Nat.le_of_ble_eq_true rfl⟩ (fun u_2 H locs hw_3 hP hD hS => ?_)
  have hP : va_P g.1 vwCl [(a 0, .inr (4, [.ref (a 1), .ref (a 5), .ref (a 8), .ref (a 17), .ref (a 21), .ref (a 25), .ref (a 27), .int 0, .int 0, .int 36, .int 10])), (a 1, .inr (8, [.int 0, .ref (a 2), .ref (a 3), .ref (a 4)])), (a 2, .inl (gI g, 5, .inl (fun _ => 0))), (a 3, .inl (gI g, 5, .inl (fun _ => 0))), (a 4, .inl (gI g, 5, .inl (fun _ => 0))), (a 5, .inr (1, [.int 0, .ref (a 6), .ref (a 7), .int 0])), (a 6, .inl (gI g, 7, .inl (fun _ => 0))), (a 7, .inl (gI g, 7, .inl (fun _ => 0))), (a 17, .inr (3, [.int 0, .ref (a 18), .ref (a 19), .ref (a 20)])), (a 18, .inl (gI g, 40, .inl (fun _ => 0))), (a 19, .inl (gI g, 40, .inl (fun _ => 0))), (a 20, .inl (gI g, 40, .inl (fun _ => 0))), (a 21, .inr (3, [.int 0, .ref (a 22), .ref (a 23), .ref (a 24)])), (a 22, .inl (gI g, 40, .inl (fun _ => 0))), (a 23, .inl (gI g, 40, .inl (fun _ => 0))), (a 24, .inl (gI g, 40, .inl (fun _ => 0))), (a 25, .inr (6, [.int 0, .int 0, .ref (a 26)])), (a 26, .inl (gI g, 14, .inl (fun _ => 0))), (a 27, .inl (gI g, 60, .inl (fun _ => 0)))] H := hP
  have hD : va_D A [(a 0, .inr (4, [.ref (a 1), .ref (a 5), .ref (a 8), .ref (a 17), .ref (a 21), .ref (a 25), .ref (a 27), .int 0, .int 0, .int 36, .int 10])), (a 1, .inr (8, [.int 0, .ref (a 2), .ref (a 3), .ref (a 4)])), (a 2, .inl (gI g, 5, .inl (fun _ => 0))), (a 3, .inl (gI g, 5, .inl (fun _ => 0))), (a 4, .inl (gI g, 5, .inl (fun _ => 0))), (a 5, .inr (1, [.int 0, .ref (a 6), .ref (a 7), .int 0])), (a 6, .inl (gI g, 7, .inl (fun _ => 0))), (a 7, .inl (gI g, 7, .inl (fun _ => 0))), (a 17, .inr (3, [.int 0, .ref (a 18), .ref (a 19), .ref (a 20)])), (a 18, .inl (gI g, 40, .inl (fun _ => 0))), (a 19, .inl (gI g, 40, .inl (fun _ => 0))), (a 20, .inl (gI g, 40, .inl (fun _ => 0))), (a 21, .inr (3, [.int 0, .ref (a 22), .ref (a 23), .ref (a 24)])), (a 22, .inl (gI g, 40, .inl (fun _ => 0))), (a 23, .inl (gI g, 40, .inl (fun _ => 0))), (a 24, .inl (gI g, 40, .inl (fun _ => 0))), (a 25, .inr (6, [.int 0, .int 0, .ref (a 26)])), (a 26, .inl (gI g, 14, .inl (fun _ => 0))), (a 27, .inl (gI g, 60, .inl (fun _ => 0)))] := hD
  refine lv_aload_n hx hb dX4_beginDay_12 rfl (lv_at hl 0 rfl) ?_
  refine va_get (ci := 4) (C := RX4) (T := TX4) (N := 11) hx hb hts inlX4 hown hKW.1 hP 0 rfl rfl 1 (by decide) (hts _ wd_2_22) (fun _ h => h) rfl dX4_beginDay_13 ?_
  refine lv_iconst (v := 0) hx hb dX4_beginDay_16 (by decide) ?_
  refine va_put (ci := 1) (v := .int 0) (C := RX1) (T := TX1) (N := 4) hx hb hts inlX1 tyX1 tyX1_ok nmX1 hown hKW.1 hP hD hS 5 rfl rfl 3 (by decide) (hts _ wd_17_22) (fun _ h => h) rfl (tyX1_ok 3 (by decide)) rfl rfl (Nat.le_of_ble_eq_true rfl) dX4_beginDay_17 (fun H locs hP hD hS => ?_)
  have hP : va_P g.1 vwCl [(a 0, .inr (4, [.ref (a 1), .ref (a 5), .ref (a 8), .ref (a 17), .ref (a 21), .ref (a 25), .ref (a 27), .int 0, .int 0, .int 36, .int 10])), (a 1, .inr (8, [.int 0, .ref (a 2), .ref (a 3), .ref (a 4)])), (a 2, .inl (gI g, 5, .inl (fun _ => 0))), (a 3, .inl (gI g, 5, .inl (fun _ => 0))), (a 4, .inl (gI g, 5, .inl (fun _ => 0))), (a 5, .inr (1, [.int 0, .ref (a 6), .ref (a 7), .int 0])), (a 6, .inl (gI g, 7, .inl (fun _ => 0))), (a 7, .inl (gI g, 7, .inl (fun _ => 0))), (a 17, .inr (3, [.int 0, .ref (a 18), .ref (a 19), .ref (a 20)])), (a 18, .inl (gI g, 40, .inl (fun _ => 0))), (a 19, .inl (gI g, 40, .inl (fun _ => 0))), (a 20, .inl (gI g, 40, .inl (fun _ => 0))), (a 21, .inr (3, [.int 0, .ref (a 22), .ref (a 23), .ref (a 24)])), (a 22, .inl (gI g, 40, .inl (fun _ => 0))), (a 23, .inl (gI g, 40, .inl (fun _ => 0))), (a 24, .inl (gI g, 40, .inl (fun _ => 0))), (a 25, .inr (6, [.int 0, .int 0, .ref (a 26)])), (a 26, .inl (gI g, 14, .inl (fun _ => 0))), (a 27, .inl (gI g, 60, .inl (fun _ => 0)))] H := hP
  have hD : va_D A [(a 0, .inr (4, [.ref (a 1), .ref (a 5), .ref (a 8), .ref (a 17), .ref (a 21), .ref (a 25), .ref (a 27), .int 0, .int 0, .int 36, .int 10])), (a 1, .inr (8, [.int 0, .ref (a 2), .ref (a 3), .ref (a 4)])), (a 2, .inl (gI g, 5, .inl (fun _ => 0))), (a 3, .inl (gI g, 5, .inl (fun _ => 0))), (a 4, .inl (gI g, 5, .inl (fun _ => 0))), (a 5, .inr (1, [.int 0, .ref (a 6), .ref (a 7), .int 0])), (a 6, .inl (gI g, 7, .inl (fun _ => 0))), (a 7, .inl (gI g, 7, .inl (fun _ => 0))), (a 17, .inr (3, [.int 0, .ref (a 18), .ref (a 19), .ref (a 20)])), (a 18, .inl (gI g, 40, .inl (fun _ => 0))), (a 19, .inl (gI g, 40, .inl (fun _ => 0))), (a 20, .inl (gI g, 40, .inl (fun _ => 0))), (a 21, .inr (3, [.int 0, .ref (a 22), .ref (a 23), .ref (a 24)])), (a 22, .inl (gI g, 40, .inl (fun _ => 0))), (a 23, .inl (gI g, 40, .inl (fun _ => 0))), (a 24, .inl (gI g, 40, .inl (fun _ => 0))), (a 25, .inr (6, [.int 0, .int 0, .ref (a 26)])), (a 26, .inl (gI g, 14, .inl (fun _ => 0))), (a 27, .inl (gI g, 60, .inl (fun _ => 0)))] := hD
  refine lv_aload_n hx hb dX4_beginDay_20 rfl (lv_at hl 0 rfl) ?_
  refine va_get (ci := 4) (C := RX4) (T := TX4) (N := 11) hx hb hts inlX4 hown hKW.1 hP 0 rfl rfl 3 (by decide) (hts _ wd_3_6) (fun _ h => h) rfl dX4_beginDay_21 ?_
  refine lv_iconst (v := 0) hx hb dX4_beginDay_24 (by decide) ?_
  refine va_put (ci := 3) (v := .int 0) (C := RX3) (T := TX3) (N := 4) hx hb hts inlX3 tyX3 tyX3_ok nmX3 hown hKW.1 hP hD hS 8 rfl rfl 0 (by decide) (hts _ wd_17_23) (fun _ h => h) rfl (tyX3_ok 0 (by decide)) rfl rfl (Nat.le_of_ble_eq_true rfl) dX4_beginDay_25 (fun H locs hP hD hS => ?_)
  have hP : va_P g.1 vwCl [(a 0, .inr (4, [.ref (a 1), .ref (a 5), .ref (a 8), .ref (a 17), .ref (a 21), .ref (a 25), .ref (a 27), .int 0, .int 0, .int 36, .int 10])), (a 1, .inr (8, [.int 0, .ref (a 2), .ref (a 3), .ref (a 4)])), (a 2, .inl (gI g, 5, .inl (fun _ => 0))), (a 3, .inl (gI g, 5, .inl (fun _ => 0))), (a 4, .inl (gI g, 5, .inl (fun _ => 0))), (a 5, .inr (1, [.int 0, .ref (a 6), .ref (a 7), .int 0])), (a 6, .inl (gI g, 7, .inl (fun _ => 0))), (a 7, .inl (gI g, 7, .inl (fun _ => 0))), (a 17, .inr (3, [.int 0, .ref (a 18), .ref (a 19), .ref (a 20)])), (a 18, .inl (gI g, 40, .inl (fun _ => 0))), (a 19, .inl (gI g, 40, .inl (fun _ => 0))), (a 20, .inl (gI g, 40, .inl (fun _ => 0))), (a 21, .inr (3, [.int 0, .ref (a 22), .ref (a 23), .ref (a 24)])), (a 22, .inl (gI g, 40, .inl (fun _ => 0))), (a 23, .inl (gI g, 40, .inl (fun _ => 0))), (a 24, .inl (gI g, 40, .inl (fun _ => 0))), (a 25, .inr (6, [.int 0, .int 0, .ref (a 26)])), (a 26, .inl (gI g, 14, .inl (fun _ => 0))), (a 27, .inl (gI g, 60, .inl (fun _ => 0)))] H := hP
  have hD : va_D A [(a 0, .inr (4, [.ref (a 1), .ref (a 5), .ref (a 8), .ref (a 17), .ref (a 21), .ref (a 25), .ref (a 27), .int 0, .int 0, .int 36, .int 10])), (a 1, .inr (8, [.int 0, .ref (a 2), .ref (a 3), .ref (a 4)])), (a 2, .inl (gI g, 5, .inl (fun _ => 0))), (a 3, .inl (gI g, 5, .inl (fun _ => 0))), (a 4, .inl (gI g, 5, .inl (fun _ => 0))), (a 5, .inr (1, [.int 0, .ref (a 6), .ref (a 7), .int 0])), (a 6, .inl (gI g, 7, .inl (fun _ => 0))), (a 7, .inl (gI g, 7, .inl (fun _ => 0))), (a 17, .inr (3, [.int 0, .ref (a 18), .ref (a 19), .ref (a 20)])), (a 18, .inl (gI g, 40, .inl (fun _ => 0))), (a 19, .inl (gI g, 40, .inl (fun _ => 0))), (a 20, .inl (gI g, 40, .inl (fun _ => 0))), (a 21, .inr (3, [.int 0, .ref (a 22), .ref (a 23), .ref (a 24)])), (a 22, .inl (gI g, 40, .inl (fun _ => 0))), (a 23, .inl (gI g, 40, .inl (fun _ => 0))), (a 24, .inl (gI g, 40, .inl (fun _ => 0))), (a 25, .inr (6, [.int 0, .int 0, .ref (a 26)])), (a 26, .inl (gI g, 14, .inl (fun _ => 0))), (a 27, .inl (gI g, 60, .inl (fun _ => 0)))] := hD
  refine lv_aload_n hx hb dX4_beginDay_28 rfl (lv_at hl 0 rfl) ?_
  refine va_get (ci := 4) (C := RX4) (T := TX4) (N := 11) hx hb hts inlX4 hown hKW.1 hP 0 rfl rfl 4 (by decide) (hts _ wd_3_7) (fun _ h => h) rfl dX4_beginDay_29 ?_
  refine lv_iconst (v := 0) hx hb dX4_beginDay_32 (by decide) ?_
  refine va_put (ci := 3) (v := .int 0) (C := RX3) (T := TX3) (N := 4) hx hb hts inlX3 tyX3 tyX3_ok nmX3 hown hKW.1 hP hD hS 12 rfl rfl 0 (by decide) (hts _ wd_17_23) (fun _ h => h) rfl (tyX3_ok 0 (by decide)) rfl rfl (Nat.le_of_ble_eq_true rfl) dX4_beginDay_33 (fun H locs hP hD hS => ?_)
  have hP : va_P g.1 vwCl [(a 0, .inr (4, [.ref (a 1), .ref (a 5), .ref (a 8), .ref (a 17), .ref (a 21), .ref (a 25), .ref (a 27), .int 0, .int 0, .int 36, .int 10])), (a 1, .inr (8, [.int 0, .ref (a 2), .ref (a 3), .ref (a 4)])), (a 2, .inl (gI g, 5, .inl (fun _ => 0))), (a 3, .inl (gI g, 5, .inl (fun _ => 0))), (a 4, .inl (gI g, 5, .inl (fun _ => 0))), (a 5, .inr (1, [.int 0, .ref (a 6), .ref (a 7), .int 0])), (a 6, .inl (gI g, 7, .inl (fun _ => 0))), (a 7, .inl (gI g, 7, .inl (fun _ => 0))), (a 17, .inr (3, [.int 0, .ref (a 18), .ref (a 19), .ref (a 20)])), (a 18, .inl (gI g, 40, .inl (fun _ => 0))), (a 19, .inl (gI g, 40, .inl (fun _ => 0))), (a 20, .inl (gI g, 40, .inl (fun _ => 0))), (a 21, .inr (3, [.int 0, .ref (a 22), .ref (a 23), .ref (a 24)])), (a 22, .inl (gI g, 40, .inl (fun _ => 0))), (a 23, .inl (gI g, 40, .inl (fun _ => 0))), (a 24, .inl (gI g, 40, .inl (fun _ => 0))), (a 25, .inr (6, [.int 0, .int 0, .ref (a 26)])), (a 26, .inl (gI g, 14, .inl (fun _ => 0))), (a 27, .inl (gI g, 60, .inl (fun _ => 0)))] H := hP
  have hD : va_D A [(a 0, .inr (4, [.ref (a 1), .ref (a 5), .ref (a 8), .ref (a 17), .ref (a 21), .ref (a 25), .ref (a 27), .int 0, .int 0, .int 36, .int 10])), (a 1, .inr (8, [.int 0, .ref (a 2), .ref (a 3), .ref (a 4)])), (a 2, .inl (gI g, 5, .inl (fun _ => 0))), (a 3, .inl (gI g, 5, .inl (fun _ => 0))), (a 4, .inl (gI g, 5, .inl (fun _ => 0))), (a 5, .inr (1, [.int 0, .ref (a 6), .ref (a 7), .int 0])), (a 6, .inl (gI g, 7, .inl (fun _ => 0))), (a 7, .inl (gI g, 7, .inl (fun _ => 0))), (a 17, .inr (3, [.int 0, .ref (a 18), .ref (a 19), .ref (a 20)])), (a 18, .inl (gI g, 40, .inl (fun _ => 0))), (a 19, .inl (gI g, 40, .inl (fun _ => 0))), (a 20, .inl (gI g, 40, .inl (fun _ => 0))), (a 21, .inr (3, [.int 0, .ref (a 22), .ref (a 23), .ref (a 24)])), (a 22, .inl (gI g, 40, .inl (fun _ => 0))), (a 23, .inl (gI g, 40, .inl (fun _ => 0))), (a 24, .inl (gI g, 40, .inl (fun _ => 0))), (a 25, .inr (6, [.int 0, .int 0, .ref (a 26)])), (a 26, .inl (gI g, 14, .inl (fun _ => 0))), (a 27, .inl (gI g, 60, .inl (fun _ => 0)))] := hD
  exact k_vret () [] hx hb hr hlk hP hD hS trivial rfl rfl rfl (Nat.le_of_ble_eq_true rfl) (Nat.le_of_ble_eq_true rfl) dX4_beginDay_36
theorem dX0_waiterOf_0 : decode cX0_waiterOf 0 = .ok (.iload_n 2, 1) := by decide +kernel
theorem dX0_waiterOf_1 : decode cX0_waiterOf 1 = .ok (.istore_n 3, 1) := by decide +kernel
theorem dX0_waiterOf_2 : decode cX0_waiterOf 2 = .ok (.iconst 0, 1) := by decide +kernel
theorem dX0_waiterOf_3 : decode cX0_waiterOf 3 = .ok (.istore 4, 2) := by decide +kernel
theorem dX0_waiterOf_5 : decode cX0_waiterOf 5 = .ok (.iload 4, 2) := by decide +kernel
theorem dX0_waiterOf_7 : decode cX0_waiterOf 7 = .ok (.aload_n 0, 1) := by decide +kernel
theorem dX0_waiterOf_8 : decode cX0_waiterOf 8 = .ok (.getfield 69, 3) := by decide +kernel
theorem dX0_waiterOf_11 : decode cX0_waiterOf 11 = .ok (.if_icmp .ge 39, 3) := by decide +kernel
theorem dX0_waiterOf_50 : decode cX0_waiterOf 50 = .ok (.iconst (-1), 1) := by decide +kernel
theorem dX0_waiterOf_51 : decode cX0_waiterOf 51 = .ok (.ireturn, 1) := by decide +kernel
set_option maxHeartbeats 4000000 in
set_option maxRecDepth 100000 in
theorem c_X0_waiterOf0 (l : Launch) (g : kG) (sz : Nat) (a : Nat → Nat) (x : Int32) (y : Int32) : kMi l g yX0_waiterOf cX0_waiterOf 5 (some .int) 1 0 0 [.ref (a 0), .int x, .int y] sz [(a 0, .inr (0, [.int 0, .ref (a 1), .ref (a 2), .ref (a 3), .ref (a 4), .ref (a 5), .ref (a 6), .ref (a 7), .int 0, .int 0, .int 0, .ref (a 8)])), (a 1, .inl (gI g, 10, .inl (fun _ => 0))), (a 2, .inl (gI g, 10, .inl (fun _ => 0))), (a 3, .inl (gI g, 10, .inl (fun _ => 0))), (a 4, .inl (gI g, 10, .inl (fun _ => 0))), (a 5, .inl (gI g, 10, .inl (fun _ => 0))), (a 6, .inl (gI g, 10, .inl (fun _ => 0))), (a 7, .inl (gI g, 10, .inl (fun _ => 0))), (a 8, .inl (gI g, 10, .inl (fun _ => 0)))] (fun (r : Int32) (u : Unit) => r = (-1)) (fun (u : Unit) => ([] : va_W)) := by
  refine kMi.of (by decide) (Nat.le_of_ble_eq_true rfl) (fun p e s m below meth c A hx hb hr hml hown hts hlk hnm hKW hP hD hS hA ls hl => ?_)
  have hown : s.vm.findClass RX0 = some m.cls := hown
  have hl : lv_has ls 5 [(0, .ref (a 0)), (1, .int x), (2, .int y)] := hl
  refine lv_iload_n hx hb dX0_waiterOf_0 rfl (lv_at hl 2 rfl) ?_
  refine lv_istore_n (lv' := [(3, .int y), (0, .ref (a 0)), (1, .int x), (2, .int y)]) hx hb dX0_waiterOf_1 rfl hl (by decide) rfl (fun ls hl => ?_)
  refine lv_iconst (v := 0) hx hb dX0_waiterOf_2 (by decide) ?_
  refine lv_istore (lv' := [(4, .int 0), (3, .int y), (0, .ref (a 0)), (1, .int x), (2, .int y)]) hx hb dX0_waiterOf_3 hl (by decide) rfl (fun ls hl => ?_)
  refine lv_iload hx hb dX0_waiterOf_5 (lv_at hl 0 rfl) ?_
  refine lv_aload_n hx hb dX0_waiterOf_7 rfl (lv_at hl 2 rfl) ?_
  refine va_get (ci := 0) (C := RX0) (T := TX0) (N := 12) hx hb hts inlX0 hown hKW.1 hP 0 rfl rfl 10 (by decide) (hts _ wd_9_8) (fun _ h => h) rfl dX0_waiterOf_8 ?_
  refine lv_icmp_ge (tgt := 50) hx hb dX0_waiterOf_11 (by decide) (fun _ => ?_) (fun c => absurd c (by decide))
  refine lv_iconst (v := (-1)) hx hb dX0_waiterOf_50 (by decide) ?_
  exact k_iret () [] hx hb hr hlk hP hD hS rfl rfl rfl rfl (Nat.le_of_ble_eq_true rfl) (Nat.le_of_ble_eq_true rfl) dX0_waiterOf_51
theorem dX0_waiterAt_0 : decode cX0_waiterAt 0 = .ok (.iconst 0, 1) := by decide +kernel
theorem dX0_waiterAt_1 : decode cX0_waiterAt 1 = .ok (.istore_n 2, 1) := by decide +kernel
theorem dX0_waiterAt_2 : decode cX0_waiterAt 2 = .ok (.iconst 0, 1) := by decide +kernel
theorem dX0_waiterAt_3 : decode cX0_waiterAt 3 = .ok (.istore_n 3, 1) := by decide +kernel
theorem dX0_waiterAt_4 : decode cX0_waiterAt 4 = .ok (.iload_n 3, 1) := by decide +kernel
theorem dX0_waiterAt_5 : decode cX0_waiterAt 5 = .ok (.aload_n 0, 1) := by decide +kernel
theorem dX0_waiterAt_6 : decode cX0_waiterAt 6 = .ok (.getfield 69, 3) := by decide +kernel
theorem dX0_waiterAt_9 : decode cX0_waiterAt 9 = .ok (.if_icmp .ge 25, 3) := by decide +kernel
theorem dX0_waiterAt_34 : decode cX0_waiterAt 34 = .ok (.iload_n 1, 1) := by decide +kernel
theorem dX0_waiterAt_35 : decode cX0_waiterAt 35 = .ok (.iload_n 2, 1) := by decide +kernel
theorem dX0_waiterAt_36 : decode cX0_waiterAt 36 = .ok (.if_icmp .ge 12, 3) := by decide +kernel
theorem dX0_waiterAt_48 : decode cX0_waiterAt 48 = .ok (.aload_n 0, 1) := by decide +kernel
theorem dX0_waiterAt_49 : decode cX0_waiterAt 49 = .ok (.iconst 0, 1) := by decide +kernel
theorem dX0_waiterAt_50 : decode cX0_waiterAt 50 = .ok (.iload_n 1, 1) := by decide +kernel
theorem dX0_waiterAt_51 : decode cX0_waiterAt 51 = .ok (.iload_n 2, 1) := by decide +kernel
theorem dX0_waiterAt_52 : decode cX0_waiterAt 52 = .ok (.isub, 1) := by decide +kernel
theorem dX0_waiterAt_53 : decode cX0_waiterAt 53 = .ok (.invokevirtual 80, 3) := by decide +kernel
theorem dX0_waiterAt_56 : decode cX0_waiterAt 56 = .ok (.ireturn, 1) := by decide +kernel
theorem dX0_waiterAt_39 : decode cX0_waiterAt 39 = .ok (.aload_n 0, 1) := by decide +kernel
theorem dX0_waiterAt_40 : decode cX0_waiterAt 40 = .ok (.iconst 1, 1) := by decide +kernel
theorem dX0_waiterAt_41 : decode cX0_waiterAt 41 = .ok (.iload_n 1, 1) := by decide +kernel
theorem dX0_waiterAt_42 : decode cX0_waiterAt 42 = .ok (.invokevirtual 80, 3) := by decide +kernel
theorem dX0_waiterAt_45 : decode cX0_waiterAt 45 = .ok (.goto 11, 3) := by decide +kernel
set_option maxHeartbeats 4000000 in
set_option maxRecDepth 100000 in
theorem c_X0_waiterAt0 (l : Launch) (g : kG) (sz : Nat) (a : Nat → Nat) (x : Int32) : kMi l g yX0_waiterAt cX0_waiterAt 4 (some .int) 2 0 0 [.ref (a 0), .int x] sz [(a 0, .inr (0, [.int 0, .ref (a 1), .ref (a 2), .ref (a 3), .ref (a 4), .ref (a 5), .ref (a 6), .ref (a 7), .int 0, .int 0, .int 0, .ref (a 8)])), (a 1, .inl (gI g, 10, .inl (fun _ => 0))), (a 2, .inl (gI g, 10, .inl (fun _ => 0))), (a 3, .inl (gI g, 10, .inl (fun _ => 0))), (a 4, .inl (gI g, 10, .inl (fun _ => 0))), (a 5, .inl (gI g, 10, .inl (fun _ => 0))), (a 6, .inl (gI g, 10, .inl (fun _ => 0))), (a 7, .inl (gI g, 10, .inl (fun _ => 0))), (a 8, .inl (gI g, 10, .inl (fun _ => 0)))] (fun (r : Int32) (u : Unit) => r = (-1)) (fun (u : Unit) => ([] : va_W)) := by
  refine kMi.of (by decide) (Nat.le_of_ble_eq_true rfl) (fun p e s m below meth c A hx hb hr hml hown hts hlk hnm hKW hP hD hS hA ls hl => ?_)
  have hown : s.vm.findClass RX0 = some m.cls := hown
  have hl : lv_has ls 4 [(0, .ref (a 0)), (1, .int x)] := hl
  refine lv_iconst (v := 0) hx hb dX0_waiterAt_0 (by decide) ?_
  refine lv_istore_n (lv' := [(2, .int 0), (0, .ref (a 0)), (1, .int x)]) hx hb dX0_waiterAt_1 rfl hl (by decide) rfl (fun ls hl => ?_)
  refine lv_iconst (v := 0) hx hb dX0_waiterAt_2 (by decide) ?_
  refine lv_istore_n (lv' := [(3, .int 0), (2, .int 0), (0, .ref (a 0)), (1, .int x)]) hx hb dX0_waiterAt_3 rfl hl (by decide) rfl (fun ls hl => ?_)
  refine lv_iload_n hx hb dX0_waiterAt_4 rfl (lv_at hl 0 rfl) ?_
  refine lv_aload_n hx hb dX0_waiterAt_5 rfl (lv_at hl 2 rfl) ?_
  refine va_get (ci := 0) (C := RX0) (T := TX0) (N := 12) hx hb hts inlX0 hown hKW.1 hP 0 rfl rfl 10 (by decide) (hts _ wd_9_8) (fun _ h => h) rfl dX0_waiterAt_6 ?_
  refine lv_icmp_ge (tgt := 34) hx hb dX0_waiterAt_9 (by decide) (fun _ => ?_) (fun c => absurd c (by decide))
  refine lv_iload_n hx hb dX0_waiterAt_34 rfl (lv_at hl 3 rfl) ?_
  refine lv_iload_n hx hb dX0_waiterAt_35 rfl (lv_at hl 1 rfl) ?_
  refine lv_icmp_ge (tgt := 48) hx hb dX0_waiterAt_36 (by decide) (fun c_1 => ?_) (fun c_1 => ?_)
  · refine lv_aload_n hx hb dX0_waiterAt_48 rfl (lv_at hl 2 rfl) ?_
    refine lv_iconst (v := 0) hx hb dX0_waiterAt_49 (by decide) ?_
    refine lv_iload_n hx hb dX0_waiterAt_50 rfl (lv_at hl 3 rfl) ?_
    refine lv_iload_n hx hb dX0_waiterAt_51 rfl (lv_at hl 1 rfl) ?_
    refine lv_isub hx hb dX0_waiterAt_52 ?_
    refine k_Vi [0, 1, 2, 3, 4, 5, 6, 7, 8] [] 0 0 (wr := []) hx hb hml hown hts hKW hP hD hS hA hl.1 (c_X0_waiterOf0 l g _ a 0 (x - 0) ) rfl rfl rfl wd_40_7 wd_3_1 wd_40_4 wd_40_5 wd_40_6 yd_X0_waiterOf ⟨Nat.le_of_ble_eq_true rfl, Nat.le_of_ble_eq_true rfl⟩ rfl rfl rfl rfl rfl (by decide) rfl (Nat.le_of_ble_eq_true rfl) dX0_waiterAt_53 ⟨Nat.le_of_ble_eq_true rfl, Nat.le_of_ble_eq_true rfl⟩ (fun r_2 u_3 H locs hw_4 hP hD hS => ?_)
    have hP : va_P g.1 vwCl [] H := hP
    have hD : va_D A [] := hD
    have hw_4 : r_2 = (-1) := hw_4
    subst hw_4
    exact k_iret () [] hx hb hr hlk hP hD hS rfl rfl rfl rfl (Nat.le_of_ble_eq_true rfl) (Nat.le_of_ble_eq_true rfl) dX0_waiterAt_56
  · refine lv_aload_n hx hb dX0_waiterAt_39 rfl (lv_at hl 2 rfl) ?_
    refine lv_iconst (v := 1) hx hb dX0_waiterAt_40 (by decide) ?_
    refine lv_iload_n hx hb dX0_waiterAt_41 rfl (lv_at hl 3 rfl) ?_
    refine k_Vi [0, 1, 2, 3, 4, 5, 6, 7, 8] [] 0 0 (wr := []) hx hb hml hown hts hKW hP hD hS hA hl.1 (c_X0_waiterOf0 l g _ a 1 x ) rfl rfl rfl wd_40_7 wd_3_1 wd_40_4 wd_40_5 wd_40_6 yd_X0_waiterOf ⟨Nat.le_of_ble_eq_true rfl, Nat.le_of_ble_eq_true rfl⟩ rfl rfl rfl rfl rfl (by decide) rfl (Nat.le_of_ble_eq_true rfl) dX0_waiterAt_42 ⟨Nat.le_of_ble_eq_true rfl, Nat.le_of_ble_eq_true rfl⟩ (fun r_5 u_6 H locs hw_7 hP hD hS => ?_)
    have hP : va_P g.1 vwCl [] H := hP
    have hD : va_D A [] := hD
    have hw_7 : r_5 = (-1) := hw_7
    subst hw_7
    refine lv_goto (tgt := 56) hx hb dX0_waiterAt_45 (by decide) ?_
    exact k_iret () [] hx hb hr hlk hP hD hS rfl rfl rfl rfl (Nat.le_of_ble_eq_true rfl) (Nat.le_of_ble_eq_true rfl) dX0_waiterAt_56
theorem dX1_able_0 : decode cX1_able 0 = .ok (.iconst 1, 1) := by decide +kernel
theorem dX1_able_1 : decode cX1_able 1 = .ok (.aload_n 0, 1) := by decide +kernel
theorem dX1_able_2 : decode cX1_able 2 = .ok (.getfield 18, 3) := by decide +kernel
theorem dX1_able_5 : decode cX1_able 5 = .ok (.ishl, 1) := by decide +kernel
theorem dX1_able_6 : decode cX1_able 6 = .ok (.iconst 1, 1) := by decide +kernel
theorem dX1_able_7 : decode cX1_able 7 = .ok (.isub, 1) := by decide +kernel
theorem dX1_able_8 : decode cX1_able 8 = .ok (.aload_n 0, 1) := by decide +kernel
theorem dX1_able_9 : decode cX1_able 9 = .ok (.getfield 22, 3) := by decide +kernel
theorem dX1_able_12 : decode cX1_able 12 = .ok (.iconst (-1), 1) := by decide +kernel
theorem dX1_able_13 : decode cX1_able 13 = .ok (.ixor, 1) := by decide +kernel
theorem dX1_able_14 : decode cX1_able 14 = .ok (.iand, 1) := by decide +kernel
theorem dX1_able_15 : decode cX1_able 15 = .ok (.ireturn, 1) := by decide +kernel
set_option maxHeartbeats 4000000 in
set_option maxRecDepth 100000 in
theorem c_X1_able0 (l : Launch) (g : kG) (sz : Nat) (a : Nat → Nat) : kMi l g yX1_able cX1_able 1 (some .int) 1 0 0 [.ref (a 0)] sz [(a 0, .inr (1, [.int 0, .ref (a 1), .ref (a 2), .int 0])), (a 1, .inl (gI g, 7, .inl (fun _ => 0))), (a 2, .inl (gI g, 7, .inl (fun _ => 0)))] (fun (r : Int32) (u : Unit) => r = 0) (fun (u : Unit) => ([(a 0, .inr (1, [.int 0, .ref (a 1), .ref (a 2), .int 0])), (a 1, .inl (gI g, 7, .inl (fun _ => 0))), (a 2, .inl (gI g, 7, .inl (fun _ => 0)))] : va_W)) := by
  refine kMi.of (by decide) (Nat.le_of_ble_eq_true rfl) (fun p e s m below meth c A hx hb hr hml hown hts hlk hnm hKW hP hD hS hA ls hl => ?_)
  have hown : s.vm.findClass RX1 = some m.cls := hown
  have hl : lv_has ls 1 [(0, .ref (a 0))] := hl
  refine lv_iconst (v := 1) hx hb dX1_able_0 (by decide) ?_
  refine lv_aload_n hx hb dX1_able_1 rfl (lv_at hl 0 rfl) ?_
  refine va_get (ci := 1) (C := RX1) (T := TX1) (N := 4) hx hb hts inlX1 hown hKW.1 hP 0 rfl rfl 0 (by decide) (hts _ wd_9_0) (fun _ h => h) rfl dX1_able_2 ?_
  refine lv_ishl hx hb dX1_able_5 ?_
  refine k_top (y := 1) (by decide) ?_
  refine lv_iconst (v := 1) hx hb dX1_able_6 (by decide) ?_
  refine lv_isub hx hb dX1_able_7 ?_
  refine k_top (y := 0) (by decide) ?_
  refine lv_aload_n hx hb dX1_able_8 rfl (lv_at hl 0 rfl) ?_
  refine va_get (ci := 1) (C := RX1) (T := TX1) (N := 4) hx hb hts inlX1 hown hKW.1 hP 0 rfl rfl 3 (by decide) (hts _ wd_9_2) (fun _ h => h) rfl dX1_able_9 ?_
  refine lv_iconst (v := (-1)) hx hb dX1_able_12 (by decide) ?_
  refine lv_ixor hx hb dX1_able_13 ?_
  refine k_top (y := (-1)) (by decide) ?_
  refine lv_iand hx hb dX1_able_14 ?_
  refine k_top (y := 0) (by decide) ?_
  exact k_iret () [0, 1, 2] hx hb hr hlk hP hD hS rfl rfl rfl rfl (Nat.le_of_ble_eq_true rfl) (Nat.le_of_ble_eq_true rfl) dX1_able_15
theorem dX1_trained_0 : decode cX1_trained 0 = .ok (.iconst 0, 1) := by decide +kernel
theorem dX1_trained_1 : decode cX1_trained 1 = .ok (.istore_n 1, 1) := by decide +kernel
theorem dX1_trained_2 : decode cX1_trained 2 = .ok (.iconst 0, 1) := by decide +kernel
theorem dX1_trained_3 : decode cX1_trained 3 = .ok (.istore_n 2, 1) := by decide +kernel
theorem dX1_trained_4 : decode cX1_trained 4 = .ok (.iload_n 2, 1) := by decide +kernel
theorem dX1_trained_5 : decode cX1_trained 5 = .ok (.aload_n 0, 1) := by decide +kernel
theorem dX1_trained_6 : decode cX1_trained 6 = .ok (.getfield 18, 3) := by decide +kernel
theorem dX1_trained_9 : decode cX1_trained 9 = .ok (.if_icmp .ge 28, 3) := by decide +kernel
theorem dX1_trained_37 : decode cX1_trained 37 = .ok (.iload_n 1, 1) := by decide +kernel
theorem dX1_trained_38 : decode cX1_trained 38 = .ok (.ireturn, 1) := by decide +kernel
set_option maxHeartbeats 4000000 in
set_option maxRecDepth 100000 in
theorem c_X1_trained0 (l : Launch) (g : kG) (sz : Nat) (a : Nat → Nat) : kMi l g yX1_trained cX1_trained 3 (some .int) 1 0 0 [.ref (a 0)] sz [(a 0, .inr (1, [.int 0, .ref (a 1), .ref (a 2), .int 0])), (a 1, .inl (gI g, 7, .inl (fun _ => 0))), (a 2, .inl (gI g, 7, .inl (fun _ => 0)))] (fun (r : Int32) (u : Unit) => r = 0) (fun (u : Unit) => ([(a 0, .inr (1, [.int 0, .ref (a 1), .ref (a 2), .int 0])), (a 1, .inl (gI g, 7, .inl (fun _ => 0))), (a 2, .inl (gI g, 7, .inl (fun _ => 0)))] : va_W)) := by
  refine kMi.of (by decide) (Nat.le_of_ble_eq_true rfl) (fun p e s m below meth c A hx hb hr hml hown hts hlk hnm hKW hP hD hS hA ls hl => ?_)
  have hown : s.vm.findClass RX1 = some m.cls := hown
  have hl : lv_has ls 3 [(0, .ref (a 0))] := hl
  refine lv_iconst (v := 0) hx hb dX1_trained_0 (by decide) ?_
  refine lv_istore_n (lv' := [(1, .int 0), (0, .ref (a 0))]) hx hb dX1_trained_1 rfl hl (by decide) rfl (fun ls hl => ?_)
  refine lv_iconst (v := 0) hx hb dX1_trained_2 (by decide) ?_
  refine lv_istore_n (lv' := [(2, .int 0), (1, .int 0), (0, .ref (a 0))]) hx hb dX1_trained_3 rfl hl (by decide) rfl (fun ls hl => ?_)
  refine lv_iload_n hx hb dX1_trained_4 rfl (lv_at hl 0 rfl) ?_
  refine lv_aload_n hx hb dX1_trained_5 rfl (lv_at hl 2 rfl) ?_
  refine va_get (ci := 1) (C := RX1) (T := TX1) (N := 4) hx hb hts inlX1 hown hKW.1 hP 0 rfl rfl 0 (by decide) (hts _ wd_9_0) (fun _ h => h) rfl dX1_trained_6 ?_
  refine lv_icmp_ge (tgt := 37) hx hb dX1_trained_9 (by decide) (fun _ => ?_) (fun c => absurd c (by decide))
  refine lv_iload_n hx hb dX1_trained_37 rfl (lv_at hl 1 rfl) ?_
  exact k_iret () [0, 1, 2] hx hb hr hlk hP hD hS rfl rfl rfl rfl (Nat.le_of_ble_eq_true rfl) (Nat.le_of_ble_eq_true rfl) dX1_trained_38
theorem dX1_inRoom_0 : decode cX1_inRoom 0 = .ok (.iconst 0, 1) := by decide +kernel
theorem dX1_inRoom_1 : decode cX1_inRoom 1 = .ok (.istore_n 2, 1) := by decide +kernel
theorem dX1_inRoom_2 : decode cX1_inRoom 2 = .ok (.iconst 0, 1) := by decide +kernel
theorem dX1_inRoom_3 : decode cX1_inRoom 3 = .ok (.istore_n 3, 1) := by decide +kernel
theorem dX1_inRoom_4 : decode cX1_inRoom 4 = .ok (.iload_n 3, 1) := by decide +kernel
theorem dX1_inRoom_5 : decode cX1_inRoom 5 = .ok (.aload_n 0, 1) := by decide +kernel
theorem dX1_inRoom_6 : decode cX1_inRoom 6 = .ok (.getfield 18, 3) := by decide +kernel
theorem dX1_inRoom_9 : decode cX1_inRoom 9 = .ok (.if_icmp .ge 25, 3) := by decide +kernel
theorem dX1_inRoom_34 : decode cX1_inRoom 34 = .ok (.iload_n 2, 1) := by decide +kernel
theorem dX1_inRoom_35 : decode cX1_inRoom 35 = .ok (.ireturn, 1) := by decide +kernel
set_option maxHeartbeats 4000000 in
set_option maxRecDepth 100000 in
theorem c_X1_inRoom0 (l : Launch) (g : kG) (sz : Nat) (a : Nat → Nat) (x : Int32) : kMi l g yX1_inRoom cX1_inRoom 4 (some .int) 1 0 0 [.ref (a 0), .int x] sz [(a 0, .inr (1, [.int 0, .ref (a 1), .ref (a 2), .int 0])), (a 1, .inl (gI g, 7, .inl (fun _ => 0))), (a 2, .inl (gI g, 7, .inl (fun _ => 0)))] (fun (r : Int32) (u : Unit) => r = 0) (fun (u : Unit) => ([(a 0, .inr (1, [.int 0, .ref (a 1), .ref (a 2), .int 0])), (a 1, .inl (gI g, 7, .inl (fun _ => 0))), (a 2, .inl (gI g, 7, .inl (fun _ => 0)))] : va_W)) := by
  refine kMi.of (by decide) (Nat.le_of_ble_eq_true rfl) (fun p e s m below meth c A hx hb hr hml hown hts hlk hnm hKW hP hD hS hA ls hl => ?_)
  have hown : s.vm.findClass RX1 = some m.cls := hown
  have hl : lv_has ls 4 [(0, .ref (a 0)), (1, .int x)] := hl
  refine lv_iconst (v := 0) hx hb dX1_inRoom_0 (by decide) ?_
  refine lv_istore_n (lv' := [(2, .int 0), (0, .ref (a 0)), (1, .int x)]) hx hb dX1_inRoom_1 rfl hl (by decide) rfl (fun ls hl => ?_)
  refine lv_iconst (v := 0) hx hb dX1_inRoom_2 (by decide) ?_
  refine lv_istore_n (lv' := [(3, .int 0), (2, .int 0), (0, .ref (a 0)), (1, .int x)]) hx hb dX1_inRoom_3 rfl hl (by decide) rfl (fun ls hl => ?_)
  refine lv_iload_n hx hb dX1_inRoom_4 rfl (lv_at hl 0 rfl) ?_
  refine lv_aload_n hx hb dX1_inRoom_5 rfl (lv_at hl 2 rfl) ?_
  refine va_get (ci := 1) (C := RX1) (T := TX1) (N := 4) hx hb hts inlX1 hown hKW.1 hP 0 rfl rfl 0 (by decide) (hts _ wd_9_0) (fun _ h => h) rfl dX1_inRoom_6 ?_
  refine lv_icmp_ge (tgt := 34) hx hb dX1_inRoom_9 (by decide) (fun _ => ?_) (fun c => absurd c (by decide))
  refine lv_iload_n hx hb dX1_inRoom_34 rfl (lv_at hl 1 rfl) ?_
  exact k_iret () [0, 1, 2] hx hb hr hlk hP hD hS rfl rfl rfl rfl (Nat.le_of_ble_eq_true rfl) (Nat.le_of_ble_eq_true rfl) dX1_inRoom_35
theorem dX5_sumWorths_0 : decode cX5_sumWorths 0 = .ok (.iconst 0, 1) := by decide +kernel
theorem dX5_sumWorths_1 : decode cX5_sumWorths 1 = .ok (.istore_n 2, 1) := by decide +kernel
theorem dX5_sumWorths_2 : decode cX5_sumWorths 2 = .ok (.iload_n 2, 1) := by decide +kernel
theorem dX5_sumWorths_3 : decode cX5_sumWorths 3 = .ok (.aload_n 1, 1) := by decide +kernel
theorem dX5_sumWorths_4 : decode cX5_sumWorths 4 = .ok (.getfield 44, 3) := by decide +kernel
theorem dX5_sumWorths_7 : decode cX5_sumWorths 7 = .ok (.if_icmp .ge 22, 3) := by decide +kernel
theorem dX5_sumWorths_29 : decode cX5_sumWorths 29 = .ok (.return_, 1) := by decide +kernel
set_option maxHeartbeats 4000000 in
set_option maxRecDepth 100000 in
theorem c_X5_sumWorths0 (l : Launch) (g : kG) (sz : Nat) (pn : Nat) (pl : Nat) (pc : Nat) (pw : Nat) (xa : Int32) (xt : Int32) (a : Nat → Nat) : kMv l g yX5_sumWorths cX5_sumWorths 3 none 1 0 0 [.ref pn, .ref (a 0)] sz [(pn, .inr (5, [.ref pl, .ref pc, .ref pw, .int xa, .int xt])), (a 0, .inr (1, [.int 0, .ref (a 1), .ref (a 2), .int 0])), (a 1, .inl (gI g, 7, .inl (fun _ => 0))), (a 2, .inl (gI g, 7, .inl (fun _ => 0)))] (fun (u : Unit) => True) (fun (u : Unit) => ([(pn, .inr (5, [.ref pl, .ref pc, .ref pw, .int xa, .int xt])), (a 0, .inr (1, [.int 0, .ref (a 1), .ref (a 2), .int 0])), (a 1, .inl (gI g, 7, .inl (fun _ => 0))), (a 2, .inl (gI g, 7, .inl (fun _ => 0)))] : va_W)) := by
  refine kMv.of (by decide) (Nat.le_of_ble_eq_true rfl) (fun p e s m below meth c A hx hb hr hml hown hts hlk hnm hKW hP hD hS hA ls hl => ?_)
  have hown : s.vm.findClass RX5 = some m.cls := hown
  have hl : lv_has ls 3 [(0, .ref pn), (1, .ref (a 0))] := hl
  refine lv_iconst (v := 0) hx hb dX5_sumWorths_0 (by decide) ?_
  refine lv_istore_n (lv' := [(2, .int 0), (0, .ref pn), (1, .ref (a 0))]) hx hb dX5_sumWorths_1 rfl hl (by decide) rfl (fun ls hl => ?_)
  refine lv_iload_n hx hb dX5_sumWorths_2 rfl (lv_at hl 0 rfl) ?_
  refine lv_aload_n hx hb dX5_sumWorths_3 rfl (lv_at hl 2 rfl) ?_
  refine va_get (ci := 1) (C := RX1) (T := TX1) (N := 4) hx hb hts inlX1 hown hKW.1 hP 1 rfl rfl 0 (by decide) (hts _ wd_29_11) (fun _ h => h) rfl dX5_sumWorths_4 ?_
  refine lv_icmp_ge (tgt := 29) hx hb dX5_sumWorths_7 (by decide) (fun _ => ?_) (fun c => absurd c (by decide))
  exact k_vret () [0, 1, 2, 3] hx hb hr hlk hP hD hS trivial rfl rfl rfl (Nat.le_of_ble_eq_true rfl) (Nat.le_of_ble_eq_true rfl) dX5_sumWorths_29
theorem dX5_begin_0 : decode cX5_begin 0 = .ok (.aload_n 0, 1) := by decide +kernel
theorem dX5_begin_1 : decode cX5_begin 1 = .ok (.aload_n 1, 1) := by decide +kernel
theorem dX5_begin_2 : decode cX5_begin 2 = .ok (.invokevirtual 21, 3) := by decide +kernel
theorem dX5_begin_5 : decode cX5_begin 5 = .ok (.putfield 27, 3) := by decide +kernel
theorem dX5_begin_8 : decode cX5_begin 8 = .ok (.aload_n 0, 1) := by decide +kernel
theorem dX5_begin_9 : decode cX5_begin 9 = .ok (.aload_n 1, 1) := by decide +kernel
theorem dX5_begin_10 : decode cX5_begin 10 = .ok (.invokevirtual 30, 3) := by decide +kernel
theorem dX5_begin_13 : decode cX5_begin 13 = .ok (.putfield 33, 3) := by decide +kernel
theorem dX5_begin_16 : decode cX5_begin 16 = .ok (.aload_n 0, 1) := by decide +kernel
theorem dX5_begin_17 : decode cX5_begin 17 = .ok (.aload_n 1, 1) := by decide +kernel
theorem dX5_begin_18 : decode cX5_begin 18 = .ok (.invokevirtual 35, 3) := by decide +kernel
theorem dX5_begin_21 : decode cX5_begin 21 = .ok (.aload_n 1, 1) := by decide +kernel
theorem dX5_begin_22 : decode cX5_begin 22 = .ok (.iconst (-1), 1) := by decide +kernel
theorem dX5_begin_23 : decode cX5_begin 23 = .ok (.invokevirtual 39, 3) := by decide +kernel
theorem dX5_begin_26 : decode cX5_begin 26 = .ok (.istore_n 2, 1) := by decide +kernel
theorem dX5_begin_27 : decode cX5_begin 27 = .ok (.iconst 0, 1) := by decide +kernel
theorem dX5_begin_28 : decode cX5_begin 28 = .ok (.istore_n 3, 1) := by decide +kernel
theorem dX5_begin_29 : decode cX5_begin 29 = .ok (.iload_n 3, 1) := by decide +kernel
theorem dX5_begin_30 : decode cX5_begin 30 = .ok (.sipush 128, 3) := by decide +kernel
theorem dX5_begin_33 : decode cX5_begin 33 = .ok (.if_icmp .ge 29, 3) := by decide +kernel
theorem dX5_begin_62 : decode cX5_begin 62 = .ok (.return_, 1) := by decide +kernel
theorem dX5_begin_36 : decode cX5_begin 36 = .ok (.aload_n 0, 1) := by decide +kernel
theorem dX5_begin_37 : decode cX5_begin 37 = .ok (.getfield 11, 3) := by decide +kernel
theorem dX5_begin_40 : decode cX5_begin 40 = .ok (.iload_n 3, 1) := by decide +kernel
theorem dX5_begin_41 : decode cX5_begin 41 = .ok (.iload_n 3, 1) := by decide +kernel
theorem dX5_begin_42 : decode cX5_begin 42 = .ok (.iload_n 2, 1) := by decide +kernel
theorem dX5_begin_43 : decode cX5_begin 43 = .ok (.iconst (-1), 1) := by decide +kernel
theorem dX5_begin_44 : decode cX5_begin 44 = .ok (.ixor, 1) := by decide +kernel
theorem dX5_begin_45 : decode cX5_begin 45 = .ok (.iand, 1) := by decide +kernel
theorem dX5_begin_46 : decode cX5_begin 46 = .ok (.ifCond .ne 7, 3) := by decide +kernel
theorem dX5_begin_53 : decode cX5_begin 53 = .ok (.ldc 43, 2) := by decide +kernel
theorem dX5_begin_55 : decode cX5_begin 55 = .ok (.iastore, 1) := by decide +kernel
theorem dX5_begin_56 : decode cX5_begin 56 = .ok (.iinc 3 1, 3) := by decide +kernel
theorem dX5_begin_59 : decode cX5_begin 59 = .ok (.goto (-30), 3) := by decide +kernel
theorem dX5_begin_49 : decode cX5_begin 49 = .ok (.iconst 0, 1) := by decide +kernel
theorem dX5_begin_50 : decode cX5_begin 50 = .ok (.goto 5, 3) := by decide +kernel
set_option maxHeartbeats 4000000 in
set_option maxRecDepth 100000 in
theorem c_X5_begin0_l29 (l : Launch) (g : kG) (pn : Nat → Nat) (a : Nat → Nat) {p : Program} {e : Env} {s : State} {m : MethodId} {below : List Frame} {meth : Method} {c : Code} {A : Nat → Prop} (hx : p.tables.exec = Jvm.exec) (hb : c.code = cX5_begin) (hr : meth.sig.returnType = none) (hml : c.maxLocals = 4) (hown : s.vm.findClass RX5 = some m.cls) (hts : ∀ w ∈ wsL_law, w.before ([.ref (pn 0), .ref (a 0)] : List Value).toArray s = true) (hlk : meth.locks = false) (hnm : meth.name = yX5_begin.name) (hKW : kKW g s) (hA : ∀ q, s.heap.size ≤ q → A q) :
    ∀ (n : Nat) (i : Nat) (f : Nat → Int32) (hi : i ≤ 128) (hfuel : 128 < i + n) (hf : 1 ≤ i → f 0 = 0) (H : Heap) (locs : List Loc), va_P g.1 vwCl [(pn 0, .inr (5, [.ref (pn 1), .ref (pn 2), .ref (pn 3), .int 0, .int 0])), (pn 1, .inl (gI g, 128, .inl f)), (a 0, .inr (1, [.int 0, .ref (a 1), .ref (a 2), .int 0])), (a 1, .inl (gI g, 7, .inl (fun _ => 0))), (a 2, .inl (gI g, 7, .inl (fun _ => 0)))] H → va_D A [(pn 0, .inr (5, [.ref (pn 1), .ref (pn 2), .ref (pn 3), .int 0, .int 0])), (pn 1, .inl (gI g, 128, .inl f)), (a 0, .inr (1, [.int 0, .ref (a 1), .ref (a 2), .int 0])), (a 1, .inl (gI g, 7, .inl (fun _ => 0))), (a 2, .inl (gI g, 7, .inl (fun _ => 0)))] → va_S A s.heap H locs → ∀ (ls : Array Slot), lv_has ls 4 [(0, .ref (pn 0)), (1, .ref (a 0)), (2, .int 0), (3, .int (nI i))] → W p l e (kR 2 0 0) s m ([.ref (pn 0), .ref (a 0)] : List Value).toArray below meth c H locs 0 0 (MQ below (va_Qv (fun (u : (Nat → Int32)) => u 0 = 0) (fun u t => kPost g A ((fun (u : (Nat → Int32)) => ([(pn 0, .inr (5, [.ref (pn 1), .ref (pn 2), .ref (pn 3), .int 0, .int 0])), (pn 1, .inl (gI g, 128, .inl u)), (a 0, .inr (1, [.int 0, .ref (a 1), .ref (a 2), .int 0])), (a 1, .inl (gI g, 7, .inl (fun _ => 0))), (a 2, .inl (gI g, 7, .inl (fun _ => 0)))] : va_W)) u) t) A) ([.ref (pn 0), .ref (a 0)] : List Value).toArray s 0 0 A) (F0 m 29 ls []) := by
  intro n
  induction n with
  | zero =>
    intro i f hi hfuel hf
    exact absurd hfuel (by omega)
  | succ n ih =>
    intro i f hi hfuel hf H locs hP hD hS ls hl
    refine lv_iload_n hx hb dX5_begin_29 rfl (lv_at hl 3 rfl) ?_
    refine lv_sipush (v := 128) hx hb dX5_begin_30 (by decide) ?_
    refine lv_icmp_ge (tgt := 62) hx hb dX5_begin_33 (by decide) (fun c_13 => ?_) (fun c_13 => ?_)
    · exact k_vret f [0, 1, 2, 3, 4] hx hb hr hlk hP hD hS (hf (by have := k_ge (N := 128) (by decide) hi c_13; omega)) rfl rfl rfl (Nat.le_of_ble_eq_true rfl) (Nat.le_of_ble_eq_true rfl) dX5_begin_62
    · have hlt : i < 128 := k_lt (by decide) hi c_13
      refine lv_aload_n hx hb dX5_begin_36 rfl (lv_at hl 0 rfl) ?_
      refine va_get (ci := 5) (C := RX5) (T := TX5) (N := 5) hx hb hts inlX5 hown hKW.1 hP 0 rfl rfl 0 (by decide) (hts _ wd_5_14) (fun _ h => h) rfl dX5_begin_37 ?_
      refine lv_iload_n hx hb dX5_begin_40 rfl (lv_at hl 3 rfl) ?_
      refine lv_iload_n hx hb dX5_begin_41 rfl (lv_at hl 3 rfl) ?_
      refine lv_iload_n hx hb dX5_begin_42 rfl (lv_at hl 2 rfl) ?_
      refine lv_iconst (v := (-1)) hx hb dX5_begin_43 (by decide) ?_
      refine lv_ixor hx hb dX5_begin_44 ?_
      refine k_top (y := (-1)) (by decide) ?_
      refine lv_iand hx hb dX5_begin_45 ?_
      refine lv_if_ne (tgt := 53) hx hb dX5_begin_46 (by decide) (fun c_14 => ?_) (fun c_14 => ?_)
      · refine lv_ldc (v := 2147483647) hx hb hown (hts _ wd_29_1) dX5_begin_53 ?_
        refine va_iast hx hb hKW.1 hP hD hS 1 0 rfl rfl (vp_in_nI (by omega) (by decide)) dX5_begin_55 (fun H locs hP hD hS => ?_)
        have hP : va_P g.1 vwCl [(pn 0, .inr (5, [.ref (pn 1), .ref (pn 2), .ref (pn 3), .int 0, .int 0])), (pn 1, .inl (gI g, 128, .inl (upd f (nI i).toNatClampNeg 2147483647))), (a 0, .inr (1, [.int 0, .ref (a 1), .ref (a 2), .int 0])), (a 1, .inl (gI g, 7, .inl (fun _ => 0))), (a 2, .inl (gI g, 7, .inl (fun _ => 0)))] H := hP
        have hD : va_D A [(pn 0, .inr (5, [.ref (pn 1), .ref (pn 2), .ref (pn 3), .int 0, .int 0])), (pn 1, .inl (gI g, 128, .inl (upd f (nI i).toNatClampNeg 2147483647))), (a 0, .inr (1, [.int 0, .ref (a 1), .ref (a 2), .int 0])), (a 1, .inl (gI g, 7, .inl (fun _ => 0))), (a 2, .inl (gI g, 7, .inl (fun _ => 0)))] := hD
        obtain ⟨f_15, ef_15⟩ : ∃ zz_ : Nat → Int32, zz_ = upd f (nI i).toNatClampNeg 2147483647 := ⟨_, rfl⟩
        rw [← ef_15] at hP hD
        refine lv_iinc (v := nI (i + 1)) (lv' := [(3, .int (nI (i + 1))), (0, .ref (pn 0)), (1, .ref (a 0)), (2, .int 0)]) hx hb dX5_begin_56 hl (k := 3) rfl (by first | exact nI_1 _ | (simp [nI]; done)) (by decide) rfl (fun ls hl => ?_)
        refine lv_goto (tgt := 29) hx hb dX5_begin_59 (by decide) ?_
        exact ih (i + 1) f_15 (by omega) (by omega) (fun _ => k_beg hf ef_15 (by omega) (fun h0 => by first | rfl | (subst h0; exact absurd (by decide) c_14))) _ _ (hP.sub [0, 1, 2, 3, 4] rfl) (hD.sub [0, 1, 2, 3, 4] (by decide) rfl) hS ls (lv_sub hl [1, 2, 3, 0] rfl)
      · refine lv_iconst (v := 0) hx hb dX5_begin_49 (by decide) ?_
        refine lv_goto (tgt := 55) hx hb dX5_begin_50 (by decide) ?_
        refine va_iast hx hb hKW.1 hP hD hS 1 0 rfl rfl (vp_in_nI (by omega) (by decide)) dX5_begin_55 (fun H locs hP hD hS => ?_)
        have hP : va_P g.1 vwCl [(pn 0, .inr (5, [.ref (pn 1), .ref (pn 2), .ref (pn 3), .int 0, .int 0])), (pn 1, .inl (gI g, 128, .inl (upd f (nI i).toNatClampNeg 0))), (a 0, .inr (1, [.int 0, .ref (a 1), .ref (a 2), .int 0])), (a 1, .inl (gI g, 7, .inl (fun _ => 0))), (a 2, .inl (gI g, 7, .inl (fun _ => 0)))] H := hP
        have hD : va_D A [(pn 0, .inr (5, [.ref (pn 1), .ref (pn 2), .ref (pn 3), .int 0, .int 0])), (pn 1, .inl (gI g, 128, .inl (upd f (nI i).toNatClampNeg 0))), (a 0, .inr (1, [.int 0, .ref (a 1), .ref (a 2), .int 0])), (a 1, .inl (gI g, 7, .inl (fun _ => 0))), (a 2, .inl (gI g, 7, .inl (fun _ => 0)))] := hD
        obtain ⟨f_16, ef_16⟩ : ∃ zz_ : Nat → Int32, zz_ = upd f (nI i).toNatClampNeg 0 := ⟨_, rfl⟩
        rw [← ef_16] at hP hD
        refine lv_iinc (v := nI (i + 1)) (lv' := [(3, .int (nI (i + 1))), (0, .ref (pn 0)), (1, .ref (a 0)), (2, .int 0)]) hx hb dX5_begin_56 hl (k := 3) rfl (by first | exact nI_1 _ | (simp [nI]; done)) (by decide) rfl (fun ls hl => ?_)
        refine lv_goto (tgt := 29) hx hb dX5_begin_59 (by decide) ?_
        exact ih (i + 1) f_16 (by omega) (by omega) (fun _ => k_beg hf ef_16 (by omega) (fun h0 => by first | rfl | (subst h0; exact absurd (by decide) c_14))) _ _ (hP.sub [0, 1, 2, 3, 4] rfl) (hD.sub [0, 1, 2, 3, 4] (by decide) rfl) hS ls (lv_sub hl [1, 2, 3, 0] rfl)
set_option maxHeartbeats 4000000 in
set_option maxRecDepth 100000 in
theorem c_X5_begin0 (l : Launch) (g : kG) (sz : Nat) (pn : Nat → Nat) (a : Nat → Nat) : kMv l g yX5_begin cX5_begin 4 none 2 0 0 [.ref (pn 0), .ref (a 0)] sz [(pn 0, .inr (5, [.ref (pn 1), .ref (pn 2), .ref (pn 3), .int 0, .int 0])), (pn 1, .inl (gI g, 128, .inl (fun _ => 0))), (pn 2, .inl (gI g, 128, .inl (fun _ => 0))), (pn 3, .inl (gI g, 128, .inl (fun _ => 0))), (a 0, .inr (1, [.int 0, .ref (a 1), .ref (a 2), .int 0])), (a 1, .inl (gI g, 7, .inl (fun _ => 0))), (a 2, .inl (gI g, 7, .inl (fun _ => 0)))] (fun (u : (Nat → Int32)) => u 0 = 0) (fun (u : (Nat → Int32)) => ([(pn 0, .inr (5, [.ref (pn 1), .ref (pn 2), .ref (pn 3), .int 0, .int 0])), (pn 1, .inl (gI g, 128, .inl u)), (a 0, .inr (1, [.int 0, .ref (a 1), .ref (a 2), .int 0])), (a 1, .inl (gI g, 7, .inl (fun _ => 0))), (a 2, .inl (gI g, 7, .inl (fun _ => 0)))] : va_W)) := by
  refine kMv.of (by decide) (Nat.le_of_ble_eq_true rfl) (fun p e s m below meth c A hx hb hr hml hown hts hlk hnm hKW hP hD hS hA ls hl => ?_)
  have hown : s.vm.findClass RX5 = some m.cls := hown
  have hl : lv_has ls 4 [(0, .ref (pn 0)), (1, .ref (a 0))] := hl
  refine lv_aload_n hx hb dX5_begin_0 rfl (lv_at hl 0 rfl) ?_
  refine lv_aload_n hx hb dX5_begin_1 rfl (lv_at hl 1 rfl) ?_
  refine k_Vi [4, 5, 6] [0, 1, 2, 3] 4 1 (wr := [(pn 0, .inr (5, [.ref (pn 1), .ref (pn 2), .ref (pn 3), .int 0, .int 0])), (pn 1, .inl (gI g, 128, .inl (fun _ => 0))), (pn 2, .inl (gI g, 128, .inl (fun _ => 0))), (pn 3, .inl (gI g, 128, .inl (fun _ => 0)))]) hx hb hml hown hts hKW hP hD hS hA hl.1 (c_X1_able0 l g _ a ) rfl rfl rfl wd_29_5 wd_2_21 wd_29_2 wd_29_3 wd_29_4 yd_X1_able ⟨Nat.le_of_ble_eq_true rfl, Nat.le_of_ble_eq_true rfl⟩ rfl rfl rfl rfl rfl (by decide) rfl (Nat.le_of_ble_eq_true rfl) dX5_begin_2 ⟨Nat.le_of_ble_eq_true rfl, Nat.le_of_ble_eq_true rfl⟩ (fun r_1 u_2 H locs hw_3 hP hD hS => ?_)
  have hP : va_P g.1 vwCl [(pn 0, .inr (5, [.ref (pn 1), .ref (pn 2), .ref (pn 3), .int 0, .int 0])), (pn 1, .inl (gI g, 128, .inl (fun _ => 0))), (pn 2, .inl (gI g, 128, .inl (fun _ => 0))), (pn 3, .inl (gI g, 128, .inl (fun _ => 0))), (a 0, .inr (1, [.int 0, .ref (a 1), .ref (a 2), .int 0])), (a 1, .inl (gI g, 7, .inl (fun _ => 0))), (a 2, .inl (gI g, 7, .inl (fun _ => 0)))] H := hP
  have hD : va_D A [(pn 0, .inr (5, [.ref (pn 1), .ref (pn 2), .ref (pn 3), .int 0, .int 0])), (pn 1, .inl (gI g, 128, .inl (fun _ => 0))), (pn 2, .inl (gI g, 128, .inl (fun _ => 0))), (pn 3, .inl (gI g, 128, .inl (fun _ => 0))), (a 0, .inr (1, [.int 0, .ref (a 1), .ref (a 2), .int 0])), (a 1, .inl (gI g, 7, .inl (fun _ => 0))), (a 2, .inl (gI g, 7, .inl (fun _ => 0)))] := hD
  have hw_3 : r_1 = 0 := hw_3
  subst hw_3
  refine va_put (ci := 5) (v := .int 0) (C := RX5) (T := TX5) (N := 5) hx hb hts inlX5 tyX5 tyX5_ok nmX5 hown hKW.1 hP hD hS 0 rfl rfl 3 (by decide) (hts _ wd_28_23) (fun _ h => h) rfl (tyX5_ok 3 (by decide)) rfl rfl (Nat.le_of_ble_eq_true rfl) dX5_begin_5 (fun H locs hP hD hS => ?_)
  have hP : va_P g.1 vwCl [(pn 0, .inr (5, [.ref (pn 1), .ref (pn 2), .ref (pn 3), .int 0, .int 0])), (pn 1, .inl (gI g, 128, .inl (fun _ => 0))), (pn 2, .inl (gI g, 128, .inl (fun _ => 0))), (pn 3, .inl (gI g, 128, .inl (fun _ => 0))), (a 0, .inr (1, [.int 0, .ref (a 1), .ref (a 2), .int 0])), (a 1, .inl (gI g, 7, .inl (fun _ => 0))), (a 2, .inl (gI g, 7, .inl (fun _ => 0)))] H := hP
  have hD : va_D A [(pn 0, .inr (5, [.ref (pn 1), .ref (pn 2), .ref (pn 3), .int 0, .int 0])), (pn 1, .inl (gI g, 128, .inl (fun _ => 0))), (pn 2, .inl (gI g, 128, .inl (fun _ => 0))), (pn 3, .inl (gI g, 128, .inl (fun _ => 0))), (a 0, .inr (1, [.int 0, .ref (a 1), .ref (a 2), .int 0])), (a 1, .inl (gI g, 7, .inl (fun _ => 0))), (a 2, .inl (gI g, 7, .inl (fun _ => 0)))] := hD
  refine lv_aload_n hx hb dX5_begin_8 rfl (lv_at hl 0 rfl) ?_
  refine lv_aload_n hx hb dX5_begin_9 rfl (lv_at hl 1 rfl) ?_
  refine k_Vi [4, 5, 6] [0, 1, 2, 3] 4 1 (wr := [(pn 0, .inr (5, [.ref (pn 1), .ref (pn 2), .ref (pn 3), .int 0, .int 0])), (pn 1, .inl (gI g, 128, .inl (fun _ => 0))), (pn 2, .inl (gI g, 128, .inl (fun _ => 0))), (pn 3, .inl (gI g, 128, .inl (fun _ => 0)))]) hx hb hml hown hts hKW hP hD hS hA hl.1 (c_X1_trained0 l g _ a ) rfl rfl rfl wd_26_14 wd_2_21 wd_29_6 wd_26_12 wd_26_13 yd_X1_trained ⟨Nat.le_of_ble_eq_true rfl, Nat.le_of_ble_eq_true rfl⟩ rfl rfl rfl rfl rfl (by decide) rfl (Nat.le_of_ble_eq_true rfl) dX5_begin_10 ⟨Nat.le_of_ble_eq_true rfl, Nat.le_of_ble_eq_true rfl⟩ (fun r_4 u_5 H locs hw_6 hP hD hS => ?_)
  have hP : va_P g.1 vwCl [(pn 0, .inr (5, [.ref (pn 1), .ref (pn 2), .ref (pn 3), .int 0, .int 0])), (pn 1, .inl (gI g, 128, .inl (fun _ => 0))), (pn 2, .inl (gI g, 128, .inl (fun _ => 0))), (pn 3, .inl (gI g, 128, .inl (fun _ => 0))), (a 0, .inr (1, [.int 0, .ref (a 1), .ref (a 2), .int 0])), (a 1, .inl (gI g, 7, .inl (fun _ => 0))), (a 2, .inl (gI g, 7, .inl (fun _ => 0)))] H := hP
  have hD : va_D A [(pn 0, .inr (5, [.ref (pn 1), .ref (pn 2), .ref (pn 3), .int 0, .int 0])), (pn 1, .inl (gI g, 128, .inl (fun _ => 0))), (pn 2, .inl (gI g, 128, .inl (fun _ => 0))), (pn 3, .inl (gI g, 128, .inl (fun _ => 0))), (a 0, .inr (1, [.int 0, .ref (a 1), .ref (a 2), .int 0])), (a 1, .inl (gI g, 7, .inl (fun _ => 0))), (a 2, .inl (gI g, 7, .inl (fun _ => 0)))] := hD
  have hw_6 : r_4 = 0 := hw_6
  subst hw_6
  refine va_put (ci := 5) (v := .int 0) (C := RX5) (T := TX5) (N := 5) hx hb hts inlX5 tyX5 tyX5_ok nmX5 hown hKW.1 hP hD hS 0 rfl rfl 4 (by decide) (hts _ wd_29_0) (fun _ h => h) rfl (tyX5_ok 4 (by decide)) rfl rfl (Nat.le_of_ble_eq_true rfl) dX5_begin_13 (fun H locs hP hD hS => ?_)
  have hP : va_P g.1 vwCl [(pn 0, .inr (5, [.ref (pn 1), .ref (pn 2), .ref (pn 3), .int 0, .int 0])), (pn 1, .inl (gI g, 128, .inl (fun _ => 0))), (pn 2, .inl (gI g, 128, .inl (fun _ => 0))), (pn 3, .inl (gI g, 128, .inl (fun _ => 0))), (a 0, .inr (1, [.int 0, .ref (a 1), .ref (a 2), .int 0])), (a 1, .inl (gI g, 7, .inl (fun _ => 0))), (a 2, .inl (gI g, 7, .inl (fun _ => 0)))] H := hP
  have hD : va_D A [(pn 0, .inr (5, [.ref (pn 1), .ref (pn 2), .ref (pn 3), .int 0, .int 0])), (pn 1, .inl (gI g, 128, .inl (fun _ => 0))), (pn 2, .inl (gI g, 128, .inl (fun _ => 0))), (pn 3, .inl (gI g, 128, .inl (fun _ => 0))), (a 0, .inr (1, [.int 0, .ref (a 1), .ref (a 2), .int 0])), (a 1, .inl (gI g, 7, .inl (fun _ => 0))), (a 2, .inl (gI g, 7, .inl (fun _ => 0)))] := hD
  refine lv_aload_n hx hb dX5_begin_16 rfl (lv_at hl 0 rfl) ?_
  refine lv_aload_n hx hb dX5_begin_17 rfl (lv_at hl 1 rfl) ?_
  refine k_Vv [0, 4, 5, 6] [1, 2, 3] 0 5 (wr := [(pn 1, .inl (gI g, 128, .inl (fun _ => 0))), (pn 2, .inl (gI g, 128, .inl (fun _ => 0))), (pn 3, .inl (gI g, 128, .inl (fun _ => 0)))]) hx hb hml hown hts hKW hP hD hS hA hl.1 (c_X5_sumWorths0 l g _ (pn 0) (pn 1) (pn 2) (pn 3) 0 0 a ) rfl rfl rfl wd_29_10 wd_2_2 wd_29_7 wd_29_8 wd_29_9 yd_X5_sumWorths ⟨Nat.le_of_ble_eq_true rfl, Nat.le_of_ble_eq_true rfl⟩ rfl rfl rfl rfl rfl (by decide) rfl (Nat.le_of_ble_eq_true rfl) dX5_begin_18 ⟨Nat.le_of_ble_eq_true rfl, Nat.le_of_ble_eq_true rfl⟩ (fun u_8 H locs hw_9 hP hD hS => ?_)
  have hP : va_P g.1 vwCl [(pn 1, .inl (gI g, 128, .inl (fun _ => 0))), (pn 2, .inl (gI g, 128, .inl (fun _ => 0))), (pn 3, .inl (gI g, 128, .inl (fun _ => 0))), (pn 0, .inr (5, [.ref (pn 1), .ref (pn 2), .ref (pn 3), .int 0, .int 0])), (a 0, .inr (1, [.int 0, .ref (a 1), .ref (a 2), .int 0])), (a 1, .inl (gI g, 7, .inl (fun _ => 0))), (a 2, .inl (gI g, 7, .inl (fun _ => 0)))] H := hP
  have hD : va_D A [(pn 1, .inl (gI g, 128, .inl (fun _ => 0))), (pn 2, .inl (gI g, 128, .inl (fun _ => 0))), (pn 3, .inl (gI g, 128, .inl (fun _ => 0))), (pn 0, .inr (5, [.ref (pn 1), .ref (pn 2), .ref (pn 3), .int 0, .int 0])), (a 0, .inr (1, [.int 0, .ref (a 1), .ref (a 2), .int 0])), (a 1, .inl (gI g, 7, .inl (fun _ => 0))), (a 2, .inl (gI g, 7, .inl (fun _ => 0)))] := hD
  refine lv_aload_n hx hb dX5_begin_21 rfl (lv_at hl 1 rfl) ?_
  refine lv_iconst (v := (-1)) hx hb dX5_begin_22 (by decide) ?_
  refine k_Vi [4, 5, 6] [0, 1, 2, 3] 4 1 (wr := [(pn 1, .inl (gI g, 128, .inl (fun _ => 0))), (pn 2, .inl (gI g, 128, .inl (fun _ => 0))), (pn 3, .inl (gI g, 128, .inl (fun _ => 0))), (pn 0, .inr (5, [.ref (pn 1), .ref (pn 2), .ref (pn 3), .int 0, .int 0]))]) hx hb hml hown hts hKW hP hD hS hA hl.1 (c_X1_inRoom0 l g _ a (-1) ) rfl rfl rfl wd_23_14 wd_2_21 wd_29_16 wd_23_12 wd_23_13 yd_X1_inRoom ⟨Nat.le_of_ble_eq_true rfl, Nat.le_of_ble_eq_true rfl⟩ rfl rfl rfl rfl rfl (by decide) rfl (Nat.le_of_ble_eq_true rfl) dX5_begin_23 ⟨Nat.le_of_ble_eq_true rfl, Nat.le_of_ble_eq_true rfl⟩ (fun r_10 u_11 H locs hw_12 hP hD hS => ?_)
  have hP : va_P g.1 vwCl [(pn 1, .inl (gI g, 128, .inl (fun _ => 0))), (pn 2, .inl (gI g, 128, .inl (fun _ => 0))), (pn 3, .inl (gI g, 128, .inl (fun _ => 0))), (pn 0, .inr (5, [.ref (pn 1), .ref (pn 2), .ref (pn 3), .int 0, .int 0])), (a 0, .inr (1, [.int 0, .ref (a 1), .ref (a 2), .int 0])), (a 1, .inl (gI g, 7, .inl (fun _ => 0))), (a 2, .inl (gI g, 7, .inl (fun _ => 0)))] H := hP
  have hD : va_D A [(pn 1, .inl (gI g, 128, .inl (fun _ => 0))), (pn 2, .inl (gI g, 128, .inl (fun _ => 0))), (pn 3, .inl (gI g, 128, .inl (fun _ => 0))), (pn 0, .inr (5, [.ref (pn 1), .ref (pn 2), .ref (pn 3), .int 0, .int 0])), (a 0, .inr (1, [.int 0, .ref (a 1), .ref (a 2), .int 0])), (a 1, .inl (gI g, 7, .inl (fun _ => 0))), (a 2, .inl (gI g, 7, .inl (fun _ => 0)))] := hD
  have hw_12 : r_10 = 0 := hw_12
  subst hw_12
  refine lv_istore_n (lv' := [(2, .int 0), (0, .ref (pn 0)), (1, .ref (a 0))]) hx hb dX5_begin_26 rfl hl (by decide) rfl (fun ls hl => ?_)
  refine lv_iconst (v := 0) hx hb dX5_begin_27 (by decide) ?_
  refine lv_istore_n (lv' := [(3, .int 0), (2, .int 0), (0, .ref (pn 0)), (1, .ref (a 0))]) hx hb dX5_begin_28 rfl hl (by decide) rfl (fun ls hl => ?_)
  exact c_X5_begin0_l29 l g pn a  hx hb hr hml hown hts hlk hnm hKW hA 129 0 (fun _ => 0) (by omega) (by omega) (fun _ => rfl) _ _ (hP.sub [3, 0, 4, 5, 6] rfl) (hD.sub [3, 0, 4, 5, 6] (by decide) rfl) hS ls (lv_sub hl [2, 3, 1, 0] rfl)
theorem dX5_isPossible_0 : decode cX5_isPossible 0 = .ok (.aload_n 0, 1) := by decide +kernel
theorem dX5_isPossible_1 : decode cX5_isPossible 1 = .ok (.getfield 11, 3) := by decide +kernel
theorem dX5_isPossible_4 : decode cX5_isPossible 4 = .ok (.aload_n 0, 1) := by decide +kernel
theorem dX5_isPossible_5 : decode cX5_isPossible 5 = .ok (.getfield 27, 3) := by decide +kernel
theorem dX5_isPossible_8 : decode cX5_isPossible 8 = .ok (.iaload, 1) := by decide +kernel
theorem dX5_isPossible_9 : decode cX5_isPossible 9 = .ok (.ldc 43, 2) := by decide +kernel
theorem dX5_isPossible_11 : decode cX5_isPossible 11 = .ok (.if_icmp .eq 7, 3) := by decide +kernel
theorem dX5_isPossible_14 : decode cX5_isPossible 14 = .ok (.iconst 1, 1) := by decide +kernel
theorem dX5_isPossible_15 : decode cX5_isPossible 15 = .ok (.goto 4, 3) := by decide +kernel
theorem dX5_isPossible_19 : decode cX5_isPossible 19 = .ok (.ireturn, 1) := by decide +kernel
set_option maxHeartbeats 4000000 in
set_option maxRecDepth 100000 in
theorem c_X5_isPossible0 (l : Launch) (g : kG) (sz : Nat) (pn : Nat → Nat) (f : Nat → Int32) (hf : f 0 = 0) : kMi l g yX5_isPossible cX5_isPossible 1 (some .boolean) 1 0 0 [.ref (pn 0)] sz [(pn 0, .inr (5, [.ref (pn 1), .ref (pn 2), .ref (pn 3), .int 0, .int 0])), (pn 1, .inl (gI g, 128, .inl f))] (fun (r : Int32) (u : Unit) => r = 1) (fun (u : Unit) => ([(pn 0, .inr (5, [.ref (pn 1), .ref (pn 2), .ref (pn 3), .int 0, .int 0])), (pn 1, .inl (gI g, 128, .inl f))] : va_W)) := by
  refine kMi.of (by decide) (Nat.le_of_ble_eq_true rfl) (fun p e s m below meth c A hx hb hr hml hown hts hlk hnm hKW hP hD hS hA ls hl => ?_)
  have hown : s.vm.findClass RX5 = some m.cls := hown
  have hl : lv_has ls 1 [(0, .ref (pn 0))] := hl
  refine lv_aload_n hx hb dX5_isPossible_0 rfl (lv_at hl 0 rfl) ?_
  refine va_get (ci := 5) (C := RX5) (T := TX5) (N := 5) hx hb hts inlX5 hown hKW.1 hP 0 rfl rfl 0 (by decide) (hts _ wd_5_14) (fun _ h => h) rfl dX5_isPossible_1 ?_
  refine lv_aload_n hx hb dX5_isPossible_4 rfl (lv_at hl 0 rfl) ?_
  refine va_get (ci := 5) (C := RX5) (T := TX5) (N := 5) hx hb hts inlX5 hown hKW.1 hP 0 rfl rfl 3 (by decide) (hts _ wd_28_23) (fun _ h => h) rfl dX5_isPossible_5 ?_
  refine va_iald hx hb hKW.1 hP 1 0 rfl rfl (show ¬ _ by decide) dX5_isPossible_8 ?_
  refine k_top (y := f 0) rfl ?_
  refine k_top (y := 0) hf ?_
  refine lv_ldc (v := 2147483647) hx hb hown (hts _ wd_29_1) dX5_isPossible_9 ?_
  refine lv_icmp_eq (tgt := 18) hx hb dX5_isPossible_11 (by decide) (fun c => absurd c (by decide)) (fun _ => ?_)
  refine lv_iconst (v := 1) hx hb dX5_isPossible_14 (by decide) ?_
  refine lv_goto (tgt := 19) hx hb dX5_isPossible_15 (by decide) ?_
  exact k_zret () [0, 1] hx hb hr hlk hP hD hS rfl rfl rfl rfl rfl (Nat.le_of_ble_eq_true rfl) (Nat.le_of_ble_eq_true rfl) dX5_isPossible_19
theorem dX5_movedHands_0 : decode cX5_movedHands 0 = .ok (.aload_n 0, 1) := by decide +kernel
theorem dX5_movedHands_1 : decode cX5_movedHands 1 = .ok (.getfield 11, 3) := by decide +kernel
theorem dX5_movedHands_4 : decode cX5_movedHands 4 = .ok (.aload_n 0, 1) := by decide +kernel
theorem dX5_movedHands_5 : decode cX5_movedHands 5 = .ok (.getfield 27, 3) := by decide +kernel
theorem dX5_movedHands_8 : decode cX5_movedHands 8 = .ok (.iaload, 1) := by decide +kernel
theorem dX5_movedHands_9 : decode cX5_movedHands 9 = .ok (.ldc 56, 2) := by decide +kernel
theorem dX5_movedHands_11 : decode cX5_movedHands 11 = .ok (.idiv, 1) := by decide +kernel
theorem dX5_movedHands_12 : decode cX5_movedHands 12 = .ok (.ireturn, 1) := by decide +kernel
set_option maxHeartbeats 4000000 in
set_option maxRecDepth 100000 in
theorem c_X5_movedHands0 (l : Launch) (g : kG) (sz : Nat) (pn : Nat → Nat) (f : Nat → Int32) (hf : f 0 = 0) : kMi l g yX5_movedHands cX5_movedHands 1 (some .int) 1 0 0 [.ref (pn 0)] sz [(pn 0, .inr (5, [.ref (pn 1), .ref (pn 2), .ref (pn 3), .int 0, .int 0])), (pn 1, .inl (gI g, 128, .inl f))] (fun (r : Int32) (u : Unit) => r = 0) (fun (u : Unit) => ([] : va_W)) := by
  refine kMi.of (by decide) (Nat.le_of_ble_eq_true rfl) (fun p e s m below meth c A hx hb hr hml hown hts hlk hnm hKW hP hD hS hA ls hl => ?_)
  have hown : s.vm.findClass RX5 = some m.cls := hown
  have hl : lv_has ls 1 [(0, .ref (pn 0))] := hl
  refine lv_aload_n hx hb dX5_movedHands_0 rfl (lv_at hl 0 rfl) ?_
  refine va_get (ci := 5) (C := RX5) (T := TX5) (N := 5) hx hb hts inlX5 hown hKW.1 hP 0 rfl rfl 0 (by decide) (hts _ wd_5_14) (fun _ h => h) rfl dX5_movedHands_1 ?_
  refine lv_aload_n hx hb dX5_movedHands_4 rfl (lv_at hl 0 rfl) ?_
  refine va_get (ci := 5) (C := RX5) (T := TX5) (N := 5) hx hb hts inlX5 hown hKW.1 hP 0 rfl rfl 3 (by decide) (hts _ wd_28_23) (fun _ h => h) rfl dX5_movedHands_5 ?_
  refine va_iald hx hb hKW.1 hP 1 0 rfl rfl (show ¬ _ by decide) dX5_movedHands_8 ?_
  refine k_top (y := f 0) rfl ?_
  refine k_top (y := 0) hf ?_
  refine lv_ldc (v := 279936) hx hb hown (hts _ wd_30_2) dX5_movedHands_9 ?_
  refine lv_idiv hx hb dX5_movedHands_11 (by decide) ?_
  refine k_top (y := 0) (by decide) ?_
  exact k_iret () [] hx hb hr hlk hP hD hS rfl rfl rfl rfl (Nat.le_of_ble_eq_true rfl) (Nat.le_of_ble_eq_true rfl) dX5_movedHands_12
theorem dJ7_fill_53178_0 : decode cJ7_fill_53178 0 = .ok (.iconst 0, 1) := by decide +kernel
theorem dJ7_fill_53178_1 : decode cJ7_fill_53178 1 = .ok (.istore_n 2, 1) := by decide +kernel
theorem dJ7_fill_53178_2 : decode cJ7_fill_53178 2 = .ok (.aload_n 0, 1) := by decide +kernel
theorem dJ7_fill_53178_3 : decode cJ7_fill_53178 3 = .ok (.arraylength, 1) := by decide +kernel
theorem dJ7_fill_53178_4 : decode cJ7_fill_53178 4 = .ok (.istore_n 3, 1) := by decide +kernel
theorem dJ7_fill_53178_5 : decode cJ7_fill_53178 5 = .ok (.iload_n 2, 1) := by decide +kernel
theorem dJ7_fill_53178_6 : decode cJ7_fill_53178 6 = .ok (.iload_n 3, 1) := by decide +kernel
theorem dJ7_fill_53178_7 : decode cJ7_fill_53178 7 = .ok (.if_icmp .ge 13, 3) := by decide +kernel
theorem dJ7_fill_53178_20 : decode cJ7_fill_53178 20 = .ok (.return_, 1) := by decide +kernel
theorem dJ7_fill_53178_10 : decode cJ7_fill_53178 10 = .ok (.aload_n 0, 1) := by decide +kernel
theorem dJ7_fill_53178_11 : decode cJ7_fill_53178 11 = .ok (.iload_n 2, 1) := by decide +kernel
theorem dJ7_fill_53178_12 : decode cJ7_fill_53178 12 = .ok (.iload_n 1, 1) := by decide +kernel
theorem dJ7_fill_53178_13 : decode cJ7_fill_53178 13 = .ok (.iastore, 1) := by decide +kernel
theorem dJ7_fill_53178_14 : decode cJ7_fill_53178 14 = .ok (.iinc 2 1, 3) := by decide +kernel
theorem dJ7_fill_53178_17 : decode cJ7_fill_53178 17 = .ok (.goto (-12), 3) := by decide +kernel
set_option maxHeartbeats 4000000 in
set_option maxRecDepth 100000 in
theorem c_J7_fill60_l5 (l : Launch) (g : kG) (h : Nat) (f : Nat → Int32) {p : Program} {e : Env} {s : State} {m : MethodId} {below : List Frame} {meth : Method} {c : Code} {A : Nat → Prop} (hx : p.tables.exec = Jvm.exec) (hb : c.code = cJ7_fill_53178) (hr : meth.sig.returnType = none) (hml : c.maxLocals = 4) (hown : s.vm.findClass RJ7 = some m.cls) (hts : ∀ w ∈ wsL_law, w.before ([.ref h, .int 0] : List Value).toArray s = true) (hlk : meth.locks = false) (hnm : meth.name = yJ7_fill_53178.name) (hKW : kKW g s) (hA : ∀ q, s.heap.size ≤ q → A q) :
    ∀ (n : Nat) (i : Nat) (f : Nat → Int32) (hi : i ≤ 60) (hfuel : 60 < i + n) (hf : ∀ j, j < i → f j = 0) (H : Heap) (locs : List Loc), va_P g.1 vwCl [(h, .inl (gI g, 60, .inl f))] H → va_D A [(h, .inl (gI g, 60, .inl f))] → va_S A s.heap H locs → ∀ (ls : Array Slot), lv_has ls 4 [(0, .ref h), (1, .int 0), (2, .int (nI i)), (3, .int 60)] → W p l e (kR 1 0 0) s m ([.ref h, .int 0] : List Value).toArray below meth c H locs 0 0 (MQ below (va_Qv (fun (u : (Nat → Int32)) => ∀ j, j < 60 → u j = 0) (fun u t => kPost g A ((fun (u : (Nat → Int32)) => ([(h, .inl (gI g, 60, .inl u))] : va_W)) u) t) A) ([.ref h, .int 0] : List Value).toArray s 0 0 A) (F0 m 5 ls []) := by
  intro n
  induction n with
  | zero =>
    intro i f hi hfuel hf
    exact absurd hfuel (by omega)
  | succ n ih =>
    intro i f hi hfuel hf H locs hP hD hS ls hl
    refine lv_iload_n hx hb dJ7_fill_53178_5 rfl (lv_at hl 2 rfl) ?_
    refine lv_iload_n hx hb dJ7_fill_53178_6 rfl (lv_at hl 3 rfl) ?_
    refine lv_icmp_ge (tgt := 20) hx hb dJ7_fill_53178_7 (by decide) (fun c_1 => ?_) (fun c_1 => ?_)
    · exact k_vret f [0] hx hb hr hlk hP hD hS (fun j hj => hf j (by have := k_ge (N := 60) (by decide) hi c_1; omega)) rfl rfl rfl (Nat.le_of_ble_eq_true rfl) (Nat.le_of_ble_eq_true rfl) dJ7_fill_53178_20
    · have hlt : i < 60 := k_lt (by decide) hi c_1
      refine lv_aload_n hx hb dJ7_fill_53178_10 rfl (lv_at hl 0 rfl) ?_
      refine lv_iload_n hx hb dJ7_fill_53178_11 rfl (lv_at hl 2 rfl) ?_
      refine lv_iload_n hx hb dJ7_fill_53178_12 rfl (lv_at hl 1 rfl) ?_
      refine va_iast hx hb hKW.1 hP hD hS 0 0 rfl rfl (vp_in_nI (by omega) (by decide)) dJ7_fill_53178_13 (fun H locs hP hD hS => ?_)
      have hP : va_P g.1 vwCl [(h, .inl (gI g, 60, .inl (upd f (nI i).toNatClampNeg 0)))] H := hP
      have hD : va_D A [(h, .inl (gI g, 60, .inl (upd f (nI i).toNatClampNeg 0)))] := hD
      obtain ⟨f_2, ef_2⟩ : ∃ zz_ : Nat → Int32, zz_ = upd f (nI i).toNatClampNeg 0 := ⟨_, rfl⟩
      rw [← ef_2] at hP hD
      refine lv_iinc (v := nI (i + 1)) (lv' := [(2, .int (nI (i + 1))), (0, .ref h), (1, .int 0), (3, .int 60)]) hx hb dJ7_fill_53178_14 hl (k := 2) rfl (by first | exact nI_1 _ | (simp [nI]; done)) (by decide) rfl (fun ls hl => ?_)
      refine lv_goto (tgt := 5) hx hb dJ7_fill_53178_17 (by decide) ?_
      exact ih (i + 1) f_2 (by omega) (by omega) (k_upd0 ef_2 (by omega) rfl (fun j hj hn => hf j (by omega))) _ _ (hP.sub [0] rfl) (hD.sub [0] (by decide) rfl) hS ls (lv_sub hl [1, 2, 0, 3] rfl)
set_option maxHeartbeats 4000000 in
set_option maxRecDepth 100000 in
theorem c_J7_fill60 (l : Launch) (g : kG) (sz : Nat) (h : Nat) (f : Nat → Int32) : kMv l g yJ7_fill_53178 cJ7_fill_53178 4 none 1 0 0 [.ref h, .int 0] sz [(h, .inl (gI g, 60, .inl f))] (fun (u : (Nat → Int32)) => ∀ j, j < 60 → u j = 0) (fun (u : (Nat → Int32)) => ([(h, .inl (gI g, 60, .inl u))] : va_W)) := by
  refine kMv.of (by decide) (Nat.le_of_ble_eq_true rfl) (fun p e s m below meth c A hx hb hr hml hown hts hlk hnm hKW hP hD hS hA ls hl => ?_)
  have hown : s.vm.findClass RJ7 = some m.cls := hown
  have hl : lv_has ls 4 [(0, .ref h), (1, .int 0)] := hl
  refine lv_iconst (v := 0) hx hb dJ7_fill_53178_0 (by decide) ?_
  refine lv_istore_n (lv' := [(2, .int 0), (0, .ref h), (1, .int 0)]) hx hb dJ7_fill_53178_1 rfl hl (by decide) rfl (fun ls hl => ?_)
  refine lv_aload_n hx hb dJ7_fill_53178_2 rfl (lv_at hl 1 rfl) ?_
  refine va_alen (v := 60) hx hb hKW.1 hP 0 0 rfl rfl rfl dJ7_fill_53178_3 ?_
  refine lv_istore_n (lv' := [(3, .int 60), (2, .int 0), (0, .ref h), (1, .int 0)]) hx hb dJ7_fill_53178_4 rfl hl (by decide) rfl (fun ls hl => ?_)
  exact c_J7_fill60_l5 l g h f  hx hb hr hml hown hts hlk hnm hKW hA 61 0 f (by omega) (by omega) (fun j hj => absurd hj (by omega)) _ _ (hP.sub [0] rfl) (hD.sub [0] (by decide) rfl) hS ls (lv_sub hl [2, 3, 1, 0] rfl)
theorem dX10_endedAt_0 : decode cX10_endedAt 0 = .ok (.iload_n 1, 1) := by decide +kernel
theorem dX10_endedAt_1 : decode cX10_endedAt 1 = .ok (.iload_n 2, 1) := by decide +kernel
theorem dX10_endedAt_2 : decode cX10_endedAt 2 = .ok (.if_icmp .lt 14, 3) := by decide +kernel
theorem dX10_endedAt_16 : decode cX10_endedAt 16 = .ok (.iconst 0, 1) := by decide +kernel
theorem dX10_endedAt_17 : decode cX10_endedAt 17 = .ok (.ireturn, 1) := by decide +kernel
theorem dX10_endedAt_5 : decode cX10_endedAt 5 = .ok (.aload_n 0, 1) := by decide +kernel
theorem dX10_endedAt_6 : decode cX10_endedAt 6 = .ok (.getfield 9, 3) := by decide +kernel
theorem dX10_endedAt_9 : decode cX10_endedAt 9 = .ok (.iload_n 1, 1) := by decide +kernel
theorem dX10_endedAt_10 : decode cX10_endedAt 10 = .ok (.iload_n 2, 1) := by decide +kernel
theorem dX10_endedAt_11 : decode cX10_endedAt 11 = .ok (.isub, 1) := by decide +kernel
theorem dX10_endedAt_12 : decode cX10_endedAt 12 = .ok (.iaload, 1) := by decide +kernel
theorem dX10_endedAt_13 : decode cX10_endedAt 13 = .ok (.goto 4, 3) := by decide +kernel
set_option maxHeartbeats 4000000 in
set_option maxRecDepth 100000 in
theorem c_X10_endedAt0 (l : Launch) (g : kG) (sz : Nat) (h : Nat) (b : Nat) (f : Nat → Int32) (i : Nat) (hi : i < 60) (hf : ∀ j, j < 60 → f j = 0) : kMi l g yX10_endedAt cX10_endedAt 3 (some .int) 1 0 0 [.ref h, .int (nI i), .int 36] sz [(h, .inr (10, [.ref b])), (b, .inl (gI g, 60, .inl f))] (fun (r : Int32) (u : Unit) => r = 0) (fun (u : Unit) => ([(h, .inr (10, [.ref b])), (b, .inl (gI g, 60, .inl f))] : va_W)) := by
  refine kMi.of (by decide) (Nat.le_of_ble_eq_true rfl) (fun p e s m below meth c A hx hb hr hml hown hts hlk hnm hKW hP hD hS hA ls hl => ?_)
  have hown : s.vm.findClass RX10 = some m.cls := hown
  have hl : lv_has ls 3 [(0, .ref h), (1, .int (nI i)), (2, .int 36)] := hl
  refine lv_iload_n hx hb dX10_endedAt_0 rfl (lv_at hl 1 rfl) ?_
  refine lv_iload_n hx hb dX10_endedAt_1 rfl (lv_at hl 2 rfl) ?_
  refine lv_icmp_lt (tgt := 16) hx hb dX10_endedAt_2 (by decide) (fun c_1 => ?_) (fun c_1 => ?_)
  · refine lv_iconst (v := 0) hx hb dX10_endedAt_16 (by decide) ?_
    exact k_iret () [0, 1] hx hb hr hlk hP hD hS rfl rfl rfl rfl (Nat.le_of_ble_eq_true rfl) (Nat.le_of_ble_eq_true rfl) dX10_endedAt_17
  · have h36 : 36 ≤ i := k_nlt (by decide) (by omega) c_1
    refine lv_aload_n hx hb dX10_endedAt_5 rfl (lv_at hl 0 rfl) ?_
    refine va_get (ci := 10) (C := RX10) (T := TX10) (N := 1) hx hb hts inlX10 hown hKW.1 hP 0 rfl rfl 0 (by decide) (hts _ wd_5_20) (fun _ h => h) rfl dX10_endedAt_6 ?_
    refine lv_iload_n hx hb dX10_endedAt_9 rfl (lv_at hl 1 rfl) ?_
    refine lv_iload_n hx hb dX10_endedAt_10 rfl (lv_at hl 2 rfl) ?_
    refine lv_isub hx hb dX10_endedAt_11 ?_
    refine k_top (y := nI (i - 36)) (k_sub (b := 36) h36) ?_
    refine va_iald hx hb hKW.1 hP 1 0 rfl rfl (vp_in_nI (by omega) (by decide)) dX10_endedAt_12 ?_
    refine k_top (y := 0) (by rw [nI_clamp (by omega)]; exact hf _ (by omega)) ?_
    refine lv_goto (tgt := 17) hx hb dX10_endedAt_13 (by decide) ?_
    exact k_iret () [0, 1] hx hb hr hlk hP hD hS rfl rfl rfl rfl (Nat.le_of_ble_eq_true rfl) (Nat.le_of_ble_eq_true rfl) dX10_endedAt_17
theorem dX10_plan_0 : decode cX10_plan 0 = .ok (.aload_n 0, 1) := by decide +kernel
theorem dX10_plan_1 : decode cX10_plan 1 = .ok (.getfield 9, 3) := by decide +kernel
theorem dX10_plan_4 : decode cX10_plan 4 = .ok (.iconst 0, 1) := by decide +kernel
theorem dX10_plan_5 : decode cX10_plan 5 = .ok (.invokestatic 15, 3) := by decide +kernel
theorem dX10_plan_8 : decode cX10_plan 8 = .ok (.iconst 0, 1) := by decide +kernel
theorem dX10_plan_9 : decode cX10_plan 9 = .ok (.istore_n 3, 1) := by decide +kernel
theorem dX10_plan_10 : decode cX10_plan 10 = .ok (.iconst 0, 1) := by decide +kernel
theorem dX10_plan_11 : decode cX10_plan 11 = .ok (.istore 4, 2) := by decide +kernel
theorem dX10_plan_13 : decode cX10_plan 13 = .ok (.iconst 0, 1) := by decide +kernel
theorem dX10_plan_14 : decode cX10_plan 14 = .ok (.istore 5, 2) := by decide +kernel
theorem dX10_plan_16 : decode cX10_plan 16 = .ok (.iload 5, 2) := by decide +kernel
theorem dX10_plan_18 : decode cX10_plan 18 = .ok (.bipush 60, 2) := by decide +kernel
theorem dX10_plan_20 : decode cX10_plan 20 = .ok (.if_icmp .ge 62, 3) := by decide +kernel
theorem dX10_plan_82 : decode cX10_plan 82 = .ok (.iload 4, 2) := by decide +kernel
theorem dX10_plan_84 : decode cX10_plan 84 = .ok (.ireturn, 1) := by decide +kernel
theorem dX10_plan_23 : decode cX10_plan 23 = .ok (.iload_n 3, 1) := by decide +kernel
theorem dX10_plan_24 : decode cX10_plan 24 = .ok (.aload_n 0, 1) := by decide +kernel
theorem dX10_plan_25 : decode cX10_plan 25 = .ok (.iload 5, 2) := by decide +kernel
theorem dX10_plan_27 : decode cX10_plan 27 = .ok (.iload_n 2, 1) := by decide +kernel
theorem dX10_plan_28 : decode cX10_plan 28 = .ok (.invokevirtual 21, 3) := by decide +kernel
theorem dX10_plan_31 : decode cX10_plan 31 = .ok (.isub, 1) := by decide +kernel
theorem dX10_plan_32 : decode cX10_plan 32 = .ok (.istore_n 3, 1) := by decide +kernel
theorem dX10_plan_33 : decode cX10_plan 33 = .ok (.iconst 0, 1) := by decide +kernel
theorem dX10_plan_34 : decode cX10_plan 34 = .ok (.aload_n 1, 1) := by decide +kernel
theorem dX10_plan_35 : decode cX10_plan 35 = .ok (.iload 5, 2) := by decide +kernel
theorem dX10_plan_37 : decode cX10_plan 37 = .ok (.iaload, 1) := by decide +kernel
theorem dX10_plan_38 : decode cX10_plan 38 = .ok (.iload_n 3, 1) := by decide +kernel
theorem dX10_plan_39 : decode cX10_plan 39 = .ok (.isub, 1) := by decide +kernel
theorem dX10_plan_40 : decode cX10_plan 40 = .ok (.invokestatic 25, 3) := by decide +kernel
theorem dX10_plan_43 : decode cX10_plan 43 = .ok (.istore 6, 2) := by decide +kernel
theorem dX10_plan_45 : decode cX10_plan 45 = .ok (.aload_n 0, 1) := by decide +kernel
theorem dX10_plan_46 : decode cX10_plan 46 = .ok (.getfield 9, 3) := by decide +kernel
theorem dX10_plan_49 : decode cX10_plan 49 = .ok (.iload 5, 2) := by decide +kernel
theorem dX10_plan_51 : decode cX10_plan 51 = .ok (.bipush 60, 2) := by decide +kernel
theorem dX10_plan_53 : decode cX10_plan 53 = .ok (.iload_n 2, 1) := by decide +kernel
theorem dX10_plan_54 : decode cX10_plan 54 = .ok (.isub, 1) := by decide +kernel
theorem dX10_plan_55 : decode cX10_plan 55 = .ok (.invokestatic 30, 3) := by decide +kernel
theorem dX10_plan_58 : decode cX10_plan 58 = .ok (.dup2, 1) := by decide +kernel
theorem dX10_plan_59 : decode cX10_plan 59 = .ok (.iaload, 1) := by decide +kernel
theorem dX10_plan_60 : decode cX10_plan 60 = .ok (.iload 6, 2) := by decide +kernel
theorem dX10_plan_62 : decode cX10_plan 62 = .ok (.iadd, 1) := by decide +kernel
theorem dX10_plan_63 : decode cX10_plan 63 = .ok (.iastore, 1) := by decide +kernel
theorem dX10_plan_64 : decode cX10_plan 64 = .ok (.iload_n 3, 1) := by decide +kernel
theorem dX10_plan_65 : decode cX10_plan 65 = .ok (.iload 6, 2) := by decide +kernel
theorem dX10_plan_67 : decode cX10_plan 67 = .ok (.iadd, 1) := by decide +kernel
theorem dX10_plan_68 : decode cX10_plan 68 = .ok (.istore_n 3, 1) := by decide +kernel
theorem dX10_plan_69 : decode cX10_plan 69 = .ok (.iload 4, 2) := by decide +kernel
theorem dX10_plan_71 : decode cX10_plan 71 = .ok (.iload 6, 2) := by decide +kernel
theorem dX10_plan_73 : decode cX10_plan 73 = .ok (.iadd, 1) := by decide +kernel
theorem dX10_plan_74 : decode cX10_plan 74 = .ok (.istore 4, 2) := by decide +kernel
theorem dX10_plan_76 : decode cX10_plan 76 = .ok (.iinc 5 1, 3) := by decide +kernel
theorem dX10_plan_79 : decode cX10_plan 79 = .ok (.goto (-63), 3) := by decide +kernel
set_option maxHeartbeats 4000000 in
set_option maxRecDepth 100000 in
theorem c_X10_plan0_l16 (l : Launch) (g : kG) (h : Nat) (b : Nat) (d : Nat) (g0 : Nat → Int32) {p : Program} {e : Env} {s : State} {m : MethodId} {below : List Frame} {meth : Method} {c : Code} {A : Nat → Prop} (hx : p.tables.exec = Jvm.exec) (hb : c.code = cX10_plan) (hr : meth.sig.returnType = (some .int)) (hml : c.maxLocals = 7) (hown : s.vm.findClass RX10 = some m.cls) (hts : ∀ w ∈ wsL_law, w.before ([.ref h, .ref d, .int 36] : List Value).toArray s = true) (hlk : meth.locks = false) (hnm : meth.name = yX10_plan.name) (hKW : kKW g s) (hA : ∀ q, s.heap.size ≤ q → A q) :
    ∀ (n : Nat) (i : Nat) (f : Nat → Int32) (hi : i ≤ 60) (hfuel : 60 < i + n) (hf : ∀ j, j < 60 → f j = 0) (H : Heap) (locs : List Loc), va_P g.1 vwCl [(h, .inr (10, [.ref b])), (b, .inl (gI g, 60, .inl f)), (d, .inl (gI g, 60, .inl (fun _ => 0)))] H → va_D A [(h, .inr (10, [.ref b])), (b, .inl (gI g, 60, .inl f)), (d, .inl (gI g, 60, .inl (fun _ => 0)))] → va_S A s.heap H locs → ∀ (ls : Array Slot), lv_has ls 7 [(0, .ref h), (1, .ref d), (2, .int 36), (3, .int 0), (4, .int 0), (5, .int (nI i))] → W p l e (kR 2 0 0) s m ([.ref h, .ref d, .int 36] : List Value).toArray below meth c H locs 0 0 (MQ below (va_Qi (fun (r : Int32) (u : Unit) => r = 0) (fun u t => kPost g A ((fun (u : Unit) => ([] : va_W)) u) t) A) ([.ref h, .ref d, .int 36] : List Value).toArray s 0 0 A) (F0 m 16 ls []) := by
  intro n
  induction n with
  | zero =>
    intro i f hi hfuel hf
    exact absurd hfuel (by omega)
  | succ n ih =>
    intro i f hi hfuel hf H locs hP hD hS ls hl
    refine lv_iload hx hb dX10_plan_16 (lv_at hl 5 rfl) ?_
    refine lv_bipush (v := 60) hx hb dX10_plan_18 (by decide) ?_
    refine lv_icmp_ge (tgt := 82) hx hb dX10_plan_20 (by decide) (fun c_4 => ?_) (fun c_4 => ?_)
    · refine lv_iload hx hb dX10_plan_82 (lv_at hl 4 rfl) ?_
      exact k_iret () [] hx hb hr hlk hP hD hS rfl rfl rfl rfl (Nat.le_of_ble_eq_true rfl) (Nat.le_of_ble_eq_true rfl) dX10_plan_84
    · have hlt : i < 60 := k_lt (by decide) hi c_4
      refine lv_iload_n hx hb dX10_plan_23 rfl (lv_at hl 3 rfl) ?_
      refine lv_aload_n hx hb dX10_plan_24 rfl (lv_at hl 0 rfl) ?_
      refine lv_iload hx hb dX10_plan_25 (lv_at hl 5 rfl) ?_
      refine lv_iload_n hx hb dX10_plan_27 rfl (lv_at hl 2 rfl) ?_
      refine k_Vi [0, 1] [2] 0 10 (wr := [(d, .inl (gI g, 60, .inl (fun _ => 0)))]) hx hb hml hown hts hKW hP hD hS hA hl.1 (c_X10_endedAt0 l g _ h b f _ hlt hf) rfl rfl rfl wd_36_1 wd_2_6 wd_35_22 wd_35_23 wd_36_0 yd_X10_endedAt ⟨Nat.le_of_ble_eq_true rfl, Nat.le_of_ble_eq_true rfl⟩ rfl rfl rfl rfl rfl (by decide) rfl (Nat.le_of_ble_eq_true rfl) dX10_plan_28 ⟨Nat.le_of_ble_eq_true rfl, Nat.le_of_ble_eq_true rfl⟩ (fun r_5 u_6 H locs hw_7 hP hD hS => ?_)
      have hP : va_P g.1 vwCl [(d, .inl (gI g, 60, .inl (fun _ => 0))), (h, .inr (10, [.ref b])), (b, .inl (gI g, 60, .inl f))] H := hP
      have hD : va_D A [(d, .inl (gI g, 60, .inl (fun _ => 0))), (h, .inr (10, [.ref b])), (b, .inl (gI g, 60, .inl f))] := hD
      have hw_7 : r_5 = 0 := hw_7
      subst hw_7
      refine lv_isub hx hb dX10_plan_31 ?_
      refine k_top (y := 0) (by decide) ?_
      refine lv_istore_n (lv' := [(3, .int 0), (0, .ref h), (1, .ref d), (2, .int 36), (4, .int 0), (5, .int (nI i))]) hx hb dX10_plan_32 rfl hl (by decide) rfl (fun ls hl => ?_)
      refine lv_iconst (v := 0) hx hb dX10_plan_33 (by decide) ?_
      refine lv_aload_n hx hb dX10_plan_34 rfl (lv_at hl 2 rfl) ?_
      refine lv_iload hx hb dX10_plan_35 (lv_at hl 5 rfl) ?_
      refine va_iald hx hb hKW.1 hP 0 0 rfl rfl (vp_in_nI (by omega) (by decide)) dX10_plan_37 ?_
      refine k_top (y := 0) rfl ?_
      refine lv_iload_n hx hb dX10_plan_38 rfl (lv_at hl 0 rfl) ?_
      refine lv_isub hx hb dX10_plan_39 ?_
      refine k_top (y := 0) (by decide) ?_
      refine va_mmax hx hb (hml.trans hl.1.symm) hown (hts _ wd_35_17) (hts _ wd_35_18) (hts _ wd_8_2) (hts _ wd_35_19) (Nat.le_of_ble_eq_true rfl) (Nat.le_of_ble_eq_true rfl) (Nat.le_of_ble_eq_true rfl) (Nat.le_of_ble_eq_true rfl) dX10_plan_40 ?_
      refine k_top (y := 0) (by decide) ?_
      refine lv_istore (lv' := [(6, .int 0), (3, .int 0), (0, .ref h), (1, .ref d), (2, .int 36), (4, .int 0), (5, .int (nI i))]) hx hb dX10_plan_43 hl (by decide) rfl (fun ls hl => ?_)
      refine lv_aload_n hx hb dX10_plan_45 rfl (lv_at hl 2 rfl) ?_
      refine va_get (ci := 10) (C := RX10) (T := TX10) (N := 1) hx hb hts inlX10 hown hKW.1 hP 1 rfl rfl 0 (by decide) (hts _ wd_5_20) (fun _ h => h) rfl dX10_plan_46 ?_
      refine lv_iload hx hb dX10_plan_49 (lv_at hl 6 rfl) ?_
      refine lv_bipush (v := 60) hx hb dX10_plan_51 (by decide) ?_
      refine lv_iload_n hx hb dX10_plan_53 rfl (lv_at hl 4 rfl) ?_
      refine lv_isub hx hb dX10_plan_54 ?_
      refine k_top (y := 24) (by decide) ?_
      obtain ⟨k_8, hk_8, ek_8⟩ := k_min24 (i := i) (by omega)
      refine va_mmin hx hb (hml.trans hl.1.symm) hown (hts _ wd_35_20) (hts _ wd_8_1) (hts _ wd_8_2) (hts _ wd_8_3) (Nat.le_of_ble_eq_true rfl) (Nat.le_of_ble_eq_true rfl) (Nat.le_of_ble_eq_true rfl) (Nat.le_of_ble_eq_true rfl) dX10_plan_55 ?_
      refine k_top (y := nI k_8) ek_8 ?_
      refine lv_dup2_11 hx hb dX10_plan_58 rfl rfl ?_
      refine va_iald hx hb hKW.1 hP 2 0 rfl rfl (vp_in_nI (by assumption) (by decide)) dX10_plan_59 ?_
      refine k_top (y := 0) (by rw [nI_clamp (by omega)]; exact hf _ (by omega)) ?_
      refine lv_iload hx hb dX10_plan_60 (lv_at hl 0 rfl) ?_
      refine lv_iadd hx hb dX10_plan_62 ?_
      refine k_top (y := 0) (by decide) ?_
      refine va_iast hx hb hKW.1 hP hD hS 2 0 rfl rfl (vp_in_nI (by assumption) (by decide)) dX10_plan_63 (fun H locs hP hD hS => ?_)
      have hP : va_P g.1 vwCl [(d, .inl (gI g, 60, .inl (fun _ => 0))), (h, .inr (10, [.ref b])), (b, .inl (gI g, 60, .inl (upd f (nI k_8).toNatClampNeg 0)))] H := hP
      have hD : va_D A [(d, .inl (gI g, 60, .inl (fun _ => 0))), (h, .inr (10, [.ref b])), (b, .inl (gI g, 60, .inl (upd f (nI k_8).toNatClampNeg 0)))] := hD
      obtain ⟨f_9, ef_9⟩ : ∃ zz_ : Nat → Int32, zz_ = upd f (nI k_8).toNatClampNeg 0 := ⟨_, rfl⟩
      rw [← ef_9] at hP hD
      refine lv_iload_n hx hb dX10_plan_64 rfl (lv_at hl 1 rfl) ?_
      refine lv_iload hx hb dX10_plan_65 (lv_at hl 0 rfl) ?_
      refine lv_iadd hx hb dX10_plan_67 ?_
      refine k_top (y := 0) (by decide) ?_
      refine lv_istore_n (lv' := [(3, .int 0), (6, .int 0), (0, .ref h), (1, .ref d), (2, .int 36), (4, .int 0), (5, .int (nI i))]) hx hb dX10_plan_68 rfl hl (by decide) rfl (fun ls hl => ?_)
      refine lv_iload hx hb dX10_plan_69 (lv_at hl 5 rfl) ?_
      refine lv_iload hx hb dX10_plan_71 (lv_at hl 1 rfl) ?_
      refine lv_iadd hx hb dX10_plan_73 ?_
      refine k_top (y := 0) (by decide) ?_
      refine lv_istore (lv' := [(4, .int 0), (3, .int 0), (6, .int 0), (0, .ref h), (1, .ref d), (2, .int 36), (5, .int (nI i))]) hx hb dX10_plan_74 hl (by decide) rfl (fun ls hl => ?_)
      refine lv_iinc (v := nI (i + 1)) (lv' := [(5, .int (nI (i + 1))), (4, .int 0), (3, .int 0), (6, .int 0), (0, .ref h), (1, .ref d), (2, .int 36)]) hx hb dX10_plan_76 hl (k := 6) rfl (by first | exact nI_1 _ | (simp [nI]; done)) (by decide) rfl (fun ls hl => ?_)
      refine lv_goto (tgt := 16) hx hb dX10_plan_79 (by decide) ?_
      exact ih (i + 1) f_9 (by omega) (by omega) (k_upd0 ef_9 (by omega) rfl (fun j hj _ => hf j hj)) _ _ (hP.sub [1, 2, 0] rfl) (hD.sub [1, 2, 0] (by decide) rfl) hS ls (lv_sub hl [4, 5, 6, 2, 1, 0] rfl)
set_option maxHeartbeats 4000000 in
set_option maxRecDepth 100000 in
theorem c_X10_plan0 (l : Launch) (g : kG) (sz : Nat) (h : Nat) (b : Nat) (d : Nat) (g0 : Nat → Int32) : kMi l g yX10_plan cX10_plan 7 (some .int) 2 0 0 [.ref h, .ref d, .int 36] sz [(h, .inr (10, [.ref b])), (b, .inl (gI g, 60, .inl g0)), (d, .inl (gI g, 60, .inl (fun _ => 0)))] (fun (r : Int32) (u : Unit) => r = 0) (fun (u : Unit) => ([] : va_W)) := by
  refine kMi.of (by decide) (Nat.le_of_ble_eq_true rfl) (fun p e s m below meth c A hx hb hr hml hown hts hlk hnm hKW hP hD hS hA ls hl => ?_)
  have hown : s.vm.findClass RX10 = some m.cls := hown
  have hl : lv_has ls 7 [(0, .ref h), (1, .ref d), (2, .int 36)] := hl
  refine lv_aload_n hx hb dX10_plan_0 rfl (lv_at hl 0 rfl) ?_
  refine va_get (ci := 10) (C := RX10) (T := TX10) (N := 1) hx hb hts inlX10 hown hKW.1 hP 0 rfl rfl 0 (by decide) (hts _ wd_5_20) (fun _ h => h) rfl dX10_plan_1 ?_
  refine lv_iconst (v := 0) hx hb dX10_plan_4 (by decide) ?_
  refine k_Sv [1] [0, 2] (wr := [(h, .inr (10, [.ref b])), (d, .inl (gI g, 60, .inl (fun _ => 0)))]) hx hb hml hown hts hKW hP hD hS hA hl.1 (c_J7_fill60 l g _ b g0 ) wd_24_15 wd_24_14 wd_35_21 wd_24_13 yd_J7_fill_53178 ⟨Nat.le_of_ble_eq_true rfl, Nat.le_of_ble_eq_true rfl⟩ rfl rfl rfl rfl rfl (by decide) rfl (Nat.le_of_ble_eq_true rfl) dX10_plan_5 ⟨Nat.le_of_ble_eq_true rfl, Nat.le_of_ble_eq_true rfl⟩ (fun u_2 H locs hw_3 hP hD hS => ?_)
  have hP : va_P g.1 vwCl [(h, .inr (10, [.ref b])), (d, .inl (gI g, 60, .inl (fun _ => 0))), (b, .inl (gI g, 60, .inl u_2))] H := hP
  have hD : va_D A [(h, .inr (10, [.ref b])), (d, .inl (gI g, 60, .inl (fun _ => 0))), (b, .inl (gI g, 60, .inl u_2))] := hD
  have hw_3 : ∀ j, j < 60 → u_2 j = 0 := hw_3
  refine lv_iconst (v := 0) hx hb dX10_plan_8 (by decide) ?_
  refine lv_istore_n (lv' := [(3, .int 0), (0, .ref h), (1, .ref d), (2, .int 36)]) hx hb dX10_plan_9 rfl hl (by decide) rfl (fun ls hl => ?_)
  refine lv_iconst (v := 0) hx hb dX10_plan_10 (by decide) ?_
  refine lv_istore (lv' := [(4, .int 0), (3, .int 0), (0, .ref h), (1, .ref d), (2, .int 36)]) hx hb dX10_plan_11 hl (by decide) rfl (fun ls hl => ?_)
  refine lv_iconst (v := 0) hx hb dX10_plan_13 (by decide) ?_
  refine lv_istore (lv' := [(5, .int 0), (4, .int 0), (3, .int 0), (0, .ref h), (1, .ref d), (2, .int 36)]) hx hb dX10_plan_14 hl (by decide) rfl (fun ls hl => ?_)
  exact c_X10_plan0_l16 l g h b d g0  hx hb hr hml hown hts hlk hnm hKW hA 61 0 u_2 (by omega) (by omega) hw_3 _ _ (hP.sub [0, 2, 1] rfl) (hD.sub [0, 2, 1] (by decide) rfl) hS ls (lv_sub hl [3, 4, 5, 2, 1, 0] rfl)
