abbrev kSG (x : Int32) : Prop := ((1 : Int) ≤ x.toInt ∧ x.toInt ≤ 6) ∨ ((10 : Int) ≤ x.toInt ∧ x.toInt ≤ 54)
def lowB (b v : Int32) : Int32 := if b = 8 then v.toInt8.toInt32 else if b = 16 then v.toInt16.toInt32 else v
theorem k_minN {a N : Nat} (ha : a < 2 ^ 31) (hN : N < 2 ^ 31) : ∃ k : Nat, k ≤ N ∧ k ≤ a ∧ (if nI N < nI a then nI N else nI a) = nI k := by
  by_cases h : nI N < nI a
  · exact ⟨N, Nat.le_refl _, Nat.le_of_lt ((k_ltI hN ha).mp h), if_pos h⟩
  · exact ⟨a, Nat.not_lt.mp (fun h2 => h ((k_ltI hN ha).mpr h2)), Nat.le_refl _, if_neg h⟩
theorem k_lgne {y : Int64} (h : 0 < lg_cmp y 0) : ¬ y = 0 := by
  rintro rfl
  exact absurd h (by decide)
theorem k_nx_and (a b : Nat) : nI a &&& nI b = nI (a &&& b) := by
  apply Int32.toBitVec_inj.1
  show BitVec.ofNat 32 a &&& BitVec.ofNat 32 b = BitVec.ofNat 32 (a &&& b)
  exact BitVec.ofNat_and.symm
theorem k_nx_xor (a b : Nat) : nI a ^^^ nI b = nI (a ^^^ b) := by
  apply Int32.toBitVec_inj.1
  show BitVec.ofNat 32 a ^^^ BitVec.ofNat 32 b = BitVec.ofNat 32 (a ^^^ b)
  exact BitVec.ofNat_xor.symm
theorem k_and7 {m : Nat} (hm : m < 128) (x : Int32) : ∃ j : Nat, j < 128 ∧ x &&& nI m = nI j := by
  have h1 : nI m = nI m &&& 127 := by
    rw [show (127 : Int32) = nI 127 from rfl, k_nx_and, show m &&& 127 = m from by rw [show 127 = 2 ^ 7 - 1 from rfl, Nat.and_two_pow_sub_one_eq_mod]; omega]
  rw [h1, ← Int32.and_assoc]
  obtain ⟨j, hj, e⟩ := vp_in_of (pk_andIn (x &&& nI m) 7 (m := 127) (by decide) (by decide)) (by decide)
  exact ⟨j, by omega, e⟩
theorem k_xor7 {a b : Nat} (ha : a < 128) (hb : b < 128) : ∃ j : Nat, j < 128 ∧ nI a ^^^ nI b = nI j := ⟨a ^^^ b, Nat.xor_lt_two_pow (n := 7) ha hb, k_nx_xor a b⟩
theorem k_shl7 {h : Nat} (hh : h < 7) : ∃ B : Nat, B ≤ 64 ∧ 1 <<< (nI h &&& 31) = nI B := by
  rcases (show h = 0 ∨ h = 1 ∨ h = 2 ∨ h = 3 ∨ h = 4 ∨ h = 5 ∨ h = 6 by omega) with rfl | rfl | rfl | rfl | rfl | rfl | rfl
  · exact ⟨1, by decide, by decide⟩
  · exact ⟨2, by decide, by decide⟩
  · exact ⟨4, by decide, by decide⟩
  · exact ⟨8, by decide, by decide⟩
  · exact ⟨16, by decide, by decide⟩
  · exact ⟨32, by decide, by decide⟩
  · exact ⟨64, by decide, by decide⟩
theorem k_left {x y : Int32} {n : Nat} (hf : x.toInt.toNat < n + 1) (h : ¬ x ≤ 0) (e : x + Int32.ofInt (-1) = y) : y.toInt.toNat < n := by
  have h1 : 0 < x.toInt := by
    rw [Int32.le_iff_toInt_le] at h
    simp at h
    exact h
  have h2 : y.toInt = x.toInt - 1 := by
    rw [← e, Int32.toInt_add, show (Int32.ofInt (-1)).toInt = -1 from rfl]
    have := Int32.toInt_lt x
    exact Int.bmod_eq_of_le (by omega) (by omega)
  omega
theorem k_fill0 {f f' : Nat → Int32} {i : Nat} (e : f' = upd f (nI i).toNatClampNeg 0) (hi : i < 2 ^ 31) (h : ∀ j, j < i → f j = 0) : ∀ j, j < i + 1 → f' j = 0 := by
  intro j hj
  rw [e, nI_clamp hi]
  by_cases h1 : j = i
  · rw [h1, pk_us]
  · rw [pk_un h1]; exact h j (by omega)
theorem dJ7_fill_53178_0 : decode cJ7_fill_53178 0 = .ok (.iconst 0, 1) := by decide +kernel
theorem dJ7_fill_53178_1 : decode cJ7_fill_53178 1 = .ok (.istore_n 2, 1) := by decide +kernel
theorem dJ7_fill_53178_2 : decode cJ7_fill_53178 2 = .ok (.aload_n 0, 1) := by decide +kernel
theorem dJ7_fill_53178_3 : decode cJ7_fill_53178 3 = .ok (.arraylength, 1) := by decide +kernel
theorem dJ7_fill_53178_4 : decode cJ7_fill_53178 4 = .ok (.istore_n 3, 1) := by decide +kernel
theorem dJ7_fill_53178_5 : decode cJ7_fill_53178 5 = .ok (.iload_n 2, 1) := by decide +kernel
theorem dJ7_fill_53178_6 : decode cJ7_fill_53178 6 = .ok (.iload_n 3, 1) := by decide +kernel
theorem dJ7_fill_53178_7 : decode cJ7_fill_53178 7 = .ok (.if_icmp .ge 13, 3) := by decide +kernel
theorem dJ7_fill_53178_20 : decode cJ7_fill_53178 20 = .ok (.return_, 1) := by decide +kernel
theorem dJ7_fill_53178_10 : decode cJ7_fill_53178 10 = .ok (.aload_n 0, 1) := by decide +kernel
theorem dJ7_fill_53178_11 : decode cJ7_fill_53178 11 = .ok (.iload_n 2, 1) := by decide +kernel
theorem dJ7_fill_53178_12 : decode cJ7_fill_53178 12 = .ok (.iload_n 1, 1) := by decide +kernel
theorem dJ7_fill_53178_13 : decode cJ7_fill_53178 13 = .ok (.iastore, 1) := by decide +kernel
theorem dJ7_fill_53178_14 : decode cJ7_fill_53178 14 = .ok (.iinc 2 1, 3) := by decide +kernel
theorem dJ7_fill_53178_17 : decode cJ7_fill_53178 17 = .ok (.goto (-12), 3) := by decide +kernel
set_option maxHeartbeats 8000000 in
set_option maxRecDepth 100000 in
theorem c_J7_fill60 (l : Launch) (g : kG) (sz : Nat) (h : Nat) (f : Nat → Int32) : kMv l g yJ7_fill_53178 cJ7_fill_53178 4 none 1 0 0 [.ref h, .int 0] sz [(h, .inl (gI g, 60, .inl f))] (fun (u : (Nat → Int32)) => ∀ j, j < 60 → u j = 0) (fun (u : (Nat → Int32)) => ([(h, .inl (gI g, 60, .inl u))] : va_W)) := by
  refine kMv.of (by decide) (Nat.le_of_ble_eq_true rfl) (fun p e s m below meth c A hx hb hr hml hown hts hlk hnm hKW hP hD hS hA ls hl => ?_)
  have hown : s.vm.findClass RJ7 = some m.cls := hown
  have hl : lv_has ls 4 [(0, .ref h), (1, .int 0)] := hl
  refine k_hide hP hS (fun H locs hP hS => ?_)
  refine lv_iconst (v := 0) hx hb dJ7_fill_53178_0 (by decide) ?_
  refine lv_istore_n (lv' := [(2, .int 0), (0, .ref h), (1, .int 0)]) hx hb dJ7_fill_53178_1 rfl hl (by decide) rfl (fun ls hl => ?_)
  refine lv_aload_n hx hb dJ7_fill_53178_2 rfl (lv_at hl 1 rfl) ?_
  refine va_alen (v := 60) hx hb hKW.1 hP 0 0 rfl rfl rfl dJ7_fill_53178_3 ?_
  refine lv_istore_n (lv' := [(3, .int 60), (2, .int 0), (0, .ref h), (1, .int 0)]) hx hb dJ7_fill_53178_4 rfl hl (by decide) rfl (fun ls hl => ?_)
  have L5 : ∀ (n5 : Nat) (i : Nat) (ga : Nat → Int32) (hfuel5 : 60 - i < n5) (hi : i ≤ 60) (hg : ∀ j, j < i → ga j = 0) (H : Heap) (locs : List Loc) (hP : va_P g.1 vwCl [(h, .inl (gI g, 60, .inl ga))] H) (hD : va_D A [(h, .inl (gI g, 60, .inl ga))]) (hS : va_S A s.heap H locs) (ls : Array Slot) (hl : lv_has ls 4 [(3, .int 60), (2, .int (nI i)), (0, .ref h), (1, .int 0)]), W p l e (kR 1 0 0) s m ([.ref h, .int 0] : List Value).toArray below meth c H locs 0 0 (kQv g A below ([.ref h, .int 0] : List Value).toArray s 0 0 (fun (u : (Nat → Int32)) => ∀ j, j < 60 → u j = 0) (fun (u : (Nat → Int32)) => ([(h, .inl (gI g, 60, .inl u))] : va_W))) (F0 m 5 ls []) := by
    intro n5
    induction n5 with
    | zero => intro i ga hfuel5; exact absurd hfuel5 (Nat.not_lt_zero _)
    | succ n5 ih5 =>
      intro i ga hfuel5 hi hg H locs hP hD hS ls hl
      refine lv_iload_n hx hb dJ7_fill_53178_5 rfl (lv_at hl 1 rfl) ?_
      refine lv_iload_n hx hb dJ7_fill_53178_6 rfl (lv_at hl 0 rfl) ?_
      refine lv_icmp_ge (tgt := 20) hx hb dJ7_fill_53178_7 (by decide) (fun c_1 => ?_) (fun c_1 => ?_)
      · have c_1n : 60 ≤ i := (k_leI (a := 60) (b := i) (by omega) (by omega)).mp c_1
        exact k_vret ga [0] hx hb hr hlk hP hD hS (fun j hj => hg j (by omega)) rfl rfl rfl (Nat.le_of_ble_eq_true rfl) (Nat.le_of_ble_eq_true rfl) dJ7_fill_53178_20
      · have c_1n : i < 60 := Nat.not_le.mp (fun h => c_1 ((k_leI (a := 60) (b := i) (by omega) (by omega)).mpr h))
        refine lv_aload_n hx hb dJ7_fill_53178_10 rfl (lv_at hl 2 rfl) ?_
        refine lv_iload_n hx hb dJ7_fill_53178_11 rfl (lv_at hl 1 rfl) ?_
        refine lv_iload_n hx hb dJ7_fill_53178_12 rfl (lv_at hl 3 rfl) ?_
        refine va_iast hx hb hKW.1 hP hD hS 0 0 rfl rfl (vp_in_nI (by omega) (by decide)) dJ7_fill_53178_13 (fun H locs hP hD hS => ?_)
        have hP : va_P g.1 vwCl [(h, .inl (gI g, 60, .inl (upd ga (nI i).toNatClampNeg 0)))] H := hP
        have hD : va_D A [(h, .inl (gI g, 60, .inl (upd ga (nI i).toNatClampNeg 0)))] := hD
        obtain ⟨f_2, ef_2⟩ : ∃ zz_ : Nat → Int32, zz_ = upd ga (nI i).toNatClampNeg 0 := ⟨_, rfl⟩
        rw [← ef_2] at hP hD
        refine lv_iinc (v := nI (i + 1)) (lv' := [(2, .int (nI (i + 1))), (3, .int 60), (0, .ref h), (1, .int 0)]) hx hb dJ7_fill_53178_14 hl (k := 1) rfl (nI_add i 1) (by decide) rfl (fun ls hl => ?_)
        refine lv_goto (tgt := 5) hx hb dJ7_fill_53178_17 (by decide) ?_
        exact ih5 (i + 1) f_2 (by omega) (by first | assumption | omega) (k_fill0 ef_2 (by omega) hg) H locs (hP.sub [0] rfl) (hD.sub [0] (by decide) rfl) hS ls (lv_sub hl [1, 0, 2, 3] rfl)
  exact L5 (60 - 0 + 1) 0 f (Nat.lt_succ_self _) (by first | assumption | omega) (fun j hj => absurd hj (by omega)) H locs (hP.sub [0] rfl) (hD.sub [0] (by decide) rfl) hS ls (lv_sub hl [0, 1, 2, 3] rfl)

set_option maxHeartbeats 8000000 in
set_option maxRecDepth 100000 in
theorem c_J7_fill7 (l : Launch) (g : kG) (sz : Nat) (h : Nat) (f : Nat → Int32) : kMv l g yJ7_fill_53178 cJ7_fill_53178 4 none 1 0 0 [.ref h, .int 0] sz [(h, .inl (gI g, 7, .inl f))] (fun (u : (Nat → Int32)) => ∀ j, j < 7 → u j = 0) (fun (u : (Nat → Int32)) => ([(h, .inl (gI g, 7, .inl u))] : va_W)) := by
  refine kMv.of (by decide) (Nat.le_of_ble_eq_true rfl) (fun p e s m below meth c A hx hb hr hml hown hts hlk hnm hKW hP hD hS hA ls hl => ?_)
  have hown : s.vm.findClass RJ7 = some m.cls := hown
  have hl : lv_has ls 4 [(0, .ref h), (1, .int 0)] := hl
  refine k_hide hP hS (fun H locs hP hS => ?_)
  refine lv_iconst (v := 0) hx hb dJ7_fill_53178_0 (by decide) ?_
  refine lv_istore_n (lv' := [(2, .int 0), (0, .ref h), (1, .int 0)]) hx hb dJ7_fill_53178_1 rfl hl (by decide) rfl (fun ls hl => ?_)
  refine lv_aload_n hx hb dJ7_fill_53178_2 rfl (lv_at hl 1 rfl) ?_
  refine va_alen (v := 7) hx hb hKW.1 hP 0 0 rfl rfl rfl dJ7_fill_53178_3 ?_
  refine lv_istore_n (lv' := [(3, .int 7), (2, .int 0), (0, .ref h), (1, .int 0)]) hx hb dJ7_fill_53178_4 rfl hl (by decide) rfl (fun ls hl => ?_)
  have L5 : ∀ (n5 : Nat) (i : Nat) (ga : Nat → Int32) (hfuel5 : 7 - i < n5) (hi : i ≤ 7) (hg : ∀ j, j < i → ga j = 0) (H : Heap) (locs : List Loc) (hP : va_P g.1 vwCl [(h, .inl (gI g, 7, .inl ga))] H) (hD : va_D A [(h, .inl (gI g, 7, .inl ga))]) (hS : va_S A s.heap H locs) (ls : Array Slot) (hl : lv_has ls 4 [(3, .int 7), (2, .int (nI i)), (0, .ref h), (1, .int 0)]), W p l e (kR 1 0 0) s m ([.ref h, .int 0] : List Value).toArray below meth c H locs 0 0 (kQv g A below ([.ref h, .int 0] : List Value).toArray s 0 0 (fun (u : (Nat → Int32)) => ∀ j, j < 7 → u j = 0) (fun (u : (Nat → Int32)) => ([(h, .inl (gI g, 7, .inl u))] : va_W))) (F0 m 5 ls []) := by
    intro n5
    induction n5 with
    | zero => intro i ga hfuel5; exact absurd hfuel5 (Nat.not_lt_zero _)
    | succ n5 ih5 =>
      intro i ga hfuel5 hi hg H locs hP hD hS ls hl
      refine lv_iload_n hx hb dJ7_fill_53178_5 rfl (lv_at hl 1 rfl) ?_
      refine lv_iload_n hx hb dJ7_fill_53178_6 rfl (lv_at hl 0 rfl) ?_
      refine lv_icmp_ge (tgt := 20) hx hb dJ7_fill_53178_7 (by decide) (fun c_1 => ?_) (fun c_1 => ?_)
      · have c_1n : 7 ≤ i := (k_leI (a := 7) (b := i) (by omega) (by omega)).mp c_1
        exact k_vret ga [0] hx hb hr hlk hP hD hS (fun j hj => hg j (by omega)) rfl rfl rfl (Nat.le_of_ble_eq_true rfl) (Nat.le_of_ble_eq_true rfl) dJ7_fill_53178_20
      · have c_1n : i < 7 := Nat.not_le.mp (fun h => c_1 ((k_leI (a := 7) (b := i) (by omega) (by omega)).mpr h))
        refine lv_aload_n hx hb dJ7_fill_53178_10 rfl (lv_at hl 2 rfl) ?_
        refine lv_iload_n hx hb dJ7_fill_53178_11 rfl (lv_at hl 1 rfl) ?_
        refine lv_iload_n hx hb dJ7_fill_53178_12 rfl (lv_at hl 3 rfl) ?_
        refine va_iast hx hb hKW.1 hP hD hS 0 0 rfl rfl (vp_in_nI (by omega) (by decide)) dJ7_fill_53178_13 (fun H locs hP hD hS => ?_)
        have hP : va_P g.1 vwCl [(h, .inl (gI g, 7, .inl (upd ga (nI i).toNatClampNeg 0)))] H := hP
        have hD : va_D A [(h, .inl (gI g, 7, .inl (upd ga (nI i).toNatClampNeg 0)))] := hD
        obtain ⟨f_2, ef_2⟩ : ∃ zz_ : Nat → Int32, zz_ = upd ga (nI i).toNatClampNeg 0 := ⟨_, rfl⟩
        rw [← ef_2] at hP hD
        refine lv_iinc (v := nI (i + 1)) (lv' := [(2, .int (nI (i + 1))), (3, .int 7), (0, .ref h), (1, .int 0)]) hx hb dJ7_fill_53178_14 hl (k := 1) rfl (nI_add i 1) (by decide) rfl (fun ls hl => ?_)
        refine lv_goto (tgt := 5) hx hb dJ7_fill_53178_17 (by decide) ?_
        exact ih5 (i + 1) f_2 (by omega) (by first | assumption | omega) (k_fill0 ef_2 (by omega) hg) H locs (hP.sub [0] rfl) (hD.sub [0] (by decide) rfl) hS ls (lv_sub hl [1, 0, 2, 3] rfl)
  exact L5 (7 - 0 + 1) 0 f (Nat.lt_succ_self _) (by first | assumption | omega) (fun j hj => absurd hj (by omega)) H locs (hP.sub [0] rfl) (hD.sub [0] (by decide) rfl) hS ls (lv_sub hl [0, 1, 2, 3] rfl)
theorem dX6_isSign_0 : decode cX6_isSign 0 = .ok (.iload_n 0, 1) := by decide +kernel
theorem dX6_isSign_1 : decode cX6_isSign 1 = .ok (.iconst 1, 1) := by decide +kernel
theorem dX6_isSign_2 : decode cX6_isSign 2 = .ok (.bipush 6, 2) := by decide +kernel
theorem dX6_isSign_4 : decode cX6_isSign 4 = .ok (.invokestatic 46, 3) := by decide +kernel
theorem dX6_isSign_7 : decode cX6_isSign 7 = .ok (.ifCond .ne 14, 3) := by decide +kernel
theorem dX6_isSign_21 : decode cX6_isSign 21 = .ok (.iconst 1, 1) := by decide +kernel
theorem dX6_isSign_22 : decode cX6_isSign 22 = .ok (.goto 4, 3) := by decide +kernel
theorem dX6_isSign_26 : decode cX6_isSign 26 = .ok (.ireturn, 1) := by decide +kernel
theorem dX6_isSign_10 : decode cX6_isSign 10 = .ok (.iload_n 0, 1) := by decide +kernel
theorem dX6_isSign_11 : decode cX6_isSign 11 = .ok (.bipush 10, 2) := by decide +kernel
theorem dX6_isSign_13 : decode cX6_isSign 13 = .ok (.bipush 54, 2) := by decide +kernel
theorem dX6_isSign_15 : decode cX6_isSign 15 = .ok (.invokestatic 46, 3) := by decide +kernel
theorem dX6_isSign_18 : decode cX6_isSign 18 = .ok (.ifCond .eq 7, 3) := by decide +kernel
theorem dX6_isSign_25 : decode cX6_isSign 25 = .ok (.iconst 0, 1) := by decide +kernel
set_option maxHeartbeats 8000000 in
set_option maxRecDepth 100000 in
theorem c_X6_isSign (l : Launch) (g : kG) (sz : Nat) (v : Int32) : kMi l g yX6_isSign cX6_isSign 1 (some .boolean) 2 0 0 [.int v] sz [] (fun (r : Int32) (u : Unit) => (r = 1 ∧ (kSG v)) ∨ (r = 0 ∧ ¬ (kSG v))) (fun (u : Unit) => ([] : va_W)) := by
  refine kMi.of (by decide) (Nat.le_of_ble_eq_true rfl) (fun p e s m below meth c A hx hb hr hml hown hts hlk hnm hKW hP hD hS hA ls hl => ?_)
  have hown : s.vm.findClass RX6 = some m.cls := hown
  have hl : lv_has ls 1 [(0, .int v)] := hl
  refine k_hide hP hS (fun H locs hP hS => ?_)
  refine lv_iload_n hx hb dX6_isSign_0 rfl (lv_at hl 0 rfl) ?_
  refine lv_iconst (v := 1) hx hb dX6_isSign_1 (by decide) ?_
  refine lv_bipush (v := 6) hx hb dX6_isSign_2 (by decide) ?_
  refine k_SNi [] [] (wr := []) hx hb hml hown hts hKW hP hD hS hA hl.1 (c_X11_isWithin l g _ v 1 6 ) wd_7_8 wd_1_2 nw_28 wd_7_7 yd_X11_isWithin ⟨(Nat.le_of_ble_eq_true rfl), (Nat.le_of_ble_eq_true rfl)⟩ rfl rfl rfl rfl (by decide) rfl (Nat.le_of_ble_eq_true rfl) dX6_isSign_4 ⟨(Nat.le_of_ble_eq_true rfl), (Nat.le_of_ble_eq_true rfl)⟩ (fun r_1 u_2 H locs hw_3 hP hD hS => ?_)
  have hP : va_P g.1 vwCl [] H := hP
  have hD : va_D A [] := hD
  rcases (show (r_1 = 1 ∧ (Int32.toInt 1 ≤ Int32.toInt v ∧ Int32.toInt v ≤ Int32.toInt 6)) ∨ (r_1 = 0 ∧ ¬ (Int32.toInt 1 ≤ Int32.toInt v ∧ Int32.toInt v ≤ Int32.toInt 6)) from hw_3) with ⟨rfl, hw_3b⟩ | ⟨rfl, hw_3b⟩ <;> clear hw_3
  · refine lv_if_ne (tgt := 21) hx hb dX6_isSign_7 (by decide) (fun _ => ?_) (fun c => absurd c (by decide))
    refine lv_iconst (v := 1) hx hb dX6_isSign_21 (by decide) ?_
    refine lv_goto (tgt := 26) hx hb dX6_isSign_22 (by decide) ?_
    exact k_zret () [] hx hb hr hlk hP hD hS (by clear hP hD hS hA hts hKW hl; first | exact Or.inl ⟨rfl, by (first | omega | (simp only [Int32.lt_iff_toInt_lt, Int32.le_iff_toInt_le, ← Int32.toInt_inj] at *; omega) | (simp only [Int32.lt_iff_toInt_lt, Int32.le_iff_toInt_le, ← Int32.toInt_inj] at *; simp at *; omega) | (simp only [Int32.lt_iff_toInt_lt, Int32.le_iff_toInt_le, ← Int32.toInt_inj] at *; simp at *; done) | (simp at *; omega) | (simp at *; done))⟩ | exact Or.inr ⟨rfl, by (first | omega | (simp only [Int32.lt_iff_toInt_lt, Int32.le_iff_toInt_le, ← Int32.toInt_inj] at *; omega) | (simp only [Int32.lt_iff_toInt_lt, Int32.le_iff_toInt_le, ← Int32.toInt_inj] at *; simp at *; omega) | (simp only [Int32.lt_iff_toInt_lt, Int32.le_iff_toInt_le, ← Int32.toInt_inj] at *; simp at *; done) | (simp at *; omega) | (simp at *; done))⟩ | (exfalso; (first | omega | (simp only [Int32.lt_iff_toInt_lt, Int32.le_iff_toInt_le, ← Int32.toInt_inj] at *; omega) | (simp only [Int32.lt_iff_toInt_lt, Int32.le_iff_toInt_le, ← Int32.toInt_inj] at *; simp at *; omega) | (simp only [Int32.lt_iff_toInt_lt, Int32.le_iff_toInt_le, ← Int32.toInt_inj] at *; simp at *; done) | (simp at *; omega) | (simp at *; done)))) rfl rfl rfl rfl (Nat.le_of_ble_eq_true rfl) (Nat.le_of_ble_eq_true rfl) dX6_isSign_26
  · refine lv_if_ne (tgt := 21) hx hb dX6_isSign_7 (by decide) (fun c => absurd c (by decide)) (fun _ => ?_)
    refine lv_iload_n hx hb dX6_isSign_10 rfl (lv_at hl 0 rfl) ?_
    refine lv_bipush (v := 10) hx hb dX6_isSign_11 (by decide) ?_
    refine lv_bipush (v := 54) hx hb dX6_isSign_13 (by decide) ?_
    refine k_SNi [] [] (wr := []) hx hb hml hown hts hKW hP hD hS hA hl.1 (c_X11_isWithin l g _ v 10 54 ) wd_7_8 wd_1_2 nw_28 wd_7_7 yd_X11_isWithin ⟨(Nat.le_of_ble_eq_true rfl), (Nat.le_of_ble_eq_true rfl)⟩ rfl rfl rfl rfl (by decide) rfl (Nat.le_of_ble_eq_true rfl) dX6_isSign_15 ⟨(Nat.le_of_ble_eq_true rfl), (Nat.le_of_ble_eq_true rfl)⟩ (fun r_4 u_5 H locs hw_6 hP hD hS => ?_)
    have hP : va_P g.1 vwCl [] H := hP
    have hD : va_D A [] := hD
    rcases (show (r_4 = 1 ∧ (Int32.toInt 10 ≤ Int32.toInt v ∧ Int32.toInt v ≤ Int32.toInt 54)) ∨ (r_4 = 0 ∧ ¬ (Int32.toInt 10 ≤ Int32.toInt v ∧ Int32.toInt v ≤ Int32.toInt 54)) from hw_6) with ⟨rfl, hw_6b⟩ | ⟨rfl, hw_6b⟩ <;> clear hw_6
    · refine lv_if_eq (tgt := 25) hx hb dX6_isSign_18 (by decide) (fun c => absurd c (by decide)) (fun _ => ?_)
      refine lv_iconst (v := 1) hx hb dX6_isSign_21 (by decide) ?_
      refine lv_goto (tgt := 26) hx hb dX6_isSign_22 (by decide) ?_
      exact k_zret () [] hx hb hr hlk hP hD hS (by clear hP hD hS hA hts hKW hl; first | exact Or.inl ⟨rfl, by (first | omega | (simp only [Int32.lt_iff_toInt_lt, Int32.le_iff_toInt_le, ← Int32.toInt_inj] at *; omega) | (simp only [Int32.lt_iff_toInt_lt, Int32.le_iff_toInt_le, ← Int32.toInt_inj] at *; simp at *; omega) | (simp only [Int32.lt_iff_toInt_lt, Int32.le_iff_toInt_le, ← Int32.toInt_inj] at *; simp at *; done) | (simp at *; omega) | (simp at *; done))⟩ | exact Or.inr ⟨rfl, by (first | omega | (simp only [Int32.lt_iff_toInt_lt, Int32.le_iff_toInt_le, ← Int32.toInt_inj] at *; omega) | (simp only [Int32.lt_iff_toInt_lt, Int32.le_iff_toInt_le, ← Int32.toInt_inj] at *; simp at *; omega) | (simp only [Int32.lt_iff_toInt_lt, Int32.le_iff_toInt_le, ← Int32.toInt_inj] at *; simp at *; done) | (simp at *; omega) | (simp at *; done))⟩ | (exfalso; (first | omega | (simp only [Int32.lt_iff_toInt_lt, Int32.le_iff_toInt_le, ← Int32.toInt_inj] at *; omega) | (simp only [Int32.lt_iff_toInt_lt, Int32.le_iff_toInt_le, ← Int32.toInt_inj] at *; simp at *; omega) | (simp only [Int32.lt_iff_toInt_lt, Int32.le_iff_toInt_le, ← Int32.toInt_inj] at *; simp at *; done) | (simp at *; omega) | (simp at *; done)))) rfl rfl rfl rfl (Nat.le_of_ble_eq_true rfl) (Nat.le_of_ble_eq_true rfl) dX6_isSign_26
    · refine lv_if_eq (tgt := 25) hx hb dX6_isSign_18 (by decide) (fun _ => ?_) (fun c => absurd c (by decide))
      refine lv_iconst (v := 0) hx hb dX6_isSign_25 (by decide) ?_
      exact k_zret () [] hx hb hr hlk hP hD hS (by clear hP hD hS hA hts hKW hl; first | exact Or.inl ⟨rfl, by (first | omega | (simp only [Int32.lt_iff_toInt_lt, Int32.le_iff_toInt_le, ← Int32.toInt_inj] at *; omega) | (simp only [Int32.lt_iff_toInt_lt, Int32.le_iff_toInt_le, ← Int32.toInt_inj] at *; simp at *; omega) | (simp only [Int32.lt_iff_toInt_lt, Int32.le_iff_toInt_le, ← Int32.toInt_inj] at *; simp at *; done) | (simp at *; omega) | (simp at *; done))⟩ | exact Or.inr ⟨rfl, by (first | omega | (simp only [Int32.lt_iff_toInt_lt, Int32.le_iff_toInt_le, ← Int32.toInt_inj] at *; omega) | (simp only [Int32.lt_iff_toInt_lt, Int32.le_iff_toInt_le, ← Int32.toInt_inj] at *; simp at *; omega) | (simp only [Int32.lt_iff_toInt_lt, Int32.le_iff_toInt_le, ← Int32.toInt_inj] at *; simp at *; done) | (simp at *; omega) | (simp at *; done))⟩ | (exfalso; (first | omega | (simp only [Int32.lt_iff_toInt_lt, Int32.le_iff_toInt_le, ← Int32.toInt_inj] at *; omega) | (simp only [Int32.lt_iff_toInt_lt, Int32.le_iff_toInt_le, ← Int32.toInt_inj] at *; simp at *; omega) | (simp only [Int32.lt_iff_toInt_lt, Int32.le_iff_toInt_le, ← Int32.toInt_inj] at *; simp at *; done) | (simp at *; omega) | (simp at *; done)))) rfl rfl rfl rfl (Nat.le_of_ble_eq_true rfl) (Nat.le_of_ble_eq_true rfl) dX6_isSign_26
theorem dX6_firstWrong_0 : decode cX6_firstWrong 0 = .ok (.iconst 0, 1) := by decide +kernel
theorem dX6_firstWrong_1 : decode cX6_firstWrong 1 = .ok (.istore_n 1, 1) := by decide +kernel
theorem dX6_firstWrong_2 : decode cX6_firstWrong 2 = .ok (.iconst 0, 1) := by decide +kernel
theorem dX6_firstWrong_3 : decode cX6_firstWrong 3 = .ok (.istore_n 2, 1) := by decide +kernel
theorem dX6_firstWrong_4 : decode cX6_firstWrong 4 = .ok (.iload_n 2, 1) := by decide +kernel
theorem dX6_firstWrong_5 : decode cX6_firstWrong 5 = .ok (.aload_n 0, 1) := by decide +kernel
theorem dX6_firstWrong_6 : decode cX6_firstWrong 6 = .ok (.getfield 27, 3) := by decide +kernel
theorem dX6_firstWrong_9 : decode cX6_firstWrong 9 = .ok (.if_icmp .ge 57, 3) := by decide +kernel
theorem dX6_firstWrong_66 : decode cX6_firstWrong 66 = .ok (.iload_n 1, 1) := by decide +kernel
theorem dX6_firstWrong_67 : decode cX6_firstWrong 67 = .ok (.iconst 1, 1) := by decide +kernel
theorem dX6_firstWrong_68 : decode cX6_firstWrong 68 = .ok (.if_icmp .ne 7, 3) := by decide +kernel
theorem dX6_firstWrong_75 : decode cX6_firstWrong 75 = .ok (.aload_n 0, 1) := by decide +kernel
theorem dX6_firstWrong_76 : decode cX6_firstWrong 76 = .ok (.getfield 27, 3) := by decide +kernel
theorem dX6_firstWrong_79 : decode cX6_firstWrong 79 = .ok (.ireturn, 1) := by decide +kernel
theorem dX6_firstWrong_71 : decode cX6_firstWrong 71 = .ok (.iconst (-1), 1) := by decide +kernel
theorem dX6_firstWrong_72 : decode cX6_firstWrong 72 = .ok (.goto 7, 3) := by decide +kernel
theorem dX6_firstWrong_12 : decode cX6_firstWrong 12 = .ok (.aload_n 0, 1) := by decide +kernel
theorem dX6_firstWrong_13 : decode cX6_firstWrong 13 = .ok (.getfield 9, 3) := by decide +kernel
theorem dX6_firstWrong_16 : decode cX6_firstWrong 16 = .ok (.iload_n 2, 1) := by decide +kernel
theorem dX6_firstWrong_17 : decode cX6_firstWrong 17 = .ok (.iaload, 1) := by decide +kernel
theorem dX6_firstWrong_18 : decode cX6_firstWrong 18 = .ok (.bipush 50, 2) := by decide +kernel
theorem dX6_firstWrong_20 : decode cX6_firstWrong 20 = .ok (.if_icmp .lt 7, 3) := by decide +kernel
theorem dX6_firstWrong_27 : decode cX6_firstWrong 27 = .ok (.iconst 0, 1) := by decide +kernel
theorem dX6_firstWrong_28 : decode cX6_firstWrong 28 = .ok (.istore_n 3, 1) := by decide +kernel
theorem dX6_firstWrong_29 : decode cX6_firstWrong 29 = .ok (.iload_n 3, 1) := by decide +kernel
theorem dX6_firstWrong_30 : decode cX6_firstWrong 30 = .ok (.ifCond .eq 11, 3) := by decide +kernel
theorem dX6_firstWrong_41 : decode cX6_firstWrong 41 = .ok (.iload_n 1, 1) := by decide +kernel
theorem dX6_firstWrong_42 : decode cX6_firstWrong 42 = .ok (.iconst 5, 1) := by decide +kernel
theorem dX6_firstWrong_43 : decode cX6_firstWrong 43 = .ok (.if_icmp .lt 5, 3) := by decide +kernel
theorem dX6_firstWrong_48 : decode cX6_firstWrong 48 = .ok (.iload_n 1, 1) := by decide +kernel
theorem dX6_firstWrong_49 : decode cX6_firstWrong 49 = .ok (.iload_n 3, 1) := by decide +kernel
theorem dX6_firstWrong_50 : decode cX6_firstWrong 50 = .ok (.ifCond .eq 7, 3) := by decide +kernel
theorem dX6_firstWrong_57 : decode cX6_firstWrong 57 = .ok (.iconst 1, 1) := by decide +kernel
theorem dX6_firstWrong_58 : decode cX6_firstWrong 58 = .ok (.iadd, 1) := by decide +kernel
theorem dX6_firstWrong_59 : decode cX6_firstWrong 59 = .ok (.istore_n 1, 1) := by decide +kernel
theorem dX6_firstWrong_60 : decode cX6_firstWrong 60 = .ok (.iinc 2 1, 3) := by decide +kernel
theorem dX6_firstWrong_63 : decode cX6_firstWrong 63 = .ok (.goto (-59), 3) := by decide +kernel
theorem dX6_firstWrong_46 : decode cX6_firstWrong 46 = .ok (.iload_n 2, 1) := by decide +kernel
theorem dX6_firstWrong_47 : decode cX6_firstWrong 47 = .ok (.ireturn, 1) := by decide +kernel
theorem dX6_firstWrong_23 : decode cX6_firstWrong 23 = .ok (.iconst 1, 1) := by decide +kernel
theorem dX6_firstWrong_24 : decode cX6_firstWrong 24 = .ok (.goto 4, 3) := by decide +kernel
theorem dX6_firstWrong_33 : decode cX6_firstWrong 33 = .ok (.iload_n 1, 1) := by decide +kernel
theorem dX6_firstWrong_34 : decode cX6_firstWrong 34 = .ok (.iconst 2, 1) := by decide +kernel
theorem dX6_firstWrong_35 : decode cX6_firstWrong 35 = .ok (.if_icmp .ge 13, 3) := by decide +kernel
theorem dX6_firstWrong_53 : decode cX6_firstWrong 53 = .ok (.iconst (-1), 1) := by decide +kernel
theorem dX6_firstWrong_54 : decode cX6_firstWrong 54 = .ok (.goto 4, 3) := by decide +kernel
theorem dX6_firstWrong_38 : decode cX6_firstWrong 38 = .ok (.goto 8, 3) := by decide +kernel
set_option maxHeartbeats 8000000 in
set_option maxRecDepth 100000 in
theorem c_X6_firstWrong (l : Launch) (g : kG) (sz : Nat) (a : Nat → Nat) (cnt : Nat) (xw : Int32) (f0 : Nat → Int32) (hc : cnt ≤ 14) : kMi l g yX6_firstWrong cX6_firstWrong 4 (some .int) 1 0 0 [.ref (a 0)] sz [(a 0, .inr (6, [.int (nI cnt), .int xw, .ref (a 1)])), (a 1, .inl (gI g, 14, .inl f0))] (fun (r : Int32) (u : Unit) => True) (fun (u : Unit) => ([(a 0, .inr (6, [.int (nI cnt), .int xw, .ref (a 1)])), (a 1, .inl (gI g, 14, .inl f0))] : va_W)) := by
  refine kMi.of (by decide) (Nat.le_of_ble_eq_true rfl) (fun p e s m below meth c A hx hb hr hml hown hts hlk hnm hKW hP hD hS hA ls hl => ?_)
  have hown : s.vm.findClass RX6 = some m.cls := hown
  have hl : lv_has ls 4 [(0, .ref (a 0))] := hl
  refine k_hide hP hS (fun H locs hP hS => ?_)
  refine lv_iconst (v := 0) hx hb dX6_firstWrong_0 (by decide) ?_
  refine lv_istore_n (lv' := [(1, .int 0), (0, .ref (a 0))]) hx hb dX6_firstWrong_1 rfl hl (by decide) rfl (fun ls hl => ?_)
  refine lv_iconst (v := 0) hx hb dX6_firstWrong_2 (by decide) ?_
  refine lv_istore_n (lv' := [(2, .int 0), (1, .int 0), (0, .ref (a 0))]) hx hb dX6_firstWrong_3 rfl hl (by decide) rfl (fun ls hl => ?_)
  have L4 : ∀ (n4 : Nat) (i : Nat) (x1 : Int32) (hfuel4 : cnt - i < n4) (hi : i ≤ cnt) (H : Heap) (locs : List Loc) (hP : va_P g.1 vwCl [(a 0, .inr (6, [.int (nI cnt), .int xw, .ref (a 1)])), (a 1, .inl (gI g, 14, .inl f0))] H) (hD : va_D A [(a 0, .inr (6, [.int (nI cnt), .int xw, .ref (a 1)])), (a 1, .inl (gI g, 14, .inl f0))]) (hS : va_S A s.heap H locs) (ls : Array Slot) (hl : lv_has ls 4 [(2, .int (nI i)), (1, .int x1), (0, .ref (a 0))]), W p l e (kR 1 0 0) s m ([.ref (a 0)] : List Value).toArray below meth c H locs 0 0 (kQi g A below ([.ref (a 0)] : List Value).toArray s 0 0 (fun (r : Int32) (u : Unit) => True) (fun (u : Unit) => ([(a 0, .inr (6, [.int (nI cnt), .int xw, .ref (a 1)])), (a 1, .inl (gI g, 14, .inl f0))] : va_W))) (F0 m 4 ls []) := by
    intro n4
    induction n4 with
    | zero => intro i x1 hfuel4; exact absurd hfuel4 (Nat.not_lt_zero _)
    | succ n4 ih4 =>
      intro i x1 hfuel4 hi H locs hP hD hS ls hl
      refine lv_iload_n hx hb dX6_firstWrong_4 rfl (lv_at hl 0 rfl) ?_
      refine lv_aload_n hx hb dX6_firstWrong_5 rfl (lv_at hl 2 rfl) ?_
      refine va_get (ci := 6) (C := RX6) (T := TX6) (N := 3) hx hb hts inlX6 hown hKW.1 hP 0 rfl rfl 0 (by decide) (hts _ wd_9_22) (fun _ h => h) rfl dX6_firstWrong_6 ?_
      refine lv_icmp_ge (tgt := 66) hx hb dX6_firstWrong_9 (by decide) (fun c_1 => ?_) (fun c_1 => ?_)
      · have c_1n : cnt ≤ i := (k_leI (a := cnt) (b := i) (by omega) (by omega)).mp c_1
        refine lv_iload_n hx hb dX6_firstWrong_66 rfl (lv_at hl 1 rfl) ?_
        refine lv_iconst (v := 1) hx hb dX6_firstWrong_67 (by decide) ?_
        refine lv_icmp_ne (tgt := 75) hx hb dX6_firstWrong_68 (by decide) (fun c_2 => ?_) (fun c_2 => ?_)
        · refine lv_aload_n hx hb dX6_firstWrong_75 rfl (lv_at hl 2 rfl) ?_
          refine va_get (ci := 6) (C := RX6) (T := TX6) (N := 3) hx hb hts inlX6 hown hKW.1 hP 0 rfl rfl 0 (by decide) (hts _ wd_9_22) (fun _ h => h) rfl dX6_firstWrong_76 ?_
          exact k_iret () [0, 1] hx hb hr hlk hP hD hS trivial rfl rfl rfl (Nat.le_of_ble_eq_true rfl) (Nat.le_of_ble_eq_true rfl) dX6_firstWrong_79
        · refine lv_iconst (v := (-1)) hx hb dX6_firstWrong_71 (by decide) ?_
          refine lv_goto (tgt := 79) hx hb dX6_firstWrong_72 (by decide) ?_
          exact k_iret () [0, 1] hx hb hr hlk hP hD hS trivial rfl rfl rfl (Nat.le_of_ble_eq_true rfl) (Nat.le_of_ble_eq_true rfl) dX6_firstWrong_79
      · have c_1n : i < cnt := Nat.not_le.mp (fun h => c_1 ((k_leI (a := cnt) (b := i) (by omega) (by omega)).mpr h))
        refine lv_aload_n hx hb dX6_firstWrong_12 rfl (lv_at hl 2 rfl) ?_
        refine va_get (ci := 6) (C := RX6) (T := TX6) (N := 3) hx hb hts inlX6 hown hKW.1 hP 0 rfl rfl 2 (by decide) (hts _ wd_4_23) (fun _ h => h) rfl dX6_firstWrong_13 ?_
        refine lv_iload_n hx hb dX6_firstWrong_16 rfl (lv_at hl 0 rfl) ?_
        refine va_iald hx hb hKW.1 hP 1 0 rfl rfl (vp_in_nI (by omega) (by decide)) dX6_firstWrong_17 ?_
        refine lv_topi (fun x_3 ex_3 => ?_)
        refine lv_bipush (v := 50) hx hb dX6_firstWrong_18 (by decide) ?_
        refine lv_icmp_lt (tgt := 27) hx hb dX6_firstWrong_20 (by decide) (fun c_4 => ?_) (fun c_4 => ?_)
        · refine lv_iconst (v := 0) hx hb dX6_firstWrong_27 (by decide) ?_
          refine lv_istore_n (lv' := [(3, .int 0), (2, .int (nI i)), (1, .int x1), (0, .ref (a 0))]) hx hb dX6_firstWrong_28 rfl hl (by decide) rfl (fun ls hl => ?_)
          refine lv_iload_n hx hb dX6_firstWrong_29 rfl (lv_at hl 0 rfl) ?_
          refine lv_if_eq (tgt := 41) hx hb dX6_firstWrong_30 (by decide) (fun _ => ?_) (fun c => absurd c (by decide))
          refine lv_iload_n hx hb dX6_firstWrong_41 rfl (lv_at hl 2 rfl) ?_
          refine lv_iconst (v := 5) hx hb dX6_firstWrong_42 (by decide) ?_
          refine lv_icmp_lt (tgt := 48) hx hb dX6_firstWrong_43 (by decide) (fun c_5 => ?_) (fun c_5 => ?_)
          · refine lv_iload_n hx hb dX6_firstWrong_48 rfl (lv_at hl 2 rfl) ?_
            refine lv_iload_n hx hb dX6_firstWrong_49 rfl (lv_at hl 0 rfl) ?_
            refine lv_if_eq (tgt := 57) hx hb dX6_firstWrong_50 (by decide) (fun _ => ?_) (fun c => absurd c (by decide))
            refine lv_iconst (v := 1) hx hb dX6_firstWrong_57 (by decide) ?_
            refine lv_iadd hx hb dX6_firstWrong_58 ?_
            refine lv_topi (fun x_6 ex_6 => ?_)
            refine lv_istore_n (lv' := [(1, .int x_6), (3, .int 0), (2, .int (nI i)), (0, .ref (a 0))]) hx hb dX6_firstWrong_59 rfl hl (by decide) rfl (fun ls hl => ?_)
            refine lv_iinc (v := nI (i + 1)) (lv' := [(2, .int (nI (i + 1))), (1, .int x_6), (3, .int 0), (0, .ref (a 0))]) hx hb dX6_firstWrong_60 hl (k := 2) rfl (nI_add i 1) (by decide) rfl (fun ls hl => ?_)
            refine lv_goto (tgt := 4) hx hb dX6_firstWrong_63 (by decide) ?_
            exact ih4 (i + 1) x_6 (by omega) (by first | assumption | omega) H locs (hP.sub [0, 1] rfl) (hD.sub [0, 1] (by decide) rfl) hS ls (lv_sub hl [0, 1, 3] rfl)
          · refine lv_iload_n hx hb dX6_firstWrong_46 rfl (lv_at hl 1 rfl) ?_
            exact k_iret () [0, 1] hx hb hr hlk hP hD hS trivial rfl rfl rfl (Nat.le_of_ble_eq_true rfl) (Nat.le_of_ble_eq_true rfl) dX6_firstWrong_47
        · refine lv_iconst (v := 1) hx hb dX6_firstWrong_23 (by decide) ?_
          refine lv_goto (tgt := 28) hx hb dX6_firstWrong_24 (by decide) ?_
          refine lv_istore_n (lv' := [(3, .int 1), (2, .int (nI i)), (1, .int x1), (0, .ref (a 0))]) hx hb dX6_firstWrong_28 rfl hl (by decide) rfl (fun ls hl => ?_)
          refine lv_iload_n hx hb dX6_firstWrong_29 rfl (lv_at hl 0 rfl) ?_
          refine lv_if_eq (tgt := 41) hx hb dX6_firstWrong_30 (by decide) (fun c => absurd c (by decide)) (fun _ => ?_)
          refine lv_iload_n hx hb dX6_firstWrong_33 rfl (lv_at hl 2 rfl) ?_
          refine lv_iconst (v := 2) hx hb dX6_firstWrong_34 (by decide) ?_
          refine lv_icmp_ge (tgt := 48) hx hb dX6_firstWrong_35 (by decide) (fun c_7 => ?_) (fun c_7 => ?_)
          · refine lv_iload_n hx hb dX6_firstWrong_48 rfl (lv_at hl 2 rfl) ?_
            refine lv_iload_n hx hb dX6_firstWrong_49 rfl (lv_at hl 0 rfl) ?_
            refine lv_if_eq (tgt := 57) hx hb dX6_firstWrong_50 (by decide) (fun c => absurd c (by decide)) (fun _ => ?_)
            refine lv_iconst (v := (-1)) hx hb dX6_firstWrong_53 (by decide) ?_
            refine lv_goto (tgt := 58) hx hb dX6_firstWrong_54 (by decide) ?_
            refine lv_iadd hx hb dX6_firstWrong_58 ?_
            refine lv_topi (fun x_8 ex_8 => ?_)
            refine lv_istore_n (lv' := [(1, .int x_8), (3, .int 1), (2, .int (nI i)), (0, .ref (a 0))]) hx hb dX6_firstWrong_59 rfl hl (by decide) rfl (fun ls hl => ?_)
            refine lv_iinc (v := nI (i + 1)) (lv' := [(2, .int (nI (i + 1))), (1, .int x_8), (3, .int 1), (0, .ref (a 0))]) hx hb dX6_firstWrong_60 hl (k := 2) rfl (nI_add i 1) (by decide) rfl (fun ls hl => ?_)
            refine lv_goto (tgt := 4) hx hb dX6_firstWrong_63 (by decide) ?_
            exact ih4 (i + 1) x_8 (by omega) (by first | assumption | omega) H locs (hP.sub [0, 1] rfl) (hD.sub [0, 1] (by decide) rfl) hS ls (lv_sub hl [0, 1, 3] rfl)
          · refine lv_goto (tgt := 46) hx hb dX6_firstWrong_38 (by decide) ?_
            refine lv_iload_n hx hb dX6_firstWrong_46 rfl (lv_at hl 1 rfl) ?_
            exact k_iret () [0, 1] hx hb hr hlk hP hD hS trivial rfl rfl rfl (Nat.le_of_ble_eq_true rfl) (Nat.le_of_ble_eq_true rfl) dX6_firstWrong_47
  exact L4 (cnt - 0 + 1) 0 0 (Nat.lt_succ_self _) (by first | assumption | omega) H locs (hP.sub [0, 1] rfl) (hD.sub [0, 1] (by decide) rfl) hS ls (lv_sub hl [0, 1, 2] rfl)
theorem dX6_read_0 : decode cX6_read 0 = .ok (.aload_n 0, 1) := by decide +kernel
theorem dX6_read_1 : decode cX6_read 1 = .ok (.aload_n 1, 1) := by decide +kernel
theorem dX6_read_2 : decode cX6_read 2 = .ok (.getfield 15, 3) := by decide +kernel
theorem dX6_read_5 : decode cX6_read 5 = .ok (.bipush 14, 2) := by decide +kernel
theorem dX6_read_7 : decode cX6_read 7 = .ok (.invokestatic 21, 3) := by decide +kernel
theorem dX6_read_10 : decode cX6_read 10 = .ok (.putfield 27, 3) := by decide +kernel
theorem dX6_read_13 : decode cX6_read 13 = .ok (.aload_n 1, 1) := by decide +kernel
theorem dX6_read_14 : decode cX6_read 14 = .ok (.getfield 30, 3) := by decide +kernel
theorem dX6_read_17 : decode cX6_read 17 = .ok (.iconst 0, 1) := by decide +kernel
theorem dX6_read_18 : decode cX6_read 18 = .ok (.aload_n 0, 1) := by decide +kernel
theorem dX6_read_19 : decode cX6_read 19 = .ok (.getfield 9, 3) := by decide +kernel
theorem dX6_read_22 : decode cX6_read 22 = .ok (.iconst 0, 1) := by decide +kernel
theorem dX6_read_23 : decode cX6_read 23 = .ok (.aload_n 0, 1) := by decide +kernel
theorem dX6_read_24 : decode cX6_read 24 = .ok (.getfield 27, 3) := by decide +kernel
theorem dX6_read_27 : decode cX6_read 27 = .ok (.invokestatic 33, 3) := by decide +kernel
theorem dX6_read_30 : decode cX6_read 30 = .ok (.aload_n 0, 1) := by decide +kernel
theorem dX6_read_31 : decode cX6_read 31 = .ok (.aload_n 0, 1) := by decide +kernel
theorem dX6_read_32 : decode cX6_read 32 = .ok (.invokevirtual 39, 3) := by decide +kernel
theorem dX6_read_35 : decode cX6_read 35 = .ok (.putfield 43, 3) := by decide +kernel
theorem dX6_read_38 : decode cX6_read 38 = .ok (.return_, 1) := by decide +kernel
set_option maxHeartbeats 8000000 in
set_option maxRecDepth 100000 in
theorem c_X6_read (l : Launch) (g : kG) (sz : Nat) (a : Nat → Nat) (cnt : Nat) (xw : Int32) (f0 : Nat → Int32) (h : Nat) (nu : Nat) (sn : Nat) (xb : Int32) (f : Nat → Int32) (hs : sn ≤ 60) : kMv l g yX6_read cX6_read 2 none 2 0 0 [.ref (a 0), .ref h] sz [(a 0, .inr (6, [.int (nI cnt), .int xw, .ref (a 1)])), (a 1, .inl (gI g, 14, .inl f0)), (h, .inr (9, [.int xb, .int (nI sn), .ref nu])), (nu, .inl (gI g, 60, .inl f))] (fun (u : Nat × Int32 × (Nat → Int32)) => u.1 ≤ 14) (fun (u : Nat × Int32 × (Nat → Int32)) => ([(a 0, .inr (6, [.int (nI u.1), .int u.2.1, .ref (a 1)])), (a 1, .inl (gI g, 14, .inl u.2.2)), (h, .inr (9, [.int xb, .int (nI sn), .ref nu])), (nu, .inl (gI g, 60, .inl f))] : va_W)) := by
  refine kMv.of (by decide) (Nat.le_of_ble_eq_true rfl) (fun p e s m below meth c A hx hb hr hml hown hts hlk hnm hKW hP hD hS hA ls hl => ?_)
  have hown : s.vm.findClass RX6 = some m.cls := hown
  have hl : lv_has ls 2 [(0, .ref (a 0)), (1, .ref h)] := hl
  refine k_hide hP hS (fun H locs hP hS => ?_)
  refine lv_aload_n hx hb dX6_read_0 rfl (lv_at hl 0 rfl) ?_
  refine lv_aload_n hx hb dX6_read_1 rfl (lv_at hl 1 rfl) ?_
  refine va_get (ci := 9) (C := RX9) (T := TX9) (N := 3) hx hb hts inlX9 hown hKW.1 hP 2 rfl rfl 1 (by decide) (hts _ wd_45_4) (fun _ h => h) rfl dX6_read_2 ?_
  refine lv_bipush (v := 14) hx hb dX6_read_5 (by decide) ?_
  obtain ⟨kk, hk1, hk2, ekk⟩ := k_minN (a := sn) (N := 14) (by omega) (by omega)
  refine va_mmin hx hb (hml.trans hl.1.symm) hown (hts _ wd_45_5) (hts _ wd_8_1) (hts _ wd_8_2) (hts _ wd_8_3) (Nat.le_of_ble_eq_true rfl) (Nat.le_of_ble_eq_true rfl) (Nat.le_of_ble_eq_true rfl) (Nat.le_of_ble_eq_true rfl) dX6_read_7 ?_
  refine k_top (y := nI kk) ekk ?_
  refine va_put (ci := 6) (v := .int (nI kk)) (C := RX6) (T := TX6) (N := 3) hx hb hts inlX6 tyX6 tyX6_ok nmX6 hown hKW.1 hP hD hS 0 rfl rfl 0 (by decide) (hts _ wd_9_22) (fun _ h => h) rfl (tyX6_ok 0 (by decide)) rfl rfl (Nat.le_of_ble_eq_true rfl) dX6_read_10 (fun H locs hP hD hS => ?_)
  have hP : va_P g.1 vwCl [(a 0, .inr (6, [.int (nI kk), .int xw, .ref (a 1)])), (a 1, .inl (gI g, 14, .inl f0)), (h, .inr (9, [.int xb, .int (nI sn), .ref nu])), (nu, .inl (gI g, 60, .inl f))] H := hP
  have hD : va_D A [(a 0, .inr (6, [.int (nI kk), .int xw, .ref (a 1)])), (a 1, .inl (gI g, 14, .inl f0)), (h, .inr (9, [.int xb, .int (nI sn), .ref nu])), (nu, .inl (gI g, 60, .inl f))] := hD
  refine lv_aload_n hx hb dX6_read_13 rfl (lv_at hl 1 rfl) ?_
  refine va_get (ci := 9) (C := RX9) (T := TX9) (N := 3) hx hb hts inlX9 hown hKW.1 hP 2 rfl rfl 2 (by decide) (hts _ wd_45_6) (fun _ h => h) rfl dX6_read_14 ?_
  refine lv_iconst (v := 0) hx hb dX6_read_17 (by decide) ?_
  refine lv_aload_n hx hb dX6_read_18 rfl (lv_at hl 0 rfl) ?_
  refine va_get (ci := 6) (C := RX6) (T := TX6) (N := 3) hx hb hts inlX6 hown hKW.1 hP 0 rfl rfl 2 (by decide) (hts _ wd_4_23) (fun _ h => h) rfl dX6_read_19 ?_
  refine lv_iconst (v := 0) hx hb dX6_read_22 (by decide) ?_
  refine lv_aload_n hx hb dX6_read_23 rfl (lv_at hl 0 rfl) ?_
  refine va_get (ci := 6) (C := RX6) (T := TX6) (N := 3) hx hb hts inlX6 hown hKW.1 hP 0 rfl rfl 0 (by decide) (hts _ wd_9_22) (fun _ h => h) rfl dX6_read_24 ?_
  refine va_copyi hx hb (hml.trans hl.1.symm) hown (hts _ wd_10_0) (hts _ wd_8_9) (hts _ wd_8_10) (hts _ wd_8_11) hKW.1 hP hD hS 3 1 0 0 rfl rfl rfl rfl rfl (by decide) (by decide) (k_n_lt 0 (by decide) (by omega)) (by rw [nI_clamp (by omega)]; show 0 + kk ≤ 60; omega) (by rw [nI_clamp (by omega)]; show 0 + kk ≤ 14; omega) (fun _ _ => rfl) (Nat.le_of_ble_eq_true rfl) (Nat.le_of_ble_eq_true (by decide)) dX6_read_27 (fun H locs hP hD hS => ?_)
  have hP : va_P g.1 vwCl [(a 0, .inr (6, [.int (nI kk), .int xw, .ref (a 1)])), (a 1, .inl (gI g, 14, .inl (va_cpy f f0 0 0 (nI kk).toNatClampNeg))), (h, .inr (9, [.int xb, .int (nI sn), .ref nu])), (nu, .inl (gI g, 60, .inl f))] H := hP
  have hD : va_D A [(a 0, .inr (6, [.int (nI kk), .int xw, .ref (a 1)])), (a 1, .inl (gI g, 14, .inl (va_cpy f f0 0 0 (nI kk).toNatClampNeg))), (h, .inr (9, [.int xb, .int (nI sn), .ref nu])), (nu, .inl (gI g, 60, .inl f))] := hD
  obtain ⟨f_1, ef_1⟩ : ∃ zz_ : Nat → Int32, zz_ = va_cpy f f0 0 0 (nI kk).toNatClampNeg := ⟨_, rfl⟩
  rw [← ef_1] at hP hD
  refine lv_aload_n hx hb dX6_read_30 rfl (lv_at hl 0 rfl) ?_
  refine lv_aload_n hx hb dX6_read_31 rfl (lv_at hl 0 rfl) ?_
  refine k_Vi [0, 1] [2, 3] 0 6 (wr := [(h, .inr (9, [.int xb, .int (nI sn), .ref nu])), (nu, .inl (gI g, 60, .inl f))]) hx hb hml hown hts hKW hP hD hS hA hl.1 (c_X6_firstWrong l g _ a kk xw f_1 (by first | assumption | omega | decide)) rfl rfl rfl wd_45_10 wd_3_10 wd_45_7 wd_45_8 wd_45_9 yd_X6_firstWrong ⟨(Nat.le_of_ble_eq_true rfl), (Nat.le_of_ble_eq_true rfl)⟩ rfl rfl rfl rfl (by decide) rfl (Nat.le_of_ble_eq_true rfl) dX6_read_32 ⟨(Nat.le_of_ble_eq_true rfl), (Nat.le_of_ble_eq_true rfl)⟩ (fun r_2 u_3 H locs hw_4 hP hD hS => ?_)
  have hP : va_P g.1 vwCl [(h, .inr (9, [.int xb, .int (nI sn), .ref nu])), (nu, .inl (gI g, 60, .inl f)), (a 0, .inr (6, [.int (nI kk), .int xw, .ref (a 1)])), (a 1, .inl (gI g, 14, .inl f_1))] H := hP
  have hD : va_D A [(h, .inr (9, [.int xb, .int (nI sn), .ref nu])), (nu, .inl (gI g, 60, .inl f)), (a 0, .inr (6, [.int (nI kk), .int xw, .ref (a 1)])), (a 1, .inl (gI g, 14, .inl f_1))] := hD
  refine va_put (ci := 6) (v := .int r_2) (C := RX6) (T := TX6) (N := 3) hx hb hts inlX6 tyX6 tyX6_ok nmX6 hown hKW.1 hP hD hS 2 rfl rfl 1 (by decide) (hts _ wd_9_23) (fun _ h => h) rfl (tyX6_ok 1 (by decide)) rfl rfl (Nat.le_of_ble_eq_true rfl) dX6_read_35 (fun H locs hP hD hS => ?_)
  have hP : va_P g.1 vwCl [(h, .inr (9, [.int xb, .int (nI sn), .ref nu])), (nu, .inl (gI g, 60, .inl f)), (a 0, .inr (6, [.int (nI kk), .int r_2, .ref (a 1)])), (a 1, .inl (gI g, 14, .inl f_1))] H := hP
  have hD : va_D A [(h, .inr (9, [.int xb, .int (nI sn), .ref nu])), (nu, .inl (gI g, 60, .inl f)), (a 0, .inr (6, [.int (nI kk), .int r_2, .ref (a 1)])), (a 1, .inl (gI g, 14, .inl f_1))] := hD
  exact k_vret (kk, r_2, f_1) [2, 3, 0, 1] hx hb hr hlk hP hD hS (by omega) rfl rfl rfl (Nat.le_of_ble_eq_true rfl) (Nat.le_of_ble_eq_true rfl) dX6_read_38
theorem dX9_isMissing_0 : decode cX9_isMissing 0 = .ok (.aload_n 0, 1) := by decide +kernel
theorem dX9_isMissing_1 : decode cX9_isMissing 1 = .ok (.getfield 15, 3) := by decide +kernel
theorem dX9_isMissing_4 : decode cX9_isMissing 4 = .ok (.ifCond .ne 7, 3) := by decide +kernel
theorem dX9_isMissing_11 : decode cX9_isMissing 11 = .ok (.iconst 0, 1) := by decide +kernel
theorem dX9_isMissing_12 : decode cX9_isMissing 12 = .ok (.ireturn, 1) := by decide +kernel
theorem dX9_isMissing_7 : decode cX9_isMissing 7 = .ok (.iconst 1, 1) := by decide +kernel
theorem dX9_isMissing_8 : decode cX9_isMissing 8 = .ok (.goto 4, 3) := by decide +kernel
set_option maxHeartbeats 8000000 in
set_option maxRecDepth 100000 in
theorem c_X9_isMissing (l : Launch) (g : kG) (sz : Nat) (h : Nat) (nu : Nat) (sn : Nat) (xb : Int32) (f : Nat → Int32) : kMi l g yX9_isMissing cX9_isMissing 1 (some .boolean) 1 0 0 [.ref h] sz [(h, .inr (9, [.int xb, .int (nI sn), .ref nu])), (nu, .inl (gI g, 60, .inl f))] (fun (r : Int32) (u : Unit) => (r = 1 ∧ (xb = 0)) ∨ (r = 0 ∧ ¬ (xb = 0))) (fun (u : Unit) => ([(h, .inr (9, [.int xb, .int (nI sn), .ref nu])), (nu, .inl (gI g, 60, .inl f))] : va_W)) := by
  refine kMi.of (by decide) (Nat.le_of_ble_eq_true rfl) (fun p e s m below meth c A hx hb hr hml hown hts hlk hnm hKW hP hD hS hA ls hl => ?_)
  have hown : s.vm.findClass RX9 = some m.cls := hown
  have hl : lv_has ls 1 [(0, .ref h)] := hl
  refine k_hide hP hS (fun H locs hP hS => ?_)
  refine lv_aload_n hx hb dX9_isMissing_0 rfl (lv_at hl 0 rfl) ?_
  refine va_get (ci := 9) (C := RX9) (T := TX9) (N := 3) hx hb hts inlX9 hown hKW.1 hP 0 rfl rfl 0 (by decide) (hts _ wd_37_12) (fun _ h => h) rfl dX9_isMissing_1 ?_
  refine lv_if_ne (tgt := 11) hx hb dX9_isMissing_4 (by decide) (fun c_1 => ?_) (fun c_1 => ?_)
  · refine lv_iconst (v := 0) hx hb dX9_isMissing_11 (by decide) ?_
    exact k_zret () [0, 1] hx hb hr hlk hP hD hS (Or.inr ⟨rfl, c_1⟩) rfl rfl rfl rfl (Nat.le_of_ble_eq_true rfl) (Nat.le_of_ble_eq_true rfl) dX9_isMissing_12
  · refine lv_iconst (v := 1) hx hb dX9_isMissing_7 (by decide) ?_
    refine lv_goto (tgt := 12) hx hb dX9_isMissing_8 (by decide) ?_
    exact k_zret () [0, 1] hx hb hr hlk hP hD hS (Or.inl ⟨rfl, c_1⟩) rfl rfl rfl rfl (Nat.le_of_ble_eq_true rfl) (Nat.le_of_ble_eq_true rfl) dX9_isMissing_12
theorem dX9_begin_0 : decode cX9_begin 0 = .ok (.aload_n 0, 1) := by decide +kernel
theorem dX9_begin_1 : decode cX9_begin 1 = .ok (.iload_n 1, 1) := by decide +kernel
theorem dX9_begin_2 : decode cX9_begin 2 = .ok (.putfield 15, 3) := by decide +kernel
theorem dX9_begin_5 : decode cX9_begin 5 = .ok (.aload_n 0, 1) := by decide +kernel
theorem dX9_begin_6 : decode cX9_begin 6 = .ok (.iload_n 2, 1) := by decide +kernel
theorem dX9_begin_7 : decode cX9_begin 7 = .ok (.putfield 19, 3) := by decide +kernel
theorem dX9_begin_10 : decode cX9_begin 10 = .ok (.aload_n 0, 1) := by decide +kernel
theorem dX9_begin_11 : decode cX9_begin 11 = .ok (.getfield 9, 3) := by decide +kernel
theorem dX9_begin_14 : decode cX9_begin 14 = .ok (.iconst 0, 1) := by decide +kernel
theorem dX9_begin_15 : decode cX9_begin 15 = .ok (.invokestatic 22, 3) := by decide +kernel
theorem dX9_begin_18 : decode cX9_begin 18 = .ok (.return_, 1) := by decide +kernel
set_option maxHeartbeats 8000000 in
set_option maxRecDepth 100000 in
theorem c_X9_begin (l : Launch) (g : kG) (sz : Nat) (h : Nat) (nu : Nat) (sn : Nat) (sm : Nat) (xb : Int32) (x : Int32) (f : Nat → Int32) : kMv l g yX9_begin cX9_begin 3 none 2 0 0 [.ref h, .int x, .int (nI sm)] sz [(h, .inr (9, [.int xb, .int (nI sn), .ref nu])), (nu, .inl (gI g, 60, .inl f))] (fun (u : (Nat → Int32)) => ∀ j, j < 60 → u j = 0) (fun (u : (Nat → Int32)) => ([(h, .inr (9, [.int x, .int (nI sm), .ref nu])), (nu, .inl (gI g, 60, .inl u))] : va_W)) := by
  refine kMv.of (by decide) (Nat.le_of_ble_eq_true rfl) (fun p e s m below meth c A hx hb hr hml hown hts hlk hnm hKW hP hD hS hA ls hl => ?_)
  have hown : s.vm.findClass RX9 = some m.cls := hown
  have hl : lv_has ls 3 [(0, .ref h), (1, .int x), (2, .int (nI sm))] := hl
  refine k_hide hP hS (fun H locs hP hS => ?_)
  refine lv_aload_n hx hb dX9_begin_0 rfl (lv_at hl 0 rfl) ?_
  refine lv_iload_n hx hb dX9_begin_1 rfl (lv_at hl 1 rfl) ?_
  refine va_put (ci := 9) (v := .int x) (C := RX9) (T := TX9) (N := 3) hx hb hts inlX9 tyX9 tyX9_ok nmX9 hown hKW.1 hP hD hS 0 rfl rfl 0 (by decide) (hts _ wd_37_12) (fun _ h => h) rfl (tyX9_ok 0 (by decide)) rfl rfl (Nat.le_of_ble_eq_true rfl) dX9_begin_2 (fun H locs hP hD hS => ?_)
  have hP : va_P g.1 vwCl [(h, .inr (9, [.int x, .int (nI sn), .ref nu])), (nu, .inl (gI g, 60, .inl f))] H := hP
  have hD : va_D A [(h, .inr (9, [.int x, .int (nI sn), .ref nu])), (nu, .inl (gI g, 60, .inl f))] := hD
  refine lv_aload_n hx hb dX9_begin_5 rfl (lv_at hl 0 rfl) ?_
  refine lv_iload_n hx hb dX9_begin_6 rfl (lv_at hl 2 rfl) ?_
  refine va_put (ci := 9) (v := .int (nI sm)) (C := RX9) (T := TX9) (N := 3) hx hb hts inlX9 tyX9 tyX9_ok nmX9 hown hKW.1 hP hD hS 0 rfl rfl 1 (by decide) (hts _ wd_37_17) (fun _ h => h) rfl (tyX9_ok 1 (by decide)) rfl rfl (Nat.le_of_ble_eq_true rfl) dX9_begin_7 (fun H locs hP hD hS => ?_)
  have hP : va_P g.1 vwCl [(h, .inr (9, [.int x, .int (nI sm), .ref nu])), (nu, .inl (gI g, 60, .inl f))] H := hP
  have hD : va_D A [(h, .inr (9, [.int x, .int (nI sm), .ref nu])), (nu, .inl (gI g, 60, .inl f))] := hD
  refine lv_aload_n hx hb dX9_begin_10 rfl (lv_at hl 0 rfl) ?_
  refine va_get (ci := 9) (C := RX9) (T := TX9) (N := 3) hx hb hts inlX9 hown hKW.1 hP 0 rfl rfl 2 (by decide) (hts _ wd_6_0) (fun _ h => h) rfl dX9_begin_11 ?_
  refine lv_iconst (v := 0) hx hb dX9_begin_14 (by decide) ?_
  refine k_Sv [1] [0] (wr := [(h, .inr (9, [.int x, .int (nI sm), .ref nu]))]) hx hb hml hown hts hKW hP hD hS hA hl.1 (c_J7_fill60 l g _ nu f ) wd_24_15 wd_24_14 wd_46_8 wd_24_13 yd_J7_fill_53178 ⟨(Nat.le_of_ble_eq_true rfl), (Nat.le_of_ble_eq_true rfl)⟩ rfl rfl rfl rfl (by decide) rfl (Nat.le_of_ble_eq_true rfl) dX9_begin_15 ⟨(Nat.le_of_ble_eq_true rfl), (Nat.le_of_ble_eq_true rfl)⟩ (fun u_2 H locs hw_3 hP hD hS => ?_)
  have hP : va_P g.1 vwCl [(h, .inr (9, [.int x, .int (nI sm), .ref nu])), (nu, .inl (gI g, 60, .inl u_2))] H := hP
  have hD : va_D A [(h, .inr (9, [.int x, .int (nI sm), .ref nu])), (nu, .inl (gI g, 60, .inl u_2))] := hD
  have hw_3 : ∀ j, j < 60 → u_2 j = 0 := hw_3
  exact k_vret u_2 [0, 1] hx hb hr hlk hP hD hS hw_3 rfl rfl rfl (Nat.le_of_ble_eq_true rfl) (Nat.le_of_ble_eq_true rfl) dX9_begin_18
theorem dX9_write_0 : decode cX9_write 0 = .ok (.aload_n 0, 1) := by decide +kernel
theorem dX9_write_1 : decode cX9_write 1 = .ok (.getfield 15, 3) := by decide +kernel
theorem dX9_write_4 : decode cX9_write 4 = .ok (.lookupswitch 50 #[(8, 28), (16, 39)], 28) := by decide +kernel
theorem dX9_write_32 : decode cX9_write 32 = .ok (.aload_n 0, 1) := by decide +kernel
theorem dX9_write_33 : decode cX9_write 33 = .ok (.getfield 9, 3) := by decide +kernel
theorem dX9_write_36 : decode cX9_write 36 = .ok (.iload_n 1, 1) := by decide +kernel
theorem dX9_write_37 : decode cX9_write 37 = .ok (.iload_n 2, 1) := by decide +kernel
theorem dX9_write_38 : decode cX9_write 38 = .ok (.i2b, 1) := by decide +kernel
theorem dX9_write_39 : decode cX9_write 39 = .ok (.iastore, 1) := by decide +kernel
theorem dX9_write_40 : decode cX9_write 40 = .ok (.goto 21, 3) := by decide +kernel
theorem dX9_write_61 : decode cX9_write 61 = .ok (.return_, 1) := by decide +kernel
theorem dX9_write_43 : decode cX9_write 43 = .ok (.aload_n 0, 1) := by decide +kernel
theorem dX9_write_44 : decode cX9_write 44 = .ok (.getfield 9, 3) := by decide +kernel
theorem dX9_write_47 : decode cX9_write 47 = .ok (.iload_n 1, 1) := by decide +kernel
theorem dX9_write_48 : decode cX9_write 48 = .ok (.iload_n 2, 1) := by decide +kernel
theorem dX9_write_49 : decode cX9_write 49 = .ok (.i2s, 1) := by decide +kernel
theorem dX9_write_50 : decode cX9_write 50 = .ok (.iastore, 1) := by decide +kernel
theorem dX9_write_51 : decode cX9_write 51 = .ok (.goto 10, 3) := by decide +kernel
theorem dX9_write_54 : decode cX9_write 54 = .ok (.aload_n 0, 1) := by decide +kernel
theorem dX9_write_55 : decode cX9_write 55 = .ok (.getfield 9, 3) := by decide +kernel
theorem dX9_write_58 : decode cX9_write 58 = .ok (.iload_n 1, 1) := by decide +kernel
theorem dX9_write_59 : decode cX9_write 59 = .ok (.iload_n 2, 1) := by decide +kernel
theorem dX9_write_60 : decode cX9_write 60 = .ok (.iastore, 1) := by decide +kernel
set_option maxHeartbeats 8000000 in
set_option maxRecDepth 100000 in
theorem c_X9_write (l : Launch) (g : kG) (sz : Nat) (h : Nat) (nu : Nat) (sn : Nat) (xb : Int32) (f : Nat → Int32) (j : Nat) (v : Int32) (hj : j < 60) : kMv l g yX9_write cX9_write 3 none 1 0 0 [.ref h, .int (nI j), .int v] sz [(h, .inr (9, [.int xb, .int (nI sn), .ref nu])), (nu, .inl (gI g, 60, .inl f))] (fun (u : Unit) => True) (fun (u : Unit) => ([(h, .inr (9, [.int xb, .int (nI sn), .ref nu])), (nu, .inl (gI g, 60, .inl (upd f j (lowB xb v))))] : va_W)) := by
  refine kMv.of (by decide) (Nat.le_of_ble_eq_true rfl) (fun p e s m below meth c A hx hb hr hml hown hts hlk hnm hKW hP hD hS hA ls hl => ?_)
  have hown : s.vm.findClass RX9 = some m.cls := hown
  have hl : lv_has ls 3 [(0, .ref h), (1, .int (nI j)), (2, .int v)] := hl
  refine k_hide hP hS (fun H locs hP hS => ?_)
  refine lv_aload_n hx hb dX9_write_0 rfl (lv_at hl 0 rfl) ?_
  refine va_get (ci := 9) (C := RX9) (T := TX9) (N := 3) hx hb hts inlX9 hown hKW.1 hP 0 rfl rfl 0 (by decide) (hts _ wd_37_12) (fun _ h => h) rfl dX9_write_1 ?_
  by_cases c_1 : xb = 8
  · refine lv_lookup (tgt := 32) (off := 28) hx hb dX9_write_4 (by decide) (by rw [c_1]; decide) (by decide) ?_
    refine lv_aload_n hx hb dX9_write_32 rfl (lv_at hl 0 rfl) ?_
    refine va_get (ci := 9) (C := RX9) (T := TX9) (N := 3) hx hb hts inlX9 hown hKW.1 hP 0 rfl rfl 2 (by decide) (hts _ wd_6_0) (fun _ h => h) rfl dX9_write_33 ?_
    refine lv_iload_n hx hb dX9_write_36 rfl (lv_at hl 1 rfl) ?_
    refine lv_iload_n hx hb dX9_write_37 rfl (lv_at hl 2 rfl) ?_
    refine lv_i2b hx hb dX9_write_38 rfl ?_
    refine va_iast hx hb hKW.1 hP hD hS 1 0 rfl rfl (vp_in_nI (by omega) (by decide)) dX9_write_39 (fun H locs hP hD hS => ?_)
    have hP : va_P g.1 vwCl [(h, .inr (9, [.int xb, .int (nI sn), .ref nu])), (nu, .inl (gI g, 60, .inl (upd f (nI j).toNatClampNeg v.toInt8.toInt32)))] H := hP
    have hD : va_D A [(h, .inr (9, [.int xb, .int (nI sn), .ref nu])), (nu, .inl (gI g, 60, .inl (upd f (nI j).toNatClampNeg v.toInt8.toInt32)))] := hD
    rw [show upd f (nI j).toNatClampNeg v.toInt8.toInt32 = upd f j (lowB xb v) from (by rw [nI_clamp (by omega)]; unfold lowB; rw [if_pos c_1])] at hP hD
    refine lv_goto (tgt := 61) hx hb dX9_write_40 (by decide) ?_
    exact k_vret () [0, 1] hx hb hr hlk hP hD hS trivial rfl rfl rfl (Nat.le_of_ble_eq_true rfl) (Nat.le_of_ble_eq_true rfl) dX9_write_61
  · by_cases c_2 : xb = 16
    · refine lv_lookup (tgt := 43) (off := 39) hx hb dX9_write_4 (by decide) (by rw [c_2]; decide) (by decide) ?_
      refine lv_aload_n hx hb dX9_write_43 rfl (lv_at hl 0 rfl) ?_
      refine va_get (ci := 9) (C := RX9) (T := TX9) (N := 3) hx hb hts inlX9 hown hKW.1 hP 0 rfl rfl 2 (by decide) (hts _ wd_6_0) (fun _ h => h) rfl dX9_write_44 ?_
      refine lv_iload_n hx hb dX9_write_47 rfl (lv_at hl 1 rfl) ?_
      refine lv_iload_n hx hb dX9_write_48 rfl (lv_at hl 2 rfl) ?_
      refine lv_i2s hx hb dX9_write_49 rfl ?_
      refine va_iast hx hb hKW.1 hP hD hS 1 0 rfl rfl (vp_in_nI (by omega) (by decide)) dX9_write_50 (fun H locs hP hD hS => ?_)
      have hP : va_P g.1 vwCl [(h, .inr (9, [.int xb, .int (nI sn), .ref nu])), (nu, .inl (gI g, 60, .inl (upd f (nI j).toNatClampNeg v.toInt16.toInt32)))] H := hP
      have hD : va_D A [(h, .inr (9, [.int xb, .int (nI sn), .ref nu])), (nu, .inl (gI g, 60, .inl (upd f (nI j).toNatClampNeg v.toInt16.toInt32)))] := hD
      rw [show upd f (nI j).toNatClampNeg v.toInt16.toInt32 = upd f j (lowB xb v) from (by rw [nI_clamp (by omega)]; unfold lowB; rw [if_neg c_1, if_pos c_2])] at hP hD
      refine lv_goto (tgt := 61) hx hb dX9_write_51 (by decide) ?_
      exact k_vret () [0, 1] hx hb hr hlk hP hD hS trivial rfl rfl rfl (Nat.le_of_ble_eq_true rfl) (Nat.le_of_ble_eq_true rfl) dX9_write_61
    · refine lv_lookup (tgt := 54) (off := 50) hx hb dX9_write_4 (by decide) (by simp [Op.lookupswitch.offset, (show ¬ ((8 : Int) = Int32.toInt xb) from fun h => c_1 (Int32.toInt_inj.mp (show Int32.toInt xb = Int32.toInt 8 from h.symm))), (show ¬ ((16 : Int) = Int32.toInt xb) from fun h => c_2 (Int32.toInt_inj.mp (show Int32.toInt xb = Int32.toInt 16 from h.symm)))]) (by decide) ?_
      refine lv_aload_n hx hb dX9_write_54 rfl (lv_at hl 0 rfl) ?_
      refine va_get (ci := 9) (C := RX9) (T := TX9) (N := 3) hx hb hts inlX9 hown hKW.1 hP 0 rfl rfl 2 (by decide) (hts _ wd_6_0) (fun _ h => h) rfl dX9_write_55 ?_
      refine lv_iload_n hx hb dX9_write_58 rfl (lv_at hl 1 rfl) ?_
      refine lv_iload_n hx hb dX9_write_59 rfl (lv_at hl 2 rfl) ?_
      refine va_iast hx hb hKW.1 hP hD hS 1 0 rfl rfl (vp_in_nI (by omega) (by decide)) dX9_write_60 (fun H locs hP hD hS => ?_)
      have hP : va_P g.1 vwCl [(h, .inr (9, [.int xb, .int (nI sn), .ref nu])), (nu, .inl (gI g, 60, .inl (upd f (nI j).toNatClampNeg v)))] H := hP
      have hD : va_D A [(h, .inr (9, [.int xb, .int (nI sn), .ref nu])), (nu, .inl (gI g, 60, .inl (upd f (nI j).toNatClampNeg v)))] := hD
      rw [show upd f (nI j).toNatClampNeg v = upd f j (lowB xb v) from (by rw [nI_clamp (by omega)]; unfold lowB; rw [if_neg c_1, if_neg c_2])] at hP hD
      exact k_vret () [0, 1] hx hb hr hlk hP hD hS trivial rfl rfl rfl (Nat.le_of_ble_eq_true rfl) (Nat.le_of_ble_eq_true rfl) dX9_write_61
theorem dX9_hasStretch_0 : decode cX9_hasStretch 0 = .ok (.iload_n 1, 1) := by decide +kernel
theorem dX9_hasStretch_1 : decode cX9_hasStretch 1 = .ok (.ifCond .lt 29, 3) := by decide +kernel
theorem dX9_hasStretch_30 : decode cX9_hasStretch 30 = .ok (.iconst 0, 1) := by decide +kernel
theorem dX9_hasStretch_31 : decode cX9_hasStretch 31 = .ok (.ireturn, 1) := by decide +kernel
theorem dX9_hasStretch_4 : decode cX9_hasStretch 4 = .ok (.iload_n 2, 1) := by decide +kernel
theorem dX9_hasStretch_5 : decode cX9_hasStretch 5 = .ok (.ifCond .lt 25, 3) := by decide +kernel
theorem dX9_hasStretch_8 : decode cX9_hasStretch 8 = .ok (.iload_n 1, 1) := by decide +kernel
theorem dX9_hasStretch_9 : decode cX9_hasStretch 9 = .ok (.aload_n 0, 1) := by decide +kernel
theorem dX9_hasStretch_10 : decode cX9_hasStretch 10 = .ok (.getfield 19, 3) := by decide +kernel
theorem dX9_hasStretch_13 : decode cX9_hasStretch 13 = .ok (.if_icmp .gt 17, 3) := by decide +kernel
theorem dX9_hasStretch_16 : decode cX9_hasStretch 16 = .ok (.iload_n 2, 1) := by decide +kernel
theorem dX9_hasStretch_17 : decode cX9_hasStretch 17 = .ok (.aload_n 0, 1) := by decide +kernel
theorem dX9_hasStretch_18 : decode cX9_hasStretch 18 = .ok (.getfield 19, 3) := by decide +kernel
theorem dX9_hasStretch_21 : decode cX9_hasStretch 21 = .ok (.iload_n 1, 1) := by decide +kernel
theorem dX9_hasStretch_22 : decode cX9_hasStretch 22 = .ok (.isub, 1) := by decide +kernel
theorem dX9_hasStretch_23 : decode cX9_hasStretch 23 = .ok (.if_icmp .gt 7, 3) := by decide +kernel
theorem dX9_hasStretch_26 : decode cX9_hasStretch 26 = .ok (.iconst 1, 1) := by decide +kernel
theorem dX9_hasStretch_27 : decode cX9_hasStretch 27 = .ok (.goto 4, 3) := by decide +kernel
set_option maxHeartbeats 8000000 in
set_option maxRecDepth 100000 in
theorem c_X9_hasStretch (l : Launch) (g : kG) (sz : Nat) (h : Nat) (nu : Nat) (sn : Nat) (xb : Int32) (f : Nat → Int32) (fr : Int32) (x : Int32) (hs : sn ≤ 60) : kMi l g yX9_hasStretch cX9_hasStretch 3 (some .boolean) 1 0 0 [.ref h, .int fr, .int x] sz [(h, .inr (9, [.int xb, .int (nI sn), .ref nu])), (nu, .inl (gI g, 60, .inl f))] (fun (r : Int32) (u : Unit) => (r = 1 ∧ ((0 : Int) ≤ Int32.toInt fr ∧ (0 : Int) ≤ Int32.toInt x ∧ Int32.toInt fr + Int32.toInt x ≤ (sn : Int))) ∨ (r = 0 ∧ ¬ ((0 : Int) ≤ Int32.toInt fr ∧ (0 : Int) ≤ Int32.toInt x ∧ Int32.toInt fr + Int32.toInt x ≤ (sn : Int)))) (fun (u : Unit) => ([(h, .inr (9, [.int xb, .int (nI sn), .ref nu])), (nu, .inl (gI g, 60, .inl f))] : va_W)) := by
  refine kMi.of (by decide) (Nat.le_of_ble_eq_true rfl) (fun p e s m below meth c A hx hb hr hml hown hts hlk hnm hKW hP hD hS hA ls hl => ?_)
  have hown : s.vm.findClass RX9 = some m.cls := hown
  have hl : lv_has ls 3 [(0, .ref h), (1, .int fr), (2, .int x)] := hl
  refine k_hide hP hS (fun H locs hP hS => ?_)
  refine lv_iload_n hx hb dX9_hasStretch_0 rfl (lv_at hl 1 rfl) ?_
  refine lv_if_lt (tgt := 30) hx hb dX9_hasStretch_1 (by decide) (fun c_1 => ?_) (fun c_1 => ?_)
  · refine lv_iconst (v := 0) hx hb dX9_hasStretch_30 (by decide) ?_
    exact k_zret () [0, 1] hx hb hr hlk hP hD hS (by clear hP hD hS hA hts hKW hl; have q0 := c_1; rw [Int32.lt_iff_toInt_lt] at q0; simp at q0; exact Or.inr ⟨rfl, by omega⟩) rfl rfl rfl rfl (Nat.le_of_ble_eq_true rfl) (Nat.le_of_ble_eq_true rfl) dX9_hasStretch_31
  · refine lv_iload_n hx hb dX9_hasStretch_4 rfl (lv_at hl 2 rfl) ?_
    refine lv_if_lt (tgt := 30) hx hb dX9_hasStretch_5 (by decide) (fun c_2 => ?_) (fun c_2 => ?_)
    · refine lv_iconst (v := 0) hx hb dX9_hasStretch_30 (by decide) ?_
      exact k_zret () [0, 1] hx hb hr hlk hP hD hS (by clear hP hD hS hA hts hKW hl; have q0 := c_1; have q1 := c_2; rw [Int32.lt_iff_toInt_lt] at q0; rw [Int32.lt_iff_toInt_lt] at q1; simp at q0; simp at q1; exact Or.inr ⟨rfl, by omega⟩) rfl rfl rfl rfl (Nat.le_of_ble_eq_true rfl) (Nat.le_of_ble_eq_true rfl) dX9_hasStretch_31
    · refine lv_iload_n hx hb dX9_hasStretch_8 rfl (lv_at hl 1 rfl) ?_
      refine lv_aload_n hx hb dX9_hasStretch_9 rfl (lv_at hl 0 rfl) ?_
      refine va_get (ci := 9) (C := RX9) (T := TX9) (N := 3) hx hb hts inlX9 hown hKW.1 hP 0 rfl rfl 1 (by decide) (hts _ wd_37_17) (fun _ h => h) rfl dX9_hasStretch_10 ?_
      refine lv_icmp_gt (tgt := 30) hx hb dX9_hasStretch_13 (by decide) (fun c_3 => ?_) (fun c_3 => ?_)
      · refine lv_iconst (v := 0) hx hb dX9_hasStretch_30 (by decide) ?_
        exact k_zret () [0, 1] hx hb hr hlk hP hD hS (by clear hP hD hS hA hts hKW hl; have q0 := c_1; have q1 := c_2; have q2 := c_3; rw [Int32.lt_iff_toInt_lt] at q0; rw [Int32.lt_iff_toInt_lt] at q1; rw [Int32.lt_iff_toInt_lt] at q2; rw [k_nIi (by omega)] at q2; simp at q0; simp at q1; exact Or.inr ⟨rfl, by omega⟩) rfl rfl rfl rfl (Nat.le_of_ble_eq_true rfl) (Nat.le_of_ble_eq_true rfl) dX9_hasStretch_31
      · obtain ⟨jf, hjf, ejf⟩ := k_ofr (x := fr) (n := sn + 1) (by omega) (by clear hP hD hS hA hts hKW hl; have q1 := c_1; have q2 := c_3; rw [Int32.lt_iff_toInt_lt] at q1 q2; rw [k_nIi (by omega)] at q2; simp at q1; omega)
        refine lv_iload_n hx hb dX9_hasStretch_16 rfl (lv_at hl 2 rfl) ?_
        refine lv_aload_n hx hb dX9_hasStretch_17 rfl (lv_at hl 0 rfl) ?_
        refine va_get (ci := 9) (C := RX9) (T := TX9) (N := 3) hx hb hts inlX9 hown hKW.1 hP 0 rfl rfl 1 (by decide) (hts _ wd_37_17) (fun _ h => h) rfl dX9_hasStretch_18 ?_
        refine lv_iload_n hx hb dX9_hasStretch_21 rfl (lv_at hl 1 rfl) ?_
        refine lv_isub hx hb dX9_hasStretch_22 ?_
        refine k_top (y := nI (sn - jf)) (by rw [ejf]; exact k_sub (by omega)) ?_
        refine lv_icmp_gt (tgt := 30) hx hb dX9_hasStretch_23 (by decide) (fun c_4 => ?_) (fun c_4 => ?_)
        · refine lv_iconst (v := 0) hx hb dX9_hasStretch_30 (by decide) ?_
          exact k_zret () [0, 1] hx hb hr hlk hP hD hS (by clear hP hD hS hA hts hKW hl; have q0 := c_1; have q1 := c_2; have q2 := c_3; have q3 := c_4; rw [Int32.lt_iff_toInt_lt] at q0; rw [Int32.lt_iff_toInt_lt] at q1; rw [Int32.lt_iff_toInt_lt] at q2; rw [Int32.lt_iff_toInt_lt] at q3; rw [k_nIi (by omega)] at q2; rw [k_nIi (by omega)] at q3; have q4 : fr.toInt = jf := (by rw [ejf, k_nIi (by omega)]); simp at q0; simp at q1; exact Or.inr ⟨rfl, by omega⟩) rfl rfl rfl rfl (Nat.le_of_ble_eq_true rfl) (Nat.le_of_ble_eq_true rfl) dX9_hasStretch_31
        · refine lv_iconst (v := 1) hx hb dX9_hasStretch_26 (by decide) ?_
          refine lv_goto (tgt := 31) hx hb dX9_hasStretch_27 (by decide) ?_
          exact k_zret () [0, 1] hx hb hr hlk hP hD hS (by clear hP hD hS hA hts hKW hl; have q0 := c_1; have q1 := c_2; have q2 := c_3; have q3 := c_4; rw [Int32.lt_iff_toInt_lt] at q0; rw [Int32.lt_iff_toInt_lt] at q1; rw [Int32.lt_iff_toInt_lt] at q2; rw [Int32.lt_iff_toInt_lt] at q3; rw [k_nIi (by omega)] at q2; rw [k_nIi (by omega)] at q3; have q4 : fr.toInt = jf := (by rw [ejf, k_nIi (by omega)]); simp at q0; simp at q1; exact Or.inl ⟨rfl, by omega⟩) rfl rfl rfl rfl (Nat.le_of_ble_eq_true rfl) (Nat.le_of_ble_eq_true rfl) dX9_hasStretch_31
theorem dX9_rises_0 : decode cX9_rises 0 = .ok (.iconst 1, 1) := by decide +kernel
theorem dX9_rises_1 : decode cX9_rises 1 = .ok (.istore_n 1, 1) := by decide +kernel
theorem dX9_rises_2 : decode cX9_rises 2 = .ok (.iload_n 1, 1) := by decide +kernel
theorem dX9_rises_3 : decode cX9_rises 3 = .ok (.aload_n 0, 1) := by decide +kernel
theorem dX9_rises_4 : decode cX9_rises 4 = .ok (.getfield 19, 3) := by decide +kernel
theorem dX9_rises_7 : decode cX9_rises 7 = .ok (.if_icmp .ge 28, 3) := by decide +kernel
theorem dX9_rises_35 : decode cX9_rises 35 = .ok (.iconst 1, 1) := by decide +kernel
theorem dX9_rises_36 : decode cX9_rises 36 = .ok (.ireturn, 1) := by decide +kernel
theorem dX9_rises_10 : decode cX9_rises 10 = .ok (.aload_n 0, 1) := by decide +kernel
theorem dX9_rises_11 : decode cX9_rises 11 = .ok (.getfield 9, 3) := by decide +kernel
theorem dX9_rises_14 : decode cX9_rises 14 = .ok (.iload_n 1, 1) := by decide +kernel
theorem dX9_rises_15 : decode cX9_rises 15 = .ok (.iaload, 1) := by decide +kernel
theorem dX9_rises_16 : decode cX9_rises 16 = .ok (.aload_n 0, 1) := by decide +kernel
theorem dX9_rises_17 : decode cX9_rises 17 = .ok (.getfield 9, 3) := by decide +kernel
theorem dX9_rises_20 : decode cX9_rises 20 = .ok (.iload_n 1, 1) := by decide +kernel
theorem dX9_rises_21 : decode cX9_rises 21 = .ok (.iconst 1, 1) := by decide +kernel
theorem dX9_rises_22 : decode cX9_rises 22 = .ok (.isub, 1) := by decide +kernel
theorem dX9_rises_23 : decode cX9_rises 23 = .ok (.iaload, 1) := by decide +kernel
theorem dX9_rises_24 : decode cX9_rises 24 = .ok (.if_icmp .ge 5, 3) := by decide +kernel
theorem dX9_rises_29 : decode cX9_rises 29 = .ok (.iinc 1 1, 3) := by decide +kernel
theorem dX9_rises_32 : decode cX9_rises 32 = .ok (.goto (-30), 3) := by decide +kernel
theorem dX9_rises_27 : decode cX9_rises 27 = .ok (.iconst 0, 1) := by decide +kernel
theorem dX9_rises_28 : decode cX9_rises 28 = .ok (.ireturn, 1) := by decide +kernel
set_option maxHeartbeats 8000000 in
set_option maxRecDepth 100000 in
theorem c_X9_rises (l : Launch) (g : kG) (sz : Nat) (h : Nat) (nu : Nat) (sn : Nat) (xb : Int32) (f : Nat → Int32) (hs : sn ≤ 60) : kMi l g yX9_rises cX9_rises 2 (some .boolean) 1 0 0 [.ref h] sz [(h, .inr (9, [.int xb, .int (nI sn), .ref nu])), (nu, .inl (gI g, 60, .inl f))] (fun (r : Int32) (u : Unit) => r = 1 ∨ r = 0) (fun (u : Unit) => ([(h, .inr (9, [.int xb, .int (nI sn), .ref nu])), (nu, .inl (gI g, 60, .inl f))] : va_W)) := by
  refine kMi.of (by decide) (Nat.le_of_ble_eq_true rfl) (fun p e s m below meth c A hx hb hr hml hown hts hlk hnm hKW hP hD hS hA ls hl => ?_)
  have hown : s.vm.findClass RX9 = some m.cls := hown
  have hl : lv_has ls 2 [(0, .ref h)] := hl
  refine k_hide hP hS (fun H locs hP hS => ?_)
  refine lv_iconst (v := 1) hx hb dX9_rises_0 (by decide) ?_
  refine lv_istore_n (lv' := [(1, .int 1), (0, .ref h)]) hx hb dX9_rises_1 rfl hl (by decide) rfl (fun ls hl => ?_)
  have L2 : ∀ (n2 : Nat) (i : Nat) (hfuel2 : 60 - i < n2) (hi : 1 ≤ i ∧ i ≤ 61) (H : Heap) (locs : List Loc) (hP : va_P g.1 vwCl [(h, .inr (9, [.int xb, .int (nI sn), .ref nu])), (nu, .inl (gI g, 60, .inl f))] H) (hD : va_D A [(h, .inr (9, [.int xb, .int (nI sn), .ref nu])), (nu, .inl (gI g, 60, .inl f))]) (hS : va_S A s.heap H locs) (ls : Array Slot) (hl : lv_has ls 2 [(1, .int (nI i)), (0, .ref h)]), W p l e (kR 1 0 0) s m ([.ref h] : List Value).toArray below meth c H locs 0 0 (kQi g A below ([.ref h] : List Value).toArray s 0 0 (fun (r : Int32) (u : Unit) => r = 1 ∨ r = 0) (fun (u : Unit) => ([(h, .inr (9, [.int xb, .int (nI sn), .ref nu])), (nu, .inl (gI g, 60, .inl f))] : va_W))) (F0 m 2 ls []) := by
    intro n2
    induction n2 with
    | zero => intro i hfuel2; exact absurd hfuel2 (Nat.not_lt_zero _)
    | succ n2 ih2 =>
      intro i hfuel2 hi H locs hP hD hS ls hl
      refine lv_iload_n hx hb dX9_rises_2 rfl (lv_at hl 0 rfl) ?_
      refine lv_aload_n hx hb dX9_rises_3 rfl (lv_at hl 1 rfl) ?_
      refine va_get (ci := 9) (C := RX9) (T := TX9) (N := 3) hx hb hts inlX9 hown hKW.1 hP 0 rfl rfl 1 (by decide) (hts _ wd_37_17) (fun _ h => h) rfl dX9_rises_4 ?_
      refine lv_icmp_ge (tgt := 35) hx hb dX9_rises_7 (by decide) (fun c_1 => ?_) (fun c_1 => ?_)
      · have c_1n : sn ≤ i := (k_leI (a := sn) (b := i) (by omega) (by omega)).mp c_1
        refine lv_iconst (v := 1) hx hb dX9_rises_35 (by decide) ?_
        exact k_zret () [0, 1] hx hb hr hlk hP hD hS (Or.inl rfl) rfl rfl rfl rfl (Nat.le_of_ble_eq_true rfl) (Nat.le_of_ble_eq_true rfl) dX9_rises_36
      · have c_1n : i < sn := Nat.not_le.mp (fun h => c_1 ((k_leI (a := sn) (b := i) (by omega) (by omega)).mpr h))
        refine lv_aload_n hx hb dX9_rises_10 rfl (lv_at hl 1 rfl) ?_
        refine va_get (ci := 9) (C := RX9) (T := TX9) (N := 3) hx hb hts inlX9 hown hKW.1 hP 0 rfl rfl 2 (by decide) (hts _ wd_6_0) (fun _ h => h) rfl dX9_rises_11 ?_
        refine lv_iload_n hx hb dX9_rises_14 rfl (lv_at hl 0 rfl) ?_
        refine va_iald hx hb hKW.1 hP 1 0 rfl rfl (vp_in_nI (by omega) (by decide)) dX9_rises_15 ?_
        refine lv_topi (fun x_2 ex_2 => ?_)
        refine lv_aload_n hx hb dX9_rises_16 rfl (lv_at hl 1 rfl) ?_
        refine va_get (ci := 9) (C := RX9) (T := TX9) (N := 3) hx hb hts inlX9 hown hKW.1 hP 0 rfl rfl 2 (by decide) (hts _ wd_6_0) (fun _ h => h) rfl dX9_rises_17 ?_
        refine lv_iload_n hx hb dX9_rises_20 rfl (lv_at hl 0 rfl) ?_
        refine lv_iconst (v := 1) hx hb dX9_rises_21 (by decide) ?_
        refine lv_isub hx hb dX9_rises_22 ?_
        refine k_top (y := nI (i - 1)) (k_sub (b := 1) (by omega)) ?_
        refine va_iald hx hb hKW.1 hP 1 0 rfl rfl (vp_in_nI (by omega) (by decide)) dX9_rises_23 ?_
        refine lv_topi (fun x_3 ex_3 => ?_)
        refine lv_icmp_ge (tgt := 29) hx hb dX9_rises_24 (by decide) (fun c_4 => ?_) (fun c_4 => ?_)
        · refine lv_iinc (v := nI (i + 1)) (lv' := [(1, .int (nI (i + 1))), (0, .ref h)]) hx hb dX9_rises_29 hl (k := 0) rfl (nI_add i 1) (by decide) rfl (fun ls hl => ?_)
          refine lv_goto (tgt := 2) hx hb dX9_rises_32 (by decide) ?_
          exact ih2 (i + 1) (by omega) (by first | assumption | omega) H locs (hP.sub [0, 1] rfl) (hD.sub [0, 1] (by decide) rfl) hS ls (lv_sub hl [0, 1] rfl)
        · refine lv_iconst (v := 0) hx hb dX9_rises_27 (by decide) ?_
          exact k_zret () [0, 1] hx hb hr hlk hP hD hS (Or.inr rfl) rfl rfl rfl rfl (Nat.le_of_ble_eq_true rfl) (Nat.le_of_ble_eq_true rfl) dX9_rises_28
  exact L2 (60 - 1 + 1) 1 (Nat.lt_succ_self _) (by first | assumption | omega) H locs (hP.sub [0, 1] rfl) (hD.sub [0, 1] (by decide) rfl) hS ls (lv_sub hl [0, 1] rfl)
theorem dX9_isAllWithin_0 : decode cX9_isAllWithin 0 = .ok (.iconst 0, 1) := by decide +kernel
theorem dX9_isAllWithin_1 : decode cX9_isAllWithin 1 = .ok (.istore_n 3, 1) := by decide +kernel
theorem dX9_isAllWithin_2 : decode cX9_isAllWithin 2 = .ok (.iload_n 3, 1) := by decide +kernel
theorem dX9_isAllWithin_3 : decode cX9_isAllWithin 3 = .ok (.aload_n 0, 1) := by decide +kernel
theorem dX9_isAllWithin_4 : decode cX9_isAllWithin 4 = .ok (.getfield 19, 3) := by decide +kernel
theorem dX9_isAllWithin_7 : decode cX9_isAllWithin 7 = .ok (.if_icmp .ge 25, 3) := by decide +kernel
theorem dX9_isAllWithin_32 : decode cX9_isAllWithin 32 = .ok (.iconst 1, 1) := by decide +kernel
theorem dX9_isAllWithin_33 : decode cX9_isAllWithin 33 = .ok (.ireturn, 1) := by decide +kernel
theorem dX9_isAllWithin_10 : decode cX9_isAllWithin 10 = .ok (.aload_n 0, 1) := by decide +kernel
theorem dX9_isAllWithin_11 : decode cX9_isAllWithin 11 = .ok (.getfield 9, 3) := by decide +kernel
theorem dX9_isAllWithin_14 : decode cX9_isAllWithin 14 = .ok (.iload_n 3, 1) := by decide +kernel
theorem dX9_isAllWithin_15 : decode cX9_isAllWithin 15 = .ok (.iaload, 1) := by decide +kernel
theorem dX9_isAllWithin_16 : decode cX9_isAllWithin 16 = .ok (.iload_n 1, 1) := by decide +kernel
theorem dX9_isAllWithin_17 : decode cX9_isAllWithin 17 = .ok (.iload_n 2, 1) := by decide +kernel
theorem dX9_isAllWithin_18 : decode cX9_isAllWithin 18 = .ok (.invokestatic 28, 3) := by decide +kernel
theorem dX9_isAllWithin_21 : decode cX9_isAllWithin 21 = .ok (.ifCond .ne 5, 3) := by decide +kernel
theorem dX9_isAllWithin_26 : decode cX9_isAllWithin 26 = .ok (.iinc 3 1, 3) := by decide +kernel
theorem dX9_isAllWithin_29 : decode cX9_isAllWithin 29 = .ok (.goto (-27), 3) := by decide +kernel
theorem dX9_isAllWithin_24 : decode cX9_isAllWithin 24 = .ok (.iconst 0, 1) := by decide +kernel
theorem dX9_isAllWithin_25 : decode cX9_isAllWithin 25 = .ok (.ireturn, 1) := by decide +kernel
set_option maxHeartbeats 8000000 in
set_option maxRecDepth 100000 in
theorem c_X9_isAllWithin (l : Launch) (g : kG) (sz : Nat) (h : Nat) (nu : Nat) (sn : Nat) (xb : Int32) (f : Nat → Int32) (x : Int32) (y : Int32) (hs : sn ≤ 60) : kMi l g yX9_isAllWithin cX9_isAllWithin 4 (some .boolean) 2 0 0 [.ref h, .int x, .int y] sz [(h, .inr (9, [.int xb, .int (nI sn), .ref nu])), (nu, .inl (gI g, 60, .inl f))] (fun (r : Int32) (u : Unit) => r = 1 ∨ r = 0) (fun (u : Unit) => ([(h, .inr (9, [.int xb, .int (nI sn), .ref nu])), (nu, .inl (gI g, 60, .inl f))] : va_W)) := by
  refine kMi.of (by decide) (Nat.le_of_ble_eq_true rfl) (fun p e s m below meth c A hx hb hr hml hown hts hlk hnm hKW hP hD hS hA ls hl => ?_)
  have hown : s.vm.findClass RX9 = some m.cls := hown
  have hl : lv_has ls 4 [(0, .ref h), (1, .int x), (2, .int y)] := hl
  refine k_hide hP hS (fun H locs hP hS => ?_)
  refine lv_iconst (v := 0) hx hb dX9_isAllWithin_0 (by decide) ?_
  refine lv_istore_n (lv' := [(3, .int 0), (0, .ref h), (1, .int x), (2, .int y)]) hx hb dX9_isAllWithin_1 rfl hl (by decide) rfl (fun ls hl => ?_)
  have L2 : ∀ (n2 : Nat) (i : Nat) (hfuel2 : sn - i < n2) (hi : i ≤ sn) (H : Heap) (locs : List Loc) (hP : va_P g.1 vwCl [(h, .inr (9, [.int xb, .int (nI sn), .ref nu])), (nu, .inl (gI g, 60, .inl f))] H) (hD : va_D A [(h, .inr (9, [.int xb, .int (nI sn), .ref nu])), (nu, .inl (gI g, 60, .inl f))]) (hS : va_S A s.heap H locs) (ls : Array Slot) (hl : lv_has ls 4 [(3, .int (nI i)), (0, .ref h), (1, .int x), (2, .int y)]), W p l e (kR 2 0 0) s m ([.ref h, .int x, .int y] : List Value).toArray below meth c H locs 0 0 (kQi g A below ([.ref h, .int x, .int y] : List Value).toArray s 0 0 (fun (r : Int32) (u : Unit) => r = 1 ∨ r = 0) (fun (u : Unit) => ([(h, .inr (9, [.int xb, .int (nI sn), .ref nu])), (nu, .inl (gI g, 60, .inl f))] : va_W))) (F0 m 2 ls []) := by
    intro n2
    induction n2 with
    | zero => intro i hfuel2; exact absurd hfuel2 (Nat.not_lt_zero _)
    | succ n2 ih2 =>
      intro i hfuel2 hi H locs hP hD hS ls hl
      refine lv_iload_n hx hb dX9_isAllWithin_2 rfl (lv_at hl 0 rfl) ?_
      refine lv_aload_n hx hb dX9_isAllWithin_3 rfl (lv_at hl 1 rfl) ?_
      refine va_get (ci := 9) (C := RX9) (T := TX9) (N := 3) hx hb hts inlX9 hown hKW.1 hP 0 rfl rfl 1 (by decide) (hts _ wd_37_17) (fun _ h => h) rfl dX9_isAllWithin_4 ?_
      refine lv_icmp_ge (tgt := 32) hx hb dX9_isAllWithin_7 (by decide) (fun c_1 => ?_) (fun c_1 => ?_)
      · have c_1n : sn ≤ i := (k_leI (a := sn) (b := i) (by omega) (by omega)).mp c_1
        refine lv_iconst (v := 1) hx hb dX9_isAllWithin_32 (by decide) ?_
        exact k_zret () [0, 1] hx hb hr hlk hP hD hS (Or.inl rfl) rfl rfl rfl rfl (Nat.le_of_ble_eq_true rfl) (Nat.le_of_ble_eq_true rfl) dX9_isAllWithin_33
      · have c_1n : i < sn := Nat.not_le.mp (fun h => c_1 ((k_leI (a := sn) (b := i) (by omega) (by omega)).mpr h))
        refine lv_aload_n hx hb dX9_isAllWithin_10 rfl (lv_at hl 1 rfl) ?_
        refine va_get (ci := 9) (C := RX9) (T := TX9) (N := 3) hx hb hts inlX9 hown hKW.1 hP 0 rfl rfl 2 (by decide) (hts _ wd_6_0) (fun _ h => h) rfl dX9_isAllWithin_11 ?_
        refine lv_iload_n hx hb dX9_isAllWithin_14 rfl (lv_at hl 0 rfl) ?_
        refine va_iald hx hb hKW.1 hP 1 0 rfl rfl (vp_in_nI (by omega) (by decide)) dX9_isAllWithin_15 ?_
        refine lv_topi (fun x_2 ex_2 => ?_)
        refine lv_iload_n hx hb dX9_isAllWithin_16 rfl (lv_at hl 2 rfl) ?_
        refine lv_iload_n hx hb dX9_isAllWithin_17 rfl (lv_at hl 3 rfl) ?_
        refine k_SNi [] [0, 1] (wr := [(h, .inr (9, [.int xb, .int (nI sn), .ref nu])), (nu, .inl (gI g, 60, .inl f))]) hx hb hml hown hts hKW hP hD hS hA hl.1 (c_X11_isWithin l g _ x_2 x y ) wd_7_8 wd_1_2 nw_24 wd_7_7 yd_X11_isWithin ⟨(Nat.le_of_ble_eq_true rfl), (Nat.le_of_ble_eq_true rfl)⟩ rfl rfl rfl rfl (by decide) rfl (Nat.le_of_ble_eq_true rfl) dX9_isAllWithin_18 ⟨(Nat.le_of_ble_eq_true rfl), (Nat.le_of_ble_eq_true rfl)⟩ (fun r_3 u_4 H locs hw_5 hP hD hS => ?_)
        have hP : va_P g.1 vwCl [(h, .inr (9, [.int xb, .int (nI sn), .ref nu])), (nu, .inl (gI g, 60, .inl f))] H := hP
        have hD : va_D A [(h, .inr (9, [.int xb, .int (nI sn), .ref nu])), (nu, .inl (gI g, 60, .inl f))] := hD
        rcases (show (r_3 = 1 ∧ (Int32.toInt x ≤ Int32.toInt x_2 ∧ Int32.toInt x_2 ≤ Int32.toInt y)) ∨ (r_3 = 0 ∧ ¬ (Int32.toInt x ≤ Int32.toInt x_2 ∧ Int32.toInt x_2 ≤ Int32.toInt y)) from hw_5) with ⟨rfl, hw_5b⟩ | ⟨rfl, hw_5b⟩ <;> clear hw_5
        · refine lv_if_ne (tgt := 26) hx hb dX9_isAllWithin_21 (by decide) (fun _ => ?_) (fun c => absurd c (by decide))
          refine lv_iinc (v := nI (i + 1)) (lv' := [(3, .int (nI (i + 1))), (0, .ref h), (1, .int x), (2, .int y)]) hx hb dX9_isAllWithin_26 hl (k := 0) rfl (nI_add i 1) (by decide) rfl (fun ls hl => ?_)
          refine lv_goto (tgt := 2) hx hb dX9_isAllWithin_29 (by decide) ?_
          exact ih2 (i + 1) (by omega) (by first | assumption | omega) H locs (hP.sub [0, 1] rfl) (hD.sub [0, 1] (by decide) rfl) hS ls (lv_sub hl [0, 1, 2, 3] rfl)
        · refine lv_if_ne (tgt := 26) hx hb dX9_isAllWithin_21 (by decide) (fun c => absurd c (by decide)) (fun _ => ?_)
          refine lv_iconst (v := 0) hx hb dX9_isAllWithin_24 (by decide) ?_
          exact k_zret () [0, 1] hx hb hr hlk hP hD hS (Or.inr rfl) rfl rfl rfl rfl (Nat.le_of_ble_eq_true rfl) (Nat.le_of_ble_eq_true rfl) dX9_isAllWithin_25
  exact L2 (sn - 0 + 1) 0 (Nat.lt_succ_self _) (by first | assumption | omega) H locs (hP.sub [0, 1] rfl) (hD.sub [0, 1] (by decide) rfl) hS ls (lv_sub hl [0, 1, 2, 3] rfl)
theorem dX9_isAllSigns_0 : decode cX9_isAllSigns 0 = .ok (.iconst 0, 1) := by decide +kernel
theorem dX9_isAllSigns_1 : decode cX9_isAllSigns 1 = .ok (.istore_n 1, 1) := by decide +kernel
theorem dX9_isAllSigns_2 : decode cX9_isAllSigns 2 = .ok (.iload_n 1, 1) := by decide +kernel
theorem dX9_isAllSigns_3 : decode cX9_isAllSigns 3 = .ok (.aload_n 0, 1) := by decide +kernel
theorem dX9_isAllSigns_4 : decode cX9_isAllSigns 4 = .ok (.getfield 19, 3) := by decide +kernel
theorem dX9_isAllSigns_7 : decode cX9_isAllSigns 7 = .ok (.if_icmp .ge 23, 3) := by decide +kernel
theorem dX9_isAllSigns_30 : decode cX9_isAllSigns 30 = .ok (.iconst 1, 1) := by decide +kernel
theorem dX9_isAllSigns_31 : decode cX9_isAllSigns 31 = .ok (.ireturn, 1) := by decide +kernel
theorem dX9_isAllSigns_10 : decode cX9_isAllSigns 10 = .ok (.aload_n 0, 1) := by decide +kernel
theorem dX9_isAllSigns_11 : decode cX9_isAllSigns 11 = .ok (.getfield 9, 3) := by decide +kernel
theorem dX9_isAllSigns_14 : decode cX9_isAllSigns 14 = .ok (.iload_n 1, 1) := by decide +kernel
theorem dX9_isAllSigns_15 : decode cX9_isAllSigns 15 = .ok (.iaload, 1) := by decide +kernel
theorem dX9_isAllSigns_16 : decode cX9_isAllSigns 16 = .ok (.invokestatic 32, 3) := by decide +kernel
theorem dX9_isAllSigns_19 : decode cX9_isAllSigns 19 = .ok (.ifCond .ne 5, 3) := by decide +kernel
theorem dX9_isAllSigns_24 : decode cX9_isAllSigns 24 = .ok (.iinc 1 1, 3) := by decide +kernel
theorem dX9_isAllSigns_27 : decode cX9_isAllSigns 27 = .ok (.goto (-25), 3) := by decide +kernel
theorem dX9_isAllSigns_22 : decode cX9_isAllSigns 22 = .ok (.iconst 0, 1) := by decide +kernel
theorem dX9_isAllSigns_23 : decode cX9_isAllSigns 23 = .ok (.ireturn, 1) := by decide +kernel
set_option maxHeartbeats 8000000 in
set_option maxRecDepth 100000 in
theorem c_X9_isAllSigns (l : Launch) (g : kG) (sz : Nat) (h : Nat) (nu : Nat) (sn : Nat) (xb : Int32) (f : Nat → Int32) (hs : sn ≤ 60) : kMi l g yX9_isAllSigns cX9_isAllSigns 2 (some .boolean) 3 0 0 [.ref h] sz [(h, .inr (9, [.int xb, .int (nI sn), .ref nu])), (nu, .inl (gI g, 60, .inl f))] (fun (r : Int32) (u : Unit) => (r = 1 ∧ (∀ k, k < sn → kSG (f k))) ∨ (r = 0 ∧ ¬ (∀ k, k < sn → kSG (f k)))) (fun (u : Unit) => ([(h, .inr (9, [.int xb, .int (nI sn), .ref nu])), (nu, .inl (gI g, 60, .inl f))] : va_W)) := by
  refine kMi.of (by decide) (Nat.le_of_ble_eq_true rfl) (fun p e s m below meth c A hx hb hr hml hown hts hlk hnm hKW hP hD hS hA ls hl => ?_)
  have hown : s.vm.findClass RX9 = some m.cls := hown
  have hl : lv_has ls 2 [(0, .ref h)] := hl
  refine k_hide hP hS (fun H locs hP hS => ?_)
  refine lv_iconst (v := 0) hx hb dX9_isAllSigns_0 (by decide) ?_
  refine lv_istore_n (lv' := [(1, .int 0), (0, .ref h)]) hx hb dX9_isAllSigns_1 rfl hl (by decide) rfl (fun ls hl => ?_)
  have L2 : ∀ (n2 : Nat) (i : Nat) (hfuel2 : sn - i < n2) (hi : i ≤ sn) (hg : ∀ k, k < i → kSG (f k)) (H : Heap) (locs : List Loc) (hP : va_P g.1 vwCl [(h, .inr (9, [.int xb, .int (nI sn), .ref nu])), (nu, .inl (gI g, 60, .inl f))] H) (hD : va_D A [(h, .inr (9, [.int xb, .int (nI sn), .ref nu])), (nu, .inl (gI g, 60, .inl f))]) (hS : va_S A s.heap H locs) (ls : Array Slot) (hl : lv_has ls 2 [(1, .int (nI i)), (0, .ref h)]), W p l e (kR 3 0 0) s m ([.ref h] : List Value).toArray below meth c H locs 0 0 (kQi g A below ([.ref h] : List Value).toArray s 0 0 (fun (r : Int32) (u : Unit) => (r = 1 ∧ (∀ k, k < sn → kSG (f k))) ∨ (r = 0 ∧ ¬ (∀ k, k < sn → kSG (f k)))) (fun (u : Unit) => ([(h, .inr (9, [.int xb, .int (nI sn), .ref nu])), (nu, .inl (gI g, 60, .inl f))] : va_W))) (F0 m 2 ls []) := by
    intro n2
    induction n2 with
    | zero => intro i hfuel2; exact absurd hfuel2 (Nat.not_lt_zero _)
    | succ n2 ih2 =>
      intro i hfuel2 hi hg H locs hP hD hS ls hl
      refine lv_iload_n hx hb dX9_isAllSigns_2 rfl (lv_at hl 0 rfl) ?_
      refine lv_aload_n hx hb dX9_isAllSigns_3 rfl (lv_at hl 1 rfl) ?_
      refine va_get (ci := 9) (C := RX9) (T := TX9) (N := 3) hx hb hts inlX9 hown hKW.1 hP 0 rfl rfl 1 (by decide) (hts _ wd_37_17) (fun _ h => h) rfl dX9_isAllSigns_4 ?_
      refine lv_icmp_ge (tgt := 30) hx hb dX9_isAllSigns_7 (by decide) (fun c_1 => ?_) (fun c_1 => ?_)
      · have c_1n : sn ≤ i := (k_leI (a := sn) (b := i) (by omega) (by omega)).mp c_1
        refine lv_iconst (v := 1) hx hb dX9_isAllSigns_30 (by decide) ?_
        exact k_zret () [0, 1] hx hb hr hlk hP hD hS (Or.inl ⟨rfl, fun k hk => hg k (by omega)⟩) rfl rfl rfl rfl (Nat.le_of_ble_eq_true rfl) (Nat.le_of_ble_eq_true rfl) dX9_isAllSigns_31
      · have c_1n : i < sn := Nat.not_le.mp (fun h => c_1 ((k_leI (a := sn) (b := i) (by omega) (by omega)).mpr h))
        refine lv_aload_n hx hb dX9_isAllSigns_10 rfl (lv_at hl 1 rfl) ?_
        refine va_get (ci := 9) (C := RX9) (T := TX9) (N := 3) hx hb hts inlX9 hown hKW.1 hP 0 rfl rfl 2 (by decide) (hts _ wd_6_0) (fun _ h => h) rfl dX9_isAllSigns_11 ?_
        refine lv_iload_n hx hb dX9_isAllSigns_14 rfl (lv_at hl 0 rfl) ?_
        refine va_iald hx hb hKW.1 hP 1 0 rfl rfl (vp_in_nI (by omega) (by decide)) dX9_isAllSigns_15 ?_
        refine lv_topi (fun x_2 ex_2 => ?_)
        refine k_Si [] [0, 1] (wr := [(h, .inr (9, [.int xb, .int (nI sn), .ref nu])), (nu, .inl (gI g, 60, .inl f))]) hx hb hml hown hts hKW hP hD hS hA hl.1 (c_X6_isSign l g _ x_2 ) wd_44_23 wd_3_10 wd_44_21 wd_44_22 yd_X6_isSign ⟨(Nat.le_of_ble_eq_true rfl), (Nat.le_of_ble_eq_true rfl)⟩ rfl rfl rfl rfl (by decide) rfl (Nat.le_of_ble_eq_true rfl) dX9_isAllSigns_16 ⟨(Nat.le_of_ble_eq_true rfl), (Nat.le_of_ble_eq_true rfl)⟩ (fun r_3 u_4 H locs hw_5 hP hD hS => ?_)
        have hP : va_P g.1 vwCl [(h, .inr (9, [.int xb, .int (nI sn), .ref nu])), (nu, .inl (gI g, 60, .inl f))] H := hP
        have hD : va_D A [(h, .inr (9, [.int xb, .int (nI sn), .ref nu])), (nu, .inl (gI g, 60, .inl f))] := hD
        rcases (show (r_3 = 1 ∧ (kSG x_2)) ∨ (r_3 = 0 ∧ ¬ (kSG x_2)) from hw_5) with ⟨rfl, hw_5b⟩ | ⟨rfl, hw_5b⟩ <;> clear hw_5
        · refine lv_if_ne (tgt := 24) hx hb dX9_isAllSigns_19 (by decide) (fun _ => ?_) (fun c => absurd c (by decide))
          refine lv_iinc (v := nI (i + 1)) (lv' := [(1, .int (nI (i + 1))), (0, .ref h)]) hx hb dX9_isAllSigns_24 hl (k := 0) rfl (nI_add i 1) (by decide) rfl (fun ls hl => ?_)
          refine lv_goto (tgt := 2) hx hb dX9_isAllSigns_27 (by decide) ?_
          exact ih2 (i + 1) (by omega) (by first | assumption | omega) (fun k hk => (Nat.lt_or_ge k i).elim (fun q => hg k q) (fun q => by have := hw_5b; rw [ex_2, nI_clamp (by omega)] at this; rw [show k = i by omega]; exact this)) H locs (hP.sub [0, 1] rfl) (hD.sub [0, 1] (by decide) rfl) hS ls (lv_sub hl [0, 1] rfl)
        · refine lv_if_ne (tgt := 24) hx hb dX9_isAllSigns_19 (by decide) (fun c => absurd c (by decide)) (fun _ => ?_)
          refine lv_iconst (v := 0) hx hb dX9_isAllSigns_22 (by decide) ?_
          exact k_zret () [0, 1] hx hb hr hlk hP hD hS (Or.inr ⟨rfl, fun h => hw_5b (by rw [ex_2, nI_clamp (by omega)]; exact h i (by omega))⟩) rfl rfl rfl rfl (Nat.le_of_ble_eq_true rfl) (Nat.le_of_ble_eq_true rfl) dX9_isAllSigns_23
  exact L2 (sn - 0 + 1) 0 (Nat.lt_succ_self _) (by first | assumption | omega) (fun k hk => absurd hk (by omega)) H locs (hP.sub [0, 1] rfl) (hD.sub [0, 1] (by decide) rfl) hS ls (lv_sub hl [0, 1] rfl)
theorem dX10_endedAt_0 : decode cX10_endedAt 0 = .ok (.iload_n 1, 1) := by decide +kernel
theorem dX10_endedAt_1 : decode cX10_endedAt 1 = .ok (.iload_n 2, 1) := by decide +kernel
theorem dX10_endedAt_2 : decode cX10_endedAt 2 = .ok (.if_icmp .lt 14, 3) := by decide +kernel
theorem dX10_endedAt_16 : decode cX10_endedAt 16 = .ok (.iconst 0, 1) := by decide +kernel
theorem dX10_endedAt_17 : decode cX10_endedAt 17 = .ok (.ireturn, 1) := by decide +kernel
theorem dX10_endedAt_5 : decode cX10_endedAt 5 = .ok (.aload_n 0, 1) := by decide +kernel
theorem dX10_endedAt_6 : decode cX10_endedAt 6 = .ok (.getfield 9, 3) := by decide +kernel
theorem dX10_endedAt_9 : decode cX10_endedAt 9 = .ok (.iload_n 1, 1) := by decide +kernel
theorem dX10_endedAt_10 : decode cX10_endedAt 10 = .ok (.iload_n 2, 1) := by decide +kernel
theorem dX10_endedAt_11 : decode cX10_endedAt 11 = .ok (.isub, 1) := by decide +kernel
theorem dX10_endedAt_12 : decode cX10_endedAt 12 = .ok (.iaload, 1) := by decide +kernel
theorem dX10_endedAt_13 : decode cX10_endedAt 13 = .ok (.goto 4, 3) := by decide +kernel
set_option maxHeartbeats 8000000 in
set_option maxRecDepth 100000 in
theorem c_X10_endedAt (l : Launch) (g : kG) (sz : Nat) (h : Nat) (b : Nat) (f : Nat → Int32) (i : Nat) (lo : Nat) (hi : i < 60) (hlo : 1 ≤ lo ∧ lo ≤ 60) : kMi l g yX10_endedAt cX10_endedAt 3 (some .int) 1 0 0 [.ref h, .int (nI i), .int (nI lo)] sz [(h, .inr (10, [.ref b])), (b, .inl (gI g, 60, .inl f))] (fun (r : Int32) (u : Unit) => True) (fun (u : Unit) => ([(h, .inr (10, [.ref b])), (b, .inl (gI g, 60, .inl f))] : va_W)) := by
  refine kMi.of (by decide) (Nat.le_of_ble_eq_true rfl) (fun p e s m below meth c A hx hb hr hml hown hts hlk hnm hKW hP hD hS hA ls hl => ?_)
  have hown : s.vm.findClass RX10 = some m.cls := hown
  have hl : lv_has ls 3 [(0, .ref h), (1, .int (nI i)), (2, .int (nI lo))] := hl
  refine k_hide hP hS (fun H locs hP hS => ?_)
  refine lv_iload_n hx hb dX10_endedAt_0 rfl (lv_at hl 1 rfl) ?_
  refine lv_iload_n hx hb dX10_endedAt_1 rfl (lv_at hl 2 rfl) ?_
  refine lv_icmp_lt (tgt := 16) hx hb dX10_endedAt_2 (by decide) (fun c_1 => ?_) (fun c_1 => ?_)
  · have c_1n : i < lo := (k_ltI (a := i) (b := lo) (by omega) (by omega)).mp c_1
    refine lv_iconst (v := 0) hx hb dX10_endedAt_16 (by decide) ?_
    exact k_iret () [0, 1] hx hb hr hlk hP hD hS trivial rfl rfl rfl (Nat.le_of_ble_eq_true rfl) (Nat.le_of_ble_eq_true rfl) dX10_endedAt_17
  · have c_1n : lo ≤ i := Nat.not_lt.mp (fun h => c_1 ((k_ltI (a := i) (b := lo) (by omega) (by omega)).mpr h))
    refine lv_aload_n hx hb dX10_endedAt_5 rfl (lv_at hl 0 rfl) ?_
    refine va_get (ci := 10) (C := RX10) (T := TX10) (N := 1) hx hb hts inlX10 hown hKW.1 hP 0 rfl rfl 0 (by decide) (hts _ wd_5_20) (fun _ h => h) rfl dX10_endedAt_6 ?_
    refine lv_iload_n hx hb dX10_endedAt_9 rfl (lv_at hl 1 rfl) ?_
    refine lv_iload_n hx hb dX10_endedAt_10 rfl (lv_at hl 2 rfl) ?_
    refine lv_isub hx hb dX10_endedAt_11 ?_
    refine k_top (y := nI (i - lo)) (k_sub (by omega)) ?_
    refine va_iald hx hb hKW.1 hP 1 0 rfl rfl (vp_in_nI (by omega) (by decide)) dX10_endedAt_12 ?_
    refine lv_topi (fun x_2 ex_2 => ?_)
    refine lv_goto (tgt := 17) hx hb dX10_endedAt_13 (by decide) ?_
    exact k_iret () [0, 1] hx hb hr hlk hP hD hS trivial rfl rfl rfl (Nat.le_of_ble_eq_true rfl) (Nat.le_of_ble_eq_true rfl) dX10_endedAt_17
theorem dX10_plan_0 : decode cX10_plan 0 = .ok (.aload_n 0, 1) := by decide +kernel
theorem dX10_plan_1 : decode cX10_plan 1 = .ok (.getfield 9, 3) := by decide +kernel
theorem dX10_plan_4 : decode cX10_plan 4 = .ok (.iconst 0, 1) := by decide +kernel
theorem dX10_plan_5 : decode cX10_plan 5 = .ok (.invokestatic 15, 3) := by decide +kernel
theorem dX10_plan_8 : decode cX10_plan 8 = .ok (.iconst 0, 1) := by decide +kernel
theorem dX10_plan_9 : decode cX10_plan 9 = .ok (.istore_n 3, 1) := by decide +kernel
theorem dX10_plan_10 : decode cX10_plan 10 = .ok (.iconst 0, 1) := by decide +kernel
theorem dX10_plan_11 : decode cX10_plan 11 = .ok (.istore 4, 2) := by decide +kernel
theorem dX10_plan_13 : decode cX10_plan 13 = .ok (.iconst 0, 1) := by decide +kernel
theorem dX10_plan_14 : decode cX10_plan 14 = .ok (.istore 5, 2) := by decide +kernel
theorem dX10_plan_16 : decode cX10_plan 16 = .ok (.iload 5, 2) := by decide +kernel
theorem dX10_plan_18 : decode cX10_plan 18 = .ok (.bipush 60, 2) := by decide +kernel
theorem dX10_plan_20 : decode cX10_plan 20 = .ok (.if_icmp .ge 62, 3) := by decide +kernel
theorem dX10_plan_82 : decode cX10_plan 82 = .ok (.iload 4, 2) := by decide +kernel
theorem dX10_plan_84 : decode cX10_plan 84 = .ok (.ireturn, 1) := by decide +kernel
theorem dX10_plan_23 : decode cX10_plan 23 = .ok (.iload_n 3, 1) := by decide +kernel
theorem dX10_plan_24 : decode cX10_plan 24 = .ok (.aload_n 0, 1) := by decide +kernel
theorem dX10_plan_25 : decode cX10_plan 25 = .ok (.iload 5, 2) := by decide +kernel
theorem dX10_plan_27 : decode cX10_plan 27 = .ok (.iload_n 2, 1) := by decide +kernel
theorem dX10_plan_28 : decode cX10_plan 28 = .ok (.invokevirtual 21, 3) := by decide +kernel
theorem dX10_plan_31 : decode cX10_plan 31 = .ok (.isub, 1) := by decide +kernel
theorem dX10_plan_32 : decode cX10_plan 32 = .ok (.istore_n 3, 1) := by decide +kernel
theorem dX10_plan_33 : decode cX10_plan 33 = .ok (.iconst 0, 1) := by decide +kernel
theorem dX10_plan_34 : decode cX10_plan 34 = .ok (.aload_n 1, 1) := by decide +kernel
theorem dX10_plan_35 : decode cX10_plan 35 = .ok (.iload 5, 2) := by decide +kernel
theorem dX10_plan_37 : decode cX10_plan 37 = .ok (.iaload, 1) := by decide +kernel
theorem dX10_plan_38 : decode cX10_plan 38 = .ok (.iload_n 3, 1) := by decide +kernel
theorem dX10_plan_39 : decode cX10_plan 39 = .ok (.isub, 1) := by decide +kernel
theorem dX10_plan_40 : decode cX10_plan 40 = .ok (.invokestatic 25, 3) := by decide +kernel
theorem dX10_plan_43 : decode cX10_plan 43 = .ok (.istore 6, 2) := by decide +kernel
theorem dX10_plan_45 : decode cX10_plan 45 = .ok (.aload_n 0, 1) := by decide +kernel
theorem dX10_plan_46 : decode cX10_plan 46 = .ok (.getfield 9, 3) := by decide +kernel
theorem dX10_plan_49 : decode cX10_plan 49 = .ok (.iload 5, 2) := by decide +kernel
theorem dX10_plan_51 : decode cX10_plan 51 = .ok (.bipush 60, 2) := by decide +kernel
theorem dX10_plan_53 : decode cX10_plan 53 = .ok (.iload_n 2, 1) := by decide +kernel
theorem dX10_plan_54 : decode cX10_plan 54 = .ok (.isub, 1) := by decide +kernel
theorem dX10_plan_55 : decode cX10_plan 55 = .ok (.invokestatic 30, 3) := by decide +kernel
theorem dX10_plan_58 : decode cX10_plan 58 = .ok (.dup2, 1) := by decide +kernel
theorem dX10_plan_59 : decode cX10_plan 59 = .ok (.iaload, 1) := by decide +kernel
theorem dX10_plan_60 : decode cX10_plan 60 = .ok (.iload 6, 2) := by decide +kernel
theorem dX10_plan_62 : decode cX10_plan 62 = .ok (.iadd, 1) := by decide +kernel
theorem dX10_plan_63 : decode cX10_plan 63 = .ok (.iastore, 1) := by decide +kernel
theorem dX10_plan_64 : decode cX10_plan 64 = .ok (.iload_n 3, 1) := by decide +kernel
theorem dX10_plan_65 : decode cX10_plan 65 = .ok (.iload 6, 2) := by decide +kernel
theorem dX10_plan_67 : decode cX10_plan 67 = .ok (.iadd, 1) := by decide +kernel
theorem dX10_plan_68 : decode cX10_plan 68 = .ok (.istore_n 3, 1) := by decide +kernel
theorem dX10_plan_69 : decode cX10_plan 69 = .ok (.iload 4, 2) := by decide +kernel
theorem dX10_plan_71 : decode cX10_plan 71 = .ok (.iload 6, 2) := by decide +kernel
theorem dX10_plan_73 : decode cX10_plan 73 = .ok (.iadd, 1) := by decide +kernel
theorem dX10_plan_74 : decode cX10_plan 74 = .ok (.istore 4, 2) := by decide +kernel
theorem dX10_plan_76 : decode cX10_plan 76 = .ok (.iinc 5 1, 3) := by decide +kernel
theorem dX10_plan_79 : decode cX10_plan 79 = .ok (.goto (-63), 3) := by decide +kernel
set_option maxHeartbeats 8000000 in
set_option maxRecDepth 100000 in
theorem c_X10_plan (l : Launch) (g : kG) (sz : Nat) (h : Nat) (b : Nat) (f : Nat → Int32) (d : Nat) (fd : Nat → Int32) (lo : Nat) (hlo : 1 ≤ lo ∧ lo ≤ 60) : kMi l g yX10_plan cX10_plan 7 (some .int) 2 0 0 [.ref h, .ref d, .int (nI lo)] sz [(h, .inr (10, [.ref b])), (b, .inl (gI g, 60, .inl f)), (d, .inl (gI g, 60, .inl fd))] (fun (r : Int32) (u : (Nat → Int32)) => True) (fun (u : (Nat → Int32)) => ([(h, .inr (10, [.ref b])), (b, .inl (gI g, 60, .inl u)), (d, .inl (gI g, 60, .inl fd))] : va_W)) := by
  refine kMi.of (by decide) (Nat.le_of_ble_eq_true rfl) (fun p e s m below meth c A hx hb hr hml hown hts hlk hnm hKW hP hD hS hA ls hl => ?_)
  have hown : s.vm.findClass RX10 = some m.cls := hown
  have hl : lv_has ls 7 [(0, .ref h), (1, .ref d), (2, .int (nI lo))] := hl
  refine k_hide hP hS (fun H locs hP hS => ?_)
  refine lv_aload_n hx hb dX10_plan_0 rfl (lv_at hl 0 rfl) ?_
  refine va_get (ci := 10) (C := RX10) (T := TX10) (N := 1) hx hb hts inlX10 hown hKW.1 hP 0 rfl rfl 0 (by decide) (hts _ wd_5_20) (fun _ h => h) rfl dX10_plan_1 ?_
  refine lv_iconst (v := 0) hx hb dX10_plan_4 (by decide) ?_
  refine k_Sv [1] [0, 2] (wr := [(h, .inr (10, [.ref b])), (d, .inl (gI g, 60, .inl fd))]) hx hb hml hown hts hKW hP hD hS hA hl.1 (c_J7_fill60 l g _ b f ) wd_24_15 wd_24_14 wd_35_21 wd_24_13 yd_J7_fill_53178 ⟨(Nat.le_of_ble_eq_true rfl), (Nat.le_of_ble_eq_true rfl)⟩ rfl rfl rfl rfl (by decide) rfl (Nat.le_of_ble_eq_true rfl) dX10_plan_5 ⟨(Nat.le_of_ble_eq_true rfl), (Nat.le_of_ble_eq_true rfl)⟩ (fun u_2 H locs hw_3 hP hD hS => ?_)
  have hP : va_P g.1 vwCl [(h, .inr (10, [.ref b])), (d, .inl (gI g, 60, .inl fd)), (b, .inl (gI g, 60, .inl u_2))] H := hP
  have hD : va_D A [(h, .inr (10, [.ref b])), (d, .inl (gI g, 60, .inl fd)), (b, .inl (gI g, 60, .inl u_2))] := hD
  have hw_3 : ∀ j, j < 60 → u_2 j = 0 := hw_3
  refine lv_iconst (v := 0) hx hb dX10_plan_8 (by decide) ?_
  refine lv_istore_n (lv' := [(3, .int 0), (0, .ref h), (1, .ref d), (2, .int (nI lo))]) hx hb dX10_plan_9 rfl hl (by decide) rfl (fun ls hl => ?_)
  refine lv_iconst (v := 0) hx hb dX10_plan_10 (by decide) ?_
  refine lv_istore (lv' := [(4, .int 0), (3, .int 0), (0, .ref h), (1, .ref d), (2, .int (nI lo))]) hx hb dX10_plan_11 hl (by decide) rfl (fun ls hl => ?_)
  refine lv_iconst (v := 0) hx hb dX10_plan_13 (by decide) ?_
  refine lv_istore (lv' := [(5, .int 0), (4, .int 0), (3, .int 0), (0, .ref h), (1, .ref d), (2, .int (nI lo))]) hx hb dX10_plan_14 hl (by decide) rfl (fun ls hl => ?_)
  have L16 : ∀ (n16 : Nat) (i : Nat) (x3 : Int32) (x4 : Int32) (ga : Nat → Int32) (hfuel16 : 60 - i < n16) (hi : i ≤ 60) (H : Heap) (locs : List Loc) (hP : va_P g.1 vwCl [(h, .inr (10, [.ref b])), (d, .inl (gI g, 60, .inl fd)), (b, .inl (gI g, 60, .inl ga))] H) (hD : va_D A [(h, .inr (10, [.ref b])), (d, .inl (gI g, 60, .inl fd)), (b, .inl (gI g, 60, .inl ga))]) (hS : va_S A s.heap H locs) (ls : Array Slot) (hl : lv_has ls 7 [(5, .int (nI i)), (4, .int x4), (3, .int x3), (0, .ref h), (1, .ref d), (2, .int (nI lo))]), W p l e (kR 2 0 0) s m ([.ref h, .ref d, .int (nI lo)] : List Value).toArray below meth c H locs 0 0 (kQi g A below ([.ref h, .ref d, .int (nI lo)] : List Value).toArray s 0 0 (fun (r : Int32) (u : (Nat → Int32)) => True) (fun (u : (Nat → Int32)) => ([(h, .inr (10, [.ref b])), (b, .inl (gI g, 60, .inl u)), (d, .inl (gI g, 60, .inl fd))] : va_W))) (F0 m 16 ls []) := by
    intro n16
    induction n16 with
    | zero => intro i x3 x4 ga hfuel16; exact absurd hfuel16 (Nat.not_lt_zero _)
    | succ n16 ih16 =>
      intro i x3 x4 ga hfuel16 hi H locs hP hD hS ls hl
      refine lv_iload hx hb dX10_plan_16 (lv_at hl 0 rfl) ?_
      refine lv_bipush (v := 60) hx hb dX10_plan_18 (by decide) ?_
      refine lv_icmp_ge (tgt := 82) hx hb dX10_plan_20 (by decide) (fun c_4 => ?_) (fun c_4 => ?_)
      · have c_4n : 60 ≤ i := (k_leI (a := 60) (b := i) (by omega) (by omega)).mp c_4
        refine lv_iload hx hb dX10_plan_82 (lv_at hl 1 rfl) ?_
        exact k_iret ga [0, 2, 1] hx hb hr hlk hP hD hS trivial rfl rfl rfl (Nat.le_of_ble_eq_true rfl) (Nat.le_of_ble_eq_true rfl) dX10_plan_84
      · have c_4n : i < 60 := Nat.not_le.mp (fun h => c_4 ((k_leI (a := 60) (b := i) (by omega) (by omega)).mpr h))
        refine lv_iload_n hx hb dX10_plan_23 rfl (lv_at hl 2 rfl) ?_
        refine lv_aload_n hx hb dX10_plan_24 rfl (lv_at hl 3 rfl) ?_
        refine lv_iload hx hb dX10_plan_25 (lv_at hl 0 rfl) ?_
        refine lv_iload_n hx hb dX10_plan_27 rfl (lv_at hl 5 rfl) ?_
        refine k_Vi [0, 2] [1] 0 10 (wr := [(d, .inl (gI g, 60, .inl fd))]) hx hb hml hown hts hKW hP hD hS hA hl.1 (c_X10_endedAt l g _ h b ga i lo (by omega) (by first | assumption | omega | decide)) rfl rfl rfl wd_36_1 wd_2_6 wd_35_22 wd_35_23 wd_36_0 yd_X10_endedAt ⟨(Nat.le_of_ble_eq_true rfl), (Nat.le_of_ble_eq_true rfl)⟩ rfl rfl rfl rfl (by decide) rfl (Nat.le_of_ble_eq_true rfl) dX10_plan_28 ⟨(Nat.le_of_ble_eq_true rfl), (Nat.le_of_ble_eq_true rfl)⟩ (fun r_5 u_6 H locs hw_7 hP hD hS => ?_)
        have hP : va_P g.1 vwCl [(d, .inl (gI g, 60, .inl fd)), (h, .inr (10, [.ref b])), (b, .inl (gI g, 60, .inl ga))] H := hP
        have hD : va_D A [(d, .inl (gI g, 60, .inl fd)), (h, .inr (10, [.ref b])), (b, .inl (gI g, 60, .inl ga))] := hD
        refine lv_isub hx hb dX10_plan_31 ?_
        refine lv_topi (fun x_8 ex_8 => ?_)
        refine lv_istore_n (lv' := [(3, .int x_8), (5, .int (nI i)), (4, .int x4), (0, .ref h), (1, .ref d), (2, .int (nI lo))]) hx hb dX10_plan_32 rfl hl (by decide) rfl (fun ls hl => ?_)
        refine lv_iconst (v := 0) hx hb dX10_plan_33 (by decide) ?_
        refine lv_aload_n hx hb dX10_plan_34 rfl (lv_at hl 4 rfl) ?_
        refine lv_iload hx hb dX10_plan_35 (lv_at hl 1 rfl) ?_
        refine va_iald hx hb hKW.1 hP 0 0 rfl rfl (vp_in_nI (by omega) (by decide)) dX10_plan_37 ?_
        refine lv_topi (fun x_9 ex_9 => ?_)
        refine lv_iload_n hx hb dX10_plan_38 rfl (lv_at hl 0 rfl) ?_
        refine lv_isub hx hb dX10_plan_39 ?_
        refine lv_topi (fun x_10 ex_10 => ?_)
        refine va_mmax hx hb (hml.trans hl.1.symm) hown (hts _ wd_35_17) (hts _ wd_35_18) (hts _ wd_8_2) (hts _ wd_35_19) (Nat.le_of_ble_eq_true rfl) (Nat.le_of_ble_eq_true rfl) (Nat.le_of_ble_eq_true rfl) (Nat.le_of_ble_eq_true rfl) dX10_plan_40 ?_
        refine lv_topi (fun x_11 ex_11 => ?_)
        refine lv_istore (lv' := [(6, .int x_11), (3, .int x_8), (5, .int (nI i)), (4, .int x4), (0, .ref h), (1, .ref d), (2, .int (nI lo))]) hx hb dX10_plan_43 hl (by decide) rfl (fun ls hl => ?_)
        refine lv_aload_n hx hb dX10_plan_45 rfl (lv_at hl 4 rfl) ?_
        refine va_get (ci := 10) (C := RX10) (T := TX10) (N := 1) hx hb hts inlX10 hown hKW.1 hP 1 rfl rfl 0 (by decide) (hts _ wd_5_20) (fun _ h => h) rfl dX10_plan_46 ?_
        refine lv_iload hx hb dX10_plan_49 (lv_at hl 2 rfl) ?_
        refine lv_bipush (v := 60) hx hb dX10_plan_51 (by decide) ?_
        refine lv_iload_n hx hb dX10_plan_53 rfl (lv_at hl 6 rfl) ?_
        refine lv_isub hx hb dX10_plan_54 ?_
        refine k_top (y := nI (60 - lo)) (k_sub (a := 60) (by omega)) ?_
        obtain ⟨kk, hk1, hk2, ekk⟩ := k_minN (a := i) (N := 60 - lo) (by omega) (by omega)
        refine va_mmin hx hb (hml.trans hl.1.symm) hown (hts _ wd_35_20) (hts _ wd_8_1) (hts _ wd_8_2) (hts _ wd_8_3) (Nat.le_of_ble_eq_true rfl) (Nat.le_of_ble_eq_true rfl) (Nat.le_of_ble_eq_true rfl) (Nat.le_of_ble_eq_true rfl) dX10_plan_55 ?_
        refine k_top (y := nI kk) ekk ?_
        refine lv_dup2_11 hx hb dX10_plan_58 rfl rfl ?_
        refine va_iald hx hb hKW.1 hP 2 0 rfl rfl (vp_in_nI (by omega) (by decide)) dX10_plan_59 ?_
        refine lv_topi (fun x_12 ex_12 => ?_)
        refine lv_iload hx hb dX10_plan_60 (lv_at hl 0 rfl) ?_
        refine lv_iadd hx hb dX10_plan_62 ?_
        refine lv_topi (fun x_13 ex_13 => ?_)
        refine va_iast hx hb hKW.1 hP hD hS 2 0 rfl rfl (vp_in_nI (by omega) (by decide)) dX10_plan_63 (fun H locs hP hD hS => ?_)
        have hP : va_P g.1 vwCl [(d, .inl (gI g, 60, .inl fd)), (h, .inr (10, [.ref b])), (b, .inl (gI g, 60, .inl (upd ga (nI kk).toNatClampNeg x_13)))] H := hP
        have hD : va_D A [(d, .inl (gI g, 60, .inl fd)), (h, .inr (10, [.ref b])), (b, .inl (gI g, 60, .inl (upd ga (nI kk).toNatClampNeg x_13)))] := hD
        obtain ⟨f_14, ef_14⟩ : ∃ zz_ : Nat → Int32, zz_ = upd ga (nI kk).toNatClampNeg x_13 := ⟨_, rfl⟩
        rw [← ef_14] at hP hD
        refine lv_iload_n hx hb dX10_plan_64 rfl (lv_at hl 1 rfl) ?_
        refine lv_iload hx hb dX10_plan_65 (lv_at hl 0 rfl) ?_
        refine lv_iadd hx hb dX10_plan_67 ?_
        refine lv_topi (fun x_15 ex_15 => ?_)
        refine lv_istore_n (lv' := [(3, .int x_15), (6, .int x_11), (5, .int (nI i)), (4, .int x4), (0, .ref h), (1, .ref d), (2, .int (nI lo))]) hx hb dX10_plan_68 rfl hl (by decide) rfl (fun ls hl => ?_)
        refine lv_iload hx hb dX10_plan_69 (lv_at hl 3 rfl) ?_
        refine lv_iload hx hb dX10_plan_71 (lv_at hl 1 rfl) ?_
        refine lv_iadd hx hb dX10_plan_73 ?_
        refine lv_topi (fun x_16 ex_16 => ?_)
        refine lv_istore (lv' := [(4, .int x_16), (3, .int x_15), (6, .int x_11), (5, .int (nI i)), (0, .ref h), (1, .ref d), (2, .int (nI lo))]) hx hb dX10_plan_74 hl (by decide) rfl (fun ls hl => ?_)
        refine lv_iinc (v := nI (i + 1)) (lv' := [(5, .int (nI (i + 1))), (4, .int x_16), (3, .int x_15), (6, .int x_11), (0, .ref h), (1, .ref d), (2, .int (nI lo))]) hx hb dX10_plan_76 hl (k := 3) rfl (nI_add i 1) (by decide) rfl (fun ls hl => ?_)
        refine lv_goto (tgt := 16) hx hb dX10_plan_79 (by decide) ?_
        exact ih16 (i + 1) x_15 x_16 f_14 (by omega) (by first | assumption | omega) H locs (hP.sub [1, 0, 2] rfl) (hD.sub [1, 0, 2] (by decide) rfl) hS ls (lv_sub hl [0, 1, 2, 4, 5, 6] rfl)
  exact L16 (60 - 0 + 1) 0 0 0 u_2 (Nat.lt_succ_self _) (by first | assumption | omega) H locs (hP.sub [0, 1, 2] rfl) (hD.sub [0, 1, 2] (by decide) rfl) hS ls (lv_sub hl [0, 1, 2, 3, 4, 5] rfl)
theorem dX10_beginOf_0 : decode cX10_beginOf 0 = .ok (.iconst 0, 1) := by decide +kernel
theorem dX10_beginOf_1 : decode cX10_beginOf 1 = .ok (.istore_n 2, 1) := by decide +kernel
theorem dX10_beginOf_2 : decode cX10_beginOf 2 = .ok (.iconst 0, 1) := by decide +kernel
theorem dX10_beginOf_3 : decode cX10_beginOf 3 = .ok (.istore_n 3, 1) := by decide +kernel
theorem dX10_beginOf_4 : decode cX10_beginOf 4 = .ok (.iload_n 3, 1) := by decide +kernel
theorem dX10_beginOf_5 : decode cX10_beginOf 5 = .ok (.bipush 60, 2) := by decide +kernel
theorem dX10_beginOf_7 : decode cX10_beginOf 7 = .ok (.if_icmp .ge 25, 3) := by decide +kernel
theorem dX10_beginOf_32 : decode cX10_beginOf 32 = .ok (.iconst (-1), 1) := by decide +kernel
theorem dX10_beginOf_33 : decode cX10_beginOf 33 = .ok (.ireturn, 1) := by decide +kernel
theorem dX10_beginOf_10 : decode cX10_beginOf 10 = .ok (.iload_n 2, 1) := by decide +kernel
theorem dX10_beginOf_11 : decode cX10_beginOf 11 = .ok (.aload_n 0, 1) := by decide +kernel
theorem dX10_beginOf_12 : decode cX10_beginOf 12 = .ok (.getfield 9, 3) := by decide +kernel
theorem dX10_beginOf_15 : decode cX10_beginOf 15 = .ok (.iload_n 3, 1) := by decide +kernel
theorem dX10_beginOf_16 : decode cX10_beginOf 16 = .ok (.iaload, 1) := by decide +kernel
theorem dX10_beginOf_17 : decode cX10_beginOf 17 = .ok (.iadd, 1) := by decide +kernel
theorem dX10_beginOf_18 : decode cX10_beginOf 18 = .ok (.istore_n 2, 1) := by decide +kernel
theorem dX10_beginOf_19 : decode cX10_beginOf 19 = .ok (.iload_n 1, 1) := by decide +kernel
theorem dX10_beginOf_20 : decode cX10_beginOf 20 = .ok (.iload_n 2, 1) := by decide +kernel
theorem dX10_beginOf_21 : decode cX10_beginOf 21 = .ok (.if_icmp .ge 5, 3) := by decide +kernel
theorem dX10_beginOf_26 : decode cX10_beginOf 26 = .ok (.iinc 3 1, 3) := by decide +kernel
theorem dX10_beginOf_29 : decode cX10_beginOf 29 = .ok (.goto (-25), 3) := by decide +kernel
theorem dX10_beginOf_24 : decode cX10_beginOf 24 = .ok (.iload_n 3, 1) := by decide +kernel
theorem dX10_beginOf_25 : decode cX10_beginOf 25 = .ok (.ireturn, 1) := by decide +kernel
set_option maxHeartbeats 8000000 in
set_option maxRecDepth 100000 in
theorem c_X10_beginOf (l : Launch) (g : kG) (sz : Nat) (h : Nat) (b : Nat) (f : Nat → Int32) (x : Int32) : kMi l g yX10_beginOf cX10_beginOf 4 (some .int) 1 0 0 [.ref h, .int x] sz [(h, .inr (10, [.ref b])), (b, .inl (gI g, 60, .inl f))] (fun (r : Int32) (u : Unit) => True) (fun (u : Unit) => ([(h, .inr (10, [.ref b])), (b, .inl (gI g, 60, .inl f))] : va_W)) := by
  refine kMi.of (by decide) (Nat.le_of_ble_eq_true rfl) (fun p e s m below meth c A hx hb hr hml hown hts hlk hnm hKW hP hD hS hA ls hl => ?_)
  have hown : s.vm.findClass RX10 = some m.cls := hown
  have hl : lv_has ls 4 [(0, .ref h), (1, .int x)] := hl
  refine k_hide hP hS (fun H locs hP hS => ?_)
  refine lv_iconst (v := 0) hx hb dX10_beginOf_0 (by decide) ?_
  refine lv_istore_n (lv' := [(2, .int 0), (0, .ref h), (1, .int x)]) hx hb dX10_beginOf_1 rfl hl (by decide) rfl (fun ls hl => ?_)
  refine lv_iconst (v := 0) hx hb dX10_beginOf_2 (by decide) ?_
  refine lv_istore_n (lv' := [(3, .int 0), (2, .int 0), (0, .ref h), (1, .int x)]) hx hb dX10_beginOf_3 rfl hl (by decide) rfl (fun ls hl => ?_)
  have L4 : ∀ (n4 : Nat) (i : Nat) (x2 : Int32) (hfuel4 : 60 - i < n4) (hi : i ≤ 60) (H : Heap) (locs : List Loc) (hP : va_P g.1 vwCl [(h, .inr (10, [.ref b])), (b, .inl (gI g, 60, .inl f))] H) (hD : va_D A [(h, .inr (10, [.ref b])), (b, .inl (gI g, 60, .inl f))]) (hS : va_S A s.heap H locs) (ls : Array Slot) (hl : lv_has ls 4 [(3, .int (nI i)), (2, .int x2), (0, .ref h), (1, .int x)]), W p l e (kR 1 0 0) s m ([.ref h, .int x] : List Value).toArray below meth c H locs 0 0 (kQi g A below ([.ref h, .int x] : List Value).toArray s 0 0 (fun (r : Int32) (u : Unit) => True) (fun (u : Unit) => ([(h, .inr (10, [.ref b])), (b, .inl (gI g, 60, .inl f))] : va_W))) (F0 m 4 ls []) := by
    intro n4
    induction n4 with
    | zero => intro i x2 hfuel4; exact absurd hfuel4 (Nat.not_lt_zero _)
    | succ n4 ih4 =>
      intro i x2 hfuel4 hi H locs hP hD hS ls hl
      refine lv_iload_n hx hb dX10_beginOf_4 rfl (lv_at hl 0 rfl) ?_
      refine lv_bipush (v := 60) hx hb dX10_beginOf_5 (by decide) ?_
      refine lv_icmp_ge (tgt := 32) hx hb dX10_beginOf_7 (by decide) (fun c_1 => ?_) (fun c_1 => ?_)
      · have c_1n : 60 ≤ i := (k_leI (a := 60) (b := i) (by omega) (by omega)).mp c_1
        refine lv_iconst (v := (-1)) hx hb dX10_beginOf_32 (by decide) ?_
        exact k_iret () [0, 1] hx hb hr hlk hP hD hS trivial rfl rfl rfl (Nat.le_of_ble_eq_true rfl) (Nat.le_of_ble_eq_true rfl) dX10_beginOf_33
      · have c_1n : i < 60 := Nat.not_le.mp (fun h => c_1 ((k_leI (a := 60) (b := i) (by omega) (by omega)).mpr h))
        refine lv_iload_n hx hb dX10_beginOf_10 rfl (lv_at hl 1 rfl) ?_
        refine lv_aload_n hx hb dX10_beginOf_11 rfl (lv_at hl 2 rfl) ?_
        refine va_get (ci := 10) (C := RX10) (T := TX10) (N := 1) hx hb hts inlX10 hown hKW.1 hP 0 rfl rfl 0 (by decide) (hts _ wd_5_20) (fun _ h => h) rfl dX10_beginOf_12 ?_
        refine lv_iload_n hx hb dX10_beginOf_15 rfl (lv_at hl 0 rfl) ?_
        refine va_iald hx hb hKW.1 hP 1 0 rfl rfl (vp_in_nI (by omega) (by decide)) dX10_beginOf_16 ?_
        refine lv_topi (fun x_2 ex_2 => ?_)
        refine lv_iadd hx hb dX10_beginOf_17 ?_
        refine lv_topi (fun x_3 ex_3 => ?_)
        refine lv_istore_n (lv' := [(2, .int x_3), (3, .int (nI i)), (0, .ref h), (1, .int x)]) hx hb dX10_beginOf_18 rfl hl (by decide) rfl (fun ls hl => ?_)
        refine lv_iload_n hx hb dX10_beginOf_19 rfl (lv_at hl 3 rfl) ?_
        refine lv_iload_n hx hb dX10_beginOf_20 rfl (lv_at hl 0 rfl) ?_
        refine lv_icmp_ge (tgt := 26) hx hb dX10_beginOf_21 (by decide) (fun c_4 => ?_) (fun c_4 => ?_)
        · refine lv_iinc (v := nI (i + 1)) (lv' := [(3, .int (nI (i + 1))), (2, .int x_3), (0, .ref h), (1, .int x)]) hx hb dX10_beginOf_26 hl (k := 1) rfl (nI_add i 1) (by decide) rfl (fun ls hl => ?_)
          refine lv_goto (tgt := 4) hx hb dX10_beginOf_29 (by decide) ?_
          exact ih4 (i + 1) x_3 (by omega) (by first | assumption | omega) H locs (hP.sub [0, 1] rfl) (hD.sub [0, 1] (by decide) rfl) hS ls (lv_sub hl [0, 1, 2, 3] rfl)
        · refine lv_iload_n hx hb dX10_beginOf_24 rfl (lv_at hl 1 rfl) ?_
          exact k_iret () [0, 1] hx hb hr hlk hP hD hS trivial rfl rfl rfl (Nat.le_of_ble_eq_true rfl) (Nat.le_of_ble_eq_true rfl) dX10_beginOf_25
  exact L4 (60 - 0 + 1) 0 0 (Nat.lt_succ_self _) (by first | assumption | omega) H locs (hP.sub [0, 1] rfl) (hD.sub [0, 1] (by decide) rfl) hS ls (lv_sub hl [0, 1, 2, 3] rfl)
theorem dX10_take_0 : decode cX10_take 0 = .ok (.aload_n 0, 1) := by decide +kernel
theorem dX10_take_1 : decode cX10_take 1 = .ok (.getfield 9, 3) := by decide +kernel
theorem dX10_take_4 : decode cX10_take 4 = .ok (.iconst 0, 1) := by decide +kernel
theorem dX10_take_5 : decode cX10_take 5 = .ok (.invokestatic 15, 3) := by decide +kernel
theorem dX10_take_8 : decode cX10_take 8 = .ok (.iconst 0, 1) := by decide +kernel
theorem dX10_take_9 : decode cX10_take 9 = .ok (.istore_n 2, 1) := by decide +kernel
theorem dX10_take_10 : decode cX10_take 10 = .ok (.iload_n 2, 1) := by decide +kernel
theorem dX10_take_11 : decode cX10_take 11 = .ok (.aload_n 1, 1) := by decide +kernel
theorem dX10_take_12 : decode cX10_take 12 = .ok (.getfield 33, 3) := by decide +kernel
theorem dX10_take_15 : decode cX10_take 15 = .ok (.if_icmp .ge 36, 3) := by decide +kernel
theorem dX10_take_51 : decode cX10_take 51 = .ok (.return_, 1) := by decide +kernel
theorem dX10_take_18 : decode cX10_take 18 = .ok (.aload_n 1, 1) := by decide +kernel
theorem dX10_take_19 : decode cX10_take 19 = .ok (.getfield 39, 3) := by decide +kernel
theorem dX10_take_22 : decode cX10_take 22 = .ok (.iload_n 2, 1) := by decide +kernel
theorem dX10_take_23 : decode cX10_take 23 = .ok (.iaload, 1) := by decide +kernel
theorem dX10_take_24 : decode cX10_take 24 = .ok (.invokestatic 42, 3) := by decide +kernel
theorem dX10_take_27 : decode cX10_take 27 = .ok (.ifCond .eq 18, 3) := by decide +kernel
theorem dX10_take_30 : decode cX10_take 30 = .ok (.aload_n 0, 1) := by decide +kernel
theorem dX10_take_31 : decode cX10_take 31 = .ok (.getfield 9, 3) := by decide +kernel
theorem dX10_take_34 : decode cX10_take 34 = .ok (.aload_n 1, 1) := by decide +kernel
theorem dX10_take_35 : decode cX10_take 35 = .ok (.getfield 39, 3) := by decide +kernel
theorem dX10_take_38 : decode cX10_take 38 = .ok (.iload_n 2, 1) := by decide +kernel
theorem dX10_take_39 : decode cX10_take 39 = .ok (.iaload, 1) := by decide +kernel
theorem dX10_take_40 : decode cX10_take 40 = .ok (.dup2, 1) := by decide +kernel
theorem dX10_take_41 : decode cX10_take 41 = .ok (.iaload, 1) := by decide +kernel
theorem dX10_take_42 : decode cX10_take 42 = .ok (.iconst 1, 1) := by decide +kernel
theorem dX10_take_43 : decode cX10_take 43 = .ok (.iadd, 1) := by decide +kernel
theorem dX10_take_44 : decode cX10_take 44 = .ok (.iastore, 1) := by decide +kernel
theorem dX10_take_45 : decode cX10_take 45 = .ok (.iinc 2 1, 3) := by decide +kernel
theorem dX10_take_48 : decode cX10_take 48 = .ok (.goto (-38), 3) := by decide +kernel
set_option maxHeartbeats 8000000 in
set_option maxRecDepth 100000 in
theorem c_X10_take (l : Launch) (g : kG) (sz : Nat) (h : Nat) (b : Nat) (f : Nat → Int32) (k : Nat) (nu : Nat) (sn : Nat) (xb : Int32) (f9 : Nat → Int32) (hs : sn ≤ 60) : kMv l g yX10_take cX10_take 3 none 3 0 0 [.ref h, .ref k] sz [(h, .inr (10, [.ref b])), (b, .inl (gI g, 60, .inl f)), (k, .inr (9, [.int xb, .int (nI sn), .ref nu])), (nu, .inl (gI g, 60, .inl f9))] (fun (u : (Nat → Int32)) => True) (fun (u : (Nat → Int32)) => ([(h, .inr (10, [.ref b])), (b, .inl (gI g, 60, .inl u)), (k, .inr (9, [.int xb, .int (nI sn), .ref nu])), (nu, .inl (gI g, 60, .inl f9))] : va_W)) := by
  refine kMv.of (by decide) (Nat.le_of_ble_eq_true rfl) (fun p e s m below meth c A hx hb hr hml hown hts hlk hnm hKW hP hD hS hA ls hl => ?_)
  have hown : s.vm.findClass RX10 = some m.cls := hown
  have hl : lv_has ls 3 [(0, .ref h), (1, .ref k)] := hl
  refine k_hide hP hS (fun H locs hP hS => ?_)
  refine lv_aload_n hx hb dX10_take_0 rfl (lv_at hl 0 rfl) ?_
  refine va_get (ci := 10) (C := RX10) (T := TX10) (N := 1) hx hb hts inlX10 hown hKW.1 hP 0 rfl rfl 0 (by decide) (hts _ wd_5_20) (fun _ h => h) rfl dX10_take_1 ?_
  refine lv_iconst (v := 0) hx hb dX10_take_4 (by decide) ?_
  refine k_Sv [1] [0, 2, 3] (wr := [(h, .inr (10, [.ref b])), (k, .inr (9, [.int xb, .int (nI sn), .ref nu])), (nu, .inl (gI g, 60, .inl f9))]) hx hb hml hown hts hKW hP hD hS hA hl.1 (c_J7_fill60 l g _ b f ) wd_24_15 wd_24_14 wd_35_21 wd_24_13 yd_J7_fill_53178 ⟨(Nat.le_of_ble_eq_true rfl), (Nat.le_of_ble_eq_true rfl)⟩ rfl rfl rfl rfl (by decide) rfl (Nat.le_of_ble_eq_true rfl) dX10_take_5 ⟨(Nat.le_of_ble_eq_true rfl), (Nat.le_of_ble_eq_true rfl)⟩ (fun u_2 H locs hw_3 hP hD hS => ?_)
  have hP : va_P g.1 vwCl [(h, .inr (10, [.ref b])), (k, .inr (9, [.int xb, .int (nI sn), .ref nu])), (nu, .inl (gI g, 60, .inl f9)), (b, .inl (gI g, 60, .inl u_2))] H := hP
  have hD : va_D A [(h, .inr (10, [.ref b])), (k, .inr (9, [.int xb, .int (nI sn), .ref nu])), (nu, .inl (gI g, 60, .inl f9)), (b, .inl (gI g, 60, .inl u_2))] := hD
  have hw_3 : ∀ j, j < 60 → u_2 j = 0 := hw_3
  refine lv_iconst (v := 0) hx hb dX10_take_8 (by decide) ?_
  refine lv_istore_n (lv' := [(2, .int 0), (0, .ref h), (1, .ref k)]) hx hb dX10_take_9 rfl hl (by decide) rfl (fun ls hl => ?_)
  have L10 : ∀ (n10 : Nat) (i : Nat) (ga : Nat → Int32) (hfuel10 : sn - i < n10) (hi : i ≤ sn) (H : Heap) (locs : List Loc) (hP : va_P g.1 vwCl [(h, .inr (10, [.ref b])), (k, .inr (9, [.int xb, .int (nI sn), .ref nu])), (nu, .inl (gI g, 60, .inl f9)), (b, .inl (gI g, 60, .inl ga))] H) (hD : va_D A [(h, .inr (10, [.ref b])), (k, .inr (9, [.int xb, .int (nI sn), .ref nu])), (nu, .inl (gI g, 60, .inl f9)), (b, .inl (gI g, 60, .inl ga))]) (hS : va_S A s.heap H locs) (ls : Array Slot) (hl : lv_has ls 3 [(2, .int (nI i)), (0, .ref h), (1, .ref k)]), W p l e (kR 3 0 0) s m ([.ref h, .ref k] : List Value).toArray below meth c H locs 0 0 (kQv g A below ([.ref h, .ref k] : List Value).toArray s 0 0 (fun (u : (Nat → Int32)) => True) (fun (u : (Nat → Int32)) => ([(h, .inr (10, [.ref b])), (b, .inl (gI g, 60, .inl u)), (k, .inr (9, [.int xb, .int (nI sn), .ref nu])), (nu, .inl (gI g, 60, .inl f9))] : va_W))) (F0 m 10 ls []) := by
    intro n10
    induction n10 with
    | zero => intro i ga hfuel10; exact absurd hfuel10 (Nat.not_lt_zero _)
    | succ n10 ih10 =>
      intro i ga hfuel10 hi H locs hP hD hS ls hl
      refine lv_iload_n hx hb dX10_take_10 rfl (lv_at hl 0 rfl) ?_
      refine lv_aload_n hx hb dX10_take_11 rfl (lv_at hl 2 rfl) ?_
      refine va_get (ci := 9) (C := RX9) (T := TX9) (N := 3) hx hb hts inlX9 hown hKW.1 hP 1 rfl rfl 1 (by decide) (hts _ wd_38_2) (fun _ h => h) rfl dX10_take_12 ?_
      refine lv_icmp_ge (tgt := 51) hx hb dX10_take_15 (by decide) (fun c_4 => ?_) (fun c_4 => ?_)
      · have c_4n : sn ≤ i := (k_leI (a := sn) (b := i) (by omega) (by omega)).mp c_4
        exact k_vret ga [0, 3, 1, 2] hx hb hr hlk hP hD hS trivial rfl rfl rfl (Nat.le_of_ble_eq_true rfl) (Nat.le_of_ble_eq_true rfl) dX10_take_51
      · have c_4n : i < sn := Nat.not_le.mp (fun h => c_4 ((k_leI (a := sn) (b := i) (by omega) (by omega)).mpr h))
        refine lv_aload_n hx hb dX10_take_18 rfl (lv_at hl 2 rfl) ?_
        refine va_get (ci := 9) (C := RX9) (T := TX9) (N := 3) hx hb hts inlX9 hown hKW.1 hP 1 rfl rfl 2 (by decide) (hts _ wd_38_3) (fun _ h => h) rfl dX10_take_19 ?_
        refine lv_iload_n hx hb dX10_take_22 rfl (lv_at hl 0 rfl) ?_
        refine va_iald hx hb hKW.1 hP 2 0 rfl rfl (vp_in_nI (by omega) (by decide)) dX10_take_23 ?_
        refine lv_topi (fun x_5 ex_5 => ?_)
        refine k_SNi [] [0, 1, 2, 3] (wr := [(h, .inr (10, [.ref b])), (k, .inr (9, [.int xb, .int (nI sn), .ref nu])), (nu, .inl (gI g, 60, .inl f9)), (b, .inl (gI g, 60, .inl ga))]) hx hb hml hown hts hKW hP hD hS hA hl.1 (c_X11_isSlot l g _ x_5 ) wd_16_16 wd_1_2 nw_25 wd_16_15 yd_X11_isSlot ⟨(Nat.le_of_ble_eq_true rfl), (Nat.le_of_ble_eq_true rfl)⟩ rfl rfl rfl rfl (by decide) rfl (Nat.le_of_ble_eq_true rfl) dX10_take_24 ⟨(Nat.le_of_ble_eq_true rfl), (Nat.le_of_ble_eq_true rfl)⟩ (fun r_6 u_7 H locs hw_8 hP hD hS => ?_)
        have hP : va_P g.1 vwCl [(h, .inr (10, [.ref b])), (k, .inr (9, [.int xb, .int (nI sn), .ref nu])), (nu, .inl (gI g, 60, .inl f9)), (b, .inl (gI g, 60, .inl ga))] H := hP
        have hD : va_D A [(h, .inr (10, [.ref b])), (k, .inr (9, [.int xb, .int (nI sn), .ref nu])), (nu, .inl (gI g, 60, .inl f9)), (b, .inl (gI g, 60, .inl ga))] := hD
        rcases (show (r_6 = 1 ∧ ((0 : Int) ≤ Int32.toInt x_5 ∧ Int32.toInt x_5 ≤ 59)) ∨ (r_6 = 0 ∧ ¬ ((0 : Int) ≤ Int32.toInt x_5 ∧ Int32.toInt x_5 ≤ 59)) from hw_8) with ⟨rfl, hw_8b⟩ | ⟨rfl, hw_8b⟩ <;> clear hw_8
        · refine lv_if_eq (tgt := 45) hx hb dX10_take_27 (by decide) (fun c => absurd c (by decide)) (fun _ => ?_)
          refine lv_aload_n hx hb dX10_take_30 rfl (lv_at hl 1 rfl) ?_
          refine va_get (ci := 10) (C := RX10) (T := TX10) (N := 1) hx hb hts inlX10 hown hKW.1 hP 0 rfl rfl 0 (by decide) (hts _ wd_5_20) (fun _ h => h) rfl dX10_take_31 ?_
          refine lv_aload_n hx hb dX10_take_34 rfl (lv_at hl 2 rfl) ?_
          refine va_get (ci := 9) (C := RX9) (T := TX9) (N := 3) hx hb hts inlX9 hown hKW.1 hP 1 rfl rfl 2 (by decide) (hts _ wd_38_3) (fun _ h => h) rfl dX10_take_35 ?_
          refine lv_iload_n hx hb dX10_take_38 rfl (lv_at hl 0 rfl) ?_
          refine va_iald hx hb hKW.1 hP 2 0 rfl rfl (vp_in_nI (by omega) (by decide)) dX10_take_39 ?_
          refine lv_topi (fun x_9 ex_9 => ?_)
          refine lv_dup2_11 hx hb dX10_take_40 rfl rfl ?_
          refine va_iald hx hb hKW.1 hP 3 0 rfl rfl (vp_in_iff.mpr (by rw [ex_9, ← ex_5]; have := hw_8b; omega)) dX10_take_41 ?_
          refine lv_topi (fun x_10 ex_10 => ?_)
          refine lv_iconst (v := 1) hx hb dX10_take_42 (by decide) ?_
          refine lv_iadd hx hb dX10_take_43 ?_
          refine lv_topi (fun x_11 ex_11 => ?_)
          refine va_iast hx hb hKW.1 hP hD hS 3 0 rfl rfl (vp_in_iff.mpr (by rw [ex_9, ← ex_5]; have := hw_8b; omega)) dX10_take_44 (fun H locs hP hD hS => ?_)
          have hP : va_P g.1 vwCl [(h, .inr (10, [.ref b])), (k, .inr (9, [.int xb, .int (nI sn), .ref nu])), (nu, .inl (gI g, 60, .inl f9)), (b, .inl (gI g, 60, .inl (upd ga x_9.toNatClampNeg x_11)))] H := hP
          have hD : va_D A [(h, .inr (10, [.ref b])), (k, .inr (9, [.int xb, .int (nI sn), .ref nu])), (nu, .inl (gI g, 60, .inl f9)), (b, .inl (gI g, 60, .inl (upd ga x_9.toNatClampNeg x_11)))] := hD
          obtain ⟨f_12, ef_12⟩ : ∃ zz_ : Nat → Int32, zz_ = upd ga x_9.toNatClampNeg x_11 := ⟨_, rfl⟩
          rw [← ef_12] at hP hD
          refine lv_iinc (v := nI (i + 1)) (lv' := [(2, .int (nI (i + 1))), (0, .ref h), (1, .ref k)]) hx hb dX10_take_45 hl (k := 0) rfl (nI_add i 1) (by decide) rfl (fun ls hl => ?_)
          refine lv_goto (tgt := 10) hx hb dX10_take_48 (by decide) ?_
          exact ih10 (i + 1) f_12 (by omega) (by first | assumption | omega) H locs (hP.sub [0, 1, 2, 3] rfl) (hD.sub [0, 1, 2, 3] (by decide) rfl) hS ls (lv_sub hl [0, 1, 2] rfl)
        · refine lv_if_eq (tgt := 45) hx hb dX10_take_27 (by decide) (fun _ => ?_) (fun c => absurd c (by decide))
          refine lv_iinc (v := nI (i + 1)) (lv' := [(2, .int (nI (i + 1))), (0, .ref h), (1, .ref k)]) hx hb dX10_take_45 hl (k := 0) rfl (nI_add i 1) (by decide) rfl (fun ls hl => ?_)
          refine lv_goto (tgt := 10) hx hb dX10_take_48 (by decide) ?_
          exact ih10 (i + 1) ga (by omega) (by first | assumption | omega) H locs (hP.sub [0, 1, 2, 3] rfl) (hD.sub [0, 1, 2, 3] (by decide) rfl) hS ls (lv_sub hl [0, 1, 2] rfl)
  exact L10 (sn - 0 + 1) 0 u_2 (Nat.lt_succ_self _) (by first | assumption | omega) H locs (hP.sub [0, 1, 2, 3] rfl) (hD.sub [0, 1, 2, 3] (by decide) rfl) hS ls (lv_sub hl [0, 1, 2] rfl)
theorem dX10_firstLacking_0 : decode cX10_firstLacking 0 = .ok (.iconst 0, 1) := by decide +kernel
theorem dX10_firstLacking_1 : decode cX10_firstLacking 1 = .ok (.istore_n 3, 1) := by decide +kernel
theorem dX10_firstLacking_2 : decode cX10_firstLacking 2 = .ok (.iconst 0, 1) := by decide +kernel
theorem dX10_firstLacking_3 : decode cX10_firstLacking 3 = .ok (.istore 4, 2) := by decide +kernel
theorem dX10_firstLacking_5 : decode cX10_firstLacking 5 = .ok (.iload 4, 2) := by decide +kernel
theorem dX10_firstLacking_7 : decode cX10_firstLacking 7 = .ok (.bipush 60, 2) := by decide +kernel
theorem dX10_firstLacking_9 : decode cX10_firstLacking 9 = .ok (.if_icmp .ge 38, 3) := by decide +kernel
theorem dX10_firstLacking_47 : decode cX10_firstLacking 47 = .ok (.iconst (-1), 1) := by decide +kernel
theorem dX10_firstLacking_48 : decode cX10_firstLacking 48 = .ok (.ireturn, 1) := by decide +kernel
theorem dX10_firstLacking_12 : decode cX10_firstLacking 12 = .ok (.iload_n 3, 1) := by decide +kernel
theorem dX10_firstLacking_13 : decode cX10_firstLacking 13 = .ok (.aload_n 0, 1) := by decide +kernel
theorem dX10_firstLacking_14 : decode cX10_firstLacking 14 = .ok (.getfield 9, 3) := by decide +kernel
theorem dX10_firstLacking_17 : decode cX10_firstLacking 17 = .ok (.iload 4, 2) := by decide +kernel
theorem dX10_firstLacking_19 : decode cX10_firstLacking 19 = .ok (.iaload, 1) := by decide +kernel
theorem dX10_firstLacking_20 : decode cX10_firstLacking 20 = .ok (.aload_n 0, 1) := by decide +kernel
theorem dX10_firstLacking_21 : decode cX10_firstLacking 21 = .ok (.iload 4, 2) := by decide +kernel
theorem dX10_firstLacking_23 : decode cX10_firstLacking 23 = .ok (.iload_n 2, 1) := by decide +kernel
theorem dX10_firstLacking_24 : decode cX10_firstLacking 24 = .ok (.invokevirtual 21, 3) := by decide +kernel
theorem dX10_firstLacking_27 : decode cX10_firstLacking 27 = .ok (.isub, 1) := by decide +kernel
theorem dX10_firstLacking_28 : decode cX10_firstLacking 28 = .ok (.iadd, 1) := by decide +kernel
theorem dX10_firstLacking_29 : decode cX10_firstLacking 29 = .ok (.istore_n 3, 1) := by decide +kernel
theorem dX10_firstLacking_30 : decode cX10_firstLacking 30 = .ok (.iload_n 3, 1) := by decide +kernel
theorem dX10_firstLacking_31 : decode cX10_firstLacking 31 = .ok (.aload_n 1, 1) := by decide +kernel
theorem dX10_firstLacking_32 : decode cX10_firstLacking 32 = .ok (.iload 4, 2) := by decide +kernel
theorem dX10_firstLacking_34 : decode cX10_firstLacking 34 = .ok (.iaload, 1) := by decide +kernel
theorem dX10_firstLacking_35 : decode cX10_firstLacking 35 = .ok (.if_icmp .ge 6, 3) := by decide +kernel
theorem dX10_firstLacking_41 : decode cX10_firstLacking 41 = .ok (.iinc 4 1, 3) := by decide +kernel
theorem dX10_firstLacking_44 : decode cX10_firstLacking 44 = .ok (.goto (-39), 3) := by decide +kernel
theorem dX10_firstLacking_38 : decode cX10_firstLacking 38 = .ok (.iload 4, 2) := by decide +kernel
theorem dX10_firstLacking_40 : decode cX10_firstLacking 40 = .ok (.ireturn, 1) := by decide +kernel
set_option maxHeartbeats 8000000 in
set_option maxRecDepth 100000 in
theorem c_X10_firstLacking (l : Launch) (g : kG) (sz : Nat) (h : Nat) (b : Nat) (f : Nat → Int32) (d : Nat) (fd : Nat → Int32) (lo : Nat) (hlo : 1 ≤ lo ∧ lo ≤ 60) : kMi l g yX10_firstLacking cX10_firstLacking 5 (some .int) 2 0 0 [.ref h, .ref d, .int (nI lo)] sz [(h, .inr (10, [.ref b])), (b, .inl (gI g, 60, .inl f)), (d, .inl (gI g, 60, .inl fd))] (fun (r : Int32) (u : Unit) => True) (fun (u : Unit) => ([(h, .inr (10, [.ref b])), (b, .inl (gI g, 60, .inl f)), (d, .inl (gI g, 60, .inl fd))] : va_W)) := by
  refine kMi.of (by decide) (Nat.le_of_ble_eq_true rfl) (fun p e s m below meth c A hx hb hr hml hown hts hlk hnm hKW hP hD hS hA ls hl => ?_)
  have hown : s.vm.findClass RX10 = some m.cls := hown
  have hl : lv_has ls 5 [(0, .ref h), (1, .ref d), (2, .int (nI lo))] := hl
  refine k_hide hP hS (fun H locs hP hS => ?_)
  refine lv_iconst (v := 0) hx hb dX10_firstLacking_0 (by decide) ?_
  refine lv_istore_n (lv' := [(3, .int 0), (0, .ref h), (1, .ref d), (2, .int (nI lo))]) hx hb dX10_firstLacking_1 rfl hl (by decide) rfl (fun ls hl => ?_)
  refine lv_iconst (v := 0) hx hb dX10_firstLacking_2 (by decide) ?_
  refine lv_istore (lv' := [(4, .int 0), (3, .int 0), (0, .ref h), (1, .ref d), (2, .int (nI lo))]) hx hb dX10_firstLacking_3 hl (by decide) rfl (fun ls hl => ?_)
  have L5 : ∀ (n5 : Nat) (i : Nat) (x3 : Int32) (hfuel5 : 60 - i < n5) (hi : i ≤ 60) (H : Heap) (locs : List Loc) (hP : va_P g.1 vwCl [(h, .inr (10, [.ref b])), (b, .inl (gI g, 60, .inl f)), (d, .inl (gI g, 60, .inl fd))] H) (hD : va_D A [(h, .inr (10, [.ref b])), (b, .inl (gI g, 60, .inl f)), (d, .inl (gI g, 60, .inl fd))]) (hS : va_S A s.heap H locs) (ls : Array Slot) (hl : lv_has ls 5 [(4, .int (nI i)), (3, .int x3), (0, .ref h), (1, .ref d), (2, .int (nI lo))]), W p l e (kR 2 0 0) s m ([.ref h, .ref d, .int (nI lo)] : List Value).toArray below meth c H locs 0 0 (kQi g A below ([.ref h, .ref d, .int (nI lo)] : List Value).toArray s 0 0 (fun (r : Int32) (u : Unit) => True) (fun (u : Unit) => ([(h, .inr (10, [.ref b])), (b, .inl (gI g, 60, .inl f)), (d, .inl (gI g, 60, .inl fd))] : va_W))) (F0 m 5 ls []) := by
    intro n5
    induction n5 with
    | zero => intro i x3 hfuel5; exact absurd hfuel5 (Nat.not_lt_zero _)
    | succ n5 ih5 =>
      intro i x3 hfuel5 hi H locs hP hD hS ls hl
      refine lv_iload hx hb dX10_firstLacking_5 (lv_at hl 0 rfl) ?_
      refine lv_bipush (v := 60) hx hb dX10_firstLacking_7 (by decide) ?_
      refine lv_icmp_ge (tgt := 47) hx hb dX10_firstLacking_9 (by decide) (fun c_1 => ?_) (fun c_1 => ?_)
      · have c_1n : 60 ≤ i := (k_leI (a := 60) (b := i) (by omega) (by omega)).mp c_1
        refine lv_iconst (v := (-1)) hx hb dX10_firstLacking_47 (by decide) ?_
        exact k_iret () [0, 1, 2] hx hb hr hlk hP hD hS trivial rfl rfl rfl (Nat.le_of_ble_eq_true rfl) (Nat.le_of_ble_eq_true rfl) dX10_firstLacking_48
      · have c_1n : i < 60 := Nat.not_le.mp (fun h => c_1 ((k_leI (a := 60) (b := i) (by omega) (by omega)).mpr h))
        refine lv_iload_n hx hb dX10_firstLacking_12 rfl (lv_at hl 1 rfl) ?_
        refine lv_aload_n hx hb dX10_firstLacking_13 rfl (lv_at hl 2 rfl) ?_
        refine va_get (ci := 10) (C := RX10) (T := TX10) (N := 1) hx hb hts inlX10 hown hKW.1 hP 0 rfl rfl 0 (by decide) (hts _ wd_5_20) (fun _ h => h) rfl dX10_firstLacking_14 ?_
        refine lv_iload hx hb dX10_firstLacking_17 (lv_at hl 0 rfl) ?_
        refine va_iald hx hb hKW.1 hP 1 0 rfl rfl (vp_in_nI (by omega) (by decide)) dX10_firstLacking_19 ?_
        refine lv_topi (fun x_2 ex_2 => ?_)
        refine lv_aload_n hx hb dX10_firstLacking_20 rfl (lv_at hl 2 rfl) ?_
        refine lv_iload hx hb dX10_firstLacking_21 (lv_at hl 0 rfl) ?_
        refine lv_iload_n hx hb dX10_firstLacking_23 rfl (lv_at hl 4 rfl) ?_
        refine k_Vi [0, 1] [2] 0 10 (wr := [(d, .inl (gI g, 60, .inl fd))]) hx hb hml hown hts hKW hP hD hS hA hl.1 (c_X10_endedAt l g _ h b f i lo (by omega) (by first | assumption | omega | decide)) rfl rfl rfl wd_36_1 wd_2_6 wd_35_22 wd_35_23 wd_36_0 yd_X10_endedAt ⟨(Nat.le_of_ble_eq_true rfl), (Nat.le_of_ble_eq_true rfl)⟩ rfl rfl rfl rfl (by decide) rfl (Nat.le_of_ble_eq_true rfl) dX10_firstLacking_24 ⟨(Nat.le_of_ble_eq_true rfl), (Nat.le_of_ble_eq_true rfl)⟩ (fun r_3 u_4 H locs hw_5 hP hD hS => ?_)
        have hP : va_P g.1 vwCl [(d, .inl (gI g, 60, .inl fd)), (h, .inr (10, [.ref b])), (b, .inl (gI g, 60, .inl f))] H := hP
        have hD : va_D A [(d, .inl (gI g, 60, .inl fd)), (h, .inr (10, [.ref b])), (b, .inl (gI g, 60, .inl f))] := hD
        refine lv_isub hx hb dX10_firstLacking_27 ?_
        refine lv_topi (fun x_6 ex_6 => ?_)
        refine lv_iadd hx hb dX10_firstLacking_28 ?_
        refine lv_topi (fun x_7 ex_7 => ?_)
        refine lv_istore_n (lv' := [(3, .int x_7), (4, .int (nI i)), (0, .ref h), (1, .ref d), (2, .int (nI lo))]) hx hb dX10_firstLacking_29 rfl hl (by decide) rfl (fun ls hl => ?_)
        refine lv_iload_n hx hb dX10_firstLacking_30 rfl (lv_at hl 0 rfl) ?_
        refine lv_aload_n hx hb dX10_firstLacking_31 rfl (lv_at hl 3 rfl) ?_
        refine lv_iload hx hb dX10_firstLacking_32 (lv_at hl 1 rfl) ?_
        refine va_iald hx hb hKW.1 hP 0 0 rfl rfl (vp_in_nI (by omega) (by decide)) dX10_firstLacking_34 ?_
        refine lv_topi (fun x_8 ex_8 => ?_)
        refine lv_icmp_ge (tgt := 41) hx hb dX10_firstLacking_35 (by decide) (fun c_9 => ?_) (fun c_9 => ?_)
        · refine lv_iinc (v := nI (i + 1)) (lv' := [(4, .int (nI (i + 1))), (3, .int x_7), (0, .ref h), (1, .ref d), (2, .int (nI lo))]) hx hb dX10_firstLacking_41 hl (k := 1) rfl (nI_add i 1) (by decide) rfl (fun ls hl => ?_)
          refine lv_goto (tgt := 5) hx hb dX10_firstLacking_44 (by decide) ?_
          exact ih5 (i + 1) x_7 (by omega) (by first | assumption | omega) H locs (hP.sub [1, 2, 0] rfl) (hD.sub [1, 2, 0] (by decide) rfl) hS ls (lv_sub hl [0, 1, 2, 3, 4] rfl)
        · refine lv_iload hx hb dX10_firstLacking_38 (lv_at hl 1 rfl) ?_
          exact k_iret () [1, 2, 0] hx hb hr hlk hP hD hS trivial rfl rfl rfl (Nat.le_of_ble_eq_true rfl) (Nat.le_of_ble_eq_true rfl) dX10_firstLacking_40
  exact L5 (60 - 0 + 1) 0 0 (Nat.lt_succ_self _) (by first | assumption | omega) H locs (hP.sub [0, 1, 2] rfl) (hD.sub [0, 1, 2] (by decide) rfl) hS ls (lv_sub hl [0, 1, 2, 3, 4] rfl)
theorem dJ9_floorDiv_f86c9_0 : decode cJ9_floorDiv_f86c9 0 = .ok (.lload_n 0, 1) := by decide +kernel
theorem dJ9_floorDiv_f86c9_1 : decode cJ9_floorDiv_f86c9 1 = .ok (.lload_n 2, 1) := by decide +kernel
theorem dJ9_floorDiv_f86c9_2 : decode cJ9_floorDiv_f86c9 2 = .ok (.ldiv, 1) := by decide +kernel
theorem dJ9_floorDiv_f86c9_3 : decode cJ9_floorDiv_f86c9 3 = .ok (.lstore 4, 2) := by decide +kernel
theorem dJ9_floorDiv_f86c9_5 : decode cJ9_floorDiv_f86c9 5 = .ok (.lload_n 0, 1) := by decide +kernel
theorem dJ9_floorDiv_f86c9_6 : decode cJ9_floorDiv_f86c9 6 = .ok (.lload_n 2, 1) := by decide +kernel
theorem dJ9_floorDiv_f86c9_7 : decode cJ9_floorDiv_f86c9 7 = .ok (.lxor, 1) := by decide +kernel
theorem dJ9_floorDiv_f86c9_8 : decode cJ9_floorDiv_f86c9 8 = .ok (.lconst 0, 1) := by decide +kernel
theorem dJ9_floorDiv_f86c9_9 : decode cJ9_floorDiv_f86c9 9 = .ok (.lcmp, 1) := by decide +kernel
theorem dJ9_floorDiv_f86c9_10 : decode cJ9_floorDiv_f86c9 10 = .ok (.ifCond .ge 17, 3) := by decide +kernel
theorem dJ9_floorDiv_f86c9_27 : decode cJ9_floorDiv_f86c9 27 = .ok (.lload 4, 2) := by decide +kernel
theorem dJ9_floorDiv_f86c9_29 : decode cJ9_floorDiv_f86c9 29 = .ok (.lreturn, 1) := by decide +kernel
theorem dJ9_floorDiv_f86c9_13 : decode cJ9_floorDiv_f86c9 13 = .ok (.lload 4, 2) := by decide +kernel
theorem dJ9_floorDiv_f86c9_15 : decode cJ9_floorDiv_f86c9 15 = .ok (.lload_n 2, 1) := by decide +kernel
theorem dJ9_floorDiv_f86c9_16 : decode cJ9_floorDiv_f86c9 16 = .ok (.lmul, 1) := by decide +kernel
theorem dJ9_floorDiv_f86c9_17 : decode cJ9_floorDiv_f86c9 17 = .ok (.lload_n 0, 1) := by decide +kernel
theorem dJ9_floorDiv_f86c9_18 : decode cJ9_floorDiv_f86c9 18 = .ok (.lcmp, 1) := by decide +kernel
theorem dJ9_floorDiv_f86c9_19 : decode cJ9_floorDiv_f86c9 19 = .ok (.ifCond .eq 8, 3) := by decide +kernel
theorem dJ9_floorDiv_f86c9_22 : decode cJ9_floorDiv_f86c9 22 = .ok (.lload 4, 2) := by decide +kernel
theorem dJ9_floorDiv_f86c9_24 : decode cJ9_floorDiv_f86c9 24 = .ok (.lconst 1, 1) := by decide +kernel
theorem dJ9_floorDiv_f86c9_25 : decode cJ9_floorDiv_f86c9 25 = .ok (.lsub, 1) := by decide +kernel
theorem dJ9_floorDiv_f86c9_26 : decode cJ9_floorDiv_f86c9 26 = .ok (.lreturn, 1) := by decide +kernel
set_option maxHeartbeats 8000000 in
set_option maxRecDepth 100000 in
theorem c_J9_floorDiv (l : Launch) (g : kG) (sz : Nat) (x : Int64) (y : Int64) (hy : ¬ y = 0) : kMl l g yJ9_floorDiv_f86c9 cJ9_floorDiv_f86c9 6 (some .long) 1 0 0 [.long x, .long y] sz [] (fun (r : Int64) (u : Unit) => True) (fun (u : Unit) => ([] : va_W)) := by
  refine kMl.ofF (by decide +kernel) (Nat.le_of_ble_eq_true rfl) (fun p e s m below meth c A hx hb hr hml hown hts hlk hnm hKW hP hD hS hA ls hl => ?_)
  have hown : s.vm.findClass RJ9 = some m.cls := hown
  have hl : lv_has ls 6 [(0, .long x), (2, .long y)] := hl
  refine k_hide hP hS (fun H locs hP hS => ?_)
  refine lv_lload_n hx hb dJ9_floorDiv_f86c9_0 rfl (lv_at hl 0 rfl) ?_
  refine lv_lload_n hx hb dJ9_floorDiv_f86c9_1 rfl (lv_at hl 1 rfl) ?_
  refine lv_ldiv hx hb dJ9_floorDiv_f86c9_2 hy ?_
  refine lv_topl (fun y_1 ey_1 => ?_)
  refine lv_lstore (lv' := [(4, .long y_1), (0, .long x), (2, .long y)]) hx hb dJ9_floorDiv_f86c9_3 hl (by decide) rfl (fun ls hl => ?_)
  refine lv_lload_n hx hb dJ9_floorDiv_f86c9_5 rfl (lv_at hl 1 rfl) ?_
  refine lv_lload_n hx hb dJ9_floorDiv_f86c9_6 rfl (lv_at hl 2 rfl) ?_
  refine lv_lxor hx hb dJ9_floorDiv_f86c9_7 ?_
  refine lv_topl (fun y_2 ey_2 => ?_)
  refine lv_lconst (v := 0) hx hb dJ9_floorDiv_f86c9_8 (by decide) ?_
  refine W.lcmp hx hb dJ9_floorDiv_f86c9_9 ?_
  refine lv_topi (fun x_3 ex_3 => ?_)
  refine lv_if_ge (tgt := 27) hx hb dJ9_floorDiv_f86c9_10 (by decide) (fun c_4 => ?_) (fun c_4 => ?_)
  · refine lv_lload hx hb dJ9_floorDiv_f86c9_27 (lv_at hl 0 rfl) ?_
    exact k_lret () [] hx hb hr hlk hP hD hS trivial rfl rfl rfl (Nat.le_of_ble_eq_true rfl) (Nat.le_of_ble_eq_true rfl) dJ9_floorDiv_f86c9_29
  · refine lv_lload hx hb dJ9_floorDiv_f86c9_13 (lv_at hl 0 rfl) ?_
    refine lv_lload_n hx hb dJ9_floorDiv_f86c9_15 rfl (lv_at hl 2 rfl) ?_
    refine lv_lmul hx hb dJ9_floorDiv_f86c9_16 ?_
    refine lv_topl (fun y_5 ey_5 => ?_)
    refine lv_lload_n hx hb dJ9_floorDiv_f86c9_17 rfl (lv_at hl 1 rfl) ?_
    refine W.lcmp hx hb dJ9_floorDiv_f86c9_18 ?_
    refine lv_topi (fun x_6 ex_6 => ?_)
    refine lv_if_eq (tgt := 27) hx hb dJ9_floorDiv_f86c9_19 (by decide) (fun c_7 => ?_) (fun c_7 => ?_)
    · refine lv_lload hx hb dJ9_floorDiv_f86c9_27 (lv_at hl 0 rfl) ?_
      exact k_lret () [] hx hb hr hlk hP hD hS trivial rfl rfl rfl (Nat.le_of_ble_eq_true rfl) (Nat.le_of_ble_eq_true rfl) dJ9_floorDiv_f86c9_29
    · refine lv_lload hx hb dJ9_floorDiv_f86c9_22 (lv_at hl 0 rfl) ?_
      refine lv_lconst (v := 1) hx hb dJ9_floorDiv_f86c9_24 (by decide) ?_
      refine lv_lsub hx hb dJ9_floorDiv_f86c9_25 ?_
      refine lv_topl (fun y_8 ey_8 => ?_)
      exact k_lret () [] hx hb hr hlk hP hD hS trivial rfl rfl rfl (Nat.le_of_ble_eq_true rfl) (Nat.le_of_ble_eq_true rfl) dJ9_floorDiv_f86c9_26
theorem dX11_quotientUpwards_0 : decode cX11_quotientUpwards 0 = .ok (.lload_n 2, 1) := by decide +kernel
theorem dX11_quotientUpwards_1 : decode cX11_quotientUpwards 1 = .ok (.lconst 0, 1) := by decide +kernel
theorem dX11_quotientUpwards_2 : decode cX11_quotientUpwards 2 = .ok (.lcmp, 1) := by decide +kernel
theorem dX11_quotientUpwards_3 : decode cX11_quotientUpwards 3 = .ok (.ifCond .gt 7, 3) := by decide +kernel
theorem dX11_quotientUpwards_10 : decode cX11_quotientUpwards 10 = .ok (.lload_n 0, 1) := by decide +kernel
theorem dX11_quotientUpwards_11 : decode cX11_quotientUpwards 11 = .ok (.lneg, 1) := by decide +kernel
theorem dX11_quotientUpwards_12 : decode cX11_quotientUpwards 12 = .ok (.lload_n 2, 1) := by decide +kernel
theorem dX11_quotientUpwards_13 : decode cX11_quotientUpwards 13 = .ok (.invokestatic 385, 3) := by decide +kernel
theorem dX11_quotientUpwards_16 : decode cX11_quotientUpwards 16 = .ok (.lneg, 1) := by decide +kernel
theorem dX11_quotientUpwards_17 : decode cX11_quotientUpwards 17 = .ok (.lreturn, 1) := by decide +kernel
theorem dX11_quotientUpwards_6 : decode cX11_quotientUpwards 6 = .ok (.lconst 0, 1) := by decide +kernel
theorem dX11_quotientUpwards_7 : decode cX11_quotientUpwards 7 = .ok (.goto 10, 3) := by decide +kernel
set_option maxHeartbeats 8000000 in
set_option maxRecDepth 100000 in
theorem c_X11_quotientUpwards (l : Launch) (g : kG) (sz : Nat) (x : Int64) (y : Int64) : kMl l g yX11_quotientUpwards cX11_quotientUpwards 4 (some .long) 2 0 0 [.long x, .long y] sz [] (fun (r : Int64) (u : Unit) => True) (fun (u : Unit) => ([] : va_W)) := by
  refine kMl.of (by decide) (Nat.le_of_ble_eq_true rfl) (fun p e s m below meth c A hx hb hr hml hown hts hlk hnm hKW hP hD hS hA ls hl => ?_)
  have hown : s.vm.findClass RX11 = some m.cls := hown
  have hl : lv_has ls 4 [(0, .long x), (2, .long y)] := hl
  refine k_hide hP hS (fun H locs hP hS => ?_)
  refine lv_lload_n hx hb dX11_quotientUpwards_0 rfl (lv_at hl 1 rfl) ?_
  refine lv_lconst (v := 0) hx hb dX11_quotientUpwards_1 (by decide) ?_
  refine W.lcmp hx hb dX11_quotientUpwards_2 ?_
  refine k_top (y := lg_cmp y 0) rfl ?_
  refine lv_if_gt (tgt := 10) hx hb dX11_quotientUpwards_3 (by decide) (fun c_1 => ?_) (fun c_1 => ?_)
  · refine lv_lload_n hx hb dX11_quotientUpwards_10 rfl (lv_at hl 0 rfl) ?_
    refine lv_lneg hx hb dX11_quotientUpwards_11 ?_
    refine lv_topl (fun y_2 ey_2 => ?_)
    refine lv_lload_n hx hb dX11_quotientUpwards_12 rfl (lv_at hl 1 rfl) ?_
    refine k_Sl [] [] (wr := []) hx hb hml hown hts hKW hP hD hS hA hl.1 (c_J9_floorDiv l g _ y_2 y (k_lgne c_1)) wd_25_10 wd_25_9 wd_25_7 wd_25_8 yd_J9_floorDiv_f86c9 ⟨(Nat.le_of_ble_eq_true rfl), (Nat.le_of_ble_eq_true rfl)⟩ rfl rfl rfl rfl (by decide) rfl (Nat.le_of_ble_eq_true rfl) dX11_quotientUpwards_13 ⟨(Nat.le_of_ble_eq_true rfl), (Nat.le_of_ble_eq_true rfl)⟩ (fun r_3 u_4 H locs hw_5 hP hD hS => ?_)
    have hP : va_P g.1 vwCl [] H := hP
    have hD : va_D A [] := hD
    refine lv_lneg hx hb dX11_quotientUpwards_16 ?_
    refine lv_topl (fun y_6 ey_6 => ?_)
    exact k_lret () [] hx hb hr hlk hP hD hS trivial rfl rfl rfl (Nat.le_of_ble_eq_true rfl) (Nat.le_of_ble_eq_true rfl) dX11_quotientUpwards_17
  · refine lv_lconst (v := 0) hx hb dX11_quotientUpwards_6 (by decide) ?_
    refine lv_goto (tgt := 17) hx hb dX11_quotientUpwards_7 (by decide) ?_
    exact k_lret () [] hx hb hr hlk hP hD hS trivial rfl rfl rfl (Nat.le_of_ble_eq_true rfl) (Nat.le_of_ble_eq_true rfl) dX11_quotientUpwards_17
theorem dX7_joined_0 : decode cX7_joined 0 = .ok (.iload_n 0, 1) := by decide +kernel
theorem dX7_joined_1 : decode cX7_joined 1 = .ok (.tableswitch 49 50 53 #[31, 35, 39, 43], 31) := by decide +kernel
theorem dX7_joined_50 : decode cX7_joined 50 = .ok (.lload_n 1, 1) := by decide +kernel
theorem dX7_joined_51 : decode cX7_joined 51 = .ok (.lload_n 3, 1) := by decide +kernel
theorem dX7_joined_52 : decode cX7_joined 52 = .ok (.invokestatic 51, 3) := by decide +kernel
theorem dX7_joined_55 : decode cX7_joined 55 = .ok (.lreturn, 1) := by decide +kernel
theorem dX7_joined_32 : decode cX7_joined 32 = .ok (.lload_n 1, 1) := by decide +kernel
theorem dX7_joined_33 : decode cX7_joined 33 = .ok (.lload_n 3, 1) := by decide +kernel
theorem dX7_joined_34 : decode cX7_joined 34 = .ok (.ladd, 1) := by decide +kernel
theorem dX7_joined_35 : decode cX7_joined 35 = .ok (.lreturn, 1) := by decide +kernel
theorem dX7_joined_36 : decode cX7_joined 36 = .ok (.lload_n 1, 1) := by decide +kernel
theorem dX7_joined_37 : decode cX7_joined 37 = .ok (.lload_n 3, 1) := by decide +kernel
theorem dX7_joined_38 : decode cX7_joined 38 = .ok (.lsub, 1) := by decide +kernel
theorem dX7_joined_39 : decode cX7_joined 39 = .ok (.lreturn, 1) := by decide +kernel
theorem dX7_joined_40 : decode cX7_joined 40 = .ok (.lload_n 1, 1) := by decide +kernel
theorem dX7_joined_41 : decode cX7_joined 41 = .ok (.lload_n 3, 1) := by decide +kernel
theorem dX7_joined_42 : decode cX7_joined 42 = .ok (.lmul, 1) := by decide +kernel
theorem dX7_joined_43 : decode cX7_joined 43 = .ok (.lreturn, 1) := by decide +kernel
theorem dX7_joined_44 : decode cX7_joined 44 = .ok (.lload_n 1, 1) := by decide +kernel
theorem dX7_joined_45 : decode cX7_joined 45 = .ok (.lload_n 3, 1) := by decide +kernel
theorem dX7_joined_46 : decode cX7_joined 46 = .ok (.invokestatic 94, 3) := by decide +kernel
theorem dX7_joined_49 : decode cX7_joined 49 = .ok (.lreturn, 1) := by decide +kernel
set_option maxHeartbeats 8000000 in
set_option maxRecDepth 100000 in
theorem c_X7_joined (l : Launch) (g : kG) (sz : Nat) (v : Int32) (x : Int64) (y : Int64) : kMl l g yX7_joined cX7_joined 5 (some .long) 3 0 0 [.int v, .long x, .long y] sz [] (fun (r : Int64) (u : Unit) => True) (fun (u : Unit) => ([] : va_W)) := by
  refine kMl.of (by decide) (Nat.le_of_ble_eq_true rfl) (fun p e s m below meth c A hx hb hr hml hown hts hlk hnm hKW hP hD hS hA ls hl => ?_)
  have hown : s.vm.findClass RX7 = some m.cls := hown
  have hl : lv_has ls 5 [(0, .int v), (1, .long x), (3, .long y)] := hl
  refine k_hide hP hS (fun H locs hP hS => ?_)
  refine lv_iload_n hx hb dX7_joined_0 rfl (lv_at hl 0 rfl) ?_
  by_cases c_1 : Int32.toInt v < 50 ∨ 53 < Int32.toInt v
  · refine lv_tableOut (tgt := 50) hx hb dX7_joined_1 c_1 (by decide) ?_
    refine lv_lload_n hx hb dX7_joined_50 rfl (lv_at hl 1 rfl) ?_
    refine lv_lload_n hx hb dX7_joined_51 rfl (lv_at hl 2 rfl) ?_
    refine va_mmax_long hx hb (hml.trans hl.1.symm) hown (hts _ wd_24_1) (hts _ wd_24_2) (hts _ wd_8_2) (hts _ wd_24_3) (Nat.le_of_ble_eq_true rfl) (Nat.le_of_ble_eq_true rfl) (Nat.le_of_ble_eq_true rfl) (Nat.le_of_ble_eq_true rfl) dX7_joined_52 ?_
    refine lv_topl (fun y_2 ey_2 => ?_)
    exact k_lret () [] hx hb hr hlk hP hD hS trivial rfl rfl rfl (Nat.le_of_ble_eq_true rfl) (Nat.le_of_ble_eq_true rfl) dX7_joined_55
  · rcases (show v = 50 ∨ v = 51 ∨ v = 52 ∨ v = 53 by simp only [← Int32.toInt_inj]; simp at c_1 ⊢; omega) with c_1 | c_1 | c_1 | c_1
    · refine lv_tableIn (tgt := 32) hx hb dX7_joined_1 (by rw [c_1]; decide) (by rw [c_1]; decide) (by rw [c_1]; rfl) (by decide) ?_
      refine lv_lload_n hx hb dX7_joined_32 rfl (lv_at hl 1 rfl) ?_
      refine lv_lload_n hx hb dX7_joined_33 rfl (lv_at hl 2 rfl) ?_
      refine lv_ladd hx hb dX7_joined_34 ?_
      refine lv_topl (fun y_3 ey_3 => ?_)
      exact k_lret () [] hx hb hr hlk hP hD hS trivial rfl rfl rfl (Nat.le_of_ble_eq_true rfl) (Nat.le_of_ble_eq_true rfl) dX7_joined_35
    · refine lv_tableIn (tgt := 36) hx hb dX7_joined_1 (by rw [c_1]; decide) (by rw [c_1]; decide) (by rw [c_1]; rfl) (by decide) ?_
      refine lv_lload_n hx hb dX7_joined_36 rfl (lv_at hl 1 rfl) ?_
      refine lv_lload_n hx hb dX7_joined_37 rfl (lv_at hl 2 rfl) ?_
      refine lv_lsub hx hb dX7_joined_38 ?_
      refine lv_topl (fun y_4 ey_4 => ?_)
      exact k_lret () [] hx hb hr hlk hP hD hS trivial rfl rfl rfl (Nat.le_of_ble_eq_true rfl) (Nat.le_of_ble_eq_true rfl) dX7_joined_39
    · refine lv_tableIn (tgt := 40) hx hb dX7_joined_1 (by rw [c_1]; decide) (by rw [c_1]; decide) (by rw [c_1]; rfl) (by decide) ?_
      refine lv_lload_n hx hb dX7_joined_40 rfl (lv_at hl 1 rfl) ?_
      refine lv_lload_n hx hb dX7_joined_41 rfl (lv_at hl 2 rfl) ?_
      refine lv_lmul hx hb dX7_joined_42 ?_
      refine lv_topl (fun y_5 ey_5 => ?_)
      exact k_lret () [] hx hb hr hlk hP hD hS trivial rfl rfl rfl (Nat.le_of_ble_eq_true rfl) (Nat.le_of_ble_eq_true rfl) dX7_joined_43
    · refine lv_tableIn (tgt := 44) hx hb dX7_joined_1 (by rw [c_1]; decide) (by rw [c_1]; decide) (by rw [c_1]; rfl) (by decide) ?_
      refine lv_lload_n hx hb dX7_joined_44 rfl (lv_at hl 1 rfl) ?_
      refine lv_lload_n hx hb dX7_joined_45 rfl (lv_at hl 2 rfl) ?_
      refine k_SNl [] [] (wr := []) hx hb hml hown hts hKW hP hD hS hA hl.1 (c_X11_quotientUpwards l g _ x y ) wd_25_6 wd_1_2 nw_20 wd_25_5 yd_X11_quotientUpwards ⟨(Nat.le_of_ble_eq_true rfl), (Nat.le_of_ble_eq_true rfl)⟩ rfl rfl rfl rfl (by decide) rfl (Nat.le_of_ble_eq_true rfl) dX7_joined_46 ⟨(Nat.le_of_ble_eq_true rfl), (Nat.le_of_ble_eq_true rfl)⟩ (fun r_6 u_7 H locs hw_8 hP hD hS => ?_)
      have hP : va_P g.1 vwCl [] H := hP
      have hD : va_D A [] := hD
      exact k_lret () [] hx hb hr hlk hP hD hS trivial rfl rfl rfl (Nat.le_of_ble_eq_true rfl) (Nat.le_of_ble_eq_true rfl) dX7_joined_49
theorem dX7_ageGroup_0 : decode cX7_ageGroup 0 = .ok (.iload_n 0, 1) := by decide +kernel
theorem dX7_ageGroup_1 : decode cX7_ageGroup 1 = .ok (.bipush 24, 2) := by decide +kernel
theorem dX7_ageGroup_3 : decode cX7_ageGroup 3 = .ok (.if_icmp .ge 5, 3) := by decide +kernel
theorem dX7_ageGroup_8 : decode cX7_ageGroup 8 = .ok (.iload_n 0, 1) := by decide +kernel
theorem dX7_ageGroup_9 : decode cX7_ageGroup 9 = .ok (.bipush 36, 2) := by decide +kernel
theorem dX7_ageGroup_11 : decode cX7_ageGroup 11 = .ok (.if_icmp .ge 7, 3) := by decide +kernel
theorem dX7_ageGroup_18 : decode cX7_ageGroup 18 = .ok (.iconst 3, 1) := by decide +kernel
theorem dX7_ageGroup_19 : decode cX7_ageGroup 19 = .ok (.ireturn, 1) := by decide +kernel
theorem dX7_ageGroup_14 : decode cX7_ageGroup 14 = .ok (.iconst 2, 1) := by decide +kernel
theorem dX7_ageGroup_15 : decode cX7_ageGroup 15 = .ok (.goto 4, 3) := by decide +kernel
theorem dX7_ageGroup_6 : decode cX7_ageGroup 6 = .ok (.iconst 1, 1) := by decide +kernel
theorem dX7_ageGroup_7 : decode cX7_ageGroup 7 = .ok (.ireturn, 1) := by decide +kernel
set_option maxHeartbeats 8000000 in
set_option maxRecDepth 100000 in
theorem c_X7_ageGroup (l : Launch) (g : kG) (sz : Nat) (v : Int32) : kMi l g yX7_ageGroup cX7_ageGroup 1 (some .int) 1 0 0 [.int v] sz [] (fun (r : Int32) (u : Unit) => ∃ j : Nat, r = nI j ∧ j ≤ 3) (fun (u : Unit) => ([] : va_W)) := by
  refine kMi.of (by decide) (Nat.le_of_ble_eq_true rfl) (fun p e s m below meth c A hx hb hr hml hown hts hlk hnm hKW hP hD hS hA ls hl => ?_)
  have hown : s.vm.findClass RX7 = some m.cls := hown
  have hl : lv_has ls 1 [(0, .int v)] := hl
  refine k_hide hP hS (fun H locs hP hS => ?_)
  refine lv_iload_n hx hb dX7_ageGroup_0 rfl (lv_at hl 0 rfl) ?_
  refine lv_bipush (v := 24) hx hb dX7_ageGroup_1 (by decide) ?_
  refine lv_icmp_ge (tgt := 8) hx hb dX7_ageGroup_3 (by decide) (fun c_1 => ?_) (fun c_1 => ?_)
  · refine lv_iload_n hx hb dX7_ageGroup_8 rfl (lv_at hl 0 rfl) ?_
    refine lv_bipush (v := 36) hx hb dX7_ageGroup_9 (by decide) ?_
    refine lv_icmp_ge (tgt := 18) hx hb dX7_ageGroup_11 (by decide) (fun c_2 => ?_) (fun c_2 => ?_)
    · refine lv_iconst (v := 3) hx hb dX7_ageGroup_18 (by decide) ?_
      exact k_iret () [] hx hb hr hlk hP hD hS (⟨3, rfl, by decide⟩) rfl rfl rfl (Nat.le_of_ble_eq_true rfl) (Nat.le_of_ble_eq_true rfl) dX7_ageGroup_19
    · refine lv_iconst (v := 2) hx hb dX7_ageGroup_14 (by decide) ?_
      refine lv_goto (tgt := 19) hx hb dX7_ageGroup_15 (by decide) ?_
      exact k_iret () [] hx hb hr hlk hP hD hS (⟨2, rfl, by decide⟩) rfl rfl rfl (Nat.le_of_ble_eq_true rfl) (Nat.le_of_ble_eq_true rfl) dX7_ageGroup_19
  · refine lv_iconst (v := 1) hx hb dX7_ageGroup_6 (by decide) ?_
    exact k_iret () [] hx hb hr hlk hP hD hS (⟨1, rfl, by decide⟩) rfl rfl rfl (Nat.le_of_ble_eq_true rfl) (Nat.le_of_ble_eq_true rfl) dX7_ageGroup_7
theorem dX7_usualNeed_0 : decode cX7_usualNeed 0 = .ok (.ldc2_w 90, 3) := by decide +kernel
theorem dX7_usualNeed_3 : decode cX7_usualNeed 3 = .ok (.aload_n 0, 1) := by decide +kernel
theorem dX7_usualNeed_4 : decode cX7_usualNeed 4 = .ok (.getfield 9, 3) := by decide +kernel
theorem dX7_usualNeed_7 : decode cX7_usualNeed 7 = .ok (.iconst 1, 1) := by decide +kernel
theorem dX7_usualNeed_8 : decode cX7_usualNeed 8 = .ok (.iaload, 1) := by decide +kernel
theorem dX7_usualNeed_9 : decode cX7_usualNeed 9 = .ok (.i2l, 1) := by decide +kernel
theorem dX7_usualNeed_10 : decode cX7_usualNeed 10 = .ok (.ldc2_w 92, 3) := by decide +kernel
theorem dX7_usualNeed_13 : decode cX7_usualNeed 13 = .ok (.invokestatic 94, 3) := by decide +kernel
theorem dX7_usualNeed_16 : decode cX7_usualNeed 16 = .ok (.aload_n 0, 1) := by decide +kernel
theorem dX7_usualNeed_17 : decode cX7_usualNeed 17 = .ok (.getfield 9, 3) := by decide +kernel
theorem dX7_usualNeed_20 : decode cX7_usualNeed 20 = .ok (.iconst 2, 1) := by decide +kernel
theorem dX7_usualNeed_21 : decode cX7_usualNeed 21 = .ok (.iaload, 1) := by decide +kernel
theorem dX7_usualNeed_22 : decode cX7_usualNeed 22 = .ok (.i2l, 1) := by decide +kernel
theorem dX7_usualNeed_23 : decode cX7_usualNeed 23 = .ok (.ldc2_w 97, 3) := by decide +kernel
theorem dX7_usualNeed_26 : decode cX7_usualNeed 26 = .ok (.invokestatic 94, 3) := by decide +kernel
theorem dX7_usualNeed_29 : decode cX7_usualNeed 29 = .ok (.ladd, 1) := by decide +kernel
theorem dX7_usualNeed_30 : decode cX7_usualNeed 30 = .ok (.aload_n 0, 1) := by decide +kernel
theorem dX7_usualNeed_31 : decode cX7_usualNeed 31 = .ok (.getfield 9, 3) := by decide +kernel
theorem dX7_usualNeed_34 : decode cX7_usualNeed 34 = .ok (.iconst 3, 1) := by decide +kernel
theorem dX7_usualNeed_35 : decode cX7_usualNeed 35 = .ok (.iaload, 1) := by decide +kernel
theorem dX7_usualNeed_36 : decode cX7_usualNeed 36 = .ok (.i2l, 1) := by decide +kernel
theorem dX7_usualNeed_37 : decode cX7_usualNeed 37 = .ok (.ldc2_w 99, 3) := by decide +kernel
theorem dX7_usualNeed_40 : decode cX7_usualNeed 40 = .ok (.invokestatic 94, 3) := by decide +kernel
theorem dX7_usualNeed_43 : decode cX7_usualNeed 43 = .ok (.ladd, 1) := by decide +kernel
theorem dX7_usualNeed_44 : decode cX7_usualNeed 44 = .ok (.lmul, 1) := by decide +kernel
theorem dX7_usualNeed_45 : decode cX7_usualNeed 45 = .ok (.lreturn, 1) := by decide +kernel
set_option maxHeartbeats 8000000 in
set_option maxRecDepth 100000 in
theorem c_X7_usualNeed (l : Launch) (g : kG) (sz : Nat) (h : Nat) (k1 : Nat) (k2 : Nat) (f : Nat → Int32) (r0 : Nat → Int64) : kMl l g yX7_usualNeed cX7_usualNeed 1 (some .long) 3 0 0 [.ref h] sz [(h, .inr (7, [.ref k1, .ref k2])), (k1, .inl (gI g, 7, .inl f)), (k2, .inl (gJ g, 5, .inr (.inl r0)))] (fun (r : Int64) (u : Unit) => True) (fun (u : Unit) => ([(h, .inr (7, [.ref k1, .ref k2])), (k1, .inl (gI g, 7, .inl f)), (k2, .inl (gJ g, 5, .inr (.inl r0)))] : va_W)) := by
  refine kMl.of (by decide) (Nat.le_of_ble_eq_true rfl) (fun p e s m below meth c A hx hb hr hml hown hts hlk hnm hKW hP hD hS hA ls hl => ?_)
  have hown : s.vm.findClass RX7 = some m.cls := hown
  have hl : lv_has ls 1 [(0, .ref h)] := hl
  refine k_hide hP hS (fun H locs hP hS => ?_)
  refine lv_ldc2 (v := 2) hx hb hown (hts _ wd_25_19) dX7_usualNeed_0 ?_
  refine lv_aload_n hx hb dX7_usualNeed_3 rfl (lv_at hl 0 rfl) ?_
  refine va_get (ci := 7) (C := RX7) (T := TX7) (N := 2) hx hb hts inlX7 hown hKW.1 hP 0 rfl rfl 0 (by decide) (hts _ wd_5_8) (fun _ h => h) rfl dX7_usualNeed_4 ?_
  refine lv_iconst (v := 1) hx hb dX7_usualNeed_7 (by decide) ?_
  refine va_iald hx hb hKW.1 hP 1 0 rfl rfl (show ¬ _ by decide) dX7_usualNeed_8 ?_
  refine lv_topi (fun x_1 ex_1 => ?_)
  obtain ⟨y_2, ey_2⟩ : ∃ z : Int64, Int32.toInt64 x_1 = z := ⟨_, rfl⟩
  refine lv_i2l (v := y_2) hx hb dX7_usualNeed_9 ey_2 ?_
  refine lv_ldc2 (v := 3) hx hb hown (hts _ wd_25_20) dX7_usualNeed_10 ?_
  refine k_SNl [] [0, 1, 2] (wr := [(h, .inr (7, [.ref k1, .ref k2])), (k1, .inl (gI g, 7, .inl f)), (k2, .inl (gJ g, 5, .inr (.inl r0)))]) hx hb hml hown hts hKW hP hD hS hA hl.1 (c_X11_quotientUpwards l g _ y_2 3 ) wd_25_6 wd_1_2 nw_20 wd_25_5 yd_X11_quotientUpwards ⟨(Nat.le_of_ble_eq_true rfl), (Nat.le_of_ble_eq_true rfl)⟩ rfl rfl rfl rfl (by decide) rfl (Nat.le_of_ble_eq_true rfl) dX7_usualNeed_13 ⟨(Nat.le_of_ble_eq_true rfl), (Nat.le_of_ble_eq_true rfl)⟩ (fun r_3 u_4 H locs hw_5 hP hD hS => ?_)
  have hP : va_P g.1 vwCl [(h, .inr (7, [.ref k1, .ref k2])), (k1, .inl (gI g, 7, .inl f)), (k2, .inl (gJ g, 5, .inr (.inl r0)))] H := hP
  have hD : va_D A [(h, .inr (7, [.ref k1, .ref k2])), (k1, .inl (gI g, 7, .inl f)), (k2, .inl (gJ g, 5, .inr (.inl r0)))] := hD
  refine lv_aload_n hx hb dX7_usualNeed_16 rfl (lv_at hl 0 rfl) ?_
  refine va_get (ci := 7) (C := RX7) (T := TX7) (N := 2) hx hb hts inlX7 hown hKW.1 hP 0 rfl rfl 0 (by decide) (hts _ wd_5_8) (fun _ h => h) rfl dX7_usualNeed_17 ?_
  refine lv_iconst (v := 2) hx hb dX7_usualNeed_20 (by decide) ?_
  refine va_iald hx hb hKW.1 hP 1 0 rfl rfl (show ¬ _ by decide) dX7_usualNeed_21 ?_
  refine lv_topi (fun x_6 ex_6 => ?_)
  obtain ⟨y_7, ey_7⟩ : ∃ z : Int64, Int32.toInt64 x_6 = z := ⟨_, rfl⟩
  refine lv_i2l (v := y_7) hx hb dX7_usualNeed_22 ey_7 ?_
  refine lv_ldc2 (v := 4) hx hb hown (hts _ wd_25_21) dX7_usualNeed_23 ?_
  refine k_SNl [] [0, 1, 2] (wr := [(h, .inr (7, [.ref k1, .ref k2])), (k1, .inl (gI g, 7, .inl f)), (k2, .inl (gJ g, 5, .inr (.inl r0)))]) hx hb hml hown hts hKW hP hD hS hA hl.1 (c_X11_quotientUpwards l g _ y_7 4 ) wd_25_6 wd_1_2 nw_20 wd_25_5 yd_X11_quotientUpwards ⟨(Nat.le_of_ble_eq_true rfl), (Nat.le_of_ble_eq_true rfl)⟩ rfl rfl rfl rfl (by decide) rfl (Nat.le_of_ble_eq_true rfl) dX7_usualNeed_26 ⟨(Nat.le_of_ble_eq_true rfl), (Nat.le_of_ble_eq_true rfl)⟩ (fun r_8 u_9 H locs hw_10 hP hD hS => ?_)
  have hP : va_P g.1 vwCl [(h, .inr (7, [.ref k1, .ref k2])), (k1, .inl (gI g, 7, .inl f)), (k2, .inl (gJ g, 5, .inr (.inl r0)))] H := hP
  have hD : va_D A [(h, .inr (7, [.ref k1, .ref k2])), (k1, .inl (gI g, 7, .inl f)), (k2, .inl (gJ g, 5, .inr (.inl r0)))] := hD
  refine lv_ladd hx hb dX7_usualNeed_29 ?_
  refine lv_topl (fun y_11 ey_11 => ?_)
  refine lv_aload_n hx hb dX7_usualNeed_30 rfl (lv_at hl 0 rfl) ?_
  refine va_get (ci := 7) (C := RX7) (T := TX7) (N := 2) hx hb hts inlX7 hown hKW.1 hP 0 rfl rfl 0 (by decide) (hts _ wd_5_8) (fun _ h => h) rfl dX7_usualNeed_31 ?_
  refine lv_iconst (v := 3) hx hb dX7_usualNeed_34 (by decide) ?_
  refine va_iald hx hb hKW.1 hP 1 0 rfl rfl (show ¬ _ by decide) dX7_usualNeed_35 ?_
  refine lv_topi (fun x_12 ex_12 => ?_)
  obtain ⟨y_13, ey_13⟩ : ∃ z : Int64, Int32.toInt64 x_12 = z := ⟨_, rfl⟩
  refine lv_i2l (v := y_13) hx hb dX7_usualNeed_36 ey_13 ?_
  refine lv_ldc2 (v := 8) hx hb hown (hts _ wd_25_22) dX7_usualNeed_37 ?_
  refine k_SNl [] [0, 1, 2] (wr := [(h, .inr (7, [.ref k1, .ref k2])), (k1, .inl (gI g, 7, .inl f)), (k2, .inl (gJ g, 5, .inr (.inl r0)))]) hx hb hml hown hts hKW hP hD hS hA hl.1 (c_X11_quotientUpwards l g _ y_13 8 ) wd_25_6 wd_1_2 nw_20 wd_25_5 yd_X11_quotientUpwards ⟨(Nat.le_of_ble_eq_true rfl), (Nat.le_of_ble_eq_true rfl)⟩ rfl rfl rfl rfl (by decide) rfl (Nat.le_of_ble_eq_true rfl) dX7_usualNeed_40 ⟨(Nat.le_of_ble_eq_true rfl), (Nat.le_of_ble_eq_true rfl)⟩ (fun r_14 u_15 H locs hw_16 hP hD hS => ?_)
  have hP : va_P g.1 vwCl [(h, .inr (7, [.ref k1, .ref k2])), (k1, .inl (gI g, 7, .inl f)), (k2, .inl (gJ g, 5, .inr (.inl r0)))] H := hP
  have hD : va_D A [(h, .inr (7, [.ref k1, .ref k2])), (k1, .inl (gI g, 7, .inl f)), (k2, .inl (gJ g, 5, .inr (.inl r0)))] := hD
  refine lv_ladd hx hb dX7_usualNeed_43 ?_
  refine lv_topl (fun y_17 ey_17 => ?_)
  refine lv_lmul hx hb dX7_usualNeed_44 ?_
  refine lv_topl (fun y_18 ey_18 => ?_)
  exact k_lret () [0, 1, 2] hx hb hr hlk hP hD hS trivial rfl rfl rfl (Nat.le_of_ble_eq_true rfl) (Nat.le_of_ble_eq_true rfl) dX7_usualNeed_45
theorem dX7_numberOf_0 : decode cX7_numberOf 0 = .ok (.iload_n 1, 1) := by decide +kernel
theorem dX7_numberOf_1 : decode cX7_numberOf 1 = .ok (.bipush 10, 2) := by decide +kernel
theorem dX7_numberOf_3 : decode cX7_numberOf 3 = .ok (.if_icmp .lt 8, 3) := by decide +kernel
theorem dX7_numberOf_11 : decode cX7_numberOf 11 = .ok (.iload_n 1, 1) := by decide +kernel
theorem dX7_numberOf_12 : decode cX7_numberOf 12 = .ok (.iconst 1, 1) := by decide +kernel
theorem dX7_numberOf_13 : decode cX7_numberOf 13 = .ok (.bipush 6, 2) := by decide +kernel
theorem dX7_numberOf_15 : decode cX7_numberOf 15 = .ok (.invokestatic 112, 3) := by decide +kernel
theorem dX7_numberOf_18 : decode cX7_numberOf 18 = .ok (.ifCond .eq 12, 3) := by decide +kernel
theorem dX7_numberOf_21 : decode cX7_numberOf 21 = .ok (.aload_n 0, 1) := by decide +kernel
theorem dX7_numberOf_22 : decode cX7_numberOf 22 = .ok (.getfield 9, 3) := by decide +kernel
theorem dX7_numberOf_25 : decode cX7_numberOf 25 = .ok (.iload_n 1, 1) := by decide +kernel
theorem dX7_numberOf_26 : decode cX7_numberOf 26 = .ok (.iaload, 1) := by decide +kernel
theorem dX7_numberOf_27 : decode cX7_numberOf 27 = .ok (.goto 4, 3) := by decide +kernel
theorem dX7_numberOf_31 : decode cX7_numberOf 31 = .ok (.ireturn, 1) := by decide +kernel
theorem dX7_numberOf_30 : decode cX7_numberOf 30 = .ok (.iconst 0, 1) := by decide +kernel
theorem dX7_numberOf_6 : decode cX7_numberOf 6 = .ok (.iload_n 1, 1) := by decide +kernel
theorem dX7_numberOf_7 : decode cX7_numberOf 7 = .ok (.bipush 10, 2) := by decide +kernel
theorem dX7_numberOf_9 : decode cX7_numberOf 9 = .ok (.isub, 1) := by decide +kernel
theorem dX7_numberOf_10 : decode cX7_numberOf 10 = .ok (.ireturn, 1) := by decide +kernel
set_option maxHeartbeats 8000000 in
set_option maxRecDepth 100000 in
theorem c_X7_numberOf (l : Launch) (g : kG) (sz : Nat) (h : Nat) (k1 : Nat) (k2 : Nat) (f : Nat → Int32) (r0 : Nat → Int64) (v : Int32) : kMi l g yX7_numberOf cX7_numberOf 2 (some .int) 2 0 0 [.ref h, .int v] sz [(h, .inr (7, [.ref k1, .ref k2])), (k1, .inl (gI g, 7, .inl f)), (k2, .inl (gJ g, 5, .inr (.inl r0)))] (fun (r : Int32) (u : Unit) => True) (fun (u : Unit) => ([(h, .inr (7, [.ref k1, .ref k2])), (k1, .inl (gI g, 7, .inl f)), (k2, .inl (gJ g, 5, .inr (.inl r0)))] : va_W)) := by
  refine kMi.of (by decide) (Nat.le_of_ble_eq_true rfl) (fun p e s m below meth c A hx hb hr hml hown hts hlk hnm hKW hP hD hS hA ls hl => ?_)
  have hown : s.vm.findClass RX7 = some m.cls := hown
  have hl : lv_has ls 2 [(0, .ref h), (1, .int v)] := hl
  refine k_hide hP hS (fun H locs hP hS => ?_)
  refine lv_iload_n hx hb dX7_numberOf_0 rfl (lv_at hl 1 rfl) ?_
  refine lv_bipush (v := 10) hx hb dX7_numberOf_1 (by decide) ?_
  refine lv_icmp_lt (tgt := 11) hx hb dX7_numberOf_3 (by decide) (fun c_1 => ?_) (fun c_1 => ?_)
  · refine lv_iload_n hx hb dX7_numberOf_11 rfl (lv_at hl 1 rfl) ?_
    refine lv_iconst (v := 1) hx hb dX7_numberOf_12 (by decide) ?_
    refine lv_bipush (v := 6) hx hb dX7_numberOf_13 (by decide) ?_
    refine k_SNi [] [0, 1, 2] (wr := [(h, .inr (7, [.ref k1, .ref k2])), (k1, .inl (gI g, 7, .inl f)), (k2, .inl (gJ g, 5, .inr (.inl r0)))]) hx hb hml hown hts hKW hP hD hS hA hl.1 (c_X11_isWithin l g _ v 1 6 ) wd_7_8 wd_1_2 nw_21 wd_7_7 yd_X11_isWithin ⟨(Nat.le_of_ble_eq_true rfl), (Nat.le_of_ble_eq_true rfl)⟩ rfl rfl rfl rfl (by decide) rfl (Nat.le_of_ble_eq_true rfl) dX7_numberOf_15 ⟨(Nat.le_of_ble_eq_true rfl), (Nat.le_of_ble_eq_true rfl)⟩ (fun r_2 u_3 H locs hw_4 hP hD hS => ?_)
    have hP : va_P g.1 vwCl [(h, .inr (7, [.ref k1, .ref k2])), (k1, .inl (gI g, 7, .inl f)), (k2, .inl (gJ g, 5, .inr (.inl r0)))] H := hP
    have hD : va_D A [(h, .inr (7, [.ref k1, .ref k2])), (k1, .inl (gI g, 7, .inl f)), (k2, .inl (gJ g, 5, .inr (.inl r0)))] := hD
    rcases (show (r_2 = 1 ∧ (Int32.toInt 1 ≤ Int32.toInt v ∧ Int32.toInt v ≤ Int32.toInt 6)) ∨ (r_2 = 0 ∧ ¬ (Int32.toInt 1 ≤ Int32.toInt v ∧ Int32.toInt v ≤ Int32.toInt 6)) from hw_4) with ⟨rfl, hw_4b⟩ | ⟨rfl, hw_4b⟩ <;> clear hw_4
    · refine lv_if_eq (tgt := 30) hx hb dX7_numberOf_18 (by decide) (fun c => absurd c (by decide)) (fun _ => ?_)
      refine lv_aload_n hx hb dX7_numberOf_21 rfl (lv_at hl 0 rfl) ?_
      refine va_get (ci := 7) (C := RX7) (T := TX7) (N := 2) hx hb hts inlX7 hown hKW.1 hP 0 rfl rfl 0 (by decide) (hts _ wd_5_8) (fun _ h => h) rfl dX7_numberOf_22 ?_
      refine lv_iload_n hx hb dX7_numberOf_25 rfl (lv_at hl 1 rfl) ?_
      refine va_iald hx hb hKW.1 hP 1 0 rfl rfl (vp_in_iff.mpr (by clear hP hD hS hA hts hKW hl; have := hw_4b; simp at this; omega)) dX7_numberOf_26 ?_
      refine lv_topi (fun x_5 ex_5 => ?_)
      refine lv_goto (tgt := 31) hx hb dX7_numberOf_27 (by decide) ?_
      exact k_iret () [0, 1, 2] hx hb hr hlk hP hD hS trivial rfl rfl rfl (Nat.le_of_ble_eq_true rfl) (Nat.le_of_ble_eq_true rfl) dX7_numberOf_31
    · refine lv_if_eq (tgt := 30) hx hb dX7_numberOf_18 (by decide) (fun _ => ?_) (fun c => absurd c (by decide))
      refine lv_iconst (v := 0) hx hb dX7_numberOf_30 (by decide) ?_
      exact k_iret () [0, 1, 2] hx hb hr hlk hP hD hS trivial rfl rfl rfl (Nat.le_of_ble_eq_true rfl) (Nat.le_of_ble_eq_true rfl) dX7_numberOf_31
  · refine lv_iload_n hx hb dX7_numberOf_6 rfl (lv_at hl 1 rfl) ?_
    refine lv_bipush (v := 10) hx hb dX7_numberOf_7 (by decide) ?_
    refine lv_isub hx hb dX7_numberOf_9 ?_
    refine lv_topi (fun x_6 ex_6 => ?_)
    exact k_iret () [0, 1, 2] hx hb hr hlk hP hD hS trivial rfl rfl rfl (Nat.le_of_ble_eq_true rfl) (Nat.le_of_ble_eq_true rfl) dX7_numberOf_10
theorem dX7_workOut_0 : decode cX7_workOut 0 = .ok (.iconst 0, 1) := by decide +kernel
theorem dX7_workOut_1 : decode cX7_workOut 1 = .ok (.istore_n 2, 1) := by decide +kernel
theorem dX7_workOut_2 : decode cX7_workOut 2 = .ok (.iconst 0, 1) := by decide +kernel
theorem dX7_workOut_3 : decode cX7_workOut 3 = .ok (.istore_n 3, 1) := by decide +kernel
theorem dX7_workOut_4 : decode cX7_workOut 4 = .ok (.iload_n 3, 1) := by decide +kernel
theorem dX7_workOut_5 : decode cX7_workOut 5 = .ok (.aload_n 1, 1) := by decide +kernel
theorem dX7_workOut_6 : decode cX7_workOut 6 = .ok (.getfield 101, 3) := by decide +kernel
theorem dX7_workOut_9 : decode cX7_workOut 9 = .ok (.if_icmp .ge 90, 3) := by decide +kernel
theorem dX7_workOut_99 : decode cX7_workOut 99 = .ok (.aload_n 0, 1) := by decide +kernel
theorem dX7_workOut_100 : decode cX7_workOut 100 = .ok (.getfield 15, 3) := by decide +kernel
theorem dX7_workOut_103 : decode cX7_workOut 103 = .ok (.iconst 0, 1) := by decide +kernel
theorem dX7_workOut_104 : decode cX7_workOut 104 = .ok (.laload, 1) := by decide +kernel
theorem dX7_workOut_105 : decode cX7_workOut 105 = .ok (.lreturn, 1) := by decide +kernel
theorem dX7_workOut_12 : decode cX7_workOut 12 = .ok (.aload_n 1, 1) := by decide +kernel
theorem dX7_workOut_13 : decode cX7_workOut 13 = .ok (.getfield 102, 3) := by decide +kernel
theorem dX7_workOut_16 : decode cX7_workOut 16 = .ok (.iload_n 3, 1) := by decide +kernel
theorem dX7_workOut_17 : decode cX7_workOut 17 = .ok (.iaload, 1) := by decide +kernel
theorem dX7_workOut_18 : decode cX7_workOut 18 = .ok (.istore 4, 2) := by decide +kernel
theorem dX7_workOut_20 : decode cX7_workOut 20 = .ok (.iload 4, 2) := by decide +kernel
theorem dX7_workOut_22 : decode cX7_workOut 22 = .ok (.bipush 50, 2) := by decide +kernel
theorem dX7_workOut_24 : decode cX7_workOut 24 = .ok (.if_icmp .lt 41, 3) := by decide +kernel
theorem dX7_workOut_65 : decode cX7_workOut 65 = .ok (.iload 4, 2) := by decide +kernel
theorem dX7_workOut_67 : decode cX7_workOut 67 = .ok (.bipush 50, 2) := by decide +kernel
theorem dX7_workOut_69 : decode cX7_workOut 69 = .ok (.if_icmp .ge 24, 3) := by decide +kernel
theorem dX7_workOut_93 : decode cX7_workOut 93 = .ok (.iinc 3 1, 3) := by decide +kernel
theorem dX7_workOut_96 : decode cX7_workOut 96 = .ok (.goto (-92), 3) := by decide +kernel
theorem dX7_workOut_72 : decode cX7_workOut 72 = .ok (.iload_n 2, 1) := by decide +kernel
theorem dX7_workOut_73 : decode cX7_workOut 73 = .ok (.iconst 5, 1) := by decide +kernel
theorem dX7_workOut_74 : decode cX7_workOut 74 = .ok (.if_icmp .ge 19, 3) := by decide +kernel
theorem dX7_workOut_77 : decode cX7_workOut 77 = .ok (.aload_n 0, 1) := by decide +kernel
theorem dX7_workOut_78 : decode cX7_workOut 78 = .ok (.getfield 15, 3) := by decide +kernel
theorem dX7_workOut_81 : decode cX7_workOut 81 = .ok (.iload_n 2, 1) := by decide +kernel
theorem dX7_workOut_82 : decode cX7_workOut 82 = .ok (.aload_n 0, 1) := by decide +kernel
theorem dX7_workOut_83 : decode cX7_workOut 83 = .ok (.iload 4, 2) := by decide +kernel
theorem dX7_workOut_85 : decode cX7_workOut 85 = .ok (.invokevirtual 109, 3) := by decide +kernel
theorem dX7_workOut_88 : decode cX7_workOut 88 = .ok (.i2l, 1) := by decide +kernel
theorem dX7_workOut_89 : decode cX7_workOut 89 = .ok (.lastore, 1) := by decide +kernel
theorem dX7_workOut_90 : decode cX7_workOut 90 = .ok (.iinc 2 1, 3) := by decide +kernel
theorem dX7_workOut_27 : decode cX7_workOut 27 = .ok (.iload_n 2, 1) := by decide +kernel
theorem dX7_workOut_28 : decode cX7_workOut 28 = .ok (.iconst 2, 1) := by decide +kernel
theorem dX7_workOut_29 : decode cX7_workOut 29 = .ok (.if_icmp .lt 36, 3) := by decide +kernel
theorem dX7_workOut_32 : decode cX7_workOut 32 = .ok (.iinc 2 (-1), 3) := by decide +kernel
theorem dX7_workOut_35 : decode cX7_workOut 35 = .ok (.aload_n 0, 1) := by decide +kernel
theorem dX7_workOut_36 : decode cX7_workOut 36 = .ok (.getfield 15, 3) := by decide +kernel
theorem dX7_workOut_39 : decode cX7_workOut 39 = .ok (.iload_n 2, 1) := by decide +kernel
theorem dX7_workOut_40 : decode cX7_workOut 40 = .ok (.iconst 1, 1) := by decide +kernel
theorem dX7_workOut_41 : decode cX7_workOut 41 = .ok (.isub, 1) := by decide +kernel
theorem dX7_workOut_42 : decode cX7_workOut 42 = .ok (.iload 4, 2) := by decide +kernel
theorem dX7_workOut_44 : decode cX7_workOut 44 = .ok (.aload_n 0, 1) := by decide +kernel
theorem dX7_workOut_45 : decode cX7_workOut 45 = .ok (.getfield 15, 3) := by decide +kernel
theorem dX7_workOut_48 : decode cX7_workOut 48 = .ok (.iload_n 2, 1) := by decide +kernel
theorem dX7_workOut_49 : decode cX7_workOut 49 = .ok (.iconst 1, 1) := by decide +kernel
theorem dX7_workOut_50 : decode cX7_workOut 50 = .ok (.isub, 1) := by decide +kernel
theorem dX7_workOut_51 : decode cX7_workOut 51 = .ok (.laload, 1) := by decide +kernel
theorem dX7_workOut_52 : decode cX7_workOut 52 = .ok (.aload_n 0, 1) := by decide +kernel
theorem dX7_workOut_53 : decode cX7_workOut 53 = .ok (.getfield 15, 3) := by decide +kernel
theorem dX7_workOut_56 : decode cX7_workOut 56 = .ok (.iload_n 2, 1) := by decide +kernel
theorem dX7_workOut_57 : decode cX7_workOut 57 = .ok (.laload, 1) := by decide +kernel
theorem dX7_workOut_58 : decode cX7_workOut 58 = .ok (.invokestatic 105, 3) := by decide +kernel
theorem dX7_workOut_61 : decode cX7_workOut 61 = .ok (.lastore, 1) := by decide +kernel
theorem dX7_workOut_62 : decode cX7_workOut 62 = .ok (.goto 31, 3) := by decide +kernel
set_option maxHeartbeats 8000000 in
set_option maxRecDepth 100000 in
theorem c_X7_workOut (l : Launch) (g : kG) (sz : Nat) (h : Nat) (k1 : Nat) (k2 : Nat) (f : Nat → Int32) (r0 : Nat → Int64) (a : Nat → Nat) (cnt : Nat) (xw : Int32) (f0 : Nat → Int32) (hc : cnt ≤ 14) : kMl l g yX7_workOut cX7_workOut 5 (some .long) 4 0 0 [.ref h, .ref (a 0)] sz [(h, .inr (7, [.ref k1, .ref k2])), (k1, .inl (gI g, 7, .inl f)), (k2, .inl (gJ g, 5, .inr (.inl r0))), (a 0, .inr (6, [.int (nI cnt), .int xw, .ref (a 1)])), (a 1, .inl (gI g, 14, .inl f0))] (fun (r : Int64) (u : (Nat → Int64)) => True) (fun (u : (Nat → Int64)) => ([(h, .inr (7, [.ref k1, .ref k2])), (k1, .inl (gI g, 7, .inl f)), (k2, .inl (gJ g, 5, .inr (.inl u))), (a 0, .inr (6, [.int (nI cnt), .int xw, .ref (a 1)])), (a 1, .inl (gI g, 14, .inl f0))] : va_W)) := by
  refine kMl.of (by decide) (Nat.le_of_ble_eq_true rfl) (fun p e s m below meth c A hx hb hr hml hown hts hlk hnm hKW hP hD hS hA ls hl => ?_)
  have hown : s.vm.findClass RX7 = some m.cls := hown
  have hl : lv_has ls 5 [(0, .ref h), (1, .ref (a 0))] := hl
  refine k_hide hP hS (fun H locs hP hS => ?_)
  refine lv_iconst (v := 0) hx hb dX7_workOut_0 (by decide) ?_
  refine lv_istore_n (lv' := [(2, .int 0), (0, .ref h), (1, .ref (a 0))]) hx hb dX7_workOut_1 rfl hl (by decide) rfl (fun ls hl => ?_)
  refine lv_iconst (v := 0) hx hb dX7_workOut_2 (by decide) ?_
  refine lv_istore_n (lv' := [(3, .int 0), (2, .int 0), (0, .ref h), (1, .ref (a 0))]) hx hb dX7_workOut_3 rfl hl (by decide) rfl (fun ls hl => ?_)
  have L4 : ∀ (n4 : Nat) (i : Nat) (dd : Nat) (ra : Nat → Int64) (hfuel4 : cnt - i < n4) (hi : i ≤ cnt) (hd : dd ≤ 5) (H : Heap) (locs : List Loc) (hP : va_P g.1 vwCl [(h, .inr (7, [.ref k1, .ref k2])), (k1, .inl (gI g, 7, .inl f)), (k2, .inl (gJ g, 5, .inr (.inl ra))), (a 0, .inr (6, [.int (nI cnt), .int xw, .ref (a 1)])), (a 1, .inl (gI g, 14, .inl f0))] H) (hD : va_D A [(h, .inr (7, [.ref k1, .ref k2])), (k1, .inl (gI g, 7, .inl f)), (k2, .inl (gJ g, 5, .inr (.inl ra))), (a 0, .inr (6, [.int (nI cnt), .int xw, .ref (a 1)])), (a 1, .inl (gI g, 14, .inl f0))]) (hS : va_S A s.heap H locs) (ls : Array Slot) (hl : lv_has ls 5 [(3, .int (nI i)), (2, .int (nI dd)), (0, .ref h), (1, .ref (a 0))]), W p l e (kR 4 0 0) s m ([.ref h, .ref (a 0)] : List Value).toArray below meth c H locs 0 0 (kQl g A below ([.ref h, .ref (a 0)] : List Value).toArray s 0 0 (fun (r : Int64) (u : (Nat → Int64)) => True) (fun (u : (Nat → Int64)) => ([(h, .inr (7, [.ref k1, .ref k2])), (k1, .inl (gI g, 7, .inl f)), (k2, .inl (gJ g, 5, .inr (.inl u))), (a 0, .inr (6, [.int (nI cnt), .int xw, .ref (a 1)])), (a 1, .inl (gI g, 14, .inl f0))] : va_W))) (F0 m 4 ls []) := by
    intro n4
    induction n4 with
    | zero => intro i dd ra hfuel4; exact absurd hfuel4 (Nat.not_lt_zero _)
    | succ n4 ih4 =>
      intro i dd ra hfuel4 hi hd H locs hP hD hS ls hl
      refine lv_iload_n hx hb dX7_workOut_4 rfl (lv_at hl 0 rfl) ?_
      refine lv_aload_n hx hb dX7_workOut_5 rfl (lv_at hl 3 rfl) ?_
      refine va_get (ci := 6) (C := RX6) (T := TX6) (N := 3) hx hb hts inlX6 hown hKW.1 hP 3 rfl rfl 0 (by decide) (hts _ wd_25_0) (fun _ h => h) rfl dX7_workOut_6 ?_
      refine lv_icmp_ge (tgt := 99) hx hb dX7_workOut_9 (by decide) (fun c_1 => ?_) (fun c_1 => ?_)
      · have c_1n : cnt ≤ i := (k_leI (a := cnt) (b := i) (by omega) (by omega)).mp c_1
        refine lv_aload_n hx hb dX7_workOut_99 rfl (lv_at hl 2 rfl) ?_
        refine va_get (ci := 7) (C := RX7) (T := TX7) (N := 2) hx hb hts inlX7 hown hKW.1 hP 0 rfl rfl 1 (by decide) (hts _ wd_5_10) (fun _ h => h) rfl dX7_workOut_100 ?_
        refine lv_iconst (v := 0) hx hb dX7_workOut_103 (by decide) ?_
        refine va_lald hx hb hKW.1 hP 2 1 rfl rfl (show ¬ _ by decide) dX7_workOut_104 ?_
        refine lv_topl (fun y_2 ey_2 => ?_)
        exact k_lret ra [0, 1, 2, 3, 4] hx hb hr hlk hP hD hS trivial rfl rfl rfl (Nat.le_of_ble_eq_true rfl) (Nat.le_of_ble_eq_true rfl) dX7_workOut_105
      · have c_1n : i < cnt := Nat.not_le.mp (fun h => c_1 ((k_leI (a := cnt) (b := i) (by omega) (by omega)).mpr h))
        refine lv_aload_n hx hb dX7_workOut_12 rfl (lv_at hl 3 rfl) ?_
        refine va_get (ci := 6) (C := RX6) (T := TX6) (N := 3) hx hb hts inlX6 hown hKW.1 hP 3 rfl rfl 2 (by decide) (hts _ wd_25_1) (fun _ h => h) rfl dX7_workOut_13 ?_
        refine lv_iload_n hx hb dX7_workOut_16 rfl (lv_at hl 0 rfl) ?_
        refine va_iald hx hb hKW.1 hP 4 0 rfl rfl (vp_in_nI (by omega) (by decide)) dX7_workOut_17 ?_
        refine lv_topi (fun x_3 ex_3 => ?_)
        refine lv_istore (lv' := [(4, .int x_3), (3, .int (nI i)), (2, .int (nI dd)), (0, .ref h), (1, .ref (a 0))]) hx hb dX7_workOut_18 hl (by decide) rfl (fun ls hl => ?_)
        refine lv_iload hx hb dX7_workOut_20 (lv_at hl 0 rfl) ?_
        refine lv_bipush (v := 50) hx hb dX7_workOut_22 (by decide) ?_
        refine lv_icmp_lt (tgt := 65) hx hb dX7_workOut_24 (by decide) (fun c_4 => ?_) (fun c_4 => ?_)
        · refine lv_iload hx hb dX7_workOut_65 (lv_at hl 0 rfl) ?_
          refine lv_bipush (v := 50) hx hb dX7_workOut_67 (by decide) ?_
          refine lv_icmp_ge (tgt := 93) hx hb dX7_workOut_69 (by decide) (fun c_5 => ?_) (fun c_5 => ?_)
          · refine lv_iinc (v := nI (i + 1)) (lv' := [(3, .int (nI (i + 1))), (4, .int x_3), (2, .int (nI dd)), (0, .ref h), (1, .ref (a 0))]) hx hb dX7_workOut_93 hl (k := 1) rfl (nI_add i 1) (by decide) rfl (fun ls hl => ?_)
            refine lv_goto (tgt := 4) hx hb dX7_workOut_96 (by decide) ?_
            exact ih4 (i + 1) dd ra (by omega) (by first | assumption | omega) (by first | assumption | omega) H locs (hP.sub [0, 1, 2, 3, 4] rfl) (hD.sub [0, 1, 2, 3, 4] (by decide) rfl) hS ls (lv_sub hl [0, 2, 3, 4] rfl)
          · refine lv_iload_n hx hb dX7_workOut_72 rfl (lv_at hl 2 rfl) ?_
            refine lv_iconst (v := 5) hx hb dX7_workOut_73 (by decide) ?_
            refine lv_icmp_ge (tgt := 93) hx hb dX7_workOut_74 (by decide) (fun c_6 => ?_) (fun c_6 => ?_)
            · have c_6n : 5 ≤ dd := (k_leI (a := 5) (b := dd) (by omega) (by omega)).mp c_6
              refine lv_iinc (v := nI (i + 1)) (lv' := [(3, .int (nI (i + 1))), (4, .int x_3), (2, .int (nI dd)), (0, .ref h), (1, .ref (a 0))]) hx hb dX7_workOut_93 hl (k := 1) rfl (nI_add i 1) (by decide) rfl (fun ls hl => ?_)
              refine lv_goto (tgt := 4) hx hb dX7_workOut_96 (by decide) ?_
              exact ih4 (i + 1) dd ra (by omega) (by first | assumption | omega) (by first | assumption | omega) H locs (hP.sub [0, 1, 2, 3, 4] rfl) (hD.sub [0, 1, 2, 3, 4] (by decide) rfl) hS ls (lv_sub hl [0, 2, 3, 4] rfl)
            · have c_6n : dd < 5 := Nat.not_le.mp (fun h => c_6 ((k_leI (a := 5) (b := dd) (by omega) (by omega)).mpr h))
              refine lv_aload_n hx hb dX7_workOut_77 rfl (lv_at hl 3 rfl) ?_
              refine va_get (ci := 7) (C := RX7) (T := TX7) (N := 2) hx hb hts inlX7 hown hKW.1 hP 0 rfl rfl 1 (by decide) (hts _ wd_5_10) (fun _ h => h) rfl dX7_workOut_78 ?_
              refine lv_iload_n hx hb dX7_workOut_81 rfl (lv_at hl 2 rfl) ?_
              refine lv_aload_n hx hb dX7_workOut_82 rfl (lv_at hl 3 rfl) ?_
              refine lv_iload hx hb dX7_workOut_83 (lv_at hl 0 rfl) ?_
              refine k_Vi [0, 1, 2] [3, 4] 0 7 (wr := [(a 0, .inr (6, [.int (nI cnt), .int xw, .ref (a 1)])), (a 1, .inl (gI g, 14, .inl f0))]) hx hb hml hown hts hKW hP hD hS hA hl.1 (c_X7_numberOf l g _ h k1 k2 f ra x_3 ) rfl rfl rfl wd_25_14 wd_1_22 wd_25_11 wd_25_12 wd_25_13 yd_X7_numberOf ⟨(Nat.le_of_ble_eq_true rfl), (Nat.le_of_ble_eq_true rfl)⟩ rfl rfl rfl rfl (by decide) rfl (Nat.le_of_ble_eq_true rfl) dX7_workOut_85 ⟨(Nat.le_of_ble_eq_true rfl), (Nat.le_of_ble_eq_true rfl)⟩ (fun r_7 u_8 H locs hw_9 hP hD hS => ?_)
              have hP : va_P g.1 vwCl [(a 0, .inr (6, [.int (nI cnt), .int xw, .ref (a 1)])), (a 1, .inl (gI g, 14, .inl f0)), (h, .inr (7, [.ref k1, .ref k2])), (k1, .inl (gI g, 7, .inl f)), (k2, .inl (gJ g, 5, .inr (.inl ra)))] H := hP
              have hD : va_D A [(a 0, .inr (6, [.int (nI cnt), .int xw, .ref (a 1)])), (a 1, .inl (gI g, 14, .inl f0)), (h, .inr (7, [.ref k1, .ref k2])), (k1, .inl (gI g, 7, .inl f)), (k2, .inl (gJ g, 5, .inr (.inl ra)))] := hD
              obtain ⟨y_10, ey_10⟩ : ∃ z : Int64, Int32.toInt64 r_7 = z := ⟨_, rfl⟩
              refine lv_i2l (v := y_10) hx hb dX7_workOut_88 ey_10 ?_
              refine va_last hx hb hKW.1 hP hD hS 4 1 rfl rfl (vp_in_nI (by omega) (by decide)) dX7_workOut_89 (fun H locs hP hD hS => ?_)
              have hP : va_P g.1 vwCl [(a 0, .inr (6, [.int (nI cnt), .int xw, .ref (a 1)])), (a 1, .inl (gI g, 14, .inl f0)), (h, .inr (7, [.ref k1, .ref k2])), (k1, .inl (gI g, 7, .inl f)), (k2, .inl (gJ g, 5, .inr (.inl (vp_updL ra (nI dd).toNatClampNeg y_10))))] H := hP
              have hD : va_D A [(a 0, .inr (6, [.int (nI cnt), .int xw, .ref (a 1)])), (a 1, .inl (gI g, 14, .inl f0)), (h, .inr (7, [.ref k1, .ref k2])), (k1, .inl (gI g, 7, .inl f)), (k2, .inl (gJ g, 5, .inr (.inl (vp_updL ra (nI dd).toNatClampNeg y_10))))] := hD
              obtain ⟨f_11, ef_11⟩ : ∃ zz_ : Nat → Int64, zz_ = vp_updL ra (nI dd).toNatClampNeg y_10 := ⟨_, rfl⟩
              rw [← ef_11] at hP hD
              refine lv_iinc (v := nI (dd + 1)) (lv' := [(2, .int (nI (dd + 1))), (4, .int x_3), (3, .int (nI i)), (0, .ref h), (1, .ref (a 0))]) hx hb dX7_workOut_90 hl (k := 2) rfl (nI_add dd 1) (by decide) rfl (fun ls hl => ?_)
              refine lv_iinc (v := nI (i + 1)) (lv' := [(3, .int (nI (i + 1))), (2, .int (nI (dd + 1))), (4, .int x_3), (0, .ref h), (1, .ref (a 0))]) hx hb dX7_workOut_93 hl (k := 2) rfl (nI_add i 1) (by decide) rfl (fun ls hl => ?_)
              refine lv_goto (tgt := 4) hx hb dX7_workOut_96 (by decide) ?_
              exact ih4 (i + 1) (dd + 1) f_11 (by omega) (by first | assumption | omega) (by first | assumption | omega) H locs (hP.sub [2, 3, 4, 0, 1] rfl) (hD.sub [2, 3, 4, 0, 1] (by decide) rfl) hS ls (lv_sub hl [0, 1, 3, 4] rfl)
        · refine lv_iload_n hx hb dX7_workOut_27 rfl (lv_at hl 2 rfl) ?_
          refine lv_iconst (v := 2) hx hb dX7_workOut_28 (by decide) ?_
          refine lv_icmp_lt (tgt := 65) hx hb dX7_workOut_29 (by decide) (fun c_12 => ?_) (fun c_12 => ?_)
          · have c_12n : dd < 2 := (k_ltI (a := dd) (b := 2) (by omega) (by omega)).mp c_12
            refine lv_iload hx hb dX7_workOut_65 (lv_at hl 0 rfl) ?_
            refine lv_bipush (v := 50) hx hb dX7_workOut_67 (by decide) ?_
            refine lv_icmp_ge (tgt := 93) hx hb dX7_workOut_69 (by decide) (fun c_13 => ?_) (fun c_13 => ?_)
            · refine lv_iinc (v := nI (i + 1)) (lv' := [(3, .int (nI (i + 1))), (4, .int x_3), (2, .int (nI dd)), (0, .ref h), (1, .ref (a 0))]) hx hb dX7_workOut_93 hl (k := 1) rfl (nI_add i 1) (by decide) rfl (fun ls hl => ?_)
              refine lv_goto (tgt := 4) hx hb dX7_workOut_96 (by decide) ?_
              exact ih4 (i + 1) dd ra (by omega) (by first | assumption | omega) (by first | assumption | omega) H locs (hP.sub [0, 1, 2, 3, 4] rfl) (hD.sub [0, 1, 2, 3, 4] (by decide) rfl) hS ls (lv_sub hl [0, 2, 3, 4] rfl)
            · refine lv_iload_n hx hb dX7_workOut_72 rfl (lv_at hl 2 rfl) ?_
              refine lv_iconst (v := 5) hx hb dX7_workOut_73 (by decide) ?_
              refine lv_icmp_ge (tgt := 93) hx hb dX7_workOut_74 (by decide) (fun c_14 => ?_) (fun c_14 => ?_)
              · have c_14n : 5 ≤ dd := (k_leI (a := 5) (b := dd) (by omega) (by omega)).mp c_14
                refine lv_iinc (v := nI (i + 1)) (lv' := [(3, .int (nI (i + 1))), (4, .int x_3), (2, .int (nI dd)), (0, .ref h), (1, .ref (a 0))]) hx hb dX7_workOut_93 hl (k := 1) rfl (nI_add i 1) (by decide) rfl (fun ls hl => ?_)
                refine lv_goto (tgt := 4) hx hb dX7_workOut_96 (by decide) ?_
                exact ih4 (i + 1) dd ra (by omega) (by first | assumption | omega) (by first | assumption | omega) H locs (hP.sub [0, 1, 2, 3, 4] rfl) (hD.sub [0, 1, 2, 3, 4] (by decide) rfl) hS ls (lv_sub hl [0, 2, 3, 4] rfl)
              · have c_14n : dd < 5 := Nat.not_le.mp (fun h => c_14 ((k_leI (a := 5) (b := dd) (by omega) (by omega)).mpr h))
                refine lv_aload_n hx hb dX7_workOut_77 rfl (lv_at hl 3 rfl) ?_
                refine va_get (ci := 7) (C := RX7) (T := TX7) (N := 2) hx hb hts inlX7 hown hKW.1 hP 0 rfl rfl 1 (by decide) (hts _ wd_5_10) (fun _ h => h) rfl dX7_workOut_78 ?_
                refine lv_iload_n hx hb dX7_workOut_81 rfl (lv_at hl 2 rfl) ?_
                refine lv_aload_n hx hb dX7_workOut_82 rfl (lv_at hl 3 rfl) ?_
                refine lv_iload hx hb dX7_workOut_83 (lv_at hl 0 rfl) ?_
                refine k_Vi [0, 1, 2] [3, 4] 0 7 (wr := [(a 0, .inr (6, [.int (nI cnt), .int xw, .ref (a 1)])), (a 1, .inl (gI g, 14, .inl f0))]) hx hb hml hown hts hKW hP hD hS hA hl.1 (c_X7_numberOf l g _ h k1 k2 f ra x_3 ) rfl rfl rfl wd_25_14 wd_1_22 wd_25_11 wd_25_12 wd_25_13 yd_X7_numberOf ⟨(Nat.le_of_ble_eq_true rfl), (Nat.le_of_ble_eq_true rfl)⟩ rfl rfl rfl rfl (by decide) rfl (Nat.le_of_ble_eq_true rfl) dX7_workOut_85 ⟨(Nat.le_of_ble_eq_true rfl), (Nat.le_of_ble_eq_true rfl)⟩ (fun r_15 u_16 H locs hw_17 hP hD hS => ?_)
                have hP : va_P g.1 vwCl [(a 0, .inr (6, [.int (nI cnt), .int xw, .ref (a 1)])), (a 1, .inl (gI g, 14, .inl f0)), (h, .inr (7, [.ref k1, .ref k2])), (k1, .inl (gI g, 7, .inl f)), (k2, .inl (gJ g, 5, .inr (.inl ra)))] H := hP
                have hD : va_D A [(a 0, .inr (6, [.int (nI cnt), .int xw, .ref (a 1)])), (a 1, .inl (gI g, 14, .inl f0)), (h, .inr (7, [.ref k1, .ref k2])), (k1, .inl (gI g, 7, .inl f)), (k2, .inl (gJ g, 5, .inr (.inl ra)))] := hD
                obtain ⟨y_18, ey_18⟩ : ∃ z : Int64, Int32.toInt64 r_15 = z := ⟨_, rfl⟩
                refine lv_i2l (v := y_18) hx hb dX7_workOut_88 ey_18 ?_
                refine va_last hx hb hKW.1 hP hD hS 4 1 rfl rfl (vp_in_nI (by omega) (by decide)) dX7_workOut_89 (fun H locs hP hD hS => ?_)
                have hP : va_P g.1 vwCl [(a 0, .inr (6, [.int (nI cnt), .int xw, .ref (a 1)])), (a 1, .inl (gI g, 14, .inl f0)), (h, .inr (7, [.ref k1, .ref k2])), (k1, .inl (gI g, 7, .inl f)), (k2, .inl (gJ g, 5, .inr (.inl (vp_updL ra (nI dd).toNatClampNeg y_18))))] H := hP
                have hD : va_D A [(a 0, .inr (6, [.int (nI cnt), .int xw, .ref (a 1)])), (a 1, .inl (gI g, 14, .inl f0)), (h, .inr (7, [.ref k1, .ref k2])), (k1, .inl (gI g, 7, .inl f)), (k2, .inl (gJ g, 5, .inr (.inl (vp_updL ra (nI dd).toNatClampNeg y_18))))] := hD
                obtain ⟨f_19, ef_19⟩ : ∃ zz_ : Nat → Int64, zz_ = vp_updL ra (nI dd).toNatClampNeg y_18 := ⟨_, rfl⟩
                rw [← ef_19] at hP hD
                refine lv_iinc (v := nI (dd + 1)) (lv' := [(2, .int (nI (dd + 1))), (4, .int x_3), (3, .int (nI i)), (0, .ref h), (1, .ref (a 0))]) hx hb dX7_workOut_90 hl (k := 2) rfl (nI_add dd 1) (by decide) rfl (fun ls hl => ?_)
                refine lv_iinc (v := nI (i + 1)) (lv' := [(3, .int (nI (i + 1))), (2, .int (nI (dd + 1))), (4, .int x_3), (0, .ref h), (1, .ref (a 0))]) hx hb dX7_workOut_93 hl (k := 2) rfl (nI_add i 1) (by decide) rfl (fun ls hl => ?_)
                refine lv_goto (tgt := 4) hx hb dX7_workOut_96 (by decide) ?_
                exact ih4 (i + 1) (dd + 1) f_19 (by omega) (by first | assumption | omega) (by first | assumption | omega) H locs (hP.sub [2, 3, 4, 0, 1] rfl) (hD.sub [2, 3, 4, 0, 1] (by decide) rfl) hS ls (lv_sub hl [0, 1, 3, 4] rfl)
          · have c_12n : 2 ≤ dd := Nat.not_lt.mp (fun h => c_12 ((k_ltI (a := dd) (b := 2) (by omega) (by omega)).mpr h))
            refine lv_iinc (v := nI (dd - 1)) (lv' := [(2, .int (nI (dd - 1))), (4, .int x_3), (3, .int (nI i)), (0, .ref h), (1, .ref (a 0))]) hx hb dX7_workOut_32 hl (k := 2) rfl (k_dec (by omega)) (by decide) rfl (fun ls hl => ?_)
            refine lv_aload_n hx hb dX7_workOut_35 rfl (lv_at hl 3 rfl) ?_
            refine va_get (ci := 7) (C := RX7) (T := TX7) (N := 2) hx hb hts inlX7 hown hKW.1 hP 0 rfl rfl 1 (by decide) (hts _ wd_5_10) (fun _ h => h) rfl dX7_workOut_36 ?_
            refine lv_iload_n hx hb dX7_workOut_39 rfl (lv_at hl 0 rfl) ?_
            refine lv_iconst (v := 1) hx hb dX7_workOut_40 (by decide) ?_
            refine lv_isub hx hb dX7_workOut_41 ?_
            refine k_top (y := nI (dd - 1 - 1)) (k_sub (b := 1) (by omega)) ?_
            refine lv_iload hx hb dX7_workOut_42 (lv_at hl 1 rfl) ?_
            refine lv_aload_n hx hb dX7_workOut_44 rfl (lv_at hl 3 rfl) ?_
            refine va_get (ci := 7) (C := RX7) (T := TX7) (N := 2) hx hb hts inlX7 hown hKW.1 hP 0 rfl rfl 1 (by decide) (hts _ wd_5_10) (fun _ h => h) rfl dX7_workOut_45 ?_
            refine lv_iload_n hx hb dX7_workOut_48 rfl (lv_at hl 0 rfl) ?_
            refine lv_iconst (v := 1) hx hb dX7_workOut_49 (by decide) ?_
            refine lv_isub hx hb dX7_workOut_50 ?_
            refine k_top (y := nI (dd - 1 - 1)) (k_sub (b := 1) (by omega)) ?_
            refine va_lald hx hb hKW.1 hP 2 1 rfl rfl (vp_in_nI (by omega) (by decide)) dX7_workOut_51 ?_
            refine lv_topl (fun y_20 ey_20 => ?_)
            refine lv_aload_n hx hb dX7_workOut_52 rfl (lv_at hl 3 rfl) ?_
            refine va_get (ci := 7) (C := RX7) (T := TX7) (N := 2) hx hb hts inlX7 hown hKW.1 hP 0 rfl rfl 1 (by decide) (hts _ wd_5_10) (fun _ h => h) rfl dX7_workOut_53 ?_
            refine lv_iload_n hx hb dX7_workOut_56 rfl (lv_at hl 0 rfl) ?_
            refine va_lald hx hb hKW.1 hP 2 1 rfl rfl (vp_in_nI (by omega) (by decide)) dX7_workOut_57 ?_
            refine lv_topl (fun y_21 ey_21 => ?_)
            refine k_Sl [] [0, 1, 2, 3, 4] (wr := [(h, .inr (7, [.ref k1, .ref k2])), (k1, .inl (gI g, 7, .inl f)), (k2, .inl (gJ g, 5, .inr (.inl ra))), (a 0, .inr (6, [.int (nI cnt), .int xw, .ref (a 1)])), (a 1, .inl (gI g, 14, .inl f0))]) hx hb hml hown hts hKW hP hD hS hA hl.1 (c_X7_joined l g _ x_3 y_20 y_21 ) wd_25_4 wd_1_22 wd_25_2 wd_25_3 yd_X7_joined ⟨(Nat.le_of_ble_eq_true rfl), (Nat.le_of_ble_eq_true rfl)⟩ rfl rfl rfl rfl (by decide) rfl (Nat.le_of_ble_eq_true rfl) dX7_workOut_58 ⟨(Nat.le_of_ble_eq_true rfl), (Nat.le_of_ble_eq_true rfl)⟩ (fun r_22 u_23 H locs hw_24 hP hD hS => ?_)
            have hP : va_P g.1 vwCl [(h, .inr (7, [.ref k1, .ref k2])), (k1, .inl (gI g, 7, .inl f)), (k2, .inl (gJ g, 5, .inr (.inl ra))), (a 0, .inr (6, [.int (nI cnt), .int xw, .ref (a 1)])), (a 1, .inl (gI g, 14, .inl f0))] H := hP
            have hD : va_D A [(h, .inr (7, [.ref k1, .ref k2])), (k1, .inl (gI g, 7, .inl f)), (k2, .inl (gJ g, 5, .inr (.inl ra))), (a 0, .inr (6, [.int (nI cnt), .int xw, .ref (a 1)])), (a 1, .inl (gI g, 14, .inl f0))] := hD
            refine va_last hx hb hKW.1 hP hD hS 2 1 rfl rfl (vp_in_nI (by omega) (by decide)) dX7_workOut_61 (fun H locs hP hD hS => ?_)
            have hP : va_P g.1 vwCl [(h, .inr (7, [.ref k1, .ref k2])), (k1, .inl (gI g, 7, .inl f)), (k2, .inl (gJ g, 5, .inr (.inl (vp_updL ra (nI (dd - 1 - 1)).toNatClampNeg r_22)))), (a 0, .inr (6, [.int (nI cnt), .int xw, .ref (a 1)])), (a 1, .inl (gI g, 14, .inl f0))] H := hP
            have hD : va_D A [(h, .inr (7, [.ref k1, .ref k2])), (k1, .inl (gI g, 7, .inl f)), (k2, .inl (gJ g, 5, .inr (.inl (vp_updL ra (nI (dd - 1 - 1)).toNatClampNeg r_22)))), (a 0, .inr (6, [.int (nI cnt), .int xw, .ref (a 1)])), (a 1, .inl (gI g, 14, .inl f0))] := hD
            obtain ⟨f_25, ef_25⟩ : ∃ zz_ : Nat → Int64, zz_ = vp_updL ra (nI (dd - 1 - 1)).toNatClampNeg r_22 := ⟨_, rfl⟩
            rw [← ef_25] at hP hD
            refine lv_goto (tgt := 93) hx hb dX7_workOut_62 (by decide) ?_
            refine lv_iinc (v := nI (i + 1)) (lv' := [(3, .int (nI (i + 1))), (2, .int (nI (dd - 1))), (4, .int x_3), (0, .ref h), (1, .ref (a 0))]) hx hb dX7_workOut_93 hl (k := 2) rfl (nI_add i 1) (by decide) rfl (fun ls hl => ?_)
            refine lv_goto (tgt := 4) hx hb dX7_workOut_96 (by decide) ?_
            exact ih4 (i + 1) (dd - 1) f_25 (by omega) (by first | assumption | omega) (by first | assumption | omega) H locs (hP.sub [0, 1, 2, 3, 4] rfl) (hD.sub [0, 1, 2, 3, 4] (by decide) rfl) hS ls (lv_sub hl [0, 1, 3, 4] rfl)
  exact L4 (cnt - 0 + 1) 0 0 r0 (Nat.lt_succ_self _) (by first | assumption | omega) (by first | assumption | omega) H locs (hP.sub [0, 1, 2, 3, 4] rfl) (hD.sub [0, 1, 2, 3, 4] (by decide) rfl) hS ls (lv_sub hl [0, 1, 2, 3] rfl)
