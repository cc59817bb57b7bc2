theorem k_dv {x : Int32} : x.toInt < 0 ∨ (0 ≤ (x / 100).toInt ∧ 0 ≤ (x - x / 100 * 100).toInt) := by
  rcases Int.lt_or_le x.toInt 0 with h | h
  · exact Or.inl h
  · have hx : x.toInt < 2 ^ 31 := Int32.toInt_lt x
    have e1 : (x / 100).toInt = x.toInt / 100 := by
      rw [Int32.toInt_div, show Int32.toInt 100 = 100 from rfl, Int.tdiv_eq_ediv_of_nonneg h]
      exact Int.bmod_eq_of_le (by omega) (by omega)
    have e2 : (x / 100 * 100).toInt = x.toInt / 100 * 100 := by
      rw [Int32.toInt_mul, e1, show Int32.toInt 100 = 100 from rfl]
      exact Int.bmod_eq_of_le (by omega) (by omega)
    have e3 : (x - x / 100 * 100).toInt = x.toInt - x.toInt / 100 * 100 := by
      rw [Int32.toInt_sub, e2]
      exact Int.bmod_eq_of_le (by omega) (by omega)
    right
    rw [e1, e3]
    omega
theorem mD0_z {j : Nat} (h : 10 ≤ j) : mD0 j = 0 := by
  unfold mD0
  rw [if_neg (by omega), if_neg (by omega)]
theorem k_c (a i : Nat) : nI a + nI i = nI (i + a) := by rw [nI_add, Nat.add_comm]
theorem k_60 {x : Int32} {a i : Nat} (h : x = nI a) : 60 * x + nI i = nI (i + 60 * a) := by
  rw [h, show (60 : Int32) = nI 60 from rfl, show nI 60 * nI a = nI (60 * a) from (Int32.ofNat_mul 60 a).symm, k_c]
theorem dX12_keep_0 : decode cX12_keep 0 = .ok (.aload_n 0, 1) := by decide +kernel
theorem dX12_keep_1 : decode cX12_keep 1 = .ok (.getfield 61, 3) := by decide +kernel
theorem dX12_keep_4 : decode cX12_keep 4 = .ok (.bipush 16, 2) := by decide +kernel
theorem dX12_keep_6 : decode cX12_keep 6 = .ok (.if_icmp .ne 44, 3) := by decide +kernel
theorem dX12_keep_50 : decode cX12_keep 50 = .ok (.iconst 0, 1) := by decide +kernel
theorem dX12_keep_51 : decode cX12_keep 51 = .ok (.istore_n 1, 1) := by decide +kernel
theorem dX12_keep_52 : decode cX12_keep 52 = .ok (.iload_n 1, 1) := by decide +kernel
theorem dX12_keep_53 : decode cX12_keep 53 = .ok (.sipush 461, 3) := by decide +kernel
theorem dX12_keep_56 : decode cX12_keep 56 = .ok (.if_icmp .ge 30, 3) := by decide +kernel
theorem dX12_keep_86 : decode cX12_keep 86 = .ok (.aload_n 0, 1) := by decide +kernel
theorem dX12_keep_87 : decode cX12_keep 87 = .ok (.dup, 1) := by decide +kernel
theorem dX12_keep_88 : decode cX12_keep 88 = .ok (.getfield 61, 3) := by decide +kernel
theorem dX12_keep_91 : decode cX12_keep 91 = .ok (.iconst 1, 1) := by decide +kernel
theorem dX12_keep_92 : decode cX12_keep 92 = .ok (.iadd, 1) := by decide +kernel
theorem dX12_keep_93 : decode cX12_keep 93 = .ok (.putfield 61, 3) := by decide +kernel
theorem dX12_keep_96 : decode cX12_keep 96 = .ok (.return_, 1) := by decide +kernel
theorem dX12_keep_59 : decode cX12_keep 59 = .ok (.aload_n 0, 1) := by decide +kernel
theorem dX12_keep_60 : decode cX12_keep 60 = .ok (.getfield 13, 3) := by decide +kernel
theorem dX12_keep_63 : decode cX12_keep 63 = .ok (.sipush 461, 3) := by decide +kernel
theorem dX12_keep_66 : decode cX12_keep 66 = .ok (.aload_n 0, 1) := by decide +kernel
theorem dX12_keep_67 : decode cX12_keep 67 = .ok (.getfield 61, 3) := by decide +kernel
theorem dX12_keep_70 : decode cX12_keep 70 = .ok (.imul, 1) := by decide +kernel
theorem dX12_keep_71 : decode cX12_keep 71 = .ok (.iload_n 1, 1) := by decide +kernel
theorem dX12_keep_72 : decode cX12_keep 72 = .ok (.iadd, 1) := by decide +kernel
theorem dX12_keep_73 : decode cX12_keep 73 = .ok (.aload_n 0, 1) := by decide +kernel
theorem dX12_keep_74 : decode cX12_keep 74 = .ok (.getfield 7, 3) := by decide +kernel
theorem dX12_keep_77 : decode cX12_keep 77 = .ok (.iload_n 1, 1) := by decide +kernel
theorem dX12_keep_78 : decode cX12_keep 78 = .ok (.iaload, 1) := by decide +kernel
theorem dX12_keep_79 : decode cX12_keep 79 = .ok (.iastore, 1) := by decide +kernel
theorem dX12_keep_80 : decode cX12_keep 80 = .ok (.iinc 1 1, 3) := by decide +kernel
theorem dX12_keep_83 : decode cX12_keep 83 = .ok (.goto (-31), 3) := by decide +kernel
set_option maxHeartbeats 4000000 in
set_option maxRecDepth 100000 in
theorem c_X12_keep0_l52 (l : Launch) (g : kG) (z : Nat → Nat) {p : Program} {e : Env} {s : State} {m : MethodId} {below : List Frame} {meth : Method} {c : Code} {A : Nat → Prop} (hx : p.tables.exec = Jvm.exec) (hb : c.code = cX12_keep) (hr : meth.sig.returnType = none) (hml : c.maxLocals = 2) (hown : s.vm.findClass RX12 = some m.cls) (hts : ∀ w ∈ wsL_law, w.before ([.ref (z 0)] : List Value).toArray s = true) (hlk : meth.locks = false) (hnm : meth.name = yX12_keep.name) (hKW : kKW g s) (hA : ∀ q, s.heap.size ≤ q → A q) :
    ∀ (n : Nat) (i : Nat) (f : Nat → Int32) (hi : i ≤ 461) (hfuel : 461 < i + n) (H : Heap) (locs : List Loc), va_P g.1 vwCl [(z 0, .inr (12, [.ref (z 1), .ref (z 2), .int 0, .int 0, .ref (z 3), .ref (z 4), .ref (z 5), .ref (z 6), .int 0, .ref (z 7), .ref (z 8), .ref (z 9), .ref (z 10), .ref (z 11), .ref (z 12), .int 0, .ref (z 13), .ref (z 14), .int 0, .ref (z 15)])), (z 1, .inl (gI g, 461, .inl mD0)), (z 2, .inl (gI g, 7376, .inl f))] H → va_D A [(z 0, .inr (12, [.ref (z 1), .ref (z 2), .int 0, .int 0, .ref (z 3), .ref (z 4), .ref (z 5), .ref (z 6), .int 0, .ref (z 7), .ref (z 8), .ref (z 9), .ref (z 10), .ref (z 11), .ref (z 12), .int 0, .ref (z 13), .ref (z 14), .int 0, .ref (z 15)])), (z 1, .inl (gI g, 461, .inl mD0)), (z 2, .inl (gI g, 7376, .inl f))] → va_S A s.heap H locs → ∀ (ls : Array Slot), lv_has ls 2 [(0, .ref (z 0)), (1, .int (nI i))] → W p l e (kR 2 0 0) s m ([.ref (z 0)] : List Value).toArray below meth c H locs 0 0 (MQ below (va_Qv (fun (u : Unit) => True) (fun u t => kPost g A ((fun (u : Unit) => ([(z 0, .inr (12, [.ref (z 1), .ref (z 2), .int 1, .int 0, .ref (z 3), .ref (z 4), .ref (z 5), .ref (z 6), .int 0, .ref (z 7), .ref (z 8), .ref (z 9), .ref (z 10), .ref (z 11), .ref (z 12), .int 0, .ref (z 13), .ref (z 14), .int 0, .ref (z 15)])), (z 1, .inl (gI g, 461, .inl mD0))] : va_W)) u) t) A) ([.ref (z 0)] : List Value).toArray s 0 0 A) (F0 m 52 ls []) := by
  intro n
  induction n with
  | zero =>
    intro i f hi hfuel
    exact absurd hfuel (by omega)
  | succ n ih =>
    intro i f hi hfuel H locs hP hD hS ls hl
    refine lv_iload_n hx hb dX12_keep_52 rfl (lv_at hl 1 rfl) ?_
    refine lv_sipush (v := 461) hx hb dX12_keep_53 (by decide) ?_
    refine lv_icmp_ge (tgt := 86) hx hb dX12_keep_56 (by decide) (fun c_1 => ?_) (fun c_1 => ?_)
    · refine lv_aload_n hx hb dX12_keep_86 rfl (lv_at hl 0 rfl) ?_
      refine lv_dup hx hb dX12_keep_87 rfl ?_
      refine va_get (ci := 12) (C := RX12) (T := TX12) (N := 20) hx hb hts inlX12 hown hKW.1 hP 0 rfl rfl 2 (by decide) (hts _ wd_10_22) (fun _ h => h) rfl dX12_keep_88 ?_
      refine lv_iconst (v := 1) hx hb dX12_keep_91 (by decide) ?_
      refine lv_iadd hx hb dX12_keep_92 ?_
      refine k_top (y := 1) (by decide) ?_
      refine va_put (ci := 12) (v := .int 1) (C := RX12) (T := TX12) (N := 20) hx hb hts inlX12 tyX12 tyX12_ok nmX12 hown hKW.1 hP hD hS 0 rfl rfl 2 (by decide) (hts _ wd_10_22) (fun _ h => h) rfl (tyX12_ok 2 (by decide)) rfl rfl (Nat.le_of_ble_eq_true rfl) dX12_keep_93 (fun H locs hP hD hS => ?_)
      have hP : va_P g.1 vwCl [(z 0, .inr (12, [.ref (z 1), .ref (z 2), .int 1, .int 0, .ref (z 3), .ref (z 4), .ref (z 5), .ref (z 6), .int 0, .ref (z 7), .ref (z 8), .ref (z 9), .ref (z 10), .ref (z 11), .ref (z 12), .int 0, .ref (z 13), .ref (z 14), .int 0, .ref (z 15)])), (z 1, .inl (gI g, 461, .inl mD0)), (z 2, .inl (gI g, 7376, .inl f))] H := hP
      have hD : va_D A [(z 0, .inr (12, [.ref (z 1), .ref (z 2), .int 1, .int 0, .ref (z 3), .ref (z 4), .ref (z 5), .ref (z 6), .int 0, .ref (z 7), .ref (z 8), .ref (z 9), .ref (z 10), .ref (z 11), .ref (z 12), .int 0, .ref (z 13), .ref (z 14), .int 0, .ref (z 15)])), (z 1, .inl (gI g, 461, .inl mD0)), (z 2, .inl (gI g, 7376, .inl f))] := hD
      exact k_vret () [0, 1] hx hb hr hlk hP hD hS trivial rfl rfl rfl (Nat.le_of_ble_eq_true rfl) (Nat.le_of_ble_eq_true rfl) dX12_keep_96
    · have hlt : i < 461 := k_lt (by decide) hi c_1
      refine lv_aload_n hx hb dX12_keep_59 rfl (lv_at hl 0 rfl) ?_
      refine va_get (ci := 12) (C := RX12) (T := TX12) (N := 20) hx hb hts inlX12 hown hKW.1 hP 0 rfl rfl 1 (by decide) (hts _ wd_6_6) (fun _ h => h) rfl dX12_keep_60 ?_
      refine lv_sipush (v := 461) hx hb dX12_keep_63 (by decide) ?_
      refine lv_aload_n hx hb dX12_keep_66 rfl (lv_at hl 0 rfl) ?_
      refine va_get (ci := 12) (C := RX12) (T := TX12) (N := 20) hx hb hts inlX12 hown hKW.1 hP 0 rfl rfl 2 (by decide) (hts _ wd_10_22) (fun _ h => h) rfl dX12_keep_67 ?_
      refine lv_imul hx hb dX12_keep_70 ?_
      refine k_top (y := 0) (by decide) ?_
      refine lv_iload_n hx hb dX12_keep_71 rfl (lv_at hl 1 rfl) ?_
      refine lv_iadd hx hb dX12_keep_72 ?_
      refine k_top (y := nI i) (Int32.zero_add _) ?_
      refine lv_aload_n hx hb dX12_keep_73 rfl (lv_at hl 0 rfl) ?_
      refine va_get (ci := 12) (C := RX12) (T := TX12) (N := 20) hx hb hts inlX12 hown hKW.1 hP 0 rfl rfl 0 (by decide) (hts _ wd_6_5) (fun _ h => h) rfl dX12_keep_74 ?_
      refine lv_iload_n hx hb dX12_keep_77 rfl (lv_at hl 1 rfl) ?_
      refine va_iald hx hb hKW.1 hP 1 0 rfl rfl (vp_in_nI (by omega) (by decide)) dX12_keep_78 ?_
      refine va_iast hx hb hKW.1 hP hD hS 2 0 rfl rfl (vp_in_nI (by omega) (by decide)) dX12_keep_79 (fun H locs hP hD hS => ?_)
      have hP : va_P g.1 vwCl [(z 0, .inr (12, [.ref (z 1), .ref (z 2), .int 0, .int 0, .ref (z 3), .ref (z 4), .ref (z 5), .ref (z 6), .int 0, .ref (z 7), .ref (z 8), .ref (z 9), .ref (z 10), .ref (z 11), .ref (z 12), .int 0, .ref (z 13), .ref (z 14), .int 0, .ref (z 15)])), (z 1, .inl (gI g, 461, .inl mD0)), (z 2, .inl (gI g, 7376, .inl (upd f (nI i).toNatClampNeg (mD0 (nI i).toNatClampNeg))))] H := hP
      have hD : va_D A [(z 0, .inr (12, [.ref (z 1), .ref (z 2), .int 0, .int 0, .ref (z 3), .ref (z 4), .ref (z 5), .ref (z 6), .int 0, .ref (z 7), .ref (z 8), .ref (z 9), .ref (z 10), .ref (z 11), .ref (z 12), .int 0, .ref (z 13), .ref (z 14), .int 0, .ref (z 15)])), (z 1, .inl (gI g, 461, .inl mD0)), (z 2, .inl (gI g, 7376, .inl (upd f (nI i).toNatClampNeg (mD0 (nI i).toNatClampNeg))))] := hD
      obtain ⟨f_2, ef_2⟩ : ∃ zz_ : Nat → Int32, zz_ = upd f (nI i).toNatClampNeg (mD0 (nI i).toNatClampNeg) := ⟨_, rfl⟩
      rw [← ef_2] at hP hD
      refine lv_iinc (v := nI (i + 1)) (lv' := [(1, .int (nI (i + 1))), (0, .ref (z 0))]) hx hb dX12_keep_80 hl (k := 1) rfl (by first | exact nI_1 _ | (simp [nI]; done)) (by decide) rfl (fun ls hl => ?_)
      refine lv_goto (tgt := 52) hx hb dX12_keep_83 (by decide) ?_
      exact ih (i + 1) f_2 (by omega) (by omega) _ _ (hP.sub [0, 1, 2] rfl) (hD.sub [0, 1, 2] (by decide) rfl) hS ls (lv_sub hl [1, 0] rfl)
set_option maxHeartbeats 4000000 in
set_option maxRecDepth 100000 in
theorem c_X12_keep0 (l : Launch) (g : kG) (sz : Nat) (z : Nat → Nat) : kMv l g yX12_keep cX12_keep 2 none 2 0 0 [.ref (z 0)] sz [(z 0, .inr (12, [.ref (z 1), .ref (z 2), .int 0, .int 0, .ref (z 3), .ref (z 4), .ref (z 5), .ref (z 6), .int 0, .ref (z 7), .ref (z 8), .ref (z 9), .ref (z 10), .ref (z 11), .ref (z 12), .int 0, .ref (z 13), .ref (z 14), .int 0, .ref (z 15)])), (z 1, .inl (gI g, 461, .inl mD0)), (z 2, .inl (gI g, 7376, .inl (fun _ => 0)))] (fun (u : Unit) => True) (fun (u : Unit) => ([(z 0, .inr (12, [.ref (z 1), .ref (z 2), .int 1, .int 0, .ref (z 3), .ref (z 4), .ref (z 5), .ref (z 6), .int 0, .ref (z 7), .ref (z 8), .ref (z 9), .ref (z 10), .ref (z 11), .ref (z 12), .int 0, .ref (z 13), .ref (z 14), .int 0, .ref (z 15)])), (z 1, .inl (gI g, 461, .inl mD0))] : va_W)) := by
  refine kMv.of (by decide) (Nat.le_of_ble_eq_true rfl) (fun p e s m below meth c A hx hb hr hml hown hts hlk hnm hKW hP hD hS hA ls hl => ?_)
  have hown : s.vm.findClass RX12 = some m.cls := hown
  have hl : lv_has ls 2 [(0, .ref (z 0))] := hl
  refine lv_aload_n hx hb dX12_keep_0 rfl (lv_at hl 0 rfl) ?_
  refine va_get (ci := 12) (C := RX12) (T := TX12) (N := 20) hx hb hts inlX12 hown hKW.1 hP 0 rfl rfl 2 (by decide) (hts _ wd_10_22) (fun _ h => h) rfl dX12_keep_1 ?_
  refine lv_bipush (v := 16) hx hb dX12_keep_4 (by decide) ?_
  refine lv_icmp_ne (tgt := 50) hx hb dX12_keep_6 (by decide) (fun _ => ?_) (fun c => absurd c (by decide))
  refine lv_iconst (v := 0) hx hb dX12_keep_50 (by decide) ?_
  refine lv_istore_n (lv' := [(1, .int 0), (0, .ref (z 0))]) hx hb dX12_keep_51 rfl hl (by decide) rfl (fun ls hl => ?_)
  exact c_X12_keep0_l52 l g z  hx hb hr hml hown hts hlk hnm hKW hA 462 0 (fun _ => 0) (by omega) (by omega) _ _ (hP.sub [0, 1, 2] rfl) (hD.sub [0, 1, 2] (by decide) rfl) hS ls (lv_sub hl [1, 0] rfl)
theorem dX12_room_0 : decode cX12_room 0 = .ok (.iload_n 1, 1) := by decide +kernel
theorem dX12_room_1 : decode cX12_room 1 = .ok (.ifCond .lt 39, 3) := by decide +kernel
theorem dX12_room_40 : decode cX12_room 40 = .ok (.aload_n 0, 1) := by decide +kernel
theorem dX12_room_41 : decode cX12_room 41 = .ok (.iconst 1, 1) := by decide +kernel
theorem dX12_room_42 : decode cX12_room 42 = .ok (.invokevirtual 68, 3) := by decide +kernel
theorem dX12_room_45 : decode cX12_room 45 = .ok (.ireturn, 1) := by decide +kernel
theorem dX12_room_4 : decode cX12_room 4 = .ok (.iload_n 1, 1) := by decide +kernel
theorem dX12_room_5 : decode cX12_room 5 = .ok (.bipush 100, 2) := by decide +kernel
theorem dX12_room_7 : decode cX12_room 7 = .ok (.idiv, 1) := by decide +kernel
theorem dX12_room_8 : decode cX12_room 8 = .ok (.iconst 0, 1) := by decide +kernel
theorem dX12_room_9 : decode cX12_room 9 = .ok (.bipush 71, 2) := by decide +kernel
theorem dX12_room_11 : decode cX12_room 11 = .ok (.invokestatic 64, 3) := by decide +kernel
theorem dX12_room_14 : decode cX12_room 14 = .ok (.ifCond .eq 26, 3) := by decide +kernel
theorem dX12_room_17 : decode cX12_room 17 = .ok (.iload_n 1, 1) := by decide +kernel
theorem dX12_room_18 : decode cX12_room 18 = .ok (.bipush 100, 2) := by decide +kernel
theorem dX12_room_20 : decode cX12_room 20 = .ok (.irem, 1) := by decide +kernel
theorem dX12_room_21 : decode cX12_room 21 = .ok (.iconst 0, 1) := by decide +kernel
theorem dX12_room_22 : decode cX12_room 22 = .ok (.bipush 71, 2) := by decide +kernel
theorem dX12_room_24 : decode cX12_room 24 = .ok (.invokestatic 64, 3) := by decide +kernel
theorem dX12_room_27 : decode cX12_room 27 = .ok (.ifCond .eq 13, 3) := by decide +kernel
theorem dX12_room_30 : decode cX12_room 30 = .ok (.iload_n 2, 1) := by decide +kernel
theorem dX12_room_31 : decode cX12_room 31 = .ok (.iconst 1, 1) := by decide +kernel
theorem dX12_room_32 : decode cX12_room 32 = .ok (.bipush 20, 2) := by decide +kernel
theorem dX12_room_34 : decode cX12_room 34 = .ok (.invokestatic 64, 3) := by decide +kernel
theorem dX12_room_37 : decode cX12_room 37 = .ok (.ifCond .ne 9, 3) := by decide +kernel
theorem dX12_room_46 : decode cX12_room 46 = .ok (.iload_n 1, 1) := by decide +kernel
theorem dX12_room_47 : decode cX12_room 47 = .ok (.bipush 100, 2) := by decide +kernel
theorem dX12_room_49 : decode cX12_room 49 = .ok (.idiv, 1) := by decide +kernel
theorem dX12_room_50 : decode cX12_room 50 = .ok (.iload_n 1, 1) := by decide +kernel
theorem dX12_room_51 : decode cX12_room 51 = .ok (.bipush 100, 2) := by decide +kernel
theorem dX12_room_53 : decode cX12_room 53 = .ok (.irem, 1) := by decide +kernel
theorem dX12_room_54 : decode cX12_room 54 = .ok (.if_icmp .le 9, 3) := by decide +kernel
theorem dX12_room_63 : decode cX12_room 63 = .ok (.aload_n 0, 1) := by decide +kernel
theorem dX12_room_64 : decode cX12_room 64 = .ok (.getfield 7, 3) := by decide +kernel
theorem dX12_room_67 : decode cX12_room 67 = .ok (.iconst 0, 1) := by decide +kernel
theorem dX12_room_68 : decode cX12_room 68 = .ok (.iaload, 1) := by decide +kernel
theorem dX12_room_69 : decode cX12_room 69 = .ok (.iconst 5, 1) := by decide +kernel
theorem dX12_room_70 : decode cX12_room 70 = .ok (.if_icmp .ne 9, 3) := by decide +kernel
theorem dX12_room_79 : decode cX12_room 79 = .ok (.aload_n 0, 1) := by decide +kernel
theorem dX12_room_80 : decode cX12_room 80 = .ok (.invokevirtual 72, 3) := by decide +kernel
theorem dX12_room_83 : decode cX12_room 83 = .ok (.aload_n 0, 1) := by decide +kernel
theorem dX12_room_84 : decode cX12_room 84 = .ok (.getfield 7, 3) := by decide +kernel
theorem dX12_room_87 : decode cX12_room 87 = .ok (.iconst 0, 1) := by decide +kernel
theorem dX12_room_88 : decode cX12_room 88 = .ok (.iaload, 1) := by decide +kernel
theorem dX12_room_89 : decode cX12_room 89 = .ok (.istore_n 3, 1) := by decide +kernel
theorem dX12_room_90 : decode cX12_room 90 = .ok (.aload_n 0, 1) := by decide +kernel
theorem dX12_room_91 : decode cX12_room 91 = .ok (.getfield 7, 3) := by decide +kernel
theorem dX12_room_94 : decode cX12_room 94 = .ok (.bipush 11, 2) := by decide +kernel
theorem dX12_room_96 : decode cX12_room 96 = .ok (.iload_n 3, 1) := by decide +kernel
theorem dX12_room_97 : decode cX12_room 97 = .ok (.iadd, 1) := by decide +kernel
theorem dX12_room_98 : decode cX12_room 98 = .ok (.iload_n 1, 1) := by decide +kernel
theorem dX12_room_99 : decode cX12_room 99 = .ok (.bipush 100, 2) := by decide +kernel
theorem dX12_room_101 : decode cX12_room 101 = .ok (.idiv, 1) := by decide +kernel
theorem dX12_room_102 : decode cX12_room 102 = .ok (.iastore, 1) := by decide +kernel
theorem dX12_room_103 : decode cX12_room 103 = .ok (.aload_n 0, 1) := by decide +kernel
theorem dX12_room_104 : decode cX12_room 104 = .ok (.getfield 7, 3) := by decide +kernel
theorem dX12_room_107 : decode cX12_room 107 = .ok (.bipush 16, 2) := by decide +kernel
theorem dX12_room_109 : decode cX12_room 109 = .ok (.iload_n 3, 1) := by decide +kernel
theorem dX12_room_110 : decode cX12_room 110 = .ok (.iadd, 1) := by decide +kernel
theorem dX12_room_111 : decode cX12_room 111 = .ok (.iload_n 1, 1) := by decide +kernel
theorem dX12_room_112 : decode cX12_room 112 = .ok (.bipush 100, 2) := by decide +kernel
theorem dX12_room_114 : decode cX12_room 114 = .ok (.irem, 1) := by decide +kernel
theorem dX12_room_115 : decode cX12_room 115 = .ok (.iastore, 1) := by decide +kernel
theorem dX12_room_116 : decode cX12_room 116 = .ok (.aload_n 0, 1) := by decide +kernel
theorem dX12_room_117 : decode cX12_room 117 = .ok (.getfield 7, 3) := by decide +kernel
theorem dX12_room_120 : decode cX12_room 120 = .ok (.bipush 21, 2) := by decide +kernel
theorem dX12_room_122 : decode cX12_room 122 = .ok (.iload_n 3, 1) := by decide +kernel
theorem dX12_room_123 : decode cX12_room 123 = .ok (.iadd, 1) := by decide +kernel
theorem dX12_room_124 : decode cX12_room 124 = .ok (.iload_n 2, 1) := by decide +kernel
theorem dX12_room_125 : decode cX12_room 125 = .ok (.iastore, 1) := by decide +kernel
theorem dX12_room_126 : decode cX12_room 126 = .ok (.aload_n 0, 1) := by decide +kernel
theorem dX12_room_127 : decode cX12_room 127 = .ok (.getfield 7, 3) := by decide +kernel
theorem dX12_room_130 : decode cX12_room 130 = .ok (.iconst 0, 1) := by decide +kernel
theorem dX12_room_131 : decode cX12_room 131 = .ok (.dup2, 1) := by decide +kernel
theorem dX12_room_132 : decode cX12_room 132 = .ok (.iaload, 1) := by decide +kernel
theorem dX12_room_133 : decode cX12_room 133 = .ok (.iconst 1, 1) := by decide +kernel
theorem dX12_room_134 : decode cX12_room 134 = .ok (.iadd, 1) := by decide +kernel
theorem dX12_room_135 : decode cX12_room 135 = .ok (.iastore, 1) := by decide +kernel
theorem dX12_room_136 : decode cX12_room 136 = .ok (.iload_n 3, 1) := by decide +kernel
theorem dX12_room_137 : decode cX12_room 137 = .ok (.ireturn, 1) := by decide +kernel
theorem dX12_room_57 : decode cX12_room 57 = .ok (.aload_n 0, 1) := by decide +kernel
theorem dX12_room_58 : decode cX12_room 58 = .ok (.iconst 3, 1) := by decide +kernel
theorem dX12_room_59 : decode cX12_room 59 = .ok (.invokevirtual 68, 3) := by decide +kernel
theorem dX12_room_62 : decode cX12_room 62 = .ok (.ireturn, 1) := by decide +kernel
set_option maxHeartbeats 4000000 in
set_option maxRecDepth 100000 in
theorem c_X12_room (l : Launch) (g : kG) (sz : Nat) (z : Nat → Nat) (ages : Int32) (pl : Int32) : kMi l g yX12_room cX12_room 4 (some .int) 6 0 0 [.ref (z 0), .int ages, .int pl] sz [(z 0, .inr (12, [.ref (z 1), .ref (z 2), .int 0, .int 0, .ref (z 3), .ref (z 4), .ref (z 5), .ref (z 6), .int 0, .ref (z 7), .ref (z 8), .ref (z 9), .ref (z 10), .ref (z 11), .ref (z 12), .int 0, .ref (z 13), .ref (z 14), .int 0, .ref (z 15)])), (z 1, .inl (gI g, 461, .inl mD0)), (z 2, .inl (gI g, 7376, .inl (fun _ => 0)))] (fun (r : Int32) (u : Unit) => r = aRoom ages (ages / 100) (ages - ages / 100 * 100) pl) (fun (u : Unit) => ([] : va_W)) := by
  refine kMi.of (by decide) (Nat.le_of_ble_eq_true rfl) (fun p e s m below meth c A hx hb hr hml hown hts hlk hnm hKW hP hD hS hA ls hl => ?_)
  have hown : s.vm.findClass RX12 = some m.cls := hown
  have hl : lv_has ls 4 [(0, .ref (z 0)), (1, .int ages), (2, .int pl)] := hl
  obtain ⟨fr, hfr⟩ : ∃ z : Int32, z = ages / 100 := ⟨_, rfl⟩; obtain ⟨tt, htt⟩ : ∃ z : Int32, z = ages - ages / 100 * 100 := ⟨_, rfl⟩; have hdv : ages.toInt < 0 ∨ (0 ≤ fr.toInt ∧ 0 ≤ tt.toInt) := by rw [hfr, htt]; exact k_dv
  refine lv_iload_n hx hb dX12_room_0 rfl (lv_at hl 1 rfl) ?_
  refine lv_if_lt (tgt := 40) hx hb dX12_room_1 (by decide) (fun c_1 => ?_) (fun c_1 => ?_)
  · refine lv_aload_n hx hb dX12_room_40 rfl (lv_at hl 0 rfl) ?_
    refine lv_iconst (v := 1) hx hb dX12_room_41 (by decide) ?_
    refine k_Vi [0] [1, 2] 0 12 (wr := [(z 1, .inl (gI g, 461, .inl mD0)), (z 2, .inl (gI g, 7376, .inl (fun _ => 0)))]) hx hb hml hown hts hKW hP hD hS hA hl.1 (c_X12_finding_1 l g _ (z 0) (z 1) (z 2) (z 3) (z 4) (z 5) (z 6) (z 7) (z 8) (z 9) (z 10) (z 11) (z 12) (z 13) (z 14) (z 15) 0 0 0 0 0 ) rfl rfl rfl wd_10_15 wd_1_5 wd_10_12 wd_10_13 wd_10_14 yd_X12_finding ⟨Nat.le_of_ble_eq_true rfl, Nat.le_of_ble_eq_true rfl⟩ rfl rfl rfl rfl rfl (by decide) rfl (Nat.le_of_ble_eq_true rfl) dX12_room_42 ⟨Nat.le_of_ble_eq_true rfl, Nat.le_of_ble_eq_true rfl⟩ (fun r_2 u_3 H locs hw_4 hP hD hS => ?_)
    have hP : va_P g.1 vwCl [(z 1, .inl (gI g, 461, .inl mD0)), (z 2, .inl (gI g, 7376, .inl (fun _ => 0)))] H := hP
    have hD : va_D A [(z 1, .inl (gI g, 461, .inl mD0)), (z 2, .inl (gI g, 7376, .inl (fun _ => 0)))] := hD
    have hw_4 : r_2 = (-100001) := hw_4
    subst hw_4
    exact k_iret () [] hx hb hr hlk hP hD hS (by clear hP hD hS hA hts hKW hl; rw [← htt, ← hfr]; clear htt hfr; unfold aRoom; (repeat' split) <;> first | rfl | (exfalso; first | omega | (simp only [Int32.lt_iff_toInt_lt, Int32.le_iff_toInt_le, ← Int32.toInt_inj] at *; omega) | (simp only [Int32.lt_iff_toInt_lt, Int32.le_iff_toInt_le, ← Int32.toInt_inj] at *; simp at *; omega) | (simp only [Int32.lt_iff_toInt_lt, Int32.le_iff_toInt_le, ← Int32.toInt_inj] at *; simp at *; done) | (simp at *; omega) | (simp at *; done))) rfl rfl rfl (Nat.le_of_ble_eq_true rfl) (Nat.le_of_ble_eq_true rfl) dX12_room_45
  · refine lv_iload_n hx hb dX12_room_4 rfl (lv_at hl 1 rfl) ?_
    refine lv_bipush (v := 100) hx hb dX12_room_5 (by decide) ?_
    refine lv_idiv hx hb dX12_room_7 (by decide) ?_
    refine k_top (y := fr) hfr.symm ?_
    refine lv_iconst (v := 0) hx hb dX12_room_8 (by decide) ?_
    refine lv_bipush (v := 71) hx hb dX12_room_9 (by decide) ?_
    refine k_Si [] [0, 1, 2] (wr := [(z 0, .inr (12, [.ref (z 1), .ref (z 2), .int 0, .int 0, .ref (z 3), .ref (z 4), .ref (z 5), .ref (z 6), .int 0, .ref (z 7), .ref (z 8), .ref (z 9), .ref (z 10), .ref (z 11), .ref (z 12), .int 0, .ref (z 13), .ref (z 14), .int 0, .ref (z 15)])), (z 1, .inl (gI g, 461, .inl mD0)), (z 2, .inl (gI g, 7376, .inl (fun _ => 0)))]) hx hb hml hown hts hKW hP hD hS hA hl.1 (c_X12_isIn l g _ fr 0 71 ) wd_10_11 wd_1_5 wd_10_9 wd_10_10 yd_X12_isIn ⟨Nat.le_of_ble_eq_true rfl, Nat.le_of_ble_eq_true rfl⟩ rfl rfl rfl rfl rfl (by decide) rfl (Nat.le_of_ble_eq_true rfl) dX12_room_11 ⟨Nat.le_of_ble_eq_true rfl, Nat.le_of_ble_eq_true rfl⟩ (fun r_5 u_6 H locs hw_7 hP hD hS => ?_)
    have hP : va_P g.1 vwCl [(z 0, .inr (12, [.ref (z 1), .ref (z 2), .int 0, .int 0, .ref (z 3), .ref (z 4), .ref (z 5), .ref (z 6), .int 0, .ref (z 7), .ref (z 8), .ref (z 9), .ref (z 10), .ref (z 11), .ref (z 12), .int 0, .ref (z 13), .ref (z 14), .int 0, .ref (z 15)])), (z 1, .inl (gI g, 461, .inl mD0)), (z 2, .inl (gI g, 7376, .inl (fun _ => 0)))] H := hP
    have hD : va_D A [(z 0, .inr (12, [.ref (z 1), .ref (z 2), .int 0, .int 0, .ref (z 3), .ref (z 4), .ref (z 5), .ref (z 6), .int 0, .ref (z 7), .ref (z 8), .ref (z 9), .ref (z 10), .ref (z 11), .ref (z 12), .int 0, .ref (z 13), .ref (z 14), .int 0, .ref (z 15)])), (z 1, .inl (gI g, 461, .inl mD0)), (z 2, .inl (gI g, 7376, .inl (fun _ => 0)))] := hD
    rcases (show (r_5 = 1 ∧ (Int32.toInt 0 ≤ Int32.toInt fr ∧ Int32.toInt fr ≤ Int32.toInt 71)) ∨ (r_5 = 0 ∧ ¬ (Int32.toInt 0 ≤ Int32.toInt fr ∧ Int32.toInt fr ≤ Int32.toInt 71)) from hw_7) with ⟨rfl, hw_7b⟩ | ⟨rfl, hw_7b⟩ <;> clear hw_7
    · refine lv_if_eq (tgt := 40) hx hb dX12_room_14 (by decide) (fun c => absurd c (by decide)) (fun _ => ?_)
      refine lv_iload_n hx hb dX12_room_17 rfl (lv_at hl 1 rfl) ?_
      refine lv_bipush (v := 100) hx hb dX12_room_18 (by decide) ?_
      refine lv_irem hx hb dX12_room_20 (by decide) ?_
      refine k_top (y := tt) htt.symm ?_
      refine lv_iconst (v := 0) hx hb dX12_room_21 (by decide) ?_
      refine lv_bipush (v := 71) hx hb dX12_room_22 (by decide) ?_
      refine k_Si [] [0, 1, 2] (wr := [(z 0, .inr (12, [.ref (z 1), .ref (z 2), .int 0, .int 0, .ref (z 3), .ref (z 4), .ref (z 5), .ref (z 6), .int 0, .ref (z 7), .ref (z 8), .ref (z 9), .ref (z 10), .ref (z 11), .ref (z 12), .int 0, .ref (z 13), .ref (z 14), .int 0, .ref (z 15)])), (z 1, .inl (gI g, 461, .inl mD0)), (z 2, .inl (gI g, 7376, .inl (fun _ => 0)))]) hx hb hml hown hts hKW hP hD hS hA hl.1 (c_X12_isIn l g _ tt 0 71 ) wd_10_11 wd_1_5 wd_10_9 wd_10_10 yd_X12_isIn ⟨Nat.le_of_ble_eq_true rfl, Nat.le_of_ble_eq_true rfl⟩ rfl rfl rfl rfl rfl (by decide) rfl (Nat.le_of_ble_eq_true rfl) dX12_room_24 ⟨Nat.le_of_ble_eq_true rfl, Nat.le_of_ble_eq_true rfl⟩ (fun r_8 u_9 H locs hw_10 hP hD hS => ?_)
      have hP : va_P g.1 vwCl [(z 0, .inr (12, [.ref (z 1), .ref (z 2), .int 0, .int 0, .ref (z 3), .ref (z 4), .ref (z 5), .ref (z 6), .int 0, .ref (z 7), .ref (z 8), .ref (z 9), .ref (z 10), .ref (z 11), .ref (z 12), .int 0, .ref (z 13), .ref (z 14), .int 0, .ref (z 15)])), (z 1, .inl (gI g, 461, .inl mD0)), (z 2, .inl (gI g, 7376, .inl (fun _ => 0)))] H := hP
      have hD : va_D A [(z 0, .inr (12, [.ref (z 1), .ref (z 2), .int 0, .int 0, .ref (z 3), .ref (z 4), .ref (z 5), .ref (z 6), .int 0, .ref (z 7), .ref (z 8), .ref (z 9), .ref (z 10), .ref (z 11), .ref (z 12), .int 0, .ref (z 13), .ref (z 14), .int 0, .ref (z 15)])), (z 1, .inl (gI g, 461, .inl mD0)), (z 2, .inl (gI g, 7376, .inl (fun _ => 0)))] := hD
      rcases (show (r_8 = 1 ∧ (Int32.toInt 0 ≤ Int32.toInt tt ∧ Int32.toInt tt ≤ Int32.toInt 71)) ∨ (r_8 = 0 ∧ ¬ (Int32.toInt 0 ≤ Int32.toInt tt ∧ Int32.toInt tt ≤ Int32.toInt 71)) from hw_10) with ⟨rfl, hw_10b⟩ | ⟨rfl, hw_10b⟩ <;> clear hw_10
      · refine lv_if_eq (tgt := 40) hx hb dX12_room_27 (by decide) (fun c => absurd c (by decide)) (fun _ => ?_)
        refine lv_iload_n hx hb dX12_room_30 rfl (lv_at hl 2 rfl) ?_
        refine lv_iconst (v := 1) hx hb dX12_room_31 (by decide) ?_
        refine lv_bipush (v := 20) hx hb dX12_room_32 (by decide) ?_
        refine k_Si [] [0, 1, 2] (wr := [(z 0, .inr (12, [.ref (z 1), .ref (z 2), .int 0, .int 0, .ref (z 3), .ref (z 4), .ref (z 5), .ref (z 6), .int 0, .ref (z 7), .ref (z 8), .ref (z 9), .ref (z 10), .ref (z 11), .ref (z 12), .int 0, .ref (z 13), .ref (z 14), .int 0, .ref (z 15)])), (z 1, .inl (gI g, 461, .inl mD0)), (z 2, .inl (gI g, 7376, .inl (fun _ => 0)))]) hx hb hml hown hts hKW hP hD hS hA hl.1 (c_X12_isIn l g _ pl 1 20 ) wd_10_11 wd_1_5 wd_10_9 wd_10_10 yd_X12_isIn ⟨Nat.le_of_ble_eq_true rfl, Nat.le_of_ble_eq_true rfl⟩ rfl rfl rfl rfl rfl (by decide) rfl (Nat.le_of_ble_eq_true rfl) dX12_room_34 ⟨Nat.le_of_ble_eq_true rfl, Nat.le_of_ble_eq_true rfl⟩ (fun r_11 u_12 H locs hw_13 hP hD hS => ?_)
        have hP : va_P g.1 vwCl [(z 0, .inr (12, [.ref (z 1), .ref (z 2), .int 0, .int 0, .ref (z 3), .ref (z 4), .ref (z 5), .ref (z 6), .int 0, .ref (z 7), .ref (z 8), .ref (z 9), .ref (z 10), .ref (z 11), .ref (z 12), .int 0, .ref (z 13), .ref (z 14), .int 0, .ref (z 15)])), (z 1, .inl (gI g, 461, .inl mD0)), (z 2, .inl (gI g, 7376, .inl (fun _ => 0)))] H := hP
        have hD : va_D A [(z 0, .inr (12, [.ref (z 1), .ref (z 2), .int 0, .int 0, .ref (z 3), .ref (z 4), .ref (z 5), .ref (z 6), .int 0, .ref (z 7), .ref (z 8), .ref (z 9), .ref (z 10), .ref (z 11), .ref (z 12), .int 0, .ref (z 13), .ref (z 14), .int 0, .ref (z 15)])), (z 1, .inl (gI g, 461, .inl mD0)), (z 2, .inl (gI g, 7376, .inl (fun _ => 0)))] := hD
        rcases (show (r_11 = 1 ∧ (Int32.toInt 1 ≤ Int32.toInt pl ∧ Int32.toInt pl ≤ Int32.toInt 20)) ∨ (r_11 = 0 ∧ ¬ (Int32.toInt 1 ≤ Int32.toInt pl ∧ Int32.toInt pl ≤ Int32.toInt 20)) from hw_13) with ⟨rfl, hw_13b⟩ | ⟨rfl, hw_13b⟩ <;> clear hw_13
        · refine lv_if_ne (tgt := 46) hx hb dX12_room_37 (by decide) (fun _ => ?_) (fun c => absurd c (by decide))
          refine lv_iload_n hx hb dX12_room_46 rfl (lv_at hl 1 rfl) ?_
          refine lv_bipush (v := 100) hx hb dX12_room_47 (by decide) ?_
          refine lv_idiv hx hb dX12_room_49 (by decide) ?_
          refine k_top (y := fr) hfr.symm ?_
          refine lv_iload_n hx hb dX12_room_50 rfl (lv_at hl 1 rfl) ?_
          refine lv_bipush (v := 100) hx hb dX12_room_51 (by decide) ?_
          refine lv_irem hx hb dX12_room_53 (by decide) ?_
          refine k_top (y := tt) htt.symm ?_
          refine lv_icmp_le (tgt := 63) hx hb dX12_room_54 (by decide) (fun c_14 => ?_) (fun c_14 => ?_)
          · refine lv_aload_n hx hb dX12_room_63 rfl (lv_at hl 0 rfl) ?_
            refine va_get (ci := 12) (C := RX12) (T := TX12) (N := 20) hx hb hts inlX12 hown hKW.1 hP 0 rfl rfl 0 (by decide) (hts _ wd_6_5) (fun _ h => h) rfl dX12_room_64 ?_
            refine lv_iconst (v := 0) hx hb dX12_room_67 (by decide) ?_
            refine va_iald hx hb hKW.1 hP 1 0 rfl rfl (show ¬ _ by decide) dX12_room_68 ?_
            refine k_top (y := 0) rfl ?_
            refine lv_iconst (v := 5) hx hb dX12_room_69 (by decide) ?_
            refine lv_icmp_ne (tgt := 79) hx hb dX12_room_70 (by decide) (fun _ => ?_) (fun c => absurd c (by decide))
            refine lv_aload_n hx hb dX12_room_79 rfl (lv_at hl 0 rfl) ?_
            refine k_Vv [0, 1, 2] [] 0 12 (wr := []) hx hb hml hown hts hKW hP hD hS hA hl.1 (c_X12_keep0 l g _ z ) rfl rfl rfl wd_10_21 wd_1_5 wd_10_18 wd_10_19 wd_10_20 yd_X12_keep ⟨Nat.le_of_ble_eq_true rfl, Nat.le_of_ble_eq_true rfl⟩ rfl rfl rfl rfl rfl (by decide) rfl (Nat.le_of_ble_eq_true rfl) dX12_room_80 ⟨Nat.le_of_ble_eq_true rfl, Nat.le_of_ble_eq_true rfl⟩ (fun u_16 H locs hw_17 hP hD hS => ?_)
            have hP : va_P g.1 vwCl [(z 0, .inr (12, [.ref (z 1), .ref (z 2), .int 1, .int 0, .ref (z 3), .ref (z 4), .ref (z 5), .ref (z 6), .int 0, .ref (z 7), .ref (z 8), .ref (z 9), .ref (z 10), .ref (z 11), .ref (z 12), .int 0, .ref (z 13), .ref (z 14), .int 0, .ref (z 15)])), (z 1, .inl (gI g, 461, .inl mD0))] H := hP
            have hD : va_D A [(z 0, .inr (12, [.ref (z 1), .ref (z 2), .int 1, .int 0, .ref (z 3), .ref (z 4), .ref (z 5), .ref (z 6), .int 0, .ref (z 7), .ref (z 8), .ref (z 9), .ref (z 10), .ref (z 11), .ref (z 12), .int 0, .ref (z 13), .ref (z 14), .int 0, .ref (z 15)])), (z 1, .inl (gI g, 461, .inl mD0))] := hD
            refine lv_aload_n hx hb dX12_room_83 rfl (lv_at hl 0 rfl) ?_
            refine va_get (ci := 12) (C := RX12) (T := TX12) (N := 20) hx hb hts inlX12 hown hKW.1 hP 0 rfl rfl 0 (by decide) (hts _ wd_6_5) (fun _ h => h) rfl dX12_room_84 ?_
            refine lv_iconst (v := 0) hx hb dX12_room_87 (by decide) ?_
            refine va_iald hx hb hKW.1 hP 1 0 rfl rfl (show ¬ _ by decide) dX12_room_88 ?_
            refine k_top (y := 0) rfl ?_
            refine lv_istore_n (lv' := [(3, .int 0), (0, .ref (z 0)), (1, .int ages), (2, .int pl)]) hx hb dX12_room_89 rfl hl (by decide) rfl (fun ls hl => ?_)
            refine lv_aload_n hx hb dX12_room_90 rfl (lv_at hl 1 rfl) ?_
            refine va_get (ci := 12) (C := RX12) (T := TX12) (N := 20) hx hb hts inlX12 hown hKW.1 hP 0 rfl rfl 0 (by decide) (hts _ wd_6_5) (fun _ h => h) rfl dX12_room_91 ?_
            refine lv_bipush (v := 11) hx hb dX12_room_94 (by decide) ?_
            refine lv_iload_n hx hb dX12_room_96 rfl (lv_at hl 0 rfl) ?_
            refine lv_iadd hx hb dX12_room_97 ?_
            refine k_top (y := 11) (by decide) ?_
            refine lv_iload_n hx hb dX12_room_98 rfl (lv_at hl 2 rfl) ?_
            refine lv_bipush (v := 100) hx hb dX12_room_99 (by decide) ?_
            refine lv_idiv hx hb dX12_room_101 (by decide) ?_
            refine k_top (y := fr) hfr.symm ?_
            refine va_iast hx hb hKW.1 hP hD hS 1 0 rfl rfl (show ¬ _ by decide) dX12_room_102 (fun H locs hP hD hS => ?_)
            have hP : va_P g.1 vwCl [(z 0, .inr (12, [.ref (z 1), .ref (z 2), .int 1, .int 0, .ref (z 3), .ref (z 4), .ref (z 5), .ref (z 6), .int 0, .ref (z 7), .ref (z 8), .ref (z 9), .ref (z 10), .ref (z 11), .ref (z 12), .int 0, .ref (z 13), .ref (z 14), .int 0, .ref (z 15)])), (z 1, .inl (gI g, 461, .inl (upd mD0 11 fr)))] H := hP
            have hD : va_D A [(z 0, .inr (12, [.ref (z 1), .ref (z 2), .int 1, .int 0, .ref (z 3), .ref (z 4), .ref (z 5), .ref (z 6), .int 0, .ref (z 7), .ref (z 8), .ref (z 9), .ref (z 10), .ref (z 11), .ref (z 12), .int 0, .ref (z 13), .ref (z 14), .int 0, .ref (z 15)])), (z 1, .inl (gI g, 461, .inl (upd mD0 11 fr)))] := hD
            obtain ⟨f_18, ef_18⟩ : ∃ zz_ : Nat → Int32, zz_ = upd mD0 11 fr := ⟨_, rfl⟩
            rw [← ef_18] at hP hD
            refine lv_aload_n hx hb dX12_room_103 rfl (lv_at hl 1 rfl) ?_
            refine va_get (ci := 12) (C := RX12) (T := TX12) (N := 20) hx hb hts inlX12 hown hKW.1 hP 0 rfl rfl 0 (by decide) (hts _ wd_6_5) (fun _ h => h) rfl dX12_room_104 ?_
            refine lv_bipush (v := 16) hx hb dX12_room_107 (by decide) ?_
            refine lv_iload_n hx hb dX12_room_109 rfl (lv_at hl 0 rfl) ?_
            refine lv_iadd hx hb dX12_room_110 ?_
            refine k_top (y := 16) (by decide) ?_
            refine lv_iload_n hx hb dX12_room_111 rfl (lv_at hl 2 rfl) ?_
            refine lv_bipush (v := 100) hx hb dX12_room_112 (by decide) ?_
            refine lv_irem hx hb dX12_room_114 (by decide) ?_
            refine k_top (y := tt) htt.symm ?_
            refine va_iast hx hb hKW.1 hP hD hS 1 0 rfl rfl (show ¬ _ by decide) dX12_room_115 (fun H locs hP hD hS => ?_)
            have hP : va_P g.1 vwCl [(z 0, .inr (12, [.ref (z 1), .ref (z 2), .int 1, .int 0, .ref (z 3), .ref (z 4), .ref (z 5), .ref (z 6), .int 0, .ref (z 7), .ref (z 8), .ref (z 9), .ref (z 10), .ref (z 11), .ref (z 12), .int 0, .ref (z 13), .ref (z 14), .int 0, .ref (z 15)])), (z 1, .inl (gI g, 461, .inl (upd f_18 16 tt)))] H := hP
            have hD : va_D A [(z 0, .inr (12, [.ref (z 1), .ref (z 2), .int 1, .int 0, .ref (z 3), .ref (z 4), .ref (z 5), .ref (z 6), .int 0, .ref (z 7), .ref (z 8), .ref (z 9), .ref (z 10), .ref (z 11), .ref (z 12), .int 0, .ref (z 13), .ref (z 14), .int 0, .ref (z 15)])), (z 1, .inl (gI g, 461, .inl (upd f_18 16 tt)))] := hD
            obtain ⟨f_19, ef_19⟩ : ∃ zz_ : Nat → Int32, zz_ = upd f_18 16 tt := ⟨_, rfl⟩
            rw [← ef_19] at hP hD
            refine lv_aload_n hx hb dX12_room_116 rfl (lv_at hl 1 rfl) ?_
            refine va_get (ci := 12) (C := RX12) (T := TX12) (N := 20) hx hb hts inlX12 hown hKW.1 hP 0 rfl rfl 0 (by decide) (hts _ wd_6_5) (fun _ h => h) rfl dX12_room_117 ?_
            refine lv_bipush (v := 21) hx hb dX12_room_120 (by decide) ?_
            refine lv_iload_n hx hb dX12_room_122 rfl (lv_at hl 0 rfl) ?_
            refine lv_iadd hx hb dX12_room_123 ?_
            refine k_top (y := 21) (by decide) ?_
            refine lv_iload_n hx hb dX12_room_124 rfl (lv_at hl 3 rfl) ?_
            refine va_iast hx hb hKW.1 hP hD hS 1 0 rfl rfl (show ¬ _ by decide) dX12_room_125 (fun H locs hP hD hS => ?_)
            have hP : va_P g.1 vwCl [(z 0, .inr (12, [.ref (z 1), .ref (z 2), .int 1, .int 0, .ref (z 3), .ref (z 4), .ref (z 5), .ref (z 6), .int 0, .ref (z 7), .ref (z 8), .ref (z 9), .ref (z 10), .ref (z 11), .ref (z 12), .int 0, .ref (z 13), .ref (z 14), .int 0, .ref (z 15)])), (z 1, .inl (gI g, 461, .inl (upd f_19 21 pl)))] H := hP
            have hD : va_D A [(z 0, .inr (12, [.ref (z 1), .ref (z 2), .int 1, .int 0, .ref (z 3), .ref (z 4), .ref (z 5), .ref (z 6), .int 0, .ref (z 7), .ref (z 8), .ref (z 9), .ref (z 10), .ref (z 11), .ref (z 12), .int 0, .ref (z 13), .ref (z 14), .int 0, .ref (z 15)])), (z 1, .inl (gI g, 461, .inl (upd f_19 21 pl)))] := hD
            obtain ⟨f_20, ef_20⟩ : ∃ zz_ : Nat → Int32, zz_ = upd f_19 21 pl := ⟨_, rfl⟩
            rw [← ef_20] at hP hD
            refine lv_aload_n hx hb dX12_room_126 rfl (lv_at hl 1 rfl) ?_
            refine va_get (ci := 12) (C := RX12) (T := TX12) (N := 20) hx hb hts inlX12 hown hKW.1 hP 0 rfl rfl 0 (by decide) (hts _ wd_6_5) (fun _ h => h) rfl dX12_room_127 ?_
            refine lv_iconst (v := 0) hx hb dX12_room_130 (by decide) ?_
            refine lv_dup2_11 hx hb dX12_room_131 rfl rfl ?_
            refine va_iald hx hb hKW.1 hP 1 0 rfl rfl (show ¬ _ by decide) dX12_room_132 ?_
            refine k_top (y := f_20 0) rfl ?_
            refine lv_iconst (v := 1) hx hb dX12_room_133 (by decide) ?_
            refine lv_iadd hx hb dX12_room_134 ?_
            refine va_iast hx hb hKW.1 hP hD hS 1 0 rfl rfl (show ¬ _ by decide) dX12_room_135 (fun H locs hP hD hS => ?_)
            have hP : va_P g.1 vwCl [(z 0, .inr (12, [.ref (z 1), .ref (z 2), .int 1, .int 0, .ref (z 3), .ref (z 4), .ref (z 5), .ref (z 6), .int 0, .ref (z 7), .ref (z 8), .ref (z 9), .ref (z 10), .ref (z 11), .ref (z 12), .int 0, .ref (z 13), .ref (z 14), .int 0, .ref (z 15)])), (z 1, .inl (gI g, 461, .inl (upd f_20 0 ((f_20 0) + 1))))] H := hP
            have hD : va_D A [(z 0, .inr (12, [.ref (z 1), .ref (z 2), .int 1, .int 0, .ref (z 3), .ref (z 4), .ref (z 5), .ref (z 6), .int 0, .ref (z 7), .ref (z 8), .ref (z 9), .ref (z 10), .ref (z 11), .ref (z 12), .int 0, .ref (z 13), .ref (z 14), .int 0, .ref (z 15)])), (z 1, .inl (gI g, 461, .inl (upd f_20 0 ((f_20 0) + 1))))] := hD
            obtain ⟨f_21, ef_21⟩ : ∃ zz_ : Nat → Int32, zz_ = upd f_20 0 ((f_20 0) + 1) := ⟨_, rfl⟩
            rw [← ef_21] at hP hD
            refine lv_iload_n hx hb dX12_room_136 rfl (lv_at hl 0 rfl) ?_
            exact k_iret () [] hx hb hr hlk hP hD hS (by clear hP hD hS hA hts hKW hl; rw [← htt, ← hfr]; clear htt hfr; unfold aRoom; (repeat' split) <;> first | rfl | (exfalso; first | omega | (simp only [Int32.lt_iff_toInt_lt, Int32.le_iff_toInt_le, ← Int32.toInt_inj] at *; omega) | (simp only [Int32.lt_iff_toInt_lt, Int32.le_iff_toInt_le, ← Int32.toInt_inj] at *; simp at *; omega) | (simp only [Int32.lt_iff_toInt_lt, Int32.le_iff_toInt_le, ← Int32.toInt_inj] at *; simp at *; done) | (simp at *; omega) | (simp at *; done))) rfl rfl rfl (Nat.le_of_ble_eq_true rfl) (Nat.le_of_ble_eq_true rfl) dX12_room_137
          · refine lv_aload_n hx hb dX12_room_57 rfl (lv_at hl 0 rfl) ?_
            refine lv_iconst (v := 3) hx hb dX12_room_58 (by decide) ?_
            refine k_Vi [0] [1, 2] 0 12 (wr := [(z 1, .inl (gI g, 461, .inl mD0)), (z 2, .inl (gI g, 7376, .inl (fun _ => 0)))]) hx hb hml hown hts hKW hP hD hS hA hl.1 (c_X12_finding_3 l g _ (z 0) (z 1) (z 2) (z 3) (z 4) (z 5) (z 6) (z 7) (z 8) (z 9) (z 10) (z 11) (z 12) (z 13) (z 14) (z 15) 0 0 0 0 0 ) rfl rfl rfl wd_10_15 wd_1_5 wd_10_12 wd_10_13 wd_10_14 yd_X12_finding ⟨Nat.le_of_ble_eq_true rfl, Nat.le_of_ble_eq_true rfl⟩ rfl rfl rfl rfl rfl (by decide) rfl (Nat.le_of_ble_eq_true rfl) dX12_room_59 ⟨Nat.le_of_ble_eq_true rfl, Nat.le_of_ble_eq_true rfl⟩ (fun r_22 u_23 H locs hw_24 hP hD hS => ?_)
            have hP : va_P g.1 vwCl [(z 1, .inl (gI g, 461, .inl mD0)), (z 2, .inl (gI g, 7376, .inl (fun _ => 0)))] H := hP
            have hD : va_D A [(z 1, .inl (gI g, 461, .inl mD0)), (z 2, .inl (gI g, 7376, .inl (fun _ => 0)))] := hD
            have hw_24 : r_22 = (-100003) := hw_24
            subst hw_24
            exact k_iret () [] hx hb hr hlk hP hD hS (by clear hP hD hS hA hts hKW hl; rw [← htt, ← hfr]; clear htt hfr; unfold aRoom; (repeat' split) <;> first | rfl | (exfalso; first | omega | (simp only [Int32.lt_iff_toInt_lt, Int32.le_iff_toInt_le, ← Int32.toInt_inj] at *; omega) | (simp only [Int32.lt_iff_toInt_lt, Int32.le_iff_toInt_le, ← Int32.toInt_inj] at *; simp at *; omega) | (simp only [Int32.lt_iff_toInt_lt, Int32.le_iff_toInt_le, ← Int32.toInt_inj] at *; simp at *; done) | (simp at *; omega) | (simp at *; done))) rfl rfl rfl (Nat.le_of_ble_eq_true rfl) (Nat.le_of_ble_eq_true rfl) dX12_room_62
        · refine lv_if_ne (tgt := 46) hx hb dX12_room_37 (by decide) (fun c => absurd c (by decide)) (fun _ => ?_)
          refine lv_aload_n hx hb dX12_room_40 rfl (lv_at hl 0 rfl) ?_
          refine lv_iconst (v := 1) hx hb dX12_room_41 (by decide) ?_
          refine k_Vi [0] [1, 2] 0 12 (wr := [(z 1, .inl (gI g, 461, .inl mD0)), (z 2, .inl (gI g, 7376, .inl (fun _ => 0)))]) hx hb hml hown hts hKW hP hD hS hA hl.1 (c_X12_finding_1 l g _ (z 0) (z 1) (z 2) (z 3) (z 4) (z 5) (z 6) (z 7) (z 8) (z 9) (z 10) (z 11) (z 12) (z 13) (z 14) (z 15) 0 0 0 0 0 ) rfl rfl rfl wd_10_15 wd_1_5 wd_10_12 wd_10_13 wd_10_14 yd_X12_finding ⟨Nat.le_of_ble_eq_true rfl, Nat.le_of_ble_eq_true rfl⟩ rfl rfl rfl rfl rfl (by decide) rfl (Nat.le_of_ble_eq_true rfl) dX12_room_42 ⟨Nat.le_of_ble_eq_true rfl, Nat.le_of_ble_eq_true rfl⟩ (fun r_25 u_26 H locs hw_27 hP hD hS => ?_)
          have hP : va_P g.1 vwCl [(z 1, .inl (gI g, 461, .inl mD0)), (z 2, .inl (gI g, 7376, .inl (fun _ => 0)))] H := hP
          have hD : va_D A [(z 1, .inl (gI g, 461, .inl mD0)), (z 2, .inl (gI g, 7376, .inl (fun _ => 0)))] := hD
          have hw_27 : r_25 = (-100001) := hw_27
          subst hw_27
          exact k_iret () [] hx hb hr hlk hP hD hS (by clear hP hD hS hA hts hKW hl; rw [← htt, ← hfr]; clear htt hfr; unfold aRoom; (repeat' split) <;> first | rfl | (exfalso; first | omega | (simp only [Int32.lt_iff_toInt_lt, Int32.le_iff_toInt_le, ← Int32.toInt_inj] at *; omega) | (simp only [Int32.lt_iff_toInt_lt, Int32.le_iff_toInt_le, ← Int32.toInt_inj] at *; simp at *; omega) | (simp only [Int32.lt_iff_toInt_lt, Int32.le_iff_toInt_le, ← Int32.toInt_inj] at *; simp at *; done) | (simp at *; omega) | (simp at *; done))) rfl rfl rfl (Nat.le_of_ble_eq_true rfl) (Nat.le_of_ble_eq_true rfl) dX12_room_45
      · refine lv_if_eq (tgt := 40) hx hb dX12_room_27 (by decide) (fun _ => ?_) (fun c => absurd c (by decide))
        refine lv_aload_n hx hb dX12_room_40 rfl (lv_at hl 0 rfl) ?_
        refine lv_iconst (v := 1) hx hb dX12_room_41 (by decide) ?_
        refine k_Vi [0] [1, 2] 0 12 (wr := [(z 1, .inl (gI g, 461, .inl mD0)), (z 2, .inl (gI g, 7376, .inl (fun _ => 0)))]) hx hb hml hown hts hKW hP hD hS hA hl.1 (c_X12_finding_1 l g _ (z 0) (z 1) (z 2) (z 3) (z 4) (z 5) (z 6) (z 7) (z 8) (z 9) (z 10) (z 11) (z 12) (z 13) (z 14) (z 15) 0 0 0 0 0 ) rfl rfl rfl wd_10_15 wd_1_5 wd_10_12 wd_10_13 wd_10_14 yd_X12_finding ⟨Nat.le_of_ble_eq_true rfl, Nat.le_of_ble_eq_true rfl⟩ rfl rfl rfl rfl rfl (by decide) rfl (Nat.le_of_ble_eq_true rfl) dX12_room_42 ⟨Nat.le_of_ble_eq_true rfl, Nat.le_of_ble_eq_true rfl⟩ (fun r_28 u_29 H locs hw_30 hP hD hS => ?_)
        have hP : va_P g.1 vwCl [(z 1, .inl (gI g, 461, .inl mD0)), (z 2, .inl (gI g, 7376, .inl (fun _ => 0)))] H := hP
        have hD : va_D A [(z 1, .inl (gI g, 461, .inl mD0)), (z 2, .inl (gI g, 7376, .inl (fun _ => 0)))] := hD
        have hw_30 : r_28 = (-100001) := hw_30
        subst hw_30
        exact k_iret () [] hx hb hr hlk hP hD hS (by clear hP hD hS hA hts hKW hl; rw [← htt, ← hfr]; clear htt hfr; unfold aRoom; (repeat' split) <;> first | rfl | (exfalso; first | omega | (simp only [Int32.lt_iff_toInt_lt, Int32.le_iff_toInt_le, ← Int32.toInt_inj] at *; omega) | (simp only [Int32.lt_iff_toInt_lt, Int32.le_iff_toInt_le, ← Int32.toInt_inj] at *; simp at *; omega) | (simp only [Int32.lt_iff_toInt_lt, Int32.le_iff_toInt_le, ← Int32.toInt_inj] at *; simp at *; done) | (simp at *; omega) | (simp at *; done))) rfl rfl rfl (Nat.le_of_ble_eq_true rfl) (Nat.le_of_ble_eq_true rfl) dX12_room_45
    · refine lv_if_eq (tgt := 40) hx hb dX12_room_14 (by decide) (fun _ => ?_) (fun c => absurd c (by decide))
      refine lv_aload_n hx hb dX12_room_40 rfl (lv_at hl 0 rfl) ?_
      refine lv_iconst (v := 1) hx hb dX12_room_41 (by decide) ?_
      refine k_Vi [0] [1, 2] 0 12 (wr := [(z 1, .inl (gI g, 461, .inl mD0)), (z 2, .inl (gI g, 7376, .inl (fun _ => 0)))]) hx hb hml hown hts hKW hP hD hS hA hl.1 (c_X12_finding_1 l g _ (z 0) (z 1) (z 2) (z 3) (z 4) (z 5) (z 6) (z 7) (z 8) (z 9) (z 10) (z 11) (z 12) (z 13) (z 14) (z 15) 0 0 0 0 0 ) rfl rfl rfl wd_10_15 wd_1_5 wd_10_12 wd_10_13 wd_10_14 yd_X12_finding ⟨Nat.le_of_ble_eq_true rfl, Nat.le_of_ble_eq_true rfl⟩ rfl rfl rfl rfl rfl (by decide) rfl (Nat.le_of_ble_eq_true rfl) dX12_room_42 ⟨Nat.le_of_ble_eq_true rfl, Nat.le_of_ble_eq_true rfl⟩ (fun r_31 u_32 H locs hw_33 hP hD hS => ?_)
      have hP : va_P g.1 vwCl [(z 1, .inl (gI g, 461, .inl mD0)), (z 2, .inl (gI g, 7376, .inl (fun _ => 0)))] H := hP
      have hD : va_D A [(z 1, .inl (gI g, 461, .inl mD0)), (z 2, .inl (gI g, 7376, .inl (fun _ => 0)))] := hD
      have hw_33 : r_31 = (-100001) := hw_33
      subst hw_33
      exact k_iret () [] hx hb hr hlk hP hD hS (by clear hP hD hS hA hts hKW hl; rw [← htt, ← hfr]; clear htt hfr; unfold aRoom; (repeat' split) <;> first | rfl | (exfalso; first | omega | (simp only [Int32.lt_iff_toInt_lt, Int32.le_iff_toInt_le, ← Int32.toInt_inj] at *; omega) | (simp only [Int32.lt_iff_toInt_lt, Int32.le_iff_toInt_le, ← Int32.toInt_inj] at *; simp at *; omega) | (simp only [Int32.lt_iff_toInt_lt, Int32.le_iff_toInt_le, ← Int32.toInt_inj] at *; simp at *; done) | (simp at *; omega) | (simp at *; done))) rfl rfl rfl (Nat.le_of_ble_eq_true rfl) (Nat.le_of_ble_eq_true rfl) dX12_room_45
theorem dX12_hand_0 : decode cX12_hand 0 = .ok (.iload_n 1, 1) := by decide +kernel
theorem dX12_hand_1 : decode cX12_hand 1 = .ok (.iconst 0, 1) := by decide +kernel
theorem dX12_hand_2 : decode cX12_hand 2 = .ok (.iconst 3, 1) := by decide +kernel
theorem dX12_hand_3 : decode cX12_hand 3 = .ok (.invokestatic 64, 3) := by decide +kernel
theorem dX12_hand_6 : decode cX12_hand 6 = .ok (.ifCond .ne 9, 3) := by decide +kernel
theorem dX12_hand_15 : decode cX12_hand 15 = .ok (.aload_n 0, 1) := by decide +kernel
theorem dX12_hand_16 : decode cX12_hand 16 = .ok (.getfield 7, 3) := by decide +kernel
theorem dX12_hand_19 : decode cX12_hand 19 = .ok (.iconst 1, 1) := by decide +kernel
theorem dX12_hand_20 : decode cX12_hand 20 = .ok (.iaload, 1) := by decide +kernel
theorem dX12_hand_21 : decode cX12_hand 21 = .ok (.bipush 7, 2) := by decide +kernel
theorem dX12_hand_23 : decode cX12_hand 23 = .ok (.if_icmp .ne 9, 3) := by decide +kernel
theorem dX12_hand_32 : decode cX12_hand 32 = .ok (.aload_n 0, 1) := by decide +kernel
theorem dX12_hand_33 : decode cX12_hand 33 = .ok (.invokevirtual 72, 3) := by decide +kernel
theorem dX12_hand_36 : decode cX12_hand 36 = .ok (.aload_n 0, 1) := by decide +kernel
theorem dX12_hand_37 : decode cX12_hand 37 = .ok (.getfield 7, 3) := by decide +kernel
theorem dX12_hand_40 : decode cX12_hand 40 = .ok (.iconst 1, 1) := by decide +kernel
theorem dX12_hand_41 : decode cX12_hand 41 = .ok (.iaload, 1) := by decide +kernel
theorem dX12_hand_42 : decode cX12_hand 42 = .ok (.istore_n 2, 1) := by decide +kernel
theorem dX12_hand_43 : decode cX12_hand 43 = .ok (.aload_n 0, 1) := by decide +kernel
theorem dX12_hand_44 : decode cX12_hand 44 = .ok (.getfield 7, 3) := by decide +kernel
theorem dX12_hand_47 : decode cX12_hand 47 = .ok (.bipush 26, 2) := by decide +kernel
theorem dX12_hand_49 : decode cX12_hand 49 = .ok (.iload_n 2, 1) := by decide +kernel
theorem dX12_hand_50 : decode cX12_hand 50 = .ok (.iadd, 1) := by decide +kernel
theorem dX12_hand_51 : decode cX12_hand 51 = .ok (.iload_n 1, 1) := by decide +kernel
theorem dX12_hand_52 : decode cX12_hand 52 = .ok (.iastore, 1) := by decide +kernel
theorem dX12_hand_53 : decode cX12_hand 53 = .ok (.aload_n 0, 1) := by decide +kernel
theorem dX12_hand_54 : decode cX12_hand 54 = .ok (.getfield 7, 3) := by decide +kernel
theorem dX12_hand_57 : decode cX12_hand 57 = .ok (.bipush 33, 2) := by decide +kernel
theorem dX12_hand_59 : decode cX12_hand 59 = .ok (.iload_n 2, 1) := by decide +kernel
theorem dX12_hand_60 : decode cX12_hand 60 = .ok (.iadd, 1) := by decide +kernel
theorem dX12_hand_61 : decode cX12_hand 61 = .ok (.iconst (-1), 1) := by decide +kernel
theorem dX12_hand_62 : decode cX12_hand 62 = .ok (.iastore, 1) := by decide +kernel
theorem dX12_hand_63 : decode cX12_hand 63 = .ok (.aload_n 0, 1) := by decide +kernel
theorem dX12_hand_64 : decode cX12_hand 64 = .ok (.getfield 7, 3) := by decide +kernel
theorem dX12_hand_67 : decode cX12_hand 67 = .ok (.bipush 40, 2) := by decide +kernel
theorem dX12_hand_69 : decode cX12_hand 69 = .ok (.iload_n 2, 1) := by decide +kernel
theorem dX12_hand_70 : decode cX12_hand 70 = .ok (.iadd, 1) := by decide +kernel
theorem dX12_hand_71 : decode cX12_hand 71 = .ok (.iconst 0, 1) := by decide +kernel
theorem dX12_hand_72 : decode cX12_hand 72 = .ok (.iastore, 1) := by decide +kernel
theorem dX12_hand_73 : decode cX12_hand 73 = .ok (.aload_n 0, 1) := by decide +kernel
theorem dX12_hand_74 : decode cX12_hand 74 = .ok (.getfield 7, 3) := by decide +kernel
theorem dX12_hand_77 : decode cX12_hand 77 = .ok (.iconst 1, 1) := by decide +kernel
theorem dX12_hand_78 : decode cX12_hand 78 = .ok (.dup2, 1) := by decide +kernel
theorem dX12_hand_79 : decode cX12_hand 79 = .ok (.iaload, 1) := by decide +kernel
theorem dX12_hand_80 : decode cX12_hand 80 = .ok (.iconst 1, 1) := by decide +kernel
theorem dX12_hand_81 : decode cX12_hand 81 = .ok (.iadd, 1) := by decide +kernel
theorem dX12_hand_82 : decode cX12_hand 82 = .ok (.iastore, 1) := by decide +kernel
theorem dX12_hand_83 : decode cX12_hand 83 = .ok (.iload_n 2, 1) := by decide +kernel
theorem dX12_hand_84 : decode cX12_hand 84 = .ok (.ireturn, 1) := by decide +kernel
theorem dX12_hand_9 : decode cX12_hand 9 = .ok (.aload_n 0, 1) := by decide +kernel
theorem dX12_hand_10 : decode cX12_hand 10 = .ok (.iconst 1, 1) := by decide +kernel
theorem dX12_hand_11 : decode cX12_hand 11 = .ok (.invokevirtual 68, 3) := by decide +kernel
theorem dX12_hand_14 : decode cX12_hand 14 = .ok (.ireturn, 1) := by decide +kernel
set_option maxHeartbeats 4000000 in
set_option maxRecDepth 100000 in
theorem c_X12_hand (l : Launch) (g : kG) (sz : Nat) (z : Nat → Nat) (k : Int32) : kMi l g yX12_hand cX12_hand 3 (some .int) 6 0 0 [.ref (z 0), .int k] sz [(z 0, .inr (12, [.ref (z 1), .ref (z 2), .int 0, .int 0, .ref (z 3), .ref (z 4), .ref (z 5), .ref (z 6), .int 0, .ref (z 7), .ref (z 8), .ref (z 9), .ref (z 10), .ref (z 11), .ref (z 12), .int 0, .ref (z 13), .ref (z 14), .int 0, .ref (z 15)])), (z 1, .inl (gI g, 461, .inl mD0)), (z 2, .inl (gI g, 7376, .inl (fun _ => 0)))] (fun (r : Int32) (u : Unit) => r = aR 0 3 0 k) (fun (u : Unit) => ([] : va_W)) := by
  refine kMi.of (by decide) (Nat.le_of_ble_eq_true rfl) (fun p e s m below meth c A hx hb hr hml hown hts hlk hnm hKW hP hD hS hA ls hl => ?_)
  have hown : s.vm.findClass RX12 = some m.cls := hown
  have hl : lv_has ls 3 [(0, .ref (z 0)), (1, .int k)] := hl
  refine lv_iload_n hx hb dX12_hand_0 rfl (lv_at hl 1 rfl) ?_
  refine lv_iconst (v := 0) hx hb dX12_hand_1 (by decide) ?_
  refine lv_iconst (v := 3) hx hb dX12_hand_2 (by decide) ?_
  refine k_Si [] [0, 1, 2] (wr := [(z 0, .inr (12, [.ref (z 1), .ref (z 2), .int 0, .int 0, .ref (z 3), .ref (z 4), .ref (z 5), .ref (z 6), .int 0, .ref (z 7), .ref (z 8), .ref (z 9), .ref (z 10), .ref (z 11), .ref (z 12), .int 0, .ref (z 13), .ref (z 14), .int 0, .ref (z 15)])), (z 1, .inl (gI g, 461, .inl mD0)), (z 2, .inl (gI g, 7376, .inl (fun _ => 0)))]) hx hb hml hown hts hKW hP hD hS hA hl.1 (c_X12_isIn l g _ k 0 3 ) wd_10_11 wd_1_5 wd_10_9 wd_10_10 yd_X12_isIn ⟨Nat.le_of_ble_eq_true rfl, Nat.le_of_ble_eq_true rfl⟩ rfl rfl rfl rfl rfl (by decide) rfl (Nat.le_of_ble_eq_true rfl) dX12_hand_3 ⟨Nat.le_of_ble_eq_true rfl, Nat.le_of_ble_eq_true rfl⟩ (fun r_1 u_2 H locs hw_3 hP hD hS => ?_)
  have hP : va_P g.1 vwCl [(z 0, .inr (12, [.ref (z 1), .ref (z 2), .int 0, .int 0, .ref (z 3), .ref (z 4), .ref (z 5), .ref (z 6), .int 0, .ref (z 7), .ref (z 8), .ref (z 9), .ref (z 10), .ref (z 11), .ref (z 12), .int 0, .ref (z 13), .ref (z 14), .int 0, .ref (z 15)])), (z 1, .inl (gI g, 461, .inl mD0)), (z 2, .inl (gI g, 7376, .inl (fun _ => 0)))] H := hP
  have hD : va_D A [(z 0, .inr (12, [.ref (z 1), .ref (z 2), .int 0, .int 0, .ref (z 3), .ref (z 4), .ref (z 5), .ref (z 6), .int 0, .ref (z 7), .ref (z 8), .ref (z 9), .ref (z 10), .ref (z 11), .ref (z 12), .int 0, .ref (z 13), .ref (z 14), .int 0, .ref (z 15)])), (z 1, .inl (gI g, 461, .inl mD0)), (z 2, .inl (gI g, 7376, .inl (fun _ => 0)))] := hD
  rcases (show (r_1 = 1 ∧ (Int32.toInt 0 ≤ Int32.toInt k ∧ Int32.toInt k ≤ Int32.toInt 3)) ∨ (r_1 = 0 ∧ ¬ (Int32.toInt 0 ≤ Int32.toInt k ∧ Int32.toInt k ≤ Int32.toInt 3)) from hw_3) with ⟨rfl, hw_3b⟩ | ⟨rfl, hw_3b⟩ <;> clear hw_3
  · refine lv_if_ne (tgt := 15) hx hb dX12_hand_6 (by decide) (fun _ => ?_) (fun c => absurd c (by decide))
    refine lv_aload_n hx hb dX12_hand_15 rfl (lv_at hl 0 rfl) ?_
    refine va_get (ci := 12) (C := RX12) (T := TX12) (N := 20) hx hb hts inlX12 hown hKW.1 hP 0 rfl rfl 0 (by decide) (hts _ wd_6_5) (fun _ h => h) rfl dX12_hand_16 ?_
    refine lv_iconst (v := 1) hx hb dX12_hand_19 (by decide) ?_
    refine va_iald hx hb hKW.1 hP 1 0 rfl rfl (show ¬ _ by decide) dX12_hand_20 ?_
    refine k_top (y := 0) rfl ?_
    refine lv_bipush (v := 7) hx hb dX12_hand_21 (by decide) ?_
    refine lv_icmp_ne (tgt := 32) hx hb dX12_hand_23 (by decide) (fun _ => ?_) (fun c => absurd c (by decide))
    refine lv_aload_n hx hb dX12_hand_32 rfl (lv_at hl 0 rfl) ?_
    refine k_Vv [0, 1, 2] [] 0 12 (wr := []) hx hb hml hown hts hKW hP hD hS hA hl.1 (c_X12_keep0 l g _ z ) rfl rfl rfl wd_10_21 wd_1_5 wd_10_18 wd_10_19 wd_10_20 yd_X12_keep ⟨Nat.le_of_ble_eq_true rfl, Nat.le_of_ble_eq_true rfl⟩ rfl rfl rfl rfl rfl (by decide) rfl (Nat.le_of_ble_eq_true rfl) dX12_hand_33 ⟨Nat.le_of_ble_eq_true rfl, Nat.le_of_ble_eq_true rfl⟩ (fun u_5 H locs hw_6 hP hD hS => ?_)
    have hP : va_P g.1 vwCl [(z 0, .inr (12, [.ref (z 1), .ref (z 2), .int 1, .int 0, .ref (z 3), .ref (z 4), .ref (z 5), .ref (z 6), .int 0, .ref (z 7), .ref (z 8), .ref (z 9), .ref (z 10), .ref (z 11), .ref (z 12), .int 0, .ref (z 13), .ref (z 14), .int 0, .ref (z 15)])), (z 1, .inl (gI g, 461, .inl mD0))] H := hP
    have hD : va_D A [(z 0, .inr (12, [.ref (z 1), .ref (z 2), .int 1, .int 0, .ref (z 3), .ref (z 4), .ref (z 5), .ref (z 6), .int 0, .ref (z 7), .ref (z 8), .ref (z 9), .ref (z 10), .ref (z 11), .ref (z 12), .int 0, .ref (z 13), .ref (z 14), .int 0, .ref (z 15)])), (z 1, .inl (gI g, 461, .inl mD0))] := hD
    refine lv_aload_n hx hb dX12_hand_36 rfl (lv_at hl 0 rfl) ?_
    refine va_get (ci := 12) (C := RX12) (T := TX12) (N := 20) hx hb hts inlX12 hown hKW.1 hP 0 rfl rfl 0 (by decide) (hts _ wd_6_5) (fun _ h => h) rfl dX12_hand_37 ?_
    refine lv_iconst (v := 1) hx hb dX12_hand_40 (by decide) ?_
    refine va_iald hx hb hKW.1 hP 1 0 rfl rfl (show ¬ _ by decide) dX12_hand_41 ?_
    refine k_top (y := 0) rfl ?_
    refine lv_istore_n (lv' := [(2, .int 0), (0, .ref (z 0)), (1, .int k)]) hx hb dX12_hand_42 rfl hl (by decide) rfl (fun ls hl => ?_)
    refine lv_aload_n hx hb dX12_hand_43 rfl (lv_at hl 1 rfl) ?_
    refine va_get (ci := 12) (C := RX12) (T := TX12) (N := 20) hx hb hts inlX12 hown hKW.1 hP 0 rfl rfl 0 (by decide) (hts _ wd_6_5) (fun _ h => h) rfl dX12_hand_44 ?_
    refine lv_bipush (v := 26) hx hb dX12_hand_47 (by decide) ?_
    refine lv_iload_n hx hb dX12_hand_49 rfl (lv_at hl 0 rfl) ?_
    refine lv_iadd hx hb dX12_hand_50 ?_
    refine k_top (y := 26) (by decide) ?_
    refine lv_iload_n hx hb dX12_hand_51 rfl (lv_at hl 2 rfl) ?_
    refine va_iast hx hb hKW.1 hP hD hS 1 0 rfl rfl (show ¬ _ by decide) dX12_hand_52 (fun H locs hP hD hS => ?_)
    have hP : va_P g.1 vwCl [(z 0, .inr (12, [.ref (z 1), .ref (z 2), .int 1, .int 0, .ref (z 3), .ref (z 4), .ref (z 5), .ref (z 6), .int 0, .ref (z 7), .ref (z 8), .ref (z 9), .ref (z 10), .ref (z 11), .ref (z 12), .int 0, .ref (z 13), .ref (z 14), .int 0, .ref (z 15)])), (z 1, .inl (gI g, 461, .inl (upd mD0 26 k)))] H := hP
    have hD : va_D A [(z 0, .inr (12, [.ref (z 1), .ref (z 2), .int 1, .int 0, .ref (z 3), .ref (z 4), .ref (z 5), .ref (z 6), .int 0, .ref (z 7), .ref (z 8), .ref (z 9), .ref (z 10), .ref (z 11), .ref (z 12), .int 0, .ref (z 13), .ref (z 14), .int 0, .ref (z 15)])), (z 1, .inl (gI g, 461, .inl (upd mD0 26 k)))] := hD
    obtain ⟨f_7, ef_7⟩ : ∃ zz_ : Nat → Int32, zz_ = upd mD0 26 k := ⟨_, rfl⟩
    rw [← ef_7] at hP hD
    refine lv_aload_n hx hb dX12_hand_53 rfl (lv_at hl 1 rfl) ?_
    refine va_get (ci := 12) (C := RX12) (T := TX12) (N := 20) hx hb hts inlX12 hown hKW.1 hP 0 rfl rfl 0 (by decide) (hts _ wd_6_5) (fun _ h => h) rfl dX12_hand_54 ?_
    refine lv_bipush (v := 33) hx hb dX12_hand_57 (by decide) ?_
    refine lv_iload_n hx hb dX12_hand_59 rfl (lv_at hl 0 rfl) ?_
    refine lv_iadd hx hb dX12_hand_60 ?_
    refine k_top (y := 33) (by decide) ?_
    refine lv_iconst (v := (-1)) hx hb dX12_hand_61 (by decide) ?_
    refine va_iast hx hb hKW.1 hP hD hS 1 0 rfl rfl (show ¬ _ by decide) dX12_hand_62 (fun H locs hP hD hS => ?_)
    have hP : va_P g.1 vwCl [(z 0, .inr (12, [.ref (z 1), .ref (z 2), .int 1, .int 0, .ref (z 3), .ref (z 4), .ref (z 5), .ref (z 6), .int 0, .ref (z 7), .ref (z 8), .ref (z 9), .ref (z 10), .ref (z 11), .ref (z 12), .int 0, .ref (z 13), .ref (z 14), .int 0, .ref (z 15)])), (z 1, .inl (gI g, 461, .inl (upd f_7 33 (-1))))] H := hP
    have hD : va_D A [(z 0, .inr (12, [.ref (z 1), .ref (z 2), .int 1, .int 0, .ref (z 3), .ref (z 4), .ref (z 5), .ref (z 6), .int 0, .ref (z 7), .ref (z 8), .ref (z 9), .ref (z 10), .ref (z 11), .ref (z 12), .int 0, .ref (z 13), .ref (z 14), .int 0, .ref (z 15)])), (z 1, .inl (gI g, 461, .inl (upd f_7 33 (-1))))] := hD
    obtain ⟨f_8, ef_8⟩ : ∃ zz_ : Nat → Int32, zz_ = upd f_7 33 (-1) := ⟨_, rfl⟩
    rw [← ef_8] at hP hD
    refine lv_aload_n hx hb dX12_hand_63 rfl (lv_at hl 1 rfl) ?_
    refine va_get (ci := 12) (C := RX12) (T := TX12) (N := 20) hx hb hts inlX12 hown hKW.1 hP 0 rfl rfl 0 (by decide) (hts _ wd_6_5) (fun _ h => h) rfl dX12_hand_64 ?_
    refine lv_bipush (v := 40) hx hb dX12_hand_67 (by decide) ?_
    refine lv_iload_n hx hb dX12_hand_69 rfl (lv_at hl 0 rfl) ?_
    refine lv_iadd hx hb dX12_hand_70 ?_
    refine k_top (y := 40) (by decide) ?_
    refine lv_iconst (v := 0) hx hb dX12_hand_71 (by decide) ?_
    refine va_iast hx hb hKW.1 hP hD hS 1 0 rfl rfl (show ¬ _ by decide) dX12_hand_72 (fun H locs hP hD hS => ?_)
    have hP : va_P g.1 vwCl [(z 0, .inr (12, [.ref (z 1), .ref (z 2), .int 1, .int 0, .ref (z 3), .ref (z 4), .ref (z 5), .ref (z 6), .int 0, .ref (z 7), .ref (z 8), .ref (z 9), .ref (z 10), .ref (z 11), .ref (z 12), .int 0, .ref (z 13), .ref (z 14), .int 0, .ref (z 15)])), (z 1, .inl (gI g, 461, .inl (upd f_8 40 0)))] H := hP
    have hD : va_D A [(z 0, .inr (12, [.ref (z 1), .ref (z 2), .int 1, .int 0, .ref (z 3), .ref (z 4), .ref (z 5), .ref (z 6), .int 0, .ref (z 7), .ref (z 8), .ref (z 9), .ref (z 10), .ref (z 11), .ref (z 12), .int 0, .ref (z 13), .ref (z 14), .int 0, .ref (z 15)])), (z 1, .inl (gI g, 461, .inl (upd f_8 40 0)))] := hD
    obtain ⟨f_9, ef_9⟩ : ∃ zz_ : Nat → Int32, zz_ = upd f_8 40 0 := ⟨_, rfl⟩
    rw [← ef_9] at hP hD
    refine lv_aload_n hx hb dX12_hand_73 rfl (lv_at hl 1 rfl) ?_
    refine va_get (ci := 12) (C := RX12) (T := TX12) (N := 20) hx hb hts inlX12 hown hKW.1 hP 0 rfl rfl 0 (by decide) (hts _ wd_6_5) (fun _ h => h) rfl dX12_hand_74 ?_
    refine lv_iconst (v := 1) hx hb dX12_hand_77 (by decide) ?_
    refine lv_dup2_11 hx hb dX12_hand_78 rfl rfl ?_
    refine va_iald hx hb hKW.1 hP 1 0 rfl rfl (show ¬ _ by decide) dX12_hand_79 ?_
    refine k_top (y := f_9 1) rfl ?_
    refine lv_iconst (v := 1) hx hb dX12_hand_80 (by decide) ?_
    refine lv_iadd hx hb dX12_hand_81 ?_
    refine va_iast hx hb hKW.1 hP hD hS 1 0 rfl rfl (show ¬ _ by decide) dX12_hand_82 (fun H locs hP hD hS => ?_)
    have hP : va_P g.1 vwCl [(z 0, .inr (12, [.ref (z 1), .ref (z 2), .int 1, .int 0, .ref (z 3), .ref (z 4), .ref (z 5), .ref (z 6), .int 0, .ref (z 7), .ref (z 8), .ref (z 9), .ref (z 10), .ref (z 11), .ref (z 12), .int 0, .ref (z 13), .ref (z 14), .int 0, .ref (z 15)])), (z 1, .inl (gI g, 461, .inl (upd f_9 1 ((f_9 1) + 1))))] H := hP
    have hD : va_D A [(z 0, .inr (12, [.ref (z 1), .ref (z 2), .int 1, .int 0, .ref (z 3), .ref (z 4), .ref (z 5), .ref (z 6), .int 0, .ref (z 7), .ref (z 8), .ref (z 9), .ref (z 10), .ref (z 11), .ref (z 12), .int 0, .ref (z 13), .ref (z 14), .int 0, .ref (z 15)])), (z 1, .inl (gI g, 461, .inl (upd f_9 1 ((f_9 1) + 1))))] := hD
    obtain ⟨f_10, ef_10⟩ : ∃ zz_ : Nat → Int32, zz_ = upd f_9 1 ((f_9 1) + 1) := ⟨_, rfl⟩
    rw [← ef_10] at hP hD
    refine lv_iload_n hx hb dX12_hand_83 rfl (lv_at hl 0 rfl) ?_
    exact k_iret () [] hx hb hr hlk hP hD hS (by clear hP hD hS hA hts hKW hl; unfold aR; (repeat' split) <;> first | rfl | (exfalso; first | omega | (simp only [Int32.lt_iff_toInt_lt, Int32.le_iff_toInt_le, ← Int32.toInt_inj] at *; omega) | (simp only [Int32.lt_iff_toInt_lt, Int32.le_iff_toInt_le, ← Int32.toInt_inj] at *; simp at *; omega) | (simp only [Int32.lt_iff_toInt_lt, Int32.le_iff_toInt_le, ← Int32.toInt_inj] at *; simp at *; done) | (simp at *; omega) | (simp at *; done))) rfl rfl rfl (Nat.le_of_ble_eq_true rfl) (Nat.le_of_ble_eq_true rfl) dX12_hand_84
  · refine lv_if_ne (tgt := 15) hx hb dX12_hand_6 (by decide) (fun c => absurd c (by decide)) (fun _ => ?_)
    refine lv_aload_n hx hb dX12_hand_9 rfl (lv_at hl 0 rfl) ?_
    refine lv_iconst (v := 1) hx hb dX12_hand_10 (by decide) ?_
    refine k_Vi [0] [1, 2] 0 12 (wr := [(z 1, .inl (gI g, 461, .inl mD0)), (z 2, .inl (gI g, 7376, .inl (fun _ => 0)))]) hx hb hml hown hts hKW hP hD hS hA hl.1 (c_X12_finding_1 l g _ (z 0) (z 1) (z 2) (z 3) (z 4) (z 5) (z 6) (z 7) (z 8) (z 9) (z 10) (z 11) (z 12) (z 13) (z 14) (z 15) 0 0 0 0 0 ) rfl rfl rfl wd_10_15 wd_1_5 wd_10_12 wd_10_13 wd_10_14 yd_X12_finding ⟨Nat.le_of_ble_eq_true rfl, Nat.le_of_ble_eq_true rfl⟩ rfl rfl rfl rfl rfl (by decide) rfl (Nat.le_of_ble_eq_true rfl) dX12_hand_11 ⟨Nat.le_of_ble_eq_true rfl, Nat.le_of_ble_eq_true rfl⟩ (fun r_11 u_12 H locs hw_13 hP hD hS => ?_)
    have hP : va_P g.1 vwCl [(z 1, .inl (gI g, 461, .inl mD0)), (z 2, .inl (gI g, 7376, .inl (fun _ => 0)))] H := hP
    have hD : va_D A [(z 1, .inl (gI g, 461, .inl mD0)), (z 2, .inl (gI g, 7376, .inl (fun _ => 0)))] := hD
    have hw_13 : r_11 = (-100001) := hw_13
    subst hw_13
    exact k_iret () [] hx hb hr hlk hP hD hS (by clear hP hD hS hA hts hKW hl; unfold aR; (repeat' split) <;> first | rfl | (exfalso; first | omega | (simp only [Int32.lt_iff_toInt_lt, Int32.le_iff_toInt_le, ← Int32.toInt_inj] at *; omega) | (simp only [Int32.lt_iff_toInt_lt, Int32.le_iff_toInt_le, ← Int32.toInt_inj] at *; simp at *; omega) | (simp only [Int32.lt_iff_toInt_lt, Int32.le_iff_toInt_le, ← Int32.toInt_inj] at *; simp at *; done) | (simp at *; omega) | (simp at *; done))) rfl rfl rfl (Nat.le_of_ble_eq_true rfl) (Nat.le_of_ble_eq_true rfl) dX12_hand_14
theorem dX12_as_0 : decode cX12_as 0 = .ok (.aload_n 0, 1) := by decide +kernel
theorem dX12_as_1 : decode cX12_as 1 = .ok (.iload_n 1, 1) := by decide +kernel
theorem dX12_as_2 : decode cX12_as 2 = .ok (.invokevirtual 75, 3) := by decide +kernel
theorem dX12_as_5 : decode cX12_as 5 = .ok (.ifCond .eq 12, 3) := by decide +kernel
theorem dX12_as_17 : decode cX12_as 17 = .ok (.aload_n 0, 1) := by decide +kernel
theorem dX12_as_18 : decode cX12_as 18 = .ok (.iconst 1, 1) := by decide +kernel
theorem dX12_as_19 : decode cX12_as 19 = .ok (.invokevirtual 68, 3) := by decide +kernel
theorem dX12_as_22 : decode cX12_as 22 = .ok (.ireturn, 1) := by decide +kernel
set_option maxHeartbeats 4000000 in
set_option maxRecDepth 100000 in
theorem c_X12_as (l : Launch) (g : kG) (sz : Nat) (z : Nat → Nat) (h : Int32) (k : Int32) : kMi l g yX12_as cX12_as 3 (some .int) 6 0 0 [.ref (z 0), .int h, .int k] sz [(z 0, .inr (12, [.ref (z 1), .ref (z 2), .int 0, .int 0, .ref (z 3), .ref (z 4), .ref (z 5), .ref (z 6), .int 0, .ref (z 7), .ref (z 8), .ref (z 9), .ref (z 10), .ref (z 11), .ref (z 12), .int 0, .ref (z 13), .ref (z 14), .int 0, .ref (z 15)])), (z 1, .inl (gI g, 461, .inl mD0))] (fun (r : Int32) (u : Unit) => r = (-100001)) (fun (u : Unit) => ([] : va_W)) := by
  refine kMi.of (by decide) (Nat.le_of_ble_eq_true rfl) (fun p e s m below meth c A hx hb hr hml hown hts hlk hnm hKW hP hD hS hA ls hl => ?_)
  have hown : s.vm.findClass RX12 = some m.cls := hown
  have hl : lv_has ls 3 [(0, .ref (z 0)), (1, .int h), (2, .int k)] := hl
  refine lv_aload_n hx hb dX12_as_0 rfl (lv_at hl 0 rfl) ?_
  refine lv_iload_n hx hb dX12_as_1 rfl (lv_at hl 1 rfl) ?_
  refine k_Vi [0, 1] [] 0 12 (wr := []) hx hb hml hown hts hKW hP hD hS hA hl.1 (c_X12_isHand0 l g _ (z 0) (z 1) (z 2) (z 3) (z 4) (z 5) (z 6) (z 7) (z 8) (z 9) (z 10) (z 11) (z 12) (z 13) (z 14) (z 15) 0 0 0 0 0 h ) rfl rfl rfl wd_12_14 wd_1_5 wd_12_11 wd_12_12 wd_12_13 yd_X12_isHand ⟨Nat.le_of_ble_eq_true rfl, Nat.le_of_ble_eq_true rfl⟩ rfl rfl rfl rfl rfl (by decide) rfl (Nat.le_of_ble_eq_true rfl) dX12_as_2 ⟨Nat.le_of_ble_eq_true rfl, Nat.le_of_ble_eq_true rfl⟩ (fun r_1 u_2 H locs hw_3 hP hD hS => ?_)
  have hP : va_P g.1 vwCl [(z 0, .inr (12, [.ref (z 1), .ref (z 2), .int 0, .int 0, .ref (z 3), .ref (z 4), .ref (z 5), .ref (z 6), .int 0, .ref (z 7), .ref (z 8), .ref (z 9), .ref (z 10), .ref (z 11), .ref (z 12), .int 0, .ref (z 13), .ref (z 14), .int 0, .ref (z 15)])), (z 1, .inl (gI g, 461, .inl mD0))] H := hP
  have hD : va_D A [(z 0, .inr (12, [.ref (z 1), .ref (z 2), .int 0, .int 0, .ref (z 3), .ref (z 4), .ref (z 5), .ref (z 6), .int 0, .ref (z 7), .ref (z 8), .ref (z 9), .ref (z 10), .ref (z 11), .ref (z 12), .int 0, .ref (z 13), .ref (z 14), .int 0, .ref (z 15)])), (z 1, .inl (gI g, 461, .inl mD0))] := hD
  have hw_3 : r_1 = 0 := hw_3
  subst hw_3
  refine lv_if_eq (tgt := 17) hx hb dX12_as_5 (by decide) (fun _ => ?_) (fun c => absurd c (by decide))
  refine lv_aload_n hx hb dX12_as_17 rfl (lv_at hl 0 rfl) ?_
  refine lv_iconst (v := 1) hx hb dX12_as_18 (by decide) ?_
  refine k_Vi [0] [1] 0 12 (wr := [(z 1, .inl (gI g, 461, .inl mD0))]) hx hb hml hown hts hKW hP hD hS hA hl.1 (c_X12_finding_1 l g _ (z 0) (z 1) (z 2) (z 3) (z 4) (z 5) (z 6) (z 7) (z 8) (z 9) (z 10) (z 11) (z 12) (z 13) (z 14) (z 15) 0 0 0 0 0 ) rfl rfl rfl wd_10_15 wd_1_5 wd_10_12 wd_10_13 wd_10_14 yd_X12_finding ⟨Nat.le_of_ble_eq_true rfl, Nat.le_of_ble_eq_true rfl⟩ rfl rfl rfl rfl rfl (by decide) rfl (Nat.le_of_ble_eq_true rfl) dX12_as_19 ⟨Nat.le_of_ble_eq_true rfl, Nat.le_of_ble_eq_true rfl⟩ (fun r_4 u_5 H locs hw_6 hP hD hS => ?_)
  have hP : va_P g.1 vwCl [(z 1, .inl (gI g, 461, .inl mD0))] H := hP
  have hD : va_D A [(z 1, .inl (gI g, 461, .inl mD0))] := hD
  have hw_6 : r_4 = (-100001) := hw_6
  subst hw_6
  exact k_iret () [] hx hb hr hlk hP hD hS rfl rfl rfl rfl (Nat.le_of_ble_eq_true rfl) (Nat.le_of_ble_eq_true rfl) dX12_as_22
theorem dX12_child_0 : decode cX12_child 0 = .ok (.iload_n 1, 1) := by decide +kernel
theorem dX12_child_1 : decode cX12_child 1 = .ok (.bipush (-71), 2) := by decide +kernel
theorem dX12_child_3 : decode cX12_child 3 = .ok (.bipush 60, 2) := by decide +kernel
theorem dX12_child_5 : decode cX12_child 5 = .ok (.invokestatic 64, 3) := by decide +kernel
theorem dX12_child_8 : decode cX12_child 8 = .ok (.ifCond .eq 59, 3) := by decide +kernel
theorem dX12_child_11 : decode cX12_child 11 = .ok (.iload_n 2, 1) := by decide +kernel
theorem dX12_child_12 : decode cX12_child 12 = .ok (.iconst (-1), 1) := by decide +kernel
theorem dX12_child_13 : decode cX12_child 13 = .ok (.if_icmp .eq 11, 3) := by decide +kernel
theorem dX12_child_24 : decode cX12_child 24 = .ok (.iload_n 3, 1) := by decide +kernel
theorem dX12_child_25 : decode cX12_child 25 = .ok (.iconst 0, 1) := by decide +kernel
theorem dX12_child_26 : decode cX12_child 26 = .ok (.bipush 31, 2) := by decide +kernel
theorem dX12_child_28 : decode cX12_child 28 = .ok (.invokestatic 64, 3) := by decide +kernel
theorem dX12_child_31 : decode cX12_child 31 = .ok (.ifCond .eq 36, 3) := by decide +kernel
theorem dX12_child_34 : decode cX12_child 34 = .ok (.iload 4, 2) := by decide +kernel
theorem dX12_child_36 : decode cX12_child 36 = .ok (.ifCond .lt 31, 3) := by decide +kernel
theorem dX12_child_67 : decode cX12_child 67 = .ok (.aload_n 0, 1) := by decide +kernel
theorem dX12_child_68 : decode cX12_child 68 = .ok (.iconst 1, 1) := by decide +kernel
theorem dX12_child_69 : decode cX12_child 69 = .ok (.invokevirtual 68, 3) := by decide +kernel
theorem dX12_child_72 : decode cX12_child 72 = .ok (.ireturn, 1) := by decide +kernel
theorem dX12_child_39 : decode cX12_child 39 = .ok (.iload 4, 2) := by decide +kernel
theorem dX12_child_41 : decode cX12_child 41 = .ok (.bipush 100, 2) := by decide +kernel
theorem dX12_child_43 : decode cX12_child 43 = .ok (.idiv, 1) := by decide +kernel
theorem dX12_child_44 : decode cX12_child 44 = .ok (.iconst 0, 1) := by decide +kernel
theorem dX12_child_45 : decode cX12_child 45 = .ok (.bipush 60, 2) := by decide +kernel
theorem dX12_child_47 : decode cX12_child 47 = .ok (.invokestatic 64, 3) := by decide +kernel
theorem dX12_child_50 : decode cX12_child 50 = .ok (.ifCond .eq 17, 3) := by decide +kernel
theorem dX12_child_53 : decode cX12_child 53 = .ok (.iload 4, 2) := by decide +kernel
theorem dX12_child_55 : decode cX12_child 55 = .ok (.bipush 100, 2) := by decide +kernel
theorem dX12_child_57 : decode cX12_child 57 = .ok (.irem, 1) := by decide +kernel
theorem dX12_child_58 : decode cX12_child 58 = .ok (.iconst 0, 1) := by decide +kernel
theorem dX12_child_59 : decode cX12_child 59 = .ok (.bipush 60, 2) := by decide +kernel
theorem dX12_child_61 : decode cX12_child 61 = .ok (.invokestatic 64, 3) := by decide +kernel
theorem dX12_child_64 : decode cX12_child 64 = .ok (.ifCond .ne 9, 3) := by decide +kernel
theorem dX12_child_73 : decode cX12_child 73 = .ok (.iload 4, 2) := by decide +kernel
theorem dX12_child_75 : decode cX12_child 75 = .ok (.bipush 100, 2) := by decide +kernel
theorem dX12_child_77 : decode cX12_child 77 = .ok (.idiv, 1) := by decide +kernel
theorem dX12_child_78 : decode cX12_child 78 = .ok (.iload 4, 2) := by decide +kernel
theorem dX12_child_80 : decode cX12_child 80 = .ok (.bipush 100, 2) := by decide +kernel
theorem dX12_child_82 : decode cX12_child 82 = .ok (.irem, 1) := by decide +kernel
theorem dX12_child_83 : decode cX12_child 83 = .ok (.if_icmp .le 9, 3) := by decide +kernel
theorem dX12_child_92 : decode cX12_child 92 = .ok (.aload_n 0, 1) := by decide +kernel
theorem dX12_child_93 : decode cX12_child 93 = .ok (.getfield 7, 3) := by decide +kernel
theorem dX12_child_96 : decode cX12_child 96 = .ok (.iconst 2, 1) := by decide +kernel
theorem dX12_child_97 : decode cX12_child 97 = .ok (.iaload, 1) := by decide +kernel
theorem dX12_child_98 : decode cX12_child 98 = .ok (.bipush 10, 2) := by decide +kernel
theorem dX12_child_100 : decode cX12_child 100 = .ok (.if_icmp .ne 9, 3) := by decide +kernel
theorem dX12_child_109 : decode cX12_child 109 = .ok (.aload_n 0, 1) := by decide +kernel
theorem dX12_child_110 : decode cX12_child 110 = .ok (.invokevirtual 72, 3) := by decide +kernel
theorem dX12_child_113 : decode cX12_child 113 = .ok (.aload_n 0, 1) := by decide +kernel
theorem dX12_child_114 : decode cX12_child 114 = .ok (.getfield 7, 3) := by decide +kernel
theorem dX12_child_117 : decode cX12_child 117 = .ok (.iconst 2, 1) := by decide +kernel
theorem dX12_child_118 : decode cX12_child 118 = .ok (.iaload, 1) := by decide +kernel
theorem dX12_child_119 : decode cX12_child 119 = .ok (.istore 5, 2) := by decide +kernel
theorem dX12_child_121 : decode cX12_child 121 = .ok (.aload_n 0, 1) := by decide +kernel
theorem dX12_child_122 : decode cX12_child 122 = .ok (.getfield 7, 3) := by decide +kernel
theorem dX12_child_125 : decode cX12_child 125 = .ok (.bipush 47, 2) := by decide +kernel
theorem dX12_child_127 : decode cX12_child 127 = .ok (.iload 5, 2) := by decide +kernel
theorem dX12_child_129 : decode cX12_child 129 = .ok (.iadd, 1) := by decide +kernel
theorem dX12_child_130 : decode cX12_child 130 = .ok (.iload_n 1, 1) := by decide +kernel
theorem dX12_child_131 : decode cX12_child 131 = .ok (.iastore, 1) := by decide +kernel
theorem dX12_child_132 : decode cX12_child 132 = .ok (.aload_n 0, 1) := by decide +kernel
theorem dX12_child_133 : decode cX12_child 133 = .ok (.getfield 7, 3) := by decide +kernel
theorem dX12_child_136 : decode cX12_child 136 = .ok (.bipush 57, 2) := by decide +kernel
theorem dX12_child_138 : decode cX12_child 138 = .ok (.iload 5, 2) := by decide +kernel
theorem dX12_child_140 : decode cX12_child 140 = .ok (.iadd, 1) := by decide +kernel
theorem dX12_child_141 : decode cX12_child 141 = .ok (.iload_n 2, 1) := by decide +kernel
theorem dX12_child_142 : decode cX12_child 142 = .ok (.iastore, 1) := by decide +kernel
theorem dX12_child_143 : decode cX12_child 143 = .ok (.aload_n 0, 1) := by decide +kernel
theorem dX12_child_144 : decode cX12_child 144 = .ok (.getfield 7, 3) := by decide +kernel
theorem dX12_child_147 : decode cX12_child 147 = .ok (.bipush 67, 2) := by decide +kernel
theorem dX12_child_149 : decode cX12_child 149 = .ok (.iload 5, 2) := by decide +kernel
theorem dX12_child_151 : decode cX12_child 151 = .ok (.iadd, 1) := by decide +kernel
theorem dX12_child_152 : decode cX12_child 152 = .ok (.iload_n 3, 1) := by decide +kernel
theorem dX12_child_153 : decode cX12_child 153 = .ok (.iastore, 1) := by decide +kernel
theorem dX12_child_154 : decode cX12_child 154 = .ok (.aload_n 0, 1) := by decide +kernel
theorem dX12_child_155 : decode cX12_child 155 = .ok (.getfield 7, 3) := by decide +kernel
theorem dX12_child_158 : decode cX12_child 158 = .ok (.bipush 77, 2) := by decide +kernel
theorem dX12_child_160 : decode cX12_child 160 = .ok (.iload 5, 2) := by decide +kernel
theorem dX12_child_162 : decode cX12_child 162 = .ok (.iadd, 1) := by decide +kernel
theorem dX12_child_163 : decode cX12_child 163 = .ok (.iload 4, 2) := by decide +kernel
theorem dX12_child_165 : decode cX12_child 165 = .ok (.bipush 100, 2) := by decide +kernel
theorem dX12_child_167 : decode cX12_child 167 = .ok (.idiv, 1) := by decide +kernel
theorem dX12_child_168 : decode cX12_child 168 = .ok (.iastore, 1) := by decide +kernel
theorem dX12_child_169 : decode cX12_child 169 = .ok (.aload_n 0, 1) := by decide +kernel
theorem dX12_child_170 : decode cX12_child 170 = .ok (.getfield 7, 3) := by decide +kernel
theorem dX12_child_173 : decode cX12_child 173 = .ok (.bipush 87, 2) := by decide +kernel
theorem dX12_child_175 : decode cX12_child 175 = .ok (.iload 5, 2) := by decide +kernel
theorem dX12_child_177 : decode cX12_child 177 = .ok (.iadd, 1) := by decide +kernel
theorem dX12_child_178 : decode cX12_child 178 = .ok (.iload 4, 2) := by decide +kernel
theorem dX12_child_180 : decode cX12_child 180 = .ok (.bipush 100, 2) := by decide +kernel
theorem dX12_child_182 : decode cX12_child 182 = .ok (.irem, 1) := by decide +kernel
theorem dX12_child_183 : decode cX12_child 183 = .ok (.iastore, 1) := by decide +kernel
theorem dX12_child_184 : decode cX12_child 184 = .ok (.aload_n 0, 1) := by decide +kernel
theorem dX12_child_185 : decode cX12_child 185 = .ok (.getfield 7, 3) := by decide +kernel
theorem dX12_child_188 : decode cX12_child 188 = .ok (.bipush 97, 2) := by decide +kernel
theorem dX12_child_190 : decode cX12_child 190 = .ok (.iload 5, 2) := by decide +kernel
theorem dX12_child_192 : decode cX12_child 192 = .ok (.iadd, 1) := by decide +kernel
theorem dX12_child_193 : decode cX12_child 193 = .ok (.iconst (-1), 1) := by decide +kernel
theorem dX12_child_194 : decode cX12_child 194 = .ok (.iastore, 1) := by decide +kernel
theorem dX12_child_195 : decode cX12_child 195 = .ok (.aload_n 0, 1) := by decide +kernel
theorem dX12_child_196 : decode cX12_child 196 = .ok (.getfield 7, 3) := by decide +kernel
theorem dX12_child_199 : decode cX12_child 199 = .ok (.bipush 107, 2) := by decide +kernel
theorem dX12_child_201 : decode cX12_child 201 = .ok (.iload 5, 2) := by decide +kernel
theorem dX12_child_203 : decode cX12_child 203 = .ok (.iadd, 1) := by decide +kernel
theorem dX12_child_204 : decode cX12_child 204 = .ok (.iconst 0, 1) := by decide +kernel
theorem dX12_child_205 : decode cX12_child 205 = .ok (.iastore, 1) := by decide +kernel
theorem dX12_child_206 : decode cX12_child 206 = .ok (.aload_n 0, 1) := by decide +kernel
theorem dX12_child_207 : decode cX12_child 207 = .ok (.getfield 7, 3) := by decide +kernel
theorem dX12_child_210 : decode cX12_child 210 = .ok (.bipush 117, 2) := by decide +kernel
theorem dX12_child_212 : decode cX12_child 212 = .ok (.iload 5, 2) := by decide +kernel
theorem dX12_child_214 : decode cX12_child 214 = .ok (.iadd, 1) := by decide +kernel
theorem dX12_child_215 : decode cX12_child 215 = .ok (.iconst 0, 1) := by decide +kernel
theorem dX12_child_216 : decode cX12_child 216 = .ok (.iastore, 1) := by decide +kernel
theorem dX12_child_217 : decode cX12_child 217 = .ok (.aload_n 0, 1) := by decide +kernel
theorem dX12_child_218 : decode cX12_child 218 = .ok (.getfield 7, 3) := by decide +kernel
theorem dX12_child_221 : decode cX12_child 221 = .ok (.bipush 127, 2) := by decide +kernel
theorem dX12_child_223 : decode cX12_child 223 = .ok (.iload 5, 2) := by decide +kernel
theorem dX12_child_225 : decode cX12_child 225 = .ok (.iadd, 1) := by decide +kernel
theorem dX12_child_226 : decode cX12_child 226 = .ok (.iconst 0, 1) := by decide +kernel
theorem dX12_child_227 : decode cX12_child 227 = .ok (.iastore, 1) := by decide +kernel
theorem dX12_child_228 : decode cX12_child 228 = .ok (.aload_n 0, 1) := by decide +kernel
theorem dX12_child_229 : decode cX12_child 229 = .ok (.getfield 7, 3) := by decide +kernel
theorem dX12_child_232 : decode cX12_child 232 = .ok (.iconst 2, 1) := by decide +kernel
theorem dX12_child_233 : decode cX12_child 233 = .ok (.dup2, 1) := by decide +kernel
theorem dX12_child_234 : decode cX12_child 234 = .ok (.iaload, 1) := by decide +kernel
theorem dX12_child_235 : decode cX12_child 235 = .ok (.iconst 1, 1) := by decide +kernel
theorem dX12_child_236 : decode cX12_child 236 = .ok (.iadd, 1) := by decide +kernel
theorem dX12_child_237 : decode cX12_child 237 = .ok (.iastore, 1) := by decide +kernel
theorem dX12_child_238 : decode cX12_child 238 = .ok (.iload 5, 2) := by decide +kernel
theorem dX12_child_240 : decode cX12_child 240 = .ok (.ireturn, 1) := by decide +kernel
theorem dX12_child_86 : decode cX12_child 86 = .ok (.aload_n 0, 1) := by decide +kernel
theorem dX12_child_87 : decode cX12_child 87 = .ok (.iconst 3, 1) := by decide +kernel
theorem dX12_child_88 : decode cX12_child 88 = .ok (.invokevirtual 68, 3) := by decide +kernel
theorem dX12_child_91 : decode cX12_child 91 = .ok (.ireturn, 1) := by decide +kernel
theorem dX12_child_16 : decode cX12_child 16 = .ok (.aload_n 0, 1) := by decide +kernel
theorem dX12_child_17 : decode cX12_child 17 = .ok (.iload_n 2, 1) := by decide +kernel
theorem dX12_child_18 : decode cX12_child 18 = .ok (.invokevirtual 82, 3) := by decide +kernel
theorem dX12_child_21 : decode cX12_child 21 = .ok (.ifCond .eq 46, 3) := by decide +kernel
set_option maxHeartbeats 4000000 in
set_option maxRecDepth 100000 in
theorem c_X12_child (l : Launch) (g : kG) (sz : Nat) (z : Nat → Nat) (bi : Int32) (si : Int32) (se : Int32) (mo : Int32) : kMi l g yX12_child cX12_child 6 (some .int) 6 0 0 [.ref (z 0), .int bi, .int si, .int se, .int mo] sz [(z 0, .inr (12, [.ref (z 1), .ref (z 2), .int 0, .int 0, .ref (z 3), .ref (z 4), .ref (z 5), .ref (z 6), .int 0, .ref (z 7), .ref (z 8), .ref (z 9), .ref (z 10), .ref (z 11), .ref (z 12), .int 0, .ref (z 13), .ref (z 14), .int 0, .ref (z 15)])), (z 1, .inl (gI g, 461, .inl mD0)), (z 2, .inl (gI g, 7376, .inl (fun _ => 0)))] (fun (r : Int32) (u : Unit) => r = aChild bi si se mo (mo / 100) (mo - mo / 100 * 100)) (fun (u : Unit) => ([] : va_W)) := by
  refine kMi.of (by decide) (Nat.le_of_ble_eq_true rfl) (fun p e s m below meth c A hx hb hr hml hown hts hlk hnm hKW hP hD hS hA ls hl => ?_)
  have hown : s.vm.findClass RX12 = some m.cls := hown
  have hl : lv_has ls 6 [(0, .ref (z 0)), (1, .int bi), (2, .int si), (3, .int se), (4, .int mo)] := hl
  obtain ⟨fr, hfr⟩ : ∃ z : Int32, z = mo / 100 := ⟨_, rfl⟩; obtain ⟨tt, htt⟩ : ∃ z : Int32, z = mo - mo / 100 * 100 := ⟨_, rfl⟩; have hdv : mo.toInt < 0 ∨ (0 ≤ fr.toInt ∧ 0 ≤ tt.toInt) := by rw [hfr, htt]; exact k_dv
  refine lv_iload_n hx hb dX12_child_0 rfl (lv_at hl 1 rfl) ?_
  refine lv_bipush (v := (-71)) hx hb dX12_child_1 (by decide) ?_
  refine lv_bipush (v := 60) hx hb dX12_child_3 (by decide) ?_
  refine k_Si [] [0, 1, 2] (wr := [(z 0, .inr (12, [.ref (z 1), .ref (z 2), .int 0, .int 0, .ref (z 3), .ref (z 4), .ref (z 5), .ref (z 6), .int 0, .ref (z 7), .ref (z 8), .ref (z 9), .ref (z 10), .ref (z 11), .ref (z 12), .int 0, .ref (z 13), .ref (z 14), .int 0, .ref (z 15)])), (z 1, .inl (gI g, 461, .inl mD0)), (z 2, .inl (gI g, 7376, .inl (fun _ => 0)))]) hx hb hml hown hts hKW hP hD hS hA hl.1 (c_X12_isIn l g _ bi (-71) 60 ) wd_10_11 wd_1_5 wd_10_9 wd_10_10 yd_X12_isIn ⟨Nat.le_of_ble_eq_true rfl, Nat.le_of_ble_eq_true rfl⟩ rfl rfl rfl rfl rfl (by decide) rfl (Nat.le_of_ble_eq_true rfl) dX12_child_5 ⟨Nat.le_of_ble_eq_true rfl, Nat.le_of_ble_eq_true rfl⟩ (fun r_1 u_2 H locs hw_3 hP hD hS => ?_)
  have hP : va_P g.1 vwCl [(z 0, .inr (12, [.ref (z 1), .ref (z 2), .int 0, .int 0, .ref (z 3), .ref (z 4), .ref (z 5), .ref (z 6), .int 0, .ref (z 7), .ref (z 8), .ref (z 9), .ref (z 10), .ref (z 11), .ref (z 12), .int 0, .ref (z 13), .ref (z 14), .int 0, .ref (z 15)])), (z 1, .inl (gI g, 461, .inl mD0)), (z 2, .inl (gI g, 7376, .inl (fun _ => 0)))] H := hP
  have hD : va_D A [(z 0, .inr (12, [.ref (z 1), .ref (z 2), .int 0, .int 0, .ref (z 3), .ref (z 4), .ref (z 5), .ref (z 6), .int 0, .ref (z 7), .ref (z 8), .ref (z 9), .ref (z 10), .ref (z 11), .ref (z 12), .int 0, .ref (z 13), .ref (z 14), .int 0, .ref (z 15)])), (z 1, .inl (gI g, 461, .inl mD0)), (z 2, .inl (gI g, 7376, .inl (fun _ => 0)))] := hD
  rcases (show (r_1 = 1 ∧ (Int32.toInt (-71) ≤ Int32.toInt bi ∧ Int32.toInt bi ≤ Int32.toInt 60)) ∨ (r_1 = 0 ∧ ¬ (Int32.toInt (-71) ≤ Int32.toInt bi ∧ Int32.toInt bi ≤ Int32.toInt 60)) from hw_3) with ⟨rfl, hw_3b⟩ | ⟨rfl, hw_3b⟩ <;> clear hw_3
  · refine lv_if_eq (tgt := 67) hx hb dX12_child_8 (by decide) (fun c => absurd c (by decide)) (fun _ => ?_)
    refine lv_iload_n hx hb dX12_child_11 rfl (lv_at hl 2 rfl) ?_
    refine lv_iconst (v := (-1)) hx hb dX12_child_12 (by decide) ?_
    refine lv_icmp_eq (tgt := 24) hx hb dX12_child_13 (by decide) (fun c_4 => ?_) (fun c_4 => ?_)
    · refine lv_iload_n hx hb dX12_child_24 rfl (lv_at hl 3 rfl) ?_
      refine lv_iconst (v := 0) hx hb dX12_child_25 (by decide) ?_
      refine lv_bipush (v := 31) hx hb dX12_child_26 (by decide) ?_
      refine k_Si [] [0, 1, 2] (wr := [(z 0, .inr (12, [.ref (z 1), .ref (z 2), .int 0, .int 0, .ref (z 3), .ref (z 4), .ref (z 5), .ref (z 6), .int 0, .ref (z 7), .ref (z 8), .ref (z 9), .ref (z 10), .ref (z 11), .ref (z 12), .int 0, .ref (z 13), .ref (z 14), .int 0, .ref (z 15)])), (z 1, .inl (gI g, 461, .inl mD0)), (z 2, .inl (gI g, 7376, .inl (fun _ => 0)))]) hx hb hml hown hts hKW hP hD hS hA hl.1 (c_X12_isIn l g _ se 0 31 ) wd_10_11 wd_1_5 wd_10_9 wd_10_10 yd_X12_isIn ⟨Nat.le_of_ble_eq_true rfl, Nat.le_of_ble_eq_true rfl⟩ rfl rfl rfl rfl rfl (by decide) rfl (Nat.le_of_ble_eq_true rfl) dX12_child_28 ⟨Nat.le_of_ble_eq_true rfl, Nat.le_of_ble_eq_true rfl⟩ (fun r_5 u_6 H locs hw_7 hP hD hS => ?_)
      have hP : va_P g.1 vwCl [(z 0, .inr (12, [.ref (z 1), .ref (z 2), .int 0, .int 0, .ref (z 3), .ref (z 4), .ref (z 5), .ref (z 6), .int 0, .ref (z 7), .ref (z 8), .ref (z 9), .ref (z 10), .ref (z 11), .ref (z 12), .int 0, .ref (z 13), .ref (z 14), .int 0, .ref (z 15)])), (z 1, .inl (gI g, 461, .inl mD0)), (z 2, .inl (gI g, 7376, .inl (fun _ => 0)))] H := hP
      have hD : va_D A [(z 0, .inr (12, [.ref (z 1), .ref (z 2), .int 0, .int 0, .ref (z 3), .ref (z 4), .ref (z 5), .ref (z 6), .int 0, .ref (z 7), .ref (z 8), .ref (z 9), .ref (z 10), .ref (z 11), .ref (z 12), .int 0, .ref (z 13), .ref (z 14), .int 0, .ref (z 15)])), (z 1, .inl (gI g, 461, .inl mD0)), (z 2, .inl (gI g, 7376, .inl (fun _ => 0)))] := hD
      rcases (show (r_5 = 1 ∧ (Int32.toInt 0 ≤ Int32.toInt se ∧ Int32.toInt se ≤ Int32.toInt 31)) ∨ (r_5 = 0 ∧ ¬ (Int32.toInt 0 ≤ Int32.toInt se ∧ Int32.toInt se ≤ Int32.toInt 31)) from hw_7) with ⟨rfl, hw_7b⟩ | ⟨rfl, hw_7b⟩ <;> clear hw_7
      · refine lv_if_eq (tgt := 67) hx hb dX12_child_31 (by decide) (fun c => absurd c (by decide)) (fun _ => ?_)
        refine lv_iload hx hb dX12_child_34 (lv_at hl 4 rfl) ?_
        refine lv_if_lt (tgt := 67) hx hb dX12_child_36 (by decide) (fun c_8 => ?_) (fun c_8 => ?_)
        · refine lv_aload_n hx hb dX12_child_67 rfl (lv_at hl 0 rfl) ?_
          refine lv_iconst (v := 1) hx hb dX12_child_68 (by decide) ?_
          refine k_Vi [0] [1, 2] 0 12 (wr := [(z 1, .inl (gI g, 461, .inl mD0)), (z 2, .inl (gI g, 7376, .inl (fun _ => 0)))]) hx hb hml hown hts hKW hP hD hS hA hl.1 (c_X12_finding_1 l g _ (z 0) (z 1) (z 2) (z 3) (z 4) (z 5) (z 6) (z 7) (z 8) (z 9) (z 10) (z 11) (z 12) (z 13) (z 14) (z 15) 0 0 0 0 0 ) rfl rfl rfl wd_10_15 wd_1_5 wd_10_12 wd_10_13 wd_10_14 yd_X12_finding ⟨Nat.le_of_ble_eq_true rfl, Nat.le_of_ble_eq_true rfl⟩ rfl rfl rfl rfl rfl (by decide) rfl (Nat.le_of_ble_eq_true rfl) dX12_child_69 ⟨Nat.le_of_ble_eq_true rfl, Nat.le_of_ble_eq_true rfl⟩ (fun r_9 u_10 H locs hw_11 hP hD hS => ?_)
          have hP : va_P g.1 vwCl [(z 1, .inl (gI g, 461, .inl mD0)), (z 2, .inl (gI g, 7376, .inl (fun _ => 0)))] H := hP
          have hD : va_D A [(z 1, .inl (gI g, 461, .inl mD0)), (z 2, .inl (gI g, 7376, .inl (fun _ => 0)))] := hD
          have hw_11 : r_9 = (-100001) := hw_11
          subst hw_11
          exact k_iret () [] hx hb hr hlk hP hD hS (by clear hP hD hS hA hts hKW hl; rw [← htt, ← hfr]; clear htt hfr; unfold aChild; (repeat' split) <;> first | rfl | (exfalso; first | omega | (simp only [Int32.lt_iff_toInt_lt, Int32.le_iff_toInt_le, ← Int32.toInt_inj] at *; omega) | (simp only [Int32.lt_iff_toInt_lt, Int32.le_iff_toInt_le, ← Int32.toInt_inj] at *; simp at *; omega) | (simp only [Int32.lt_iff_toInt_lt, Int32.le_iff_toInt_le, ← Int32.toInt_inj] at *; simp at *; done) | (simp at *; omega) | (simp at *; done))) rfl rfl rfl (Nat.le_of_ble_eq_true rfl) (Nat.le_of_ble_eq_true rfl) dX12_child_72
        · refine lv_iload hx hb dX12_child_39 (lv_at hl 4 rfl) ?_
          refine lv_bipush (v := 100) hx hb dX12_child_41 (by decide) ?_
          refine lv_idiv hx hb dX12_child_43 (by decide) ?_
          refine k_top (y := fr) hfr.symm ?_
          refine lv_iconst (v := 0) hx hb dX12_child_44 (by decide) ?_
          refine lv_bipush (v := 60) hx hb dX12_child_45 (by decide) ?_
          refine k_Si [] [0, 1, 2] (wr := [(z 0, .inr (12, [.ref (z 1), .ref (z 2), .int 0, .int 0, .ref (z 3), .ref (z 4), .ref (z 5), .ref (z 6), .int 0, .ref (z 7), .ref (z 8), .ref (z 9), .ref (z 10), .ref (z 11), .ref (z 12), .int 0, .ref (z 13), .ref (z 14), .int 0, .ref (z 15)])), (z 1, .inl (gI g, 461, .inl mD0)), (z 2, .inl (gI g, 7376, .inl (fun _ => 0)))]) hx hb hml hown hts hKW hP hD hS hA hl.1 (c_X12_isIn l g _ fr 0 60 ) wd_10_11 wd_1_5 wd_10_9 wd_10_10 yd_X12_isIn ⟨Nat.le_of_ble_eq_true rfl, Nat.le_of_ble_eq_true rfl⟩ rfl rfl rfl rfl rfl (by decide) rfl (Nat.le_of_ble_eq_true rfl) dX12_child_47 ⟨Nat.le_of_ble_eq_true rfl, Nat.le_of_ble_eq_true rfl⟩ (fun r_12 u_13 H locs hw_14 hP hD hS => ?_)
          have hP : va_P g.1 vwCl [(z 0, .inr (12, [.ref (z 1), .ref (z 2), .int 0, .int 0, .ref (z 3), .ref (z 4), .ref (z 5), .ref (z 6), .int 0, .ref (z 7), .ref (z 8), .ref (z 9), .ref (z 10), .ref (z 11), .ref (z 12), .int 0, .ref (z 13), .ref (z 14), .int 0, .ref (z 15)])), (z 1, .inl (gI g, 461, .inl mD0)), (z 2, .inl (gI g, 7376, .inl (fun _ => 0)))] H := hP
          have hD : va_D A [(z 0, .inr (12, [.ref (z 1), .ref (z 2), .int 0, .int 0, .ref (z 3), .ref (z 4), .ref (z 5), .ref (z 6), .int 0, .ref (z 7), .ref (z 8), .ref (z 9), .ref (z 10), .ref (z 11), .ref (z 12), .int 0, .ref (z 13), .ref (z 14), .int 0, .ref (z 15)])), (z 1, .inl (gI g, 461, .inl mD0)), (z 2, .inl (gI g, 7376, .inl (fun _ => 0)))] := hD
          rcases (show (r_12 = 1 ∧ (Int32.toInt 0 ≤ Int32.toInt fr ∧ Int32.toInt fr ≤ Int32.toInt 60)) ∨ (r_12 = 0 ∧ ¬ (Int32.toInt 0 ≤ Int32.toInt fr ∧ Int32.toInt fr ≤ Int32.toInt 60)) from hw_14) with ⟨rfl, hw_14b⟩ | ⟨rfl, hw_14b⟩ <;> clear hw_14
          · refine lv_if_eq (tgt := 67) hx hb dX12_child_50 (by decide) (fun c => absurd c (by decide)) (fun _ => ?_)
            refine lv_iload hx hb dX12_child_53 (lv_at hl 4 rfl) ?_
            refine lv_bipush (v := 100) hx hb dX12_child_55 (by decide) ?_
            refine lv_irem hx hb dX12_child_57 (by decide) ?_
            refine k_top (y := tt) htt.symm ?_
            refine lv_iconst (v := 0) hx hb dX12_child_58 (by decide) ?_
            refine lv_bipush (v := 60) hx hb dX12_child_59 (by decide) ?_
            refine k_Si [] [0, 1, 2] (wr := [(z 0, .inr (12, [.ref (z 1), .ref (z 2), .int 0, .int 0, .ref (z 3), .ref (z 4), .ref (z 5), .ref (z 6), .int 0, .ref (z 7), .ref (z 8), .ref (z 9), .ref (z 10), .ref (z 11), .ref (z 12), .int 0, .ref (z 13), .ref (z 14), .int 0, .ref (z 15)])), (z 1, .inl (gI g, 461, .inl mD0)), (z 2, .inl (gI g, 7376, .inl (fun _ => 0)))]) hx hb hml hown hts hKW hP hD hS hA hl.1 (c_X12_isIn l g _ tt 0 60 ) wd_10_11 wd_1_5 wd_10_9 wd_10_10 yd_X12_isIn ⟨Nat.le_of_ble_eq_true rfl, Nat.le_of_ble_eq_true rfl⟩ rfl rfl rfl rfl rfl (by decide) rfl (Nat.le_of_ble_eq_true rfl) dX12_child_61 ⟨Nat.le_of_ble_eq_true rfl, Nat.le_of_ble_eq_true rfl⟩ (fun r_15 u_16 H locs hw_17 hP hD hS => ?_)
            have hP : va_P g.1 vwCl [(z 0, .inr (12, [.ref (z 1), .ref (z 2), .int 0, .int 0, .ref (z 3), .ref (z 4), .ref (z 5), .ref (z 6), .int 0, .ref (z 7), .ref (z 8), .ref (z 9), .ref (z 10), .ref (z 11), .ref (z 12), .int 0, .ref (z 13), .ref (z 14), .int 0, .ref (z 15)])), (z 1, .inl (gI g, 461, .inl mD0)), (z 2, .inl (gI g, 7376, .inl (fun _ => 0)))] H := hP
            have hD : va_D A [(z 0, .inr (12, [.ref (z 1), .ref (z 2), .int 0, .int 0, .ref (z 3), .ref (z 4), .ref (z 5), .ref (z 6), .int 0, .ref (z 7), .ref (z 8), .ref (z 9), .ref (z 10), .ref (z 11), .ref (z 12), .int 0, .ref (z 13), .ref (z 14), .int 0, .ref (z 15)])), (z 1, .inl (gI g, 461, .inl mD0)), (z 2, .inl (gI g, 7376, .inl (fun _ => 0)))] := hD
            rcases (show (r_15 = 1 ∧ (Int32.toInt 0 ≤ Int32.toInt tt ∧ Int32.toInt tt ≤ Int32.toInt 60)) ∨ (r_15 = 0 ∧ ¬ (Int32.toInt 0 ≤ Int32.toInt tt ∧ Int32.toInt tt ≤ Int32.toInt 60)) from hw_17) with ⟨rfl, hw_17b⟩ | ⟨rfl, hw_17b⟩ <;> clear hw_17
            · refine lv_if_ne (tgt := 73) hx hb dX12_child_64 (by decide) (fun _ => ?_) (fun c => absurd c (by decide))
              refine lv_iload hx hb dX12_child_73 (lv_at hl 4 rfl) ?_
              refine lv_bipush (v := 100) hx hb dX12_child_75 (by decide) ?_
              refine lv_idiv hx hb dX12_child_77 (by decide) ?_
              refine k_top (y := fr) hfr.symm ?_
              refine lv_iload hx hb dX12_child_78 (lv_at hl 4 rfl) ?_
              refine lv_bipush (v := 100) hx hb dX12_child_80 (by decide) ?_
              refine lv_irem hx hb dX12_child_82 (by decide) ?_
              refine k_top (y := tt) htt.symm ?_
              refine lv_icmp_le (tgt := 92) hx hb dX12_child_83 (by decide) (fun c_18 => ?_) (fun c_18 => ?_)
              · refine lv_aload_n hx hb dX12_child_92 rfl (lv_at hl 0 rfl) ?_
                refine va_get (ci := 12) (C := RX12) (T := TX12) (N := 20) hx hb hts inlX12 hown hKW.1 hP 0 rfl rfl 0 (by decide) (hts _ wd_6_5) (fun _ h => h) rfl dX12_child_93 ?_
                refine lv_iconst (v := 2) hx hb dX12_child_96 (by decide) ?_
                refine va_iald hx hb hKW.1 hP 1 0 rfl rfl (show ¬ _ by decide) dX12_child_97 ?_
                refine k_top (y := 0) rfl ?_
                refine lv_bipush (v := 10) hx hb dX12_child_98 (by decide) ?_
                refine lv_icmp_ne (tgt := 109) hx hb dX12_child_100 (by decide) (fun _ => ?_) (fun c => absurd c (by decide))
                refine lv_aload_n hx hb dX12_child_109 rfl (lv_at hl 0 rfl) ?_
                refine k_Vv [0, 1, 2] [] 0 12 (wr := []) hx hb hml hown hts hKW hP hD hS hA hl.1 (c_X12_keep0 l g _ z ) rfl rfl rfl wd_10_21 wd_1_5 wd_10_18 wd_10_19 wd_10_20 yd_X12_keep ⟨Nat.le_of_ble_eq_true rfl, Nat.le_of_ble_eq_true rfl⟩ rfl rfl rfl rfl rfl (by decide) rfl (Nat.le_of_ble_eq_true rfl) dX12_child_110 ⟨Nat.le_of_ble_eq_true rfl, Nat.le_of_ble_eq_true rfl⟩ (fun u_20 H locs hw_21 hP hD hS => ?_)
                have hP : va_P g.1 vwCl [(z 0, .inr (12, [.ref (z 1), .ref (z 2), .int 1, .int 0, .ref (z 3), .ref (z 4), .ref (z 5), .ref (z 6), .int 0, .ref (z 7), .ref (z 8), .ref (z 9), .ref (z 10), .ref (z 11), .ref (z 12), .int 0, .ref (z 13), .ref (z 14), .int 0, .ref (z 15)])), (z 1, .inl (gI g, 461, .inl mD0))] H := hP
                have hD : va_D A [(z 0, .inr (12, [.ref (z 1), .ref (z 2), .int 1, .int 0, .ref (z 3), .ref (z 4), .ref (z 5), .ref (z 6), .int 0, .ref (z 7), .ref (z 8), .ref (z 9), .ref (z 10), .ref (z 11), .ref (z 12), .int 0, .ref (z 13), .ref (z 14), .int 0, .ref (z 15)])), (z 1, .inl (gI g, 461, .inl mD0))] := hD
                refine lv_aload_n hx hb dX12_child_113 rfl (lv_at hl 0 rfl) ?_
                refine va_get (ci := 12) (C := RX12) (T := TX12) (N := 20) hx hb hts inlX12 hown hKW.1 hP 0 rfl rfl 0 (by decide) (hts _ wd_6_5) (fun _ h => h) rfl dX12_child_114 ?_
                refine lv_iconst (v := 2) hx hb dX12_child_117 (by decide) ?_
                refine va_iald hx hb hKW.1 hP 1 0 rfl rfl (show ¬ _ by decide) dX12_child_118 ?_
                refine k_top (y := 0) rfl ?_
                refine lv_istore (lv' := [(5, .int 0), (0, .ref (z 0)), (1, .int bi), (2, .int si), (3, .int se), (4, .int mo)]) hx hb dX12_child_119 hl (by decide) rfl (fun ls hl => ?_)
                refine lv_aload_n hx hb dX12_child_121 rfl (lv_at hl 1 rfl) ?_
                refine va_get (ci := 12) (C := RX12) (T := TX12) (N := 20) hx hb hts inlX12 hown hKW.1 hP 0 rfl rfl 0 (by decide) (hts _ wd_6_5) (fun _ h => h) rfl dX12_child_122 ?_
                refine lv_bipush (v := 47) hx hb dX12_child_125 (by decide) ?_
                refine lv_iload hx hb dX12_child_127 (lv_at hl 0 rfl) ?_
                refine lv_iadd hx hb dX12_child_129 ?_
                refine k_top (y := 47) (by decide) ?_
                refine lv_iload_n hx hb dX12_child_130 rfl (lv_at hl 2 rfl) ?_
                refine va_iast hx hb hKW.1 hP hD hS 1 0 rfl rfl (show ¬ _ by decide) dX12_child_131 (fun H locs hP hD hS => ?_)
                have hP : va_P g.1 vwCl [(z 0, .inr (12, [.ref (z 1), .ref (z 2), .int 1, .int 0, .ref (z 3), .ref (z 4), .ref (z 5), .ref (z 6), .int 0, .ref (z 7), .ref (z 8), .ref (z 9), .ref (z 10), .ref (z 11), .ref (z 12), .int 0, .ref (z 13), .ref (z 14), .int 0, .ref (z 15)])), (z 1, .inl (gI g, 461, .inl (upd mD0 47 bi)))] H := hP
                have hD : va_D A [(z 0, .inr (12, [.ref (z 1), .ref (z 2), .int 1, .int 0, .ref (z 3), .ref (z 4), .ref (z 5), .ref (z 6), .int 0, .ref (z 7), .ref (z 8), .ref (z 9), .ref (z 10), .ref (z 11), .ref (z 12), .int 0, .ref (z 13), .ref (z 14), .int 0, .ref (z 15)])), (z 1, .inl (gI g, 461, .inl (upd mD0 47 bi)))] := hD
                obtain ⟨f_22, ef_22⟩ : ∃ zz_ : Nat → Int32, zz_ = upd mD0 47 bi := ⟨_, rfl⟩
                rw [← ef_22] at hP hD
                refine lv_aload_n hx hb dX12_child_132 rfl (lv_at hl 1 rfl) ?_
                refine va_get (ci := 12) (C := RX12) (T := TX12) (N := 20) hx hb hts inlX12 hown hKW.1 hP 0 rfl rfl 0 (by decide) (hts _ wd_6_5) (fun _ h => h) rfl dX12_child_133 ?_
                refine lv_bipush (v := 57) hx hb dX12_child_136 (by decide) ?_
                refine lv_iload hx hb dX12_child_138 (lv_at hl 0 rfl) ?_
                refine lv_iadd hx hb dX12_child_140 ?_
                refine k_top (y := 57) (by decide) ?_
                refine lv_iload_n hx hb dX12_child_141 rfl (lv_at hl 3 rfl) ?_
                refine va_iast hx hb hKW.1 hP hD hS 1 0 rfl rfl (show ¬ _ by decide) dX12_child_142 (fun H locs hP hD hS => ?_)
                have hP : va_P g.1 vwCl [(z 0, .inr (12, [.ref (z 1), .ref (z 2), .int 1, .int 0, .ref (z 3), .ref (z 4), .ref (z 5), .ref (z 6), .int 0, .ref (z 7), .ref (z 8), .ref (z 9), .ref (z 10), .ref (z 11), .ref (z 12), .int 0, .ref (z 13), .ref (z 14), .int 0, .ref (z 15)])), (z 1, .inl (gI g, 461, .inl (upd f_22 57 si)))] H := hP
                have hD : va_D A [(z 0, .inr (12, [.ref (z 1), .ref (z 2), .int 1, .int 0, .ref (z 3), .ref (z 4), .ref (z 5), .ref (z 6), .int 0, .ref (z 7), .ref (z 8), .ref (z 9), .ref (z 10), .ref (z 11), .ref (z 12), .int 0, .ref (z 13), .ref (z 14), .int 0, .ref (z 15)])), (z 1, .inl (gI g, 461, .inl (upd f_22 57 si)))] := hD
                obtain ⟨f_23, ef_23⟩ : ∃ zz_ : Nat → Int32, zz_ = upd f_22 57 si := ⟨_, rfl⟩
                rw [← ef_23] at hP hD
                refine lv_aload_n hx hb dX12_child_143 rfl (lv_at hl 1 rfl) ?_
                refine va_get (ci := 12) (C := RX12) (T := TX12) (N := 20) hx hb hts inlX12 hown hKW.1 hP 0 rfl rfl 0 (by decide) (hts _ wd_6_5) (fun _ h => h) rfl dX12_child_144 ?_
                refine lv_bipush (v := 67) hx hb dX12_child_147 (by decide) ?_
                refine lv_iload hx hb dX12_child_149 (lv_at hl 0 rfl) ?_
                refine lv_iadd hx hb dX12_child_151 ?_
                refine k_top (y := 67) (by decide) ?_
                refine lv_iload_n hx hb dX12_child_152 rfl (lv_at hl 4 rfl) ?_
                refine va_iast hx hb hKW.1 hP hD hS 1 0 rfl rfl (show ¬ _ by decide) dX12_child_153 (fun H locs hP hD hS => ?_)
                have hP : va_P g.1 vwCl [(z 0, .inr (12, [.ref (z 1), .ref (z 2), .int 1, .int 0, .ref (z 3), .ref (z 4), .ref (z 5), .ref (z 6), .int 0, .ref (z 7), .ref (z 8), .ref (z 9), .ref (z 10), .ref (z 11), .ref (z 12), .int 0, .ref (z 13), .ref (z 14), .int 0, .ref (z 15)])), (z 1, .inl (gI g, 461, .inl (upd f_23 67 se)))] H := hP
                have hD : va_D A [(z 0, .inr (12, [.ref (z 1), .ref (z 2), .int 1, .int 0, .ref (z 3), .ref (z 4), .ref (z 5), .ref (z 6), .int 0, .ref (z 7), .ref (z 8), .ref (z 9), .ref (z 10), .ref (z 11), .ref (z 12), .int 0, .ref (z 13), .ref (z 14), .int 0, .ref (z 15)])), (z 1, .inl (gI g, 461, .inl (upd f_23 67 se)))] := hD
                obtain ⟨f_24, ef_24⟩ : ∃ zz_ : Nat → Int32, zz_ = upd f_23 67 se := ⟨_, rfl⟩
                rw [← ef_24] at hP hD
                refine lv_aload_n hx hb dX12_child_154 rfl (lv_at hl 1 rfl) ?_
                refine va_get (ci := 12) (C := RX12) (T := TX12) (N := 20) hx hb hts inlX12 hown hKW.1 hP 0 rfl rfl 0 (by decide) (hts _ wd_6_5) (fun _ h => h) rfl dX12_child_155 ?_
                refine lv_bipush (v := 77) hx hb dX12_child_158 (by decide) ?_
                refine lv_iload hx hb dX12_child_160 (lv_at hl 0 rfl) ?_
                refine lv_iadd hx hb dX12_child_162 ?_
                refine k_top (y := 77) (by decide) ?_
                refine lv_iload hx hb dX12_child_163 (lv_at hl 5 rfl) ?_
                refine lv_bipush (v := 100) hx hb dX12_child_165 (by decide) ?_
                refine lv_idiv hx hb dX12_child_167 (by decide) ?_
                refine k_top (y := fr) hfr.symm ?_
                refine va_iast hx hb hKW.1 hP hD hS 1 0 rfl rfl (show ¬ _ by decide) dX12_child_168 (fun H locs hP hD hS => ?_)
                have hP : va_P g.1 vwCl [(z 0, .inr (12, [.ref (z 1), .ref (z 2), .int 1, .int 0, .ref (z 3), .ref (z 4), .ref (z 5), .ref (z 6), .int 0, .ref (z 7), .ref (z 8), .ref (z 9), .ref (z 10), .ref (z 11), .ref (z 12), .int 0, .ref (z 13), .ref (z 14), .int 0, .ref (z 15)])), (z 1, .inl (gI g, 461, .inl (upd f_24 77 fr)))] H := hP
                have hD : va_D A [(z 0, .inr (12, [.ref (z 1), .ref (z 2), .int 1, .int 0, .ref (z 3), .ref (z 4), .ref (z 5), .ref (z 6), .int 0, .ref (z 7), .ref (z 8), .ref (z 9), .ref (z 10), .ref (z 11), .ref (z 12), .int 0, .ref (z 13), .ref (z 14), .int 0, .ref (z 15)])), (z 1, .inl (gI g, 461, .inl (upd f_24 77 fr)))] := hD
                obtain ⟨f_25, ef_25⟩ : ∃ zz_ : Nat → Int32, zz_ = upd f_24 77 fr := ⟨_, rfl⟩
                rw [← ef_25] at hP hD
                refine lv_aload_n hx hb dX12_child_169 rfl (lv_at hl 1 rfl) ?_
                refine va_get (ci := 12) (C := RX12) (T := TX12) (N := 20) hx hb hts inlX12 hown hKW.1 hP 0 rfl rfl 0 (by decide) (hts _ wd_6_5) (fun _ h => h) rfl dX12_child_170 ?_
                refine lv_bipush (v := 87) hx hb dX12_child_173 (by decide) ?_
                refine lv_iload hx hb dX12_child_175 (lv_at hl 0 rfl) ?_
                refine lv_iadd hx hb dX12_child_177 ?_
                refine k_top (y := 87) (by decide) ?_
                refine lv_iload hx hb dX12_child_178 (lv_at hl 5 rfl) ?_
                refine lv_bipush (v := 100) hx hb dX12_child_180 (by decide) ?_
                refine lv_irem hx hb dX12_child_182 (by decide) ?_
                refine k_top (y := tt) htt.symm ?_
                refine va_iast hx hb hKW.1 hP hD hS 1 0 rfl rfl (show ¬ _ by decide) dX12_child_183 (fun H locs hP hD hS => ?_)
                have hP : va_P g.1 vwCl [(z 0, .inr (12, [.ref (z 1), .ref (z 2), .int 1, .int 0, .ref (z 3), .ref (z 4), .ref (z 5), .ref (z 6), .int 0, .ref (z 7), .ref (z 8), .ref (z 9), .ref (z 10), .ref (z 11), .ref (z 12), .int 0, .ref (z 13), .ref (z 14), .int 0, .ref (z 15)])), (z 1, .inl (gI g, 461, .inl (upd f_25 87 tt)))] H := hP
                have hD : va_D A [(z 0, .inr (12, [.ref (z 1), .ref (z 2), .int 1, .int 0, .ref (z 3), .ref (z 4), .ref (z 5), .ref (z 6), .int 0, .ref (z 7), .ref (z 8), .ref (z 9), .ref (z 10), .ref (z 11), .ref (z 12), .int 0, .ref (z 13), .ref (z 14), .int 0, .ref (z 15)])), (z 1, .inl (gI g, 461, .inl (upd f_25 87 tt)))] := hD
                obtain ⟨f_26, ef_26⟩ : ∃ zz_ : Nat → Int32, zz_ = upd f_25 87 tt := ⟨_, rfl⟩
                rw [← ef_26] at hP hD
                refine lv_aload_n hx hb dX12_child_184 rfl (lv_at hl 1 rfl) ?_
                refine va_get (ci := 12) (C := RX12) (T := TX12) (N := 20) hx hb hts inlX12 hown hKW.1 hP 0 rfl rfl 0 (by decide) (hts _ wd_6_5) (fun _ h => h) rfl dX12_child_185 ?_
                refine lv_bipush (v := 97) hx hb dX12_child_188 (by decide) ?_
                refine lv_iload hx hb dX12_child_190 (lv_at hl 0 rfl) ?_
                refine lv_iadd hx hb dX12_child_192 ?_
                refine k_top (y := 97) (by decide) ?_
                refine lv_iconst (v := (-1)) hx hb dX12_child_193 (by decide) ?_
                refine va_iast hx hb hKW.1 hP hD hS 1 0 rfl rfl (show ¬ _ by decide) dX12_child_194 (fun H locs hP hD hS => ?_)
                have hP : va_P g.1 vwCl [(z 0, .inr (12, [.ref (z 1), .ref (z 2), .int 1, .int 0, .ref (z 3), .ref (z 4), .ref (z 5), .ref (z 6), .int 0, .ref (z 7), .ref (z 8), .ref (z 9), .ref (z 10), .ref (z 11), .ref (z 12), .int 0, .ref (z 13), .ref (z 14), .int 0, .ref (z 15)])), (z 1, .inl (gI g, 461, .inl (upd f_26 97 (-1))))] H := hP
                have hD : va_D A [(z 0, .inr (12, [.ref (z 1), .ref (z 2), .int 1, .int 0, .ref (z 3), .ref (z 4), .ref (z 5), .ref (z 6), .int 0, .ref (z 7), .ref (z 8), .ref (z 9), .ref (z 10), .ref (z 11), .ref (z 12), .int 0, .ref (z 13), .ref (z 14), .int 0, .ref (z 15)])), (z 1, .inl (gI g, 461, .inl (upd f_26 97 (-1))))] := hD
                obtain ⟨f_27, ef_27⟩ : ∃ zz_ : Nat → Int32, zz_ = upd f_26 97 (-1) := ⟨_, rfl⟩
                rw [← ef_27] at hP hD
                refine lv_aload_n hx hb dX12_child_195 rfl (lv_at hl 1 rfl) ?_
                refine va_get (ci := 12) (C := RX12) (T := TX12) (N := 20) hx hb hts inlX12 hown hKW.1 hP 0 rfl rfl 0 (by decide) (hts _ wd_6_5) (fun _ h => h) rfl dX12_child_196 ?_
                refine lv_bipush (v := 107) hx hb dX12_child_199 (by decide) ?_
                refine lv_iload hx hb dX12_child_201 (lv_at hl 0 rfl) ?_
                refine lv_iadd hx hb dX12_child_203 ?_
                refine k_top (y := 107) (by decide) ?_
                refine lv_iconst (v := 0) hx hb dX12_child_204 (by decide) ?_
                refine va_iast hx hb hKW.1 hP hD hS 1 0 rfl rfl (show ¬ _ by decide) dX12_child_205 (fun H locs hP hD hS => ?_)
                have hP : va_P g.1 vwCl [(z 0, .inr (12, [.ref (z 1), .ref (z 2), .int 1, .int 0, .ref (z 3), .ref (z 4), .ref (z 5), .ref (z 6), .int 0, .ref (z 7), .ref (z 8), .ref (z 9), .ref (z 10), .ref (z 11), .ref (z 12), .int 0, .ref (z 13), .ref (z 14), .int 0, .ref (z 15)])), (z 1, .inl (gI g, 461, .inl (upd f_27 107 0)))] H := hP
                have hD : va_D A [(z 0, .inr (12, [.ref (z 1), .ref (z 2), .int 1, .int 0, .ref (z 3), .ref (z 4), .ref (z 5), .ref (z 6), .int 0, .ref (z 7), .ref (z 8), .ref (z 9), .ref (z 10), .ref (z 11), .ref (z 12), .int 0, .ref (z 13), .ref (z 14), .int 0, .ref (z 15)])), (z 1, .inl (gI g, 461, .inl (upd f_27 107 0)))] := hD
                obtain ⟨f_28, ef_28⟩ : ∃ zz_ : Nat → Int32, zz_ = upd f_27 107 0 := ⟨_, rfl⟩
                rw [← ef_28] at hP hD
                refine lv_aload_n hx hb dX12_child_206 rfl (lv_at hl 1 rfl) ?_
                refine va_get (ci := 12) (C := RX12) (T := TX12) (N := 20) hx hb hts inlX12 hown hKW.1 hP 0 rfl rfl 0 (by decide) (hts _ wd_6_5) (fun _ h => h) rfl dX12_child_207 ?_
                refine lv_bipush (v := 117) hx hb dX12_child_210 (by decide) ?_
                refine lv_iload hx hb dX12_child_212 (lv_at hl 0 rfl) ?_
                refine lv_iadd hx hb dX12_child_214 ?_
                refine k_top (y := 117) (by decide) ?_
                refine lv_iconst (v := 0) hx hb dX12_child_215 (by decide) ?_
                refine va_iast hx hb hKW.1 hP hD hS 1 0 rfl rfl (show ¬ _ by decide) dX12_child_216 (fun H locs hP hD hS => ?_)
                have hP : va_P g.1 vwCl [(z 0, .inr (12, [.ref (z 1), .ref (z 2), .int 1, .int 0, .ref (z 3), .ref (z 4), .ref (z 5), .ref (z 6), .int 0, .ref (z 7), .ref (z 8), .ref (z 9), .ref (z 10), .ref (z 11), .ref (z 12), .int 0, .ref (z 13), .ref (z 14), .int 0, .ref (z 15)])), (z 1, .inl (gI g, 461, .inl (upd f_28 117 0)))] H := hP
                have hD : va_D A [(z 0, .inr (12, [.ref (z 1), .ref (z 2), .int 1, .int 0, .ref (z 3), .ref (z 4), .ref (z 5), .ref (z 6), .int 0, .ref (z 7), .ref (z 8), .ref (z 9), .ref (z 10), .ref (z 11), .ref (z 12), .int 0, .ref (z 13), .ref (z 14), .int 0, .ref (z 15)])), (z 1, .inl (gI g, 461, .inl (upd f_28 117 0)))] := hD
                obtain ⟨f_29, ef_29⟩ : ∃ zz_ : Nat → Int32, zz_ = upd f_28 117 0 := ⟨_, rfl⟩
                rw [← ef_29] at hP hD
                refine lv_aload_n hx hb dX12_child_217 rfl (lv_at hl 1 rfl) ?_
                refine va_get (ci := 12) (C := RX12) (T := TX12) (N := 20) hx hb hts inlX12 hown hKW.1 hP 0 rfl rfl 0 (by decide) (hts _ wd_6_5) (fun _ h => h) rfl dX12_child_218 ?_
                refine lv_bipush (v := 127) hx hb dX12_child_221 (by decide) ?_
                refine lv_iload hx hb dX12_child_223 (lv_at hl 0 rfl) ?_
                refine lv_iadd hx hb dX12_child_225 ?_
                refine k_top (y := 127) (by decide) ?_
                refine lv_iconst (v := 0) hx hb dX12_child_226 (by decide) ?_
                refine va_iast hx hb hKW.1 hP hD hS 1 0 rfl rfl (show ¬ _ by decide) dX12_child_227 (fun H locs hP hD hS => ?_)
                have hP : va_P g.1 vwCl [(z 0, .inr (12, [.ref (z 1), .ref (z 2), .int 1, .int 0, .ref (z 3), .ref (z 4), .ref (z 5), .ref (z 6), .int 0, .ref (z 7), .ref (z 8), .ref (z 9), .ref (z 10), .ref (z 11), .ref (z 12), .int 0, .ref (z 13), .ref (z 14), .int 0, .ref (z 15)])), (z 1, .inl (gI g, 461, .inl (upd f_29 127 0)))] H := hP
                have hD : va_D A [(z 0, .inr (12, [.ref (z 1), .ref (z 2), .int 1, .int 0, .ref (z 3), .ref (z 4), .ref (z 5), .ref (z 6), .int 0, .ref (z 7), .ref (z 8), .ref (z 9), .ref (z 10), .ref (z 11), .ref (z 12), .int 0, .ref (z 13), .ref (z 14), .int 0, .ref (z 15)])), (z 1, .inl (gI g, 461, .inl (upd f_29 127 0)))] := hD
                obtain ⟨f_30, ef_30⟩ : ∃ zz_ : Nat → Int32, zz_ = upd f_29 127 0 := ⟨_, rfl⟩
                rw [← ef_30] at hP hD
                refine lv_aload_n hx hb dX12_child_228 rfl (lv_at hl 1 rfl) ?_
                refine va_get (ci := 12) (C := RX12) (T := TX12) (N := 20) hx hb hts inlX12 hown hKW.1 hP 0 rfl rfl 0 (by decide) (hts _ wd_6_5) (fun _ h => h) rfl dX12_child_229 ?_
                refine lv_iconst (v := 2) hx hb dX12_child_232 (by decide) ?_
                refine lv_dup2_11 hx hb dX12_child_233 rfl rfl ?_
                refine va_iald hx hb hKW.1 hP 1 0 rfl rfl (show ¬ _ by decide) dX12_child_234 ?_
                refine k_top (y := f_30 2) rfl ?_
                refine lv_iconst (v := 1) hx hb dX12_child_235 (by decide) ?_
                refine lv_iadd hx hb dX12_child_236 ?_
                refine va_iast hx hb hKW.1 hP hD hS 1 0 rfl rfl (show ¬ _ by decide) dX12_child_237 (fun H locs hP hD hS => ?_)
                have hP : va_P g.1 vwCl [(z 0, .inr (12, [.ref (z 1), .ref (z 2), .int 1, .int 0, .ref (z 3), .ref (z 4), .ref (z 5), .ref (z 6), .int 0, .ref (z 7), .ref (z 8), .ref (z 9), .ref (z 10), .ref (z 11), .ref (z 12), .int 0, .ref (z 13), .ref (z 14), .int 0, .ref (z 15)])), (z 1, .inl (gI g, 461, .inl (upd f_30 2 ((f_30 2) + 1))))] H := hP
                have hD : va_D A [(z 0, .inr (12, [.ref (z 1), .ref (z 2), .int 1, .int 0, .ref (z 3), .ref (z 4), .ref (z 5), .ref (z 6), .int 0, .ref (z 7), .ref (z 8), .ref (z 9), .ref (z 10), .ref (z 11), .ref (z 12), .int 0, .ref (z 13), .ref (z 14), .int 0, .ref (z 15)])), (z 1, .inl (gI g, 461, .inl (upd f_30 2 ((f_30 2) + 1))))] := hD
                obtain ⟨f_31, ef_31⟩ : ∃ zz_ : Nat → Int32, zz_ = upd f_30 2 ((f_30 2) + 1) := ⟨_, rfl⟩
                rw [← ef_31] at hP hD
                refine lv_iload hx hb dX12_child_238 (lv_at hl 0 rfl) ?_
                exact k_iret () [] hx hb hr hlk hP hD hS (by clear hP hD hS hA hts hKW hl; rw [← htt, ← hfr]; clear htt hfr; unfold aChild; (repeat' split) <;> first | rfl | (exfalso; first | omega | (simp only [Int32.lt_iff_toInt_lt, Int32.le_iff_toInt_le, ← Int32.toInt_inj] at *; omega) | (simp only [Int32.lt_iff_toInt_lt, Int32.le_iff_toInt_le, ← Int32.toInt_inj] at *; simp at *; omega) | (simp only [Int32.lt_iff_toInt_lt, Int32.le_iff_toInt_le, ← Int32.toInt_inj] at *; simp at *; done) | (simp at *; omega) | (simp at *; done))) rfl rfl rfl (Nat.le_of_ble_eq_true rfl) (Nat.le_of_ble_eq_true rfl) dX12_child_240
              · refine lv_aload_n hx hb dX12_child_86 rfl (lv_at hl 0 rfl) ?_
                refine lv_iconst (v := 3) hx hb dX12_child_87 (by decide) ?_
                refine k_Vi [0] [1, 2] 0 12 (wr := [(z 1, .inl (gI g, 461, .inl mD0)), (z 2, .inl (gI g, 7376, .inl (fun _ => 0)))]) hx hb hml hown hts hKW hP hD hS hA hl.1 (c_X12_finding_3 l g _ (z 0) (z 1) (z 2) (z 3) (z 4) (z 5) (z 6) (z 7) (z 8) (z 9) (z 10) (z 11) (z 12) (z 13) (z 14) (z 15) 0 0 0 0 0 ) rfl rfl rfl wd_10_15 wd_1_5 wd_10_12 wd_10_13 wd_10_14 yd_X12_finding ⟨Nat.le_of_ble_eq_true rfl, Nat.le_of_ble_eq_true rfl⟩ rfl rfl rfl rfl rfl (by decide) rfl (Nat.le_of_ble_eq_true rfl) dX12_child_88 ⟨Nat.le_of_ble_eq_true rfl, Nat.le_of_ble_eq_true rfl⟩ (fun r_32 u_33 H locs hw_34 hP hD hS => ?_)
                have hP : va_P g.1 vwCl [(z 1, .inl (gI g, 461, .inl mD0)), (z 2, .inl (gI g, 7376, .inl (fun _ => 0)))] H := hP
                have hD : va_D A [(z 1, .inl (gI g, 461, .inl mD0)), (z 2, .inl (gI g, 7376, .inl (fun _ => 0)))] := hD
                have hw_34 : r_32 = (-100003) := hw_34
                subst hw_34
                exact k_iret () [] hx hb hr hlk hP hD hS (by clear hP hD hS hA hts hKW hl; rw [← htt, ← hfr]; clear htt hfr; unfold aChild; (repeat' split) <;> first | rfl | (exfalso; first | omega | (simp only [Int32.lt_iff_toInt_lt, Int32.le_iff_toInt_le, ← Int32.toInt_inj] at *; omega) | (simp only [Int32.lt_iff_toInt_lt, Int32.le_iff_toInt_le, ← Int32.toInt_inj] at *; simp at *; omega) | (simp only [Int32.lt_iff_toInt_lt, Int32.le_iff_toInt_le, ← Int32.toInt_inj] at *; simp at *; done) | (simp at *; omega) | (simp at *; done))) rfl rfl rfl (Nat.le_of_ble_eq_true rfl) (Nat.le_of_ble_eq_true rfl) dX12_child_91
            · refine lv_if_ne (tgt := 73) hx hb dX12_child_64 (by decide) (fun c => absurd c (by decide)) (fun _ => ?_)
              refine lv_aload_n hx hb dX12_child_67 rfl (lv_at hl 0 rfl) ?_
              refine lv_iconst (v := 1) hx hb dX12_child_68 (by decide) ?_
              refine k_Vi [0] [1, 2] 0 12 (wr := [(z 1, .inl (gI g, 461, .inl mD0)), (z 2, .inl (gI g, 7376, .inl (fun _ => 0)))]) hx hb hml hown hts hKW hP hD hS hA hl.1 (c_X12_finding_1 l g _ (z 0) (z 1) (z 2) (z 3) (z 4) (z 5) (z 6) (z 7) (z 8) (z 9) (z 10) (z 11) (z 12) (z 13) (z 14) (z 15) 0 0 0 0 0 ) rfl rfl rfl wd_10_15 wd_1_5 wd_10_12 wd_10_13 wd_10_14 yd_X12_finding ⟨Nat.le_of_ble_eq_true rfl, Nat.le_of_ble_eq_true rfl⟩ rfl rfl rfl rfl rfl (by decide) rfl (Nat.le_of_ble_eq_true rfl) dX12_child_69 ⟨Nat.le_of_ble_eq_true rfl, Nat.le_of_ble_eq_true rfl⟩ (fun r_35 u_36 H locs hw_37 hP hD hS => ?_)
              have hP : va_P g.1 vwCl [(z 1, .inl (gI g, 461, .inl mD0)), (z 2, .inl (gI g, 7376, .inl (fun _ => 0)))] H := hP
              have hD : va_D A [(z 1, .inl (gI g, 461, .inl mD0)), (z 2, .inl (gI g, 7376, .inl (fun _ => 0)))] := hD
              have hw_37 : r_35 = (-100001) := hw_37
              subst hw_37
              exact k_iret () [] hx hb hr hlk hP hD hS (by clear hP hD hS hA hts hKW hl; rw [← htt, ← hfr]; clear htt hfr; unfold aChild; (repeat' split) <;> first | rfl | (exfalso; first | omega | (simp only [Int32.lt_iff_toInt_lt, Int32.le_iff_toInt_le, ← Int32.toInt_inj] at *; omega) | (simp only [Int32.lt_iff_toInt_lt, Int32.le_iff_toInt_le, ← Int32.toInt_inj] at *; simp at *; omega) | (simp only [Int32.lt_iff_toInt_lt, Int32.le_iff_toInt_le, ← Int32.toInt_inj] at *; simp at *; done) | (simp at *; omega) | (simp at *; done))) rfl rfl rfl (Nat.le_of_ble_eq_true rfl) (Nat.le_of_ble_eq_true rfl) dX12_child_72
          · refine lv_if_eq (tgt := 67) hx hb dX12_child_50 (by decide) (fun _ => ?_) (fun c => absurd c (by decide))
            refine lv_aload_n hx hb dX12_child_67 rfl (lv_at hl 0 rfl) ?_
            refine lv_iconst (v := 1) hx hb dX12_child_68 (by decide) ?_
            refine k_Vi [0] [1, 2] 0 12 (wr := [(z 1, .inl (gI g, 461, .inl mD0)), (z 2, .inl (gI g, 7376, .inl (fun _ => 0)))]) hx hb hml hown hts hKW hP hD hS hA hl.1 (c_X12_finding_1 l g _ (z 0) (z 1) (z 2) (z 3) (z 4) (z 5) (z 6) (z 7) (z 8) (z 9) (z 10) (z 11) (z 12) (z 13) (z 14) (z 15) 0 0 0 0 0 ) rfl rfl rfl wd_10_15 wd_1_5 wd_10_12 wd_10_13 wd_10_14 yd_X12_finding ⟨Nat.le_of_ble_eq_true rfl, Nat.le_of_ble_eq_true rfl⟩ rfl rfl rfl rfl rfl (by decide) rfl (Nat.le_of_ble_eq_true rfl) dX12_child_69 ⟨Nat.le_of_ble_eq_true rfl, Nat.le_of_ble_eq_true rfl⟩ (fun r_38 u_39 H locs hw_40 hP hD hS => ?_)
            have hP : va_P g.1 vwCl [(z 1, .inl (gI g, 461, .inl mD0)), (z 2, .inl (gI g, 7376, .inl (fun _ => 0)))] H := hP
            have hD : va_D A [(z 1, .inl (gI g, 461, .inl mD0)), (z 2, .inl (gI g, 7376, .inl (fun _ => 0)))] := hD
            have hw_40 : r_38 = (-100001) := hw_40
            subst hw_40
            exact k_iret () [] hx hb hr hlk hP hD hS (by clear hP hD hS hA hts hKW hl; rw [← htt, ← hfr]; clear htt hfr; unfold aChild; (repeat' split) <;> first | rfl | (exfalso; first | omega | (simp only [Int32.lt_iff_toInt_lt, Int32.le_iff_toInt_le, ← Int32.toInt_inj] at *; omega) | (simp only [Int32.lt_iff_toInt_lt, Int32.le_iff_toInt_le, ← Int32.toInt_inj] at *; simp at *; omega) | (simp only [Int32.lt_iff_toInt_lt, Int32.le_iff_toInt_le, ← Int32.toInt_inj] at *; simp at *; done) | (simp at *; omega) | (simp at *; done))) rfl rfl rfl (Nat.le_of_ble_eq_true rfl) (Nat.le_of_ble_eq_true rfl) dX12_child_72
      · refine lv_if_eq (tgt := 67) hx hb dX12_child_31 (by decide) (fun _ => ?_) (fun c => absurd c (by decide))
        refine lv_aload_n hx hb dX12_child_67 rfl (lv_at hl 0 rfl) ?_
        refine lv_iconst (v := 1) hx hb dX12_child_68 (by decide) ?_
        refine k_Vi [0] [1, 2] 0 12 (wr := [(z 1, .inl (gI g, 461, .inl mD0)), (z 2, .inl (gI g, 7376, .inl (fun _ => 0)))]) hx hb hml hown hts hKW hP hD hS hA hl.1 (c_X12_finding_1 l g _ (z 0) (z 1) (z 2) (z 3) (z 4) (z 5) (z 6) (z 7) (z 8) (z 9) (z 10) (z 11) (z 12) (z 13) (z 14) (z 15) 0 0 0 0 0 ) rfl rfl rfl wd_10_15 wd_1_5 wd_10_12 wd_10_13 wd_10_14 yd_X12_finding ⟨Nat.le_of_ble_eq_true rfl, Nat.le_of_ble_eq_true rfl⟩ rfl rfl rfl rfl rfl (by decide) rfl (Nat.le_of_ble_eq_true rfl) dX12_child_69 ⟨Nat.le_of_ble_eq_true rfl, Nat.le_of_ble_eq_true rfl⟩ (fun r_41 u_42 H locs hw_43 hP hD hS => ?_)
        have hP : va_P g.1 vwCl [(z 1, .inl (gI g, 461, .inl mD0)), (z 2, .inl (gI g, 7376, .inl (fun _ => 0)))] H := hP
        have hD : va_D A [(z 1, .inl (gI g, 461, .inl mD0)), (z 2, .inl (gI g, 7376, .inl (fun _ => 0)))] := hD
        have hw_43 : r_41 = (-100001) := hw_43
        subst hw_43
        exact k_iret () [] hx hb hr hlk hP hD hS (by clear hP hD hS hA hts hKW hl; rw [← htt, ← hfr]; clear htt hfr; unfold aChild; (repeat' split) <;> first | rfl | (exfalso; first | omega | (simp only [Int32.lt_iff_toInt_lt, Int32.le_iff_toInt_le, ← Int32.toInt_inj] at *; omega) | (simp only [Int32.lt_iff_toInt_lt, Int32.le_iff_toInt_le, ← Int32.toInt_inj] at *; simp at *; omega) | (simp only [Int32.lt_iff_toInt_lt, Int32.le_iff_toInt_le, ← Int32.toInt_inj] at *; simp at *; done) | (simp at *; omega) | (simp at *; done))) rfl rfl rfl (Nat.le_of_ble_eq_true rfl) (Nat.le_of_ble_eq_true rfl) dX12_child_72
    · refine lv_aload_n hx hb dX12_child_16 rfl (lv_at hl 0 rfl) ?_
      refine lv_iload_n hx hb dX12_child_17 rfl (lv_at hl 2 rfl) ?_
      refine k_Vi [0, 1] [2] 0 12 (wr := [(z 2, .inl (gI g, 7376, .inl (fun _ => 0)))]) hx hb hml hown hts hKW hP hD hS hA hl.1 (c_X12_isChild0 l g _ (z 0) (z 1) (z 2) (z 3) (z 4) (z 5) (z 6) (z 7) (z 8) (z 9) (z 10) (z 11) (z 12) (z 13) (z 14) (z 15) 0 0 0 0 0 si ) rfl rfl rfl wd_13_19 wd_1_5 wd_13_16 wd_13_17 wd_13_18 yd_X12_isChild ⟨Nat.le_of_ble_eq_true rfl, Nat.le_of_ble_eq_true rfl⟩ rfl rfl rfl rfl rfl (by decide) rfl (Nat.le_of_ble_eq_true rfl) dX12_child_18 ⟨Nat.le_of_ble_eq_true rfl, Nat.le_of_ble_eq_true rfl⟩ (fun r_44 u_45 H locs hw_46 hP hD hS => ?_)
      have hP : va_P g.1 vwCl [(z 2, .inl (gI g, 7376, .inl (fun _ => 0))), (z 0, .inr (12, [.ref (z 1), .ref (z 2), .int 0, .int 0, .ref (z 3), .ref (z 4), .ref (z 5), .ref (z 6), .int 0, .ref (z 7), .ref (z 8), .ref (z 9), .ref (z 10), .ref (z 11), .ref (z 12), .int 0, .ref (z 13), .ref (z 14), .int 0, .ref (z 15)])), (z 1, .inl (gI g, 461, .inl mD0))] H := hP
      have hD : va_D A [(z 2, .inl (gI g, 7376, .inl (fun _ => 0))), (z 0, .inr (12, [.ref (z 1), .ref (z 2), .int 0, .int 0, .ref (z 3), .ref (z 4), .ref (z 5), .ref (z 6), .int 0, .ref (z 7), .ref (z 8), .ref (z 9), .ref (z 10), .ref (z 11), .ref (z 12), .int 0, .ref (z 13), .ref (z 14), .int 0, .ref (z 15)])), (z 1, .inl (gI g, 461, .inl mD0))] := hD
      have hw_46 : r_44 = 0 := hw_46
      subst hw_46
      refine lv_if_eq (tgt := 67) hx hb dX12_child_21 (by decide) (fun _ => ?_) (fun c => absurd c (by decide))
      refine lv_aload_n hx hb dX12_child_67 rfl (lv_at hl 0 rfl) ?_
      refine lv_iconst (v := 1) hx hb dX12_child_68 (by decide) ?_
      refine k_Vi [1] [0, 2] 1 12 (wr := [(z 2, .inl (gI g, 7376, .inl (fun _ => 0))), (z 1, .inl (gI g, 461, .inl mD0))]) hx hb hml hown hts hKW hP hD hS hA hl.1 (c_X12_finding_1 l g _ (z 0) (z 1) (z 2) (z 3) (z 4) (z 5) (z 6) (z 7) (z 8) (z 9) (z 10) (z 11) (z 12) (z 13) (z 14) (z 15) 0 0 0 0 0 ) rfl rfl rfl wd_10_15 wd_1_5 wd_10_12 wd_10_13 wd_10_14 yd_X12_finding ⟨Nat.le_of_ble_eq_true rfl, Nat.le_of_ble_eq_true rfl⟩ rfl rfl rfl rfl rfl (by decide) rfl (Nat.le_of_ble_eq_true rfl) dX12_child_69 ⟨Nat.le_of_ble_eq_true rfl, Nat.le_of_ble_eq_true rfl⟩ (fun r_47 u_48 H locs hw_49 hP hD hS => ?_)
      have hP : va_P g.1 vwCl [(z 2, .inl (gI g, 7376, .inl (fun _ => 0))), (z 1, .inl (gI g, 461, .inl mD0))] H := hP
      have hD : va_D A [(z 2, .inl (gI g, 7376, .inl (fun _ => 0))), (z 1, .inl (gI g, 461, .inl mD0))] := hD
      have hw_49 : r_47 = (-100001) := hw_49
      subst hw_49
      exact k_iret () [] hx hb hr hlk hP hD hS (by clear hP hD hS hA hts hKW hl; rw [← htt, ← hfr]; clear htt hfr; unfold aChild; (repeat' split) <;> first | rfl | (exfalso; first | omega | (simp only [Int32.lt_iff_toInt_lt, Int32.le_iff_toInt_le, ← Int32.toInt_inj] at *; omega) | (simp only [Int32.lt_iff_toInt_lt, Int32.le_iff_toInt_le, ← Int32.toInt_inj] at *; simp at *; omega) | (simp only [Int32.lt_iff_toInt_lt, Int32.le_iff_toInt_le, ← Int32.toInt_inj] at *; simp at *; done) | (simp at *; omega) | (simp at *; done))) rfl rfl rfl (Nat.le_of_ble_eq_true rfl) (Nat.le_of_ble_eq_true rfl) dX12_child_72
  · refine lv_if_eq (tgt := 67) hx hb dX12_child_8 (by decide) (fun _ => ?_) (fun c => absurd c (by decide))
    refine lv_aload_n hx hb dX12_child_67 rfl (lv_at hl 0 rfl) ?_
    refine lv_iconst (v := 1) hx hb dX12_child_68 (by decide) ?_
    refine k_Vi [0] [1, 2] 0 12 (wr := [(z 1, .inl (gI g, 461, .inl mD0)), (z 2, .inl (gI g, 7376, .inl (fun _ => 0)))]) hx hb hml hown hts hKW hP hD hS hA hl.1 (c_X12_finding_1 l g _ (z 0) (z 1) (z 2) (z 3) (z 4) (z 5) (z 6) (z 7) (z 8) (z 9) (z 10) (z 11) (z 12) (z 13) (z 14) (z 15) 0 0 0 0 0 ) rfl rfl rfl wd_10_15 wd_1_5 wd_10_12 wd_10_13 wd_10_14 yd_X12_finding ⟨Nat.le_of_ble_eq_true rfl, Nat.le_of_ble_eq_true rfl⟩ rfl rfl rfl rfl rfl (by decide) rfl (Nat.le_of_ble_eq_true rfl) dX12_child_69 ⟨Nat.le_of_ble_eq_true rfl, Nat.le_of_ble_eq_true rfl⟩ (fun r_50 u_51 H locs hw_52 hP hD hS => ?_)
    have hP : va_P g.1 vwCl [(z 1, .inl (gI g, 461, .inl mD0)), (z 2, .inl (gI g, 7376, .inl (fun _ => 0)))] H := hP
    have hD : va_D A [(z 1, .inl (gI g, 461, .inl mD0)), (z 2, .inl (gI g, 7376, .inl (fun _ => 0)))] := hD
    have hw_52 : r_50 = (-100001) := hw_52
    subst hw_52
    exact k_iret () [] hx hb hr hlk hP hD hS (by clear hP hD hS hA hts hKW hl; rw [← htt, ← hfr]; clear htt hfr; unfold aChild; (repeat' split) <;> first | rfl | (exfalso; first | omega | (simp only [Int32.lt_iff_toInt_lt, Int32.le_iff_toInt_le, ← Int32.toInt_inj] at *; omega) | (simp only [Int32.lt_iff_toInt_lt, Int32.le_iff_toInt_le, ← Int32.toInt_inj] at *; simp at *; omega) | (simp only [Int32.lt_iff_toInt_lt, Int32.le_iff_toInt_le, ← Int32.toInt_inj] at *; simp at *; done) | (simp at *; omega) | (simp at *; done))) rfl rfl rfl (Nat.le_of_ble_eq_true rfl) (Nat.le_of_ble_eq_true rfl) dX12_child_72
theorem dX12_childIs_0 : decode cX12_childIs 0 = .ok (.aload_n 0, 1) := by decide +kernel
theorem dX12_childIs_1 : decode cX12_childIs 1 = .ok (.iload_n 1, 1) := by decide +kernel
theorem dX12_childIs_2 : decode cX12_childIs 2 = .ok (.invokevirtual 82, 3) := by decide +kernel
theorem dX12_childIs_5 : decode cX12_childIs 5 = .ok (.ifCond .eq 13, 3) := by decide +kernel
theorem dX12_childIs_18 : decode cX12_childIs 18 = .ok (.aload_n 0, 1) := by decide +kernel
theorem dX12_childIs_19 : decode cX12_childIs 19 = .ok (.iconst 1, 1) := by decide +kernel
theorem dX12_childIs_20 : decode cX12_childIs 20 = .ok (.invokevirtual 68, 3) := by decide +kernel
theorem dX12_childIs_23 : decode cX12_childIs 23 = .ok (.ireturn, 1) := by decide +kernel
set_option maxHeartbeats 4000000 in
set_option maxRecDepth 100000 in
theorem c_X12_childIs (l : Launch) (g : kG) (sz : Nat) (z : Nat → Nat) (ch : Int32) (k : Int32) : kMi l g yX12_childIs cX12_childIs 3 (some .int) 6 0 0 [.ref (z 0), .int ch, .int k] sz [(z 0, .inr (12, [.ref (z 1), .ref (z 2), .int 0, .int 0, .ref (z 3), .ref (z 4), .ref (z 5), .ref (z 6), .int 0, .ref (z 7), .ref (z 8), .ref (z 9), .ref (z 10), .ref (z 11), .ref (z 12), .int 0, .ref (z 13), .ref (z 14), .int 0, .ref (z 15)])), (z 1, .inl (gI g, 461, .inl mD0))] (fun (r : Int32) (u : Unit) => r = (-100001)) (fun (u : Unit) => ([] : va_W)) := by
  refine kMi.of (by decide) (Nat.le_of_ble_eq_true rfl) (fun p e s m below meth c A hx hb hr hml hown hts hlk hnm hKW hP hD hS hA ls hl => ?_)
  have hown : s.vm.findClass RX12 = some m.cls := hown
  have hl : lv_has ls 3 [(0, .ref (z 0)), (1, .int ch), (2, .int k)] := hl
  refine lv_aload_n hx hb dX12_childIs_0 rfl (lv_at hl 0 rfl) ?_
  refine lv_iload_n hx hb dX12_childIs_1 rfl (lv_at hl 1 rfl) ?_
  refine k_Vi [0, 1] [] 0 12 (wr := []) hx hb hml hown hts hKW hP hD hS hA hl.1 (c_X12_isChild0 l g _ (z 0) (z 1) (z 2) (z 3) (z 4) (z 5) (z 6) (z 7) (z 8) (z 9) (z 10) (z 11) (z 12) (z 13) (z 14) (z 15) 0 0 0 0 0 ch ) rfl rfl rfl wd_13_19 wd_1_5 wd_13_16 wd_13_17 wd_13_18 yd_X12_isChild ⟨Nat.le_of_ble_eq_true rfl, Nat.le_of_ble_eq_true rfl⟩ rfl rfl rfl rfl rfl (by decide) rfl (Nat.le_of_ble_eq_true rfl) dX12_childIs_2 ⟨Nat.le_of_ble_eq_true rfl, Nat.le_of_ble_eq_true rfl⟩ (fun r_1 u_2 H locs hw_3 hP hD hS => ?_)
  have hP : va_P g.1 vwCl [(z 0, .inr (12, [.ref (z 1), .ref (z 2), .int 0, .int 0, .ref (z 3), .ref (z 4), .ref (z 5), .ref (z 6), .int 0, .ref (z 7), .ref (z 8), .ref (z 9), .ref (z 10), .ref (z 11), .ref (z 12), .int 0, .ref (z 13), .ref (z 14), .int 0, .ref (z 15)])), (z 1, .inl (gI g, 461, .inl mD0))] H := hP
  have hD : va_D A [(z 0, .inr (12, [.ref (z 1), .ref (z 2), .int 0, .int 0, .ref (z 3), .ref (z 4), .ref (z 5), .ref (z 6), .int 0, .ref (z 7), .ref (z 8), .ref (z 9), .ref (z 10), .ref (z 11), .ref (z 12), .int 0, .ref (z 13), .ref (z 14), .int 0, .ref (z 15)])), (z 1, .inl (gI g, 461, .inl mD0))] := hD
  have hw_3 : r_1 = 0 := hw_3
  subst hw_3
  refine lv_if_eq (tgt := 18) hx hb dX12_childIs_5 (by decide) (fun _ => ?_) (fun c => absurd c (by decide))
  refine lv_aload_n hx hb dX12_childIs_18 rfl (lv_at hl 0 rfl) ?_
  refine lv_iconst (v := 1) hx hb dX12_childIs_19 (by decide) ?_
  refine k_Vi [0] [1] 0 12 (wr := [(z 1, .inl (gI g, 461, .inl mD0))]) hx hb hml hown hts hKW hP hD hS hA hl.1 (c_X12_finding_1 l g _ (z 0) (z 1) (z 2) (z 3) (z 4) (z 5) (z 6) (z 7) (z 8) (z 9) (z 10) (z 11) (z 12) (z 13) (z 14) (z 15) 0 0 0 0 0 ) rfl rfl rfl wd_10_15 wd_1_5 wd_10_12 wd_10_13 wd_10_14 yd_X12_finding ⟨Nat.le_of_ble_eq_true rfl, Nat.le_of_ble_eq_true rfl⟩ rfl rfl rfl rfl rfl (by decide) rfl (Nat.le_of_ble_eq_true rfl) dX12_childIs_20 ⟨Nat.le_of_ble_eq_true rfl, Nat.le_of_ble_eq_true rfl⟩ (fun r_4 u_5 H locs hw_6 hP hD hS => ?_)
  have hP : va_P g.1 vwCl [(z 1, .inl (gI g, 461, .inl mD0))] H := hP
  have hD : va_D A [(z 1, .inl (gI g, 461, .inl mD0))] := hD
  have hw_6 : r_4 = (-100001) := hw_6
  subst hw_6
  exact k_iret () [] hx hb hr hlk hP hD hS rfl rfl rfl rfl (Nat.le_of_ble_eq_true rfl) (Nat.le_of_ble_eq_true rfl) dX12_childIs_23
theorem dX12_roomOf_0 : decode cX12_roomOf 0 = .ok (.aload_n 0, 1) := by decide +kernel
theorem dX12_roomOf_1 : decode cX12_roomOf 1 = .ok (.iload_n 1, 1) := by decide +kernel
theorem dX12_roomOf_2 : decode cX12_roomOf 2 = .ok (.invokevirtual 82, 3) := by decide +kernel
theorem dX12_roomOf_5 : decode cX12_roomOf 5 = .ok (.ifCond .eq 10, 3) := by decide +kernel
theorem dX12_roomOf_15 : decode cX12_roomOf 15 = .ok (.aload_n 0, 1) := by decide +kernel
theorem dX12_roomOf_16 : decode cX12_roomOf 16 = .ok (.iconst 1, 1) := by decide +kernel
theorem dX12_roomOf_17 : decode cX12_roomOf 17 = .ok (.invokevirtual 68, 3) := by decide +kernel
theorem dX12_roomOf_20 : decode cX12_roomOf 20 = .ok (.ireturn, 1) := by decide +kernel
set_option maxHeartbeats 4000000 in
set_option maxRecDepth 100000 in
theorem c_X12_roomOf (l : Launch) (g : kG) (sz : Nat) (z : Nat → Nat) (ch : Int32) (k : Int32) : kMi l g yX12_roomOf cX12_roomOf 4 (some .int) 6 0 0 [.ref (z 0), .int ch, .int k] sz [(z 0, .inr (12, [.ref (z 1), .ref (z 2), .int 0, .int 0, .ref (z 3), .ref (z 4), .ref (z 5), .ref (z 6), .int 0, .ref (z 7), .ref (z 8), .ref (z 9), .ref (z 10), .ref (z 11), .ref (z 12), .int 0, .ref (z 13), .ref (z 14), .int 0, .ref (z 15)])), (z 1, .inl (gI g, 461, .inl mD0))] (fun (r : Int32) (u : Unit) => r = (-100001)) (fun (u : Unit) => ([] : va_W)) := by
  refine kMi.of (by decide) (Nat.le_of_ble_eq_true rfl) (fun p e s m below meth c A hx hb hr hml hown hts hlk hnm hKW hP hD hS hA ls hl => ?_)
  have hown : s.vm.findClass RX12 = some m.cls := hown
  have hl : lv_has ls 4 [(0, .ref (z 0)), (1, .int ch), (2, .int k)] := hl
  refine lv_aload_n hx hb dX12_roomOf_0 rfl (lv_at hl 0 rfl) ?_
  refine lv_iload_n hx hb dX12_roomOf_1 rfl (lv_at hl 1 rfl) ?_
  refine k_Vi [0, 1] [] 0 12 (wr := []) hx hb hml hown hts hKW hP hD hS hA hl.1 (c_X12_isChild0 l g _ (z 0) (z 1) (z 2) (z 3) (z 4) (z 5) (z 6) (z 7) (z 8) (z 9) (z 10) (z 11) (z 12) (z 13) (z 14) (z 15) 0 0 0 0 0 ch ) rfl rfl rfl wd_13_19 wd_1_5 wd_13_16 wd_13_17 wd_13_18 yd_X12_isChild ⟨Nat.le_of_ble_eq_true rfl, Nat.le_of_ble_eq_true rfl⟩ rfl rfl rfl rfl rfl (by decide) rfl (Nat.le_of_ble_eq_true rfl) dX12_roomOf_2 ⟨Nat.le_of_ble_eq_true rfl, Nat.le_of_ble_eq_true rfl⟩ (fun r_1 u_2 H locs hw_3 hP hD hS => ?_)
  have hP : va_P g.1 vwCl [(z 0, .inr (12, [.ref (z 1), .ref (z 2), .int 0, .int 0, .ref (z 3), .ref (z 4), .ref (z 5), .ref (z 6), .int 0, .ref (z 7), .ref (z 8), .ref (z 9), .ref (z 10), .ref (z 11), .ref (z 12), .int 0, .ref (z 13), .ref (z 14), .int 0, .ref (z 15)])), (z 1, .inl (gI g, 461, .inl mD0))] H := hP
  have hD : va_D A [(z 0, .inr (12, [.ref (z 1), .ref (z 2), .int 0, .int 0, .ref (z 3), .ref (z 4), .ref (z 5), .ref (z 6), .int 0, .ref (z 7), .ref (z 8), .ref (z 9), .ref (z 10), .ref (z 11), .ref (z 12), .int 0, .ref (z 13), .ref (z 14), .int 0, .ref (z 15)])), (z 1, .inl (gI g, 461, .inl mD0))] := hD
  have hw_3 : r_1 = 0 := hw_3
  subst hw_3
  refine lv_if_eq (tgt := 15) hx hb dX12_roomOf_5 (by decide) (fun _ => ?_) (fun c => absurd c (by decide))
  refine lv_aload_n hx hb dX12_roomOf_15 rfl (lv_at hl 0 rfl) ?_
  refine lv_iconst (v := 1) hx hb dX12_roomOf_16 (by decide) ?_
  refine k_Vi [0] [1] 0 12 (wr := [(z 1, .inl (gI g, 461, .inl mD0))]) hx hb hml hown hts hKW hP hD hS hA hl.1 (c_X12_finding_1 l g _ (z 0) (z 1) (z 2) (z 3) (z 4) (z 5) (z 6) (z 7) (z 8) (z 9) (z 10) (z 11) (z 12) (z 13) (z 14) (z 15) 0 0 0 0 0 ) rfl rfl rfl wd_10_15 wd_1_5 wd_10_12 wd_10_13 wd_10_14 yd_X12_finding ⟨Nat.le_of_ble_eq_true rfl, Nat.le_of_ble_eq_true rfl⟩ rfl rfl rfl rfl rfl (by decide) rfl (Nat.le_of_ble_eq_true rfl) dX12_roomOf_17 ⟨Nat.le_of_ble_eq_true rfl, Nat.le_of_ble_eq_true rfl⟩ (fun r_4 u_5 H locs hw_6 hP hD hS => ?_)
  have hP : va_P g.1 vwCl [(z 1, .inl (gI g, 461, .inl mD0))] H := hP
  have hD : va_D A [(z 1, .inl (gI g, 461, .inl mD0))] := hD
  have hw_6 : r_4 = (-100001) := hw_6
  subst hw_6
  exact k_iret () [] hx hb hr hlk hP hD hS rfl rfl rfl rfl (Nat.le_of_ble_eq_true rfl) (Nat.le_of_ble_eq_true rfl) dX12_roomOf_20
theorem dX12_month_0 : decode cX12_month 0 = .ok (.iload_n 1, 1) := by decide +kernel
theorem dX12_month_1 : decode cX12_month 1 = .ok (.invokestatic 89, 3) := by decide +kernel
theorem dX12_month_4 : decode cX12_month 4 = .ok (.ifCond .ne 9, 3) := by decide +kernel
theorem dX12_month_13 : decode cX12_month 13 = .ok (.aload_n 0, 1) := by decide +kernel
theorem dX12_month_14 : decode cX12_month 14 = .ok (.invokevirtual 72, 3) := by decide +kernel
theorem dX12_month_17 : decode cX12_month 17 = .ok (.aload_n 0, 1) := by decide +kernel
theorem dX12_month_18 : decode cX12_month 18 = .ok (.getfield 7, 3) := by decide +kernel
theorem dX12_month_21 : decode cX12_month 21 = .ok (.iconst 3, 1) := by decide +kernel
theorem dX12_month_22 : decode cX12_month 22 = .ok (.iaload, 1) := by decide +kernel
theorem dX12_month_23 : decode cX12_month 23 = .ok (.istore_n 2, 1) := by decide +kernel
theorem dX12_month_24 : decode cX12_month 24 = .ok (.aload_n 0, 1) := by decide +kernel
theorem dX12_month_25 : decode cX12_month 25 = .ok (.getfield 7, 3) := by decide +kernel
theorem dX12_month_28 : decode cX12_month 28 = .ok (.iconst 3, 1) := by decide +kernel
theorem dX12_month_29 : decode cX12_month 29 = .ok (.iload_n 1, 1) := by decide +kernel
theorem dX12_month_30 : decode cX12_month 30 = .ok (.iastore, 1) := by decide +kernel
theorem dX12_month_31 : decode cX12_month 31 = .ok (.iload_n 2, 1) := by decide +kernel
theorem dX12_month_32 : decode cX12_month 32 = .ok (.ireturn, 1) := by decide +kernel
theorem dX12_month_7 : decode cX12_month 7 = .ok (.aload_n 0, 1) := by decide +kernel
theorem dX12_month_8 : decode cX12_month 8 = .ok (.iconst 1, 1) := by decide +kernel
theorem dX12_month_9 : decode cX12_month 9 = .ok (.invokevirtual 68, 3) := by decide +kernel
theorem dX12_month_12 : decode cX12_month 12 = .ok (.ireturn, 1) := by decide +kernel
set_option maxHeartbeats 4000000 in
set_option maxRecDepth 100000 in
theorem c_X12_month (l : Launch) (g : kG) (sz : Nat) (z : Nat → Nat) (v : Int32) : kMi l g yX12_month cX12_month 3 (some .int) 6 0 0 [.ref (z 0), .int v] sz [(z 0, .inr (12, [.ref (z 1), .ref (z 2), .int 0, .int 0, .ref (z 3), .ref (z 4), .ref (z 5), .ref (z 6), .int 0, .ref (z 7), .ref (z 8), .ref (z 9), .ref (z 10), .ref (z 11), .ref (z 12), .int 0, .ref (z 13), .ref (z 14), .int 0, .ref (z 15)])), (z 1, .inl (gI g, 461, .inl mD0)), (z 2, .inl (gI g, 7376, .inl (fun _ => 0)))] (fun (r : Int32) (u : Unit) => r = aR 0 60 0 v) (fun (u : Unit) => ([] : va_W)) := by
  refine kMi.of (by decide) (Nat.le_of_ble_eq_true rfl) (fun p e s m below meth c A hx hb hr hml hown hts hlk hnm hKW hP hD hS hA ls hl => ?_)
  have hown : s.vm.findClass RX12 = some m.cls := hown
  have hl : lv_has ls 3 [(0, .ref (z 0)), (1, .int v)] := hl
  refine lv_iload_n hx hb dX12_month_0 rfl (lv_at hl 1 rfl) ?_
  refine k_Si [] [0, 1, 2] (wr := [(z 0, .inr (12, [.ref (z 1), .ref (z 2), .int 0, .int 0, .ref (z 3), .ref (z 4), .ref (z 5), .ref (z 6), .int 0, .ref (z 7), .ref (z 8), .ref (z 9), .ref (z 10), .ref (z 11), .ref (z 12), .int 0, .ref (z 13), .ref (z 14), .int 0, .ref (z 15)])), (z 1, .inl (gI g, 461, .inl mD0)), (z 2, .inl (gI g, 7376, .inl (fun _ => 0)))]) hx hb hml hown hts hKW hP hD hS hA hl.1 (c_X12_isMonth l g _ v ) wd_15_15 wd_1_5 wd_15_13 wd_15_14 yd_X12_isMonth ⟨Nat.le_of_ble_eq_true rfl, Nat.le_of_ble_eq_true rfl⟩ rfl rfl rfl rfl rfl (by decide) rfl (Nat.le_of_ble_eq_true rfl) dX12_month_1 ⟨Nat.le_of_ble_eq_true rfl, Nat.le_of_ble_eq_true rfl⟩ (fun r_1 u_2 H locs hw_3 hP hD hS => ?_)
  have hP : va_P g.1 vwCl [(z 0, .inr (12, [.ref (z 1), .ref (z 2), .int 0, .int 0, .ref (z 3), .ref (z 4), .ref (z 5), .ref (z 6), .int 0, .ref (z 7), .ref (z 8), .ref (z 9), .ref (z 10), .ref (z 11), .ref (z 12), .int 0, .ref (z 13), .ref (z 14), .int 0, .ref (z 15)])), (z 1, .inl (gI g, 461, .inl mD0)), (z 2, .inl (gI g, 7376, .inl (fun _ => 0)))] H := hP
  have hD : va_D A [(z 0, .inr (12, [.ref (z 1), .ref (z 2), .int 0, .int 0, .ref (z 3), .ref (z 4), .ref (z 5), .ref (z 6), .int 0, .ref (z 7), .ref (z 8), .ref (z 9), .ref (z 10), .ref (z 11), .ref (z 12), .int 0, .ref (z 13), .ref (z 14), .int 0, .ref (z 15)])), (z 1, .inl (gI g, 461, .inl mD0)), (z 2, .inl (gI g, 7376, .inl (fun _ => 0)))] := hD
  rcases (show (r_1 = 1 ∧ ((0 : Int) ≤ Int32.toInt v ∧ Int32.toInt v ≤ 60)) ∨ (r_1 = 0 ∧ ¬ ((0 : Int) ≤ Int32.toInt v ∧ Int32.toInt v ≤ 60)) from hw_3) with ⟨rfl, hw_3b⟩ | ⟨rfl, hw_3b⟩ <;> clear hw_3
  · refine lv_if_ne (tgt := 13) hx hb dX12_month_4 (by decide) (fun _ => ?_) (fun c => absurd c (by decide))
    refine lv_aload_n hx hb dX12_month_13 rfl (lv_at hl 0 rfl) ?_
    refine k_Vv [0, 1, 2] [] 0 12 (wr := []) hx hb hml hown hts hKW hP hD hS hA hl.1 (c_X12_keep0 l g _ z ) rfl rfl rfl wd_10_21 wd_1_5 wd_10_18 wd_10_19 wd_10_20 yd_X12_keep ⟨Nat.le_of_ble_eq_true rfl, Nat.le_of_ble_eq_true rfl⟩ rfl rfl rfl rfl rfl (by decide) rfl (Nat.le_of_ble_eq_true rfl) dX12_month_14 ⟨Nat.le_of_ble_eq_true rfl, Nat.le_of_ble_eq_true rfl⟩ (fun u_5 H locs hw_6 hP hD hS => ?_)
    have hP : va_P g.1 vwCl [(z 0, .inr (12, [.ref (z 1), .ref (z 2), .int 1, .int 0, .ref (z 3), .ref (z 4), .ref (z 5), .ref (z 6), .int 0, .ref (z 7), .ref (z 8), .ref (z 9), .ref (z 10), .ref (z 11), .ref (z 12), .int 0, .ref (z 13), .ref (z 14), .int 0, .ref (z 15)])), (z 1, .inl (gI g, 461, .inl mD0))] H := hP
    have hD : va_D A [(z 0, .inr (12, [.ref (z 1), .ref (z 2), .int 1, .int 0, .ref (z 3), .ref (z 4), .ref (z 5), .ref (z 6), .int 0, .ref (z 7), .ref (z 8), .ref (z 9), .ref (z 10), .ref (z 11), .ref (z 12), .int 0, .ref (z 13), .ref (z 14), .int 0, .ref (z 15)])), (z 1, .inl (gI g, 461, .inl mD0))] := hD
    refine lv_aload_n hx hb dX12_month_17 rfl (lv_at hl 0 rfl) ?_
    refine va_get (ci := 12) (C := RX12) (T := TX12) (N := 20) hx hb hts inlX12 hown hKW.1 hP 0 rfl rfl 0 (by decide) (hts _ wd_6_5) (fun _ h => h) rfl dX12_month_18 ?_
    refine lv_iconst (v := 3) hx hb dX12_month_21 (by decide) ?_
    refine va_iald hx hb hKW.1 hP 1 0 rfl rfl (show ¬ _ by decide) dX12_month_22 ?_
    refine k_top (y := 0) rfl ?_
    refine lv_istore_n (lv' := [(2, .int 0), (0, .ref (z 0)), (1, .int v)]) hx hb dX12_month_23 rfl hl (by decide) rfl (fun ls hl => ?_)
    refine lv_aload_n hx hb dX12_month_24 rfl (lv_at hl 1 rfl) ?_
    refine va_get (ci := 12) (C := RX12) (T := TX12) (N := 20) hx hb hts inlX12 hown hKW.1 hP 0 rfl rfl 0 (by decide) (hts _ wd_6_5) (fun _ h => h) rfl dX12_month_25 ?_
    refine lv_iconst (v := 3) hx hb dX12_month_28 (by decide) ?_
    refine lv_iload_n hx hb dX12_month_29 rfl (lv_at hl 2 rfl) ?_
    refine va_iast hx hb hKW.1 hP hD hS 1 0 rfl rfl (show ¬ _ by decide) dX12_month_30 (fun H locs hP hD hS => ?_)
    have hP : va_P g.1 vwCl [(z 0, .inr (12, [.ref (z 1), .ref (z 2), .int 1, .int 0, .ref (z 3), .ref (z 4), .ref (z 5), .ref (z 6), .int 0, .ref (z 7), .ref (z 8), .ref (z 9), .ref (z 10), .ref (z 11), .ref (z 12), .int 0, .ref (z 13), .ref (z 14), .int 0, .ref (z 15)])), (z 1, .inl (gI g, 461, .inl (upd mD0 3 v)))] H := hP
    have hD : va_D A [(z 0, .inr (12, [.ref (z 1), .ref (z 2), .int 1, .int 0, .ref (z 3), .ref (z 4), .ref (z 5), .ref (z 6), .int 0, .ref (z 7), .ref (z 8), .ref (z 9), .ref (z 10), .ref (z 11), .ref (z 12), .int 0, .ref (z 13), .ref (z 14), .int 0, .ref (z 15)])), (z 1, .inl (gI g, 461, .inl (upd mD0 3 v)))] := hD
    obtain ⟨f_7, ef_7⟩ : ∃ zz_ : Nat → Int32, zz_ = upd mD0 3 v := ⟨_, rfl⟩
    rw [← ef_7] at hP hD
    refine lv_iload_n hx hb dX12_month_31 rfl (lv_at hl 0 rfl) ?_
    exact k_iret () [] hx hb hr hlk hP hD hS (by clear hP hD hS hA hts hKW hl; unfold aR; (repeat' split) <;> first | rfl | (exfalso; first | omega | (simp only [Int32.lt_iff_toInt_lt, Int32.le_iff_toInt_le, ← Int32.toInt_inj] at *; omega) | (simp only [Int32.lt_iff_toInt_lt, Int32.le_iff_toInt_le, ← Int32.toInt_inj] at *; simp at *; omega) | (simp only [Int32.lt_iff_toInt_lt, Int32.le_iff_toInt_le, ← Int32.toInt_inj] at *; simp at *; done) | (simp at *; omega) | (simp at *; done))) rfl rfl rfl (Nat.le_of_ble_eq_true rfl) (Nat.le_of_ble_eq_true rfl) dX12_month_32
  · refine lv_if_ne (tgt := 13) hx hb dX12_month_4 (by decide) (fun c => absurd c (by decide)) (fun _ => ?_)
    refine lv_aload_n hx hb dX12_month_7 rfl (lv_at hl 0 rfl) ?_
    refine lv_iconst (v := 1) hx hb dX12_month_8 (by decide) ?_
    refine k_Vi [0] [1, 2] 0 12 (wr := [(z 1, .inl (gI g, 461, .inl mD0)), (z 2, .inl (gI g, 7376, .inl (fun _ => 0)))]) hx hb hml hown hts hKW hP hD hS hA hl.1 (c_X12_finding_1 l g _ (z 0) (z 1) (z 2) (z 3) (z 4) (z 5) (z 6) (z 7) (z 8) (z 9) (z 10) (z 11) (z 12) (z 13) (z 14) (z 15) 0 0 0 0 0 ) rfl rfl rfl wd_10_15 wd_1_5 wd_10_12 wd_10_13 wd_10_14 yd_X12_finding ⟨Nat.le_of_ble_eq_true rfl, Nat.le_of_ble_eq_true rfl⟩ rfl rfl rfl rfl rfl (by decide) rfl (Nat.le_of_ble_eq_true rfl) dX12_month_9 ⟨Nat.le_of_ble_eq_true rfl, Nat.le_of_ble_eq_true rfl⟩ (fun r_8 u_9 H locs hw_10 hP hD hS => ?_)
    have hP : va_P g.1 vwCl [(z 1, .inl (gI g, 461, .inl mD0)), (z 2, .inl (gI g, 7376, .inl (fun _ => 0)))] H := hP
    have hD : va_D A [(z 1, .inl (gI g, 461, .inl mD0)), (z 2, .inl (gI g, 7376, .inl (fun _ => 0)))] := hD
    have hw_10 : r_8 = (-100001) := hw_10
    subst hw_10
    exact k_iret () [] hx hb hr hlk hP hD hS (by clear hP hD hS hA hts hKW hl; unfold aR; (repeat' split) <;> first | rfl | (exfalso; first | omega | (simp only [Int32.lt_iff_toInt_lt, Int32.le_iff_toInt_le, ← Int32.toInt_inj] at *; omega) | (simp only [Int32.lt_iff_toInt_lt, Int32.le_iff_toInt_le, ← Int32.toInt_inj] at *; simp at *; omega) | (simp only [Int32.lt_iff_toInt_lt, Int32.le_iff_toInt_le, ← Int32.toInt_inj] at *; simp at *; done) | (simp at *; omega) | (simp at *; done))) rfl rfl rfl (Nat.le_of_ble_eq_true rfl) (Nat.le_of_ble_eq_true rfl) dX12_month_12
theorem dX12_slot_0 : decode cX12_slot 0 = .ok (.iload_n 1, 1) := by decide +kernel
theorem dX12_slot_1 : decode cX12_slot 1 = .ok (.iconst 0, 1) := by decide +kernel
theorem dX12_slot_2 : decode cX12_slot 2 = .ok (.bipush 59, 2) := by decide +kernel
theorem dX12_slot_4 : decode cX12_slot 4 = .ok (.invokestatic 64, 3) := by decide +kernel
theorem dX12_slot_7 : decode cX12_slot 7 = .ok (.ifCond .ne 9, 3) := by decide +kernel
theorem dX12_slot_16 : decode cX12_slot 16 = .ok (.iload_n 1, 1) := by decide +kernel
theorem dX12_slot_17 : decode cX12_slot 17 = .ok (.aload_n 0, 1) := by decide +kernel
theorem dX12_slot_18 : decode cX12_slot 18 = .ok (.getfield 7, 3) := by decide +kernel
theorem dX12_slot_21 : decode cX12_slot 21 = .ok (.iconst 4, 1) := by decide +kernel
theorem dX12_slot_22 : decode cX12_slot 22 = .ok (.iaload, 1) := by decide +kernel
theorem dX12_slot_23 : decode cX12_slot 23 = .ok (.if_icmp .ge 9, 3) := by decide +kernel
theorem dX12_slot_32 : decode cX12_slot 32 = .ok (.aload_n 0, 1) := by decide +kernel
theorem dX12_slot_33 : decode cX12_slot 33 = .ok (.invokevirtual 72, 3) := by decide +kernel
theorem dX12_slot_36 : decode cX12_slot 36 = .ok (.aload_n 0, 1) := by decide +kernel
theorem dX12_slot_37 : decode cX12_slot 37 = .ok (.getfield 7, 3) := by decide +kernel
theorem dX12_slot_40 : decode cX12_slot 40 = .ok (.iconst 4, 1) := by decide +kernel
theorem dX12_slot_41 : decode cX12_slot 41 = .ok (.iaload, 1) := by decide +kernel
theorem dX12_slot_42 : decode cX12_slot 42 = .ok (.istore_n 2, 1) := by decide +kernel
theorem dX12_slot_43 : decode cX12_slot 43 = .ok (.aload_n 0, 1) := by decide +kernel
theorem dX12_slot_44 : decode cX12_slot 44 = .ok (.getfield 7, 3) := by decide +kernel
theorem dX12_slot_47 : decode cX12_slot 47 = .ok (.iconst 4, 1) := by decide +kernel
theorem dX12_slot_48 : decode cX12_slot 48 = .ok (.iload_n 1, 1) := by decide +kernel
theorem dX12_slot_49 : decode cX12_slot 49 = .ok (.iastore, 1) := by decide +kernel
theorem dX12_slot_50 : decode cX12_slot 50 = .ok (.iload_n 2, 1) := by decide +kernel
theorem dX12_slot_51 : decode cX12_slot 51 = .ok (.ireturn, 1) := by decide +kernel
theorem dX12_slot_26 : decode cX12_slot 26 = .ok (.aload_n 0, 1) := by decide +kernel
theorem dX12_slot_27 : decode cX12_slot 27 = .ok (.iconst 3, 1) := by decide +kernel
theorem dX12_slot_28 : decode cX12_slot 28 = .ok (.invokevirtual 68, 3) := by decide +kernel
theorem dX12_slot_31 : decode cX12_slot 31 = .ok (.ireturn, 1) := by decide +kernel
theorem dX12_slot_10 : decode cX12_slot 10 = .ok (.aload_n 0, 1) := by decide +kernel
theorem dX12_slot_11 : decode cX12_slot 11 = .ok (.iconst 1, 1) := by decide +kernel
theorem dX12_slot_12 : decode cX12_slot 12 = .ok (.invokevirtual 68, 3) := by decide +kernel
theorem dX12_slot_15 : decode cX12_slot 15 = .ok (.ireturn, 1) := by decide +kernel
set_option maxHeartbeats 4000000 in
set_option maxRecDepth 100000 in
theorem c_X12_slot (l : Launch) (g : kG) (sz : Nat) (z : Nat → Nat) (v : Int32) : kMi l g yX12_slot cX12_slot 3 (some .int) 6 0 0 [.ref (z 0), .int v] sz [(z 0, .inr (12, [.ref (z 1), .ref (z 2), .int 0, .int 0, .ref (z 3), .ref (z 4), .ref (z 5), .ref (z 6), .int 0, .ref (z 7), .ref (z 8), .ref (z 9), .ref (z 10), .ref (z 11), .ref (z 12), .int 0, .ref (z 13), .ref (z 14), .int 0, .ref (z 15)])), (z 1, .inl (gI g, 461, .inl mD0)), (z 2, .inl (gI g, 7376, .inl (fun _ => 0)))] (fun (r : Int32) (u : Unit) => r = aR 0 59 0 v) (fun (u : Unit) => ([] : va_W)) := by
  refine kMi.of (by decide) (Nat.le_of_ble_eq_true rfl) (fun p e s m below meth c A hx hb hr hml hown hts hlk hnm hKW hP hD hS hA ls hl => ?_)
  have hown : s.vm.findClass RX12 = some m.cls := hown
  have hl : lv_has ls 3 [(0, .ref (z 0)), (1, .int v)] := hl
  refine lv_iload_n hx hb dX12_slot_0 rfl (lv_at hl 1 rfl) ?_
  refine lv_iconst (v := 0) hx hb dX12_slot_1 (by decide) ?_
  refine lv_bipush (v := 59) hx hb dX12_slot_2 (by decide) ?_
  refine k_Si [] [0, 1, 2] (wr := [(z 0, .inr (12, [.ref (z 1), .ref (z 2), .int 0, .int 0, .ref (z 3), .ref (z 4), .ref (z 5), .ref (z 6), .int 0, .ref (z 7), .ref (z 8), .ref (z 9), .ref (z 10), .ref (z 11), .ref (z 12), .int 0, .ref (z 13), .ref (z 14), .int 0, .ref (z 15)])), (z 1, .inl (gI g, 461, .inl mD0)), (z 2, .inl (gI g, 7376, .inl (fun _ => 0)))]) hx hb hml hown hts hKW hP hD hS hA hl.1 (c_X12_isIn l g _ v 0 59 ) wd_10_11 wd_1_5 wd_10_9 wd_10_10 yd_X12_isIn ⟨Nat.le_of_ble_eq_true rfl, Nat.le_of_ble_eq_true rfl⟩ rfl rfl rfl rfl rfl (by decide) rfl (Nat.le_of_ble_eq_true rfl) dX12_slot_4 ⟨Nat.le_of_ble_eq_true rfl, Nat.le_of_ble_eq_true rfl⟩ (fun r_1 u_2 H locs hw_3 hP hD hS => ?_)
  have hP : va_P g.1 vwCl [(z 0, .inr (12, [.ref (z 1), .ref (z 2), .int 0, .int 0, .ref (z 3), .ref (z 4), .ref (z 5), .ref (z 6), .int 0, .ref (z 7), .ref (z 8), .ref (z 9), .ref (z 10), .ref (z 11), .ref (z 12), .int 0, .ref (z 13), .ref (z 14), .int 0, .ref (z 15)])), (z 1, .inl (gI g, 461, .inl mD0)), (z 2, .inl (gI g, 7376, .inl (fun _ => 0)))] H := hP
  have hD : va_D A [(z 0, .inr (12, [.ref (z 1), .ref (z 2), .int 0, .int 0, .ref (z 3), .ref (z 4), .ref (z 5), .ref (z 6), .int 0, .ref (z 7), .ref (z 8), .ref (z 9), .ref (z 10), .ref (z 11), .ref (z 12), .int 0, .ref (z 13), .ref (z 14), .int 0, .ref (z 15)])), (z 1, .inl (gI g, 461, .inl mD0)), (z 2, .inl (gI g, 7376, .inl (fun _ => 0)))] := hD
  rcases (show (r_1 = 1 ∧ (Int32.toInt 0 ≤ Int32.toInt v ∧ Int32.toInt v ≤ Int32.toInt 59)) ∨ (r_1 = 0 ∧ ¬ (Int32.toInt 0 ≤ Int32.toInt v ∧ Int32.toInt v ≤ Int32.toInt 59)) from hw_3) with ⟨rfl, hw_3b⟩ | ⟨rfl, hw_3b⟩ <;> clear hw_3
  · refine lv_if_ne (tgt := 16) hx hb dX12_slot_7 (by decide) (fun _ => ?_) (fun c => absurd c (by decide))
    refine lv_iload_n hx hb dX12_slot_16 rfl (lv_at hl 1 rfl) ?_
    refine lv_aload_n hx hb dX12_slot_17 rfl (lv_at hl 0 rfl) ?_
    refine va_get (ci := 12) (C := RX12) (T := TX12) (N := 20) hx hb hts inlX12 hown hKW.1 hP 0 rfl rfl 0 (by decide) (hts _ wd_6_5) (fun _ h => h) rfl dX12_slot_18 ?_
    refine lv_iconst (v := 4) hx hb dX12_slot_21 (by decide) ?_
    refine va_iald hx hb hKW.1 hP 1 0 rfl rfl (show ¬ _ by decide) dX12_slot_22 ?_
    refine k_top (y := 0) rfl ?_
    refine lv_icmp_ge (tgt := 32) hx hb dX12_slot_23 (by decide) (fun c_4 => ?_) (fun c_4 => ?_)
    · refine lv_aload_n hx hb dX12_slot_32 rfl (lv_at hl 0 rfl) ?_
      refine k_Vv [0, 1, 2] [] 0 12 (wr := []) hx hb hml hown hts hKW hP hD hS hA hl.1 (c_X12_keep0 l g _ z ) rfl rfl rfl wd_10_21 wd_1_5 wd_10_18 wd_10_19 wd_10_20 yd_X12_keep ⟨Nat.le_of_ble_eq_true rfl, Nat.le_of_ble_eq_true rfl⟩ rfl rfl rfl rfl rfl (by decide) rfl (Nat.le_of_ble_eq_true rfl) dX12_slot_33 ⟨Nat.le_of_ble_eq_true rfl, Nat.le_of_ble_eq_true rfl⟩ (fun u_6 H locs hw_7 hP hD hS => ?_)
      have hP : va_P g.1 vwCl [(z 0, .inr (12, [.ref (z 1), .ref (z 2), .int 1, .int 0, .ref (z 3), .ref (z 4), .ref (z 5), .ref (z 6), .int 0, .ref (z 7), .ref (z 8), .ref (z 9), .ref (z 10), .ref (z 11), .ref (z 12), .int 0, .ref (z 13), .ref (z 14), .int 0, .ref (z 15)])), (z 1, .inl (gI g, 461, .inl mD0))] H := hP
      have hD : va_D A [(z 0, .inr (12, [.ref (z 1), .ref (z 2), .int 1, .int 0, .ref (z 3), .ref (z 4), .ref (z 5), .ref (z 6), .int 0, .ref (z 7), .ref (z 8), .ref (z 9), .ref (z 10), .ref (z 11), .ref (z 12), .int 0, .ref (z 13), .ref (z 14), .int 0, .ref (z 15)])), (z 1, .inl (gI g, 461, .inl mD0))] := hD
      refine lv_aload_n hx hb dX12_slot_36 rfl (lv_at hl 0 rfl) ?_
      refine va_get (ci := 12) (C := RX12) (T := TX12) (N := 20) hx hb hts inlX12 hown hKW.1 hP 0 rfl rfl 0 (by decide) (hts _ wd_6_5) (fun _ h => h) rfl dX12_slot_37 ?_
      refine lv_iconst (v := 4) hx hb dX12_slot_40 (by decide) ?_
      refine va_iald hx hb hKW.1 hP 1 0 rfl rfl (show ¬ _ by decide) dX12_slot_41 ?_
      refine k_top (y := 0) rfl ?_
      refine lv_istore_n (lv' := [(2, .int 0), (0, .ref (z 0)), (1, .int v)]) hx hb dX12_slot_42 rfl hl (by decide) rfl (fun ls hl => ?_)
      refine lv_aload_n hx hb dX12_slot_43 rfl (lv_at hl 1 rfl) ?_
      refine va_get (ci := 12) (C := RX12) (T := TX12) (N := 20) hx hb hts inlX12 hown hKW.1 hP 0 rfl rfl 0 (by decide) (hts _ wd_6_5) (fun _ h => h) rfl dX12_slot_44 ?_
      refine lv_iconst (v := 4) hx hb dX12_slot_47 (by decide) ?_
      refine lv_iload_n hx hb dX12_slot_48 rfl (lv_at hl 2 rfl) ?_
      refine va_iast hx hb hKW.1 hP hD hS 1 0 rfl rfl (show ¬ _ by decide) dX12_slot_49 (fun H locs hP hD hS => ?_)
      have hP : va_P g.1 vwCl [(z 0, .inr (12, [.ref (z 1), .ref (z 2), .int 1, .int 0, .ref (z 3), .ref (z 4), .ref (z 5), .ref (z 6), .int 0, .ref (z 7), .ref (z 8), .ref (z 9), .ref (z 10), .ref (z 11), .ref (z 12), .int 0, .ref (z 13), .ref (z 14), .int 0, .ref (z 15)])), (z 1, .inl (gI g, 461, .inl (upd mD0 4 v)))] H := hP
      have hD : va_D A [(z 0, .inr (12, [.ref (z 1), .ref (z 2), .int 1, .int 0, .ref (z 3), .ref (z 4), .ref (z 5), .ref (z 6), .int 0, .ref (z 7), .ref (z 8), .ref (z 9), .ref (z 10), .ref (z 11), .ref (z 12), .int 0, .ref (z 13), .ref (z 14), .int 0, .ref (z 15)])), (z 1, .inl (gI g, 461, .inl (upd mD0 4 v)))] := hD
      obtain ⟨f_8, ef_8⟩ : ∃ zz_ : Nat → Int32, zz_ = upd mD0 4 v := ⟨_, rfl⟩
      rw [← ef_8] at hP hD
      refine lv_iload_n hx hb dX12_slot_50 rfl (lv_at hl 0 rfl) ?_
      exact k_iret () [] hx hb hr hlk hP hD hS (by clear hP hD hS hA hts hKW hl; unfold aR; (repeat' split) <;> first | rfl | (exfalso; first | omega | (simp only [Int32.lt_iff_toInt_lt, Int32.le_iff_toInt_le, ← Int32.toInt_inj] at *; omega) | (simp only [Int32.lt_iff_toInt_lt, Int32.le_iff_toInt_le, ← Int32.toInt_inj] at *; simp at *; omega) | (simp only [Int32.lt_iff_toInt_lt, Int32.le_iff_toInt_le, ← Int32.toInt_inj] at *; simp at *; done) | (simp at *; omega) | (simp at *; done))) rfl rfl rfl (Nat.le_of_ble_eq_true rfl) (Nat.le_of_ble_eq_true rfl) dX12_slot_51
    · refine lv_aload_n hx hb dX12_slot_26 rfl (lv_at hl 0 rfl) ?_
      refine lv_iconst (v := 3) hx hb dX12_slot_27 (by decide) ?_
      refine k_Vi [0] [1, 2] 0 12 (wr := [(z 1, .inl (gI g, 461, .inl mD0)), (z 2, .inl (gI g, 7376, .inl (fun _ => 0)))]) hx hb hml hown hts hKW hP hD hS hA hl.1 (c_X12_finding_3 l g _ (z 0) (z 1) (z 2) (z 3) (z 4) (z 5) (z 6) (z 7) (z 8) (z 9) (z 10) (z 11) (z 12) (z 13) (z 14) (z 15) 0 0 0 0 0 ) rfl rfl rfl wd_10_15 wd_1_5 wd_10_12 wd_10_13 wd_10_14 yd_X12_finding ⟨Nat.le_of_ble_eq_true rfl, Nat.le_of_ble_eq_true rfl⟩ rfl rfl rfl rfl rfl (by decide) rfl (Nat.le_of_ble_eq_true rfl) dX12_slot_28 ⟨Nat.le_of_ble_eq_true rfl, Nat.le_of_ble_eq_true rfl⟩ (fun r_9 u_10 H locs hw_11 hP hD hS => ?_)
      have hP : va_P g.1 vwCl [(z 1, .inl (gI g, 461, .inl mD0)), (z 2, .inl (gI g, 7376, .inl (fun _ => 0)))] H := hP
      have hD : va_D A [(z 1, .inl (gI g, 461, .inl mD0)), (z 2, .inl (gI g, 7376, .inl (fun _ => 0)))] := hD
      have hw_11 : r_9 = (-100003) := hw_11
      subst hw_11
      exact k_iret () [] hx hb hr hlk hP hD hS (by clear hP hD hS hA hts hKW hl; unfold aR; (repeat' split) <;> first | rfl | (exfalso; first | omega | (simp only [Int32.lt_iff_toInt_lt, Int32.le_iff_toInt_le, ← Int32.toInt_inj] at *; omega) | (simp only [Int32.lt_iff_toInt_lt, Int32.le_iff_toInt_le, ← Int32.toInt_inj] at *; simp at *; omega) | (simp only [Int32.lt_iff_toInt_lt, Int32.le_iff_toInt_le, ← Int32.toInt_inj] at *; simp at *; done) | (simp at *; omega) | (simp at *; done))) rfl rfl rfl (Nat.le_of_ble_eq_true rfl) (Nat.le_of_ble_eq_true rfl) dX12_slot_31
  · refine lv_if_ne (tgt := 16) hx hb dX12_slot_7 (by decide) (fun c => absurd c (by decide)) (fun _ => ?_)
    refine lv_aload_n hx hb dX12_slot_10 rfl (lv_at hl 0 rfl) ?_
    refine lv_iconst (v := 1) hx hb dX12_slot_11 (by decide) ?_
    refine k_Vi [0] [1, 2] 0 12 (wr := [(z 1, .inl (gI g, 461, .inl mD0)), (z 2, .inl (gI g, 7376, .inl (fun _ => 0)))]) hx hb hml hown hts hKW hP hD hS hA hl.1 (c_X12_finding_1 l g _ (z 0) (z 1) (z 2) (z 3) (z 4) (z 5) (z 6) (z 7) (z 8) (z 9) (z 10) (z 11) (z 12) (z 13) (z 14) (z 15) 0 0 0 0 0 ) rfl rfl rfl wd_10_15 wd_1_5 wd_10_12 wd_10_13 wd_10_14 yd_X12_finding ⟨Nat.le_of_ble_eq_true rfl, Nat.le_of_ble_eq_true rfl⟩ rfl rfl rfl rfl rfl (by decide) rfl (Nat.le_of_ble_eq_true rfl) dX12_slot_12 ⟨Nat.le_of_ble_eq_true rfl, Nat.le_of_ble_eq_true rfl⟩ (fun r_12 u_13 H locs hw_14 hP hD hS => ?_)
    have hP : va_P g.1 vwCl [(z 1, .inl (gI g, 461, .inl mD0)), (z 2, .inl (gI g, 7376, .inl (fun _ => 0)))] H := hP
    have hD : va_D A [(z 1, .inl (gI g, 461, .inl mD0)), (z 2, .inl (gI g, 7376, .inl (fun _ => 0)))] := hD
    have hw_14 : r_12 = (-100001) := hw_14
    subst hw_14
    exact k_iret () [] hx hb hr hlk hP hD hS (by clear hP hD hS hA hts hKW hl; unfold aR; (repeat' split) <;> first | rfl | (exfalso; first | omega | (simp only [Int32.lt_iff_toInt_lt, Int32.le_iff_toInt_le, ← Int32.toInt_inj] at *; omega) | (simp only [Int32.lt_iff_toInt_lt, Int32.le_iff_toInt_le, ← Int32.toInt_inj] at *; simp at *; omega) | (simp only [Int32.lt_iff_toInt_lt, Int32.le_iff_toInt_le, ← Int32.toInt_inj] at *; simp at *; done) | (simp at *; omega) | (simp at *; done))) rfl rfl rfl (Nat.le_of_ble_eq_true rfl) (Nat.le_of_ble_eq_true rfl) dX12_slot_15
theorem dX12_day_0 : decode cX12_day 0 = .ok (.aload_n 0, 1) := by decide +kernel
theorem dX12_day_1 : decode cX12_day 1 = .ok (.invokevirtual 72, 3) := by decide +kernel
theorem dX12_day_4 : decode cX12_day 4 = .ok (.iconst 0, 1) := by decide +kernel
theorem dX12_day_5 : decode cX12_day 5 = .ok (.istore_n 1, 1) := by decide +kernel
theorem dX12_day_6 : decode cX12_day 6 = .ok (.iconst 0, 1) := by decide +kernel
theorem dX12_day_7 : decode cX12_day 7 = .ok (.istore_n 2, 1) := by decide +kernel
theorem dX12_day_8 : decode cX12_day 8 = .ok (.iload_n 2, 1) := by decide +kernel
theorem dX12_day_9 : decode cX12_day 9 = .ok (.aload_n 0, 1) := by decide +kernel
theorem dX12_day_10 : decode cX12_day 10 = .ok (.getfield 7, 3) := by decide +kernel
theorem dX12_day_13 : decode cX12_day 13 = .ok (.iconst 2, 1) := by decide +kernel
theorem dX12_day_14 : decode cX12_day 14 = .ok (.iaload, 1) := by decide +kernel
theorem dX12_day_15 : decode cX12_day 15 = .ok (.if_icmp .ge 49, 3) := by decide +kernel
theorem dX12_day_64 : decode cX12_day 64 = .ok (.iconst 0, 1) := by decide +kernel
theorem dX12_day_65 : decode cX12_day 65 = .ok (.istore_n 2, 1) := by decide +kernel
theorem dX12_day_66 : decode cX12_day 66 = .ok (.iload_n 2, 1) := by decide +kernel
theorem dX12_day_67 : decode cX12_day 67 = .ok (.aload_n 0, 1) := by decide +kernel
theorem dX12_day_68 : decode cX12_day 68 = .ok (.getfield 7, 3) := by decide +kernel
theorem dX12_day_71 : decode cX12_day 71 = .ok (.iconst 1, 1) := by decide +kernel
theorem dX12_day_72 : decode cX12_day 72 = .ok (.iaload, 1) := by decide +kernel
theorem dX12_day_73 : decode cX12_day 73 = .ok (.if_icmp .ge 19, 3) := by decide +kernel
theorem dX12_day_92 : decode cX12_day 92 = .ok (.aload_n 0, 1) := by decide +kernel
theorem dX12_day_93 : decode cX12_day 93 = .ok (.getfield 7, 3) := by decide +kernel
theorem dX12_day_96 : decode cX12_day 96 = .ok (.iconst 4, 1) := by decide +kernel
theorem dX12_day_97 : decode cX12_day 97 = .ok (.iconst 0, 1) := by decide +kernel
theorem dX12_day_98 : decode cX12_day 98 = .ok (.iastore, 1) := by decide +kernel
theorem dX12_day_99 : decode cX12_day 99 = .ok (.aload_n 0, 1) := by decide +kernel
theorem dX12_day_100 : decode cX12_day 100 = .ok (.getfield 7, 3) := by decide +kernel
theorem dX12_day_103 : decode cX12_day 103 = .ok (.iconst 5, 1) := by decide +kernel
theorem dX12_day_104 : decode cX12_day 104 = .ok (.iconst 0, 1) := by decide +kernel
theorem dX12_day_105 : decode cX12_day 105 = .ok (.iastore, 1) := by decide +kernel
theorem dX12_day_106 : decode cX12_day 106 = .ok (.aload_n 0, 1) := by decide +kernel
theorem dX12_day_107 : decode cX12_day 107 = .ok (.getfield 7, 3) := by decide +kernel
theorem dX12_day_110 : decode cX12_day 110 = .ok (.bipush 6, 2) := by decide +kernel
theorem dX12_day_112 : decode cX12_day 112 = .ok (.iconst 0, 1) := by decide +kernel
theorem dX12_day_113 : decode cX12_day 113 = .ok (.iastore, 1) := by decide +kernel
theorem dX12_day_114 : decode cX12_day 114 = .ok (.iload_n 1, 1) := by decide +kernel
theorem dX12_day_115 : decode cX12_day 115 = .ok (.ireturn, 1) := by decide +kernel
set_option maxHeartbeats 4000000 in
set_option maxRecDepth 100000 in
theorem c_X12_day (l : Launch) (g : kG) (sz : Nat) (z : Nat → Nat) : kMi l g yX12_day cX12_day 3 (some .int) 6 0 0 [.ref (z 0)] sz [(z 0, .inr (12, [.ref (z 1), .ref (z 2), .int 0, .int 0, .ref (z 3), .ref (z 4), .ref (z 5), .ref (z 6), .int 0, .ref (z 7), .ref (z 8), .ref (z 9), .ref (z 10), .ref (z 11), .ref (z 12), .int 0, .ref (z 13), .ref (z 14), .int 0, .ref (z 15)])), (z 1, .inl (gI g, 461, .inl mD0)), (z 2, .inl (gI g, 7376, .inl (fun _ => 0)))] (fun (r : Int32) (u : Unit) => r = 0) (fun (u : Unit) => ([] : va_W)) := by
  refine kMi.of (by decide) (Nat.le_of_ble_eq_true rfl) (fun p e s m below meth c A hx hb hr hml hown hts hlk hnm hKW hP hD hS hA ls hl => ?_)
  have hown : s.vm.findClass RX12 = some m.cls := hown
  have hl : lv_has ls 3 [(0, .ref (z 0))] := hl
  refine lv_aload_n hx hb dX12_day_0 rfl (lv_at hl 0 rfl) ?_
  refine k_Vv [0, 1, 2] [] 0 12 (wr := []) hx hb hml hown hts hKW hP hD hS hA hl.1 (c_X12_keep0 l g _ z ) rfl rfl rfl wd_10_21 wd_1_5 wd_10_18 wd_10_19 wd_10_20 yd_X12_keep ⟨Nat.le_of_ble_eq_true rfl, Nat.le_of_ble_eq_true rfl⟩ rfl rfl rfl rfl rfl (by decide) rfl (Nat.le_of_ble_eq_true rfl) dX12_day_1 ⟨Nat.le_of_ble_eq_true rfl, Nat.le_of_ble_eq_true rfl⟩ (fun u_2 H locs hw_3 hP hD hS => ?_)
  have hP : va_P g.1 vwCl [(z 0, .inr (12, [.ref (z 1), .ref (z 2), .int 1, .int 0, .ref (z 3), .ref (z 4), .ref (z 5), .ref (z 6), .int 0, .ref (z 7), .ref (z 8), .ref (z 9), .ref (z 10), .ref (z 11), .ref (z 12), .int 0, .ref (z 13), .ref (z 14), .int 0, .ref (z 15)])), (z 1, .inl (gI g, 461, .inl mD0))] H := hP
  have hD : va_D A [(z 0, .inr (12, [.ref (z 1), .ref (z 2), .int 1, .int 0, .ref (z 3), .ref (z 4), .ref (z 5), .ref (z 6), .int 0, .ref (z 7), .ref (z 8), .ref (z 9), .ref (z 10), .ref (z 11), .ref (z 12), .int 0, .ref (z 13), .ref (z 14), .int 0, .ref (z 15)])), (z 1, .inl (gI g, 461, .inl mD0))] := hD
  refine lv_iconst (v := 0) hx hb dX12_day_4 (by decide) ?_
  refine lv_istore_n (lv' := [(1, .int 0), (0, .ref (z 0))]) hx hb dX12_day_5 rfl hl (by decide) rfl (fun ls hl => ?_)
  refine lv_iconst (v := 0) hx hb dX12_day_6 (by decide) ?_
  refine lv_istore_n (lv' := [(2, .int 0), (1, .int 0), (0, .ref (z 0))]) hx hb dX12_day_7 rfl hl (by decide) rfl (fun ls hl => ?_)
  refine lv_iload_n hx hb dX12_day_8 rfl (lv_at hl 0 rfl) ?_
  refine lv_aload_n hx hb dX12_day_9 rfl (lv_at hl 2 rfl) ?_
  refine va_get (ci := 12) (C := RX12) (T := TX12) (N := 20) hx hb hts inlX12 hown hKW.1 hP 0 rfl rfl 0 (by decide) (hts _ wd_6_5) (fun _ h => h) rfl dX12_day_10 ?_
  refine lv_iconst (v := 2) hx hb dX12_day_13 (by decide) ?_
  refine va_iald hx hb hKW.1 hP 1 0 rfl rfl (show ¬ _ by decide) dX12_day_14 ?_
  refine k_top (y := 0) rfl ?_
  refine lv_icmp_ge (tgt := 64) hx hb dX12_day_15 (by decide) (fun _ => ?_) (fun c => absurd c (by decide))
  refine lv_iconst (v := 0) hx hb dX12_day_64 (by decide) ?_
  refine lv_istore_n (lv' := [(2, .int 0), (1, .int 0), (0, .ref (z 0))]) hx hb dX12_day_65 rfl hl (by decide) rfl (fun ls hl => ?_)
  refine lv_iload_n hx hb dX12_day_66 rfl (lv_at hl 0 rfl) ?_
  refine lv_aload_n hx hb dX12_day_67 rfl (lv_at hl 2 rfl) ?_
  refine va_get (ci := 12) (C := RX12) (T := TX12) (N := 20) hx hb hts inlX12 hown hKW.1 hP 0 rfl rfl 0 (by decide) (hts _ wd_6_5) (fun _ h => h) rfl dX12_day_68 ?_
  refine lv_iconst (v := 1) hx hb dX12_day_71 (by decide) ?_
  refine va_iald hx hb hKW.1 hP 1 0 rfl rfl (show ¬ _ by decide) dX12_day_72 ?_
  refine k_top (y := 0) rfl ?_
  refine lv_icmp_ge (tgt := 92) hx hb dX12_day_73 (by decide) (fun _ => ?_) (fun c => absurd c (by decide))
  refine lv_aload_n hx hb dX12_day_92 rfl (lv_at hl 2 rfl) ?_
  refine va_get (ci := 12) (C := RX12) (T := TX12) (N := 20) hx hb hts inlX12 hown hKW.1 hP 0 rfl rfl 0 (by decide) (hts _ wd_6_5) (fun _ h => h) rfl dX12_day_93 ?_
  refine lv_iconst (v := 4) hx hb dX12_day_96 (by decide) ?_
  refine lv_iconst (v := 0) hx hb dX12_day_97 (by decide) ?_
  refine va_iast hx hb hKW.1 hP hD hS 1 0 rfl rfl (show ¬ _ by decide) dX12_day_98 (fun H locs hP hD hS => ?_)
  have hP : va_P g.1 vwCl [(z 0, .inr (12, [.ref (z 1), .ref (z 2), .int 1, .int 0, .ref (z 3), .ref (z 4), .ref (z 5), .ref (z 6), .int 0, .ref (z 7), .ref (z 8), .ref (z 9), .ref (z 10), .ref (z 11), .ref (z 12), .int 0, .ref (z 13), .ref (z 14), .int 0, .ref (z 15)])), (z 1, .inl (gI g, 461, .inl (upd mD0 4 0)))] H := hP
  have hD : va_D A [(z 0, .inr (12, [.ref (z 1), .ref (z 2), .int 1, .int 0, .ref (z 3), .ref (z 4), .ref (z 5), .ref (z 6), .int 0, .ref (z 7), .ref (z 8), .ref (z 9), .ref (z 10), .ref (z 11), .ref (z 12), .int 0, .ref (z 13), .ref (z 14), .int 0, .ref (z 15)])), (z 1, .inl (gI g, 461, .inl (upd mD0 4 0)))] := hD
  obtain ⟨f_4, ef_4⟩ : ∃ zz_ : Nat → Int32, zz_ = upd mD0 4 0 := ⟨_, rfl⟩
  rw [← ef_4] at hP hD
  refine lv_aload_n hx hb dX12_day_99 rfl (lv_at hl 2 rfl) ?_
  refine va_get (ci := 12) (C := RX12) (T := TX12) (N := 20) hx hb hts inlX12 hown hKW.1 hP 0 rfl rfl 0 (by decide) (hts _ wd_6_5) (fun _ h => h) rfl dX12_day_100 ?_
  refine lv_iconst (v := 5) hx hb dX12_day_103 (by decide) ?_
  refine lv_iconst (v := 0) hx hb dX12_day_104 (by decide) ?_
  refine va_iast hx hb hKW.1 hP hD hS 1 0 rfl rfl (show ¬ _ by decide) dX12_day_105 (fun H locs hP hD hS => ?_)
  have hP : va_P g.1 vwCl [(z 0, .inr (12, [.ref (z 1), .ref (z 2), .int 1, .int 0, .ref (z 3), .ref (z 4), .ref (z 5), .ref (z 6), .int 0, .ref (z 7), .ref (z 8), .ref (z 9), .ref (z 10), .ref (z 11), .ref (z 12), .int 0, .ref (z 13), .ref (z 14), .int 0, .ref (z 15)])), (z 1, .inl (gI g, 461, .inl (upd f_4 5 0)))] H := hP
  have hD : va_D A [(z 0, .inr (12, [.ref (z 1), .ref (z 2), .int 1, .int 0, .ref (z 3), .ref (z 4), .ref (z 5), .ref (z 6), .int 0, .ref (z 7), .ref (z 8), .ref (z 9), .ref (z 10), .ref (z 11), .ref (z 12), .int 0, .ref (z 13), .ref (z 14), .int 0, .ref (z 15)])), (z 1, .inl (gI g, 461, .inl (upd f_4 5 0)))] := hD
  obtain ⟨f_5, ef_5⟩ : ∃ zz_ : Nat → Int32, zz_ = upd f_4 5 0 := ⟨_, rfl⟩
  rw [← ef_5] at hP hD
  refine lv_aload_n hx hb dX12_day_106 rfl (lv_at hl 2 rfl) ?_
  refine va_get (ci := 12) (C := RX12) (T := TX12) (N := 20) hx hb hts inlX12 hown hKW.1 hP 0 rfl rfl 0 (by decide) (hts _ wd_6_5) (fun _ h => h) rfl dX12_day_107 ?_
  refine lv_bipush (v := 6) hx hb dX12_day_110 (by decide) ?_
  refine lv_iconst (v := 0) hx hb dX12_day_112 (by decide) ?_
  refine va_iast hx hb hKW.1 hP hD hS 1 0 rfl rfl (show ¬ _ by decide) dX12_day_113 (fun H locs hP hD hS => ?_)
  have hP : va_P g.1 vwCl [(z 0, .inr (12, [.ref (z 1), .ref (z 2), .int 1, .int 0, .ref (z 3), .ref (z 4), .ref (z 5), .ref (z 6), .int 0, .ref (z 7), .ref (z 8), .ref (z 9), .ref (z 10), .ref (z 11), .ref (z 12), .int 0, .ref (z 13), .ref (z 14), .int 0, .ref (z 15)])), (z 1, .inl (gI g, 461, .inl (upd f_5 6 0)))] H := hP
  have hD : va_D A [(z 0, .inr (12, [.ref (z 1), .ref (z 2), .int 1, .int 0, .ref (z 3), .ref (z 4), .ref (z 5), .ref (z 6), .int 0, .ref (z 7), .ref (z 8), .ref (z 9), .ref (z 10), .ref (z 11), .ref (z 12), .int 0, .ref (z 13), .ref (z 14), .int 0, .ref (z 15)])), (z 1, .inl (gI g, 461, .inl (upd f_5 6 0)))] := hD
  obtain ⟨f_6, ef_6⟩ : ∃ zz_ : Nat → Int32, zz_ = upd f_5 6 0 := ⟨_, rfl⟩
  rw [← ef_6] at hP hD
  refine lv_iload_n hx hb dX12_day_114 rfl (lv_at hl 1 rfl) ?_
  exact k_iret () [] hx hb hr hlk hP hD hS rfl rfl rfl rfl (Nat.le_of_ble_eq_true rfl) (Nat.le_of_ble_eq_true rfl) dX12_day_115
theorem dX12_in_0 : decode cX12_in 0 = .ok (.aload_n 0, 1) := by decide +kernel
theorem dX12_in_1 : decode cX12_in 1 = .ok (.iload_n 1, 1) := by decide +kernel
theorem dX12_in_2 : decode cX12_in 2 = .ok (.invokevirtual 82, 3) := by decide +kernel
theorem dX12_in_5 : decode cX12_in 5 = .ok (.ifCond .eq 11, 3) := by decide +kernel
theorem dX12_in_16 : decode cX12_in 16 = .ok (.aload_n 0, 1) := by decide +kernel
theorem dX12_in_17 : decode cX12_in 17 = .ok (.iconst 1, 1) := by decide +kernel
theorem dX12_in_18 : decode cX12_in 18 = .ok (.invokevirtual 68, 3) := by decide +kernel
theorem dX12_in_21 : decode cX12_in 21 = .ok (.ireturn, 1) := by decide +kernel
set_option maxHeartbeats 4000000 in
set_option maxRecDepth 100000 in
theorem c_X12_in (l : Launch) (g : kG) (sz : Nat) (z : Nat → Nat) (ch : Int32) (k : Int32) : kMi l g yX12_in cX12_in 3 (some .int) 6 0 0 [.ref (z 0), .int ch, .int k] sz [(z 0, .inr (12, [.ref (z 1), .ref (z 2), .int 0, .int 0, .ref (z 3), .ref (z 4), .ref (z 5), .ref (z 6), .int 0, .ref (z 7), .ref (z 8), .ref (z 9), .ref (z 10), .ref (z 11), .ref (z 12), .int 0, .ref (z 13), .ref (z 14), .int 0, .ref (z 15)])), (z 1, .inl (gI g, 461, .inl mD0))] (fun (r : Int32) (u : Unit) => r = (-100001)) (fun (u : Unit) => ([] : va_W)) := by
  refine kMi.of (by decide) (Nat.le_of_ble_eq_true rfl) (fun p e s m below meth c A hx hb hr hml hown hts hlk hnm hKW hP hD hS hA ls hl => ?_)
  have hown : s.vm.findClass RX12 = some m.cls := hown
  have hl : lv_has ls 3 [(0, .ref (z 0)), (1, .int ch), (2, .int k)] := hl
  refine lv_aload_n hx hb dX12_in_0 rfl (lv_at hl 0 rfl) ?_
  refine lv_iload_n hx hb dX12_in_1 rfl (lv_at hl 1 rfl) ?_
  refine k_Vi [0, 1] [] 0 12 (wr := []) hx hb hml hown hts hKW hP hD hS hA hl.1 (c_X12_isChild0 l g _ (z 0) (z 1) (z 2) (z 3) (z 4) (z 5) (z 6) (z 7) (z 8) (z 9) (z 10) (z 11) (z 12) (z 13) (z 14) (z 15) 0 0 0 0 0 ch ) rfl rfl rfl wd_13_19 wd_1_5 wd_13_16 wd_13_17 wd_13_18 yd_X12_isChild ⟨Nat.le_of_ble_eq_true rfl, Nat.le_of_ble_eq_true rfl⟩ rfl rfl rfl rfl rfl (by decide) rfl (Nat.le_of_ble_eq_true rfl) dX12_in_2 ⟨Nat.le_of_ble_eq_true rfl, Nat.le_of_ble_eq_true rfl⟩ (fun r_1 u_2 H locs hw_3 hP hD hS => ?_)
  have hP : va_P g.1 vwCl [(z 0, .inr (12, [.ref (z 1), .ref (z 2), .int 0, .int 0, .ref (z 3), .ref (z 4), .ref (z 5), .ref (z 6), .int 0, .ref (z 7), .ref (z 8), .ref (z 9), .ref (z 10), .ref (z 11), .ref (z 12), .int 0, .ref (z 13), .ref (z 14), .int 0, .ref (z 15)])), (z 1, .inl (gI g, 461, .inl mD0))] H := hP
  have hD : va_D A [(z 0, .inr (12, [.ref (z 1), .ref (z 2), .int 0, .int 0, .ref (z 3), .ref (z 4), .ref (z 5), .ref (z 6), .int 0, .ref (z 7), .ref (z 8), .ref (z 9), .ref (z 10), .ref (z 11), .ref (z 12), .int 0, .ref (z 13), .ref (z 14), .int 0, .ref (z 15)])), (z 1, .inl (gI g, 461, .inl mD0))] := hD
  have hw_3 : r_1 = 0 := hw_3
  subst hw_3
  refine lv_if_eq (tgt := 16) hx hb dX12_in_5 (by decide) (fun _ => ?_) (fun c => absurd c (by decide))
  refine lv_aload_n hx hb dX12_in_16 rfl (lv_at hl 0 rfl) ?_
  refine lv_iconst (v := 1) hx hb dX12_in_17 (by decide) ?_
  refine k_Vi [0] [1] 0 12 (wr := [(z 1, .inl (gI g, 461, .inl mD0))]) hx hb hml hown hts hKW hP hD hS hA hl.1 (c_X12_finding_1 l g _ (z 0) (z 1) (z 2) (z 3) (z 4) (z 5) (z 6) (z 7) (z 8) (z 9) (z 10) (z 11) (z 12) (z 13) (z 14) (z 15) 0 0 0 0 0 ) rfl rfl rfl wd_10_15 wd_1_5 wd_10_12 wd_10_13 wd_10_14 yd_X12_finding ⟨Nat.le_of_ble_eq_true rfl, Nat.le_of_ble_eq_true rfl⟩ rfl rfl rfl rfl rfl (by decide) rfl (Nat.le_of_ble_eq_true rfl) dX12_in_18 ⟨Nat.le_of_ble_eq_true rfl, Nat.le_of_ble_eq_true rfl⟩ (fun r_4 u_5 H locs hw_6 hP hD hS => ?_)
  have hP : va_P g.1 vwCl [(z 1, .inl (gI g, 461, .inl mD0))] H := hP
  have hD : va_D A [(z 1, .inl (gI g, 461, .inl mD0))] := hD
  have hw_6 : r_4 = (-100001) := hw_6
  subst hw_6
  exact k_iret () [] hx hb hr hlk hP hD hS rfl rfl rfl rfl (Nat.le_of_ble_eq_true rfl) (Nat.le_of_ble_eq_true rfl) dX12_in_21
theorem dX12_to_0 : decode cX12_to 0 = .ok (.aload_n 0, 1) := by decide +kernel
theorem dX12_to_1 : decode cX12_to 1 = .ok (.iload_n 1, 1) := by decide +kernel
theorem dX12_to_2 : decode cX12_to 2 = .ok (.invokevirtual 82, 3) := by decide +kernel
theorem dX12_to_5 : decode cX12_to 5 = .ok (.ifCond .eq 11, 3) := by decide +kernel
theorem dX12_to_16 : decode cX12_to 16 = .ok (.aload_n 0, 1) := by decide +kernel
theorem dX12_to_17 : decode cX12_to 17 = .ok (.iconst 1, 1) := by decide +kernel
theorem dX12_to_18 : decode cX12_to 18 = .ok (.invokevirtual 68, 3) := by decide +kernel
theorem dX12_to_21 : decode cX12_to 21 = .ok (.ireturn, 1) := by decide +kernel
set_option maxHeartbeats 4000000 in
set_option maxRecDepth 100000 in
theorem c_X12_to (l : Launch) (g : kG) (sz : Nat) (z : Nat → Nat) (ch : Int32) (k : Int32) : kMi l g yX12_to cX12_to 4 (some .int) 6 0 0 [.ref (z 0), .int ch, .int k] sz [(z 0, .inr (12, [.ref (z 1), .ref (z 2), .int 0, .int 0, .ref (z 3), .ref (z 4), .ref (z 5), .ref (z 6), .int 0, .ref (z 7), .ref (z 8), .ref (z 9), .ref (z 10), .ref (z 11), .ref (z 12), .int 0, .ref (z 13), .ref (z 14), .int 0, .ref (z 15)])), (z 1, .inl (gI g, 461, .inl mD0))] (fun (r : Int32) (u : Unit) => r = (-100001)) (fun (u : Unit) => ([] : va_W)) := by
  refine kMi.of (by decide) (Nat.le_of_ble_eq_true rfl) (fun p e s m below meth c A hx hb hr hml hown hts hlk hnm hKW hP hD hS hA ls hl => ?_)
  have hown : s.vm.findClass RX12 = some m.cls := hown
  have hl : lv_has ls 4 [(0, .ref (z 0)), (1, .int ch), (2, .int k)] := hl
  refine lv_aload_n hx hb dX12_to_0 rfl (lv_at hl 0 rfl) ?_
  refine lv_iload_n hx hb dX12_to_1 rfl (lv_at hl 1 rfl) ?_
  refine k_Vi [0, 1] [] 0 12 (wr := []) hx hb hml hown hts hKW hP hD hS hA hl.1 (c_X12_isChild0 l g _ (z 0) (z 1) (z 2) (z 3) (z 4) (z 5) (z 6) (z 7) (z 8) (z 9) (z 10) (z 11) (z 12) (z 13) (z 14) (z 15) 0 0 0 0 0 ch ) rfl rfl rfl wd_13_19 wd_1_5 wd_13_16 wd_13_17 wd_13_18 yd_X12_isChild ⟨Nat.le_of_ble_eq_true rfl, Nat.le_of_ble_eq_true rfl⟩ rfl rfl rfl rfl rfl (by decide) rfl (Nat.le_of_ble_eq_true rfl) dX12_to_2 ⟨Nat.le_of_ble_eq_true rfl, Nat.le_of_ble_eq_true rfl⟩ (fun r_1 u_2 H locs hw_3 hP hD hS => ?_)
  have hP : va_P g.1 vwCl [(z 0, .inr (12, [.ref (z 1), .ref (z 2), .int 0, .int 0, .ref (z 3), .ref (z 4), .ref (z 5), .ref (z 6), .int 0, .ref (z 7), .ref (z 8), .ref (z 9), .ref (z 10), .ref (z 11), .ref (z 12), .int 0, .ref (z 13), .ref (z 14), .int 0, .ref (z 15)])), (z 1, .inl (gI g, 461, .inl mD0))] H := hP
  have hD : va_D A [(z 0, .inr (12, [.ref (z 1), .ref (z 2), .int 0, .int 0, .ref (z 3), .ref (z 4), .ref (z 5), .ref (z 6), .int 0, .ref (z 7), .ref (z 8), .ref (z 9), .ref (z 10), .ref (z 11), .ref (z 12), .int 0, .ref (z 13), .ref (z 14), .int 0, .ref (z 15)])), (z 1, .inl (gI g, 461, .inl mD0))] := hD
  have hw_3 : r_1 = 0 := hw_3
  subst hw_3
  refine lv_if_eq (tgt := 16) hx hb dX12_to_5 (by decide) (fun _ => ?_) (fun c => absurd c (by decide))
  refine lv_aload_n hx hb dX12_to_16 rfl (lv_at hl 0 rfl) ?_
  refine lv_iconst (v := 1) hx hb dX12_to_17 (by decide) ?_
  refine k_Vi [0] [1] 0 12 (wr := [(z 1, .inl (gI g, 461, .inl mD0))]) hx hb hml hown hts hKW hP hD hS hA hl.1 (c_X12_finding_1 l g _ (z 0) (z 1) (z 2) (z 3) (z 4) (z 5) (z 6) (z 7) (z 8) (z 9) (z 10) (z 11) (z 12) (z 13) (z 14) (z 15) 0 0 0 0 0 ) rfl rfl rfl wd_10_15 wd_1_5 wd_10_12 wd_10_13 wd_10_14 yd_X12_finding ⟨Nat.le_of_ble_eq_true rfl, Nat.le_of_ble_eq_true rfl⟩ rfl rfl rfl rfl rfl (by decide) rfl (Nat.le_of_ble_eq_true rfl) dX12_to_18 ⟨Nat.le_of_ble_eq_true rfl, Nat.le_of_ble_eq_true rfl⟩ (fun r_4 u_5 H locs hw_6 hP hD hS => ?_)
  have hP : va_P g.1 vwCl [(z 1, .inl (gI g, 461, .inl mD0))] H := hP
  have hD : va_D A [(z 1, .inl (gI g, 461, .inl mD0))] := hD
  have hw_6 : r_4 = (-100001) := hw_6
  subst hw_6
  exact k_iret () [] hx hb hr hlk hP hD hS rfl rfl rfl rfl (Nat.le_of_ble_eq_true rfl) (Nat.le_of_ble_eq_true rfl) dX12_to_21
theorem dX12_over_0 : decode cX12_over 0 = .ok (.aload_n 0, 1) := by decide +kernel
theorem dX12_over_1 : decode cX12_over 1 = .ok (.iload_n 1, 1) := by decide +kernel
theorem dX12_over_2 : decode cX12_over 2 = .ok (.invokevirtual 82, 3) := by decide +kernel
theorem dX12_over_5 : decode cX12_over 5 = .ok (.ifCond .eq 13, 3) := by decide +kernel
theorem dX12_over_18 : decode cX12_over 18 = .ok (.aload_n 0, 1) := by decide +kernel
theorem dX12_over_19 : decode cX12_over 19 = .ok (.iconst 1, 1) := by decide +kernel
theorem dX12_over_20 : decode cX12_over 20 = .ok (.invokevirtual 68, 3) := by decide +kernel
theorem dX12_over_23 : decode cX12_over 23 = .ok (.ireturn, 1) := by decide +kernel
set_option maxHeartbeats 4000000 in
set_option maxRecDepth 100000 in
theorem c_X12_over (l : Launch) (g : kG) (sz : Nat) (z : Nat → Nat) (ch : Int32) (k : Int32) : kMi l g yX12_over cX12_over 3 (some .int) 6 0 0 [.ref (z 0), .int ch, .int k] sz [(z 0, .inr (12, [.ref (z 1), .ref (z 2), .int 0, .int 0, .ref (z 3), .ref (z 4), .ref (z 5), .ref (z 6), .int 0, .ref (z 7), .ref (z 8), .ref (z 9), .ref (z 10), .ref (z 11), .ref (z 12), .int 0, .ref (z 13), .ref (z 14), .int 0, .ref (z 15)])), (z 1, .inl (gI g, 461, .inl mD0))] (fun (r : Int32) (u : Unit) => r = (-100001)) (fun (u : Unit) => ([] : va_W)) := by
  refine kMi.of (by decide) (Nat.le_of_ble_eq_true rfl) (fun p e s m below meth c A hx hb hr hml hown hts hlk hnm hKW hP hD hS hA ls hl => ?_)
  have hown : s.vm.findClass RX12 = some m.cls := hown
  have hl : lv_has ls 3 [(0, .ref (z 0)), (1, .int ch), (2, .int k)] := hl
  refine lv_aload_n hx hb dX12_over_0 rfl (lv_at hl 0 rfl) ?_
  refine lv_iload_n hx hb dX12_over_1 rfl (lv_at hl 1 rfl) ?_
  refine k_Vi [0, 1] [] 0 12 (wr := []) hx hb hml hown hts hKW hP hD hS hA hl.1 (c_X12_isChild0 l g _ (z 0) (z 1) (z 2) (z 3) (z 4) (z 5) (z 6) (z 7) (z 8) (z 9) (z 10) (z 11) (z 12) (z 13) (z 14) (z 15) 0 0 0 0 0 ch ) rfl rfl rfl wd_13_19 wd_1_5 wd_13_16 wd_13_17 wd_13_18 yd_X12_isChild ⟨Nat.le_of_ble_eq_true rfl, Nat.le_of_ble_eq_true rfl⟩ rfl rfl rfl rfl rfl (by decide) rfl (Nat.le_of_ble_eq_true rfl) dX12_over_2 ⟨Nat.le_of_ble_eq_true rfl, Nat.le_of_ble_eq_true rfl⟩ (fun r_1 u_2 H locs hw_3 hP hD hS => ?_)
  have hP : va_P g.1 vwCl [(z 0, .inr (12, [.ref (z 1), .ref (z 2), .int 0, .int 0, .ref (z 3), .ref (z 4), .ref (z 5), .ref (z 6), .int 0, .ref (z 7), .ref (z 8), .ref (z 9), .ref (z 10), .ref (z 11), .ref (z 12), .int 0, .ref (z 13), .ref (z 14), .int 0, .ref (z 15)])), (z 1, .inl (gI g, 461, .inl mD0))] H := hP
  have hD : va_D A [(z 0, .inr (12, [.ref (z 1), .ref (z 2), .int 0, .int 0, .ref (z 3), .ref (z 4), .ref (z 5), .ref (z 6), .int 0, .ref (z 7), .ref (z 8), .ref (z 9), .ref (z 10), .ref (z 11), .ref (z 12), .int 0, .ref (z 13), .ref (z 14), .int 0, .ref (z 15)])), (z 1, .inl (gI g, 461, .inl mD0))] := hD
  have hw_3 : r_1 = 0 := hw_3
  subst hw_3
  refine lv_if_eq (tgt := 18) hx hb dX12_over_5 (by decide) (fun _ => ?_) (fun c => absurd c (by decide))
  refine lv_aload_n hx hb dX12_over_18 rfl (lv_at hl 0 rfl) ?_
  refine lv_iconst (v := 1) hx hb dX12_over_19 (by decide) ?_
  refine k_Vi [0] [1] 0 12 (wr := [(z 1, .inl (gI g, 461, .inl mD0))]) hx hb hml hown hts hKW hP hD hS hA hl.1 (c_X12_finding_1 l g _ (z 0) (z 1) (z 2) (z 3) (z 4) (z 5) (z 6) (z 7) (z 8) (z 9) (z 10) (z 11) (z 12) (z 13) (z 14) (z 15) 0 0 0 0 0 ) rfl rfl rfl wd_10_15 wd_1_5 wd_10_12 wd_10_13 wd_10_14 yd_X12_finding ⟨Nat.le_of_ble_eq_true rfl, Nat.le_of_ble_eq_true rfl⟩ rfl rfl rfl rfl rfl (by decide) rfl (Nat.le_of_ble_eq_true rfl) dX12_over_20 ⟨Nat.le_of_ble_eq_true rfl, Nat.le_of_ble_eq_true rfl⟩ (fun r_4 u_5 H locs hw_6 hP hD hS => ?_)
  have hP : va_P g.1 vwCl [(z 1, .inl (gI g, 461, .inl mD0))] H := hP
  have hD : va_D A [(z 1, .inl (gI g, 461, .inl mD0))] := hD
  have hw_6 : r_4 = (-100001) := hw_6
  subst hw_6
  exact k_iret () [] hx hb hr hlk hP hD hS rfl rfl rfl rfl (Nat.le_of_ble_eq_true rfl) (Nat.le_of_ble_eq_true rfl) dX12_over_23
theorem dX12_fetches_0 : decode cX12_fetches 0 = .ok (.aload_n 0, 1) := by decide +kernel
theorem dX12_fetches_1 : decode cX12_fetches 1 = .ok (.iload_n 1, 1) := by decide +kernel
theorem dX12_fetches_2 : decode cX12_fetches 2 = .ok (.invokevirtual 82, 3) := by decide +kernel
theorem dX12_fetches_5 : decode cX12_fetches 5 = .ok (.ifCond .eq 13, 3) := by decide +kernel
theorem dX12_fetches_18 : decode cX12_fetches 18 = .ok (.aload_n 0, 1) := by decide +kernel
theorem dX12_fetches_19 : decode cX12_fetches 19 = .ok (.iconst 1, 1) := by decide +kernel
theorem dX12_fetches_20 : decode cX12_fetches 20 = .ok (.invokevirtual 68, 3) := by decide +kernel
theorem dX12_fetches_23 : decode cX12_fetches 23 = .ok (.ireturn, 1) := by decide +kernel
set_option maxHeartbeats 4000000 in
set_option maxRecDepth 100000 in
theorem c_X12_fetches (l : Launch) (g : kG) (sz : Nat) (z : Nat → Nat) (ch : Int32) (k : Int32) (zz : Int32) : kMi l g yX12_fetches cX12_fetches 5 (some .int) 6 0 0 [.ref (z 0), .int ch, .int k, .int zz] sz [(z 0, .inr (12, [.ref (z 1), .ref (z 2), .int 0, .int 0, .ref (z 3), .ref (z 4), .ref (z 5), .ref (z 6), .int 0, .ref (z 7), .ref (z 8), .ref (z 9), .ref (z 10), .ref (z 11), .ref (z 12), .int 0, .ref (z 13), .ref (z 14), .int 0, .ref (z 15)])), (z 1, .inl (gI g, 461, .inl mD0))] (fun (r : Int32) (u : Unit) => r = (-100001)) (fun (u : Unit) => ([] : va_W)) := by
  refine kMi.of (by decide) (Nat.le_of_ble_eq_true rfl) (fun p e s m below meth c A hx hb hr hml hown hts hlk hnm hKW hP hD hS hA ls hl => ?_)
  have hown : s.vm.findClass RX12 = some m.cls := hown
  have hl : lv_has ls 5 [(0, .ref (z 0)), (1, .int ch), (2, .int k), (3, .int zz)] := hl
  refine lv_aload_n hx hb dX12_fetches_0 rfl (lv_at hl 0 rfl) ?_
  refine lv_iload_n hx hb dX12_fetches_1 rfl (lv_at hl 1 rfl) ?_
  refine k_Vi [0, 1] [] 0 12 (wr := []) hx hb hml hown hts hKW hP hD hS hA hl.1 (c_X12_isChild0 l g _ (z 0) (z 1) (z 2) (z 3) (z 4) (z 5) (z 6) (z 7) (z 8) (z 9) (z 10) (z 11) (z 12) (z 13) (z 14) (z 15) 0 0 0 0 0 ch ) rfl rfl rfl wd_13_19 wd_1_5 wd_13_16 wd_13_17 wd_13_18 yd_X12_isChild ⟨Nat.le_of_ble_eq_true rfl, Nat.le_of_ble_eq_true rfl⟩ rfl rfl rfl rfl rfl (by decide) rfl (Nat.le_of_ble_eq_true rfl) dX12_fetches_2 ⟨Nat.le_of_ble_eq_true rfl, Nat.le_of_ble_eq_true rfl⟩ (fun r_1 u_2 H locs hw_3 hP hD hS => ?_)
  have hP : va_P g.1 vwCl [(z 0, .inr (12, [.ref (z 1), .ref (z 2), .int 0, .int 0, .ref (z 3), .ref (z 4), .ref (z 5), .ref (z 6), .int 0, .ref (z 7), .ref (z 8), .ref (z 9), .ref (z 10), .ref (z 11), .ref (z 12), .int 0, .ref (z 13), .ref (z 14), .int 0, .ref (z 15)])), (z 1, .inl (gI g, 461, .inl mD0))] H := hP
  have hD : va_D A [(z 0, .inr (12, [.ref (z 1), .ref (z 2), .int 0, .int 0, .ref (z 3), .ref (z 4), .ref (z 5), .ref (z 6), .int 0, .ref (z 7), .ref (z 8), .ref (z 9), .ref (z 10), .ref (z 11), .ref (z 12), .int 0, .ref (z 13), .ref (z 14), .int 0, .ref (z 15)])), (z 1, .inl (gI g, 461, .inl mD0))] := hD
  have hw_3 : r_1 = 0 := hw_3
  subst hw_3
  refine lv_if_eq (tgt := 18) hx hb dX12_fetches_5 (by decide) (fun _ => ?_) (fun c => absurd c (by decide))
  refine lv_aload_n hx hb dX12_fetches_18 rfl (lv_at hl 0 rfl) ?_
  refine lv_iconst (v := 1) hx hb dX12_fetches_19 (by decide) ?_
  refine k_Vi [0] [1] 0 12 (wr := [(z 1, .inl (gI g, 461, .inl mD0))]) hx hb hml hown hts hKW hP hD hS hA hl.1 (c_X12_finding_1 l g _ (z 0) (z 1) (z 2) (z 3) (z 4) (z 5) (z 6) (z 7) (z 8) (z 9) (z 10) (z 11) (z 12) (z 13) (z 14) (z 15) 0 0 0 0 0 ) rfl rfl rfl wd_10_15 wd_1_5 wd_10_12 wd_10_13 wd_10_14 yd_X12_finding ⟨Nat.le_of_ble_eq_true rfl, Nat.le_of_ble_eq_true rfl⟩ rfl rfl rfl rfl rfl (by decide) rfl (Nat.le_of_ble_eq_true rfl) dX12_fetches_20 ⟨Nat.le_of_ble_eq_true rfl, Nat.le_of_ble_eq_true rfl⟩ (fun r_4 u_5 H locs hw_6 hP hD hS => ?_)
  have hP : va_P g.1 vwCl [(z 1, .inl (gI g, 461, .inl mD0))] H := hP
  have hD : va_D A [(z 1, .inl (gI g, 461, .inl mD0))] := hD
  have hw_6 : r_4 = (-100001) := hw_6
  subst hw_6
  exact k_iret () [] hx hb hr hlk hP hD hS rfl rfl rfl rfl (Nat.le_of_ble_eq_true rfl) (Nat.le_of_ble_eq_true rfl) dX12_fetches_23
theorem dX12_place_0 : decode cX12_place 0 = .ok (.aload_n 0, 1) := by decide +kernel
theorem dX12_place_1 : decode cX12_place 1 = .ok (.iload_n 1, 1) := by decide +kernel
theorem dX12_place_2 : decode cX12_place 2 = .ok (.invokevirtual 75, 3) := by decide +kernel
theorem dX12_place_5 : decode cX12_place 5 = .ok (.ifCond .eq 16, 3) := by decide +kernel
theorem dX12_place_21 : decode cX12_place 21 = .ok (.aload_n 0, 1) := by decide +kernel
theorem dX12_place_22 : decode cX12_place 22 = .ok (.iconst 1, 1) := by decide +kernel
theorem dX12_place_23 : decode cX12_place 23 = .ok (.invokevirtual 68, 3) := by decide +kernel
theorem dX12_place_26 : decode cX12_place 26 = .ok (.ireturn, 1) := by decide +kernel
set_option maxHeartbeats 4000000 in
set_option maxRecDepth 100000 in
theorem c_X12_place (l : Launch) (g : kG) (sz : Nat) (z : Nat → Nat) (ch : Int32) (k : Int32) : kMi l g yX12_place cX12_place 4 (some .int) 6 0 0 [.ref (z 0), .int ch, .int k] sz [(z 0, .inr (12, [.ref (z 1), .ref (z 2), .int 0, .int 0, .ref (z 3), .ref (z 4), .ref (z 5), .ref (z 6), .int 0, .ref (z 7), .ref (z 8), .ref (z 9), .ref (z 10), .ref (z 11), .ref (z 12), .int 0, .ref (z 13), .ref (z 14), .int 0, .ref (z 15)])), (z 1, .inl (gI g, 461, .inl mD0))] (fun (r : Int32) (u : Unit) => r = (-100001)) (fun (u : Unit) => ([] : va_W)) := by
  refine kMi.of (by decide) (Nat.le_of_ble_eq_true rfl) (fun p e s m below meth c A hx hb hr hml hown hts hlk hnm hKW hP hD hS hA ls hl => ?_)
  have hown : s.vm.findClass RX12 = some m.cls := hown
  have hl : lv_has ls 4 [(0, .ref (z 0)), (1, .int ch), (2, .int k)] := hl
  refine lv_aload_n hx hb dX12_place_0 rfl (lv_at hl 0 rfl) ?_
  refine lv_iload_n hx hb dX12_place_1 rfl (lv_at hl 1 rfl) ?_
  refine k_Vi [0, 1] [] 0 12 (wr := []) hx hb hml hown hts hKW hP hD hS hA hl.1 (c_X12_isHand0 l g _ (z 0) (z 1) (z 2) (z 3) (z 4) (z 5) (z 6) (z 7) (z 8) (z 9) (z 10) (z 11) (z 12) (z 13) (z 14) (z 15) 0 0 0 0 0 ch ) rfl rfl rfl wd_12_14 wd_1_5 wd_12_11 wd_12_12 wd_12_13 yd_X12_isHand ⟨Nat.le_of_ble_eq_true rfl, Nat.le_of_ble_eq_true rfl⟩ rfl rfl rfl rfl rfl (by decide) rfl (Nat.le_of_ble_eq_true rfl) dX12_place_2 ⟨Nat.le_of_ble_eq_true rfl, Nat.le_of_ble_eq_true rfl⟩ (fun r_1 u_2 H locs hw_3 hP hD hS => ?_)
  have hP : va_P g.1 vwCl [(z 0, .inr (12, [.ref (z 1), .ref (z 2), .int 0, .int 0, .ref (z 3), .ref (z 4), .ref (z 5), .ref (z 6), .int 0, .ref (z 7), .ref (z 8), .ref (z 9), .ref (z 10), .ref (z 11), .ref (z 12), .int 0, .ref (z 13), .ref (z 14), .int 0, .ref (z 15)])), (z 1, .inl (gI g, 461, .inl mD0))] H := hP
  have hD : va_D A [(z 0, .inr (12, [.ref (z 1), .ref (z 2), .int 0, .int 0, .ref (z 3), .ref (z 4), .ref (z 5), .ref (z 6), .int 0, .ref (z 7), .ref (z 8), .ref (z 9), .ref (z 10), .ref (z 11), .ref (z 12), .int 0, .ref (z 13), .ref (z 14), .int 0, .ref (z 15)])), (z 1, .inl (gI g, 461, .inl mD0))] := hD
  have hw_3 : r_1 = 0 := hw_3
  subst hw_3
  refine lv_if_eq (tgt := 21) hx hb dX12_place_5 (by decide) (fun _ => ?_) (fun c => absurd c (by decide))
  refine lv_aload_n hx hb dX12_place_21 rfl (lv_at hl 0 rfl) ?_
  refine lv_iconst (v := 1) hx hb dX12_place_22 (by decide) ?_
  refine k_Vi [0] [1] 0 12 (wr := [(z 1, .inl (gI g, 461, .inl mD0))]) hx hb hml hown hts hKW hP hD hS hA hl.1 (c_X12_finding_1 l g _ (z 0) (z 1) (z 2) (z 3) (z 4) (z 5) (z 6) (z 7) (z 8) (z 9) (z 10) (z 11) (z 12) (z 13) (z 14) (z 15) 0 0 0 0 0 ) rfl rfl rfl wd_10_15 wd_1_5 wd_10_12 wd_10_13 wd_10_14 yd_X12_finding ⟨Nat.le_of_ble_eq_true rfl, Nat.le_of_ble_eq_true rfl⟩ rfl rfl rfl rfl rfl (by decide) rfl (Nat.le_of_ble_eq_true rfl) dX12_place_23 ⟨Nat.le_of_ble_eq_true rfl, Nat.le_of_ble_eq_true rfl⟩ (fun r_4 u_5 H locs hw_6 hP hD hS => ?_)
  have hP : va_P g.1 vwCl [(z 1, .inl (gI g, 461, .inl mD0))] H := hP
  have hD : va_D A [(z 1, .inl (gI g, 461, .inl mD0))] := hD
  have hw_6 : r_4 = (-100001) := hw_6
  subst hw_6
  exact k_iret () [] hx hb hr hlk hP hD hS rfl rfl rfl rfl (Nat.le_of_ble_eq_true rfl) (Nat.le_of_ble_eq_true rfl) dX12_place_26
theorem dX12_ill_0 : decode cX12_ill 0 = .ok (.aload_n 0, 1) := by decide +kernel
theorem dX12_ill_1 : decode cX12_ill 1 = .ok (.iload_n 1, 1) := by decide +kernel
theorem dX12_ill_2 : decode cX12_ill 2 = .ok (.invokevirtual 75, 3) := by decide +kernel
theorem dX12_ill_5 : decode cX12_ill 5 = .ok (.ifCond .ne 9, 3) := by decide +kernel
theorem dX12_ill_8 : decode cX12_ill 8 = .ok (.aload_n 0, 1) := by decide +kernel
theorem dX12_ill_9 : decode cX12_ill 9 = .ok (.iconst 1, 1) := by decide +kernel
theorem dX12_ill_10 : decode cX12_ill 10 = .ok (.invokevirtual 68, 3) := by decide +kernel
theorem dX12_ill_13 : decode cX12_ill 13 = .ok (.ireturn, 1) := by decide +kernel
set_option maxHeartbeats 4000000 in
set_option maxRecDepth 100000 in
theorem c_X12_ill (l : Launch) (g : kG) (sz : Nat) (z : Nat → Nat) (ch : Int32) : kMi l g yX12_ill cX12_ill 3 (some .int) 6 0 0 [.ref (z 0), .int ch] sz [(z 0, .inr (12, [.ref (z 1), .ref (z 2), .int 0, .int 0, .ref (z 3), .ref (z 4), .ref (z 5), .ref (z 6), .int 0, .ref (z 7), .ref (z 8), .ref (z 9), .ref (z 10), .ref (z 11), .ref (z 12), .int 0, .ref (z 13), .ref (z 14), .int 0, .ref (z 15)])), (z 1, .inl (gI g, 461, .inl mD0))] (fun (r : Int32) (u : Unit) => r = (-100001)) (fun (u : Unit) => ([] : va_W)) := by
  refine kMi.of (by decide) (Nat.le_of_ble_eq_true rfl) (fun p e s m below meth c A hx hb hr hml hown hts hlk hnm hKW hP hD hS hA ls hl => ?_)
  have hown : s.vm.findClass RX12 = some m.cls := hown
  have hl : lv_has ls 3 [(0, .ref (z 0)), (1, .int ch)] := hl
  refine lv_aload_n hx hb dX12_ill_0 rfl (lv_at hl 0 rfl) ?_
  refine lv_iload_n hx hb dX12_ill_1 rfl (lv_at hl 1 rfl) ?_
  refine k_Vi [0, 1] [] 0 12 (wr := []) hx hb hml hown hts hKW hP hD hS hA hl.1 (c_X12_isHand0 l g _ (z 0) (z 1) (z 2) (z 3) (z 4) (z 5) (z 6) (z 7) (z 8) (z 9) (z 10) (z 11) (z 12) (z 13) (z 14) (z 15) 0 0 0 0 0 ch ) rfl rfl rfl wd_12_14 wd_1_5 wd_12_11 wd_12_12 wd_12_13 yd_X12_isHand ⟨Nat.le_of_ble_eq_true rfl, Nat.le_of_ble_eq_true rfl⟩ rfl rfl rfl rfl rfl (by decide) rfl (Nat.le_of_ble_eq_true rfl) dX12_ill_2 ⟨Nat.le_of_ble_eq_true rfl, Nat.le_of_ble_eq_true rfl⟩ (fun r_1 u_2 H locs hw_3 hP hD hS => ?_)
  have hP : va_P g.1 vwCl [(z 0, .inr (12, [.ref (z 1), .ref (z 2), .int 0, .int 0, .ref (z 3), .ref (z 4), .ref (z 5), .ref (z 6), .int 0, .ref (z 7), .ref (z 8), .ref (z 9), .ref (z 10), .ref (z 11), .ref (z 12), .int 0, .ref (z 13), .ref (z 14), .int 0, .ref (z 15)])), (z 1, .inl (gI g, 461, .inl mD0))] H := hP
  have hD : va_D A [(z 0, .inr (12, [.ref (z 1), .ref (z 2), .int 0, .int 0, .ref (z 3), .ref (z 4), .ref (z 5), .ref (z 6), .int 0, .ref (z 7), .ref (z 8), .ref (z 9), .ref (z 10), .ref (z 11), .ref (z 12), .int 0, .ref (z 13), .ref (z 14), .int 0, .ref (z 15)])), (z 1, .inl (gI g, 461, .inl mD0))] := hD
  have hw_3 : r_1 = 0 := hw_3
  subst hw_3
  refine lv_if_ne (tgt := 14) hx hb dX12_ill_5 (by decide) (fun c => absurd c (by decide)) (fun _ => ?_)
  refine lv_aload_n hx hb dX12_ill_8 rfl (lv_at hl 0 rfl) ?_
  refine lv_iconst (v := 1) hx hb dX12_ill_9 (by decide) ?_
  refine k_Vi [0] [1] 0 12 (wr := [(z 1, .inl (gI g, 461, .inl mD0))]) hx hb hml hown hts hKW hP hD hS hA hl.1 (c_X12_finding_1 l g _ (z 0) (z 1) (z 2) (z 3) (z 4) (z 5) (z 6) (z 7) (z 8) (z 9) (z 10) (z 11) (z 12) (z 13) (z 14) (z 15) 0 0 0 0 0 ) rfl rfl rfl wd_10_15 wd_1_5 wd_10_12 wd_10_13 wd_10_14 yd_X12_finding ⟨Nat.le_of_ble_eq_true rfl, Nat.le_of_ble_eq_true rfl⟩ rfl rfl rfl rfl rfl (by decide) rfl (Nat.le_of_ble_eq_true rfl) dX12_ill_10 ⟨Nat.le_of_ble_eq_true rfl, Nat.le_of_ble_eq_true rfl⟩ (fun r_4 u_5 H locs hw_6 hP hD hS => ?_)
  have hP : va_P g.1 vwCl [(z 1, .inl (gI g, 461, .inl mD0))] H := hP
  have hD : va_D A [(z 1, .inl (gI g, 461, .inl mD0))] := hD
  have hw_6 : r_4 = (-100001) := hw_6
  subst hw_6
  exact k_iret () [] hx hb hr hlk hP hD hS rfl rfl rfl rfl (Nat.le_of_ble_eq_true rfl) (Nat.le_of_ble_eq_true rfl) dX12_ill_13
theorem dX12_now_0 : decode cX12_now 0 = .ok (.aload_n 0, 1) := by decide +kernel
theorem dX12_now_1 : decode cX12_now 1 = .ok (.iload_n 1, 1) := by decide +kernel
theorem dX12_now_2 : decode cX12_now 2 = .ok (.invokevirtual 100, 3) := by decide +kernel
theorem dX12_now_5 : decode cX12_now 5 = .ok (.ifCond .eq 12, 3) := by decide +kernel
theorem dX12_now_17 : decode cX12_now 17 = .ok (.aload_n 0, 1) := by decide +kernel
theorem dX12_now_18 : decode cX12_now 18 = .ok (.iconst 1, 1) := by decide +kernel
theorem dX12_now_19 : decode cX12_now 19 = .ok (.invokevirtual 68, 3) := by decide +kernel
theorem dX12_now_22 : decode cX12_now 22 = .ok (.ireturn, 1) := by decide +kernel
set_option maxHeartbeats 4000000 in
set_option maxRecDepth 100000 in
theorem c_X12_now (l : Launch) (g : kG) (sz : Nat) (z : Nat → Nat) (ch : Int32) (k : Int32) : kMi l g yX12_now cX12_now 5 (some .int) 6 0 0 [.ref (z 0), .int ch, .int k] sz [(z 0, .inr (12, [.ref (z 1), .ref (z 2), .int 0, .int 0, .ref (z 3), .ref (z 4), .ref (z 5), .ref (z 6), .int 0, .ref (z 7), .ref (z 8), .ref (z 9), .ref (z 10), .ref (z 11), .ref (z 12), .int 0, .ref (z 13), .ref (z 14), .int 0, .ref (z 15)])), (z 1, .inl (gI g, 461, .inl mD0))] (fun (r : Int32) (u : Unit) => r = (-100001)) (fun (u : Unit) => ([] : va_W)) := by
  refine kMi.of (by decide) (Nat.le_of_ble_eq_true rfl) (fun p e s m below meth c A hx hb hr hml hown hts hlk hnm hKW hP hD hS hA ls hl => ?_)
  have hown : s.vm.findClass RX12 = some m.cls := hown
  have hl : lv_has ls 5 [(0, .ref (z 0)), (1, .int ch), (2, .int k)] := hl
  refine lv_aload_n hx hb dX12_now_0 rfl (lv_at hl 0 rfl) ?_
  refine lv_iload_n hx hb dX12_now_1 rfl (lv_at hl 1 rfl) ?_
  refine k_Vi [0, 1] [] 0 12 (wr := []) hx hb hml hown hts hKW hP hD hS hA hl.1 (c_X12_isRoom0 l g _ (z 0) (z 1) (z 2) (z 3) (z 4) (z 5) (z 6) (z 7) (z 8) (z 9) (z 10) (z 11) (z 12) (z 13) (z 14) (z 15) 0 0 0 0 0 ch ) rfl rfl rfl wd_20_4 wd_1_5 wd_20_1 wd_20_2 wd_20_3 yd_X12_isRoom ⟨Nat.le_of_ble_eq_true rfl, Nat.le_of_ble_eq_true rfl⟩ rfl rfl rfl rfl rfl (by decide) rfl (Nat.le_of_ble_eq_true rfl) dX12_now_2 ⟨Nat.le_of_ble_eq_true rfl, Nat.le_of_ble_eq_true rfl⟩ (fun r_1 u_2 H locs hw_3 hP hD hS => ?_)
  have hP : va_P g.1 vwCl [(z 0, .inr (12, [.ref (z 1), .ref (z 2), .int 0, .int 0, .ref (z 3), .ref (z 4), .ref (z 5), .ref (z 6), .int 0, .ref (z 7), .ref (z 8), .ref (z 9), .ref (z 10), .ref (z 11), .ref (z 12), .int 0, .ref (z 13), .ref (z 14), .int 0, .ref (z 15)])), (z 1, .inl (gI g, 461, .inl mD0))] H := hP
  have hD : va_D A [(z 0, .inr (12, [.ref (z 1), .ref (z 2), .int 0, .int 0, .ref (z 3), .ref (z 4), .ref (z 5), .ref (z 6), .int 0, .ref (z 7), .ref (z 8), .ref (z 9), .ref (z 10), .ref (z 11), .ref (z 12), .int 0, .ref (z 13), .ref (z 14), .int 0, .ref (z 15)])), (z 1, .inl (gI g, 461, .inl mD0))] := hD
  have hw_3 : r_1 = 0 := hw_3
  subst hw_3
  refine lv_if_eq (tgt := 17) hx hb dX12_now_5 (by decide) (fun _ => ?_) (fun c => absurd c (by decide))
  refine lv_aload_n hx hb dX12_now_17 rfl (lv_at hl 0 rfl) ?_
  refine lv_iconst (v := 1) hx hb dX12_now_18 (by decide) ?_
  refine k_Vi [0] [1] 0 12 (wr := [(z 1, .inl (gI g, 461, .inl mD0))]) hx hb hml hown hts hKW hP hD hS hA hl.1 (c_X12_finding_1 l g _ (z 0) (z 1) (z 2) (z 3) (z 4) (z 5) (z 6) (z 7) (z 8) (z 9) (z 10) (z 11) (z 12) (z 13) (z 14) (z 15) 0 0 0 0 0 ) rfl rfl rfl wd_10_15 wd_1_5 wd_10_12 wd_10_13 wd_10_14 yd_X12_finding ⟨Nat.le_of_ble_eq_true rfl, Nat.le_of_ble_eq_true rfl⟩ rfl rfl rfl rfl rfl (by decide) rfl (Nat.le_of_ble_eq_true rfl) dX12_now_19 ⟨Nat.le_of_ble_eq_true rfl, Nat.le_of_ble_eq_true rfl⟩ (fun r_4 u_5 H locs hw_6 hP hD hS => ?_)
  have hP : va_P g.1 vwCl [(z 1, .inl (gI g, 461, .inl mD0))] H := hP
  have hD : va_D A [(z 1, .inl (gI g, 461, .inl mD0))] := hD
  have hw_6 : r_4 = (-100001) := hw_6
  subst hw_6
  exact k_iret () [] hx hb hr hlk hP hD hS rfl rfl rfl rfl (Nat.le_of_ble_eq_true rfl) (Nat.le_of_ble_eq_true rfl) dX12_now_22
theorem dX12_lacking_0 : decode cX12_lacking 0 = .ok (.iconst 0, 1) := by decide +kernel
theorem dX12_lacking_1 : decode cX12_lacking 1 = .ok (.istore_n 1, 1) := by decide +kernel
theorem dX12_lacking_2 : decode cX12_lacking 2 = .ok (.iconst 0, 1) := by decide +kernel
theorem dX12_lacking_3 : decode cX12_lacking 3 = .ok (.istore_n 2, 1) := by decide +kernel
theorem dX12_lacking_4 : decode cX12_lacking 4 = .ok (.iload_n 2, 1) := by decide +kernel
theorem dX12_lacking_5 : decode cX12_lacking 5 = .ok (.aload_n 0, 1) := by decide +kernel
theorem dX12_lacking_6 : decode cX12_lacking 6 = .ok (.getfield 7, 3) := by decide +kernel
theorem dX12_lacking_9 : decode cX12_lacking 9 = .ok (.iconst 0, 1) := by decide +kernel
theorem dX12_lacking_10 : decode cX12_lacking 10 = .ok (.iaload, 1) := by decide +kernel
theorem dX12_lacking_11 : decode cX12_lacking 11 = .ok (.if_icmp .ge 27, 3) := by decide +kernel
theorem dX12_lacking_38 : decode cX12_lacking 38 = .ok (.iload_n 1, 1) := by decide +kernel
theorem dX12_lacking_39 : decode cX12_lacking 39 = .ok (.ireturn, 1) := by decide +kernel
set_option maxHeartbeats 4000000 in
set_option maxRecDepth 100000 in
theorem c_X12_lacking (l : Launch) (g : kG) (sz : Nat) (z : Nat → Nat) : kMi l g yX12_lacking cX12_lacking 3 (some .int) 6 0 0 [.ref (z 0)] sz [(z 0, .inr (12, [.ref (z 1), .ref (z 2), .int 0, .int 0, .ref (z 3), .ref (z 4), .ref (z 5), .ref (z 6), .int 0, .ref (z 7), .ref (z 8), .ref (z 9), .ref (z 10), .ref (z 11), .ref (z 12), .int 0, .ref (z 13), .ref (z 14), .int 0, .ref (z 15)])), (z 1, .inl (gI g, 461, .inl mD0))] (fun (r : Int32) (u : Unit) => r = 0) (fun (u : Unit) => ([] : va_W)) := by
  refine kMi.of (by decide) (Nat.le_of_ble_eq_true rfl) (fun p e s m below meth c A hx hb hr hml hown hts hlk hnm hKW hP hD hS hA ls hl => ?_)
  have hown : s.vm.findClass RX12 = some m.cls := hown
  have hl : lv_has ls 3 [(0, .ref (z 0))] := hl
  refine lv_iconst (v := 0) hx hb dX12_lacking_0 (by decide) ?_
  refine lv_istore_n (lv' := [(1, .int 0), (0, .ref (z 0))]) hx hb dX12_lacking_1 rfl hl (by decide) rfl (fun ls hl => ?_)
  refine lv_iconst (v := 0) hx hb dX12_lacking_2 (by decide) ?_
  refine lv_istore_n (lv' := [(2, .int 0), (1, .int 0), (0, .ref (z 0))]) hx hb dX12_lacking_3 rfl hl (by decide) rfl (fun ls hl => ?_)
  refine lv_iload_n hx hb dX12_lacking_4 rfl (lv_at hl 0 rfl) ?_
  refine lv_aload_n hx hb dX12_lacking_5 rfl (lv_at hl 2 rfl) ?_
  refine va_get (ci := 12) (C := RX12) (T := TX12) (N := 20) hx hb hts inlX12 hown hKW.1 hP 0 rfl rfl 0 (by decide) (hts _ wd_6_5) (fun _ h => h) rfl dX12_lacking_6 ?_
  refine lv_iconst (v := 0) hx hb dX12_lacking_9 (by decide) ?_
  refine va_iald hx hb hKW.1 hP 1 0 rfl rfl (show ¬ _ by decide) dX12_lacking_10 ?_
  refine k_top (y := 0) rfl ?_
  refine lv_icmp_ge (tgt := 38) hx hb dX12_lacking_11 (by decide) (fun _ => ?_) (fun c => absurd c (by decide))
  refine lv_iload_n hx hb dX12_lacking_38 rfl (lv_at hl 1 rfl) ?_
  exact k_iret () [] hx hb hr hlk hP hD hS rfl rfl rfl rfl (Nat.le_of_ble_eq_true rfl) (Nat.le_of_ble_eq_true rfl) dX12_lacking_39
theorem dX12_tries_0 : decode cX12_tries 0 = .ok (.iload_n 2, 1) := by decide +kernel
theorem dX12_tries_1 : decode cX12_tries 1 = .ok (.aload_n 0, 1) := by decide +kernel
theorem dX12_tries_2 : decode cX12_tries 2 = .ok (.getfield 145, 3) := by decide +kernel
theorem dX12_tries_5 : decode cX12_tries 5 = .ok (.if_icmp .lt 4, 3) := by decide +kernel
theorem dX12_tries_9 : decode cX12_tries 9 = .ok (.iload_n 1, 1) := by decide +kernel
theorem dX12_tries_10 : decode cX12_tries 10 = .ok (.aload_n 0, 1) := by decide +kernel
theorem dX12_tries_11 : decode cX12_tries 11 = .ok (.getfield 7, 3) := by decide +kernel
theorem dX12_tries_14 : decode cX12_tries 14 = .ok (.iconst 1, 1) := by decide +kernel
theorem dX12_tries_15 : decode cX12_tries 15 = .ok (.iaload, 1) := by decide +kernel
theorem dX12_tries_16 : decode cX12_tries 16 = .ok (.if_icmp .ne 79, 3) := by decide +kernel
theorem dX12_tries_19 : decode cX12_tries 19 = .ok (.iconst 0, 1) := by decide +kernel
theorem dX12_tries_20 : decode cX12_tries 20 = .ok (.istore_n 3, 1) := by decide +kernel
theorem dX12_tries_21 : decode cX12_tries 21 = .ok (.iload_n 3, 1) := by decide +kernel
theorem dX12_tries_22 : decode cX12_tries 22 = .ok (.aload_n 0, 1) := by decide +kernel
theorem dX12_tries_23 : decode cX12_tries 23 = .ok (.getfield 7, 3) := by decide +kernel
theorem dX12_tries_26 : decode cX12_tries 26 = .ok (.iconst 0, 1) := by decide +kernel
theorem dX12_tries_27 : decode cX12_tries 27 = .ok (.iaload, 1) := by decide +kernel
theorem dX12_tries_28 : decode cX12_tries 28 = .ok (.if_icmp .ge 35, 3) := by decide +kernel
theorem dX12_tries_63 : decode cX12_tries 63 = .ok (.aload_n 0, 1) := by decide +kernel
theorem dX12_tries_64 : decode cX12_tries 64 = .ok (.iload_n 2, 1) := by decide +kernel
theorem dX12_tries_65 : decode cX12_tries 65 = .ok (.putfield 145, 3) := by decide +kernel
theorem dX12_tries_68 : decode cX12_tries 68 = .ok (.iconst 0, 1) := by decide +kernel
theorem dX12_tries_69 : decode cX12_tries 69 = .ok (.istore_n 3, 1) := by decide +kernel
theorem dX12_tries_70 : decode cX12_tries 70 = .ok (.iload_n 3, 1) := by decide +kernel
theorem dX12_tries_71 : decode cX12_tries 71 = .ok (.bipush 7, 2) := by decide +kernel
theorem dX12_tries_73 : decode cX12_tries 73 = .ok (.if_icmp .ge 21, 3) := by decide +kernel
theorem dX12_tries_94 : decode cX12_tries 94 = .ok (.return_, 1) := by decide +kernel
theorem dX12_tries_76 : decode cX12_tries 76 = .ok (.aload_n 0, 1) := by decide +kernel
theorem dX12_tries_77 : decode cX12_tries 77 = .ok (.getfield 44, 3) := by decide +kernel
theorem dX12_tries_80 : decode cX12_tries 80 = .ok (.iload_n 3, 1) := by decide +kernel
theorem dX12_tries_81 : decode cX12_tries 81 = .ok (.aload_n 0, 1) := by decide +kernel
theorem dX12_tries_82 : decode cX12_tries 82 = .ok (.getfield 41, 3) := by decide +kernel
theorem dX12_tries_85 : decode cX12_tries 85 = .ok (.iload_n 3, 1) := by decide +kernel
theorem dX12_tries_86 : decode cX12_tries 86 = .ok (.iaload, 1) := by decide +kernel
theorem dX12_tries_87 : decode cX12_tries 87 = .ok (.iastore, 1) := by decide +kernel
theorem dX12_tries_88 : decode cX12_tries 88 = .ok (.iinc 3 1, 3) := by decide +kernel
theorem dX12_tries_91 : decode cX12_tries 91 = .ok (.goto (-21), 3) := by decide +kernel
set_option maxHeartbeats 4000000 in
set_option maxRecDepth 100000 in
theorem c_X12_tries0_l70 (l : Launch) (g : kG) (z : Nat → Nat) {p : Program} {e : Env} {s : State} {m : MethodId} {below : List Frame} {meth : Method} {c : Code} {A : Nat → Prop} (hx : p.tables.exec = Jvm.exec) (hb : c.code = cX12_tries) (hr : meth.sig.returnType = none) (hml : c.maxLocals = 5) (hown : s.vm.findClass RX12 = some m.cls) (hts : ∀ w ∈ wsL_law, w.before ([.ref (z 0), .int 0, .int 0] : List Value).toArray s = true) (hlk : meth.locks = false) (hnm : meth.name = yX12_tries.name) (hKW : kKW g s) (hA : ∀ q, s.heap.size ≤ q → A q) :
    ∀ (n : Nat) (i : Nat) (f : Nat → Int32) (hi : i ≤ 7) (hfuel : 7 < i + n) (H : Heap) (locs : List Loc), va_P g.1 vwCl [(z 0, .inr (12, [.ref (z 1), .ref (z 2), .int 0, .int 0, .ref (z 3), .ref (z 4), .ref (z 5), .ref (z 6), .int 0, .ref (z 7), .ref (z 8), .ref (z 9), .ref (z 10), .ref (z 11), .ref (z 12), .int 0, .ref (z 13), .ref (z 14), .int 0, .ref (z 15)])), (z 1, .inl (gI g, 461, .inl mD0)), (z 11, .inl (gI g, 7, .inl (fun _ => 0))), (z 12, .inl (gI g, 7, .inl f))] H → va_D A [(z 0, .inr (12, [.ref (z 1), .ref (z 2), .int 0, .int 0, .ref (z 3), .ref (z 4), .ref (z 5), .ref (z 6), .int 0, .ref (z 7), .ref (z 8), .ref (z 9), .ref (z 10), .ref (z 11), .ref (z 12), .int 0, .ref (z 13), .ref (z 14), .int 0, .ref (z 15)])), (z 1, .inl (gI g, 461, .inl mD0)), (z 11, .inl (gI g, 7, .inl (fun _ => 0))), (z 12, .inl (gI g, 7, .inl f))] → va_S A s.heap H locs → ∀ (ls : Array Slot), lv_has ls 5 [(0, .ref (z 0)), (1, .int 0), (2, .int 0), (3, .int (nI i))] → W p l e (kR 2 0 0) s m ([.ref (z 0), .int 0, .int 0] : List Value).toArray below meth c H locs 0 0 (MQ below (va_Qv (fun (u : Unit) => True) (fun u t => kPost g A ((fun (u : Unit) => ([(z 0, .inr (12, [.ref (z 1), .ref (z 2), .int 0, .int 0, .ref (z 3), .ref (z 4), .ref (z 5), .ref (z 6), .int 0, .ref (z 7), .ref (z 8), .ref (z 9), .ref (z 10), .ref (z 11), .ref (z 12), .int 0, .ref (z 13), .ref (z 14), .int 0, .ref (z 15)])), (z 1, .inl (gI g, 461, .inl mD0))] : va_W)) u) t) A) ([.ref (z 0), .int 0, .int 0] : List Value).toArray s 0 0 A) (F0 m 70 ls []) := by
  intro n
  induction n with
  | zero =>
    intro i f hi hfuel
    exact absurd hfuel (by omega)
  | succ n ih =>
    intro i f hi hfuel H locs hP hD hS ls hl
    refine lv_iload_n hx hb dX12_tries_70 rfl (lv_at hl 3 rfl) ?_
    refine lv_bipush (v := 7) hx hb dX12_tries_71 (by decide) ?_
    refine lv_icmp_ge (tgt := 94) hx hb dX12_tries_73 (by decide) (fun c_1 => ?_) (fun c_1 => ?_)
    · exact k_vret () [0, 1] hx hb hr hlk hP hD hS trivial rfl rfl rfl (Nat.le_of_ble_eq_true rfl) (Nat.le_of_ble_eq_true rfl) dX12_tries_94
    · have hlt : i < 7 := k_lt (by decide) hi c_1
      refine lv_aload_n hx hb dX12_tries_76 rfl (lv_at hl 0 rfl) ?_
      refine va_get (ci := 12) (C := RX12) (T := TX12) (N := 20) hx hb hts inlX12 hown hKW.1 hP 0 rfl rfl 14 (by decide) (hts _ wd_6_17) (fun _ h => h) rfl dX12_tries_77 ?_
      refine lv_iload_n hx hb dX12_tries_80 rfl (lv_at hl 3 rfl) ?_
      refine lv_aload_n hx hb dX12_tries_81 rfl (lv_at hl 0 rfl) ?_
      refine va_get (ci := 12) (C := RX12) (T := TX12) (N := 20) hx hb hts inlX12 hown hKW.1 hP 0 rfl rfl 13 (by decide) (hts _ wd_6_16) (fun _ h => h) rfl dX12_tries_82 ?_
      refine lv_iload_n hx hb dX12_tries_85 rfl (lv_at hl 3 rfl) ?_
      refine va_iald hx hb hKW.1 hP 2 0 rfl rfl (vp_in_nI (by omega) (by decide)) dX12_tries_86 ?_
      refine k_top (y := 0) rfl ?_
      refine va_iast hx hb hKW.1 hP hD hS 3 0 rfl rfl (vp_in_nI (by omega) (by decide)) dX12_tries_87 (fun H locs hP hD hS => ?_)
      have hP : va_P g.1 vwCl [(z 0, .inr (12, [.ref (z 1), .ref (z 2), .int 0, .int 0, .ref (z 3), .ref (z 4), .ref (z 5), .ref (z 6), .int 0, .ref (z 7), .ref (z 8), .ref (z 9), .ref (z 10), .ref (z 11), .ref (z 12), .int 0, .ref (z 13), .ref (z 14), .int 0, .ref (z 15)])), (z 1, .inl (gI g, 461, .inl mD0)), (z 11, .inl (gI g, 7, .inl (fun _ => 0))), (z 12, .inl (gI g, 7, .inl (upd f (nI i).toNatClampNeg 0)))] H := hP
      have hD : va_D A [(z 0, .inr (12, [.ref (z 1), .ref (z 2), .int 0, .int 0, .ref (z 3), .ref (z 4), .ref (z 5), .ref (z 6), .int 0, .ref (z 7), .ref (z 8), .ref (z 9), .ref (z 10), .ref (z 11), .ref (z 12), .int 0, .ref (z 13), .ref (z 14), .int 0, .ref (z 15)])), (z 1, .inl (gI g, 461, .inl mD0)), (z 11, .inl (gI g, 7, .inl (fun _ => 0))), (z 12, .inl (gI g, 7, .inl (upd f (nI i).toNatClampNeg 0)))] := hD
      obtain ⟨f_2, ef_2⟩ : ∃ zz_ : Nat → Int32, zz_ = upd f (nI i).toNatClampNeg 0 := ⟨_, rfl⟩
      rw [← ef_2] at hP hD
      refine lv_iinc (v := nI (i + 1)) (lv' := [(3, .int (nI (i + 1))), (0, .ref (z 0)), (1, .int 0), (2, .int 0)]) hx hb dX12_tries_88 hl (k := 3) rfl (by first | exact nI_1 _ | (simp [nI]; done)) (by decide) rfl (fun ls hl => ?_)
      refine lv_goto (tgt := 70) hx hb dX12_tries_91 (by decide) ?_
      exact ih (i + 1) f_2 (by omega) (by omega) _ _ (hP.sub [0, 1, 2, 3] rfl) (hD.sub [0, 1, 2, 3] (by decide) rfl) hS ls (lv_sub hl [1, 2, 3, 0] rfl)
set_option maxHeartbeats 4000000 in
set_option maxRecDepth 100000 in
theorem c_X12_tries0 (l : Launch) (g : kG) (sz : Nat) (z : Nat → Nat) : kMv l g yX12_tries cX12_tries 5 none 2 0 0 [.ref (z 0), .int 0, .int 0] sz [(z 0, .inr (12, [.ref (z 1), .ref (z 2), .int 0, .int 0, .ref (z 3), .ref (z 4), .ref (z 5), .ref (z 6), .int 0, .ref (z 7), .ref (z 8), .ref (z 9), .ref (z 10), .ref (z 11), .ref (z 12), .int 1000, .ref (z 13), .ref (z 14), .int 0, .ref (z 15)])), (z 1, .inl (gI g, 461, .inl mD0)), (z 11, .inl (gI g, 7, .inl (fun _ => 0))), (z 12, .inl (gI g, 7, .inl (fun _ => 0)))] (fun (u : Unit) => True) (fun (u : Unit) => ([(z 0, .inr (12, [.ref (z 1), .ref (z 2), .int 0, .int 0, .ref (z 3), .ref (z 4), .ref (z 5), .ref (z 6), .int 0, .ref (z 7), .ref (z 8), .ref (z 9), .ref (z 10), .ref (z 11), .ref (z 12), .int 0, .ref (z 13), .ref (z 14), .int 0, .ref (z 15)])), (z 1, .inl (gI g, 461, .inl mD0))] : va_W)) := by
  refine kMv.of (by decide) (Nat.le_of_ble_eq_true rfl) (fun p e s m below meth c A hx hb hr hml hown hts hlk hnm hKW hP hD hS hA ls hl => ?_)
  have hown : s.vm.findClass RX12 = some m.cls := hown
  have hl : lv_has ls 5 [(0, .ref (z 0)), (1, .int 0), (2, .int 0)] := hl
  refine lv_iload_n hx hb dX12_tries_0 rfl (lv_at hl 2 rfl) ?_
  refine lv_aload_n hx hb dX12_tries_1 rfl (lv_at hl 0 rfl) ?_
  refine va_get (ci := 12) (C := RX12) (T := TX12) (N := 20) hx hb hts inlX12 hown hKW.1 hP 0 rfl rfl 15 (by decide) (hts _ wd_31_1) (fun _ h => h) rfl dX12_tries_2 ?_
  refine lv_icmp_lt (tgt := 9) hx hb dX12_tries_5 (by decide) (fun _ => ?_) (fun c => absurd c (by decide))
  refine lv_iload_n hx hb dX12_tries_9 rfl (lv_at hl 1 rfl) ?_
  refine lv_aload_n hx hb dX12_tries_10 rfl (lv_at hl 0 rfl) ?_
  refine va_get (ci := 12) (C := RX12) (T := TX12) (N := 20) hx hb hts inlX12 hown hKW.1 hP 0 rfl rfl 0 (by decide) (hts _ wd_6_5) (fun _ h => h) rfl dX12_tries_11 ?_
  refine lv_iconst (v := 1) hx hb dX12_tries_14 (by decide) ?_
  refine va_iald hx hb hKW.1 hP 1 0 rfl rfl (show ¬ _ by decide) dX12_tries_15 ?_
  refine k_top (y := 0) rfl ?_
  refine lv_icmp_ne (tgt := 95) hx hb dX12_tries_16 (by decide) (fun c => absurd c (by decide)) (fun _ => ?_)
  refine lv_iconst (v := 0) hx hb dX12_tries_19 (by decide) ?_
  refine lv_istore_n (lv' := [(3, .int 0), (0, .ref (z 0)), (1, .int 0), (2, .int 0)]) hx hb dX12_tries_20 rfl hl (by decide) rfl (fun ls hl => ?_)
  refine lv_iload_n hx hb dX12_tries_21 rfl (lv_at hl 0 rfl) ?_
  refine lv_aload_n hx hb dX12_tries_22 rfl (lv_at hl 1 rfl) ?_
  refine va_get (ci := 12) (C := RX12) (T := TX12) (N := 20) hx hb hts inlX12 hown hKW.1 hP 0 rfl rfl 0 (by decide) (hts _ wd_6_5) (fun _ h => h) rfl dX12_tries_23 ?_
  refine lv_iconst (v := 0) hx hb dX12_tries_26 (by decide) ?_
  refine va_iald hx hb hKW.1 hP 1 0 rfl rfl (show ¬ _ by decide) dX12_tries_27 ?_
  refine k_top (y := 0) rfl ?_
  refine lv_icmp_ge (tgt := 63) hx hb dX12_tries_28 (by decide) (fun _ => ?_) (fun c => absurd c (by decide))
  refine lv_aload_n hx hb dX12_tries_63 rfl (lv_at hl 1 rfl) ?_
  refine lv_iload_n hx hb dX12_tries_64 rfl (lv_at hl 3 rfl) ?_
  refine va_put (ci := 12) (v := .int 0) (C := RX12) (T := TX12) (N := 20) hx hb hts inlX12 tyX12 tyX12_ok nmX12 hown hKW.1 hP hD hS 0 rfl rfl 15 (by decide) (hts _ wd_31_1) (fun _ h => h) rfl (tyX12_ok 15 (by decide)) rfl rfl (Nat.le_of_ble_eq_true rfl) dX12_tries_65 (fun H locs hP hD hS => ?_)
  have hP : va_P g.1 vwCl [(z 0, .inr (12, [.ref (z 1), .ref (z 2), .int 0, .int 0, .ref (z 3), .ref (z 4), .ref (z 5), .ref (z 6), .int 0, .ref (z 7), .ref (z 8), .ref (z 9), .ref (z 10), .ref (z 11), .ref (z 12), .int 0, .ref (z 13), .ref (z 14), .int 0, .ref (z 15)])), (z 1, .inl (gI g, 461, .inl mD0)), (z 11, .inl (gI g, 7, .inl (fun _ => 0))), (z 12, .inl (gI g, 7, .inl (fun _ => 0)))] H := hP
  have hD : va_D A [(z 0, .inr (12, [.ref (z 1), .ref (z 2), .int 0, .int 0, .ref (z 3), .ref (z 4), .ref (z 5), .ref (z 6), .int 0, .ref (z 7), .ref (z 8), .ref (z 9), .ref (z 10), .ref (z 11), .ref (z 12), .int 0, .ref (z 13), .ref (z 14), .int 0, .ref (z 15)])), (z 1, .inl (gI g, 461, .inl mD0)), (z 11, .inl (gI g, 7, .inl (fun _ => 0))), (z 12, .inl (gI g, 7, .inl (fun _ => 0)))] := hD
  refine lv_iconst (v := 0) hx hb dX12_tries_68 (by decide) ?_
  refine lv_istore_n (lv' := [(3, .int 0), (0, .ref (z 0)), (1, .int 0), (2, .int 0)]) hx hb dX12_tries_69 rfl hl (by decide) rfl (fun ls hl => ?_)
  exact c_X12_tries0_l70 l g z  hx hb hr hml hown hts hlk hnm hKW hA 8 0 (fun _ => 0) (by omega) (by omega) _ _ (hP.sub [0, 1, 2, 3] rfl) (hD.sub [0, 1, 2, 3] (by decide) rfl) hS ls (lv_sub hl [1, 2, 3, 0] rfl)
theorem dX12_findMoves_0 : decode cX12_findMoves 0 = .ok (.iconst 0, 1) := by decide +kernel
theorem dX12_findMoves_1 : decode cX12_findMoves 1 = .ok (.istore_n 1, 1) := by decide +kernel
theorem dX12_findMoves_2 : decode cX12_findMoves 2 = .ok (.iload_n 1, 1) := by decide +kernel
theorem dX12_findMoves_3 : decode cX12_findMoves 3 = .ok (.aload_n 0, 1) := by decide +kernel
theorem dX12_findMoves_4 : decode cX12_findMoves 4 = .ok (.getfield 7, 3) := by decide +kernel
theorem dX12_findMoves_7 : decode cX12_findMoves 7 = .ok (.iconst 0, 1) := by decide +kernel
theorem dX12_findMoves_8 : decode cX12_findMoves 8 = .ok (.iaload, 1) := by decide +kernel
theorem dX12_findMoves_9 : decode cX12_findMoves 9 = .ok (.if_icmp .ge 46, 3) := by decide +kernel
theorem dX12_findMoves_55 : decode cX12_findMoves 55 = .ok (.aload_n 0, 1) := by decide +kernel
theorem dX12_findMoves_56 : decode cX12_findMoves 56 = .ok (.sipush 1000, 3) := by decide +kernel
theorem dX12_findMoves_59 : decode cX12_findMoves 59 = .ok (.putfield 145, 3) := by decide +kernel
theorem dX12_findMoves_62 : decode cX12_findMoves 62 = .ok (.aload_n 0, 1) := by decide +kernel
theorem dX12_findMoves_63 : decode cX12_findMoves 63 = .ok (.iconst 0, 1) := by decide +kernel
theorem dX12_findMoves_64 : decode cX12_findMoves 64 = .ok (.iconst 0, 1) := by decide +kernel
theorem dX12_findMoves_65 : decode cX12_findMoves 65 = .ok (.invokevirtual 148, 3) := by decide +kernel
theorem dX12_findMoves_68 : decode cX12_findMoves 68 = .ok (.aload_n 0, 1) := by decide +kernel
theorem dX12_findMoves_69 : decode cX12_findMoves 69 = .ok (.getfield 145, 3) := by decide +kernel
theorem dX12_findMoves_72 : decode cX12_findMoves 72 = .ok (.sipush 1000, 3) := by decide +kernel
theorem dX12_findMoves_75 : decode cX12_findMoves 75 = .ok (.if_icmp .ge 7, 3) := by decide +kernel
theorem dX12_findMoves_78 : decode cX12_findMoves 78 = .ok (.iconst 1, 1) := by decide +kernel
theorem dX12_findMoves_79 : decode cX12_findMoves 79 = .ok (.goto 4, 3) := by decide +kernel
theorem dX12_findMoves_83 : decode cX12_findMoves 83 = .ok (.ireturn, 1) := by decide +kernel
set_option maxHeartbeats 4000000 in
set_option maxRecDepth 100000 in
theorem c_X12_findMoves (l : Launch) (g : kG) (sz : Nat) (z : Nat → Nat) : kMi l g yX12_findMoves cX12_findMoves 2 (some .boolean) 3 0 0 [.ref (z 0)] sz [(z 0, .inr (12, [.ref (z 1), .ref (z 2), .int 0, .int 0, .ref (z 3), .ref (z 4), .ref (z 5), .ref (z 6), .int 0, .ref (z 7), .ref (z 8), .ref (z 9), .ref (z 10), .ref (z 11), .ref (z 12), .int 0, .ref (z 13), .ref (z 14), .int 0, .ref (z 15)])), (z 1, .inl (gI g, 461, .inl mD0)), (z 11, .inl (gI g, 7, .inl (fun _ => 0))), (z 12, .inl (gI g, 7, .inl (fun _ => 0)))] (fun (r : Int32) (u : Unit) => r = 1) (fun (u : Unit) => ([(z 0, .inr (12, [.ref (z 1), .ref (z 2), .int 0, .int 0, .ref (z 3), .ref (z 4), .ref (z 5), .ref (z 6), .int 0, .ref (z 7), .ref (z 8), .ref (z 9), .ref (z 10), .ref (z 11), .ref (z 12), .int 0, .ref (z 13), .ref (z 14), .int 0, .ref (z 15)])), (z 1, .inl (gI g, 461, .inl mD0))] : va_W)) := by
  refine kMi.of (by decide) (Nat.le_of_ble_eq_true rfl) (fun p e s m below meth c A hx hb hr hml hown hts hlk hnm hKW hP hD hS hA ls hl => ?_)
  have hown : s.vm.findClass RX12 = some m.cls := hown
  have hl : lv_has ls 2 [(0, .ref (z 0))] := hl
  refine lv_iconst (v := 0) hx hb dX12_findMoves_0 (by decide) ?_
  refine lv_istore_n (lv' := [(1, .int 0), (0, .ref (z 0))]) hx hb dX12_findMoves_1 rfl hl (by decide) rfl (fun ls hl => ?_)
  refine lv_iload_n hx hb dX12_findMoves_2 rfl (lv_at hl 0 rfl) ?_
  refine lv_aload_n hx hb dX12_findMoves_3 rfl (lv_at hl 1 rfl) ?_
  refine va_get (ci := 12) (C := RX12) (T := TX12) (N := 20) hx hb hts inlX12 hown hKW.1 hP 0 rfl rfl 0 (by decide) (hts _ wd_6_5) (fun _ h => h) rfl dX12_findMoves_4 ?_
  refine lv_iconst (v := 0) hx hb dX12_findMoves_7 (by decide) ?_
  refine va_iald hx hb hKW.1 hP 1 0 rfl rfl (show ¬ _ by decide) dX12_findMoves_8 ?_
  refine k_top (y := 0) rfl ?_
  refine lv_icmp_ge (tgt := 55) hx hb dX12_findMoves_9 (by decide) (fun _ => ?_) (fun c => absurd c (by decide))
  refine lv_aload_n hx hb dX12_findMoves_55 rfl (lv_at hl 1 rfl) ?_
  refine lv_sipush (v := 1000) hx hb dX12_findMoves_56 (by decide) ?_
  refine va_put (ci := 12) (v := .int 1000) (C := RX12) (T := TX12) (N := 20) hx hb hts inlX12 tyX12 tyX12_ok nmX12 hown hKW.1 hP hD hS 0 rfl rfl 15 (by decide) (hts _ wd_31_1) (fun _ h => h) rfl (tyX12_ok 15 (by decide)) rfl rfl (Nat.le_of_ble_eq_true rfl) dX12_findMoves_59 (fun H locs hP hD hS => ?_)
  have hP : va_P g.1 vwCl [(z 0, .inr (12, [.ref (z 1), .ref (z 2), .int 0, .int 0, .ref (z 3), .ref (z 4), .ref (z 5), .ref (z 6), .int 0, .ref (z 7), .ref (z 8), .ref (z 9), .ref (z 10), .ref (z 11), .ref (z 12), .int 1000, .ref (z 13), .ref (z 14), .int 0, .ref (z 15)])), (z 1, .inl (gI g, 461, .inl mD0)), (z 11, .inl (gI g, 7, .inl (fun _ => 0))), (z 12, .inl (gI g, 7, .inl (fun _ => 0)))] H := hP
  have hD : va_D A [(z 0, .inr (12, [.ref (z 1), .ref (z 2), .int 0, .int 0, .ref (z 3), .ref (z 4), .ref (z 5), .ref (z 6), .int 0, .ref (z 7), .ref (z 8), .ref (z 9), .ref (z 10), .ref (z 11), .ref (z 12), .int 1000, .ref (z 13), .ref (z 14), .int 0, .ref (z 15)])), (z 1, .inl (gI g, 461, .inl mD0)), (z 11, .inl (gI g, 7, .inl (fun _ => 0))), (z 12, .inl (gI g, 7, .inl (fun _ => 0)))] := hD
  refine lv_aload_n hx hb dX12_findMoves_62 rfl (lv_at hl 1 rfl) ?_
  refine lv_iconst (v := 0) hx hb dX12_findMoves_63 (by decide) ?_
  refine lv_iconst (v := 0) hx hb dX12_findMoves_64 (by decide) ?_
  refine k_Vv [0, 1, 2, 3] [] 0 12 (wr := []) hx hb hml hown hts hKW hP hD hS hA hl.1 (c_X12_tries0 l g _ z ) rfl rfl rfl wd_31_9 wd_1_5 wd_31_6 wd_31_7 wd_31_8 yd_X12_tries ⟨Nat.le_of_ble_eq_true rfl, Nat.le_of_ble_eq_true rfl⟩ rfl rfl rfl rfl rfl (by decide) rfl (Nat.le_of_ble_eq_true rfl) dX12_findMoves_65 ⟨Nat.le_of_ble_eq_true rfl, Nat.le_of_ble_eq_true rfl⟩ (fun u_2 H locs hw_3 hP hD hS => ?_)
  have hP : va_P g.1 vwCl [(z 0, .inr (12, [.ref (z 1), .ref (z 2), .int 0, .int 0, .ref (z 3), .ref (z 4), .ref (z 5), .ref (z 6), .int 0, .ref (z 7), .ref (z 8), .ref (z 9), .ref (z 10), .ref (z 11), .ref (z 12), .int 0, .ref (z 13), .ref (z 14), .int 0, .ref (z 15)])), (z 1, .inl (gI g, 461, .inl mD0))] H := hP
  have hD : va_D A [(z 0, .inr (12, [.ref (z 1), .ref (z 2), .int 0, .int 0, .ref (z 3), .ref (z 4), .ref (z 5), .ref (z 6), .int 0, .ref (z 7), .ref (z 8), .ref (z 9), .ref (z 10), .ref (z 11), .ref (z 12), .int 0, .ref (z 13), .ref (z 14), .int 0, .ref (z 15)])), (z 1, .inl (gI g, 461, .inl mD0))] := hD
  refine lv_aload_n hx hb dX12_findMoves_68 rfl (lv_at hl 1 rfl) ?_
  refine va_get (ci := 12) (C := RX12) (T := TX12) (N := 20) hx hb hts inlX12 hown hKW.1 hP 0 rfl rfl 15 (by decide) (hts _ wd_31_1) (fun _ h => h) rfl dX12_findMoves_69 ?_
  refine lv_sipush (v := 1000) hx hb dX12_findMoves_72 (by decide) ?_
  refine lv_icmp_ge (tgt := 82) hx hb dX12_findMoves_75 (by decide) (fun c => absurd c (by decide)) (fun _ => ?_)
  refine lv_iconst (v := 1) hx hb dX12_findMoves_78 (by decide) ?_
  refine lv_goto (tgt := 83) hx hb dX12_findMoves_79 (by decide) ?_
  exact k_zret () [0, 1] hx hb hr hlk hP hD hS rfl rfl rfl rfl rfl (Nat.le_of_ble_eq_true rfl) (Nat.le_of_ble_eq_true rfl) dX12_findMoves_83
theorem dX12_moves_0 : decode cX12_moves 0 = .ok (.aload_n 0, 1) := by decide +kernel
theorem dX12_moves_1 : decode cX12_moves 1 = .ok (.invokevirtual 151, 3) := by decide +kernel
theorem dX12_moves_4 : decode cX12_moves 4 = .ok (.ifCond .eq 10, 3) := by decide +kernel
theorem dX12_moves_7 : decode cX12_moves 7 = .ok (.aload_n 0, 1) := by decide +kernel
theorem dX12_moves_8 : decode cX12_moves 8 = .ok (.getfield 145, 3) := by decide +kernel
theorem dX12_moves_11 : decode cX12_moves 11 = .ok (.goto 9, 3) := by decide +kernel
theorem dX12_moves_20 : decode cX12_moves 20 = .ok (.ireturn, 1) := by decide +kernel
set_option maxHeartbeats 4000000 in
set_option maxRecDepth 100000 in
theorem c_X12_moves (l : Launch) (g : kG) (sz : Nat) (z : Nat → Nat) : kMi l g yX12_moves cX12_moves 1 (some .int) 6 0 0 [.ref (z 0)] sz [(z 0, .inr (12, [.ref (z 1), .ref (z 2), .int 0, .int 0, .ref (z 3), .ref (z 4), .ref (z 5), .ref (z 6), .int 0, .ref (z 7), .ref (z 8), .ref (z 9), .ref (z 10), .ref (z 11), .ref (z 12), .int 0, .ref (z 13), .ref (z 14), .int 0, .ref (z 15)])), (z 1, .inl (gI g, 461, .inl mD0)), (z 11, .inl (gI g, 7, .inl (fun _ => 0))), (z 12, .inl (gI g, 7, .inl (fun _ => 0)))] (fun (r : Int32) (u : Unit) => r = 0) (fun (u : Unit) => ([] : va_W)) := by
  refine kMi.of (by decide) (Nat.le_of_ble_eq_true rfl) (fun p e s m below meth c A hx hb hr hml hown hts hlk hnm hKW hP hD hS hA ls hl => ?_)
  have hown : s.vm.findClass RX12 = some m.cls := hown
  have hl : lv_has ls 1 [(0, .ref (z 0))] := hl
  refine lv_aload_n hx hb dX12_moves_0 rfl (lv_at hl 0 rfl) ?_
  refine k_Vi [0, 1, 2, 3] [] 0 12 (wr := []) hx hb hml hown hts hKW hP hD hS hA hl.1 (c_X12_findMoves l g _ z ) rfl rfl rfl wd_31_5 wd_1_5 wd_31_2 wd_31_3 wd_31_4 yd_X12_findMoves ⟨Nat.le_of_ble_eq_true rfl, Nat.le_of_ble_eq_true rfl⟩ rfl rfl rfl rfl rfl (by decide) rfl (Nat.le_of_ble_eq_true rfl) dX12_moves_1 ⟨Nat.le_of_ble_eq_true rfl, Nat.le_of_ble_eq_true rfl⟩ (fun r_1 u_2 H locs hw_3 hP hD hS => ?_)
  have hP : va_P g.1 vwCl [(z 0, .inr (12, [.ref (z 1), .ref (z 2), .int 0, .int 0, .ref (z 3), .ref (z 4), .ref (z 5), .ref (z 6), .int 0, .ref (z 7), .ref (z 8), .ref (z 9), .ref (z 10), .ref (z 11), .ref (z 12), .int 0, .ref (z 13), .ref (z 14), .int 0, .ref (z 15)])), (z 1, .inl (gI g, 461, .inl mD0))] H := hP
  have hD : va_D A [(z 0, .inr (12, [.ref (z 1), .ref (z 2), .int 0, .int 0, .ref (z 3), .ref (z 4), .ref (z 5), .ref (z 6), .int 0, .ref (z 7), .ref (z 8), .ref (z 9), .ref (z 10), .ref (z 11), .ref (z 12), .int 0, .ref (z 13), .ref (z 14), .int 0, .ref (z 15)])), (z 1, .inl (gI g, 461, .inl mD0))] := hD
  have hw_3 : r_1 = 1 := hw_3
  subst hw_3
  refine lv_if_eq (tgt := 14) hx hb dX12_moves_4 (by decide) (fun c => absurd c (by decide)) (fun _ => ?_)
  refine lv_aload_n hx hb dX12_moves_7 rfl (lv_at hl 0 rfl) ?_
  refine va_get (ci := 12) (C := RX12) (T := TX12) (N := 20) hx hb hts inlX12 hown hKW.1 hP 0 rfl rfl 15 (by decide) (hts _ wd_31_1) (fun _ h => h) rfl dX12_moves_8 ?_
  refine lv_goto (tgt := 20) hx hb dX12_moves_11 (by decide) ?_
  exact k_iret () [] hx hb hr hlk hP hD hS rfl rfl rfl rfl (Nat.le_of_ble_eq_true rfl) (Nat.le_of_ble_eq_true rfl) dX12_moves_20
theorem dX12_moved_0 : decode cX12_moved 0 = .ok (.aload_n 0, 1) := by decide +kernel
theorem dX12_moved_1 : decode cX12_moved 1 = .ok (.iload_n 1, 1) := by decide +kernel
theorem dX12_moved_2 : decode cX12_moved 2 = .ok (.invokevirtual 75, 3) := by decide +kernel
theorem dX12_moved_5 : decode cX12_moved 5 = .ok (.ifCond .ne 9, 3) := by decide +kernel
theorem dX12_moved_8 : decode cX12_moved 8 = .ok (.aload_n 0, 1) := by decide +kernel
theorem dX12_moved_9 : decode cX12_moved 9 = .ok (.iconst 1, 1) := by decide +kernel
theorem dX12_moved_10 : decode cX12_moved 10 = .ok (.invokevirtual 68, 3) := by decide +kernel
theorem dX12_moved_13 : decode cX12_moved 13 = .ok (.ireturn, 1) := by decide +kernel
set_option maxHeartbeats 4000000 in
set_option maxRecDepth 100000 in
theorem c_X12_moved (l : Launch) (g : kG) (sz : Nat) (z : Nat → Nat) (ch : Int32) : kMi l g yX12_moved cX12_moved 2 (some .int) 6 0 0 [.ref (z 0), .int ch] sz [(z 0, .inr (12, [.ref (z 1), .ref (z 2), .int 0, .int 0, .ref (z 3), .ref (z 4), .ref (z 5), .ref (z 6), .int 0, .ref (z 7), .ref (z 8), .ref (z 9), .ref (z 10), .ref (z 11), .ref (z 12), .int 0, .ref (z 13), .ref (z 14), .int 0, .ref (z 15)])), (z 1, .inl (gI g, 461, .inl mD0))] (fun (r : Int32) (u : Unit) => r = (-100001)) (fun (u : Unit) => ([] : va_W)) := by
  refine kMi.of (by decide) (Nat.le_of_ble_eq_true rfl) (fun p e s m below meth c A hx hb hr hml hown hts hlk hnm hKW hP hD hS hA ls hl => ?_)
  have hown : s.vm.findClass RX12 = some m.cls := hown
  have hl : lv_has ls 2 [(0, .ref (z 0)), (1, .int ch)] := hl
  refine lv_aload_n hx hb dX12_moved_0 rfl (lv_at hl 0 rfl) ?_
  refine lv_iload_n hx hb dX12_moved_1 rfl (lv_at hl 1 rfl) ?_
  refine k_Vi [0, 1] [] 0 12 (wr := []) hx hb hml hown hts hKW hP hD hS hA hl.1 (c_X12_isHand0 l g _ (z 0) (z 1) (z 2) (z 3) (z 4) (z 5) (z 6) (z 7) (z 8) (z 9) (z 10) (z 11) (z 12) (z 13) (z 14) (z 15) 0 0 0 0 0 ch ) rfl rfl rfl wd_12_14 wd_1_5 wd_12_11 wd_12_12 wd_12_13 yd_X12_isHand ⟨Nat.le_of_ble_eq_true rfl, Nat.le_of_ble_eq_true rfl⟩ rfl rfl rfl rfl rfl (by decide) rfl (Nat.le_of_ble_eq_true rfl) dX12_moved_2 ⟨Nat.le_of_ble_eq_true rfl, Nat.le_of_ble_eq_true rfl⟩ (fun r_1 u_2 H locs hw_3 hP hD hS => ?_)
  have hP : va_P g.1 vwCl [(z 0, .inr (12, [.ref (z 1), .ref (z 2), .int 0, .int 0, .ref (z 3), .ref (z 4), .ref (z 5), .ref (z 6), .int 0, .ref (z 7), .ref (z 8), .ref (z 9), .ref (z 10), .ref (z 11), .ref (z 12), .int 0, .ref (z 13), .ref (z 14), .int 0, .ref (z 15)])), (z 1, .inl (gI g, 461, .inl mD0))] H := hP
  have hD : va_D A [(z 0, .inr (12, [.ref (z 1), .ref (z 2), .int 0, .int 0, .ref (z 3), .ref (z 4), .ref (z 5), .ref (z 6), .int 0, .ref (z 7), .ref (z 8), .ref (z 9), .ref (z 10), .ref (z 11), .ref (z 12), .int 0, .ref (z 13), .ref (z 14), .int 0, .ref (z 15)])), (z 1, .inl (gI g, 461, .inl mD0))] := hD
  have hw_3 : r_1 = 0 := hw_3
  subst hw_3
  refine lv_if_ne (tgt := 14) hx hb dX12_moved_5 (by decide) (fun c => absurd c (by decide)) (fun _ => ?_)
  refine lv_aload_n hx hb dX12_moved_8 rfl (lv_at hl 0 rfl) ?_
  refine lv_iconst (v := 1) hx hb dX12_moved_9 (by decide) ?_
  refine k_Vi [0] [1] 0 12 (wr := [(z 1, .inl (gI g, 461, .inl mD0))]) hx hb hml hown hts hKW hP hD hS hA hl.1 (c_X12_finding_1 l g _ (z 0) (z 1) (z 2) (z 3) (z 4) (z 5) (z 6) (z 7) (z 8) (z 9) (z 10) (z 11) (z 12) (z 13) (z 14) (z 15) 0 0 0 0 0 ) rfl rfl rfl wd_10_15 wd_1_5 wd_10_12 wd_10_13 wd_10_14 yd_X12_finding ⟨Nat.le_of_ble_eq_true rfl, Nat.le_of_ble_eq_true rfl⟩ rfl rfl rfl rfl rfl (by decide) rfl (Nat.le_of_ble_eq_true rfl) dX12_moved_10 ⟨Nat.le_of_ble_eq_true rfl, Nat.le_of_ble_eq_true rfl⟩ (fun r_4 u_5 H locs hw_6 hP hD hS => ?_)
  have hP : va_P g.1 vwCl [(z 1, .inl (gI g, 461, .inl mD0))] H := hP
  have hD : va_D A [(z 1, .inl (gI g, 461, .inl mD0))] := hD
  have hw_6 : r_4 = (-100001) := hw_6
  subst hw_6
  exact k_iret () [] hx hb hr hlk hP hD hS rfl rfl rfl rfl (Nat.le_of_ble_eq_true rfl) (Nat.le_of_ble_eq_true rfl) dX12_moved_13
theorem dX12_move_0 : decode cX12_move 0 = .ok (.aload_n 0, 1) := by decide +kernel
theorem dX12_move_1 : decode cX12_move 1 = .ok (.invokevirtual 151, 3) := by decide +kernel
theorem dX12_move_4 : decode cX12_move 4 = .ok (.ifCond .ne 10, 3) := by decide +kernel
theorem dX12_move_14 : decode cX12_move 14 = .ok (.aload_n 0, 1) := by decide +kernel
theorem dX12_move_15 : decode cX12_move 15 = .ok (.invokevirtual 72, 3) := by decide +kernel
theorem dX12_move_18 : decode cX12_move 18 = .ok (.iconst 0, 1) := by decide +kernel
theorem dX12_move_19 : decode cX12_move 19 = .ok (.istore_n 1, 1) := by decide +kernel
theorem dX12_move_20 : decode cX12_move 20 = .ok (.iload_n 1, 1) := by decide +kernel
theorem dX12_move_21 : decode cX12_move 21 = .ok (.aload_n 0, 1) := by decide +kernel
theorem dX12_move_22 : decode cX12_move 22 = .ok (.getfield 7, 3) := by decide +kernel
theorem dX12_move_25 : decode cX12_move 25 = .ok (.iconst 1, 1) := by decide +kernel
theorem dX12_move_26 : decode cX12_move 26 = .ok (.iaload, 1) := by decide +kernel
theorem dX12_move_27 : decode cX12_move 27 = .ok (.if_icmp .ge 24, 3) := by decide +kernel
theorem dX12_move_51 : decode cX12_move 51 = .ok (.aload_n 0, 1) := by decide +kernel
theorem dX12_move_52 : decode cX12_move 52 = .ok (.getfield 145, 3) := by decide +kernel
theorem dX12_move_55 : decode cX12_move 55 = .ok (.ireturn, 1) := by decide +kernel
set_option maxHeartbeats 4000000 in
set_option maxRecDepth 100000 in
theorem c_X12_move (l : Launch) (g : kG) (sz : Nat) (z : Nat → Nat) : kMi l g yX12_move cX12_move 2 (some .int) 6 0 0 [.ref (z 0)] sz [(z 0, .inr (12, [.ref (z 1), .ref (z 2), .int 0, .int 0, .ref (z 3), .ref (z 4), .ref (z 5), .ref (z 6), .int 0, .ref (z 7), .ref (z 8), .ref (z 9), .ref (z 10), .ref (z 11), .ref (z 12), .int 0, .ref (z 13), .ref (z 14), .int 0, .ref (z 15)])), (z 1, .inl (gI g, 461, .inl mD0)), (z 2, .inl (gI g, 7376, .inl (fun _ => 0))), (z 11, .inl (gI g, 7, .inl (fun _ => 0))), (z 12, .inl (gI g, 7, .inl (fun _ => 0)))] (fun (r : Int32) (u : Unit) => r = 0) (fun (u : Unit) => ([] : va_W)) := by
  refine kMi.of (by decide) (Nat.le_of_ble_eq_true rfl) (fun p e s m below meth c A hx hb hr hml hown hts hlk hnm hKW hP hD hS hA ls hl => ?_)
  have hown : s.vm.findClass RX12 = some m.cls := hown
  have hl : lv_has ls 2 [(0, .ref (z 0))] := hl
  refine lv_aload_n hx hb dX12_move_0 rfl (lv_at hl 0 rfl) ?_
  refine k_Vi [0, 1, 3, 4] [2] 0 12 (wr := [(z 2, .inl (gI g, 7376, .inl (fun _ => 0)))]) hx hb hml hown hts hKW hP hD hS hA hl.1 (c_X12_findMoves l g _ z ) rfl rfl rfl wd_31_5 wd_1_5 wd_31_2 wd_31_3 wd_31_4 yd_X12_findMoves ⟨Nat.le_of_ble_eq_true rfl, Nat.le_of_ble_eq_true rfl⟩ rfl rfl rfl rfl rfl (by decide) rfl (Nat.le_of_ble_eq_true rfl) dX12_move_1 ⟨Nat.le_of_ble_eq_true rfl, Nat.le_of_ble_eq_true rfl⟩ (fun r_1 u_2 H locs hw_3 hP hD hS => ?_)
  have hP : va_P g.1 vwCl [(z 2, .inl (gI g, 7376, .inl (fun _ => 0))), (z 0, .inr (12, [.ref (z 1), .ref (z 2), .int 0, .int 0, .ref (z 3), .ref (z 4), .ref (z 5), .ref (z 6), .int 0, .ref (z 7), .ref (z 8), .ref (z 9), .ref (z 10), .ref (z 11), .ref (z 12), .int 0, .ref (z 13), .ref (z 14), .int 0, .ref (z 15)])), (z 1, .inl (gI g, 461, .inl mD0))] H := hP
  have hD : va_D A [(z 2, .inl (gI g, 7376, .inl (fun _ => 0))), (z 0, .inr (12, [.ref (z 1), .ref (z 2), .int 0, .int 0, .ref (z 3), .ref (z 4), .ref (z 5), .ref (z 6), .int 0, .ref (z 7), .ref (z 8), .ref (z 9), .ref (z 10), .ref (z 11), .ref (z 12), .int 0, .ref (z 13), .ref (z 14), .int 0, .ref (z 15)])), (z 1, .inl (gI g, 461, .inl mD0))] := hD
  have hw_3 : r_1 = 1 := hw_3
  subst hw_3
  refine lv_if_ne (tgt := 14) hx hb dX12_move_4 (by decide) (fun _ => ?_) (fun c => absurd c (by decide))
  refine lv_aload_n hx hb dX12_move_14 rfl (lv_at hl 0 rfl) ?_
  refine k_Vv [1, 2, 0] [] 1 12 (wr := []) hx hb hml hown hts hKW hP hD hS hA hl.1 (c_X12_keep0 l g _ z ) rfl rfl rfl wd_10_21 wd_1_5 wd_10_18 wd_10_19 wd_10_20 yd_X12_keep ⟨Nat.le_of_ble_eq_true rfl, Nat.le_of_ble_eq_true rfl⟩ rfl rfl rfl rfl rfl (by decide) rfl (Nat.le_of_ble_eq_true rfl) dX12_move_15 ⟨Nat.le_of_ble_eq_true rfl, Nat.le_of_ble_eq_true rfl⟩ (fun u_5 H locs hw_6 hP hD hS => ?_)
  have hP : va_P g.1 vwCl [(z 0, .inr (12, [.ref (z 1), .ref (z 2), .int 1, .int 0, .ref (z 3), .ref (z 4), .ref (z 5), .ref (z 6), .int 0, .ref (z 7), .ref (z 8), .ref (z 9), .ref (z 10), .ref (z 11), .ref (z 12), .int 0, .ref (z 13), .ref (z 14), .int 0, .ref (z 15)])), (z 1, .inl (gI g, 461, .inl mD0))] H := hP
  have hD : va_D A [(z 0, .inr (12, [.ref (z 1), .ref (z 2), .int 1, .int 0, .ref (z 3), .ref (z 4), .ref (z 5), .ref (z 6), .int 0, .ref (z 7), .ref (z 8), .ref (z 9), .ref (z 10), .ref (z 11), .ref (z 12), .int 0, .ref (z 13), .ref (z 14), .int 0, .ref (z 15)])), (z 1, .inl (gI g, 461, .inl mD0))] := hD
  refine lv_iconst (v := 0) hx hb dX12_move_18 (by decide) ?_
  refine lv_istore_n (lv' := [(1, .int 0), (0, .ref (z 0))]) hx hb dX12_move_19 rfl hl (by decide) rfl (fun ls hl => ?_)
  refine lv_iload_n hx hb dX12_move_20 rfl (lv_at hl 0 rfl) ?_
  refine lv_aload_n hx hb dX12_move_21 rfl (lv_at hl 1 rfl) ?_
  refine va_get (ci := 12) (C := RX12) (T := TX12) (N := 20) hx hb hts inlX12 hown hKW.1 hP 0 rfl rfl 0 (by decide) (hts _ wd_6_5) (fun _ h => h) rfl dX12_move_22 ?_
  refine lv_iconst (v := 1) hx hb dX12_move_25 (by decide) ?_
  refine va_iald hx hb hKW.1 hP 1 0 rfl rfl (show ¬ _ by decide) dX12_move_26 ?_
  refine k_top (y := 0) rfl ?_
  refine lv_icmp_ge (tgt := 51) hx hb dX12_move_27 (by decide) (fun _ => ?_) (fun c => absurd c (by decide))
  refine lv_aload_n hx hb dX12_move_51 rfl (lv_at hl 1 rfl) ?_
  refine va_get (ci := 12) (C := RX12) (T := TX12) (N := 20) hx hb hts inlX12 hown hKW.1 hP 0 rfl rfl 15 (by decide) (hts _ wd_31_1) (fun _ h => h) rfl dX12_move_52 ?_
  exact k_iret () [] hx hb hr hlk hP hD hS rfl rfl rfl rfl (Nat.le_of_ble_eq_true rfl) (Nat.le_of_ble_eq_true rfl) dX12_move_55
theorem dX12_roll_0 : decode cX12_roll 0 = .ok (.iload_n 1, 1) := by decide +kernel
theorem dX12_roll_1 : decode cX12_roll 1 = .ok (.iconst 0, 1) := by decide +kernel
theorem dX12_roll_2 : decode cX12_roll 2 = .ok (.bipush 59, 2) := by decide +kernel
theorem dX12_roll_4 : decode cX12_roll 4 = .ok (.invokestatic 64, 3) := by decide +kernel
theorem dX12_roll_7 : decode cX12_roll 7 = .ok (.ifCond .eq 16, 3) := by decide +kernel
theorem dX12_roll_10 : decode cX12_roll 10 = .ok (.iload_n 2, 1) := by decide +kernel
theorem dX12_roll_11 : decode cX12_roll 11 = .ok (.iconst (-1), 1) := by decide +kernel
theorem dX12_roll_12 : decode cX12_roll 12 = .ok (.if_icmp .eq 17, 3) := by decide +kernel
theorem dX12_roll_29 : decode cX12_roll 29 = .ok (.iconst 0, 1) := by decide +kernel
theorem dX12_roll_30 : decode cX12_roll 30 = .ok (.istore_n 3, 1) := by decide +kernel
theorem dX12_roll_31 : decode cX12_roll 31 = .ok (.iconst 0, 1) := by decide +kernel
theorem dX12_roll_32 : decode cX12_roll 32 = .ok (.istore 4, 2) := by decide +kernel
theorem dX12_roll_34 : decode cX12_roll 34 = .ok (.iload 4, 2) := by decide +kernel
theorem dX12_roll_36 : decode cX12_roll 36 = .ok (.aload_n 0, 1) := by decide +kernel
theorem dX12_roll_37 : decode cX12_roll 37 = .ok (.getfield 7, 3) := by decide +kernel
theorem dX12_roll_40 : decode cX12_roll 40 = .ok (.iconst 2, 1) := by decide +kernel
theorem dX12_roll_41 : decode cX12_roll 41 = .ok (.iaload, 1) := by decide +kernel
theorem dX12_roll_42 : decode cX12_roll 42 = .ok (.if_icmp .ge 38, 3) := by decide +kernel
theorem dX12_roll_80 : decode cX12_roll 80 = .ok (.iload_n 3, 1) := by decide +kernel
theorem dX12_roll_81 : decode cX12_roll 81 = .ok (.ireturn, 1) := by decide +kernel
theorem dX12_roll_15 : decode cX12_roll 15 = .ok (.aload_n 0, 1) := by decide +kernel
theorem dX12_roll_16 : decode cX12_roll 16 = .ok (.iload_n 2, 1) := by decide +kernel
theorem dX12_roll_17 : decode cX12_roll 17 = .ok (.invokevirtual 82, 3) := by decide +kernel
theorem dX12_roll_20 : decode cX12_roll 20 = .ok (.ifCond .ne 9, 3) := by decide +kernel
theorem dX12_roll_23 : decode cX12_roll 23 = .ok (.aload_n 0, 1) := by decide +kernel
theorem dX12_roll_24 : decode cX12_roll 24 = .ok (.iconst 1, 1) := by decide +kernel
theorem dX12_roll_25 : decode cX12_roll 25 = .ok (.invokevirtual 68, 3) := by decide +kernel
theorem dX12_roll_28 : decode cX12_roll 28 = .ok (.ireturn, 1) := by decide +kernel
set_option maxHeartbeats 4000000 in
set_option maxRecDepth 100000 in
theorem c_X12_roll (l : Launch) (g : kG) (sz : Nat) (z : Nat → Nat) (sl : Int32) (ch : Int32) : kMi l g yX12_roll cX12_roll 5 (some .int) 6 0 0 [.ref (z 0), .int sl, .int ch] sz [(z 0, .inr (12, [.ref (z 1), .ref (z 2), .int 0, .int 0, .ref (z 3), .ref (z 4), .ref (z 5), .ref (z 6), .int 0, .ref (z 7), .ref (z 8), .ref (z 9), .ref (z 10), .ref (z 11), .ref (z 12), .int 0, .ref (z 13), .ref (z 14), .int 0, .ref (z 15)])), (z 1, .inl (gI g, 461, .inl mD0))] (fun (r : Int32) (u : Unit) => r = aRoll sl ch) (fun (u : Unit) => ([] : va_W)) := by
  refine kMi.of (by decide) (Nat.le_of_ble_eq_true rfl) (fun p e s m below meth c A hx hb hr hml hown hts hlk hnm hKW hP hD hS hA ls hl => ?_)
  have hown : s.vm.findClass RX12 = some m.cls := hown
  have hl : lv_has ls 5 [(0, .ref (z 0)), (1, .int sl), (2, .int ch)] := hl
  refine lv_iload_n hx hb dX12_roll_0 rfl (lv_at hl 1 rfl) ?_
  refine lv_iconst (v := 0) hx hb dX12_roll_1 (by decide) ?_
  refine lv_bipush (v := 59) hx hb dX12_roll_2 (by decide) ?_
  refine k_Si [] [0, 1] (wr := [(z 0, .inr (12, [.ref (z 1), .ref (z 2), .int 0, .int 0, .ref (z 3), .ref (z 4), .ref (z 5), .ref (z 6), .int 0, .ref (z 7), .ref (z 8), .ref (z 9), .ref (z 10), .ref (z 11), .ref (z 12), .int 0, .ref (z 13), .ref (z 14), .int 0, .ref (z 15)])), (z 1, .inl (gI g, 461, .inl mD0))]) hx hb hml hown hts hKW hP hD hS hA hl.1 (c_X12_isIn l g _ sl 0 59 ) wd_10_11 wd_1_5 wd_10_9 wd_10_10 yd_X12_isIn ⟨Nat.le_of_ble_eq_true rfl, Nat.le_of_ble_eq_true rfl⟩ rfl rfl rfl rfl rfl (by decide) rfl (Nat.le_of_ble_eq_true rfl) dX12_roll_4 ⟨Nat.le_of_ble_eq_true rfl, Nat.le_of_ble_eq_true rfl⟩ (fun r_1 u_2 H locs hw_3 hP hD hS => ?_)
  have hP : va_P g.1 vwCl [(z 0, .inr (12, [.ref (z 1), .ref (z 2), .int 0, .int 0, .ref (z 3), .ref (z 4), .ref (z 5), .ref (z 6), .int 0, .ref (z 7), .ref (z 8), .ref (z 9), .ref (z 10), .ref (z 11), .ref (z 12), .int 0, .ref (z 13), .ref (z 14), .int 0, .ref (z 15)])), (z 1, .inl (gI g, 461, .inl mD0))] H := hP
  have hD : va_D A [(z 0, .inr (12, [.ref (z 1), .ref (z 2), .int 0, .int 0, .ref (z 3), .ref (z 4), .ref (z 5), .ref (z 6), .int 0, .ref (z 7), .ref (z 8), .ref (z 9), .ref (z 10), .ref (z 11), .ref (z 12), .int 0, .ref (z 13), .ref (z 14), .int 0, .ref (z 15)])), (z 1, .inl (gI g, 461, .inl mD0))] := hD
  rcases (show (r_1 = 1 ∧ (Int32.toInt 0 ≤ Int32.toInt sl ∧ Int32.toInt sl ≤ Int32.toInt 59)) ∨ (r_1 = 0 ∧ ¬ (Int32.toInt 0 ≤ Int32.toInt sl ∧ Int32.toInt sl ≤ Int32.toInt 59)) from hw_3) with ⟨rfl, hw_3b⟩ | ⟨rfl, hw_3b⟩ <;> clear hw_3
  · refine lv_if_eq (tgt := 23) hx hb dX12_roll_7 (by decide) (fun c => absurd c (by decide)) (fun _ => ?_)
    refine lv_iload_n hx hb dX12_roll_10 rfl (lv_at hl 2 rfl) ?_
    refine lv_iconst (v := (-1)) hx hb dX12_roll_11 (by decide) ?_
    refine lv_icmp_eq (tgt := 29) hx hb dX12_roll_12 (by decide) (fun c_4 => ?_) (fun c_4 => ?_)
    · refine lv_iconst (v := 0) hx hb dX12_roll_29 (by decide) ?_
      refine lv_istore_n (lv' := [(3, .int 0), (0, .ref (z 0)), (1, .int sl), (2, .int ch)]) hx hb dX12_roll_30 rfl hl (by decide) rfl (fun ls hl => ?_)
      refine lv_iconst (v := 0) hx hb dX12_roll_31 (by decide) ?_
      refine lv_istore (lv' := [(4, .int 0), (3, .int 0), (0, .ref (z 0)), (1, .int sl), (2, .int ch)]) hx hb dX12_roll_32 hl (by decide) rfl (fun ls hl => ?_)
      refine lv_iload hx hb dX12_roll_34 (lv_at hl 0 rfl) ?_
      refine lv_aload_n hx hb dX12_roll_36 rfl (lv_at hl 2 rfl) ?_
      refine va_get (ci := 12) (C := RX12) (T := TX12) (N := 20) hx hb hts inlX12 hown hKW.1 hP 0 rfl rfl 0 (by decide) (hts _ wd_6_5) (fun _ h => h) rfl dX12_roll_37 ?_
      refine lv_iconst (v := 2) hx hb dX12_roll_40 (by decide) ?_
      refine va_iald hx hb hKW.1 hP 1 0 rfl rfl (show ¬ _ by decide) dX12_roll_41 ?_
      refine k_top (y := 0) rfl ?_
      refine lv_icmp_ge (tgt := 80) hx hb dX12_roll_42 (by decide) (fun _ => ?_) (fun c => absurd c (by decide))
      refine lv_iload_n hx hb dX12_roll_80 rfl (lv_at hl 1 rfl) ?_
      exact k_iret () [] hx hb hr hlk hP hD hS (by clear hP hD hS hA hts hKW hl; unfold aRoll; (repeat' split) <;> first | rfl | (exfalso; first | omega | (simp only [Int32.lt_iff_toInt_lt, Int32.le_iff_toInt_le, ← Int32.toInt_inj] at *; omega) | (simp only [Int32.lt_iff_toInt_lt, Int32.le_iff_toInt_le, ← Int32.toInt_inj] at *; simp at *; omega) | (simp only [Int32.lt_iff_toInt_lt, Int32.le_iff_toInt_le, ← Int32.toInt_inj] at *; simp at *; done) | (simp at *; omega) | (simp at *; done))) rfl rfl rfl (Nat.le_of_ble_eq_true rfl) (Nat.le_of_ble_eq_true rfl) dX12_roll_81
    · refine lv_aload_n hx hb dX12_roll_15 rfl (lv_at hl 0 rfl) ?_
      refine lv_iload_n hx hb dX12_roll_16 rfl (lv_at hl 2 rfl) ?_
      refine k_Vi [0, 1] [] 0 12 (wr := []) hx hb hml hown hts hKW hP hD hS hA hl.1 (c_X12_isChild0 l g _ (z 0) (z 1) (z 2) (z 3) (z 4) (z 5) (z 6) (z 7) (z 8) (z 9) (z 10) (z 11) (z 12) (z 13) (z 14) (z 15) 0 0 0 0 0 ch ) rfl rfl rfl wd_13_19 wd_1_5 wd_13_16 wd_13_17 wd_13_18 yd_X12_isChild ⟨Nat.le_of_ble_eq_true rfl, Nat.le_of_ble_eq_true rfl⟩ rfl rfl rfl rfl rfl (by decide) rfl (Nat.le_of_ble_eq_true rfl) dX12_roll_17 ⟨Nat.le_of_ble_eq_true rfl, Nat.le_of_ble_eq_true rfl⟩ (fun r_5 u_6 H locs hw_7 hP hD hS => ?_)
      have hP : va_P g.1 vwCl [(z 0, .inr (12, [.ref (z 1), .ref (z 2), .int 0, .int 0, .ref (z 3), .ref (z 4), .ref (z 5), .ref (z 6), .int 0, .ref (z 7), .ref (z 8), .ref (z 9), .ref (z 10), .ref (z 11), .ref (z 12), .int 0, .ref (z 13), .ref (z 14), .int 0, .ref (z 15)])), (z 1, .inl (gI g, 461, .inl mD0))] H := hP
      have hD : va_D A [(z 0, .inr (12, [.ref (z 1), .ref (z 2), .int 0, .int 0, .ref (z 3), .ref (z 4), .ref (z 5), .ref (z 6), .int 0, .ref (z 7), .ref (z 8), .ref (z 9), .ref (z 10), .ref (z 11), .ref (z 12), .int 0, .ref (z 13), .ref (z 14), .int 0, .ref (z 15)])), (z 1, .inl (gI g, 461, .inl mD0))] := hD
      have hw_7 : r_5 = 0 := hw_7
      subst hw_7
      refine lv_if_ne (tgt := 29) hx hb dX12_roll_20 (by decide) (fun c => absurd c (by decide)) (fun _ => ?_)
      refine lv_aload_n hx hb dX12_roll_23 rfl (lv_at hl 0 rfl) ?_
      refine lv_iconst (v := 1) hx hb dX12_roll_24 (by decide) ?_
      refine k_Vi [0] [1] 0 12 (wr := [(z 1, .inl (gI g, 461, .inl mD0))]) hx hb hml hown hts hKW hP hD hS hA hl.1 (c_X12_finding_1 l g _ (z 0) (z 1) (z 2) (z 3) (z 4) (z 5) (z 6) (z 7) (z 8) (z 9) (z 10) (z 11) (z 12) (z 13) (z 14) (z 15) 0 0 0 0 0 ) rfl rfl rfl wd_10_15 wd_1_5 wd_10_12 wd_10_13 wd_10_14 yd_X12_finding ⟨Nat.le_of_ble_eq_true rfl, Nat.le_of_ble_eq_true rfl⟩ rfl rfl rfl rfl rfl (by decide) rfl (Nat.le_of_ble_eq_true rfl) dX12_roll_25 ⟨Nat.le_of_ble_eq_true rfl, Nat.le_of_ble_eq_true rfl⟩ (fun r_8 u_9 H locs hw_10 hP hD hS => ?_)
      have hP : va_P g.1 vwCl [(z 1, .inl (gI g, 461, .inl mD0))] H := hP
      have hD : va_D A [(z 1, .inl (gI g, 461, .inl mD0))] := hD
      have hw_10 : r_8 = (-100001) := hw_10
      subst hw_10
      exact k_iret () [] hx hb hr hlk hP hD hS (by clear hP hD hS hA hts hKW hl; unfold aRoll; (repeat' split) <;> first | rfl | (exfalso; first | omega | (simp only [Int32.lt_iff_toInt_lt, Int32.le_iff_toInt_le, ← Int32.toInt_inj] at *; omega) | (simp only [Int32.lt_iff_toInt_lt, Int32.le_iff_toInt_le, ← Int32.toInt_inj] at *; simp at *; omega) | (simp only [Int32.lt_iff_toInt_lt, Int32.le_iff_toInt_le, ← Int32.toInt_inj] at *; simp at *; done) | (simp at *; omega) | (simp at *; done))) rfl rfl rfl (Nat.le_of_ble_eq_true rfl) (Nat.le_of_ble_eq_true rfl) dX12_roll_28
  · refine lv_if_eq (tgt := 23) hx hb dX12_roll_7 (by decide) (fun _ => ?_) (fun c => absurd c (by decide))
    refine lv_aload_n hx hb dX12_roll_23 rfl (lv_at hl 0 rfl) ?_
    refine lv_iconst (v := 1) hx hb dX12_roll_24 (by decide) ?_
    refine k_Vi [0] [1] 0 12 (wr := [(z 1, .inl (gI g, 461, .inl mD0))]) hx hb hml hown hts hKW hP hD hS hA hl.1 (c_X12_finding_1 l g _ (z 0) (z 1) (z 2) (z 3) (z 4) (z 5) (z 6) (z 7) (z 8) (z 9) (z 10) (z 11) (z 12) (z 13) (z 14) (z 15) 0 0 0 0 0 ) rfl rfl rfl wd_10_15 wd_1_5 wd_10_12 wd_10_13 wd_10_14 yd_X12_finding ⟨Nat.le_of_ble_eq_true rfl, Nat.le_of_ble_eq_true rfl⟩ rfl rfl rfl rfl rfl (by decide) rfl (Nat.le_of_ble_eq_true rfl) dX12_roll_25 ⟨Nat.le_of_ble_eq_true rfl, Nat.le_of_ble_eq_true rfl⟩ (fun r_11 u_12 H locs hw_13 hP hD hS => ?_)
    have hP : va_P g.1 vwCl [(z 1, .inl (gI g, 461, .inl mD0))] H := hP
    have hD : va_D A [(z 1, .inl (gI g, 461, .inl mD0))] := hD
    have hw_13 : r_11 = (-100001) := hw_13
    subst hw_13
    exact k_iret () [] hx hb hr hlk hP hD hS (by clear hP hD hS hA hts hKW hl; unfold aRoll; (repeat' split) <;> first | rfl | (exfalso; first | omega | (simp only [Int32.lt_iff_toInt_lt, Int32.le_iff_toInt_le, ← Int32.toInt_inj] at *; omega) | (simp only [Int32.lt_iff_toInt_lt, Int32.le_iff_toInt_le, ← Int32.toInt_inj] at *; simp at *; omega) | (simp only [Int32.lt_iff_toInt_lt, Int32.le_iff_toInt_le, ← Int32.toInt_inj] at *; simp at *; done) | (simp at *; omega) | (simp at *; done))) rfl rfl rfl (Nat.le_of_ble_eq_true rfl) (Nat.le_of_ble_eq_true rfl) dX12_roll_28
theorem dX12_sleeps_0 : decode cX12_sleeps 0 = .ok (.aload_n 0, 1) := by decide +kernel
theorem dX12_sleeps_1 : decode cX12_sleeps 1 = .ok (.iload_n 1, 1) := by decide +kernel
theorem dX12_sleeps_2 : decode cX12_sleeps 2 = .ok (.invokevirtual 82, 3) := by decide +kernel
theorem dX12_sleeps_5 : decode cX12_sleeps 5 = .ok (.ifCond .ne 9, 3) := by decide +kernel
theorem dX12_sleeps_8 : decode cX12_sleeps 8 = .ok (.aload_n 0, 1) := by decide +kernel
theorem dX12_sleeps_9 : decode cX12_sleeps 9 = .ok (.iconst 1, 1) := by decide +kernel
theorem dX12_sleeps_10 : decode cX12_sleeps 10 = .ok (.invokevirtual 68, 3) := by decide +kernel
theorem dX12_sleeps_13 : decode cX12_sleeps 13 = .ok (.ireturn, 1) := by decide +kernel
set_option maxHeartbeats 4000000 in
set_option maxRecDepth 100000 in
theorem c_X12_sleeps (l : Launch) (g : kG) (sz : Nat) (z : Nat → Nat) (ch : Int32) (k : Int32) : kMi l g yX12_sleeps cX12_sleeps 4 (some .int) 6 0 0 [.ref (z 0), .int ch, .int k] sz [(z 0, .inr (12, [.ref (z 1), .ref (z 2), .int 0, .int 0, .ref (z 3), .ref (z 4), .ref (z 5), .ref (z 6), .int 0, .ref (z 7), .ref (z 8), .ref (z 9), .ref (z 10), .ref (z 11), .ref (z 12), .int 0, .ref (z 13), .ref (z 14), .int 0, .ref (z 15)])), (z 1, .inl (gI g, 461, .inl mD0))] (fun (r : Int32) (u : Unit) => r = (-100001)) (fun (u : Unit) => ([] : va_W)) := by
  refine kMi.of (by decide) (Nat.le_of_ble_eq_true rfl) (fun p e s m below meth c A hx hb hr hml hown hts hlk hnm hKW hP hD hS hA ls hl => ?_)
  have hown : s.vm.findClass RX12 = some m.cls := hown
  have hl : lv_has ls 4 [(0, .ref (z 0)), (1, .int ch), (2, .int k)] := hl
  refine lv_aload_n hx hb dX12_sleeps_0 rfl (lv_at hl 0 rfl) ?_
  refine lv_iload_n hx hb dX12_sleeps_1 rfl (lv_at hl 1 rfl) ?_
  refine k_Vi [0, 1] [] 0 12 (wr := []) hx hb hml hown hts hKW hP hD hS hA hl.1 (c_X12_isChild0 l g _ (z 0) (z 1) (z 2) (z 3) (z 4) (z 5) (z 6) (z 7) (z 8) (z 9) (z 10) (z 11) (z 12) (z 13) (z 14) (z 15) 0 0 0 0 0 ch ) rfl rfl rfl wd_13_19 wd_1_5 wd_13_16 wd_13_17 wd_13_18 yd_X12_isChild ⟨Nat.le_of_ble_eq_true rfl, Nat.le_of_ble_eq_true rfl⟩ rfl rfl rfl rfl rfl (by decide) rfl (Nat.le_of_ble_eq_true rfl) dX12_sleeps_2 ⟨Nat.le_of_ble_eq_true rfl, Nat.le_of_ble_eq_true rfl⟩ (fun r_1 u_2 H locs hw_3 hP hD hS => ?_)
  have hP : va_P g.1 vwCl [(z 0, .inr (12, [.ref (z 1), .ref (z 2), .int 0, .int 0, .ref (z 3), .ref (z 4), .ref (z 5), .ref (z 6), .int 0, .ref (z 7), .ref (z 8), .ref (z 9), .ref (z 10), .ref (z 11), .ref (z 12), .int 0, .ref (z 13), .ref (z 14), .int 0, .ref (z 15)])), (z 1, .inl (gI g, 461, .inl mD0))] H := hP
  have hD : va_D A [(z 0, .inr (12, [.ref (z 1), .ref (z 2), .int 0, .int 0, .ref (z 3), .ref (z 4), .ref (z 5), .ref (z 6), .int 0, .ref (z 7), .ref (z 8), .ref (z 9), .ref (z 10), .ref (z 11), .ref (z 12), .int 0, .ref (z 13), .ref (z 14), .int 0, .ref (z 15)])), (z 1, .inl (gI g, 461, .inl mD0))] := hD
  have hw_3 : r_1 = 0 := hw_3
  subst hw_3
  refine lv_if_ne (tgt := 14) hx hb dX12_sleeps_5 (by decide) (fun c => absurd c (by decide)) (fun _ => ?_)
  refine lv_aload_n hx hb dX12_sleeps_8 rfl (lv_at hl 0 rfl) ?_
  refine lv_iconst (v := 1) hx hb dX12_sleeps_9 (by decide) ?_
  refine k_Vi [0] [1] 0 12 (wr := [(z 1, .inl (gI g, 461, .inl mD0))]) hx hb hml hown hts hKW hP hD hS hA hl.1 (c_X12_finding_1 l g _ (z 0) (z 1) (z 2) (z 3) (z 4) (z 5) (z 6) (z 7) (z 8) (z 9) (z 10) (z 11) (z 12) (z 13) (z 14) (z 15) 0 0 0 0 0 ) rfl rfl rfl wd_10_15 wd_1_5 wd_10_12 wd_10_13 wd_10_14 yd_X12_finding ⟨Nat.le_of_ble_eq_true rfl, Nat.le_of_ble_eq_true rfl⟩ rfl rfl rfl rfl rfl (by decide) rfl (Nat.le_of_ble_eq_true rfl) dX12_sleeps_10 ⟨Nat.le_of_ble_eq_true rfl, Nat.le_of_ble_eq_true rfl⟩ (fun r_4 u_5 H locs hw_6 hP hD hS => ?_)
  have hP : va_P g.1 vwCl [(z 1, .inl (gI g, 461, .inl mD0))] H := hP
  have hD : va_D A [(z 1, .inl (gI g, 461, .inl mD0))] := hD
  have hw_6 : r_4 = (-100001) := hw_6
  subst hw_6
  exact k_iret () [] hx hb hr hlk hP hD hS rfl rfl rfl rfl (Nat.le_of_ble_eq_true rfl) (Nat.le_of_ble_eq_true rfl) dX12_sleeps_13
theorem dX12_look_0 : decode cX12_look 0 = .ok (.aload_n 0, 1) := by decide +kernel
theorem dX12_look_1 : decode cX12_look 1 = .ok (.iload_n 1, 1) := by decide +kernel
theorem dX12_look_2 : decode cX12_look 2 = .ok (.invokevirtual 82, 3) := by decide +kernel
theorem dX12_look_5 : decode cX12_look 5 = .ok (.ifCond .ne 9, 3) := by decide +kernel
theorem dX12_look_8 : decode cX12_look 8 = .ok (.aload_n 0, 1) := by decide +kernel
theorem dX12_look_9 : decode cX12_look 9 = .ok (.iconst 1, 1) := by decide +kernel
theorem dX12_look_10 : decode cX12_look 10 = .ok (.invokevirtual 68, 3) := by decide +kernel
theorem dX12_look_13 : decode cX12_look 13 = .ok (.ireturn, 1) := by decide +kernel
set_option maxHeartbeats 4000000 in
set_option maxRecDepth 100000 in
theorem c_X12_look (l : Launch) (g : kG) (sz : Nat) (z : Nat → Nat) (ch : Int32) : kMi l g yX12_look cX12_look 4 (some .int) 6 0 0 [.ref (z 0), .int ch] sz [(z 0, .inr (12, [.ref (z 1), .ref (z 2), .int 0, .int 0, .ref (z 3), .ref (z 4), .ref (z 5), .ref (z 6), .int 0, .ref (z 7), .ref (z 8), .ref (z 9), .ref (z 10), .ref (z 11), .ref (z 12), .int 0, .ref (z 13), .ref (z 14), .int 0, .ref (z 15)])), (z 1, .inl (gI g, 461, .inl mD0))] (fun (r : Int32) (u : Unit) => r = (-100001)) (fun (u : Unit) => ([] : va_W)) := by
  refine kMi.of (by decide) (Nat.le_of_ble_eq_true rfl) (fun p e s m below meth c A hx hb hr hml hown hts hlk hnm hKW hP hD hS hA ls hl => ?_)
  have hown : s.vm.findClass RX12 = some m.cls := hown
  have hl : lv_has ls 4 [(0, .ref (z 0)), (1, .int ch)] := hl
  refine lv_aload_n hx hb dX12_look_0 rfl (lv_at hl 0 rfl) ?_
  refine lv_iload_n hx hb dX12_look_1 rfl (lv_at hl 1 rfl) ?_
  refine k_Vi [0, 1] [] 0 12 (wr := []) hx hb hml hown hts hKW hP hD hS hA hl.1 (c_X12_isChild0 l g _ (z 0) (z 1) (z 2) (z 3) (z 4) (z 5) (z 6) (z 7) (z 8) (z 9) (z 10) (z 11) (z 12) (z 13) (z 14) (z 15) 0 0 0 0 0 ch ) rfl rfl rfl wd_13_19 wd_1_5 wd_13_16 wd_13_17 wd_13_18 yd_X12_isChild ⟨Nat.le_of_ble_eq_true rfl, Nat.le_of_ble_eq_true rfl⟩ rfl rfl rfl rfl rfl (by decide) rfl (Nat.le_of_ble_eq_true rfl) dX12_look_2 ⟨Nat.le_of_ble_eq_true rfl, Nat.le_of_ble_eq_true rfl⟩ (fun r_1 u_2 H locs hw_3 hP hD hS => ?_)
  have hP : va_P g.1 vwCl [(z 0, .inr (12, [.ref (z 1), .ref (z 2), .int 0, .int 0, .ref (z 3), .ref (z 4), .ref (z 5), .ref (z 6), .int 0, .ref (z 7), .ref (z 8), .ref (z 9), .ref (z 10), .ref (z 11), .ref (z 12), .int 0, .ref (z 13), .ref (z 14), .int 0, .ref (z 15)])), (z 1, .inl (gI g, 461, .inl mD0))] H := hP
  have hD : va_D A [(z 0, .inr (12, [.ref (z 1), .ref (z 2), .int 0, .int 0, .ref (z 3), .ref (z 4), .ref (z 5), .ref (z 6), .int 0, .ref (z 7), .ref (z 8), .ref (z 9), .ref (z 10), .ref (z 11), .ref (z 12), .int 0, .ref (z 13), .ref (z 14), .int 0, .ref (z 15)])), (z 1, .inl (gI g, 461, .inl mD0))] := hD
  have hw_3 : r_1 = 0 := hw_3
  subst hw_3
  refine lv_if_ne (tgt := 14) hx hb dX12_look_5 (by decide) (fun c => absurd c (by decide)) (fun _ => ?_)
  refine lv_aload_n hx hb dX12_look_8 rfl (lv_at hl 0 rfl) ?_
  refine lv_iconst (v := 1) hx hb dX12_look_9 (by decide) ?_
  refine k_Vi [0] [1] 0 12 (wr := [(z 1, .inl (gI g, 461, .inl mD0))]) hx hb hml hown hts hKW hP hD hS hA hl.1 (c_X12_finding_1 l g _ (z 0) (z 1) (z 2) (z 3) (z 4) (z 5) (z 6) (z 7) (z 8) (z 9) (z 10) (z 11) (z 12) (z 13) (z 14) (z 15) 0 0 0 0 0 ) rfl rfl rfl wd_10_15 wd_1_5 wd_10_12 wd_10_13 wd_10_14 yd_X12_finding ⟨Nat.le_of_ble_eq_true rfl, Nat.le_of_ble_eq_true rfl⟩ rfl rfl rfl rfl rfl (by decide) rfl (Nat.le_of_ble_eq_true rfl) dX12_look_10 ⟨Nat.le_of_ble_eq_true rfl, Nat.le_of_ble_eq_true rfl⟩ (fun r_4 u_5 H locs hw_6 hP hD hS => ?_)
  have hP : va_P g.1 vwCl [(z 1, .inl (gI g, 461, .inl mD0))] H := hP
  have hD : va_D A [(z 1, .inl (gI g, 461, .inl mD0))] := hD
  have hw_6 : r_4 = (-100001) := hw_6
  subst hw_6
  exact k_iret () [] hx hb hr hlk hP hD hS rfl rfl rfl rfl (Nat.le_of_ble_eq_true rfl) (Nat.le_of_ble_eq_true rfl) dX12_look_13
