theorem dX12_missed_0 : decode cX12_missed 0 = .ok (.aload_n 0, 1) := by decide +kernel
theorem dX12_missed_1 : decode cX12_missed 1 = .ok (.iload_n 1, 1) := by decide +kernel
theorem dX12_missed_2 : decode cX12_missed 2 = .ok (.invokevirtual 82, 3) := by decide +kernel
theorem dX12_missed_5 : decode cX12_missed 5 = .ok (.ifCond .ne 9, 3) := by decide +kernel
theorem dX12_missed_8 : decode cX12_missed 8 = .ok (.aload_n 0, 1) := by decide +kernel
theorem dX12_missed_9 : decode cX12_missed 9 = .ok (.iconst 1, 1) := by decide +kernel
theorem dX12_missed_10 : decode cX12_missed 10 = .ok (.invokevirtual 68, 3) := by decide +kernel
theorem dX12_missed_13 : decode cX12_missed 13 = .ok (.ireturn, 1) := by decide +kernel
set_option maxHeartbeats 4000000 in
set_option maxRecDepth 100000 in
theorem c_X12_missed (l : Launch) (g : kG) (sz : Nat) (z : Nat → Nat) (ch : Int32) (k : Int32) : kMi l g yX12_missed cX12_missed 9 (some .int) 6 0 0 [.ref (z 0), .int ch, .int k] sz [(z 0, .inr (12, [.ref (z 1), .ref (z 2), .int 0, .int 0, .ref (z 3), .ref (z 4), .ref (z 5), .ref (z 6), .int 0, .ref (z 7), .ref (z 8), .ref (z 9), .ref (z 10), .ref (z 11), .ref (z 12), .int 0, .ref (z 13), .ref (z 14), .int 0, .ref (z 15)])), (z 1, .inl (gI g, 461, .inl mD0))] (fun (r : Int32) (u : Unit) => r = (-100001)) (fun (u : Unit) => ([] : va_W)) := by
  refine kMi.of (by decide) (Nat.le_of_ble_eq_true rfl) (fun p e s m below meth c A hx hb hr hml hown hts hlk hnm hKW hP hD hS hA ls hl => ?_)
  have hown : s.vm.findClass RX12 = some m.cls := hown
  have hl : lv_has ls 9 [(0, .ref (z 0)), (1, .int ch), (2, .int k)] := hl
  refine lv_aload_n hx hb dX12_missed_0 rfl (lv_at hl 0 rfl) ?_
  refine lv_iload_n hx hb dX12_missed_1 rfl (lv_at hl 1 rfl) ?_
  refine k_Vi [0, 1] [] 0 12 (wr := []) hx hb hml hown hts hKW hP hD hS hA hl.1 (c_X12_isChild0 l g _ (z 0) (z 1) (z 2) (z 3) (z 4) (z 5) (z 6) (z 7) (z 8) (z 9) (z 10) (z 11) (z 12) (z 13) (z 14) (z 15) 0 0 0 0 0 ch ) rfl rfl rfl wd_13_19 wd_1_5 wd_13_16 wd_13_17 wd_13_18 yd_X12_isChild ⟨Nat.le_of_ble_eq_true rfl, Nat.le_of_ble_eq_true rfl⟩ rfl rfl rfl rfl rfl (by decide) rfl (Nat.le_of_ble_eq_true rfl) dX12_missed_2 ⟨Nat.le_of_ble_eq_true rfl, Nat.le_of_ble_eq_true rfl⟩ (fun r_1 u_2 H locs hw_3 hP hD hS => ?_)
  have hP : va_P g.1 vwCl [(z 0, .inr (12, [.ref (z 1), .ref (z 2), .int 0, .int 0, .ref (z 3), .ref (z 4), .ref (z 5), .ref (z 6), .int 0, .ref (z 7), .ref (z 8), .ref (z 9), .ref (z 10), .ref (z 11), .ref (z 12), .int 0, .ref (z 13), .ref (z 14), .int 0, .ref (z 15)])), (z 1, .inl (gI g, 461, .inl mD0))] H := hP
  have hD : va_D A [(z 0, .inr (12, [.ref (z 1), .ref (z 2), .int 0, .int 0, .ref (z 3), .ref (z 4), .ref (z 5), .ref (z 6), .int 0, .ref (z 7), .ref (z 8), .ref (z 9), .ref (z 10), .ref (z 11), .ref (z 12), .int 0, .ref (z 13), .ref (z 14), .int 0, .ref (z 15)])), (z 1, .inl (gI g, 461, .inl mD0))] := hD
  have hw_3 : r_1 = 0 := hw_3
  subst hw_3
  refine lv_if_ne (tgt := 14) hx hb dX12_missed_5 (by decide) (fun c => absurd c (by decide)) (fun _ => ?_)
  refine lv_aload_n hx hb dX12_missed_8 rfl (lv_at hl 0 rfl) ?_
  refine lv_iconst (v := 1) hx hb dX12_missed_9 (by decide) ?_
  refine k_Vi [0] [1] 0 12 (wr := [(z 1, .inl (gI g, 461, .inl mD0))]) hx hb hml hown hts hKW hP hD hS hA hl.1 (c_X12_finding_1 l g _ (z 0) (z 1) (z 2) (z 3) (z 4) (z 5) (z 6) (z 7) (z 8) (z 9) (z 10) (z 11) (z 12) (z 13) (z 14) (z 15) 0 0 0 0 0 ) rfl rfl rfl wd_10_15 wd_1_5 wd_10_12 wd_10_13 wd_10_14 yd_X12_finding ⟨Nat.le_of_ble_eq_true rfl, Nat.le_of_ble_eq_true rfl⟩ rfl rfl rfl rfl rfl (by decide) rfl (Nat.le_of_ble_eq_true rfl) dX12_missed_10 ⟨Nat.le_of_ble_eq_true rfl, Nat.le_of_ble_eq_true rfl⟩ (fun r_4 u_5 H locs hw_6 hP hD hS => ?_)
  have hP : va_P g.1 vwCl [(z 1, .inl (gI g, 461, .inl mD0))] H := hP
  have hD : va_D A [(z 1, .inl (gI g, 461, .inl mD0))] := hD
  have hw_6 : r_4 = (-100001) := hw_6
  subst hw_6
  exact k_iret () [] hx hb hr hlk hP hD hS rfl rfl rfl rfl (Nat.le_of_ble_eq_true rfl) (Nat.le_of_ble_eq_true rfl) dX12_missed_13
theorem dX12_needed_0 : decode cX12_needed 0 = .ok (.iload_n 1, 1) := by decide +kernel
theorem dX12_needed_1 : decode cX12_needed 1 = .ok (.iconst 0, 1) := by decide +kernel
theorem dX12_needed_2 : decode cX12_needed 2 = .ok (.bipush 59, 2) := by decide +kernel
theorem dX12_needed_4 : decode cX12_needed 4 = .ok (.invokestatic 64, 3) := by decide +kernel
theorem dX12_needed_7 : decode cX12_needed 7 = .ok (.ifCond .eq 23, 3) := by decide +kernel
theorem dX12_needed_10 : decode cX12_needed 10 = .ok (.iload_n 2, 1) := by decide +kernel
theorem dX12_needed_11 : decode cX12_needed 11 = .ok (.iload_n 1, 1) := by decide +kernel
theorem dX12_needed_12 : decode cX12_needed 12 = .ok (.bipush 59, 2) := by decide +kernel
theorem dX12_needed_14 : decode cX12_needed 14 = .ok (.invokestatic 64, 3) := by decide +kernel
theorem dX12_needed_17 : decode cX12_needed 17 = .ok (.ifCond .eq 13, 3) := by decide +kernel
theorem dX12_needed_20 : decode cX12_needed 20 = .ok (.iload_n 3, 1) := by decide +kernel
theorem dX12_needed_21 : decode cX12_needed 21 = .ok (.iconst 0, 1) := by decide +kernel
theorem dX12_needed_22 : decode cX12_needed 22 = .ok (.bipush 8, 2) := by decide +kernel
theorem dX12_needed_24 : decode cX12_needed 24 = .ok (.invokestatic 64, 3) := by decide +kernel
theorem dX12_needed_27 : decode cX12_needed 27 = .ok (.ifCond .ne 9, 3) := by decide +kernel
theorem dX12_needed_36 : decode cX12_needed 36 = .ok (.aload_n 0, 1) := by decide +kernel
theorem dX12_needed_37 : decode cX12_needed 37 = .ok (.invokevirtual 72, 3) := by decide +kernel
theorem dX12_needed_40 : decode cX12_needed 40 = .ok (.iload_n 1, 1) := by decide +kernel
theorem dX12_needed_41 : decode cX12_needed 41 = .ok (.istore 4, 2) := by decide +kernel
theorem dX12_needed_30 : decode cX12_needed 30 = .ok (.aload_n 0, 1) := by decide +kernel
theorem dX12_needed_31 : decode cX12_needed 31 = .ok (.iconst 1, 1) := by decide +kernel
theorem dX12_needed_32 : decode cX12_needed 32 = .ok (.invokevirtual 68, 3) := by decide +kernel
theorem dX12_needed_35 : decode cX12_needed 35 = .ok (.ireturn, 1) := by decide +kernel
theorem dX12_needed_43 : decode cX12_needed 43 = .ok (.iload 4, 2) := by decide +kernel
theorem dX12_needed_45 : decode cX12_needed 45 = .ok (.iload_n 2, 1) := by decide +kernel
theorem dX12_needed_46 : decode cX12_needed 46 = .ok (.if_icmp .gt 21, 3) := by decide +kernel
theorem dX12_needed_67 : decode cX12_needed 67 = .ok (.iload_n 2, 1) := by decide +kernel
theorem dX12_needed_68 : decode cX12_needed 68 = .ok (.iload_n 1, 1) := by decide +kernel
theorem dX12_needed_69 : decode cX12_needed 69 = .ok (.isub, 1) := by decide +kernel
theorem dX12_needed_70 : decode cX12_needed 70 = .ok (.iconst 1, 1) := by decide +kernel
theorem dX12_needed_71 : decode cX12_needed 71 = .ok (.iadd, 1) := by decide +kernel
theorem dX12_needed_72 : decode cX12_needed 72 = .ok (.ireturn, 1) := by decide +kernel
theorem dX12_needed_49 : decode cX12_needed 49 = .ok (.aload_n 0, 1) := by decide +kernel
theorem dX12_needed_50 : decode cX12_needed 50 = .ok (.getfield 7, 3) := by decide +kernel
theorem dX12_needed_53 : decode cX12_needed 53 = .ok (.sipush 147, 3) := by decide +kernel
theorem dX12_needed_56 : decode cX12_needed 56 = .ok (.iload 4, 2) := by decide +kernel
theorem dX12_needed_58 : decode cX12_needed 58 = .ok (.iadd, 1) := by decide +kernel
theorem dX12_needed_59 : decode cX12_needed 59 = .ok (.iload_n 3, 1) := by decide +kernel
theorem dX12_needed_60 : decode cX12_needed 60 = .ok (.iastore, 1) := by decide +kernel
theorem dX12_needed_61 : decode cX12_needed 61 = .ok (.iinc 4 1, 3) := by decide +kernel
theorem dX12_needed_64 : decode cX12_needed 64 = .ok (.goto (-21), 3) := by decide +kernel
set_option maxHeartbeats 4000000 in
set_option maxRecDepth 100000 in
theorem c_X12_needed_l43 (l : Launch) (g : kG) (z : Nat → Nat) (fr : Int32) (tt : Int32) (n_ : Int32) {p : Program} {e : Env} {s : State} {m : MethodId} {below : List Frame} {meth : Method} {c : Code} {A : Nat → Prop} (hx : p.tables.exec = Jvm.exec) (hb : c.code = cX12_needed) (hr : meth.sig.returnType = (some .int)) (hml : c.maxLocals = 5) (hown : s.vm.findClass RX12 = some m.cls) (hts : ∀ w ∈ wsL_law, w.before ([.ref (z 0), .int fr, .int tt, .int n_] : List Value).toArray s = true) (hlk : meth.locks = false) (hnm : meth.name = yX12_needed.name) (hKW : kKW g s) (hA : ∀ q, s.heap.size ≤ q → A q) :
    ∀ (n : Nat) (i : Nat) (f : Nat → Int32) (hi : i ≤ 60) (hfuel : 60 < i + n) (htt : Int32.toInt tt < (60 : Nat)) (hfin : aNeeded fr tt n_ = tt - fr + 1) (H : Heap) (locs : List Loc), va_P g.1 vwCl [(z 0, .inr (12, [.ref (z 1), .ref (z 2), .int 1, .int 0, .ref (z 3), .ref (z 4), .ref (z 5), .ref (z 6), .int 0, .ref (z 7), .ref (z 8), .ref (z 9), .ref (z 10), .ref (z 11), .ref (z 12), .int 0, .ref (z 13), .ref (z 14), .int 0, .ref (z 15)])), (z 1, .inl (gI g, 461, .inl f))] H → va_D A [(z 0, .inr (12, [.ref (z 1), .ref (z 2), .int 1, .int 0, .ref (z 3), .ref (z 4), .ref (z 5), .ref (z 6), .int 0, .ref (z 7), .ref (z 8), .ref (z 9), .ref (z 10), .ref (z 11), .ref (z 12), .int 0, .ref (z 13), .ref (z 14), .int 0, .ref (z 15)])), (z 1, .inl (gI g, 461, .inl f))] → va_S A s.heap H locs → ∀ (ls : Array Slot), lv_has ls 5 [(0, .ref (z 0)), (1, .int fr), (2, .int tt), (3, .int n_), (4, .int (nI i))] → W p l e (kR 6 0 0) s m ([.ref (z 0), .int fr, .int tt, .int n_] : List Value).toArray below meth c H locs 0 0 (MQ below (va_Qi (fun (r : Int32) (u : Unit) => r = aNeeded fr tt n_) (fun u t => kPost g A ((fun (u : Unit) => ([] : va_W)) u) t) A) ([.ref (z 0), .int fr, .int tt, .int n_] : List Value).toArray s 0 0 A) (F0 m 43 ls []) := by
  intro n
  induction n with
  | zero =>
    intro i f hi hfuel htt hfin
    exact absurd hfuel (by omega)
  | succ n ih =>
    intro i f hi hfuel htt hfin H locs hP hD hS ls hl
    refine lv_iload hx hb dX12_needed_43 (lv_at hl 4 rfl) ?_
    refine lv_iload_n hx hb dX12_needed_45 rfl (lv_at hl 2 rfl) ?_
    refine lv_icmp_gt (tgt := 67) hx hb dX12_needed_46 (by decide) (fun c_22 => ?_) (fun c_22 => ?_)
    · refine lv_iload_n hx hb dX12_needed_67 rfl (lv_at hl 2 rfl) ?_
      refine lv_iload_n hx hb dX12_needed_68 rfl (lv_at hl 1 rfl) ?_
      refine lv_isub hx hb dX12_needed_69 ?_
      refine lv_iconst (v := 1) hx hb dX12_needed_70 (by decide) ?_
      refine lv_iadd hx hb dX12_needed_71 ?_
      exact k_iret () [] hx hb hr hlk hP hD hS hfin.symm rfl rfl rfl (Nat.le_of_ble_eq_true rfl) (Nat.le_of_ble_eq_true rfl) dX12_needed_72
    · have hlt : i < 60 := k_lew (by decide) hi htt c_22
      refine lv_aload_n hx hb dX12_needed_49 rfl (lv_at hl 0 rfl) ?_
      refine va_get (ci := 12) (C := RX12) (T := TX12) (N := 20) hx hb hts inlX12 hown hKW.1 hP 0 rfl rfl 0 (by decide) (hts _ wd_6_5) (fun _ h => h) rfl dX12_needed_50 ?_
      refine lv_sipush (v := 147) hx hb dX12_needed_53 (by decide) ?_
      refine lv_iload hx hb dX12_needed_56 (lv_at hl 4 rfl) ?_
      refine lv_iadd hx hb dX12_needed_58 ?_
      refine k_top (y := nI (i + 147)) (k_c 147 i) ?_
      refine lv_iload_n hx hb dX12_needed_59 rfl (lv_at hl 3 rfl) ?_
      refine va_iast hx hb hKW.1 hP hD hS 1 0 rfl rfl (vp_in_nI (by omega) (by decide)) dX12_needed_60 (fun H locs hP hD hS => ?_)
      have hP : va_P g.1 vwCl [(z 0, .inr (12, [.ref (z 1), .ref (z 2), .int 1, .int 0, .ref (z 3), .ref (z 4), .ref (z 5), .ref (z 6), .int 0, .ref (z 7), .ref (z 8), .ref (z 9), .ref (z 10), .ref (z 11), .ref (z 12), .int 0, .ref (z 13), .ref (z 14), .int 0, .ref (z 15)])), (z 1, .inl (gI g, 461, .inl (upd f (nI (i + 147)).toNatClampNeg n_)))] H := hP
      have hD : va_D A [(z 0, .inr (12, [.ref (z 1), .ref (z 2), .int 1, .int 0, .ref (z 3), .ref (z 4), .ref (z 5), .ref (z 6), .int 0, .ref (z 7), .ref (z 8), .ref (z 9), .ref (z 10), .ref (z 11), .ref (z 12), .int 0, .ref (z 13), .ref (z 14), .int 0, .ref (z 15)])), (z 1, .inl (gI g, 461, .inl (upd f (nI (i + 147)).toNatClampNeg n_)))] := hD
      obtain ⟨f_23, ef_23⟩ : ∃ zz_ : Nat → Int32, zz_ = upd f (nI (i + 147)).toNatClampNeg n_ := ⟨_, rfl⟩
      rw [← ef_23] at hP hD
      refine lv_iinc (v := nI (i + 1)) (lv' := [(4, .int (nI (i + 1))), (0, .ref (z 0)), (1, .int fr), (2, .int tt), (3, .int n_)]) hx hb dX12_needed_61 hl (k := 4) rfl (by first | exact nI_1 _ | (simp [nI]; done)) (by decide) rfl (fun ls hl => ?_)
      refine lv_goto (tgt := 43) hx hb dX12_needed_64 (by decide) ?_
      exact ih (i + 1) f_23 (by omega) (by omega) htt hfin _ _ (hP.sub [0, 1] rfl) (hD.sub [0, 1] (by decide) rfl) hS ls (lv_sub hl [1, 2, 3, 4, 0] rfl)
set_option maxHeartbeats 4000000 in
set_option maxRecDepth 100000 in
theorem c_X12_needed (l : Launch) (g : kG) (sz : Nat) (z : Nat → Nat) (fr : Int32) (tt : Int32) (n_ : Int32) : kMi l g yX12_needed cX12_needed 5 (some .int) 6 0 0 [.ref (z 0), .int fr, .int tt, .int n_] sz [(z 0, .inr (12, [.ref (z 1), .ref (z 2), .int 0, .int 0, .ref (z 3), .ref (z 4), .ref (z 5), .ref (z 6), .int 0, .ref (z 7), .ref (z 8), .ref (z 9), .ref (z 10), .ref (z 11), .ref (z 12), .int 0, .ref (z 13), .ref (z 14), .int 0, .ref (z 15)])), (z 1, .inl (gI g, 461, .inl mD0)), (z 2, .inl (gI g, 7376, .inl (fun _ => 0)))] (fun (r : Int32) (u : Unit) => r = aNeeded fr tt n_) (fun (u : Unit) => ([] : va_W)) := by
  refine kMi.of (by decide) (Nat.le_of_ble_eq_true rfl) (fun p e s m below meth c A hx hb hr hml hown hts hlk hnm hKW hP hD hS hA ls hl => ?_)
  have hown : s.vm.findClass RX12 = some m.cls := hown
  have hl : lv_has ls 5 [(0, .ref (z 0)), (1, .int fr), (2, .int tt), (3, .int n_)] := hl
  refine lv_iload_n hx hb dX12_needed_0 rfl (lv_at hl 1 rfl) ?_
  refine lv_iconst (v := 0) hx hb dX12_needed_1 (by decide) ?_
  refine lv_bipush (v := 59) hx hb dX12_needed_2 (by decide) ?_
  refine k_Si [] [0, 1, 2] (wr := [(z 0, .inr (12, [.ref (z 1), .ref (z 2), .int 0, .int 0, .ref (z 3), .ref (z 4), .ref (z 5), .ref (z 6), .int 0, .ref (z 7), .ref (z 8), .ref (z 9), .ref (z 10), .ref (z 11), .ref (z 12), .int 0, .ref (z 13), .ref (z 14), .int 0, .ref (z 15)])), (z 1, .inl (gI g, 461, .inl mD0)), (z 2, .inl (gI g, 7376, .inl (fun _ => 0)))]) hx hb hml hown hts hKW hP hD hS hA hl.1 (c_X12_isIn l g _ fr 0 59 ) wd_10_11 wd_1_5 wd_10_9 wd_10_10 yd_X12_isIn ⟨Nat.le_of_ble_eq_true rfl, Nat.le_of_ble_eq_true rfl⟩ rfl rfl rfl rfl rfl (by decide) rfl (Nat.le_of_ble_eq_true rfl) dX12_needed_4 ⟨Nat.le_of_ble_eq_true rfl, Nat.le_of_ble_eq_true rfl⟩ (fun r_1 u_2 H locs hw_3 hP hD hS => ?_)
  have hP : va_P g.1 vwCl [(z 0, .inr (12, [.ref (z 1), .ref (z 2), .int 0, .int 0, .ref (z 3), .ref (z 4), .ref (z 5), .ref (z 6), .int 0, .ref (z 7), .ref (z 8), .ref (z 9), .ref (z 10), .ref (z 11), .ref (z 12), .int 0, .ref (z 13), .ref (z 14), .int 0, .ref (z 15)])), (z 1, .inl (gI g, 461, .inl mD0)), (z 2, .inl (gI g, 7376, .inl (fun _ => 0)))] H := hP
  have hD : va_D A [(z 0, .inr (12, [.ref (z 1), .ref (z 2), .int 0, .int 0, .ref (z 3), .ref (z 4), .ref (z 5), .ref (z 6), .int 0, .ref (z 7), .ref (z 8), .ref (z 9), .ref (z 10), .ref (z 11), .ref (z 12), .int 0, .ref (z 13), .ref (z 14), .int 0, .ref (z 15)])), (z 1, .inl (gI g, 461, .inl mD0)), (z 2, .inl (gI g, 7376, .inl (fun _ => 0)))] := hD
  rcases (show (r_1 = 1 ∧ (Int32.toInt 0 ≤ Int32.toInt fr ∧ Int32.toInt fr ≤ Int32.toInt 59)) ∨ (r_1 = 0 ∧ ¬ (Int32.toInt 0 ≤ Int32.toInt fr ∧ Int32.toInt fr ≤ Int32.toInt 59)) from hw_3) with ⟨rfl, hw_3b⟩ | ⟨rfl, hw_3b⟩ <;> clear hw_3
  · refine lv_if_eq (tgt := 30) hx hb dX12_needed_7 (by decide) (fun c => absurd c (by decide)) (fun _ => ?_)
    refine lv_iload_n hx hb dX12_needed_10 rfl (lv_at hl 2 rfl) ?_
    refine lv_iload_n hx hb dX12_needed_11 rfl (lv_at hl 1 rfl) ?_
    refine lv_bipush (v := 59) hx hb dX12_needed_12 (by decide) ?_
    refine k_Si [] [0, 1, 2] (wr := [(z 0, .inr (12, [.ref (z 1), .ref (z 2), .int 0, .int 0, .ref (z 3), .ref (z 4), .ref (z 5), .ref (z 6), .int 0, .ref (z 7), .ref (z 8), .ref (z 9), .ref (z 10), .ref (z 11), .ref (z 12), .int 0, .ref (z 13), .ref (z 14), .int 0, .ref (z 15)])), (z 1, .inl (gI g, 461, .inl mD0)), (z 2, .inl (gI g, 7376, .inl (fun _ => 0)))]) hx hb hml hown hts hKW hP hD hS hA hl.1 (c_X12_isIn l g _ tt fr 59 ) wd_10_11 wd_1_5 wd_10_9 wd_10_10 yd_X12_isIn ⟨Nat.le_of_ble_eq_true rfl, Nat.le_of_ble_eq_true rfl⟩ rfl rfl rfl rfl rfl (by decide) rfl (Nat.le_of_ble_eq_true rfl) dX12_needed_14 ⟨Nat.le_of_ble_eq_true rfl, Nat.le_of_ble_eq_true rfl⟩ (fun r_4 u_5 H locs hw_6 hP hD hS => ?_)
    have hP : va_P g.1 vwCl [(z 0, .inr (12, [.ref (z 1), .ref (z 2), .int 0, .int 0, .ref (z 3), .ref (z 4), .ref (z 5), .ref (z 6), .int 0, .ref (z 7), .ref (z 8), .ref (z 9), .ref (z 10), .ref (z 11), .ref (z 12), .int 0, .ref (z 13), .ref (z 14), .int 0, .ref (z 15)])), (z 1, .inl (gI g, 461, .inl mD0)), (z 2, .inl (gI g, 7376, .inl (fun _ => 0)))] H := hP
    have hD : va_D A [(z 0, .inr (12, [.ref (z 1), .ref (z 2), .int 0, .int 0, .ref (z 3), .ref (z 4), .ref (z 5), .ref (z 6), .int 0, .ref (z 7), .ref (z 8), .ref (z 9), .ref (z 10), .ref (z 11), .ref (z 12), .int 0, .ref (z 13), .ref (z 14), .int 0, .ref (z 15)])), (z 1, .inl (gI g, 461, .inl mD0)), (z 2, .inl (gI g, 7376, .inl (fun _ => 0)))] := hD
    rcases (show (r_4 = 1 ∧ (Int32.toInt fr ≤ Int32.toInt tt ∧ Int32.toInt tt ≤ Int32.toInt 59)) ∨ (r_4 = 0 ∧ ¬ (Int32.toInt fr ≤ Int32.toInt tt ∧ Int32.toInt tt ≤ Int32.toInt 59)) from hw_6) with ⟨rfl, hw_6b⟩ | ⟨rfl, hw_6b⟩ <;> clear hw_6
    · refine lv_if_eq (tgt := 30) hx hb dX12_needed_17 (by decide) (fun c => absurd c (by decide)) (fun _ => ?_)
      refine lv_iload_n hx hb dX12_needed_20 rfl (lv_at hl 3 rfl) ?_
      refine lv_iconst (v := 0) hx hb dX12_needed_21 (by decide) ?_
      refine lv_bipush (v := 8) hx hb dX12_needed_22 (by decide) ?_
      refine k_Si [] [0, 1, 2] (wr := [(z 0, .inr (12, [.ref (z 1), .ref (z 2), .int 0, .int 0, .ref (z 3), .ref (z 4), .ref (z 5), .ref (z 6), .int 0, .ref (z 7), .ref (z 8), .ref (z 9), .ref (z 10), .ref (z 11), .ref (z 12), .int 0, .ref (z 13), .ref (z 14), .int 0, .ref (z 15)])), (z 1, .inl (gI g, 461, .inl mD0)), (z 2, .inl (gI g, 7376, .inl (fun _ => 0)))]) hx hb hml hown hts hKW hP hD hS hA hl.1 (c_X12_isIn l g _ n_ 0 8 ) wd_10_11 wd_1_5 wd_10_9 wd_10_10 yd_X12_isIn ⟨Nat.le_of_ble_eq_true rfl, Nat.le_of_ble_eq_true rfl⟩ rfl rfl rfl rfl rfl (by decide) rfl (Nat.le_of_ble_eq_true rfl) dX12_needed_24 ⟨Nat.le_of_ble_eq_true rfl, Nat.le_of_ble_eq_true rfl⟩ (fun r_7 u_8 H locs hw_9 hP hD hS => ?_)
      have hP : va_P g.1 vwCl [(z 0, .inr (12, [.ref (z 1), .ref (z 2), .int 0, .int 0, .ref (z 3), .ref (z 4), .ref (z 5), .ref (z 6), .int 0, .ref (z 7), .ref (z 8), .ref (z 9), .ref (z 10), .ref (z 11), .ref (z 12), .int 0, .ref (z 13), .ref (z 14), .int 0, .ref (z 15)])), (z 1, .inl (gI g, 461, .inl mD0)), (z 2, .inl (gI g, 7376, .inl (fun _ => 0)))] H := hP
      have hD : va_D A [(z 0, .inr (12, [.ref (z 1), .ref (z 2), .int 0, .int 0, .ref (z 3), .ref (z 4), .ref (z 5), .ref (z 6), .int 0, .ref (z 7), .ref (z 8), .ref (z 9), .ref (z 10), .ref (z 11), .ref (z 12), .int 0, .ref (z 13), .ref (z 14), .int 0, .ref (z 15)])), (z 1, .inl (gI g, 461, .inl mD0)), (z 2, .inl (gI g, 7376, .inl (fun _ => 0)))] := hD
      rcases (show (r_7 = 1 ∧ (Int32.toInt 0 ≤ Int32.toInt n_ ∧ Int32.toInt n_ ≤ Int32.toInt 8)) ∨ (r_7 = 0 ∧ ¬ (Int32.toInt 0 ≤ Int32.toInt n_ ∧ Int32.toInt n_ ≤ Int32.toInt 8)) from hw_9) with ⟨rfl, hw_9b⟩ | ⟨rfl, hw_9b⟩ <;> clear hw_9
      · refine lv_if_ne (tgt := 36) hx hb dX12_needed_27 (by decide) (fun _ => ?_) (fun c => absurd c (by decide))
        have htt : Int32.toInt tt < (60 : Nat) := (by clear hP hD hS hA hts hKW hl; first | omega | (simp only [Int32.lt_iff_toInt_lt, Int32.le_iff_toInt_le, ← Int32.toInt_inj] at *; omega) | (simp only [Int32.lt_iff_toInt_lt, Int32.le_iff_toInt_le, ← Int32.toInt_inj] at *; simp at *; omega) | (simp only [Int32.lt_iff_toInt_lt, Int32.le_iff_toInt_le, ← Int32.toInt_inj] at *; simp at *; done) | (simp at *; omega) | (simp at *; done))
        have hfin : aNeeded fr tt n_ = tt - fr + 1 := (by clear hP hD hS hA hts hKW hl; unfold aNeeded; split <;> first | rfl | (exfalso; first | omega | (simp only [Int32.lt_iff_toInt_lt, Int32.le_iff_toInt_le, ← Int32.toInt_inj] at *; omega) | (simp only [Int32.lt_iff_toInt_lt, Int32.le_iff_toInt_le, ← Int32.toInt_inj] at *; simp at *; omega) | (simp only [Int32.lt_iff_toInt_lt, Int32.le_iff_toInt_le, ← Int32.toInt_inj] at *; simp at *; done) | (simp at *; omega) | (simp at *; done)))
        have hj : ∃ j : Nat, j < 60 ∧ fr = nI j := k_ofr (by decide) (by clear hP hD hS hA hts hKW hl; first | omega | (simp only [Int32.lt_iff_toInt_lt, Int32.le_iff_toInt_le, ← Int32.toInt_inj] at *; omega) | (simp only [Int32.lt_iff_toInt_lt, Int32.le_iff_toInt_le, ← Int32.toInt_inj] at *; simp at *; omega) | (simp only [Int32.lt_iff_toInt_lt, Int32.le_iff_toInt_le, ← Int32.toInt_inj] at *; simp at *; done) | (simp at *; omega) | (simp at *; done))
        refine lv_aload_n hx hb dX12_needed_36 rfl (lv_at hl 0 rfl) ?_
        refine k_Vv [0, 1, 2] [] 0 12 (wr := []) hx hb hml hown hts hKW hP hD hS hA hl.1 (c_X12_keep0 l g _ z ) rfl rfl rfl wd_10_21 wd_1_5 wd_10_18 wd_10_19 wd_10_20 yd_X12_keep ⟨Nat.le_of_ble_eq_true rfl, Nat.le_of_ble_eq_true rfl⟩ rfl rfl rfl rfl rfl (by decide) rfl (Nat.le_of_ble_eq_true rfl) dX12_needed_37 ⟨Nat.le_of_ble_eq_true rfl, Nat.le_of_ble_eq_true rfl⟩ (fun u_11 H locs hw_12 hP hD hS => ?_)
        have hP : va_P g.1 vwCl [(z 0, .inr (12, [.ref (z 1), .ref (z 2), .int 1, .int 0, .ref (z 3), .ref (z 4), .ref (z 5), .ref (z 6), .int 0, .ref (z 7), .ref (z 8), .ref (z 9), .ref (z 10), .ref (z 11), .ref (z 12), .int 0, .ref (z 13), .ref (z 14), .int 0, .ref (z 15)])), (z 1, .inl (gI g, 461, .inl mD0))] H := hP
        have hD : va_D A [(z 0, .inr (12, [.ref (z 1), .ref (z 2), .int 1, .int 0, .ref (z 3), .ref (z 4), .ref (z 5), .ref (z 6), .int 0, .ref (z 7), .ref (z 8), .ref (z 9), .ref (z 10), .ref (z 11), .ref (z 12), .int 0, .ref (z 13), .ref (z 14), .int 0, .ref (z 15)])), (z 1, .inl (gI g, 461, .inl mD0))] := hD
        obtain ⟨j, hj, rfl⟩ := hj
        refine lv_iload_n hx hb dX12_needed_40 rfl (lv_at hl 1 rfl) ?_
        refine lv_istore (lv' := [(4, .int (nI j)), (0, .ref (z 0)), (1, .int (nI j)), (2, .int tt), (3, .int n_)]) hx hb dX12_needed_41 hl (by decide) rfl (fun ls hl => ?_)
        exact c_X12_needed_l43 l g z (nI j) tt n_  hx hb hr hml hown hts hlk hnm hKW hA 61 j mD0 (by omega) (by omega) htt hfin _ _ (hP.sub [0, 1] rfl) (hD.sub [0, 1] (by decide) rfl) hS ls (lv_sub hl [1, 2, 3, 4, 0] rfl)
      · refine lv_if_ne (tgt := 36) hx hb dX12_needed_27 (by decide) (fun c => absurd c (by decide)) (fun _ => ?_)
        refine lv_aload_n hx hb dX12_needed_30 rfl (lv_at hl 0 rfl) ?_
        refine lv_iconst (v := 1) hx hb dX12_needed_31 (by decide) ?_
        refine k_Vi [0] [1, 2] 0 12 (wr := [(z 1, .inl (gI g, 461, .inl mD0)), (z 2, .inl (gI g, 7376, .inl (fun _ => 0)))]) hx hb hml hown hts hKW hP hD hS hA hl.1 (c_X12_finding_1 l g _ (z 0) (z 1) (z 2) (z 3) (z 4) (z 5) (z 6) (z 7) (z 8) (z 9) (z 10) (z 11) (z 12) (z 13) (z 14) (z 15) 0 0 0 0 0 ) rfl rfl rfl wd_10_15 wd_1_5 wd_10_12 wd_10_13 wd_10_14 yd_X12_finding ⟨Nat.le_of_ble_eq_true rfl, Nat.le_of_ble_eq_true rfl⟩ rfl rfl rfl rfl rfl (by decide) rfl (Nat.le_of_ble_eq_true rfl) dX12_needed_32 ⟨Nat.le_of_ble_eq_true rfl, Nat.le_of_ble_eq_true rfl⟩ (fun r_13 u_14 H locs hw_15 hP hD hS => ?_)
        have hP : va_P g.1 vwCl [(z 1, .inl (gI g, 461, .inl mD0)), (z 2, .inl (gI g, 7376, .inl (fun _ => 0)))] H := hP
        have hD : va_D A [(z 1, .inl (gI g, 461, .inl mD0)), (z 2, .inl (gI g, 7376, .inl (fun _ => 0)))] := hD
        have hw_15 : r_13 = (-100001) := hw_15
        subst hw_15
        exact k_iret () [] hx hb hr hlk hP hD hS (by clear hP hD hS hA hts hKW hl; unfold aNeeded; (repeat' split) <;> first | rfl | (exfalso; first | omega | (simp only [Int32.lt_iff_toInt_lt, Int32.le_iff_toInt_le, ← Int32.toInt_inj] at *; omega) | (simp only [Int32.lt_iff_toInt_lt, Int32.le_iff_toInt_le, ← Int32.toInt_inj] at *; simp at *; omega) | (simp only [Int32.lt_iff_toInt_lt, Int32.le_iff_toInt_le, ← Int32.toInt_inj] at *; simp at *; done) | (simp at *; omega) | (simp at *; done))) rfl rfl rfl (Nat.le_of_ble_eq_true rfl) (Nat.le_of_ble_eq_true rfl) dX12_needed_35
    · refine lv_if_eq (tgt := 30) hx hb dX12_needed_17 (by decide) (fun _ => ?_) (fun c => absurd c (by decide))
      refine lv_aload_n hx hb dX12_needed_30 rfl (lv_at hl 0 rfl) ?_
      refine lv_iconst (v := 1) hx hb dX12_needed_31 (by decide) ?_
      refine k_Vi [0] [1, 2] 0 12 (wr := [(z 1, .inl (gI g, 461, .inl mD0)), (z 2, .inl (gI g, 7376, .inl (fun _ => 0)))]) hx hb hml hown hts hKW hP hD hS hA hl.1 (c_X12_finding_1 l g _ (z 0) (z 1) (z 2) (z 3) (z 4) (z 5) (z 6) (z 7) (z 8) (z 9) (z 10) (z 11) (z 12) (z 13) (z 14) (z 15) 0 0 0 0 0 ) rfl rfl rfl wd_10_15 wd_1_5 wd_10_12 wd_10_13 wd_10_14 yd_X12_finding ⟨Nat.le_of_ble_eq_true rfl, Nat.le_of_ble_eq_true rfl⟩ rfl rfl rfl rfl rfl (by decide) rfl (Nat.le_of_ble_eq_true rfl) dX12_needed_32 ⟨Nat.le_of_ble_eq_true rfl, Nat.le_of_ble_eq_true rfl⟩ (fun r_16 u_17 H locs hw_18 hP hD hS => ?_)
      have hP : va_P g.1 vwCl [(z 1, .inl (gI g, 461, .inl mD0)), (z 2, .inl (gI g, 7376, .inl (fun _ => 0)))] H := hP
      have hD : va_D A [(z 1, .inl (gI g, 461, .inl mD0)), (z 2, .inl (gI g, 7376, .inl (fun _ => 0)))] := hD
      have hw_18 : r_16 = (-100001) := hw_18
      subst hw_18
      exact k_iret () [] hx hb hr hlk hP hD hS (by clear hP hD hS hA hts hKW hl; unfold aNeeded; (repeat' split) <;> first | rfl | (exfalso; first | omega | (simp only [Int32.lt_iff_toInt_lt, Int32.le_iff_toInt_le, ← Int32.toInt_inj] at *; omega) | (simp only [Int32.lt_iff_toInt_lt, Int32.le_iff_toInt_le, ← Int32.toInt_inj] at *; simp at *; omega) | (simp only [Int32.lt_iff_toInt_lt, Int32.le_iff_toInt_le, ← Int32.toInt_inj] at *; simp at *; done) | (simp at *; omega) | (simp at *; done))) rfl rfl rfl (Nat.le_of_ble_eq_true rfl) (Nat.le_of_ble_eq_true rfl) dX12_needed_35
  · refine lv_if_eq (tgt := 30) hx hb dX12_needed_7 (by decide) (fun _ => ?_) (fun c => absurd c (by decide))
    refine lv_aload_n hx hb dX12_needed_30 rfl (lv_at hl 0 rfl) ?_
    refine lv_iconst (v := 1) hx hb dX12_needed_31 (by decide) ?_
    refine k_Vi [0] [1, 2] 0 12 (wr := [(z 1, .inl (gI g, 461, .inl mD0)), (z 2, .inl (gI g, 7376, .inl (fun _ => 0)))]) hx hb hml hown hts hKW hP hD hS hA hl.1 (c_X12_finding_1 l g _ (z 0) (z 1) (z 2) (z 3) (z 4) (z 5) (z 6) (z 7) (z 8) (z 9) (z 10) (z 11) (z 12) (z 13) (z 14) (z 15) 0 0 0 0 0 ) rfl rfl rfl wd_10_15 wd_1_5 wd_10_12 wd_10_13 wd_10_14 yd_X12_finding ⟨Nat.le_of_ble_eq_true rfl, Nat.le_of_ble_eq_true rfl⟩ rfl rfl rfl rfl rfl (by decide) rfl (Nat.le_of_ble_eq_true rfl) dX12_needed_32 ⟨Nat.le_of_ble_eq_true rfl, Nat.le_of_ble_eq_true rfl⟩ (fun r_19 u_20 H locs hw_21 hP hD hS => ?_)
    have hP : va_P g.1 vwCl [(z 1, .inl (gI g, 461, .inl mD0)), (z 2, .inl (gI g, 7376, .inl (fun _ => 0)))] H := hP
    have hD : va_D A [(z 1, .inl (gI g, 461, .inl mD0)), (z 2, .inl (gI g, 7376, .inl (fun _ => 0)))] := hD
    have hw_21 : r_19 = (-100001) := hw_21
    subst hw_21
    exact k_iret () [] hx hb hr hlk hP hD hS (by clear hP hD hS hA hts hKW hl; unfold aNeeded; (repeat' split) <;> first | rfl | (exfalso; first | omega | (simp only [Int32.lt_iff_toInt_lt, Int32.le_iff_toInt_le, ← Int32.toInt_inj] at *; omega) | (simp only [Int32.lt_iff_toInt_lt, Int32.le_iff_toInt_le, ← Int32.toInt_inj] at *; simp at *; omega) | (simp only [Int32.lt_iff_toInt_lt, Int32.le_iff_toInt_le, ← Int32.toInt_inj] at *; simp at *; done) | (simp at *; omega) | (simp at *; done))) rfl rfl rfl (Nat.le_of_ble_eq_true rfl) (Nat.le_of_ble_eq_true rfl) dX12_needed_35
theorem dX12_longer_0 : decode cX12_longer 0 = .ok (.iload_n 1, 1) := by decide +kernel
theorem dX12_longer_1 : decode cX12_longer 1 = .ok (.iconst 1, 1) := by decide +kernel
theorem dX12_longer_2 : decode cX12_longer 2 = .ok (.bipush 60, 2) := by decide +kernel
theorem dX12_longer_4 : decode cX12_longer 4 = .ok (.invokestatic 64, 3) := by decide +kernel
theorem dX12_longer_7 : decode cX12_longer 7 = .ok (.ifCond .ne 9, 3) := by decide +kernel
theorem dX12_longer_16 : decode cX12_longer 16 = .ok (.aload_n 0, 1) := by decide +kernel
theorem dX12_longer_17 : decode cX12_longer 17 = .ok (.invokevirtual 72, 3) := by decide +kernel
theorem dX12_longer_20 : decode cX12_longer 20 = .ok (.aload_n 0, 1) := by decide +kernel
theorem dX12_longer_21 : decode cX12_longer 21 = .ok (.getfield 7, 3) := by decide +kernel
theorem dX12_longer_24 : decode cX12_longer 24 = .ok (.bipush 7, 2) := by decide +kernel
theorem dX12_longer_26 : decode cX12_longer 26 = .ok (.iaload, 1) := by decide +kernel
theorem dX12_longer_27 : decode cX12_longer 27 = .ok (.istore_n 2, 1) := by decide +kernel
theorem dX12_longer_28 : decode cX12_longer 28 = .ok (.aload_n 0, 1) := by decide +kernel
theorem dX12_longer_29 : decode cX12_longer 29 = .ok (.getfield 7, 3) := by decide +kernel
theorem dX12_longer_32 : decode cX12_longer 32 = .ok (.bipush 7, 2) := by decide +kernel
theorem dX12_longer_34 : decode cX12_longer 34 = .ok (.iload_n 1, 1) := by decide +kernel
theorem dX12_longer_35 : decode cX12_longer 35 = .ok (.iastore, 1) := by decide +kernel
theorem dX12_longer_36 : decode cX12_longer 36 = .ok (.iload_n 2, 1) := by decide +kernel
theorem dX12_longer_37 : decode cX12_longer 37 = .ok (.ireturn, 1) := by decide +kernel
theorem dX12_longer_10 : decode cX12_longer 10 = .ok (.aload_n 0, 1) := by decide +kernel
theorem dX12_longer_11 : decode cX12_longer 11 = .ok (.iconst 1, 1) := by decide +kernel
theorem dX12_longer_12 : decode cX12_longer 12 = .ok (.invokevirtual 68, 3) := by decide +kernel
theorem dX12_longer_15 : decode cX12_longer 15 = .ok (.ireturn, 1) := by decide +kernel
set_option maxHeartbeats 4000000 in
set_option maxRecDepth 100000 in
theorem c_X12_longer (l : Launch) (g : kG) (sz : Nat) (z : Nat → Nat) (v : Int32) : kMi l g yX12_longer cX12_longer 3 (some .int) 6 0 0 [.ref (z 0), .int v] sz [(z 0, .inr (12, [.ref (z 1), .ref (z 2), .int 0, .int 0, .ref (z 3), .ref (z 4), .ref (z 5), .ref (z 6), .int 0, .ref (z 7), .ref (z 8), .ref (z 9), .ref (z 10), .ref (z 11), .ref (z 12), .int 0, .ref (z 13), .ref (z 14), .int 0, .ref (z 15)])), (z 1, .inl (gI g, 461, .inl mD0)), (z 2, .inl (gI g, 7376, .inl (fun _ => 0)))] (fun (r : Int32) (u : Unit) => r = aR 1 60 36 v) (fun (u : Unit) => ([] : va_W)) := by
  refine kMi.of (by decide) (Nat.le_of_ble_eq_true rfl) (fun p e s m below meth c A hx hb hr hml hown hts hlk hnm hKW hP hD hS hA ls hl => ?_)
  have hown : s.vm.findClass RX12 = some m.cls := hown
  have hl : lv_has ls 3 [(0, .ref (z 0)), (1, .int v)] := hl
  refine lv_iload_n hx hb dX12_longer_0 rfl (lv_at hl 1 rfl) ?_
  refine lv_iconst (v := 1) hx hb dX12_longer_1 (by decide) ?_
  refine lv_bipush (v := 60) hx hb dX12_longer_2 (by decide) ?_
  refine k_Si [] [0, 1, 2] (wr := [(z 0, .inr (12, [.ref (z 1), .ref (z 2), .int 0, .int 0, .ref (z 3), .ref (z 4), .ref (z 5), .ref (z 6), .int 0, .ref (z 7), .ref (z 8), .ref (z 9), .ref (z 10), .ref (z 11), .ref (z 12), .int 0, .ref (z 13), .ref (z 14), .int 0, .ref (z 15)])), (z 1, .inl (gI g, 461, .inl mD0)), (z 2, .inl (gI g, 7376, .inl (fun _ => 0)))]) hx hb hml hown hts hKW hP hD hS hA hl.1 (c_X12_isIn l g _ v 1 60 ) wd_10_11 wd_1_5 wd_10_9 wd_10_10 yd_X12_isIn ⟨Nat.le_of_ble_eq_true rfl, Nat.le_of_ble_eq_true rfl⟩ rfl rfl rfl rfl rfl (by decide) rfl (Nat.le_of_ble_eq_true rfl) dX12_longer_4 ⟨Nat.le_of_ble_eq_true rfl, Nat.le_of_ble_eq_true rfl⟩ (fun r_1 u_2 H locs hw_3 hP hD hS => ?_)
  have hP : va_P g.1 vwCl [(z 0, .inr (12, [.ref (z 1), .ref (z 2), .int 0, .int 0, .ref (z 3), .ref (z 4), .ref (z 5), .ref (z 6), .int 0, .ref (z 7), .ref (z 8), .ref (z 9), .ref (z 10), .ref (z 11), .ref (z 12), .int 0, .ref (z 13), .ref (z 14), .int 0, .ref (z 15)])), (z 1, .inl (gI g, 461, .inl mD0)), (z 2, .inl (gI g, 7376, .inl (fun _ => 0)))] H := hP
  have hD : va_D A [(z 0, .inr (12, [.ref (z 1), .ref (z 2), .int 0, .int 0, .ref (z 3), .ref (z 4), .ref (z 5), .ref (z 6), .int 0, .ref (z 7), .ref (z 8), .ref (z 9), .ref (z 10), .ref (z 11), .ref (z 12), .int 0, .ref (z 13), .ref (z 14), .int 0, .ref (z 15)])), (z 1, .inl (gI g, 461, .inl mD0)), (z 2, .inl (gI g, 7376, .inl (fun _ => 0)))] := hD
  rcases (show (r_1 = 1 ∧ (Int32.toInt 1 ≤ Int32.toInt v ∧ Int32.toInt v ≤ Int32.toInt 60)) ∨ (r_1 = 0 ∧ ¬ (Int32.toInt 1 ≤ Int32.toInt v ∧ Int32.toInt v ≤ Int32.toInt 60)) from hw_3) with ⟨rfl, hw_3b⟩ | ⟨rfl, hw_3b⟩ <;> clear hw_3
  · refine lv_if_ne (tgt := 16) hx hb dX12_longer_7 (by decide) (fun _ => ?_) (fun c => absurd c (by decide))
    refine lv_aload_n hx hb dX12_longer_16 rfl (lv_at hl 0 rfl) ?_
    refine k_Vv [0, 1, 2] [] 0 12 (wr := []) hx hb hml hown hts hKW hP hD hS hA hl.1 (c_X12_keep0 l g _ z ) rfl rfl rfl wd_10_21 wd_1_5 wd_10_18 wd_10_19 wd_10_20 yd_X12_keep ⟨Nat.le_of_ble_eq_true rfl, Nat.le_of_ble_eq_true rfl⟩ rfl rfl rfl rfl rfl (by decide) rfl (Nat.le_of_ble_eq_true rfl) dX12_longer_17 ⟨Nat.le_of_ble_eq_true rfl, Nat.le_of_ble_eq_true rfl⟩ (fun u_5 H locs hw_6 hP hD hS => ?_)
    have hP : va_P g.1 vwCl [(z 0, .inr (12, [.ref (z 1), .ref (z 2), .int 1, .int 0, .ref (z 3), .ref (z 4), .ref (z 5), .ref (z 6), .int 0, .ref (z 7), .ref (z 8), .ref (z 9), .ref (z 10), .ref (z 11), .ref (z 12), .int 0, .ref (z 13), .ref (z 14), .int 0, .ref (z 15)])), (z 1, .inl (gI g, 461, .inl mD0))] H := hP
    have hD : va_D A [(z 0, .inr (12, [.ref (z 1), .ref (z 2), .int 1, .int 0, .ref (z 3), .ref (z 4), .ref (z 5), .ref (z 6), .int 0, .ref (z 7), .ref (z 8), .ref (z 9), .ref (z 10), .ref (z 11), .ref (z 12), .int 0, .ref (z 13), .ref (z 14), .int 0, .ref (z 15)])), (z 1, .inl (gI g, 461, .inl mD0))] := hD
    refine lv_aload_n hx hb dX12_longer_20 rfl (lv_at hl 0 rfl) ?_
    refine va_get (ci := 12) (C := RX12) (T := TX12) (N := 20) hx hb hts inlX12 hown hKW.1 hP 0 rfl rfl 0 (by decide) (hts _ wd_6_5) (fun _ h => h) rfl dX12_longer_21 ?_
    refine lv_bipush (v := 7) hx hb dX12_longer_24 (by decide) ?_
    refine va_iald hx hb hKW.1 hP 1 0 rfl rfl (show ¬ _ by decide) dX12_longer_26 ?_
    refine k_top (y := 36) rfl ?_
    refine lv_istore_n (lv' := [(2, .int 36), (0, .ref (z 0)), (1, .int v)]) hx hb dX12_longer_27 rfl hl (by decide) rfl (fun ls hl => ?_)
    refine lv_aload_n hx hb dX12_longer_28 rfl (lv_at hl 1 rfl) ?_
    refine va_get (ci := 12) (C := RX12) (T := TX12) (N := 20) hx hb hts inlX12 hown hKW.1 hP 0 rfl rfl 0 (by decide) (hts _ wd_6_5) (fun _ h => h) rfl dX12_longer_29 ?_
    refine lv_bipush (v := 7) hx hb dX12_longer_32 (by decide) ?_
    refine lv_iload_n hx hb dX12_longer_34 rfl (lv_at hl 2 rfl) ?_
    refine va_iast hx hb hKW.1 hP hD hS 1 0 rfl rfl (show ¬ _ by decide) dX12_longer_35 (fun H locs hP hD hS => ?_)
    have hP : va_P g.1 vwCl [(z 0, .inr (12, [.ref (z 1), .ref (z 2), .int 1, .int 0, .ref (z 3), .ref (z 4), .ref (z 5), .ref (z 6), .int 0, .ref (z 7), .ref (z 8), .ref (z 9), .ref (z 10), .ref (z 11), .ref (z 12), .int 0, .ref (z 13), .ref (z 14), .int 0, .ref (z 15)])), (z 1, .inl (gI g, 461, .inl (upd mD0 7 v)))] H := hP
    have hD : va_D A [(z 0, .inr (12, [.ref (z 1), .ref (z 2), .int 1, .int 0, .ref (z 3), .ref (z 4), .ref (z 5), .ref (z 6), .int 0, .ref (z 7), .ref (z 8), .ref (z 9), .ref (z 10), .ref (z 11), .ref (z 12), .int 0, .ref (z 13), .ref (z 14), .int 0, .ref (z 15)])), (z 1, .inl (gI g, 461, .inl (upd mD0 7 v)))] := hD
    obtain ⟨f_7, ef_7⟩ : ∃ zz_ : Nat → Int32, zz_ = upd mD0 7 v := ⟨_, rfl⟩
    rw [← ef_7] at hP hD
    refine lv_iload_n hx hb dX12_longer_36 rfl (lv_at hl 0 rfl) ?_
    exact k_iret () [] hx hb hr hlk hP hD hS (by clear hP hD hS hA hts hKW hl; unfold aR; (repeat' split) <;> first | rfl | (exfalso; first | omega | (simp only [Int32.lt_iff_toInt_lt, Int32.le_iff_toInt_le, ← Int32.toInt_inj] at *; omega) | (simp only [Int32.lt_iff_toInt_lt, Int32.le_iff_toInt_le, ← Int32.toInt_inj] at *; simp at *; omega) | (simp only [Int32.lt_iff_toInt_lt, Int32.le_iff_toInt_le, ← Int32.toInt_inj] at *; simp at *; done) | (simp at *; omega) | (simp at *; done))) rfl rfl rfl (Nat.le_of_ble_eq_true rfl) (Nat.le_of_ble_eq_true rfl) dX12_longer_37
  · refine lv_if_ne (tgt := 16) hx hb dX12_longer_7 (by decide) (fun c => absurd c (by decide)) (fun _ => ?_)
    refine lv_aload_n hx hb dX12_longer_10 rfl (lv_at hl 0 rfl) ?_
    refine lv_iconst (v := 1) hx hb dX12_longer_11 (by decide) ?_
    refine k_Vi [0] [1, 2] 0 12 (wr := [(z 1, .inl (gI g, 461, .inl mD0)), (z 2, .inl (gI g, 7376, .inl (fun _ => 0)))]) hx hb hml hown hts hKW hP hD hS hA hl.1 (c_X12_finding_1 l g _ (z 0) (z 1) (z 2) (z 3) (z 4) (z 5) (z 6) (z 7) (z 8) (z 9) (z 10) (z 11) (z 12) (z 13) (z 14) (z 15) 0 0 0 0 0 ) rfl rfl rfl wd_10_15 wd_1_5 wd_10_12 wd_10_13 wd_10_14 yd_X12_finding ⟨Nat.le_of_ble_eq_true rfl, Nat.le_of_ble_eq_true rfl⟩ rfl rfl rfl rfl rfl (by decide) rfl (Nat.le_of_ble_eq_true rfl) dX12_longer_12 ⟨Nat.le_of_ble_eq_true rfl, Nat.le_of_ble_eq_true rfl⟩ (fun r_8 u_9 H locs hw_10 hP hD hS => ?_)
    have hP : va_P g.1 vwCl [(z 1, .inl (gI g, 461, .inl mD0)), (z 2, .inl (gI g, 7376, .inl (fun _ => 0)))] H := hP
    have hD : va_D A [(z 1, .inl (gI g, 461, .inl mD0)), (z 2, .inl (gI g, 7376, .inl (fun _ => 0)))] := hD
    have hw_10 : r_8 = (-100001) := hw_10
    subst hw_10
    exact k_iret () [] hx hb hr hlk hP hD hS (by clear hP hD hS hA hts hKW hl; unfold aR; (repeat' split) <;> first | rfl | (exfalso; first | omega | (simp only [Int32.lt_iff_toInt_lt, Int32.le_iff_toInt_le, ← Int32.toInt_inj] at *; omega) | (simp only [Int32.lt_iff_toInt_lt, Int32.le_iff_toInt_le, ← Int32.toInt_inj] at *; simp at *; omega) | (simp only [Int32.lt_iff_toInt_lt, Int32.le_iff_toInt_le, ← Int32.toInt_inj] at *; simp at *; done) | (simp at *; omega) | (simp at *; done))) rfl rfl rfl (Nat.le_of_ble_eq_true rfl) (Nat.le_of_ble_eq_true rfl) dX12_longer_15
theorem dX12_findShifts_0 : decode cX12_findShifts 0 = .ok (.aload_n 0, 1) := by decide +kernel
theorem dX12_findShifts_1 : decode cX12_findShifts 1 = .ok (.iconst 0, 1) := by decide +kernel
theorem dX12_findShifts_2 : decode cX12_findShifts 2 = .ok (.putfield 158, 3) := by decide +kernel
theorem dX12_findShifts_5 : decode cX12_findShifts 5 = .ok (.iconst 0, 1) := by decide +kernel
theorem dX12_findShifts_6 : decode cX12_findShifts 6 = .ok (.istore_n 1, 1) := by decide +kernel
theorem dX12_findShifts_7 : decode cX12_findShifts 7 = .ok (.iload_n 1, 1) := by decide +kernel
theorem dX12_findShifts_8 : decode cX12_findShifts 8 = .ok (.bipush 60, 2) := by decide +kernel
theorem dX12_findShifts_10 : decode cX12_findShifts 10 = .ok (.if_icmp .ge 16, 3) := by decide +kernel
theorem dX12_findShifts_26 : decode cX12_findShifts 26 = .ok (.iconst 0, 1) := by decide +kernel
theorem dX12_findShifts_27 : decode cX12_findShifts 27 = .ok (.istore_n 1, 1) := by decide +kernel
theorem dX12_findShifts_13 : decode cX12_findShifts 13 = .ok (.aload_n 0, 1) := by decide +kernel
theorem dX12_findShifts_14 : decode cX12_findShifts 14 = .ok (.getfield 47, 3) := by decide +kernel
theorem dX12_findShifts_17 : decode cX12_findShifts 17 = .ok (.iload_n 1, 1) := by decide +kernel
theorem dX12_findShifts_18 : decode cX12_findShifts 18 = .ok (.iconst 0, 1) := by decide +kernel
theorem dX12_findShifts_19 : decode cX12_findShifts 19 = .ok (.iastore, 1) := by decide +kernel
theorem dX12_findShifts_20 : decode cX12_findShifts 20 = .ok (.iinc 1 1, 3) := by decide +kernel
theorem dX12_findShifts_23 : decode cX12_findShifts 23 = .ok (.goto (-16), 3) := by decide +kernel
theorem dX12_findShifts_28 : decode cX12_findShifts 28 = .ok (.iload_n 1, 1) := by decide +kernel
theorem dX12_findShifts_29 : decode cX12_findShifts 29 = .ok (.bipush 60, 2) := by decide +kernel
theorem dX12_findShifts_31 : decode cX12_findShifts 31 = .ok (.if_icmp .ge 85, 3) := by decide +kernel
theorem dX12_findShifts_116 : decode cX12_findShifts 116 = .ok (.return_, 1) := by decide +kernel
theorem dX12_findShifts_34 : decode cX12_findShifts 34 = .ok (.aload_n 0, 1) := by decide +kernel
theorem dX12_findShifts_35 : decode cX12_findShifts 35 = .ok (.getfield 47, 3) := by decide +kernel
theorem dX12_findShifts_38 : decode cX12_findShifts 38 = .ok (.iload_n 1, 1) := by decide +kernel
theorem dX12_findShifts_39 : decode cX12_findShifts 39 = .ok (.iaload, 1) := by decide +kernel
theorem dX12_findShifts_40 : decode cX12_findShifts 40 = .ok (.aload_n 0, 1) := by decide +kernel
theorem dX12_findShifts_41 : decode cX12_findShifts 41 = .ok (.getfield 7, 3) := by decide +kernel
theorem dX12_findShifts_44 : decode cX12_findShifts 44 = .ok (.sipush 147, 3) := by decide +kernel
theorem dX12_findShifts_47 : decode cX12_findShifts 47 = .ok (.iload_n 1, 1) := by decide +kernel
theorem dX12_findShifts_48 : decode cX12_findShifts 48 = .ok (.iadd, 1) := by decide +kernel
theorem dX12_findShifts_49 : decode cX12_findShifts 49 = .ok (.iaload, 1) := by decide +kernel
theorem dX12_findShifts_50 : decode cX12_findShifts 50 = .ok (.if_icmp .lt 9, 3) := by decide +kernel
theorem dX12_findShifts_53 : decode cX12_findShifts 53 = .ok (.iinc 1 1, 3) := by decide +kernel
theorem dX12_findShifts_56 : decode cX12_findShifts 56 = .ok (.goto (-28), 3) := by decide +kernel
set_option maxHeartbeats 4000000 in
set_option maxRecDepth 100000 in
theorem c_X12_findShifts0_l28 (l : Launch) (g : kG) (z : Nat → Nat) {p : Program} {e : Env} {s : State} {m : MethodId} {below : List Frame} {meth : Method} {c : Code} {A : Nat → Prop} (hx : p.tables.exec = Jvm.exec) (hb : c.code = cX12_findShifts) (hr : meth.sig.returnType = none) (hml : c.maxLocals = 3) (hown : s.vm.findClass RX12 = some m.cls) (hts : ∀ w ∈ wsL_law, w.before ([.ref (z 0)] : List Value).toArray s = true) (hlk : meth.locks = false) (hnm : meth.name = yX12_findShifts.name) (hKW : kKW g s) (hA : ∀ q, s.heap.size ≤ q → A q) :
    ∀ (n : Nat) (i : Nat) (f : Nat → Int32) (hi : i ≤ 60) (hfuel : 60 < i + n) (hf : ∀ j, j < 60 → f j = 0) (H : Heap) (locs : List Loc), va_P g.1 vwCl [(z 0, .inr (12, [.ref (z 1), .ref (z 2), .int 0, .int 0, .ref (z 3), .ref (z 4), .ref (z 5), .ref (z 6), .int 0, .ref (z 7), .ref (z 8), .ref (z 9), .ref (z 10), .ref (z 11), .ref (z 12), .int 0, .ref (z 13), .ref (z 14), .int 0, .ref (z 15)])), (z 1, .inl (gI g, 461, .inl mD0)), (z 13, .inl (gI g, 60, .inl f))] H → va_D A [(z 0, .inr (12, [.ref (z 1), .ref (z 2), .int 0, .int 0, .ref (z 3), .ref (z 4), .ref (z 5), .ref (z 6), .int 0, .ref (z 7), .ref (z 8), .ref (z 9), .ref (z 10), .ref (z 11), .ref (z 12), .int 0, .ref (z 13), .ref (z 14), .int 0, .ref (z 15)])), (z 1, .inl (gI g, 461, .inl mD0)), (z 13, .inl (gI g, 60, .inl f))] → va_S A s.heap H locs → ∀ (ls : Array Slot), lv_has ls 3 [(0, .ref (z 0)), (1, .int (nI i))] → W p l e (kR 2 0 0) s m ([.ref (z 0)] : List Value).toArray below meth c H locs 0 0 (MQ below (va_Qv (fun (u : Unit) => True) (fun u t => kPost g A ((fun (u : Unit) => ([(z 0, .inr (12, [.ref (z 1), .ref (z 2), .int 0, .int 0, .ref (z 3), .ref (z 4), .ref (z 5), .ref (z 6), .int 0, .ref (z 7), .ref (z 8), .ref (z 9), .ref (z 10), .ref (z 11), .ref (z 12), .int 0, .ref (z 13), .ref (z 14), .int 0, .ref (z 15)]))] : va_W)) u) t) A) ([.ref (z 0)] : List Value).toArray s 0 0 A) (F0 m 28 ls []) := by
  intro n
  induction n with
  | zero =>
    intro i f hi hfuel hf
    exact absurd hfuel (by omega)
  | succ n ih =>
    intro i f hi hfuel hf H locs hP hD hS ls hl
    refine lv_iload_n hx hb dX12_findShifts_28 rfl (lv_at hl 1 rfl) ?_
    refine lv_bipush (v := 60) hx hb dX12_findShifts_29 (by decide) ?_
    refine lv_icmp_ge (tgt := 116) hx hb dX12_findShifts_31 (by decide) (fun c_3 => ?_) (fun c_3 => ?_)
    · exact k_vret () [0] hx hb hr hlk hP hD hS trivial rfl rfl rfl (Nat.le_of_ble_eq_true rfl) (Nat.le_of_ble_eq_true rfl) dX12_findShifts_116
    · have hlt : i < 60 := k_lt (by decide) hi c_3
      refine lv_aload_n hx hb dX12_findShifts_34 rfl (lv_at hl 0 rfl) ?_
      refine va_get (ci := 12) (C := RX12) (T := TX12) (N := 20) hx hb hts inlX12 hown hKW.1 hP 0 rfl rfl 16 (by decide) (hts _ wd_6_18) (fun _ h => h) rfl dX12_findShifts_35 ?_
      refine lv_iload_n hx hb dX12_findShifts_38 rfl (lv_at hl 1 rfl) ?_
      refine va_iald hx hb hKW.1 hP 2 0 rfl rfl (vp_in_nI (by omega) (by decide)) dX12_findShifts_39 ?_
      refine k_top (y := 0) (by rw [nI_clamp (by omega)]; exact hf _ hlt) ?_
      refine lv_aload_n hx hb dX12_findShifts_40 rfl (lv_at hl 0 rfl) ?_
      refine va_get (ci := 12) (C := RX12) (T := TX12) (N := 20) hx hb hts inlX12 hown hKW.1 hP 0 rfl rfl 0 (by decide) (hts _ wd_6_5) (fun _ h => h) rfl dX12_findShifts_41 ?_
      refine lv_sipush (v := 147) hx hb dX12_findShifts_44 (by decide) ?_
      refine lv_iload_n hx hb dX12_findShifts_47 rfl (lv_at hl 1 rfl) ?_
      refine lv_iadd hx hb dX12_findShifts_48 ?_
      refine k_top (y := nI (i + 147)) (k_c 147 i) ?_
      refine va_iald hx hb hKW.1 hP 1 0 rfl rfl (vp_in_nI (by omega) (by decide)) dX12_findShifts_49 ?_
      refine k_top (y := 0) (by rw [nI_clamp (by omega)]; exact mD0_z (by omega)) ?_
      refine lv_icmp_lt (tgt := 59) hx hb dX12_findShifts_50 (by decide) (fun c => absurd c (by decide)) (fun _ => ?_)
      refine lv_iinc (v := nI (i + 1)) (lv' := [(1, .int (nI (i + 1))), (0, .ref (z 0))]) hx hb dX12_findShifts_53 hl (k := 1) rfl (by first | exact nI_1 _ | (simp [nI]; done)) (by decide) rfl (fun ls hl => ?_)
      refine lv_goto (tgt := 28) hx hb dX12_findShifts_56 (by decide) ?_
      exact ih (i + 1) f (by omega) (by omega) hf _ _ (hP.sub [0, 1, 2] rfl) (hD.sub [0, 1, 2] (by decide) rfl) hS ls (lv_sub hl [1, 0] rfl)
set_option maxHeartbeats 4000000 in
set_option maxRecDepth 100000 in
theorem c_X12_findShifts0_l7 (l : Launch) (g : kG) (z : Nat → Nat) {p : Program} {e : Env} {s : State} {m : MethodId} {below : List Frame} {meth : Method} {c : Code} {A : Nat → Prop} (hx : p.tables.exec = Jvm.exec) (hb : c.code = cX12_findShifts) (hr : meth.sig.returnType = none) (hml : c.maxLocals = 3) (hown : s.vm.findClass RX12 = some m.cls) (hts : ∀ w ∈ wsL_law, w.before ([.ref (z 0)] : List Value).toArray s = true) (hlk : meth.locks = false) (hnm : meth.name = yX12_findShifts.name) (hKW : kKW g s) (hA : ∀ q, s.heap.size ≤ q → A q) :
    ∀ (n : Nat) (i : Nat) (f : Nat → Int32) (hi : i ≤ 60) (hfuel : 60 < i + n) (hf : ∀ j, j < i → f j = 0) (H : Heap) (locs : List Loc), va_P g.1 vwCl [(z 0, .inr (12, [.ref (z 1), .ref (z 2), .int 0, .int 0, .ref (z 3), .ref (z 4), .ref (z 5), .ref (z 6), .int 0, .ref (z 7), .ref (z 8), .ref (z 9), .ref (z 10), .ref (z 11), .ref (z 12), .int 0, .ref (z 13), .ref (z 14), .int 0, .ref (z 15)])), (z 1, .inl (gI g, 461, .inl mD0)), (z 13, .inl (gI g, 60, .inl f))] H → va_D A [(z 0, .inr (12, [.ref (z 1), .ref (z 2), .int 0, .int 0, .ref (z 3), .ref (z 4), .ref (z 5), .ref (z 6), .int 0, .ref (z 7), .ref (z 8), .ref (z 9), .ref (z 10), .ref (z 11), .ref (z 12), .int 0, .ref (z 13), .ref (z 14), .int 0, .ref (z 15)])), (z 1, .inl (gI g, 461, .inl mD0)), (z 13, .inl (gI g, 60, .inl f))] → va_S A s.heap H locs → ∀ (ls : Array Slot), lv_has ls 3 [(0, .ref (z 0)), (1, .int (nI i))] → W p l e (kR 2 0 0) s m ([.ref (z 0)] : List Value).toArray below meth c H locs 0 0 (MQ below (va_Qv (fun (u : Unit) => True) (fun u t => kPost g A ((fun (u : Unit) => ([(z 0, .inr (12, [.ref (z 1), .ref (z 2), .int 0, .int 0, .ref (z 3), .ref (z 4), .ref (z 5), .ref (z 6), .int 0, .ref (z 7), .ref (z 8), .ref (z 9), .ref (z 10), .ref (z 11), .ref (z 12), .int 0, .ref (z 13), .ref (z 14), .int 0, .ref (z 15)]))] : va_W)) u) t) A) ([.ref (z 0)] : List Value).toArray s 0 0 A) (F0 m 7 ls []) := by
  intro n
  induction n with
  | zero =>
    intro i f hi hfuel hf
    exact absurd hfuel (by omega)
  | succ n ih =>
    intro i f hi hfuel hf H locs hP hD hS ls hl
    refine lv_iload_n hx hb dX12_findShifts_7 rfl (lv_at hl 1 rfl) ?_
    refine lv_bipush (v := 60) hx hb dX12_findShifts_8 (by decide) ?_
    refine lv_icmp_ge (tgt := 26) hx hb dX12_findShifts_10 (by decide) (fun c_1 => ?_) (fun c_1 => ?_)
    · refine lv_iconst (v := 0) hx hb dX12_findShifts_26 (by decide) ?_
      refine lv_istore_n (lv' := [(1, .int 0), (0, .ref (z 0))]) hx hb dX12_findShifts_27 rfl hl (by decide) rfl (fun ls hl => ?_)
      exact c_X12_findShifts0_l28 l g z  hx hb hr hml hown hts hlk hnm hKW hA 61 0 f (by omega) (by omega) (fun j hj => hf j (by have := k_ge (N := 60) (by decide) hi c_1; omega)) _ _ (hP.sub [0, 1, 2] rfl) (hD.sub [0, 1, 2] (by decide) rfl) hS ls (lv_sub hl [1, 0] rfl)
    · have hlt : i < 60 := k_lt (by decide) hi c_1
      refine lv_aload_n hx hb dX12_findShifts_13 rfl (lv_at hl 0 rfl) ?_
      refine va_get (ci := 12) (C := RX12) (T := TX12) (N := 20) hx hb hts inlX12 hown hKW.1 hP 0 rfl rfl 16 (by decide) (hts _ wd_6_18) (fun _ h => h) rfl dX12_findShifts_14 ?_
      refine lv_iload_n hx hb dX12_findShifts_17 rfl (lv_at hl 1 rfl) ?_
      refine lv_iconst (v := 0) hx hb dX12_findShifts_18 (by decide) ?_
      refine va_iast hx hb hKW.1 hP hD hS 2 0 rfl rfl (vp_in_nI (by omega) (by decide)) dX12_findShifts_19 (fun H locs hP hD hS => ?_)
      have hP : va_P g.1 vwCl [(z 0, .inr (12, [.ref (z 1), .ref (z 2), .int 0, .int 0, .ref (z 3), .ref (z 4), .ref (z 5), .ref (z 6), .int 0, .ref (z 7), .ref (z 8), .ref (z 9), .ref (z 10), .ref (z 11), .ref (z 12), .int 0, .ref (z 13), .ref (z 14), .int 0, .ref (z 15)])), (z 1, .inl (gI g, 461, .inl mD0)), (z 13, .inl (gI g, 60, .inl (upd f (nI i).toNatClampNeg 0)))] H := hP
      have hD : va_D A [(z 0, .inr (12, [.ref (z 1), .ref (z 2), .int 0, .int 0, .ref (z 3), .ref (z 4), .ref (z 5), .ref (z 6), .int 0, .ref (z 7), .ref (z 8), .ref (z 9), .ref (z 10), .ref (z 11), .ref (z 12), .int 0, .ref (z 13), .ref (z 14), .int 0, .ref (z 15)])), (z 1, .inl (gI g, 461, .inl mD0)), (z 13, .inl (gI g, 60, .inl (upd f (nI i).toNatClampNeg 0)))] := hD
      obtain ⟨f_2, ef_2⟩ : ∃ zz_ : Nat → Int32, zz_ = upd f (nI i).toNatClampNeg 0 := ⟨_, rfl⟩
      rw [← ef_2] at hP hD
      refine lv_iinc (v := nI (i + 1)) (lv' := [(1, .int (nI (i + 1))), (0, .ref (z 0))]) hx hb dX12_findShifts_20 hl (k := 1) rfl (by first | exact nI_1 _ | (simp [nI]; done)) (by decide) rfl (fun ls hl => ?_)
      refine lv_goto (tgt := 7) hx hb dX12_findShifts_23 (by decide) ?_
      exact ih (i + 1) f_2 (by omega) (by omega) (k_upd0 ef_2 (by omega) rfl (fun j hj hn => hf j (by omega))) _ _ (hP.sub [0, 1, 2] rfl) (hD.sub [0, 1, 2] (by decide) rfl) hS ls (lv_sub hl [1, 0] rfl)
set_option maxHeartbeats 4000000 in
set_option maxRecDepth 100000 in
theorem c_X12_findShifts0 (l : Launch) (g : kG) (sz : Nat) (z : Nat → Nat) : kMv l g yX12_findShifts cX12_findShifts 3 none 2 0 0 [.ref (z 0)] sz [(z 0, .inr (12, [.ref (z 1), .ref (z 2), .int 0, .int 0, .ref (z 3), .ref (z 4), .ref (z 5), .ref (z 6), .int 0, .ref (z 7), .ref (z 8), .ref (z 9), .ref (z 10), .ref (z 11), .ref (z 12), .int 0, .ref (z 13), .ref (z 14), .int 0, .ref (z 15)])), (z 1, .inl (gI g, 461, .inl mD0)), (z 13, .inl (gI g, 60, .inl (fun _ => 0)))] (fun (u : Unit) => True) (fun (u : Unit) => ([(z 0, .inr (12, [.ref (z 1), .ref (z 2), .int 0, .int 0, .ref (z 3), .ref (z 4), .ref (z 5), .ref (z 6), .int 0, .ref (z 7), .ref (z 8), .ref (z 9), .ref (z 10), .ref (z 11), .ref (z 12), .int 0, .ref (z 13), .ref (z 14), .int 0, .ref (z 15)]))] : va_W)) := by
  refine kMv.of (by decide) (Nat.le_of_ble_eq_true rfl) (fun p e s m below meth c A hx hb hr hml hown hts hlk hnm hKW hP hD hS hA ls hl => ?_)
  have hown : s.vm.findClass RX12 = some m.cls := hown
  have hl : lv_has ls 3 [(0, .ref (z 0))] := hl
  refine lv_aload_n hx hb dX12_findShifts_0 rfl (lv_at hl 0 rfl) ?_
  refine lv_iconst (v := 0) hx hb dX12_findShifts_1 (by decide) ?_
  refine va_put (ci := 12) (v := .int 0) (C := RX12) (T := TX12) (N := 20) hx hb hts inlX12 tyX12 tyX12_ok nmX12 hown hKW.1 hP hD hS 0 rfl rfl 18 (by decide) (hts _ wd_36_10) (fun _ h => h) rfl (tyX12_ok 18 (by decide)) rfl rfl (Nat.le_of_ble_eq_true rfl) dX12_findShifts_2 (fun H locs hP hD hS => ?_)
  have hP : va_P g.1 vwCl [(z 0, .inr (12, [.ref (z 1), .ref (z 2), .int 0, .int 0, .ref (z 3), .ref (z 4), .ref (z 5), .ref (z 6), .int 0, .ref (z 7), .ref (z 8), .ref (z 9), .ref (z 10), .ref (z 11), .ref (z 12), .int 0, .ref (z 13), .ref (z 14), .int 0, .ref (z 15)])), (z 1, .inl (gI g, 461, .inl mD0)), (z 13, .inl (gI g, 60, .inl (fun _ => 0)))] H := hP
  have hD : va_D A [(z 0, .inr (12, [.ref (z 1), .ref (z 2), .int 0, .int 0, .ref (z 3), .ref (z 4), .ref (z 5), .ref (z 6), .int 0, .ref (z 7), .ref (z 8), .ref (z 9), .ref (z 10), .ref (z 11), .ref (z 12), .int 0, .ref (z 13), .ref (z 14), .int 0, .ref (z 15)])), (z 1, .inl (gI g, 461, .inl mD0)), (z 13, .inl (gI g, 60, .inl (fun _ => 0)))] := hD
  refine lv_iconst (v := 0) hx hb dX12_findShifts_5 (by decide) ?_
  refine lv_istore_n (lv' := [(1, .int 0), (0, .ref (z 0))]) hx hb dX12_findShifts_6 rfl hl (by decide) rfl (fun ls hl => ?_)
  exact c_X12_findShifts0_l7 l g z  hx hb hr hml hown hts hlk hnm hKW hA 61 0 (fun _ => 0) (by omega) (by omega) (fun j hj => absurd hj (by omega)) _ _ (hP.sub [0, 1, 2] rfl) (hD.sub [0, 1, 2] (by decide) rfl) hS ls (lv_sub hl [1, 0] rfl)
theorem dX12_shifts_0 : decode cX12_shifts 0 = .ok (.iload_n 1, 1) := by decide +kernel
theorem dX12_shifts_1 : decode cX12_shifts 1 = .ok (.iconst (-1), 1) := by decide +kernel
theorem dX12_shifts_2 : decode cX12_shifts 2 = .ok (.if_icmp .ge 9, 3) := by decide +kernel
theorem dX12_shifts_11 : decode cX12_shifts 11 = .ok (.aload_n 0, 1) := by decide +kernel
theorem dX12_shifts_12 : decode cX12_shifts 12 = .ok (.invokevirtual 165, 3) := by decide +kernel
theorem dX12_shifts_15 : decode cX12_shifts 15 = .ok (.iload_n 1, 1) := by decide +kernel
theorem dX12_shifts_16 : decode cX12_shifts 16 = .ok (.ifCond .ge 10, 3) := by decide +kernel
theorem dX12_shifts_26 : decode cX12_shifts 26 = .ok (.iload_n 1, 1) := by decide +kernel
theorem dX12_shifts_27 : decode cX12_shifts 27 = .ok (.aload_n 0, 1) := by decide +kernel
theorem dX12_shifts_28 : decode cX12_shifts 28 = .ok (.getfield 158, 3) := by decide +kernel
theorem dX12_shifts_31 : decode cX12_shifts 31 = .ok (.if_icmp .ge 12, 3) := by decide +kernel
theorem dX12_shifts_43 : decode cX12_shifts 43 = .ok (.aload_n 0, 1) := by decide +kernel
theorem dX12_shifts_44 : decode cX12_shifts 44 = .ok (.bipush 6, 2) := by decide +kernel
theorem dX12_shifts_46 : decode cX12_shifts 46 = .ok (.invokevirtual 68, 3) := by decide +kernel
theorem dX12_shifts_49 : decode cX12_shifts 49 = .ok (.ireturn, 1) := by decide +kernel
theorem dX12_shifts_19 : decode cX12_shifts 19 = .ok (.aload_n 0, 1) := by decide +kernel
theorem dX12_shifts_20 : decode cX12_shifts 20 = .ok (.getfield 158, 3) := by decide +kernel
theorem dX12_shifts_23 : decode cX12_shifts 23 = .ok (.goto 26, 3) := by decide +kernel
theorem dX12_shifts_5 : decode cX12_shifts 5 = .ok (.aload_n 0, 1) := by decide +kernel
theorem dX12_shifts_6 : decode cX12_shifts 6 = .ok (.iconst 1, 1) := by decide +kernel
theorem dX12_shifts_7 : decode cX12_shifts 7 = .ok (.invokevirtual 68, 3) := by decide +kernel
theorem dX12_shifts_10 : decode cX12_shifts 10 = .ok (.ireturn, 1) := by decide +kernel
set_option maxHeartbeats 4000000 in
set_option maxRecDepth 100000 in
theorem c_X12_shifts (l : Launch) (g : kG) (sz : Nat) (z : Nat → Nat) (i : Int32) : kMi l g yX12_shifts cX12_shifts 2 (some .int) 6 0 0 [.ref (z 0), .int i] sz [(z 0, .inr (12, [.ref (z 1), .ref (z 2), .int 0, .int 0, .ref (z 3), .ref (z 4), .ref (z 5), .ref (z 6), .int 0, .ref (z 7), .ref (z 8), .ref (z 9), .ref (z 10), .ref (z 11), .ref (z 12), .int 0, .ref (z 13), .ref (z 14), .int 0, .ref (z 15)])), (z 1, .inl (gI g, 461, .inl mD0)), (z 13, .inl (gI g, 60, .inl (fun _ => 0)))] (fun (r : Int32) (u : Unit) => r = aShifts i) (fun (u : Unit) => ([] : va_W)) := by
  refine kMi.of (by decide) (Nat.le_of_ble_eq_true rfl) (fun p e s m below meth c A hx hb hr hml hown hts hlk hnm hKW hP hD hS hA ls hl => ?_)
  have hown : s.vm.findClass RX12 = some m.cls := hown
  have hl : lv_has ls 2 [(0, .ref (z 0)), (1, .int i)] := hl
  refine lv_iload_n hx hb dX12_shifts_0 rfl (lv_at hl 1 rfl) ?_
  refine lv_iconst (v := (-1)) hx hb dX12_shifts_1 (by decide) ?_
  refine lv_icmp_ge (tgt := 11) hx hb dX12_shifts_2 (by decide) (fun c_1 => ?_) (fun c_1 => ?_)
  · refine lv_aload_n hx hb dX12_shifts_11 rfl (lv_at hl 0 rfl) ?_
    refine k_Vv [0, 1, 2] [] 0 12 (wr := []) hx hb hml hown hts hKW hP hD hS hA hl.1 (c_X12_findShifts0 l g _ z ) rfl rfl rfl wd_36_14 wd_1_5 wd_36_11 wd_36_12 wd_36_13 yd_X12_findShifts ⟨Nat.le_of_ble_eq_true rfl, Nat.le_of_ble_eq_true rfl⟩ rfl rfl rfl rfl rfl (by decide) rfl (Nat.le_of_ble_eq_true rfl) dX12_shifts_12 ⟨Nat.le_of_ble_eq_true rfl, Nat.le_of_ble_eq_true rfl⟩ (fun u_3 H locs hw_4 hP hD hS => ?_)
    have hP : va_P g.1 vwCl [(z 0, .inr (12, [.ref (z 1), .ref (z 2), .int 0, .int 0, .ref (z 3), .ref (z 4), .ref (z 5), .ref (z 6), .int 0, .ref (z 7), .ref (z 8), .ref (z 9), .ref (z 10), .ref (z 11), .ref (z 12), .int 0, .ref (z 13), .ref (z 14), .int 0, .ref (z 15)]))] H := hP
    have hD : va_D A [(z 0, .inr (12, [.ref (z 1), .ref (z 2), .int 0, .int 0, .ref (z 3), .ref (z 4), .ref (z 5), .ref (z 6), .int 0, .ref (z 7), .ref (z 8), .ref (z 9), .ref (z 10), .ref (z 11), .ref (z 12), .int 0, .ref (z 13), .ref (z 14), .int 0, .ref (z 15)]))] := hD
    refine lv_iload_n hx hb dX12_shifts_15 rfl (lv_at hl 1 rfl) ?_
    refine lv_if_ge (tgt := 26) hx hb dX12_shifts_16 (by decide) (fun c_5 => ?_) (fun c_5 => ?_)
    · refine lv_iload_n hx hb dX12_shifts_26 rfl (lv_at hl 1 rfl) ?_
      refine lv_aload_n hx hb dX12_shifts_27 rfl (lv_at hl 0 rfl) ?_
      refine va_get (ci := 12) (C := RX12) (T := TX12) (N := 20) hx hb hts inlX12 hown hKW.1 hP 0 rfl rfl 18 (by decide) (hts _ wd_36_10) (fun _ h => h) rfl dX12_shifts_28 ?_
      refine lv_icmp_ge (tgt := 43) hx hb dX12_shifts_31 (by decide) (fun _ => ?_) (fun c => False.elim ((by clear hP hD hS hA hts hKW hl; first | omega | (simp only [Int32.lt_iff_toInt_lt, Int32.le_iff_toInt_le, ← Int32.toInt_inj] at *; omega) | (simp only [Int32.lt_iff_toInt_lt, Int32.le_iff_toInt_le, ← Int32.toInt_inj] at *; simp at *; omega) | (simp only [Int32.lt_iff_toInt_lt, Int32.le_iff_toInt_le, ← Int32.toInt_inj] at *; simp at *; done) | (simp at *; omega) | (simp at *; done))))
      refine lv_aload_n hx hb dX12_shifts_43 rfl (lv_at hl 0 rfl) ?_
      refine lv_bipush (v := 6) hx hb dX12_shifts_44 (by decide) ?_
      refine k_Vi [0] [] 0 12 (wr := []) hx hb hml hown hts hKW hP hD hS hA hl.1 (c_X12_finding_6 l g _ (z 0) (z 1) (z 2) (z 3) (z 4) (z 5) (z 6) (z 7) (z 8) (z 9) (z 10) (z 11) (z 12) (z 13) (z 14) (z 15) 0 0 0 0 0 ) rfl rfl rfl wd_10_15 wd_1_5 wd_10_12 wd_10_13 wd_10_14 yd_X12_finding ⟨Nat.le_of_ble_eq_true rfl, Nat.le_of_ble_eq_true rfl⟩ rfl rfl rfl rfl rfl (by decide) rfl (Nat.le_of_ble_eq_true rfl) dX12_shifts_46 ⟨Nat.le_of_ble_eq_true rfl, Nat.le_of_ble_eq_true rfl⟩ (fun r_6 u_7 H locs hw_8 hP hD hS => ?_)
      have hP : va_P g.1 vwCl [] H := hP
      have hD : va_D A [] := hD
      have hw_8 : r_6 = (-100006) := hw_8
      subst hw_8
      exact k_iret () [] hx hb hr hlk hP hD hS (by clear hP hD hS hA hts hKW hl; unfold aShifts; (repeat' split) <;> first | rfl | (exfalso; first | omega | (simp only [Int32.lt_iff_toInt_lt, Int32.le_iff_toInt_le, ← Int32.toInt_inj] at *; omega) | (simp only [Int32.lt_iff_toInt_lt, Int32.le_iff_toInt_le, ← Int32.toInt_inj] at *; simp at *; omega) | (simp only [Int32.lt_iff_toInt_lt, Int32.le_iff_toInt_le, ← Int32.toInt_inj] at *; simp at *; done) | (simp at *; omega) | (simp at *; done))) rfl rfl rfl (Nat.le_of_ble_eq_true rfl) (Nat.le_of_ble_eq_true rfl) dX12_shifts_49
    · refine lv_aload_n hx hb dX12_shifts_19 rfl (lv_at hl 0 rfl) ?_
      refine va_get (ci := 12) (C := RX12) (T := TX12) (N := 20) hx hb hts inlX12 hown hKW.1 hP 0 rfl rfl 18 (by decide) (hts _ wd_36_10) (fun _ h => h) rfl dX12_shifts_20 ?_
      refine lv_goto (tgt := 49) hx hb dX12_shifts_23 (by decide) ?_
      exact k_iret () [] hx hb hr hlk hP hD hS (by clear hP hD hS hA hts hKW hl; unfold aShifts; (repeat' split) <;> first | rfl | (exfalso; first | omega | (simp only [Int32.lt_iff_toInt_lt, Int32.le_iff_toInt_le, ← Int32.toInt_inj] at *; omega) | (simp only [Int32.lt_iff_toInt_lt, Int32.le_iff_toInt_le, ← Int32.toInt_inj] at *; simp at *; omega) | (simp only [Int32.lt_iff_toInt_lt, Int32.le_iff_toInt_le, ← Int32.toInt_inj] at *; simp at *; done) | (simp at *; omega) | (simp at *; done))) rfl rfl rfl (Nat.le_of_ble_eq_true rfl) (Nat.le_of_ble_eq_true rfl) dX12_shifts_49
  · refine lv_aload_n hx hb dX12_shifts_5 rfl (lv_at hl 0 rfl) ?_
    refine lv_iconst (v := 1) hx hb dX12_shifts_6 (by decide) ?_
    refine k_Vi [0] [1, 2] 0 12 (wr := [(z 1, .inl (gI g, 461, .inl mD0)), (z 13, .inl (gI g, 60, .inl (fun _ => 0)))]) hx hb hml hown hts hKW hP hD hS hA hl.1 (c_X12_finding_1 l g _ (z 0) (z 1) (z 2) (z 3) (z 4) (z 5) (z 6) (z 7) (z 8) (z 9) (z 10) (z 11) (z 12) (z 13) (z 14) (z 15) 0 0 0 0 0 ) rfl rfl rfl wd_10_15 wd_1_5 wd_10_12 wd_10_13 wd_10_14 yd_X12_finding ⟨Nat.le_of_ble_eq_true rfl, Nat.le_of_ble_eq_true rfl⟩ rfl rfl rfl rfl rfl (by decide) rfl (Nat.le_of_ble_eq_true rfl) dX12_shifts_7 ⟨Nat.le_of_ble_eq_true rfl, Nat.le_of_ble_eq_true rfl⟩ (fun r_9 u_10 H locs hw_11 hP hD hS => ?_)
    have hP : va_P g.1 vwCl [(z 1, .inl (gI g, 461, .inl mD0)), (z 13, .inl (gI g, 60, .inl (fun _ => 0)))] H := hP
    have hD : va_D A [(z 1, .inl (gI g, 461, .inl mD0)), (z 13, .inl (gI g, 60, .inl (fun _ => 0)))] := hD
    have hw_11 : r_9 = (-100001) := hw_11
    subst hw_11
    exact k_iret () [] hx hb hr hlk hP hD hS (by clear hP hD hS hA hts hKW hl; unfold aShifts; (repeat' split) <;> first | rfl | (exfalso; first | omega | (simp only [Int32.lt_iff_toInt_lt, Int32.le_iff_toInt_le, ← Int32.toInt_inj] at *; omega) | (simp only [Int32.lt_iff_toInt_lt, Int32.le_iff_toInt_le, ← Int32.toInt_inj] at *; simp at *; omega) | (simp only [Int32.lt_iff_toInt_lt, Int32.le_iff_toInt_le, ← Int32.toInt_inj] at *; simp at *; done) | (simp at *; omega) | (simp at *; done))) rfl rfl rfl (Nat.le_of_ble_eq_true rfl) (Nat.le_of_ble_eq_true rfl) dX12_shifts_10
theorem dX12_proves_0 : decode cX12_proves 0 = .ok (.iload_n 1, 1) := by decide +kernel
theorem dX12_proves_1 : decode cX12_proves 1 = .ok (.invokestatic 168, 3) := by decide +kernel
theorem dX12_proves_4 : decode cX12_proves 4 = .ok (.ifCond .ne 9, 3) := by decide +kernel
theorem dX12_proves_13 : decode cX12_proves 13 = .ok (.aload_n 0, 1) := by decide +kernel
theorem dX12_proves_14 : decode cX12_proves 14 = .ok (.getfield 16, 3) := by decide +kernel
theorem dX12_proves_17 : decode cX12_proves 17 = .ok (.iload_n 1, 1) := by decide +kernel
theorem dX12_proves_18 : decode cX12_proves 18 = .ok (.iaload, 1) := by decide +kernel
theorem dX12_proves_19 : decode cX12_proves 19 = .ok (.ifCond .ne 9, 3) := by decide +kernel
theorem dX12_proves_22 : decode cX12_proves 22 = .ok (.aload_n 0, 1) := by decide +kernel
theorem dX12_proves_23 : decode cX12_proves 23 = .ok (.iconst 2, 1) := by decide +kernel
theorem dX12_proves_24 : decode cX12_proves 24 = .ok (.invokevirtual 68, 3) := by decide +kernel
theorem dX12_proves_27 : decode cX12_proves 27 = .ok (.ireturn, 1) := by decide +kernel
theorem dX12_proves_7 : decode cX12_proves 7 = .ok (.aload_n 0, 1) := by decide +kernel
theorem dX12_proves_8 : decode cX12_proves 8 = .ok (.iconst 1, 1) := by decide +kernel
theorem dX12_proves_9 : decode cX12_proves 9 = .ok (.invokevirtual 68, 3) := by decide +kernel
theorem dX12_proves_12 : decode cX12_proves 12 = .ok (.ireturn, 1) := by decide +kernel
set_option maxHeartbeats 4000000 in
set_option maxRecDepth 100000 in
theorem c_X12_proves (l : Launch) (g : kG) (sz : Nat) (z : Nat → Nat) (s_ : Int32) : kMi l g yX12_proves cX12_proves 4 (some .int) 6 0 0 [.ref (z 0), .int s_] sz [(z 0, .inr (12, [.ref (z 1), .ref (z 2), .int 0, .int 0, .ref (z 3), .ref (z 4), .ref (z 5), .ref (z 6), .int 0, .ref (z 7), .ref (z 8), .ref (z 9), .ref (z 10), .ref (z 11), .ref (z 12), .int 0, .ref (z 13), .ref (z 14), .int 0, .ref (z 15)])), (z 3, .inl (gI g, 4, .inl (fun _ => 0)))] (fun (r : Int32) (u : Unit) => r = aR 0 3 (-100002) s_) (fun (u : Unit) => ([] : va_W)) := by
  refine kMi.of (by decide) (Nat.le_of_ble_eq_true rfl) (fun p e s m below meth c A hx hb hr hml hown hts hlk hnm hKW hP hD hS hA ls hl => ?_)
  have hown : s.vm.findClass RX12 = some m.cls := hown
  have hl : lv_has ls 4 [(0, .ref (z 0)), (1, .int s_)] := hl
  refine lv_iload_n hx hb dX12_proves_0 rfl (lv_at hl 1 rfl) ?_
  refine k_Si [] [0, 1] (wr := [(z 0, .inr (12, [.ref (z 1), .ref (z 2), .int 0, .int 0, .ref (z 3), .ref (z 4), .ref (z 5), .ref (z 6), .int 0, .ref (z 7), .ref (z 8), .ref (z 9), .ref (z 10), .ref (z 11), .ref (z 12), .int 0, .ref (z 13), .ref (z 14), .int 0, .ref (z 15)])), (z 3, .inl (gI g, 4, .inl (fun _ => 0)))]) hx hb hml hown hts hKW hP hD hS hA hl.1 (c_X12_isSheet l g _ s_ ) wd_38_14 wd_1_5 wd_38_12 wd_38_13 yd_X12_isSheet ⟨Nat.le_of_ble_eq_true rfl, Nat.le_of_ble_eq_true rfl⟩ rfl rfl rfl rfl rfl (by decide) rfl (Nat.le_of_ble_eq_true rfl) dX12_proves_1 ⟨Nat.le_of_ble_eq_true rfl, Nat.le_of_ble_eq_true rfl⟩ (fun r_1 u_2 H locs hw_3 hP hD hS => ?_)
  have hP : va_P g.1 vwCl [(z 0, .inr (12, [.ref (z 1), .ref (z 2), .int 0, .int 0, .ref (z 3), .ref (z 4), .ref (z 5), .ref (z 6), .int 0, .ref (z 7), .ref (z 8), .ref (z 9), .ref (z 10), .ref (z 11), .ref (z 12), .int 0, .ref (z 13), .ref (z 14), .int 0, .ref (z 15)])), (z 3, .inl (gI g, 4, .inl (fun _ => 0)))] H := hP
  have hD : va_D A [(z 0, .inr (12, [.ref (z 1), .ref (z 2), .int 0, .int 0, .ref (z 3), .ref (z 4), .ref (z 5), .ref (z 6), .int 0, .ref (z 7), .ref (z 8), .ref (z 9), .ref (z 10), .ref (z 11), .ref (z 12), .int 0, .ref (z 13), .ref (z 14), .int 0, .ref (z 15)])), (z 3, .inl (gI g, 4, .inl (fun _ => 0)))] := hD
  rcases (show (r_1 = 1 ∧ ((0 : Int) ≤ Int32.toInt s_ ∧ Int32.toInt s_ ≤ 3)) ∨ (r_1 = 0 ∧ ¬ ((0 : Int) ≤ Int32.toInt s_ ∧ Int32.toInt s_ ≤ 3)) from hw_3) with ⟨rfl, hw_3b⟩ | ⟨rfl, hw_3b⟩ <;> clear hw_3
  · refine lv_if_ne (tgt := 13) hx hb dX12_proves_4 (by decide) (fun _ => ?_) (fun c => absurd c (by decide))
    refine lv_aload_n hx hb dX12_proves_13 rfl (lv_at hl 0 rfl) ?_
    refine va_get (ci := 12) (C := RX12) (T := TX12) (N := 20) hx hb hts inlX12 hown hKW.1 hP 0 rfl rfl 4 (by decide) (hts _ wd_6_7) (fun _ h => h) rfl dX12_proves_14 ?_
    refine lv_iload_n hx hb dX12_proves_17 rfl (lv_at hl 1 rfl) ?_
    refine va_iald hx hb hKW.1 hP 1 0 rfl rfl (by clear hP hD hS hA hts hKW hl; rw [vp_in_iff]; constructor <;> (first | omega | (simp only [Int32.lt_iff_toInt_lt, Int32.le_iff_toInt_le, ← Int32.toInt_inj] at *; omega) | (simp only [Int32.lt_iff_toInt_lt, Int32.le_iff_toInt_le, ← Int32.toInt_inj] at *; simp at *; omega) | (simp only [Int32.lt_iff_toInt_lt, Int32.le_iff_toInt_le, ← Int32.toInt_inj] at *; simp at *; done) | (simp at *; omega) | (simp at *; done))) dX12_proves_18 ?_
    refine k_top (y := 0) rfl ?_
    refine lv_if_ne (tgt := 28) hx hb dX12_proves_19 (by decide) (fun c => absurd c (by decide)) (fun _ => ?_)
    refine lv_aload_n hx hb dX12_proves_22 rfl (lv_at hl 0 rfl) ?_
    refine lv_iconst (v := 2) hx hb dX12_proves_23 (by decide) ?_
    refine k_Vi [0] [1] 0 12 (wr := [(z 3, .inl (gI g, 4, .inl (fun _ => 0)))]) hx hb hml hown hts hKW hP hD hS hA hl.1 (c_X12_finding_2 l g _ (z 0) (z 1) (z 2) (z 3) (z 4) (z 5) (z 6) (z 7) (z 8) (z 9) (z 10) (z 11) (z 12) (z 13) (z 14) (z 15) 0 0 0 0 0 ) rfl rfl rfl wd_10_15 wd_1_5 wd_10_12 wd_10_13 wd_10_14 yd_X12_finding ⟨Nat.le_of_ble_eq_true rfl, Nat.le_of_ble_eq_true rfl⟩ rfl rfl rfl rfl rfl (by decide) rfl (Nat.le_of_ble_eq_true rfl) dX12_proves_24 ⟨Nat.le_of_ble_eq_true rfl, Nat.le_of_ble_eq_true rfl⟩ (fun r_4 u_5 H locs hw_6 hP hD hS => ?_)
    have hP : va_P g.1 vwCl [(z 3, .inl (gI g, 4, .inl (fun _ => 0)))] H := hP
    have hD : va_D A [(z 3, .inl (gI g, 4, .inl (fun _ => 0)))] := hD
    have hw_6 : r_4 = (-100002) := hw_6
    subst hw_6
    exact k_iret () [] hx hb hr hlk hP hD hS (by clear hP hD hS hA hts hKW hl; unfold aR; (repeat' split) <;> first | rfl | (exfalso; first | omega | (simp only [Int32.lt_iff_toInt_lt, Int32.le_iff_toInt_le, ← Int32.toInt_inj] at *; omega) | (simp only [Int32.lt_iff_toInt_lt, Int32.le_iff_toInt_le, ← Int32.toInt_inj] at *; simp at *; omega) | (simp only [Int32.lt_iff_toInt_lt, Int32.le_iff_toInt_le, ← Int32.toInt_inj] at *; simp at *; done) | (simp at *; omega) | (simp at *; done))) rfl rfl rfl (Nat.le_of_ble_eq_true rfl) (Nat.le_of_ble_eq_true rfl) dX12_proves_27
  · refine lv_if_ne (tgt := 13) hx hb dX12_proves_4 (by decide) (fun c => absurd c (by decide)) (fun _ => ?_)
    refine lv_aload_n hx hb dX12_proves_7 rfl (lv_at hl 0 rfl) ?_
    refine lv_iconst (v := 1) hx hb dX12_proves_8 (by decide) ?_
    refine k_Vi [0] [1] 0 12 (wr := [(z 3, .inl (gI g, 4, .inl (fun _ => 0)))]) hx hb hml hown hts hKW hP hD hS hA hl.1 (c_X12_finding_1 l g _ (z 0) (z 1) (z 2) (z 3) (z 4) (z 5) (z 6) (z 7) (z 8) (z 9) (z 10) (z 11) (z 12) (z 13) (z 14) (z 15) 0 0 0 0 0 ) rfl rfl rfl wd_10_15 wd_1_5 wd_10_12 wd_10_13 wd_10_14 yd_X12_finding ⟨Nat.le_of_ble_eq_true rfl, Nat.le_of_ble_eq_true rfl⟩ rfl rfl rfl rfl rfl (by decide) rfl (Nat.le_of_ble_eq_true rfl) dX12_proves_9 ⟨Nat.le_of_ble_eq_true rfl, Nat.le_of_ble_eq_true rfl⟩ (fun r_7 u_8 H locs hw_9 hP hD hS => ?_)
    have hP : va_P g.1 vwCl [(z 3, .inl (gI g, 4, .inl (fun _ => 0)))] H := hP
    have hD : va_D A [(z 3, .inl (gI g, 4, .inl (fun _ => 0)))] := hD
    have hw_9 : r_7 = (-100001) := hw_9
    subst hw_9
    exact k_iret () [] hx hb hr hlk hP hD hS (by clear hP hD hS hA hts hKW hl; unfold aR; (repeat' split) <;> first | rfl | (exfalso; first | omega | (simp only [Int32.lt_iff_toInt_lt, Int32.le_iff_toInt_le, ← Int32.toInt_inj] at *; omega) | (simp only [Int32.lt_iff_toInt_lt, Int32.le_iff_toInt_le, ← Int32.toInt_inj] at *; simp at *; omega) | (simp only [Int32.lt_iff_toInt_lt, Int32.le_iff_toInt_le, ← Int32.toInt_inj] at *; simp at *; done) | (simp at *; omega) | (simp at *; done))) rfl rfl rfl (Nat.le_of_ble_eq_true rfl) (Nat.le_of_ble_eq_true rfl) dX12_proves_12
theorem dX12_text_0 : decode cX12_text 0 = .ok (.iload_n 1, 1) := by decide +kernel
theorem dX12_text_1 : decode cX12_text 1 = .ok (.invokestatic 168, 3) := by decide +kernel
theorem dX12_text_4 : decode cX12_text 4 = .ok (.ifCond .ne 9, 3) := by decide +kernel
theorem dX12_text_13 : decode cX12_text 13 = .ok (.aload_n 0, 1) := by decide +kernel
theorem dX12_text_14 : decode cX12_text 14 = .ok (.getfield 16, 3) := by decide +kernel
theorem dX12_text_17 : decode cX12_text 17 = .ok (.iload_n 1, 1) := by decide +kernel
theorem dX12_text_18 : decode cX12_text 18 = .ok (.iaload, 1) := by decide +kernel
theorem dX12_text_19 : decode cX12_text 19 = .ok (.ifCond .ne 9, 3) := by decide +kernel
theorem dX12_text_22 : decode cX12_text 22 = .ok (.aload_n 0, 1) := by decide +kernel
theorem dX12_text_23 : decode cX12_text 23 = .ok (.iconst 2, 1) := by decide +kernel
theorem dX12_text_24 : decode cX12_text 24 = .ok (.invokevirtual 68, 3) := by decide +kernel
theorem dX12_text_27 : decode cX12_text 27 = .ok (.ireturn, 1) := by decide +kernel
theorem dX12_text_7 : decode cX12_text 7 = .ok (.aload_n 0, 1) := by decide +kernel
theorem dX12_text_8 : decode cX12_text 8 = .ok (.iconst 1, 1) := by decide +kernel
theorem dX12_text_9 : decode cX12_text 9 = .ok (.invokevirtual 68, 3) := by decide +kernel
theorem dX12_text_12 : decode cX12_text 12 = .ok (.ireturn, 1) := by decide +kernel
set_option maxHeartbeats 4000000 in
set_option maxRecDepth 100000 in
theorem c_X12_text (l : Launch) (g : kG) (sz : Nat) (z : Nat → Nat) (s_ : Int32) : kMi l g yX12_text cX12_text 4 (some .int) 6 0 0 [.ref (z 0), .int s_] sz [(z 0, .inr (12, [.ref (z 1), .ref (z 2), .int 0, .int 0, .ref (z 3), .ref (z 4), .ref (z 5), .ref (z 6), .int 0, .ref (z 7), .ref (z 8), .ref (z 9), .ref (z 10), .ref (z 11), .ref (z 12), .int 0, .ref (z 13), .ref (z 14), .int 0, .ref (z 15)])), (z 3, .inl (gI g, 4, .inl (fun _ => 0)))] (fun (r : Int32) (u : Unit) => r = aR 0 3 (-100002) s_) (fun (u : Unit) => ([] : va_W)) := by
  refine kMi.of (by decide) (Nat.le_of_ble_eq_true rfl) (fun p e s m below meth c A hx hb hr hml hown hts hlk hnm hKW hP hD hS hA ls hl => ?_)
  have hown : s.vm.findClass RX12 = some m.cls := hown
  have hl : lv_has ls 4 [(0, .ref (z 0)), (1, .int s_)] := hl
  refine lv_iload_n hx hb dX12_text_0 rfl (lv_at hl 1 rfl) ?_
  refine k_Si [] [0, 1] (wr := [(z 0, .inr (12, [.ref (z 1), .ref (z 2), .int 0, .int 0, .ref (z 3), .ref (z 4), .ref (z 5), .ref (z 6), .int 0, .ref (z 7), .ref (z 8), .ref (z 9), .ref (z 10), .ref (z 11), .ref (z 12), .int 0, .ref (z 13), .ref (z 14), .int 0, .ref (z 15)])), (z 3, .inl (gI g, 4, .inl (fun _ => 0)))]) hx hb hml hown hts hKW hP hD hS hA hl.1 (c_X12_isSheet l g _ s_ ) wd_38_14 wd_1_5 wd_38_12 wd_38_13 yd_X12_isSheet ⟨Nat.le_of_ble_eq_true rfl, Nat.le_of_ble_eq_true rfl⟩ rfl rfl rfl rfl rfl (by decide) rfl (Nat.le_of_ble_eq_true rfl) dX12_text_1 ⟨Nat.le_of_ble_eq_true rfl, Nat.le_of_ble_eq_true rfl⟩ (fun r_1 u_2 H locs hw_3 hP hD hS => ?_)
  have hP : va_P g.1 vwCl [(z 0, .inr (12, [.ref (z 1), .ref (z 2), .int 0, .int 0, .ref (z 3), .ref (z 4), .ref (z 5), .ref (z 6), .int 0, .ref (z 7), .ref (z 8), .ref (z 9), .ref (z 10), .ref (z 11), .ref (z 12), .int 0, .ref (z 13), .ref (z 14), .int 0, .ref (z 15)])), (z 3, .inl (gI g, 4, .inl (fun _ => 0)))] H := hP
  have hD : va_D A [(z 0, .inr (12, [.ref (z 1), .ref (z 2), .int 0, .int 0, .ref (z 3), .ref (z 4), .ref (z 5), .ref (z 6), .int 0, .ref (z 7), .ref (z 8), .ref (z 9), .ref (z 10), .ref (z 11), .ref (z 12), .int 0, .ref (z 13), .ref (z 14), .int 0, .ref (z 15)])), (z 3, .inl (gI g, 4, .inl (fun _ => 0)))] := hD
  rcases (show (r_1 = 1 ∧ ((0 : Int) ≤ Int32.toInt s_ ∧ Int32.toInt s_ ≤ 3)) ∨ (r_1 = 0 ∧ ¬ ((0 : Int) ≤ Int32.toInt s_ ∧ Int32.toInt s_ ≤ 3)) from hw_3) with ⟨rfl, hw_3b⟩ | ⟨rfl, hw_3b⟩ <;> clear hw_3
  · refine lv_if_ne (tgt := 13) hx hb dX12_text_4 (by decide) (fun _ => ?_) (fun c => absurd c (by decide))
    refine lv_aload_n hx hb dX12_text_13 rfl (lv_at hl 0 rfl) ?_
    refine va_get (ci := 12) (C := RX12) (T := TX12) (N := 20) hx hb hts inlX12 hown hKW.1 hP 0 rfl rfl 4 (by decide) (hts _ wd_6_7) (fun _ h => h) rfl dX12_text_14 ?_
    refine lv_iload_n hx hb dX12_text_17 rfl (lv_at hl 1 rfl) ?_
    refine va_iald hx hb hKW.1 hP 1 0 rfl rfl (by clear hP hD hS hA hts hKW hl; rw [vp_in_iff]; constructor <;> (first | omega | (simp only [Int32.lt_iff_toInt_lt, Int32.le_iff_toInt_le, ← Int32.toInt_inj] at *; omega) | (simp only [Int32.lt_iff_toInt_lt, Int32.le_iff_toInt_le, ← Int32.toInt_inj] at *; simp at *; omega) | (simp only [Int32.lt_iff_toInt_lt, Int32.le_iff_toInt_le, ← Int32.toInt_inj] at *; simp at *; done) | (simp at *; omega) | (simp at *; done))) dX12_text_18 ?_
    refine k_top (y := 0) rfl ?_
    refine lv_if_ne (tgt := 28) hx hb dX12_text_19 (by decide) (fun c => absurd c (by decide)) (fun _ => ?_)
    refine lv_aload_n hx hb dX12_text_22 rfl (lv_at hl 0 rfl) ?_
    refine lv_iconst (v := 2) hx hb dX12_text_23 (by decide) ?_
    refine k_Vi [0] [1] 0 12 (wr := [(z 3, .inl (gI g, 4, .inl (fun _ => 0)))]) hx hb hml hown hts hKW hP hD hS hA hl.1 (c_X12_finding_2 l g _ (z 0) (z 1) (z 2) (z 3) (z 4) (z 5) (z 6) (z 7) (z 8) (z 9) (z 10) (z 11) (z 12) (z 13) (z 14) (z 15) 0 0 0 0 0 ) rfl rfl rfl wd_10_15 wd_1_5 wd_10_12 wd_10_13 wd_10_14 yd_X12_finding ⟨Nat.le_of_ble_eq_true rfl, Nat.le_of_ble_eq_true rfl⟩ rfl rfl rfl rfl rfl (by decide) rfl (Nat.le_of_ble_eq_true rfl) dX12_text_24 ⟨Nat.le_of_ble_eq_true rfl, Nat.le_of_ble_eq_true rfl⟩ (fun r_4 u_5 H locs hw_6 hP hD hS => ?_)
    have hP : va_P g.1 vwCl [(z 3, .inl (gI g, 4, .inl (fun _ => 0)))] H := hP
    have hD : va_D A [(z 3, .inl (gI g, 4, .inl (fun _ => 0)))] := hD
    have hw_6 : r_4 = (-100002) := hw_6
    subst hw_6
    exact k_iret () [] hx hb hr hlk hP hD hS (by clear hP hD hS hA hts hKW hl; unfold aR; (repeat' split) <;> first | rfl | (exfalso; first | omega | (simp only [Int32.lt_iff_toInt_lt, Int32.le_iff_toInt_le, ← Int32.toInt_inj] at *; omega) | (simp only [Int32.lt_iff_toInt_lt, Int32.le_iff_toInt_le, ← Int32.toInt_inj] at *; simp at *; omega) | (simp only [Int32.lt_iff_toInt_lt, Int32.le_iff_toInt_le, ← Int32.toInt_inj] at *; simp at *; done) | (simp at *; omega) | (simp at *; done))) rfl rfl rfl (Nat.le_of_ble_eq_true rfl) (Nat.le_of_ble_eq_true rfl) dX12_text_27
  · refine lv_if_ne (tgt := 13) hx hb dX12_text_4 (by decide) (fun c => absurd c (by decide)) (fun _ => ?_)
    refine lv_aload_n hx hb dX12_text_7 rfl (lv_at hl 0 rfl) ?_
    refine lv_iconst (v := 1) hx hb dX12_text_8 (by decide) ?_
    refine k_Vi [0] [1] 0 12 (wr := [(z 3, .inl (gI g, 4, .inl (fun _ => 0)))]) hx hb hml hown hts hKW hP hD hS hA hl.1 (c_X12_finding_1 l g _ (z 0) (z 1) (z 2) (z 3) (z 4) (z 5) (z 6) (z 7) (z 8) (z 9) (z 10) (z 11) (z 12) (z 13) (z 14) (z 15) 0 0 0 0 0 ) rfl rfl rfl wd_10_15 wd_1_5 wd_10_12 wd_10_13 wd_10_14 yd_X12_finding ⟨Nat.le_of_ble_eq_true rfl, Nat.le_of_ble_eq_true rfl⟩ rfl rfl rfl rfl rfl (by decide) rfl (Nat.le_of_ble_eq_true rfl) dX12_text_9 ⟨Nat.le_of_ble_eq_true rfl, Nat.le_of_ble_eq_true rfl⟩ (fun r_7 u_8 H locs hw_9 hP hD hS => ?_)
    have hP : va_P g.1 vwCl [(z 3, .inl (gI g, 4, .inl (fun _ => 0)))] H := hP
    have hD : va_D A [(z 3, .inl (gI g, 4, .inl (fun _ => 0)))] := hD
    have hw_9 : r_7 = (-100001) := hw_9
    subst hw_9
    exact k_iret () [] hx hb hr hlk hP hD hS (by clear hP hD hS hA hts hKW hl; unfold aR; (repeat' split) <;> first | rfl | (exfalso; first | omega | (simp only [Int32.lt_iff_toInt_lt, Int32.le_iff_toInt_le, ← Int32.toInt_inj] at *; omega) | (simp only [Int32.lt_iff_toInt_lt, Int32.le_iff_toInt_le, ← Int32.toInt_inj] at *; simp at *; omega) | (simp only [Int32.lt_iff_toInt_lt, Int32.le_iff_toInt_le, ← Int32.toInt_inj] at *; simp at *; done) | (simp at *; omega) | (simp at *; done))) rfl rfl rfl (Nat.le_of_ble_eq_true rfl) (Nat.le_of_ble_eq_true rfl) dX12_text_12
theorem dX12_put_0 : decode cX12_put 0 = .ok (.iload_n 1, 1) := by decide +kernel
theorem dX12_put_1 : decode cX12_put 1 = .ok (.invokestatic 168, 3) := by decide +kernel
theorem dX12_put_4 : decode cX12_put 4 = .ok (.ifCond .ne 9, 3) := by decide +kernel
theorem dX12_put_13 : decode cX12_put 13 = .ok (.aload_n 0, 1) := by decide +kernel
theorem dX12_put_14 : decode cX12_put 14 = .ok (.getfield 16, 3) := by decide +kernel
theorem dX12_put_17 : decode cX12_put 17 = .ok (.iload_n 1, 1) := by decide +kernel
theorem dX12_put_18 : decode cX12_put 18 = .ok (.iaload, 1) := by decide +kernel
theorem dX12_put_19 : decode cX12_put 19 = .ok (.ifCond .ne 9, 3) := by decide +kernel
theorem dX12_put_22 : decode cX12_put 22 = .ok (.aload_n 0, 1) := by decide +kernel
theorem dX12_put_23 : decode cX12_put 23 = .ok (.iconst 2, 1) := by decide +kernel
theorem dX12_put_24 : decode cX12_put 24 = .ok (.invokevirtual 68, 3) := by decide +kernel
theorem dX12_put_27 : decode cX12_put 27 = .ok (.ireturn, 1) := by decide +kernel
theorem dX12_put_7 : decode cX12_put 7 = .ok (.aload_n 0, 1) := by decide +kernel
theorem dX12_put_8 : decode cX12_put 8 = .ok (.iconst 1, 1) := by decide +kernel
theorem dX12_put_9 : decode cX12_put 9 = .ok (.invokevirtual 68, 3) := by decide +kernel
theorem dX12_put_12 : decode cX12_put 12 = .ok (.ireturn, 1) := by decide +kernel
set_option maxHeartbeats 4000000 in
set_option maxRecDepth 100000 in
theorem c_X12_put (l : Launch) (g : kG) (sz : Nat) (z : Nat → Nat) (s_ : Int32) (i : Int32) (v : Int32) : kMi l g yX12_put cX12_put 4 (some .int) 6 0 0 [.ref (z 0), .int s_, .int i, .int v] sz [(z 0, .inr (12, [.ref (z 1), .ref (z 2), .int 0, .int 0, .ref (z 3), .ref (z 4), .ref (z 5), .ref (z 6), .int 0, .ref (z 7), .ref (z 8), .ref (z 9), .ref (z 10), .ref (z 11), .ref (z 12), .int 0, .ref (z 13), .ref (z 14), .int 0, .ref (z 15)])), (z 3, .inl (gI g, 4, .inl (fun _ => 0)))] (fun (r : Int32) (u : Unit) => r = aR 0 3 (-100002) s_) (fun (u : Unit) => ([] : va_W)) := by
  refine kMi.of (by decide) (Nat.le_of_ble_eq_true rfl) (fun p e s m below meth c A hx hb hr hml hown hts hlk hnm hKW hP hD hS hA ls hl => ?_)
  have hown : s.vm.findClass RX12 = some m.cls := hown
  have hl : lv_has ls 4 [(0, .ref (z 0)), (1, .int s_), (2, .int i), (3, .int v)] := hl
  refine lv_iload_n hx hb dX12_put_0 rfl (lv_at hl 1 rfl) ?_
  refine k_Si [] [0, 1] (wr := [(z 0, .inr (12, [.ref (z 1), .ref (z 2), .int 0, .int 0, .ref (z 3), .ref (z 4), .ref (z 5), .ref (z 6), .int 0, .ref (z 7), .ref (z 8), .ref (z 9), .ref (z 10), .ref (z 11), .ref (z 12), .int 0, .ref (z 13), .ref (z 14), .int 0, .ref (z 15)])), (z 3, .inl (gI g, 4, .inl (fun _ => 0)))]) hx hb hml hown hts hKW hP hD hS hA hl.1 (c_X12_isSheet l g _ s_ ) wd_38_14 wd_1_5 wd_38_12 wd_38_13 yd_X12_isSheet ⟨Nat.le_of_ble_eq_true rfl, Nat.le_of_ble_eq_true rfl⟩ rfl rfl rfl rfl rfl (by decide) rfl (Nat.le_of_ble_eq_true rfl) dX12_put_1 ⟨Nat.le_of_ble_eq_true rfl, Nat.le_of_ble_eq_true rfl⟩ (fun r_1 u_2 H locs hw_3 hP hD hS => ?_)
  have hP : va_P g.1 vwCl [(z 0, .inr (12, [.ref (z 1), .ref (z 2), .int 0, .int 0, .ref (z 3), .ref (z 4), .ref (z 5), .ref (z 6), .int 0, .ref (z 7), .ref (z 8), .ref (z 9), .ref (z 10), .ref (z 11), .ref (z 12), .int 0, .ref (z 13), .ref (z 14), .int 0, .ref (z 15)])), (z 3, .inl (gI g, 4, .inl (fun _ => 0)))] H := hP
  have hD : va_D A [(z 0, .inr (12, [.ref (z 1), .ref (z 2), .int 0, .int 0, .ref (z 3), .ref (z 4), .ref (z 5), .ref (z 6), .int 0, .ref (z 7), .ref (z 8), .ref (z 9), .ref (z 10), .ref (z 11), .ref (z 12), .int 0, .ref (z 13), .ref (z 14), .int 0, .ref (z 15)])), (z 3, .inl (gI g, 4, .inl (fun _ => 0)))] := hD
  rcases (show (r_1 = 1 ∧ ((0 : Int) ≤ Int32.toInt s_ ∧ Int32.toInt s_ ≤ 3)) ∨ (r_1 = 0 ∧ ¬ ((0 : Int) ≤ Int32.toInt s_ ∧ Int32.toInt s_ ≤ 3)) from hw_3) with ⟨rfl, hw_3b⟩ | ⟨rfl, hw_3b⟩ <;> clear hw_3
  · refine lv_if_ne (tgt := 13) hx hb dX12_put_4 (by decide) (fun _ => ?_) (fun c => absurd c (by decide))
    refine lv_aload_n hx hb dX12_put_13 rfl (lv_at hl 0 rfl) ?_
    refine va_get (ci := 12) (C := RX12) (T := TX12) (N := 20) hx hb hts inlX12 hown hKW.1 hP 0 rfl rfl 4 (by decide) (hts _ wd_6_7) (fun _ h => h) rfl dX12_put_14 ?_
    refine lv_iload_n hx hb dX12_put_17 rfl (lv_at hl 1 rfl) ?_
    refine va_iald hx hb hKW.1 hP 1 0 rfl rfl (by clear hP hD hS hA hts hKW hl; rw [vp_in_iff]; constructor <;> (first | omega | (simp only [Int32.lt_iff_toInt_lt, Int32.le_iff_toInt_le, ← Int32.toInt_inj] at *; omega) | (simp only [Int32.lt_iff_toInt_lt, Int32.le_iff_toInt_le, ← Int32.toInt_inj] at *; simp at *; omega) | (simp only [Int32.lt_iff_toInt_lt, Int32.le_iff_toInt_le, ← Int32.toInt_inj] at *; simp at *; done) | (simp at *; omega) | (simp at *; done))) dX12_put_18 ?_
    refine k_top (y := 0) rfl ?_
    refine lv_if_ne (tgt := 28) hx hb dX12_put_19 (by decide) (fun c => absurd c (by decide)) (fun _ => ?_)
    refine lv_aload_n hx hb dX12_put_22 rfl (lv_at hl 0 rfl) ?_
    refine lv_iconst (v := 2) hx hb dX12_put_23 (by decide) ?_
    refine k_Vi [0] [1] 0 12 (wr := [(z 3, .inl (gI g, 4, .inl (fun _ => 0)))]) hx hb hml hown hts hKW hP hD hS hA hl.1 (c_X12_finding_2 l g _ (z 0) (z 1) (z 2) (z 3) (z 4) (z 5) (z 6) (z 7) (z 8) (z 9) (z 10) (z 11) (z 12) (z 13) (z 14) (z 15) 0 0 0 0 0 ) rfl rfl rfl wd_10_15 wd_1_5 wd_10_12 wd_10_13 wd_10_14 yd_X12_finding ⟨Nat.le_of_ble_eq_true rfl, Nat.le_of_ble_eq_true rfl⟩ rfl rfl rfl rfl rfl (by decide) rfl (Nat.le_of_ble_eq_true rfl) dX12_put_24 ⟨Nat.le_of_ble_eq_true rfl, Nat.le_of_ble_eq_true rfl⟩ (fun r_4 u_5 H locs hw_6 hP hD hS => ?_)
    have hP : va_P g.1 vwCl [(z 3, .inl (gI g, 4, .inl (fun _ => 0)))] H := hP
    have hD : va_D A [(z 3, .inl (gI g, 4, .inl (fun _ => 0)))] := hD
    have hw_6 : r_4 = (-100002) := hw_6
    subst hw_6
    exact k_iret () [] hx hb hr hlk hP hD hS (by clear hP hD hS hA hts hKW hl; unfold aR; (repeat' split) <;> first | rfl | (exfalso; first | omega | (simp only [Int32.lt_iff_toInt_lt, Int32.le_iff_toInt_le, ← Int32.toInt_inj] at *; omega) | (simp only [Int32.lt_iff_toInt_lt, Int32.le_iff_toInt_le, ← Int32.toInt_inj] at *; simp at *; omega) | (simp only [Int32.lt_iff_toInt_lt, Int32.le_iff_toInt_le, ← Int32.toInt_inj] at *; simp at *; done) | (simp at *; omega) | (simp at *; done))) rfl rfl rfl (Nat.le_of_ble_eq_true rfl) (Nat.le_of_ble_eq_true rfl) dX12_put_27
  · refine lv_if_ne (tgt := 13) hx hb dX12_put_4 (by decide) (fun c => absurd c (by decide)) (fun _ => ?_)
    refine lv_aload_n hx hb dX12_put_7 rfl (lv_at hl 0 rfl) ?_
    refine lv_iconst (v := 1) hx hb dX12_put_8 (by decide) ?_
    refine k_Vi [0] [1] 0 12 (wr := [(z 3, .inl (gI g, 4, .inl (fun _ => 0)))]) hx hb hml hown hts hKW hP hD hS hA hl.1 (c_X12_finding_1 l g _ (z 0) (z 1) (z 2) (z 3) (z 4) (z 5) (z 6) (z 7) (z 8) (z 9) (z 10) (z 11) (z 12) (z 13) (z 14) (z 15) 0 0 0 0 0 ) rfl rfl rfl wd_10_15 wd_1_5 wd_10_12 wd_10_13 wd_10_14 yd_X12_finding ⟨Nat.le_of_ble_eq_true rfl, Nat.le_of_ble_eq_true rfl⟩ rfl rfl rfl rfl rfl (by decide) rfl (Nat.le_of_ble_eq_true rfl) dX12_put_9 ⟨Nat.le_of_ble_eq_true rfl, Nat.le_of_ble_eq_true rfl⟩ (fun r_7 u_8 H locs hw_9 hP hD hS => ?_)
    have hP : va_P g.1 vwCl [(z 3, .inl (gI g, 4, .inl (fun _ => 0)))] H := hP
    have hD : va_D A [(z 3, .inl (gI g, 4, .inl (fun _ => 0)))] := hD
    have hw_9 : r_7 = (-100001) := hw_9
    subst hw_9
    exact k_iret () [] hx hb hr hlk hP hD hS (by clear hP hD hS hA hts hKW hl; unfold aR; (repeat' split) <;> first | rfl | (exfalso; first | omega | (simp only [Int32.lt_iff_toInt_lt, Int32.le_iff_toInt_le, ← Int32.toInt_inj] at *; omega) | (simp only [Int32.lt_iff_toInt_lt, Int32.le_iff_toInt_le, ← Int32.toInt_inj] at *; simp at *; omega) | (simp only [Int32.lt_iff_toInt_lt, Int32.le_iff_toInt_le, ← Int32.toInt_inj] at *; simp at *; done) | (simp at *; omega) | (simp at *; done))) rfl rfl rfl (Nat.le_of_ble_eq_true rfl) (Nat.le_of_ble_eq_true rfl) dX12_put_12
theorem dX12_waits_0 : decode cX12_waits 0 = .ok (.aload_n 0, 1) := by decide +kernel
theorem dX12_waits_1 : decode cX12_waits 1 = .ok (.iload_n 1, 1) := by decide +kernel
theorem dX12_waits_2 : decode cX12_waits 2 = .ok (.invokevirtual 82, 3) := by decide +kernel
theorem dX12_waits_5 : decode cX12_waits 5 = .ok (.ifCond .ne 9, 3) := by decide +kernel
theorem dX12_waits_8 : decode cX12_waits 8 = .ok (.aload_n 0, 1) := by decide +kernel
theorem dX12_waits_9 : decode cX12_waits 9 = .ok (.iconst 1, 1) := by decide +kernel
theorem dX12_waits_10 : decode cX12_waits 10 = .ok (.invokevirtual 68, 3) := by decide +kernel
theorem dX12_waits_13 : decode cX12_waits 13 = .ok (.ireturn, 1) := by decide +kernel
set_option maxHeartbeats 4000000 in
set_option maxRecDepth 100000 in
theorem c_X12_waits (l : Launch) (g : kG) (sz : Nat) (z : Nat → Nat) (ch : Int32) : kMi l g yX12_waits cX12_waits 2 (some .int) 6 0 0 [.ref (z 0), .int ch] sz [(z 0, .inr (12, [.ref (z 1), .ref (z 2), .int 0, .int 0, .ref (z 3), .ref (z 4), .ref (z 5), .ref (z 6), .int 0, .ref (z 7), .ref (z 8), .ref (z 9), .ref (z 10), .ref (z 11), .ref (z 12), .int 0, .ref (z 13), .ref (z 14), .int 0, .ref (z 15)])), (z 1, .inl (gI g, 461, .inl mD0))] (fun (r : Int32) (u : Unit) => r = (-100001)) (fun (u : Unit) => ([] : va_W)) := by
  refine kMi.of (by decide) (Nat.le_of_ble_eq_true rfl) (fun p e s m below meth c A hx hb hr hml hown hts hlk hnm hKW hP hD hS hA ls hl => ?_)
  have hown : s.vm.findClass RX12 = some m.cls := hown
  have hl : lv_has ls 2 [(0, .ref (z 0)), (1, .int ch)] := hl
  refine lv_aload_n hx hb dX12_waits_0 rfl (lv_at hl 0 rfl) ?_
  refine lv_iload_n hx hb dX12_waits_1 rfl (lv_at hl 1 rfl) ?_
  refine k_Vi [0, 1] [] 0 12 (wr := []) hx hb hml hown hts hKW hP hD hS hA hl.1 (c_X12_isChild0 l g _ (z 0) (z 1) (z 2) (z 3) (z 4) (z 5) (z 6) (z 7) (z 8) (z 9) (z 10) (z 11) (z 12) (z 13) (z 14) (z 15) 0 0 0 0 0 ch ) rfl rfl rfl wd_13_19 wd_1_5 wd_13_16 wd_13_17 wd_13_18 yd_X12_isChild ⟨Nat.le_of_ble_eq_true rfl, Nat.le_of_ble_eq_true rfl⟩ rfl rfl rfl rfl rfl (by decide) rfl (Nat.le_of_ble_eq_true rfl) dX12_waits_2 ⟨Nat.le_of_ble_eq_true rfl, Nat.le_of_ble_eq_true rfl⟩ (fun r_1 u_2 H locs hw_3 hP hD hS => ?_)
  have hP : va_P g.1 vwCl [(z 0, .inr (12, [.ref (z 1), .ref (z 2), .int 0, .int 0, .ref (z 3), .ref (z 4), .ref (z 5), .ref (z 6), .int 0, .ref (z 7), .ref (z 8), .ref (z 9), .ref (z 10), .ref (z 11), .ref (z 12), .int 0, .ref (z 13), .ref (z 14), .int 0, .ref (z 15)])), (z 1, .inl (gI g, 461, .inl mD0))] H := hP
  have hD : va_D A [(z 0, .inr (12, [.ref (z 1), .ref (z 2), .int 0, .int 0, .ref (z 3), .ref (z 4), .ref (z 5), .ref (z 6), .int 0, .ref (z 7), .ref (z 8), .ref (z 9), .ref (z 10), .ref (z 11), .ref (z 12), .int 0, .ref (z 13), .ref (z 14), .int 0, .ref (z 15)])), (z 1, .inl (gI g, 461, .inl mD0))] := hD
  have hw_3 : r_1 = 0 := hw_3
  subst hw_3
  refine lv_if_ne (tgt := 14) hx hb dX12_waits_5 (by decide) (fun c => absurd c (by decide)) (fun _ => ?_)
  refine lv_aload_n hx hb dX12_waits_8 rfl (lv_at hl 0 rfl) ?_
  refine lv_iconst (v := 1) hx hb dX12_waits_9 (by decide) ?_
  refine k_Vi [0] [1] 0 12 (wr := [(z 1, .inl (gI g, 461, .inl mD0))]) hx hb hml hown hts hKW hP hD hS hA hl.1 (c_X12_finding_1 l g _ (z 0) (z 1) (z 2) (z 3) (z 4) (z 5) (z 6) (z 7) (z 8) (z 9) (z 10) (z 11) (z 12) (z 13) (z 14) (z 15) 0 0 0 0 0 ) rfl rfl rfl wd_10_15 wd_1_5 wd_10_12 wd_10_13 wd_10_14 yd_X12_finding ⟨Nat.le_of_ble_eq_true rfl, Nat.le_of_ble_eq_true rfl⟩ rfl rfl rfl rfl rfl (by decide) rfl (Nat.le_of_ble_eq_true rfl) dX12_waits_10 ⟨Nat.le_of_ble_eq_true rfl, Nat.le_of_ble_eq_true rfl⟩ (fun r_4 u_5 H locs hw_6 hP hD hS => ?_)
  have hP : va_P g.1 vwCl [(z 1, .inl (gI g, 461, .inl mD0))] H := hP
  have hD : va_D A [(z 1, .inl (gI g, 461, .inl mD0))] := hD
  have hw_6 : r_4 = (-100001) := hw_6
  subst hw_6
  exact k_iret () [] hx hb hr hlk hP hD hS rfl rfl rfl rfl (Nat.le_of_ble_eq_true rfl) (Nat.le_of_ble_eq_true rfl) dX12_waits_13
theorem dX12_list_0 : decode cX12_list 0 = .ok (.iload_n 1, 1) := by decide +kernel
theorem dX12_list_1 : decode cX12_list 1 = .ok (.ifCond .ge 9, 3) := by decide +kernel
theorem dX12_list_10 : decode cX12_list 10 = .ok (.iload_n 1, 1) := by decide +kernel
theorem dX12_list_11 : decode cX12_list 11 = .ok (.istore_n 2, 1) := by decide +kernel
theorem dX12_list_12 : decode cX12_list 12 = .ok (.iconst 0, 1) := by decide +kernel
theorem dX12_list_13 : decode cX12_list 13 = .ok (.istore_n 3, 1) := by decide +kernel
theorem dX12_list_14 : decode cX12_list 14 = .ok (.iload_n 3, 1) := by decide +kernel
theorem dX12_list_15 : decode cX12_list 15 = .ok (.iconst 2, 1) := by decide +kernel
theorem dX12_list_16 : decode cX12_list 16 = .ok (.if_icmp .ge 76, 3) := by decide +kernel
theorem dX12_list_19 : decode cX12_list 19 = .ok (.iconst 0, 1) := by decide +kernel
theorem dX12_list_20 : decode cX12_list 20 = .ok (.istore 4, 2) := by decide +kernel
theorem dX12_list_22 : decode cX12_list 22 = .ok (.iload 4, 2) := by decide +kernel
theorem dX12_list_24 : decode cX12_list 24 = .ok (.aload_n 0, 1) := by decide +kernel
theorem dX12_list_25 : decode cX12_list 25 = .ok (.getfield 7, 3) := by decide +kernel
theorem dX12_list_28 : decode cX12_list 28 = .ok (.bipush 8, 2) := by decide +kernel
theorem dX12_list_30 : decode cX12_list 30 = .ok (.iaload, 1) := by decide +kernel
theorem dX12_list_31 : decode cX12_list 31 = .ok (.if_icmp .ge 55, 3) := by decide +kernel
theorem dX12_list_86 : decode cX12_list 86 = .ok (.iinc 3 1, 3) := by decide +kernel
theorem dX12_list_89 : decode cX12_list 89 = .ok (.goto (-75), 3) := by decide +kernel
theorem dX12_list_92 : decode cX12_list 92 = .ok (.aload_n 0, 1) := by decide +kernel
theorem dX12_list_93 : decode cX12_list 93 = .ok (.bipush 6, 2) := by decide +kernel
theorem dX12_list_95 : decode cX12_list 95 = .ok (.invokevirtual 68, 3) := by decide +kernel
theorem dX12_list_98 : decode cX12_list 98 = .ok (.ireturn, 1) := by decide +kernel
theorem dX12_list_4 : decode cX12_list 4 = .ok (.aload_n 0, 1) := by decide +kernel
theorem dX12_list_5 : decode cX12_list 5 = .ok (.iconst 1, 1) := by decide +kernel
theorem dX12_list_6 : decode cX12_list 6 = .ok (.invokevirtual 68, 3) := by decide +kernel
theorem dX12_list_9 : decode cX12_list 9 = .ok (.ireturn, 1) := by decide +kernel
set_option maxHeartbeats 4000000 in
set_option maxRecDepth 100000 in
theorem c_X12_list (l : Launch) (g : kG) (sz : Nat) (z : Nat → Nat) (i : Int32) : kMi l g yX12_list cX12_list 5 (some .int) 6 0 0 [.ref (z 0), .int i] sz [(z 0, .inr (12, [.ref (z 1), .ref (z 2), .int 0, .int 0, .ref (z 3), .ref (z 4), .ref (z 5), .ref (z 6), .int 0, .ref (z 7), .ref (z 8), .ref (z 9), .ref (z 10), .ref (z 11), .ref (z 12), .int 0, .ref (z 13), .ref (z 14), .int 0, .ref (z 15)])), (z 1, .inl (gI g, 461, .inl mD0))] (fun (r : Int32) (u : Unit) => r = aList i) (fun (u : Unit) => ([] : va_W)) := by
  refine kMi.of (by decide) (Nat.le_of_ble_eq_true rfl) (fun p e s m below meth c A hx hb hr hml hown hts hlk hnm hKW hP hD hS hA ls hl => ?_)
  have hown : s.vm.findClass RX12 = some m.cls := hown
  have hl : lv_has ls 5 [(0, .ref (z 0)), (1, .int i)] := hl
  refine lv_iload_n hx hb dX12_list_0 rfl (lv_at hl 1 rfl) ?_
  refine lv_if_ge (tgt := 10) hx hb dX12_list_1 (by decide) (fun c_1 => ?_) (fun c_1 => ?_)
  · refine lv_iload_n hx hb dX12_list_10 rfl (lv_at hl 1 rfl) ?_
    refine lv_istore_n (lv' := [(2, .int i), (0, .ref (z 0)), (1, .int i)]) hx hb dX12_list_11 rfl hl (by decide) rfl (fun ls hl => ?_)
    refine lv_iconst (v := 0) hx hb dX12_list_12 (by decide) ?_
    refine lv_istore_n (lv' := [(3, .int 0), (2, .int i), (0, .ref (z 0)), (1, .int i)]) hx hb dX12_list_13 rfl hl (by decide) rfl (fun ls hl => ?_)
    refine lv_iload_n hx hb dX12_list_14 rfl (lv_at hl 0 rfl) ?_
    refine lv_iconst (v := 2) hx hb dX12_list_15 (by decide) ?_
    refine lv_icmp_ge (tgt := 92) hx hb dX12_list_16 (by decide) (fun c => absurd c (by decide)) (fun _ => ?_)
    refine lv_iconst (v := 0) hx hb dX12_list_19 (by decide) ?_
    refine lv_istore (lv' := [(4, .int 0), (3, .int 0), (2, .int i), (0, .ref (z 0)), (1, .int i)]) hx hb dX12_list_20 hl (by decide) rfl (fun ls hl => ?_)
    refine lv_iload hx hb dX12_list_22 (lv_at hl 0 rfl) ?_
    refine lv_aload_n hx hb dX12_list_24 rfl (lv_at hl 3 rfl) ?_
    refine va_get (ci := 12) (C := RX12) (T := TX12) (N := 20) hx hb hts inlX12 hown hKW.1 hP 0 rfl rfl 0 (by decide) (hts _ wd_6_5) (fun _ h => h) rfl dX12_list_25 ?_
    refine lv_bipush (v := 8) hx hb dX12_list_28 (by decide) ?_
    refine va_iald hx hb hKW.1 hP 1 0 rfl rfl (show ¬ _ by decide) dX12_list_30 ?_
    refine k_top (y := 0) rfl ?_
    refine lv_icmp_ge (tgt := 86) hx hb dX12_list_31 (by decide) (fun _ => ?_) (fun c => absurd c (by decide))
    refine lv_iinc (v := 1) (lv' := [(3, .int 1), (4, .int 0), (2, .int i), (0, .ref (z 0)), (1, .int i)]) hx hb dX12_list_86 hl (k := 1) rfl (by decide) (by decide) rfl (fun ls hl => ?_)
    refine lv_goto (tgt := 14) hx hb dX12_list_89 (by decide) ?_
    refine lv_iload_n hx hb dX12_list_14 rfl (lv_at hl 0 rfl) ?_
    refine lv_iconst (v := 2) hx hb dX12_list_15 (by decide) ?_
    refine lv_icmp_ge (tgt := 92) hx hb dX12_list_16 (by decide) (fun c => absurd c (by decide)) (fun _ => ?_)
    refine lv_iconst (v := 0) hx hb dX12_list_19 (by decide) ?_
    refine lv_istore (lv' := [(4, .int 0), (3, .int 1), (2, .int i), (0, .ref (z 0)), (1, .int i)]) hx hb dX12_list_20 hl (by decide) rfl (fun ls hl => ?_)
    refine lv_iload hx hb dX12_list_22 (lv_at hl 0 rfl) ?_
    refine lv_aload_n hx hb dX12_list_24 rfl (lv_at hl 3 rfl) ?_
    refine va_get (ci := 12) (C := RX12) (T := TX12) (N := 20) hx hb hts inlX12 hown hKW.1 hP 0 rfl rfl 0 (by decide) (hts _ wd_6_5) (fun _ h => h) rfl dX12_list_25 ?_
    refine lv_bipush (v := 8) hx hb dX12_list_28 (by decide) ?_
    refine va_iald hx hb hKW.1 hP 1 0 rfl rfl (show ¬ _ by decide) dX12_list_30 ?_
    refine k_top (y := 0) rfl ?_
    refine lv_icmp_ge (tgt := 86) hx hb dX12_list_31 (by decide) (fun _ => ?_) (fun c => absurd c (by decide))
    refine lv_iinc (v := 2) (lv' := [(3, .int 2), (4, .int 0), (2, .int i), (0, .ref (z 0)), (1, .int i)]) hx hb dX12_list_86 hl (k := 1) rfl (by decide) (by decide) rfl (fun ls hl => ?_)
    refine lv_goto (tgt := 14) hx hb dX12_list_89 (by decide) ?_
    refine lv_iload_n hx hb dX12_list_14 rfl (lv_at hl 0 rfl) ?_
    refine lv_iconst (v := 2) hx hb dX12_list_15 (by decide) ?_
    refine lv_icmp_ge (tgt := 92) hx hb dX12_list_16 (by decide) (fun _ => ?_) (fun c => absurd c (by decide))
    refine lv_aload_n hx hb dX12_list_92 rfl (lv_at hl 3 rfl) ?_
    refine lv_bipush (v := 6) hx hb dX12_list_93 (by decide) ?_
    refine k_Vi [0] [1] 0 12 (wr := [(z 1, .inl (gI g, 461, .inl mD0))]) hx hb hml hown hts hKW hP hD hS hA hl.1 (c_X12_finding_6 l g _ (z 0) (z 1) (z 2) (z 3) (z 4) (z 5) (z 6) (z 7) (z 8) (z 9) (z 10) (z 11) (z 12) (z 13) (z 14) (z 15) 0 0 0 0 0 ) rfl rfl rfl wd_10_15 wd_1_5 wd_10_12 wd_10_13 wd_10_14 yd_X12_finding ⟨Nat.le_of_ble_eq_true rfl, Nat.le_of_ble_eq_true rfl⟩ rfl rfl rfl rfl rfl (by decide) rfl (Nat.le_of_ble_eq_true rfl) dX12_list_95 ⟨Nat.le_of_ble_eq_true rfl, Nat.le_of_ble_eq_true rfl⟩ (fun r_2 u_3 H locs hw_4 hP hD hS => ?_)
    have hP : va_P g.1 vwCl [(z 1, .inl (gI g, 461, .inl mD0))] H := hP
    have hD : va_D A [(z 1, .inl (gI g, 461, .inl mD0))] := hD
    have hw_4 : r_2 = (-100006) := hw_4
    subst hw_4
    exact k_iret () [] hx hb hr hlk hP hD hS (by clear hP hD hS hA hts hKW hl; unfold aList; (repeat' split) <;> first | rfl | (exfalso; first | omega | (simp only [Int32.lt_iff_toInt_lt, Int32.le_iff_toInt_le, ← Int32.toInt_inj] at *; omega) | (simp only [Int32.lt_iff_toInt_lt, Int32.le_iff_toInt_le, ← Int32.toInt_inj] at *; simp at *; omega) | (simp only [Int32.lt_iff_toInt_lt, Int32.le_iff_toInt_le, ← Int32.toInt_inj] at *; simp at *; done) | (simp at *; omega) | (simp at *; done))) rfl rfl rfl (Nat.le_of_ble_eq_true rfl) (Nat.le_of_ble_eq_true rfl) dX12_list_98
  · refine lv_aload_n hx hb dX12_list_4 rfl (lv_at hl 0 rfl) ?_
    refine lv_iconst (v := 1) hx hb dX12_list_5 (by decide) ?_
    refine k_Vi [0] [1] 0 12 (wr := [(z 1, .inl (gI g, 461, .inl mD0))]) hx hb hml hown hts hKW hP hD hS hA hl.1 (c_X12_finding_1 l g _ (z 0) (z 1) (z 2) (z 3) (z 4) (z 5) (z 6) (z 7) (z 8) (z 9) (z 10) (z 11) (z 12) (z 13) (z 14) (z 15) 0 0 0 0 0 ) rfl rfl rfl wd_10_15 wd_1_5 wd_10_12 wd_10_13 wd_10_14 yd_X12_finding ⟨Nat.le_of_ble_eq_true rfl, Nat.le_of_ble_eq_true rfl⟩ rfl rfl rfl rfl rfl (by decide) rfl (Nat.le_of_ble_eq_true rfl) dX12_list_6 ⟨Nat.le_of_ble_eq_true rfl, Nat.le_of_ble_eq_true rfl⟩ (fun r_5 u_6 H locs hw_7 hP hD hS => ?_)
    have hP : va_P g.1 vwCl [(z 1, .inl (gI g, 461, .inl mD0))] H := hP
    have hD : va_D A [(z 1, .inl (gI g, 461, .inl mD0))] := hD
    have hw_7 : r_5 = (-100001) := hw_7
    subst hw_7
    exact k_iret () [] hx hb hr hlk hP hD hS (by clear hP hD hS hA hts hKW hl; unfold aList; (repeat' split) <;> first | rfl | (exfalso; first | omega | (simp only [Int32.lt_iff_toInt_lt, Int32.le_iff_toInt_le, ← Int32.toInt_inj] at *; omega) | (simp only [Int32.lt_iff_toInt_lt, Int32.le_iff_toInt_le, ← Int32.toInt_inj] at *; simp at *; omega) | (simp only [Int32.lt_iff_toInt_lt, Int32.le_iff_toInt_le, ← Int32.toInt_inj] at *; simp at *; done) | (simp at *; omega) | (simp at *; done))) rfl rfl rfl (Nat.le_of_ble_eq_true rfl) (Nat.le_of_ble_eq_true rfl) dX12_list_9
theorem dX12_earliest_0 : decode cX12_earliest 0 = .ok (.aload_n 0, 1) := by decide +kernel
theorem dX12_earliest_1 : decode cX12_earliest 1 = .ok (.iload_n 1, 1) := by decide +kernel
theorem dX12_earliest_2 : decode cX12_earliest 2 = .ok (.invokevirtual 82, 3) := by decide +kernel
theorem dX12_earliest_5 : decode cX12_earliest 5 = .ok (.ifCond .ne 9, 3) := by decide +kernel
theorem dX12_earliest_8 : decode cX12_earliest 8 = .ok (.aload_n 0, 1) := by decide +kernel
theorem dX12_earliest_9 : decode cX12_earliest 9 = .ok (.iconst 1, 1) := by decide +kernel
theorem dX12_earliest_10 : decode cX12_earliest 10 = .ok (.invokevirtual 68, 3) := by decide +kernel
theorem dX12_earliest_13 : decode cX12_earliest 13 = .ok (.ireturn, 1) := by decide +kernel
set_option maxHeartbeats 4000000 in
set_option maxRecDepth 100000 in
theorem c_X12_earliest (l : Launch) (g : kG) (sz : Nat) (z : Nat → Nat) (ch : Int32) : kMi l g yX12_earliest cX12_earliest 3 (some .int) 6 0 0 [.ref (z 0), .int ch] sz [(z 0, .inr (12, [.ref (z 1), .ref (z 2), .int 0, .int 0, .ref (z 3), .ref (z 4), .ref (z 5), .ref (z 6), .int 0, .ref (z 7), .ref (z 8), .ref (z 9), .ref (z 10), .ref (z 11), .ref (z 12), .int 0, .ref (z 13), .ref (z 14), .int 0, .ref (z 15)])), (z 1, .inl (gI g, 461, .inl mD0))] (fun (r : Int32) (u : Unit) => r = (-100001)) (fun (u : Unit) => ([] : va_W)) := by
  refine kMi.of (by decide) (Nat.le_of_ble_eq_true rfl) (fun p e s m below meth c A hx hb hr hml hown hts hlk hnm hKW hP hD hS hA ls hl => ?_)
  have hown : s.vm.findClass RX12 = some m.cls := hown
  have hl : lv_has ls 3 [(0, .ref (z 0)), (1, .int ch)] := hl
  refine lv_aload_n hx hb dX12_earliest_0 rfl (lv_at hl 0 rfl) ?_
  refine lv_iload_n hx hb dX12_earliest_1 rfl (lv_at hl 1 rfl) ?_
  refine k_Vi [0, 1] [] 0 12 (wr := []) hx hb hml hown hts hKW hP hD hS hA hl.1 (c_X12_isChild0 l g _ (z 0) (z 1) (z 2) (z 3) (z 4) (z 5) (z 6) (z 7) (z 8) (z 9) (z 10) (z 11) (z 12) (z 13) (z 14) (z 15) 0 0 0 0 0 ch ) rfl rfl rfl wd_13_19 wd_1_5 wd_13_16 wd_13_17 wd_13_18 yd_X12_isChild ⟨Nat.le_of_ble_eq_true rfl, Nat.le_of_ble_eq_true rfl⟩ rfl rfl rfl rfl rfl (by decide) rfl (Nat.le_of_ble_eq_true rfl) dX12_earliest_2 ⟨Nat.le_of_ble_eq_true rfl, Nat.le_of_ble_eq_true rfl⟩ (fun r_1 u_2 H locs hw_3 hP hD hS => ?_)
  have hP : va_P g.1 vwCl [(z 0, .inr (12, [.ref (z 1), .ref (z 2), .int 0, .int 0, .ref (z 3), .ref (z 4), .ref (z 5), .ref (z 6), .int 0, .ref (z 7), .ref (z 8), .ref (z 9), .ref (z 10), .ref (z 11), .ref (z 12), .int 0, .ref (z 13), .ref (z 14), .int 0, .ref (z 15)])), (z 1, .inl (gI g, 461, .inl mD0))] H := hP
  have hD : va_D A [(z 0, .inr (12, [.ref (z 1), .ref (z 2), .int 0, .int 0, .ref (z 3), .ref (z 4), .ref (z 5), .ref (z 6), .int 0, .ref (z 7), .ref (z 8), .ref (z 9), .ref (z 10), .ref (z 11), .ref (z 12), .int 0, .ref (z 13), .ref (z 14), .int 0, .ref (z 15)])), (z 1, .inl (gI g, 461, .inl mD0))] := hD
  have hw_3 : r_1 = 0 := hw_3
  subst hw_3
  refine lv_if_ne (tgt := 14) hx hb dX12_earliest_5 (by decide) (fun c => absurd c (by decide)) (fun _ => ?_)
  refine lv_aload_n hx hb dX12_earliest_8 rfl (lv_at hl 0 rfl) ?_
  refine lv_iconst (v := 1) hx hb dX12_earliest_9 (by decide) ?_
  refine k_Vi [0] [1] 0 12 (wr := [(z 1, .inl (gI g, 461, .inl mD0))]) hx hb hml hown hts hKW hP hD hS hA hl.1 (c_X12_finding_1 l g _ (z 0) (z 1) (z 2) (z 3) (z 4) (z 5) (z 6) (z 7) (z 8) (z 9) (z 10) (z 11) (z 12) (z 13) (z 14) (z 15) 0 0 0 0 0 ) rfl rfl rfl wd_10_15 wd_1_5 wd_10_12 wd_10_13 wd_10_14 yd_X12_finding ⟨Nat.le_of_ble_eq_true rfl, Nat.le_of_ble_eq_true rfl⟩ rfl rfl rfl rfl rfl (by decide) rfl (Nat.le_of_ble_eq_true rfl) dX12_earliest_10 ⟨Nat.le_of_ble_eq_true rfl, Nat.le_of_ble_eq_true rfl⟩ (fun r_4 u_5 H locs hw_6 hP hD hS => ?_)
  have hP : va_P g.1 vwCl [(z 1, .inl (gI g, 461, .inl mD0))] H := hP
  have hD : va_D A [(z 1, .inl (gI g, 461, .inl mD0))] := hD
  have hw_6 : r_4 = (-100001) := hw_6
  subst hw_6
  exact k_iret () [] hx hb hr hlk hP hD hS rfl rfl rfl rfl (Nat.le_of_ble_eq_true rfl) (Nat.le_of_ble_eq_true rfl) dX12_earliest_13
theorem dX12_admit_0 : decode cX12_admit 0 = .ok (.aload_n 0, 1) := by decide +kernel
theorem dX12_admit_1 : decode cX12_admit 1 = .ok (.iload_n 1, 1) := by decide +kernel
theorem dX12_admit_2 : decode cX12_admit 2 = .ok (.invokevirtual 82, 3) := by decide +kernel
theorem dX12_admit_5 : decode cX12_admit 5 = .ok (.ifCond .ne 9, 3) := by decide +kernel
theorem dX12_admit_8 : decode cX12_admit 8 = .ok (.aload_n 0, 1) := by decide +kernel
theorem dX12_admit_9 : decode cX12_admit 9 = .ok (.iconst 1, 1) := by decide +kernel
theorem dX12_admit_10 : decode cX12_admit 10 = .ok (.invokevirtual 68, 3) := by decide +kernel
theorem dX12_admit_13 : decode cX12_admit 13 = .ok (.ireturn, 1) := by decide +kernel
set_option maxHeartbeats 4000000 in
set_option maxRecDepth 100000 in
theorem c_X12_admit (l : Launch) (g : kG) (sz : Nat) (z : Nat → Nat) (ch : Int32) : kMi l g yX12_admit cX12_admit 5 (some .int) 6 0 0 [.ref (z 0), .int ch] sz [(z 0, .inr (12, [.ref (z 1), .ref (z 2), .int 0, .int 0, .ref (z 3), .ref (z 4), .ref (z 5), .ref (z 6), .int 0, .ref (z 7), .ref (z 8), .ref (z 9), .ref (z 10), .ref (z 11), .ref (z 12), .int 0, .ref (z 13), .ref (z 14), .int 0, .ref (z 15)])), (z 1, .inl (gI g, 461, .inl mD0))] (fun (r : Int32) (u : Unit) => r = (-100001)) (fun (u : Unit) => ([] : va_W)) := by
  refine kMi.of (by decide) (Nat.le_of_ble_eq_true rfl) (fun p e s m below meth c A hx hb hr hml hown hts hlk hnm hKW hP hD hS hA ls hl => ?_)
  have hown : s.vm.findClass RX12 = some m.cls := hown
  have hl : lv_has ls 5 [(0, .ref (z 0)), (1, .int ch)] := hl
  refine lv_aload_n hx hb dX12_admit_0 rfl (lv_at hl 0 rfl) ?_
  refine lv_iload_n hx hb dX12_admit_1 rfl (lv_at hl 1 rfl) ?_
  refine k_Vi [0, 1] [] 0 12 (wr := []) hx hb hml hown hts hKW hP hD hS hA hl.1 (c_X12_isChild0 l g _ (z 0) (z 1) (z 2) (z 3) (z 4) (z 5) (z 6) (z 7) (z 8) (z 9) (z 10) (z 11) (z 12) (z 13) (z 14) (z 15) 0 0 0 0 0 ch ) rfl rfl rfl wd_13_19 wd_1_5 wd_13_16 wd_13_17 wd_13_18 yd_X12_isChild ⟨Nat.le_of_ble_eq_true rfl, Nat.le_of_ble_eq_true rfl⟩ rfl rfl rfl rfl rfl (by decide) rfl (Nat.le_of_ble_eq_true rfl) dX12_admit_2 ⟨Nat.le_of_ble_eq_true rfl, Nat.le_of_ble_eq_true rfl⟩ (fun r_1 u_2 H locs hw_3 hP hD hS => ?_)
  have hP : va_P g.1 vwCl [(z 0, .inr (12, [.ref (z 1), .ref (z 2), .int 0, .int 0, .ref (z 3), .ref (z 4), .ref (z 5), .ref (z 6), .int 0, .ref (z 7), .ref (z 8), .ref (z 9), .ref (z 10), .ref (z 11), .ref (z 12), .int 0, .ref (z 13), .ref (z 14), .int 0, .ref (z 15)])), (z 1, .inl (gI g, 461, .inl mD0))] H := hP
  have hD : va_D A [(z 0, .inr (12, [.ref (z 1), .ref (z 2), .int 0, .int 0, .ref (z 3), .ref (z 4), .ref (z 5), .ref (z 6), .int 0, .ref (z 7), .ref (z 8), .ref (z 9), .ref (z 10), .ref (z 11), .ref (z 12), .int 0, .ref (z 13), .ref (z 14), .int 0, .ref (z 15)])), (z 1, .inl (gI g, 461, .inl mD0))] := hD
  have hw_3 : r_1 = 0 := hw_3
  subst hw_3
  refine lv_if_ne (tgt := 14) hx hb dX12_admit_5 (by decide) (fun c => absurd c (by decide)) (fun _ => ?_)
  refine lv_aload_n hx hb dX12_admit_8 rfl (lv_at hl 0 rfl) ?_
  refine lv_iconst (v := 1) hx hb dX12_admit_9 (by decide) ?_
  refine k_Vi [0] [1] 0 12 (wr := [(z 1, .inl (gI g, 461, .inl mD0))]) hx hb hml hown hts hKW hP hD hS hA hl.1 (c_X12_finding_1 l g _ (z 0) (z 1) (z 2) (z 3) (z 4) (z 5) (z 6) (z 7) (z 8) (z 9) (z 10) (z 11) (z 12) (z 13) (z 14) (z 15) 0 0 0 0 0 ) rfl rfl rfl wd_10_15 wd_1_5 wd_10_12 wd_10_13 wd_10_14 yd_X12_finding ⟨Nat.le_of_ble_eq_true rfl, Nat.le_of_ble_eq_true rfl⟩ rfl rfl rfl rfl rfl (by decide) rfl (Nat.le_of_ble_eq_true rfl) dX12_admit_10 ⟨Nat.le_of_ble_eq_true rfl, Nat.le_of_ble_eq_true rfl⟩ (fun r_4 u_5 H locs hw_6 hP hD hS => ?_)
  have hP : va_P g.1 vwCl [(z 1, .inl (gI g, 461, .inl mD0))] H := hP
  have hD : va_D A [(z 1, .inl (gI g, 461, .inl mD0))] := hD
  have hw_6 : r_4 = (-100001) := hw_6
  subst hw_6
  exact k_iret () [] hx hb hr hlk hP hD hS rfl rfl rfl rfl (Nat.le_of_ble_eq_true rfl) (Nat.le_of_ble_eq_true rfl) dX12_admit_13
theorem dX12_places_0 : decode cX12_places 0 = .ok (.aload_n 0, 1) := by decide +kernel
theorem dX12_places_1 : decode cX12_places 1 = .ok (.iload_n 1, 1) := by decide +kernel
theorem dX12_places_2 : decode cX12_places 2 = .ok (.invokevirtual 100, 3) := by decide +kernel
theorem dX12_places_5 : decode cX12_places 5 = .ok (.ifCond .eq 19, 3) := by decide +kernel
theorem dX12_places_24 : decode cX12_places 24 = .ok (.aload_n 0, 1) := by decide +kernel
theorem dX12_places_25 : decode cX12_places 25 = .ok (.iconst 1, 1) := by decide +kernel
theorem dX12_places_26 : decode cX12_places 26 = .ok (.invokevirtual 68, 3) := by decide +kernel
theorem dX12_places_29 : decode cX12_places 29 = .ok (.ireturn, 1) := by decide +kernel
set_option maxHeartbeats 4000000 in
set_option maxRecDepth 100000 in
theorem c_X12_places (l : Launch) (g : kG) (sz : Nat) (z : Nat → Nat) (ch : Int32) (k : Int32) (v : Int32) : kMi l g yX12_places cX12_places 4 (some .int) 6 0 0 [.ref (z 0), .int ch, .int k, .int v] sz [(z 0, .inr (12, [.ref (z 1), .ref (z 2), .int 0, .int 0, .ref (z 3), .ref (z 4), .ref (z 5), .ref (z 6), .int 0, .ref (z 7), .ref (z 8), .ref (z 9), .ref (z 10), .ref (z 11), .ref (z 12), .int 0, .ref (z 13), .ref (z 14), .int 0, .ref (z 15)])), (z 1, .inl (gI g, 461, .inl mD0))] (fun (r : Int32) (u : Unit) => r = (-100001)) (fun (u : Unit) => ([] : va_W)) := by
  refine kMi.of (by decide) (Nat.le_of_ble_eq_true rfl) (fun p e s m below meth c A hx hb hr hml hown hts hlk hnm hKW hP hD hS hA ls hl => ?_)
  have hown : s.vm.findClass RX12 = some m.cls := hown
  have hl : lv_has ls 4 [(0, .ref (z 0)), (1, .int ch), (2, .int k), (3, .int v)] := hl
  refine lv_aload_n hx hb dX12_places_0 rfl (lv_at hl 0 rfl) ?_
  refine lv_iload_n hx hb dX12_places_1 rfl (lv_at hl 1 rfl) ?_
  refine k_Vi [0, 1] [] 0 12 (wr := []) hx hb hml hown hts hKW hP hD hS hA hl.1 (c_X12_isRoom0 l g _ (z 0) (z 1) (z 2) (z 3) (z 4) (z 5) (z 6) (z 7) (z 8) (z 9) (z 10) (z 11) (z 12) (z 13) (z 14) (z 15) 0 0 0 0 0 ch ) rfl rfl rfl wd_20_4 wd_1_5 wd_20_1 wd_20_2 wd_20_3 yd_X12_isRoom ⟨Nat.le_of_ble_eq_true rfl, Nat.le_of_ble_eq_true rfl⟩ rfl rfl rfl rfl rfl (by decide) rfl (Nat.le_of_ble_eq_true rfl) dX12_places_2 ⟨Nat.le_of_ble_eq_true rfl, Nat.le_of_ble_eq_true rfl⟩ (fun r_1 u_2 H locs hw_3 hP hD hS => ?_)
  have hP : va_P g.1 vwCl [(z 0, .inr (12, [.ref (z 1), .ref (z 2), .int 0, .int 0, .ref (z 3), .ref (z 4), .ref (z 5), .ref (z 6), .int 0, .ref (z 7), .ref (z 8), .ref (z 9), .ref (z 10), .ref (z 11), .ref (z 12), .int 0, .ref (z 13), .ref (z 14), .int 0, .ref (z 15)])), (z 1, .inl (gI g, 461, .inl mD0))] H := hP
  have hD : va_D A [(z 0, .inr (12, [.ref (z 1), .ref (z 2), .int 0, .int 0, .ref (z 3), .ref (z 4), .ref (z 5), .ref (z 6), .int 0, .ref (z 7), .ref (z 8), .ref (z 9), .ref (z 10), .ref (z 11), .ref (z 12), .int 0, .ref (z 13), .ref (z 14), .int 0, .ref (z 15)])), (z 1, .inl (gI g, 461, .inl mD0))] := hD
  have hw_3 : r_1 = 0 := hw_3
  subst hw_3
  refine lv_if_eq (tgt := 24) hx hb dX12_places_5 (by decide) (fun _ => ?_) (fun c => absurd c (by decide))
  refine lv_aload_n hx hb dX12_places_24 rfl (lv_at hl 0 rfl) ?_
  refine lv_iconst (v := 1) hx hb dX12_places_25 (by decide) ?_
  refine k_Vi [0] [1] 0 12 (wr := [(z 1, .inl (gI g, 461, .inl mD0))]) hx hb hml hown hts hKW hP hD hS hA hl.1 (c_X12_finding_1 l g _ (z 0) (z 1) (z 2) (z 3) (z 4) (z 5) (z 6) (z 7) (z 8) (z 9) (z 10) (z 11) (z 12) (z 13) (z 14) (z 15) 0 0 0 0 0 ) rfl rfl rfl wd_10_15 wd_1_5 wd_10_12 wd_10_13 wd_10_14 yd_X12_finding ⟨Nat.le_of_ble_eq_true rfl, Nat.le_of_ble_eq_true rfl⟩ rfl rfl rfl rfl rfl (by decide) rfl (Nat.le_of_ble_eq_true rfl) dX12_places_26 ⟨Nat.le_of_ble_eq_true rfl, Nat.le_of_ble_eq_true rfl⟩ (fun r_4 u_5 H locs hw_6 hP hD hS => ?_)
  have hP : va_P g.1 vwCl [(z 1, .inl (gI g, 461, .inl mD0))] H := hP
  have hD : va_D A [(z 1, .inl (gI g, 461, .inl mD0))] := hD
  have hw_6 : r_4 = (-100001) := hw_6
  subst hw_6
  exact k_iret () [] hx hb hr hlk hP hD hS rfl rfl rfl rfl (Nat.le_of_ble_eq_true rfl) (Nat.le_of_ble_eq_true rfl) dX12_places_29
theorem dX12_rate_0 : decode cX12_rate 0 = .ok (.iload_n 1, 1) := by decide +kernel
theorem dX12_rate_1 : decode cX12_rate 1 = .ok (.iconst 1, 1) := by decide +kernel
theorem dX12_rate_2 : decode cX12_rate 2 = .ok (.bipush 99, 2) := by decide +kernel
theorem dX12_rate_4 : decode cX12_rate 4 = .ok (.invokestatic 64, 3) := by decide +kernel
theorem dX12_rate_7 : decode cX12_rate 7 = .ok (.ifCond .ne 9, 3) := by decide +kernel
theorem dX12_rate_16 : decode cX12_rate 16 = .ok (.aload_n 0, 1) := by decide +kernel
theorem dX12_rate_17 : decode cX12_rate 17 = .ok (.invokevirtual 72, 3) := by decide +kernel
theorem dX12_rate_20 : decode cX12_rate 20 = .ok (.aload_n 0, 1) := by decide +kernel
theorem dX12_rate_21 : decode cX12_rate 21 = .ok (.getfield 7, 3) := by decide +kernel
theorem dX12_rate_24 : decode cX12_rate 24 = .ok (.bipush 9, 2) := by decide +kernel
theorem dX12_rate_26 : decode cX12_rate 26 = .ok (.iaload, 1) := by decide +kernel
theorem dX12_rate_27 : decode cX12_rate 27 = .ok (.istore_n 2, 1) := by decide +kernel
theorem dX12_rate_28 : decode cX12_rate 28 = .ok (.aload_n 0, 1) := by decide +kernel
theorem dX12_rate_29 : decode cX12_rate 29 = .ok (.getfield 7, 3) := by decide +kernel
theorem dX12_rate_32 : decode cX12_rate 32 = .ok (.bipush 9, 2) := by decide +kernel
theorem dX12_rate_34 : decode cX12_rate 34 = .ok (.iload_n 1, 1) := by decide +kernel
theorem dX12_rate_35 : decode cX12_rate 35 = .ok (.iastore, 1) := by decide +kernel
theorem dX12_rate_36 : decode cX12_rate 36 = .ok (.iload_n 2, 1) := by decide +kernel
theorem dX12_rate_37 : decode cX12_rate 37 = .ok (.ireturn, 1) := by decide +kernel
theorem dX12_rate_10 : decode cX12_rate 10 = .ok (.aload_n 0, 1) := by decide +kernel
theorem dX12_rate_11 : decode cX12_rate 11 = .ok (.iconst 1, 1) := by decide +kernel
theorem dX12_rate_12 : decode cX12_rate 12 = .ok (.invokevirtual 68, 3) := by decide +kernel
theorem dX12_rate_15 : decode cX12_rate 15 = .ok (.ireturn, 1) := by decide +kernel
set_option maxHeartbeats 4000000 in
set_option maxRecDepth 100000 in
theorem c_X12_rate (l : Launch) (g : kG) (sz : Nat) (z : Nat → Nat) (v : Int32) : kMi l g yX12_rate cX12_rate 3 (some .int) 6 0 0 [.ref (z 0), .int v] sz [(z 0, .inr (12, [.ref (z 1), .ref (z 2), .int 0, .int 0, .ref (z 3), .ref (z 4), .ref (z 5), .ref (z 6), .int 0, .ref (z 7), .ref (z 8), .ref (z 9), .ref (z 10), .ref (z 11), .ref (z 12), .int 0, .ref (z 13), .ref (z 14), .int 0, .ref (z 15)])), (z 1, .inl (gI g, 461, .inl mD0)), (z 2, .inl (gI g, 7376, .inl (fun _ => 0)))] (fun (r : Int32) (u : Unit) => r = aR 1 99 10 v) (fun (u : Unit) => ([] : va_W)) := by
  refine kMi.of (by decide) (Nat.le_of_ble_eq_true rfl) (fun p e s m below meth c A hx hb hr hml hown hts hlk hnm hKW hP hD hS hA ls hl => ?_)
  have hown : s.vm.findClass RX12 = some m.cls := hown
  have hl : lv_has ls 3 [(0, .ref (z 0)), (1, .int v)] := hl
  refine lv_iload_n hx hb dX12_rate_0 rfl (lv_at hl 1 rfl) ?_
  refine lv_iconst (v := 1) hx hb dX12_rate_1 (by decide) ?_
  refine lv_bipush (v := 99) hx hb dX12_rate_2 (by decide) ?_
  refine k_Si [] [0, 1, 2] (wr := [(z 0, .inr (12, [.ref (z 1), .ref (z 2), .int 0, .int 0, .ref (z 3), .ref (z 4), .ref (z 5), .ref (z 6), .int 0, .ref (z 7), .ref (z 8), .ref (z 9), .ref (z 10), .ref (z 11), .ref (z 12), .int 0, .ref (z 13), .ref (z 14), .int 0, .ref (z 15)])), (z 1, .inl (gI g, 461, .inl mD0)), (z 2, .inl (gI g, 7376, .inl (fun _ => 0)))]) hx hb hml hown hts hKW hP hD hS hA hl.1 (c_X12_isIn l g _ v 1 99 ) wd_10_11 wd_1_5 wd_10_9 wd_10_10 yd_X12_isIn ⟨Nat.le_of_ble_eq_true rfl, Nat.le_of_ble_eq_true rfl⟩ rfl rfl rfl rfl rfl (by decide) rfl (Nat.le_of_ble_eq_true rfl) dX12_rate_4 ⟨Nat.le_of_ble_eq_true rfl, Nat.le_of_ble_eq_true rfl⟩ (fun r_1 u_2 H locs hw_3 hP hD hS => ?_)
  have hP : va_P g.1 vwCl [(z 0, .inr (12, [.ref (z 1), .ref (z 2), .int 0, .int 0, .ref (z 3), .ref (z 4), .ref (z 5), .ref (z 6), .int 0, .ref (z 7), .ref (z 8), .ref (z 9), .ref (z 10), .ref (z 11), .ref (z 12), .int 0, .ref (z 13), .ref (z 14), .int 0, .ref (z 15)])), (z 1, .inl (gI g, 461, .inl mD0)), (z 2, .inl (gI g, 7376, .inl (fun _ => 0)))] H := hP
  have hD : va_D A [(z 0, .inr (12, [.ref (z 1), .ref (z 2), .int 0, .int 0, .ref (z 3), .ref (z 4), .ref (z 5), .ref (z 6), .int 0, .ref (z 7), .ref (z 8), .ref (z 9), .ref (z 10), .ref (z 11), .ref (z 12), .int 0, .ref (z 13), .ref (z 14), .int 0, .ref (z 15)])), (z 1, .inl (gI g, 461, .inl mD0)), (z 2, .inl (gI g, 7376, .inl (fun _ => 0)))] := hD
  rcases (show (r_1 = 1 ∧ (Int32.toInt 1 ≤ Int32.toInt v ∧ Int32.toInt v ≤ Int32.toInt 99)) ∨ (r_1 = 0 ∧ ¬ (Int32.toInt 1 ≤ Int32.toInt v ∧ Int32.toInt v ≤ Int32.toInt 99)) from hw_3) with ⟨rfl, hw_3b⟩ | ⟨rfl, hw_3b⟩ <;> clear hw_3
  · refine lv_if_ne (tgt := 16) hx hb dX12_rate_7 (by decide) (fun _ => ?_) (fun c => absurd c (by decide))
    refine lv_aload_n hx hb dX12_rate_16 rfl (lv_at hl 0 rfl) ?_
    refine k_Vv [0, 1, 2] [] 0 12 (wr := []) hx hb hml hown hts hKW hP hD hS hA hl.1 (c_X12_keep0 l g _ z ) rfl rfl rfl wd_10_21 wd_1_5 wd_10_18 wd_10_19 wd_10_20 yd_X12_keep ⟨Nat.le_of_ble_eq_true rfl, Nat.le_of_ble_eq_true rfl⟩ rfl rfl rfl rfl rfl (by decide) rfl (Nat.le_of_ble_eq_true rfl) dX12_rate_17 ⟨Nat.le_of_ble_eq_true rfl, Nat.le_of_ble_eq_true rfl⟩ (fun u_5 H locs hw_6 hP hD hS => ?_)
    have hP : va_P g.1 vwCl [(z 0, .inr (12, [.ref (z 1), .ref (z 2), .int 1, .int 0, .ref (z 3), .ref (z 4), .ref (z 5), .ref (z 6), .int 0, .ref (z 7), .ref (z 8), .ref (z 9), .ref (z 10), .ref (z 11), .ref (z 12), .int 0, .ref (z 13), .ref (z 14), .int 0, .ref (z 15)])), (z 1, .inl (gI g, 461, .inl mD0))] H := hP
    have hD : va_D A [(z 0, .inr (12, [.ref (z 1), .ref (z 2), .int 1, .int 0, .ref (z 3), .ref (z 4), .ref (z 5), .ref (z 6), .int 0, .ref (z 7), .ref (z 8), .ref (z 9), .ref (z 10), .ref (z 11), .ref (z 12), .int 0, .ref (z 13), .ref (z 14), .int 0, .ref (z 15)])), (z 1, .inl (gI g, 461, .inl mD0))] := hD
    refine lv_aload_n hx hb dX12_rate_20 rfl (lv_at hl 0 rfl) ?_
    refine va_get (ci := 12) (C := RX12) (T := TX12) (N := 20) hx hb hts inlX12 hown hKW.1 hP 0 rfl rfl 0 (by decide) (hts _ wd_6_5) (fun _ h => h) rfl dX12_rate_21 ?_
    refine lv_bipush (v := 9) hx hb dX12_rate_24 (by decide) ?_
    refine va_iald hx hb hKW.1 hP 1 0 rfl rfl (show ¬ _ by decide) dX12_rate_26 ?_
    refine k_top (y := 10) rfl ?_
    refine lv_istore_n (lv' := [(2, .int 10), (0, .ref (z 0)), (1, .int v)]) hx hb dX12_rate_27 rfl hl (by decide) rfl (fun ls hl => ?_)
    refine lv_aload_n hx hb dX12_rate_28 rfl (lv_at hl 1 rfl) ?_
    refine va_get (ci := 12) (C := RX12) (T := TX12) (N := 20) hx hb hts inlX12 hown hKW.1 hP 0 rfl rfl 0 (by decide) (hts _ wd_6_5) (fun _ h => h) rfl dX12_rate_29 ?_
    refine lv_bipush (v := 9) hx hb dX12_rate_32 (by decide) ?_
    refine lv_iload_n hx hb dX12_rate_34 rfl (lv_at hl 2 rfl) ?_
    refine va_iast hx hb hKW.1 hP hD hS 1 0 rfl rfl (show ¬ _ by decide) dX12_rate_35 (fun H locs hP hD hS => ?_)
    have hP : va_P g.1 vwCl [(z 0, .inr (12, [.ref (z 1), .ref (z 2), .int 1, .int 0, .ref (z 3), .ref (z 4), .ref (z 5), .ref (z 6), .int 0, .ref (z 7), .ref (z 8), .ref (z 9), .ref (z 10), .ref (z 11), .ref (z 12), .int 0, .ref (z 13), .ref (z 14), .int 0, .ref (z 15)])), (z 1, .inl (gI g, 461, .inl (upd mD0 9 v)))] H := hP
    have hD : va_D A [(z 0, .inr (12, [.ref (z 1), .ref (z 2), .int 1, .int 0, .ref (z 3), .ref (z 4), .ref (z 5), .ref (z 6), .int 0, .ref (z 7), .ref (z 8), .ref (z 9), .ref (z 10), .ref (z 11), .ref (z 12), .int 0, .ref (z 13), .ref (z 14), .int 0, .ref (z 15)])), (z 1, .inl (gI g, 461, .inl (upd mD0 9 v)))] := hD
    obtain ⟨f_7, ef_7⟩ : ∃ zz_ : Nat → Int32, zz_ = upd mD0 9 v := ⟨_, rfl⟩
    rw [← ef_7] at hP hD
    refine lv_iload_n hx hb dX12_rate_36 rfl (lv_at hl 0 rfl) ?_
    exact k_iret () [] hx hb hr hlk hP hD hS (by clear hP hD hS hA hts hKW hl; unfold aR; (repeat' split) <;> first | rfl | (exfalso; first | omega | (simp only [Int32.lt_iff_toInt_lt, Int32.le_iff_toInt_le, ← Int32.toInt_inj] at *; omega) | (simp only [Int32.lt_iff_toInt_lt, Int32.le_iff_toInt_le, ← Int32.toInt_inj] at *; simp at *; omega) | (simp only [Int32.lt_iff_toInt_lt, Int32.le_iff_toInt_le, ← Int32.toInt_inj] at *; simp at *; done) | (simp at *; omega) | (simp at *; done))) rfl rfl rfl (Nat.le_of_ble_eq_true rfl) (Nat.le_of_ble_eq_true rfl) dX12_rate_37
  · refine lv_if_ne (tgt := 16) hx hb dX12_rate_7 (by decide) (fun c => absurd c (by decide)) (fun _ => ?_)
    refine lv_aload_n hx hb dX12_rate_10 rfl (lv_at hl 0 rfl) ?_
    refine lv_iconst (v := 1) hx hb dX12_rate_11 (by decide) ?_
    refine k_Vi [0] [1, 2] 0 12 (wr := [(z 1, .inl (gI g, 461, .inl mD0)), (z 2, .inl (gI g, 7376, .inl (fun _ => 0)))]) hx hb hml hown hts hKW hP hD hS hA hl.1 (c_X12_finding_1 l g _ (z 0) (z 1) (z 2) (z 3) (z 4) (z 5) (z 6) (z 7) (z 8) (z 9) (z 10) (z 11) (z 12) (z 13) (z 14) (z 15) 0 0 0 0 0 ) rfl rfl rfl wd_10_15 wd_1_5 wd_10_12 wd_10_13 wd_10_14 yd_X12_finding ⟨Nat.le_of_ble_eq_true rfl, Nat.le_of_ble_eq_true rfl⟩ rfl rfl rfl rfl rfl (by decide) rfl (Nat.le_of_ble_eq_true rfl) dX12_rate_12 ⟨Nat.le_of_ble_eq_true rfl, Nat.le_of_ble_eq_true rfl⟩ (fun r_8 u_9 H locs hw_10 hP hD hS => ?_)
    have hP : va_P g.1 vwCl [(z 1, .inl (gI g, 461, .inl mD0)), (z 2, .inl (gI g, 7376, .inl (fun _ => 0)))] H := hP
    have hD : va_D A [(z 1, .inl (gI g, 461, .inl mD0)), (z 2, .inl (gI g, 7376, .inl (fun _ => 0)))] := hD
    have hw_10 : r_8 = (-100001) := hw_10
    subst hw_10
    exact k_iret () [] hx hb hr hlk hP hD hS (by clear hP hD hS hA hts hKW hl; unfold aR; (repeat' split) <;> first | rfl | (exfalso; first | omega | (simp only [Int32.lt_iff_toInt_lt, Int32.le_iff_toInt_le, ← Int32.toInt_inj] at *; omega) | (simp only [Int32.lt_iff_toInt_lt, Int32.le_iff_toInt_le, ← Int32.toInt_inj] at *; simp at *; omega) | (simp only [Int32.lt_iff_toInt_lt, Int32.le_iff_toInt_le, ← Int32.toInt_inj] at *; simp at *; done) | (simp at *; omega) | (simp at *; done))) rfl rfl rfl (Nat.le_of_ble_eq_true rfl) (Nat.le_of_ble_eq_true rfl) dX12_rate_15
theorem dX12_bill_0 : decode cX12_bill 0 = .ok (.aload_n 0, 1) := by decide +kernel
theorem dX12_bill_1 : decode cX12_bill 1 = .ok (.iload_n 1, 1) := by decide +kernel
theorem dX12_bill_2 : decode cX12_bill 2 = .ok (.invokevirtual 82, 3) := by decide +kernel
theorem dX12_bill_5 : decode cX12_bill 5 = .ok (.ifCond .eq 23, 3) := by decide +kernel
theorem dX12_bill_28 : decode cX12_bill 28 = .ok (.aload_n 0, 1) := by decide +kernel
theorem dX12_bill_29 : decode cX12_bill 29 = .ok (.iconst 1, 1) := by decide +kernel
theorem dX12_bill_30 : decode cX12_bill 30 = .ok (.invokevirtual 68, 3) := by decide +kernel
theorem dX12_bill_33 : decode cX12_bill 33 = .ok (.ireturn, 1) := by decide +kernel
set_option maxHeartbeats 4000000 in
set_option maxRecDepth 100000 in
theorem c_X12_bill (l : Launch) (g : kG) (sz : Nat) (z : Nat → Nat) (ch : Int32) (k : Int32) (v : Int32) (w : Int32) : kMi l g yX12_bill cX12_bill 8 (some .int) 6 0 0 [.ref (z 0), .int ch, .int k, .int v, .int w] sz [(z 0, .inr (12, [.ref (z 1), .ref (z 2), .int 0, .int 0, .ref (z 3), .ref (z 4), .ref (z 5), .ref (z 6), .int 0, .ref (z 7), .ref (z 8), .ref (z 9), .ref (z 10), .ref (z 11), .ref (z 12), .int 0, .ref (z 13), .ref (z 14), .int 0, .ref (z 15)])), (z 1, .inl (gI g, 461, .inl mD0))] (fun (r : Int32) (u : Unit) => r = (-100001)) (fun (u : Unit) => ([] : va_W)) := by
  refine kMi.of (by decide) (Nat.le_of_ble_eq_true rfl) (fun p e s m below meth c A hx hb hr hml hown hts hlk hnm hKW hP hD hS hA ls hl => ?_)
  have hown : s.vm.findClass RX12 = some m.cls := hown
  have hl : lv_has ls 8 [(0, .ref (z 0)), (1, .int ch), (2, .int k), (3, .int v), (4, .int w)] := hl
  refine lv_aload_n hx hb dX12_bill_0 rfl (lv_at hl 0 rfl) ?_
  refine lv_iload_n hx hb dX12_bill_1 rfl (lv_at hl 1 rfl) ?_
  refine k_Vi [0, 1] [] 0 12 (wr := []) hx hb hml hown hts hKW hP hD hS hA hl.1 (c_X12_isChild0 l g _ (z 0) (z 1) (z 2) (z 3) (z 4) (z 5) (z 6) (z 7) (z 8) (z 9) (z 10) (z 11) (z 12) (z 13) (z 14) (z 15) 0 0 0 0 0 ch ) rfl rfl rfl wd_13_19 wd_1_5 wd_13_16 wd_13_17 wd_13_18 yd_X12_isChild ⟨Nat.le_of_ble_eq_true rfl, Nat.le_of_ble_eq_true rfl⟩ rfl rfl rfl rfl rfl (by decide) rfl (Nat.le_of_ble_eq_true rfl) dX12_bill_2 ⟨Nat.le_of_ble_eq_true rfl, Nat.le_of_ble_eq_true rfl⟩ (fun r_1 u_2 H locs hw_3 hP hD hS => ?_)
  have hP : va_P g.1 vwCl [(z 0, .inr (12, [.ref (z 1), .ref (z 2), .int 0, .int 0, .ref (z 3), .ref (z 4), .ref (z 5), .ref (z 6), .int 0, .ref (z 7), .ref (z 8), .ref (z 9), .ref (z 10), .ref (z 11), .ref (z 12), .int 0, .ref (z 13), .ref (z 14), .int 0, .ref (z 15)])), (z 1, .inl (gI g, 461, .inl mD0))] H := hP
  have hD : va_D A [(z 0, .inr (12, [.ref (z 1), .ref (z 2), .int 0, .int 0, .ref (z 3), .ref (z 4), .ref (z 5), .ref (z 6), .int 0, .ref (z 7), .ref (z 8), .ref (z 9), .ref (z 10), .ref (z 11), .ref (z 12), .int 0, .ref (z 13), .ref (z 14), .int 0, .ref (z 15)])), (z 1, .inl (gI g, 461, .inl mD0))] := hD
  have hw_3 : r_1 = 0 := hw_3
  subst hw_3
  refine lv_if_eq (tgt := 28) hx hb dX12_bill_5 (by decide) (fun _ => ?_) (fun c => absurd c (by decide))
  refine lv_aload_n hx hb dX12_bill_28 rfl (lv_at hl 0 rfl) ?_
  refine lv_iconst (v := 1) hx hb dX12_bill_29 (by decide) ?_
  refine k_Vi [0] [1] 0 12 (wr := [(z 1, .inl (gI g, 461, .inl mD0))]) hx hb hml hown hts hKW hP hD hS hA hl.1 (c_X12_finding_1 l g _ (z 0) (z 1) (z 2) (z 3) (z 4) (z 5) (z 6) (z 7) (z 8) (z 9) (z 10) (z 11) (z 12) (z 13) (z 14) (z 15) 0 0 0 0 0 ) rfl rfl rfl wd_10_15 wd_1_5 wd_10_12 wd_10_13 wd_10_14 yd_X12_finding ⟨Nat.le_of_ble_eq_true rfl, Nat.le_of_ble_eq_true rfl⟩ rfl rfl rfl rfl rfl (by decide) rfl (Nat.le_of_ble_eq_true rfl) dX12_bill_30 ⟨Nat.le_of_ble_eq_true rfl, Nat.le_of_ble_eq_true rfl⟩ (fun r_4 u_5 H locs hw_6 hP hD hS => ?_)
  have hP : va_P g.1 vwCl [(z 1, .inl (gI g, 461, .inl mD0))] H := hP
  have hD : va_D A [(z 1, .inl (gI g, 461, .inl mD0))] := hD
  have hw_6 : r_4 = (-100001) := hw_6
  subst hw_6
  exact k_iret () [] hx hb hr hlk hP hD hS rfl rfl rfl rfl (Nat.le_of_ble_eq_true rfl) (Nat.le_of_ble_eq_true rfl) dX12_bill_33
theorem dX12_read_0 : decode cX12_read 0 = .ok (.aload_n 0, 1) := by decide +kernel
theorem dX12_read_1 : decode cX12_read 1 = .ok (.iconst 0, 1) := by decide +kernel
theorem dX12_read_2 : decode cX12_read 2 = .ok (.putfield 116, 3) := by decide +kernel
theorem dX12_read_5 : decode cX12_read 5 = .ok (.iconst 0, 1) := by decide +kernel
theorem dX12_read_6 : decode cX12_read 6 = .ok (.istore_n 1, 1) := by decide +kernel
theorem dX12_read_7 : decode cX12_read 7 = .ok (.iload_n 1, 1) := by decide +kernel
theorem dX12_read_8 : decode cX12_read 8 = .ok (.aload_n 0, 1) := by decide +kernel
theorem dX12_read_9 : decode cX12_read 9 = .ok (.getfield 7, 3) := by decide +kernel
theorem dX12_read_12 : decode cX12_read 12 = .ok (.bipush 10, 2) := by decide +kernel
theorem dX12_read_14 : decode cX12_read 14 = .ok (.iaload, 1) := by decide +kernel
theorem dX12_read_15 : decode cX12_read 15 = .ok (.if_icmp .ge 28, 3) := by decide +kernel
theorem dX12_read_43 : decode cX12_read 43 = .ok (.aload_n 0, 1) := by decide +kernel
theorem dX12_read_44 : decode cX12_read 44 = .ok (.getfield 116, 3) := by decide +kernel
theorem dX12_read_47 : decode cX12_read 47 = .ok (.iconst 1, 1) := by decide +kernel
theorem dX12_read_48 : decode cX12_read 48 = .ok (.if_icmp .ne 7, 3) := by decide +kernel
theorem dX12_read_55 : decode cX12_read 55 = .ok (.aload_n 0, 1) := by decide +kernel
theorem dX12_read_56 : decode cX12_read 56 = .ok (.getfield 7, 3) := by decide +kernel
theorem dX12_read_59 : decode cX12_read 59 = .ok (.bipush 10, 2) := by decide +kernel
theorem dX12_read_61 : decode cX12_read 61 = .ok (.iaload, 1) := by decide +kernel
theorem dX12_read_62 : decode cX12_read 62 = .ok (.ireturn, 1) := by decide +kernel
set_option maxHeartbeats 4000000 in
set_option maxRecDepth 100000 in
theorem c_X12_read0 (l : Launch) (g : kG) (sz : Nat) (z : Nat → Nat) : kMi l g yX12_read cX12_read 2 (some .int) 2 0 0 [.ref (z 0)] sz [(z 0, .inr (12, [.ref (z 1), .ref (z 2), .int 0, .int 0, .ref (z 3), .ref (z 4), .ref (z 5), .ref (z 6), .int 0, .ref (z 7), .ref (z 8), .ref (z 9), .ref (z 10), .ref (z 11), .ref (z 12), .int 0, .ref (z 13), .ref (z 14), .int 0, .ref (z 15)])), (z 1, .inl (gI g, 461, .inl mD0))] (fun (r : Int32) (u : Unit) => r = 0) (fun (u : Unit) => ([] : va_W)) := by
  refine kMi.of (by decide) (Nat.le_of_ble_eq_true rfl) (fun p e s m below meth c A hx hb hr hml hown hts hlk hnm hKW hP hD hS hA ls hl => ?_)
  have hown : s.vm.findClass RX12 = some m.cls := hown
  have hl : lv_has ls 2 [(0, .ref (z 0))] := hl
  refine lv_aload_n hx hb dX12_read_0 rfl (lv_at hl 0 rfl) ?_
  refine lv_iconst (v := 0) hx hb dX12_read_1 (by decide) ?_
  refine va_put (ci := 12) (v := .int 0) (C := RX12) (T := TX12) (N := 20) hx hb hts inlX12 tyX12 tyX12_ok nmX12 hown hKW.1 hP hD hS 0 rfl rfl 8 (by decide) (hts _ wd_27_11) (fun _ h => h) rfl (tyX12_ok 8 (by decide)) rfl rfl (Nat.le_of_ble_eq_true rfl) dX12_read_2 (fun H locs hP hD hS => ?_)
  have hP : va_P g.1 vwCl [(z 0, .inr (12, [.ref (z 1), .ref (z 2), .int 0, .int 0, .ref (z 3), .ref (z 4), .ref (z 5), .ref (z 6), .int 0, .ref (z 7), .ref (z 8), .ref (z 9), .ref (z 10), .ref (z 11), .ref (z 12), .int 0, .ref (z 13), .ref (z 14), .int 0, .ref (z 15)])), (z 1, .inl (gI g, 461, .inl mD0))] H := hP
  have hD : va_D A [(z 0, .inr (12, [.ref (z 1), .ref (z 2), .int 0, .int 0, .ref (z 3), .ref (z 4), .ref (z 5), .ref (z 6), .int 0, .ref (z 7), .ref (z 8), .ref (z 9), .ref (z 10), .ref (z 11), .ref (z 12), .int 0, .ref (z 13), .ref (z 14), .int 0, .ref (z 15)])), (z 1, .inl (gI g, 461, .inl mD0))] := hD
  refine lv_iconst (v := 0) hx hb dX12_read_5 (by decide) ?_
  refine lv_istore_n (lv' := [(1, .int 0), (0, .ref (z 0))]) hx hb dX12_read_6 rfl hl (by decide) rfl (fun ls hl => ?_)
  refine lv_iload_n hx hb dX12_read_7 rfl (lv_at hl 0 rfl) ?_
  refine lv_aload_n hx hb dX12_read_8 rfl (lv_at hl 1 rfl) ?_
  refine va_get (ci := 12) (C := RX12) (T := TX12) (N := 20) hx hb hts inlX12 hown hKW.1 hP 0 rfl rfl 0 (by decide) (hts _ wd_6_5) (fun _ h => h) rfl dX12_read_9 ?_
  refine lv_bipush (v := 10) hx hb dX12_read_12 (by decide) ?_
  refine va_iald hx hb hKW.1 hP 1 0 rfl rfl (show ¬ _ by decide) dX12_read_14 ?_
  refine k_top (y := 0) rfl ?_
  refine lv_icmp_ge (tgt := 43) hx hb dX12_read_15 (by decide) (fun _ => ?_) (fun c => absurd c (by decide))
  refine lv_aload_n hx hb dX12_read_43 rfl (lv_at hl 1 rfl) ?_
  refine va_get (ci := 12) (C := RX12) (T := TX12) (N := 20) hx hb hts inlX12 hown hKW.1 hP 0 rfl rfl 8 (by decide) (hts _ wd_27_11) (fun _ h => h) rfl dX12_read_44 ?_
  refine lv_iconst (v := 1) hx hb dX12_read_47 (by decide) ?_
  refine lv_icmp_ne (tgt := 55) hx hb dX12_read_48 (by decide) (fun _ => ?_) (fun c => absurd c (by decide))
  refine lv_aload_n hx hb dX12_read_55 rfl (lv_at hl 1 rfl) ?_
  refine va_get (ci := 12) (C := RX12) (T := TX12) (N := 20) hx hb hts inlX12 hown hKW.1 hP 0 rfl rfl 0 (by decide) (hts _ wd_6_5) (fun _ h => h) rfl dX12_read_56 ?_
  refine lv_bipush (v := 10) hx hb dX12_read_59 (by decide) ?_
  refine va_iald hx hb hKW.1 hP 1 0 rfl rfl (show ¬ _ by decide) dX12_read_61 ?_
  refine k_top (y := 0) rfl ?_
  exact k_iret () [] hx hb hr hlk hP hD hS rfl rfl rfl rfl (Nat.le_of_ble_eq_true rfl) (Nat.le_of_ble_eq_true rfl) dX12_read_62
theorem dX12_wrong_0 : decode cX12_wrong 0 = .ok (.aload_n 0, 1) := by decide +kernel
theorem dX12_wrong_1 : decode cX12_wrong 1 = .ok (.invokevirtual 122, 3) := by decide +kernel
theorem dX12_wrong_4 : decode cX12_wrong 4 = .ok (.ireturn, 1) := by decide +kernel
set_option maxHeartbeats 4000000 in
set_option maxRecDepth 100000 in
theorem c_X12_wrong (l : Launch) (g : kG) (sz : Nat) (z : Nat → Nat) : kMi l g yX12_wrong cX12_wrong 1 (some .int) 6 0 0 [.ref (z 0)] sz [(z 0, .inr (12, [.ref (z 1), .ref (z 2), .int 0, .int 0, .ref (z 3), .ref (z 4), .ref (z 5), .ref (z 6), .int 0, .ref (z 7), .ref (z 8), .ref (z 9), .ref (z 10), .ref (z 11), .ref (z 12), .int 0, .ref (z 13), .ref (z 14), .int 0, .ref (z 15)])), (z 1, .inl (gI g, 461, .inl mD0))] (fun (r : Int32) (u : Unit) => r = 0) (fun (u : Unit) => ([] : va_W)) := by
  refine kMi.of (by decide) (Nat.le_of_ble_eq_true rfl) (fun p e s m below meth c A hx hb hr hml hown hts hlk hnm hKW hP hD hS hA ls hl => ?_)
  have hown : s.vm.findClass RX12 = some m.cls := hown
  have hl : lv_has ls 1 [(0, .ref (z 0))] := hl
  refine lv_aload_n hx hb dX12_wrong_0 rfl (lv_at hl 0 rfl) ?_
  refine k_Vi [0, 1] [] 0 12 (wr := []) hx hb hml hown hts hKW hP hD hS hA hl.1 (c_X12_read0 l g _ z ) rfl rfl rfl wd_27_10 wd_1_5 wd_27_7 wd_27_8 wd_27_9 yd_X12_read ⟨Nat.le_of_ble_eq_true rfl, Nat.le_of_ble_eq_true rfl⟩ rfl rfl rfl rfl rfl (by decide) rfl (Nat.le_of_ble_eq_true rfl) dX12_wrong_1 ⟨Nat.le_of_ble_eq_true rfl, Nat.le_of_ble_eq_true rfl⟩ (fun r_1 u_2 H locs hw_3 hP hD hS => ?_)
  have hP : va_P g.1 vwCl [] H := hP
  have hD : va_D A [] := hD
  have hw_3 : r_1 = 0 := hw_3
  subst hw_3
  exact k_iret () [] hx hb hr hlk hP hD hS rfl rfl rfl rfl (Nat.le_of_ble_eq_true rfl) (Nat.le_of_ble_eq_true rfl) dX12_wrong_4
theorem dX12_sheet_0 : decode cX12_sheet 0 = .ok (.iload_n 1, 1) := by decide +kernel
theorem dX12_sheet_1 : decode cX12_sheet 1 = .ok (.invokestatic 168, 3) := by decide +kernel
theorem dX12_sheet_4 : decode cX12_sheet 4 = .ok (.ifCond .eq 25, 3) := by decide +kernel
theorem dX12_sheet_7 : decode cX12_sheet 7 = .ok (.iload_n 2, 1) := by decide +kernel
theorem dX12_sheet_8 : decode cX12_sheet 8 = .ok (.ifCond .eq 27, 3) := by decide +kernel
theorem dX12_sheet_35 : decode cX12_sheet 35 = .ok (.iload_n 3, 1) := by decide +kernel
theorem dX12_sheet_36 : decode cX12_sheet 36 = .ok (.ifCond .ge 9, 3) := by decide +kernel
theorem dX12_sheet_45 : decode cX12_sheet 45 = .ok (.iload_n 3, 1) := by decide +kernel
theorem dX12_sheet_46 : decode cX12_sheet 46 = .ok (.bipush 60, 2) := by decide +kernel
theorem dX12_sheet_48 : decode cX12_sheet 48 = .ok (.if_icmp .le 9, 3) := by decide +kernel
theorem dX12_sheet_57 : decode cX12_sheet 57 = .ok (.aload_n 0, 1) := by decide +kernel
theorem dX12_sheet_58 : decode cX12_sheet 58 = .ok (.getfield 16, 3) := by decide +kernel
theorem dX12_sheet_61 : decode cX12_sheet 61 = .ok (.iload_n 1, 1) := by decide +kernel
theorem dX12_sheet_62 : decode cX12_sheet 62 = .ok (.iload_n 2, 1) := by decide +kernel
theorem dX12_sheet_63 : decode cX12_sheet 63 = .ok (.iastore, 1) := by decide +kernel
theorem dX12_sheet_64 : decode cX12_sheet 64 = .ok (.aload_n 0, 1) := by decide +kernel
theorem dX12_sheet_65 : decode cX12_sheet 65 = .ok (.getfield 19, 3) := by decide +kernel
theorem dX12_sheet_68 : decode cX12_sheet 68 = .ok (.iload_n 1, 1) := by decide +kernel
theorem dX12_sheet_69 : decode cX12_sheet 69 = .ok (.iload_n 2, 1) := by decide +kernel
theorem dX12_sheet_70 : decode cX12_sheet 70 = .ok (.ifCond .ne 7, 3) := by decide +kernel
theorem dX12_sheet_77 : decode cX12_sheet 77 = .ok (.iload_n 3, 1) := by decide +kernel
theorem dX12_sheet_78 : decode cX12_sheet 78 = .ok (.iastore, 1) := by decide +kernel
theorem dX12_sheet_79 : decode cX12_sheet 79 = .ok (.iconst 0, 1) := by decide +kernel
theorem dX12_sheet_80 : decode cX12_sheet 80 = .ok (.istore 4, 2) := by decide +kernel
theorem dX12_sheet_73 : decode cX12_sheet 73 = .ok (.iconst 0, 1) := by decide +kernel
theorem dX12_sheet_74 : decode cX12_sheet 74 = .ok (.goto 4, 3) := by decide +kernel
theorem dX12_sheet_51 : decode cX12_sheet 51 = .ok (.aload_n 0, 1) := by decide +kernel
theorem dX12_sheet_52 : decode cX12_sheet 52 = .ok (.iconst 1, 1) := by decide +kernel
theorem dX12_sheet_53 : decode cX12_sheet 53 = .ok (.invokevirtual 68, 3) := by decide +kernel
theorem dX12_sheet_56 : decode cX12_sheet 56 = .ok (.ireturn, 1) := by decide +kernel
theorem dX12_sheet_39 : decode cX12_sheet 39 = .ok (.aload_n 0, 1) := by decide +kernel
theorem dX12_sheet_40 : decode cX12_sheet 40 = .ok (.iconst 3, 1) := by decide +kernel
theorem dX12_sheet_41 : decode cX12_sheet 41 = .ok (.invokevirtual 68, 3) := by decide +kernel
theorem dX12_sheet_44 : decode cX12_sheet 44 = .ok (.ireturn, 1) := by decide +kernel
theorem dX12_sheet_11 : decode cX12_sheet 11 = .ok (.iload_n 2, 1) := by decide +kernel
theorem dX12_sheet_12 : decode cX12_sheet 12 = .ok (.bipush 8, 2) := by decide +kernel
theorem dX12_sheet_14 : decode cX12_sheet 14 = .ok (.if_icmp .eq 21, 3) := by decide +kernel
theorem dX12_sheet_17 : decode cX12_sheet 17 = .ok (.iload_n 2, 1) := by decide +kernel
theorem dX12_sheet_18 : decode cX12_sheet 18 = .ok (.bipush 16, 2) := by decide +kernel
theorem dX12_sheet_20 : decode cX12_sheet 20 = .ok (.if_icmp .eq 15, 3) := by decide +kernel
theorem dX12_sheet_23 : decode cX12_sheet 23 = .ok (.iload_n 2, 1) := by decide +kernel
theorem dX12_sheet_24 : decode cX12_sheet 24 = .ok (.bipush 32, 2) := by decide +kernel
theorem dX12_sheet_26 : decode cX12_sheet 26 = .ok (.if_icmp .eq 9, 3) := by decide +kernel
theorem dX12_sheet_29 : decode cX12_sheet 29 = .ok (.aload_n 0, 1) := by decide +kernel
theorem dX12_sheet_30 : decode cX12_sheet 30 = .ok (.iconst 1, 1) := by decide +kernel
theorem dX12_sheet_31 : decode cX12_sheet 31 = .ok (.invokevirtual 68, 3) := by decide +kernel
theorem dX12_sheet_34 : decode cX12_sheet 34 = .ok (.ireturn, 1) := by decide +kernel
theorem dX12_sheet_82 : decode cX12_sheet 82 = .ok (.iload 4, 2) := by decide +kernel
theorem dX12_sheet_84 : decode cX12_sheet 84 = .ok (.bipush 60, 2) := by decide +kernel
theorem dX12_sheet_86 : decode cX12_sheet 86 = .ok (.if_icmp .ge 22, 3) := by decide +kernel
theorem dX12_sheet_108 : decode cX12_sheet 108 = .ok (.iload_n 2, 1) := by decide +kernel
theorem dX12_sheet_109 : decode cX12_sheet 109 = .ok (.ifCond .ne 7, 3) := by decide +kernel
theorem dX12_sheet_116 : decode cX12_sheet 116 = .ok (.iload_n 3, 1) := by decide +kernel
theorem dX12_sheet_117 : decode cX12_sheet 117 = .ok (.ireturn, 1) := by decide +kernel
theorem dX12_sheet_112 : decode cX12_sheet 112 = .ok (.iconst 0, 1) := by decide +kernel
theorem dX12_sheet_113 : decode cX12_sheet 113 = .ok (.goto 4, 3) := by decide +kernel
theorem dX12_sheet_89 : decode cX12_sheet 89 = .ok (.aload_n 0, 1) := by decide +kernel
theorem dX12_sheet_90 : decode cX12_sheet 90 = .ok (.getfield 22, 3) := by decide +kernel
theorem dX12_sheet_93 : decode cX12_sheet 93 = .ok (.bipush 60, 2) := by decide +kernel
theorem dX12_sheet_95 : decode cX12_sheet 95 = .ok (.iload_n 1, 1) := by decide +kernel
theorem dX12_sheet_96 : decode cX12_sheet 96 = .ok (.imul, 1) := by decide +kernel
theorem dX12_sheet_97 : decode cX12_sheet 97 = .ok (.iload 4, 2) := by decide +kernel
theorem dX12_sheet_99 : decode cX12_sheet 99 = .ok (.iadd, 1) := by decide +kernel
theorem dX12_sheet_100 : decode cX12_sheet 100 = .ok (.iconst 0, 1) := by decide +kernel
theorem dX12_sheet_101 : decode cX12_sheet 101 = .ok (.iastore, 1) := by decide +kernel
theorem dX12_sheet_102 : decode cX12_sheet 102 = .ok (.iinc 4 1, 3) := by decide +kernel
theorem dX12_sheet_105 : decode cX12_sheet 105 = .ok (.goto (-23), 3) := by decide +kernel
set_option maxHeartbeats 4000000 in
set_option maxRecDepth 100000 in
theorem c_X12_sheet_l82 (l : Launch) (g : kG) (z : Nat → Nat) (s_ : Int32) (b : Int32) (n_ : Int32) {p : Program} {e : Env} {s : State} {m : MethodId} {below : List Frame} {meth : Method} {c : Code} {A : Nat → Prop} (hx : p.tables.exec = Jvm.exec) (hb : c.code = cX12_sheet) (hr : meth.sig.returnType = (some .int)) (hml : c.maxLocals = 5) (hown : s.vm.findClass RX12 = some m.cls) (hts : ∀ w ∈ wsL_law, w.before ([.ref (z 0), .int s_, .int b, .int n_] : List Value).toArray s = true) (hlk : meth.locks = false) (hnm : meth.name = yX12_sheet.name) (hKW : kKW g s) (hA : ∀ q, s.heap.size ≤ q → A q) :
    ∀ (n : Nat) (a : Nat) (i : Nat) (f : Nat → Int32) (hi : i ≤ 60) (hfuel : 60 < i + n) (ha : a < 4) (hsa : s_ = nI a) (hfin : aSheet s_ b n_ = if b.toInt = 0 then 0 else n_) (H : Heap) (locs : List Loc), va_P g.1 vwCl [(z 0, .inr (12, [.ref (z 1), .ref (z 2), .int 0, .int 0, .ref (z 3), .ref (z 4), .ref (z 5), .ref (z 6), .int 0, .ref (z 7), .ref (z 8), .ref (z 9), .ref (z 10), .ref (z 11), .ref (z 12), .int 0, .ref (z 13), .ref (z 14), .int 0, .ref (z 15)])), (z 5, .inl (gI g, 240, .inl f))] H → va_D A [(z 0, .inr (12, [.ref (z 1), .ref (z 2), .int 0, .int 0, .ref (z 3), .ref (z 4), .ref (z 5), .ref (z 6), .int 0, .ref (z 7), .ref (z 8), .ref (z 9), .ref (z 10), .ref (z 11), .ref (z 12), .int 0, .ref (z 13), .ref (z 14), .int 0, .ref (z 15)])), (z 5, .inl (gI g, 240, .inl f))] → va_S A s.heap H locs → ∀ (ls : Array Slot), lv_has ls 5 [(0, .ref (z 0)), (1, .int s_), (2, .int b), (3, .int n_), (4, .int (nI i))] → W p l e (kR 6 0 0) s m ([.ref (z 0), .int s_, .int b, .int n_] : List Value).toArray below meth c H locs 0 0 (MQ below (va_Qi (fun (r : Int32) (u : Unit) => r = aSheet s_ b n_) (fun u t => kPost g A ((fun (u : Unit) => ([] : va_W)) u) t) A) ([.ref (z 0), .int s_, .int b, .int n_] : List Value).toArray s 0 0 A) (F0 m 82 ls []) := by
  intro n
  induction n with
  | zero =>
    intro a i f hi hfuel ha hsa hfin
    exact absurd hfuel (by omega)
  | succ n ih =>
    intro a i f hi hfuel ha hsa hfin H locs hP hD hS ls hl
    refine lv_iload hx hb dX12_sheet_82 (lv_at hl 4 rfl) ?_
    refine lv_bipush (v := 60) hx hb dX12_sheet_84 (by decide) ?_
    refine lv_icmp_ge (tgt := 108) hx hb dX12_sheet_86 (by decide) (fun c_62 => ?_) (fun c_62 => ?_)
    · refine lv_iload_n hx hb dX12_sheet_108 rfl (lv_at hl 2 rfl) ?_
      refine lv_if_ne (tgt := 116) hx hb dX12_sheet_109 (by decide) (fun c_63 => ?_) (fun c_63 => ?_)
      · refine lv_iload_n hx hb dX12_sheet_116 rfl (lv_at hl 3 rfl) ?_
        exact k_iret () [] hx hb hr hlk hP hD hS (by clear hP hD hS hA hts hKW hl; rw [hfin]; clear hsa; split <;> first | rfl | (exfalso; first | omega | (simp only [Int32.lt_iff_toInt_lt, Int32.le_iff_toInt_le, ← Int32.toInt_inj] at *; omega) | (simp only [Int32.lt_iff_toInt_lt, Int32.le_iff_toInt_le, ← Int32.toInt_inj] at *; simp at *; omega) | (simp only [Int32.lt_iff_toInt_lt, Int32.le_iff_toInt_le, ← Int32.toInt_inj] at *; simp at *; done) | (simp at *; omega) | (simp at *; done))) rfl rfl rfl (Nat.le_of_ble_eq_true rfl) (Nat.le_of_ble_eq_true rfl) dX12_sheet_117
      · refine lv_iconst (v := 0) hx hb dX12_sheet_112 (by decide) ?_
        refine lv_goto (tgt := 117) hx hb dX12_sheet_113 (by decide) ?_
        exact k_iret () [] hx hb hr hlk hP hD hS (by clear hP hD hS hA hts hKW hl; rw [hfin]; clear hsa; split <;> first | rfl | (exfalso; first | omega | (simp only [Int32.lt_iff_toInt_lt, Int32.le_iff_toInt_le, ← Int32.toInt_inj] at *; omega) | (simp only [Int32.lt_iff_toInt_lt, Int32.le_iff_toInt_le, ← Int32.toInt_inj] at *; simp at *; omega) | (simp only [Int32.lt_iff_toInt_lt, Int32.le_iff_toInt_le, ← Int32.toInt_inj] at *; simp at *; done) | (simp at *; omega) | (simp at *; done))) rfl rfl rfl (Nat.le_of_ble_eq_true rfl) (Nat.le_of_ble_eq_true rfl) dX12_sheet_117
    · have hlt : i < 60 := k_lt (by decide) hi c_62
      refine lv_aload_n hx hb dX12_sheet_89 rfl (lv_at hl 0 rfl) ?_
      refine va_get (ci := 12) (C := RX12) (T := TX12) (N := 20) hx hb hts inlX12 hown hKW.1 hP 0 rfl rfl 6 (by decide) (hts _ wd_6_9) (fun _ h => h) rfl dX12_sheet_90 ?_
      refine lv_bipush (v := 60) hx hb dX12_sheet_93 (by decide) ?_
      refine lv_iload_n hx hb dX12_sheet_95 rfl (lv_at hl 1 rfl) ?_
      refine lv_imul hx hb dX12_sheet_96 ?_
      refine lv_iload hx hb dX12_sheet_97 (lv_at hl 4 rfl) ?_
      refine lv_iadd hx hb dX12_sheet_99 ?_
      refine k_top (y := nI (i + 60 * a)) (k_60 hsa) ?_
      refine lv_iconst (v := 0) hx hb dX12_sheet_100 (by decide) ?_
      refine va_iast hx hb hKW.1 hP hD hS 1 0 rfl rfl (vp_in_nI (by omega) (by decide)) dX12_sheet_101 (fun H locs hP hD hS => ?_)
      have hP : va_P g.1 vwCl [(z 0, .inr (12, [.ref (z 1), .ref (z 2), .int 0, .int 0, .ref (z 3), .ref (z 4), .ref (z 5), .ref (z 6), .int 0, .ref (z 7), .ref (z 8), .ref (z 9), .ref (z 10), .ref (z 11), .ref (z 12), .int 0, .ref (z 13), .ref (z 14), .int 0, .ref (z 15)])), (z 5, .inl (gI g, 240, .inl (upd f (nI (i + 60 * a)).toNatClampNeg 0)))] H := hP
      have hD : va_D A [(z 0, .inr (12, [.ref (z 1), .ref (z 2), .int 0, .int 0, .ref (z 3), .ref (z 4), .ref (z 5), .ref (z 6), .int 0, .ref (z 7), .ref (z 8), .ref (z 9), .ref (z 10), .ref (z 11), .ref (z 12), .int 0, .ref (z 13), .ref (z 14), .int 0, .ref (z 15)])), (z 5, .inl (gI g, 240, .inl (upd f (nI (i + 60 * a)).toNatClampNeg 0)))] := hD
      obtain ⟨f_64, ef_64⟩ : ∃ zz_ : Nat → Int32, zz_ = upd f (nI (i + 60 * a)).toNatClampNeg 0 := ⟨_, rfl⟩
      rw [← ef_64] at hP hD
      refine lv_iinc (v := nI (i + 1)) (lv' := [(4, .int (nI (i + 1))), (0, .ref (z 0)), (1, .int s_), (2, .int b), (3, .int n_)]) hx hb dX12_sheet_102 hl (k := 4) rfl (by first | exact nI_1 _ | (simp [nI]; done)) (by decide) rfl (fun ls hl => ?_)
      refine lv_goto (tgt := 82) hx hb dX12_sheet_105 (by decide) ?_
      exact ih a (i + 1) f_64 (by omega) (by omega) ha hsa hfin _ _ (hP.sub [0, 1] rfl) (hD.sub [0, 1] (by decide) rfl) hS ls (lv_sub hl [1, 2, 3, 4, 0] rfl)
set_option maxHeartbeats 4000000 in
set_option maxRecDepth 100000 in
theorem c_X12_sheet (l : Launch) (g : kG) (sz : Nat) (z : Nat → Nat) (s_ : Int32) (b : Int32) (n_ : Int32) : kMi l g yX12_sheet cX12_sheet 5 (some .int) 6 0 0 [.ref (z 0), .int s_, .int b, .int n_] sz [(z 0, .inr (12, [.ref (z 1), .ref (z 2), .int 0, .int 0, .ref (z 3), .ref (z 4), .ref (z 5), .ref (z 6), .int 0, .ref (z 7), .ref (z 8), .ref (z 9), .ref (z 10), .ref (z 11), .ref (z 12), .int 0, .ref (z 13), .ref (z 14), .int 0, .ref (z 15)])), (z 3, .inl (gI g, 4, .inl (fun _ => 0))), (z 4, .inl (gI g, 4, .inl (fun _ => 0))), (z 5, .inl (gI g, 240, .inl (fun _ => 0)))] (fun (r : Int32) (u : Unit) => r = aSheet s_ b n_) (fun (u : Unit) => ([] : va_W)) := by
  refine kMi.of (by decide) (Nat.le_of_ble_eq_true rfl) (fun p e s m below meth c A hx hb hr hml hown hts hlk hnm hKW hP hD hS hA ls hl => ?_)
  have hown : s.vm.findClass RX12 = some m.cls := hown
  have hl : lv_has ls 5 [(0, .ref (z 0)), (1, .int s_), (2, .int b), (3, .int n_)] := hl
  refine lv_iload_n hx hb dX12_sheet_0 rfl (lv_at hl 1 rfl) ?_
  refine k_Si [] [0, 1, 2, 3] (wr := [(z 0, .inr (12, [.ref (z 1), .ref (z 2), .int 0, .int 0, .ref (z 3), .ref (z 4), .ref (z 5), .ref (z 6), .int 0, .ref (z 7), .ref (z 8), .ref (z 9), .ref (z 10), .ref (z 11), .ref (z 12), .int 0, .ref (z 13), .ref (z 14), .int 0, .ref (z 15)])), (z 3, .inl (gI g, 4, .inl (fun _ => 0))), (z 4, .inl (gI g, 4, .inl (fun _ => 0))), (z 5, .inl (gI g, 240, .inl (fun _ => 0)))]) hx hb hml hown hts hKW hP hD hS hA hl.1 (c_X12_isSheet l g _ s_ ) wd_38_14 wd_1_5 wd_38_12 wd_38_13 yd_X12_isSheet ⟨Nat.le_of_ble_eq_true rfl, Nat.le_of_ble_eq_true rfl⟩ rfl rfl rfl rfl rfl (by decide) rfl (Nat.le_of_ble_eq_true rfl) dX12_sheet_1 ⟨Nat.le_of_ble_eq_true rfl, Nat.le_of_ble_eq_true rfl⟩ (fun r_1 u_2 H locs hw_3 hP hD hS => ?_)
  have hP : va_P g.1 vwCl [(z 0, .inr (12, [.ref (z 1), .ref (z 2), .int 0, .int 0, .ref (z 3), .ref (z 4), .ref (z 5), .ref (z 6), .int 0, .ref (z 7), .ref (z 8), .ref (z 9), .ref (z 10), .ref (z 11), .ref (z 12), .int 0, .ref (z 13), .ref (z 14), .int 0, .ref (z 15)])), (z 3, .inl (gI g, 4, .inl (fun _ => 0))), (z 4, .inl (gI g, 4, .inl (fun _ => 0))), (z 5, .inl (gI g, 240, .inl (fun _ => 0)))] H := hP
  have hD : va_D A [(z 0, .inr (12, [.ref (z 1), .ref (z 2), .int 0, .int 0, .ref (z 3), .ref (z 4), .ref (z 5), .ref (z 6), .int 0, .ref (z 7), .ref (z 8), .ref (z 9), .ref (z 10), .ref (z 11), .ref (z 12), .int 0, .ref (z 13), .ref (z 14), .int 0, .ref (z 15)])), (z 3, .inl (gI g, 4, .inl (fun _ => 0))), (z 4, .inl (gI g, 4, .inl (fun _ => 0))), (z 5, .inl (gI g, 240, .inl (fun _ => 0)))] := hD
  rcases (show (r_1 = 1 ∧ ((0 : Int) ≤ Int32.toInt s_ ∧ Int32.toInt s_ ≤ 3)) ∨ (r_1 = 0 ∧ ¬ ((0 : Int) ≤ Int32.toInt s_ ∧ Int32.toInt s_ ≤ 3)) from hw_3) with ⟨rfl, hw_3b⟩ | ⟨rfl, hw_3b⟩ <;> clear hw_3
  · refine lv_if_eq (tgt := 29) hx hb dX12_sheet_4 (by decide) (fun c => absurd c (by decide)) (fun _ => ?_)
    refine lv_iload_n hx hb dX12_sheet_7 rfl (lv_at hl 2 rfl) ?_
    refine lv_if_eq (tgt := 35) hx hb dX12_sheet_8 (by decide) (fun c_4 => ?_) (fun c_4 => ?_)
    · refine lv_iload_n hx hb dX12_sheet_35 rfl (lv_at hl 3 rfl) ?_
      refine lv_if_ge (tgt := 45) hx hb dX12_sheet_36 (by decide) (fun c_5 => ?_) (fun c_5 => ?_)
      · refine lv_iload_n hx hb dX12_sheet_45 rfl (lv_at hl 3 rfl) ?_
        refine lv_bipush (v := 60) hx hb dX12_sheet_46 (by decide) ?_
        refine lv_icmp_le (tgt := 57) hx hb dX12_sheet_48 (by decide) (fun c_6 => ?_) (fun c_6 => ?_)
        · have hs : ∃ j : Nat, j < 4 ∧ s_ = nI j := k_ofr (by decide) (by clear hP hD hS hA hts hKW hl; first | omega | (simp only [Int32.lt_iff_toInt_lt, Int32.le_iff_toInt_le, ← Int32.toInt_inj] at *; omega) | (simp only [Int32.lt_iff_toInt_lt, Int32.le_iff_toInt_le, ← Int32.toInt_inj] at *; simp at *; omega) | (simp only [Int32.lt_iff_toInt_lt, Int32.le_iff_toInt_le, ← Int32.toInt_inj] at *; simp at *; done) | (simp at *; omega) | (simp at *; done))
          obtain ⟨a, ha, hsa⟩ := hs
          have hfin : aSheet s_ b n_ = if b.toInt = 0 then 0 else n_ := (by clear hP hD hS hA hts hKW hl; clear hsa; unfold aSheet; (repeat' split) <;> first | rfl | (exfalso; first | omega | (simp only [Int32.lt_iff_toInt_lt, Int32.le_iff_toInt_le, ← Int32.toInt_inj] at *; omega) | (simp only [Int32.lt_iff_toInt_lt, Int32.le_iff_toInt_le, ← Int32.toInt_inj] at *; simp at *; omega) | (simp only [Int32.lt_iff_toInt_lt, Int32.le_iff_toInt_le, ← Int32.toInt_inj] at *; simp at *; done) | (simp at *; omega) | (simp at *; done)))
          refine lv_aload_n hx hb dX12_sheet_57 rfl (lv_at hl 0 rfl) ?_
          refine va_get (ci := 12) (C := RX12) (T := TX12) (N := 20) hx hb hts inlX12 hown hKW.1 hP 0 rfl rfl 4 (by decide) (hts _ wd_6_7) (fun _ h => h) rfl dX12_sheet_58 ?_
          refine lv_iload_n hx hb dX12_sheet_61 rfl (lv_at hl 1 rfl) ?_
          refine lv_iload_n hx hb dX12_sheet_62 rfl (lv_at hl 2 rfl) ?_
          refine va_iast hx hb hKW.1 hP hD hS 1 0 rfl rfl (by clear hP hD hS hA hts hKW hl; rw [vp_in_iff]; constructor <;> (first | omega | (simp only [Int32.lt_iff_toInt_lt, Int32.le_iff_toInt_le, ← Int32.toInt_inj] at *; omega) | (simp only [Int32.lt_iff_toInt_lt, Int32.le_iff_toInt_le, ← Int32.toInt_inj] at *; simp at *; omega) | (simp only [Int32.lt_iff_toInt_lt, Int32.le_iff_toInt_le, ← Int32.toInt_inj] at *; simp at *; done) | (simp at *; omega) | (simp at *; done))) dX12_sheet_63 (fun H locs hP hD hS => ?_)
          have hP : va_P g.1 vwCl [(z 0, .inr (12, [.ref (z 1), .ref (z 2), .int 0, .int 0, .ref (z 3), .ref (z 4), .ref (z 5), .ref (z 6), .int 0, .ref (z 7), .ref (z 8), .ref (z 9), .ref (z 10), .ref (z 11), .ref (z 12), .int 0, .ref (z 13), .ref (z 14), .int 0, .ref (z 15)])), (z 3, .inl (gI g, 4, .inl (upd (fun _ => 0) s_.toNatClampNeg b))), (z 4, .inl (gI g, 4, .inl (fun _ => 0))), (z 5, .inl (gI g, 240, .inl (fun _ => 0)))] H := hP
          have hD : va_D A [(z 0, .inr (12, [.ref (z 1), .ref (z 2), .int 0, .int 0, .ref (z 3), .ref (z 4), .ref (z 5), .ref (z 6), .int 0, .ref (z 7), .ref (z 8), .ref (z 9), .ref (z 10), .ref (z 11), .ref (z 12), .int 0, .ref (z 13), .ref (z 14), .int 0, .ref (z 15)])), (z 3, .inl (gI g, 4, .inl (upd (fun _ => 0) s_.toNatClampNeg b))), (z 4, .inl (gI g, 4, .inl (fun _ => 0))), (z 5, .inl (gI g, 240, .inl (fun _ => 0)))] := hD
          obtain ⟨f_7, ef_7⟩ : ∃ zz_ : Nat → Int32, zz_ = upd (fun _ => 0) s_.toNatClampNeg b := ⟨_, rfl⟩
          rw [← ef_7] at hP hD
          refine lv_aload_n hx hb dX12_sheet_64 rfl (lv_at hl 0 rfl) ?_
          refine va_get (ci := 12) (C := RX12) (T := TX12) (N := 20) hx hb hts inlX12 hown hKW.1 hP 0 rfl rfl 5 (by decide) (hts _ wd_6_8) (fun _ h => h) rfl dX12_sheet_65 ?_
          refine lv_iload_n hx hb dX12_sheet_68 rfl (lv_at hl 1 rfl) ?_
          refine lv_iload_n hx hb dX12_sheet_69 rfl (lv_at hl 2 rfl) ?_
          refine lv_if_ne (tgt := 77) hx hb dX12_sheet_70 (by decide) (fun c_8 => ?_) (fun c_8 => ?_)
          · refine lv_iload_n hx hb dX12_sheet_77 rfl (lv_at hl 3 rfl) ?_
            refine va_iast hx hb hKW.1 hP hD hS 2 0 rfl rfl (by clear hP hD hS hA hts hKW hl; rw [vp_in_iff]; constructor <;> (first | omega | (simp only [Int32.lt_iff_toInt_lt, Int32.le_iff_toInt_le, ← Int32.toInt_inj] at *; omega) | (simp only [Int32.lt_iff_toInt_lt, Int32.le_iff_toInt_le, ← Int32.toInt_inj] at *; simp at *; omega) | (simp only [Int32.lt_iff_toInt_lt, Int32.le_iff_toInt_le, ← Int32.toInt_inj] at *; simp at *; done) | (simp at *; omega) | (simp at *; done))) dX12_sheet_78 (fun H locs hP hD hS => ?_)
            have hP : va_P g.1 vwCl [(z 0, .inr (12, [.ref (z 1), .ref (z 2), .int 0, .int 0, .ref (z 3), .ref (z 4), .ref (z 5), .ref (z 6), .int 0, .ref (z 7), .ref (z 8), .ref (z 9), .ref (z 10), .ref (z 11), .ref (z 12), .int 0, .ref (z 13), .ref (z 14), .int 0, .ref (z 15)])), (z 3, .inl (gI g, 4, .inl f_7)), (z 4, .inl (gI g, 4, .inl (upd (fun _ => 0) s_.toNatClampNeg n_))), (z 5, .inl (gI g, 240, .inl (fun _ => 0)))] H := hP
            have hD : va_D A [(z 0, .inr (12, [.ref (z 1), .ref (z 2), .int 0, .int 0, .ref (z 3), .ref (z 4), .ref (z 5), .ref (z 6), .int 0, .ref (z 7), .ref (z 8), .ref (z 9), .ref (z 10), .ref (z 11), .ref (z 12), .int 0, .ref (z 13), .ref (z 14), .int 0, .ref (z 15)])), (z 3, .inl (gI g, 4, .inl f_7)), (z 4, .inl (gI g, 4, .inl (upd (fun _ => 0) s_.toNatClampNeg n_))), (z 5, .inl (gI g, 240, .inl (fun _ => 0)))] := hD
            obtain ⟨f_9, ef_9⟩ : ∃ zz_ : Nat → Int32, zz_ = upd (fun _ => 0) s_.toNatClampNeg n_ := ⟨_, rfl⟩
            rw [← ef_9] at hP hD
            refine lv_iconst (v := 0) hx hb dX12_sheet_79 (by decide) ?_
            refine lv_istore (lv' := [(4, .int 0), (0, .ref (z 0)), (1, .int s_), (2, .int b), (3, .int n_)]) hx hb dX12_sheet_80 hl (by decide) rfl (fun ls hl => ?_)
            exact c_X12_sheet_l82 l g z s_ b n_  hx hb hr hml hown hts hlk hnm hKW hA 61 a 0 (fun _ => 0) (by omega) (by omega) ha hsa hfin _ _ (hP.sub [0, 3] rfl) (hD.sub [0, 3] (by decide) rfl) hS ls (lv_sub hl [1, 2, 3, 4, 0] rfl)
          · refine lv_iconst (v := 0) hx hb dX12_sheet_73 (by decide) ?_
            refine lv_goto (tgt := 78) hx hb dX12_sheet_74 (by decide) ?_
            refine va_iast hx hb hKW.1 hP hD hS 2 0 rfl rfl (by clear hP hD hS hA hts hKW hl; rw [vp_in_iff]; constructor <;> (first | omega | (simp only [Int32.lt_iff_toInt_lt, Int32.le_iff_toInt_le, ← Int32.toInt_inj] at *; omega) | (simp only [Int32.lt_iff_toInt_lt, Int32.le_iff_toInt_le, ← Int32.toInt_inj] at *; simp at *; omega) | (simp only [Int32.lt_iff_toInt_lt, Int32.le_iff_toInt_le, ← Int32.toInt_inj] at *; simp at *; done) | (simp at *; omega) | (simp at *; done))) dX12_sheet_78 (fun H locs hP hD hS => ?_)
            have hP : va_P g.1 vwCl [(z 0, .inr (12, [.ref (z 1), .ref (z 2), .int 0, .int 0, .ref (z 3), .ref (z 4), .ref (z 5), .ref (z 6), .int 0, .ref (z 7), .ref (z 8), .ref (z 9), .ref (z 10), .ref (z 11), .ref (z 12), .int 0, .ref (z 13), .ref (z 14), .int 0, .ref (z 15)])), (z 3, .inl (gI g, 4, .inl f_7)), (z 4, .inl (gI g, 4, .inl (upd (fun _ => 0) s_.toNatClampNeg 0))), (z 5, .inl (gI g, 240, .inl (fun _ => 0)))] H := hP
            have hD : va_D A [(z 0, .inr (12, [.ref (z 1), .ref (z 2), .int 0, .int 0, .ref (z 3), .ref (z 4), .ref (z 5), .ref (z 6), .int 0, .ref (z 7), .ref (z 8), .ref (z 9), .ref (z 10), .ref (z 11), .ref (z 12), .int 0, .ref (z 13), .ref (z 14), .int 0, .ref (z 15)])), (z 3, .inl (gI g, 4, .inl f_7)), (z 4, .inl (gI g, 4, .inl (upd (fun _ => 0) s_.toNatClampNeg 0))), (z 5, .inl (gI g, 240, .inl (fun _ => 0)))] := hD
            obtain ⟨f_10, ef_10⟩ : ∃ zz_ : Nat → Int32, zz_ = upd (fun _ => 0) s_.toNatClampNeg 0 := ⟨_, rfl⟩
            rw [← ef_10] at hP hD
            refine lv_iconst (v := 0) hx hb dX12_sheet_79 (by decide) ?_
            refine lv_istore (lv' := [(4, .int 0), (0, .ref (z 0)), (1, .int s_), (2, .int b), (3, .int n_)]) hx hb dX12_sheet_80 hl (by decide) rfl (fun ls hl => ?_)
            exact c_X12_sheet_l82 l g z s_ b n_  hx hb hr hml hown hts hlk hnm hKW hA 61 a 0 (fun _ => 0) (by omega) (by omega) ha hsa hfin _ _ (hP.sub [0, 3] rfl) (hD.sub [0, 3] (by decide) rfl) hS ls (lv_sub hl [1, 2, 3, 4, 0] rfl)
        · refine lv_aload_n hx hb dX12_sheet_51 rfl (lv_at hl 0 rfl) ?_
          refine lv_iconst (v := 1) hx hb dX12_sheet_52 (by decide) ?_
          refine k_Vi [0] [1, 2, 3] 0 12 (wr := [(z 3, .inl (gI g, 4, .inl (fun _ => 0))), (z 4, .inl (gI g, 4, .inl (fun _ => 0))), (z 5, .inl (gI g, 240, .inl (fun _ => 0)))]) hx hb hml hown hts hKW hP hD hS hA hl.1 (c_X12_finding_1 l g _ (z 0) (z 1) (z 2) (z 3) (z 4) (z 5) (z 6) (z 7) (z 8) (z 9) (z 10) (z 11) (z 12) (z 13) (z 14) (z 15) 0 0 0 0 0 ) rfl rfl rfl wd_10_15 wd_1_5 wd_10_12 wd_10_13 wd_10_14 yd_X12_finding ⟨Nat.le_of_ble_eq_true rfl, Nat.le_of_ble_eq_true rfl⟩ rfl rfl rfl rfl rfl (by decide) rfl (Nat.le_of_ble_eq_true rfl) dX12_sheet_53 ⟨Nat.le_of_ble_eq_true rfl, Nat.le_of_ble_eq_true rfl⟩ (fun r_11 u_12 H locs hw_13 hP hD hS => ?_)
          have hP : va_P g.1 vwCl [(z 3, .inl (gI g, 4, .inl (fun _ => 0))), (z 4, .inl (gI g, 4, .inl (fun _ => 0))), (z 5, .inl (gI g, 240, .inl (fun _ => 0)))] H := hP
          have hD : va_D A [(z 3, .inl (gI g, 4, .inl (fun _ => 0))), (z 4, .inl (gI g, 4, .inl (fun _ => 0))), (z 5, .inl (gI g, 240, .inl (fun _ => 0)))] := hD
          have hw_13 : r_11 = (-100001) := hw_13
          subst hw_13
          exact k_iret () [] hx hb hr hlk hP hD hS (by clear hP hD hS hA hts hKW hl; unfold aSheet; (repeat' split) <;> first | rfl | (exfalso; first | omega | (simp only [Int32.lt_iff_toInt_lt, Int32.le_iff_toInt_le, ← Int32.toInt_inj] at *; omega) | (simp only [Int32.lt_iff_toInt_lt, Int32.le_iff_toInt_le, ← Int32.toInt_inj] at *; simp at *; omega) | (simp only [Int32.lt_iff_toInt_lt, Int32.le_iff_toInt_le, ← Int32.toInt_inj] at *; simp at *; done) | (simp at *; omega) | (simp at *; done))) rfl rfl rfl (Nat.le_of_ble_eq_true rfl) (Nat.le_of_ble_eq_true rfl) dX12_sheet_56
      · refine lv_aload_n hx hb dX12_sheet_39 rfl (lv_at hl 0 rfl) ?_
        refine lv_iconst (v := 3) hx hb dX12_sheet_40 (by decide) ?_
        refine k_Vi [0] [1, 2, 3] 0 12 (wr := [(z 3, .inl (gI g, 4, .inl (fun _ => 0))), (z 4, .inl (gI g, 4, .inl (fun _ => 0))), (z 5, .inl (gI g, 240, .inl (fun _ => 0)))]) hx hb hml hown hts hKW hP hD hS hA hl.1 (c_X12_finding_3 l g _ (z 0) (z 1) (z 2) (z 3) (z 4) (z 5) (z 6) (z 7) (z 8) (z 9) (z 10) (z 11) (z 12) (z 13) (z 14) (z 15) 0 0 0 0 0 ) rfl rfl rfl wd_10_15 wd_1_5 wd_10_12 wd_10_13 wd_10_14 yd_X12_finding ⟨Nat.le_of_ble_eq_true rfl, Nat.le_of_ble_eq_true rfl⟩ rfl rfl rfl rfl rfl (by decide) rfl (Nat.le_of_ble_eq_true rfl) dX12_sheet_41 ⟨Nat.le_of_ble_eq_true rfl, Nat.le_of_ble_eq_true rfl⟩ (fun r_14 u_15 H locs hw_16 hP hD hS => ?_)
        have hP : va_P g.1 vwCl [(z 3, .inl (gI g, 4, .inl (fun _ => 0))), (z 4, .inl (gI g, 4, .inl (fun _ => 0))), (z 5, .inl (gI g, 240, .inl (fun _ => 0)))] H := hP
        have hD : va_D A [(z 3, .inl (gI g, 4, .inl (fun _ => 0))), (z 4, .inl (gI g, 4, .inl (fun _ => 0))), (z 5, .inl (gI g, 240, .inl (fun _ => 0)))] := hD
        have hw_16 : r_14 = (-100003) := hw_16
        subst hw_16
        exact k_iret () [] hx hb hr hlk hP hD hS (by clear hP hD hS hA hts hKW hl; unfold aSheet; (repeat' split) <;> first | rfl | (exfalso; first | omega | (simp only [Int32.lt_iff_toInt_lt, Int32.le_iff_toInt_le, ← Int32.toInt_inj] at *; omega) | (simp only [Int32.lt_iff_toInt_lt, Int32.le_iff_toInt_le, ← Int32.toInt_inj] at *; simp at *; omega) | (simp only [Int32.lt_iff_toInt_lt, Int32.le_iff_toInt_le, ← Int32.toInt_inj] at *; simp at *; done) | (simp at *; omega) | (simp at *; done))) rfl rfl rfl (Nat.le_of_ble_eq_true rfl) (Nat.le_of_ble_eq_true rfl) dX12_sheet_44
    · refine lv_iload_n hx hb dX12_sheet_11 rfl (lv_at hl 2 rfl) ?_
      refine lv_bipush (v := 8) hx hb dX12_sheet_12 (by decide) ?_
      refine lv_icmp_eq (tgt := 35) hx hb dX12_sheet_14 (by decide) (fun c_17 => ?_) (fun c_17 => ?_)
      · refine lv_iload_n hx hb dX12_sheet_35 rfl (lv_at hl 3 rfl) ?_
        refine lv_if_ge (tgt := 45) hx hb dX12_sheet_36 (by decide) (fun c_18 => ?_) (fun c_18 => ?_)
        · refine lv_iload_n hx hb dX12_sheet_45 rfl (lv_at hl 3 rfl) ?_
          refine lv_bipush (v := 60) hx hb dX12_sheet_46 (by decide) ?_
          refine lv_icmp_le (tgt := 57) hx hb dX12_sheet_48 (by decide) (fun c_19 => ?_) (fun c_19 => ?_)
          · have hs : ∃ j : Nat, j < 4 ∧ s_ = nI j := k_ofr (by decide) (by clear hP hD hS hA hts hKW hl; first | omega | (simp only [Int32.lt_iff_toInt_lt, Int32.le_iff_toInt_le, ← Int32.toInt_inj] at *; omega) | (simp only [Int32.lt_iff_toInt_lt, Int32.le_iff_toInt_le, ← Int32.toInt_inj] at *; simp at *; omega) | (simp only [Int32.lt_iff_toInt_lt, Int32.le_iff_toInt_le, ← Int32.toInt_inj] at *; simp at *; done) | (simp at *; omega) | (simp at *; done))
            obtain ⟨a, ha, hsa⟩ := hs
            have hfin : aSheet s_ b n_ = if b.toInt = 0 then 0 else n_ := (by clear hP hD hS hA hts hKW hl; clear hsa; unfold aSheet; (repeat' split) <;> first | rfl | (exfalso; first | omega | (simp only [Int32.lt_iff_toInt_lt, Int32.le_iff_toInt_le, ← Int32.toInt_inj] at *; omega) | (simp only [Int32.lt_iff_toInt_lt, Int32.le_iff_toInt_le, ← Int32.toInt_inj] at *; simp at *; omega) | (simp only [Int32.lt_iff_toInt_lt, Int32.le_iff_toInt_le, ← Int32.toInt_inj] at *; simp at *; done) | (simp at *; omega) | (simp at *; done)))
            refine lv_aload_n hx hb dX12_sheet_57 rfl (lv_at hl 0 rfl) ?_
            refine va_get (ci := 12) (C := RX12) (T := TX12) (N := 20) hx hb hts inlX12 hown hKW.1 hP 0 rfl rfl 4 (by decide) (hts _ wd_6_7) (fun _ h => h) rfl dX12_sheet_58 ?_
            refine lv_iload_n hx hb dX12_sheet_61 rfl (lv_at hl 1 rfl) ?_
            refine lv_iload_n hx hb dX12_sheet_62 rfl (lv_at hl 2 rfl) ?_
            refine va_iast hx hb hKW.1 hP hD hS 1 0 rfl rfl (by clear hP hD hS hA hts hKW hl; rw [vp_in_iff]; constructor <;> (first | omega | (simp only [Int32.lt_iff_toInt_lt, Int32.le_iff_toInt_le, ← Int32.toInt_inj] at *; omega) | (simp only [Int32.lt_iff_toInt_lt, Int32.le_iff_toInt_le, ← Int32.toInt_inj] at *; simp at *; omega) | (simp only [Int32.lt_iff_toInt_lt, Int32.le_iff_toInt_le, ← Int32.toInt_inj] at *; simp at *; done) | (simp at *; omega) | (simp at *; done))) dX12_sheet_63 (fun H locs hP hD hS => ?_)
            have hP : va_P g.1 vwCl [(z 0, .inr (12, [.ref (z 1), .ref (z 2), .int 0, .int 0, .ref (z 3), .ref (z 4), .ref (z 5), .ref (z 6), .int 0, .ref (z 7), .ref (z 8), .ref (z 9), .ref (z 10), .ref (z 11), .ref (z 12), .int 0, .ref (z 13), .ref (z 14), .int 0, .ref (z 15)])), (z 3, .inl (gI g, 4, .inl (upd (fun _ => 0) s_.toNatClampNeg b))), (z 4, .inl (gI g, 4, .inl (fun _ => 0))), (z 5, .inl (gI g, 240, .inl (fun _ => 0)))] H := hP
            have hD : va_D A [(z 0, .inr (12, [.ref (z 1), .ref (z 2), .int 0, .int 0, .ref (z 3), .ref (z 4), .ref (z 5), .ref (z 6), .int 0, .ref (z 7), .ref (z 8), .ref (z 9), .ref (z 10), .ref (z 11), .ref (z 12), .int 0, .ref (z 13), .ref (z 14), .int 0, .ref (z 15)])), (z 3, .inl (gI g, 4, .inl (upd (fun _ => 0) s_.toNatClampNeg b))), (z 4, .inl (gI g, 4, .inl (fun _ => 0))), (z 5, .inl (gI g, 240, .inl (fun _ => 0)))] := hD
            obtain ⟨f_20, ef_20⟩ : ∃ zz_ : Nat → Int32, zz_ = upd (fun _ => 0) s_.toNatClampNeg b := ⟨_, rfl⟩
            rw [← ef_20] at hP hD
            refine lv_aload_n hx hb dX12_sheet_64 rfl (lv_at hl 0 rfl) ?_
            refine va_get (ci := 12) (C := RX12) (T := TX12) (N := 20) hx hb hts inlX12 hown hKW.1 hP 0 rfl rfl 5 (by decide) (hts _ wd_6_8) (fun _ h => h) rfl dX12_sheet_65 ?_
            refine lv_iload_n hx hb dX12_sheet_68 rfl (lv_at hl 1 rfl) ?_
            refine lv_iload_n hx hb dX12_sheet_69 rfl (lv_at hl 2 rfl) ?_
            refine lv_if_ne (tgt := 77) hx hb dX12_sheet_70 (by decide) (fun c_21 => ?_) (fun c_21 => ?_)
            · refine lv_iload_n hx hb dX12_sheet_77 rfl (lv_at hl 3 rfl) ?_
              refine va_iast hx hb hKW.1 hP hD hS 2 0 rfl rfl (by clear hP hD hS hA hts hKW hl; rw [vp_in_iff]; constructor <;> (first | omega | (simp only [Int32.lt_iff_toInt_lt, Int32.le_iff_toInt_le, ← Int32.toInt_inj] at *; omega) | (simp only [Int32.lt_iff_toInt_lt, Int32.le_iff_toInt_le, ← Int32.toInt_inj] at *; simp at *; omega) | (simp only [Int32.lt_iff_toInt_lt, Int32.le_iff_toInt_le, ← Int32.toInt_inj] at *; simp at *; done) | (simp at *; omega) | (simp at *; done))) dX12_sheet_78 (fun H locs hP hD hS => ?_)
              have hP : va_P g.1 vwCl [(z 0, .inr (12, [.ref (z 1), .ref (z 2), .int 0, .int 0, .ref (z 3), .ref (z 4), .ref (z 5), .ref (z 6), .int 0, .ref (z 7), .ref (z 8), .ref (z 9), .ref (z 10), .ref (z 11), .ref (z 12), .int 0, .ref (z 13), .ref (z 14), .int 0, .ref (z 15)])), (z 3, .inl (gI g, 4, .inl f_20)), (z 4, .inl (gI g, 4, .inl (upd (fun _ => 0) s_.toNatClampNeg n_))), (z 5, .inl (gI g, 240, .inl (fun _ => 0)))] H := hP
              have hD : va_D A [(z 0, .inr (12, [.ref (z 1), .ref (z 2), .int 0, .int 0, .ref (z 3), .ref (z 4), .ref (z 5), .ref (z 6), .int 0, .ref (z 7), .ref (z 8), .ref (z 9), .ref (z 10), .ref (z 11), .ref (z 12), .int 0, .ref (z 13), .ref (z 14), .int 0, .ref (z 15)])), (z 3, .inl (gI g, 4, .inl f_20)), (z 4, .inl (gI g, 4, .inl (upd (fun _ => 0) s_.toNatClampNeg n_))), (z 5, .inl (gI g, 240, .inl (fun _ => 0)))] := hD
              obtain ⟨f_22, ef_22⟩ : ∃ zz_ : Nat → Int32, zz_ = upd (fun _ => 0) s_.toNatClampNeg n_ := ⟨_, rfl⟩
              rw [← ef_22] at hP hD
              refine lv_iconst (v := 0) hx hb dX12_sheet_79 (by decide) ?_
              refine lv_istore (lv' := [(4, .int 0), (0, .ref (z 0)), (1, .int s_), (2, .int b), (3, .int n_)]) hx hb dX12_sheet_80 hl (by decide) rfl (fun ls hl => ?_)
              exact c_X12_sheet_l82 l g z s_ b n_  hx hb hr hml hown hts hlk hnm hKW hA 61 a 0 (fun _ => 0) (by omega) (by omega) ha hsa hfin _ _ (hP.sub [0, 3] rfl) (hD.sub [0, 3] (by decide) rfl) hS ls (lv_sub hl [1, 2, 3, 4, 0] rfl)
            · refine lv_iconst (v := 0) hx hb dX12_sheet_73 (by decide) ?_
              refine lv_goto (tgt := 78) hx hb dX12_sheet_74 (by decide) ?_
              refine va_iast hx hb hKW.1 hP hD hS 2 0 rfl rfl (by clear hP hD hS hA hts hKW hl; rw [vp_in_iff]; constructor <;> (first | omega | (simp only [Int32.lt_iff_toInt_lt, Int32.le_iff_toInt_le, ← Int32.toInt_inj] at *; omega) | (simp only [Int32.lt_iff_toInt_lt, Int32.le_iff_toInt_le, ← Int32.toInt_inj] at *; simp at *; omega) | (simp only [Int32.lt_iff_toInt_lt, Int32.le_iff_toInt_le, ← Int32.toInt_inj] at *; simp at *; done) | (simp at *; omega) | (simp at *; done))) dX12_sheet_78 (fun H locs hP hD hS => ?_)
              have hP : va_P g.1 vwCl [(z 0, .inr (12, [.ref (z 1), .ref (z 2), .int 0, .int 0, .ref (z 3), .ref (z 4), .ref (z 5), .ref (z 6), .int 0, .ref (z 7), .ref (z 8), .ref (z 9), .ref (z 10), .ref (z 11), .ref (z 12), .int 0, .ref (z 13), .ref (z 14), .int 0, .ref (z 15)])), (z 3, .inl (gI g, 4, .inl f_20)), (z 4, .inl (gI g, 4, .inl (upd (fun _ => 0) s_.toNatClampNeg 0))), (z 5, .inl (gI g, 240, .inl (fun _ => 0)))] H := hP
              have hD : va_D A [(z 0, .inr (12, [.ref (z 1), .ref (z 2), .int 0, .int 0, .ref (z 3), .ref (z 4), .ref (z 5), .ref (z 6), .int 0, .ref (z 7), .ref (z 8), .ref (z 9), .ref (z 10), .ref (z 11), .ref (z 12), .int 0, .ref (z 13), .ref (z 14), .int 0, .ref (z 15)])), (z 3, .inl (gI g, 4, .inl f_20)), (z 4, .inl (gI g, 4, .inl (upd (fun _ => 0) s_.toNatClampNeg 0))), (z 5, .inl (gI g, 240, .inl (fun _ => 0)))] := hD
              obtain ⟨f_23, ef_23⟩ : ∃ zz_ : Nat → Int32, zz_ = upd (fun _ => 0) s_.toNatClampNeg 0 := ⟨_, rfl⟩
              rw [← ef_23] at hP hD
              refine lv_iconst (v := 0) hx hb dX12_sheet_79 (by decide) ?_
              refine lv_istore (lv' := [(4, .int 0), (0, .ref (z 0)), (1, .int s_), (2, .int b), (3, .int n_)]) hx hb dX12_sheet_80 hl (by decide) rfl (fun ls hl => ?_)
              exact c_X12_sheet_l82 l g z s_ b n_  hx hb hr hml hown hts hlk hnm hKW hA 61 a 0 (fun _ => 0) (by omega) (by omega) ha hsa hfin _ _ (hP.sub [0, 3] rfl) (hD.sub [0, 3] (by decide) rfl) hS ls (lv_sub hl [1, 2, 3, 4, 0] rfl)
          · refine lv_aload_n hx hb dX12_sheet_51 rfl (lv_at hl 0 rfl) ?_
            refine lv_iconst (v := 1) hx hb dX12_sheet_52 (by decide) ?_
            refine k_Vi [0] [1, 2, 3] 0 12 (wr := [(z 3, .inl (gI g, 4, .inl (fun _ => 0))), (z 4, .inl (gI g, 4, .inl (fun _ => 0))), (z 5, .inl (gI g, 240, .inl (fun _ => 0)))]) hx hb hml hown hts hKW hP hD hS hA hl.1 (c_X12_finding_1 l g _ (z 0) (z 1) (z 2) (z 3) (z 4) (z 5) (z 6) (z 7) (z 8) (z 9) (z 10) (z 11) (z 12) (z 13) (z 14) (z 15) 0 0 0 0 0 ) rfl rfl rfl wd_10_15 wd_1_5 wd_10_12 wd_10_13 wd_10_14 yd_X12_finding ⟨Nat.le_of_ble_eq_true rfl, Nat.le_of_ble_eq_true rfl⟩ rfl rfl rfl rfl rfl (by decide) rfl (Nat.le_of_ble_eq_true rfl) dX12_sheet_53 ⟨Nat.le_of_ble_eq_true rfl, Nat.le_of_ble_eq_true rfl⟩ (fun r_24 u_25 H locs hw_26 hP hD hS => ?_)
            have hP : va_P g.1 vwCl [(z 3, .inl (gI g, 4, .inl (fun _ => 0))), (z 4, .inl (gI g, 4, .inl (fun _ => 0))), (z 5, .inl (gI g, 240, .inl (fun _ => 0)))] H := hP
            have hD : va_D A [(z 3, .inl (gI g, 4, .inl (fun _ => 0))), (z 4, .inl (gI g, 4, .inl (fun _ => 0))), (z 5, .inl (gI g, 240, .inl (fun _ => 0)))] := hD
            have hw_26 : r_24 = (-100001) := hw_26
            subst hw_26
            exact k_iret () [] hx hb hr hlk hP hD hS (by clear hP hD hS hA hts hKW hl; unfold aSheet; (repeat' split) <;> first | rfl | (exfalso; first | omega | (simp only [Int32.lt_iff_toInt_lt, Int32.le_iff_toInt_le, ← Int32.toInt_inj] at *; omega) | (simp only [Int32.lt_iff_toInt_lt, Int32.le_iff_toInt_le, ← Int32.toInt_inj] at *; simp at *; omega) | (simp only [Int32.lt_iff_toInt_lt, Int32.le_iff_toInt_le, ← Int32.toInt_inj] at *; simp at *; done) | (simp at *; omega) | (simp at *; done))) rfl rfl rfl (Nat.le_of_ble_eq_true rfl) (Nat.le_of_ble_eq_true rfl) dX12_sheet_56
        · refine lv_aload_n hx hb dX12_sheet_39 rfl (lv_at hl 0 rfl) ?_
          refine lv_iconst (v := 3) hx hb dX12_sheet_40 (by decide) ?_
          refine k_Vi [0] [1, 2, 3] 0 12 (wr := [(z 3, .inl (gI g, 4, .inl (fun _ => 0))), (z 4, .inl (gI g, 4, .inl (fun _ => 0))), (z 5, .inl (gI g, 240, .inl (fun _ => 0)))]) hx hb hml hown hts hKW hP hD hS hA hl.1 (c_X12_finding_3 l g _ (z 0) (z 1) (z 2) (z 3) (z 4) (z 5) (z 6) (z 7) (z 8) (z 9) (z 10) (z 11) (z 12) (z 13) (z 14) (z 15) 0 0 0 0 0 ) rfl rfl rfl wd_10_15 wd_1_5 wd_10_12 wd_10_13 wd_10_14 yd_X12_finding ⟨Nat.le_of_ble_eq_true rfl, Nat.le_of_ble_eq_true rfl⟩ rfl rfl rfl rfl rfl (by decide) rfl (Nat.le_of_ble_eq_true rfl) dX12_sheet_41 ⟨Nat.le_of_ble_eq_true rfl, Nat.le_of_ble_eq_true rfl⟩ (fun r_27 u_28 H locs hw_29 hP hD hS => ?_)
          have hP : va_P g.1 vwCl [(z 3, .inl (gI g, 4, .inl (fun _ => 0))), (z 4, .inl (gI g, 4, .inl (fun _ => 0))), (z 5, .inl (gI g, 240, .inl (fun _ => 0)))] H := hP
          have hD : va_D A [(z 3, .inl (gI g, 4, .inl (fun _ => 0))), (z 4, .inl (gI g, 4, .inl (fun _ => 0))), (z 5, .inl (gI g, 240, .inl (fun _ => 0)))] := hD
          have hw_29 : r_27 = (-100003) := hw_29
          subst hw_29
          exact k_iret () [] hx hb hr hlk hP hD hS (by clear hP hD hS hA hts hKW hl; unfold aSheet; (repeat' split) <;> first | rfl | (exfalso; first | omega | (simp only [Int32.lt_iff_toInt_lt, Int32.le_iff_toInt_le, ← Int32.toInt_inj] at *; omega) | (simp only [Int32.lt_iff_toInt_lt, Int32.le_iff_toInt_le, ← Int32.toInt_inj] at *; simp at *; omega) | (simp only [Int32.lt_iff_toInt_lt, Int32.le_iff_toInt_le, ← Int32.toInt_inj] at *; simp at *; done) | (simp at *; omega) | (simp at *; done))) rfl rfl rfl (Nat.le_of_ble_eq_true rfl) (Nat.le_of_ble_eq_true rfl) dX12_sheet_44
      · refine lv_iload_n hx hb dX12_sheet_17 rfl (lv_at hl 2 rfl) ?_
        refine lv_bipush (v := 16) hx hb dX12_sheet_18 (by decide) ?_
        refine lv_icmp_eq (tgt := 35) hx hb dX12_sheet_20 (by decide) (fun c_30 => ?_) (fun c_30 => ?_)
        · refine lv_iload_n hx hb dX12_sheet_35 rfl (lv_at hl 3 rfl) ?_
          refine lv_if_ge (tgt := 45) hx hb dX12_sheet_36 (by decide) (fun c_31 => ?_) (fun c_31 => ?_)
          · refine lv_iload_n hx hb dX12_sheet_45 rfl (lv_at hl 3 rfl) ?_
            refine lv_bipush (v := 60) hx hb dX12_sheet_46 (by decide) ?_
            refine lv_icmp_le (tgt := 57) hx hb dX12_sheet_48 (by decide) (fun c_32 => ?_) (fun c_32 => ?_)
            · have hs : ∃ j : Nat, j < 4 ∧ s_ = nI j := k_ofr (by decide) (by clear hP hD hS hA hts hKW hl; first | omega | (simp only [Int32.lt_iff_toInt_lt, Int32.le_iff_toInt_le, ← Int32.toInt_inj] at *; omega) | (simp only [Int32.lt_iff_toInt_lt, Int32.le_iff_toInt_le, ← Int32.toInt_inj] at *; simp at *; omega) | (simp only [Int32.lt_iff_toInt_lt, Int32.le_iff_toInt_le, ← Int32.toInt_inj] at *; simp at *; done) | (simp at *; omega) | (simp at *; done))
              obtain ⟨a, ha, hsa⟩ := hs
              have hfin : aSheet s_ b n_ = if b.toInt = 0 then 0 else n_ := (by clear hP hD hS hA hts hKW hl; clear hsa; unfold aSheet; (repeat' split) <;> first | rfl | (exfalso; first | omega | (simp only [Int32.lt_iff_toInt_lt, Int32.le_iff_toInt_le, ← Int32.toInt_inj] at *; omega) | (simp only [Int32.lt_iff_toInt_lt, Int32.le_iff_toInt_le, ← Int32.toInt_inj] at *; simp at *; omega) | (simp only [Int32.lt_iff_toInt_lt, Int32.le_iff_toInt_le, ← Int32.toInt_inj] at *; simp at *; done) | (simp at *; omega) | (simp at *; done)))
              refine lv_aload_n hx hb dX12_sheet_57 rfl (lv_at hl 0 rfl) ?_
              refine va_get (ci := 12) (C := RX12) (T := TX12) (N := 20) hx hb hts inlX12 hown hKW.1 hP 0 rfl rfl 4 (by decide) (hts _ wd_6_7) (fun _ h => h) rfl dX12_sheet_58 ?_
              refine lv_iload_n hx hb dX12_sheet_61 rfl (lv_at hl 1 rfl) ?_
              refine lv_iload_n hx hb dX12_sheet_62 rfl (lv_at hl 2 rfl) ?_
              refine va_iast hx hb hKW.1 hP hD hS 1 0 rfl rfl (by clear hP hD hS hA hts hKW hl; rw [vp_in_iff]; constructor <;> (first | omega | (simp only [Int32.lt_iff_toInt_lt, Int32.le_iff_toInt_le, ← Int32.toInt_inj] at *; omega) | (simp only [Int32.lt_iff_toInt_lt, Int32.le_iff_toInt_le, ← Int32.toInt_inj] at *; simp at *; omega) | (simp only [Int32.lt_iff_toInt_lt, Int32.le_iff_toInt_le, ← Int32.toInt_inj] at *; simp at *; done) | (simp at *; omega) | (simp at *; done))) dX12_sheet_63 (fun H locs hP hD hS => ?_)
              have hP : va_P g.1 vwCl [(z 0, .inr (12, [.ref (z 1), .ref (z 2), .int 0, .int 0, .ref (z 3), .ref (z 4), .ref (z 5), .ref (z 6), .int 0, .ref (z 7), .ref (z 8), .ref (z 9), .ref (z 10), .ref (z 11), .ref (z 12), .int 0, .ref (z 13), .ref (z 14), .int 0, .ref (z 15)])), (z 3, .inl (gI g, 4, .inl (upd (fun _ => 0) s_.toNatClampNeg b))), (z 4, .inl (gI g, 4, .inl (fun _ => 0))), (z 5, .inl (gI g, 240, .inl (fun _ => 0)))] H := hP
              have hD : va_D A [(z 0, .inr (12, [.ref (z 1), .ref (z 2), .int 0, .int 0, .ref (z 3), .ref (z 4), .ref (z 5), .ref (z 6), .int 0, .ref (z 7), .ref (z 8), .ref (z 9), .ref (z 10), .ref (z 11), .ref (z 12), .int 0, .ref (z 13), .ref (z 14), .int 0, .ref (z 15)])), (z 3, .inl (gI g, 4, .inl (upd (fun _ => 0) s_.toNatClampNeg b))), (z 4, .inl (gI g, 4, .inl (fun _ => 0))), (z 5, .inl (gI g, 240, .inl (fun _ => 0)))] := hD
              obtain ⟨f_33, ef_33⟩ : ∃ zz_ : Nat → Int32, zz_ = upd (fun _ => 0) s_.toNatClampNeg b := ⟨_, rfl⟩
              rw [← ef_33] at hP hD
              refine lv_aload_n hx hb dX12_sheet_64 rfl (lv_at hl 0 rfl) ?_
              refine va_get (ci := 12) (C := RX12) (T := TX12) (N := 20) hx hb hts inlX12 hown hKW.1 hP 0 rfl rfl 5 (by decide) (hts _ wd_6_8) (fun _ h => h) rfl dX12_sheet_65 ?_
              refine lv_iload_n hx hb dX12_sheet_68 rfl (lv_at hl 1 rfl) ?_
              refine lv_iload_n hx hb dX12_sheet_69 rfl (lv_at hl 2 rfl) ?_
              refine lv_if_ne (tgt := 77) hx hb dX12_sheet_70 (by decide) (fun c_34 => ?_) (fun c_34 => ?_)
              · refine lv_iload_n hx hb dX12_sheet_77 rfl (lv_at hl 3 rfl) ?_
                refine va_iast hx hb hKW.1 hP hD hS 2 0 rfl rfl (by clear hP hD hS hA hts hKW hl; rw [vp_in_iff]; constructor <;> (first | omega | (simp only [Int32.lt_iff_toInt_lt, Int32.le_iff_toInt_le, ← Int32.toInt_inj] at *; omega) | (simp only [Int32.lt_iff_toInt_lt, Int32.le_iff_toInt_le, ← Int32.toInt_inj] at *; simp at *; omega) | (simp only [Int32.lt_iff_toInt_lt, Int32.le_iff_toInt_le, ← Int32.toInt_inj] at *; simp at *; done) | (simp at *; omega) | (simp at *; done))) dX12_sheet_78 (fun H locs hP hD hS => ?_)
                have hP : va_P g.1 vwCl [(z 0, .inr (12, [.ref (z 1), .ref (z 2), .int 0, .int 0, .ref (z 3), .ref (z 4), .ref (z 5), .ref (z 6), .int 0, .ref (z 7), .ref (z 8), .ref (z 9), .ref (z 10), .ref (z 11), .ref (z 12), .int 0, .ref (z 13), .ref (z 14), .int 0, .ref (z 15)])), (z 3, .inl (gI g, 4, .inl f_33)), (z 4, .inl (gI g, 4, .inl (upd (fun _ => 0) s_.toNatClampNeg n_))), (z 5, .inl (gI g, 240, .inl (fun _ => 0)))] H := hP
                have hD : va_D A [(z 0, .inr (12, [.ref (z 1), .ref (z 2), .int 0, .int 0, .ref (z 3), .ref (z 4), .ref (z 5), .ref (z 6), .int 0, .ref (z 7), .ref (z 8), .ref (z 9), .ref (z 10), .ref (z 11), .ref (z 12), .int 0, .ref (z 13), .ref (z 14), .int 0, .ref (z 15)])), (z 3, .inl (gI g, 4, .inl f_33)), (z 4, .inl (gI g, 4, .inl (upd (fun _ => 0) s_.toNatClampNeg n_))), (z 5, .inl (gI g, 240, .inl (fun _ => 0)))] := hD
                obtain ⟨f_35, ef_35⟩ : ∃ zz_ : Nat → Int32, zz_ = upd (fun _ => 0) s_.toNatClampNeg n_ := ⟨_, rfl⟩
                rw [← ef_35] at hP hD
                refine lv_iconst (v := 0) hx hb dX12_sheet_79 (by decide) ?_
                refine lv_istore (lv' := [(4, .int 0), (0, .ref (z 0)), (1, .int s_), (2, .int b), (3, .int n_)]) hx hb dX12_sheet_80 hl (by decide) rfl (fun ls hl => ?_)
                exact c_X12_sheet_l82 l g z s_ b n_  hx hb hr hml hown hts hlk hnm hKW hA 61 a 0 (fun _ => 0) (by omega) (by omega) ha hsa hfin _ _ (hP.sub [0, 3] rfl) (hD.sub [0, 3] (by decide) rfl) hS ls (lv_sub hl [1, 2, 3, 4, 0] rfl)
              · refine lv_iconst (v := 0) hx hb dX12_sheet_73 (by decide) ?_
                refine lv_goto (tgt := 78) hx hb dX12_sheet_74 (by decide) ?_
                refine va_iast hx hb hKW.1 hP hD hS 2 0 rfl rfl (by clear hP hD hS hA hts hKW hl; rw [vp_in_iff]; constructor <;> (first | omega | (simp only [Int32.lt_iff_toInt_lt, Int32.le_iff_toInt_le, ← Int32.toInt_inj] at *; omega) | (simp only [Int32.lt_iff_toInt_lt, Int32.le_iff_toInt_le, ← Int32.toInt_inj] at *; simp at *; omega) | (simp only [Int32.lt_iff_toInt_lt, Int32.le_iff_toInt_le, ← Int32.toInt_inj] at *; simp at *; done) | (simp at *; omega) | (simp at *; done))) dX12_sheet_78 (fun H locs hP hD hS => ?_)
                have hP : va_P g.1 vwCl [(z 0, .inr (12, [.ref (z 1), .ref (z 2), .int 0, .int 0, .ref (z 3), .ref (z 4), .ref (z 5), .ref (z 6), .int 0, .ref (z 7), .ref (z 8), .ref (z 9), .ref (z 10), .ref (z 11), .ref (z 12), .int 0, .ref (z 13), .ref (z 14), .int 0, .ref (z 15)])), (z 3, .inl (gI g, 4, .inl f_33)), (z 4, .inl (gI g, 4, .inl (upd (fun _ => 0) s_.toNatClampNeg 0))), (z 5, .inl (gI g, 240, .inl (fun _ => 0)))] H := hP
                have hD : va_D A [(z 0, .inr (12, [.ref (z 1), .ref (z 2), .int 0, .int 0, .ref (z 3), .ref (z 4), .ref (z 5), .ref (z 6), .int 0, .ref (z 7), .ref (z 8), .ref (z 9), .ref (z 10), .ref (z 11), .ref (z 12), .int 0, .ref (z 13), .ref (z 14), .int 0, .ref (z 15)])), (z 3, .inl (gI g, 4, .inl f_33)), (z 4, .inl (gI g, 4, .inl (upd (fun _ => 0) s_.toNatClampNeg 0))), (z 5, .inl (gI g, 240, .inl (fun _ => 0)))] := hD
                obtain ⟨f_36, ef_36⟩ : ∃ zz_ : Nat → Int32, zz_ = upd (fun _ => 0) s_.toNatClampNeg 0 := ⟨_, rfl⟩
                rw [← ef_36] at hP hD
                refine lv_iconst (v := 0) hx hb dX12_sheet_79 (by decide) ?_
                refine lv_istore (lv' := [(4, .int 0), (0, .ref (z 0)), (1, .int s_), (2, .int b), (3, .int n_)]) hx hb dX12_sheet_80 hl (by decide) rfl (fun ls hl => ?_)
                exact c_X12_sheet_l82 l g z s_ b n_  hx hb hr hml hown hts hlk hnm hKW hA 61 a 0 (fun _ => 0) (by omega) (by omega) ha hsa hfin _ _ (hP.sub [0, 3] rfl) (hD.sub [0, 3] (by decide) rfl) hS ls (lv_sub hl [1, 2, 3, 4, 0] rfl)
            · refine lv_aload_n hx hb dX12_sheet_51 rfl (lv_at hl 0 rfl) ?_
              refine lv_iconst (v := 1) hx hb dX12_sheet_52 (by decide) ?_
              refine k_Vi [0] [1, 2, 3] 0 12 (wr := [(z 3, .inl (gI g, 4, .inl (fun _ => 0))), (z 4, .inl (gI g, 4, .inl (fun _ => 0))), (z 5, .inl (gI g, 240, .inl (fun _ => 0)))]) hx hb hml hown hts hKW hP hD hS hA hl.1 (c_X12_finding_1 l g _ (z 0) (z 1) (z 2) (z 3) (z 4) (z 5) (z 6) (z 7) (z 8) (z 9) (z 10) (z 11) (z 12) (z 13) (z 14) (z 15) 0 0 0 0 0 ) rfl rfl rfl wd_10_15 wd_1_5 wd_10_12 wd_10_13 wd_10_14 yd_X12_finding ⟨Nat.le_of_ble_eq_true rfl, Nat.le_of_ble_eq_true rfl⟩ rfl rfl rfl rfl rfl (by decide) rfl (Nat.le_of_ble_eq_true rfl) dX12_sheet_53 ⟨Nat.le_of_ble_eq_true rfl, Nat.le_of_ble_eq_true rfl⟩ (fun r_37 u_38 H locs hw_39 hP hD hS => ?_)
              have hP : va_P g.1 vwCl [(z 3, .inl (gI g, 4, .inl (fun _ => 0))), (z 4, .inl (gI g, 4, .inl (fun _ => 0))), (z 5, .inl (gI g, 240, .inl (fun _ => 0)))] H := hP
              have hD : va_D A [(z 3, .inl (gI g, 4, .inl (fun _ => 0))), (z 4, .inl (gI g, 4, .inl (fun _ => 0))), (z 5, .inl (gI g, 240, .inl (fun _ => 0)))] := hD
              have hw_39 : r_37 = (-100001) := hw_39
              subst hw_39
              exact k_iret () [] hx hb hr hlk hP hD hS (by clear hP hD hS hA hts hKW hl; unfold aSheet; (repeat' split) <;> first | rfl | (exfalso; first | omega | (simp only [Int32.lt_iff_toInt_lt, Int32.le_iff_toInt_le, ← Int32.toInt_inj] at *; omega) | (simp only [Int32.lt_iff_toInt_lt, Int32.le_iff_toInt_le, ← Int32.toInt_inj] at *; simp at *; omega) | (simp only [Int32.lt_iff_toInt_lt, Int32.le_iff_toInt_le, ← Int32.toInt_inj] at *; simp at *; done) | (simp at *; omega) | (simp at *; done))) rfl rfl rfl (Nat.le_of_ble_eq_true rfl) (Nat.le_of_ble_eq_true rfl) dX12_sheet_56
          · refine lv_aload_n hx hb dX12_sheet_39 rfl (lv_at hl 0 rfl) ?_
            refine lv_iconst (v := 3) hx hb dX12_sheet_40 (by decide) ?_
            refine k_Vi [0] [1, 2, 3] 0 12 (wr := [(z 3, .inl (gI g, 4, .inl (fun _ => 0))), (z 4, .inl (gI g, 4, .inl (fun _ => 0))), (z 5, .inl (gI g, 240, .inl (fun _ => 0)))]) hx hb hml hown hts hKW hP hD hS hA hl.1 (c_X12_finding_3 l g _ (z 0) (z 1) (z 2) (z 3) (z 4) (z 5) (z 6) (z 7) (z 8) (z 9) (z 10) (z 11) (z 12) (z 13) (z 14) (z 15) 0 0 0 0 0 ) rfl rfl rfl wd_10_15 wd_1_5 wd_10_12 wd_10_13 wd_10_14 yd_X12_finding ⟨Nat.le_of_ble_eq_true rfl, Nat.le_of_ble_eq_true rfl⟩ rfl rfl rfl rfl rfl (by decide) rfl (Nat.le_of_ble_eq_true rfl) dX12_sheet_41 ⟨Nat.le_of_ble_eq_true rfl, Nat.le_of_ble_eq_true rfl⟩ (fun r_40 u_41 H locs hw_42 hP hD hS => ?_)
            have hP : va_P g.1 vwCl [(z 3, .inl (gI g, 4, .inl (fun _ => 0))), (z 4, .inl (gI g, 4, .inl (fun _ => 0))), (z 5, .inl (gI g, 240, .inl (fun _ => 0)))] H := hP
            have hD : va_D A [(z 3, .inl (gI g, 4, .inl (fun _ => 0))), (z 4, .inl (gI g, 4, .inl (fun _ => 0))), (z 5, .inl (gI g, 240, .inl (fun _ => 0)))] := hD
            have hw_42 : r_40 = (-100003) := hw_42
            subst hw_42
            exact k_iret () [] hx hb hr hlk hP hD hS (by clear hP hD hS hA hts hKW hl; unfold aSheet; (repeat' split) <;> first | rfl | (exfalso; first | omega | (simp only [Int32.lt_iff_toInt_lt, Int32.le_iff_toInt_le, ← Int32.toInt_inj] at *; omega) | (simp only [Int32.lt_iff_toInt_lt, Int32.le_iff_toInt_le, ← Int32.toInt_inj] at *; simp at *; omega) | (simp only [Int32.lt_iff_toInt_lt, Int32.le_iff_toInt_le, ← Int32.toInt_inj] at *; simp at *; done) | (simp at *; omega) | (simp at *; done))) rfl rfl rfl (Nat.le_of_ble_eq_true rfl) (Nat.le_of_ble_eq_true rfl) dX12_sheet_44
        · refine lv_iload_n hx hb dX12_sheet_23 rfl (lv_at hl 2 rfl) ?_
          refine lv_bipush (v := 32) hx hb dX12_sheet_24 (by decide) ?_
          refine lv_icmp_eq (tgt := 35) hx hb dX12_sheet_26 (by decide) (fun c_43 => ?_) (fun c_43 => ?_)
          · refine lv_iload_n hx hb dX12_sheet_35 rfl (lv_at hl 3 rfl) ?_
            refine lv_if_ge (tgt := 45) hx hb dX12_sheet_36 (by decide) (fun c_44 => ?_) (fun c_44 => ?_)
            · refine lv_iload_n hx hb dX12_sheet_45 rfl (lv_at hl 3 rfl) ?_
              refine lv_bipush (v := 60) hx hb dX12_sheet_46 (by decide) ?_
              refine lv_icmp_le (tgt := 57) hx hb dX12_sheet_48 (by decide) (fun c_45 => ?_) (fun c_45 => ?_)
              · have hs : ∃ j : Nat, j < 4 ∧ s_ = nI j := k_ofr (by decide) (by clear hP hD hS hA hts hKW hl; first | omega | (simp only [Int32.lt_iff_toInt_lt, Int32.le_iff_toInt_le, ← Int32.toInt_inj] at *; omega) | (simp only [Int32.lt_iff_toInt_lt, Int32.le_iff_toInt_le, ← Int32.toInt_inj] at *; simp at *; omega) | (simp only [Int32.lt_iff_toInt_lt, Int32.le_iff_toInt_le, ← Int32.toInt_inj] at *; simp at *; done) | (simp at *; omega) | (simp at *; done))
                obtain ⟨a, ha, hsa⟩ := hs
                have hfin : aSheet s_ b n_ = if b.toInt = 0 then 0 else n_ := (by clear hP hD hS hA hts hKW hl; clear hsa; unfold aSheet; (repeat' split) <;> first | rfl | (exfalso; first | omega | (simp only [Int32.lt_iff_toInt_lt, Int32.le_iff_toInt_le, ← Int32.toInt_inj] at *; omega) | (simp only [Int32.lt_iff_toInt_lt, Int32.le_iff_toInt_le, ← Int32.toInt_inj] at *; simp at *; omega) | (simp only [Int32.lt_iff_toInt_lt, Int32.le_iff_toInt_le, ← Int32.toInt_inj] at *; simp at *; done) | (simp at *; omega) | (simp at *; done)))
                refine lv_aload_n hx hb dX12_sheet_57 rfl (lv_at hl 0 rfl) ?_
                refine va_get (ci := 12) (C := RX12) (T := TX12) (N := 20) hx hb hts inlX12 hown hKW.1 hP 0 rfl rfl 4 (by decide) (hts _ wd_6_7) (fun _ h => h) rfl dX12_sheet_58 ?_
                refine lv_iload_n hx hb dX12_sheet_61 rfl (lv_at hl 1 rfl) ?_
                refine lv_iload_n hx hb dX12_sheet_62 rfl (lv_at hl 2 rfl) ?_
                refine va_iast hx hb hKW.1 hP hD hS 1 0 rfl rfl (by clear hP hD hS hA hts hKW hl; rw [vp_in_iff]; constructor <;> (first | omega | (simp only [Int32.lt_iff_toInt_lt, Int32.le_iff_toInt_le, ← Int32.toInt_inj] at *; omega) | (simp only [Int32.lt_iff_toInt_lt, Int32.le_iff_toInt_le, ← Int32.toInt_inj] at *; simp at *; omega) | (simp only [Int32.lt_iff_toInt_lt, Int32.le_iff_toInt_le, ← Int32.toInt_inj] at *; simp at *; done) | (simp at *; omega) | (simp at *; done))) dX12_sheet_63 (fun H locs hP hD hS => ?_)
                have hP : va_P g.1 vwCl [(z 0, .inr (12, [.ref (z 1), .ref (z 2), .int 0, .int 0, .ref (z 3), .ref (z 4), .ref (z 5), .ref (z 6), .int 0, .ref (z 7), .ref (z 8), .ref (z 9), .ref (z 10), .ref (z 11), .ref (z 12), .int 0, .ref (z 13), .ref (z 14), .int 0, .ref (z 15)])), (z 3, .inl (gI g, 4, .inl (upd (fun _ => 0) s_.toNatClampNeg b))), (z 4, .inl (gI g, 4, .inl (fun _ => 0))), (z 5, .inl (gI g, 240, .inl (fun _ => 0)))] H := hP
                have hD : va_D A [(z 0, .inr (12, [.ref (z 1), .ref (z 2), .int 0, .int 0, .ref (z 3), .ref (z 4), .ref (z 5), .ref (z 6), .int 0, .ref (z 7), .ref (z 8), .ref (z 9), .ref (z 10), .ref (z 11), .ref (z 12), .int 0, .ref (z 13), .ref (z 14), .int 0, .ref (z 15)])), (z 3, .inl (gI g, 4, .inl (upd (fun _ => 0) s_.toNatClampNeg b))), (z 4, .inl (gI g, 4, .inl (fun _ => 0))), (z 5, .inl (gI g, 240, .inl (fun _ => 0)))] := hD
                obtain ⟨f_46, ef_46⟩ : ∃ zz_ : Nat → Int32, zz_ = upd (fun _ => 0) s_.toNatClampNeg b := ⟨_, rfl⟩
                rw [← ef_46] at hP hD
                refine lv_aload_n hx hb dX12_sheet_64 rfl (lv_at hl 0 rfl) ?_
                refine va_get (ci := 12) (C := RX12) (T := TX12) (N := 20) hx hb hts inlX12 hown hKW.1 hP 0 rfl rfl 5 (by decide) (hts _ wd_6_8) (fun _ h => h) rfl dX12_sheet_65 ?_
                refine lv_iload_n hx hb dX12_sheet_68 rfl (lv_at hl 1 rfl) ?_
                refine lv_iload_n hx hb dX12_sheet_69 rfl (lv_at hl 2 rfl) ?_
                refine lv_if_ne (tgt := 77) hx hb dX12_sheet_70 (by decide) (fun c_47 => ?_) (fun c_47 => ?_)
                · refine lv_iload_n hx hb dX12_sheet_77 rfl (lv_at hl 3 rfl) ?_
                  refine va_iast hx hb hKW.1 hP hD hS 2 0 rfl rfl (by clear hP hD hS hA hts hKW hl; rw [vp_in_iff]; constructor <;> (first | omega | (simp only [Int32.lt_iff_toInt_lt, Int32.le_iff_toInt_le, ← Int32.toInt_inj] at *; omega) | (simp only [Int32.lt_iff_toInt_lt, Int32.le_iff_toInt_le, ← Int32.toInt_inj] at *; simp at *; omega) | (simp only [Int32.lt_iff_toInt_lt, Int32.le_iff_toInt_le, ← Int32.toInt_inj] at *; simp at *; done) | (simp at *; omega) | (simp at *; done))) dX12_sheet_78 (fun H locs hP hD hS => ?_)
                  have hP : va_P g.1 vwCl [(z 0, .inr (12, [.ref (z 1), .ref (z 2), .int 0, .int 0, .ref (z 3), .ref (z 4), .ref (z 5), .ref (z 6), .int 0, .ref (z 7), .ref (z 8), .ref (z 9), .ref (z 10), .ref (z 11), .ref (z 12), .int 0, .ref (z 13), .ref (z 14), .int 0, .ref (z 15)])), (z 3, .inl (gI g, 4, .inl f_46)), (z 4, .inl (gI g, 4, .inl (upd (fun _ => 0) s_.toNatClampNeg n_))), (z 5, .inl (gI g, 240, .inl (fun _ => 0)))] H := hP
                  have hD : va_D A [(z 0, .inr (12, [.ref (z 1), .ref (z 2), .int 0, .int 0, .ref (z 3), .ref (z 4), .ref (z 5), .ref (z 6), .int 0, .ref (z 7), .ref (z 8), .ref (z 9), .ref (z 10), .ref (z 11), .ref (z 12), .int 0, .ref (z 13), .ref (z 14), .int 0, .ref (z 15)])), (z 3, .inl (gI g, 4, .inl f_46)), (z 4, .inl (gI g, 4, .inl (upd (fun _ => 0) s_.toNatClampNeg n_))), (z 5, .inl (gI g, 240, .inl (fun _ => 0)))] := hD
                  obtain ⟨f_48, ef_48⟩ : ∃ zz_ : Nat → Int32, zz_ = upd (fun _ => 0) s_.toNatClampNeg n_ := ⟨_, rfl⟩
                  rw [← ef_48] at hP hD
                  refine lv_iconst (v := 0) hx hb dX12_sheet_79 (by decide) ?_
                  refine lv_istore (lv' := [(4, .int 0), (0, .ref (z 0)), (1, .int s_), (2, .int b), (3, .int n_)]) hx hb dX12_sheet_80 hl (by decide) rfl (fun ls hl => ?_)
                  exact c_X12_sheet_l82 l g z s_ b n_  hx hb hr hml hown hts hlk hnm hKW hA 61 a 0 (fun _ => 0) (by omega) (by omega) ha hsa hfin _ _ (hP.sub [0, 3] rfl) (hD.sub [0, 3] (by decide) rfl) hS ls (lv_sub hl [1, 2, 3, 4, 0] rfl)
                · refine lv_iconst (v := 0) hx hb dX12_sheet_73 (by decide) ?_
                  refine lv_goto (tgt := 78) hx hb dX12_sheet_74 (by decide) ?_
                  refine va_iast hx hb hKW.1 hP hD hS 2 0 rfl rfl (by clear hP hD hS hA hts hKW hl; rw [vp_in_iff]; constructor <;> (first | omega | (simp only [Int32.lt_iff_toInt_lt, Int32.le_iff_toInt_le, ← Int32.toInt_inj] at *; omega) | (simp only [Int32.lt_iff_toInt_lt, Int32.le_iff_toInt_le, ← Int32.toInt_inj] at *; simp at *; omega) | (simp only [Int32.lt_iff_toInt_lt, Int32.le_iff_toInt_le, ← Int32.toInt_inj] at *; simp at *; done) | (simp at *; omega) | (simp at *; done))) dX12_sheet_78 (fun H locs hP hD hS => ?_)
                  have hP : va_P g.1 vwCl [(z 0, .inr (12, [.ref (z 1), .ref (z 2), .int 0, .int 0, .ref (z 3), .ref (z 4), .ref (z 5), .ref (z 6), .int 0, .ref (z 7), .ref (z 8), .ref (z 9), .ref (z 10), .ref (z 11), .ref (z 12), .int 0, .ref (z 13), .ref (z 14), .int 0, .ref (z 15)])), (z 3, .inl (gI g, 4, .inl f_46)), (z 4, .inl (gI g, 4, .inl (upd (fun _ => 0) s_.toNatClampNeg 0))), (z 5, .inl (gI g, 240, .inl (fun _ => 0)))] H := hP
                  have hD : va_D A [(z 0, .inr (12, [.ref (z 1), .ref (z 2), .int 0, .int 0, .ref (z 3), .ref (z 4), .ref (z 5), .ref (z 6), .int 0, .ref (z 7), .ref (z 8), .ref (z 9), .ref (z 10), .ref (z 11), .ref (z 12), .int 0, .ref (z 13), .ref (z 14), .int 0, .ref (z 15)])), (z 3, .inl (gI g, 4, .inl f_46)), (z 4, .inl (gI g, 4, .inl (upd (fun _ => 0) s_.toNatClampNeg 0))), (z 5, .inl (gI g, 240, .inl (fun _ => 0)))] := hD
                  obtain ⟨f_49, ef_49⟩ : ∃ zz_ : Nat → Int32, zz_ = upd (fun _ => 0) s_.toNatClampNeg 0 := ⟨_, rfl⟩
                  rw [← ef_49] at hP hD
                  refine lv_iconst (v := 0) hx hb dX12_sheet_79 (by decide) ?_
                  refine lv_istore (lv' := [(4, .int 0), (0, .ref (z 0)), (1, .int s_), (2, .int b), (3, .int n_)]) hx hb dX12_sheet_80 hl (by decide) rfl (fun ls hl => ?_)
                  exact c_X12_sheet_l82 l g z s_ b n_  hx hb hr hml hown hts hlk hnm hKW hA 61 a 0 (fun _ => 0) (by omega) (by omega) ha hsa hfin _ _ (hP.sub [0, 3] rfl) (hD.sub [0, 3] (by decide) rfl) hS ls (lv_sub hl [1, 2, 3, 4, 0] rfl)
              · refine lv_aload_n hx hb dX12_sheet_51 rfl (lv_at hl 0 rfl) ?_
                refine lv_iconst (v := 1) hx hb dX12_sheet_52 (by decide) ?_
                refine k_Vi [0] [1, 2, 3] 0 12 (wr := [(z 3, .inl (gI g, 4, .inl (fun _ => 0))), (z 4, .inl (gI g, 4, .inl (fun _ => 0))), (z 5, .inl (gI g, 240, .inl (fun _ => 0)))]) hx hb hml hown hts hKW hP hD hS hA hl.1 (c_X12_finding_1 l g _ (z 0) (z 1) (z 2) (z 3) (z 4) (z 5) (z 6) (z 7) (z 8) (z 9) (z 10) (z 11) (z 12) (z 13) (z 14) (z 15) 0 0 0 0 0 ) rfl rfl rfl wd_10_15 wd_1_5 wd_10_12 wd_10_13 wd_10_14 yd_X12_finding ⟨Nat.le_of_ble_eq_true rfl, Nat.le_of_ble_eq_true rfl⟩ rfl rfl rfl rfl rfl (by decide) rfl (Nat.le_of_ble_eq_true rfl) dX12_sheet_53 ⟨Nat.le_of_ble_eq_true rfl, Nat.le_of_ble_eq_true rfl⟩ (fun r_50 u_51 H locs hw_52 hP hD hS => ?_)
                have hP : va_P g.1 vwCl [(z 3, .inl (gI g, 4, .inl (fun _ => 0))), (z 4, .inl (gI g, 4, .inl (fun _ => 0))), (z 5, .inl (gI g, 240, .inl (fun _ => 0)))] H := hP
                have hD : va_D A [(z 3, .inl (gI g, 4, .inl (fun _ => 0))), (z 4, .inl (gI g, 4, .inl (fun _ => 0))), (z 5, .inl (gI g, 240, .inl (fun _ => 0)))] := hD
                have hw_52 : r_50 = (-100001) := hw_52
                subst hw_52
                exact k_iret () [] hx hb hr hlk hP hD hS (by clear hP hD hS hA hts hKW hl; unfold aSheet; (repeat' split) <;> first | rfl | (exfalso; first | omega | (simp only [Int32.lt_iff_toInt_lt, Int32.le_iff_toInt_le, ← Int32.toInt_inj] at *; omega) | (simp only [Int32.lt_iff_toInt_lt, Int32.le_iff_toInt_le, ← Int32.toInt_inj] at *; simp at *; omega) | (simp only [Int32.lt_iff_toInt_lt, Int32.le_iff_toInt_le, ← Int32.toInt_inj] at *; simp at *; done) | (simp at *; omega) | (simp at *; done))) rfl rfl rfl (Nat.le_of_ble_eq_true rfl) (Nat.le_of_ble_eq_true rfl) dX12_sheet_56
            · refine lv_aload_n hx hb dX12_sheet_39 rfl (lv_at hl 0 rfl) ?_
              refine lv_iconst (v := 3) hx hb dX12_sheet_40 (by decide) ?_
              refine k_Vi [0] [1, 2, 3] 0 12 (wr := [(z 3, .inl (gI g, 4, .inl (fun _ => 0))), (z 4, .inl (gI g, 4, .inl (fun _ => 0))), (z 5, .inl (gI g, 240, .inl (fun _ => 0)))]) hx hb hml hown hts hKW hP hD hS hA hl.1 (c_X12_finding_3 l g _ (z 0) (z 1) (z 2) (z 3) (z 4) (z 5) (z 6) (z 7) (z 8) (z 9) (z 10) (z 11) (z 12) (z 13) (z 14) (z 15) 0 0 0 0 0 ) rfl rfl rfl wd_10_15 wd_1_5 wd_10_12 wd_10_13 wd_10_14 yd_X12_finding ⟨Nat.le_of_ble_eq_true rfl, Nat.le_of_ble_eq_true rfl⟩ rfl rfl rfl rfl rfl (by decide) rfl (Nat.le_of_ble_eq_true rfl) dX12_sheet_41 ⟨Nat.le_of_ble_eq_true rfl, Nat.le_of_ble_eq_true rfl⟩ (fun r_53 u_54 H locs hw_55 hP hD hS => ?_)
              have hP : va_P g.1 vwCl [(z 3, .inl (gI g, 4, .inl (fun _ => 0))), (z 4, .inl (gI g, 4, .inl (fun _ => 0))), (z 5, .inl (gI g, 240, .inl (fun _ => 0)))] H := hP
              have hD : va_D A [(z 3, .inl (gI g, 4, .inl (fun _ => 0))), (z 4, .inl (gI g, 4, .inl (fun _ => 0))), (z 5, .inl (gI g, 240, .inl (fun _ => 0)))] := hD
              have hw_55 : r_53 = (-100003) := hw_55
              subst hw_55
              exact k_iret () [] hx hb hr hlk hP hD hS (by clear hP hD hS hA hts hKW hl; unfold aSheet; (repeat' split) <;> first | rfl | (exfalso; first | omega | (simp only [Int32.lt_iff_toInt_lt, Int32.le_iff_toInt_le, ← Int32.toInt_inj] at *; omega) | (simp only [Int32.lt_iff_toInt_lt, Int32.le_iff_toInt_le, ← Int32.toInt_inj] at *; simp at *; omega) | (simp only [Int32.lt_iff_toInt_lt, Int32.le_iff_toInt_le, ← Int32.toInt_inj] at *; simp at *; done) | (simp at *; omega) | (simp at *; done))) rfl rfl rfl (Nat.le_of_ble_eq_true rfl) (Nat.le_of_ble_eq_true rfl) dX12_sheet_44
          · refine lv_aload_n hx hb dX12_sheet_29 rfl (lv_at hl 0 rfl) ?_
            refine lv_iconst (v := 1) hx hb dX12_sheet_30 (by decide) ?_
            refine k_Vi [0] [1, 2, 3] 0 12 (wr := [(z 3, .inl (gI g, 4, .inl (fun _ => 0))), (z 4, .inl (gI g, 4, .inl (fun _ => 0))), (z 5, .inl (gI g, 240, .inl (fun _ => 0)))]) hx hb hml hown hts hKW hP hD hS hA hl.1 (c_X12_finding_1 l g _ (z 0) (z 1) (z 2) (z 3) (z 4) (z 5) (z 6) (z 7) (z 8) (z 9) (z 10) (z 11) (z 12) (z 13) (z 14) (z 15) 0 0 0 0 0 ) rfl rfl rfl wd_10_15 wd_1_5 wd_10_12 wd_10_13 wd_10_14 yd_X12_finding ⟨Nat.le_of_ble_eq_true rfl, Nat.le_of_ble_eq_true rfl⟩ rfl rfl rfl rfl rfl (by decide) rfl (Nat.le_of_ble_eq_true rfl) dX12_sheet_31 ⟨Nat.le_of_ble_eq_true rfl, Nat.le_of_ble_eq_true rfl⟩ (fun r_56 u_57 H locs hw_58 hP hD hS => ?_)
            have hP : va_P g.1 vwCl [(z 3, .inl (gI g, 4, .inl (fun _ => 0))), (z 4, .inl (gI g, 4, .inl (fun _ => 0))), (z 5, .inl (gI g, 240, .inl (fun _ => 0)))] H := hP
            have hD : va_D A [(z 3, .inl (gI g, 4, .inl (fun _ => 0))), (z 4, .inl (gI g, 4, .inl (fun _ => 0))), (z 5, .inl (gI g, 240, .inl (fun _ => 0)))] := hD
            have hw_58 : r_56 = (-100001) := hw_58
            subst hw_58
            exact k_iret () [] hx hb hr hlk hP hD hS (by clear hP hD hS hA hts hKW hl; unfold aSheet; (repeat' split) <;> first | rfl | (exfalso; first | omega | (simp only [Int32.lt_iff_toInt_lt, Int32.le_iff_toInt_le, ← Int32.toInt_inj] at *; omega) | (simp only [Int32.lt_iff_toInt_lt, Int32.le_iff_toInt_le, ← Int32.toInt_inj] at *; simp at *; omega) | (simp only [Int32.lt_iff_toInt_lt, Int32.le_iff_toInt_le, ← Int32.toInt_inj] at *; simp at *; done) | (simp at *; omega) | (simp at *; done))) rfl rfl rfl (Nat.le_of_ble_eq_true rfl) (Nat.le_of_ble_eq_true rfl) dX12_sheet_34
  · refine lv_if_eq (tgt := 29) hx hb dX12_sheet_4 (by decide) (fun _ => ?_) (fun c => absurd c (by decide))
    refine lv_aload_n hx hb dX12_sheet_29 rfl (lv_at hl 0 rfl) ?_
    refine lv_iconst (v := 1) hx hb dX12_sheet_30 (by decide) ?_
    refine k_Vi [0] [1, 2, 3] 0 12 (wr := [(z 3, .inl (gI g, 4, .inl (fun _ => 0))), (z 4, .inl (gI g, 4, .inl (fun _ => 0))), (z 5, .inl (gI g, 240, .inl (fun _ => 0)))]) hx hb hml hown hts hKW hP hD hS hA hl.1 (c_X12_finding_1 l g _ (z 0) (z 1) (z 2) (z 3) (z 4) (z 5) (z 6) (z 7) (z 8) (z 9) (z 10) (z 11) (z 12) (z 13) (z 14) (z 15) 0 0 0 0 0 ) rfl rfl rfl wd_10_15 wd_1_5 wd_10_12 wd_10_13 wd_10_14 yd_X12_finding ⟨Nat.le_of_ble_eq_true rfl, Nat.le_of_ble_eq_true rfl⟩ rfl rfl rfl rfl rfl (by decide) rfl (Nat.le_of_ble_eq_true rfl) dX12_sheet_31 ⟨Nat.le_of_ble_eq_true rfl, Nat.le_of_ble_eq_true rfl⟩ (fun r_59 u_60 H locs hw_61 hP hD hS => ?_)
    have hP : va_P g.1 vwCl [(z 3, .inl (gI g, 4, .inl (fun _ => 0))), (z 4, .inl (gI g, 4, .inl (fun _ => 0))), (z 5, .inl (gI g, 240, .inl (fun _ => 0)))] H := hP
    have hD : va_D A [(z 3, .inl (gI g, 4, .inl (fun _ => 0))), (z 4, .inl (gI g, 4, .inl (fun _ => 0))), (z 5, .inl (gI g, 240, .inl (fun _ => 0)))] := hD
    have hw_61 : r_59 = (-100001) := hw_61
    subst hw_61
    exact k_iret () [] hx hb hr hlk hP hD hS (by clear hP hD hS hA hts hKW hl; unfold aSheet; (repeat' split) <;> first | rfl | (exfalso; first | omega | (simp only [Int32.lt_iff_toInt_lt, Int32.le_iff_toInt_le, ← Int32.toInt_inj] at *; omega) | (simp only [Int32.lt_iff_toInt_lt, Int32.le_iff_toInt_le, ← Int32.toInt_inj] at *; simp at *; omega) | (simp only [Int32.lt_iff_toInt_lt, Int32.le_iff_toInt_le, ← Int32.toInt_inj] at *; simp at *; done) | (simp at *; omega) | (simp at *; done))) rfl rfl rfl (Nat.le_of_ble_eq_true rfl) (Nat.le_of_ble_eq_true rfl) dX12_sheet_34
theorem dX12_copy_0 : decode cX12_copy 0 = .ok (.iload_n 1, 1) := by decide +kernel
theorem dX12_copy_1 : decode cX12_copy 1 = .ok (.invokestatic 168, 3) := by decide +kernel
theorem dX12_copy_4 : decode cX12_copy 4 = .ok (.ifCond .eq 10, 3) := by decide +kernel
theorem dX12_copy_7 : decode cX12_copy 7 = .ok (.iload_n 3, 1) := by decide +kernel
theorem dX12_copy_8 : decode cX12_copy 8 = .ok (.invokestatic 168, 3) := by decide +kernel
theorem dX12_copy_11 : decode cX12_copy 11 = .ok (.ifCond .ne 9, 3) := by decide +kernel
theorem dX12_copy_20 : decode cX12_copy 20 = .ok (.aload_n 0, 1) := by decide +kernel
theorem dX12_copy_21 : decode cX12_copy 21 = .ok (.getfield 16, 3) := by decide +kernel
theorem dX12_copy_24 : decode cX12_copy 24 = .ok (.iload_n 1, 1) := by decide +kernel
theorem dX12_copy_25 : decode cX12_copy 25 = .ok (.iaload, 1) := by decide +kernel
theorem dX12_copy_26 : decode cX12_copy 26 = .ok (.ifCond .eq 12, 3) := by decide +kernel
theorem dX12_copy_38 : decode cX12_copy 38 = .ok (.aload_n 0, 1) := by decide +kernel
theorem dX12_copy_39 : decode cX12_copy 39 = .ok (.iconst 2, 1) := by decide +kernel
theorem dX12_copy_40 : decode cX12_copy 40 = .ok (.invokevirtual 68, 3) := by decide +kernel
theorem dX12_copy_43 : decode cX12_copy 43 = .ok (.ireturn, 1) := by decide +kernel
theorem dX12_copy_14 : decode cX12_copy 14 = .ok (.aload_n 0, 1) := by decide +kernel
theorem dX12_copy_15 : decode cX12_copy 15 = .ok (.iconst 1, 1) := by decide +kernel
theorem dX12_copy_16 : decode cX12_copy 16 = .ok (.invokevirtual 68, 3) := by decide +kernel
theorem dX12_copy_19 : decode cX12_copy 19 = .ok (.ireturn, 1) := by decide +kernel
set_option maxHeartbeats 4000000 in
set_option maxRecDepth 100000 in
theorem c_X12_copy (l : Launch) (g : kG) (sz : Nat) (z : Nat → Nat) (s_ : Int32) (fr : Int32) (t : Int32) (tt : Int32) (n_ : Int32) : kMi l g yX12_copy cX12_copy 7 (some .int) 6 0 0 [.ref (z 0), .int s_, .int fr, .int t, .int tt, .int n_] sz [(z 0, .inr (12, [.ref (z 1), .ref (z 2), .int 0, .int 0, .ref (z 3), .ref (z 4), .ref (z 5), .ref (z 6), .int 0, .ref (z 7), .ref (z 8), .ref (z 9), .ref (z 10), .ref (z 11), .ref (z 12), .int 0, .ref (z 13), .ref (z 14), .int 0, .ref (z 15)])), (z 3, .inl (gI g, 4, .inl (fun _ => 0)))] (fun (r : Int32) (u : Unit) => r = aCopy s_ t) (fun (u : Unit) => ([] : va_W)) := by
  refine kMi.of (by decide) (Nat.le_of_ble_eq_true rfl) (fun p e s m below meth c A hx hb hr hml hown hts hlk hnm hKW hP hD hS hA ls hl => ?_)
  have hown : s.vm.findClass RX12 = some m.cls := hown
  have hl : lv_has ls 7 [(0, .ref (z 0)), (1, .int s_), (2, .int fr), (3, .int t), (4, .int tt), (5, .int n_)] := hl
  refine lv_iload_n hx hb dX12_copy_0 rfl (lv_at hl 1 rfl) ?_
  refine k_Si [] [0, 1] (wr := [(z 0, .inr (12, [.ref (z 1), .ref (z 2), .int 0, .int 0, .ref (z 3), .ref (z 4), .ref (z 5), .ref (z 6), .int 0, .ref (z 7), .ref (z 8), .ref (z 9), .ref (z 10), .ref (z 11), .ref (z 12), .int 0, .ref (z 13), .ref (z 14), .int 0, .ref (z 15)])), (z 3, .inl (gI g, 4, .inl (fun _ => 0)))]) hx hb hml hown hts hKW hP hD hS hA hl.1 (c_X12_isSheet l g _ s_ ) wd_38_14 wd_1_5 wd_38_12 wd_38_13 yd_X12_isSheet ⟨Nat.le_of_ble_eq_true rfl, Nat.le_of_ble_eq_true rfl⟩ rfl rfl rfl rfl rfl (by decide) rfl (Nat.le_of_ble_eq_true rfl) dX12_copy_1 ⟨Nat.le_of_ble_eq_true rfl, Nat.le_of_ble_eq_true rfl⟩ (fun r_1 u_2 H locs hw_3 hP hD hS => ?_)
  have hP : va_P g.1 vwCl [(z 0, .inr (12, [.ref (z 1), .ref (z 2), .int 0, .int 0, .ref (z 3), .ref (z 4), .ref (z 5), .ref (z 6), .int 0, .ref (z 7), .ref (z 8), .ref (z 9), .ref (z 10), .ref (z 11), .ref (z 12), .int 0, .ref (z 13), .ref (z 14), .int 0, .ref (z 15)])), (z 3, .inl (gI g, 4, .inl (fun _ => 0)))] H := hP
  have hD : va_D A [(z 0, .inr (12, [.ref (z 1), .ref (z 2), .int 0, .int 0, .ref (z 3), .ref (z 4), .ref (z 5), .ref (z 6), .int 0, .ref (z 7), .ref (z 8), .ref (z 9), .ref (z 10), .ref (z 11), .ref (z 12), .int 0, .ref (z 13), .ref (z 14), .int 0, .ref (z 15)])), (z 3, .inl (gI g, 4, .inl (fun _ => 0)))] := hD
  rcases (show (r_1 = 1 ∧ ((0 : Int) ≤ Int32.toInt s_ ∧ Int32.toInt s_ ≤ 3)) ∨ (r_1 = 0 ∧ ¬ ((0 : Int) ≤ Int32.toInt s_ ∧ Int32.toInt s_ ≤ 3)) from hw_3) with ⟨rfl, hw_3b⟩ | ⟨rfl, hw_3b⟩ <;> clear hw_3
  · refine lv_if_eq (tgt := 14) hx hb dX12_copy_4 (by decide) (fun c => absurd c (by decide)) (fun _ => ?_)
    refine lv_iload_n hx hb dX12_copy_7 rfl (lv_at hl 3 rfl) ?_
    refine k_Si [] [0, 1] (wr := [(z 0, .inr (12, [.ref (z 1), .ref (z 2), .int 0, .int 0, .ref (z 3), .ref (z 4), .ref (z 5), .ref (z 6), .int 0, .ref (z 7), .ref (z 8), .ref (z 9), .ref (z 10), .ref (z 11), .ref (z 12), .int 0, .ref (z 13), .ref (z 14), .int 0, .ref (z 15)])), (z 3, .inl (gI g, 4, .inl (fun _ => 0)))]) hx hb hml hown hts hKW hP hD hS hA hl.1 (c_X12_isSheet l g _ t ) wd_38_14 wd_1_5 wd_38_12 wd_38_13 yd_X12_isSheet ⟨Nat.le_of_ble_eq_true rfl, Nat.le_of_ble_eq_true rfl⟩ rfl rfl rfl rfl rfl (by decide) rfl (Nat.le_of_ble_eq_true rfl) dX12_copy_8 ⟨Nat.le_of_ble_eq_true rfl, Nat.le_of_ble_eq_true rfl⟩ (fun r_4 u_5 H locs hw_6 hP hD hS => ?_)
    have hP : va_P g.1 vwCl [(z 0, .inr (12, [.ref (z 1), .ref (z 2), .int 0, .int 0, .ref (z 3), .ref (z 4), .ref (z 5), .ref (z 6), .int 0, .ref (z 7), .ref (z 8), .ref (z 9), .ref (z 10), .ref (z 11), .ref (z 12), .int 0, .ref (z 13), .ref (z 14), .int 0, .ref (z 15)])), (z 3, .inl (gI g, 4, .inl (fun _ => 0)))] H := hP
    have hD : va_D A [(z 0, .inr (12, [.ref (z 1), .ref (z 2), .int 0, .int 0, .ref (z 3), .ref (z 4), .ref (z 5), .ref (z 6), .int 0, .ref (z 7), .ref (z 8), .ref (z 9), .ref (z 10), .ref (z 11), .ref (z 12), .int 0, .ref (z 13), .ref (z 14), .int 0, .ref (z 15)])), (z 3, .inl (gI g, 4, .inl (fun _ => 0)))] := hD
    rcases (show (r_4 = 1 ∧ ((0 : Int) ≤ Int32.toInt t ∧ Int32.toInt t ≤ 3)) ∨ (r_4 = 0 ∧ ¬ ((0 : Int) ≤ Int32.toInt t ∧ Int32.toInt t ≤ 3)) from hw_6) with ⟨rfl, hw_6b⟩ | ⟨rfl, hw_6b⟩ <;> clear hw_6
    · refine lv_if_ne (tgt := 20) hx hb dX12_copy_11 (by decide) (fun _ => ?_) (fun c => absurd c (by decide))
      refine lv_aload_n hx hb dX12_copy_20 rfl (lv_at hl 0 rfl) ?_
      refine va_get (ci := 12) (C := RX12) (T := TX12) (N := 20) hx hb hts inlX12 hown hKW.1 hP 0 rfl rfl 4 (by decide) (hts _ wd_6_7) (fun _ h => h) rfl dX12_copy_21 ?_
      refine lv_iload_n hx hb dX12_copy_24 rfl (lv_at hl 1 rfl) ?_
      refine va_iald hx hb hKW.1 hP 1 0 rfl rfl (by clear hP hD hS hA hts hKW hl; rw [vp_in_iff]; constructor <;> (first | omega | (simp only [Int32.lt_iff_toInt_lt, Int32.le_iff_toInt_le, ← Int32.toInt_inj] at *; omega) | (simp only [Int32.lt_iff_toInt_lt, Int32.le_iff_toInt_le, ← Int32.toInt_inj] at *; simp at *; omega) | (simp only [Int32.lt_iff_toInt_lt, Int32.le_iff_toInt_le, ← Int32.toInt_inj] at *; simp at *; done) | (simp at *; omega) | (simp at *; done))) dX12_copy_25 ?_
      refine k_top (y := 0) rfl ?_
      refine lv_if_eq (tgt := 38) hx hb dX12_copy_26 (by decide) (fun _ => ?_) (fun c => absurd c (by decide))
      refine lv_aload_n hx hb dX12_copy_38 rfl (lv_at hl 0 rfl) ?_
      refine lv_iconst (v := 2) hx hb dX12_copy_39 (by decide) ?_
      refine k_Vi [0] [1] 0 12 (wr := [(z 3, .inl (gI g, 4, .inl (fun _ => 0)))]) hx hb hml hown hts hKW hP hD hS hA hl.1 (c_X12_finding_2 l g _ (z 0) (z 1) (z 2) (z 3) (z 4) (z 5) (z 6) (z 7) (z 8) (z 9) (z 10) (z 11) (z 12) (z 13) (z 14) (z 15) 0 0 0 0 0 ) rfl rfl rfl wd_10_15 wd_1_5 wd_10_12 wd_10_13 wd_10_14 yd_X12_finding ⟨Nat.le_of_ble_eq_true rfl, Nat.le_of_ble_eq_true rfl⟩ rfl rfl rfl rfl rfl (by decide) rfl (Nat.le_of_ble_eq_true rfl) dX12_copy_40 ⟨Nat.le_of_ble_eq_true rfl, Nat.le_of_ble_eq_true rfl⟩ (fun r_7 u_8 H locs hw_9 hP hD hS => ?_)
      have hP : va_P g.1 vwCl [(z 3, .inl (gI g, 4, .inl (fun _ => 0)))] H := hP
      have hD : va_D A [(z 3, .inl (gI g, 4, .inl (fun _ => 0)))] := hD
      have hw_9 : r_7 = (-100002) := hw_9
      subst hw_9
      exact k_iret () [] hx hb hr hlk hP hD hS (by clear hP hD hS hA hts hKW hl; unfold aCopy; (repeat' split) <;> first | rfl | (exfalso; first | omega | (simp only [Int32.lt_iff_toInt_lt, Int32.le_iff_toInt_le, ← Int32.toInt_inj] at *; omega) | (simp only [Int32.lt_iff_toInt_lt, Int32.le_iff_toInt_le, ← Int32.toInt_inj] at *; simp at *; omega) | (simp only [Int32.lt_iff_toInt_lt, Int32.le_iff_toInt_le, ← Int32.toInt_inj] at *; simp at *; done) | (simp at *; omega) | (simp at *; done))) rfl rfl rfl (Nat.le_of_ble_eq_true rfl) (Nat.le_of_ble_eq_true rfl) dX12_copy_43
    · refine lv_if_ne (tgt := 20) hx hb dX12_copy_11 (by decide) (fun c => absurd c (by decide)) (fun _ => ?_)
      refine lv_aload_n hx hb dX12_copy_14 rfl (lv_at hl 0 rfl) ?_
      refine lv_iconst (v := 1) hx hb dX12_copy_15 (by decide) ?_
      refine k_Vi [0] [1] 0 12 (wr := [(z 3, .inl (gI g, 4, .inl (fun _ => 0)))]) hx hb hml hown hts hKW hP hD hS hA hl.1 (c_X12_finding_1 l g _ (z 0) (z 1) (z 2) (z 3) (z 4) (z 5) (z 6) (z 7) (z 8) (z 9) (z 10) (z 11) (z 12) (z 13) (z 14) (z 15) 0 0 0 0 0 ) rfl rfl rfl wd_10_15 wd_1_5 wd_10_12 wd_10_13 wd_10_14 yd_X12_finding ⟨Nat.le_of_ble_eq_true rfl, Nat.le_of_ble_eq_true rfl⟩ rfl rfl rfl rfl rfl (by decide) rfl (Nat.le_of_ble_eq_true rfl) dX12_copy_16 ⟨Nat.le_of_ble_eq_true rfl, Nat.le_of_ble_eq_true rfl⟩ (fun r_10 u_11 H locs hw_12 hP hD hS => ?_)
      have hP : va_P g.1 vwCl [(z 3, .inl (gI g, 4, .inl (fun _ => 0)))] H := hP
      have hD : va_D A [(z 3, .inl (gI g, 4, .inl (fun _ => 0)))] := hD
      have hw_12 : r_10 = (-100001) := hw_12
      subst hw_12
      exact k_iret () [] hx hb hr hlk hP hD hS (by clear hP hD hS hA hts hKW hl; unfold aCopy; (repeat' split) <;> first | rfl | (exfalso; first | omega | (simp only [Int32.lt_iff_toInt_lt, Int32.le_iff_toInt_le, ← Int32.toInt_inj] at *; omega) | (simp only [Int32.lt_iff_toInt_lt, Int32.le_iff_toInt_le, ← Int32.toInt_inj] at *; simp at *; omega) | (simp only [Int32.lt_iff_toInt_lt, Int32.le_iff_toInt_le, ← Int32.toInt_inj] at *; simp at *; done) | (simp at *; omega) | (simp at *; done))) rfl rfl rfl (Nat.le_of_ble_eq_true rfl) (Nat.le_of_ble_eq_true rfl) dX12_copy_19
  · refine lv_if_eq (tgt := 14) hx hb dX12_copy_4 (by decide) (fun _ => ?_) (fun c => absurd c (by decide))
    refine lv_aload_n hx hb dX12_copy_14 rfl (lv_at hl 0 rfl) ?_
    refine lv_iconst (v := 1) hx hb dX12_copy_15 (by decide) ?_
    refine k_Vi [0] [1] 0 12 (wr := [(z 3, .inl (gI g, 4, .inl (fun _ => 0)))]) hx hb hml hown hts hKW hP hD hS hA hl.1 (c_X12_finding_1 l g _ (z 0) (z 1) (z 2) (z 3) (z 4) (z 5) (z 6) (z 7) (z 8) (z 9) (z 10) (z 11) (z 12) (z 13) (z 14) (z 15) 0 0 0 0 0 ) rfl rfl rfl wd_10_15 wd_1_5 wd_10_12 wd_10_13 wd_10_14 yd_X12_finding ⟨Nat.le_of_ble_eq_true rfl, Nat.le_of_ble_eq_true rfl⟩ rfl rfl rfl rfl rfl (by decide) rfl (Nat.le_of_ble_eq_true rfl) dX12_copy_16 ⟨Nat.le_of_ble_eq_true rfl, Nat.le_of_ble_eq_true rfl⟩ (fun r_13 u_14 H locs hw_15 hP hD hS => ?_)
    have hP : va_P g.1 vwCl [(z 3, .inl (gI g, 4, .inl (fun _ => 0)))] H := hP
    have hD : va_D A [(z 3, .inl (gI g, 4, .inl (fun _ => 0)))] := hD
    have hw_15 : r_13 = (-100001) := hw_15
    subst hw_15
    exact k_iret () [] hx hb hr hlk hP hD hS (by clear hP hD hS hA hts hKW hl; unfold aCopy; (repeat' split) <;> first | rfl | (exfalso; first | omega | (simp only [Int32.lt_iff_toInt_lt, Int32.le_iff_toInt_le, ← Int32.toInt_inj] at *; omega) | (simp only [Int32.lt_iff_toInt_lt, Int32.le_iff_toInt_le, ← Int32.toInt_inj] at *; simp at *; omega) | (simp only [Int32.lt_iff_toInt_lt, Int32.le_iff_toInt_le, ← Int32.toInt_inj] at *; simp at *; done) | (simp at *; omega) | (simp at *; done))) rfl rfl rfl (Nat.le_of_ble_eq_true rfl) (Nat.le_of_ble_eq_true rfl) dX12_copy_19
theorem dX12_undo_0 : decode cX12_undo 0 = .ok (.aload_n 0, 1) := by decide +kernel
theorem dX12_undo_1 : decode cX12_undo 1 = .ok (.getfield 61, 3) := by decide +kernel
theorem dX12_undo_4 : decode cX12_undo 4 = .ok (.ifCond .ne 10, 3) := by decide +kernel
theorem dX12_undo_7 : decode cX12_undo 7 = .ok (.aload_n 0, 1) := by decide +kernel
theorem dX12_undo_8 : decode cX12_undo 8 = .ok (.bipush 6, 2) := by decide +kernel
theorem dX12_undo_10 : decode cX12_undo 10 = .ok (.invokevirtual 68, 3) := by decide +kernel
theorem dX12_undo_13 : decode cX12_undo 13 = .ok (.ireturn, 1) := by decide +kernel
set_option maxHeartbeats 4000000 in
set_option maxRecDepth 100000 in
theorem c_X12_undo (l : Launch) (g : kG) (sz : Nat) (z : Nat → Nat) : kMi l g yX12_undo cX12_undo 2 (some .int) 6 0 0 [.ref (z 0)] sz [(z 0, .inr (12, [.ref (z 1), .ref (z 2), .int 0, .int 0, .ref (z 3), .ref (z 4), .ref (z 5), .ref (z 6), .int 0, .ref (z 7), .ref (z 8), .ref (z 9), .ref (z 10), .ref (z 11), .ref (z 12), .int 0, .ref (z 13), .ref (z 14), .int 0, .ref (z 15)]))] (fun (r : Int32) (u : Unit) => r = (-100006)) (fun (u : Unit) => ([] : va_W)) := by
  refine kMi.of (by decide) (Nat.le_of_ble_eq_true rfl) (fun p e s m below meth c A hx hb hr hml hown hts hlk hnm hKW hP hD hS hA ls hl => ?_)
  have hown : s.vm.findClass RX12 = some m.cls := hown
  have hl : lv_has ls 2 [(0, .ref (z 0))] := hl
  refine lv_aload_n hx hb dX12_undo_0 rfl (lv_at hl 0 rfl) ?_
  refine va_get (ci := 12) (C := RX12) (T := TX12) (N := 20) hx hb hts inlX12 hown hKW.1 hP 0 rfl rfl 2 (by decide) (hts _ wd_10_22) (fun _ h => h) rfl dX12_undo_1 ?_
  refine lv_if_ne (tgt := 14) hx hb dX12_undo_4 (by decide) (fun c => absurd c (by decide)) (fun _ => ?_)
  refine lv_aload_n hx hb dX12_undo_7 rfl (lv_at hl 0 rfl) ?_
  refine lv_bipush (v := 6) hx hb dX12_undo_8 (by decide) ?_
  refine k_Vi [0] [] 0 12 (wr := []) hx hb hml hown hts hKW hP hD hS hA hl.1 (c_X12_finding_6 l g _ (z 0) (z 1) (z 2) (z 3) (z 4) (z 5) (z 6) (z 7) (z 8) (z 9) (z 10) (z 11) (z 12) (z 13) (z 14) (z 15) 0 0 0 0 0 ) rfl rfl rfl wd_10_15 wd_1_5 wd_10_12 wd_10_13 wd_10_14 yd_X12_finding ⟨Nat.le_of_ble_eq_true rfl, Nat.le_of_ble_eq_true rfl⟩ rfl rfl rfl rfl rfl (by decide) rfl (Nat.le_of_ble_eq_true rfl) dX12_undo_10 ⟨Nat.le_of_ble_eq_true rfl, Nat.le_of_ble_eq_true rfl⟩ (fun r_1 u_2 H locs hw_3 hP hD hS => ?_)
  have hP : va_P g.1 vwCl [] H := hP
  have hD : va_D A [] := hD
  have hw_3 : r_1 = (-100006) := hw_3
  subst hw_3
  exact k_iret () [] hx hb hr hlk hP hD hS rfl rfl rfl rfl (Nat.le_of_ble_eq_true rfl) (Nat.le_of_ble_eq_true rfl) dX12_undo_13
theorem dX12_all_0 : decode cX12_all 0 = .ok (.iconst 0, 1) := by decide +kernel
theorem dX12_all_1 : decode cX12_all 1 = .ok (.istore_n 2, 1) := by decide +kernel
theorem dX12_all_2 : decode cX12_all 2 = .ok (.iload_n 1, 1) := by decide +kernel
theorem dX12_all_3 : decode cX12_all 3 = .ok (.tableswitch 133 0 7 #[45, 52, 59, 66, 106, 113, 120, 128], 45) := by decide +kernel
theorem dX12_all_136 : decode cX12_all 136 = .ok (.aload_n 0, 1) := by decide +kernel
theorem dX12_all_137 : decode cX12_all 137 = .ok (.iconst 1, 1) := by decide +kernel
theorem dX12_all_138 : decode cX12_all 138 = .ok (.invokevirtual 68, 3) := by decide +kernel
theorem dX12_all_141 : decode cX12_all 141 = .ok (.ireturn, 1) := by decide +kernel
theorem dX12_all_48 : decode cX12_all 48 = .ok (.aload_n 0, 1) := by decide +kernel
theorem dX12_all_49 : decode cX12_all 49 = .ok (.getfield 7, 3) := by decide +kernel
theorem dX12_all_52 : decode cX12_all 52 = .ok (.iconst 0, 1) := by decide +kernel
theorem dX12_all_53 : decode cX12_all 53 = .ok (.iaload, 1) := by decide +kernel
theorem dX12_all_54 : decode cX12_all 54 = .ok (.ireturn, 1) := by decide +kernel
theorem dX12_all_55 : decode cX12_all 55 = .ok (.aload_n 0, 1) := by decide +kernel
theorem dX12_all_56 : decode cX12_all 56 = .ok (.getfield 7, 3) := by decide +kernel
theorem dX12_all_59 : decode cX12_all 59 = .ok (.iconst 1, 1) := by decide +kernel
theorem dX12_all_60 : decode cX12_all 60 = .ok (.iaload, 1) := by decide +kernel
theorem dX12_all_61 : decode cX12_all 61 = .ok (.ireturn, 1) := by decide +kernel
theorem dX12_all_62 : decode cX12_all 62 = .ok (.aload_n 0, 1) := by decide +kernel
theorem dX12_all_63 : decode cX12_all 63 = .ok (.getfield 7, 3) := by decide +kernel
theorem dX12_all_66 : decode cX12_all 66 = .ok (.iconst 2, 1) := by decide +kernel
theorem dX12_all_67 : decode cX12_all 67 = .ok (.iaload, 1) := by decide +kernel
theorem dX12_all_68 : decode cX12_all 68 = .ok (.ireturn, 1) := by decide +kernel
theorem dX12_all_69 : decode cX12_all 69 = .ok (.iconst 0, 1) := by decide +kernel
theorem dX12_all_70 : decode cX12_all 70 = .ok (.istore_n 3, 1) := by decide +kernel
theorem dX12_all_71 : decode cX12_all 71 = .ok (.iload_n 3, 1) := by decide +kernel
theorem dX12_all_72 : decode cX12_all 72 = .ok (.aload_n 0, 1) := by decide +kernel
theorem dX12_all_73 : decode cX12_all 73 = .ok (.getfield 7, 3) := by decide +kernel
theorem dX12_all_76 : decode cX12_all 76 = .ok (.iconst 2, 1) := by decide +kernel
theorem dX12_all_77 : decode cX12_all 77 = .ok (.iaload, 1) := by decide +kernel
theorem dX12_all_78 : decode cX12_all 78 = .ok (.if_icmp .ge 29, 3) := by decide +kernel
theorem dX12_all_107 : decode cX12_all 107 = .ok (.iload_n 2, 1) := by decide +kernel
theorem dX12_all_108 : decode cX12_all 108 = .ok (.ireturn, 1) := by decide +kernel
theorem dX12_all_109 : decode cX12_all 109 = .ok (.aload_n 0, 1) := by decide +kernel
theorem dX12_all_110 : decode cX12_all 110 = .ok (.getfield 7, 3) := by decide +kernel
theorem dX12_all_113 : decode cX12_all 113 = .ok (.iconst 4, 1) := by decide +kernel
theorem dX12_all_114 : decode cX12_all 114 = .ok (.iaload, 1) := by decide +kernel
theorem dX12_all_115 : decode cX12_all 115 = .ok (.ireturn, 1) := by decide +kernel
theorem dX12_all_116 : decode cX12_all 116 = .ok (.aload_n 0, 1) := by decide +kernel
theorem dX12_all_117 : decode cX12_all 117 = .ok (.getfield 7, 3) := by decide +kernel
theorem dX12_all_120 : decode cX12_all 120 = .ok (.iconst 5, 1) := by decide +kernel
theorem dX12_all_121 : decode cX12_all 121 = .ok (.iaload, 1) := by decide +kernel
theorem dX12_all_122 : decode cX12_all 122 = .ok (.ireturn, 1) := by decide +kernel
theorem dX12_all_123 : decode cX12_all 123 = .ok (.aload_n 0, 1) := by decide +kernel
theorem dX12_all_124 : decode cX12_all 124 = .ok (.getfield 7, 3) := by decide +kernel
theorem dX12_all_127 : decode cX12_all 127 = .ok (.bipush 6, 2) := by decide +kernel
theorem dX12_all_129 : decode cX12_all 129 = .ok (.iaload, 1) := by decide +kernel
theorem dX12_all_130 : decode cX12_all 130 = .ok (.ireturn, 1) := by decide +kernel
theorem dX12_all_131 : decode cX12_all 131 = .ok (.aload_n 0, 1) := by decide +kernel
theorem dX12_all_132 : decode cX12_all 132 = .ok (.getfield 56, 3) := by decide +kernel
theorem dX12_all_135 : decode cX12_all 135 = .ok (.ireturn, 1) := by decide +kernel
set_option maxHeartbeats 4000000 in
set_option maxRecDepth 100000 in
theorem c_X12_all (l : Launch) (g : kG) (sz : Nat) (z : Nat → Nat) (k : Int32) : kMi l g yX12_all cX12_all 4 (some .int) 6 0 0 [.ref (z 0), .int k] sz [(z 0, .inr (12, [.ref (z 1), .ref (z 2), .int 0, .int 0, .ref (z 3), .ref (z 4), .ref (z 5), .ref (z 6), .int 0, .ref (z 7), .ref (z 8), .ref (z 9), .ref (z 10), .ref (z 11), .ref (z 12), .int 0, .ref (z 13), .ref (z 14), .int 0, .ref (z 15)])), (z 1, .inl (gI g, 461, .inl mD0))] (fun (r : Int32) (u : Unit) => r = aR 0 7 0 k) (fun (u : Unit) => ([] : va_W)) := by
  refine kMi.of (by decide) (Nat.le_of_ble_eq_true rfl) (fun p e s m below meth c A hx hb hr hml hown hts hlk hnm hKW hP hD hS hA ls hl => ?_)
  have hown : s.vm.findClass RX12 = some m.cls := hown
  have hl : lv_has ls 4 [(0, .ref (z 0)), (1, .int k)] := hl
  refine lv_iconst (v := 0) hx hb dX12_all_0 (by decide) ?_
  refine lv_istore_n (lv' := [(2, .int 0), (0, .ref (z 0)), (1, .int k)]) hx hb dX12_all_1 rfl hl (by decide) rfl (fun ls hl => ?_)
  refine lv_iload_n hx hb dX12_all_2 rfl (lv_at hl 2 rfl) ?_
  by_cases c_1 : k.toInt < 0 ∨ 7 < k.toInt
  · refine lv_tableOut (tgt := 136) hx hb dX12_all_3 c_1 (by decide) ?_
    refine lv_aload_n hx hb dX12_all_136 rfl (lv_at hl 1 rfl) ?_
    refine lv_iconst (v := 1) hx hb dX12_all_137 (by decide) ?_
    refine k_Vi [0] [1] 0 12 (wr := [(z 1, .inl (gI g, 461, .inl mD0))]) hx hb hml hown hts hKW hP hD hS hA hl.1 (c_X12_finding_1 l g _ (z 0) (z 1) (z 2) (z 3) (z 4) (z 5) (z 6) (z 7) (z 8) (z 9) (z 10) (z 11) (z 12) (z 13) (z 14) (z 15) 0 0 0 0 0 ) rfl rfl rfl wd_10_15 wd_1_5 wd_10_12 wd_10_13 wd_10_14 yd_X12_finding ⟨Nat.le_of_ble_eq_true rfl, Nat.le_of_ble_eq_true rfl⟩ rfl rfl rfl rfl rfl (by decide) rfl (Nat.le_of_ble_eq_true rfl) dX12_all_138 ⟨Nat.le_of_ble_eq_true rfl, Nat.le_of_ble_eq_true rfl⟩ (fun r_2 u_3 H locs hw_4 hP hD hS => ?_)
    have hP : va_P g.1 vwCl [(z 1, .inl (gI g, 461, .inl mD0))] H := hP
    have hD : va_D A [(z 1, .inl (gI g, 461, .inl mD0))] := hD
    have hw_4 : r_2 = (-100001) := hw_4
    subst hw_4
    exact k_iret () [] hx hb hr hlk hP hD hS (by clear hP hD hS hA hts hKW hl; unfold aR; (repeat' split) <;> first | rfl | (exfalso; first | omega | (simp only [Int32.lt_iff_toInt_lt, Int32.le_iff_toInt_le, ← Int32.toInt_inj] at *; omega) | (simp only [Int32.lt_iff_toInt_lt, Int32.le_iff_toInt_le, ← Int32.toInt_inj] at *; simp at *; omega) | (simp only [Int32.lt_iff_toInt_lt, Int32.le_iff_toInt_le, ← Int32.toInt_inj] at *; simp at *; done) | (simp at *; omega) | (simp at *; done))) rfl rfl rfl (Nat.le_of_ble_eq_true rfl) (Nat.le_of_ble_eq_true rfl) dX12_all_141
  · rcases (show k = 0 ∨ k = 1 ∨ k = 2 ∨ k = 3 ∨ k = 4 ∨ k = 5 ∨ k = 6 ∨ k = 7 by rw [← Int32.toInt_inj]; simp only [← Int32.toInt_inj]; have := c_1; simp at this ⊢; omega) with c_1 | c_1 | c_1 | c_1 | c_1 | c_1 | c_1 | c_1
    · refine lv_tableIn (tgt := 48) hx hb dX12_all_3 (by rw [c_1]; decide) (by rw [c_1]; decide) (by rw [c_1]; rfl) (by decide) ?_
      refine lv_aload_n hx hb dX12_all_48 rfl (lv_at hl 1 rfl) ?_
      refine va_get (ci := 12) (C := RX12) (T := TX12) (N := 20) hx hb hts inlX12 hown hKW.1 hP 0 rfl rfl 0 (by decide) (hts _ wd_6_5) (fun _ h => h) rfl dX12_all_49 ?_
      refine lv_iconst (v := 0) hx hb dX12_all_52 (by decide) ?_
      refine va_iald hx hb hKW.1 hP 1 0 rfl rfl (show ¬ _ by decide) dX12_all_53 ?_
      refine k_top (y := 0) rfl ?_
      exact k_iret () [] hx hb hr hlk hP hD hS (by clear hP hD hS hA hts hKW hl; unfold aR; (repeat' split) <;> first | rfl | (exfalso; first | omega | (simp only [Int32.lt_iff_toInt_lt, Int32.le_iff_toInt_le, ← Int32.toInt_inj] at *; omega) | (simp only [Int32.lt_iff_toInt_lt, Int32.le_iff_toInt_le, ← Int32.toInt_inj] at *; simp at *; omega) | (simp only [Int32.lt_iff_toInt_lt, Int32.le_iff_toInt_le, ← Int32.toInt_inj] at *; simp at *; done) | (simp at *; omega) | (simp at *; done))) rfl rfl rfl (Nat.le_of_ble_eq_true rfl) (Nat.le_of_ble_eq_true rfl) dX12_all_54
    · refine lv_tableIn (tgt := 55) hx hb dX12_all_3 (by rw [c_1]; decide) (by rw [c_1]; decide) (by rw [c_1]; rfl) (by decide) ?_
      refine lv_aload_n hx hb dX12_all_55 rfl (lv_at hl 1 rfl) ?_
      refine va_get (ci := 12) (C := RX12) (T := TX12) (N := 20) hx hb hts inlX12 hown hKW.1 hP 0 rfl rfl 0 (by decide) (hts _ wd_6_5) (fun _ h => h) rfl dX12_all_56 ?_
      refine lv_iconst (v := 1) hx hb dX12_all_59 (by decide) ?_
      refine va_iald hx hb hKW.1 hP 1 0 rfl rfl (show ¬ _ by decide) dX12_all_60 ?_
      refine k_top (y := 0) rfl ?_
      exact k_iret () [] hx hb hr hlk hP hD hS (by clear hP hD hS hA hts hKW hl; unfold aR; (repeat' split) <;> first | rfl | (exfalso; first | omega | (simp only [Int32.lt_iff_toInt_lt, Int32.le_iff_toInt_le, ← Int32.toInt_inj] at *; omega) | (simp only [Int32.lt_iff_toInt_lt, Int32.le_iff_toInt_le, ← Int32.toInt_inj] at *; simp at *; omega) | (simp only [Int32.lt_iff_toInt_lt, Int32.le_iff_toInt_le, ← Int32.toInt_inj] at *; simp at *; done) | (simp at *; omega) | (simp at *; done))) rfl rfl rfl (Nat.le_of_ble_eq_true rfl) (Nat.le_of_ble_eq_true rfl) dX12_all_61
    · refine lv_tableIn (tgt := 62) hx hb dX12_all_3 (by rw [c_1]; decide) (by rw [c_1]; decide) (by rw [c_1]; rfl) (by decide) ?_
      refine lv_aload_n hx hb dX12_all_62 rfl (lv_at hl 1 rfl) ?_
      refine va_get (ci := 12) (C := RX12) (T := TX12) (N := 20) hx hb hts inlX12 hown hKW.1 hP 0 rfl rfl 0 (by decide) (hts _ wd_6_5) (fun _ h => h) rfl dX12_all_63 ?_
      refine lv_iconst (v := 2) hx hb dX12_all_66 (by decide) ?_
      refine va_iald hx hb hKW.1 hP 1 0 rfl rfl (show ¬ _ by decide) dX12_all_67 ?_
      refine k_top (y := 0) rfl ?_
      exact k_iret () [] hx hb hr hlk hP hD hS (by clear hP hD hS hA hts hKW hl; unfold aR; (repeat' split) <;> first | rfl | (exfalso; first | omega | (simp only [Int32.lt_iff_toInt_lt, Int32.le_iff_toInt_le, ← Int32.toInt_inj] at *; omega) | (simp only [Int32.lt_iff_toInt_lt, Int32.le_iff_toInt_le, ← Int32.toInt_inj] at *; simp at *; omega) | (simp only [Int32.lt_iff_toInt_lt, Int32.le_iff_toInt_le, ← Int32.toInt_inj] at *; simp at *; done) | (simp at *; omega) | (simp at *; done))) rfl rfl rfl (Nat.le_of_ble_eq_true rfl) (Nat.le_of_ble_eq_true rfl) dX12_all_68
    · refine lv_tableIn (tgt := 69) hx hb dX12_all_3 (by rw [c_1]; decide) (by rw [c_1]; decide) (by rw [c_1]; rfl) (by decide) ?_
      refine lv_iconst (v := 0) hx hb dX12_all_69 (by decide) ?_
      refine lv_istore_n (lv' := [(3, .int 0), (2, .int 0), (0, .ref (z 0)), (1, .int k)]) hx hb dX12_all_70 rfl hl (by decide) rfl (fun ls hl => ?_)
      refine lv_iload_n hx hb dX12_all_71 rfl (lv_at hl 0 rfl) ?_
      refine lv_aload_n hx hb dX12_all_72 rfl (lv_at hl 2 rfl) ?_
      refine va_get (ci := 12) (C := RX12) (T := TX12) (N := 20) hx hb hts inlX12 hown hKW.1 hP 0 rfl rfl 0 (by decide) (hts _ wd_6_5) (fun _ h => h) rfl dX12_all_73 ?_
      refine lv_iconst (v := 2) hx hb dX12_all_76 (by decide) ?_
      refine va_iald hx hb hKW.1 hP 1 0 rfl rfl (show ¬ _ by decide) dX12_all_77 ?_
      refine k_top (y := 0) rfl ?_
      refine lv_icmp_ge (tgt := 107) hx hb dX12_all_78 (by decide) (fun _ => ?_) (fun c => absurd c (by decide))
      refine lv_iload_n hx hb dX12_all_107 rfl (lv_at hl 1 rfl) ?_
      exact k_iret () [] hx hb hr hlk hP hD hS (by clear hP hD hS hA hts hKW hl; unfold aR; (repeat' split) <;> first | rfl | (exfalso; first | omega | (simp only [Int32.lt_iff_toInt_lt, Int32.le_iff_toInt_le, ← Int32.toInt_inj] at *; omega) | (simp only [Int32.lt_iff_toInt_lt, Int32.le_iff_toInt_le, ← Int32.toInt_inj] at *; simp at *; omega) | (simp only [Int32.lt_iff_toInt_lt, Int32.le_iff_toInt_le, ← Int32.toInt_inj] at *; simp at *; done) | (simp at *; omega) | (simp at *; done))) rfl rfl rfl (Nat.le_of_ble_eq_true rfl) (Nat.le_of_ble_eq_true rfl) dX12_all_108
    · refine lv_tableIn (tgt := 109) hx hb dX12_all_3 (by rw [c_1]; decide) (by rw [c_1]; decide) (by rw [c_1]; rfl) (by decide) ?_
      refine lv_aload_n hx hb dX12_all_109 rfl (lv_at hl 1 rfl) ?_
      refine va_get (ci := 12) (C := RX12) (T := TX12) (N := 20) hx hb hts inlX12 hown hKW.1 hP 0 rfl rfl 0 (by decide) (hts _ wd_6_5) (fun _ h => h) rfl dX12_all_110 ?_
      refine lv_iconst (v := 4) hx hb dX12_all_113 (by decide) ?_
      refine va_iald hx hb hKW.1 hP 1 0 rfl rfl (show ¬ _ by decide) dX12_all_114 ?_
      refine k_top (y := 0) rfl ?_
      exact k_iret () [] hx hb hr hlk hP hD hS (by clear hP hD hS hA hts hKW hl; unfold aR; (repeat' split) <;> first | rfl | (exfalso; first | omega | (simp only [Int32.lt_iff_toInt_lt, Int32.le_iff_toInt_le, ← Int32.toInt_inj] at *; omega) | (simp only [Int32.lt_iff_toInt_lt, Int32.le_iff_toInt_le, ← Int32.toInt_inj] at *; simp at *; omega) | (simp only [Int32.lt_iff_toInt_lt, Int32.le_iff_toInt_le, ← Int32.toInt_inj] at *; simp at *; done) | (simp at *; omega) | (simp at *; done))) rfl rfl rfl (Nat.le_of_ble_eq_true rfl) (Nat.le_of_ble_eq_true rfl) dX12_all_115
    · refine lv_tableIn (tgt := 116) hx hb dX12_all_3 (by rw [c_1]; decide) (by rw [c_1]; decide) (by rw [c_1]; rfl) (by decide) ?_
      refine lv_aload_n hx hb dX12_all_116 rfl (lv_at hl 1 rfl) ?_
      refine va_get (ci := 12) (C := RX12) (T := TX12) (N := 20) hx hb hts inlX12 hown hKW.1 hP 0 rfl rfl 0 (by decide) (hts _ wd_6_5) (fun _ h => h) rfl dX12_all_117 ?_
      refine lv_iconst (v := 5) hx hb dX12_all_120 (by decide) ?_
      refine va_iald hx hb hKW.1 hP 1 0 rfl rfl (show ¬ _ by decide) dX12_all_121 ?_
      refine k_top (y := 0) rfl ?_
      exact k_iret () [] hx hb hr hlk hP hD hS (by clear hP hD hS hA hts hKW hl; unfold aR; (repeat' split) <;> first | rfl | (exfalso; first | omega | (simp only [Int32.lt_iff_toInt_lt, Int32.le_iff_toInt_le, ← Int32.toInt_inj] at *; omega) | (simp only [Int32.lt_iff_toInt_lt, Int32.le_iff_toInt_le, ← Int32.toInt_inj] at *; simp at *; omega) | (simp only [Int32.lt_iff_toInt_lt, Int32.le_iff_toInt_le, ← Int32.toInt_inj] at *; simp at *; done) | (simp at *; omega) | (simp at *; done))) rfl rfl rfl (Nat.le_of_ble_eq_true rfl) (Nat.le_of_ble_eq_true rfl) dX12_all_122
    · refine lv_tableIn (tgt := 123) hx hb dX12_all_3 (by rw [c_1]; decide) (by rw [c_1]; decide) (by rw [c_1]; rfl) (by decide) ?_
      refine lv_aload_n hx hb dX12_all_123 rfl (lv_at hl 1 rfl) ?_
      refine va_get (ci := 12) (C := RX12) (T := TX12) (N := 20) hx hb hts inlX12 hown hKW.1 hP 0 rfl rfl 0 (by decide) (hts _ wd_6_5) (fun _ h => h) rfl dX12_all_124 ?_
      refine lv_bipush (v := 6) hx hb dX12_all_127 (by decide) ?_
      refine va_iald hx hb hKW.1 hP 1 0 rfl rfl (show ¬ _ by decide) dX12_all_129 ?_
      refine k_top (y := 0) rfl ?_
      exact k_iret () [] hx hb hr hlk hP hD hS (by clear hP hD hS hA hts hKW hl; unfold aR; (repeat' split) <;> first | rfl | (exfalso; first | omega | (simp only [Int32.lt_iff_toInt_lt, Int32.le_iff_toInt_le, ← Int32.toInt_inj] at *; omega) | (simp only [Int32.lt_iff_toInt_lt, Int32.le_iff_toInt_le, ← Int32.toInt_inj] at *; simp at *; omega) | (simp only [Int32.lt_iff_toInt_lt, Int32.le_iff_toInt_le, ← Int32.toInt_inj] at *; simp at *; done) | (simp at *; omega) | (simp at *; done))) rfl rfl rfl (Nat.le_of_ble_eq_true rfl) (Nat.le_of_ble_eq_true rfl) dX12_all_130
    · refine lv_tableIn (tgt := 131) hx hb dX12_all_3 (by rw [c_1]; decide) (by rw [c_1]; decide) (by rw [c_1]; rfl) (by decide) ?_
      refine lv_aload_n hx hb dX12_all_131 rfl (lv_at hl 1 rfl) ?_
      refine va_get (ci := 12) (C := RX12) (T := TX12) (N := 20) hx hb hts inlX12 hown hKW.1 hP 0 rfl rfl 3 (by decide) (hts _ wd_10_16) (fun _ h => h) rfl dX12_all_132 ?_
      exact k_iret () [] hx hb hr hlk hP hD hS (by clear hP hD hS hA hts hKW hl; unfold aR; (repeat' split) <;> first | rfl | (exfalso; first | omega | (simp only [Int32.lt_iff_toInt_lt, Int32.le_iff_toInt_le, ← Int32.toInt_inj] at *; omega) | (simp only [Int32.lt_iff_toInt_lt, Int32.le_iff_toInt_le, ← Int32.toInt_inj] at *; simp at *; omega) | (simp only [Int32.lt_iff_toInt_lt, Int32.le_iff_toInt_le, ← Int32.toInt_inj] at *; simp at *; done) | (simp at *; omega) | (simp at *; done))) rfl rfl rfl (Nat.le_of_ble_eq_true rfl) (Nat.le_of_ble_eq_true rfl) dX12_all_135
