theorem dL_law_18 : decode cL_law 18 = .ok (.iload_n 3, 1) := by decide +kernel
theorem dL_law_19 : decode cL_law 19 = .ok (.aload_n 0, 1) := by decide +kernel
theorem dL_law_20 : decode cL_law 20 = .ok (.arraylength, 1) := by decide +kernel
theorem dL_law_21 : decode cL_law 21 = .ok (.bipush 6, 2) := by decide +kernel
theorem dL_law_23 : decode cL_law 23 = .ok (.isub, 1) := by decide +kernel
theorem dL_law_24 : decode cL_law 24 = .ok (.if_icmp .gt 1488, 3) := by decide +kernel
theorem dL_law_27 : decode cL_law 27 = .ok (.aload_n 0, 1) := by decide +kernel
theorem dL_law_28 : decode cL_law 28 = .ok (.iload_n 3, 1) := by decide +kernel
theorem dL_law_29 : decode cL_law 29 = .ok (.iaload, 1) := by decide +kernel
theorem dL_law_30 : decode cL_law 30 = .ok (.bipush 63, 2) := by decide +kernel
theorem dL_law_32 : decode cL_law 32 = .ok (.iand, 1) := by decide +kernel
theorem dL_law_33 : decode cL_law 33 = .ok (.tableswitch 1473 0 41 #[183, 216, 239, 272, 325, 358, 391, 414, 437, 450, 483, 516, 549, 608, 641, 664, 697, 710, 723, 746, 759, 792, 841, 864, 913, 956, 979, 1002, 1025, 1048, 1071, 1094, 1117, 1160, 1183, 1252, 1275, 1288, 1331, 1374, 1437, 1450], 183) := by decide +kernel
theorem dL_law_1506 : decode cL_law 1506 = .ok (.iinc 3 6, 3) := by decide +kernel
theorem dL_law_1509 : decode cL_law 1509 = .ok (.goto (-1491), 3) := by decide +kernel
theorem dL_law_1512 : decode cL_law 1512 = .ok (.iconst 1, 1) := by decide +kernel
theorem dL_law_1513 : decode cL_law 1513 = .ok (.ireturn, 1) := by decide +kernel
set_option maxHeartbeats 8000000 in
set_option maxRecDepth 100000 in
theorem law_loop {p : Program} {e : Env} {s : State} {m : MethodId} {below : List Frame} {meth : Method} {c : Code} (l : Launch) (g : kG) {A : Nat → Prop} {b L : Nat} {sx : Nat → Int32} (hA : ∀ q : Nat, s.heap.size ≤ q → A q) (hA2 : ∀ q : Nat, A q → s.heap.size ≤ q) (hKW : kKW g A s) (hts : ∀ w ∈ wsL_law, w.before #[Value.ref b] s = true) (C0 : lw_At p s m meth c b L sx) (hL : L ≤ 3072) (q z : Nat → Nat) (n : Nat) : ∀ (i k : Nat) (hik : i = 6 * k) (nn : Nat → Nat) (v : Nat → Int32) (F : Nat → Nat → Int32) (fn : Int32) (hnx : Nat) (hc : Int32) (kf : Nat → Option Nat) (rf : Nat → Int32) (rr : Nat → Int64) (l1 : Nat → Int32) (l2 : Nat → Int32) (l3 : Nat → Int32) (xab : Int32) (xtr : Int32) (sf0 : Nat → Int32) (sb : Nat → Int32) (sn : Nat → Nat) (SF : Nat → Nat → Int32) (R : va_W) (kp : Nat) (xs : Nat → Int32) (D : Nat → Int32) (Wk : Nat → Int32) (B : Nat → Int32) (Z : Nat → Int32) (M : Nat → Int32) (pf : Nat → Int32) (cf : Nat → Int32) (f0 : Nat → Int32) (f1 : Nat → Int32) (f2 : Nat → Int32) (f3 : Nat → Int32) (f4 : Nat → Int32) (T : Nat → Int32) (Bg : Nat → Int32) (Cf : Nat → Int32) (hI : kInv g nn F hnx kf R sn D kp Wk Z sb B SF M) (hk : i ≤ L) (hn : L - i < n) (H : Heap) (locs : List Loc) (hP : va_P g.1 vwCl ((q 0, .inr (11, [.ref (q 1), .ref (q 29), .ref (q 31), .ref (q 34), .ref (q 38), .ref (q 40), .int fn])) :: (q 1, .inr (4, [.ref (q 2), .ref (q 6), .ref (q 9), .ref (q 18), .ref (q 22), .ref (q 26), .ref (q 28), .int (v 4), .int (v 5), .int (nI (nn 7)), .int (v 6)])) :: (q 2, .inr (8, [.int (nI (nn 0)), .ref (q 3), .ref (q 4), .ref (q 5)])) :: (q 3, .inl (gI g, 5, .inl (F 0))) :: (q 4, .inl (gI g, 5, .inl (F 1))) :: (q 5, .inl (gI g, 5, .inl (F 2))) :: (q 6, .inr (1, [.int (nI (nn 1)), .ref (q 7), .ref (q 8), .int (v 0)])) :: (q 7, .inl (gI g, 7, .inl (F 3))) :: (q 8, .inl (gI g, 7, .inl (F 4))) :: (q 9, .inr (0, [.int (nI (nn 2)), .ref (q 10), .ref (q 11), .ref (q 12), .ref (q 13), .ref (q 14), .ref (q 15), .ref (q 16), .int (v 1), .int (v 2), .int (nI (nn 3)), .ref (q 17)])) :: (q 10, .inl (gI g, 10, .inl (F 5))) :: (q 11, .inl (gI g, 10, .inl (F 6))) :: (q 12, .inl (gI g, 10, .inl (F 7))) :: (q 13, .inl (gI g, 10, .inl (F 8))) :: (q 14, .inl (gI g, 10, .inl (F 9))) :: (q 15, .inl (gI g, 10, .inl (F 10))) :: (q 16, .inl (gI g, 10, .inl (F 11))) :: (q 17, .inl (gI g, 10, .inl (F 12))) :: (q 18, .inr (3, [.int (nI (nn 4)), .ref (q 19), .ref (q 20), .ref (q 21)])) :: (q 19, .inl (gI g, 40, .inl (F 13))) :: (q 20, .inl (gI g, 40, .inl (F 14))) :: (q 21, .inl (gI g, 40, .inl (F 15))) :: (q 22, .inr (3, [.int (nI (nn 5)), .ref (q 23), .ref (q 24), .ref (q 25)])) :: (q 23, .inl (gI g, 40, .inl (F 16))) :: (q 24, .inl (gI g, 40, .inl (F 17))) :: (q 25, .inl (gI g, 40, .inl (F 18))) :: (q 26, .inr (6, [.int (nI (nn 6)), .int (v 3), .ref (q 27)])) :: (q 27, .inl (gI g, 14, .inl (F 19))) :: (q 28, .inl (gI g, 60, .inl (F 20))) :: (q 29, .inr (2, [.int hc, .int (nI hnx), .ref (q 30)])) :: (q 30, .inl (gN g, 16, .inr (.inr (.inr (.inr kf))))) :: (q 31, .inr (7, [.ref (q 32), .ref (q 33)])) :: (q 32, .inl (gI g, 7, .inl rf)) :: (q 33, .inl (gJ g, 5, .inr (.inl rr))) :: (q 34, .inr (5, [.ref (q 35), .ref (q 36), .ref (q 37), .int xab, .int xtr])) :: (q 35, .inl (gI g, 128, .inl l1)) :: (q 36, .inl (gI g, 128, .inl l2)) :: (q 37, .inl (gI g, 128, .inl l3)) :: (q 38, .inr (10, [.ref (q 39)])) :: (q 39, .inl (gI g, 60, .inl sf0)) :: (q 40, .inl (gS g, 4, .inr (.inr (.inr (.inr (va_up (va_up (va_up (va_up (fun _ => none) 0 (some (q 41))) 1 (some (q 43))) 2 (some (q 45))) 3 (some (q 47)))))))) :: (q 41, .inr (9, [.int (sb 0), .int (nI (sn 0)), .ref (q 42)])) :: (q 42, .inl (gI g, 60, .inl (SF 0))) :: (q 43, .inr (9, [.int (sb 1), .int (nI (sn 1)), .ref (q 44)])) :: (q 44, .inl (gI g, 60, .inl (SF 1))) :: (q 45, .inr (9, [.int (sb 2), .int (nI (sn 2)), .ref (q 46)])) :: (q 46, .inl (gI g, 60, .inl (SF 2))) :: (q 47, .inr (9, [.int (sb 3), .int (nI (sn 3)), .ref (q 48)])) :: (q 48, .inl (gI g, 60, .inl (SF 3))) :: (z 0, .inr (12, [.ref (z 1), .ref (z 2), .int (nI kp), .int (xs 0), .ref (z 3), .ref (z 4), .ref (z 5), .ref (z 6), .int (xs 1), .ref (z 7), .ref (z 8), .ref (z 9), .ref (z 10), .ref (z 11), .ref (z 12), .int (xs 2), .ref (z 13), .ref (z 14), .int (xs 3), .ref (z 15)])) :: (z 1, .inl (gI g, 461, .inl D)) :: (z 2, .inl (gI g, 7376, .inl Wk)) :: (z 3, .inl (gI g, 4, .inl B)) :: (z 4, .inl (gI g, 4, .inl Z)) :: (z 5, .inl (gI g, 240, .inl M)) :: (z 6, .inl (gI g, 5, .inl pf)) :: (z 7, .inl (gI g, 7, .inl cf)) :: (z 8, .inl (gI g, 5, .inl f0)) :: (z 9, .inl (gI g, 5, .inl f1)) :: (z 10, .inl (gZ g, 5, .inl f2)) :: (z 11, .inl (gI g, 7, .inl f3)) :: (z 12, .inl (gI g, 7, .inl f4)) :: (z 13, .inl (gI g, 60, .inl T)) :: (z 14, .inl (gI g, 480, .inl Bg)) :: (z 15, .inl (gI g, 60, .inl Cf)) :: R) H) (hD : va_D A ((q 0, .inr (11, [.ref (q 1), .ref (q 29), .ref (q 31), .ref (q 34), .ref (q 38), .ref (q 40), .int fn])) :: (q 1, .inr (4, [.ref (q 2), .ref (q 6), .ref (q 9), .ref (q 18), .ref (q 22), .ref (q 26), .ref (q 28), .int (v 4), .int (v 5), .int (nI (nn 7)), .int (v 6)])) :: (q 2, .inr (8, [.int (nI (nn 0)), .ref (q 3), .ref (q 4), .ref (q 5)])) :: (q 3, .inl (gI g, 5, .inl (F 0))) :: (q 4, .inl (gI g, 5, .inl (F 1))) :: (q 5, .inl (gI g, 5, .inl (F 2))) :: (q 6, .inr (1, [.int (nI (nn 1)), .ref (q 7), .ref (q 8), .int (v 0)])) :: (q 7, .inl (gI g, 7, .inl (F 3))) :: (q 8, .inl (gI g, 7, .inl (F 4))) :: (q 9, .inr (0, [.int (nI (nn 2)), .ref (q 10), .ref (q 11), .ref (q 12), .ref (q 13), .ref (q 14), .ref (q 15), .ref (q 16), .int (v 1), .int (v 2), .int (nI (nn 3)), .ref (q 17)])) :: (q 10, .inl (gI g, 10, .inl (F 5))) :: (q 11, .inl (gI g, 10, .inl (F 6))) :: (q 12, .inl (gI g, 10, .inl (F 7))) :: (q 13, .inl (gI g, 10, .inl (F 8))) :: (q 14, .inl (gI g, 10, .inl (F 9))) :: (q 15, .inl (gI g, 10, .inl (F 10))) :: (q 16, .inl (gI g, 10, .inl (F 11))) :: (q 17, .inl (gI g, 10, .inl (F 12))) :: (q 18, .inr (3, [.int (nI (nn 4)), .ref (q 19), .ref (q 20), .ref (q 21)])) :: (q 19, .inl (gI g, 40, .inl (F 13))) :: (q 20, .inl (gI g, 40, .inl (F 14))) :: (q 21, .inl (gI g, 40, .inl (F 15))) :: (q 22, .inr (3, [.int (nI (nn 5)), .ref (q 23), .ref (q 24), .ref (q 25)])) :: (q 23, .inl (gI g, 40, .inl (F 16))) :: (q 24, .inl (gI g, 40, .inl (F 17))) :: (q 25, .inl (gI g, 40, .inl (F 18))) :: (q 26, .inr (6, [.int (nI (nn 6)), .int (v 3), .ref (q 27)])) :: (q 27, .inl (gI g, 14, .inl (F 19))) :: (q 28, .inl (gI g, 60, .inl (F 20))) :: (q 29, .inr (2, [.int hc, .int (nI hnx), .ref (q 30)])) :: (q 30, .inl (gN g, 16, .inr (.inr (.inr (.inr kf))))) :: (q 31, .inr (7, [.ref (q 32), .ref (q 33)])) :: (q 32, .inl (gI g, 7, .inl rf)) :: (q 33, .inl (gJ g, 5, .inr (.inl rr))) :: (q 34, .inr (5, [.ref (q 35), .ref (q 36), .ref (q 37), .int xab, .int xtr])) :: (q 35, .inl (gI g, 128, .inl l1)) :: (q 36, .inl (gI g, 128, .inl l2)) :: (q 37, .inl (gI g, 128, .inl l3)) :: (q 38, .inr (10, [.ref (q 39)])) :: (q 39, .inl (gI g, 60, .inl sf0)) :: (q 40, .inl (gS g, 4, .inr (.inr (.inr (.inr (va_up (va_up (va_up (va_up (fun _ => none) 0 (some (q 41))) 1 (some (q 43))) 2 (some (q 45))) 3 (some (q 47)))))))) :: (q 41, .inr (9, [.int (sb 0), .int (nI (sn 0)), .ref (q 42)])) :: (q 42, .inl (gI g, 60, .inl (SF 0))) :: (q 43, .inr (9, [.int (sb 1), .int (nI (sn 1)), .ref (q 44)])) :: (q 44, .inl (gI g, 60, .inl (SF 1))) :: (q 45, .inr (9, [.int (sb 2), .int (nI (sn 2)), .ref (q 46)])) :: (q 46, .inl (gI g, 60, .inl (SF 2))) :: (q 47, .inr (9, [.int (sb 3), .int (nI (sn 3)), .ref (q 48)])) :: (q 48, .inl (gI g, 60, .inl (SF 3))) :: (z 0, .inr (12, [.ref (z 1), .ref (z 2), .int (nI kp), .int (xs 0), .ref (z 3), .ref (z 4), .ref (z 5), .ref (z 6), .int (xs 1), .ref (z 7), .ref (z 8), .ref (z 9), .ref (z 10), .ref (z 11), .ref (z 12), .int (xs 2), .ref (z 13), .ref (z 14), .int (xs 3), .ref (z 15)])) :: (z 1, .inl (gI g, 461, .inl D)) :: (z 2, .inl (gI g, 7376, .inl Wk)) :: (z 3, .inl (gI g, 4, .inl B)) :: (z 4, .inl (gI g, 4, .inl Z)) :: (z 5, .inl (gI g, 240, .inl M)) :: (z 6, .inl (gI g, 5, .inl pf)) :: (z 7, .inl (gI g, 7, .inl cf)) :: (z 8, .inl (gI g, 5, .inl f0)) :: (z 9, .inl (gI g, 5, .inl f1)) :: (z 10, .inl (gZ g, 5, .inl f2)) :: (z 11, .inl (gI g, 7, .inl f3)) :: (z 12, .inl (gI g, 7, .inl f4)) :: (z 13, .inl (gI g, 60, .inl T)) :: (z 14, .inl (gI g, 480, .inl Bg)) :: (z 15, .inl (gI g, 60, .inl Cf)) :: R)) (hS : va_S A s.heap H locs) (ls : Array Slot) (hl : lv_has ls 4 [(0, .ref b), (1, .ref (q 0)), (2, .ref (z 0)), (3, .int (nI i))]), W p l e room_1 s m #[Value.ref b] below meth c H locs (65 + 28 * k) (9957 + 465 * k) (lw_Z below #[Value.ref b] s) (F0 m 18 ls []) := by
  obtain ⟨hx, hb, hr, hml, hown, -, hX, hbl, hlk, hgv⟩ := id C0
  have hbA : ¬ A b := fun h => absurd (hA2 _ h) (Nat.not_le.mpr hbl)
  have hown : s.vm.findClass RL = some m.cls := hown
  induction n with
  | zero => intro i k hik nn v F fn hnx hc kf rf rr l1 l2 l3 xab xtr sf0 sb sn SF R kp xs D Wk B Z M pf cf f0 f1 f2 f3 f4 T Bg Cf hI hk hn; exact absurd hn (Nat.not_lt_zero _)
  | succ n ih =>
    intro i k hik nn v F fn hnx hc kf rf rr l1 l2 l3 xab xtr sf0 sb sn SF R kp xs D Wk B Z M pf cf f0 f1 f2 f3 f4 T Bg Cf hI hk hn H locs hP hD hS ls hl
    refine lv_iload_n hx hb dL_law_18 rfl (lv_at hl 3 rfl) ?_
    refine lv_aload_n hx hb dL_law_19 rfl (lv_at hl 0 rfl) ?_
    refine va_slen hx hb hX hbl hbA hS dL_law_20 ?_
    refine lv_bipush (v := 6) hx hb dL_law_21 (by decide) ?_
    refine lv_isub hx hb dL_law_23 ?_
    refine lv_topi (fun xl exl => ?_)
    refine lv_icmp_gt (tgt := 1512) hx hb dL_law_24 (by decide) (fun hgt => ?_) (fun hgt => ?_)
    · refine lv_iconst (v := 1) hx hb dL_law_1512 (by decide) ?_
      refine va_forget (fun q hq => hA2 _ (hS.2.2 q hq)) ?_
      refine W.widen (k := 600000) (n := 7302250) (by omega) (by omega) ?_
      exact lw_ret hx hb hr hlk dL_law_1513
    have hi6 : i + 6 ≤ L := k_scr hL (by omega) exl hgt
    have KT : kTl p l e s m below meth c g A b i (65 + 28 * k + 28) (9957 + 465 * k + 465) q z := by
      intro nn v F fn hnx hc kf rf rr l1 l2 l3 xab xtr sf0 sb sn SF R kp xs D Wk B Z M pf cf f0 f1 f2 f3 f4 T Bg Cf hI H locs hP hD hS ls hl
      refine lv_iinc (v := nI (i + 6)) (lv' := [(3, .int (nI (i + 6))), (0, .ref b), (1, .ref (q 0)), (2, .ref (z 0))]) hx hb dL_law_1506 hl (k := 3) rfl (nI_add i 6) (by decide) rfl (fun ls hl => ?_)
      refine lv_goto (tgt := 18) hx hb dL_law_1509 (by decide) ?_
      refine W.widen (k := 65 + 28 * (k + 1)) (n := 9957 + 465 * (k + 1)) (by omega) (by omega) ?_
      exact ih (i + 6) (k + 1) (by omega) nn v F fn hnx hc kf rf rr l1 l2 l3 xab xtr sf0 sb sn SF R kp xs D Wk B Z M pf cf f0 f1 f2 f3 f4 T Bg Cf hI (by omega) (by omega) H locs hP hD hS ls (lv_sub hl [1, 2, 3, 0] rfl)
    refine lv_aload_n hx hb dL_law_27 rfl (lv_at hl 0 rfl) ?_
    refine lv_iload_n hx hb dL_law_28 rfl (lv_at hl 3 rfl) ?_
    refine va_sld hx hb hX hbl hbA hS (vp_in_nI (by omega) (by omega)) dL_law_29 ?_
    refine lv_bipush (v := 63) hx hb dL_law_30 (by decide) ?_
    refine lv_iand hx hb dL_law_32 ?_
    refine lv_topi (fun v0 hv => ?_)
    by_cases hrg : v0.toInt < 0 ∨ 41 < v0.toInt
    · refine lv_tableOut (tgt := 1506) hx hb dL_law_33 hrg (by decide) ?_
      refine W.widen (k := 65 + 28 * k + 28) (n := 9957 + 465 * k + 465) (by omega) (by omega) ?_
      exact KT nn v F fn hnx hc kf rf rr l1 l2 l3 xab xtr sf0 sb sn SF R kp xs D Wk B Z M pf cf f0 f1 f2 f3 f4 T Bg Cf hI H locs hP hD hS ls hl
    obtain ⟨j, hj, hvj⟩ := k_ofr (x := v0) (n := 42) (by decide) ⟨by omega, by omega⟩
    clear hrg hv
    subst hvj
    match j, hj with
    | 0, _ =>
      refine lv_tableIn (tgt := 216) hx hb dL_law_33 (by decide) (by decide) rfl (by decide) ?_
      exact law_case0 l g hA hA2 hKW hts C0 q z nn v F fn hnx hc kf rf rr l1 l2 l3 xab xtr sf0 sb sn SF R kp xs D Wk B Z M pf cf f0 f1 f2 f3 f4 T Bg Cf hI i hi6 hL _ _ (by omega) (by omega) KT H locs hP hD hS ls hl
    | 1, _ =>
      refine lv_tableIn (tgt := 249) hx hb dL_law_33 (by decide) (by decide) rfl (by decide) ?_
      exact law_case1 l g hA hA2 hKW hts C0 q z nn v F fn hnx hc kf rf rr l1 l2 l3 xab xtr sf0 sb sn SF R kp xs D Wk B Z M pf cf f0 f1 f2 f3 f4 T Bg Cf hI i hi6 hL _ _ (by omega) (by omega) KT H locs hP hD hS ls hl
    | 2, _ =>
      refine lv_tableIn (tgt := 272) hx hb dL_law_33 (by decide) (by decide) rfl (by decide) ?_
      exact law_case2 l g hA hA2 hKW hts C0 q z nn v F fn hnx hc kf rf rr l1 l2 l3 xab xtr sf0 sb sn SF R kp xs D Wk B Z M pf cf f0 f1 f2 f3 f4 T Bg Cf hI i hi6 hL _ _ (by omega) (by omega) KT H locs hP hD hS ls hl
    | 3, _ =>
      refine lv_tableIn (tgt := 305) hx hb dL_law_33 (by decide) (by decide) rfl (by decide) ?_
      exact law_case3 l g hA hA2 hKW hts C0 q z nn v F fn hnx hc kf rf rr l1 l2 l3 xab xtr sf0 sb sn SF R kp xs D Wk B Z M pf cf f0 f1 f2 f3 f4 T Bg Cf hI i hi6 hL _ _ (by omega) (by omega) KT H locs hP hD hS ls hl
    | 4, _ =>
      refine lv_tableIn (tgt := 358) hx hb dL_law_33 (by decide) (by decide) rfl (by decide) ?_
      exact law_case4 l g hA hA2 hKW hts C0 q z nn v F fn hnx hc kf rf rr l1 l2 l3 xab xtr sf0 sb sn SF R kp xs D Wk B Z M pf cf f0 f1 f2 f3 f4 T Bg Cf hI i hi6 hL _ _ (by omega) (by omega) KT H locs hP hD hS ls hl
    | 5, _ =>
      refine lv_tableIn (tgt := 391) hx hb dL_law_33 (by decide) (by decide) rfl (by decide) ?_
      exact law_case5 l g hA hA2 hKW hts C0 q z nn v F fn hnx hc kf rf rr l1 l2 l3 xab xtr sf0 sb sn SF R kp xs D Wk B Z M pf cf f0 f1 f2 f3 f4 T Bg Cf hI i hi6 hL _ _ (by omega) (by omega) KT H locs hP hD hS ls hl
    | 6, _ =>
      refine lv_tableIn (tgt := 424) hx hb dL_law_33 (by decide) (by decide) rfl (by decide) ?_
      exact law_case6 l g hA hA2 hKW hts C0 q z nn v F fn hnx hc kf rf rr l1 l2 l3 xab xtr sf0 sb sn SF R kp xs D Wk B Z M pf cf f0 f1 f2 f3 f4 T Bg Cf hI i hi6 hL _ _ (by omega) (by omega) KT H locs hP hD hS ls hl
    | 7, _ =>
      refine lv_tableIn (tgt := 447) hx hb dL_law_33 (by decide) (by decide) rfl (by decide) ?_
      exact law_case7 l g hA hA2 hKW hts C0 q z nn v F fn hnx hc kf rf rr l1 l2 l3 xab xtr sf0 sb sn SF R kp xs D Wk B Z M pf cf f0 f1 f2 f3 f4 T Bg Cf hI i hi6 hL _ _ (by omega) (by omega) KT H locs hP hD hS ls hl
    | 8, _ =>
      refine lv_tableIn (tgt := 470) hx hb dL_law_33 (by decide) (by decide) rfl (by decide) ?_
      exact law_case8 l g hA hA2 hKW hts C0 q z nn v F fn hnx hc kf rf rr l1 l2 l3 xab xtr sf0 sb sn SF R kp xs D Wk B Z M pf cf f0 f1 f2 f3 f4 T Bg Cf hI i hi6 hL _ _ (by omega) (by omega) KT H locs hP hD hS ls hl
    | 9, _ =>
      refine lv_tableIn (tgt := 483) hx hb dL_law_33 (by decide) (by decide) rfl (by decide) ?_
      exact law_case9 l g hA hA2 hKW hts C0 q z nn v F fn hnx hc kf rf rr l1 l2 l3 xab xtr sf0 sb sn SF R kp xs D Wk B Z M pf cf f0 f1 f2 f3 f4 T Bg Cf hI i hi6 hL _ _ (by omega) (by omega) KT H locs hP hD hS ls hl
    | 10, _ =>
      refine lv_tableIn (tgt := 516) hx hb dL_law_33 (by decide) (by decide) rfl (by decide) ?_
      exact law_case10 l g hA hA2 hKW hts C0 q z nn v F fn hnx hc kf rf rr l1 l2 l3 xab xtr sf0 sb sn SF R kp xs D Wk B Z M pf cf f0 f1 f2 f3 f4 T Bg Cf hI i hi6 hL _ _ (by omega) (by omega) KT H locs hP hD hS ls hl
    | 11, _ =>
      refine lv_tableIn (tgt := 549) hx hb dL_law_33 (by decide) (by decide) rfl (by decide) ?_
      exact law_case11 l g hA hA2 hKW hts C0 q z nn v F fn hnx hc kf rf rr l1 l2 l3 xab xtr sf0 sb sn SF R kp xs D Wk B Z M pf cf f0 f1 f2 f3 f4 T Bg Cf hI i hi6 hL _ _ (by omega) (by omega) KT H locs hP hD hS ls hl
    | 12, _ =>
      refine lv_tableIn (tgt := 582) hx hb dL_law_33 (by decide) (by decide) rfl (by decide) ?_
      exact law_case12 l g hA hA2 hKW hts C0 q z nn v F fn hnx hc kf rf rr l1 l2 l3 xab xtr sf0 sb sn SF R kp xs D Wk B Z M pf cf f0 f1 f2 f3 f4 T Bg Cf hI i hi6 hL _ _ (by omega) (by omega) KT H locs hP hD hS ls hl
    | 13, _ =>
      refine lv_tableIn (tgt := 641) hx hb dL_law_33 (by decide) (by decide) rfl (by decide) ?_
      exact law_case13 l g hA hA2 hKW hts C0 q z nn v F fn hnx hc kf rf rr l1 l2 l3 xab xtr sf0 sb sn SF R kp xs D Wk B Z M pf cf f0 f1 f2 f3 f4 T Bg Cf hI i hi6 hL _ _ (by omega) (by omega) KT H locs hP hD hS ls hl
    | 14, _ =>
      refine lv_tableIn (tgt := 674) hx hb dL_law_33 (by decide) (by decide) rfl (by decide) ?_
      exact law_case14 l g hA hA2 hKW hts C0 q z nn v F fn hnx hc kf rf rr l1 l2 l3 xab xtr sf0 sb sn SF R kp xs D Wk B Z M pf cf f0 f1 f2 f3 f4 T Bg Cf hI i hi6 hL _ _ (by omega) (by omega) KT H locs hP hD hS ls hl
    | 15, _ =>
      refine lv_tableIn (tgt := 697) hx hb dL_law_33 (by decide) (by decide) rfl (by decide) ?_
      exact law_case15 l g hA hA2 hKW hts C0 q z nn v F fn hnx hc kf rf rr l1 l2 l3 xab xtr sf0 sb sn SF R kp xs D Wk B Z M pf cf f0 f1 f2 f3 f4 T Bg Cf hI i hi6 hL _ _ (by omega) (by omega) KT H locs hP hD hS ls hl
    | 16, _ =>
      refine lv_tableIn (tgt := 730) hx hb dL_law_33 (by decide) (by decide) rfl (by decide) ?_
      exact law_case16 l g hA hA2 hKW hts C0 q z nn v F fn hnx hc kf rf rr l1 l2 l3 xab xtr sf0 sb sn SF R kp xs D Wk B Z M pf cf f0 f1 f2 f3 f4 T Bg Cf hI i hi6 hL _ _ (by omega) (by omega) KT H locs hP hD hS ls hl
    | 17, _ =>
      refine lv_tableIn (tgt := 743) hx hb dL_law_33 (by decide) (by decide) rfl (by decide) ?_
      exact law_case17 l g hA hA2 hKW hts C0 q z nn v F fn hnx hc kf rf rr l1 l2 l3 xab xtr sf0 sb sn SF R kp xs D Wk B Z M pf cf f0 f1 f2 f3 f4 T Bg Cf hI i hi6 hL _ _ (by omega) (by omega) KT H locs hP hD hS ls hl
    | 18, _ =>
      refine lv_tableIn (tgt := 756) hx hb dL_law_33 (by decide) (by decide) rfl (by decide) ?_
      exact law_case18 l g hA hA2 hKW hts C0 q z nn v F fn hnx hc kf rf rr l1 l2 l3 xab xtr sf0 sb sn SF R kp xs D Wk B Z M pf cf f0 f1 f2 f3 f4 T Bg Cf hI i hi6 hL _ _ (by omega) (by omega) KT H locs hP hD hS ls hl
    | 19, _ =>
      refine lv_tableIn (tgt := 779) hx hb dL_law_33 (by decide) (by decide) rfl (by decide) ?_
      exact law_case19 l g hA hA2 hKW hts C0 q z nn v F fn hnx hc kf rf rr l1 l2 l3 xab xtr sf0 sb sn SF R kp xs D Wk B Z M pf cf f0 f1 f2 f3 f4 T Bg Cf hI i hi6 hL _ _ (by omega) (by omega) KT H locs hP hD hS ls hl
    | 20, _ =>
      refine lv_tableIn (tgt := 792) hx hb dL_law_33 (by decide) (by decide) rfl (by decide) ?_
      exact law_case20 l g hA hA2 hKW hts C0 q z nn v F fn hnx hc kf rf rr l1 l2 l3 xab xtr sf0 sb sn SF R kp xs D Wk B Z M pf cf f0 f1 f2 f3 f4 T Bg Cf hI i hi6 hL _ _ (by omega) (by omega) KT H locs hP hD hS ls hl
    | 21, _ =>
      refine lv_tableIn (tgt := 825) hx hb dL_law_33 (by decide) (by decide) rfl (by decide) ?_
      exact law_case21 l g hA hA2 hKW hts C0 q z nn v F fn hnx hc kf rf rr l1 l2 l3 xab xtr sf0 sb sn SF R kp xs D Wk B Z M pf cf f0 f1 f2 f3 f4 T Bg Cf hI i hi6 hL _ _ (by omega) (by omega) KT H locs hP hD hS ls hl
    | 22, _ =>
      refine lv_tableIn (tgt := 874) hx hb dL_law_33 (by decide) (by decide) rfl (by decide) ?_
      exact law_case22 l g hA hA2 hKW hts C0 q z nn v F fn hnx hc kf rf rr l1 l2 l3 xab xtr sf0 sb sn SF R kp xs D Wk B Z M pf cf f0 f1 f2 f3 f4 T Bg Cf hI i hi6 hL _ _ (by omega) (by omega) KT H locs hP hD hS ls hl
    | 23, _ =>
      refine lv_tableIn (tgt := 897) hx hb dL_law_33 (by decide) (by decide) rfl (by decide) ?_
      exact law_case23 l g hA hA2 hKW hts C0 q z nn v F fn hnx hc kf rf rr l1 l2 l3 xab xtr sf0 sb sn SF R kp xs D Wk B Z M pf cf f0 f1 f2 f3 f4 T Bg Cf hI i hi6 hL _ _ (by omega) (by omega) KT H locs hP hD hS ls hl
    | 24, _ =>
      refine lv_tableIn (tgt := 946) hx hb dL_law_33 (by decide) (by decide) rfl (by decide) ?_
      exact law_case24 l g hA hA2 hKW hts C0 q z nn v F fn hnx hc kf rf rr l1 l2 l3 xab xtr sf0 sb sn SF R kp xs D Wk B Z M pf cf f0 f1 f2 f3 f4 T Bg Cf hI i hi6 hL _ _ (by omega) (by omega) KT H locs hP hD hS ls hl
    | 25, _ =>
      refine lv_tableIn (tgt := 989) hx hb dL_law_33 (by decide) (by decide) rfl (by decide) ?_
      exact law_case25 l g hA hA2 hKW hts C0 q z nn v F fn hnx hc kf rf rr l1 l2 l3 xab xtr sf0 sb sn SF R kp xs D Wk B Z M pf cf f0 f1 f2 f3 f4 T Bg Cf hI i hi6 hL _ _ (by omega) (by omega) KT H locs hP hD hS ls hl
    | 26, _ =>
      refine lv_tableIn (tgt := 1012) hx hb dL_law_33 (by decide) (by decide) rfl (by decide) ?_
      exact law_case26 l g hA hA2 hKW hts C0 q z nn v F fn hnx hc kf rf rr l1 l2 l3 xab xtr sf0 sb sn SF R kp xs D Wk B Z M pf cf f0 f1 f2 f3 f4 T Bg Cf hI i hi6 hL _ _ (by omega) (by omega) KT H locs hP hD hS ls hl
    | 27, _ =>
      refine lv_tableIn (tgt := 1035) hx hb dL_law_33 (by decide) (by decide) rfl (by decide) ?_
      exact law_case27 l g hA hA2 hKW hts C0 q z nn v F fn hnx hc kf rf rr l1 l2 l3 xab xtr sf0 sb sn SF R kp xs D Wk B Z M pf cf f0 f1 f2 f3 f4 T Bg Cf hI i hi6 hL _ _ (by omega) (by omega) KT H locs hP hD hS ls hl
    | 28, _ =>
      refine lv_tableIn (tgt := 1058) hx hb dL_law_33 (by decide) (by decide) rfl (by decide) ?_
      exact law_case28 l g hA hA2 hKW hts C0 q z nn v F fn hnx hc kf rf rr l1 l2 l3 xab xtr sf0 sb sn SF R kp xs D Wk B Z M pf cf f0 f1 f2 f3 f4 T Bg Cf hI i hi6 hL _ _ (by omega) (by omega) KT H locs hP hD hS ls hl
    | 29, _ =>
      refine lv_tableIn (tgt := 1081) hx hb dL_law_33 (by decide) (by decide) rfl (by decide) ?_
      exact law_case29 l g hA hA2 hKW hts C0 q z nn v F fn hnx hc kf rf rr l1 l2 l3 xab xtr sf0 sb sn SF R kp xs D Wk B Z M pf cf f0 f1 f2 f3 f4 T Bg Cf hI i hi6 hL _ _ (by omega) (by omega) KT H locs hP hD hS ls hl
    | 30, _ =>
      refine lv_tableIn (tgt := 1104) hx hb dL_law_33 (by decide) (by decide) rfl (by decide) ?_
      exact law_case30 l g hA hA2 hKW hts C0 q z nn v F fn hnx hc kf rf rr l1 l2 l3 xab xtr sf0 sb sn SF R kp xs D Wk B Z M pf cf f0 f1 f2 f3 f4 T Bg Cf hI i hi6 hL _ _ (by omega) (by omega) KT H locs hP hD hS ls hl
    | 31, _ =>
      refine lv_tableIn (tgt := 1127) hx hb dL_law_33 (by decide) (by decide) rfl (by decide) ?_
      exact law_case31 l g hA hA2 hKW hts C0 q z nn v F fn hnx hc kf rf rr l1 l2 l3 xab xtr sf0 sb sn SF R kp xs D Wk B Z M pf cf f0 f1 f2 f3 f4 T Bg Cf hI i hi6 hL _ _ (by omega) (by omega) KT H locs hP hD hS ls hl
    | 32, _ =>
      refine lv_tableIn (tgt := 1150) hx hb dL_law_33 (by decide) (by decide) rfl (by decide) ?_
      exact law_case32 l g hA hA2 hKW hts C0 q z nn v F fn hnx hc kf rf rr l1 l2 l3 xab xtr sf0 sb sn SF R kp xs D Wk B Z M pf cf f0 f1 f2 f3 f4 T Bg Cf hI i hi6 hL _ _ (by omega) (by omega) KT H locs hP hD hS ls hl
    | 33, _ =>
      refine lv_tableIn (tgt := 1193) hx hb dL_law_33 (by decide) (by decide) rfl (by decide) ?_
      exact law_case33 l g hA hA2 hKW hts C0 q z nn v F fn hnx hc kf rf rr l1 l2 l3 xab xtr sf0 sb sn SF R kp xs D Wk B Z M pf cf f0 f1 f2 f3 f4 T Bg Cf hI i hi6 hL _ _ (by omega) (by omega) KT H locs hP hD hS ls hl
    | 34, _ =>
      refine lv_tableIn (tgt := 1216) hx hb dL_law_33 (by decide) (by decide) rfl (by decide) ?_
      exact law_case34 l g hA hA2 hKW hts C0 q z nn v F fn hnx hc kf rf rr l1 l2 l3 xab xtr sf0 sb sn SF R kp xs D Wk B Z M pf cf f0 f1 f2 f3 f4 T Bg Cf hI i hi6 hL _ _ (by omega) (by omega) KT H locs hP hD hS ls hl
    | 35, _ =>
      refine lv_tableIn (tgt := 1285) hx hb dL_law_33 (by decide) (by decide) rfl (by decide) ?_
      exact law_case35 l g hA hA2 hKW hts C0 q z nn v F fn hnx hc kf rf rr l1 l2 l3 xab xtr sf0 sb sn SF R kp xs D Wk B Z M pf cf f0 f1 f2 f3 f4 T Bg Cf hI i hi6 hL _ _ (by omega) (by omega) KT H locs hP hD hS ls hl
    | 36, _ =>
      refine lv_tableIn (tgt := 1308) hx hb dL_law_33 (by decide) (by decide) rfl (by decide) ?_
      exact law_case36 l g hA hA2 hKW hts C0 q z nn v F fn hnx hc kf rf rr l1 l2 l3 xab xtr sf0 sb sn SF R kp xs D Wk B Z M pf cf f0 f1 f2 f3 f4 T Bg Cf hI i hi6 hL _ _ (by omega) (by omega) KT H locs hP hD hS ls hl
    | 37, _ =>
      refine lv_tableIn (tgt := 1321) hx hb dL_law_33 (by decide) (by decide) rfl (by decide) ?_
      exact law_case37 l g hA hA2 hKW hts C0 q z nn v F fn hnx hc kf rf rr l1 l2 l3 xab xtr sf0 sb sn SF R kp xs D Wk B Z M pf cf f0 f1 f2 f3 f4 T Bg Cf hI i hi6 hL _ _ (by omega) (by omega) KT H locs hP hD hS ls hl
    | 38, _ =>
      refine lv_tableIn (tgt := 1364) hx hb dL_law_33 (by decide) (by decide) rfl (by decide) ?_
      exact law_case38 l g hA hA2 hKW hts C0 q z nn v F fn hnx hc kf rf rr l1 l2 l3 xab xtr sf0 sb sn SF R kp xs D Wk B Z M pf cf f0 f1 f2 f3 f4 T Bg Cf hI i hi6 hL _ _ (by omega) (by omega) KT H locs hP hD hS ls hl
    | 39, _ =>
      refine lv_tableIn (tgt := 1407) hx hb dL_law_33 (by decide) (by decide) rfl (by decide) ?_
      exact law_case39 l g hA hA2 hKW hts C0 q z nn v F fn hnx hc kf rf rr l1 l2 l3 xab xtr sf0 sb sn SF R kp xs D Wk B Z M pf cf f0 f1 f2 f3 f4 T Bg Cf hI i hi6 hL _ _ (by omega) (by omega) KT H locs hP hD hS ls hl
    | 40, _ =>
      refine lv_tableIn (tgt := 1470) hx hb dL_law_33 (by decide) (by decide) rfl (by decide) ?_
      exact law_case40 l g hA hA2 hKW hts C0 q z nn v F fn hnx hc kf rf rr l1 l2 l3 xab xtr sf0 sb sn SF R kp xs D Wk B Z M pf cf f0 f1 f2 f3 f4 T Bg Cf hI i hi6 hL _ _ (by omega) (by omega) KT H locs hP hD hS ls hl
    | 41, _ =>
      refine lv_tableIn (tgt := 1483) hx hb dL_law_33 (by decide) (by decide) rfl (by decide) ?_
      exact law_case41 l g hA hA2 hKW hts C0 q z nn v F fn hnx hc kf rf rr l1 l2 l3 xab xtr sf0 sb sn SF R kp xs D Wk B Z M pf cf f0 f1 f2 f3 f4 T Bg Cf hI i hi6 hL _ _ (by omega) (by omega) KT H locs hP hD hS ls hl
    | j + 42, hj => exact absurd hj (by omega)

