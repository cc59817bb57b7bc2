theorem dL_law_216 : decode cL_law 216 = .ok (.aload_n 1, 1) := by decide +kernel
theorem dL_law_217 : decode cL_law 217 = .ok (.aload_n 0, 1) := by decide +kernel
theorem dL_law_218 : decode cL_law 218 = .ok (.iload_n 3, 1) := by decide +kernel
theorem dL_law_219 : decode cL_law 219 = .ok (.iconst 1, 1) := by decide +kernel
theorem dL_law_220 : decode cL_law 220 = .ok (.iadd, 1) := by decide +kernel
theorem dL_law_221 : decode cL_law 221 = .ok (.iaload, 1) := by decide +kernel
theorem dL_law_222 : decode cL_law 222 = .ok (.aload_n 0, 1) := by decide +kernel
theorem dL_law_223 : decode cL_law 223 = .ok (.iload_n 3, 1) := by decide +kernel
theorem dL_law_224 : decode cL_law 224 = .ok (.iconst 2, 1) := by decide +kernel
theorem dL_law_225 : decode cL_law 225 = .ok (.iadd, 1) := by decide +kernel
theorem dL_law_226 : decode cL_law 226 = .ok (.iaload, 1) := by decide +kernel
theorem dL_law_227 : decode cL_law 227 = .ok (.invokevirtual 13, 3) := by decide +kernel
theorem dL_law_230 : decode cL_law 230 = .ok (.aload_n 2, 1) := by decide +kernel
theorem dL_law_231 : decode cL_law 231 = .ok (.aload_n 0, 1) := by decide +kernel
theorem dL_law_232 : decode cL_law 232 = .ok (.iload_n 3, 1) := by decide +kernel
theorem dL_law_233 : decode cL_law 233 = .ok (.iconst 1, 1) := by decide +kernel
theorem dL_law_234 : decode cL_law 234 = .ok (.iadd, 1) := by decide +kernel
theorem dL_law_235 : decode cL_law 235 = .ok (.iaload, 1) := by decide +kernel
theorem dL_law_236 : decode cL_law 236 = .ok (.aload_n 0, 1) := by decide +kernel
theorem dL_law_237 : decode cL_law 237 = .ok (.iload_n 3, 1) := by decide +kernel
theorem dL_law_238 : decode cL_law 238 = .ok (.iconst 2, 1) := by decide +kernel
theorem dL_law_239 : decode cL_law 239 = .ok (.iadd, 1) := by decide +kernel
theorem dL_law_240 : decode cL_law 240 = .ok (.iaload, 1) := by decide +kernel
theorem dL_law_241 : decode cL_law 241 = .ok (.invokevirtual 17, 3) := by decide +kernel
theorem dL_law_244 : decode cL_law 244 = .ok (.if_icmp .eq 1262, 3) := by decide +kernel
set_option maxHeartbeats 4000000 in
set_option maxRecDepth 100000 in
theorem law_room {p : Program} {e : Env} {s : State} {m : MethodId} {below : List Frame} {meth : Method} {c : Code} (l : Launch) (g : kG) {A : Nat → Prop} {b L : Nat} {xs : Nat → Int32} (hA : ∀ q : Nat, s.heap.size ≤ q → A q) (hA2 : ∀ q : Nat, A q → s.heap.size ≤ q) (hKW : kKW g s) (hts : ∀ w ∈ wsL_law, w.before #[Value.ref b] s = true) (C0 : lw_At p s m meth c b L xs) (hL6 : L = 6) (q z : Nat → Nat) (H : Heap) (locs : List Loc) (hP : va_P g.1 vwCl [(q 0, .inr (11, [.ref (q 1), .ref (q 29), .ref (q 31), .ref (q 34), .ref (q 38), .ref (q 40), .int 0])), (q 1, .inr (4, [.ref (q 2), .ref (q 6), .ref (q 9), .ref (q 18), .ref (q 22), .ref (q 26), .ref (q 28), .int 0, .int 0, .int 36, .int 10])), (q 2, .inr (8, [.int 0, .ref (q 3), .ref (q 4), .ref (q 5)])), (q 3, .inl (gI g, 5, .inl (fun _ => 0))), (q 4, .inl (gI g, 5, .inl (fun _ => 0))), (q 5, .inl (gI g, 5, .inl (fun _ => 0))), (q 6, .inr (1, [.int 0, .ref (q 7), .ref (q 8), .int 0])), (q 7, .inl (gI g, 7, .inl (fun _ => 0))), (q 8, .inl (gI g, 7, .inl (fun _ => 0))), (q 9, .inr (0, [.int 0, .ref (q 10), .ref (q 11), .ref (q 12), .ref (q 13), .ref (q 14), .ref (q 15), .ref (q 16), .int 0, .int 0, .int 0, .ref (q 17)])), (q 10, .inl (gI g, 10, .inl (fun _ => 0))), (q 11, .inl (gI g, 10, .inl (fun _ => 0))), (q 12, .inl (gI g, 10, .inl (fun _ => 0))), (q 13, .inl (gI g, 10, .inl (fun _ => 0))), (q 14, .inl (gI g, 10, .inl (fun _ => 0))), (q 15, .inl (gI g, 10, .inl (fun _ => 0))), (q 16, .inl (gI g, 10, .inl (fun _ => 0))), (q 17, .inl (gI g, 10, .inl (fun _ => 0))), (q 18, .inr (3, [.int 0, .ref (q 19), .ref (q 20), .ref (q 21)])), (q 19, .inl (gI g, 40, .inl (fun _ => 0))), (q 20, .inl (gI g, 40, .inl (fun _ => 0))), (q 21, .inl (gI g, 40, .inl (fun _ => 0))), (q 22, .inr (3, [.int 0, .ref (q 23), .ref (q 24), .ref (q 25)])), (q 23, .inl (gI g, 40, .inl (fun _ => 0))), (q 24, .inl (gI g, 40, .inl (fun _ => 0))), (q 25, .inl (gI g, 40, .inl (fun _ => 0))), (q 26, .inr (6, [.int 0, .int 0, .ref (q 27)])), (q 27, .inl (gI g, 14, .inl (fun _ => 0))), (q 28, .inl (gI g, 60, .inl (fun _ => 0))), (q 29, .inr (2, [.int 0, .int 0, .ref (q 30)])), (q 30, .inl (gN g, 16, .inr (.inr (.inr (.inr (fun _ => none)))))), (z 0, .inr (12, [.ref (z 1), .ref (z 2), .int 0, .int 0, .ref (z 3), .ref (z 4), .ref (z 5), .ref (z 6), .int 0, .ref (z 7), .ref (z 8), .ref (z 9), .ref (z 10), .ref (z 11), .ref (z 12), .int 0, .ref (z 13), .ref (z 14), .int 0, .ref (z 15)])), (z 1, .inl (gI g, 461, .inl mD0)), (z 2, .inl (gI g, 7376, .inl (fun _ => 0)))] H) (hD : va_D A [(q 0, .inr (11, [.ref (q 1), .ref (q 29), .ref (q 31), .ref (q 34), .ref (q 38), .ref (q 40), .int 0])), (q 1, .inr (4, [.ref (q 2), .ref (q 6), .ref (q 9), .ref (q 18), .ref (q 22), .ref (q 26), .ref (q 28), .int 0, .int 0, .int 36, .int 10])), (q 2, .inr (8, [.int 0, .ref (q 3), .ref (q 4), .ref (q 5)])), (q 3, .inl (gI g, 5, .inl (fun _ => 0))), (q 4, .inl (gI g, 5, .inl (fun _ => 0))), (q 5, .inl (gI g, 5, .inl (fun _ => 0))), (q 6, .inr (1, [.int 0, .ref (q 7), .ref (q 8), .int 0])), (q 7, .inl (gI g, 7, .inl (fun _ => 0))), (q 8, .inl (gI g, 7, .inl (fun _ => 0))), (q 9, .inr (0, [.int 0, .ref (q 10), .ref (q 11), .ref (q 12), .ref (q 13), .ref (q 14), .ref (q 15), .ref (q 16), .int 0, .int 0, .int 0, .ref (q 17)])), (q 10, .inl (gI g, 10, .inl (fun _ => 0))), (q 11, .inl (gI g, 10, .inl (fun _ => 0))), (q 12, .inl (gI g, 10, .inl (fun _ => 0))), (q 13, .inl (gI g, 10, .inl (fun _ => 0))), (q 14, .inl (gI g, 10, .inl (fun _ => 0))), (q 15, .inl (gI g, 10, .inl (fun _ => 0))), (q 16, .inl (gI g, 10, .inl (fun _ => 0))), (q 17, .inl (gI g, 10, .inl (fun _ => 0))), (q 18, .inr (3, [.int 0, .ref (q 19), .ref (q 20), .ref (q 21)])), (q 19, .inl (gI g, 40, .inl (fun _ => 0))), (q 20, .inl (gI g, 40, .inl (fun _ => 0))), (q 21, .inl (gI g, 40, .inl (fun _ => 0))), (q 22, .inr (3, [.int 0, .ref (q 23), .ref (q 24), .ref (q 25)])), (q 23, .inl (gI g, 40, .inl (fun _ => 0))), (q 24, .inl (gI g, 40, .inl (fun _ => 0))), (q 25, .inl (gI g, 40, .inl (fun _ => 0))), (q 26, .inr (6, [.int 0, .int 0, .ref (q 27)])), (q 27, .inl (gI g, 14, .inl (fun _ => 0))), (q 28, .inl (gI g, 60, .inl (fun _ => 0))), (q 29, .inr (2, [.int 0, .int 0, .ref (q 30)])), (q 30, .inl (gN g, 16, .inr (.inr (.inr (.inr (fun _ => none)))))), (z 0, .inr (12, [.ref (z 1), .ref (z 2), .int 0, .int 0, .ref (z 3), .ref (z 4), .ref (z 5), .ref (z 6), .int 0, .ref (z 7), .ref (z 8), .ref (z 9), .ref (z 10), .ref (z 11), .ref (z 12), .int 0, .ref (z 13), .ref (z 14), .int 0, .ref (z 15)])), (z 1, .inl (gI g, 461, .inl mD0)), (z 2, .inl (gI g, 7376, .inl (fun _ => 0)))]) (hS : va_S A s.heap H locs) (ls : Array Slot) (hl : lv_has ls 4 [(0, .ref b), (1, .ref (q 0)), (2, .ref (z 0)), (3, .int 0)]) : W p l e room_1 s m #[Value.ref b] below meth c H locs 65 9957 (lw_Z below #[Value.ref b] s) (F0 m 216 ls []) := by
  subst hL6
  obtain ⟨hx, hb, hr, hml, hown, -, hX, hbl, hlk, hgv⟩ := id C0
  have hbA : ¬ A b := fun h => absurd (hA2 _ h) (Nat.not_le.mpr hbl)
  have hown : s.vm.findClass RL = some m.cls := hown
  refine lv_aload_n hx hb dL_law_216 rfl (lv_at hl 1 rfl) ?_
  refine lv_aload_n hx hb dL_law_217 rfl (lv_at hl 0 rfl) ?_
  refine lv_iload_n hx hb dL_law_218 rfl (lv_at hl 3 rfl) ?_
  refine lv_iconst (v := 1) hx hb dL_law_219 (by decide) ?_
  refine lv_iadd hx hb dL_law_220 ?_
  refine k_top (y := 1) (by decide) ?_
  refine va_sld hx hb hX hbl hbA hS (show ¬ _ by decide) dL_law_221 ?_
  refine k_top (y := xs 1) rfl ?_
  refine lv_aload_n hx hb dL_law_222 rfl (lv_at hl 0 rfl) ?_
  refine lv_iload_n hx hb dL_law_223 rfl (lv_at hl 3 rfl) ?_
  refine lv_iconst (v := 2) hx hb dL_law_224 (by decide) ?_
  refine lv_iadd hx hb dL_law_225 ?_
  refine k_top (y := 2) (by decide) ?_
  refine va_sld hx hb hX hbl hbA hS (show ¬ _ by decide) dL_law_226 ?_
  refine k_top (y := xs 2) rfl ?_
  refine k_Vi [0, 1, 2, 3, 4, 5, 6, 7, 8, 9, 10, 11, 12, 13, 14, 15, 16, 17, 18, 19, 20, 21, 22, 23, 24, 25, 26, 27, 28, 29, 30] [31, 32, 33] 0 11 (wr := [(z 0, .inr (12, [.ref (z 1), .ref (z 2), .int 0, .int 0, .ref (z 3), .ref (z 4), .ref (z 5), .ref (z 6), .int 0, .ref (z 7), .ref (z 8), .ref (z 9), .ref (z 10), .ref (z 11), .ref (z 12), .int 0, .ref (z 13), .ref (z 14), .int 0, .ref (z 15)])), (z 1, .inl (gI g, 461, .inl mD0)), (z 2, .inl (gI g, 7376, .inl (fun _ => 0)))]) hx hb hml hown hts hKW hP hD hS hA hl.1 (c_X11_room l g _ q (xs 1) (xs 2) ) rfl rfl rfl wd_7_0 wd_1_2 wd_6_21 wd_6_22 wd_6_23 yd_X11_room ⟨Nat.le_of_ble_eq_true rfl, Nat.le_of_ble_eq_true rfl⟩ rfl rfl rfl rfl rfl (by decide) rfl (Nat.le_of_ble_eq_true rfl) dL_law_227 ⟨Nat.le_of_ble_eq_true rfl, Nat.le_of_ble_eq_true rfl⟩ (fun r_1 u_2 H locs hw_3 hP hD hS => ?_)
  have hP : va_P g.1 vwCl [(z 0, .inr (12, [.ref (z 1), .ref (z 2), .int 0, .int 0, .ref (z 3), .ref (z 4), .ref (z 5), .ref (z 6), .int 0, .ref (z 7), .ref (z 8), .ref (z 9), .ref (z 10), .ref (z 11), .ref (z 12), .int 0, .ref (z 13), .ref (z 14), .int 0, .ref (z 15)])), (z 1, .inl (gI g, 461, .inl mD0)), (z 2, .inl (gI g, 7376, .inl (fun _ => 0)))] H := hP
  have hD : va_D A [(z 0, .inr (12, [.ref (z 1), .ref (z 2), .int 0, .int 0, .ref (z 3), .ref (z 4), .ref (z 5), .ref (z 6), .int 0, .ref (z 7), .ref (z 8), .ref (z 9), .ref (z 10), .ref (z 11), .ref (z 12), .int 0, .ref (z 13), .ref (z 14), .int 0, .ref (z 15)])), (z 1, .inl (gI g, 461, .inl mD0)), (z 2, .inl (gI g, 7376, .inl (fun _ => 0)))] := hD
  refine W.widen (k := 93) (n := 10422) (Nat.le_of_ble_eq_true rfl) (Nat.le_of_ble_eq_true rfl) ?_
  have hw_3 : r_1 = aRoom (xs 1) ((xs 1) / 100) ((xs 1) - (xs 1) / 100 * 100) (xs 2) := hw_3
  subst hw_3
  refine lv_aload_n hx hb dL_law_230 rfl (lv_at hl 2 rfl) ?_
  refine lv_aload_n hx hb dL_law_231 rfl (lv_at hl 0 rfl) ?_
  refine lv_iload_n hx hb dL_law_232 rfl (lv_at hl 3 rfl) ?_
  refine lv_iconst (v := 1) hx hb dL_law_233 (by decide) ?_
  refine lv_iadd hx hb dL_law_234 ?_
  refine k_top (y := 1) (by decide) ?_
  refine va_sld hx hb hX hbl hbA hS (show ¬ _ by decide) dL_law_235 ?_
  refine k_top (y := xs 1) rfl ?_
  refine lv_aload_n hx hb dL_law_236 rfl (lv_at hl 0 rfl) ?_
  refine lv_iload_n hx hb dL_law_237 rfl (lv_at hl 3 rfl) ?_
  refine lv_iconst (v := 2) hx hb dL_law_238 (by decide) ?_
  refine lv_iadd hx hb dL_law_239 ?_
  refine k_top (y := 2) (by decide) ?_
  refine va_sld hx hb hX hbl hbA hS (show ¬ _ by decide) dL_law_240 ?_
  refine k_top (y := xs 2) rfl ?_
  refine k_Vi [0, 1, 2] [] 0 12 (wr := []) hx hb hml hown hts hKW hP hD hS hA hl.1 (c_X12_room l g _ z (xs 1) (xs 2) ) rfl rfl rfl wd_10_8 wd_1_5 wd_10_5 wd_10_6 wd_10_7 yd_X12_room ⟨Nat.le_of_ble_eq_true rfl, Nat.le_of_ble_eq_true rfl⟩ rfl rfl rfl rfl rfl (by decide) rfl (Nat.le_of_ble_eq_true rfl) dL_law_241 ⟨Nat.le_of_ble_eq_true rfl, Nat.le_of_ble_eq_true rfl⟩ (fun r_4 u_5 H locs hw_6 hP hD hS => ?_)
  have hP : va_P g.1 vwCl [] H := hP
  have hD : va_D A [] := hD
  have hw_6 : r_4 = aRoom (xs 1) ((xs 1) / 100) ((xs 1) - (xs 1) / 100 * 100) (xs 2) := hw_6
  subst hw_6
  refine lv_icmp_eq (tgt := 1506) hx hb dL_law_244 (by decide) (fun _ => ?_) (fun c => absurd rfl c)
  exact law_tail l g hA hA2 hKW hts C0 rfl H locs (Nat.le_of_ble_eq_true rfl) (Nat.le_of_ble_eq_true rfl) hS ls (lv_sub hl [0, 3] rfl)
theorem dL_law_249 : decode cL_law 249 = .ok (.aload_n 1, 1) := by decide +kernel
theorem dL_law_250 : decode cL_law 250 = .ok (.aload_n 0, 1) := by decide +kernel
theorem dL_law_251 : decode cL_law 251 = .ok (.iload_n 3, 1) := by decide +kernel
theorem dL_law_252 : decode cL_law 252 = .ok (.iconst 1, 1) := by decide +kernel
theorem dL_law_253 : decode cL_law 253 = .ok (.iadd, 1) := by decide +kernel
theorem dL_law_254 : decode cL_law 254 = .ok (.iaload, 1) := by decide +kernel
theorem dL_law_255 : decode cL_law 255 = .ok (.invokevirtual 18, 3) := by decide +kernel
theorem dL_law_258 : decode cL_law 258 = .ok (.aload_n 2, 1) := by decide +kernel
theorem dL_law_259 : decode cL_law 259 = .ok (.aload_n 0, 1) := by decide +kernel
theorem dL_law_260 : decode cL_law 260 = .ok (.iload_n 3, 1) := by decide +kernel
theorem dL_law_261 : decode cL_law 261 = .ok (.iconst 1, 1) := by decide +kernel
theorem dL_law_262 : decode cL_law 262 = .ok (.iadd, 1) := by decide +kernel
theorem dL_law_263 : decode cL_law 263 = .ok (.iaload, 1) := by decide +kernel
theorem dL_law_264 : decode cL_law 264 = .ok (.invokevirtual 22, 3) := by decide +kernel
theorem dL_law_267 : decode cL_law 267 = .ok (.if_icmp .eq 1239, 3) := by decide +kernel
set_option maxHeartbeats 4000000 in
set_option maxRecDepth 100000 in
theorem law_hand {p : Program} {e : Env} {s : State} {m : MethodId} {below : List Frame} {meth : Method} {c : Code} (l : Launch) (g : kG) {A : Nat → Prop} {b L : Nat} {xs : Nat → Int32} (hA : ∀ q : Nat, s.heap.size ≤ q → A q) (hA2 : ∀ q : Nat, A q → s.heap.size ≤ q) (hKW : kKW g s) (hts : ∀ w ∈ wsL_law, w.before #[Value.ref b] s = true) (C0 : lw_At p s m meth c b L xs) (hL6 : L = 6) (q z : Nat → Nat) (H : Heap) (locs : List Loc) (hP : va_P g.1 vwCl [(q 0, .inr (11, [.ref (q 1), .ref (q 29), .ref (q 31), .ref (q 34), .ref (q 38), .ref (q 40), .int 0])), (q 1, .inr (4, [.ref (q 2), .ref (q 6), .ref (q 9), .ref (q 18), .ref (q 22), .ref (q 26), .ref (q 28), .int 0, .int 0, .int 36, .int 10])), (q 2, .inr (8, [.int 0, .ref (q 3), .ref (q 4), .ref (q 5)])), (q 3, .inl (gI g, 5, .inl (fun _ => 0))), (q 4, .inl (gI g, 5, .inl (fun _ => 0))), (q 5, .inl (gI g, 5, .inl (fun _ => 0))), (q 6, .inr (1, [.int 0, .ref (q 7), .ref (q 8), .int 0])), (q 7, .inl (gI g, 7, .inl (fun _ => 0))), (q 8, .inl (gI g, 7, .inl (fun _ => 0))), (q 9, .inr (0, [.int 0, .ref (q 10), .ref (q 11), .ref (q 12), .ref (q 13), .ref (q 14), .ref (q 15), .ref (q 16), .int 0, .int 0, .int 0, .ref (q 17)])), (q 10, .inl (gI g, 10, .inl (fun _ => 0))), (q 11, .inl (gI g, 10, .inl (fun _ => 0))), (q 12, .inl (gI g, 10, .inl (fun _ => 0))), (q 13, .inl (gI g, 10, .inl (fun _ => 0))), (q 14, .inl (gI g, 10, .inl (fun _ => 0))), (q 15, .inl (gI g, 10, .inl (fun _ => 0))), (q 16, .inl (gI g, 10, .inl (fun _ => 0))), (q 17, .inl (gI g, 10, .inl (fun _ => 0))), (q 18, .inr (3, [.int 0, .ref (q 19), .ref (q 20), .ref (q 21)])), (q 19, .inl (gI g, 40, .inl (fun _ => 0))), (q 20, .inl (gI g, 40, .inl (fun _ => 0))), (q 21, .inl (gI g, 40, .inl (fun _ => 0))), (q 22, .inr (3, [.int 0, .ref (q 23), .ref (q 24), .ref (q 25)])), (q 23, .inl (gI g, 40, .inl (fun _ => 0))), (q 24, .inl (gI g, 40, .inl (fun _ => 0))), (q 25, .inl (gI g, 40, .inl (fun _ => 0))), (q 26, .inr (6, [.int 0, .int 0, .ref (q 27)])), (q 27, .inl (gI g, 14, .inl (fun _ => 0))), (q 28, .inl (gI g, 60, .inl (fun _ => 0))), (q 29, .inr (2, [.int 0, .int 0, .ref (q 30)])), (q 30, .inl (gN g, 16, .inr (.inr (.inr (.inr (fun _ => none)))))), (z 0, .inr (12, [.ref (z 1), .ref (z 2), .int 0, .int 0, .ref (z 3), .ref (z 4), .ref (z 5), .ref (z 6), .int 0, .ref (z 7), .ref (z 8), .ref (z 9), .ref (z 10), .ref (z 11), .ref (z 12), .int 0, .ref (z 13), .ref (z 14), .int 0, .ref (z 15)])), (z 1, .inl (gI g, 461, .inl mD0)), (z 2, .inl (gI g, 7376, .inl (fun _ => 0)))] H) (hD : va_D A [(q 0, .inr (11, [.ref (q 1), .ref (q 29), .ref (q 31), .ref (q 34), .ref (q 38), .ref (q 40), .int 0])), (q 1, .inr (4, [.ref (q 2), .ref (q 6), .ref (q 9), .ref (q 18), .ref (q 22), .ref (q 26), .ref (q 28), .int 0, .int 0, .int 36, .int 10])), (q 2, .inr (8, [.int 0, .ref (q 3), .ref (q 4), .ref (q 5)])), (q 3, .inl (gI g, 5, .inl (fun _ => 0))), (q 4, .inl (gI g, 5, .inl (fun _ => 0))), (q 5, .inl (gI g, 5, .inl (fun _ => 0))), (q 6, .inr (1, [.int 0, .ref (q 7), .ref (q 8), .int 0])), (q 7, .inl (gI g, 7, .inl (fun _ => 0))), (q 8, .inl (gI g, 7, .inl (fun _ => 0))), (q 9, .inr (0, [.int 0, .ref (q 10), .ref (q 11), .ref (q 12), .ref (q 13), .ref (q 14), .ref (q 15), .ref (q 16), .int 0, .int 0, .int 0, .ref (q 17)])), (q 10, .inl (gI g, 10, .inl (fun _ => 0))), (q 11, .inl (gI g, 10, .inl (fun _ => 0))), (q 12, .inl (gI g, 10, .inl (fun _ => 0))), (q 13, .inl (gI g, 10, .inl (fun _ => 0))), (q 14, .inl (gI g, 10, .inl (fun _ => 0))), (q 15, .inl (gI g, 10, .inl (fun _ => 0))), (q 16, .inl (gI g, 10, .inl (fun _ => 0))), (q 17, .inl (gI g, 10, .inl (fun _ => 0))), (q 18, .inr (3, [.int 0, .ref (q 19), .ref (q 20), .ref (q 21)])), (q 19, .inl (gI g, 40, .inl (fun _ => 0))), (q 20, .inl (gI g, 40, .inl (fun _ => 0))), (q 21, .inl (gI g, 40, .inl (fun _ => 0))), (q 22, .inr (3, [.int 0, .ref (q 23), .ref (q 24), .ref (q 25)])), (q 23, .inl (gI g, 40, .inl (fun _ => 0))), (q 24, .inl (gI g, 40, .inl (fun _ => 0))), (q 25, .inl (gI g, 40, .inl (fun _ => 0))), (q 26, .inr (6, [.int 0, .int 0, .ref (q 27)])), (q 27, .inl (gI g, 14, .inl (fun _ => 0))), (q 28, .inl (gI g, 60, .inl (fun _ => 0))), (q 29, .inr (2, [.int 0, .int 0, .ref (q 30)])), (q 30, .inl (gN g, 16, .inr (.inr (.inr (.inr (fun _ => none)))))), (z 0, .inr (12, [.ref (z 1), .ref (z 2), .int 0, .int 0, .ref (z 3), .ref (z 4), .ref (z 5), .ref (z 6), .int 0, .ref (z 7), .ref (z 8), .ref (z 9), .ref (z 10), .ref (z 11), .ref (z 12), .int 0, .ref (z 13), .ref (z 14), .int 0, .ref (z 15)])), (z 1, .inl (gI g, 461, .inl mD0)), (z 2, .inl (gI g, 7376, .inl (fun _ => 0)))]) (hS : va_S A s.heap H locs) (ls : Array Slot) (hl : lv_has ls 4 [(0, .ref b), (1, .ref (q 0)), (2, .ref (z 0)), (3, .int 0)]) : W p l e room_1 s m #[Value.ref b] below meth c H locs 65 9957 (lw_Z below #[Value.ref b] s) (F0 m 249 ls []) := by
  subst hL6
  obtain ⟨hx, hb, hr, hml, hown, -, hX, hbl, hlk, hgv⟩ := id C0
  have hbA : ¬ A b := fun h => absurd (hA2 _ h) (Nat.not_le.mpr hbl)
  have hown : s.vm.findClass RL = some m.cls := hown
  refine lv_aload_n hx hb dL_law_249 rfl (lv_at hl 1 rfl) ?_
  refine lv_aload_n hx hb dL_law_250 rfl (lv_at hl 0 rfl) ?_
  refine lv_iload_n hx hb dL_law_251 rfl (lv_at hl 3 rfl) ?_
  refine lv_iconst (v := 1) hx hb dL_law_252 (by decide) ?_
  refine lv_iadd hx hb dL_law_253 ?_
  refine k_top (y := 1) (by decide) ?_
  refine va_sld hx hb hX hbl hbA hS (show ¬ _ by decide) dL_law_254 ?_
  refine k_top (y := xs 1) rfl ?_
  refine k_Vi [0, 1, 2, 3, 4, 5, 6, 7, 8, 9, 10, 11, 12, 13, 14, 15, 16, 17, 18, 19, 20, 21, 22, 23, 24, 25, 26, 27, 28, 29, 30] [31, 32, 33] 0 11 (wr := [(z 0, .inr (12, [.ref (z 1), .ref (z 2), .int 0, .int 0, .ref (z 3), .ref (z 4), .ref (z 5), .ref (z 6), .int 0, .ref (z 7), .ref (z 8), .ref (z 9), .ref (z 10), .ref (z 11), .ref (z 12), .int 0, .ref (z 13), .ref (z 14), .int 0, .ref (z 15)])), (z 1, .inl (gI g, 461, .inl mD0)), (z 2, .inl (gI g, 7376, .inl (fun _ => 0)))]) hx hb hml hown hts hKW hP hD hS hA hl.1 (c_X11_hand l g _ q (xs 1) ) rfl rfl rfl wd_11_2 wd_1_2 wd_10_23 wd_11_0 wd_11_1 yd_X11_hand ⟨Nat.le_of_ble_eq_true rfl, Nat.le_of_ble_eq_true rfl⟩ rfl rfl rfl rfl rfl (by decide) rfl (Nat.le_of_ble_eq_true rfl) dL_law_255 ⟨Nat.le_of_ble_eq_true rfl, Nat.le_of_ble_eq_true rfl⟩ (fun r_1 u_2 H locs hw_3 hP hD hS => ?_)
  have hP : va_P g.1 vwCl [(z 0, .inr (12, [.ref (z 1), .ref (z 2), .int 0, .int 0, .ref (z 3), .ref (z 4), .ref (z 5), .ref (z 6), .int 0, .ref (z 7), .ref (z 8), .ref (z 9), .ref (z 10), .ref (z 11), .ref (z 12), .int 0, .ref (z 13), .ref (z 14), .int 0, .ref (z 15)])), (z 1, .inl (gI g, 461, .inl mD0)), (z 2, .inl (gI g, 7376, .inl (fun _ => 0)))] H := hP
  have hD : va_D A [(z 0, .inr (12, [.ref (z 1), .ref (z 2), .int 0, .int 0, .ref (z 3), .ref (z 4), .ref (z 5), .ref (z 6), .int 0, .ref (z 7), .ref (z 8), .ref (z 9), .ref (z 10), .ref (z 11), .ref (z 12), .int 0, .ref (z 13), .ref (z 14), .int 0, .ref (z 15)])), (z 1, .inl (gI g, 461, .inl mD0)), (z 2, .inl (gI g, 7376, .inl (fun _ => 0)))] := hD
  refine W.widen (k := 93) (n := 10422) (Nat.le_of_ble_eq_true rfl) (Nat.le_of_ble_eq_true rfl) ?_
  have hw_3 : r_1 = aR 0 3 0 (xs 1) := hw_3
  subst hw_3
  refine lv_aload_n hx hb dL_law_258 rfl (lv_at hl 2 rfl) ?_
  refine lv_aload_n hx hb dL_law_259 rfl (lv_at hl 0 rfl) ?_
  refine lv_iload_n hx hb dL_law_260 rfl (lv_at hl 3 rfl) ?_
  refine lv_iconst (v := 1) hx hb dL_law_261 (by decide) ?_
  refine lv_iadd hx hb dL_law_262 ?_
  refine k_top (y := 1) (by decide) ?_
  refine va_sld hx hb hX hbl hbA hS (show ¬ _ by decide) dL_law_263 ?_
  refine k_top (y := xs 1) rfl ?_
  refine k_Vi [0, 1, 2] [] 0 12 (wr := []) hx hb hml hown hts hKW hP hD hS hA hl.1 (c_X12_hand l g _ z (xs 1) ) rfl rfl rfl wd_11_17 wd_1_5 wd_11_14 wd_11_15 wd_11_16 yd_X12_hand ⟨Nat.le_of_ble_eq_true rfl, Nat.le_of_ble_eq_true rfl⟩ rfl rfl rfl rfl rfl (by decide) rfl (Nat.le_of_ble_eq_true rfl) dL_law_264 ⟨Nat.le_of_ble_eq_true rfl, Nat.le_of_ble_eq_true rfl⟩ (fun r_4 u_5 H locs hw_6 hP hD hS => ?_)
  have hP : va_P g.1 vwCl [] H := hP
  have hD : va_D A [] := hD
  have hw_6 : r_4 = aR 0 3 0 (xs 1) := hw_6
  subst hw_6
  refine lv_icmp_eq (tgt := 1506) hx hb dL_law_267 (by decide) (fun _ => ?_) (fun c => absurd rfl c)
  exact law_tail l g hA hA2 hKW hts C0 rfl H locs (Nat.le_of_ble_eq_true rfl) (Nat.le_of_ble_eq_true rfl) hS ls (lv_sub hl [0, 3] rfl)
theorem dL_law_272 : decode cL_law 272 = .ok (.aload_n 1, 1) := by decide +kernel
theorem dL_law_273 : decode cL_law 273 = .ok (.aload_n 0, 1) := by decide +kernel
theorem dL_law_274 : decode cL_law 274 = .ok (.iload_n 3, 1) := by decide +kernel
theorem dL_law_275 : decode cL_law 275 = .ok (.iconst 1, 1) := by decide +kernel
theorem dL_law_276 : decode cL_law 276 = .ok (.iadd, 1) := by decide +kernel
theorem dL_law_277 : decode cL_law 277 = .ok (.iaload, 1) := by decide +kernel
theorem dL_law_278 : decode cL_law 278 = .ok (.aload_n 0, 1) := by decide +kernel
theorem dL_law_279 : decode cL_law 279 = .ok (.iload_n 3, 1) := by decide +kernel
theorem dL_law_280 : decode cL_law 280 = .ok (.iconst 2, 1) := by decide +kernel
theorem dL_law_281 : decode cL_law 281 = .ok (.iadd, 1) := by decide +kernel
theorem dL_law_282 : decode cL_law 282 = .ok (.iaload, 1) := by decide +kernel
theorem dL_law_283 : decode cL_law 283 = .ok (.invokevirtual 23, 3) := by decide +kernel
theorem dL_law_286 : decode cL_law 286 = .ok (.aload_n 2, 1) := by decide +kernel
theorem dL_law_287 : decode cL_law 287 = .ok (.aload_n 0, 1) := by decide +kernel
theorem dL_law_288 : decode cL_law 288 = .ok (.iload_n 3, 1) := by decide +kernel
theorem dL_law_289 : decode cL_law 289 = .ok (.iconst 1, 1) := by decide +kernel
theorem dL_law_290 : decode cL_law 290 = .ok (.iadd, 1) := by decide +kernel
theorem dL_law_291 : decode cL_law 291 = .ok (.iaload, 1) := by decide +kernel
theorem dL_law_292 : decode cL_law 292 = .ok (.aload_n 0, 1) := by decide +kernel
theorem dL_law_293 : decode cL_law 293 = .ok (.iload_n 3, 1) := by decide +kernel
theorem dL_law_294 : decode cL_law 294 = .ok (.iconst 2, 1) := by decide +kernel
theorem dL_law_295 : decode cL_law 295 = .ok (.iadd, 1) := by decide +kernel
theorem dL_law_296 : decode cL_law 296 = .ok (.iaload, 1) := by decide +kernel
theorem dL_law_297 : decode cL_law 297 = .ok (.invokevirtual 26, 3) := by decide +kernel
theorem dL_law_300 : decode cL_law 300 = .ok (.if_icmp .eq 1206, 3) := by decide +kernel
set_option maxHeartbeats 4000000 in
set_option maxRecDepth 100000 in
theorem law_as {p : Program} {e : Env} {s : State} {m : MethodId} {below : List Frame} {meth : Method} {c : Code} (l : Launch) (g : kG) {A : Nat → Prop} {b L : Nat} {xs : Nat → Int32} (hA : ∀ q : Nat, s.heap.size ≤ q → A q) (hA2 : ∀ q : Nat, A q → s.heap.size ≤ q) (hKW : kKW g s) (hts : ∀ w ∈ wsL_law, w.before #[Value.ref b] s = true) (C0 : lw_At p s m meth c b L xs) (hL6 : L = 6) (q z : Nat → Nat) (H : Heap) (locs : List Loc) (hP : va_P g.1 vwCl [(q 0, .inr (11, [.ref (q 1), .ref (q 29), .ref (q 31), .ref (q 34), .ref (q 38), .ref (q 40), .int 0])), (q 1, .inr (4, [.ref (q 2), .ref (q 6), .ref (q 9), .ref (q 18), .ref (q 22), .ref (q 26), .ref (q 28), .int 0, .int 0, .int 36, .int 10])), (q 6, .inr (1, [.int 0, .ref (q 7), .ref (q 8), .int 0])), (z 0, .inr (12, [.ref (z 1), .ref (z 2), .int 0, .int 0, .ref (z 3), .ref (z 4), .ref (z 5), .ref (z 6), .int 0, .ref (z 7), .ref (z 8), .ref (z 9), .ref (z 10), .ref (z 11), .ref (z 12), .int 0, .ref (z 13), .ref (z 14), .int 0, .ref (z 15)])), (z 1, .inl (gI g, 461, .inl mD0))] H) (hD : va_D A [(q 0, .inr (11, [.ref (q 1), .ref (q 29), .ref (q 31), .ref (q 34), .ref (q 38), .ref (q 40), .int 0])), (q 1, .inr (4, [.ref (q 2), .ref (q 6), .ref (q 9), .ref (q 18), .ref (q 22), .ref (q 26), .ref (q 28), .int 0, .int 0, .int 36, .int 10])), (q 6, .inr (1, [.int 0, .ref (q 7), .ref (q 8), .int 0])), (z 0, .inr (12, [.ref (z 1), .ref (z 2), .int 0, .int 0, .ref (z 3), .ref (z 4), .ref (z 5), .ref (z 6), .int 0, .ref (z 7), .ref (z 8), .ref (z 9), .ref (z 10), .ref (z 11), .ref (z 12), .int 0, .ref (z 13), .ref (z 14), .int 0, .ref (z 15)])), (z 1, .inl (gI g, 461, .inl mD0))]) (hS : va_S A s.heap H locs) (ls : Array Slot) (hl : lv_has ls 4 [(0, .ref b), (1, .ref (q 0)), (2, .ref (z 0)), (3, .int 0)]) : W p l e room_1 s m #[Value.ref b] below meth c H locs 65 9957 (lw_Z below #[Value.ref b] s) (F0 m 272 ls []) := by
  subst hL6
  obtain ⟨hx, hb, hr, hml, hown, -, hX, hbl, hlk, hgv⟩ := id C0
  have hbA : ¬ A b := fun h => absurd (hA2 _ h) (Nat.not_le.mpr hbl)
  have hown : s.vm.findClass RL = some m.cls := hown
  refine lv_aload_n hx hb dL_law_272 rfl (lv_at hl 1 rfl) ?_
  refine lv_aload_n hx hb dL_law_273 rfl (lv_at hl 0 rfl) ?_
  refine lv_iload_n hx hb dL_law_274 rfl (lv_at hl 3 rfl) ?_
  refine lv_iconst (v := 1) hx hb dL_law_275 (by decide) ?_
  refine lv_iadd hx hb dL_law_276 ?_
  refine k_top (y := 1) (by decide) ?_
  refine va_sld hx hb hX hbl hbA hS (show ¬ _ by decide) dL_law_277 ?_
  refine k_top (y := xs 1) rfl ?_
  refine lv_aload_n hx hb dL_law_278 rfl (lv_at hl 0 rfl) ?_
  refine lv_iload_n hx hb dL_law_279 rfl (lv_at hl 3 rfl) ?_
  refine lv_iconst (v := 2) hx hb dL_law_280 (by decide) ?_
  refine lv_iadd hx hb dL_law_281 ?_
  refine k_top (y := 2) (by decide) ?_
  refine va_sld hx hb hX hbl hbA hS (show ¬ _ by decide) dL_law_282 ?_
  refine k_top (y := xs 2) rfl ?_
  refine k_Vi [0, 1, 2] [3, 4] 0 11 (wr := [(z 0, .inr (12, [.ref (z 1), .ref (z 2), .int 0, .int 0, .ref (z 3), .ref (z 4), .ref (z 5), .ref (z 6), .int 0, .ref (z 7), .ref (z 8), .ref (z 9), .ref (z 10), .ref (z 11), .ref (z 12), .int 0, .ref (z 13), .ref (z 14), .int 0, .ref (z 15)])), (z 1, .inl (gI g, 461, .inl mD0))]) hx hb hml hown hts hKW hP hD hS hA hl.1 (c_X11_as l g _ q (xs 1) (xs 2) ) rfl rfl rfl wd_11_21 wd_1_2 wd_11_18 wd_11_19 wd_11_20 yd_X11_as ⟨Nat.le_of_ble_eq_true rfl, Nat.le_of_ble_eq_true rfl⟩ rfl rfl rfl rfl rfl (by decide) rfl (Nat.le_of_ble_eq_true rfl) dL_law_283 ⟨Nat.le_of_ble_eq_true rfl, Nat.le_of_ble_eq_true rfl⟩ (fun r_1 u_2 H locs hw_3 hP hD hS => ?_)
  have hP : va_P g.1 vwCl [(z 0, .inr (12, [.ref (z 1), .ref (z 2), .int 0, .int 0, .ref (z 3), .ref (z 4), .ref (z 5), .ref (z 6), .int 0, .ref (z 7), .ref (z 8), .ref (z 9), .ref (z 10), .ref (z 11), .ref (z 12), .int 0, .ref (z 13), .ref (z 14), .int 0, .ref (z 15)])), (z 1, .inl (gI g, 461, .inl mD0))] H := hP
  have hD : va_D A [(z 0, .inr (12, [.ref (z 1), .ref (z 2), .int 0, .int 0, .ref (z 3), .ref (z 4), .ref (z 5), .ref (z 6), .int 0, .ref (z 7), .ref (z 8), .ref (z 9), .ref (z 10), .ref (z 11), .ref (z 12), .int 0, .ref (z 13), .ref (z 14), .int 0, .ref (z 15)])), (z 1, .inl (gI g, 461, .inl mD0))] := hD
  have hw_3 : r_1 = (-100001) := hw_3
  subst hw_3
  refine lv_aload_n hx hb dL_law_286 rfl (lv_at hl 2 rfl) ?_
  refine lv_aload_n hx hb dL_law_287 rfl (lv_at hl 0 rfl) ?_
  refine lv_iload_n hx hb dL_law_288 rfl (lv_at hl 3 rfl) ?_
  refine lv_iconst (v := 1) hx hb dL_law_289 (by decide) ?_
  refine lv_iadd hx hb dL_law_290 ?_
  refine k_top (y := 1) (by decide) ?_
  refine va_sld hx hb hX hbl hbA hS (show ¬ _ by decide) dL_law_291 ?_
  refine k_top (y := xs 1) rfl ?_
  refine lv_aload_n hx hb dL_law_292 rfl (lv_at hl 0 rfl) ?_
  refine lv_iload_n hx hb dL_law_293 rfl (lv_at hl 3 rfl) ?_
  refine lv_iconst (v := 2) hx hb dL_law_294 (by decide) ?_
  refine lv_iadd hx hb dL_law_295 ?_
  refine k_top (y := 2) (by decide) ?_
  refine va_sld hx hb hX hbl hbA hS (show ¬ _ by decide) dL_law_296 ?_
  refine k_top (y := xs 2) rfl ?_
  refine k_Vi [0, 1] [] 0 12 (wr := []) hx hb hml hown hts hKW hP hD hS hA hl.1 (c_X12_as l g _ z (xs 1) (xs 2) ) rfl rfl rfl wd_12_10 wd_1_5 wd_12_7 wd_12_8 wd_12_9 yd_X12_as ⟨Nat.le_of_ble_eq_true rfl, Nat.le_of_ble_eq_true rfl⟩ rfl rfl rfl rfl rfl (by decide) rfl (Nat.le_of_ble_eq_true rfl) dL_law_297 ⟨Nat.le_of_ble_eq_true rfl, Nat.le_of_ble_eq_true rfl⟩ (fun r_4 u_5 H locs hw_6 hP hD hS => ?_)
  have hP : va_P g.1 vwCl [] H := hP
  have hD : va_D A [] := hD
  have hw_6 : r_4 = (-100001) := hw_6
  subst hw_6
  refine lv_icmp_eq (tgt := 1506) hx hb dL_law_300 (by decide) (fun _ => ?_) (fun c => absurd rfl c)
  exact law_tail l g hA hA2 hKW hts C0 rfl H locs (Nat.le_of_ble_eq_true rfl) (Nat.le_of_ble_eq_true rfl) hS ls (lv_sub hl [0, 3] rfl)
theorem dL_law_305 : decode cL_law 305 = .ok (.aload_n 1, 1) := by decide +kernel
theorem dL_law_306 : decode cL_law 306 = .ok (.aload_n 0, 1) := by decide +kernel
theorem dL_law_307 : decode cL_law 307 = .ok (.iload_n 3, 1) := by decide +kernel
theorem dL_law_308 : decode cL_law 308 = .ok (.iconst 1, 1) := by decide +kernel
theorem dL_law_309 : decode cL_law 309 = .ok (.iadd, 1) := by decide +kernel
theorem dL_law_310 : decode cL_law 310 = .ok (.iaload, 1) := by decide +kernel
theorem dL_law_311 : decode cL_law 311 = .ok (.aload_n 0, 1) := by decide +kernel
theorem dL_law_312 : decode cL_law 312 = .ok (.iload_n 3, 1) := by decide +kernel
theorem dL_law_313 : decode cL_law 313 = .ok (.iconst 2, 1) := by decide +kernel
theorem dL_law_314 : decode cL_law 314 = .ok (.iadd, 1) := by decide +kernel
theorem dL_law_315 : decode cL_law 315 = .ok (.iaload, 1) := by decide +kernel
theorem dL_law_316 : decode cL_law 316 = .ok (.aload_n 0, 1) := by decide +kernel
theorem dL_law_317 : decode cL_law 317 = .ok (.iload_n 3, 1) := by decide +kernel
theorem dL_law_318 : decode cL_law 318 = .ok (.iconst 3, 1) := by decide +kernel
theorem dL_law_319 : decode cL_law 319 = .ok (.iadd, 1) := by decide +kernel
theorem dL_law_320 : decode cL_law 320 = .ok (.iaload, 1) := by decide +kernel
theorem dL_law_321 : decode cL_law 321 = .ok (.aload_n 0, 1) := by decide +kernel
theorem dL_law_322 : decode cL_law 322 = .ok (.iload_n 3, 1) := by decide +kernel
theorem dL_law_323 : decode cL_law 323 = .ok (.iconst 4, 1) := by decide +kernel
theorem dL_law_324 : decode cL_law 324 = .ok (.iadd, 1) := by decide +kernel
theorem dL_law_325 : decode cL_law 325 = .ok (.iaload, 1) := by decide +kernel
theorem dL_law_326 : decode cL_law 326 = .ok (.invokevirtual 27, 3) := by decide +kernel
theorem dL_law_329 : decode cL_law 329 = .ok (.aload_n 2, 1) := by decide +kernel
theorem dL_law_330 : decode cL_law 330 = .ok (.aload_n 0, 1) := by decide +kernel
theorem dL_law_331 : decode cL_law 331 = .ok (.iload_n 3, 1) := by decide +kernel
theorem dL_law_332 : decode cL_law 332 = .ok (.iconst 1, 1) := by decide +kernel
theorem dL_law_333 : decode cL_law 333 = .ok (.iadd, 1) := by decide +kernel
theorem dL_law_334 : decode cL_law 334 = .ok (.iaload, 1) := by decide +kernel
theorem dL_law_335 : decode cL_law 335 = .ok (.aload_n 0, 1) := by decide +kernel
theorem dL_law_336 : decode cL_law 336 = .ok (.iload_n 3, 1) := by decide +kernel
theorem dL_law_337 : decode cL_law 337 = .ok (.iconst 2, 1) := by decide +kernel
theorem dL_law_338 : decode cL_law 338 = .ok (.iadd, 1) := by decide +kernel
theorem dL_law_339 : decode cL_law 339 = .ok (.iaload, 1) := by decide +kernel
theorem dL_law_340 : decode cL_law 340 = .ok (.aload_n 0, 1) := by decide +kernel
theorem dL_law_341 : decode cL_law 341 = .ok (.iload_n 3, 1) := by decide +kernel
theorem dL_law_342 : decode cL_law 342 = .ok (.iconst 3, 1) := by decide +kernel
theorem dL_law_343 : decode cL_law 343 = .ok (.iadd, 1) := by decide +kernel
theorem dL_law_344 : decode cL_law 344 = .ok (.iaload, 1) := by decide +kernel
theorem dL_law_345 : decode cL_law 345 = .ok (.aload_n 0, 1) := by decide +kernel
theorem dL_law_346 : decode cL_law 346 = .ok (.iload_n 3, 1) := by decide +kernel
theorem dL_law_347 : decode cL_law 347 = .ok (.iconst 4, 1) := by decide +kernel
theorem dL_law_348 : decode cL_law 348 = .ok (.iadd, 1) := by decide +kernel
theorem dL_law_349 : decode cL_law 349 = .ok (.iaload, 1) := by decide +kernel
theorem dL_law_350 : decode cL_law 350 = .ok (.invokevirtual 31, 3) := by decide +kernel
theorem dL_law_353 : decode cL_law 353 = .ok (.if_icmp .eq 1153, 3) := by decide +kernel
set_option maxHeartbeats 4000000 in
set_option maxRecDepth 100000 in
theorem law_child {p : Program} {e : Env} {s : State} {m : MethodId} {below : List Frame} {meth : Method} {c : Code} (l : Launch) (g : kG) {A : Nat → Prop} {b L : Nat} {xs : Nat → Int32} (hA : ∀ q : Nat, s.heap.size ≤ q → A q) (hA2 : ∀ q : Nat, A q → s.heap.size ≤ q) (hKW : kKW g s) (hts : ∀ w ∈ wsL_law, w.before #[Value.ref b] s = true) (C0 : lw_At p s m meth c b L xs) (hL6 : L = 6) (q z : Nat → Nat) (H : Heap) (locs : List Loc) (hP : va_P g.1 vwCl [(q 0, .inr (11, [.ref (q 1), .ref (q 29), .ref (q 31), .ref (q 34), .ref (q 38), .ref (q 40), .int 0])), (q 1, .inr (4, [.ref (q 2), .ref (q 6), .ref (q 9), .ref (q 18), .ref (q 22), .ref (q 26), .ref (q 28), .int 0, .int 0, .int 36, .int 10])), (q 2, .inr (8, [.int 0, .ref (q 3), .ref (q 4), .ref (q 5)])), (q 3, .inl (gI g, 5, .inl (fun _ => 0))), (q 4, .inl (gI g, 5, .inl (fun _ => 0))), (q 5, .inl (gI g, 5, .inl (fun _ => 0))), (q 6, .inr (1, [.int 0, .ref (q 7), .ref (q 8), .int 0])), (q 7, .inl (gI g, 7, .inl (fun _ => 0))), (q 8, .inl (gI g, 7, .inl (fun _ => 0))), (q 9, .inr (0, [.int 0, .ref (q 10), .ref (q 11), .ref (q 12), .ref (q 13), .ref (q 14), .ref (q 15), .ref (q 16), .int 0, .int 0, .int 0, .ref (q 17)])), (q 10, .inl (gI g, 10, .inl (fun _ => 0))), (q 11, .inl (gI g, 10, .inl (fun _ => 0))), (q 12, .inl (gI g, 10, .inl (fun _ => 0))), (q 13, .inl (gI g, 10, .inl (fun _ => 0))), (q 14, .inl (gI g, 10, .inl (fun _ => 0))), (q 15, .inl (gI g, 10, .inl (fun _ => 0))), (q 16, .inl (gI g, 10, .inl (fun _ => 0))), (q 17, .inl (gI g, 10, .inl (fun _ => 0))), (q 18, .inr (3, [.int 0, .ref (q 19), .ref (q 20), .ref (q 21)])), (q 19, .inl (gI g, 40, .inl (fun _ => 0))), (q 20, .inl (gI g, 40, .inl (fun _ => 0))), (q 21, .inl (gI g, 40, .inl (fun _ => 0))), (q 22, .inr (3, [.int 0, .ref (q 23), .ref (q 24), .ref (q 25)])), (q 23, .inl (gI g, 40, .inl (fun _ => 0))), (q 24, .inl (gI g, 40, .inl (fun _ => 0))), (q 25, .inl (gI g, 40, .inl (fun _ => 0))), (q 26, .inr (6, [.int 0, .int 0, .ref (q 27)])), (q 27, .inl (gI g, 14, .inl (fun _ => 0))), (q 28, .inl (gI g, 60, .inl (fun _ => 0))), (q 29, .inr (2, [.int 0, .int 0, .ref (q 30)])), (q 30, .inl (gN g, 16, .inr (.inr (.inr (.inr (fun _ => none)))))), (z 0, .inr (12, [.ref (z 1), .ref (z 2), .int 0, .int 0, .ref (z 3), .ref (z 4), .ref (z 5), .ref (z 6), .int 0, .ref (z 7), .ref (z 8), .ref (z 9), .ref (z 10), .ref (z 11), .ref (z 12), .int 0, .ref (z 13), .ref (z 14), .int 0, .ref (z 15)])), (z 1, .inl (gI g, 461, .inl mD0)), (z 2, .inl (gI g, 7376, .inl (fun _ => 0)))] H) (hD : va_D A [(q 0, .inr (11, [.ref (q 1), .ref (q 29), .ref (q 31), .ref (q 34), .ref (q 38), .ref (q 40), .int 0])), (q 1, .inr (4, [.ref (q 2), .ref (q 6), .ref (q 9), .ref (q 18), .ref (q 22), .ref (q 26), .ref (q 28), .int 0, .int 0, .int 36, .int 10])), (q 2, .inr (8, [.int 0, .ref (q 3), .ref (q 4), .ref (q 5)])), (q 3, .inl (gI g, 5, .inl (fun _ => 0))), (q 4, .inl (gI g, 5, .inl (fun _ => 0))), (q 5, .inl (gI g, 5, .inl (fun _ => 0))), (q 6, .inr (1, [.int 0, .ref (q 7), .ref (q 8), .int 0])), (q 7, .inl (gI g, 7, .inl (fun _ => 0))), (q 8, .inl (gI g, 7, .inl (fun _ => 0))), (q 9, .inr (0, [.int 0, .ref (q 10), .ref (q 11), .ref (q 12), .ref (q 13), .ref (q 14), .ref (q 15), .ref (q 16), .int 0, .int 0, .int 0, .ref (q 17)])), (q 10, .inl (gI g, 10, .inl (fun _ => 0))), (q 11, .inl (gI g, 10, .inl (fun _ => 0))), (q 12, .inl (gI g, 10, .inl (fun _ => 0))), (q 13, .inl (gI g, 10, .inl (fun _ => 0))), (q 14, .inl (gI g, 10, .inl (fun _ => 0))), (q 15, .inl (gI g, 10, .inl (fun _ => 0))), (q 16, .inl (gI g, 10, .inl (fun _ => 0))), (q 17, .inl (gI g, 10, .inl (fun _ => 0))), (q 18, .inr (3, [.int 0, .ref (q 19), .ref (q 20), .ref (q 21)])), (q 19, .inl (gI g, 40, .inl (fun _ => 0))), (q 20, .inl (gI g, 40, .inl (fun _ => 0))), (q 21, .inl (gI g, 40, .inl (fun _ => 0))), (q 22, .inr (3, [.int 0, .ref (q 23), .ref (q 24), .ref (q 25)])), (q 23, .inl (gI g, 40, .inl (fun _ => 0))), (q 24, .inl (gI g, 40, .inl (fun _ => 0))), (q 25, .inl (gI g, 40, .inl (fun _ => 0))), (q 26, .inr (6, [.int 0, .int 0, .ref (q 27)])), (q 27, .inl (gI g, 14, .inl (fun _ => 0))), (q 28, .inl (gI g, 60, .inl (fun _ => 0))), (q 29, .inr (2, [.int 0, .int 0, .ref (q 30)])), (q 30, .inl (gN g, 16, .inr (.inr (.inr (.inr (fun _ => none)))))), (z 0, .inr (12, [.ref (z 1), .ref (z 2), .int 0, .int 0, .ref (z 3), .ref (z 4), .ref (z 5), .ref (z 6), .int 0, .ref (z 7), .ref (z 8), .ref (z 9), .ref (z 10), .ref (z 11), .ref (z 12), .int 0, .ref (z 13), .ref (z 14), .int 0, .ref (z 15)])), (z 1, .inl (gI g, 461, .inl mD0)), (z 2, .inl (gI g, 7376, .inl (fun _ => 0)))]) (hS : va_S A s.heap H locs) (ls : Array Slot) (hl : lv_has ls 4 [(0, .ref b), (1, .ref (q 0)), (2, .ref (z 0)), (3, .int 0)]) : W p l e room_1 s m #[Value.ref b] below meth c H locs 65 9957 (lw_Z below #[Value.ref b] s) (F0 m 305 ls []) := by
  subst hL6
  obtain ⟨hx, hb, hr, hml, hown, -, hX, hbl, hlk, hgv⟩ := id C0
  have hbA : ¬ A b := fun h => absurd (hA2 _ h) (Nat.not_le.mpr hbl)
  have hown : s.vm.findClass RL = some m.cls := hown
  refine lv_aload_n hx hb dL_law_305 rfl (lv_at hl 1 rfl) ?_
  refine lv_aload_n hx hb dL_law_306 rfl (lv_at hl 0 rfl) ?_
  refine lv_iload_n hx hb dL_law_307 rfl (lv_at hl 3 rfl) ?_
  refine lv_iconst (v := 1) hx hb dL_law_308 (by decide) ?_
  refine lv_iadd hx hb dL_law_309 ?_
  refine k_top (y := 1) (by decide) ?_
  refine va_sld hx hb hX hbl hbA hS (show ¬ _ by decide) dL_law_310 ?_
  refine k_top (y := xs 1) rfl ?_
  refine lv_aload_n hx hb dL_law_311 rfl (lv_at hl 0 rfl) ?_
  refine lv_iload_n hx hb dL_law_312 rfl (lv_at hl 3 rfl) ?_
  refine lv_iconst (v := 2) hx hb dL_law_313 (by decide) ?_
  refine lv_iadd hx hb dL_law_314 ?_
  refine k_top (y := 2) (by decide) ?_
  refine va_sld hx hb hX hbl hbA hS (show ¬ _ by decide) dL_law_315 ?_
  refine k_top (y := xs 2) rfl ?_
  refine lv_aload_n hx hb dL_law_316 rfl (lv_at hl 0 rfl) ?_
  refine lv_iload_n hx hb dL_law_317 rfl (lv_at hl 3 rfl) ?_
  refine lv_iconst (v := 3) hx hb dL_law_318 (by decide) ?_
  refine lv_iadd hx hb dL_law_319 ?_
  refine k_top (y := 3) (by decide) ?_
  refine va_sld hx hb hX hbl hbA hS (show ¬ _ by decide) dL_law_320 ?_
  refine k_top (y := xs 3) rfl ?_
  refine lv_aload_n hx hb dL_law_321 rfl (lv_at hl 0 rfl) ?_
  refine lv_iload_n hx hb dL_law_322 rfl (lv_at hl 3 rfl) ?_
  refine lv_iconst (v := 4) hx hb dL_law_323 (by decide) ?_
  refine lv_iadd hx hb dL_law_324 ?_
  refine k_top (y := 4) (by decide) ?_
  refine va_sld hx hb hX hbl hbA hS (show ¬ _ by decide) dL_law_325 ?_
  refine k_top (y := xs 4) rfl ?_
  refine k_Vi [0, 1, 2, 3, 4, 5, 6, 7, 8, 9, 10, 11, 12, 13, 14, 15, 16, 17, 18, 19, 20, 21, 22, 23, 24, 25, 26, 27, 28, 29, 30] [31, 32, 33] 0 11 (wr := [(z 0, .inr (12, [.ref (z 1), .ref (z 2), .int 0, .int 0, .ref (z 3), .ref (z 4), .ref (z 5), .ref (z 6), .int 0, .ref (z 7), .ref (z 8), .ref (z 9), .ref (z 10), .ref (z 11), .ref (z 12), .int 0, .ref (z 13), .ref (z 14), .int 0, .ref (z 15)])), (z 1, .inl (gI g, 461, .inl mD0)), (z 2, .inl (gI g, 7376, .inl (fun _ => 0)))]) hx hb hml hown hts hKW hP hD hS hA hl.1 (c_X11_child l g _ q (xs 1) (xs 2) (xs 3) (xs 4) ) rfl rfl rfl wd_12_22 wd_1_2 wd_12_19 wd_12_20 wd_12_21 yd_X11_child ⟨Nat.le_of_ble_eq_true rfl, Nat.le_of_ble_eq_true rfl⟩ rfl rfl rfl rfl rfl (by decide) rfl (Nat.le_of_ble_eq_true rfl) dL_law_326 ⟨Nat.le_of_ble_eq_true rfl, Nat.le_of_ble_eq_true rfl⟩ (fun r_1 u_2 H locs hw_3 hP hD hS => ?_)
  have hP : va_P g.1 vwCl [(z 0, .inr (12, [.ref (z 1), .ref (z 2), .int 0, .int 0, .ref (z 3), .ref (z 4), .ref (z 5), .ref (z 6), .int 0, .ref (z 7), .ref (z 8), .ref (z 9), .ref (z 10), .ref (z 11), .ref (z 12), .int 0, .ref (z 13), .ref (z 14), .int 0, .ref (z 15)])), (z 1, .inl (gI g, 461, .inl mD0)), (z 2, .inl (gI g, 7376, .inl (fun _ => 0)))] H := hP
  have hD : va_D A [(z 0, .inr (12, [.ref (z 1), .ref (z 2), .int 0, .int 0, .ref (z 3), .ref (z 4), .ref (z 5), .ref (z 6), .int 0, .ref (z 7), .ref (z 8), .ref (z 9), .ref (z 10), .ref (z 11), .ref (z 12), .int 0, .ref (z 13), .ref (z 14), .int 0, .ref (z 15)])), (z 1, .inl (gI g, 461, .inl mD0)), (z 2, .inl (gI g, 7376, .inl (fun _ => 0)))] := hD
  refine W.widen (k := 93) (n := 10422) (Nat.le_of_ble_eq_true rfl) (Nat.le_of_ble_eq_true rfl) ?_
  have hw_3 : r_1 = aChild (xs 1) (xs 2) (xs 3) (xs 4) ((xs 4) / 100) ((xs 4) - (xs 4) / 100 * 100) := hw_3
  subst hw_3
  refine lv_aload_n hx hb dL_law_329 rfl (lv_at hl 2 rfl) ?_
  refine lv_aload_n hx hb dL_law_330 rfl (lv_at hl 0 rfl) ?_
  refine lv_iload_n hx hb dL_law_331 rfl (lv_at hl 3 rfl) ?_
  refine lv_iconst (v := 1) hx hb dL_law_332 (by decide) ?_
  refine lv_iadd hx hb dL_law_333 ?_
  refine k_top (y := 1) (by decide) ?_
  refine va_sld hx hb hX hbl hbA hS (show ¬ _ by decide) dL_law_334 ?_
  refine k_top (y := xs 1) rfl ?_
  refine lv_aload_n hx hb dL_law_335 rfl (lv_at hl 0 rfl) ?_
  refine lv_iload_n hx hb dL_law_336 rfl (lv_at hl 3 rfl) ?_
  refine lv_iconst (v := 2) hx hb dL_law_337 (by decide) ?_
  refine lv_iadd hx hb dL_law_338 ?_
  refine k_top (y := 2) (by decide) ?_
  refine va_sld hx hb hX hbl hbA hS (show ¬ _ by decide) dL_law_339 ?_
  refine k_top (y := xs 2) rfl ?_
  refine lv_aload_n hx hb dL_law_340 rfl (lv_at hl 0 rfl) ?_
  refine lv_iload_n hx hb dL_law_341 rfl (lv_at hl 3 rfl) ?_
  refine lv_iconst (v := 3) hx hb dL_law_342 (by decide) ?_
  refine lv_iadd hx hb dL_law_343 ?_
  refine k_top (y := 3) (by decide) ?_
  refine va_sld hx hb hX hbl hbA hS (show ¬ _ by decide) dL_law_344 ?_
  refine k_top (y := xs 3) rfl ?_
  refine lv_aload_n hx hb dL_law_345 rfl (lv_at hl 0 rfl) ?_
  refine lv_iload_n hx hb dL_law_346 rfl (lv_at hl 3 rfl) ?_
  refine lv_iconst (v := 4) hx hb dL_law_347 (by decide) ?_
  refine lv_iadd hx hb dL_law_348 ?_
  refine k_top (y := 4) (by decide) ?_
  refine va_sld hx hb hX hbl hbA hS (show ¬ _ by decide) dL_law_349 ?_
  refine k_top (y := xs 4) rfl ?_
  refine k_Vi [0, 1, 2] [] 0 12 (wr := []) hx hb hml hown hts hKW hP hD hS hA hl.1 (c_X12_child l g _ z (xs 1) (xs 2) (xs 3) (xs 4) ) rfl rfl rfl wd_13_15 wd_1_5 wd_13_12 wd_13_13 wd_13_14 yd_X12_child ⟨Nat.le_of_ble_eq_true rfl, Nat.le_of_ble_eq_true rfl⟩ rfl rfl rfl rfl rfl (by decide) rfl (Nat.le_of_ble_eq_true rfl) dL_law_350 ⟨Nat.le_of_ble_eq_true rfl, Nat.le_of_ble_eq_true rfl⟩ (fun r_4 u_5 H locs hw_6 hP hD hS => ?_)
  have hP : va_P g.1 vwCl [] H := hP
  have hD : va_D A [] := hD
  have hw_6 : r_4 = aChild (xs 1) (xs 2) (xs 3) (xs 4) ((xs 4) / 100) ((xs 4) - (xs 4) / 100 * 100) := hw_6
  subst hw_6
  refine lv_icmp_eq (tgt := 1506) hx hb dL_law_353 (by decide) (fun _ => ?_) (fun c => absurd rfl c)
  exact law_tail l g hA hA2 hKW hts C0 rfl H locs (Nat.le_of_ble_eq_true rfl) (Nat.le_of_ble_eq_true rfl) hS ls (lv_sub hl [0, 3] rfl)
theorem dL_law_358 : decode cL_law 358 = .ok (.aload_n 1, 1) := by decide +kernel
theorem dL_law_359 : decode cL_law 359 = .ok (.aload_n 0, 1) := by decide +kernel
theorem dL_law_360 : decode cL_law 360 = .ok (.iload_n 3, 1) := by decide +kernel
theorem dL_law_361 : decode cL_law 361 = .ok (.iconst 1, 1) := by decide +kernel
theorem dL_law_362 : decode cL_law 362 = .ok (.iadd, 1) := by decide +kernel
theorem dL_law_363 : decode cL_law 363 = .ok (.iaload, 1) := by decide +kernel
theorem dL_law_364 : decode cL_law 364 = .ok (.aload_n 0, 1) := by decide +kernel
theorem dL_law_365 : decode cL_law 365 = .ok (.iload_n 3, 1) := by decide +kernel
theorem dL_law_366 : decode cL_law 366 = .ok (.iconst 2, 1) := by decide +kernel
theorem dL_law_367 : decode cL_law 367 = .ok (.iadd, 1) := by decide +kernel
theorem dL_law_368 : decode cL_law 368 = .ok (.iaload, 1) := by decide +kernel
theorem dL_law_369 : decode cL_law 369 = .ok (.invokevirtual 32, 3) := by decide +kernel
theorem dL_law_372 : decode cL_law 372 = .ok (.aload_n 2, 1) := by decide +kernel
theorem dL_law_373 : decode cL_law 373 = .ok (.aload_n 0, 1) := by decide +kernel
theorem dL_law_374 : decode cL_law 374 = .ok (.iload_n 3, 1) := by decide +kernel
theorem dL_law_375 : decode cL_law 375 = .ok (.iconst 1, 1) := by decide +kernel
theorem dL_law_376 : decode cL_law 376 = .ok (.iadd, 1) := by decide +kernel
theorem dL_law_377 : decode cL_law 377 = .ok (.iaload, 1) := by decide +kernel
theorem dL_law_378 : decode cL_law 378 = .ok (.aload_n 0, 1) := by decide +kernel
theorem dL_law_379 : decode cL_law 379 = .ok (.iload_n 3, 1) := by decide +kernel
theorem dL_law_380 : decode cL_law 380 = .ok (.iconst 2, 1) := by decide +kernel
theorem dL_law_381 : decode cL_law 381 = .ok (.iadd, 1) := by decide +kernel
theorem dL_law_382 : decode cL_law 382 = .ok (.iaload, 1) := by decide +kernel
theorem dL_law_383 : decode cL_law 383 = .ok (.invokevirtual 35, 3) := by decide +kernel
theorem dL_law_386 : decode cL_law 386 = .ok (.if_icmp .eq 1120, 3) := by decide +kernel
set_option maxHeartbeats 4000000 in
set_option maxRecDepth 100000 in
theorem law_childIs {p : Program} {e : Env} {s : State} {m : MethodId} {below : List Frame} {meth : Method} {c : Code} (l : Launch) (g : kG) {A : Nat → Prop} {b L : Nat} {xs : Nat → Int32} (hA : ∀ q : Nat, s.heap.size ≤ q → A q) (hA2 : ∀ q : Nat, A q → s.heap.size ≤ q) (hKW : kKW g s) (hts : ∀ w ∈ wsL_law, w.before #[Value.ref b] s = true) (C0 : lw_At p s m meth c b L xs) (hL6 : L = 6) (q z : Nat → Nat) (H : Heap) (locs : List Loc) (hP : va_P g.1 vwCl [(q 0, .inr (11, [.ref (q 1), .ref (q 29), .ref (q 31), .ref (q 34), .ref (q 38), .ref (q 40), .int 0])), (q 1, .inr (4, [.ref (q 2), .ref (q 6), .ref (q 9), .ref (q 18), .ref (q 22), .ref (q 26), .ref (q 28), .int 0, .int 0, .int 36, .int 10])), (q 9, .inr (0, [.int 0, .ref (q 10), .ref (q 11), .ref (q 12), .ref (q 13), .ref (q 14), .ref (q 15), .ref (q 16), .int 0, .int 0, .int 0, .ref (q 17)])), (z 0, .inr (12, [.ref (z 1), .ref (z 2), .int 0, .int 0, .ref (z 3), .ref (z 4), .ref (z 5), .ref (z 6), .int 0, .ref (z 7), .ref (z 8), .ref (z 9), .ref (z 10), .ref (z 11), .ref (z 12), .int 0, .ref (z 13), .ref (z 14), .int 0, .ref (z 15)])), (z 1, .inl (gI g, 461, .inl mD0))] H) (hD : va_D A [(q 0, .inr (11, [.ref (q 1), .ref (q 29), .ref (q 31), .ref (q 34), .ref (q 38), .ref (q 40), .int 0])), (q 1, .inr (4, [.ref (q 2), .ref (q 6), .ref (q 9), .ref (q 18), .ref (q 22), .ref (q 26), .ref (q 28), .int 0, .int 0, .int 36, .int 10])), (q 9, .inr (0, [.int 0, .ref (q 10), .ref (q 11), .ref (q 12), .ref (q 13), .ref (q 14), .ref (q 15), .ref (q 16), .int 0, .int 0, .int 0, .ref (q 17)])), (z 0, .inr (12, [.ref (z 1), .ref (z 2), .int 0, .int 0, .ref (z 3), .ref (z 4), .ref (z 5), .ref (z 6), .int 0, .ref (z 7), .ref (z 8), .ref (z 9), .ref (z 10), .ref (z 11), .ref (z 12), .int 0, .ref (z 13), .ref (z 14), .int 0, .ref (z 15)])), (z 1, .inl (gI g, 461, .inl mD0))]) (hS : va_S A s.heap H locs) (ls : Array Slot) (hl : lv_has ls 4 [(0, .ref b), (1, .ref (q 0)), (2, .ref (z 0)), (3, .int 0)]) : W p l e room_1 s m #[Value.ref b] below meth c H locs 65 9957 (lw_Z below #[Value.ref b] s) (F0 m 358 ls []) := by
  subst hL6
  obtain ⟨hx, hb, hr, hml, hown, -, hX, hbl, hlk, hgv⟩ := id C0
  have hbA : ¬ A b := fun h => absurd (hA2 _ h) (Nat.not_le.mpr hbl)
  have hown : s.vm.findClass RL = some m.cls := hown
  refine lv_aload_n hx hb dL_law_358 rfl (lv_at hl 1 rfl) ?_
  refine lv_aload_n hx hb dL_law_359 rfl (lv_at hl 0 rfl) ?_
  refine lv_iload_n hx hb dL_law_360 rfl (lv_at hl 3 rfl) ?_
  refine lv_iconst (v := 1) hx hb dL_law_361 (by decide) ?_
  refine lv_iadd hx hb dL_law_362 ?_
  refine k_top (y := 1) (by decide) ?_
  refine va_sld hx hb hX hbl hbA hS (show ¬ _ by decide) dL_law_363 ?_
  refine k_top (y := xs 1) rfl ?_
  refine lv_aload_n hx hb dL_law_364 rfl (lv_at hl 0 rfl) ?_
  refine lv_iload_n hx hb dL_law_365 rfl (lv_at hl 3 rfl) ?_
  refine lv_iconst (v := 2) hx hb dL_law_366 (by decide) ?_
  refine lv_iadd hx hb dL_law_367 ?_
  refine k_top (y := 2) (by decide) ?_
  refine va_sld hx hb hX hbl hbA hS (show ¬ _ by decide) dL_law_368 ?_
  refine k_top (y := xs 2) rfl ?_
  refine k_Vi [0, 1, 2] [3, 4] 0 11 (wr := [(z 0, .inr (12, [.ref (z 1), .ref (z 2), .int 0, .int 0, .ref (z 3), .ref (z 4), .ref (z 5), .ref (z 6), .int 0, .ref (z 7), .ref (z 8), .ref (z 9), .ref (z 10), .ref (z 11), .ref (z 12), .int 0, .ref (z 13), .ref (z 14), .int 0, .ref (z 15)])), (z 1, .inl (gI g, 461, .inl mD0))]) hx hb hml hown hts hKW hP hD hS hA hl.1 (c_X11_childIs l g _ q (xs 1) (xs 2) ) rfl rfl rfl wd_13_23 wd_1_2 wd_13_20 wd_13_21 wd_13_22 yd_X11_childIs ⟨Nat.le_of_ble_eq_true rfl, Nat.le_of_ble_eq_true rfl⟩ rfl rfl rfl rfl rfl (by decide) rfl (Nat.le_of_ble_eq_true rfl) dL_law_369 ⟨Nat.le_of_ble_eq_true rfl, Nat.le_of_ble_eq_true rfl⟩ (fun r_1 u_2 H locs hw_3 hP hD hS => ?_)
  have hP : va_P g.1 vwCl [(z 0, .inr (12, [.ref (z 1), .ref (z 2), .int 0, .int 0, .ref (z 3), .ref (z 4), .ref (z 5), .ref (z 6), .int 0, .ref (z 7), .ref (z 8), .ref (z 9), .ref (z 10), .ref (z 11), .ref (z 12), .int 0, .ref (z 13), .ref (z 14), .int 0, .ref (z 15)])), (z 1, .inl (gI g, 461, .inl mD0))] H := hP
  have hD : va_D A [(z 0, .inr (12, [.ref (z 1), .ref (z 2), .int 0, .int 0, .ref (z 3), .ref (z 4), .ref (z 5), .ref (z 6), .int 0, .ref (z 7), .ref (z 8), .ref (z 9), .ref (z 10), .ref (z 11), .ref (z 12), .int 0, .ref (z 13), .ref (z 14), .int 0, .ref (z 15)])), (z 1, .inl (gI g, 461, .inl mD0))] := hD
  have hw_3 : r_1 = (-100001) := hw_3
  subst hw_3
  refine lv_aload_n hx hb dL_law_372 rfl (lv_at hl 2 rfl) ?_
  refine lv_aload_n hx hb dL_law_373 rfl (lv_at hl 0 rfl) ?_
  refine lv_iload_n hx hb dL_law_374 rfl (lv_at hl 3 rfl) ?_
  refine lv_iconst (v := 1) hx hb dL_law_375 (by decide) ?_
  refine lv_iadd hx hb dL_law_376 ?_
  refine k_top (y := 1) (by decide) ?_
  refine va_sld hx hb hX hbl hbA hS (show ¬ _ by decide) dL_law_377 ?_
  refine k_top (y := xs 1) rfl ?_
  refine lv_aload_n hx hb dL_law_378 rfl (lv_at hl 0 rfl) ?_
  refine lv_iload_n hx hb dL_law_379 rfl (lv_at hl 3 rfl) ?_
  refine lv_iconst (v := 2) hx hb dL_law_380 (by decide) ?_
  refine lv_iadd hx hb dL_law_381 ?_
  refine k_top (y := 2) (by decide) ?_
  refine va_sld hx hb hX hbl hbA hS (show ¬ _ by decide) dL_law_382 ?_
  refine k_top (y := xs 2) rfl ?_
  refine k_Vi [0, 1] [] 0 12 (wr := []) hx hb hml hown hts hKW hP hD hS hA hl.1 (c_X12_childIs l g _ z (xs 1) (xs 2) ) rfl rfl rfl wd_14_18 wd_1_5 wd_14_15 wd_14_16 wd_14_17 yd_X12_childIs ⟨Nat.le_of_ble_eq_true rfl, Nat.le_of_ble_eq_true rfl⟩ rfl rfl rfl rfl rfl (by decide) rfl (Nat.le_of_ble_eq_true rfl) dL_law_383 ⟨Nat.le_of_ble_eq_true rfl, Nat.le_of_ble_eq_true rfl⟩ (fun r_4 u_5 H locs hw_6 hP hD hS => ?_)
  have hP : va_P g.1 vwCl [] H := hP
  have hD : va_D A [] := hD
  have hw_6 : r_4 = (-100001) := hw_6
  subst hw_6
  refine lv_icmp_eq (tgt := 1506) hx hb dL_law_386 (by decide) (fun _ => ?_) (fun c => absurd rfl c)
  exact law_tail l g hA hA2 hKW hts C0 rfl H locs (Nat.le_of_ble_eq_true rfl) (Nat.le_of_ble_eq_true rfl) hS ls (lv_sub hl [0, 3] rfl)
theorem dL_law_391 : decode cL_law 391 = .ok (.aload_n 1, 1) := by decide +kernel
theorem dL_law_392 : decode cL_law 392 = .ok (.aload_n 0, 1) := by decide +kernel
theorem dL_law_393 : decode cL_law 393 = .ok (.iload_n 3, 1) := by decide +kernel
theorem dL_law_394 : decode cL_law 394 = .ok (.iconst 1, 1) := by decide +kernel
theorem dL_law_395 : decode cL_law 395 = .ok (.iadd, 1) := by decide +kernel
theorem dL_law_396 : decode cL_law 396 = .ok (.iaload, 1) := by decide +kernel
theorem dL_law_397 : decode cL_law 397 = .ok (.aload_n 0, 1) := by decide +kernel
theorem dL_law_398 : decode cL_law 398 = .ok (.iload_n 3, 1) := by decide +kernel
theorem dL_law_399 : decode cL_law 399 = .ok (.iconst 2, 1) := by decide +kernel
theorem dL_law_400 : decode cL_law 400 = .ok (.iadd, 1) := by decide +kernel
theorem dL_law_401 : decode cL_law 401 = .ok (.iaload, 1) := by decide +kernel
theorem dL_law_402 : decode cL_law 402 = .ok (.invokevirtual 36, 3) := by decide +kernel
theorem dL_law_405 : decode cL_law 405 = .ok (.aload_n 2, 1) := by decide +kernel
theorem dL_law_406 : decode cL_law 406 = .ok (.aload_n 0, 1) := by decide +kernel
theorem dL_law_407 : decode cL_law 407 = .ok (.iload_n 3, 1) := by decide +kernel
theorem dL_law_408 : decode cL_law 408 = .ok (.iconst 1, 1) := by decide +kernel
theorem dL_law_409 : decode cL_law 409 = .ok (.iadd, 1) := by decide +kernel
theorem dL_law_410 : decode cL_law 410 = .ok (.iaload, 1) := by decide +kernel
theorem dL_law_411 : decode cL_law 411 = .ok (.aload_n 0, 1) := by decide +kernel
theorem dL_law_412 : decode cL_law 412 = .ok (.iload_n 3, 1) := by decide +kernel
theorem dL_law_413 : decode cL_law 413 = .ok (.iconst 2, 1) := by decide +kernel
theorem dL_law_414 : decode cL_law 414 = .ok (.iadd, 1) := by decide +kernel
theorem dL_law_415 : decode cL_law 415 = .ok (.iaload, 1) := by decide +kernel
theorem dL_law_416 : decode cL_law 416 = .ok (.invokevirtual 39, 3) := by decide +kernel
theorem dL_law_419 : decode cL_law 419 = .ok (.if_icmp .eq 1087, 3) := by decide +kernel
set_option maxHeartbeats 4000000 in
set_option maxRecDepth 100000 in
theorem law_roomOf {p : Program} {e : Env} {s : State} {m : MethodId} {below : List Frame} {meth : Method} {c : Code} (l : Launch) (g : kG) {A : Nat → Prop} {b L : Nat} {xs : Nat → Int32} (hA : ∀ q : Nat, s.heap.size ≤ q → A q) (hA2 : ∀ q : Nat, A q → s.heap.size ≤ q) (hKW : kKW g s) (hts : ∀ w ∈ wsL_law, w.before #[Value.ref b] s = true) (C0 : lw_At p s m meth c b L xs) (hL6 : L = 6) (q z : Nat → Nat) (H : Heap) (locs : List Loc) (hP : va_P g.1 vwCl [(q 0, .inr (11, [.ref (q 1), .ref (q 29), .ref (q 31), .ref (q 34), .ref (q 38), .ref (q 40), .int 0])), (q 1, .inr (4, [.ref (q 2), .ref (q 6), .ref (q 9), .ref (q 18), .ref (q 22), .ref (q 26), .ref (q 28), .int 0, .int 0, .int 36, .int 10])), (q 9, .inr (0, [.int 0, .ref (q 10), .ref (q 11), .ref (q 12), .ref (q 13), .ref (q 14), .ref (q 15), .ref (q 16), .int 0, .int 0, .int 0, .ref (q 17)])), (z 0, .inr (12, [.ref (z 1), .ref (z 2), .int 0, .int 0, .ref (z 3), .ref (z 4), .ref (z 5), .ref (z 6), .int 0, .ref (z 7), .ref (z 8), .ref (z 9), .ref (z 10), .ref (z 11), .ref (z 12), .int 0, .ref (z 13), .ref (z 14), .int 0, .ref (z 15)])), (z 1, .inl (gI g, 461, .inl mD0))] H) (hD : va_D A [(q 0, .inr (11, [.ref (q 1), .ref (q 29), .ref (q 31), .ref (q 34), .ref (q 38), .ref (q 40), .int 0])), (q 1, .inr (4, [.ref (q 2), .ref (q 6), .ref (q 9), .ref (q 18), .ref (q 22), .ref (q 26), .ref (q 28), .int 0, .int 0, .int 36, .int 10])), (q 9, .inr (0, [.int 0, .ref (q 10), .ref (q 11), .ref (q 12), .ref (q 13), .ref (q 14), .ref (q 15), .ref (q 16), .int 0, .int 0, .int 0, .ref (q 17)])), (z 0, .inr (12, [.ref (z 1), .ref (z 2), .int 0, .int 0, .ref (z 3), .ref (z 4), .ref (z 5), .ref (z 6), .int 0, .ref (z 7), .ref (z 8), .ref (z 9), .ref (z 10), .ref (z 11), .ref (z 12), .int 0, .ref (z 13), .ref (z 14), .int 0, .ref (z 15)])), (z 1, .inl (gI g, 461, .inl mD0))]) (hS : va_S A s.heap H locs) (ls : Array Slot) (hl : lv_has ls 4 [(0, .ref b), (1, .ref (q 0)), (2, .ref (z 0)), (3, .int 0)]) : W p l e room_1 s m #[Value.ref b] below meth c H locs 65 9957 (lw_Z below #[Value.ref b] s) (F0 m 391 ls []) := by
  subst hL6
  obtain ⟨hx, hb, hr, hml, hown, -, hX, hbl, hlk, hgv⟩ := id C0
  have hbA : ¬ A b := fun h => absurd (hA2 _ h) (Nat.not_le.mpr hbl)
  have hown : s.vm.findClass RL = some m.cls := hown
  refine lv_aload_n hx hb dL_law_391 rfl (lv_at hl 1 rfl) ?_
  refine lv_aload_n hx hb dL_law_392 rfl (lv_at hl 0 rfl) ?_
  refine lv_iload_n hx hb dL_law_393 rfl (lv_at hl 3 rfl) ?_
  refine lv_iconst (v := 1) hx hb dL_law_394 (by decide) ?_
  refine lv_iadd hx hb dL_law_395 ?_
  refine k_top (y := 1) (by decide) ?_
  refine va_sld hx hb hX hbl hbA hS (show ¬ _ by decide) dL_law_396 ?_
  refine k_top (y := xs 1) rfl ?_
  refine lv_aload_n hx hb dL_law_397 rfl (lv_at hl 0 rfl) ?_
  refine lv_iload_n hx hb dL_law_398 rfl (lv_at hl 3 rfl) ?_
  refine lv_iconst (v := 2) hx hb dL_law_399 (by decide) ?_
  refine lv_iadd hx hb dL_law_400 ?_
  refine k_top (y := 2) (by decide) ?_
  refine va_sld hx hb hX hbl hbA hS (show ¬ _ by decide) dL_law_401 ?_
  refine k_top (y := xs 2) rfl ?_
  refine k_Vi [0, 1, 2] [3, 4] 0 11 (wr := [(z 0, .inr (12, [.ref (z 1), .ref (z 2), .int 0, .int 0, .ref (z 3), .ref (z 4), .ref (z 5), .ref (z 6), .int 0, .ref (z 7), .ref (z 8), .ref (z 9), .ref (z 10), .ref (z 11), .ref (z 12), .int 0, .ref (z 13), .ref (z 14), .int 0, .ref (z 15)])), (z 1, .inl (gI g, 461, .inl mD0))]) hx hb hml hown hts hKW hP hD hS hA hl.1 (c_X11_roomOf l g _ q (xs 1) (xs 2) ) rfl rfl rfl wd_14_22 wd_1_2 wd_14_19 wd_14_20 wd_14_21 yd_X11_roomOf ⟨Nat.le_of_ble_eq_true rfl, Nat.le_of_ble_eq_true rfl⟩ rfl rfl rfl rfl rfl (by decide) rfl (Nat.le_of_ble_eq_true rfl) dL_law_402 ⟨Nat.le_of_ble_eq_true rfl, Nat.le_of_ble_eq_true rfl⟩ (fun r_1 u_2 H locs hw_3 hP hD hS => ?_)
  have hP : va_P g.1 vwCl [(z 0, .inr (12, [.ref (z 1), .ref (z 2), .int 0, .int 0, .ref (z 3), .ref (z 4), .ref (z 5), .ref (z 6), .int 0, .ref (z 7), .ref (z 8), .ref (z 9), .ref (z 10), .ref (z 11), .ref (z 12), .int 0, .ref (z 13), .ref (z 14), .int 0, .ref (z 15)])), (z 1, .inl (gI g, 461, .inl mD0))] H := hP
  have hD : va_D A [(z 0, .inr (12, [.ref (z 1), .ref (z 2), .int 0, .int 0, .ref (z 3), .ref (z 4), .ref (z 5), .ref (z 6), .int 0, .ref (z 7), .ref (z 8), .ref (z 9), .ref (z 10), .ref (z 11), .ref (z 12), .int 0, .ref (z 13), .ref (z 14), .int 0, .ref (z 15)])), (z 1, .inl (gI g, 461, .inl mD0))] := hD
  have hw_3 : r_1 = (-100001) := hw_3
  subst hw_3
  refine lv_aload_n hx hb dL_law_405 rfl (lv_at hl 2 rfl) ?_
  refine lv_aload_n hx hb dL_law_406 rfl (lv_at hl 0 rfl) ?_
  refine lv_iload_n hx hb dL_law_407 rfl (lv_at hl 3 rfl) ?_
  refine lv_iconst (v := 1) hx hb dL_law_408 (by decide) ?_
  refine lv_iadd hx hb dL_law_409 ?_
  refine k_top (y := 1) (by decide) ?_
  refine va_sld hx hb hX hbl hbA hS (show ¬ _ by decide) dL_law_410 ?_
  refine k_top (y := xs 1) rfl ?_
  refine lv_aload_n hx hb dL_law_411 rfl (lv_at hl 0 rfl) ?_
  refine lv_iload_n hx hb dL_law_412 rfl (lv_at hl 3 rfl) ?_
  refine lv_iconst (v := 2) hx hb dL_law_413 (by decide) ?_
  refine lv_iadd hx hb dL_law_414 ?_
  refine k_top (y := 2) (by decide) ?_
  refine va_sld hx hb hX hbl hbA hS (show ¬ _ by decide) dL_law_415 ?_
  refine k_top (y := xs 2) rfl ?_
  refine k_Vi [0, 1] [] 0 12 (wr := []) hx hb hml hown hts hKW hP hD hS hA hl.1 (c_X12_roomOf l g _ z (xs 1) (xs 2) ) rfl rfl rfl wd_15_12 wd_1_5 wd_15_9 wd_15_10 wd_15_11 yd_X12_roomOf ⟨Nat.le_of_ble_eq_true rfl, Nat.le_of_ble_eq_true rfl⟩ rfl rfl rfl rfl rfl (by decide) rfl (Nat.le_of_ble_eq_true rfl) dL_law_416 ⟨Nat.le_of_ble_eq_true rfl, Nat.le_of_ble_eq_true rfl⟩ (fun r_4 u_5 H locs hw_6 hP hD hS => ?_)
  have hP : va_P g.1 vwCl [] H := hP
  have hD : va_D A [] := hD
  have hw_6 : r_4 = (-100001) := hw_6
  subst hw_6
  refine lv_icmp_eq (tgt := 1506) hx hb dL_law_419 (by decide) (fun _ => ?_) (fun c => absurd rfl c)
  exact law_tail l g hA hA2 hKW hts C0 rfl H locs (Nat.le_of_ble_eq_true rfl) (Nat.le_of_ble_eq_true rfl) hS ls (lv_sub hl [0, 3] rfl)
theorem dL_law_424 : decode cL_law 424 = .ok (.aload_n 1, 1) := by decide +kernel
theorem dL_law_425 : decode cL_law 425 = .ok (.aload_n 0, 1) := by decide +kernel
theorem dL_law_426 : decode cL_law 426 = .ok (.iload_n 3, 1) := by decide +kernel
theorem dL_law_427 : decode cL_law 427 = .ok (.iconst 1, 1) := by decide +kernel
theorem dL_law_428 : decode cL_law 428 = .ok (.iadd, 1) := by decide +kernel
theorem dL_law_429 : decode cL_law 429 = .ok (.iaload, 1) := by decide +kernel
theorem dL_law_430 : decode cL_law 430 = .ok (.invokevirtual 40, 3) := by decide +kernel
theorem dL_law_433 : decode cL_law 433 = .ok (.aload_n 2, 1) := by decide +kernel
theorem dL_law_434 : decode cL_law 434 = .ok (.aload_n 0, 1) := by decide +kernel
theorem dL_law_435 : decode cL_law 435 = .ok (.iload_n 3, 1) := by decide +kernel
theorem dL_law_436 : decode cL_law 436 = .ok (.iconst 1, 1) := by decide +kernel
theorem dL_law_437 : decode cL_law 437 = .ok (.iadd, 1) := by decide +kernel
theorem dL_law_438 : decode cL_law 438 = .ok (.iaload, 1) := by decide +kernel
theorem dL_law_439 : decode cL_law 439 = .ok (.invokevirtual 43, 3) := by decide +kernel
theorem dL_law_442 : decode cL_law 442 = .ok (.if_icmp .eq 1064, 3) := by decide +kernel
set_option maxHeartbeats 4000000 in
set_option maxRecDepth 100000 in
theorem law_month {p : Program} {e : Env} {s : State} {m : MethodId} {below : List Frame} {meth : Method} {c : Code} (l : Launch) (g : kG) {A : Nat → Prop} {b L : Nat} {xs : Nat → Int32} (hA : ∀ q : Nat, s.heap.size ≤ q → A q) (hA2 : ∀ q : Nat, A q → s.heap.size ≤ q) (hKW : kKW g s) (hts : ∀ w ∈ wsL_law, w.before #[Value.ref b] s = true) (C0 : lw_At p s m meth c b L xs) (hL6 : L = 6) (q z : Nat → Nat) (H : Heap) (locs : List Loc) (hP : va_P g.1 vwCl [(q 0, .inr (11, [.ref (q 1), .ref (q 29), .ref (q 31), .ref (q 34), .ref (q 38), .ref (q 40), .int 0])), (q 1, .inr (4, [.ref (q 2), .ref (q 6), .ref (q 9), .ref (q 18), .ref (q 22), .ref (q 26), .ref (q 28), .int 0, .int 0, .int 36, .int 10])), (q 2, .inr (8, [.int 0, .ref (q 3), .ref (q 4), .ref (q 5)])), (q 3, .inl (gI g, 5, .inl (fun _ => 0))), (q 4, .inl (gI g, 5, .inl (fun _ => 0))), (q 5, .inl (gI g, 5, .inl (fun _ => 0))), (q 6, .inr (1, [.int 0, .ref (q 7), .ref (q 8), .int 0])), (q 7, .inl (gI g, 7, .inl (fun _ => 0))), (q 8, .inl (gI g, 7, .inl (fun _ => 0))), (q 9, .inr (0, [.int 0, .ref (q 10), .ref (q 11), .ref (q 12), .ref (q 13), .ref (q 14), .ref (q 15), .ref (q 16), .int 0, .int 0, .int 0, .ref (q 17)])), (q 10, .inl (gI g, 10, .inl (fun _ => 0))), (q 11, .inl (gI g, 10, .inl (fun _ => 0))), (q 12, .inl (gI g, 10, .inl (fun _ => 0))), (q 13, .inl (gI g, 10, .inl (fun _ => 0))), (q 14, .inl (gI g, 10, .inl (fun _ => 0))), (q 15, .inl (gI g, 10, .inl (fun _ => 0))), (q 16, .inl (gI g, 10, .inl (fun _ => 0))), (q 17, .inl (gI g, 10, .inl (fun _ => 0))), (q 18, .inr (3, [.int 0, .ref (q 19), .ref (q 20), .ref (q 21)])), (q 19, .inl (gI g, 40, .inl (fun _ => 0))), (q 20, .inl (gI g, 40, .inl (fun _ => 0))), (q 21, .inl (gI g, 40, .inl (fun _ => 0))), (q 22, .inr (3, [.int 0, .ref (q 23), .ref (q 24), .ref (q 25)])), (q 23, .inl (gI g, 40, .inl (fun _ => 0))), (q 24, .inl (gI g, 40, .inl (fun _ => 0))), (q 25, .inl (gI g, 40, .inl (fun _ => 0))), (q 26, .inr (6, [.int 0, .int 0, .ref (q 27)])), (q 27, .inl (gI g, 14, .inl (fun _ => 0))), (q 28, .inl (gI g, 60, .inl (fun _ => 0))), (q 29, .inr (2, [.int 0, .int 0, .ref (q 30)])), (q 30, .inl (gN g, 16, .inr (.inr (.inr (.inr (fun _ => none)))))), (z 0, .inr (12, [.ref (z 1), .ref (z 2), .int 0, .int 0, .ref (z 3), .ref (z 4), .ref (z 5), .ref (z 6), .int 0, .ref (z 7), .ref (z 8), .ref (z 9), .ref (z 10), .ref (z 11), .ref (z 12), .int 0, .ref (z 13), .ref (z 14), .int 0, .ref (z 15)])), (z 1, .inl (gI g, 461, .inl mD0)), (z 2, .inl (gI g, 7376, .inl (fun _ => 0)))] H) (hD : va_D A [(q 0, .inr (11, [.ref (q 1), .ref (q 29), .ref (q 31), .ref (q 34), .ref (q 38), .ref (q 40), .int 0])), (q 1, .inr (4, [.ref (q 2), .ref (q 6), .ref (q 9), .ref (q 18), .ref (q 22), .ref (q 26), .ref (q 28), .int 0, .int 0, .int 36, .int 10])), (q 2, .inr (8, [.int 0, .ref (q 3), .ref (q 4), .ref (q 5)])), (q 3, .inl (gI g, 5, .inl (fun _ => 0))), (q 4, .inl (gI g, 5, .inl (fun _ => 0))), (q 5, .inl (gI g, 5, .inl (fun _ => 0))), (q 6, .inr (1, [.int 0, .ref (q 7), .ref (q 8), .int 0])), (q 7, .inl (gI g, 7, .inl (fun _ => 0))), (q 8, .inl (gI g, 7, .inl (fun _ => 0))), (q 9, .inr (0, [.int 0, .ref (q 10), .ref (q 11), .ref (q 12), .ref (q 13), .ref (q 14), .ref (q 15), .ref (q 16), .int 0, .int 0, .int 0, .ref (q 17)])), (q 10, .inl (gI g, 10, .inl (fun _ => 0))), (q 11, .inl (gI g, 10, .inl (fun _ => 0))), (q 12, .inl (gI g, 10, .inl (fun _ => 0))), (q 13, .inl (gI g, 10, .inl (fun _ => 0))), (q 14, .inl (gI g, 10, .inl (fun _ => 0))), (q 15, .inl (gI g, 10, .inl (fun _ => 0))), (q 16, .inl (gI g, 10, .inl (fun _ => 0))), (q 17, .inl (gI g, 10, .inl (fun _ => 0))), (q 18, .inr (3, [.int 0, .ref (q 19), .ref (q 20), .ref (q 21)])), (q 19, .inl (gI g, 40, .inl (fun _ => 0))), (q 20, .inl (gI g, 40, .inl (fun _ => 0))), (q 21, .inl (gI g, 40, .inl (fun _ => 0))), (q 22, .inr (3, [.int 0, .ref (q 23), .ref (q 24), .ref (q 25)])), (q 23, .inl (gI g, 40, .inl (fun _ => 0))), (q 24, .inl (gI g, 40, .inl (fun _ => 0))), (q 25, .inl (gI g, 40, .inl (fun _ => 0))), (q 26, .inr (6, [.int 0, .int 0, .ref (q 27)])), (q 27, .inl (gI g, 14, .inl (fun _ => 0))), (q 28, .inl (gI g, 60, .inl (fun _ => 0))), (q 29, .inr (2, [.int 0, .int 0, .ref (q 30)])), (q 30, .inl (gN g, 16, .inr (.inr (.inr (.inr (fun _ => none)))))), (z 0, .inr (12, [.ref (z 1), .ref (z 2), .int 0, .int 0, .ref (z 3), .ref (z 4), .ref (z 5), .ref (z 6), .int 0, .ref (z 7), .ref (z 8), .ref (z 9), .ref (z 10), .ref (z 11), .ref (z 12), .int 0, .ref (z 13), .ref (z 14), .int 0, .ref (z 15)])), (z 1, .inl (gI g, 461, .inl mD0)), (z 2, .inl (gI g, 7376, .inl (fun _ => 0)))]) (hS : va_S A s.heap H locs) (ls : Array Slot) (hl : lv_has ls 4 [(0, .ref b), (1, .ref (q 0)), (2, .ref (z 0)), (3, .int 0)]) : W p l e room_1 s m #[Value.ref b] below meth c H locs 65 9957 (lw_Z below #[Value.ref b] s) (F0 m 424 ls []) := by
  subst hL6
  obtain ⟨hx, hb, hr, hml, hown, -, hX, hbl, hlk, hgv⟩ := id C0
  have hbA : ¬ A b := fun h => absurd (hA2 _ h) (Nat.not_le.mpr hbl)
  have hown : s.vm.findClass RL = some m.cls := hown
  refine lv_aload_n hx hb dL_law_424 rfl (lv_at hl 1 rfl) ?_
  refine lv_aload_n hx hb dL_law_425 rfl (lv_at hl 0 rfl) ?_
  refine lv_iload_n hx hb dL_law_426 rfl (lv_at hl 3 rfl) ?_
  refine lv_iconst (v := 1) hx hb dL_law_427 (by decide) ?_
  refine lv_iadd hx hb dL_law_428 ?_
  refine k_top (y := 1) (by decide) ?_
  refine va_sld hx hb hX hbl hbA hS (show ¬ _ by decide) dL_law_429 ?_
  refine k_top (y := xs 1) rfl ?_
  refine k_Vi [0, 1, 2, 3, 4, 5, 6, 7, 8, 9, 10, 11, 12, 13, 14, 15, 16, 17, 18, 19, 20, 21, 22, 23, 24, 25, 26, 27, 28, 29, 30] [31, 32, 33] 0 11 (wr := [(z 0, .inr (12, [.ref (z 1), .ref (z 2), .int 0, .int 0, .ref (z 3), .ref (z 4), .ref (z 5), .ref (z 6), .int 0, .ref (z 7), .ref (z 8), .ref (z 9), .ref (z 10), .ref (z 11), .ref (z 12), .int 0, .ref (z 13), .ref (z 14), .int 0, .ref (z 15)])), (z 1, .inl (gI g, 461, .inl mD0)), (z 2, .inl (gI g, 7376, .inl (fun _ => 0)))]) hx hb hml hown hts hKW hP hD hS hA hl.1 (c_X11_month l g _ q (xs 1) ) rfl rfl rfl wd_16_3 wd_1_2 wd_16_0 wd_16_1 wd_16_2 yd_X11_month ⟨Nat.le_of_ble_eq_true rfl, Nat.le_of_ble_eq_true rfl⟩ rfl rfl rfl rfl rfl (by decide) rfl (Nat.le_of_ble_eq_true rfl) dL_law_430 ⟨Nat.le_of_ble_eq_true rfl, Nat.le_of_ble_eq_true rfl⟩ (fun r_1 u_2 H locs hw_3 hP hD hS => ?_)
  have hP : va_P g.1 vwCl [(z 0, .inr (12, [.ref (z 1), .ref (z 2), .int 0, .int 0, .ref (z 3), .ref (z 4), .ref (z 5), .ref (z 6), .int 0, .ref (z 7), .ref (z 8), .ref (z 9), .ref (z 10), .ref (z 11), .ref (z 12), .int 0, .ref (z 13), .ref (z 14), .int 0, .ref (z 15)])), (z 1, .inl (gI g, 461, .inl mD0)), (z 2, .inl (gI g, 7376, .inl (fun _ => 0)))] H := hP
  have hD : va_D A [(z 0, .inr (12, [.ref (z 1), .ref (z 2), .int 0, .int 0, .ref (z 3), .ref (z 4), .ref (z 5), .ref (z 6), .int 0, .ref (z 7), .ref (z 8), .ref (z 9), .ref (z 10), .ref (z 11), .ref (z 12), .int 0, .ref (z 13), .ref (z 14), .int 0, .ref (z 15)])), (z 1, .inl (gI g, 461, .inl mD0)), (z 2, .inl (gI g, 7376, .inl (fun _ => 0)))] := hD
  refine W.widen (k := 93) (n := 10422) (Nat.le_of_ble_eq_true rfl) (Nat.le_of_ble_eq_true rfl) ?_
  have hw_3 : r_1 = aR 0 60 0 (xs 1) := hw_3
  subst hw_3
  refine lv_aload_n hx hb dL_law_433 rfl (lv_at hl 2 rfl) ?_
  refine lv_aload_n hx hb dL_law_434 rfl (lv_at hl 0 rfl) ?_
  refine lv_iload_n hx hb dL_law_435 rfl (lv_at hl 3 rfl) ?_
  refine lv_iconst (v := 1) hx hb dL_law_436 (by decide) ?_
  refine lv_iadd hx hb dL_law_437 ?_
  refine k_top (y := 1) (by decide) ?_
  refine va_sld hx hb hX hbl hbA hS (show ¬ _ by decide) dL_law_438 ?_
  refine k_top (y := xs 1) rfl ?_
  refine k_Vi [0, 1, 2] [] 0 12 (wr := []) hx hb hml hown hts hKW hP hD hS hA hl.1 (c_X12_month l g _ z (xs 1) ) rfl rfl rfl wd_16_8 wd_1_5 wd_16_5 wd_16_6 wd_16_7 yd_X12_month ⟨Nat.le_of_ble_eq_true rfl, Nat.le_of_ble_eq_true rfl⟩ rfl rfl rfl rfl rfl (by decide) rfl (Nat.le_of_ble_eq_true rfl) dL_law_439 ⟨Nat.le_of_ble_eq_true rfl, Nat.le_of_ble_eq_true rfl⟩ (fun r_4 u_5 H locs hw_6 hP hD hS => ?_)
  have hP : va_P g.1 vwCl [] H := hP
  have hD : va_D A [] := hD
  have hw_6 : r_4 = aR 0 60 0 (xs 1) := hw_6
  subst hw_6
  refine lv_icmp_eq (tgt := 1506) hx hb dL_law_442 (by decide) (fun _ => ?_) (fun c => absurd rfl c)
  exact law_tail l g hA hA2 hKW hts C0 rfl H locs (Nat.le_of_ble_eq_true rfl) (Nat.le_of_ble_eq_true rfl) hS ls (lv_sub hl [0, 3] rfl)
