theorem k_pos0 {y : Int32} (h : 0 < y) : ¬ y = 0 := by
  intro e
  rw [e] at h
  exact absurd h (by decide)
theorem dX12_goes_0 : decode cX12_goes 0 = .ok (.iload_n 1, 1) := by decide +kernel
theorem dX12_goes_1 : decode cX12_goes 1 = .ok (.bipush 50, 2) := by decide +kernel
theorem dX12_goes_3 : decode cX12_goes 3 = .ok (.if_icmp .ge 53, 3) := by decide +kernel
theorem dX12_goes_56 : decode cX12_goes 56 = .ok (.aload_n 0, 1) := by decide +kernel
theorem dX12_goes_57 : decode cX12_goes 57 = .ok (.getfield 116, 3) := by decide +kernel
theorem dX12_goes_60 : decode cX12_goes 60 = .ok (.iconst 2, 1) := by decide +kernel
theorem dX12_goes_61 : decode cX12_goes 61 = .ok (.if_icmp .ge 5, 3) := by decide +kernel
theorem dX12_goes_66 : decode cX12_goes 66 = .ok (.aload_n 0, 1) := by decide +kernel
theorem dX12_goes_67 : decode cX12_goes 67 = .ok (.getfield 25, 3) := by decide +kernel
theorem dX12_goes_70 : decode cX12_goes 70 = .ok (.aload_n 0, 1) := by decide +kernel
theorem dX12_goes_71 : decode cX12_goes 71 = .ok (.getfield 116, 3) := by decide +kernel
theorem dX12_goes_74 : decode cX12_goes 74 = .ok (.iconst 2, 1) := by decide +kernel
theorem dX12_goes_75 : decode cX12_goes 75 = .ok (.isub, 1) := by decide +kernel
theorem dX12_goes_76 : decode cX12_goes 76 = .ok (.iaload, 1) := by decide +kernel
theorem dX12_goes_77 : decode cX12_goes 77 = .ok (.istore_n 2, 1) := by decide +kernel
theorem dX12_goes_78 : decode cX12_goes 78 = .ok (.aload_n 0, 1) := by decide +kernel
theorem dX12_goes_79 : decode cX12_goes 79 = .ok (.getfield 25, 3) := by decide +kernel
theorem dX12_goes_82 : decode cX12_goes 82 = .ok (.aload_n 0, 1) := by decide +kernel
theorem dX12_goes_83 : decode cX12_goes 83 = .ok (.getfield 116, 3) := by decide +kernel
theorem dX12_goes_86 : decode cX12_goes 86 = .ok (.iconst 1, 1) := by decide +kernel
theorem dX12_goes_87 : decode cX12_goes 87 = .ok (.isub, 1) := by decide +kernel
theorem dX12_goes_88 : decode cX12_goes 88 = .ok (.iaload, 1) := by decide +kernel
theorem dX12_goes_89 : decode cX12_goes 89 = .ok (.istore_n 3, 1) := by decide +kernel
theorem dX12_goes_90 : decode cX12_goes 90 = .ok (.aload_n 0, 1) := by decide +kernel
theorem dX12_goes_91 : decode cX12_goes 91 = .ok (.dup, 1) := by decide +kernel
theorem dX12_goes_92 : decode cX12_goes 92 = .ok (.getfield 116, 3) := by decide +kernel
theorem dX12_goes_95 : decode cX12_goes 95 = .ok (.iconst 1, 1) := by decide +kernel
theorem dX12_goes_96 : decode cX12_goes 96 = .ok (.isub, 1) := by decide +kernel
theorem dX12_goes_97 : decode cX12_goes 97 = .ok (.putfield 116, 3) := by decide +kernel
theorem dX12_goes_100 : decode cX12_goes 100 = .ok (.iconst 0, 1) := by decide +kernel
theorem dX12_goes_101 : decode cX12_goes 101 = .ok (.istore 4, 2) := by decide +kernel
theorem dX12_goes_103 : decode cX12_goes 103 = .ok (.iload_n 1, 1) := by decide +kernel
theorem dX12_goes_104 : decode cX12_goes 104 = .ok (.tableswitch 88 50 53 #[32, 40, 48, 56], 32) := by decide +kernel
theorem dX12_goes_192 : decode cX12_goes 192 = .ok (.iload_n 2, 1) := by decide +kernel
theorem dX12_goes_193 : decode cX12_goes 193 = .ok (.iload_n 3, 1) := by decide +kernel
theorem dX12_goes_194 : decode cX12_goes 194 = .ok (.if_icmp .le 7, 3) := by decide +kernel
theorem dX12_goes_201 : decode cX12_goes 201 = .ok (.iload_n 3, 1) := by decide +kernel
theorem dX12_goes_202 : decode cX12_goes 202 = .ok (.istore 4, 2) := by decide +kernel
theorem dX12_goes_204 : decode cX12_goes 204 = .ok (.aload_n 0, 1) := by decide +kernel
theorem dX12_goes_205 : decode cX12_goes 205 = .ok (.getfield 25, 3) := by decide +kernel
theorem dX12_goes_208 : decode cX12_goes 208 = .ok (.aload_n 0, 1) := by decide +kernel
theorem dX12_goes_209 : decode cX12_goes 209 = .ok (.getfield 116, 3) := by decide +kernel
theorem dX12_goes_212 : decode cX12_goes 212 = .ok (.iconst 1, 1) := by decide +kernel
theorem dX12_goes_213 : decode cX12_goes 213 = .ok (.isub, 1) := by decide +kernel
theorem dX12_goes_214 : decode cX12_goes 214 = .ok (.iload 4, 2) := by decide +kernel
theorem dX12_goes_216 : decode cX12_goes 216 = .ok (.iastore, 1) := by decide +kernel
theorem dX12_goes_217 : decode cX12_goes 217 = .ok (.iconst 1, 1) := by decide +kernel
theorem dX12_goes_218 : decode cX12_goes 218 = .ok (.ireturn, 1) := by decide +kernel
theorem dX12_goes_197 : decode cX12_goes 197 = .ok (.iload_n 2, 1) := by decide +kernel
theorem dX12_goes_198 : decode cX12_goes 198 = .ok (.goto 4, 3) := by decide +kernel
theorem dX12_goes_136 : decode cX12_goes 136 = .ok (.iload_n 2, 1) := by decide +kernel
theorem dX12_goes_137 : decode cX12_goes 137 = .ok (.iload_n 3, 1) := by decide +kernel
theorem dX12_goes_138 : decode cX12_goes 138 = .ok (.iadd, 1) := by decide +kernel
theorem dX12_goes_139 : decode cX12_goes 139 = .ok (.istore 4, 2) := by decide +kernel
theorem dX12_goes_141 : decode cX12_goes 141 = .ok (.goto 63, 3) := by decide +kernel
theorem dX12_goes_144 : decode cX12_goes 144 = .ok (.iload_n 2, 1) := by decide +kernel
theorem dX12_goes_145 : decode cX12_goes 145 = .ok (.iload_n 3, 1) := by decide +kernel
theorem dX12_goes_146 : decode cX12_goes 146 = .ok (.isub, 1) := by decide +kernel
theorem dX12_goes_147 : decode cX12_goes 147 = .ok (.istore 4, 2) := by decide +kernel
theorem dX12_goes_149 : decode cX12_goes 149 = .ok (.goto 55, 3) := by decide +kernel
theorem dX12_goes_152 : decode cX12_goes 152 = .ok (.iload_n 2, 1) := by decide +kernel
theorem dX12_goes_153 : decode cX12_goes 153 = .ok (.iload_n 3, 1) := by decide +kernel
theorem dX12_goes_154 : decode cX12_goes 154 = .ok (.imul, 1) := by decide +kernel
theorem dX12_goes_155 : decode cX12_goes 155 = .ok (.istore 4, 2) := by decide +kernel
theorem dX12_goes_157 : decode cX12_goes 157 = .ok (.goto 47, 3) := by decide +kernel
theorem dX12_goes_160 : decode cX12_goes 160 = .ok (.iload_n 3, 1) := by decide +kernel
theorem dX12_goes_161 : decode cX12_goes 161 = .ok (.ifCond .gt 7, 3) := by decide +kernel
theorem dX12_goes_168 : decode cX12_goes 168 = .ok (.iload_n 2, 1) := by decide +kernel
theorem dX12_goes_169 : decode cX12_goes 169 = .ok (.iload_n 3, 1) := by decide +kernel
theorem dX12_goes_170 : decode cX12_goes 170 = .ok (.idiv, 1) := by decide +kernel
theorem dX12_goes_171 : decode cX12_goes 171 = .ok (.iload_n 2, 1) := by decide +kernel
theorem dX12_goes_172 : decode cX12_goes 172 = .ok (.ifCond .le 13, 3) := by decide +kernel
theorem dX12_goes_185 : decode cX12_goes 185 = .ok (.iconst 0, 1) := by decide +kernel
theorem dX12_goes_186 : decode cX12_goes 186 = .ok (.iadd, 1) := by decide +kernel
theorem dX12_goes_187 : decode cX12_goes 187 = .ok (.istore 4, 2) := by decide +kernel
theorem dX12_goes_189 : decode cX12_goes 189 = .ok (.goto 15, 3) := by decide +kernel
theorem dX12_goes_175 : decode cX12_goes 175 = .ok (.iload_n 2, 1) := by decide +kernel
theorem dX12_goes_176 : decode cX12_goes 176 = .ok (.iload_n 3, 1) := by decide +kernel
theorem dX12_goes_177 : decode cX12_goes 177 = .ok (.irem, 1) := by decide +kernel
theorem dX12_goes_178 : decode cX12_goes 178 = .ok (.ifCond .eq 7, 3) := by decide +kernel
theorem dX12_goes_181 : decode cX12_goes 181 = .ok (.iconst 1, 1) := by decide +kernel
theorem dX12_goes_182 : decode cX12_goes 182 = .ok (.goto 4, 3) := by decide +kernel
theorem dX12_goes_164 : decode cX12_goes 164 = .ok (.iconst 0, 1) := by decide +kernel
theorem dX12_goes_165 : decode cX12_goes 165 = .ok (.goto 22, 3) := by decide +kernel
theorem dX12_goes_64 : decode cX12_goes 64 = .ok (.iconst 0, 1) := by decide +kernel
theorem dX12_goes_65 : decode cX12_goes 65 = .ok (.ireturn, 1) := by decide +kernel
theorem dX12_goes_6 : decode cX12_goes 6 = .ok (.aload_n 0, 1) := by decide +kernel
theorem dX12_goes_7 : decode cX12_goes 7 = .ok (.getfield 116, 3) := by decide +kernel
theorem dX12_goes_10 : decode cX12_goes 10 = .ok (.iconst 5, 1) := by decide +kernel
theorem dX12_goes_11 : decode cX12_goes 11 = .ok (.if_icmp .ne 5, 3) := by decide +kernel
theorem dX12_goes_16 : decode cX12_goes 16 = .ok (.aload_n 0, 1) := by decide +kernel
theorem dX12_goes_17 : decode cX12_goes 17 = .ok (.getfield 25, 3) := by decide +kernel
theorem dX12_goes_20 : decode cX12_goes 20 = .ok (.aload_n 0, 1) := by decide +kernel
theorem dX12_goes_21 : decode cX12_goes 21 = .ok (.getfield 116, 3) := by decide +kernel
theorem dX12_goes_24 : decode cX12_goes 24 = .ok (.iload_n 1, 1) := by decide +kernel
theorem dX12_goes_25 : decode cX12_goes 25 = .ok (.bipush 10, 2) := by decide +kernel
theorem dX12_goes_27 : decode cX12_goes 27 = .ok (.if_icmp .ge 12, 3) := by decide +kernel
theorem dX12_goes_39 : decode cX12_goes 39 = .ok (.iload_n 1, 1) := by decide +kernel
theorem dX12_goes_40 : decode cX12_goes 40 = .ok (.bipush 10, 2) := by decide +kernel
theorem dX12_goes_42 : decode cX12_goes 42 = .ok (.isub, 1) := by decide +kernel
theorem dX12_goes_43 : decode cX12_goes 43 = .ok (.iastore, 1) := by decide +kernel
theorem dX12_goes_44 : decode cX12_goes 44 = .ok (.aload_n 0, 1) := by decide +kernel
theorem dX12_goes_45 : decode cX12_goes 45 = .ok (.dup, 1) := by decide +kernel
theorem dX12_goes_46 : decode cX12_goes 46 = .ok (.getfield 116, 3) := by decide +kernel
theorem dX12_goes_49 : decode cX12_goes 49 = .ok (.iconst 1, 1) := by decide +kernel
theorem dX12_goes_50 : decode cX12_goes 50 = .ok (.iadd, 1) := by decide +kernel
theorem dX12_goes_51 : decode cX12_goes 51 = .ok (.putfield 116, 3) := by decide +kernel
theorem dX12_goes_54 : decode cX12_goes 54 = .ok (.iconst 1, 1) := by decide +kernel
theorem dX12_goes_55 : decode cX12_goes 55 = .ok (.ireturn, 1) := by decide +kernel
theorem dX12_goes_30 : decode cX12_goes 30 = .ok (.aload_n 0, 1) := by decide +kernel
theorem dX12_goes_31 : decode cX12_goes 31 = .ok (.getfield 28, 3) := by decide +kernel
theorem dX12_goes_34 : decode cX12_goes 34 = .ok (.iload_n 1, 1) := by decide +kernel
theorem dX12_goes_35 : decode cX12_goes 35 = .ok (.iaload, 1) := by decide +kernel
theorem dX12_goes_36 : decode cX12_goes 36 = .ok (.goto 7, 3) := by decide +kernel
theorem dX12_goes_14 : decode cX12_goes 14 = .ok (.iconst 0, 1) := by decide +kernel
theorem dX12_goes_15 : decode cX12_goes 15 = .ok (.ireturn, 1) := by decide +kernel
set_option maxHeartbeats 8000000 in
set_option maxRecDepth 100000 in
theorem c_X12_goes (l : Launch) (g : kG) (sz : Nat) (z : Nat → Nat) (kp : Nat) (xs : Nat → Int32) (pn : Nat) (pf : Nat → Int32) (cf : Nat → Int32) (x : Int32) (hpn : pn ≤ 5) (hxs : kRg 0 6 x ∨ kRg 10 54 x) : kMi l g yX12_goes cX12_goes 5 (some .boolean) 1 0 0 [.ref (z 0), .int x] sz [(z 0, .inr (12, [.ref (z 1), .ref (z 2), .int (nI kp), .int (xs 0), .ref (z 3), .ref (z 4), .ref (z 5), .ref (z 6), .int (nI pn), .ref (z 7), .ref (z 8), .ref (z 9), .ref (z 10), .ref (z 11), .ref (z 12), .int (xs 2), .ref (z 13), .ref (z 14), .int (xs 3), .ref (z 15)])), (z 6, .inl (gI g, 5, .inl pf)), (z 7, .inl (gI g, 7, .inl cf))] (fun (r : Int32) (u : Nat × (Nat → Int32)) => (r = 1 ∨ r = 0) ∧ (u.1 ≤ 5)) (fun (u : Nat × (Nat → Int32)) => ([(z 0, .inr (12, [.ref (z 1), .ref (z 2), .int (nI kp), .int (xs 0), .ref (z 3), .ref (z 4), .ref (z 5), .ref (z 6), .int (nI u.1), .ref (z 7), .ref (z 8), .ref (z 9), .ref (z 10), .ref (z 11), .ref (z 12), .int (xs 2), .ref (z 13), .ref (z 14), .int (xs 3), .ref (z 15)])), (z 6, .inl (gI g, 5, .inl u.2)), (z 7, .inl (gI g, 7, .inl cf))] : va_W)) := by
  refine kMi.of (by decide) (Nat.le_of_ble_eq_true rfl) (fun p e s m below meth c A hx hb hr hml hown hts hlk hnm hKW hP hD hS hA ls hl => ?_)
  have hown : s.vm.findClass RX12 = some m.cls := hown
  have hl : lv_has ls 5 [(0, .ref (z 0)), (1, .int x)] := hl
  refine k_hide hP hS (fun H locs hP hS => ?_)
  refine lv_iload_n hx hb dX12_goes_0 rfl (lv_at hl 1 rfl) ?_
  refine lv_bipush (v := 50) hx hb dX12_goes_1 (by decide) ?_
  refine lv_icmp_ge (tgt := 56) hx hb dX12_goes_3 (by decide) (fun c_1 => ?_) (fun c_1 => ?_)
  · refine lv_aload_n hx hb dX12_goes_56 rfl (lv_at hl 0 rfl) ?_
    refine va_get (ci := 12) (C := RX12) (T := TX12) (N := 20) hx hb hts inlX12 hown hKW.1 hP 0 rfl rfl 8 (by decide) (hts _ wd_27_11) (fun _ h => h) rfl dX12_goes_57 ?_
    refine lv_iconst (v := 2) hx hb dX12_goes_60 (by decide) ?_
    refine lv_icmp_ge (tgt := 66) hx hb dX12_goes_61 (by decide) (fun c_2 => ?_) (fun c_2 => ?_)
    · have c_2n : 2 ≤ pn := (k_leI (a := 2) (b := pn) (by omega) (by omega)).mp c_2
      refine lv_aload_n hx hb dX12_goes_66 rfl (lv_at hl 0 rfl) ?_
      refine va_get (ci := 12) (C := RX12) (T := TX12) (N := 20) hx hb hts inlX12 hown hKW.1 hP 0 rfl rfl 7 (by decide) (hts _ wd_6_10) (fun _ h => h) rfl dX12_goes_67 ?_
      refine lv_aload_n hx hb dX12_goes_70 rfl (lv_at hl 0 rfl) ?_
      refine va_get (ci := 12) (C := RX12) (T := TX12) (N := 20) hx hb hts inlX12 hown hKW.1 hP 0 rfl rfl 8 (by decide) (hts _ wd_27_11) (fun _ h => h) rfl dX12_goes_71 ?_
      refine lv_iconst (v := 2) hx hb dX12_goes_74 (by decide) ?_
      refine lv_isub hx hb dX12_goes_75 ?_
      refine k_top (y := nI (pn - 2)) (k_sub (b := 2) (by omega)) ?_
      refine va_iald hx hb hKW.1 hP 1 0 rfl rfl (vp_in_nI (by omega) (by decide)) dX12_goes_76 ?_
      refine lv_topi (fun x_3 ex_3 => ?_)
      refine lv_istore_n (lv' := [(2, .int x_3), (0, .ref (z 0)), (1, .int x)]) hx hb dX12_goes_77 rfl hl (by decide) rfl (fun ls hl => ?_)
      refine lv_aload_n hx hb dX12_goes_78 rfl (lv_at hl 1 rfl) ?_
      refine va_get (ci := 12) (C := RX12) (T := TX12) (N := 20) hx hb hts inlX12 hown hKW.1 hP 0 rfl rfl 7 (by decide) (hts _ wd_6_10) (fun _ h => h) rfl dX12_goes_79 ?_
      refine lv_aload_n hx hb dX12_goes_82 rfl (lv_at hl 1 rfl) ?_
      refine va_get (ci := 12) (C := RX12) (T := TX12) (N := 20) hx hb hts inlX12 hown hKW.1 hP 0 rfl rfl 8 (by decide) (hts _ wd_27_11) (fun _ h => h) rfl dX12_goes_83 ?_
      refine lv_iconst (v := 1) hx hb dX12_goes_86 (by decide) ?_
      refine lv_isub hx hb dX12_goes_87 ?_
      refine k_top (y := nI (pn - 1)) (k_sub (b := 1) (by omega)) ?_
      refine va_iald hx hb hKW.1 hP 1 0 rfl rfl (vp_in_nI (by omega) (by decide)) dX12_goes_88 ?_
      refine lv_topi (fun x_4 ex_4 => ?_)
      refine lv_istore_n (lv' := [(3, .int x_4), (2, .int x_3), (0, .ref (z 0)), (1, .int x)]) hx hb dX12_goes_89 rfl hl (by decide) rfl (fun ls hl => ?_)
      refine lv_aload_n hx hb dX12_goes_90 rfl (lv_at hl 2 rfl) ?_
      refine lv_dup hx hb dX12_goes_91 rfl ?_
      refine va_get (ci := 12) (C := RX12) (T := TX12) (N := 20) hx hb hts inlX12 hown hKW.1 hP 0 rfl rfl 8 (by decide) (hts _ wd_27_11) (fun _ h => h) rfl dX12_goes_92 ?_
      refine lv_iconst (v := 1) hx hb dX12_goes_95 (by decide) ?_
      refine lv_isub hx hb dX12_goes_96 ?_
      refine k_top (y := nI (pn - 1)) (k_sub (b := 1) (by omega)) ?_
      refine va_put (ci := 12) (v := .int (nI (pn - 1))) (C := RX12) (T := TX12) (N := 20) hx hb hts inlX12 tyX12 tyX12_ok nmX12 hown hKW.1 hP hD hS 0 rfl rfl 8 (by decide) (hts _ wd_27_11) (fun _ h => h) rfl (tyX12_ok 8 (by decide)) rfl rfl (Nat.le_of_ble_eq_true rfl) dX12_goes_97 (fun H locs hP hD hS => ?_)
      have hP : va_P g.1 vwCl [(z 0, .inr (12, [.ref (z 1), .ref (z 2), .int (nI kp), .int (xs 0), .ref (z 3), .ref (z 4), .ref (z 5), .ref (z 6), .int (nI (pn - 1)), .ref (z 7), .ref (z 8), .ref (z 9), .ref (z 10), .ref (z 11), .ref (z 12), .int (xs 2), .ref (z 13), .ref (z 14), .int (xs 3), .ref (z 15)])), (z 6, .inl (gI g, 5, .inl pf)), (z 7, .inl (gI g, 7, .inl cf))] H := hP
      have hD : va_D A [(z 0, .inr (12, [.ref (z 1), .ref (z 2), .int (nI kp), .int (xs 0), .ref (z 3), .ref (z 4), .ref (z 5), .ref (z 6), .int (nI (pn - 1)), .ref (z 7), .ref (z 8), .ref (z 9), .ref (z 10), .ref (z 11), .ref (z 12), .int (xs 2), .ref (z 13), .ref (z 14), .int (xs 3), .ref (z 15)])), (z 6, .inl (gI g, 5, .inl pf)), (z 7, .inl (gI g, 7, .inl cf))] := hD
      refine lv_iconst (v := 0) hx hb dX12_goes_100 (by decide) ?_
      refine lv_istore (lv' := [(4, .int 0), (3, .int x_4), (2, .int x_3), (0, .ref (z 0)), (1, .int x)]) hx hb dX12_goes_101 hl (by decide) rfl (fun ls hl => ?_)
      refine lv_iload_n hx hb dX12_goes_103 rfl (lv_at hl 4 rfl) ?_
      by_cases c_5 : Int32.toInt x < 50 ∨ 53 < Int32.toInt x
      · refine lv_tableOut (tgt := 192) hx hb dX12_goes_104 c_5 (by decide) ?_
        refine lv_iload_n hx hb dX12_goes_192 rfl (lv_at hl 2 rfl) ?_
        refine lv_iload_n hx hb dX12_goes_193 rfl (lv_at hl 1 rfl) ?_
        refine lv_icmp_le (tgt := 201) hx hb dX12_goes_194 (by decide) (fun c_6 => ?_) (fun c_6 => ?_)
        · refine lv_iload_n hx hb dX12_goes_201 rfl (lv_at hl 1 rfl) ?_
          refine lv_istore (lv' := [(4, .int x_4), (3, .int x_4), (2, .int x_3), (0, .ref (z 0)), (1, .int x)]) hx hb dX12_goes_202 hl (by decide) rfl (fun ls hl => ?_)
          refine lv_aload_n hx hb dX12_goes_204 rfl (lv_at hl 3 rfl) ?_
          refine va_get (ci := 12) (C := RX12) (T := TX12) (N := 20) hx hb hts inlX12 hown hKW.1 hP 0 rfl rfl 7 (by decide) (hts _ wd_6_10) (fun _ h => h) rfl dX12_goes_205 ?_
          refine lv_aload_n hx hb dX12_goes_208 rfl (lv_at hl 3 rfl) ?_
          refine va_get (ci := 12) (C := RX12) (T := TX12) (N := 20) hx hb hts inlX12 hown hKW.1 hP 0 rfl rfl 8 (by decide) (hts _ wd_27_11) (fun _ h => h) rfl dX12_goes_209 ?_
          refine lv_iconst (v := 1) hx hb dX12_goes_212 (by decide) ?_
          refine lv_isub hx hb dX12_goes_213 ?_
          refine k_top (y := nI (pn - 1 - 1)) (k_sub (b := 1) (by omega)) ?_
          refine lv_iload hx hb dX12_goes_214 (lv_at hl 0 rfl) ?_
          refine va_iast hx hb hKW.1 hP hD hS 1 0 rfl rfl (vp_in_nI (by omega) (by decide)) dX12_goes_216 (fun H locs hP hD hS => ?_)
          have hP : va_P g.1 vwCl [(z 0, .inr (12, [.ref (z 1), .ref (z 2), .int (nI kp), .int (xs 0), .ref (z 3), .ref (z 4), .ref (z 5), .ref (z 6), .int (nI (pn - 1)), .ref (z 7), .ref (z 8), .ref (z 9), .ref (z 10), .ref (z 11), .ref (z 12), .int (xs 2), .ref (z 13), .ref (z 14), .int (xs 3), .ref (z 15)])), (z 6, .inl (gI g, 5, .inl (upd pf (nI (pn - 1 - 1)).toNatClampNeg x_4))), (z 7, .inl (gI g, 7, .inl cf))] H := hP
          have hD : va_D A [(z 0, .inr (12, [.ref (z 1), .ref (z 2), .int (nI kp), .int (xs 0), .ref (z 3), .ref (z 4), .ref (z 5), .ref (z 6), .int (nI (pn - 1)), .ref (z 7), .ref (z 8), .ref (z 9), .ref (z 10), .ref (z 11), .ref (z 12), .int (xs 2), .ref (z 13), .ref (z 14), .int (xs 3), .ref (z 15)])), (z 6, .inl (gI g, 5, .inl (upd pf (nI (pn - 1 - 1)).toNatClampNeg x_4))), (z 7, .inl (gI g, 7, .inl cf))] := hD
          obtain ⟨f_7, ef_7⟩ : ∃ zz_ : Nat → Int32, zz_ = upd pf (nI (pn - 1 - 1)).toNatClampNeg x_4 := ⟨_, rfl⟩
          rw [← ef_7] at hP hD
          refine lv_iconst (v := 1) hx hb dX12_goes_217 (by decide) ?_
          exact k_zret ((pn - 1), f_7) [0, 1, 2] hx hb hr hlk hP hD hS (⟨Or.inl rfl, (show (pn - 1) ≤ 5 by omega)⟩) rfl rfl rfl rfl (Nat.le_of_ble_eq_true rfl) (Nat.le_of_ble_eq_true rfl) dX12_goes_218
        · refine lv_iload_n hx hb dX12_goes_197 rfl (lv_at hl 2 rfl) ?_
          refine lv_goto (tgt := 202) hx hb dX12_goes_198 (by decide) ?_
          refine lv_istore (lv' := [(4, .int x_3), (3, .int x_4), (2, .int x_3), (0, .ref (z 0)), (1, .int x)]) hx hb dX12_goes_202 hl (by decide) rfl (fun ls hl => ?_)
          refine lv_aload_n hx hb dX12_goes_204 rfl (lv_at hl 3 rfl) ?_
          refine va_get (ci := 12) (C := RX12) (T := TX12) (N := 20) hx hb hts inlX12 hown hKW.1 hP 0 rfl rfl 7 (by decide) (hts _ wd_6_10) (fun _ h => h) rfl dX12_goes_205 ?_
          refine lv_aload_n hx hb dX12_goes_208 rfl (lv_at hl 3 rfl) ?_
          refine va_get (ci := 12) (C := RX12) (T := TX12) (N := 20) hx hb hts inlX12 hown hKW.1 hP 0 rfl rfl 8 (by decide) (hts _ wd_27_11) (fun _ h => h) rfl dX12_goes_209 ?_
          refine lv_iconst (v := 1) hx hb dX12_goes_212 (by decide) ?_
          refine lv_isub hx hb dX12_goes_213 ?_
          refine k_top (y := nI (pn - 1 - 1)) (k_sub (b := 1) (by omega)) ?_
          refine lv_iload hx hb dX12_goes_214 (lv_at hl 0 rfl) ?_
          refine va_iast hx hb hKW.1 hP hD hS 1 0 rfl rfl (vp_in_nI (by omega) (by decide)) dX12_goes_216 (fun H locs hP hD hS => ?_)
          have hP : va_P g.1 vwCl [(z 0, .inr (12, [.ref (z 1), .ref (z 2), .int (nI kp), .int (xs 0), .ref (z 3), .ref (z 4), .ref (z 5), .ref (z 6), .int (nI (pn - 1)), .ref (z 7), .ref (z 8), .ref (z 9), .ref (z 10), .ref (z 11), .ref (z 12), .int (xs 2), .ref (z 13), .ref (z 14), .int (xs 3), .ref (z 15)])), (z 6, .inl (gI g, 5, .inl (upd pf (nI (pn - 1 - 1)).toNatClampNeg x_3))), (z 7, .inl (gI g, 7, .inl cf))] H := hP
          have hD : va_D A [(z 0, .inr (12, [.ref (z 1), .ref (z 2), .int (nI kp), .int (xs 0), .ref (z 3), .ref (z 4), .ref (z 5), .ref (z 6), .int (nI (pn - 1)), .ref (z 7), .ref (z 8), .ref (z 9), .ref (z 10), .ref (z 11), .ref (z 12), .int (xs 2), .ref (z 13), .ref (z 14), .int (xs 3), .ref (z 15)])), (z 6, .inl (gI g, 5, .inl (upd pf (nI (pn - 1 - 1)).toNatClampNeg x_3))), (z 7, .inl (gI g, 7, .inl cf))] := hD
          obtain ⟨f_8, ef_8⟩ : ∃ zz_ : Nat → Int32, zz_ = upd pf (nI (pn - 1 - 1)).toNatClampNeg x_3 := ⟨_, rfl⟩
          rw [← ef_8] at hP hD
          refine lv_iconst (v := 1) hx hb dX12_goes_217 (by decide) ?_
          exact k_zret ((pn - 1), f_8) [0, 1, 2] hx hb hr hlk hP hD hS (⟨Or.inl rfl, (show (pn - 1) ≤ 5 by omega)⟩) rfl rfl rfl rfl (Nat.le_of_ble_eq_true rfl) (Nat.le_of_ble_eq_true rfl) dX12_goes_218
      · rcases (show x = 50 ∨ x = 51 ∨ x = 52 ∨ x = 53 by simp only [← Int32.toInt_inj]; simp at c_5 ⊢; omega) with c_5 | c_5 | c_5 | c_5
        · refine lv_tableIn (tgt := 136) hx hb dX12_goes_104 (by rw [c_5]; decide) (by rw [c_5]; decide) (by rw [c_5]; rfl) (by decide) ?_
          refine lv_iload_n hx hb dX12_goes_136 rfl (lv_at hl 2 rfl) ?_
          refine lv_iload_n hx hb dX12_goes_137 rfl (lv_at hl 1 rfl) ?_
          refine lv_iadd hx hb dX12_goes_138 ?_
          refine lv_topi (fun x_9 ex_9 => ?_)
          refine lv_istore (lv' := [(4, .int x_9), (3, .int x_4), (2, .int x_3), (0, .ref (z 0)), (1, .int x)]) hx hb dX12_goes_139 hl (by decide) rfl (fun ls hl => ?_)
          refine lv_goto (tgt := 204) hx hb dX12_goes_141 (by decide) ?_
          refine lv_aload_n hx hb dX12_goes_204 rfl (lv_at hl 3 rfl) ?_
          refine va_get (ci := 12) (C := RX12) (T := TX12) (N := 20) hx hb hts inlX12 hown hKW.1 hP 0 rfl rfl 7 (by decide) (hts _ wd_6_10) (fun _ h => h) rfl dX12_goes_205 ?_
          refine lv_aload_n hx hb dX12_goes_208 rfl (lv_at hl 3 rfl) ?_
          refine va_get (ci := 12) (C := RX12) (T := TX12) (N := 20) hx hb hts inlX12 hown hKW.1 hP 0 rfl rfl 8 (by decide) (hts _ wd_27_11) (fun _ h => h) rfl dX12_goes_209 ?_
          refine lv_iconst (v := 1) hx hb dX12_goes_212 (by decide) ?_
          refine lv_isub hx hb dX12_goes_213 ?_
          refine k_top (y := nI (pn - 1 - 1)) (k_sub (b := 1) (by omega)) ?_
          refine lv_iload hx hb dX12_goes_214 (lv_at hl 0 rfl) ?_
          refine va_iast hx hb hKW.1 hP hD hS 1 0 rfl rfl (vp_in_nI (by omega) (by decide)) dX12_goes_216 (fun H locs hP hD hS => ?_)
          have hP : va_P g.1 vwCl [(z 0, .inr (12, [.ref (z 1), .ref (z 2), .int (nI kp), .int (xs 0), .ref (z 3), .ref (z 4), .ref (z 5), .ref (z 6), .int (nI (pn - 1)), .ref (z 7), .ref (z 8), .ref (z 9), .ref (z 10), .ref (z 11), .ref (z 12), .int (xs 2), .ref (z 13), .ref (z 14), .int (xs 3), .ref (z 15)])), (z 6, .inl (gI g, 5, .inl (upd pf (nI (pn - 1 - 1)).toNatClampNeg x_9))), (z 7, .inl (gI g, 7, .inl cf))] H := hP
          have hD : va_D A [(z 0, .inr (12, [.ref (z 1), .ref (z 2), .int (nI kp), .int (xs 0), .ref (z 3), .ref (z 4), .ref (z 5), .ref (z 6), .int (nI (pn - 1)), .ref (z 7), .ref (z 8), .ref (z 9), .ref (z 10), .ref (z 11), .ref (z 12), .int (xs 2), .ref (z 13), .ref (z 14), .int (xs 3), .ref (z 15)])), (z 6, .inl (gI g, 5, .inl (upd pf (nI (pn - 1 - 1)).toNatClampNeg x_9))), (z 7, .inl (gI g, 7, .inl cf))] := hD
          obtain ⟨f_10, ef_10⟩ : ∃ zz_ : Nat → Int32, zz_ = upd pf (nI (pn - 1 - 1)).toNatClampNeg x_9 := ⟨_, rfl⟩
          rw [← ef_10] at hP hD
          refine lv_iconst (v := 1) hx hb dX12_goes_217 (by decide) ?_
          exact k_zret ((pn - 1), f_10) [0, 1, 2] hx hb hr hlk hP hD hS (⟨Or.inl rfl, (show (pn - 1) ≤ 5 by omega)⟩) rfl rfl rfl rfl (Nat.le_of_ble_eq_true rfl) (Nat.le_of_ble_eq_true rfl) dX12_goes_218
        · refine lv_tableIn (tgt := 144) hx hb dX12_goes_104 (by rw [c_5]; decide) (by rw [c_5]; decide) (by rw [c_5]; rfl) (by decide) ?_
          refine lv_iload_n hx hb dX12_goes_144 rfl (lv_at hl 2 rfl) ?_
          refine lv_iload_n hx hb dX12_goes_145 rfl (lv_at hl 1 rfl) ?_
          refine lv_isub hx hb dX12_goes_146 ?_
          refine lv_topi (fun x_11 ex_11 => ?_)
          refine lv_istore (lv' := [(4, .int x_11), (3, .int x_4), (2, .int x_3), (0, .ref (z 0)), (1, .int x)]) hx hb dX12_goes_147 hl (by decide) rfl (fun ls hl => ?_)
          refine lv_goto (tgt := 204) hx hb dX12_goes_149 (by decide) ?_
          refine lv_aload_n hx hb dX12_goes_204 rfl (lv_at hl 3 rfl) ?_
          refine va_get (ci := 12) (C := RX12) (T := TX12) (N := 20) hx hb hts inlX12 hown hKW.1 hP 0 rfl rfl 7 (by decide) (hts _ wd_6_10) (fun _ h => h) rfl dX12_goes_205 ?_
          refine lv_aload_n hx hb dX12_goes_208 rfl (lv_at hl 3 rfl) ?_
          refine va_get (ci := 12) (C := RX12) (T := TX12) (N := 20) hx hb hts inlX12 hown hKW.1 hP 0 rfl rfl 8 (by decide) (hts _ wd_27_11) (fun _ h => h) rfl dX12_goes_209 ?_
          refine lv_iconst (v := 1) hx hb dX12_goes_212 (by decide) ?_
          refine lv_isub hx hb dX12_goes_213 ?_
          refine k_top (y := nI (pn - 1 - 1)) (k_sub (b := 1) (by omega)) ?_
          refine lv_iload hx hb dX12_goes_214 (lv_at hl 0 rfl) ?_
          refine va_iast hx hb hKW.1 hP hD hS 1 0 rfl rfl (vp_in_nI (by omega) (by decide)) dX12_goes_216 (fun H locs hP hD hS => ?_)
          have hP : va_P g.1 vwCl [(z 0, .inr (12, [.ref (z 1), .ref (z 2), .int (nI kp), .int (xs 0), .ref (z 3), .ref (z 4), .ref (z 5), .ref (z 6), .int (nI (pn - 1)), .ref (z 7), .ref (z 8), .ref (z 9), .ref (z 10), .ref (z 11), .ref (z 12), .int (xs 2), .ref (z 13), .ref (z 14), .int (xs 3), .ref (z 15)])), (z 6, .inl (gI g, 5, .inl (upd pf (nI (pn - 1 - 1)).toNatClampNeg x_11))), (z 7, .inl (gI g, 7, .inl cf))] H := hP
          have hD : va_D A [(z 0, .inr (12, [.ref (z 1), .ref (z 2), .int (nI kp), .int (xs 0), .ref (z 3), .ref (z 4), .ref (z 5), .ref (z 6), .int (nI (pn - 1)), .ref (z 7), .ref (z 8), .ref (z 9), .ref (z 10), .ref (z 11), .ref (z 12), .int (xs 2), .ref (z 13), .ref (z 14), .int (xs 3), .ref (z 15)])), (z 6, .inl (gI g, 5, .inl (upd pf (nI (pn - 1 - 1)).toNatClampNeg x_11))), (z 7, .inl (gI g, 7, .inl cf))] := hD
          obtain ⟨f_12, ef_12⟩ : ∃ zz_ : Nat → Int32, zz_ = upd pf (nI (pn - 1 - 1)).toNatClampNeg x_11 := ⟨_, rfl⟩
          rw [← ef_12] at hP hD
          refine lv_iconst (v := 1) hx hb dX12_goes_217 (by decide) ?_
          exact k_zret ((pn - 1), f_12) [0, 1, 2] hx hb hr hlk hP hD hS (⟨Or.inl rfl, (show (pn - 1) ≤ 5 by omega)⟩) rfl rfl rfl rfl (Nat.le_of_ble_eq_true rfl) (Nat.le_of_ble_eq_true rfl) dX12_goes_218
        · refine lv_tableIn (tgt := 152) hx hb dX12_goes_104 (by rw [c_5]; decide) (by rw [c_5]; decide) (by rw [c_5]; rfl) (by decide) ?_
          refine lv_iload_n hx hb dX12_goes_152 rfl (lv_at hl 2 rfl) ?_
          refine lv_iload_n hx hb dX12_goes_153 rfl (lv_at hl 1 rfl) ?_
          refine lv_imul hx hb dX12_goes_154 ?_
          refine lv_topi (fun x_13 ex_13 => ?_)
          refine lv_istore (lv' := [(4, .int x_13), (3, .int x_4), (2, .int x_3), (0, .ref (z 0)), (1, .int x)]) hx hb dX12_goes_155 hl (by decide) rfl (fun ls hl => ?_)
          refine lv_goto (tgt := 204) hx hb dX12_goes_157 (by decide) ?_
          refine lv_aload_n hx hb dX12_goes_204 rfl (lv_at hl 3 rfl) ?_
          refine va_get (ci := 12) (C := RX12) (T := TX12) (N := 20) hx hb hts inlX12 hown hKW.1 hP 0 rfl rfl 7 (by decide) (hts _ wd_6_10) (fun _ h => h) rfl dX12_goes_205 ?_
          refine lv_aload_n hx hb dX12_goes_208 rfl (lv_at hl 3 rfl) ?_
          refine va_get (ci := 12) (C := RX12) (T := TX12) (N := 20) hx hb hts inlX12 hown hKW.1 hP 0 rfl rfl 8 (by decide) (hts _ wd_27_11) (fun _ h => h) rfl dX12_goes_209 ?_
          refine lv_iconst (v := 1) hx hb dX12_goes_212 (by decide) ?_
          refine lv_isub hx hb dX12_goes_213 ?_
          refine k_top (y := nI (pn - 1 - 1)) (k_sub (b := 1) (by omega)) ?_
          refine lv_iload hx hb dX12_goes_214 (lv_at hl 0 rfl) ?_
          refine va_iast hx hb hKW.1 hP hD hS 1 0 rfl rfl (vp_in_nI (by omega) (by decide)) dX12_goes_216 (fun H locs hP hD hS => ?_)
          have hP : va_P g.1 vwCl [(z 0, .inr (12, [.ref (z 1), .ref (z 2), .int (nI kp), .int (xs 0), .ref (z 3), .ref (z 4), .ref (z 5), .ref (z 6), .int (nI (pn - 1)), .ref (z 7), .ref (z 8), .ref (z 9), .ref (z 10), .ref (z 11), .ref (z 12), .int (xs 2), .ref (z 13), .ref (z 14), .int (xs 3), .ref (z 15)])), (z 6, .inl (gI g, 5, .inl (upd pf (nI (pn - 1 - 1)).toNatClampNeg x_13))), (z 7, .inl (gI g, 7, .inl cf))] H := hP
          have hD : va_D A [(z 0, .inr (12, [.ref (z 1), .ref (z 2), .int (nI kp), .int (xs 0), .ref (z 3), .ref (z 4), .ref (z 5), .ref (z 6), .int (nI (pn - 1)), .ref (z 7), .ref (z 8), .ref (z 9), .ref (z 10), .ref (z 11), .ref (z 12), .int (xs 2), .ref (z 13), .ref (z 14), .int (xs 3), .ref (z 15)])), (z 6, .inl (gI g, 5, .inl (upd pf (nI (pn - 1 - 1)).toNatClampNeg x_13))), (z 7, .inl (gI g, 7, .inl cf))] := hD
          obtain ⟨f_14, ef_14⟩ : ∃ zz_ : Nat → Int32, zz_ = upd pf (nI (pn - 1 - 1)).toNatClampNeg x_13 := ⟨_, rfl⟩
          rw [← ef_14] at hP hD
          refine lv_iconst (v := 1) hx hb dX12_goes_217 (by decide) ?_
          exact k_zret ((pn - 1), f_14) [0, 1, 2] hx hb hr hlk hP hD hS (⟨Or.inl rfl, (show (pn - 1) ≤ 5 by omega)⟩) rfl rfl rfl rfl (Nat.le_of_ble_eq_true rfl) (Nat.le_of_ble_eq_true rfl) dX12_goes_218
        · refine lv_tableIn (tgt := 160) hx hb dX12_goes_104 (by rw [c_5]; decide) (by rw [c_5]; decide) (by rw [c_5]; rfl) (by decide) ?_
          refine lv_iload_n hx hb dX12_goes_160 rfl (lv_at hl 1 rfl) ?_
          refine lv_if_gt (tgt := 168) hx hb dX12_goes_161 (by decide) (fun c_15 => ?_) (fun c_15 => ?_)
          · refine lv_iload_n hx hb dX12_goes_168 rfl (lv_at hl 2 rfl) ?_
            refine lv_iload_n hx hb dX12_goes_169 rfl (lv_at hl 1 rfl) ?_
            refine lv_idiv hx hb dX12_goes_170 (k_pos0 c_15) ?_
            refine lv_topi (fun x_16 ex_16 => ?_)
            refine lv_iload_n hx hb dX12_goes_171 rfl (lv_at hl 2 rfl) ?_
            refine lv_if_le (tgt := 185) hx hb dX12_goes_172 (by decide) (fun c_17 => ?_) (fun c_17 => ?_)
            · refine lv_iconst (v := 0) hx hb dX12_goes_185 (by decide) ?_
              refine lv_iadd hx hb dX12_goes_186 ?_
              refine lv_topi (fun x_18 ex_18 => ?_)
              refine lv_istore (lv' := [(4, .int x_18), (3, .int x_4), (2, .int x_3), (0, .ref (z 0)), (1, .int x)]) hx hb dX12_goes_187 hl (by decide) rfl (fun ls hl => ?_)
              refine lv_goto (tgt := 204) hx hb dX12_goes_189 (by decide) ?_
              refine lv_aload_n hx hb dX12_goes_204 rfl (lv_at hl 3 rfl) ?_
              refine va_get (ci := 12) (C := RX12) (T := TX12) (N := 20) hx hb hts inlX12 hown hKW.1 hP 0 rfl rfl 7 (by decide) (hts _ wd_6_10) (fun _ h => h) rfl dX12_goes_205 ?_
              refine lv_aload_n hx hb dX12_goes_208 rfl (lv_at hl 3 rfl) ?_
              refine va_get (ci := 12) (C := RX12) (T := TX12) (N := 20) hx hb hts inlX12 hown hKW.1 hP 0 rfl rfl 8 (by decide) (hts _ wd_27_11) (fun _ h => h) rfl dX12_goes_209 ?_
              refine lv_iconst (v := 1) hx hb dX12_goes_212 (by decide) ?_
              refine lv_isub hx hb dX12_goes_213 ?_
              refine k_top (y := nI (pn - 1 - 1)) (k_sub (b := 1) (by omega)) ?_
              refine lv_iload hx hb dX12_goes_214 (lv_at hl 0 rfl) ?_
              refine va_iast hx hb hKW.1 hP hD hS 1 0 rfl rfl (vp_in_nI (by omega) (by decide)) dX12_goes_216 (fun H locs hP hD hS => ?_)
              have hP : va_P g.1 vwCl [(z 0, .inr (12, [.ref (z 1), .ref (z 2), .int (nI kp), .int (xs 0), .ref (z 3), .ref (z 4), .ref (z 5), .ref (z 6), .int (nI (pn - 1)), .ref (z 7), .ref (z 8), .ref (z 9), .ref (z 10), .ref (z 11), .ref (z 12), .int (xs 2), .ref (z 13), .ref (z 14), .int (xs 3), .ref (z 15)])), (z 6, .inl (gI g, 5, .inl (upd pf (nI (pn - 1 - 1)).toNatClampNeg x_18))), (z 7, .inl (gI g, 7, .inl cf))] H := hP
              have hD : va_D A [(z 0, .inr (12, [.ref (z 1), .ref (z 2), .int (nI kp), .int (xs 0), .ref (z 3), .ref (z 4), .ref (z 5), .ref (z 6), .int (nI (pn - 1)), .ref (z 7), .ref (z 8), .ref (z 9), .ref (z 10), .ref (z 11), .ref (z 12), .int (xs 2), .ref (z 13), .ref (z 14), .int (xs 3), .ref (z 15)])), (z 6, .inl (gI g, 5, .inl (upd pf (nI (pn - 1 - 1)).toNatClampNeg x_18))), (z 7, .inl (gI g, 7, .inl cf))] := hD
              obtain ⟨f_19, ef_19⟩ : ∃ zz_ : Nat → Int32, zz_ = upd pf (nI (pn - 1 - 1)).toNatClampNeg x_18 := ⟨_, rfl⟩
              rw [← ef_19] at hP hD
              refine lv_iconst (v := 1) hx hb dX12_goes_217 (by decide) ?_
              exact k_zret ((pn - 1), f_19) [0, 1, 2] hx hb hr hlk hP hD hS (⟨Or.inl rfl, (show (pn - 1) ≤ 5 by omega)⟩) rfl rfl rfl rfl (Nat.le_of_ble_eq_true rfl) (Nat.le_of_ble_eq_true rfl) dX12_goes_218
            · refine lv_iload_n hx hb dX12_goes_175 rfl (lv_at hl 2 rfl) ?_
              refine lv_iload_n hx hb dX12_goes_176 rfl (lv_at hl 1 rfl) ?_
              refine lv_irem hx hb dX12_goes_177 (k_pos0 c_15) ?_
              refine lv_topi (fun x_20 ex_20 => ?_)
              refine lv_if_eq (tgt := 185) hx hb dX12_goes_178 (by decide) (fun c_21 => ?_) (fun c_21 => ?_)
              · refine lv_iconst (v := 0) hx hb dX12_goes_185 (by decide) ?_
                refine lv_iadd hx hb dX12_goes_186 ?_
                refine lv_topi (fun x_22 ex_22 => ?_)
                refine lv_istore (lv' := [(4, .int x_22), (3, .int x_4), (2, .int x_3), (0, .ref (z 0)), (1, .int x)]) hx hb dX12_goes_187 hl (by decide) rfl (fun ls hl => ?_)
                refine lv_goto (tgt := 204) hx hb dX12_goes_189 (by decide) ?_
                refine lv_aload_n hx hb dX12_goes_204 rfl (lv_at hl 3 rfl) ?_
                refine va_get (ci := 12) (C := RX12) (T := TX12) (N := 20) hx hb hts inlX12 hown hKW.1 hP 0 rfl rfl 7 (by decide) (hts _ wd_6_10) (fun _ h => h) rfl dX12_goes_205 ?_
                refine lv_aload_n hx hb dX12_goes_208 rfl (lv_at hl 3 rfl) ?_
                refine va_get (ci := 12) (C := RX12) (T := TX12) (N := 20) hx hb hts inlX12 hown hKW.1 hP 0 rfl rfl 8 (by decide) (hts _ wd_27_11) (fun _ h => h) rfl dX12_goes_209 ?_
                refine lv_iconst (v := 1) hx hb dX12_goes_212 (by decide) ?_
                refine lv_isub hx hb dX12_goes_213 ?_
                refine k_top (y := nI (pn - 1 - 1)) (k_sub (b := 1) (by omega)) ?_
                refine lv_iload hx hb dX12_goes_214 (lv_at hl 0 rfl) ?_
                refine va_iast hx hb hKW.1 hP hD hS 1 0 rfl rfl (vp_in_nI (by omega) (by decide)) dX12_goes_216 (fun H locs hP hD hS => ?_)
                have hP : va_P g.1 vwCl [(z 0, .inr (12, [.ref (z 1), .ref (z 2), .int (nI kp), .int (xs 0), .ref (z 3), .ref (z 4), .ref (z 5), .ref (z 6), .int (nI (pn - 1)), .ref (z 7), .ref (z 8), .ref (z 9), .ref (z 10), .ref (z 11), .ref (z 12), .int (xs 2), .ref (z 13), .ref (z 14), .int (xs 3), .ref (z 15)])), (z 6, .inl (gI g, 5, .inl (upd pf (nI (pn - 1 - 1)).toNatClampNeg x_22))), (z 7, .inl (gI g, 7, .inl cf))] H := hP
                have hD : va_D A [(z 0, .inr (12, [.ref (z 1), .ref (z 2), .int (nI kp), .int (xs 0), .ref (z 3), .ref (z 4), .ref (z 5), .ref (z 6), .int (nI (pn - 1)), .ref (z 7), .ref (z 8), .ref (z 9), .ref (z 10), .ref (z 11), .ref (z 12), .int (xs 2), .ref (z 13), .ref (z 14), .int (xs 3), .ref (z 15)])), (z 6, .inl (gI g, 5, .inl (upd pf (nI (pn - 1 - 1)).toNatClampNeg x_22))), (z 7, .inl (gI g, 7, .inl cf))] := hD
                obtain ⟨f_23, ef_23⟩ : ∃ zz_ : Nat → Int32, zz_ = upd pf (nI (pn - 1 - 1)).toNatClampNeg x_22 := ⟨_, rfl⟩
                rw [← ef_23] at hP hD
                refine lv_iconst (v := 1) hx hb dX12_goes_217 (by decide) ?_
                exact k_zret ((pn - 1), f_23) [0, 1, 2] hx hb hr hlk hP hD hS (⟨Or.inl rfl, (show (pn - 1) ≤ 5 by omega)⟩) rfl rfl rfl rfl (Nat.le_of_ble_eq_true rfl) (Nat.le_of_ble_eq_true rfl) dX12_goes_218
              · refine lv_iconst (v := 1) hx hb dX12_goes_181 (by decide) ?_
                refine lv_goto (tgt := 186) hx hb dX12_goes_182 (by decide) ?_
                refine lv_iadd hx hb dX12_goes_186 ?_
                refine lv_topi (fun x_24 ex_24 => ?_)
                refine lv_istore (lv' := [(4, .int x_24), (3, .int x_4), (2, .int x_3), (0, .ref (z 0)), (1, .int x)]) hx hb dX12_goes_187 hl (by decide) rfl (fun ls hl => ?_)
                refine lv_goto (tgt := 204) hx hb dX12_goes_189 (by decide) ?_
                refine lv_aload_n hx hb dX12_goes_204 rfl (lv_at hl 3 rfl) ?_
                refine va_get (ci := 12) (C := RX12) (T := TX12) (N := 20) hx hb hts inlX12 hown hKW.1 hP 0 rfl rfl 7 (by decide) (hts _ wd_6_10) (fun _ h => h) rfl dX12_goes_205 ?_
                refine lv_aload_n hx hb dX12_goes_208 rfl (lv_at hl 3 rfl) ?_
                refine va_get (ci := 12) (C := RX12) (T := TX12) (N := 20) hx hb hts inlX12 hown hKW.1 hP 0 rfl rfl 8 (by decide) (hts _ wd_27_11) (fun _ h => h) rfl dX12_goes_209 ?_
                refine lv_iconst (v := 1) hx hb dX12_goes_212 (by decide) ?_
                refine lv_isub hx hb dX12_goes_213 ?_
                refine k_top (y := nI (pn - 1 - 1)) (k_sub (b := 1) (by omega)) ?_
                refine lv_iload hx hb dX12_goes_214 (lv_at hl 0 rfl) ?_
                refine va_iast hx hb hKW.1 hP hD hS 1 0 rfl rfl (vp_in_nI (by omega) (by decide)) dX12_goes_216 (fun H locs hP hD hS => ?_)
                have hP : va_P g.1 vwCl [(z 0, .inr (12, [.ref (z 1), .ref (z 2), .int (nI kp), .int (xs 0), .ref (z 3), .ref (z 4), .ref (z 5), .ref (z 6), .int (nI (pn - 1)), .ref (z 7), .ref (z 8), .ref (z 9), .ref (z 10), .ref (z 11), .ref (z 12), .int (xs 2), .ref (z 13), .ref (z 14), .int (xs 3), .ref (z 15)])), (z 6, .inl (gI g, 5, .inl (upd pf (nI (pn - 1 - 1)).toNatClampNeg x_24))), (z 7, .inl (gI g, 7, .inl cf))] H := hP
                have hD : va_D A [(z 0, .inr (12, [.ref (z 1), .ref (z 2), .int (nI kp), .int (xs 0), .ref (z 3), .ref (z 4), .ref (z 5), .ref (z 6), .int (nI (pn - 1)), .ref (z 7), .ref (z 8), .ref (z 9), .ref (z 10), .ref (z 11), .ref (z 12), .int (xs 2), .ref (z 13), .ref (z 14), .int (xs 3), .ref (z 15)])), (z 6, .inl (gI g, 5, .inl (upd pf (nI (pn - 1 - 1)).toNatClampNeg x_24))), (z 7, .inl (gI g, 7, .inl cf))] := hD
                obtain ⟨f_25, ef_25⟩ : ∃ zz_ : Nat → Int32, zz_ = upd pf (nI (pn - 1 - 1)).toNatClampNeg x_24 := ⟨_, rfl⟩
                rw [← ef_25] at hP hD
                refine lv_iconst (v := 1) hx hb dX12_goes_217 (by decide) ?_
                exact k_zret ((pn - 1), f_25) [0, 1, 2] hx hb hr hlk hP hD hS (⟨Or.inl rfl, (show (pn - 1) ≤ 5 by omega)⟩) rfl rfl rfl rfl (Nat.le_of_ble_eq_true rfl) (Nat.le_of_ble_eq_true rfl) dX12_goes_218
          · refine lv_iconst (v := 0) hx hb dX12_goes_164 (by decide) ?_
            refine lv_goto (tgt := 187) hx hb dX12_goes_165 (by decide) ?_
            refine lv_istore (lv' := [(4, .int 0), (3, .int x_4), (2, .int x_3), (0, .ref (z 0)), (1, .int x)]) hx hb dX12_goes_187 hl (by decide) rfl (fun ls hl => ?_)
            refine lv_goto (tgt := 204) hx hb dX12_goes_189 (by decide) ?_
            refine lv_aload_n hx hb dX12_goes_204 rfl (lv_at hl 3 rfl) ?_
            refine va_get (ci := 12) (C := RX12) (T := TX12) (N := 20) hx hb hts inlX12 hown hKW.1 hP 0 rfl rfl 7 (by decide) (hts _ wd_6_10) (fun _ h => h) rfl dX12_goes_205 ?_
            refine lv_aload_n hx hb dX12_goes_208 rfl (lv_at hl 3 rfl) ?_
            refine va_get (ci := 12) (C := RX12) (T := TX12) (N := 20) hx hb hts inlX12 hown hKW.1 hP 0 rfl rfl 8 (by decide) (hts _ wd_27_11) (fun _ h => h) rfl dX12_goes_209 ?_
            refine lv_iconst (v := 1) hx hb dX12_goes_212 (by decide) ?_
            refine lv_isub hx hb dX12_goes_213 ?_
            refine k_top (y := nI (pn - 1 - 1)) (k_sub (b := 1) (by omega)) ?_
            refine lv_iload hx hb dX12_goes_214 (lv_at hl 0 rfl) ?_
            refine va_iast hx hb hKW.1 hP hD hS 1 0 rfl rfl (vp_in_nI (by omega) (by decide)) dX12_goes_216 (fun H locs hP hD hS => ?_)
            have hP : va_P g.1 vwCl [(z 0, .inr (12, [.ref (z 1), .ref (z 2), .int (nI kp), .int (xs 0), .ref (z 3), .ref (z 4), .ref (z 5), .ref (z 6), .int (nI (pn - 1)), .ref (z 7), .ref (z 8), .ref (z 9), .ref (z 10), .ref (z 11), .ref (z 12), .int (xs 2), .ref (z 13), .ref (z 14), .int (xs 3), .ref (z 15)])), (z 6, .inl (gI g, 5, .inl (upd pf (nI (pn - 1 - 1)).toNatClampNeg 0))), (z 7, .inl (gI g, 7, .inl cf))] H := hP
            have hD : va_D A [(z 0, .inr (12, [.ref (z 1), .ref (z 2), .int (nI kp), .int (xs 0), .ref (z 3), .ref (z 4), .ref (z 5), .ref (z 6), .int (nI (pn - 1)), .ref (z 7), .ref (z 8), .ref (z 9), .ref (z 10), .ref (z 11), .ref (z 12), .int (xs 2), .ref (z 13), .ref (z 14), .int (xs 3), .ref (z 15)])), (z 6, .inl (gI g, 5, .inl (upd pf (nI (pn - 1 - 1)).toNatClampNeg 0))), (z 7, .inl (gI g, 7, .inl cf))] := hD
            obtain ⟨f_26, ef_26⟩ : ∃ zz_ : Nat → Int32, zz_ = upd pf (nI (pn - 1 - 1)).toNatClampNeg 0 := ⟨_, rfl⟩
            rw [← ef_26] at hP hD
            refine lv_iconst (v := 1) hx hb dX12_goes_217 (by decide) ?_
            exact k_zret ((pn - 1), f_26) [0, 1, 2] hx hb hr hlk hP hD hS (⟨Or.inl rfl, (show (pn - 1) ≤ 5 by omega)⟩) rfl rfl rfl rfl (Nat.le_of_ble_eq_true rfl) (Nat.le_of_ble_eq_true rfl) dX12_goes_218
    · have c_2n : pn < 2 := Nat.not_le.mp (fun h => c_2 ((k_leI (a := 2) (b := pn) (by omega) (by omega)).mpr h))
      refine lv_iconst (v := 0) hx hb dX12_goes_64 (by decide) ?_
      exact k_zret (pn, pf) [0, 1, 2] hx hb hr hlk hP hD hS (⟨Or.inr rfl, (show pn ≤ 5 by omega)⟩) rfl rfl rfl rfl (Nat.le_of_ble_eq_true rfl) (Nat.le_of_ble_eq_true rfl) dX12_goes_65
  · refine lv_aload_n hx hb dX12_goes_6 rfl (lv_at hl 0 rfl) ?_
    refine va_get (ci := 12) (C := RX12) (T := TX12) (N := 20) hx hb hts inlX12 hown hKW.1 hP 0 rfl rfl 8 (by decide) (hts _ wd_27_11) (fun _ h => h) rfl dX12_goes_7 ?_
    refine lv_iconst (v := 5) hx hb dX12_goes_10 (by decide) ?_
    refine lv_icmp_ne (tgt := 16) hx hb dX12_goes_11 (by decide) (fun c_27 => ?_) (fun c_27 => ?_)
    · have c_27n : ¬ pn = 5 := fun h => c_27 ((k_eqI (a := pn) (b := 5) (by omega) (by omega)).mpr h)
      refine lv_aload_n hx hb dX12_goes_16 rfl (lv_at hl 0 rfl) ?_
      refine va_get (ci := 12) (C := RX12) (T := TX12) (N := 20) hx hb hts inlX12 hown hKW.1 hP 0 rfl rfl 7 (by decide) (hts _ wd_6_10) (fun _ h => h) rfl dX12_goes_17 ?_
      refine lv_aload_n hx hb dX12_goes_20 rfl (lv_at hl 0 rfl) ?_
      refine va_get (ci := 12) (C := RX12) (T := TX12) (N := 20) hx hb hts inlX12 hown hKW.1 hP 0 rfl rfl 8 (by decide) (hts _ wd_27_11) (fun _ h => h) rfl dX12_goes_21 ?_
      refine lv_iload_n hx hb dX12_goes_24 rfl (lv_at hl 1 rfl) ?_
      refine lv_bipush (v := 10) hx hb dX12_goes_25 (by decide) ?_
      refine lv_icmp_ge (tgt := 39) hx hb dX12_goes_27 (by decide) (fun c_28 => ?_) (fun c_28 => ?_)
      · refine lv_iload_n hx hb dX12_goes_39 rfl (lv_at hl 1 rfl) ?_
        refine lv_bipush (v := 10) hx hb dX12_goes_40 (by decide) ?_
        refine lv_isub hx hb dX12_goes_42 ?_
        refine lv_topi (fun x_29 ex_29 => ?_)
        refine va_iast hx hb hKW.1 hP hD hS 1 0 rfl rfl (vp_in_nI (by omega) (by decide)) dX12_goes_43 (fun H locs hP hD hS => ?_)
        have hP : va_P g.1 vwCl [(z 0, .inr (12, [.ref (z 1), .ref (z 2), .int (nI kp), .int (xs 0), .ref (z 3), .ref (z 4), .ref (z 5), .ref (z 6), .int (nI pn), .ref (z 7), .ref (z 8), .ref (z 9), .ref (z 10), .ref (z 11), .ref (z 12), .int (xs 2), .ref (z 13), .ref (z 14), .int (xs 3), .ref (z 15)])), (z 6, .inl (gI g, 5, .inl (upd pf (nI pn).toNatClampNeg x_29))), (z 7, .inl (gI g, 7, .inl cf))] H := hP
        have hD : va_D A [(z 0, .inr (12, [.ref (z 1), .ref (z 2), .int (nI kp), .int (xs 0), .ref (z 3), .ref (z 4), .ref (z 5), .ref (z 6), .int (nI pn), .ref (z 7), .ref (z 8), .ref (z 9), .ref (z 10), .ref (z 11), .ref (z 12), .int (xs 2), .ref (z 13), .ref (z 14), .int (xs 3), .ref (z 15)])), (z 6, .inl (gI g, 5, .inl (upd pf (nI pn).toNatClampNeg x_29))), (z 7, .inl (gI g, 7, .inl cf))] := hD
        obtain ⟨f_30, ef_30⟩ : ∃ zz_ : Nat → Int32, zz_ = upd pf (nI pn).toNatClampNeg x_29 := ⟨_, rfl⟩
        rw [← ef_30] at hP hD
        refine lv_aload_n hx hb dX12_goes_44 rfl (lv_at hl 0 rfl) ?_
        refine lv_dup hx hb dX12_goes_45 rfl ?_
        refine va_get (ci := 12) (C := RX12) (T := TX12) (N := 20) hx hb hts inlX12 hown hKW.1 hP 0 rfl rfl 8 (by decide) (hts _ wd_27_11) (fun _ h => h) rfl dX12_goes_46 ?_
        refine lv_iconst (v := 1) hx hb dX12_goes_49 (by decide) ?_
        refine lv_iadd hx hb dX12_goes_50 ?_
        refine k_top (y := nI (pn + 1)) (nI_add pn 1) ?_
        refine va_put (ci := 12) (v := .int (nI (pn + 1))) (C := RX12) (T := TX12) (N := 20) hx hb hts inlX12 tyX12 tyX12_ok nmX12 hown hKW.1 hP hD hS 0 rfl rfl 8 (by decide) (hts _ wd_27_11) (fun _ h => h) rfl (tyX12_ok 8 (by decide)) rfl rfl (Nat.le_of_ble_eq_true rfl) dX12_goes_51 (fun H locs hP hD hS => ?_)
        have hP : va_P g.1 vwCl [(z 0, .inr (12, [.ref (z 1), .ref (z 2), .int (nI kp), .int (xs 0), .ref (z 3), .ref (z 4), .ref (z 5), .ref (z 6), .int (nI (pn + 1)), .ref (z 7), .ref (z 8), .ref (z 9), .ref (z 10), .ref (z 11), .ref (z 12), .int (xs 2), .ref (z 13), .ref (z 14), .int (xs 3), .ref (z 15)])), (z 6, .inl (gI g, 5, .inl f_30)), (z 7, .inl (gI g, 7, .inl cf))] H := hP
        have hD : va_D A [(z 0, .inr (12, [.ref (z 1), .ref (z 2), .int (nI kp), .int (xs 0), .ref (z 3), .ref (z 4), .ref (z 5), .ref (z 6), .int (nI (pn + 1)), .ref (z 7), .ref (z 8), .ref (z 9), .ref (z 10), .ref (z 11), .ref (z 12), .int (xs 2), .ref (z 13), .ref (z 14), .int (xs 3), .ref (z 15)])), (z 6, .inl (gI g, 5, .inl f_30)), (z 7, .inl (gI g, 7, .inl cf))] := hD
        refine lv_iconst (v := 1) hx hb dX12_goes_54 (by decide) ?_
        exact k_zret ((pn + 1), f_30) [0, 1, 2] hx hb hr hlk hP hD hS (⟨Or.inl rfl, (show (pn + 1) ≤ 5 by omega)⟩) rfl rfl rfl rfl (Nat.le_of_ble_eq_true rfl) (Nat.le_of_ble_eq_true rfl) dX12_goes_55
      · refine lv_aload_n hx hb dX12_goes_30 rfl (lv_at hl 0 rfl) ?_
        refine va_get (ci := 12) (C := RX12) (T := TX12) (N := 20) hx hb hts inlX12 hown hKW.1 hP 0 rfl rfl 9 (by decide) (hts _ wd_6_11) (fun _ h => h) rfl dX12_goes_31 ?_
        refine lv_iload_n hx hb dX12_goes_34 rfl (lv_at hl 1 rfl) ?_
        refine va_iald hx hb hKW.1 hP 2 0 rfl rfl (vp_in_iff.mpr (by clear hP hD hS hA hts hKW hl; have q := c_28; rw [Int32.le_iff_toInt_le, show Int32.toInt 10 = (10 : Int) from rfl] at q; omega)) dX12_goes_35 ?_
        refine lv_topi (fun x_31 ex_31 => ?_)
        refine lv_goto (tgt := 43) hx hb dX12_goes_36 (by decide) ?_
        refine va_iast hx hb hKW.1 hP hD hS 1 0 rfl rfl (vp_in_nI (by omega) (by decide)) dX12_goes_43 (fun H locs hP hD hS => ?_)
        have hP : va_P g.1 vwCl [(z 0, .inr (12, [.ref (z 1), .ref (z 2), .int (nI kp), .int (xs 0), .ref (z 3), .ref (z 4), .ref (z 5), .ref (z 6), .int (nI pn), .ref (z 7), .ref (z 8), .ref (z 9), .ref (z 10), .ref (z 11), .ref (z 12), .int (xs 2), .ref (z 13), .ref (z 14), .int (xs 3), .ref (z 15)])), (z 6, .inl (gI g, 5, .inl (upd pf (nI pn).toNatClampNeg x_31))), (z 7, .inl (gI g, 7, .inl cf))] H := hP
        have hD : va_D A [(z 0, .inr (12, [.ref (z 1), .ref (z 2), .int (nI kp), .int (xs 0), .ref (z 3), .ref (z 4), .ref (z 5), .ref (z 6), .int (nI pn), .ref (z 7), .ref (z 8), .ref (z 9), .ref (z 10), .ref (z 11), .ref (z 12), .int (xs 2), .ref (z 13), .ref (z 14), .int (xs 3), .ref (z 15)])), (z 6, .inl (gI g, 5, .inl (upd pf (nI pn).toNatClampNeg x_31))), (z 7, .inl (gI g, 7, .inl cf))] := hD
        obtain ⟨f_32, ef_32⟩ : ∃ zz_ : Nat → Int32, zz_ = upd pf (nI pn).toNatClampNeg x_31 := ⟨_, rfl⟩
        rw [← ef_32] at hP hD
        refine lv_aload_n hx hb dX12_goes_44 rfl (lv_at hl 0 rfl) ?_
        refine lv_dup hx hb dX12_goes_45 rfl ?_
        refine va_get (ci := 12) (C := RX12) (T := TX12) (N := 20) hx hb hts inlX12 hown hKW.1 hP 0 rfl rfl 8 (by decide) (hts _ wd_27_11) (fun _ h => h) rfl dX12_goes_46 ?_
        refine lv_iconst (v := 1) hx hb dX12_goes_49 (by decide) ?_
        refine lv_iadd hx hb dX12_goes_50 ?_
        refine k_top (y := nI (pn + 1)) (nI_add pn 1) ?_
        refine va_put (ci := 12) (v := .int (nI (pn + 1))) (C := RX12) (T := TX12) (N := 20) hx hb hts inlX12 tyX12 tyX12_ok nmX12 hown hKW.1 hP hD hS 0 rfl rfl 8 (by decide) (hts _ wd_27_11) (fun _ h => h) rfl (tyX12_ok 8 (by decide)) rfl rfl (Nat.le_of_ble_eq_true rfl) dX12_goes_51 (fun H locs hP hD hS => ?_)
        have hP : va_P g.1 vwCl [(z 0, .inr (12, [.ref (z 1), .ref (z 2), .int (nI kp), .int (xs 0), .ref (z 3), .ref (z 4), .ref (z 5), .ref (z 6), .int (nI (pn + 1)), .ref (z 7), .ref (z 8), .ref (z 9), .ref (z 10), .ref (z 11), .ref (z 12), .int (xs 2), .ref (z 13), .ref (z 14), .int (xs 3), .ref (z 15)])), (z 6, .inl (gI g, 5, .inl f_32)), (z 7, .inl (gI g, 7, .inl cf))] H := hP
        have hD : va_D A [(z 0, .inr (12, [.ref (z 1), .ref (z 2), .int (nI kp), .int (xs 0), .ref (z 3), .ref (z 4), .ref (z 5), .ref (z 6), .int (nI (pn + 1)), .ref (z 7), .ref (z 8), .ref (z 9), .ref (z 10), .ref (z 11), .ref (z 12), .int (xs 2), .ref (z 13), .ref (z 14), .int (xs 3), .ref (z 15)])), (z 6, .inl (gI g, 5, .inl f_32)), (z 7, .inl (gI g, 7, .inl cf))] := hD
        refine lv_iconst (v := 1) hx hb dX12_goes_54 (by decide) ?_
        exact k_zret ((pn + 1), f_32) [0, 1, 2] hx hb hr hlk hP hD hS (⟨Or.inl rfl, (show (pn + 1) ≤ 5 by omega)⟩) rfl rfl rfl rfl (Nat.le_of_ble_eq_true rfl) (Nat.le_of_ble_eq_true rfl) dX12_goes_55
    · have c_27n : pn = 5 := (k_eqI (a := pn) (b := 5) (by omega) (by omega)).mp c_27
      refine lv_iconst (v := 0) hx hb dX12_goes_14 (by decide) ?_
      exact k_zret (pn, pf) [0, 1, 2] hx hb hr hlk hP hD hS (⟨Or.inr rfl, (show pn ≤ 5 by omega)⟩) rfl rfl rfl rfl (Nat.le_of_ble_eq_true rfl) (Nat.le_of_ble_eq_true rfl) dX12_goes_15
theorem dX12_read_0 : decode cX12_read 0 = .ok (.aload_n 0, 1) := by decide +kernel
theorem dX12_read_1 : decode cX12_read 1 = .ok (.iconst 0, 1) := by decide +kernel
theorem dX12_read_2 : decode cX12_read 2 = .ok (.putfield 116, 3) := by decide +kernel
theorem dX12_read_5 : decode cX12_read 5 = .ok (.iconst 0, 1) := by decide +kernel
theorem dX12_read_6 : decode cX12_read 6 = .ok (.istore_n 1, 1) := by decide +kernel
theorem dX12_read_7 : decode cX12_read 7 = .ok (.iload_n 1, 1) := by decide +kernel
theorem dX12_read_8 : decode cX12_read 8 = .ok (.aload_n 0, 1) := by decide +kernel
theorem dX12_read_9 : decode cX12_read 9 = .ok (.getfield 7, 3) := by decide +kernel
theorem dX12_read_12 : decode cX12_read 12 = .ok (.bipush 10, 2) := by decide +kernel
theorem dX12_read_14 : decode cX12_read 14 = .ok (.iaload, 1) := by decide +kernel
theorem dX12_read_15 : decode cX12_read 15 = .ok (.if_icmp .ge 28, 3) := by decide +kernel
theorem dX12_read_43 : decode cX12_read 43 = .ok (.aload_n 0, 1) := by decide +kernel
theorem dX12_read_44 : decode cX12_read 44 = .ok (.getfield 116, 3) := by decide +kernel
theorem dX12_read_47 : decode cX12_read 47 = .ok (.iconst 1, 1) := by decide +kernel
theorem dX12_read_48 : decode cX12_read 48 = .ok (.if_icmp .ne 7, 3) := by decide +kernel
theorem dX12_read_55 : decode cX12_read 55 = .ok (.aload_n 0, 1) := by decide +kernel
theorem dX12_read_56 : decode cX12_read 56 = .ok (.getfield 7, 3) := by decide +kernel
theorem dX12_read_59 : decode cX12_read 59 = .ok (.bipush 10, 2) := by decide +kernel
theorem dX12_read_61 : decode cX12_read 61 = .ok (.iaload, 1) := by decide +kernel
theorem dX12_read_62 : decode cX12_read 62 = .ok (.ireturn, 1) := by decide +kernel
theorem dX12_read_51 : decode cX12_read 51 = .ok (.iconst (-1), 1) := by decide +kernel
theorem dX12_read_52 : decode cX12_read 52 = .ok (.goto 10, 3) := by decide +kernel
theorem dX12_read_18 : decode cX12_read 18 = .ok (.aload_n 0, 1) := by decide +kernel
theorem dX12_read_19 : decode cX12_read 19 = .ok (.aload_n 0, 1) := by decide +kernel
theorem dX12_read_20 : decode cX12_read 20 = .ok (.getfield 7, 3) := by decide +kernel
theorem dX12_read_23 : decode cX12_read 23 = .ok (.sipush 207, 3) := by decide +kernel
theorem dX12_read_26 : decode cX12_read 26 = .ok (.iload_n 1, 1) := by decide +kernel
theorem dX12_read_27 : decode cX12_read 27 = .ok (.iadd, 1) := by decide +kernel
theorem dX12_read_28 : decode cX12_read 28 = .ok (.iaload, 1) := by decide +kernel
theorem dX12_read_29 : decode cX12_read 29 = .ok (.invokevirtual 119, 3) := by decide +kernel
theorem dX12_read_32 : decode cX12_read 32 = .ok (.ifCond .ne 5, 3) := by decide +kernel
theorem dX12_read_37 : decode cX12_read 37 = .ok (.iinc 1 1, 3) := by decide +kernel
theorem dX12_read_40 : decode cX12_read 40 = .ok (.goto (-33), 3) := by decide +kernel
theorem dX12_read_35 : decode cX12_read 35 = .ok (.iload_n 1, 1) := by decide +kernel
theorem dX12_read_36 : decode cX12_read 36 = .ok (.ireturn, 1) := by decide +kernel
set_option maxHeartbeats 8000000 in
set_option maxRecDepth 100000 in
theorem c_X12_read (l : Launch) (g : kG) (sz : Nat) (z : Nat → Nat) (kp : Nat) (xs : Nat → Int32) (D : Nat → Int32) (pf : Nat → Int32) (cf : Nat → Int32) (hDI : DI D) : kMi l g yX12_read cX12_read 2 (some .int) 2 0 0 [.ref (z 0)] sz [(z 0, .inr (12, [.ref (z 1), .ref (z 2), .int (nI kp), .int (xs 0), .ref (z 3), .ref (z 4), .ref (z 5), .ref (z 6), .int (xs 1), .ref (z 7), .ref (z 8), .ref (z 9), .ref (z 10), .ref (z 11), .ref (z 12), .int (xs 2), .ref (z 13), .ref (z 14), .int (xs 3), .ref (z 15)])), (z 1, .inl (gI g, 461, .inl D)), (z 6, .inl (gI g, 5, .inl pf)), (z 7, .inl (gI g, 7, .inl cf))] (fun (r : Int32) (u : (Nat → Int32) × (Nat → Int32)) => True) (fun (u : (Nat → Int32) × (Nat → Int32)) => ([(z 0, .inr (12, [.ref (z 1), .ref (z 2), .int (nI kp), .int (u.1 0), .ref (z 3), .ref (z 4), .ref (z 5), .ref (z 6), .int (u.1 1), .ref (z 7), .ref (z 8), .ref (z 9), .ref (z 10), .ref (z 11), .ref (z 12), .int (u.1 2), .ref (z 13), .ref (z 14), .int (u.1 3), .ref (z 15)])), (z 1, .inl (gI g, 461, .inl D)), (z 6, .inl (gI g, 5, .inl u.2)), (z 7, .inl (gI g, 7, .inl cf))] : va_W)) := by
  refine kMi.of (by decide) (Nat.le_of_ble_eq_true rfl) (fun p e s m below meth c A hx hb hr hml hown hts hlk hnm hKW hP hD hS hA ls hl => ?_)
  have hown : s.vm.findClass RX12 = some m.cls := hown
  have hl : lv_has ls 2 [(0, .ref (z 0))] := hl
  refine k_hide hP hS (fun H locs hP hS => ?_)
  refine lv_aload_n hx hb dX12_read_0 rfl (lv_at hl 0 rfl) ?_
  refine lv_iconst (v := 0) hx hb dX12_read_1 (by decide) ?_
  refine va_put (ci := 12) (v := .int 0) (C := RX12) (T := TX12) (N := 20) hx hb hts inlX12 tyX12 tyX12_ok nmX12 hown hKW.1 hP hD hS 0 rfl rfl 8 (by decide) (hts _ wd_27_11) (fun _ h => h) rfl (tyX12_ok 8 (by decide)) rfl rfl (Nat.le_of_ble_eq_true rfl) dX12_read_2 (fun H locs hP hD hS => ?_)
  have hP : va_P g.1 vwCl [(z 0, .inr (12, [.ref (z 1), .ref (z 2), .int (nI kp), .int (xs 0), .ref (z 3), .ref (z 4), .ref (z 5), .ref (z 6), .int 0, .ref (z 7), .ref (z 8), .ref (z 9), .ref (z 10), .ref (z 11), .ref (z 12), .int (xs 2), .ref (z 13), .ref (z 14), .int (xs 3), .ref (z 15)])), (z 1, .inl (gI g, 461, .inl D)), (z 6, .inl (gI g, 5, .inl pf)), (z 7, .inl (gI g, 7, .inl cf))] H := hP
  have hD : va_D A [(z 0, .inr (12, [.ref (z 1), .ref (z 2), .int (nI kp), .int (xs 0), .ref (z 3), .ref (z 4), .ref (z 5), .ref (z 6), .int 0, .ref (z 7), .ref (z 8), .ref (z 9), .ref (z 10), .ref (z 11), .ref (z 12), .int (xs 2), .ref (z 13), .ref (z 14), .int (xs 3), .ref (z 15)])), (z 1, .inl (gI g, 461, .inl D)), (z 6, .inl (gI g, 5, .inl pf)), (z 7, .inl (gI g, 7, .inl cf))] := hD
  refine lv_iconst (v := 0) hx hb dX12_read_5 (by decide) ?_
  refine lv_istore_n (lv' := [(1, .int 0), (0, .ref (z 0))]) hx hb dX12_read_6 rfl hl (by decide) rfl (fun ls hl => ?_)
  have L7 : ∀ (n7 : Nat) (i : Nat) (pn : Nat) (pa : Nat → Int32) (hfuel7 : 14 - i < n7) (hi : i ≤ 14) (hpn : pn ≤ 5) (H : Heap) (locs : List Loc) (hP : va_P g.1 vwCl [(z 0, .inr (12, [.ref (z 1), .ref (z 2), .int (nI kp), .int (xs 0), .ref (z 3), .ref (z 4), .ref (z 5), .ref (z 6), .int (nI pn), .ref (z 7), .ref (z 8), .ref (z 9), .ref (z 10), .ref (z 11), .ref (z 12), .int (xs 2), .ref (z 13), .ref (z 14), .int (xs 3), .ref (z 15)])), (z 1, .inl (gI g, 461, .inl D)), (z 6, .inl (gI g, 5, .inl pa)), (z 7, .inl (gI g, 7, .inl cf))] H) (hD : va_D A [(z 0, .inr (12, [.ref (z 1), .ref (z 2), .int (nI kp), .int (xs 0), .ref (z 3), .ref (z 4), .ref (z 5), .ref (z 6), .int (nI pn), .ref (z 7), .ref (z 8), .ref (z 9), .ref (z 10), .ref (z 11), .ref (z 12), .int (xs 2), .ref (z 13), .ref (z 14), .int (xs 3), .ref (z 15)])), (z 1, .inl (gI g, 461, .inl D)), (z 6, .inl (gI g, 5, .inl pa)), (z 7, .inl (gI g, 7, .inl cf))]) (hS : va_S A s.heap H locs) (ls : Array Slot) (hl : lv_has ls 2 [(1, .int (nI i)), (0, .ref (z 0))]), W p l e (kR 2 0 0) s m ([.ref (z 0)] : List Value).toArray below meth c H locs 0 0 (kQi g A below ([.ref (z 0)] : List Value).toArray s 0 0 (fun (r : Int32) (u : (Nat → Int32) × (Nat → Int32)) => True) (fun (u : (Nat → Int32) × (Nat → Int32)) => ([(z 0, .inr (12, [.ref (z 1), .ref (z 2), .int (nI kp), .int (u.1 0), .ref (z 3), .ref (z 4), .ref (z 5), .ref (z 6), .int (u.1 1), .ref (z 7), .ref (z 8), .ref (z 9), .ref (z 10), .ref (z 11), .ref (z 12), .int (u.1 2), .ref (z 13), .ref (z 14), .int (u.1 3), .ref (z 15)])), (z 1, .inl (gI g, 461, .inl D)), (z 6, .inl (gI g, 5, .inl u.2)), (z 7, .inl (gI g, 7, .inl cf))] : va_W))) (F0 m 7 ls []) := by
    intro n7
    induction n7 with
    | zero => intro i pn pa hfuel7; exact absurd hfuel7 (Nat.not_lt_zero _)
    | succ n7 ih7 =>
      intro i pn pa hfuel7 hi hpn H locs hP hD hS ls hl
      refine lv_iload_n hx hb dX12_read_7 rfl (lv_at hl 0 rfl) ?_
      refine lv_aload_n hx hb dX12_read_8 rfl (lv_at hl 1 rfl) ?_
      refine va_get (ci := 12) (C := RX12) (T := TX12) (N := 20) hx hb hts inlX12 hown hKW.1 hP 0 rfl rfl 0 (by decide) (hts _ wd_6_5) (fun _ h => h) rfl dX12_read_9 ?_
      refine lv_bipush (v := 10) hx hb dX12_read_12 (by decide) ?_
      obtain ⟨dk_1, hdk_1a, hdk_1b, edk_1⟩ := DI.n10 hDI
      refine va_iald hx hb hKW.1 hP 1 0 rfl rfl (show ¬ _ by decide) dX12_read_14 ?_
      refine k_top (y := nI dk_1) edk_1 ?_
      refine lv_icmp_ge (tgt := 43) hx hb dX12_read_15 (by decide) (fun c_2 => ?_) (fun c_2 => ?_)
      · have c_2n : dk_1 ≤ i := (k_leI (a := dk_1) (b := i) (by omega) (by omega)).mp c_2
        refine lv_aload_n hx hb dX12_read_43 rfl (lv_at hl 1 rfl) ?_
        refine va_get (ci := 12) (C := RX12) (T := TX12) (N := 20) hx hb hts inlX12 hown hKW.1 hP 0 rfl rfl 8 (by decide) (hts _ wd_27_11) (fun _ h => h) rfl dX12_read_44 ?_
        refine lv_iconst (v := 1) hx hb dX12_read_47 (by decide) ?_
        refine lv_icmp_ne (tgt := 55) hx hb dX12_read_48 (by decide) (fun c_3 => ?_) (fun c_3 => ?_)
        · have c_3n : ¬ pn = 1 := fun h => c_3 ((k_eqI (a := pn) (b := 1) (by omega) (by omega)).mpr h)
          refine lv_aload_n hx hb dX12_read_55 rfl (lv_at hl 1 rfl) ?_
          refine va_get (ci := 12) (C := RX12) (T := TX12) (N := 20) hx hb hts inlX12 hown hKW.1 hP 0 rfl rfl 0 (by decide) (hts _ wd_6_5) (fun _ h => h) rfl dX12_read_56 ?_
          refine lv_bipush (v := 10) hx hb dX12_read_59 (by decide) ?_
          refine va_iald hx hb hKW.1 hP 1 0 rfl rfl (show ¬ _ by decide) dX12_read_61 ?_
          refine k_top (y := nI dk_1) edk_1 ?_
          exact k_iret ((fun kk_ => ([(xs 0), (nI pn), (xs 2), (xs 3)] : List Int32).getD kk_ 0), pa) [0, 1, 2, 3] hx hb hr hlk hP hD hS trivial rfl rfl rfl (Nat.le_of_ble_eq_true rfl) (Nat.le_of_ble_eq_true rfl) dX12_read_62
        · have c_3n : pn = 1 := (k_eqI (a := pn) (b := 1) (by omega) (by omega)).mp c_3
          refine lv_iconst (v := (-1)) hx hb dX12_read_51 (by decide) ?_
          refine lv_goto (tgt := 62) hx hb dX12_read_52 (by decide) ?_
          exact k_iret ((fun kk_ => ([(xs 0), (nI pn), (xs 2), (xs 3)] : List Int32).getD kk_ 0), pa) [0, 1, 2, 3] hx hb hr hlk hP hD hS trivial rfl rfl rfl (Nat.le_of_ble_eq_true rfl) (Nat.le_of_ble_eq_true rfl) dX12_read_62
      · have c_2n : i < dk_1 := Nat.not_le.mp (fun h => c_2 ((k_leI (a := dk_1) (b := i) (by omega) (by omega)).mpr h))
        refine lv_aload_n hx hb dX12_read_18 rfl (lv_at hl 1 rfl) ?_
        refine lv_aload_n hx hb dX12_read_19 rfl (lv_at hl 1 rfl) ?_
        refine va_get (ci := 12) (C := RX12) (T := TX12) (N := 20) hx hb hts inlX12 hown hKW.1 hP 0 rfl rfl 0 (by decide) (hts _ wd_6_5) (fun _ h => h) rfl dX12_read_20 ?_
        refine lv_sipush (v := 207) hx hb dX12_read_23 (by decide) ?_
        refine lv_iload_n hx hb dX12_read_26 rfl (lv_at hl 0 rfl) ?_
        refine lv_iadd hx hb dX12_read_27 ?_
        refine k_top (y := nI (i + 207)) (by rw [Nat.add_comm]; exact nI_add 207 i) ?_
        refine va_iald hx hb hKW.1 hP 1 0 rfl rfl (vp_in_nI (by omega) (by decide)) dX12_read_28 ?_
        refine lv_topi (fun x_4 ex_4 => ?_)
        refine k_Vi [0, 2, 3] [1] 0 12 (wr := [(z 1, .inl (gI g, 461, .inl D))]) hx hb hml hown hts hKW hP hD hS hA hl.1 (c_X12_goes l g _ z kp xs pn pa cf x_4 (by first | assumption | omega | decide) (by rw [ex_4, nI_clamp (by omega), Nat.add_comm]; exact DI.txt hDI i (by omega))) rfl rfl rfl wd_27_15 wd_1_5 wd_27_12 wd_27_13 wd_27_14 yd_X12_goes ⟨(Nat.le_of_ble_eq_true rfl), (Nat.le_of_ble_eq_true rfl)⟩ rfl rfl rfl rfl (by decide) rfl (Nat.le_of_ble_eq_true rfl) dX12_read_29 ⟨(Nat.le_of_ble_eq_true rfl), (Nat.le_of_ble_eq_true rfl)⟩ (fun r_5 u_6 H locs hw_7 hP hD hS => ?_)
        obtain ⟨q_8, f_9⟩ := u_6
        have hP : va_P g.1 vwCl [(z 1, .inl (gI g, 461, .inl D)), (z 0, .inr (12, [.ref (z 1), .ref (z 2), .int (nI kp), .int (xs 0), .ref (z 3), .ref (z 4), .ref (z 5), .ref (z 6), .int (nI q_8), .ref (z 7), .ref (z 8), .ref (z 9), .ref (z 10), .ref (z 11), .ref (z 12), .int (xs 2), .ref (z 13), .ref (z 14), .int (xs 3), .ref (z 15)])), (z 6, .inl (gI g, 5, .inl f_9)), (z 7, .inl (gI g, 7, .inl cf))] H := hP
        have hD : va_D A [(z 1, .inl (gI g, 461, .inl D)), (z 0, .inr (12, [.ref (z 1), .ref (z 2), .int (nI kp), .int (xs 0), .ref (z 3), .ref (z 4), .ref (z 5), .ref (z 6), .int (nI q_8), .ref (z 7), .ref (z 8), .ref (z 9), .ref (z 10), .ref (z 11), .ref (z 12), .int (xs 2), .ref (z 13), .ref (z 14), .int (xs 3), .ref (z 15)])), (z 6, .inl (gI g, 5, .inl f_9)), (z 7, .inl (gI g, 7, .inl cf))] := hD
        obtain ⟨hw_7, hw_7e⟩ := hw_7
        have hw_7e : q_8 ≤ 5 := hw_7e
        have hpn1 := hw_7e
        rcases (show r_5 = 1 ∨ r_5 = 0 from hw_7) with rfl | rfl <;> clear hw_7
        · refine lv_if_ne (tgt := 37) hx hb dX12_read_32 (by decide) (fun _ => ?_) (fun c => absurd c (by decide))
          refine lv_iinc (v := nI (i + 1)) (lv' := [(1, .int (nI (i + 1))), (0, .ref (z 0))]) hx hb dX12_read_37 hl (k := 0) rfl (nI_add i 1) (by decide) rfl (fun ls hl => ?_)
          refine lv_goto (tgt := 7) hx hb dX12_read_40 (by decide) ?_
          exact ih7 (i + 1) q_8 f_9 (by omega) (by first | assumption | omega) (by first | assumption | omega) H locs (hP.sub [1, 0, 2, 3] rfl) (hD.sub [1, 0, 2, 3] (by decide) rfl) hS ls (lv_sub hl [0, 1] rfl)
        · refine lv_if_ne (tgt := 37) hx hb dX12_read_32 (by decide) (fun c => absurd c (by decide)) (fun _ => ?_)
          refine lv_iload_n hx hb dX12_read_35 rfl (lv_at hl 0 rfl) ?_
          exact k_iret ((fun kk_ => ([(xs 0), (nI q_8), (xs 2), (xs 3)] : List Int32).getD kk_ 0), f_9) [1, 0, 2, 3] hx hb hr hlk hP hD hS trivial rfl rfl rfl (Nat.le_of_ble_eq_true rfl) (Nat.le_of_ble_eq_true rfl) dX12_read_36
  exact L7 (14 - 0 + 1) 0 0 pf (Nat.lt_succ_self _) (by first | assumption | omega) (by first | assumption | omega) H locs (hP.sub [0, 1, 2, 3] rfl) (hD.sub [0, 1, 2, 3] (by decide) rfl) hS ls (lv_sub hl [0, 1] rfl)
theorem dX12_needOf_0 : decode cX12_needOf 0 = .ok (.iconst 0, 1) := by decide +kernel
theorem dX12_needOf_1 : decode cX12_needOf 1 = .ok (.istore_n 2, 1) := by decide +kernel
theorem dX12_needOf_2 : decode cX12_needOf 2 = .ok (.iload_n 2, 1) := by decide +kernel
theorem dX12_needOf_3 : decode cX12_needOf 3 = .ok (.bipush 7, 2) := by decide +kernel
theorem dX12_needOf_5 : decode cX12_needOf 5 = .ok (.if_icmp .ge 16, 3) := by decide +kernel
theorem dX12_needOf_21 : decode cX12_needOf 21 = .ok (.iconst 0, 1) := by decide +kernel
theorem dX12_needOf_22 : decode cX12_needOf 22 = .ok (.istore_n 2, 1) := by decide +kernel
theorem dX12_needOf_23 : decode cX12_needOf 23 = .ok (.iload_n 2, 1) := by decide +kernel
theorem dX12_needOf_24 : decode cX12_needOf 24 = .ok (.aload_n 0, 1) := by decide +kernel
theorem dX12_needOf_25 : decode cX12_needOf 25 = .ok (.getfield 7, 3) := by decide +kernel
theorem dX12_needOf_28 : decode cX12_needOf 28 = .ok (.iconst 2, 1) := by decide +kernel
theorem dX12_needOf_29 : decode cX12_needOf 29 = .ok (.iaload, 1) := by decide +kernel
theorem dX12_needOf_30 : decode cX12_needOf 30 = .ok (.if_icmp .ge 98, 3) := by decide +kernel
theorem dX12_needOf_128 : decode cX12_needOf 128 = .ok (.aload_n 0, 1) := by decide +kernel
theorem dX12_needOf_129 : decode cX12_needOf 129 = .ok (.getfield 28, 3) := by decide +kernel
theorem dX12_needOf_132 : decode cX12_needOf 132 = .ok (.iconst 5, 1) := by decide +kernel
theorem dX12_needOf_133 : decode cX12_needOf 133 = .ok (.iload_n 1, 1) := by decide +kernel
theorem dX12_needOf_134 : decode cX12_needOf 134 = .ok (.iastore, 1) := by decide +kernel
theorem dX12_needOf_135 : decode cX12_needOf 135 = .ok (.aload_n 0, 1) := by decide +kernel
theorem dX12_needOf_136 : decode cX12_needOf 136 = .ok (.invokevirtual 122, 3) := by decide +kernel
theorem dX12_needOf_139 : decode cX12_needOf 139 = .ok (.ifCond .lt 39, 3) := by decide +kernel
theorem dX12_needOf_178 : decode cX12_needOf 178 = .ok (.aload_n 0, 1) := by decide +kernel
theorem dX12_needOf_179 : decode cX12_needOf 179 = .ok (.getfield 25, 3) := by decide +kernel
theorem dX12_needOf_182 : decode cX12_needOf 182 = .ok (.iconst 0, 1) := by decide +kernel
theorem dX12_needOf_183 : decode cX12_needOf 183 = .ok (.iaload, 1) := by decide +kernel
theorem dX12_needOf_184 : decode cX12_needOf 184 = .ok (.ifCond .ge 7, 3) := by decide +kernel
theorem dX12_needOf_191 : decode cX12_needOf 191 = .ok (.aload_n 0, 1) := by decide +kernel
theorem dX12_needOf_192 : decode cX12_needOf 192 = .ok (.getfield 25, 3) := by decide +kernel
theorem dX12_needOf_195 : decode cX12_needOf 195 = .ok (.iconst 0, 1) := by decide +kernel
theorem dX12_needOf_196 : decode cX12_needOf 196 = .ok (.iaload, 1) := by decide +kernel
theorem dX12_needOf_197 : decode cX12_needOf 197 = .ok (.ireturn, 1) := by decide +kernel
theorem dX12_needOf_187 : decode cX12_needOf 187 = .ok (.iconst 0, 1) := by decide +kernel
theorem dX12_needOf_188 : decode cX12_needOf 188 = .ok (.goto 9, 3) := by decide +kernel
theorem dX12_needOf_142 : decode cX12_needOf 142 = .ok (.iconst 2, 1) := by decide +kernel
theorem dX12_needOf_143 : decode cX12_needOf 143 = .ok (.aload_n 0, 1) := by decide +kernel
theorem dX12_needOf_144 : decode cX12_needOf 144 = .ok (.getfield 28, 3) := by decide +kernel
theorem dX12_needOf_147 : decode cX12_needOf 147 = .ok (.iconst 1, 1) := by decide +kernel
theorem dX12_needOf_148 : decode cX12_needOf 148 = .ok (.iaload, 1) := by decide +kernel
theorem dX12_needOf_149 : decode cX12_needOf 149 = .ok (.iconst 3, 1) := by decide +kernel
theorem dX12_needOf_150 : decode cX12_needOf 150 = .ok (.invokestatic 126, 3) := by decide +kernel
theorem dX12_needOf_153 : decode cX12_needOf 153 = .ok (.aload_n 0, 1) := by decide +kernel
theorem dX12_needOf_154 : decode cX12_needOf 154 = .ok (.getfield 28, 3) := by decide +kernel
theorem dX12_needOf_157 : decode cX12_needOf 157 = .ok (.iconst 2, 1) := by decide +kernel
theorem dX12_needOf_158 : decode cX12_needOf 158 = .ok (.iaload, 1) := by decide +kernel
theorem dX12_needOf_159 : decode cX12_needOf 159 = .ok (.iconst 4, 1) := by decide +kernel
theorem dX12_needOf_160 : decode cX12_needOf 160 = .ok (.invokestatic 126, 3) := by decide +kernel
theorem dX12_needOf_163 : decode cX12_needOf 163 = .ok (.iadd, 1) := by decide +kernel
theorem dX12_needOf_164 : decode cX12_needOf 164 = .ok (.aload_n 0, 1) := by decide +kernel
theorem dX12_needOf_165 : decode cX12_needOf 165 = .ok (.getfield 28, 3) := by decide +kernel
theorem dX12_needOf_168 : decode cX12_needOf 168 = .ok (.iconst 3, 1) := by decide +kernel
theorem dX12_needOf_169 : decode cX12_needOf 169 = .ok (.iaload, 1) := by decide +kernel
theorem dX12_needOf_170 : decode cX12_needOf 170 = .ok (.bipush 8, 2) := by decide +kernel
theorem dX12_needOf_172 : decode cX12_needOf 172 = .ok (.invokestatic 126, 3) := by decide +kernel
theorem dX12_needOf_175 : decode cX12_needOf 175 = .ok (.iadd, 1) := by decide +kernel
theorem dX12_needOf_176 : decode cX12_needOf 176 = .ok (.imul, 1) := by decide +kernel
theorem dX12_needOf_177 : decode cX12_needOf 177 = .ok (.ireturn, 1) := by decide +kernel
theorem dX12_needOf_33 : decode cX12_needOf 33 = .ok (.aload_n 0, 1) := by decide +kernel
theorem dX12_needOf_34 : decode cX12_needOf 34 = .ok (.getfield 7, 3) := by decide +kernel
theorem dX12_needOf_37 : decode cX12_needOf 37 = .ok (.bipush 97, 2) := by decide +kernel
theorem dX12_needOf_39 : decode cX12_needOf 39 = .ok (.iload_n 2, 1) := by decide +kernel
theorem dX12_needOf_40 : decode cX12_needOf 40 = .ok (.iadd, 1) := by decide +kernel
theorem dX12_needOf_41 : decode cX12_needOf 41 = .ok (.iaload, 1) := by decide +kernel
theorem dX12_needOf_42 : decode cX12_needOf 42 = .ok (.iload_n 1, 1) := by decide +kernel
theorem dX12_needOf_43 : decode cX12_needOf 43 = .ok (.if_icmp .ne 79, 3) := by decide +kernel
theorem dX12_needOf_122 : decode cX12_needOf 122 = .ok (.iinc 2 1, 3) := by decide +kernel
theorem dX12_needOf_125 : decode cX12_needOf 125 = .ok (.goto (-102), 3) := by decide +kernel
theorem dX12_needOf_46 : decode cX12_needOf 46 = .ok (.aload_n 0, 1) := by decide +kernel
theorem dX12_needOf_47 : decode cX12_needOf 47 = .ok (.getfield 7, 3) := by decide +kernel
theorem dX12_needOf_50 : decode cX12_needOf 50 = .ok (.iconst 3, 1) := by decide +kernel
theorem dX12_needOf_51 : decode cX12_needOf 51 = .ok (.iaload, 1) := by decide +kernel
theorem dX12_needOf_52 : decode cX12_needOf 52 = .ok (.aload_n 0, 1) := by decide +kernel
theorem dX12_needOf_53 : decode cX12_needOf 53 = .ok (.getfield 7, 3) := by decide +kernel
theorem dX12_needOf_56 : decode cX12_needOf 56 = .ok (.bipush 47, 2) := by decide +kernel
theorem dX12_needOf_58 : decode cX12_needOf 58 = .ok (.iload_n 2, 1) := by decide +kernel
theorem dX12_needOf_59 : decode cX12_needOf 59 = .ok (.iadd, 1) := by decide +kernel
theorem dX12_needOf_60 : decode cX12_needOf 60 = .ok (.iaload, 1) := by decide +kernel
theorem dX12_needOf_61 : decode cX12_needOf 61 = .ok (.isub, 1) := by decide +kernel
theorem dX12_needOf_62 : decode cX12_needOf 62 = .ok (.istore_n 3, 1) := by decide +kernel
theorem dX12_needOf_63 : decode cX12_needOf 63 = .ok (.aload_n 0, 1) := by decide +kernel
theorem dX12_needOf_64 : decode cX12_needOf 64 = .ok (.getfield 28, 3) := by decide +kernel
theorem dX12_needOf_67 : decode cX12_needOf 67 = .ok (.iload_n 3, 1) := by decide +kernel
theorem dX12_needOf_68 : decode cX12_needOf 68 = .ok (.bipush 24, 2) := by decide +kernel
theorem dX12_needOf_70 : decode cX12_needOf 70 = .ok (.if_icmp .ge 7, 3) := by decide +kernel
theorem dX12_needOf_77 : decode cX12_needOf 77 = .ok (.iload_n 3, 1) := by decide +kernel
theorem dX12_needOf_78 : decode cX12_needOf 78 = .ok (.bipush 36, 2) := by decide +kernel
theorem dX12_needOf_80 : decode cX12_needOf 80 = .ok (.if_icmp .ge 7, 3) := by decide +kernel
theorem dX12_needOf_87 : decode cX12_needOf 87 = .ok (.iconst 3, 1) := by decide +kernel
theorem dX12_needOf_88 : decode cX12_needOf 88 = .ok (.dup2, 1) := by decide +kernel
theorem dX12_needOf_89 : decode cX12_needOf 89 = .ok (.iaload, 1) := by decide +kernel
theorem dX12_needOf_90 : decode cX12_needOf 90 = .ok (.iconst 1, 1) := by decide +kernel
theorem dX12_needOf_91 : decode cX12_needOf 91 = .ok (.iadd, 1) := by decide +kernel
theorem dX12_needOf_92 : decode cX12_needOf 92 = .ok (.iastore, 1) := by decide +kernel
theorem dX12_needOf_93 : decode cX12_needOf 93 = .ok (.aload_n 0, 1) := by decide +kernel
theorem dX12_needOf_94 : decode cX12_needOf 94 = .ok (.getfield 28, 3) := by decide +kernel
theorem dX12_needOf_97 : decode cX12_needOf 97 = .ok (.iconst 4, 1) := by decide +kernel
theorem dX12_needOf_98 : decode cX12_needOf 98 = .ok (.dup2, 1) := by decide +kernel
theorem dX12_needOf_99 : decode cX12_needOf 99 = .ok (.iaload, 1) := by decide +kernel
theorem dX12_needOf_100 : decode cX12_needOf 100 = .ok (.aload_n 0, 1) := by decide +kernel
theorem dX12_needOf_101 : decode cX12_needOf 101 = .ok (.getfield 7, 3) := by decide +kernel
theorem dX12_needOf_104 : decode cX12_needOf 104 = .ok (.bipush 107, 2) := by decide +kernel
theorem dX12_needOf_106 : decode cX12_needOf 106 = .ok (.iload_n 2, 1) := by decide +kernel
theorem dX12_needOf_107 : decode cX12_needOf 107 = .ok (.iadd, 1) := by decide +kernel
theorem dX12_needOf_108 : decode cX12_needOf 108 = .ok (.iaload, 1) := by decide +kernel
theorem dX12_needOf_109 : decode cX12_needOf 109 = .ok (.iadd, 1) := by decide +kernel
theorem dX12_needOf_110 : decode cX12_needOf 110 = .ok (.iastore, 1) := by decide +kernel
theorem dX12_needOf_111 : decode cX12_needOf 111 = .ok (.aload_n 0, 1) := by decide +kernel
theorem dX12_needOf_112 : decode cX12_needOf 112 = .ok (.getfield 28, 3) := by decide +kernel
theorem dX12_needOf_115 : decode cX12_needOf 115 = .ok (.bipush 6, 2) := by decide +kernel
theorem dX12_needOf_117 : decode cX12_needOf 117 = .ok (.dup2, 1) := by decide +kernel
theorem dX12_needOf_118 : decode cX12_needOf 118 = .ok (.iaload, 1) := by decide +kernel
theorem dX12_needOf_119 : decode cX12_needOf 119 = .ok (.iconst 1, 1) := by decide +kernel
theorem dX12_needOf_120 : decode cX12_needOf 120 = .ok (.iadd, 1) := by decide +kernel
theorem dX12_needOf_121 : decode cX12_needOf 121 = .ok (.iastore, 1) := by decide +kernel
theorem dX12_needOf_83 : decode cX12_needOf 83 = .ok (.iconst 2, 1) := by decide +kernel
theorem dX12_needOf_84 : decode cX12_needOf 84 = .ok (.goto 4, 3) := by decide +kernel
theorem dX12_needOf_73 : decode cX12_needOf 73 = .ok (.iconst 1, 1) := by decide +kernel
theorem dX12_needOf_74 : decode cX12_needOf 74 = .ok (.goto 14, 3) := by decide +kernel
theorem dX12_needOf_8 : decode cX12_needOf 8 = .ok (.aload_n 0, 1) := by decide +kernel
theorem dX12_needOf_9 : decode cX12_needOf 9 = .ok (.getfield 28, 3) := by decide +kernel
theorem dX12_needOf_12 : decode cX12_needOf 12 = .ok (.iload_n 2, 1) := by decide +kernel
theorem dX12_needOf_13 : decode cX12_needOf 13 = .ok (.iconst 0, 1) := by decide +kernel
theorem dX12_needOf_14 : decode cX12_needOf 14 = .ok (.iastore, 1) := by decide +kernel
theorem dX12_needOf_15 : decode cX12_needOf 15 = .ok (.iinc 2 1, 3) := by decide +kernel
theorem dX12_needOf_18 : decode cX12_needOf 18 = .ok (.goto (-16), 3) := by decide +kernel
set_option maxHeartbeats 8000000 in
set_option maxRecDepth 100000 in
theorem c_X12_needOf (l : Launch) (g : kG) (sz : Nat) (z : Nat → Nat) (kp : Nat) (xs : Nat → Int32) (D : Nat → Int32) (pf : Nat → Int32) (cf : Nat → Int32) (x : Int32) (hDI : DI D) : kMi l g yX12_needOf cX12_needOf 4 (some .int) 3 0 0 [.ref (z 0), .int x] sz [(z 0, .inr (12, [.ref (z 1), .ref (z 2), .int (nI kp), .int (xs 0), .ref (z 3), .ref (z 4), .ref (z 5), .ref (z 6), .int (xs 1), .ref (z 7), .ref (z 8), .ref (z 9), .ref (z 10), .ref (z 11), .ref (z 12), .int (xs 2), .ref (z 13), .ref (z 14), .int (xs 3), .ref (z 15)])), (z 1, .inl (gI g, 461, .inl D)), (z 6, .inl (gI g, 5, .inl pf)), (z 7, .inl (gI g, 7, .inl cf))] (fun (r : Int32) (u : (Nat → Int32) × (Nat → Int32) × (Nat → Int32)) => True) (fun (u : (Nat → Int32) × (Nat → Int32) × (Nat → Int32)) => ([(z 0, .inr (12, [.ref (z 1), .ref (z 2), .int (nI kp), .int (u.1 0), .ref (z 3), .ref (z 4), .ref (z 5), .ref (z 6), .int (u.1 1), .ref (z 7), .ref (z 8), .ref (z 9), .ref (z 10), .ref (z 11), .ref (z 12), .int (u.1 2), .ref (z 13), .ref (z 14), .int (u.1 3), .ref (z 15)])), (z 1, .inl (gI g, 461, .inl D)), (z 6, .inl (gI g, 5, .inl u.2.1)), (z 7, .inl (gI g, 7, .inl u.2.2))] : va_W)) := by
  refine kMi.of (by decide) (Nat.le_of_ble_eq_true rfl) (fun p e s m below meth c A hx hb hr hml hown hts hlk hnm hKW hP hD hS hA ls hl => ?_)
  have hown : s.vm.findClass RX12 = some m.cls := hown
  have hl : lv_has ls 4 [(0, .ref (z 0)), (1, .int x)] := hl
  refine k_hide hP hS (fun H locs hP hS => ?_)
  refine lv_iconst (v := 0) hx hb dX12_needOf_0 (by decide) ?_
  refine lv_istore_n (lv' := [(2, .int 0), (0, .ref (z 0)), (1, .int x)]) hx hb dX12_needOf_1 rfl hl (by decide) rfl (fun ls hl => ?_)
  have L2 : ∀ (n2 : Nat) (i : Nat) (ga : Nat → Int32) (hfuel2 : 7 - i < n2) (hi : i ≤ 7) (H : Heap) (locs : List Loc) (hP : va_P g.1 vwCl [(z 0, .inr (12, [.ref (z 1), .ref (z 2), .int (nI kp), .int (xs 0), .ref (z 3), .ref (z 4), .ref (z 5), .ref (z 6), .int (xs 1), .ref (z 7), .ref (z 8), .ref (z 9), .ref (z 10), .ref (z 11), .ref (z 12), .int (xs 2), .ref (z 13), .ref (z 14), .int (xs 3), .ref (z 15)])), (z 1, .inl (gI g, 461, .inl D)), (z 6, .inl (gI g, 5, .inl pf)), (z 7, .inl (gI g, 7, .inl ga))] H) (hD : va_D A [(z 0, .inr (12, [.ref (z 1), .ref (z 2), .int (nI kp), .int (xs 0), .ref (z 3), .ref (z 4), .ref (z 5), .ref (z 6), .int (xs 1), .ref (z 7), .ref (z 8), .ref (z 9), .ref (z 10), .ref (z 11), .ref (z 12), .int (xs 2), .ref (z 13), .ref (z 14), .int (xs 3), .ref (z 15)])), (z 1, .inl (gI g, 461, .inl D)), (z 6, .inl (gI g, 5, .inl pf)), (z 7, .inl (gI g, 7, .inl ga))]) (hS : va_S A s.heap H locs) (ls : Array Slot) (hl : lv_has ls 4 [(2, .int (nI i)), (0, .ref (z 0)), (1, .int x)]), W p l e (kR 3 0 0) s m ([.ref (z 0), .int x] : List Value).toArray below meth c H locs 0 0 (kQi g A below ([.ref (z 0), .int x] : List Value).toArray s 0 0 (fun (r : Int32) (u : (Nat → Int32) × (Nat → Int32) × (Nat → Int32)) => True) (fun (u : (Nat → Int32) × (Nat → Int32) × (Nat → Int32)) => ([(z 0, .inr (12, [.ref (z 1), .ref (z 2), .int (nI kp), .int (u.1 0), .ref (z 3), .ref (z 4), .ref (z 5), .ref (z 6), .int (u.1 1), .ref (z 7), .ref (z 8), .ref (z 9), .ref (z 10), .ref (z 11), .ref (z 12), .int (u.1 2), .ref (z 13), .ref (z 14), .int (u.1 3), .ref (z 15)])), (z 1, .inl (gI g, 461, .inl D)), (z 6, .inl (gI g, 5, .inl u.2.1)), (z 7, .inl (gI g, 7, .inl u.2.2))] : va_W))) (F0 m 2 ls []) := by
    intro n2
    induction n2 with
    | zero => intro i ga hfuel2; exact absurd hfuel2 (Nat.not_lt_zero _)
    | succ n2 ih2 =>
      intro i ga hfuel2 hi H locs hP hD hS ls hl
      refine lv_iload_n hx hb dX12_needOf_2 rfl (lv_at hl 0 rfl) ?_
      refine lv_bipush (v := 7) hx hb dX12_needOf_3 (by decide) ?_
      refine lv_icmp_ge (tgt := 21) hx hb dX12_needOf_5 (by decide) (fun c_1 => ?_) (fun c_1 => ?_)
      · have c_1n : 7 ≤ i := (k_leI (a := 7) (b := i) (by omega) (by omega)).mp c_1
        refine lv_iconst (v := 0) hx hb dX12_needOf_21 (by decide) ?_
        refine lv_istore_n (lv' := [(2, .int 0), (0, .ref (z 0)), (1, .int x)]) hx hb dX12_needOf_22 rfl hl (by decide) rfl (fun ls hl => ?_)
        have L23 : ∀ (n23 : Nat) (i : Nat) (ga : Nat → Int32) (hfuel23 : 10 - i < n23) (hi : i ≤ 10) (H : Heap) (locs : List Loc) (hP : va_P g.1 vwCl [(z 0, .inr (12, [.ref (z 1), .ref (z 2), .int (nI kp), .int (xs 0), .ref (z 3), .ref (z 4), .ref (z 5), .ref (z 6), .int (xs 1), .ref (z 7), .ref (z 8), .ref (z 9), .ref (z 10), .ref (z 11), .ref (z 12), .int (xs 2), .ref (z 13), .ref (z 14), .int (xs 3), .ref (z 15)])), (z 1, .inl (gI g, 461, .inl D)), (z 6, .inl (gI g, 5, .inl pf)), (z 7, .inl (gI g, 7, .inl ga))] H) (hD : va_D A [(z 0, .inr (12, [.ref (z 1), .ref (z 2), .int (nI kp), .int (xs 0), .ref (z 3), .ref (z 4), .ref (z 5), .ref (z 6), .int (xs 1), .ref (z 7), .ref (z 8), .ref (z 9), .ref (z 10), .ref (z 11), .ref (z 12), .int (xs 2), .ref (z 13), .ref (z 14), .int (xs 3), .ref (z 15)])), (z 1, .inl (gI g, 461, .inl D)), (z 6, .inl (gI g, 5, .inl pf)), (z 7, .inl (gI g, 7, .inl ga))]) (hS : va_S A s.heap H locs) (ls : Array Slot) (hl : lv_has ls 4 [(2, .int (nI i)), (0, .ref (z 0)), (1, .int x)]), W p l e (kR 3 0 0) s m ([.ref (z 0), .int x] : List Value).toArray below meth c H locs 0 0 (kQi g A below ([.ref (z 0), .int x] : List Value).toArray s 0 0 (fun (r : Int32) (u : (Nat → Int32) × (Nat → Int32) × (Nat → Int32)) => True) (fun (u : (Nat → Int32) × (Nat → Int32) × (Nat → Int32)) => ([(z 0, .inr (12, [.ref (z 1), .ref (z 2), .int (nI kp), .int (u.1 0), .ref (z 3), .ref (z 4), .ref (z 5), .ref (z 6), .int (u.1 1), .ref (z 7), .ref (z 8), .ref (z 9), .ref (z 10), .ref (z 11), .ref (z 12), .int (u.1 2), .ref (z 13), .ref (z 14), .int (u.1 3), .ref (z 15)])), (z 1, .inl (gI g, 461, .inl D)), (z 6, .inl (gI g, 5, .inl u.2.1)), (z 7, .inl (gI g, 7, .inl u.2.2))] : va_W))) (F0 m 23 ls []) := by
          intro n23
          induction n23 with
          | zero => intro i ga hfuel23; exact absurd hfuel23 (Nat.not_lt_zero _)
          | succ n23 ih23 =>
            intro i ga hfuel23 hi H locs hP hD hS ls hl
            refine lv_iload_n hx hb dX12_needOf_23 rfl (lv_at hl 0 rfl) ?_
            refine lv_aload_n hx hb dX12_needOf_24 rfl (lv_at hl 1 rfl) ?_
            refine va_get (ci := 12) (C := RX12) (T := TX12) (N := 20) hx hb hts inlX12 hown hKW.1 hP 0 rfl rfl 0 (by decide) (hts _ wd_6_5) (fun _ h => h) rfl dX12_needOf_25 ?_
            refine lv_iconst (v := 2) hx hb dX12_needOf_28 (by decide) ?_
            obtain ⟨dk_2, hdk_2a, hdk_2b, edk_2⟩ := DI.n2 hDI
            refine va_iald hx hb hKW.1 hP 1 0 rfl rfl (show ¬ _ by decide) dX12_needOf_29 ?_
            refine k_top (y := nI dk_2) edk_2 ?_
            refine lv_icmp_ge (tgt := 128) hx hb dX12_needOf_30 (by decide) (fun c_3 => ?_) (fun c_3 => ?_)
            · have c_3n : dk_2 ≤ i := (k_leI (a := dk_2) (b := i) (by omega) (by omega)).mp c_3
              refine lv_aload_n hx hb dX12_needOf_128 rfl (lv_at hl 1 rfl) ?_
              refine va_get (ci := 12) (C := RX12) (T := TX12) (N := 20) hx hb hts inlX12 hown hKW.1 hP 0 rfl rfl 9 (by decide) (hts _ wd_6_11) (fun _ h => h) rfl dX12_needOf_129 ?_
              refine lv_iconst (v := 5) hx hb dX12_needOf_132 (by decide) ?_
              refine lv_iload_n hx hb dX12_needOf_133 rfl (lv_at hl 2 rfl) ?_
              refine va_iast hx hb hKW.1 hP hD hS 3 0 rfl rfl (show ¬ _ by decide) dX12_needOf_134 (fun H locs hP hD hS => ?_)
              have hP : va_P g.1 vwCl [(z 0, .inr (12, [.ref (z 1), .ref (z 2), .int (nI kp), .int (xs 0), .ref (z 3), .ref (z 4), .ref (z 5), .ref (z 6), .int (xs 1), .ref (z 7), .ref (z 8), .ref (z 9), .ref (z 10), .ref (z 11), .ref (z 12), .int (xs 2), .ref (z 13), .ref (z 14), .int (xs 3), .ref (z 15)])), (z 1, .inl (gI g, 461, .inl D)), (z 6, .inl (gI g, 5, .inl pf)), (z 7, .inl (gI g, 7, .inl (upd ga 5 x)))] H := hP
              have hD : va_D A [(z 0, .inr (12, [.ref (z 1), .ref (z 2), .int (nI kp), .int (xs 0), .ref (z 3), .ref (z 4), .ref (z 5), .ref (z 6), .int (xs 1), .ref (z 7), .ref (z 8), .ref (z 9), .ref (z 10), .ref (z 11), .ref (z 12), .int (xs 2), .ref (z 13), .ref (z 14), .int (xs 3), .ref (z 15)])), (z 1, .inl (gI g, 461, .inl D)), (z 6, .inl (gI g, 5, .inl pf)), (z 7, .inl (gI g, 7, .inl (upd ga 5 x)))] := hD
              obtain ⟨f_4, ef_4⟩ : ∃ zz_ : Nat → Int32, zz_ = upd ga 5 x := ⟨_, rfl⟩
              rw [← ef_4] at hP hD
              refine lv_aload_n hx hb dX12_needOf_135 rfl (lv_at hl 1 rfl) ?_
              refine k_Vi [0, 1, 2, 3] [] 0 12 (wr := []) hx hb hml hown hts hKW hP hD hS hA hl.1 (c_X12_read l g _ z kp xs D pf f_4 (by first | assumption | omega | decide)) rfl rfl rfl wd_27_10 wd_1_5 wd_27_7 wd_27_8 wd_27_9 yd_X12_read ⟨(Nat.le_of_ble_eq_true rfl), (Nat.le_of_ble_eq_true rfl)⟩ rfl rfl rfl rfl (by decide) rfl (Nat.le_of_ble_eq_true rfl) dX12_needOf_136 ⟨(Nat.le_of_ble_eq_true rfl), (Nat.le_of_ble_eq_true rfl)⟩ (fun r_5 u_6 H locs hw_7 hP hD hS => ?_)
              obtain ⟨f_8, f_9⟩ := u_6
              have hP : va_P g.1 vwCl [(z 0, .inr (12, [.ref (z 1), .ref (z 2), .int (nI kp), .int (f_8 0), .ref (z 3), .ref (z 4), .ref (z 5), .ref (z 6), .int (f_8 1), .ref (z 7), .ref (z 8), .ref (z 9), .ref (z 10), .ref (z 11), .ref (z 12), .int (f_8 2), .ref (z 13), .ref (z 14), .int (f_8 3), .ref (z 15)])), (z 1, .inl (gI g, 461, .inl D)), (z 6, .inl (gI g, 5, .inl f_9)), (z 7, .inl (gI g, 7, .inl f_4))] H := hP
              have hD : va_D A [(z 0, .inr (12, [.ref (z 1), .ref (z 2), .int (nI kp), .int (f_8 0), .ref (z 3), .ref (z 4), .ref (z 5), .ref (z 6), .int (f_8 1), .ref (z 7), .ref (z 8), .ref (z 9), .ref (z 10), .ref (z 11), .ref (z 12), .int (f_8 2), .ref (z 13), .ref (z 14), .int (f_8 3), .ref (z 15)])), (z 1, .inl (gI g, 461, .inl D)), (z 6, .inl (gI g, 5, .inl f_9)), (z 7, .inl (gI g, 7, .inl f_4))] := hD
              refine lv_if_lt (tgt := 178) hx hb dX12_needOf_139 (by decide) (fun c_10 => ?_) (fun c_10 => ?_)
              · refine lv_aload_n hx hb dX12_needOf_178 rfl (lv_at hl 1 rfl) ?_
                refine va_get (ci := 12) (C := RX12) (T := TX12) (N := 20) hx hb hts inlX12 hown hKW.1 hP 0 rfl rfl 7 (by decide) (hts _ wd_6_10) (fun _ h => h) rfl dX12_needOf_179 ?_
                refine lv_iconst (v := 0) hx hb dX12_needOf_182 (by decide) ?_
                refine va_iald hx hb hKW.1 hP 2 0 rfl rfl (show ¬ _ by decide) dX12_needOf_183 ?_
                refine lv_topi (fun x_11 ex_11 => ?_)
                refine lv_if_ge (tgt := 191) hx hb dX12_needOf_184 (by decide) (fun c_12 => ?_) (fun c_12 => ?_)
                · refine lv_aload_n hx hb dX12_needOf_191 rfl (lv_at hl 1 rfl) ?_
                  refine va_get (ci := 12) (C := RX12) (T := TX12) (N := 20) hx hb hts inlX12 hown hKW.1 hP 0 rfl rfl 7 (by decide) (hts _ wd_6_10) (fun _ h => h) rfl dX12_needOf_192 ?_
                  refine lv_iconst (v := 0) hx hb dX12_needOf_195 (by decide) ?_
                  refine va_iald hx hb hKW.1 hP 2 0 rfl rfl (show ¬ _ by decide) dX12_needOf_196 ?_
                  refine lv_topi (fun x_13 ex_13 => ?_)
                  exact k_iret (f_8, f_9, f_4) [0, 1, 2, 3] hx hb hr hlk hP hD hS trivial rfl rfl rfl (Nat.le_of_ble_eq_true rfl) (Nat.le_of_ble_eq_true rfl) dX12_needOf_197
                · refine lv_iconst (v := 0) hx hb dX12_needOf_187 (by decide) ?_
                  refine lv_goto (tgt := 197) hx hb dX12_needOf_188 (by decide) ?_
                  exact k_iret (f_8, f_9, f_4) [0, 1, 2, 3] hx hb hr hlk hP hD hS trivial rfl rfl rfl (Nat.le_of_ble_eq_true rfl) (Nat.le_of_ble_eq_true rfl) dX12_needOf_197
              · refine lv_iconst (v := 2) hx hb dX12_needOf_142 (by decide) ?_
                refine lv_aload_n hx hb dX12_needOf_143 rfl (lv_at hl 1 rfl) ?_
                refine va_get (ci := 12) (C := RX12) (T := TX12) (N := 20) hx hb hts inlX12 hown hKW.1 hP 0 rfl rfl 9 (by decide) (hts _ wd_6_11) (fun _ h => h) rfl dX12_needOf_144 ?_
                refine lv_iconst (v := 1) hx hb dX12_needOf_147 (by decide) ?_
                refine va_iald hx hb hKW.1 hP 3 0 rfl rfl (show ¬ _ by decide) dX12_needOf_148 ?_
                refine lv_topi (fun x_14 ex_14 => ?_)
                refine lv_iconst (v := 3) hx hb dX12_needOf_149 (by decide) ?_
                refine k_Si [] [0, 1, 2, 3] (wr := [(z 0, .inr (12, [.ref (z 1), .ref (z 2), .int (nI kp), .int (f_8 0), .ref (z 3), .ref (z 4), .ref (z 5), .ref (z 6), .int (f_8 1), .ref (z 7), .ref (z 8), .ref (z 9), .ref (z 10), .ref (z 11), .ref (z 12), .int (f_8 2), .ref (z 13), .ref (z 14), .int (f_8 3), .ref (z 15)])), (z 1, .inl (gI g, 461, .inl D)), (z 6, .inl (gI g, 5, .inl f_9)), (z 7, .inl (gI g, 7, .inl f_4))]) hx hb hml hown hts hKW hP hD hS hA hl.1 (c_X12_upwards l g _ x_14 3 (by first | assumption | omega | decide)) wd_27_18 wd_1_5 wd_27_16 wd_27_17 yd_X12_upwards ⟨(Nat.le_of_ble_eq_true rfl), (Nat.le_of_ble_eq_true rfl)⟩ rfl rfl rfl rfl (by decide) rfl (Nat.le_of_ble_eq_true rfl) dX12_needOf_150 ⟨(Nat.le_of_ble_eq_true rfl), (Nat.le_of_ble_eq_true rfl)⟩ (fun r_15 u_16 H locs hw_17 hP hD hS => ?_)
                have hP : va_P g.1 vwCl [(z 0, .inr (12, [.ref (z 1), .ref (z 2), .int (nI kp), .int (f_8 0), .ref (z 3), .ref (z 4), .ref (z 5), .ref (z 6), .int (f_8 1), .ref (z 7), .ref (z 8), .ref (z 9), .ref (z 10), .ref (z 11), .ref (z 12), .int (f_8 2), .ref (z 13), .ref (z 14), .int (f_8 3), .ref (z 15)])), (z 1, .inl (gI g, 461, .inl D)), (z 6, .inl (gI g, 5, .inl f_9)), (z 7, .inl (gI g, 7, .inl f_4))] H := hP
                have hD : va_D A [(z 0, .inr (12, [.ref (z 1), .ref (z 2), .int (nI kp), .int (f_8 0), .ref (z 3), .ref (z 4), .ref (z 5), .ref (z 6), .int (f_8 1), .ref (z 7), .ref (z 8), .ref (z 9), .ref (z 10), .ref (z 11), .ref (z 12), .int (f_8 2), .ref (z 13), .ref (z 14), .int (f_8 3), .ref (z 15)])), (z 1, .inl (gI g, 461, .inl D)), (z 6, .inl (gI g, 5, .inl f_9)), (z 7, .inl (gI g, 7, .inl f_4))] := hD
                refine lv_aload_n hx hb dX12_needOf_153 rfl (lv_at hl 1 rfl) ?_
                refine va_get (ci := 12) (C := RX12) (T := TX12) (N := 20) hx hb hts inlX12 hown hKW.1 hP 0 rfl rfl 9 (by decide) (hts _ wd_6_11) (fun _ h => h) rfl dX12_needOf_154 ?_
                refine lv_iconst (v := 2) hx hb dX12_needOf_157 (by decide) ?_
                refine va_iald hx hb hKW.1 hP 3 0 rfl rfl (show ¬ _ by decide) dX12_needOf_158 ?_
                refine lv_topi (fun x_18 ex_18 => ?_)
                refine lv_iconst (v := 4) hx hb dX12_needOf_159 (by decide) ?_
                refine k_Si [] [0, 1, 2, 3] (wr := [(z 0, .inr (12, [.ref (z 1), .ref (z 2), .int (nI kp), .int (f_8 0), .ref (z 3), .ref (z 4), .ref (z 5), .ref (z 6), .int (f_8 1), .ref (z 7), .ref (z 8), .ref (z 9), .ref (z 10), .ref (z 11), .ref (z 12), .int (f_8 2), .ref (z 13), .ref (z 14), .int (f_8 3), .ref (z 15)])), (z 1, .inl (gI g, 461, .inl D)), (z 6, .inl (gI g, 5, .inl f_9)), (z 7, .inl (gI g, 7, .inl f_4))]) hx hb hml hown hts hKW hP hD hS hA hl.1 (c_X12_upwards l g _ x_18 4 (by first | assumption | omega | decide)) wd_27_18 wd_1_5 wd_27_16 wd_27_17 yd_X12_upwards ⟨(Nat.le_of_ble_eq_true rfl), (Nat.le_of_ble_eq_true rfl)⟩ rfl rfl rfl rfl (by decide) rfl (Nat.le_of_ble_eq_true rfl) dX12_needOf_160 ⟨(Nat.le_of_ble_eq_true rfl), (Nat.le_of_ble_eq_true rfl)⟩ (fun r_19 u_20 H locs hw_21 hP hD hS => ?_)
                have hP : va_P g.1 vwCl [(z 0, .inr (12, [.ref (z 1), .ref (z 2), .int (nI kp), .int (f_8 0), .ref (z 3), .ref (z 4), .ref (z 5), .ref (z 6), .int (f_8 1), .ref (z 7), .ref (z 8), .ref (z 9), .ref (z 10), .ref (z 11), .ref (z 12), .int (f_8 2), .ref (z 13), .ref (z 14), .int (f_8 3), .ref (z 15)])), (z 1, .inl (gI g, 461, .inl D)), (z 6, .inl (gI g, 5, .inl f_9)), (z 7, .inl (gI g, 7, .inl f_4))] H := hP
                have hD : va_D A [(z 0, .inr (12, [.ref (z 1), .ref (z 2), .int (nI kp), .int (f_8 0), .ref (z 3), .ref (z 4), .ref (z 5), .ref (z 6), .int (f_8 1), .ref (z 7), .ref (z 8), .ref (z 9), .ref (z 10), .ref (z 11), .ref (z 12), .int (f_8 2), .ref (z 13), .ref (z 14), .int (f_8 3), .ref (z 15)])), (z 1, .inl (gI g, 461, .inl D)), (z 6, .inl (gI g, 5, .inl f_9)), (z 7, .inl (gI g, 7, .inl f_4))] := hD
                refine lv_iadd hx hb dX12_needOf_163 ?_
                refine lv_topi (fun x_22 ex_22 => ?_)
                refine lv_aload_n hx hb dX12_needOf_164 rfl (lv_at hl 1 rfl) ?_
                refine va_get (ci := 12) (C := RX12) (T := TX12) (N := 20) hx hb hts inlX12 hown hKW.1 hP 0 rfl rfl 9 (by decide) (hts _ wd_6_11) (fun _ h => h) rfl dX12_needOf_165 ?_
                refine lv_iconst (v := 3) hx hb dX12_needOf_168 (by decide) ?_
                refine va_iald hx hb hKW.1 hP 3 0 rfl rfl (show ¬ _ by decide) dX12_needOf_169 ?_
                refine lv_topi (fun x_23 ex_23 => ?_)
                refine lv_bipush (v := 8) hx hb dX12_needOf_170 (by decide) ?_
                refine k_Si [] [0, 1, 2, 3] (wr := [(z 0, .inr (12, [.ref (z 1), .ref (z 2), .int (nI kp), .int (f_8 0), .ref (z 3), .ref (z 4), .ref (z 5), .ref (z 6), .int (f_8 1), .ref (z 7), .ref (z 8), .ref (z 9), .ref (z 10), .ref (z 11), .ref (z 12), .int (f_8 2), .ref (z 13), .ref (z 14), .int (f_8 3), .ref (z 15)])), (z 1, .inl (gI g, 461, .inl D)), (z 6, .inl (gI g, 5, .inl f_9)), (z 7, .inl (gI g, 7, .inl f_4))]) hx hb hml hown hts hKW hP hD hS hA hl.1 (c_X12_upwards l g _ x_23 8 (by first | assumption | omega | decide)) wd_27_18 wd_1_5 wd_27_16 wd_27_17 yd_X12_upwards ⟨(Nat.le_of_ble_eq_true rfl), (Nat.le_of_ble_eq_true rfl)⟩ rfl rfl rfl rfl (by decide) rfl (Nat.le_of_ble_eq_true rfl) dX12_needOf_172 ⟨(Nat.le_of_ble_eq_true rfl), (Nat.le_of_ble_eq_true rfl)⟩ (fun r_24 u_25 H locs hw_26 hP hD hS => ?_)
                have hP : va_P g.1 vwCl [(z 0, .inr (12, [.ref (z 1), .ref (z 2), .int (nI kp), .int (f_8 0), .ref (z 3), .ref (z 4), .ref (z 5), .ref (z 6), .int (f_8 1), .ref (z 7), .ref (z 8), .ref (z 9), .ref (z 10), .ref (z 11), .ref (z 12), .int (f_8 2), .ref (z 13), .ref (z 14), .int (f_8 3), .ref (z 15)])), (z 1, .inl (gI g, 461, .inl D)), (z 6, .inl (gI g, 5, .inl f_9)), (z 7, .inl (gI g, 7, .inl f_4))] H := hP
                have hD : va_D A [(z 0, .inr (12, [.ref (z 1), .ref (z 2), .int (nI kp), .int (f_8 0), .ref (z 3), .ref (z 4), .ref (z 5), .ref (z 6), .int (f_8 1), .ref (z 7), .ref (z 8), .ref (z 9), .ref (z 10), .ref (z 11), .ref (z 12), .int (f_8 2), .ref (z 13), .ref (z 14), .int (f_8 3), .ref (z 15)])), (z 1, .inl (gI g, 461, .inl D)), (z 6, .inl (gI g, 5, .inl f_9)), (z 7, .inl (gI g, 7, .inl f_4))] := hD
                refine lv_iadd hx hb dX12_needOf_175 ?_
                refine lv_topi (fun x_27 ex_27 => ?_)
                refine lv_imul hx hb dX12_needOf_176 ?_
                refine lv_topi (fun x_28 ex_28 => ?_)
                exact k_iret (f_8, f_9, f_4) [0, 1, 2, 3] hx hb hr hlk hP hD hS trivial rfl rfl rfl (Nat.le_of_ble_eq_true rfl) (Nat.le_of_ble_eq_true rfl) dX12_needOf_177
            · have c_3n : i < dk_2 := Nat.not_le.mp (fun h => c_3 ((k_leI (a := dk_2) (b := i) (by omega) (by omega)).mpr h))
              refine lv_aload_n hx hb dX12_needOf_33 rfl (lv_at hl 1 rfl) ?_
              refine va_get (ci := 12) (C := RX12) (T := TX12) (N := 20) hx hb hts inlX12 hown hKW.1 hP 0 rfl rfl 0 (by decide) (hts _ wd_6_5) (fun _ h => h) rfl dX12_needOf_34 ?_
              refine lv_bipush (v := 97) hx hb dX12_needOf_37 (by decide) ?_
              refine lv_iload_n hx hb dX12_needOf_39 rfl (lv_at hl 0 rfl) ?_
              refine lv_iadd hx hb dX12_needOf_40 ?_
              refine k_top (y := nI (i + 97)) (by rw [Nat.add_comm]; exact nI_add 97 i) ?_
              refine va_iald hx hb hKW.1 hP 1 0 rfl rfl (vp_in_nI (by omega) (by decide)) dX12_needOf_41 ?_
              refine lv_topi (fun x_29 ex_29 => ?_)
              refine lv_iload_n hx hb dX12_needOf_42 rfl (lv_at hl 2 rfl) ?_
              refine lv_icmp_ne (tgt := 122) hx hb dX12_needOf_43 (by decide) (fun c_30 => ?_) (fun c_30 => ?_)
              · refine lv_iinc (v := nI (i + 1)) (lv' := [(2, .int (nI (i + 1))), (0, .ref (z 0)), (1, .int x)]) hx hb dX12_needOf_122 hl (k := 0) rfl (nI_add i 1) (by decide) rfl (fun ls hl => ?_)
                refine lv_goto (tgt := 23) hx hb dX12_needOf_125 (by decide) ?_
                exact ih23 (i + 1) ga (by omega) (by first | assumption | omega) H locs (hP.sub [0, 1, 2, 3] rfl) (hD.sub [0, 1, 2, 3] (by decide) rfl) hS ls (lv_sub hl [0, 1, 2] rfl)
              · refine lv_aload_n hx hb dX12_needOf_46 rfl (lv_at hl 1 rfl) ?_
                refine va_get (ci := 12) (C := RX12) (T := TX12) (N := 20) hx hb hts inlX12 hown hKW.1 hP 0 rfl rfl 0 (by decide) (hts _ wd_6_5) (fun _ h => h) rfl dX12_needOf_47 ?_
                refine lv_iconst (v := 3) hx hb dX12_needOf_50 (by decide) ?_
                refine va_iald hx hb hKW.1 hP 1 0 rfl rfl (show ¬ _ by decide) dX12_needOf_51 ?_
                refine lv_topi (fun x_31 ex_31 => ?_)
                refine lv_aload_n hx hb dX12_needOf_52 rfl (lv_at hl 1 rfl) ?_
                refine va_get (ci := 12) (C := RX12) (T := TX12) (N := 20) hx hb hts inlX12 hown hKW.1 hP 0 rfl rfl 0 (by decide) (hts _ wd_6_5) (fun _ h => h) rfl dX12_needOf_53 ?_
                refine lv_bipush (v := 47) hx hb dX12_needOf_56 (by decide) ?_
                refine lv_iload_n hx hb dX12_needOf_58 rfl (lv_at hl 0 rfl) ?_
                refine lv_iadd hx hb dX12_needOf_59 ?_
                refine k_top (y := nI (i + 47)) (by rw [Nat.add_comm]; exact nI_add 47 i) ?_
                refine va_iald hx hb hKW.1 hP 1 0 rfl rfl (vp_in_nI (by omega) (by decide)) dX12_needOf_60 ?_
                refine lv_topi (fun x_32 ex_32 => ?_)
                refine lv_isub hx hb dX12_needOf_61 ?_
                refine lv_topi (fun x_33 ex_33 => ?_)
                refine lv_istore_n (lv' := [(3, .int x_33), (2, .int (nI i)), (0, .ref (z 0)), (1, .int x)]) hx hb dX12_needOf_62 rfl hl (by decide) rfl (fun ls hl => ?_)
                refine lv_aload_n hx hb dX12_needOf_63 rfl (lv_at hl 2 rfl) ?_
                refine va_get (ci := 12) (C := RX12) (T := TX12) (N := 20) hx hb hts inlX12 hown hKW.1 hP 0 rfl rfl 9 (by decide) (hts _ wd_6_11) (fun _ h => h) rfl dX12_needOf_64 ?_
                refine lv_iload_n hx hb dX12_needOf_67 rfl (lv_at hl 0 rfl) ?_
                refine lv_bipush (v := 24) hx hb dX12_needOf_68 (by decide) ?_
                refine lv_icmp_ge (tgt := 77) hx hb dX12_needOf_70 (by decide) (fun c_34 => ?_) (fun c_34 => ?_)
                · refine lv_iload_n hx hb dX12_needOf_77 rfl (lv_at hl 0 rfl) ?_
                  refine lv_bipush (v := 36) hx hb dX12_needOf_78 (by decide) ?_
                  refine lv_icmp_ge (tgt := 87) hx hb dX12_needOf_80 (by decide) (fun c_35 => ?_) (fun c_35 => ?_)
                  · refine lv_iconst (v := 3) hx hb dX12_needOf_87 (by decide) ?_
                    refine lv_dup2_11 hx hb dX12_needOf_88 rfl rfl ?_
                    refine va_iald hx hb hKW.1 hP 3 0 rfl rfl (show ¬ _ by decide) dX12_needOf_89 ?_
                    refine lv_topi (fun x_36 ex_36 => ?_)
                    refine lv_iconst (v := 1) hx hb dX12_needOf_90 (by decide) ?_
                    refine lv_iadd hx hb dX12_needOf_91 ?_
                    refine lv_topi (fun x_37 ex_37 => ?_)
                    refine va_iast hx hb hKW.1 hP hD hS 3 0 rfl rfl (show ¬ _ by decide) dX12_needOf_92 (fun H locs hP hD hS => ?_)
                    have hP : va_P g.1 vwCl [(z 0, .inr (12, [.ref (z 1), .ref (z 2), .int (nI kp), .int (xs 0), .ref (z 3), .ref (z 4), .ref (z 5), .ref (z 6), .int (xs 1), .ref (z 7), .ref (z 8), .ref (z 9), .ref (z 10), .ref (z 11), .ref (z 12), .int (xs 2), .ref (z 13), .ref (z 14), .int (xs 3), .ref (z 15)])), (z 1, .inl (gI g, 461, .inl D)), (z 6, .inl (gI g, 5, .inl pf)), (z 7, .inl (gI g, 7, .inl (upd ga 3 x_37)))] H := hP
                    have hD : va_D A [(z 0, .inr (12, [.ref (z 1), .ref (z 2), .int (nI kp), .int (xs 0), .ref (z 3), .ref (z 4), .ref (z 5), .ref (z 6), .int (xs 1), .ref (z 7), .ref (z 8), .ref (z 9), .ref (z 10), .ref (z 11), .ref (z 12), .int (xs 2), .ref (z 13), .ref (z 14), .int (xs 3), .ref (z 15)])), (z 1, .inl (gI g, 461, .inl D)), (z 6, .inl (gI g, 5, .inl pf)), (z 7, .inl (gI g, 7, .inl (upd ga 3 x_37)))] := hD
                    obtain ⟨f_38, ef_38⟩ : ∃ zz_ : Nat → Int32, zz_ = upd ga 3 x_37 := ⟨_, rfl⟩
                    rw [← ef_38] at hP hD
                    refine lv_aload_n hx hb dX12_needOf_93 rfl (lv_at hl 2 rfl) ?_
                    refine va_get (ci := 12) (C := RX12) (T := TX12) (N := 20) hx hb hts inlX12 hown hKW.1 hP 0 rfl rfl 9 (by decide) (hts _ wd_6_11) (fun _ h => h) rfl dX12_needOf_94 ?_
                    refine lv_iconst (v := 4) hx hb dX12_needOf_97 (by decide) ?_
                    refine lv_dup2_11 hx hb dX12_needOf_98 rfl rfl ?_
                    refine va_iald hx hb hKW.1 hP 3 0 rfl rfl (show ¬ _ by decide) dX12_needOf_99 ?_
                    refine lv_topi (fun x_39 ex_39 => ?_)
                    refine lv_aload_n hx hb dX12_needOf_100 rfl (lv_at hl 2 rfl) ?_
                    refine va_get (ci := 12) (C := RX12) (T := TX12) (N := 20) hx hb hts inlX12 hown hKW.1 hP 0 rfl rfl 0 (by decide) (hts _ wd_6_5) (fun _ h => h) rfl dX12_needOf_101 ?_
                    refine lv_bipush (v := 107) hx hb dX12_needOf_104 (by decide) ?_
                    refine lv_iload_n hx hb dX12_needOf_106 rfl (lv_at hl 1 rfl) ?_
                    refine lv_iadd hx hb dX12_needOf_107 ?_
                    refine k_top (y := nI (i + 107)) (by rw [Nat.add_comm]; exact nI_add 107 i) ?_
                    refine va_iald hx hb hKW.1 hP 1 0 rfl rfl (vp_in_nI (by omega) (by decide)) dX12_needOf_108 ?_
                    refine lv_topi (fun x_40 ex_40 => ?_)
                    refine lv_iadd hx hb dX12_needOf_109 ?_
                    refine lv_topi (fun x_41 ex_41 => ?_)
                    refine va_iast hx hb hKW.1 hP hD hS 3 0 rfl rfl (show ¬ _ by decide) dX12_needOf_110 (fun H locs hP hD hS => ?_)
                    have hP : va_P g.1 vwCl [(z 0, .inr (12, [.ref (z 1), .ref (z 2), .int (nI kp), .int (xs 0), .ref (z 3), .ref (z 4), .ref (z 5), .ref (z 6), .int (xs 1), .ref (z 7), .ref (z 8), .ref (z 9), .ref (z 10), .ref (z 11), .ref (z 12), .int (xs 2), .ref (z 13), .ref (z 14), .int (xs 3), .ref (z 15)])), (z 1, .inl (gI g, 461, .inl D)), (z 6, .inl (gI g, 5, .inl pf)), (z 7, .inl (gI g, 7, .inl (upd f_38 4 x_41)))] H := hP
                    have hD : va_D A [(z 0, .inr (12, [.ref (z 1), .ref (z 2), .int (nI kp), .int (xs 0), .ref (z 3), .ref (z 4), .ref (z 5), .ref (z 6), .int (xs 1), .ref (z 7), .ref (z 8), .ref (z 9), .ref (z 10), .ref (z 11), .ref (z 12), .int (xs 2), .ref (z 13), .ref (z 14), .int (xs 3), .ref (z 15)])), (z 1, .inl (gI g, 461, .inl D)), (z 6, .inl (gI g, 5, .inl pf)), (z 7, .inl (gI g, 7, .inl (upd f_38 4 x_41)))] := hD
                    obtain ⟨f_42, ef_42⟩ : ∃ zz_ : Nat → Int32, zz_ = upd f_38 4 x_41 := ⟨_, rfl⟩
                    rw [← ef_42] at hP hD
                    refine lv_aload_n hx hb dX12_needOf_111 rfl (lv_at hl 2 rfl) ?_
                    refine va_get (ci := 12) (C := RX12) (T := TX12) (N := 20) hx hb hts inlX12 hown hKW.1 hP 0 rfl rfl 9 (by decide) (hts _ wd_6_11) (fun _ h => h) rfl dX12_needOf_112 ?_
                    refine lv_bipush (v := 6) hx hb dX12_needOf_115 (by decide) ?_
                    refine lv_dup2_11 hx hb dX12_needOf_117 rfl rfl ?_
                    refine va_iald hx hb hKW.1 hP 3 0 rfl rfl (show ¬ _ by decide) dX12_needOf_118 ?_
                    refine lv_topi (fun x_43 ex_43 => ?_)
                    refine lv_iconst (v := 1) hx hb dX12_needOf_119 (by decide) ?_
                    refine lv_iadd hx hb dX12_needOf_120 ?_
                    refine lv_topi (fun x_44 ex_44 => ?_)
                    refine va_iast hx hb hKW.1 hP hD hS 3 0 rfl rfl (show ¬ _ by decide) dX12_needOf_121 (fun H locs hP hD hS => ?_)
                    have hP : va_P g.1 vwCl [(z 0, .inr (12, [.ref (z 1), .ref (z 2), .int (nI kp), .int (xs 0), .ref (z 3), .ref (z 4), .ref (z 5), .ref (z 6), .int (xs 1), .ref (z 7), .ref (z 8), .ref (z 9), .ref (z 10), .ref (z 11), .ref (z 12), .int (xs 2), .ref (z 13), .ref (z 14), .int (xs 3), .ref (z 15)])), (z 1, .inl (gI g, 461, .inl D)), (z 6, .inl (gI g, 5, .inl pf)), (z 7, .inl (gI g, 7, .inl (upd f_42 6 x_44)))] H := hP
                    have hD : va_D A [(z 0, .inr (12, [.ref (z 1), .ref (z 2), .int (nI kp), .int (xs 0), .ref (z 3), .ref (z 4), .ref (z 5), .ref (z 6), .int (xs 1), .ref (z 7), .ref (z 8), .ref (z 9), .ref (z 10), .ref (z 11), .ref (z 12), .int (xs 2), .ref (z 13), .ref (z 14), .int (xs 3), .ref (z 15)])), (z 1, .inl (gI g, 461, .inl D)), (z 6, .inl (gI g, 5, .inl pf)), (z 7, .inl (gI g, 7, .inl (upd f_42 6 x_44)))] := hD
                    obtain ⟨f_45, ef_45⟩ : ∃ zz_ : Nat → Int32, zz_ = upd f_42 6 x_44 := ⟨_, rfl⟩
                    rw [← ef_45] at hP hD
                    refine lv_iinc (v := nI (i + 1)) (lv' := [(2, .int (nI (i + 1))), (3, .int x_33), (0, .ref (z 0)), (1, .int x)]) hx hb dX12_needOf_122 hl (k := 1) rfl (nI_add i 1) (by decide) rfl (fun ls hl => ?_)
                    refine lv_goto (tgt := 23) hx hb dX12_needOf_125 (by decide) ?_
                    exact ih23 (i + 1) f_45 (by omega) (by first | assumption | omega) H locs (hP.sub [0, 1, 2, 3] rfl) (hD.sub [0, 1, 2, 3] (by decide) rfl) hS ls (lv_sub hl [0, 2, 3] rfl)
                  · refine lv_iconst (v := 2) hx hb dX12_needOf_83 (by decide) ?_
                    refine lv_goto (tgt := 88) hx hb dX12_needOf_84 (by decide) ?_
                    refine lv_dup2_11 hx hb dX12_needOf_88 rfl rfl ?_
                    refine va_iald hx hb hKW.1 hP 3 0 rfl rfl (show ¬ _ by decide) dX12_needOf_89 ?_
                    refine lv_topi (fun x_46 ex_46 => ?_)
                    refine lv_iconst (v := 1) hx hb dX12_needOf_90 (by decide) ?_
                    refine lv_iadd hx hb dX12_needOf_91 ?_
                    refine lv_topi (fun x_47 ex_47 => ?_)
                    refine va_iast hx hb hKW.1 hP hD hS 3 0 rfl rfl (show ¬ _ by decide) dX12_needOf_92 (fun H locs hP hD hS => ?_)
                    have hP : va_P g.1 vwCl [(z 0, .inr (12, [.ref (z 1), .ref (z 2), .int (nI kp), .int (xs 0), .ref (z 3), .ref (z 4), .ref (z 5), .ref (z 6), .int (xs 1), .ref (z 7), .ref (z 8), .ref (z 9), .ref (z 10), .ref (z 11), .ref (z 12), .int (xs 2), .ref (z 13), .ref (z 14), .int (xs 3), .ref (z 15)])), (z 1, .inl (gI g, 461, .inl D)), (z 6, .inl (gI g, 5, .inl pf)), (z 7, .inl (gI g, 7, .inl (upd ga 2 x_47)))] H := hP
                    have hD : va_D A [(z 0, .inr (12, [.ref (z 1), .ref (z 2), .int (nI kp), .int (xs 0), .ref (z 3), .ref (z 4), .ref (z 5), .ref (z 6), .int (xs 1), .ref (z 7), .ref (z 8), .ref (z 9), .ref (z 10), .ref (z 11), .ref (z 12), .int (xs 2), .ref (z 13), .ref (z 14), .int (xs 3), .ref (z 15)])), (z 1, .inl (gI g, 461, .inl D)), (z 6, .inl (gI g, 5, .inl pf)), (z 7, .inl (gI g, 7, .inl (upd ga 2 x_47)))] := hD
                    obtain ⟨f_48, ef_48⟩ : ∃ zz_ : Nat → Int32, zz_ = upd ga 2 x_47 := ⟨_, rfl⟩
                    rw [← ef_48] at hP hD
                    refine lv_aload_n hx hb dX12_needOf_93 rfl (lv_at hl 2 rfl) ?_
                    refine va_get (ci := 12) (C := RX12) (T := TX12) (N := 20) hx hb hts inlX12 hown hKW.1 hP 0 rfl rfl 9 (by decide) (hts _ wd_6_11) (fun _ h => h) rfl dX12_needOf_94 ?_
                    refine lv_iconst (v := 4) hx hb dX12_needOf_97 (by decide) ?_
                    refine lv_dup2_11 hx hb dX12_needOf_98 rfl rfl ?_
                    refine va_iald hx hb hKW.1 hP 3 0 rfl rfl (show ¬ _ by decide) dX12_needOf_99 ?_
                    refine lv_topi (fun x_49 ex_49 => ?_)
                    refine lv_aload_n hx hb dX12_needOf_100 rfl (lv_at hl 2 rfl) ?_
                    refine va_get (ci := 12) (C := RX12) (T := TX12) (N := 20) hx hb hts inlX12 hown hKW.1 hP 0 rfl rfl 0 (by decide) (hts _ wd_6_5) (fun _ h => h) rfl dX12_needOf_101 ?_
                    refine lv_bipush (v := 107) hx hb dX12_needOf_104 (by decide) ?_
                    refine lv_iload_n hx hb dX12_needOf_106 rfl (lv_at hl 1 rfl) ?_
                    refine lv_iadd hx hb dX12_needOf_107 ?_
                    refine k_top (y := nI (i + 107)) (by rw [Nat.add_comm]; exact nI_add 107 i) ?_
                    refine va_iald hx hb hKW.1 hP 1 0 rfl rfl (vp_in_nI (by omega) (by decide)) dX12_needOf_108 ?_
                    refine lv_topi (fun x_50 ex_50 => ?_)
                    refine lv_iadd hx hb dX12_needOf_109 ?_
                    refine lv_topi (fun x_51 ex_51 => ?_)
                    refine va_iast hx hb hKW.1 hP hD hS 3 0 rfl rfl (show ¬ _ by decide) dX12_needOf_110 (fun H locs hP hD hS => ?_)
                    have hP : va_P g.1 vwCl [(z 0, .inr (12, [.ref (z 1), .ref (z 2), .int (nI kp), .int (xs 0), .ref (z 3), .ref (z 4), .ref (z 5), .ref (z 6), .int (xs 1), .ref (z 7), .ref (z 8), .ref (z 9), .ref (z 10), .ref (z 11), .ref (z 12), .int (xs 2), .ref (z 13), .ref (z 14), .int (xs 3), .ref (z 15)])), (z 1, .inl (gI g, 461, .inl D)), (z 6, .inl (gI g, 5, .inl pf)), (z 7, .inl (gI g, 7, .inl (upd f_48 4 x_51)))] H := hP
                    have hD : va_D A [(z 0, .inr (12, [.ref (z 1), .ref (z 2), .int (nI kp), .int (xs 0), .ref (z 3), .ref (z 4), .ref (z 5), .ref (z 6), .int (xs 1), .ref (z 7), .ref (z 8), .ref (z 9), .ref (z 10), .ref (z 11), .ref (z 12), .int (xs 2), .ref (z 13), .ref (z 14), .int (xs 3), .ref (z 15)])), (z 1, .inl (gI g, 461, .inl D)), (z 6, .inl (gI g, 5, .inl pf)), (z 7, .inl (gI g, 7, .inl (upd f_48 4 x_51)))] := hD
                    obtain ⟨f_52, ef_52⟩ : ∃ zz_ : Nat → Int32, zz_ = upd f_48 4 x_51 := ⟨_, rfl⟩
                    rw [← ef_52] at hP hD
                    refine lv_aload_n hx hb dX12_needOf_111 rfl (lv_at hl 2 rfl) ?_
                    refine va_get (ci := 12) (C := RX12) (T := TX12) (N := 20) hx hb hts inlX12 hown hKW.1 hP 0 rfl rfl 9 (by decide) (hts _ wd_6_11) (fun _ h => h) rfl dX12_needOf_112 ?_
                    refine lv_bipush (v := 6) hx hb dX12_needOf_115 (by decide) ?_
                    refine lv_dup2_11 hx hb dX12_needOf_117 rfl rfl ?_
                    refine va_iald hx hb hKW.1 hP 3 0 rfl rfl (show ¬ _ by decide) dX12_needOf_118 ?_
                    refine lv_topi (fun x_53 ex_53 => ?_)
                    refine lv_iconst (v := 1) hx hb dX12_needOf_119 (by decide) ?_
                    refine lv_iadd hx hb dX12_needOf_120 ?_
                    refine lv_topi (fun x_54 ex_54 => ?_)
                    refine va_iast hx hb hKW.1 hP hD hS 3 0 rfl rfl (show ¬ _ by decide) dX12_needOf_121 (fun H locs hP hD hS => ?_)
                    have hP : va_P g.1 vwCl [(z 0, .inr (12, [.ref (z 1), .ref (z 2), .int (nI kp), .int (xs 0), .ref (z 3), .ref (z 4), .ref (z 5), .ref (z 6), .int (xs 1), .ref (z 7), .ref (z 8), .ref (z 9), .ref (z 10), .ref (z 11), .ref (z 12), .int (xs 2), .ref (z 13), .ref (z 14), .int (xs 3), .ref (z 15)])), (z 1, .inl (gI g, 461, .inl D)), (z 6, .inl (gI g, 5, .inl pf)), (z 7, .inl (gI g, 7, .inl (upd f_52 6 x_54)))] H := hP
                    have hD : va_D A [(z 0, .inr (12, [.ref (z 1), .ref (z 2), .int (nI kp), .int (xs 0), .ref (z 3), .ref (z 4), .ref (z 5), .ref (z 6), .int (xs 1), .ref (z 7), .ref (z 8), .ref (z 9), .ref (z 10), .ref (z 11), .ref (z 12), .int (xs 2), .ref (z 13), .ref (z 14), .int (xs 3), .ref (z 15)])), (z 1, .inl (gI g, 461, .inl D)), (z 6, .inl (gI g, 5, .inl pf)), (z 7, .inl (gI g, 7, .inl (upd f_52 6 x_54)))] := hD
                    obtain ⟨f_55, ef_55⟩ : ∃ zz_ : Nat → Int32, zz_ = upd f_52 6 x_54 := ⟨_, rfl⟩
                    rw [← ef_55] at hP hD
                    refine lv_iinc (v := nI (i + 1)) (lv' := [(2, .int (nI (i + 1))), (3, .int x_33), (0, .ref (z 0)), (1, .int x)]) hx hb dX12_needOf_122 hl (k := 1) rfl (nI_add i 1) (by decide) rfl (fun ls hl => ?_)
                    refine lv_goto (tgt := 23) hx hb dX12_needOf_125 (by decide) ?_
                    exact ih23 (i + 1) f_55 (by omega) (by first | assumption | omega) H locs (hP.sub [0, 1, 2, 3] rfl) (hD.sub [0, 1, 2, 3] (by decide) rfl) hS ls (lv_sub hl [0, 2, 3] rfl)
                · refine lv_iconst (v := 1) hx hb dX12_needOf_73 (by decide) ?_
                  refine lv_goto (tgt := 88) hx hb dX12_needOf_74 (by decide) ?_
                  refine lv_dup2_11 hx hb dX12_needOf_88 rfl rfl ?_
                  refine va_iald hx hb hKW.1 hP 3 0 rfl rfl (show ¬ _ by decide) dX12_needOf_89 ?_
                  refine lv_topi (fun x_56 ex_56 => ?_)
                  refine lv_iconst (v := 1) hx hb dX12_needOf_90 (by decide) ?_
                  refine lv_iadd hx hb dX12_needOf_91 ?_
                  refine lv_topi (fun x_57 ex_57 => ?_)
                  refine va_iast hx hb hKW.1 hP hD hS 3 0 rfl rfl (show ¬ _ by decide) dX12_needOf_92 (fun H locs hP hD hS => ?_)
                  have hP : va_P g.1 vwCl [(z 0, .inr (12, [.ref (z 1), .ref (z 2), .int (nI kp), .int (xs 0), .ref (z 3), .ref (z 4), .ref (z 5), .ref (z 6), .int (xs 1), .ref (z 7), .ref (z 8), .ref (z 9), .ref (z 10), .ref (z 11), .ref (z 12), .int (xs 2), .ref (z 13), .ref (z 14), .int (xs 3), .ref (z 15)])), (z 1, .inl (gI g, 461, .inl D)), (z 6, .inl (gI g, 5, .inl pf)), (z 7, .inl (gI g, 7, .inl (upd ga 1 x_57)))] H := hP
                  have hD : va_D A [(z 0, .inr (12, [.ref (z 1), .ref (z 2), .int (nI kp), .int (xs 0), .ref (z 3), .ref (z 4), .ref (z 5), .ref (z 6), .int (xs 1), .ref (z 7), .ref (z 8), .ref (z 9), .ref (z 10), .ref (z 11), .ref (z 12), .int (xs 2), .ref (z 13), .ref (z 14), .int (xs 3), .ref (z 15)])), (z 1, .inl (gI g, 461, .inl D)), (z 6, .inl (gI g, 5, .inl pf)), (z 7, .inl (gI g, 7, .inl (upd ga 1 x_57)))] := hD
                  obtain ⟨f_58, ef_58⟩ : ∃ zz_ : Nat → Int32, zz_ = upd ga 1 x_57 := ⟨_, rfl⟩
                  rw [← ef_58] at hP hD
                  refine lv_aload_n hx hb dX12_needOf_93 rfl (lv_at hl 2 rfl) ?_
                  refine va_get (ci := 12) (C := RX12) (T := TX12) (N := 20) hx hb hts inlX12 hown hKW.1 hP 0 rfl rfl 9 (by decide) (hts _ wd_6_11) (fun _ h => h) rfl dX12_needOf_94 ?_
                  refine lv_iconst (v := 4) hx hb dX12_needOf_97 (by decide) ?_
                  refine lv_dup2_11 hx hb dX12_needOf_98 rfl rfl ?_
                  refine va_iald hx hb hKW.1 hP 3 0 rfl rfl (show ¬ _ by decide) dX12_needOf_99 ?_
                  refine lv_topi (fun x_59 ex_59 => ?_)
                  refine lv_aload_n hx hb dX12_needOf_100 rfl (lv_at hl 2 rfl) ?_
                  refine va_get (ci := 12) (C := RX12) (T := TX12) (N := 20) hx hb hts inlX12 hown hKW.1 hP 0 rfl rfl 0 (by decide) (hts _ wd_6_5) (fun _ h => h) rfl dX12_needOf_101 ?_
                  refine lv_bipush (v := 107) hx hb dX12_needOf_104 (by decide) ?_
                  refine lv_iload_n hx hb dX12_needOf_106 rfl (lv_at hl 1 rfl) ?_
                  refine lv_iadd hx hb dX12_needOf_107 ?_
                  refine k_top (y := nI (i + 107)) (by rw [Nat.add_comm]; exact nI_add 107 i) ?_
                  refine va_iald hx hb hKW.1 hP 1 0 rfl rfl (vp_in_nI (by omega) (by decide)) dX12_needOf_108 ?_
                  refine lv_topi (fun x_60 ex_60 => ?_)
                  refine lv_iadd hx hb dX12_needOf_109 ?_
                  refine lv_topi (fun x_61 ex_61 => ?_)
                  refine va_iast hx hb hKW.1 hP hD hS 3 0 rfl rfl (show ¬ _ by decide) dX12_needOf_110 (fun H locs hP hD hS => ?_)
                  have hP : va_P g.1 vwCl [(z 0, .inr (12, [.ref (z 1), .ref (z 2), .int (nI kp), .int (xs 0), .ref (z 3), .ref (z 4), .ref (z 5), .ref (z 6), .int (xs 1), .ref (z 7), .ref (z 8), .ref (z 9), .ref (z 10), .ref (z 11), .ref (z 12), .int (xs 2), .ref (z 13), .ref (z 14), .int (xs 3), .ref (z 15)])), (z 1, .inl (gI g, 461, .inl D)), (z 6, .inl (gI g, 5, .inl pf)), (z 7, .inl (gI g, 7, .inl (upd f_58 4 x_61)))] H := hP
                  have hD : va_D A [(z 0, .inr (12, [.ref (z 1), .ref (z 2), .int (nI kp), .int (xs 0), .ref (z 3), .ref (z 4), .ref (z 5), .ref (z 6), .int (xs 1), .ref (z 7), .ref (z 8), .ref (z 9), .ref (z 10), .ref (z 11), .ref (z 12), .int (xs 2), .ref (z 13), .ref (z 14), .int (xs 3), .ref (z 15)])), (z 1, .inl (gI g, 461, .inl D)), (z 6, .inl (gI g, 5, .inl pf)), (z 7, .inl (gI g, 7, .inl (upd f_58 4 x_61)))] := hD
                  obtain ⟨f_62, ef_62⟩ : ∃ zz_ : Nat → Int32, zz_ = upd f_58 4 x_61 := ⟨_, rfl⟩
                  rw [← ef_62] at hP hD
                  refine lv_aload_n hx hb dX12_needOf_111 rfl (lv_at hl 2 rfl) ?_
                  refine va_get (ci := 12) (C := RX12) (T := TX12) (N := 20) hx hb hts inlX12 hown hKW.1 hP 0 rfl rfl 9 (by decide) (hts _ wd_6_11) (fun _ h => h) rfl dX12_needOf_112 ?_
                  refine lv_bipush (v := 6) hx hb dX12_needOf_115 (by decide) ?_
                  refine lv_dup2_11 hx hb dX12_needOf_117 rfl rfl ?_
                  refine va_iald hx hb hKW.1 hP 3 0 rfl rfl (show ¬ _ by decide) dX12_needOf_118 ?_
                  refine lv_topi (fun x_63 ex_63 => ?_)
                  refine lv_iconst (v := 1) hx hb dX12_needOf_119 (by decide) ?_
                  refine lv_iadd hx hb dX12_needOf_120 ?_
                  refine lv_topi (fun x_64 ex_64 => ?_)
                  refine va_iast hx hb hKW.1 hP hD hS 3 0 rfl rfl (show ¬ _ by decide) dX12_needOf_121 (fun H locs hP hD hS => ?_)
                  have hP : va_P g.1 vwCl [(z 0, .inr (12, [.ref (z 1), .ref (z 2), .int (nI kp), .int (xs 0), .ref (z 3), .ref (z 4), .ref (z 5), .ref (z 6), .int (xs 1), .ref (z 7), .ref (z 8), .ref (z 9), .ref (z 10), .ref (z 11), .ref (z 12), .int (xs 2), .ref (z 13), .ref (z 14), .int (xs 3), .ref (z 15)])), (z 1, .inl (gI g, 461, .inl D)), (z 6, .inl (gI g, 5, .inl pf)), (z 7, .inl (gI g, 7, .inl (upd f_62 6 x_64)))] H := hP
                  have hD : va_D A [(z 0, .inr (12, [.ref (z 1), .ref (z 2), .int (nI kp), .int (xs 0), .ref (z 3), .ref (z 4), .ref (z 5), .ref (z 6), .int (xs 1), .ref (z 7), .ref (z 8), .ref (z 9), .ref (z 10), .ref (z 11), .ref (z 12), .int (xs 2), .ref (z 13), .ref (z 14), .int (xs 3), .ref (z 15)])), (z 1, .inl (gI g, 461, .inl D)), (z 6, .inl (gI g, 5, .inl pf)), (z 7, .inl (gI g, 7, .inl (upd f_62 6 x_64)))] := hD
                  obtain ⟨f_65, ef_65⟩ : ∃ zz_ : Nat → Int32, zz_ = upd f_62 6 x_64 := ⟨_, rfl⟩
                  rw [← ef_65] at hP hD
                  refine lv_iinc (v := nI (i + 1)) (lv' := [(2, .int (nI (i + 1))), (3, .int x_33), (0, .ref (z 0)), (1, .int x)]) hx hb dX12_needOf_122 hl (k := 1) rfl (nI_add i 1) (by decide) rfl (fun ls hl => ?_)
                  refine lv_goto (tgt := 23) hx hb dX12_needOf_125 (by decide) ?_
                  exact ih23 (i + 1) f_65 (by omega) (by first | assumption | omega) H locs (hP.sub [0, 1, 2, 3] rfl) (hD.sub [0, 1, 2, 3] (by decide) rfl) hS ls (lv_sub hl [0, 2, 3] rfl)
        exact L23 (10 - 0 + 1) 0 ga (Nat.lt_succ_self _) (by first | assumption | omega) H locs (hP.sub [0, 1, 2, 3] rfl) (hD.sub [0, 1, 2, 3] (by decide) rfl) hS ls (lv_sub hl [0, 1, 2] rfl)
      · have c_1n : i < 7 := Nat.not_le.mp (fun h => c_1 ((k_leI (a := 7) (b := i) (by omega) (by omega)).mpr h))
        refine lv_aload_n hx hb dX12_needOf_8 rfl (lv_at hl 1 rfl) ?_
        refine va_get (ci := 12) (C := RX12) (T := TX12) (N := 20) hx hb hts inlX12 hown hKW.1 hP 0 rfl rfl 9 (by decide) (hts _ wd_6_11) (fun _ h => h) rfl dX12_needOf_9 ?_
        refine lv_iload_n hx hb dX12_needOf_12 rfl (lv_at hl 0 rfl) ?_
        refine lv_iconst (v := 0) hx hb dX12_needOf_13 (by decide) ?_
        refine va_iast hx hb hKW.1 hP hD hS 3 0 rfl rfl (vp_in_nI (by omega) (by decide)) dX12_needOf_14 (fun H locs hP hD hS => ?_)
        have hP : va_P g.1 vwCl [(z 0, .inr (12, [.ref (z 1), .ref (z 2), .int (nI kp), .int (xs 0), .ref (z 3), .ref (z 4), .ref (z 5), .ref (z 6), .int (xs 1), .ref (z 7), .ref (z 8), .ref (z 9), .ref (z 10), .ref (z 11), .ref (z 12), .int (xs 2), .ref (z 13), .ref (z 14), .int (xs 3), .ref (z 15)])), (z 1, .inl (gI g, 461, .inl D)), (z 6, .inl (gI g, 5, .inl pf)), (z 7, .inl (gI g, 7, .inl (upd ga (nI i).toNatClampNeg 0)))] H := hP
        have hD : va_D A [(z 0, .inr (12, [.ref (z 1), .ref (z 2), .int (nI kp), .int (xs 0), .ref (z 3), .ref (z 4), .ref (z 5), .ref (z 6), .int (xs 1), .ref (z 7), .ref (z 8), .ref (z 9), .ref (z 10), .ref (z 11), .ref (z 12), .int (xs 2), .ref (z 13), .ref (z 14), .int (xs 3), .ref (z 15)])), (z 1, .inl (gI g, 461, .inl D)), (z 6, .inl (gI g, 5, .inl pf)), (z 7, .inl (gI g, 7, .inl (upd ga (nI i).toNatClampNeg 0)))] := hD
        obtain ⟨f_66, ef_66⟩ : ∃ zz_ : Nat → Int32, zz_ = upd ga (nI i).toNatClampNeg 0 := ⟨_, rfl⟩
        rw [← ef_66] at hP hD
        refine lv_iinc (v := nI (i + 1)) (lv' := [(2, .int (nI (i + 1))), (0, .ref (z 0)), (1, .int x)]) hx hb dX12_needOf_15 hl (k := 0) rfl (nI_add i 1) (by decide) rfl (fun ls hl => ?_)
        refine lv_goto (tgt := 2) hx hb dX12_needOf_18 (by decide) ?_
        exact ih2 (i + 1) f_66 (by omega) (by first | assumption | omega) H locs (hP.sub [0, 1, 2, 3] rfl) (hD.sub [0, 1, 2, 3] (by decide) rfl) hS ls (lv_sub hl [0, 1, 2] rfl)
  exact L2 (7 - 0 + 1) 0 cf (Nat.lt_succ_self _) (by first | assumption | omega) H locs (hP.sub [0, 1, 2, 3] rfl) (hD.sub [0, 1, 2, 3] (by decide) rfl) hS ls (lv_sub hl [0, 1, 2] rfl)
theorem dX12_hasEnough_0 : decode cX12_hasEnough 0 = .ok (.aload_n 0, 1) := by decide +kernel
theorem dX12_hasEnough_1 : decode cX12_hasEnough 1 = .ok (.aload_n 0, 1) := by decide +kernel
theorem dX12_hasEnough_2 : decode cX12_hasEnough 2 = .ok (.iload_n 1, 1) := by decide +kernel
theorem dX12_hasEnough_3 : decode cX12_hasEnough 3 = .ok (.invokevirtual 132, 3) := by decide +kernel
theorem dX12_hasEnough_6 : decode cX12_hasEnough 6 = .ok (.aload_n 0, 1) := by decide +kernel
theorem dX12_hasEnough_7 : decode cX12_hasEnough 7 = .ok (.iload_n 1, 1) := by decide +kernel
theorem dX12_hasEnough_8 : decode cX12_hasEnough 8 = .ok (.invokevirtual 135, 3) := by decide +kernel
theorem dX12_hasEnough_11 : decode cX12_hasEnough 11 = .ok (.aload_n 0, 1) := by decide +kernel
theorem dX12_hasEnough_12 : decode cX12_hasEnough 12 = .ok (.iload_n 1, 1) := by decide +kernel
theorem dX12_hasEnough_13 : decode cX12_hasEnough 13 = .ok (.invokevirtual 103, 3) := by decide +kernel
theorem dX12_hasEnough_16 : decode cX12_hasEnough 16 = .ok (.ifCond .eq 7, 3) := by decide +kernel
theorem dX12_hasEnough_23 : decode cX12_hasEnough 23 = .ok (.iconst 0, 1) := by decide +kernel
theorem dX12_hasEnough_24 : decode cX12_hasEnough 24 = .ok (.invokevirtual 138, 3) := by decide +kernel
theorem dX12_hasEnough_27 : decode cX12_hasEnough 27 = .ok (.ireturn, 1) := by decide +kernel
theorem dX12_hasEnough_19 : decode cX12_hasEnough 19 = .ok (.iconst 1, 1) := by decide +kernel
theorem dX12_hasEnough_20 : decode cX12_hasEnough 20 = .ok (.goto 4, 3) := by decide +kernel
set_option maxHeartbeats 8000000 in
set_option maxRecDepth 100000 in
theorem c_X12_hasEnough (l : Launch) (g : kG) (sz : Nat) (z : Nat → Nat) (kp : Nat) (xs : Nat → Int32) (D : Nat → Int32) (pf : Nat → Int32) (cf : Nat → Int32) (x : Int32) (hDI : DI D) : kMi l g yX12_hasEnough cX12_hasEnough 2 (some .boolean) 4 0 0 [.ref (z 0), .int x] sz [(z 0, .inr (12, [.ref (z 1), .ref (z 2), .int (nI kp), .int (xs 0), .ref (z 3), .ref (z 4), .ref (z 5), .ref (z 6), .int (xs 1), .ref (z 7), .ref (z 8), .ref (z 9), .ref (z 10), .ref (z 11), .ref (z 12), .int (xs 2), .ref (z 13), .ref (z 14), .int (xs 3), .ref (z 15)])), (z 1, .inl (gI g, 461, .inl D)), (z 6, .inl (gI g, 5, .inl pf)), (z 7, .inl (gI g, 7, .inl cf))] (fun (r : Int32) (u : (Nat → Int32) × (Nat → Int32) × (Nat → Int32)) => r = 1 ∨ r = 0) (fun (u : (Nat → Int32) × (Nat → Int32) × (Nat → Int32)) => ([(z 0, .inr (12, [.ref (z 1), .ref (z 2), .int (nI kp), .int (u.1 0), .ref (z 3), .ref (z 4), .ref (z 5), .ref (z 6), .int (u.1 1), .ref (z 7), .ref (z 8), .ref (z 9), .ref (z 10), .ref (z 11), .ref (z 12), .int (u.1 2), .ref (z 13), .ref (z 14), .int (u.1 3), .ref (z 15)])), (z 1, .inl (gI g, 461, .inl D)), (z 6, .inl (gI g, 5, .inl u.2.1)), (z 7, .inl (gI g, 7, .inl u.2.2))] : va_W)) := by
  refine kMi.of (by decide) (Nat.le_of_ble_eq_true rfl) (fun p e s m below meth c A hx hb hr hml hown hts hlk hnm hKW hP hD hS hA ls hl => ?_)
  have hown : s.vm.findClass RX12 = some m.cls := hown
  have hl : lv_has ls 2 [(0, .ref (z 0)), (1, .int x)] := hl
  refine k_hide hP hS (fun H locs hP hS => ?_)
  refine lv_aload_n hx hb dX12_hasEnough_0 rfl (lv_at hl 0 rfl) ?_
  refine lv_aload_n hx hb dX12_hasEnough_1 rfl (lv_at hl 0 rfl) ?_
  refine lv_iload_n hx hb dX12_hasEnough_2 rfl (lv_at hl 1 rfl) ?_
  refine k_Vi [0, 1] [2, 3] 0 12 (wr := [(z 6, .inl (gI g, 5, .inl pf)), (z 7, .inl (gI g, 7, .inl cf))]) hx hb hml hown hts hKW hP hD hS hA hl.1 (c_X12_handsIn l g _ z kp xs D x (by first | assumption | omega | decide)) rfl rfl rfl wd_27_2 wd_1_5 wd_26_23 wd_27_0 wd_27_1 yd_X12_handsIn ⟨(Nat.le_of_ble_eq_true rfl), (Nat.le_of_ble_eq_true rfl)⟩ rfl rfl rfl rfl (by decide) rfl (Nat.le_of_ble_eq_true rfl) dX12_hasEnough_3 ⟨(Nat.le_of_ble_eq_true rfl), (Nat.le_of_ble_eq_true rfl)⟩ (fun r_1 u_2 H locs hw_3 hP hD hS => ?_)
  have hP : va_P g.1 vwCl [(z 6, .inl (gI g, 5, .inl pf)), (z 7, .inl (gI g, 7, .inl cf)), (z 0, .inr (12, [.ref (z 1), .ref (z 2), .int (nI kp), .int (xs 0), .ref (z 3), .ref (z 4), .ref (z 5), .ref (z 6), .int (xs 1), .ref (z 7), .ref (z 8), .ref (z 9), .ref (z 10), .ref (z 11), .ref (z 12), .int (xs 2), .ref (z 13), .ref (z 14), .int (xs 3), .ref (z 15)])), (z 1, .inl (gI g, 461, .inl D))] H := hP
  have hD : va_D A [(z 6, .inl (gI g, 5, .inl pf)), (z 7, .inl (gI g, 7, .inl cf)), (z 0, .inr (12, [.ref (z 1), .ref (z 2), .int (nI kp), .int (xs 0), .ref (z 3), .ref (z 4), .ref (z 5), .ref (z 6), .int (xs 1), .ref (z 7), .ref (z 8), .ref (z 9), .ref (z 10), .ref (z 11), .ref (z 12), .int (xs 2), .ref (z 13), .ref (z 14), .int (xs 3), .ref (z 15)])), (z 1, .inl (gI g, 461, .inl D))] := hD
  refine lv_aload_n hx hb dX12_hasEnough_6 rfl (lv_at hl 0 rfl) ?_
  refine lv_iload_n hx hb dX12_hasEnough_7 rfl (lv_at hl 1 rfl) ?_
  refine k_Vi [2, 3, 0, 1] [] 2 12 (wr := []) hx hb hml hown hts hKW hP hD hS hA hl.1 (c_X12_needOf l g _ z kp xs D pf cf x (by first | assumption | omega | decide)) rfl rfl rfl wd_27_6 wd_1_5 wd_27_3 wd_27_4 wd_27_5 yd_X12_needOf ⟨(Nat.le_of_ble_eq_true rfl), (Nat.le_of_ble_eq_true rfl)⟩ rfl rfl rfl rfl (by decide) rfl (Nat.le_of_ble_eq_true rfl) dX12_hasEnough_8 ⟨(Nat.le_of_ble_eq_true rfl), (Nat.le_of_ble_eq_true rfl)⟩ (fun r_4 u_5 H locs hw_6 hP hD hS => ?_)
  obtain ⟨f_7, f_8, f_9⟩ := u_5
  have hP : va_P g.1 vwCl [(z 0, .inr (12, [.ref (z 1), .ref (z 2), .int (nI kp), .int (f_7 0), .ref (z 3), .ref (z 4), .ref (z 5), .ref (z 6), .int (f_7 1), .ref (z 7), .ref (z 8), .ref (z 9), .ref (z 10), .ref (z 11), .ref (z 12), .int (f_7 2), .ref (z 13), .ref (z 14), .int (f_7 3), .ref (z 15)])), (z 1, .inl (gI g, 461, .inl D)), (z 6, .inl (gI g, 5, .inl f_8)), (z 7, .inl (gI g, 7, .inl f_9))] H := hP
  have hD : va_D A [(z 0, .inr (12, [.ref (z 1), .ref (z 2), .int (nI kp), .int (f_7 0), .ref (z 3), .ref (z 4), .ref (z 5), .ref (z 6), .int (f_7 1), .ref (z 7), .ref (z 8), .ref (z 9), .ref (z 10), .ref (z 11), .ref (z 12), .int (f_7 2), .ref (z 13), .ref (z 14), .int (f_7 3), .ref (z 15)])), (z 1, .inl (gI g, 461, .inl D)), (z 6, .inl (gI g, 5, .inl f_8)), (z 7, .inl (gI g, 7, .inl f_9))] := hD
  refine lv_aload_n hx hb dX12_hasEnough_11 rfl (lv_at hl 0 rfl) ?_
  refine lv_iload_n hx hb dX12_hasEnough_12 rfl (lv_at hl 1 rfl) ?_
  refine k_Vi [0, 1] [2, 3] 0 12 (wr := [(z 6, .inl (gI g, 5, .inl f_8)), (z 7, .inl (gI g, 7, .inl f_9))]) hx hb hml hown hts hKW hP hD hS hA hl.1 (c_X12_childrenIn l g _ z kp f_7 D x (by first | assumption | omega | decide)) rfl rfl rfl wd_20_8 wd_1_5 wd_20_5 wd_20_6 wd_20_7 yd_X12_childrenIn ⟨(Nat.le_of_ble_eq_true rfl), (Nat.le_of_ble_eq_true rfl)⟩ rfl rfl rfl rfl (by decide) rfl (Nat.le_of_ble_eq_true rfl) dX12_hasEnough_13 ⟨(Nat.le_of_ble_eq_true rfl), (Nat.le_of_ble_eq_true rfl)⟩ (fun r_10 u_11 H locs hw_12 hP hD hS => ?_)
  have hP : va_P g.1 vwCl [(z 6, .inl (gI g, 5, .inl f_8)), (z 7, .inl (gI g, 7, .inl f_9)), (z 0, .inr (12, [.ref (z 1), .ref (z 2), .int (nI kp), .int (f_7 0), .ref (z 3), .ref (z 4), .ref (z 5), .ref (z 6), .int (f_7 1), .ref (z 7), .ref (z 8), .ref (z 9), .ref (z 10), .ref (z 11), .ref (z 12), .int (f_7 2), .ref (z 13), .ref (z 14), .int (f_7 3), .ref (z 15)])), (z 1, .inl (gI g, 461, .inl D))] H := hP
  have hD : va_D A [(z 6, .inl (gI g, 5, .inl f_8)), (z 7, .inl (gI g, 7, .inl f_9)), (z 0, .inr (12, [.ref (z 1), .ref (z 2), .int (nI kp), .int (f_7 0), .ref (z 3), .ref (z 4), .ref (z 5), .ref (z 6), .int (f_7 1), .ref (z 7), .ref (z 8), .ref (z 9), .ref (z 10), .ref (z 11), .ref (z 12), .int (f_7 2), .ref (z 13), .ref (z 14), .int (f_7 3), .ref (z 15)])), (z 1, .inl (gI g, 461, .inl D))] := hD
  refine lv_if_eq (tgt := 23) hx hb dX12_hasEnough_16 (by decide) (fun c_13 => ?_) (fun c_13 => ?_)
  · refine lv_iconst (v := 0) hx hb dX12_hasEnough_23 (by decide) ?_
    refine k_Vi [2, 3] [0, 1] 2 12 (wr := [(z 6, .inl (gI g, 5, .inl f_8)), (z 7, .inl (gI g, 7, .inl f_9))]) hx hb hml hown hts hKW hP hD hS hA hl.1 (c_X12_areEnough l g _ z kp f_7 D r_1 r_4 0 (by first | assumption | omega | decide)) rfl rfl rfl wd_28_2 wd_1_5 wd_27_23 wd_28_0 wd_28_1 yd_X12_areEnough ⟨(Nat.le_of_ble_eq_true rfl), (Nat.le_of_ble_eq_true rfl)⟩ rfl rfl rfl rfl (by decide) rfl (Nat.le_of_ble_eq_true rfl) dX12_hasEnough_24 ⟨(Nat.le_of_ble_eq_true rfl), (Nat.le_of_ble_eq_true rfl)⟩ (fun r_14 u_15 H locs hw_16 hP hD hS => ?_)
    have hP : va_P g.1 vwCl [(z 6, .inl (gI g, 5, .inl f_8)), (z 7, .inl (gI g, 7, .inl f_9)), (z 0, .inr (12, [.ref (z 1), .ref (z 2), .int (nI kp), .int (f_7 0), .ref (z 3), .ref (z 4), .ref (z 5), .ref (z 6), .int (f_7 1), .ref (z 7), .ref (z 8), .ref (z 9), .ref (z 10), .ref (z 11), .ref (z 12), .int (f_7 2), .ref (z 13), .ref (z 14), .int (f_7 3), .ref (z 15)])), (z 1, .inl (gI g, 461, .inl D))] H := hP
    have hD : va_D A [(z 6, .inl (gI g, 5, .inl f_8)), (z 7, .inl (gI g, 7, .inl f_9)), (z 0, .inr (12, [.ref (z 1), .ref (z 2), .int (nI kp), .int (f_7 0), .ref (z 3), .ref (z 4), .ref (z 5), .ref (z 6), .int (f_7 1), .ref (z 7), .ref (z 8), .ref (z 9), .ref (z 10), .ref (z 11), .ref (z 12), .int (f_7 2), .ref (z 13), .ref (z 14), .int (f_7 3), .ref (z 15)])), (z 1, .inl (gI g, 461, .inl D))] := hD
    rcases (show r_14 = 1 ∨ r_14 = 0 from hw_16) with rfl | rfl <;> clear hw_16
    · exact k_zret (f_7, f_8, f_9) [2, 3, 0, 1] hx hb hr hlk hP hD hS (Or.inl rfl) rfl rfl rfl rfl (Nat.le_of_ble_eq_true rfl) (Nat.le_of_ble_eq_true rfl) dX12_hasEnough_27
    · exact k_zret (f_7, f_8, f_9) [2, 3, 0, 1] hx hb hr hlk hP hD hS (Or.inr rfl) rfl rfl rfl rfl (Nat.le_of_ble_eq_true rfl) (Nat.le_of_ble_eq_true rfl) dX12_hasEnough_27
  · refine lv_iconst (v := 1) hx hb dX12_hasEnough_19 (by decide) ?_
    refine lv_goto (tgt := 24) hx hb dX12_hasEnough_20 (by decide) ?_
    refine k_Vi [2, 3] [0, 1] 2 12 (wr := [(z 6, .inl (gI g, 5, .inl f_8)), (z 7, .inl (gI g, 7, .inl f_9))]) hx hb hml hown hts hKW hP hD hS hA hl.1 (c_X12_areEnough l g _ z kp f_7 D r_1 r_4 1 (by first | assumption | omega | decide)) rfl rfl rfl wd_28_2 wd_1_5 wd_27_23 wd_28_0 wd_28_1 yd_X12_areEnough ⟨(Nat.le_of_ble_eq_true rfl), (Nat.le_of_ble_eq_true rfl)⟩ rfl rfl rfl rfl (by decide) rfl (Nat.le_of_ble_eq_true rfl) dX12_hasEnough_24 ⟨(Nat.le_of_ble_eq_true rfl), (Nat.le_of_ble_eq_true rfl)⟩ (fun r_17 u_18 H locs hw_19 hP hD hS => ?_)
    have hP : va_P g.1 vwCl [(z 6, .inl (gI g, 5, .inl f_8)), (z 7, .inl (gI g, 7, .inl f_9)), (z 0, .inr (12, [.ref (z 1), .ref (z 2), .int (nI kp), .int (f_7 0), .ref (z 3), .ref (z 4), .ref (z 5), .ref (z 6), .int (f_7 1), .ref (z 7), .ref (z 8), .ref (z 9), .ref (z 10), .ref (z 11), .ref (z 12), .int (f_7 2), .ref (z 13), .ref (z 14), .int (f_7 3), .ref (z 15)])), (z 1, .inl (gI g, 461, .inl D))] H := hP
    have hD : va_D A [(z 6, .inl (gI g, 5, .inl f_8)), (z 7, .inl (gI g, 7, .inl f_9)), (z 0, .inr (12, [.ref (z 1), .ref (z 2), .int (nI kp), .int (f_7 0), .ref (z 3), .ref (z 4), .ref (z 5), .ref (z 6), .int (f_7 1), .ref (z 7), .ref (z 8), .ref (z 9), .ref (z 10), .ref (z 11), .ref (z 12), .int (f_7 2), .ref (z 13), .ref (z 14), .int (f_7 3), .ref (z 15)])), (z 1, .inl (gI g, 461, .inl D))] := hD
    rcases (show r_17 = 1 ∨ r_17 = 0 from hw_19) with rfl | rfl <;> clear hw_19
    · exact k_zret (f_7, f_8, f_9) [2, 3, 0, 1] hx hb hr hlk hP hD hS (Or.inl rfl) rfl rfl rfl rfl (Nat.le_of_ble_eq_true rfl) (Nat.le_of_ble_eq_true rfl) dX12_hasEnough_27
    · exact k_zret (f_7, f_8, f_9) [2, 3, 0, 1] hx hb hr hlk hP hD hS (Or.inr rfl) rfl rfl rfl rfl (Nat.le_of_ble_eq_true rfl) (Nat.le_of_ble_eq_true rfl) dX12_hasEnough_27
theorem dX12_now_0 : decode cX12_now 0 = .ok (.aload_n 0, 1) := by decide +kernel
theorem dX12_now_1 : decode cX12_now 1 = .ok (.iload_n 1, 1) := by decide +kernel
theorem dX12_now_2 : decode cX12_now 2 = .ok (.invokevirtual 100, 3) := by decide +kernel
theorem dX12_now_5 : decode cX12_now 5 = .ok (.ifCond .eq 12, 3) := by decide +kernel
theorem dX12_now_8 : decode cX12_now 8 = .ok (.iload_n 2, 1) := by decide +kernel
theorem dX12_now_9 : decode cX12_now 9 = .ok (.iconst 0, 1) := by decide +kernel
theorem dX12_now_10 : decode cX12_now 10 = .ok (.iconst 4, 1) := by decide +kernel
theorem dX12_now_11 : decode cX12_now 11 = .ok (.invokestatic 64, 3) := by decide +kernel
theorem dX12_now_14 : decode cX12_now 14 = .ok (.ifCond .ne 9, 3) := by decide +kernel
theorem dX12_now_23 : decode cX12_now 23 = .ok (.iconst 0, 1) := by decide +kernel
theorem dX12_now_24 : decode cX12_now 24 = .ok (.istore_n 3, 1) := by decide +kernel
theorem dX12_now_25 : decode cX12_now 25 = .ok (.iconst 0, 1) := by decide +kernel
theorem dX12_now_26 : decode cX12_now 26 = .ok (.istore 4, 2) := by decide +kernel
theorem dX12_now_28 : decode cX12_now 28 = .ok (.iload 4, 2) := by decide +kernel
theorem dX12_now_30 : decode cX12_now 30 = .ok (.aload_n 0, 1) := by decide +kernel
theorem dX12_now_31 : decode cX12_now 31 = .ok (.getfield 7, 3) := by decide +kernel
theorem dX12_now_34 : decode cX12_now 34 = .ok (.iconst 1, 1) := by decide +kernel
theorem dX12_now_35 : decode cX12_now 35 = .ok (.iaload, 1) := by decide +kernel
theorem dX12_now_36 : decode cX12_now 36 = .ok (.if_icmp .ge 36, 3) := by decide +kernel
theorem dX12_now_72 : decode cX12_now 72 = .ok (.iload_n 2, 1) := by decide +kernel
theorem dX12_now_73 : decode cX12_now 73 = .ok (.tableswitch 51 0 3 #[31, 37, 43, 49], 31) := by decide +kernel
theorem dX12_now_124 : decode cX12_now 124 = .ok (.aload_n 0, 1) := by decide +kernel
theorem dX12_now_125 : decode cX12_now 125 = .ok (.iload_n 1, 1) := by decide +kernel
theorem dX12_now_126 : decode cX12_now 126 = .ok (.invokevirtual 142, 3) := by decide +kernel
theorem dX12_now_129 : decode cX12_now 129 = .ok (.ifCond .eq 7, 3) := by decide +kernel
theorem dX12_now_132 : decode cX12_now 132 = .ok (.iconst 1, 1) := by decide +kernel
theorem dX12_now_133 : decode cX12_now 133 = .ok (.goto 4, 3) := by decide +kernel
theorem dX12_now_137 : decode cX12_now 137 = .ok (.ireturn, 1) := by decide +kernel
theorem dX12_now_136 : decode cX12_now 136 = .ok (.iconst 0, 1) := by decide +kernel
theorem dX12_now_104 : decode cX12_now 104 = .ok (.aload_n 0, 1) := by decide +kernel
theorem dX12_now_105 : decode cX12_now 105 = .ok (.iload_n 1, 1) := by decide +kernel
theorem dX12_now_106 : decode cX12_now 106 = .ok (.invokevirtual 103, 3) := by decide +kernel
theorem dX12_now_109 : decode cX12_now 109 = .ok (.ireturn, 1) := by decide +kernel
theorem dX12_now_110 : decode cX12_now 110 = .ok (.aload_n 0, 1) := by decide +kernel
theorem dX12_now_111 : decode cX12_now 111 = .ok (.iload_n 1, 1) := by decide +kernel
theorem dX12_now_112 : decode cX12_now 112 = .ok (.invokevirtual 132, 3) := by decide +kernel
theorem dX12_now_115 : decode cX12_now 115 = .ok (.ireturn, 1) := by decide +kernel
theorem dX12_now_116 : decode cX12_now 116 = .ok (.aload_n 0, 1) := by decide +kernel
theorem dX12_now_117 : decode cX12_now 117 = .ok (.iload_n 1, 1) := by decide +kernel
theorem dX12_now_118 : decode cX12_now 118 = .ok (.invokevirtual 135, 3) := by decide +kernel
theorem dX12_now_121 : decode cX12_now 121 = .ok (.ireturn, 1) := by decide +kernel
theorem dX12_now_122 : decode cX12_now 122 = .ok (.iload_n 3, 1) := by decide +kernel
theorem dX12_now_123 : decode cX12_now 123 = .ok (.ireturn, 1) := by decide +kernel
theorem dX12_now_39 : decode cX12_now 39 = .ok (.iload_n 3, 1) := by decide +kernel
theorem dX12_now_40 : decode cX12_now 40 = .ok (.aload_n 0, 1) := by decide +kernel
theorem dX12_now_41 : decode cX12_now 41 = .ok (.getfield 7, 3) := by decide +kernel
theorem dX12_now_44 : decode cX12_now 44 = .ok (.bipush 33, 2) := by decide +kernel
theorem dX12_now_46 : decode cX12_now 46 = .ok (.iload 4, 2) := by decide +kernel
theorem dX12_now_48 : decode cX12_now 48 = .ok (.iadd, 1) := by decide +kernel
theorem dX12_now_49 : decode cX12_now 49 = .ok (.iaload, 1) := by decide +kernel
theorem dX12_now_50 : decode cX12_now 50 = .ok (.iload_n 1, 1) := by decide +kernel
theorem dX12_now_51 : decode cX12_now 51 = .ok (.if_icmp .ne 12, 3) := by decide +kernel
theorem dX12_now_63 : decode cX12_now 63 = .ok (.iconst 0, 1) := by decide +kernel
theorem dX12_now_64 : decode cX12_now 64 = .ok (.iadd, 1) := by decide +kernel
theorem dX12_now_65 : decode cX12_now 65 = .ok (.istore_n 3, 1) := by decide +kernel
theorem dX12_now_66 : decode cX12_now 66 = .ok (.iinc 4 1, 3) := by decide +kernel
theorem dX12_now_69 : decode cX12_now 69 = .ok (.goto (-41), 3) := by decide +kernel
theorem dX12_now_54 : decode cX12_now 54 = .ok (.aload_n 0, 1) := by decide +kernel
theorem dX12_now_55 : decode cX12_now 55 = .ok (.iload 4, 2) := by decide +kernel
theorem dX12_now_57 : decode cX12_now 57 = .ok (.invokevirtual 129, 3) := by decide +kernel
theorem dX12_now_60 : decode cX12_now 60 = .ok (.goto 4, 3) := by decide +kernel
theorem dX12_now_17 : decode cX12_now 17 = .ok (.aload_n 0, 1) := by decide +kernel
theorem dX12_now_18 : decode cX12_now 18 = .ok (.iconst 1, 1) := by decide +kernel
theorem dX12_now_19 : decode cX12_now 19 = .ok (.invokevirtual 68, 3) := by decide +kernel
theorem dX12_now_22 : decode cX12_now 22 = .ok (.ireturn, 1) := by decide +kernel
set_option maxHeartbeats 8000000 in
set_option maxRecDepth 100000 in
theorem c_X12_now (l : Launch) (g : kG) (sz : Nat) (z : Nat → Nat) (kp : Nat) (xs : Nat → Int32) (D : Nat → Int32) (pf : Nat → Int32) (cf : Nat → Int32) (x : Int32) (y : Int32) (hDI : DI D) : kMi l g yX12_now cX12_now 5 (some .int) 5 0 0 [.ref (z 0), .int x, .int y] sz [(z 0, .inr (12, [.ref (z 1), .ref (z 2), .int (nI kp), .int (xs 0), .ref (z 3), .ref (z 4), .ref (z 5), .ref (z 6), .int (xs 1), .ref (z 7), .ref (z 8), .ref (z 9), .ref (z 10), .ref (z 11), .ref (z 12), .int (xs 2), .ref (z 13), .ref (z 14), .int (xs 3), .ref (z 15)])), (z 1, .inl (gI g, 461, .inl D)), (z 6, .inl (gI g, 5, .inl pf)), (z 7, .inl (gI g, 7, .inl cf))] (fun (r : Int32) (u : (Nat → Int32) × (Nat → Int32) × (Nat → Int32)) => True) (fun (u : (Nat → Int32) × (Nat → Int32) × (Nat → Int32)) => ([(z 0, .inr (12, [.ref (z 1), .ref (z 2), .int (nI kp), .int (u.1 0), .ref (z 3), .ref (z 4), .ref (z 5), .ref (z 6), .int (u.1 1), .ref (z 7), .ref (z 8), .ref (z 9), .ref (z 10), .ref (z 11), .ref (z 12), .int (u.1 2), .ref (z 13), .ref (z 14), .int (u.1 3), .ref (z 15)])), (z 1, .inl (gI g, 461, .inl D)), (z 6, .inl (gI g, 5, .inl u.2.1)), (z 7, .inl (gI g, 7, .inl u.2.2))] : va_W)) := by
  refine kMi.of (by decide) (Nat.le_of_ble_eq_true rfl) (fun p e s m below meth c A hx hb hr hml hown hts hlk hnm hKW hP hD hS hA ls hl => ?_)
  have hown : s.vm.findClass RX12 = some m.cls := hown
  have hl : lv_has ls 5 [(0, .ref (z 0)), (1, .int x), (2, .int y)] := hl
  refine k_hide hP hS (fun H locs hP hS => ?_)
  refine lv_aload_n hx hb dX12_now_0 rfl (lv_at hl 0 rfl) ?_
  refine lv_iload_n hx hb dX12_now_1 rfl (lv_at hl 1 rfl) ?_
  refine k_Vi [0, 1] [2, 3] 0 12 (wr := [(z 6, .inl (gI g, 5, .inl pf)), (z 7, .inl (gI g, 7, .inl cf))]) hx hb hml hown hts hKW hP hD hS hA hl.1 (c_X12_isRoom l g _ z kp xs D x (by first | assumption | omega | decide)) rfl rfl rfl wd_20_4 wd_1_5 wd_20_1 wd_20_2 wd_20_3 yd_X12_isRoom ⟨(Nat.le_of_ble_eq_true rfl), (Nat.le_of_ble_eq_true rfl)⟩ rfl rfl rfl rfl (by decide) rfl (Nat.le_of_ble_eq_true rfl) dX12_now_2 ⟨(Nat.le_of_ble_eq_true rfl), (Nat.le_of_ble_eq_true rfl)⟩ (fun r_1 u_2 H locs hw_3 hP hD hS => ?_)
  have hP : va_P g.1 vwCl [(z 6, .inl (gI g, 5, .inl pf)), (z 7, .inl (gI g, 7, .inl cf)), (z 0, .inr (12, [.ref (z 1), .ref (z 2), .int (nI kp), .int (xs 0), .ref (z 3), .ref (z 4), .ref (z 5), .ref (z 6), .int (xs 1), .ref (z 7), .ref (z 8), .ref (z 9), .ref (z 10), .ref (z 11), .ref (z 12), .int (xs 2), .ref (z 13), .ref (z 14), .int (xs 3), .ref (z 15)])), (z 1, .inl (gI g, 461, .inl D))] H := hP
  have hD : va_D A [(z 6, .inl (gI g, 5, .inl pf)), (z 7, .inl (gI g, 7, .inl cf)), (z 0, .inr (12, [.ref (z 1), .ref (z 2), .int (nI kp), .int (xs 0), .ref (z 3), .ref (z 4), .ref (z 5), .ref (z 6), .int (xs 1), .ref (z 7), .ref (z 8), .ref (z 9), .ref (z 10), .ref (z 11), .ref (z 12), .int (xs 2), .ref (z 13), .ref (z 14), .int (xs 3), .ref (z 15)])), (z 1, .inl (gI g, 461, .inl D))] := hD
  rcases (show (r_1 = 1 ∧ (∃ j : Nat, (j < 5 ∧ (j : Int) < (D 0).toInt) ∧ x = nI j)) ∨ (r_1 = 0 ∧ ¬ (∃ j : Nat, (j < 5 ∧ (j : Int) < (D 0).toInt) ∧ x = nI j)) from hw_3) with ⟨rfl, hw_3b⟩ | ⟨rfl, hw_3b⟩ <;> clear hw_3
  · obtain ⟨j_4, hj_4, rfl⟩ := hw_3b
    refine lv_if_eq (tgt := 17) hx hb dX12_now_5 (by decide) (fun c => absurd c (by decide)) (fun _ => ?_)
    refine lv_iload_n hx hb dX12_now_8 rfl (lv_at hl 2 rfl) ?_
    refine lv_iconst (v := 0) hx hb dX12_now_9 (by decide) ?_
    refine lv_iconst (v := 4) hx hb dX12_now_10 (by decide) ?_
    refine k_Si [] [0, 1, 2, 3] (wr := [(z 6, .inl (gI g, 5, .inl pf)), (z 7, .inl (gI g, 7, .inl cf)), (z 0, .inr (12, [.ref (z 1), .ref (z 2), .int (nI kp), .int (xs 0), .ref (z 3), .ref (z 4), .ref (z 5), .ref (z 6), .int (xs 1), .ref (z 7), .ref (z 8), .ref (z 9), .ref (z 10), .ref (z 11), .ref (z 12), .int (xs 2), .ref (z 13), .ref (z 14), .int (xs 3), .ref (z 15)])), (z 1, .inl (gI g, 461, .inl D))]) hx hb hml hown hts hKW hP hD hS hA hl.1 (c_X12_isIn l g _ y 0 4 ) wd_10_11 wd_1_5 wd_10_9 wd_10_10 yd_X12_isIn ⟨(Nat.le_of_ble_eq_true rfl), (Nat.le_of_ble_eq_true rfl)⟩ rfl rfl rfl rfl (by decide) rfl (Nat.le_of_ble_eq_true rfl) dX12_now_11 ⟨(Nat.le_of_ble_eq_true rfl), (Nat.le_of_ble_eq_true rfl)⟩ (fun r_5 u_6 H locs hw_7 hP hD hS => ?_)
    have hP : va_P g.1 vwCl [(z 6, .inl (gI g, 5, .inl pf)), (z 7, .inl (gI g, 7, .inl cf)), (z 0, .inr (12, [.ref (z 1), .ref (z 2), .int (nI kp), .int (xs 0), .ref (z 3), .ref (z 4), .ref (z 5), .ref (z 6), .int (xs 1), .ref (z 7), .ref (z 8), .ref (z 9), .ref (z 10), .ref (z 11), .ref (z 12), .int (xs 2), .ref (z 13), .ref (z 14), .int (xs 3), .ref (z 15)])), (z 1, .inl (gI g, 461, .inl D))] H := hP
    have hD : va_D A [(z 6, .inl (gI g, 5, .inl pf)), (z 7, .inl (gI g, 7, .inl cf)), (z 0, .inr (12, [.ref (z 1), .ref (z 2), .int (nI kp), .int (xs 0), .ref (z 3), .ref (z 4), .ref (z 5), .ref (z 6), .int (xs 1), .ref (z 7), .ref (z 8), .ref (z 9), .ref (z 10), .ref (z 11), .ref (z 12), .int (xs 2), .ref (z 13), .ref (z 14), .int (xs 3), .ref (z 15)])), (z 1, .inl (gI g, 461, .inl D))] := hD
    rcases (show (r_5 = 1 ∧ (Int32.toInt 0 ≤ Int32.toInt y ∧ Int32.toInt y ≤ Int32.toInt 4)) ∨ (r_5 = 0 ∧ ¬ (Int32.toInt 0 ≤ Int32.toInt y ∧ Int32.toInt y ≤ Int32.toInt 4)) from hw_7) with ⟨rfl, hw_7b⟩ | ⟨rfl, hw_7b⟩ <;> clear hw_7
    · refine lv_if_ne (tgt := 23) hx hb dX12_now_14 (by decide) (fun _ => ?_) (fun c => absurd c (by decide))
      refine lv_iconst (v := 0) hx hb dX12_now_23 (by decide) ?_
      refine lv_istore_n (lv' := [(3, .int 0), (0, .ref (z 0)), (1, .int (nI j_4)), (2, .int y)]) hx hb dX12_now_24 rfl hl (by decide) rfl (fun ls hl => ?_)
      refine lv_iconst (v := 0) hx hb dX12_now_25 (by decide) ?_
      refine lv_istore (lv' := [(4, .int 0), (3, .int 0), (0, .ref (z 0)), (1, .int (nI j_4)), (2, .int y)]) hx hb dX12_now_26 hl (by decide) rfl (fun ls hl => ?_)
      have L28 : ∀ (n28 : Nat) (i : Nat) (x3 : Int32) (hfuel28 : 7 - i < n28) (hi : i ≤ 7) (H : Heap) (locs : List Loc) (hP : va_P g.1 vwCl [(z 6, .inl (gI g, 5, .inl pf)), (z 7, .inl (gI g, 7, .inl cf)), (z 0, .inr (12, [.ref (z 1), .ref (z 2), .int (nI kp), .int (xs 0), .ref (z 3), .ref (z 4), .ref (z 5), .ref (z 6), .int (xs 1), .ref (z 7), .ref (z 8), .ref (z 9), .ref (z 10), .ref (z 11), .ref (z 12), .int (xs 2), .ref (z 13), .ref (z 14), .int (xs 3), .ref (z 15)])), (z 1, .inl (gI g, 461, .inl D))] H) (hD : va_D A [(z 6, .inl (gI g, 5, .inl pf)), (z 7, .inl (gI g, 7, .inl cf)), (z 0, .inr (12, [.ref (z 1), .ref (z 2), .int (nI kp), .int (xs 0), .ref (z 3), .ref (z 4), .ref (z 5), .ref (z 6), .int (xs 1), .ref (z 7), .ref (z 8), .ref (z 9), .ref (z 10), .ref (z 11), .ref (z 12), .int (xs 2), .ref (z 13), .ref (z 14), .int (xs 3), .ref (z 15)])), (z 1, .inl (gI g, 461, .inl D))]) (hS : va_S A s.heap H locs) (ls : Array Slot) (hl : lv_has ls 5 [(4, .int (nI i)), (3, .int x3), (0, .ref (z 0)), (1, .int (nI j_4)), (2, .int y)]), W p l e (kR 5 0 0) s m ([.ref (z 0), .int (nI j_4), .int y] : List Value).toArray below meth c H locs 0 0 (kQi g A below ([.ref (z 0), .int (nI j_4), .int y] : List Value).toArray s 0 0 (fun (r : Int32) (u : (Nat → Int32) × (Nat → Int32) × (Nat → Int32)) => True) (fun (u : (Nat → Int32) × (Nat → Int32) × (Nat → Int32)) => ([(z 0, .inr (12, [.ref (z 1), .ref (z 2), .int (nI kp), .int (u.1 0), .ref (z 3), .ref (z 4), .ref (z 5), .ref (z 6), .int (u.1 1), .ref (z 7), .ref (z 8), .ref (z 9), .ref (z 10), .ref (z 11), .ref (z 12), .int (u.1 2), .ref (z 13), .ref (z 14), .int (u.1 3), .ref (z 15)])), (z 1, .inl (gI g, 461, .inl D)), (z 6, .inl (gI g, 5, .inl u.2.1)), (z 7, .inl (gI g, 7, .inl u.2.2))] : va_W))) (F0 m 28 ls []) := by
        intro n28
        induction n28 with
        | zero => intro i x3 hfuel28; exact absurd hfuel28 (Nat.not_lt_zero _)
        | succ n28 ih28 =>
          intro i x3 hfuel28 hi H locs hP hD hS ls hl
          refine lv_iload hx hb dX12_now_28 (lv_at hl 0 rfl) ?_
          refine lv_aload_n hx hb dX12_now_30 rfl (lv_at hl 2 rfl) ?_
          refine va_get (ci := 12) (C := RX12) (T := TX12) (N := 20) hx hb hts inlX12 hown hKW.1 hP 2 rfl rfl 0 (by decide) (hts _ wd_6_5) (fun _ h => h) rfl dX12_now_31 ?_
          refine lv_iconst (v := 1) hx hb dX12_now_34 (by decide) ?_
          obtain ⟨dk_8, hdk_8a, hdk_8b, edk_8⟩ := DI.n1 hDI
          refine va_iald hx hb hKW.1 hP 3 0 rfl rfl (show ¬ _ by decide) dX12_now_35 ?_
          refine k_top (y := nI dk_8) edk_8 ?_
          refine lv_icmp_ge (tgt := 72) hx hb dX12_now_36 (by decide) (fun c_9 => ?_) (fun c_9 => ?_)
          · have c_9n : dk_8 ≤ i := (k_leI (a := dk_8) (b := i) (by omega) (by omega)).mp c_9
            refine lv_iload_n hx hb dX12_now_72 rfl (lv_at hl 4 rfl) ?_
            by_cases c_10 : Int32.toInt y < 0 ∨ 3 < Int32.toInt y
            · refine lv_tableOut (tgt := 124) hx hb dX12_now_73 c_10 (by decide) ?_
              refine lv_aload_n hx hb dX12_now_124 rfl (lv_at hl 2 rfl) ?_
              refine lv_iload_n hx hb dX12_now_125 rfl (lv_at hl 3 rfl) ?_
              refine k_Vi [2, 3, 0, 1] [] 2 12 (wr := []) hx hb hml hown hts hKW hP hD hS hA hl.1 (c_X12_hasEnough l g _ z kp xs D pf cf (nI j_4) (by first | assumption | omega | decide)) rfl rfl rfl wd_27_22 wd_1_5 wd_27_19 wd_27_20 wd_27_21 yd_X12_hasEnough ⟨(Nat.le_of_ble_eq_true rfl), (Nat.le_of_ble_eq_true rfl)⟩ rfl rfl rfl rfl (by decide) rfl (Nat.le_of_ble_eq_true rfl) dX12_now_126 ⟨(Nat.le_of_ble_eq_true rfl), (Nat.le_of_ble_eq_true rfl)⟩ (fun r_11 u_12 H locs hw_13 hP hD hS => ?_)
              obtain ⟨f_14, f_15, f_16⟩ := u_12
              have hP : va_P g.1 vwCl [(z 0, .inr (12, [.ref (z 1), .ref (z 2), .int (nI kp), .int (f_14 0), .ref (z 3), .ref (z 4), .ref (z 5), .ref (z 6), .int (f_14 1), .ref (z 7), .ref (z 8), .ref (z 9), .ref (z 10), .ref (z 11), .ref (z 12), .int (f_14 2), .ref (z 13), .ref (z 14), .int (f_14 3), .ref (z 15)])), (z 1, .inl (gI g, 461, .inl D)), (z 6, .inl (gI g, 5, .inl f_15)), (z 7, .inl (gI g, 7, .inl f_16))] H := hP
              have hD : va_D A [(z 0, .inr (12, [.ref (z 1), .ref (z 2), .int (nI kp), .int (f_14 0), .ref (z 3), .ref (z 4), .ref (z 5), .ref (z 6), .int (f_14 1), .ref (z 7), .ref (z 8), .ref (z 9), .ref (z 10), .ref (z 11), .ref (z 12), .int (f_14 2), .ref (z 13), .ref (z 14), .int (f_14 3), .ref (z 15)])), (z 1, .inl (gI g, 461, .inl D)), (z 6, .inl (gI g, 5, .inl f_15)), (z 7, .inl (gI g, 7, .inl f_16))] := hD
              rcases (show r_11 = 1 ∨ r_11 = 0 from hw_13) with rfl | rfl <;> clear hw_13
              · refine lv_if_eq (tgt := 136) hx hb dX12_now_129 (by decide) (fun c => absurd c (by decide)) (fun _ => ?_)
                refine lv_iconst (v := 1) hx hb dX12_now_132 (by decide) ?_
                refine lv_goto (tgt := 137) hx hb dX12_now_133 (by decide) ?_
                exact k_iret (f_14, f_15, f_16) [0, 1, 2, 3] hx hb hr hlk hP hD hS trivial rfl rfl rfl (Nat.le_of_ble_eq_true rfl) (Nat.le_of_ble_eq_true rfl) dX12_now_137
              · refine lv_if_eq (tgt := 136) hx hb dX12_now_129 (by decide) (fun _ => ?_) (fun c => absurd c (by decide))
                refine lv_iconst (v := 0) hx hb dX12_now_136 (by decide) ?_
                exact k_iret (f_14, f_15, f_16) [0, 1, 2, 3] hx hb hr hlk hP hD hS trivial rfl rfl rfl (Nat.le_of_ble_eq_true rfl) (Nat.le_of_ble_eq_true rfl) dX12_now_137
            · rcases (show y = 0 ∨ y = 1 ∨ y = 2 ∨ y = 3 by simp only [← Int32.toInt_inj]; simp at c_10 ⊢; omega) with c_10 | c_10 | c_10 | c_10
              · refine lv_tableIn (tgt := 104) hx hb dX12_now_73 (by rw [c_10]; decide) (by rw [c_10]; decide) (by rw [c_10]; rfl) (by decide) ?_
                refine lv_aload_n hx hb dX12_now_104 rfl (lv_at hl 2 rfl) ?_
                refine lv_iload_n hx hb dX12_now_105 rfl (lv_at hl 3 rfl) ?_
                refine k_Vi [2, 3] [0, 1] 2 12 (wr := [(z 6, .inl (gI g, 5, .inl pf)), (z 7, .inl (gI g, 7, .inl cf))]) hx hb hml hown hts hKW hP hD hS hA hl.1 (c_X12_childrenIn l g _ z kp xs D (nI j_4) (by first | assumption | omega | decide)) rfl rfl rfl wd_20_8 wd_1_5 wd_20_5 wd_20_6 wd_20_7 yd_X12_childrenIn ⟨(Nat.le_of_ble_eq_true rfl), (Nat.le_of_ble_eq_true rfl)⟩ rfl rfl rfl rfl (by decide) rfl (Nat.le_of_ble_eq_true rfl) dX12_now_106 ⟨(Nat.le_of_ble_eq_true rfl), (Nat.le_of_ble_eq_true rfl)⟩ (fun r_17 u_18 H locs hw_19 hP hD hS => ?_)
                have hP : va_P g.1 vwCl [(z 6, .inl (gI g, 5, .inl pf)), (z 7, .inl (gI g, 7, .inl cf)), (z 0, .inr (12, [.ref (z 1), .ref (z 2), .int (nI kp), .int (xs 0), .ref (z 3), .ref (z 4), .ref (z 5), .ref (z 6), .int (xs 1), .ref (z 7), .ref (z 8), .ref (z 9), .ref (z 10), .ref (z 11), .ref (z 12), .int (xs 2), .ref (z 13), .ref (z 14), .int (xs 3), .ref (z 15)])), (z 1, .inl (gI g, 461, .inl D))] H := hP
                have hD : va_D A [(z 6, .inl (gI g, 5, .inl pf)), (z 7, .inl (gI g, 7, .inl cf)), (z 0, .inr (12, [.ref (z 1), .ref (z 2), .int (nI kp), .int (xs 0), .ref (z 3), .ref (z 4), .ref (z 5), .ref (z 6), .int (xs 1), .ref (z 7), .ref (z 8), .ref (z 9), .ref (z 10), .ref (z 11), .ref (z 12), .int (xs 2), .ref (z 13), .ref (z 14), .int (xs 3), .ref (z 15)])), (z 1, .inl (gI g, 461, .inl D))] := hD
                exact k_iret (xs, pf, cf) [2, 3, 0, 1] hx hb hr hlk hP hD hS trivial rfl rfl rfl (Nat.le_of_ble_eq_true rfl) (Nat.le_of_ble_eq_true rfl) dX12_now_109
              · refine lv_tableIn (tgt := 110) hx hb dX12_now_73 (by rw [c_10]; decide) (by rw [c_10]; decide) (by rw [c_10]; rfl) (by decide) ?_
                refine lv_aload_n hx hb dX12_now_110 rfl (lv_at hl 2 rfl) ?_
                refine lv_iload_n hx hb dX12_now_111 rfl (lv_at hl 3 rfl) ?_
                refine k_Vi [2, 3] [0, 1] 2 12 (wr := [(z 6, .inl (gI g, 5, .inl pf)), (z 7, .inl (gI g, 7, .inl cf))]) hx hb hml hown hts hKW hP hD hS hA hl.1 (c_X12_handsIn l g _ z kp xs D (nI j_4) (by first | assumption | omega | decide)) rfl rfl rfl wd_27_2 wd_1_5 wd_26_23 wd_27_0 wd_27_1 yd_X12_handsIn ⟨(Nat.le_of_ble_eq_true rfl), (Nat.le_of_ble_eq_true rfl)⟩ rfl rfl rfl rfl (by decide) rfl (Nat.le_of_ble_eq_true rfl) dX12_now_112 ⟨(Nat.le_of_ble_eq_true rfl), (Nat.le_of_ble_eq_true rfl)⟩ (fun r_20 u_21 H locs hw_22 hP hD hS => ?_)
                have hP : va_P g.1 vwCl [(z 6, .inl (gI g, 5, .inl pf)), (z 7, .inl (gI g, 7, .inl cf)), (z 0, .inr (12, [.ref (z 1), .ref (z 2), .int (nI kp), .int (xs 0), .ref (z 3), .ref (z 4), .ref (z 5), .ref (z 6), .int (xs 1), .ref (z 7), .ref (z 8), .ref (z 9), .ref (z 10), .ref (z 11), .ref (z 12), .int (xs 2), .ref (z 13), .ref (z 14), .int (xs 3), .ref (z 15)])), (z 1, .inl (gI g, 461, .inl D))] H := hP
                have hD : va_D A [(z 6, .inl (gI g, 5, .inl pf)), (z 7, .inl (gI g, 7, .inl cf)), (z 0, .inr (12, [.ref (z 1), .ref (z 2), .int (nI kp), .int (xs 0), .ref (z 3), .ref (z 4), .ref (z 5), .ref (z 6), .int (xs 1), .ref (z 7), .ref (z 8), .ref (z 9), .ref (z 10), .ref (z 11), .ref (z 12), .int (xs 2), .ref (z 13), .ref (z 14), .int (xs 3), .ref (z 15)])), (z 1, .inl (gI g, 461, .inl D))] := hD
                exact k_iret (xs, pf, cf) [2, 3, 0, 1] hx hb hr hlk hP hD hS trivial rfl rfl rfl (Nat.le_of_ble_eq_true rfl) (Nat.le_of_ble_eq_true rfl) dX12_now_115
              · refine lv_tableIn (tgt := 116) hx hb dX12_now_73 (by rw [c_10]; decide) (by rw [c_10]; decide) (by rw [c_10]; rfl) (by decide) ?_
                refine lv_aload_n hx hb dX12_now_116 rfl (lv_at hl 2 rfl) ?_
                refine lv_iload_n hx hb dX12_now_117 rfl (lv_at hl 3 rfl) ?_
                refine k_Vi [2, 3, 0, 1] [] 2 12 (wr := []) hx hb hml hown hts hKW hP hD hS hA hl.1 (c_X12_needOf l g _ z kp xs D pf cf (nI j_4) (by first | assumption | omega | decide)) rfl rfl rfl wd_27_6 wd_1_5 wd_27_3 wd_27_4 wd_27_5 yd_X12_needOf ⟨(Nat.le_of_ble_eq_true rfl), (Nat.le_of_ble_eq_true rfl)⟩ rfl rfl rfl rfl (by decide) rfl (Nat.le_of_ble_eq_true rfl) dX12_now_118 ⟨(Nat.le_of_ble_eq_true rfl), (Nat.le_of_ble_eq_true rfl)⟩ (fun r_23 u_24 H locs hw_25 hP hD hS => ?_)
                obtain ⟨f_26, f_27, f_28⟩ := u_24
                have hP : va_P g.1 vwCl [(z 0, .inr (12, [.ref (z 1), .ref (z 2), .int (nI kp), .int (f_26 0), .ref (z 3), .ref (z 4), .ref (z 5), .ref (z 6), .int (f_26 1), .ref (z 7), .ref (z 8), .ref (z 9), .ref (z 10), .ref (z 11), .ref (z 12), .int (f_26 2), .ref (z 13), .ref (z 14), .int (f_26 3), .ref (z 15)])), (z 1, .inl (gI g, 461, .inl D)), (z 6, .inl (gI g, 5, .inl f_27)), (z 7, .inl (gI g, 7, .inl f_28))] H := hP
                have hD : va_D A [(z 0, .inr (12, [.ref (z 1), .ref (z 2), .int (nI kp), .int (f_26 0), .ref (z 3), .ref (z 4), .ref (z 5), .ref (z 6), .int (f_26 1), .ref (z 7), .ref (z 8), .ref (z 9), .ref (z 10), .ref (z 11), .ref (z 12), .int (f_26 2), .ref (z 13), .ref (z 14), .int (f_26 3), .ref (z 15)])), (z 1, .inl (gI g, 461, .inl D)), (z 6, .inl (gI g, 5, .inl f_27)), (z 7, .inl (gI g, 7, .inl f_28))] := hD
                exact k_iret (f_26, f_27, f_28) [0, 1, 2, 3] hx hb hr hlk hP hD hS trivial rfl rfl rfl (Nat.le_of_ble_eq_true rfl) (Nat.le_of_ble_eq_true rfl) dX12_now_121
              · refine lv_tableIn (tgt := 122) hx hb dX12_now_73 (by rw [c_10]; decide) (by rw [c_10]; decide) (by rw [c_10]; rfl) (by decide) ?_
                refine lv_iload_n hx hb dX12_now_122 rfl (lv_at hl 1 rfl) ?_
                exact k_iret (xs, pf, cf) [2, 3, 0, 1] hx hb hr hlk hP hD hS trivial rfl rfl rfl (Nat.le_of_ble_eq_true rfl) (Nat.le_of_ble_eq_true rfl) dX12_now_123
          · have c_9n : i < dk_8 := Nat.not_le.mp (fun h => c_9 ((k_leI (a := dk_8) (b := i) (by omega) (by omega)).mpr h))
            refine lv_iload_n hx hb dX12_now_39 rfl (lv_at hl 1 rfl) ?_
            refine lv_aload_n hx hb dX12_now_40 rfl (lv_at hl 2 rfl) ?_
            refine va_get (ci := 12) (C := RX12) (T := TX12) (N := 20) hx hb hts inlX12 hown hKW.1 hP 2 rfl rfl 0 (by decide) (hts _ wd_6_5) (fun _ h => h) rfl dX12_now_41 ?_
            refine lv_bipush (v := 33) hx hb dX12_now_44 (by decide) ?_
            refine lv_iload hx hb dX12_now_46 (lv_at hl 0 rfl) ?_
            refine lv_iadd hx hb dX12_now_48 ?_
            refine k_top (y := nI (i + 33)) (by rw [Nat.add_comm]; exact nI_add 33 i) ?_
            refine va_iald hx hb hKW.1 hP 3 0 rfl rfl (vp_in_nI (by omega) (by decide)) dX12_now_49 ?_
            refine lv_topi (fun x_29 ex_29 => ?_)
            refine lv_iload_n hx hb dX12_now_50 rfl (lv_at hl 3 rfl) ?_
            refine lv_icmp_ne (tgt := 63) hx hb dX12_now_51 (by decide) (fun c_30 => ?_) (fun c_30 => ?_)
            · refine lv_iconst (v := 0) hx hb dX12_now_63 (by decide) ?_
              refine lv_iadd hx hb dX12_now_64 ?_
              refine lv_topi (fun x_31 ex_31 => ?_)
              refine lv_istore_n (lv' := [(3, .int x_31), (4, .int (nI i)), (0, .ref (z 0)), (1, .int (nI j_4)), (2, .int y)]) hx hb dX12_now_65 rfl hl (by decide) rfl (fun ls hl => ?_)
              refine lv_iinc (v := nI (i + 1)) (lv' := [(4, .int (nI (i + 1))), (3, .int x_31), (0, .ref (z 0)), (1, .int (nI j_4)), (2, .int y)]) hx hb dX12_now_66 hl (k := 1) rfl (nI_add i 1) (by decide) rfl (fun ls hl => ?_)
              refine lv_goto (tgt := 28) hx hb dX12_now_69 (by decide) ?_
              exact ih28 (i + 1) x_31 (by omega) (by first | assumption | omega) H locs (hP.sub [0, 1, 2, 3] rfl) (hD.sub [0, 1, 2, 3] (by decide) rfl) hS ls (lv_sub hl [0, 1, 2, 3, 4] rfl)
            · refine lv_aload_n hx hb dX12_now_54 rfl (lv_at hl 2 rfl) ?_
              refine lv_iload hx hb dX12_now_55 (lv_at hl 0 rfl) ?_
              refine k_Vi [2, 3] [0, 1] 2 12 (wr := [(z 6, .inl (gI g, 5, .inl pf)), (z 7, .inl (gI g, 7, .inl cf))]) hx hb hml hown hts hKW hP hD hS hA hl.1 (c_X12_worthOf l g _ z kp xs D i (by first | assumption | omega | decide)) rfl rfl rfl wd_26_22 wd_1_5 wd_26_19 wd_26_20 wd_26_21 yd_X12_worthOf ⟨(Nat.le_of_ble_eq_true rfl), (Nat.le_of_ble_eq_true rfl)⟩ rfl rfl rfl rfl (by decide) rfl (Nat.le_of_ble_eq_true rfl) dX12_now_57 ⟨(Nat.le_of_ble_eq_true rfl), (Nat.le_of_ble_eq_true rfl)⟩ (fun r_32 u_33 H locs hw_34 hP hD hS => ?_)
              have hP : va_P g.1 vwCl [(z 6, .inl (gI g, 5, .inl pf)), (z 7, .inl (gI g, 7, .inl cf)), (z 0, .inr (12, [.ref (z 1), .ref (z 2), .int (nI kp), .int (xs 0), .ref (z 3), .ref (z 4), .ref (z 5), .ref (z 6), .int (xs 1), .ref (z 7), .ref (z 8), .ref (z 9), .ref (z 10), .ref (z 11), .ref (z 12), .int (xs 2), .ref (z 13), .ref (z 14), .int (xs 3), .ref (z 15)])), (z 1, .inl (gI g, 461, .inl D))] H := hP
              have hD : va_D A [(z 6, .inl (gI g, 5, .inl pf)), (z 7, .inl (gI g, 7, .inl cf)), (z 0, .inr (12, [.ref (z 1), .ref (z 2), .int (nI kp), .int (xs 0), .ref (z 3), .ref (z 4), .ref (z 5), .ref (z 6), .int (xs 1), .ref (z 7), .ref (z 8), .ref (z 9), .ref (z 10), .ref (z 11), .ref (z 12), .int (xs 2), .ref (z 13), .ref (z 14), .int (xs 3), .ref (z 15)])), (z 1, .inl (gI g, 461, .inl D))] := hD
              refine lv_goto (tgt := 64) hx hb dX12_now_60 (by decide) ?_
              refine lv_iadd hx hb dX12_now_64 ?_
              refine lv_topi (fun x_35 ex_35 => ?_)
              refine lv_istore_n (lv' := [(3, .int x_35), (4, .int (nI i)), (0, .ref (z 0)), (1, .int (nI j_4)), (2, .int y)]) hx hb dX12_now_65 rfl hl (by decide) rfl (fun ls hl => ?_)
              refine lv_iinc (v := nI (i + 1)) (lv' := [(4, .int (nI (i + 1))), (3, .int x_35), (0, .ref (z 0)), (1, .int (nI j_4)), (2, .int y)]) hx hb dX12_now_66 hl (k := 1) rfl (nI_add i 1) (by decide) rfl (fun ls hl => ?_)
              refine lv_goto (tgt := 28) hx hb dX12_now_69 (by decide) ?_
              exact ih28 (i + 1) x_35 (by omega) (by first | assumption | omega) H locs (hP.sub [0, 1, 2, 3] rfl) (hD.sub [0, 1, 2, 3] (by decide) rfl) hS ls (lv_sub hl [0, 1, 2, 3, 4] rfl)
      exact L28 (7 - 0 + 1) 0 0 (Nat.lt_succ_self _) (by first | assumption | omega) H locs (hP.sub [0, 1, 2, 3] rfl) (hD.sub [0, 1, 2, 3] (by decide) rfl) hS ls (lv_sub hl [0, 1, 2, 3, 4] rfl)
    · refine lv_if_ne (tgt := 23) hx hb dX12_now_14 (by decide) (fun c => absurd c (by decide)) (fun _ => ?_)
      refine lv_aload_n hx hb dX12_now_17 rfl (lv_at hl 0 rfl) ?_
      refine lv_iconst (v := 1) hx hb dX12_now_18 (by decide) ?_
      refine k_Vi [2] [0, 1, 3] 2 12 (wr := [(z 6, .inl (gI g, 5, .inl pf)), (z 7, .inl (gI g, 7, .inl cf)), (z 1, .inl (gI g, 461, .inl D))]) hx hb hml hown hts hKW hP hD hS hA hl.1 (c_X12_finding_1 l g _ z kp xs ) rfl rfl rfl wd_10_15 wd_1_5 wd_10_12 wd_10_13 wd_10_14 yd_X12_finding ⟨(Nat.le_of_ble_eq_true rfl), (Nat.le_of_ble_eq_true rfl)⟩ rfl rfl rfl rfl (by decide) rfl (Nat.le_of_ble_eq_true rfl) dX12_now_19 ⟨(Nat.le_of_ble_eq_true rfl), (Nat.le_of_ble_eq_true rfl)⟩ (fun r_36 u_37 H locs hw_38 hP hD hS => ?_)
      have hP : va_P g.1 vwCl [(z 6, .inl (gI g, 5, .inl pf)), (z 7, .inl (gI g, 7, .inl cf)), (z 1, .inl (gI g, 461, .inl D)), (z 0, .inr (12, [.ref (z 1), .ref (z 2), .int (nI kp), .int u_37, .ref (z 3), .ref (z 4), .ref (z 5), .ref (z 6), .int (xs 1), .ref (z 7), .ref (z 8), .ref (z 9), .ref (z 10), .ref (z 11), .ref (z 12), .int (xs 2), .ref (z 13), .ref (z 14), .int (xs 3), .ref (z 15)]))] H := hP
      have hD : va_D A [(z 6, .inl (gI g, 5, .inl pf)), (z 7, .inl (gI g, 7, .inl cf)), (z 1, .inl (gI g, 461, .inl D)), (z 0, .inr (12, [.ref (z 1), .ref (z 2), .int (nI kp), .int u_37, .ref (z 3), .ref (z 4), .ref (z 5), .ref (z 6), .int (xs 1), .ref (z 7), .ref (z 8), .ref (z 9), .ref (z 10), .ref (z 11), .ref (z 12), .int (xs 2), .ref (z 13), .ref (z 14), .int (xs 3), .ref (z 15)]))] := hD
      have hw_38 : r_36 = (-100001) := hw_38
      subst hw_38
      exact k_iret ((fun kk_ => ([u_37, (xs 1), (xs 2), (xs 3)] : List Int32).getD kk_ 0), pf, cf) [3, 2, 0, 1] hx hb hr hlk hP hD hS trivial rfl rfl rfl (Nat.le_of_ble_eq_true rfl) (Nat.le_of_ble_eq_true rfl) dX12_now_22
  · refine lv_if_eq (tgt := 17) hx hb dX12_now_5 (by decide) (fun _ => ?_) (fun c => absurd c (by decide))
    refine lv_aload_n hx hb dX12_now_17 rfl (lv_at hl 0 rfl) ?_
    refine lv_iconst (v := 1) hx hb dX12_now_18 (by decide) ?_
    refine k_Vi [2] [0, 1, 3] 2 12 (wr := [(z 6, .inl (gI g, 5, .inl pf)), (z 7, .inl (gI g, 7, .inl cf)), (z 1, .inl (gI g, 461, .inl D))]) hx hb hml hown hts hKW hP hD hS hA hl.1 (c_X12_finding_1 l g _ z kp xs ) rfl rfl rfl wd_10_15 wd_1_5 wd_10_12 wd_10_13 wd_10_14 yd_X12_finding ⟨(Nat.le_of_ble_eq_true rfl), (Nat.le_of_ble_eq_true rfl)⟩ rfl rfl rfl rfl (by decide) rfl (Nat.le_of_ble_eq_true rfl) dX12_now_19 ⟨(Nat.le_of_ble_eq_true rfl), (Nat.le_of_ble_eq_true rfl)⟩ (fun r_39 u_40 H locs hw_41 hP hD hS => ?_)
    have hP : va_P g.1 vwCl [(z 6, .inl (gI g, 5, .inl pf)), (z 7, .inl (gI g, 7, .inl cf)), (z 1, .inl (gI g, 461, .inl D)), (z 0, .inr (12, [.ref (z 1), .ref (z 2), .int (nI kp), .int u_40, .ref (z 3), .ref (z 4), .ref (z 5), .ref (z 6), .int (xs 1), .ref (z 7), .ref (z 8), .ref (z 9), .ref (z 10), .ref (z 11), .ref (z 12), .int (xs 2), .ref (z 13), .ref (z 14), .int (xs 3), .ref (z 15)]))] H := hP
    have hD : va_D A [(z 6, .inl (gI g, 5, .inl pf)), (z 7, .inl (gI g, 7, .inl cf)), (z 1, .inl (gI g, 461, .inl D)), (z 0, .inr (12, [.ref (z 1), .ref (z 2), .int (nI kp), .int u_40, .ref (z 3), .ref (z 4), .ref (z 5), .ref (z 6), .int (xs 1), .ref (z 7), .ref (z 8), .ref (z 9), .ref (z 10), .ref (z 11), .ref (z 12), .int (xs 2), .ref (z 13), .ref (z 14), .int (xs 3), .ref (z 15)]))] := hD
    have hw_41 : r_39 = (-100001) := hw_41
    subst hw_41
    exact k_iret ((fun kk_ => ([u_40, (xs 1), (xs 2), (xs 3)] : List Int32).getD kk_ 0), pf, cf) [3, 2, 0, 1] hx hb hr hlk hP hD hS trivial rfl rfl rfl (Nat.le_of_ble_eq_true rfl) (Nat.le_of_ble_eq_true rfl) dX12_now_22
theorem dX12_lacking_0 : decode cX12_lacking 0 = .ok (.iconst 0, 1) := by decide +kernel
theorem dX12_lacking_1 : decode cX12_lacking 1 = .ok (.istore_n 1, 1) := by decide +kernel
theorem dX12_lacking_2 : decode cX12_lacking 2 = .ok (.iconst 0, 1) := by decide +kernel
theorem dX12_lacking_3 : decode cX12_lacking 3 = .ok (.istore_n 2, 1) := by decide +kernel
theorem dX12_lacking_4 : decode cX12_lacking 4 = .ok (.iload_n 2, 1) := by decide +kernel
theorem dX12_lacking_5 : decode cX12_lacking 5 = .ok (.aload_n 0, 1) := by decide +kernel
theorem dX12_lacking_6 : decode cX12_lacking 6 = .ok (.getfield 7, 3) := by decide +kernel
theorem dX12_lacking_9 : decode cX12_lacking 9 = .ok (.iconst 0, 1) := by decide +kernel
theorem dX12_lacking_10 : decode cX12_lacking 10 = .ok (.iaload, 1) := by decide +kernel
theorem dX12_lacking_11 : decode cX12_lacking 11 = .ok (.if_icmp .ge 27, 3) := by decide +kernel
theorem dX12_lacking_38 : decode cX12_lacking 38 = .ok (.iload_n 1, 1) := by decide +kernel
theorem dX12_lacking_39 : decode cX12_lacking 39 = .ok (.ireturn, 1) := by decide +kernel
theorem dX12_lacking_14 : decode cX12_lacking 14 = .ok (.iload_n 1, 1) := by decide +kernel
theorem dX12_lacking_15 : decode cX12_lacking 15 = .ok (.aload_n 0, 1) := by decide +kernel
theorem dX12_lacking_16 : decode cX12_lacking 16 = .ok (.iload_n 2, 1) := by decide +kernel
theorem dX12_lacking_17 : decode cX12_lacking 17 = .ok (.invokevirtual 142, 3) := by decide +kernel
theorem dX12_lacking_20 : decode cX12_lacking 20 = .ok (.ifCond .eq 7, 3) := by decide +kernel
theorem dX12_lacking_23 : decode cX12_lacking 23 = .ok (.iconst 0, 1) := by decide +kernel
theorem dX12_lacking_24 : decode cX12_lacking 24 = .ok (.goto 6, 3) := by decide +kernel
theorem dX12_lacking_30 : decode cX12_lacking 30 = .ok (.ior, 1) := by decide +kernel
theorem dX12_lacking_31 : decode cX12_lacking 31 = .ok (.istore_n 1, 1) := by decide +kernel
theorem dX12_lacking_32 : decode cX12_lacking 32 = .ok (.iinc 2 1, 3) := by decide +kernel
theorem dX12_lacking_35 : decode cX12_lacking 35 = .ok (.goto (-31), 3) := by decide +kernel
theorem dX12_lacking_27 : decode cX12_lacking 27 = .ok (.iconst 1, 1) := by decide +kernel
theorem dX12_lacking_28 : decode cX12_lacking 28 = .ok (.iload_n 2, 1) := by decide +kernel
theorem dX12_lacking_29 : decode cX12_lacking 29 = .ok (.ishl, 1) := by decide +kernel
set_option maxHeartbeats 8000000 in
set_option maxRecDepth 100000 in
theorem c_X12_lacking (l : Launch) (g : kG) (sz : Nat) (z : Nat → Nat) (kp : Nat) (xs : Nat → Int32) (D : Nat → Int32) (pf : Nat → Int32) (cf : Nat → Int32) (hDI : DI D) : kMi l g yX12_lacking cX12_lacking 3 (some .int) 5 0 0 [.ref (z 0)] sz [(z 0, .inr (12, [.ref (z 1), .ref (z 2), .int (nI kp), .int (xs 0), .ref (z 3), .ref (z 4), .ref (z 5), .ref (z 6), .int (xs 1), .ref (z 7), .ref (z 8), .ref (z 9), .ref (z 10), .ref (z 11), .ref (z 12), .int (xs 2), .ref (z 13), .ref (z 14), .int (xs 3), .ref (z 15)])), (z 1, .inl (gI g, 461, .inl D)), (z 6, .inl (gI g, 5, .inl pf)), (z 7, .inl (gI g, 7, .inl cf))] (fun (r : Int32) (u : (Nat → Int32) × (Nat → Int32) × (Nat → Int32)) => True) (fun (u : (Nat → Int32) × (Nat → Int32) × (Nat → Int32)) => ([(z 0, .inr (12, [.ref (z 1), .ref (z 2), .int (nI kp), .int (u.1 0), .ref (z 3), .ref (z 4), .ref (z 5), .ref (z 6), .int (u.1 1), .ref (z 7), .ref (z 8), .ref (z 9), .ref (z 10), .ref (z 11), .ref (z 12), .int (u.1 2), .ref (z 13), .ref (z 14), .int (u.1 3), .ref (z 15)])), (z 1, .inl (gI g, 461, .inl D)), (z 6, .inl (gI g, 5, .inl u.2.1)), (z 7, .inl (gI g, 7, .inl u.2.2))] : va_W)) := by
  refine kMi.of (by decide) (Nat.le_of_ble_eq_true rfl) (fun p e s m below meth c A hx hb hr hml hown hts hlk hnm hKW hP hD hS hA ls hl => ?_)
  have hown : s.vm.findClass RX12 = some m.cls := hown
  have hl : lv_has ls 3 [(0, .ref (z 0))] := hl
  refine k_hide hP hS (fun H locs hP hS => ?_)
  refine lv_iconst (v := 0) hx hb dX12_lacking_0 (by decide) ?_
  refine lv_istore_n (lv' := [(1, .int 0), (0, .ref (z 0))]) hx hb dX12_lacking_1 rfl hl (by decide) rfl (fun ls hl => ?_)
  refine lv_iconst (v := 0) hx hb dX12_lacking_2 (by decide) ?_
  refine lv_istore_n (lv' := [(2, .int 0), (1, .int 0), (0, .ref (z 0))]) hx hb dX12_lacking_3 rfl hl (by decide) rfl (fun ls hl => ?_)
  have L4 : ∀ (n4 : Nat) (i : Nat) (x1 : Int32) (y0 : Int32) (y1 : Int32) (y2 : Int32) (y3 : Int32) (pa : Nat → Int32) (ca : Nat → Int32) (hfuel4 : 5 - i < n4) (hi : i ≤ 5) (H : Heap) (locs : List Loc) (hP : va_P g.1 vwCl [(z 0, .inr (12, [.ref (z 1), .ref (z 2), .int (nI kp), .int y0, .ref (z 3), .ref (z 4), .ref (z 5), .ref (z 6), .int y1, .ref (z 7), .ref (z 8), .ref (z 9), .ref (z 10), .ref (z 11), .ref (z 12), .int y2, .ref (z 13), .ref (z 14), .int y3, .ref (z 15)])), (z 1, .inl (gI g, 461, .inl D)), (z 6, .inl (gI g, 5, .inl pa)), (z 7, .inl (gI g, 7, .inl ca))] H) (hD : va_D A [(z 0, .inr (12, [.ref (z 1), .ref (z 2), .int (nI kp), .int y0, .ref (z 3), .ref (z 4), .ref (z 5), .ref (z 6), .int y1, .ref (z 7), .ref (z 8), .ref (z 9), .ref (z 10), .ref (z 11), .ref (z 12), .int y2, .ref (z 13), .ref (z 14), .int y3, .ref (z 15)])), (z 1, .inl (gI g, 461, .inl D)), (z 6, .inl (gI g, 5, .inl pa)), (z 7, .inl (gI g, 7, .inl ca))]) (hS : va_S A s.heap H locs) (ls : Array Slot) (hl : lv_has ls 3 [(2, .int (nI i)), (1, .int x1), (0, .ref (z 0))]), W p l e (kR 5 0 0) s m ([.ref (z 0)] : List Value).toArray below meth c H locs 0 0 (kQi g A below ([.ref (z 0)] : List Value).toArray s 0 0 (fun (r : Int32) (u : (Nat → Int32) × (Nat → Int32) × (Nat → Int32)) => True) (fun (u : (Nat → Int32) × (Nat → Int32) × (Nat → Int32)) => ([(z 0, .inr (12, [.ref (z 1), .ref (z 2), .int (nI kp), .int (u.1 0), .ref (z 3), .ref (z 4), .ref (z 5), .ref (z 6), .int (u.1 1), .ref (z 7), .ref (z 8), .ref (z 9), .ref (z 10), .ref (z 11), .ref (z 12), .int (u.1 2), .ref (z 13), .ref (z 14), .int (u.1 3), .ref (z 15)])), (z 1, .inl (gI g, 461, .inl D)), (z 6, .inl (gI g, 5, .inl u.2.1)), (z 7, .inl (gI g, 7, .inl u.2.2))] : va_W))) (F0 m 4 ls []) := by
    intro n4
    induction n4 with
    | zero => intro i x1 y0 y1 y2 y3 pa ca hfuel4; exact absurd hfuel4 (Nat.not_lt_zero _)
    | succ n4 ih4 =>
      intro i x1 y0 y1 y2 y3 pa ca hfuel4 hi H locs hP hD hS ls hl
      refine lv_iload_n hx hb dX12_lacking_4 rfl (lv_at hl 0 rfl) ?_
      refine lv_aload_n hx hb dX12_lacking_5 rfl (lv_at hl 2 rfl) ?_
      refine va_get (ci := 12) (C := RX12) (T := TX12) (N := 20) hx hb hts inlX12 hown hKW.1 hP 0 rfl rfl 0 (by decide) (hts _ wd_6_5) (fun _ h => h) rfl dX12_lacking_6 ?_
      refine lv_iconst (v := 0) hx hb dX12_lacking_9 (by decide) ?_
      obtain ⟨dk_1, hdk_1a, hdk_1b, edk_1⟩ := DI.n0 hDI
      refine va_iald hx hb hKW.1 hP 1 0 rfl rfl (show ¬ _ by decide) dX12_lacking_10 ?_
      refine k_top (y := nI dk_1) edk_1 ?_
      refine lv_icmp_ge (tgt := 38) hx hb dX12_lacking_11 (by decide) (fun c_2 => ?_) (fun c_2 => ?_)
      · have c_2n : dk_1 ≤ i := (k_leI (a := dk_1) (b := i) (by omega) (by omega)).mp c_2
        refine lv_iload_n hx hb dX12_lacking_38 rfl (lv_at hl 1 rfl) ?_
        exact k_iret ((fun kk_ => ([y0, y1, y2, y3] : List Int32).getD kk_ 0), pa, ca) [0, 1, 2, 3] hx hb hr hlk hP hD hS trivial rfl rfl rfl (Nat.le_of_ble_eq_true rfl) (Nat.le_of_ble_eq_true rfl) dX12_lacking_39
      · have c_2n : i < dk_1 := Nat.not_le.mp (fun h => c_2 ((k_leI (a := dk_1) (b := i) (by omega) (by omega)).mpr h))
        refine lv_iload_n hx hb dX12_lacking_14 rfl (lv_at hl 1 rfl) ?_
        refine lv_aload_n hx hb dX12_lacking_15 rfl (lv_at hl 2 rfl) ?_
        refine lv_iload_n hx hb dX12_lacking_16 rfl (lv_at hl 0 rfl) ?_
        refine k_Vi [0, 1, 2, 3] [] 0 12 (wr := []) hx hb hml hown hts hKW hP hD hS hA hl.1 (c_X12_hasEnough l g _ z kp (fun kk_ => ([y0, y1, y2, y3] : List Int32).getD kk_ 0) D pa ca (nI i) (by first | assumption | omega | decide)) rfl rfl rfl wd_27_22 wd_1_5 wd_27_19 wd_27_20 wd_27_21 yd_X12_hasEnough ⟨(Nat.le_of_ble_eq_true rfl), (Nat.le_of_ble_eq_true rfl)⟩ rfl rfl rfl rfl (by decide) rfl (Nat.le_of_ble_eq_true rfl) dX12_lacking_17 ⟨(Nat.le_of_ble_eq_true rfl), (Nat.le_of_ble_eq_true rfl)⟩ (fun r_3 u_4 H locs hw_5 hP hD hS => ?_)
        obtain ⟨f_6, f_7, f_8⟩ := u_4
        have hP : va_P g.1 vwCl [(z 0, .inr (12, [.ref (z 1), .ref (z 2), .int (nI kp), .int (f_6 0), .ref (z 3), .ref (z 4), .ref (z 5), .ref (z 6), .int (f_6 1), .ref (z 7), .ref (z 8), .ref (z 9), .ref (z 10), .ref (z 11), .ref (z 12), .int (f_6 2), .ref (z 13), .ref (z 14), .int (f_6 3), .ref (z 15)])), (z 1, .inl (gI g, 461, .inl D)), (z 6, .inl (gI g, 5, .inl f_7)), (z 7, .inl (gI g, 7, .inl f_8))] H := hP
        have hD : va_D A [(z 0, .inr (12, [.ref (z 1), .ref (z 2), .int (nI kp), .int (f_6 0), .ref (z 3), .ref (z 4), .ref (z 5), .ref (z 6), .int (f_6 1), .ref (z 7), .ref (z 8), .ref (z 9), .ref (z 10), .ref (z 11), .ref (z 12), .int (f_6 2), .ref (z 13), .ref (z 14), .int (f_6 3), .ref (z 15)])), (z 1, .inl (gI g, 461, .inl D)), (z 6, .inl (gI g, 5, .inl f_7)), (z 7, .inl (gI g, 7, .inl f_8))] := hD
        rcases (show r_3 = 1 ∨ r_3 = 0 from hw_5) with rfl | rfl <;> clear hw_5
        · refine lv_if_eq (tgt := 27) hx hb dX12_lacking_20 (by decide) (fun c => absurd c (by decide)) (fun _ => ?_)
          refine lv_iconst (v := 0) hx hb dX12_lacking_23 (by decide) ?_
          refine lv_goto (tgt := 30) hx hb dX12_lacking_24 (by decide) ?_
          refine lv_ior hx hb dX12_lacking_30 ?_
          refine lv_topi (fun x_9 ex_9 => ?_)
          refine lv_istore_n (lv' := [(1, .int x_9), (2, .int (nI i)), (0, .ref (z 0))]) hx hb dX12_lacking_31 rfl hl (by decide) rfl (fun ls hl => ?_)
          refine lv_iinc (v := nI (i + 1)) (lv' := [(2, .int (nI (i + 1))), (1, .int x_9), (0, .ref (z 0))]) hx hb dX12_lacking_32 hl (k := 1) rfl (nI_add i 1) (by decide) rfl (fun ls hl => ?_)
          refine lv_goto (tgt := 4) hx hb dX12_lacking_35 (by decide) ?_
          exact ih4 (i + 1) x_9 (f_6 0) (f_6 1) (f_6 2) (f_6 3) f_7 f_8 (by omega) (by first | assumption | omega) H locs (hP.sub [0, 1, 2, 3] rfl) (hD.sub [0, 1, 2, 3] (by decide) rfl) hS ls (lv_sub hl [0, 1, 2] rfl)
        · refine lv_if_eq (tgt := 27) hx hb dX12_lacking_20 (by decide) (fun _ => ?_) (fun c => absurd c (by decide))
          refine lv_iconst (v := 1) hx hb dX12_lacking_27 (by decide) ?_
          refine lv_iload_n hx hb dX12_lacking_28 rfl (lv_at hl 0 rfl) ?_
          refine lv_ishl hx hb dX12_lacking_29 ?_
          refine lv_topi (fun x_10 ex_10 => ?_)
          refine lv_ior hx hb dX12_lacking_30 ?_
          refine lv_topi (fun x_11 ex_11 => ?_)
          refine lv_istore_n (lv' := [(1, .int x_11), (2, .int (nI i)), (0, .ref (z 0))]) hx hb dX12_lacking_31 rfl hl (by decide) rfl (fun ls hl => ?_)
          refine lv_iinc (v := nI (i + 1)) (lv' := [(2, .int (nI (i + 1))), (1, .int x_11), (0, .ref (z 0))]) hx hb dX12_lacking_32 hl (k := 1) rfl (nI_add i 1) (by decide) rfl (fun ls hl => ?_)
          refine lv_goto (tgt := 4) hx hb dX12_lacking_35 (by decide) ?_
          exact ih4 (i + 1) x_11 (f_6 0) (f_6 1) (f_6 2) (f_6 3) f_7 f_8 (by omega) (by first | assumption | omega) H locs (hP.sub [0, 1, 2, 3] rfl) (hD.sub [0, 1, 2, 3] (by decide) rfl) hS ls (lv_sub hl [0, 1, 2] rfl)
  exact L4 (5 - 0 + 1) 0 0 (xs 0) (xs 1) (xs 2) (xs 3) pf cf (Nat.lt_succ_self _) (by first | assumption | omega) H locs (hP.sub [0, 1, 2, 3] rfl) (hD.sub [0, 1, 2, 3] (by decide) rfl) hS ls (lv_sub hl [0, 1, 2] rfl)
theorem dX12_wrong_0 : decode cX12_wrong 0 = .ok (.aload_n 0, 1) := by decide +kernel
theorem dX12_wrong_1 : decode cX12_wrong 1 = .ok (.invokevirtual 122, 3) := by decide +kernel
theorem dX12_wrong_4 : decode cX12_wrong 4 = .ok (.ireturn, 1) := by decide +kernel
set_option maxHeartbeats 8000000 in
set_option maxRecDepth 100000 in
theorem c_X12_wrong (l : Launch) (g : kG) (sz : Nat) (z : Nat → Nat) (kp : Nat) (xs : Nat → Int32) (D : Nat → Int32) (pf : Nat → Int32) (cf : Nat → Int32) (hDI : DI D) : kMi l g yX12_wrong cX12_wrong 1 (some .int) 3 0 0 [.ref (z 0)] sz [(z 0, .inr (12, [.ref (z 1), .ref (z 2), .int (nI kp), .int (xs 0), .ref (z 3), .ref (z 4), .ref (z 5), .ref (z 6), .int (xs 1), .ref (z 7), .ref (z 8), .ref (z 9), .ref (z 10), .ref (z 11), .ref (z 12), .int (xs 2), .ref (z 13), .ref (z 14), .int (xs 3), .ref (z 15)])), (z 1, .inl (gI g, 461, .inl D)), (z 6, .inl (gI g, 5, .inl pf)), (z 7, .inl (gI g, 7, .inl cf))] (fun (r : Int32) (u : (Nat → Int32) × (Nat → Int32)) => True) (fun (u : (Nat → Int32) × (Nat → Int32)) => ([(z 0, .inr (12, [.ref (z 1), .ref (z 2), .int (nI kp), .int (u.1 0), .ref (z 3), .ref (z 4), .ref (z 5), .ref (z 6), .int (u.1 1), .ref (z 7), .ref (z 8), .ref (z 9), .ref (z 10), .ref (z 11), .ref (z 12), .int (u.1 2), .ref (z 13), .ref (z 14), .int (u.1 3), .ref (z 15)])), (z 1, .inl (gI g, 461, .inl D)), (z 6, .inl (gI g, 5, .inl u.2)), (z 7, .inl (gI g, 7, .inl cf))] : va_W)) := by
  refine kMi.of (by decide) (Nat.le_of_ble_eq_true rfl) (fun p e s m below meth c A hx hb hr hml hown hts hlk hnm hKW hP hD hS hA ls hl => ?_)
  have hown : s.vm.findClass RX12 = some m.cls := hown
  have hl : lv_has ls 1 [(0, .ref (z 0))] := hl
  refine k_hide hP hS (fun H locs hP hS => ?_)
  refine lv_aload_n hx hb dX12_wrong_0 rfl (lv_at hl 0 rfl) ?_
  refine k_Vi [0, 1, 2, 3] [] 0 12 (wr := []) hx hb hml hown hts hKW hP hD hS hA hl.1 (c_X12_read l g _ z kp xs D pf cf (by first | assumption | omega | decide)) rfl rfl rfl wd_27_10 wd_1_5 wd_27_7 wd_27_8 wd_27_9 yd_X12_read ⟨(Nat.le_of_ble_eq_true rfl), (Nat.le_of_ble_eq_true rfl)⟩ rfl rfl rfl rfl (by decide) rfl (Nat.le_of_ble_eq_true rfl) dX12_wrong_1 ⟨(Nat.le_of_ble_eq_true rfl), (Nat.le_of_ble_eq_true rfl)⟩ (fun r_1 u_2 H locs hw_3 hP hD hS => ?_)
  obtain ⟨f_4, f_5⟩ := u_2
  have hP : va_P g.1 vwCl [(z 0, .inr (12, [.ref (z 1), .ref (z 2), .int (nI kp), .int (f_4 0), .ref (z 3), .ref (z 4), .ref (z 5), .ref (z 6), .int (f_4 1), .ref (z 7), .ref (z 8), .ref (z 9), .ref (z 10), .ref (z 11), .ref (z 12), .int (f_4 2), .ref (z 13), .ref (z 14), .int (f_4 3), .ref (z 15)])), (z 1, .inl (gI g, 461, .inl D)), (z 6, .inl (gI g, 5, .inl f_5)), (z 7, .inl (gI g, 7, .inl cf))] H := hP
  have hD : va_D A [(z 0, .inr (12, [.ref (z 1), .ref (z 2), .int (nI kp), .int (f_4 0), .ref (z 3), .ref (z 4), .ref (z 5), .ref (z 6), .int (f_4 1), .ref (z 7), .ref (z 8), .ref (z 9), .ref (z 10), .ref (z 11), .ref (z 12), .int (f_4 2), .ref (z 13), .ref (z 14), .int (f_4 3), .ref (z 15)])), (z 1, .inl (gI g, 461, .inl D)), (z 6, .inl (gI g, 5, .inl f_5)), (z 7, .inl (gI g, 7, .inl cf))] := hD
  exact k_iret (f_4, f_5) [0, 1, 2, 3] hx hb hr hlk hP hD hS trivial rfl rfl rfl (Nat.le_of_ble_eq_true rfl) (Nat.le_of_ble_eq_true rfl) dX12_wrong_4
theorem dX12_tries_0 : decode cX12_tries 0 = .ok (.iload_n 2, 1) := by decide +kernel
theorem dX12_tries_1 : decode cX12_tries 1 = .ok (.aload_n 0, 1) := by decide +kernel
theorem dX12_tries_2 : decode cX12_tries 2 = .ok (.getfield 145, 3) := by decide +kernel
theorem dX12_tries_5 : decode cX12_tries 5 = .ok (.if_icmp .lt 4, 3) := by decide +kernel
theorem dX12_tries_9 : decode cX12_tries 9 = .ok (.iload_n 1, 1) := by decide +kernel
theorem dX12_tries_10 : decode cX12_tries 10 = .ok (.aload_n 0, 1) := by decide +kernel
theorem dX12_tries_11 : decode cX12_tries 11 = .ok (.getfield 7, 3) := by decide +kernel
theorem dX12_tries_14 : decode cX12_tries 14 = .ok (.iconst 1, 1) := by decide +kernel
theorem dX12_tries_15 : decode cX12_tries 15 = .ok (.iaload, 1) := by decide +kernel
theorem dX12_tries_16 : decode cX12_tries 16 = .ok (.if_icmp .ne 79, 3) := by decide +kernel
theorem dX12_tries_19 : decode cX12_tries 19 = .ok (.iconst 0, 1) := by decide +kernel
theorem dX12_tries_20 : decode cX12_tries 20 = .ok (.istore_n 3, 1) := by decide +kernel
theorem dX12_tries_21 : decode cX12_tries 21 = .ok (.iload_n 3, 1) := by decide +kernel
theorem dX12_tries_22 : decode cX12_tries 22 = .ok (.aload_n 0, 1) := by decide +kernel
theorem dX12_tries_23 : decode cX12_tries 23 = .ok (.getfield 7, 3) := by decide +kernel
theorem dX12_tries_26 : decode cX12_tries 26 = .ok (.iconst 0, 1) := by decide +kernel
theorem dX12_tries_27 : decode cX12_tries 27 = .ok (.iaload, 1) := by decide +kernel
theorem dX12_tries_28 : decode cX12_tries 28 = .ok (.if_icmp .ge 35, 3) := by decide +kernel
theorem dX12_tries_63 : decode cX12_tries 63 = .ok (.aload_n 0, 1) := by decide +kernel
theorem dX12_tries_64 : decode cX12_tries 64 = .ok (.iload_n 2, 1) := by decide +kernel
theorem dX12_tries_65 : decode cX12_tries 65 = .ok (.putfield 145, 3) := by decide +kernel
theorem dX12_tries_68 : decode cX12_tries 68 = .ok (.iconst 0, 1) := by decide +kernel
theorem dX12_tries_69 : decode cX12_tries 69 = .ok (.istore_n 3, 1) := by decide +kernel
theorem dX12_tries_70 : decode cX12_tries 70 = .ok (.iload_n 3, 1) := by decide +kernel
theorem dX12_tries_71 : decode cX12_tries 71 = .ok (.bipush 7, 2) := by decide +kernel
theorem dX12_tries_73 : decode cX12_tries 73 = .ok (.if_icmp .ge 21, 3) := by decide +kernel
theorem dX12_tries_94 : decode cX12_tries 94 = .ok (.return_, 1) := by decide +kernel
theorem dX12_tries_76 : decode cX12_tries 76 = .ok (.aload_n 0, 1) := by decide +kernel
theorem dX12_tries_77 : decode cX12_tries 77 = .ok (.getfield 44, 3) := by decide +kernel
theorem dX12_tries_80 : decode cX12_tries 80 = .ok (.iload_n 3, 1) := by decide +kernel
theorem dX12_tries_81 : decode cX12_tries 81 = .ok (.aload_n 0, 1) := by decide +kernel
theorem dX12_tries_82 : decode cX12_tries 82 = .ok (.getfield 41, 3) := by decide +kernel
theorem dX12_tries_85 : decode cX12_tries 85 = .ok (.iload_n 3, 1) := by decide +kernel
theorem dX12_tries_86 : decode cX12_tries 86 = .ok (.iaload, 1) := by decide +kernel
theorem dX12_tries_87 : decode cX12_tries 87 = .ok (.iastore, 1) := by decide +kernel
theorem dX12_tries_88 : decode cX12_tries 88 = .ok (.iinc 3 1, 3) := by decide +kernel
theorem dX12_tries_91 : decode cX12_tries 91 = .ok (.goto (-21), 3) := by decide +kernel
theorem dX12_tries_31 : decode cX12_tries 31 = .ok (.aload_n 0, 1) := by decide +kernel
theorem dX12_tries_32 : decode cX12_tries 32 = .ok (.aload_n 0, 1) := by decide +kernel
theorem dX12_tries_33 : decode cX12_tries 33 = .ok (.getfield 31, 3) := by decide +kernel
theorem dX12_tries_36 : decode cX12_tries 36 = .ok (.iload_n 3, 1) := by decide +kernel
theorem dX12_tries_37 : decode cX12_tries 37 = .ok (.iaload, 1) := by decide +kernel
theorem dX12_tries_38 : decode cX12_tries 38 = .ok (.aload_n 0, 1) := by decide +kernel
theorem dX12_tries_39 : decode cX12_tries 39 = .ok (.getfield 34, 3) := by decide +kernel
theorem dX12_tries_42 : decode cX12_tries 42 = .ok (.iload_n 3, 1) := by decide +kernel
theorem dX12_tries_43 : decode cX12_tries 43 = .ok (.iaload, 1) := by decide +kernel
theorem dX12_tries_44 : decode cX12_tries 44 = .ok (.aload_n 0, 1) := by decide +kernel
theorem dX12_tries_45 : decode cX12_tries 45 = .ok (.getfield 37, 3) := by decide +kernel
theorem dX12_tries_48 : decode cX12_tries 48 = .ok (.iload_n 3, 1) := by decide +kernel
theorem dX12_tries_49 : decode cX12_tries 49 = .ok (.baload, 1) := by decide +kernel
theorem dX12_tries_50 : decode cX12_tries 50 = .ok (.invokevirtual 138, 3) := by decide +kernel
theorem dX12_tries_53 : decode cX12_tries 53 = .ok (.ifCond .ne 4, 3) := by decide +kernel
theorem dX12_tries_57 : decode cX12_tries 57 = .ok (.iinc 3 1, 3) := by decide +kernel
theorem dX12_tries_60 : decode cX12_tries 60 = .ok (.goto (-39), 3) := by decide +kernel
theorem dX12_tries_56 : decode cX12_tries 56 = .ok (.return_, 1) := by decide +kernel
theorem dX12_tries_8 : decode cX12_tries 8 = .ok (.return_, 1) := by decide +kernel
set_option maxHeartbeats 8000000 in
set_option maxRecDepth 100000 in
theorem c_X12_tries_7 (l : Launch) (g : kG) (sz : Nat) (z : Nat → Nat) (kp : Nat) (xs : Nat → Int32) (D : Nat → Int32) (f0 : Nat → Int32) (f1 : Nat → Int32) (f2 : Nat → Int32) (f3 : Nat → Int32) (f4 : Nat → Int32) (x : Int32) (hDI : DI D) (hh : (7 : Int) ≤ (D 1).toInt) : kMv l g yX12_tries cX12_tries 5 none 3 0 0 [.ref (z 0), .int 7, .int x] sz [(z 0, .inr (12, [.ref (z 1), .ref (z 2), .int (nI kp), .int (xs 0), .ref (z 3), .ref (z 4), .ref (z 5), .ref (z 6), .int (xs 1), .ref (z 7), .ref (z 8), .ref (z 9), .ref (z 10), .ref (z 11), .ref (z 12), .int (xs 2), .ref (z 13), .ref (z 14), .int (xs 3), .ref (z 15)])), (z 1, .inl (gI g, 461, .inl D)), (z 8, .inl (gI g, 5, .inl f0)), (z 9, .inl (gI g, 5, .inl f1)), (z 10, .inl (gZ g, 5, .inl f2)), (z 11, .inl (gI g, 7, .inl f3)), (z 12, .inl (gI g, 7, .inl f4))] (fun (u : (Nat → Int32) × (Nat → Int32) × (Nat → Int32) × (Nat → Int32)) => True) (fun (u : (Nat → Int32) × (Nat → Int32) × (Nat → Int32) × (Nat → Int32)) => ([(z 0, .inr (12, [.ref (z 1), .ref (z 2), .int (nI kp), .int (u.1 0), .ref (z 3), .ref (z 4), .ref (z 5), .ref (z 6), .int (u.1 1), .ref (z 7), .ref (z 8), .ref (z 9), .ref (z 10), .ref (z 11), .ref (z 12), .int (u.1 2), .ref (z 13), .ref (z 14), .int (u.1 3), .ref (z 15)])), (z 1, .inl (gI g, 461, .inl D)), (z 8, .inl (gI g, 5, .inl u.2.1)), (z 9, .inl (gI g, 5, .inl f1)), (z 10, .inl (gZ g, 5, .inl f2)), (z 11, .inl (gI g, 7, .inl u.2.2.1)), (z 12, .inl (gI g, 7, .inl u.2.2.2))] : va_W)) := by
  refine kMv.of (by decide) (Nat.le_of_ble_eq_true rfl) (fun p e s m below meth c A hx hb hr hml hown hts hlk hnm hKW hP hD hS hA ls hl => ?_)
  have hown : s.vm.findClass RX12 = some m.cls := hown
  have hl : lv_has ls 5 [(0, .ref (z 0)), (1, .int 7), (2, .int x)] := hl
  refine k_hide hP hS (fun H locs hP hS => ?_)
  refine lv_iload_n hx hb dX12_tries_0 rfl (lv_at hl 2 rfl) ?_
  refine lv_aload_n hx hb dX12_tries_1 rfl (lv_at hl 0 rfl) ?_
  refine va_get (ci := 12) (C := RX12) (T := TX12) (N := 20) hx hb hts inlX12 hown hKW.1 hP 0 rfl rfl 15 (by decide) (hts _ wd_31_1) (fun _ h => h) rfl dX12_tries_2 ?_
  refine lv_icmp_lt (tgt := 9) hx hb dX12_tries_5 (by decide) (fun c_1 => ?_) (fun c_1 => ?_)
  · refine lv_iload_n hx hb dX12_tries_9 rfl (lv_at hl 1 rfl) ?_
    refine lv_aload_n hx hb dX12_tries_10 rfl (lv_at hl 0 rfl) ?_
    refine va_get (ci := 12) (C := RX12) (T := TX12) (N := 20) hx hb hts inlX12 hown hKW.1 hP 0 rfl rfl 0 (by decide) (hts _ wd_6_5) (fun _ h => h) rfl dX12_tries_11 ?_
    refine lv_iconst (v := 1) hx hb dX12_tries_14 (by decide) ?_
    obtain ⟨dk_2, hdk_2a, hdk_2b, edk_2⟩ := DI.n1 hDI
    refine va_iald hx hb hKW.1 hP 1 0 rfl rfl (show ¬ _ by decide) dX12_tries_15 ?_
    refine k_top (y := nI dk_2) edk_2 ?_
    refine lv_icmp_ne (tgt := 95) hx hb dX12_tries_16 (by decide) (fun c => False.elim (absurd ((k_eqI (a := 7) (b := dk_2) (by omega) (by omega)).mpr (by have q := hh; rw [edk_2, k_nIi (by omega)] at q; omega)) c)) (fun _ => ?_)
    refine lv_iconst (v := 0) hx hb dX12_tries_19 (by decide) ?_
    refine lv_istore_n (lv' := [(3, .int 0), (0, .ref (z 0)), (1, .int 7), (2, .int x)]) hx hb dX12_tries_20 rfl hl (by decide) rfl (fun ls hl => ?_)
    have L21 : ∀ (n21 : Nat) (i : Nat) (hfuel21 : 5 - i < n21) (hi : i ≤ 5) (H : Heap) (locs : List Loc) (hP : va_P g.1 vwCl [(z 0, .inr (12, [.ref (z 1), .ref (z 2), .int (nI kp), .int (xs 0), .ref (z 3), .ref (z 4), .ref (z 5), .ref (z 6), .int (xs 1), .ref (z 7), .ref (z 8), .ref (z 9), .ref (z 10), .ref (z 11), .ref (z 12), .int (xs 2), .ref (z 13), .ref (z 14), .int (xs 3), .ref (z 15)])), (z 1, .inl (gI g, 461, .inl D)), (z 8, .inl (gI g, 5, .inl f0)), (z 9, .inl (gI g, 5, .inl f1)), (z 10, .inl (gZ g, 5, .inl f2)), (z 11, .inl (gI g, 7, .inl f3)), (z 12, .inl (gI g, 7, .inl f4))] H) (hD : va_D A [(z 0, .inr (12, [.ref (z 1), .ref (z 2), .int (nI kp), .int (xs 0), .ref (z 3), .ref (z 4), .ref (z 5), .ref (z 6), .int (xs 1), .ref (z 7), .ref (z 8), .ref (z 9), .ref (z 10), .ref (z 11), .ref (z 12), .int (xs 2), .ref (z 13), .ref (z 14), .int (xs 3), .ref (z 15)])), (z 1, .inl (gI g, 461, .inl D)), (z 8, .inl (gI g, 5, .inl f0)), (z 9, .inl (gI g, 5, .inl f1)), (z 10, .inl (gZ g, 5, .inl f2)), (z 11, .inl (gI g, 7, .inl f3)), (z 12, .inl (gI g, 7, .inl f4))]) (hS : va_S A s.heap H locs) (ls : Array Slot) (hl : lv_has ls 5 [(3, .int (nI i)), (0, .ref (z 0)), (1, .int 7), (2, .int x)]), W p l e (kR 3 0 0) s m ([.ref (z 0), .int 7, .int x] : List Value).toArray below meth c H locs 0 0 (kQv g A below ([.ref (z 0), .int 7, .int x] : List Value).toArray s 0 0 (fun (u : (Nat → Int32) × (Nat → Int32) × (Nat → Int32) × (Nat → Int32)) => True) (fun (u : (Nat → Int32) × (Nat → Int32) × (Nat → Int32) × (Nat → Int32)) => ([(z 0, .inr (12, [.ref (z 1), .ref (z 2), .int (nI kp), .int (u.1 0), .ref (z 3), .ref (z 4), .ref (z 5), .ref (z 6), .int (u.1 1), .ref (z 7), .ref (z 8), .ref (z 9), .ref (z 10), .ref (z 11), .ref (z 12), .int (u.1 2), .ref (z 13), .ref (z 14), .int (u.1 3), .ref (z 15)])), (z 1, .inl (gI g, 461, .inl D)), (z 8, .inl (gI g, 5, .inl u.2.1)), (z 9, .inl (gI g, 5, .inl f1)), (z 10, .inl (gZ g, 5, .inl f2)), (z 11, .inl (gI g, 7, .inl u.2.2.1)), (z 12, .inl (gI g, 7, .inl u.2.2.2))] : va_W))) (F0 m 21 ls []) := by
      intro n21
      induction n21 with
      | zero => intro i hfuel21; exact absurd hfuel21 (Nat.not_lt_zero _)
      | succ n21 ih21 =>
        intro i hfuel21 hi H locs hP hD hS ls hl
        refine lv_iload_n hx hb dX12_tries_21 rfl (lv_at hl 0 rfl) ?_
        refine lv_aload_n hx hb dX12_tries_22 rfl (lv_at hl 1 rfl) ?_
        refine va_get (ci := 12) (C := RX12) (T := TX12) (N := 20) hx hb hts inlX12 hown hKW.1 hP 0 rfl rfl 0 (by decide) (hts _ wd_6_5) (fun _ h => h) rfl dX12_tries_23 ?_
        refine lv_iconst (v := 0) hx hb dX12_tries_26 (by decide) ?_
        obtain ⟨dk_3, hdk_3a, hdk_3b, edk_3⟩ := DI.n0 hDI
        refine va_iald hx hb hKW.1 hP 1 0 rfl rfl (show ¬ _ by decide) dX12_tries_27 ?_
        refine k_top (y := nI dk_3) edk_3 ?_
        refine lv_icmp_ge (tgt := 63) hx hb dX12_tries_28 (by decide) (fun c_4 => ?_) (fun c_4 => ?_)
        · have c_4n : dk_3 ≤ i := (k_leI (a := dk_3) (b := i) (by omega) (by omega)).mp c_4
          refine lv_aload_n hx hb dX12_tries_63 rfl (lv_at hl 1 rfl) ?_
          refine lv_iload_n hx hb dX12_tries_64 rfl (lv_at hl 3 rfl) ?_
          refine va_put (ci := 12) (v := .int x) (C := RX12) (T := TX12) (N := 20) hx hb hts inlX12 tyX12 tyX12_ok nmX12 hown hKW.1 hP hD hS 0 rfl rfl 15 (by decide) (hts _ wd_31_1) (fun _ h => h) rfl (tyX12_ok 15 (by decide)) rfl rfl (Nat.le_of_ble_eq_true rfl) dX12_tries_65 (fun H locs hP hD hS => ?_)
          have hP : va_P g.1 vwCl [(z 0, .inr (12, [.ref (z 1), .ref (z 2), .int (nI kp), .int (xs 0), .ref (z 3), .ref (z 4), .ref (z 5), .ref (z 6), .int (xs 1), .ref (z 7), .ref (z 8), .ref (z 9), .ref (z 10), .ref (z 11), .ref (z 12), .int x, .ref (z 13), .ref (z 14), .int (xs 3), .ref (z 15)])), (z 1, .inl (gI g, 461, .inl D)), (z 8, .inl (gI g, 5, .inl f0)), (z 9, .inl (gI g, 5, .inl f1)), (z 10, .inl (gZ g, 5, .inl f2)), (z 11, .inl (gI g, 7, .inl f3)), (z 12, .inl (gI g, 7, .inl f4))] H := hP
          have hD : va_D A [(z 0, .inr (12, [.ref (z 1), .ref (z 2), .int (nI kp), .int (xs 0), .ref (z 3), .ref (z 4), .ref (z 5), .ref (z 6), .int (xs 1), .ref (z 7), .ref (z 8), .ref (z 9), .ref (z 10), .ref (z 11), .ref (z 12), .int x, .ref (z 13), .ref (z 14), .int (xs 3), .ref (z 15)])), (z 1, .inl (gI g, 461, .inl D)), (z 8, .inl (gI g, 5, .inl f0)), (z 9, .inl (gI g, 5, .inl f1)), (z 10, .inl (gZ g, 5, .inl f2)), (z 11, .inl (gI g, 7, .inl f3)), (z 12, .inl (gI g, 7, .inl f4))] := hD
          refine lv_iconst (v := 0) hx hb dX12_tries_68 (by decide) ?_
          refine lv_istore_n (lv' := [(3, .int 0), (0, .ref (z 0)), (1, .int 7), (2, .int x)]) hx hb dX12_tries_69 rfl hl (by decide) rfl (fun ls hl => ?_)
          have L70 : ∀ (n70 : Nat) (i : Nat) (ga : Nat → Int32) (hfuel70 : 7 - i < n70) (hi : i ≤ 7) (H : Heap) (locs : List Loc) (hP : va_P g.1 vwCl [(z 0, .inr (12, [.ref (z 1), .ref (z 2), .int (nI kp), .int (xs 0), .ref (z 3), .ref (z 4), .ref (z 5), .ref (z 6), .int (xs 1), .ref (z 7), .ref (z 8), .ref (z 9), .ref (z 10), .ref (z 11), .ref (z 12), .int x, .ref (z 13), .ref (z 14), .int (xs 3), .ref (z 15)])), (z 1, .inl (gI g, 461, .inl D)), (z 8, .inl (gI g, 5, .inl f0)), (z 9, .inl (gI g, 5, .inl f1)), (z 10, .inl (gZ g, 5, .inl f2)), (z 11, .inl (gI g, 7, .inl f3)), (z 12, .inl (gI g, 7, .inl ga))] H) (hD : va_D A [(z 0, .inr (12, [.ref (z 1), .ref (z 2), .int (nI kp), .int (xs 0), .ref (z 3), .ref (z 4), .ref (z 5), .ref (z 6), .int (xs 1), .ref (z 7), .ref (z 8), .ref (z 9), .ref (z 10), .ref (z 11), .ref (z 12), .int x, .ref (z 13), .ref (z 14), .int (xs 3), .ref (z 15)])), (z 1, .inl (gI g, 461, .inl D)), (z 8, .inl (gI g, 5, .inl f0)), (z 9, .inl (gI g, 5, .inl f1)), (z 10, .inl (gZ g, 5, .inl f2)), (z 11, .inl (gI g, 7, .inl f3)), (z 12, .inl (gI g, 7, .inl ga))]) (hS : va_S A s.heap H locs) (ls : Array Slot) (hl : lv_has ls 5 [(3, .int (nI i)), (0, .ref (z 0)), (1, .int 7), (2, .int x)]), W p l e (kR 3 0 0) s m ([.ref (z 0), .int 7, .int x] : List Value).toArray below meth c H locs 0 0 (kQv g A below ([.ref (z 0), .int 7, .int x] : List Value).toArray s 0 0 (fun (u : (Nat → Int32) × (Nat → Int32) × (Nat → Int32) × (Nat → Int32)) => True) (fun (u : (Nat → Int32) × (Nat → Int32) × (Nat → Int32) × (Nat → Int32)) => ([(z 0, .inr (12, [.ref (z 1), .ref (z 2), .int (nI kp), .int (u.1 0), .ref (z 3), .ref (z 4), .ref (z 5), .ref (z 6), .int (u.1 1), .ref (z 7), .ref (z 8), .ref (z 9), .ref (z 10), .ref (z 11), .ref (z 12), .int (u.1 2), .ref (z 13), .ref (z 14), .int (u.1 3), .ref (z 15)])), (z 1, .inl (gI g, 461, .inl D)), (z 8, .inl (gI g, 5, .inl u.2.1)), (z 9, .inl (gI g, 5, .inl f1)), (z 10, .inl (gZ g, 5, .inl f2)), (z 11, .inl (gI g, 7, .inl u.2.2.1)), (z 12, .inl (gI g, 7, .inl u.2.2.2))] : va_W))) (F0 m 70 ls []) := by
            intro n70
            induction n70 with
            | zero => intro i ga hfuel70; exact absurd hfuel70 (Nat.not_lt_zero _)
            | succ n70 ih70 =>
              intro i ga hfuel70 hi H locs hP hD hS ls hl
              refine lv_iload_n hx hb dX12_tries_70 rfl (lv_at hl 0 rfl) ?_
              refine lv_bipush (v := 7) hx hb dX12_tries_71 (by decide) ?_
              refine lv_icmp_ge (tgt := 94) hx hb dX12_tries_73 (by decide) (fun c_5 => ?_) (fun c_5 => ?_)
              · have c_5n : 7 ≤ i := (k_leI (a := 7) (b := i) (by omega) (by omega)).mp c_5
                exact k_vret ((fun kk_ => ([(xs 0), (xs 1), x, (xs 3)] : List Int32).getD kk_ 0), f0, f3, ga) [0, 1, 2, 3, 4, 5, 6] hx hb hr hlk hP hD hS trivial rfl rfl rfl (Nat.le_of_ble_eq_true rfl) (Nat.le_of_ble_eq_true rfl) dX12_tries_94
              · have c_5n : i < 7 := Nat.not_le.mp (fun h => c_5 ((k_leI (a := 7) (b := i) (by omega) (by omega)).mpr h))
                refine lv_aload_n hx hb dX12_tries_76 rfl (lv_at hl 1 rfl) ?_
                refine va_get (ci := 12) (C := RX12) (T := TX12) (N := 20) hx hb hts inlX12 hown hKW.1 hP 0 rfl rfl 14 (by decide) (hts _ wd_6_17) (fun _ h => h) rfl dX12_tries_77 ?_
                refine lv_iload_n hx hb dX12_tries_80 rfl (lv_at hl 0 rfl) ?_
                refine lv_aload_n hx hb dX12_tries_81 rfl (lv_at hl 1 rfl) ?_
                refine va_get (ci := 12) (C := RX12) (T := TX12) (N := 20) hx hb hts inlX12 hown hKW.1 hP 0 rfl rfl 13 (by decide) (hts _ wd_6_16) (fun _ h => h) rfl dX12_tries_82 ?_
                refine lv_iload_n hx hb dX12_tries_85 rfl (lv_at hl 0 rfl) ?_
                refine va_iald hx hb hKW.1 hP 5 0 rfl rfl (vp_in_nI (by omega) (by decide)) dX12_tries_86 ?_
                refine lv_topi (fun x_6 ex_6 => ?_)
                refine va_iast hx hb hKW.1 hP hD hS 6 0 rfl rfl (vp_in_nI (by omega) (by decide)) dX12_tries_87 (fun H locs hP hD hS => ?_)
                have hP : va_P g.1 vwCl [(z 0, .inr (12, [.ref (z 1), .ref (z 2), .int (nI kp), .int (xs 0), .ref (z 3), .ref (z 4), .ref (z 5), .ref (z 6), .int (xs 1), .ref (z 7), .ref (z 8), .ref (z 9), .ref (z 10), .ref (z 11), .ref (z 12), .int x, .ref (z 13), .ref (z 14), .int (xs 3), .ref (z 15)])), (z 1, .inl (gI g, 461, .inl D)), (z 8, .inl (gI g, 5, .inl f0)), (z 9, .inl (gI g, 5, .inl f1)), (z 10, .inl (gZ g, 5, .inl f2)), (z 11, .inl (gI g, 7, .inl f3)), (z 12, .inl (gI g, 7, .inl (upd ga (nI i).toNatClampNeg x_6)))] H := hP
                have hD : va_D A [(z 0, .inr (12, [.ref (z 1), .ref (z 2), .int (nI kp), .int (xs 0), .ref (z 3), .ref (z 4), .ref (z 5), .ref (z 6), .int (xs 1), .ref (z 7), .ref (z 8), .ref (z 9), .ref (z 10), .ref (z 11), .ref (z 12), .int x, .ref (z 13), .ref (z 14), .int (xs 3), .ref (z 15)])), (z 1, .inl (gI g, 461, .inl D)), (z 8, .inl (gI g, 5, .inl f0)), (z 9, .inl (gI g, 5, .inl f1)), (z 10, .inl (gZ g, 5, .inl f2)), (z 11, .inl (gI g, 7, .inl f3)), (z 12, .inl (gI g, 7, .inl (upd ga (nI i).toNatClampNeg x_6)))] := hD
                obtain ⟨f_7, ef_7⟩ : ∃ zz_ : Nat → Int32, zz_ = upd ga (nI i).toNatClampNeg x_6 := ⟨_, rfl⟩
                rw [← ef_7] at hP hD
                refine lv_iinc (v := nI (i + 1)) (lv' := [(3, .int (nI (i + 1))), (0, .ref (z 0)), (1, .int 7), (2, .int x)]) hx hb dX12_tries_88 hl (k := 0) rfl (nI_add i 1) (by decide) rfl (fun ls hl => ?_)
                refine lv_goto (tgt := 70) hx hb dX12_tries_91 (by decide) ?_
                exact ih70 (i + 1) f_7 (by omega) (by first | assumption | omega) H locs (hP.sub [0, 1, 2, 3, 4, 5, 6] rfl) (hD.sub [0, 1, 2, 3, 4, 5, 6] (by decide) rfl) hS ls (lv_sub hl [0, 1, 2, 3] rfl)
          exact L70 (7 - 0 + 1) 0 f4 (Nat.lt_succ_self _) (by first | assumption | omega) H locs (hP.sub [0, 1, 2, 3, 4, 5, 6] rfl) (hD.sub [0, 1, 2, 3, 4, 5, 6] (by decide) rfl) hS ls (lv_sub hl [0, 1, 2, 3] rfl)
        · have c_4n : i < dk_3 := Nat.not_le.mp (fun h => c_4 ((k_leI (a := dk_3) (b := i) (by omega) (by omega)).mpr h))
          refine lv_aload_n hx hb dX12_tries_31 rfl (lv_at hl 1 rfl) ?_
          refine lv_aload_n hx hb dX12_tries_32 rfl (lv_at hl 1 rfl) ?_
          refine va_get (ci := 12) (C := RX12) (T := TX12) (N := 20) hx hb hts inlX12 hown hKW.1 hP 0 rfl rfl 10 (by decide) (hts _ wd_6_12) (fun _ h => h) rfl dX12_tries_33 ?_
          refine lv_iload_n hx hb dX12_tries_36 rfl (lv_at hl 0 rfl) ?_
          refine va_iald hx hb hKW.1 hP 2 0 rfl rfl (vp_in_nI (by omega) (by decide)) dX12_tries_37 ?_
          refine lv_topi (fun x_8 ex_8 => ?_)
          refine lv_aload_n hx hb dX12_tries_38 rfl (lv_at hl 1 rfl) ?_
          refine va_get (ci := 12) (C := RX12) (T := TX12) (N := 20) hx hb hts inlX12 hown hKW.1 hP 0 rfl rfl 11 (by decide) (hts _ wd_6_13) (fun _ h => h) rfl dX12_tries_39 ?_
          refine lv_iload_n hx hb dX12_tries_42 rfl (lv_at hl 0 rfl) ?_
          refine va_iald hx hb hKW.1 hP 3 0 rfl rfl (vp_in_nI (by omega) (by decide)) dX12_tries_43 ?_
          refine lv_topi (fun x_9 ex_9 => ?_)
          refine lv_aload_n hx hb dX12_tries_44 rfl (lv_at hl 1 rfl) ?_
          refine va_get (ci := 12) (C := RX12) (T := TX12) (N := 20) hx hb hts inlX12 hown hKW.1 hP 0 rfl rfl 12 (by decide) (hts _ wd_6_15) (fun _ h => h) rfl dX12_tries_45 ?_
          refine lv_iload_n hx hb dX12_tries_48 rfl (lv_at hl 0 rfl) ?_
          refine va_zald hx hb hKW.1 hP 4 2 rfl rfl (vp_in_nI (by omega) (by decide)) dX12_tries_49 ?_
          refine lv_topi (fun x_10 ex_10 => ?_)
          refine k_Vi [0, 1] [2, 3, 4, 5, 6] 0 12 (wr := [(z 8, .inl (gI g, 5, .inl f0)), (z 9, .inl (gI g, 5, .inl f1)), (z 10, .inl (gZ g, 5, .inl f2)), (z 11, .inl (gI g, 7, .inl f3)), (z 12, .inl (gI g, 7, .inl f4))]) hx hb hml hown hts hKW hP hD hS hA hl.1 (c_X12_areEnough l g _ z kp xs D x_8 x_9 x_10 (by first | assumption | omega | decide)) rfl rfl rfl wd_28_2 wd_1_5 wd_27_23 wd_28_0 wd_28_1 yd_X12_areEnough ⟨(Nat.le_of_ble_eq_true rfl), (Nat.le_of_ble_eq_true rfl)⟩ rfl rfl rfl rfl (by decide) rfl (Nat.le_of_ble_eq_true rfl) dX12_tries_50 ⟨(Nat.le_of_ble_eq_true rfl), (Nat.le_of_ble_eq_true rfl)⟩ (fun r_11 u_12 H locs hw_13 hP hD hS => ?_)
          have hP : va_P g.1 vwCl [(z 8, .inl (gI g, 5, .inl f0)), (z 9, .inl (gI g, 5, .inl f1)), (z 10, .inl (gZ g, 5, .inl f2)), (z 11, .inl (gI g, 7, .inl f3)), (z 12, .inl (gI g, 7, .inl f4)), (z 0, .inr (12, [.ref (z 1), .ref (z 2), .int (nI kp), .int (xs 0), .ref (z 3), .ref (z 4), .ref (z 5), .ref (z 6), .int (xs 1), .ref (z 7), .ref (z 8), .ref (z 9), .ref (z 10), .ref (z 11), .ref (z 12), .int (xs 2), .ref (z 13), .ref (z 14), .int (xs 3), .ref (z 15)])), (z 1, .inl (gI g, 461, .inl D))] H := hP
          have hD : va_D A [(z 8, .inl (gI g, 5, .inl f0)), (z 9, .inl (gI g, 5, .inl f1)), (z 10, .inl (gZ g, 5, .inl f2)), (z 11, .inl (gI g, 7, .inl f3)), (z 12, .inl (gI g, 7, .inl f4)), (z 0, .inr (12, [.ref (z 1), .ref (z 2), .int (nI kp), .int (xs 0), .ref (z 3), .ref (z 4), .ref (z 5), .ref (z 6), .int (xs 1), .ref (z 7), .ref (z 8), .ref (z 9), .ref (z 10), .ref (z 11), .ref (z 12), .int (xs 2), .ref (z 13), .ref (z 14), .int (xs 3), .ref (z 15)])), (z 1, .inl (gI g, 461, .inl D))] := hD
          rcases (show r_11 = 1 ∨ r_11 = 0 from hw_13) with rfl | rfl <;> clear hw_13
          · refine lv_if_ne (tgt := 57) hx hb dX12_tries_53 (by decide) (fun _ => ?_) (fun c => absurd c (by decide))
            refine lv_iinc (v := nI (i + 1)) (lv' := [(3, .int (nI (i + 1))), (0, .ref (z 0)), (1, .int 7), (2, .int x)]) hx hb dX12_tries_57 hl (k := 0) rfl (nI_add i 1) (by decide) rfl (fun ls hl => ?_)
            refine lv_goto (tgt := 21) hx hb dX12_tries_60 (by decide) ?_
            exact ih21 (i + 1) (by omega) (by first | assumption | omega) H locs (hP.sub [5, 6, 0, 1, 2, 3, 4] rfl) (hD.sub [5, 6, 0, 1, 2, 3, 4] (by decide) rfl) hS ls (lv_sub hl [0, 1, 2, 3] rfl)
          · refine lv_if_ne (tgt := 57) hx hb dX12_tries_53 (by decide) (fun c => absurd c (by decide)) (fun _ => ?_)
            exact k_vret (xs, f0, f3, f4) [5, 6, 0, 1, 2, 3, 4] hx hb hr hlk hP hD hS trivial rfl rfl rfl (Nat.le_of_ble_eq_true rfl) (Nat.le_of_ble_eq_true rfl) dX12_tries_56
    exact L21 (5 - 0 + 1) 0 (Nat.lt_succ_self _) (by first | assumption | omega) H locs (hP.sub [0, 1, 2, 3, 4, 5, 6] rfl) (hD.sub [0, 1, 2, 3, 4, 5, 6] (by decide) rfl) hS ls (lv_sub hl [0, 1, 2, 3] rfl)
  · exact k_vret (xs, f0, f3, f4) [0, 1, 2, 3, 4, 5, 6] hx hb hr hlk hP hD hS trivial rfl rfl rfl (Nat.le_of_ble_eq_true rfl) (Nat.le_of_ble_eq_true rfl) dX12_tries_8
