theorem dX12_tries_95 : decode cX12_tries 95 = .ok (.aload_n 0, 1) := by decide +kernel
theorem dX12_tries_96 : decode cX12_tries 96 = .ok (.getfield 7, 3) := by decide +kernel
theorem dX12_tries_99 : decode cX12_tries 99 = .ok (.bipush 33, 2) := by decide +kernel
theorem dX12_tries_101 : decode cX12_tries 101 = .ok (.iload_n 1, 1) := by decide +kernel
theorem dX12_tries_102 : decode cX12_tries 102 = .ok (.iadd, 1) := by decide +kernel
theorem dX12_tries_103 : decode cX12_tries 103 = .ok (.iaload, 1) := by decide +kernel
theorem dX12_tries_104 : decode cX12_tries 104 = .ok (.istore_n 3, 1) := by decide +kernel
theorem dX12_tries_105 : decode cX12_tries 105 = .ok (.iload_n 3, 1) := by decide +kernel
theorem dX12_tries_106 : decode cX12_tries 106 = .ok (.ifCond .ge 18, 3) := by decide +kernel
theorem dX12_tries_124 : decode cX12_tries 124 = .ok (.iconst 0, 1) := by decide +kernel
theorem dX12_tries_125 : decode cX12_tries 125 = .ok (.istore 4, 2) := by decide +kernel
theorem dX12_tries_127 : decode cX12_tries 127 = .ok (.iload 4, 2) := by decide +kernel
theorem dX12_tries_129 : decode cX12_tries 129 = .ok (.aload_n 0, 1) := by decide +kernel
theorem dX12_tries_130 : decode cX12_tries 130 = .ok (.getfield 7, 3) := by decide +kernel
theorem dX12_tries_133 : decode cX12_tries 133 = .ok (.iconst 0, 1) := by decide +kernel
theorem dX12_tries_134 : decode cX12_tries 134 = .ok (.iaload, 1) := by decide +kernel
theorem dX12_tries_135 : decode cX12_tries 135 = .ok (.if_icmp .ge 77, 3) := by decide +kernel
theorem dX12_tries_212 : decode cX12_tries 212 = .ok (.return_, 1) := by decide +kernel
theorem dX12_tries_138 : decode cX12_tries 138 = .ok (.aload_n 0, 1) := by decide +kernel
theorem dX12_tries_139 : decode cX12_tries 139 = .ok (.getfield 7, 3) := by decide +kernel
theorem dX12_tries_142 : decode cX12_tries 142 = .ok (.bipush 40, 2) := by decide +kernel
theorem dX12_tries_144 : decode cX12_tries 144 = .ok (.iload_n 1, 1) := by decide +kernel
theorem dX12_tries_145 : decode cX12_tries 145 = .ok (.iadd, 1) := by decide +kernel
theorem dX12_tries_146 : decode cX12_tries 146 = .ok (.iaload, 1) := by decide +kernel
theorem dX12_tries_147 : decode cX12_tries 147 = .ok (.ifCond .ne 65, 3) := by decide +kernel
theorem dX12_tries_150 : decode cX12_tries 150 = .ok (.aload_n 0, 1) := by decide +kernel
theorem dX12_tries_151 : decode cX12_tries 151 = .ok (.getfield 41, 3) := by decide +kernel
theorem dX12_tries_154 : decode cX12_tries 154 = .ok (.iload_n 1, 1) := by decide +kernel
theorem dX12_tries_155 : decode cX12_tries 155 = .ok (.iload 4, 2) := by decide +kernel
theorem dX12_tries_157 : decode cX12_tries 157 = .ok (.iastore, 1) := by decide +kernel
theorem dX12_tries_158 : decode cX12_tries 158 = .ok (.aload_n 0, 1) := by decide +kernel
theorem dX12_tries_159 : decode cX12_tries 159 = .ok (.getfield 31, 3) := by decide +kernel
theorem dX12_tries_162 : decode cX12_tries 162 = .ok (.iload 4, 2) := by decide +kernel
theorem dX12_tries_164 : decode cX12_tries 164 = .ok (.dup2, 1) := by decide +kernel
theorem dX12_tries_165 : decode cX12_tries 165 = .ok (.iaload, 1) := by decide +kernel
theorem dX12_tries_166 : decode cX12_tries 166 = .ok (.iconst 1, 1) := by decide +kernel
theorem dX12_tries_167 : decode cX12_tries 167 = .ok (.iload_n 1, 1) := by decide +kernel
theorem dX12_tries_168 : decode cX12_tries 168 = .ok (.ishl, 1) := by decide +kernel
theorem dX12_tries_169 : decode cX12_tries 169 = .ok (.ior, 1) := by decide +kernel
theorem dX12_tries_170 : decode cX12_tries 170 = .ok (.iastore, 1) := by decide +kernel
theorem dX12_tries_171 : decode cX12_tries 171 = .ok (.aload_n 0, 1) := by decide +kernel
theorem dX12_tries_172 : decode cX12_tries 172 = .ok (.iload_n 1, 1) := by decide +kernel
theorem dX12_tries_173 : decode cX12_tries 173 = .ok (.iconst 1, 1) := by decide +kernel
theorem dX12_tries_174 : decode cX12_tries 174 = .ok (.iadd, 1) := by decide +kernel
theorem dX12_tries_175 : decode cX12_tries 175 = .ok (.iload 4, 2) := by decide +kernel
theorem dX12_tries_177 : decode cX12_tries 177 = .ok (.iload_n 3, 1) := by decide +kernel
theorem dX12_tries_178 : decode cX12_tries 178 = .ok (.if_icmp .ne 7, 3) := by decide +kernel
theorem dX12_tries_185 : decode cX12_tries 185 = .ok (.iload_n 2, 1) := by decide +kernel
theorem dX12_tries_186 : decode cX12_tries 186 = .ok (.iconst 1, 1) := by decide +kernel
theorem dX12_tries_187 : decode cX12_tries 187 = .ok (.iadd, 1) := by decide +kernel
theorem dX12_tries_188 : decode cX12_tries 188 = .ok (.invokevirtual 148, 3) := by decide +kernel
theorem dX12_tries_191 : decode cX12_tries 191 = .ok (.aload_n 0, 1) := by decide +kernel
theorem dX12_tries_192 : decode cX12_tries 192 = .ok (.getfield 31, 3) := by decide +kernel
theorem dX12_tries_195 : decode cX12_tries 195 = .ok (.iload 4, 2) := by decide +kernel
theorem dX12_tries_197 : decode cX12_tries 197 = .ok (.dup2, 1) := by decide +kernel
theorem dX12_tries_198 : decode cX12_tries 198 = .ok (.iaload, 1) := by decide +kernel
theorem dX12_tries_199 : decode cX12_tries 199 = .ok (.iconst 1, 1) := by decide +kernel
theorem dX12_tries_200 : decode cX12_tries 200 = .ok (.iload_n 1, 1) := by decide +kernel
theorem dX12_tries_201 : decode cX12_tries 201 = .ok (.ishl, 1) := by decide +kernel
theorem dX12_tries_202 : decode cX12_tries 202 = .ok (.iconst (-1), 1) := by decide +kernel
theorem dX12_tries_203 : decode cX12_tries 203 = .ok (.ixor, 1) := by decide +kernel
theorem dX12_tries_204 : decode cX12_tries 204 = .ok (.iand, 1) := by decide +kernel
theorem dX12_tries_205 : decode cX12_tries 205 = .ok (.iastore, 1) := by decide +kernel
theorem dX12_tries_206 : decode cX12_tries 206 = .ok (.iinc 4 1, 3) := by decide +kernel
theorem dX12_tries_209 : decode cX12_tries 209 = .ok (.goto (-82), 3) := by decide +kernel
theorem dX12_tries_181 : decode cX12_tries 181 = .ok (.iload_n 2, 1) := by decide +kernel
theorem dX12_tries_182 : decode cX12_tries 182 = .ok (.goto 6, 3) := by decide +kernel
theorem dX12_tries_109 : decode cX12_tries 109 = .ok (.aload_n 0, 1) := by decide +kernel
theorem dX12_tries_110 : decode cX12_tries 110 = .ok (.getfield 41, 3) := by decide +kernel
theorem dX12_tries_113 : decode cX12_tries 113 = .ok (.iload_n 1, 1) := by decide +kernel
theorem dX12_tries_114 : decode cX12_tries 114 = .ok (.iconst (-1), 1) := by decide +kernel
theorem dX12_tries_115 : decode cX12_tries 115 = .ok (.iastore, 1) := by decide +kernel
theorem dX12_tries_116 : decode cX12_tries 116 = .ok (.aload_n 0, 1) := by decide +kernel
theorem dX12_tries_117 : decode cX12_tries 117 = .ok (.iload_n 1, 1) := by decide +kernel
theorem dX12_tries_118 : decode cX12_tries 118 = .ok (.iconst 1, 1) := by decide +kernel
theorem dX12_tries_119 : decode cX12_tries 119 = .ok (.iadd, 1) := by decide +kernel
theorem dX12_tries_120 : decode cX12_tries 120 = .ok (.iload_n 2, 1) := by decide +kernel
theorem dX12_tries_121 : decode cX12_tries 121 = .ok (.invokevirtual 148, 3) := by decide +kernel
set_option maxHeartbeats 8000000 in
set_option maxRecDepth 100000 in
theorem c_X12_tries_6 (l : Launch) (g : kG) (sz : Nat) (z : Nat → Nat) (kp : Nat) (xs : Nat → Int32) (D : Nat → Int32) (f0 : Nat → Int32) (f1 : Nat → Int32) (f2 : Nat → Int32) (f3 : Nat → Int32) (f4 : Nat → Int32) (x : Int32) (hDI : DI D) (hh : (6 : Int) ≤ (D 1).toInt) : kMv l g yX12_tries cX12_tries 5 none 4 0 0 [.ref (z 0), .int 6, .int x] sz [(z 0, .inr (12, [.ref (z 1), .ref (z 2), .int (nI kp), .int (xs 0), .ref (z 3), .ref (z 4), .ref (z 5), .ref (z 6), .int (xs 1), .ref (z 7), .ref (z 8), .ref (z 9), .ref (z 10), .ref (z 11), .ref (z 12), .int (xs 2), .ref (z 13), .ref (z 14), .int (xs 3), .ref (z 15)])), (z 1, .inl (gI g, 461, .inl D)), (z 8, .inl (gI g, 5, .inl f0)), (z 9, .inl (gI g, 5, .inl f1)), (z 10, .inl (gZ g, 5, .inl f2)), (z 11, .inl (gI g, 7, .inl f3)), (z 12, .inl (gI g, 7, .inl f4))] (fun (u : (Nat → Int32) × (Nat → Int32) × (Nat → Int32) × (Nat → Int32)) => True) (fun (u : (Nat → Int32) × (Nat → Int32) × (Nat → Int32) × (Nat → Int32)) => ([(z 0, .inr (12, [.ref (z 1), .ref (z 2), .int (nI kp), .int (u.1 0), .ref (z 3), .ref (z 4), .ref (z 5), .ref (z 6), .int (u.1 1), .ref (z 7), .ref (z 8), .ref (z 9), .ref (z 10), .ref (z 11), .ref (z 12), .int (u.1 2), .ref (z 13), .ref (z 14), .int (u.1 3), .ref (z 15)])), (z 1, .inl (gI g, 461, .inl D)), (z 8, .inl (gI g, 5, .inl u.2.1)), (z 9, .inl (gI g, 5, .inl f1)), (z 10, .inl (gZ g, 5, .inl f2)), (z 11, .inl (gI g, 7, .inl u.2.2.1)), (z 12, .inl (gI g, 7, .inl u.2.2.2))] : va_W)) := by
  refine kMv.of (by decide) (Nat.le_of_ble_eq_true rfl) (fun p e s m below meth c A hx hb hr hml hown hts hlk hnm hKW hP hD hS hA ls hl => ?_)
  have hown : s.vm.findClass RX12 = some m.cls := hown
  have hl : lv_has ls 5 [(0, .ref (z 0)), (1, .int 6), (2, .int x)] := hl
  refine k_hide hP hS (fun H locs hP hS => ?_)
  refine lv_iload_n hx hb dX12_tries_0 rfl (lv_at hl 2 rfl) ?_
  refine lv_aload_n hx hb dX12_tries_1 rfl (lv_at hl 0 rfl) ?_
  refine va_get (ci := 12) (C := RX12) (T := TX12) (N := 20) hx hb hts inlX12 hown hKW.1 hP 0 rfl rfl 15 (by decide) (hts _ wd_31_1) (fun _ h => h) rfl dX12_tries_2 ?_
  refine lv_icmp_lt (tgt := 9) hx hb dX12_tries_5 (by decide) (fun c_1 => ?_) (fun c_1 => ?_)
  · refine lv_iload_n hx hb dX12_tries_9 rfl (lv_at hl 1 rfl) ?_
    refine lv_aload_n hx hb dX12_tries_10 rfl (lv_at hl 0 rfl) ?_
    refine va_get (ci := 12) (C := RX12) (T := TX12) (N := 20) hx hb hts inlX12 hown hKW.1 hP 0 rfl rfl 0 (by decide) (hts _ wd_6_5) (fun _ h => h) rfl dX12_tries_11 ?_
    refine lv_iconst (v := 1) hx hb dX12_tries_14 (by decide) ?_
    obtain ⟨dk_2, hdk_2a, hdk_2b, edk_2⟩ := DI.n1 hDI
    refine va_iald hx hb hKW.1 hP 1 0 rfl rfl (show ¬ _ by decide) dX12_tries_15 ?_
    refine k_top (y := nI dk_2) edk_2 ?_
    refine lv_icmp_ne (tgt := 95) hx hb dX12_tries_16 (by decide) (fun c_3 => ?_) (fun c_3 => ?_)
    · have c_3n : ¬ 6 = dk_2 := fun h => c_3 ((k_eqI (a := 6) (b := dk_2) (by omega) (by omega)).mpr h)
      refine lv_aload_n hx hb dX12_tries_95 rfl (lv_at hl 0 rfl) ?_
      refine va_get (ci := 12) (C := RX12) (T := TX12) (N := 20) hx hb hts inlX12 hown hKW.1 hP 0 rfl rfl 0 (by decide) (hts _ wd_6_5) (fun _ h => h) rfl dX12_tries_96 ?_
      refine lv_bipush (v := 33) hx hb dX12_tries_99 (by decide) ?_
      refine lv_iload_n hx hb dX12_tries_101 rfl (lv_at hl 1 rfl) ?_
      refine lv_iadd hx hb dX12_tries_102 ?_
      refine k_top (y := 39) (by decide) ?_
      refine va_iald hx hb hKW.1 hP 1 0 rfl rfl (show ¬ _ by decide) dX12_tries_103 ?_
      refine lv_topi (fun x_4 ex_4 => ?_)
      refine lv_istore_n (lv' := [(3, .int x_4), (0, .ref (z 0)), (1, .int 6), (2, .int x)]) hx hb dX12_tries_104 rfl hl (by decide) rfl (fun ls hl => ?_)
      refine lv_iload_n hx hb dX12_tries_105 rfl (lv_at hl 0 rfl) ?_
      refine lv_if_ge (tgt := 124) hx hb dX12_tries_106 (by decide) (fun c_5 => ?_) (fun c_5 => ?_)
      · refine lv_iconst (v := 0) hx hb dX12_tries_124 (by decide) ?_
        refine lv_istore (lv' := [(4, .int 0), (3, .int x_4), (0, .ref (z 0)), (1, .int 6), (2, .int x)]) hx hb dX12_tries_125 hl (by decide) rfl (fun ls hl => ?_)
        have L127 : ∀ (n127 : Nat) (i : Nat) (y0 : Int32) (y1 : Int32) (y2 : Int32) (y3 : Int32) (sa : Nat → Int32) (ta : Nat → Int32) (ba : Nat → Int32) (hfuel127 : 5 - i < n127) (hi : i ≤ 5) (H : Heap) (locs : List Loc) (hP : va_P g.1 vwCl [(z 0, .inr (12, [.ref (z 1), .ref (z 2), .int (nI kp), .int y0, .ref (z 3), .ref (z 4), .ref (z 5), .ref (z 6), .int y1, .ref (z 7), .ref (z 8), .ref (z 9), .ref (z 10), .ref (z 11), .ref (z 12), .int y2, .ref (z 13), .ref (z 14), .int y3, .ref (z 15)])), (z 1, .inl (gI g, 461, .inl D)), (z 8, .inl (gI g, 5, .inl sa)), (z 9, .inl (gI g, 5, .inl f1)), (z 10, .inl (gZ g, 5, .inl f2)), (z 11, .inl (gI g, 7, .inl ta)), (z 12, .inl (gI g, 7, .inl ba))] H) (hD : va_D A [(z 0, .inr (12, [.ref (z 1), .ref (z 2), .int (nI kp), .int y0, .ref (z 3), .ref (z 4), .ref (z 5), .ref (z 6), .int y1, .ref (z 7), .ref (z 8), .ref (z 9), .ref (z 10), .ref (z 11), .ref (z 12), .int y2, .ref (z 13), .ref (z 14), .int y3, .ref (z 15)])), (z 1, .inl (gI g, 461, .inl D)), (z 8, .inl (gI g, 5, .inl sa)), (z 9, .inl (gI g, 5, .inl f1)), (z 10, .inl (gZ g, 5, .inl f2)), (z 11, .inl (gI g, 7, .inl ta)), (z 12, .inl (gI g, 7, .inl ba))]) (hS : va_S A s.heap H locs) (ls : Array Slot) (hl : lv_has ls 5 [(4, .int (nI i)), (3, .int x_4), (0, .ref (z 0)), (1, .int 6), (2, .int x)]), W p l e (kR 4 0 0) s m ([.ref (z 0), .int 6, .int x] : List Value).toArray below meth c H locs 0 0 (kQv g A below ([.ref (z 0), .int 6, .int x] : List Value).toArray s 0 0 (fun (u : (Nat → Int32) × (Nat → Int32) × (Nat → Int32) × (Nat → Int32)) => True) (fun (u : (Nat → Int32) × (Nat → Int32) × (Nat → Int32) × (Nat → Int32)) => ([(z 0, .inr (12, [.ref (z 1), .ref (z 2), .int (nI kp), .int (u.1 0), .ref (z 3), .ref (z 4), .ref (z 5), .ref (z 6), .int (u.1 1), .ref (z 7), .ref (z 8), .ref (z 9), .ref (z 10), .ref (z 11), .ref (z 12), .int (u.1 2), .ref (z 13), .ref (z 14), .int (u.1 3), .ref (z 15)])), (z 1, .inl (gI g, 461, .inl D)), (z 8, .inl (gI g, 5, .inl u.2.1)), (z 9, .inl (gI g, 5, .inl f1)), (z 10, .inl (gZ g, 5, .inl f2)), (z 11, .inl (gI g, 7, .inl u.2.2.1)), (z 12, .inl (gI g, 7, .inl u.2.2.2))] : va_W))) (F0 m 127 ls []) := by
          intro n127
          induction n127 with
          | zero => intro i y0 y1 y2 y3 sa ta ba hfuel127; exact absurd hfuel127 (Nat.not_lt_zero _)
          | succ n127 ih127 =>
            intro i y0 y1 y2 y3 sa ta ba hfuel127 hi H locs hP hD hS ls hl
            refine lv_iload hx hb dX12_tries_127 (lv_at hl 0 rfl) ?_
            refine lv_aload_n hx hb dX12_tries_129 rfl (lv_at hl 2 rfl) ?_
            refine va_get (ci := 12) (C := RX12) (T := TX12) (N := 20) hx hb hts inlX12 hown hKW.1 hP 0 rfl rfl 0 (by decide) (hts _ wd_6_5) (fun _ h => h) rfl dX12_tries_130 ?_
            refine lv_iconst (v := 0) hx hb dX12_tries_133 (by decide) ?_
            obtain ⟨dk_6, hdk_6a, hdk_6b, edk_6⟩ := DI.n0 hDI
            refine va_iald hx hb hKW.1 hP 1 0 rfl rfl (show ¬ _ by decide) dX12_tries_134 ?_
            refine k_top (y := nI dk_6) edk_6 ?_
            refine lv_icmp_ge (tgt := 212) hx hb dX12_tries_135 (by decide) (fun c_7 => ?_) (fun c_7 => ?_)
            · have c_7n : dk_6 ≤ i := (k_leI (a := dk_6) (b := i) (by omega) (by omega)).mp c_7
              exact k_vret ((fun kk_ => ([y0, y1, y2, y3] : List Int32).getD kk_ 0), sa, ta, ba) [0, 1, 2, 3, 4, 5, 6] hx hb hr hlk hP hD hS trivial rfl rfl rfl (Nat.le_of_ble_eq_true rfl) (Nat.le_of_ble_eq_true rfl) dX12_tries_212
            · have c_7n : i < dk_6 := Nat.not_le.mp (fun h => c_7 ((k_leI (a := dk_6) (b := i) (by omega) (by omega)).mpr h))
              refine lv_aload_n hx hb dX12_tries_138 rfl (lv_at hl 2 rfl) ?_
              refine va_get (ci := 12) (C := RX12) (T := TX12) (N := 20) hx hb hts inlX12 hown hKW.1 hP 0 rfl rfl 0 (by decide) (hts _ wd_6_5) (fun _ h => h) rfl dX12_tries_139 ?_
              refine lv_bipush (v := 40) hx hb dX12_tries_142 (by decide) ?_
              refine lv_iload_n hx hb dX12_tries_144 rfl (lv_at hl 3 rfl) ?_
              refine lv_iadd hx hb dX12_tries_145 ?_
              refine k_top (y := 46) (by decide) ?_
              refine va_iald hx hb hKW.1 hP 1 0 rfl rfl (show ¬ _ by decide) dX12_tries_146 ?_
              refine lv_topi (fun x_8 ex_8 => ?_)
              refine lv_if_ne (tgt := 212) hx hb dX12_tries_147 (by decide) (fun c_9 => ?_) (fun c_9 => ?_)
              · exact k_vret ((fun kk_ => ([y0, y1, y2, y3] : List Int32).getD kk_ 0), sa, ta, ba) [0, 1, 2, 3, 4, 5, 6] hx hb hr hlk hP hD hS trivial rfl rfl rfl (Nat.le_of_ble_eq_true rfl) (Nat.le_of_ble_eq_true rfl) dX12_tries_212
              · refine lv_aload_n hx hb dX12_tries_150 rfl (lv_at hl 2 rfl) ?_
                refine va_get (ci := 12) (C := RX12) (T := TX12) (N := 20) hx hb hts inlX12 hown hKW.1 hP 0 rfl rfl 13 (by decide) (hts _ wd_6_16) (fun _ h => h) rfl dX12_tries_151 ?_
                refine lv_iload_n hx hb dX12_tries_154 rfl (lv_at hl 3 rfl) ?_
                refine lv_iload hx hb dX12_tries_155 (lv_at hl 0 rfl) ?_
                refine va_iast hx hb hKW.1 hP hD hS 5 0 rfl rfl (show ¬ _ by decide) dX12_tries_157 (fun H locs hP hD hS => ?_)
                have hP : va_P g.1 vwCl [(z 0, .inr (12, [.ref (z 1), .ref (z 2), .int (nI kp), .int y0, .ref (z 3), .ref (z 4), .ref (z 5), .ref (z 6), .int y1, .ref (z 7), .ref (z 8), .ref (z 9), .ref (z 10), .ref (z 11), .ref (z 12), .int y2, .ref (z 13), .ref (z 14), .int y3, .ref (z 15)])), (z 1, .inl (gI g, 461, .inl D)), (z 8, .inl (gI g, 5, .inl sa)), (z 9, .inl (gI g, 5, .inl f1)), (z 10, .inl (gZ g, 5, .inl f2)), (z 11, .inl (gI g, 7, .inl (upd ta 6 (nI i)))), (z 12, .inl (gI g, 7, .inl ba))] H := hP
                have hD : va_D A [(z 0, .inr (12, [.ref (z 1), .ref (z 2), .int (nI kp), .int y0, .ref (z 3), .ref (z 4), .ref (z 5), .ref (z 6), .int y1, .ref (z 7), .ref (z 8), .ref (z 9), .ref (z 10), .ref (z 11), .ref (z 12), .int y2, .ref (z 13), .ref (z 14), .int y3, .ref (z 15)])), (z 1, .inl (gI g, 461, .inl D)), (z 8, .inl (gI g, 5, .inl sa)), (z 9, .inl (gI g, 5, .inl f1)), (z 10, .inl (gZ g, 5, .inl f2)), (z 11, .inl (gI g, 7, .inl (upd ta 6 (nI i)))), (z 12, .inl (gI g, 7, .inl ba))] := hD
                obtain ⟨f_10, ef_10⟩ : ∃ zz_ : Nat → Int32, zz_ = upd ta 6 (nI i) := ⟨_, rfl⟩
                rw [← ef_10] at hP hD
                refine lv_aload_n hx hb dX12_tries_158 rfl (lv_at hl 2 rfl) ?_
                refine va_get (ci := 12) (C := RX12) (T := TX12) (N := 20) hx hb hts inlX12 hown hKW.1 hP 0 rfl rfl 10 (by decide) (hts _ wd_6_12) (fun _ h => h) rfl dX12_tries_159 ?_
                refine lv_iload hx hb dX12_tries_162 (lv_at hl 0 rfl) ?_
                refine lv_dup2_11 hx hb dX12_tries_164 rfl rfl ?_
                refine va_iald hx hb hKW.1 hP 2 0 rfl rfl (vp_in_nI (by omega) (by decide)) dX12_tries_165 ?_
                refine lv_topi (fun x_11 ex_11 => ?_)
                refine lv_iconst (v := 1) hx hb dX12_tries_166 (by decide) ?_
                refine lv_iload_n hx hb dX12_tries_167 rfl (lv_at hl 3 rfl) ?_
                refine lv_ishl hx hb dX12_tries_168 ?_
                refine k_top (y := 64) (by decide) ?_
                refine lv_ior hx hb dX12_tries_169 ?_
                refine lv_topi (fun x_12 ex_12 => ?_)
                refine va_iast hx hb hKW.1 hP hD hS 2 0 rfl rfl (vp_in_nI (by omega) (by decide)) dX12_tries_170 (fun H locs hP hD hS => ?_)
                have hP : va_P g.1 vwCl [(z 0, .inr (12, [.ref (z 1), .ref (z 2), .int (nI kp), .int y0, .ref (z 3), .ref (z 4), .ref (z 5), .ref (z 6), .int y1, .ref (z 7), .ref (z 8), .ref (z 9), .ref (z 10), .ref (z 11), .ref (z 12), .int y2, .ref (z 13), .ref (z 14), .int y3, .ref (z 15)])), (z 1, .inl (gI g, 461, .inl D)), (z 8, .inl (gI g, 5, .inl (upd sa (nI i).toNatClampNeg x_12))), (z 9, .inl (gI g, 5, .inl f1)), (z 10, .inl (gZ g, 5, .inl f2)), (z 11, .inl (gI g, 7, .inl f_10)), (z 12, .inl (gI g, 7, .inl ba))] H := hP
                have hD : va_D A [(z 0, .inr (12, [.ref (z 1), .ref (z 2), .int (nI kp), .int y0, .ref (z 3), .ref (z 4), .ref (z 5), .ref (z 6), .int y1, .ref (z 7), .ref (z 8), .ref (z 9), .ref (z 10), .ref (z 11), .ref (z 12), .int y2, .ref (z 13), .ref (z 14), .int y3, .ref (z 15)])), (z 1, .inl (gI g, 461, .inl D)), (z 8, .inl (gI g, 5, .inl (upd sa (nI i).toNatClampNeg x_12))), (z 9, .inl (gI g, 5, .inl f1)), (z 10, .inl (gZ g, 5, .inl f2)), (z 11, .inl (gI g, 7, .inl f_10)), (z 12, .inl (gI g, 7, .inl ba))] := hD
                obtain ⟨f_13, ef_13⟩ : ∃ zz_ : Nat → Int32, zz_ = upd sa (nI i).toNatClampNeg x_12 := ⟨_, rfl⟩
                rw [← ef_13] at hP hD
                refine lv_aload_n hx hb dX12_tries_171 rfl (lv_at hl 2 rfl) ?_
                refine lv_iload_n hx hb dX12_tries_172 rfl (lv_at hl 3 rfl) ?_
                refine lv_iconst (v := 1) hx hb dX12_tries_173 (by decide) ?_
                refine lv_iadd hx hb dX12_tries_174 ?_
                refine k_top (y := 7) (by decide) ?_
                refine lv_iload hx hb dX12_tries_175 (lv_at hl 0 rfl) ?_
                refine lv_iload_n hx hb dX12_tries_177 rfl (lv_at hl 1 rfl) ?_
                refine lv_icmp_ne (tgt := 185) hx hb dX12_tries_178 (by decide) (fun c_14 => ?_) (fun c_14 => ?_)
                · refine lv_iload_n hx hb dX12_tries_185 rfl (lv_at hl 4 rfl) ?_
                  refine lv_iconst (v := 1) hx hb dX12_tries_186 (by decide) ?_
                  refine lv_iadd hx hb dX12_tries_187 ?_
                  refine lv_topi (fun x_15 ex_15 => ?_)
                  refine k_Vv [0, 1, 2, 3, 4, 5, 6] [] 0 12 (wr := []) hx hb hml hown hts hKW hP hD hS hA hl.1 (c_X12_tries_7 l g _ z kp (fun kk_ => ([y0, y1, y2, y3] : List Int32).getD kk_ 0) D f_13 f1 f2 f_10 ba x_15 (by first | assumption | omega | decide) (by rw [edk_2, k_nIi (by omega)]; have q := hh; rw [edk_2, k_nIi (by omega)] at q; omega)) rfl rfl rfl wd_31_9 wd_1_5 wd_31_6 wd_31_7 wd_31_8 yd_X12_tries ⟨(Nat.le_of_ble_eq_true rfl), (Nat.le_of_ble_eq_true rfl)⟩ rfl rfl rfl rfl (by decide) rfl (Nat.le_of_ble_eq_true rfl) dX12_tries_188 ⟨(Nat.le_of_ble_eq_true rfl), (Nat.le_of_ble_eq_true rfl)⟩ (fun u_17 H locs hw_18 hP hD hS => ?_)
                  obtain ⟨f_19, f_20, f_21, f_22⟩ := u_17
                  have hP : va_P g.1 vwCl [(z 0, .inr (12, [.ref (z 1), .ref (z 2), .int (nI kp), .int (f_19 0), .ref (z 3), .ref (z 4), .ref (z 5), .ref (z 6), .int (f_19 1), .ref (z 7), .ref (z 8), .ref (z 9), .ref (z 10), .ref (z 11), .ref (z 12), .int (f_19 2), .ref (z 13), .ref (z 14), .int (f_19 3), .ref (z 15)])), (z 1, .inl (gI g, 461, .inl D)), (z 8, .inl (gI g, 5, .inl f_20)), (z 9, .inl (gI g, 5, .inl f1)), (z 10, .inl (gZ g, 5, .inl f2)), (z 11, .inl (gI g, 7, .inl f_21)), (z 12, .inl (gI g, 7, .inl f_22))] H := hP
                  have hD : va_D A [(z 0, .inr (12, [.ref (z 1), .ref (z 2), .int (nI kp), .int (f_19 0), .ref (z 3), .ref (z 4), .ref (z 5), .ref (z 6), .int (f_19 1), .ref (z 7), .ref (z 8), .ref (z 9), .ref (z 10), .ref (z 11), .ref (z 12), .int (f_19 2), .ref (z 13), .ref (z 14), .int (f_19 3), .ref (z 15)])), (z 1, .inl (gI g, 461, .inl D)), (z 8, .inl (gI g, 5, .inl f_20)), (z 9, .inl (gI g, 5, .inl f1)), (z 10, .inl (gZ g, 5, .inl f2)), (z 11, .inl (gI g, 7, .inl f_21)), (z 12, .inl (gI g, 7, .inl f_22))] := hD
                  refine lv_aload_n hx hb dX12_tries_191 rfl (lv_at hl 2 rfl) ?_
                  refine va_get (ci := 12) (C := RX12) (T := TX12) (N := 20) hx hb hts inlX12 hown hKW.1 hP 0 rfl rfl 10 (by decide) (hts _ wd_6_12) (fun _ h => h) rfl dX12_tries_192 ?_
                  refine lv_iload hx hb dX12_tries_195 (lv_at hl 0 rfl) ?_
                  refine lv_dup2_11 hx hb dX12_tries_197 rfl rfl ?_
                  refine va_iald hx hb hKW.1 hP 2 0 rfl rfl (vp_in_nI (by omega) (by decide)) dX12_tries_198 ?_
                  refine lv_topi (fun x_23 ex_23 => ?_)
                  refine lv_iconst (v := 1) hx hb dX12_tries_199 (by decide) ?_
                  refine lv_iload_n hx hb dX12_tries_200 rfl (lv_at hl 3 rfl) ?_
                  refine lv_ishl hx hb dX12_tries_201 ?_
                  refine k_top (y := 64) (by decide) ?_
                  refine lv_iconst (v := (-1)) hx hb dX12_tries_202 (by decide) ?_
                  refine lv_ixor hx hb dX12_tries_203 ?_
                  refine k_top (y := (-65)) (by decide) ?_
                  refine lv_iand hx hb dX12_tries_204 ?_
                  refine lv_topi (fun x_24 ex_24 => ?_)
                  refine va_iast hx hb hKW.1 hP hD hS 2 0 rfl rfl (vp_in_nI (by omega) (by decide)) dX12_tries_205 (fun H locs hP hD hS => ?_)
                  have hP : va_P g.1 vwCl [(z 0, .inr (12, [.ref (z 1), .ref (z 2), .int (nI kp), .int (f_19 0), .ref (z 3), .ref (z 4), .ref (z 5), .ref (z 6), .int (f_19 1), .ref (z 7), .ref (z 8), .ref (z 9), .ref (z 10), .ref (z 11), .ref (z 12), .int (f_19 2), .ref (z 13), .ref (z 14), .int (f_19 3), .ref (z 15)])), (z 1, .inl (gI g, 461, .inl D)), (z 8, .inl (gI g, 5, .inl (upd f_20 (nI i).toNatClampNeg x_24))), (z 9, .inl (gI g, 5, .inl f1)), (z 10, .inl (gZ g, 5, .inl f2)), (z 11, .inl (gI g, 7, .inl f_21)), (z 12, .inl (gI g, 7, .inl f_22))] H := hP
                  have hD : va_D A [(z 0, .inr (12, [.ref (z 1), .ref (z 2), .int (nI kp), .int (f_19 0), .ref (z 3), .ref (z 4), .ref (z 5), .ref (z 6), .int (f_19 1), .ref (z 7), .ref (z 8), .ref (z 9), .ref (z 10), .ref (z 11), .ref (z 12), .int (f_19 2), .ref (z 13), .ref (z 14), .int (f_19 3), .ref (z 15)])), (z 1, .inl (gI g, 461, .inl D)), (z 8, .inl (gI g, 5, .inl (upd f_20 (nI i).toNatClampNeg x_24))), (z 9, .inl (gI g, 5, .inl f1)), (z 10, .inl (gZ g, 5, .inl f2)), (z 11, .inl (gI g, 7, .inl f_21)), (z 12, .inl (gI g, 7, .inl f_22))] := hD
                  obtain ⟨f_25, ef_25⟩ : ∃ zz_ : Nat → Int32, zz_ = upd f_20 (nI i).toNatClampNeg x_24 := ⟨_, rfl⟩
                  rw [← ef_25] at hP hD
                  refine lv_iinc (v := nI (i + 1)) (lv' := [(4, .int (nI (i + 1))), (3, .int x_4), (0, .ref (z 0)), (1, .int 6), (2, .int x)]) hx hb dX12_tries_206 hl (k := 0) rfl (nI_add i 1) (by decide) rfl (fun ls hl => ?_)
                  refine lv_goto (tgt := 127) hx hb dX12_tries_209 (by decide) ?_
                  exact ih127 (i + 1) (f_19 0) (f_19 1) (f_19 2) (f_19 3) f_25 f_21 f_22 (by omega) (by first | assumption | omega) H locs (hP.sub [0, 1, 2, 3, 4, 5, 6] rfl) (hD.sub [0, 1, 2, 3, 4, 5, 6] (by decide) rfl) hS ls (lv_sub hl [0, 1, 2, 3, 4] rfl)
                · refine lv_iload_n hx hb dX12_tries_181 rfl (lv_at hl 4 rfl) ?_
                  refine lv_goto (tgt := 188) hx hb dX12_tries_182 (by decide) ?_
                  refine k_Vv [0, 1, 2, 3, 4, 5, 6] [] 0 12 (wr := []) hx hb hml hown hts hKW hP hD hS hA hl.1 (c_X12_tries_7 l g _ z kp (fun kk_ => ([y0, y1, y2, y3] : List Int32).getD kk_ 0) D f_13 f1 f2 f_10 ba x (by first | assumption | omega | decide) (by rw [edk_2, k_nIi (by omega)]; have q := hh; rw [edk_2, k_nIi (by omega)] at q; omega)) rfl rfl rfl wd_31_9 wd_1_5 wd_31_6 wd_31_7 wd_31_8 yd_X12_tries ⟨(Nat.le_of_ble_eq_true rfl), (Nat.le_of_ble_eq_true rfl)⟩ rfl rfl rfl rfl (by decide) rfl (Nat.le_of_ble_eq_true rfl) dX12_tries_188 ⟨(Nat.le_of_ble_eq_true rfl), (Nat.le_of_ble_eq_true rfl)⟩ (fun u_27 H locs hw_28 hP hD hS => ?_)
                  obtain ⟨f_29, f_30, f_31, f_32⟩ := u_27
                  have hP : va_P g.1 vwCl [(z 0, .inr (12, [.ref (z 1), .ref (z 2), .int (nI kp), .int (f_29 0), .ref (z 3), .ref (z 4), .ref (z 5), .ref (z 6), .int (f_29 1), .ref (z 7), .ref (z 8), .ref (z 9), .ref (z 10), .ref (z 11), .ref (z 12), .int (f_29 2), .ref (z 13), .ref (z 14), .int (f_29 3), .ref (z 15)])), (z 1, .inl (gI g, 461, .inl D)), (z 8, .inl (gI g, 5, .inl f_30)), (z 9, .inl (gI g, 5, .inl f1)), (z 10, .inl (gZ g, 5, .inl f2)), (z 11, .inl (gI g, 7, .inl f_31)), (z 12, .inl (gI g, 7, .inl f_32))] H := hP
                  have hD : va_D A [(z 0, .inr (12, [.ref (z 1), .ref (z 2), .int (nI kp), .int (f_29 0), .ref (z 3), .ref (z 4), .ref (z 5), .ref (z 6), .int (f_29 1), .ref (z 7), .ref (z 8), .ref (z 9), .ref (z 10), .ref (z 11), .ref (z 12), .int (f_29 2), .ref (z 13), .ref (z 14), .int (f_29 3), .ref (z 15)])), (z 1, .inl (gI g, 461, .inl D)), (z 8, .inl (gI g, 5, .inl f_30)), (z 9, .inl (gI g, 5, .inl f1)), (z 10, .inl (gZ g, 5, .inl f2)), (z 11, .inl (gI g, 7, .inl f_31)), (z 12, .inl (gI g, 7, .inl f_32))] := hD
                  refine lv_aload_n hx hb dX12_tries_191 rfl (lv_at hl 2 rfl) ?_
                  refine va_get (ci := 12) (C := RX12) (T := TX12) (N := 20) hx hb hts inlX12 hown hKW.1 hP 0 rfl rfl 10 (by decide) (hts _ wd_6_12) (fun _ h => h) rfl dX12_tries_192 ?_
                  refine lv_iload hx hb dX12_tries_195 (lv_at hl 0 rfl) ?_
                  refine lv_dup2_11 hx hb dX12_tries_197 rfl rfl ?_
                  refine va_iald hx hb hKW.1 hP 2 0 rfl rfl (vp_in_nI (by omega) (by decide)) dX12_tries_198 ?_
                  refine lv_topi (fun x_33 ex_33 => ?_)
                  refine lv_iconst (v := 1) hx hb dX12_tries_199 (by decide) ?_
                  refine lv_iload_n hx hb dX12_tries_200 rfl (lv_at hl 3 rfl) ?_
                  refine lv_ishl hx hb dX12_tries_201 ?_
                  refine k_top (y := 64) (by decide) ?_
                  refine lv_iconst (v := (-1)) hx hb dX12_tries_202 (by decide) ?_
                  refine lv_ixor hx hb dX12_tries_203 ?_
                  refine k_top (y := (-65)) (by decide) ?_
                  refine lv_iand hx hb dX12_tries_204 ?_
                  refine lv_topi (fun x_34 ex_34 => ?_)
                  refine va_iast hx hb hKW.1 hP hD hS 2 0 rfl rfl (vp_in_nI (by omega) (by decide)) dX12_tries_205 (fun H locs hP hD hS => ?_)
                  have hP : va_P g.1 vwCl [(z 0, .inr (12, [.ref (z 1), .ref (z 2), .int (nI kp), .int (f_29 0), .ref (z 3), .ref (z 4), .ref (z 5), .ref (z 6), .int (f_29 1), .ref (z 7), .ref (z 8), .ref (z 9), .ref (z 10), .ref (z 11), .ref (z 12), .int (f_29 2), .ref (z 13), .ref (z 14), .int (f_29 3), .ref (z 15)])), (z 1, .inl (gI g, 461, .inl D)), (z 8, .inl (gI g, 5, .inl (upd f_30 (nI i).toNatClampNeg x_34))), (z 9, .inl (gI g, 5, .inl f1)), (z 10, .inl (gZ g, 5, .inl f2)), (z 11, .inl (gI g, 7, .inl f_31)), (z 12, .inl (gI g, 7, .inl f_32))] H := hP
                  have hD : va_D A [(z 0, .inr (12, [.ref (z 1), .ref (z 2), .int (nI kp), .int (f_29 0), .ref (z 3), .ref (z 4), .ref (z 5), .ref (z 6), .int (f_29 1), .ref (z 7), .ref (z 8), .ref (z 9), .ref (z 10), .ref (z 11), .ref (z 12), .int (f_29 2), .ref (z 13), .ref (z 14), .int (f_29 3), .ref (z 15)])), (z 1, .inl (gI g, 461, .inl D)), (z 8, .inl (gI g, 5, .inl (upd f_30 (nI i).toNatClampNeg x_34))), (z 9, .inl (gI g, 5, .inl f1)), (z 10, .inl (gZ g, 5, .inl f2)), (z 11, .inl (gI g, 7, .inl f_31)), (z 12, .inl (gI g, 7, .inl f_32))] := hD
                  obtain ⟨f_35, ef_35⟩ : ∃ zz_ : Nat → Int32, zz_ = upd f_30 (nI i).toNatClampNeg x_34 := ⟨_, rfl⟩
                  rw [← ef_35] at hP hD
                  refine lv_iinc (v := nI (i + 1)) (lv' := [(4, .int (nI (i + 1))), (3, .int x_4), (0, .ref (z 0)), (1, .int 6), (2, .int x)]) hx hb dX12_tries_206 hl (k := 0) rfl (nI_add i 1) (by decide) rfl (fun ls hl => ?_)
                  refine lv_goto (tgt := 127) hx hb dX12_tries_209 (by decide) ?_
                  exact ih127 (i + 1) (f_29 0) (f_29 1) (f_29 2) (f_29 3) f_35 f_31 f_32 (by omega) (by first | assumption | omega) H locs (hP.sub [0, 1, 2, 3, 4, 5, 6] rfl) (hD.sub [0, 1, 2, 3, 4, 5, 6] (by decide) rfl) hS ls (lv_sub hl [0, 1, 2, 3, 4] rfl)
        exact L127 (5 - 0 + 1) 0 (xs 0) (xs 1) (xs 2) (xs 3) f0 f3 f4 (Nat.lt_succ_self _) (by first | assumption | omega) H locs (hP.sub [0, 1, 2, 3, 4, 5, 6] rfl) (hD.sub [0, 1, 2, 3, 4, 5, 6] (by decide) rfl) hS ls (lv_sub hl [0, 1, 2, 3, 4] rfl)
      · refine lv_aload_n hx hb dX12_tries_109 rfl (lv_at hl 1 rfl) ?_
        refine va_get (ci := 12) (C := RX12) (T := TX12) (N := 20) hx hb hts inlX12 hown hKW.1 hP 0 rfl rfl 13 (by decide) (hts _ wd_6_16) (fun _ h => h) rfl dX12_tries_110 ?_
        refine lv_iload_n hx hb dX12_tries_113 rfl (lv_at hl 2 rfl) ?_
        refine lv_iconst (v := (-1)) hx hb dX12_tries_114 (by decide) ?_
        refine va_iast hx hb hKW.1 hP hD hS 5 0 rfl rfl (show ¬ _ by decide) dX12_tries_115 (fun H locs hP hD hS => ?_)
        have hP : va_P g.1 vwCl [(z 0, .inr (12, [.ref (z 1), .ref (z 2), .int (nI kp), .int (xs 0), .ref (z 3), .ref (z 4), .ref (z 5), .ref (z 6), .int (xs 1), .ref (z 7), .ref (z 8), .ref (z 9), .ref (z 10), .ref (z 11), .ref (z 12), .int (xs 2), .ref (z 13), .ref (z 14), .int (xs 3), .ref (z 15)])), (z 1, .inl (gI g, 461, .inl D)), (z 8, .inl (gI g, 5, .inl f0)), (z 9, .inl (gI g, 5, .inl f1)), (z 10, .inl (gZ g, 5, .inl f2)), (z 11, .inl (gI g, 7, .inl (upd f3 6 (-1)))), (z 12, .inl (gI g, 7, .inl f4))] H := hP
        have hD : va_D A [(z 0, .inr (12, [.ref (z 1), .ref (z 2), .int (nI kp), .int (xs 0), .ref (z 3), .ref (z 4), .ref (z 5), .ref (z 6), .int (xs 1), .ref (z 7), .ref (z 8), .ref (z 9), .ref (z 10), .ref (z 11), .ref (z 12), .int (xs 2), .ref (z 13), .ref (z 14), .int (xs 3), .ref (z 15)])), (z 1, .inl (gI g, 461, .inl D)), (z 8, .inl (gI g, 5, .inl f0)), (z 9, .inl (gI g, 5, .inl f1)), (z 10, .inl (gZ g, 5, .inl f2)), (z 11, .inl (gI g, 7, .inl (upd f3 6 (-1)))), (z 12, .inl (gI g, 7, .inl f4))] := hD
        obtain ⟨f_36, ef_36⟩ : ∃ zz_ : Nat → Int32, zz_ = upd f3 6 (-1) := ⟨_, rfl⟩
        rw [← ef_36] at hP hD
        refine lv_aload_n hx hb dX12_tries_116 rfl (lv_at hl 1 rfl) ?_
        refine lv_iload_n hx hb dX12_tries_117 rfl (lv_at hl 2 rfl) ?_
        refine lv_iconst (v := 1) hx hb dX12_tries_118 (by decide) ?_
        refine lv_iadd hx hb dX12_tries_119 ?_
        refine k_top (y := 7) (by decide) ?_
        refine lv_iload_n hx hb dX12_tries_120 rfl (lv_at hl 3 rfl) ?_
        refine k_Vv [0, 1, 2, 3, 4, 5, 6] [] 0 12 (wr := []) hx hb hml hown hts hKW hP hD hS hA hl.1 (c_X12_tries_7 l g _ z kp xs D f0 f1 f2 f_36 f4 x (by first | assumption | omega | decide) (by rw [edk_2, k_nIi (by omega)]; have q := hh; rw [edk_2, k_nIi (by omega)] at q; omega)) rfl rfl rfl wd_31_9 wd_1_5 wd_31_6 wd_31_7 wd_31_8 yd_X12_tries ⟨(Nat.le_of_ble_eq_true rfl), (Nat.le_of_ble_eq_true rfl)⟩ rfl rfl rfl rfl (by decide) rfl (Nat.le_of_ble_eq_true rfl) dX12_tries_121 ⟨(Nat.le_of_ble_eq_true rfl), (Nat.le_of_ble_eq_true rfl)⟩ (fun u_38 H locs hw_39 hP hD hS => ?_)
        obtain ⟨f_40, f_41, f_42, f_43⟩ := u_38
        have hP : va_P g.1 vwCl [(z 0, .inr (12, [.ref (z 1), .ref (z 2), .int (nI kp), .int (f_40 0), .ref (z 3), .ref (z 4), .ref (z 5), .ref (z 6), .int (f_40 1), .ref (z 7), .ref (z 8), .ref (z 9), .ref (z 10), .ref (z 11), .ref (z 12), .int (f_40 2), .ref (z 13), .ref (z 14), .int (f_40 3), .ref (z 15)])), (z 1, .inl (gI g, 461, .inl D)), (z 8, .inl (gI g, 5, .inl f_41)), (z 9, .inl (gI g, 5, .inl f1)), (z 10, .inl (gZ g, 5, .inl f2)), (z 11, .inl (gI g, 7, .inl f_42)), (z 12, .inl (gI g, 7, .inl f_43))] H := hP
        have hD : va_D A [(z 0, .inr (12, [.ref (z 1), .ref (z 2), .int (nI kp), .int (f_40 0), .ref (z 3), .ref (z 4), .ref (z 5), .ref (z 6), .int (f_40 1), .ref (z 7), .ref (z 8), .ref (z 9), .ref (z 10), .ref (z 11), .ref (z 12), .int (f_40 2), .ref (z 13), .ref (z 14), .int (f_40 3), .ref (z 15)])), (z 1, .inl (gI g, 461, .inl D)), (z 8, .inl (gI g, 5, .inl f_41)), (z 9, .inl (gI g, 5, .inl f1)), (z 10, .inl (gZ g, 5, .inl f2)), (z 11, .inl (gI g, 7, .inl f_42)), (z 12, .inl (gI g, 7, .inl f_43))] := hD
        refine lv_iconst (v := 0) hx hb dX12_tries_124 (by decide) ?_
        refine lv_istore (lv' := [(4, .int 0), (3, .int x_4), (0, .ref (z 0)), (1, .int 6), (2, .int x)]) hx hb dX12_tries_125 hl (by decide) rfl (fun ls hl => ?_)
        have L127 : ∀ (n127 : Nat) (i : Nat) (y0 : Int32) (y1 : Int32) (y2 : Int32) (y3 : Int32) (sa : Nat → Int32) (ta : Nat → Int32) (ba : Nat → Int32) (hfuel127 : 5 - i < n127) (hi : i ≤ 5) (H : Heap) (locs : List Loc) (hP : va_P g.1 vwCl [(z 0, .inr (12, [.ref (z 1), .ref (z 2), .int (nI kp), .int y0, .ref (z 3), .ref (z 4), .ref (z 5), .ref (z 6), .int y1, .ref (z 7), .ref (z 8), .ref (z 9), .ref (z 10), .ref (z 11), .ref (z 12), .int y2, .ref (z 13), .ref (z 14), .int y3, .ref (z 15)])), (z 1, .inl (gI g, 461, .inl D)), (z 8, .inl (gI g, 5, .inl sa)), (z 9, .inl (gI g, 5, .inl f1)), (z 10, .inl (gZ g, 5, .inl f2)), (z 11, .inl (gI g, 7, .inl ta)), (z 12, .inl (gI g, 7, .inl ba))] H) (hD : va_D A [(z 0, .inr (12, [.ref (z 1), .ref (z 2), .int (nI kp), .int y0, .ref (z 3), .ref (z 4), .ref (z 5), .ref (z 6), .int y1, .ref (z 7), .ref (z 8), .ref (z 9), .ref (z 10), .ref (z 11), .ref (z 12), .int y2, .ref (z 13), .ref (z 14), .int y3, .ref (z 15)])), (z 1, .inl (gI g, 461, .inl D)), (z 8, .inl (gI g, 5, .inl sa)), (z 9, .inl (gI g, 5, .inl f1)), (z 10, .inl (gZ g, 5, .inl f2)), (z 11, .inl (gI g, 7, .inl ta)), (z 12, .inl (gI g, 7, .inl ba))]) (hS : va_S A s.heap H locs) (ls : Array Slot) (hl : lv_has ls 5 [(4, .int (nI i)), (3, .int x_4), (0, .ref (z 0)), (1, .int 6), (2, .int x)]), W p l e (kR 4 0 0) s m ([.ref (z 0), .int 6, .int x] : List Value).toArray below meth c H locs 0 0 (kQv g A below ([.ref (z 0), .int 6, .int x] : List Value).toArray s 0 0 (fun (u : (Nat → Int32) × (Nat → Int32) × (Nat → Int32) × (Nat → Int32)) => True) (fun (u : (Nat → Int32) × (Nat → Int32) × (Nat → Int32) × (Nat → Int32)) => ([(z 0, .inr (12, [.ref (z 1), .ref (z 2), .int (nI kp), .int (u.1 0), .ref (z 3), .ref (z 4), .ref (z 5), .ref (z 6), .int (u.1 1), .ref (z 7), .ref (z 8), .ref (z 9), .ref (z 10), .ref (z 11), .ref (z 12), .int (u.1 2), .ref (z 13), .ref (z 14), .int (u.1 3), .ref (z 15)])), (z 1, .inl (gI g, 461, .inl D)), (z 8, .inl (gI g, 5, .inl u.2.1)), (z 9, .inl (gI g, 5, .inl f1)), (z 10, .inl (gZ g, 5, .inl f2)), (z 11, .inl (gI g, 7, .inl u.2.2.1)), (z 12, .inl (gI g, 7, .inl u.2.2.2))] : va_W))) (F0 m 127 ls []) := by
          intro n127
          induction n127 with
          | zero => intro i y0 y1 y2 y3 sa ta ba hfuel127; exact absurd hfuel127 (Nat.not_lt_zero _)
          | succ n127 ih127 =>
            intro i y0 y1 y2 y3 sa ta ba hfuel127 hi H locs hP hD hS ls hl
            refine lv_iload hx hb dX12_tries_127 (lv_at hl 0 rfl) ?_
            refine lv_aload_n hx hb dX12_tries_129 rfl (lv_at hl 2 rfl) ?_
            refine va_get (ci := 12) (C := RX12) (T := TX12) (N := 20) hx hb hts inlX12 hown hKW.1 hP 0 rfl rfl 0 (by decide) (hts _ wd_6_5) (fun _ h => h) rfl dX12_tries_130 ?_
            refine lv_iconst (v := 0) hx hb dX12_tries_133 (by decide) ?_
            obtain ⟨dk_44, hdk_44a, hdk_44b, edk_44⟩ := DI.n0 hDI
            refine va_iald hx hb hKW.1 hP 1 0 rfl rfl (show ¬ _ by decide) dX12_tries_134 ?_
            refine k_top (y := nI dk_44) edk_44 ?_
            refine lv_icmp_ge (tgt := 212) hx hb dX12_tries_135 (by decide) (fun c_45 => ?_) (fun c_45 => ?_)
            · have c_45n : dk_44 ≤ i := (k_leI (a := dk_44) (b := i) (by omega) (by omega)).mp c_45
              exact k_vret ((fun kk_ => ([y0, y1, y2, y3] : List Int32).getD kk_ 0), sa, ta, ba) [0, 1, 2, 3, 4, 5, 6] hx hb hr hlk hP hD hS trivial rfl rfl rfl (Nat.le_of_ble_eq_true rfl) (Nat.le_of_ble_eq_true rfl) dX12_tries_212
            · have c_45n : i < dk_44 := Nat.not_le.mp (fun h => c_45 ((k_leI (a := dk_44) (b := i) (by omega) (by omega)).mpr h))
              refine lv_aload_n hx hb dX12_tries_138 rfl (lv_at hl 2 rfl) ?_
              refine va_get (ci := 12) (C := RX12) (T := TX12) (N := 20) hx hb hts inlX12 hown hKW.1 hP 0 rfl rfl 0 (by decide) (hts _ wd_6_5) (fun _ h => h) rfl dX12_tries_139 ?_
              refine lv_bipush (v := 40) hx hb dX12_tries_142 (by decide) ?_
              refine lv_iload_n hx hb dX12_tries_144 rfl (lv_at hl 3 rfl) ?_
              refine lv_iadd hx hb dX12_tries_145 ?_
              refine k_top (y := 46) (by decide) ?_
              refine va_iald hx hb hKW.1 hP 1 0 rfl rfl (show ¬ _ by decide) dX12_tries_146 ?_
              refine lv_topi (fun x_46 ex_46 => ?_)
              refine lv_if_ne (tgt := 212) hx hb dX12_tries_147 (by decide) (fun c_47 => ?_) (fun c_47 => ?_)
              · exact k_vret ((fun kk_ => ([y0, y1, y2, y3] : List Int32).getD kk_ 0), sa, ta, ba) [0, 1, 2, 3, 4, 5, 6] hx hb hr hlk hP hD hS trivial rfl rfl rfl (Nat.le_of_ble_eq_true rfl) (Nat.le_of_ble_eq_true rfl) dX12_tries_212
              · refine lv_aload_n hx hb dX12_tries_150 rfl (lv_at hl 2 rfl) ?_
                refine va_get (ci := 12) (C := RX12) (T := TX12) (N := 20) hx hb hts inlX12 hown hKW.1 hP 0 rfl rfl 13 (by decide) (hts _ wd_6_16) (fun _ h => h) rfl dX12_tries_151 ?_
                refine lv_iload_n hx hb dX12_tries_154 rfl (lv_at hl 3 rfl) ?_
                refine lv_iload hx hb dX12_tries_155 (lv_at hl 0 rfl) ?_
                refine va_iast hx hb hKW.1 hP hD hS 5 0 rfl rfl (show ¬ _ by decide) dX12_tries_157 (fun H locs hP hD hS => ?_)
                have hP : va_P g.1 vwCl [(z 0, .inr (12, [.ref (z 1), .ref (z 2), .int (nI kp), .int y0, .ref (z 3), .ref (z 4), .ref (z 5), .ref (z 6), .int y1, .ref (z 7), .ref (z 8), .ref (z 9), .ref (z 10), .ref (z 11), .ref (z 12), .int y2, .ref (z 13), .ref (z 14), .int y3, .ref (z 15)])), (z 1, .inl (gI g, 461, .inl D)), (z 8, .inl (gI g, 5, .inl sa)), (z 9, .inl (gI g, 5, .inl f1)), (z 10, .inl (gZ g, 5, .inl f2)), (z 11, .inl (gI g, 7, .inl (upd ta 6 (nI i)))), (z 12, .inl (gI g, 7, .inl ba))] H := hP
                have hD : va_D A [(z 0, .inr (12, [.ref (z 1), .ref (z 2), .int (nI kp), .int y0, .ref (z 3), .ref (z 4), .ref (z 5), .ref (z 6), .int y1, .ref (z 7), .ref (z 8), .ref (z 9), .ref (z 10), .ref (z 11), .ref (z 12), .int y2, .ref (z 13), .ref (z 14), .int y3, .ref (z 15)])), (z 1, .inl (gI g, 461, .inl D)), (z 8, .inl (gI g, 5, .inl sa)), (z 9, .inl (gI g, 5, .inl f1)), (z 10, .inl (gZ g, 5, .inl f2)), (z 11, .inl (gI g, 7, .inl (upd ta 6 (nI i)))), (z 12, .inl (gI g, 7, .inl ba))] := hD
                obtain ⟨f_48, ef_48⟩ : ∃ zz_ : Nat → Int32, zz_ = upd ta 6 (nI i) := ⟨_, rfl⟩
                rw [← ef_48] at hP hD
                refine lv_aload_n hx hb dX12_tries_158 rfl (lv_at hl 2 rfl) ?_
                refine va_get (ci := 12) (C := RX12) (T := TX12) (N := 20) hx hb hts inlX12 hown hKW.1 hP 0 rfl rfl 10 (by decide) (hts _ wd_6_12) (fun _ h => h) rfl dX12_tries_159 ?_
                refine lv_iload hx hb dX12_tries_162 (lv_at hl 0 rfl) ?_
                refine lv_dup2_11 hx hb dX12_tries_164 rfl rfl ?_
                refine va_iald hx hb hKW.1 hP 2 0 rfl rfl (vp_in_nI (by omega) (by decide)) dX12_tries_165 ?_
                refine lv_topi (fun x_49 ex_49 => ?_)
                refine lv_iconst (v := 1) hx hb dX12_tries_166 (by decide) ?_
                refine lv_iload_n hx hb dX12_tries_167 rfl (lv_at hl 3 rfl) ?_
                refine lv_ishl hx hb dX12_tries_168 ?_
                refine k_top (y := 64) (by decide) ?_
                refine lv_ior hx hb dX12_tries_169 ?_
                refine lv_topi (fun x_50 ex_50 => ?_)
                refine va_iast hx hb hKW.1 hP hD hS 2 0 rfl rfl (vp_in_nI (by omega) (by decide)) dX12_tries_170 (fun H locs hP hD hS => ?_)
                have hP : va_P g.1 vwCl [(z 0, .inr (12, [.ref (z 1), .ref (z 2), .int (nI kp), .int y0, .ref (z 3), .ref (z 4), .ref (z 5), .ref (z 6), .int y1, .ref (z 7), .ref (z 8), .ref (z 9), .ref (z 10), .ref (z 11), .ref (z 12), .int y2, .ref (z 13), .ref (z 14), .int y3, .ref (z 15)])), (z 1, .inl (gI g, 461, .inl D)), (z 8, .inl (gI g, 5, .inl (upd sa (nI i).toNatClampNeg x_50))), (z 9, .inl (gI g, 5, .inl f1)), (z 10, .inl (gZ g, 5, .inl f2)), (z 11, .inl (gI g, 7, .inl f_48)), (z 12, .inl (gI g, 7, .inl ba))] H := hP
                have hD : va_D A [(z 0, .inr (12, [.ref (z 1), .ref (z 2), .int (nI kp), .int y0, .ref (z 3), .ref (z 4), .ref (z 5), .ref (z 6), .int y1, .ref (z 7), .ref (z 8), .ref (z 9), .ref (z 10), .ref (z 11), .ref (z 12), .int y2, .ref (z 13), .ref (z 14), .int y3, .ref (z 15)])), (z 1, .inl (gI g, 461, .inl D)), (z 8, .inl (gI g, 5, .inl (upd sa (nI i).toNatClampNeg x_50))), (z 9, .inl (gI g, 5, .inl f1)), (z 10, .inl (gZ g, 5, .inl f2)), (z 11, .inl (gI g, 7, .inl f_48)), (z 12, .inl (gI g, 7, .inl ba))] := hD
                obtain ⟨f_51, ef_51⟩ : ∃ zz_ : Nat → Int32, zz_ = upd sa (nI i).toNatClampNeg x_50 := ⟨_, rfl⟩
                rw [← ef_51] at hP hD
                refine lv_aload_n hx hb dX12_tries_171 rfl (lv_at hl 2 rfl) ?_
                refine lv_iload_n hx hb dX12_tries_172 rfl (lv_at hl 3 rfl) ?_
                refine lv_iconst (v := 1) hx hb dX12_tries_173 (by decide) ?_
                refine lv_iadd hx hb dX12_tries_174 ?_
                refine k_top (y := 7) (by decide) ?_
                refine lv_iload hx hb dX12_tries_175 (lv_at hl 0 rfl) ?_
                refine lv_iload_n hx hb dX12_tries_177 rfl (lv_at hl 1 rfl) ?_
                refine lv_icmp_ne (tgt := 185) hx hb dX12_tries_178 (by decide) (fun c_52 => ?_) (fun c_52 => ?_)
                · refine lv_iload_n hx hb dX12_tries_185 rfl (lv_at hl 4 rfl) ?_
                  refine lv_iconst (v := 1) hx hb dX12_tries_186 (by decide) ?_
                  refine lv_iadd hx hb dX12_tries_187 ?_
                  refine lv_topi (fun x_53 ex_53 => ?_)
                  refine k_Vv [0, 1, 2, 3, 4, 5, 6] [] 0 12 (wr := []) hx hb hml hown hts hKW hP hD hS hA hl.1 (c_X12_tries_7 l g _ z kp (fun kk_ => ([y0, y1, y2, y3] : List Int32).getD kk_ 0) D f_51 f1 f2 f_48 ba x_53 (by first | assumption | omega | decide) (by rw [edk_2, k_nIi (by omega)]; have q := hh; rw [edk_2, k_nIi (by omega)] at q; omega)) rfl rfl rfl wd_31_9 wd_1_5 wd_31_6 wd_31_7 wd_31_8 yd_X12_tries ⟨(Nat.le_of_ble_eq_true rfl), (Nat.le_of_ble_eq_true rfl)⟩ rfl rfl rfl rfl (by decide) rfl (Nat.le_of_ble_eq_true rfl) dX12_tries_188 ⟨(Nat.le_of_ble_eq_true rfl), (Nat.le_of_ble_eq_true rfl)⟩ (fun u_55 H locs hw_56 hP hD hS => ?_)
                  obtain ⟨f_57, f_58, f_59, f_60⟩ := u_55
                  have hP : va_P g.1 vwCl [(z 0, .inr (12, [.ref (z 1), .ref (z 2), .int (nI kp), .int (f_57 0), .ref (z 3), .ref (z 4), .ref (z 5), .ref (z 6), .int (f_57 1), .ref (z 7), .ref (z 8), .ref (z 9), .ref (z 10), .ref (z 11), .ref (z 12), .int (f_57 2), .ref (z 13), .ref (z 14), .int (f_57 3), .ref (z 15)])), (z 1, .inl (gI g, 461, .inl D)), (z 8, .inl (gI g, 5, .inl f_58)), (z 9, .inl (gI g, 5, .inl f1)), (z 10, .inl (gZ g, 5, .inl f2)), (z 11, .inl (gI g, 7, .inl f_59)), (z 12, .inl (gI g, 7, .inl f_60))] H := hP
                  have hD : va_D A [(z 0, .inr (12, [.ref (z 1), .ref (z 2), .int (nI kp), .int (f_57 0), .ref (z 3), .ref (z 4), .ref (z 5), .ref (z 6), .int (f_57 1), .ref (z 7), .ref (z 8), .ref (z 9), .ref (z 10), .ref (z 11), .ref (z 12), .int (f_57 2), .ref (z 13), .ref (z 14), .int (f_57 3), .ref (z 15)])), (z 1, .inl (gI g, 461, .inl D)), (z 8, .inl (gI g, 5, .inl f_58)), (z 9, .inl (gI g, 5, .inl f1)), (z 10, .inl (gZ g, 5, .inl f2)), (z 11, .inl (gI g, 7, .inl f_59)), (z 12, .inl (gI g, 7, .inl f_60))] := hD
                  refine lv_aload_n hx hb dX12_tries_191 rfl (lv_at hl 2 rfl) ?_
                  refine va_get (ci := 12) (C := RX12) (T := TX12) (N := 20) hx hb hts inlX12 hown hKW.1 hP 0 rfl rfl 10 (by decide) (hts _ wd_6_12) (fun _ h => h) rfl dX12_tries_192 ?_
                  refine lv_iload hx hb dX12_tries_195 (lv_at hl 0 rfl) ?_
                  refine lv_dup2_11 hx hb dX12_tries_197 rfl rfl ?_
                  refine va_iald hx hb hKW.1 hP 2 0 rfl rfl (vp_in_nI (by omega) (by decide)) dX12_tries_198 ?_
                  refine lv_topi (fun x_61 ex_61 => ?_)
                  refine lv_iconst (v := 1) hx hb dX12_tries_199 (by decide) ?_
                  refine lv_iload_n hx hb dX12_tries_200 rfl (lv_at hl 3 rfl) ?_
                  refine lv_ishl hx hb dX12_tries_201 ?_
                  refine k_top (y := 64) (by decide) ?_
                  refine lv_iconst (v := (-1)) hx hb dX12_tries_202 (by decide) ?_
                  refine lv_ixor hx hb dX12_tries_203 ?_
                  refine k_top (y := (-65)) (by decide) ?_
                  refine lv_iand hx hb dX12_tries_204 ?_
                  refine lv_topi (fun x_62 ex_62 => ?_)
                  refine va_iast hx hb hKW.1 hP hD hS 2 0 rfl rfl (vp_in_nI (by omega) (by decide)) dX12_tries_205 (fun H locs hP hD hS => ?_)
                  have hP : va_P g.1 vwCl [(z 0, .inr (12, [.ref (z 1), .ref (z 2), .int (nI kp), .int (f_57 0), .ref (z 3), .ref (z 4), .ref (z 5), .ref (z 6), .int (f_57 1), .ref (z 7), .ref (z 8), .ref (z 9), .ref (z 10), .ref (z 11), .ref (z 12), .int (f_57 2), .ref (z 13), .ref (z 14), .int (f_57 3), .ref (z 15)])), (z 1, .inl (gI g, 461, .inl D)), (z 8, .inl (gI g, 5, .inl (upd f_58 (nI i).toNatClampNeg x_62))), (z 9, .inl (gI g, 5, .inl f1)), (z 10, .inl (gZ g, 5, .inl f2)), (z 11, .inl (gI g, 7, .inl f_59)), (z 12, .inl (gI g, 7, .inl f_60))] H := hP
                  have hD : va_D A [(z 0, .inr (12, [.ref (z 1), .ref (z 2), .int (nI kp), .int (f_57 0), .ref (z 3), .ref (z 4), .ref (z 5), .ref (z 6), .int (f_57 1), .ref (z 7), .ref (z 8), .ref (z 9), .ref (z 10), .ref (z 11), .ref (z 12), .int (f_57 2), .ref (z 13), .ref (z 14), .int (f_57 3), .ref (z 15)])), (z 1, .inl (gI g, 461, .inl D)), (z 8, .inl (gI g, 5, .inl (upd f_58 (nI i).toNatClampNeg x_62))), (z 9, .inl (gI g, 5, .inl f1)), (z 10, .inl (gZ g, 5, .inl f2)), (z 11, .inl (gI g, 7, .inl f_59)), (z 12, .inl (gI g, 7, .inl f_60))] := hD
                  obtain ⟨f_63, ef_63⟩ : ∃ zz_ : Nat → Int32, zz_ = upd f_58 (nI i).toNatClampNeg x_62 := ⟨_, rfl⟩
                  rw [← ef_63] at hP hD
                  refine lv_iinc (v := nI (i + 1)) (lv' := [(4, .int (nI (i + 1))), (3, .int x_4), (0, .ref (z 0)), (1, .int 6), (2, .int x)]) hx hb dX12_tries_206 hl (k := 0) rfl (nI_add i 1) (by decide) rfl (fun ls hl => ?_)
                  refine lv_goto (tgt := 127) hx hb dX12_tries_209 (by decide) ?_
                  exact ih127 (i + 1) (f_57 0) (f_57 1) (f_57 2) (f_57 3) f_63 f_59 f_60 (by omega) (by first | assumption | omega) H locs (hP.sub [0, 1, 2, 3, 4, 5, 6] rfl) (hD.sub [0, 1, 2, 3, 4, 5, 6] (by decide) rfl) hS ls (lv_sub hl [0, 1, 2, 3, 4] rfl)
                · refine lv_iload_n hx hb dX12_tries_181 rfl (lv_at hl 4 rfl) ?_
                  refine lv_goto (tgt := 188) hx hb dX12_tries_182 (by decide) ?_
                  refine k_Vv [0, 1, 2, 3, 4, 5, 6] [] 0 12 (wr := []) hx hb hml hown hts hKW hP hD hS hA hl.1 (c_X12_tries_7 l g _ z kp (fun kk_ => ([y0, y1, y2, y3] : List Int32).getD kk_ 0) D f_51 f1 f2 f_48 ba x (by first | assumption | omega | decide) (by rw [edk_2, k_nIi (by omega)]; have q := hh; rw [edk_2, k_nIi (by omega)] at q; omega)) rfl rfl rfl wd_31_9 wd_1_5 wd_31_6 wd_31_7 wd_31_8 yd_X12_tries ⟨(Nat.le_of_ble_eq_true rfl), (Nat.le_of_ble_eq_true rfl)⟩ rfl rfl rfl rfl (by decide) rfl (Nat.le_of_ble_eq_true rfl) dX12_tries_188 ⟨(Nat.le_of_ble_eq_true rfl), (Nat.le_of_ble_eq_true rfl)⟩ (fun u_65 H locs hw_66 hP hD hS => ?_)
                  obtain ⟨f_67, f_68, f_69, f_70⟩ := u_65
                  have hP : va_P g.1 vwCl [(z 0, .inr (12, [.ref (z 1), .ref (z 2), .int (nI kp), .int (f_67 0), .ref (z 3), .ref (z 4), .ref (z 5), .ref (z 6), .int (f_67 1), .ref (z 7), .ref (z 8), .ref (z 9), .ref (z 10), .ref (z 11), .ref (z 12), .int (f_67 2), .ref (z 13), .ref (z 14), .int (f_67 3), .ref (z 15)])), (z 1, .inl (gI g, 461, .inl D)), (z 8, .inl (gI g, 5, .inl f_68)), (z 9, .inl (gI g, 5, .inl f1)), (z 10, .inl (gZ g, 5, .inl f2)), (z 11, .inl (gI g, 7, .inl f_69)), (z 12, .inl (gI g, 7, .inl f_70))] H := hP
                  have hD : va_D A [(z 0, .inr (12, [.ref (z 1), .ref (z 2), .int (nI kp), .int (f_67 0), .ref (z 3), .ref (z 4), .ref (z 5), .ref (z 6), .int (f_67 1), .ref (z 7), .ref (z 8), .ref (z 9), .ref (z 10), .ref (z 11), .ref (z 12), .int (f_67 2), .ref (z 13), .ref (z 14), .int (f_67 3), .ref (z 15)])), (z 1, .inl (gI g, 461, .inl D)), (z 8, .inl (gI g, 5, .inl f_68)), (z 9, .inl (gI g, 5, .inl f1)), (z 10, .inl (gZ g, 5, .inl f2)), (z 11, .inl (gI g, 7, .inl f_69)), (z 12, .inl (gI g, 7, .inl f_70))] := hD
                  refine lv_aload_n hx hb dX12_tries_191 rfl (lv_at hl 2 rfl) ?_
                  refine va_get (ci := 12) (C := RX12) (T := TX12) (N := 20) hx hb hts inlX12 hown hKW.1 hP 0 rfl rfl 10 (by decide) (hts _ wd_6_12) (fun _ h => h) rfl dX12_tries_192 ?_
                  refine lv_iload hx hb dX12_tries_195 (lv_at hl 0 rfl) ?_
                  refine lv_dup2_11 hx hb dX12_tries_197 rfl rfl ?_
                  refine va_iald hx hb hKW.1 hP 2 0 rfl rfl (vp_in_nI (by omega) (by decide)) dX12_tries_198 ?_
                  refine lv_topi (fun x_71 ex_71 => ?_)
                  refine lv_iconst (v := 1) hx hb dX12_tries_199 (by decide) ?_
                  refine lv_iload_n hx hb dX12_tries_200 rfl (lv_at hl 3 rfl) ?_
                  refine lv_ishl hx hb dX12_tries_201 ?_
                  refine k_top (y := 64) (by decide) ?_
                  refine lv_iconst (v := (-1)) hx hb dX12_tries_202 (by decide) ?_
                  refine lv_ixor hx hb dX12_tries_203 ?_
                  refine k_top (y := (-65)) (by decide) ?_
                  refine lv_iand hx hb dX12_tries_204 ?_
                  refine lv_topi (fun x_72 ex_72 => ?_)
                  refine va_iast hx hb hKW.1 hP hD hS 2 0 rfl rfl (vp_in_nI (by omega) (by decide)) dX12_tries_205 (fun H locs hP hD hS => ?_)
                  have hP : va_P g.1 vwCl [(z 0, .inr (12, [.ref (z 1), .ref (z 2), .int (nI kp), .int (f_67 0), .ref (z 3), .ref (z 4), .ref (z 5), .ref (z 6), .int (f_67 1), .ref (z 7), .ref (z 8), .ref (z 9), .ref (z 10), .ref (z 11), .ref (z 12), .int (f_67 2), .ref (z 13), .ref (z 14), .int (f_67 3), .ref (z 15)])), (z 1, .inl (gI g, 461, .inl D)), (z 8, .inl (gI g, 5, .inl (upd f_68 (nI i).toNatClampNeg x_72))), (z 9, .inl (gI g, 5, .inl f1)), (z 10, .inl (gZ g, 5, .inl f2)), (z 11, .inl (gI g, 7, .inl f_69)), (z 12, .inl (gI g, 7, .inl f_70))] H := hP
                  have hD : va_D A [(z 0, .inr (12, [.ref (z 1), .ref (z 2), .int (nI kp), .int (f_67 0), .ref (z 3), .ref (z 4), .ref (z 5), .ref (z 6), .int (f_67 1), .ref (z 7), .ref (z 8), .ref (z 9), .ref (z 10), .ref (z 11), .ref (z 12), .int (f_67 2), .ref (z 13), .ref (z 14), .int (f_67 3), .ref (z 15)])), (z 1, .inl (gI g, 461, .inl D)), (z 8, .inl (gI g, 5, .inl (upd f_68 (nI i).toNatClampNeg x_72))), (z 9, .inl (gI g, 5, .inl f1)), (z 10, .inl (gZ g, 5, .inl f2)), (z 11, .inl (gI g, 7, .inl f_69)), (z 12, .inl (gI g, 7, .inl f_70))] := hD
                  obtain ⟨f_73, ef_73⟩ : ∃ zz_ : Nat → Int32, zz_ = upd f_68 (nI i).toNatClampNeg x_72 := ⟨_, rfl⟩
                  rw [← ef_73] at hP hD
                  refine lv_iinc (v := nI (i + 1)) (lv' := [(4, .int (nI (i + 1))), (3, .int x_4), (0, .ref (z 0)), (1, .int 6), (2, .int x)]) hx hb dX12_tries_206 hl (k := 0) rfl (nI_add i 1) (by decide) rfl (fun ls hl => ?_)
                  refine lv_goto (tgt := 127) hx hb dX12_tries_209 (by decide) ?_
                  exact ih127 (i + 1) (f_67 0) (f_67 1) (f_67 2) (f_67 3) f_73 f_69 f_70 (by omega) (by first | assumption | omega) H locs (hP.sub [0, 1, 2, 3, 4, 5, 6] rfl) (hD.sub [0, 1, 2, 3, 4, 5, 6] (by decide) rfl) hS ls (lv_sub hl [0, 1, 2, 3, 4] rfl)
        exact L127 (5 - 0 + 1) 0 (f_40 0) (f_40 1) (f_40 2) (f_40 3) f_41 f_42 f_43 (Nat.lt_succ_self _) (by first | assumption | omega) H locs (hP.sub [0, 1, 2, 3, 4, 5, 6] rfl) (hD.sub [0, 1, 2, 3, 4, 5, 6] (by decide) rfl) hS ls (lv_sub hl [0, 1, 2, 3, 4] rfl)
    · have c_3n : 6 = dk_2 := (k_eqI (a := 6) (b := dk_2) (by omega) (by omega)).mp c_3
      refine lv_iconst (v := 0) hx hb dX12_tries_19 (by decide) ?_
      refine lv_istore_n (lv' := [(3, .int 0), (0, .ref (z 0)), (1, .int 6), (2, .int x)]) hx hb dX12_tries_20 rfl hl (by decide) rfl (fun ls hl => ?_)
      have L21 : ∀ (n21 : Nat) (i : Nat) (hfuel21 : 5 - i < n21) (hi : i ≤ 5) (H : Heap) (locs : List Loc) (hP : va_P g.1 vwCl [(z 0, .inr (12, [.ref (z 1), .ref (z 2), .int (nI kp), .int (xs 0), .ref (z 3), .ref (z 4), .ref (z 5), .ref (z 6), .int (xs 1), .ref (z 7), .ref (z 8), .ref (z 9), .ref (z 10), .ref (z 11), .ref (z 12), .int (xs 2), .ref (z 13), .ref (z 14), .int (xs 3), .ref (z 15)])), (z 1, .inl (gI g, 461, .inl D)), (z 8, .inl (gI g, 5, .inl f0)), (z 9, .inl (gI g, 5, .inl f1)), (z 10, .inl (gZ g, 5, .inl f2)), (z 11, .inl (gI g, 7, .inl f3)), (z 12, .inl (gI g, 7, .inl f4))] H) (hD : va_D A [(z 0, .inr (12, [.ref (z 1), .ref (z 2), .int (nI kp), .int (xs 0), .ref (z 3), .ref (z 4), .ref (z 5), .ref (z 6), .int (xs 1), .ref (z 7), .ref (z 8), .ref (z 9), .ref (z 10), .ref (z 11), .ref (z 12), .int (xs 2), .ref (z 13), .ref (z 14), .int (xs 3), .ref (z 15)])), (z 1, .inl (gI g, 461, .inl D)), (z 8, .inl (gI g, 5, .inl f0)), (z 9, .inl (gI g, 5, .inl f1)), (z 10, .inl (gZ g, 5, .inl f2)), (z 11, .inl (gI g, 7, .inl f3)), (z 12, .inl (gI g, 7, .inl f4))]) (hS : va_S A s.heap H locs) (ls : Array Slot) (hl : lv_has ls 5 [(3, .int (nI i)), (0, .ref (z 0)), (1, .int 6), (2, .int x)]), W p l e (kR 4 0 0) s m ([.ref (z 0), .int 6, .int x] : List Value).toArray below meth c H locs 0 0 (kQv g A below ([.ref (z 0), .int 6, .int x] : List Value).toArray s 0 0 (fun (u : (Nat → Int32) × (Nat → Int32) × (Nat → Int32) × (Nat → Int32)) => True) (fun (u : (Nat → Int32) × (Nat → Int32) × (Nat → Int32) × (Nat → Int32)) => ([(z 0, .inr (12, [.ref (z 1), .ref (z 2), .int (nI kp), .int (u.1 0), .ref (z 3), .ref (z 4), .ref (z 5), .ref (z 6), .int (u.1 1), .ref (z 7), .ref (z 8), .ref (z 9), .ref (z 10), .ref (z 11), .ref (z 12), .int (u.1 2), .ref (z 13), .ref (z 14), .int (u.1 3), .ref (z 15)])), (z 1, .inl (gI g, 461, .inl D)), (z 8, .inl (gI g, 5, .inl u.2.1)), (z 9, .inl (gI g, 5, .inl f1)), (z 10, .inl (gZ g, 5, .inl f2)), (z 11, .inl (gI g, 7, .inl u.2.2.1)), (z 12, .inl (gI g, 7, .inl u.2.2.2))] : va_W))) (F0 m 21 ls []) := by
        intro n21
        induction n21 with
        | zero => intro i hfuel21; exact absurd hfuel21 (Nat.not_lt_zero _)
        | succ n21 ih21 =>
          intro i hfuel21 hi H locs hP hD hS ls hl
          refine lv_iload_n hx hb dX12_tries_21 rfl (lv_at hl 0 rfl) ?_
          refine lv_aload_n hx hb dX12_tries_22 rfl (lv_at hl 1 rfl) ?_
          refine va_get (ci := 12) (C := RX12) (T := TX12) (N := 20) hx hb hts inlX12 hown hKW.1 hP 0 rfl rfl 0 (by decide) (hts _ wd_6_5) (fun _ h => h) rfl dX12_tries_23 ?_
          refine lv_iconst (v := 0) hx hb dX12_tries_26 (by decide) ?_
          obtain ⟨dk_74, hdk_74a, hdk_74b, edk_74⟩ := DI.n0 hDI
          refine va_iald hx hb hKW.1 hP 1 0 rfl rfl (show ¬ _ by decide) dX12_tries_27 ?_
          refine k_top (y := nI dk_74) edk_74 ?_
          refine lv_icmp_ge (tgt := 63) hx hb dX12_tries_28 (by decide) (fun c_75 => ?_) (fun c_75 => ?_)
          · have c_75n : dk_74 ≤ i := (k_leI (a := dk_74) (b := i) (by omega) (by omega)).mp c_75
            refine lv_aload_n hx hb dX12_tries_63 rfl (lv_at hl 1 rfl) ?_
            refine lv_iload_n hx hb dX12_tries_64 rfl (lv_at hl 3 rfl) ?_
            refine va_put (ci := 12) (v := .int x) (C := RX12) (T := TX12) (N := 20) hx hb hts inlX12 tyX12 tyX12_ok nmX12 hown hKW.1 hP hD hS 0 rfl rfl 15 (by decide) (hts _ wd_31_1) (fun _ h => h) rfl (tyX12_ok 15 (by decide)) rfl rfl (Nat.le_of_ble_eq_true rfl) dX12_tries_65 (fun H locs hP hD hS => ?_)
            have hP : va_P g.1 vwCl [(z 0, .inr (12, [.ref (z 1), .ref (z 2), .int (nI kp), .int (xs 0), .ref (z 3), .ref (z 4), .ref (z 5), .ref (z 6), .int (xs 1), .ref (z 7), .ref (z 8), .ref (z 9), .ref (z 10), .ref (z 11), .ref (z 12), .int x, .ref (z 13), .ref (z 14), .int (xs 3), .ref (z 15)])), (z 1, .inl (gI g, 461, .inl D)), (z 8, .inl (gI g, 5, .inl f0)), (z 9, .inl (gI g, 5, .inl f1)), (z 10, .inl (gZ g, 5, .inl f2)), (z 11, .inl (gI g, 7, .inl f3)), (z 12, .inl (gI g, 7, .inl f4))] H := hP
            have hD : va_D A [(z 0, .inr (12, [.ref (z 1), .ref (z 2), .int (nI kp), .int (xs 0), .ref (z 3), .ref (z 4), .ref (z 5), .ref (z 6), .int (xs 1), .ref (z 7), .ref (z 8), .ref (z 9), .ref (z 10), .ref (z 11), .ref (z 12), .int x, .ref (z 13), .ref (z 14), .int (xs 3), .ref (z 15)])), (z 1, .inl (gI g, 461, .inl D)), (z 8, .inl (gI g, 5, .inl f0)), (z 9, .inl (gI g, 5, .inl f1)), (z 10, .inl (gZ g, 5, .inl f2)), (z 11, .inl (gI g, 7, .inl f3)), (z 12, .inl (gI g, 7, .inl f4))] := hD
            refine lv_iconst (v := 0) hx hb dX12_tries_68 (by decide) ?_
            refine lv_istore_n (lv' := [(3, .int 0), (0, .ref (z 0)), (1, .int 6), (2, .int x)]) hx hb dX12_tries_69 rfl hl (by decide) rfl (fun ls hl => ?_)
            have L70 : ∀ (n70 : Nat) (i : Nat) (ga : Nat → Int32) (hfuel70 : 7 - i < n70) (hi : i ≤ 7) (H : Heap) (locs : List Loc) (hP : va_P g.1 vwCl [(z 0, .inr (12, [.ref (z 1), .ref (z 2), .int (nI kp), .int (xs 0), .ref (z 3), .ref (z 4), .ref (z 5), .ref (z 6), .int (xs 1), .ref (z 7), .ref (z 8), .ref (z 9), .ref (z 10), .ref (z 11), .ref (z 12), .int x, .ref (z 13), .ref (z 14), .int (xs 3), .ref (z 15)])), (z 1, .inl (gI g, 461, .inl D)), (z 8, .inl (gI g, 5, .inl f0)), (z 9, .inl (gI g, 5, .inl f1)), (z 10, .inl (gZ g, 5, .inl f2)), (z 11, .inl (gI g, 7, .inl f3)), (z 12, .inl (gI g, 7, .inl ga))] H) (hD : va_D A [(z 0, .inr (12, [.ref (z 1), .ref (z 2), .int (nI kp), .int (xs 0), .ref (z 3), .ref (z 4), .ref (z 5), .ref (z 6), .int (xs 1), .ref (z 7), .ref (z 8), .ref (z 9), .ref (z 10), .ref (z 11), .ref (z 12), .int x, .ref (z 13), .ref (z 14), .int (xs 3), .ref (z 15)])), (z 1, .inl (gI g, 461, .inl D)), (z 8, .inl (gI g, 5, .inl f0)), (z 9, .inl (gI g, 5, .inl f1)), (z 10, .inl (gZ g, 5, .inl f2)), (z 11, .inl (gI g, 7, .inl f3)), (z 12, .inl (gI g, 7, .inl ga))]) (hS : va_S A s.heap H locs) (ls : Array Slot) (hl : lv_has ls 5 [(3, .int (nI i)), (0, .ref (z 0)), (1, .int 6), (2, .int x)]), W p l e (kR 4 0 0) s m ([.ref (z 0), .int 6, .int x] : List Value).toArray below meth c H locs 0 0 (kQv g A below ([.ref (z 0), .int 6, .int x] : List Value).toArray s 0 0 (fun (u : (Nat → Int32) × (Nat → Int32) × (Nat → Int32) × (Nat → Int32)) => True) (fun (u : (Nat → Int32) × (Nat → Int32) × (Nat → Int32) × (Nat → Int32)) => ([(z 0, .inr (12, [.ref (z 1), .ref (z 2), .int (nI kp), .int (u.1 0), .ref (z 3), .ref (z 4), .ref (z 5), .ref (z 6), .int (u.1 1), .ref (z 7), .ref (z 8), .ref (z 9), .ref (z 10), .ref (z 11), .ref (z 12), .int (u.1 2), .ref (z 13), .ref (z 14), .int (u.1 3), .ref (z 15)])), (z 1, .inl (gI g, 461, .inl D)), (z 8, .inl (gI g, 5, .inl u.2.1)), (z 9, .inl (gI g, 5, .inl f1)), (z 10, .inl (gZ g, 5, .inl f2)), (z 11, .inl (gI g, 7, .inl u.2.2.1)), (z 12, .inl (gI g, 7, .inl u.2.2.2))] : va_W))) (F0 m 70 ls []) := by
              intro n70
              induction n70 with
              | zero => intro i ga hfuel70; exact absurd hfuel70 (Nat.not_lt_zero _)
              | succ n70 ih70 =>
                intro i ga hfuel70 hi H locs hP hD hS ls hl
                refine lv_iload_n hx hb dX12_tries_70 rfl (lv_at hl 0 rfl) ?_
                refine lv_bipush (v := 7) hx hb dX12_tries_71 (by decide) ?_
                refine lv_icmp_ge (tgt := 94) hx hb dX12_tries_73 (by decide) (fun c_76 => ?_) (fun c_76 => ?_)
                · have c_76n : 7 ≤ i := (k_leI (a := 7) (b := i) (by omega) (by omega)).mp c_76
                  exact k_vret ((fun kk_ => ([(xs 0), (xs 1), x, (xs 3)] : List Int32).getD kk_ 0), f0, f3, ga) [0, 1, 2, 3, 4, 5, 6] hx hb hr hlk hP hD hS trivial rfl rfl rfl (Nat.le_of_ble_eq_true rfl) (Nat.le_of_ble_eq_true rfl) dX12_tries_94
                · have c_76n : i < 7 := Nat.not_le.mp (fun h => c_76 ((k_leI (a := 7) (b := i) (by omega) (by omega)).mpr h))
                  refine lv_aload_n hx hb dX12_tries_76 rfl (lv_at hl 1 rfl) ?_
                  refine va_get (ci := 12) (C := RX12) (T := TX12) (N := 20) hx hb hts inlX12 hown hKW.1 hP 0 rfl rfl 14 (by decide) (hts _ wd_6_17) (fun _ h => h) rfl dX12_tries_77 ?_
                  refine lv_iload_n hx hb dX12_tries_80 rfl (lv_at hl 0 rfl) ?_
                  refine lv_aload_n hx hb dX12_tries_81 rfl (lv_at hl 1 rfl) ?_
                  refine va_get (ci := 12) (C := RX12) (T := TX12) (N := 20) hx hb hts inlX12 hown hKW.1 hP 0 rfl rfl 13 (by decide) (hts _ wd_6_16) (fun _ h => h) rfl dX12_tries_82 ?_
                  refine lv_iload_n hx hb dX12_tries_85 rfl (lv_at hl 0 rfl) ?_
                  refine va_iald hx hb hKW.1 hP 5 0 rfl rfl (vp_in_nI (by omega) (by decide)) dX12_tries_86 ?_
                  refine lv_topi (fun x_77 ex_77 => ?_)
                  refine va_iast hx hb hKW.1 hP hD hS 6 0 rfl rfl (vp_in_nI (by omega) (by decide)) dX12_tries_87 (fun H locs hP hD hS => ?_)
                  have hP : va_P g.1 vwCl [(z 0, .inr (12, [.ref (z 1), .ref (z 2), .int (nI kp), .int (xs 0), .ref (z 3), .ref (z 4), .ref (z 5), .ref (z 6), .int (xs 1), .ref (z 7), .ref (z 8), .ref (z 9), .ref (z 10), .ref (z 11), .ref (z 12), .int x, .ref (z 13), .ref (z 14), .int (xs 3), .ref (z 15)])), (z 1, .inl (gI g, 461, .inl D)), (z 8, .inl (gI g, 5, .inl f0)), (z 9, .inl (gI g, 5, .inl f1)), (z 10, .inl (gZ g, 5, .inl f2)), (z 11, .inl (gI g, 7, .inl f3)), (z 12, .inl (gI g, 7, .inl (upd ga (nI i).toNatClampNeg x_77)))] H := hP
                  have hD : va_D A [(z 0, .inr (12, [.ref (z 1), .ref (z 2), .int (nI kp), .int (xs 0), .ref (z 3), .ref (z 4), .ref (z 5), .ref (z 6), .int (xs 1), .ref (z 7), .ref (z 8), .ref (z 9), .ref (z 10), .ref (z 11), .ref (z 12), .int x, .ref (z 13), .ref (z 14), .int (xs 3), .ref (z 15)])), (z 1, .inl (gI g, 461, .inl D)), (z 8, .inl (gI g, 5, .inl f0)), (z 9, .inl (gI g, 5, .inl f1)), (z 10, .inl (gZ g, 5, .inl f2)), (z 11, .inl (gI g, 7, .inl f3)), (z 12, .inl (gI g, 7, .inl (upd ga (nI i).toNatClampNeg x_77)))] := hD
                  obtain ⟨f_78, ef_78⟩ : ∃ zz_ : Nat → Int32, zz_ = upd ga (nI i).toNatClampNeg x_77 := ⟨_, rfl⟩
                  rw [← ef_78] at hP hD
                  refine lv_iinc (v := nI (i + 1)) (lv' := [(3, .int (nI (i + 1))), (0, .ref (z 0)), (1, .int 6), (2, .int x)]) hx hb dX12_tries_88 hl (k := 0) rfl (nI_add i 1) (by decide) rfl (fun ls hl => ?_)
                  refine lv_goto (tgt := 70) hx hb dX12_tries_91 (by decide) ?_
                  exact ih70 (i + 1) f_78 (by omega) (by first | assumption | omega) H locs (hP.sub [0, 1, 2, 3, 4, 5, 6] rfl) (hD.sub [0, 1, 2, 3, 4, 5, 6] (by decide) rfl) hS ls (lv_sub hl [0, 1, 2, 3] rfl)
            exact L70 (7 - 0 + 1) 0 f4 (Nat.lt_succ_self _) (by first | assumption | omega) H locs (hP.sub [0, 1, 2, 3, 4, 5, 6] rfl) (hD.sub [0, 1, 2, 3, 4, 5, 6] (by decide) rfl) hS ls (lv_sub hl [0, 1, 2, 3] rfl)
          · have c_75n : i < dk_74 := Nat.not_le.mp (fun h => c_75 ((k_leI (a := dk_74) (b := i) (by omega) (by omega)).mpr h))
            refine lv_aload_n hx hb dX12_tries_31 rfl (lv_at hl 1 rfl) ?_
            refine lv_aload_n hx hb dX12_tries_32 rfl (lv_at hl 1 rfl) ?_
            refine va_get (ci := 12) (C := RX12) (T := TX12) (N := 20) hx hb hts inlX12 hown hKW.1 hP 0 rfl rfl 10 (by decide) (hts _ wd_6_12) (fun _ h => h) rfl dX12_tries_33 ?_
            refine lv_iload_n hx hb dX12_tries_36 rfl (lv_at hl 0 rfl) ?_
            refine va_iald hx hb hKW.1 hP 2 0 rfl rfl (vp_in_nI (by omega) (by decide)) dX12_tries_37 ?_
            refine lv_topi (fun x_79 ex_79 => ?_)
            refine lv_aload_n hx hb dX12_tries_38 rfl (lv_at hl 1 rfl) ?_
            refine va_get (ci := 12) (C := RX12) (T := TX12) (N := 20) hx hb hts inlX12 hown hKW.1 hP 0 rfl rfl 11 (by decide) (hts _ wd_6_13) (fun _ h => h) rfl dX12_tries_39 ?_
            refine lv_iload_n hx hb dX12_tries_42 rfl (lv_at hl 0 rfl) ?_
            refine va_iald hx hb hKW.1 hP 3 0 rfl rfl (vp_in_nI (by omega) (by decide)) dX12_tries_43 ?_
            refine lv_topi (fun x_80 ex_80 => ?_)
            refine lv_aload_n hx hb dX12_tries_44 rfl (lv_at hl 1 rfl) ?_
            refine va_get (ci := 12) (C := RX12) (T := TX12) (N := 20) hx hb hts inlX12 hown hKW.1 hP 0 rfl rfl 12 (by decide) (hts _ wd_6_15) (fun _ h => h) rfl dX12_tries_45 ?_
            refine lv_iload_n hx hb dX12_tries_48 rfl (lv_at hl 0 rfl) ?_
            refine va_zald hx hb hKW.1 hP 4 2 rfl rfl (vp_in_nI (by omega) (by decide)) dX12_tries_49 ?_
            refine lv_topi (fun x_81 ex_81 => ?_)
            refine k_Vi [0, 1] [2, 3, 4, 5, 6] 0 12 (wr := [(z 8, .inl (gI g, 5, .inl f0)), (z 9, .inl (gI g, 5, .inl f1)), (z 10, .inl (gZ g, 5, .inl f2)), (z 11, .inl (gI g, 7, .inl f3)), (z 12, .inl (gI g, 7, .inl f4))]) hx hb hml hown hts hKW hP hD hS hA hl.1 (c_X12_areEnough l g _ z kp xs D x_79 x_80 x_81 (by first | assumption | omega | decide)) rfl rfl rfl wd_28_2 wd_1_5 wd_27_23 wd_28_0 wd_28_1 yd_X12_areEnough ⟨(Nat.le_of_ble_eq_true rfl), (Nat.le_of_ble_eq_true rfl)⟩ rfl rfl rfl rfl (by decide) rfl (Nat.le_of_ble_eq_true rfl) dX12_tries_50 ⟨(Nat.le_of_ble_eq_true rfl), (Nat.le_of_ble_eq_true rfl)⟩ (fun r_82 u_83 H locs hw_84 hP hD hS => ?_)
            have hP : va_P g.1 vwCl [(z 8, .inl (gI g, 5, .inl f0)), (z 9, .inl (gI g, 5, .inl f1)), (z 10, .inl (gZ g, 5, .inl f2)), (z 11, .inl (gI g, 7, .inl f3)), (z 12, .inl (gI g, 7, .inl f4)), (z 0, .inr (12, [.ref (z 1), .ref (z 2), .int (nI kp), .int (xs 0), .ref (z 3), .ref (z 4), .ref (z 5), .ref (z 6), .int (xs 1), .ref (z 7), .ref (z 8), .ref (z 9), .ref (z 10), .ref (z 11), .ref (z 12), .int (xs 2), .ref (z 13), .ref (z 14), .int (xs 3), .ref (z 15)])), (z 1, .inl (gI g, 461, .inl D))] H := hP
            have hD : va_D A [(z 8, .inl (gI g, 5, .inl f0)), (z 9, .inl (gI g, 5, .inl f1)), (z 10, .inl (gZ g, 5, .inl f2)), (z 11, .inl (gI g, 7, .inl f3)), (z 12, .inl (gI g, 7, .inl f4)), (z 0, .inr (12, [.ref (z 1), .ref (z 2), .int (nI kp), .int (xs 0), .ref (z 3), .ref (z 4), .ref (z 5), .ref (z 6), .int (xs 1), .ref (z 7), .ref (z 8), .ref (z 9), .ref (z 10), .ref (z 11), .ref (z 12), .int (xs 2), .ref (z 13), .ref (z 14), .int (xs 3), .ref (z 15)])), (z 1, .inl (gI g, 461, .inl D))] := hD
            rcases (show r_82 = 1 ∨ r_82 = 0 from hw_84) with rfl | rfl <;> clear hw_84
            · refine lv_if_ne (tgt := 57) hx hb dX12_tries_53 (by decide) (fun _ => ?_) (fun c => absurd c (by decide))
              refine lv_iinc (v := nI (i + 1)) (lv' := [(3, .int (nI (i + 1))), (0, .ref (z 0)), (1, .int 6), (2, .int x)]) hx hb dX12_tries_57 hl (k := 0) rfl (nI_add i 1) (by decide) rfl (fun ls hl => ?_)
              refine lv_goto (tgt := 21) hx hb dX12_tries_60 (by decide) ?_
              exact ih21 (i + 1) (by omega) (by first | assumption | omega) H locs (hP.sub [5, 6, 0, 1, 2, 3, 4] rfl) (hD.sub [5, 6, 0, 1, 2, 3, 4] (by decide) rfl) hS ls (lv_sub hl [0, 1, 2, 3] rfl)
            · refine lv_if_ne (tgt := 57) hx hb dX12_tries_53 (by decide) (fun c => absurd c (by decide)) (fun _ => ?_)
              exact k_vret (xs, f0, f3, f4) [5, 6, 0, 1, 2, 3, 4] hx hb hr hlk hP hD hS trivial rfl rfl rfl (Nat.le_of_ble_eq_true rfl) (Nat.le_of_ble_eq_true rfl) dX12_tries_56
      exact L21 (5 - 0 + 1) 0 (Nat.lt_succ_self _) (by first | assumption | omega) H locs (hP.sub [0, 1, 2, 3, 4, 5, 6] rfl) (hD.sub [0, 1, 2, 3, 4, 5, 6] (by decide) rfl) hS ls (lv_sub hl [0, 1, 2, 3] rfl)
  · exact k_vret (xs, f0, f3, f4) [0, 1, 2, 3, 4, 5, 6] hx hb hr hlk hP hD hS trivial rfl rfl rfl (Nat.le_of_ble_eq_true rfl) (Nat.le_of_ble_eq_true rfl) dX12_tries_8

set_option maxHeartbeats 8000000 in
set_option maxRecDepth 100000 in
theorem c_X12_tries_5 (l : Launch) (g : kG) (sz : Nat) (z : Nat → Nat) (kp : Nat) (xs : Nat → Int32) (D : Nat → Int32) (f0 : Nat → Int32) (f1 : Nat → Int32) (f2 : Nat → Int32) (f3 : Nat → Int32) (f4 : Nat → Int32) (x : Int32) (hDI : DI D) (hh : (5 : Int) ≤ (D 1).toInt) : kMv l g yX12_tries cX12_tries 5 none 5 0 0 [.ref (z 0), .int 5, .int x] sz [(z 0, .inr (12, [.ref (z 1), .ref (z 2), .int (nI kp), .int (xs 0), .ref (z 3), .ref (z 4), .ref (z 5), .ref (z 6), .int (xs 1), .ref (z 7), .ref (z 8), .ref (z 9), .ref (z 10), .ref (z 11), .ref (z 12), .int (xs 2), .ref (z 13), .ref (z 14), .int (xs 3), .ref (z 15)])), (z 1, .inl (gI g, 461, .inl D)), (z 8, .inl (gI g, 5, .inl f0)), (z 9, .inl (gI g, 5, .inl f1)), (z 10, .inl (gZ g, 5, .inl f2)), (z 11, .inl (gI g, 7, .inl f3)), (z 12, .inl (gI g, 7, .inl f4))] (fun (u : (Nat → Int32) × (Nat → Int32) × (Nat → Int32) × (Nat → Int32)) => True) (fun (u : (Nat → Int32) × (Nat → Int32) × (Nat → Int32) × (Nat → Int32)) => ([(z 0, .inr (12, [.ref (z 1), .ref (z 2), .int (nI kp), .int (u.1 0), .ref (z 3), .ref (z 4), .ref (z 5), .ref (z 6), .int (u.1 1), .ref (z 7), .ref (z 8), .ref (z 9), .ref (z 10), .ref (z 11), .ref (z 12), .int (u.1 2), .ref (z 13), .ref (z 14), .int (u.1 3), .ref (z 15)])), (z 1, .inl (gI g, 461, .inl D)), (z 8, .inl (gI g, 5, .inl u.2.1)), (z 9, .inl (gI g, 5, .inl f1)), (z 10, .inl (gZ g, 5, .inl f2)), (z 11, .inl (gI g, 7, .inl u.2.2.1)), (z 12, .inl (gI g, 7, .inl u.2.2.2))] : va_W)) := by
  refine kMv.of (by decide) (Nat.le_of_ble_eq_true rfl) (fun p e s m below meth c A hx hb hr hml hown hts hlk hnm hKW hP hD hS hA ls hl => ?_)
  have hown : s.vm.findClass RX12 = some m.cls := hown
  have hl : lv_has ls 5 [(0, .ref (z 0)), (1, .int 5), (2, .int x)] := hl
  refine k_hide hP hS (fun H locs hP hS => ?_)
  refine lv_iload_n hx hb dX12_tries_0 rfl (lv_at hl 2 rfl) ?_
  refine lv_aload_n hx hb dX12_tries_1 rfl (lv_at hl 0 rfl) ?_
  refine va_get (ci := 12) (C := RX12) (T := TX12) (N := 20) hx hb hts inlX12 hown hKW.1 hP 0 rfl rfl 15 (by decide) (hts _ wd_31_1) (fun _ h => h) rfl dX12_tries_2 ?_
  refine lv_icmp_lt (tgt := 9) hx hb dX12_tries_5 (by decide) (fun c_1 => ?_) (fun c_1 => ?_)
  · refine lv_iload_n hx hb dX12_tries_9 rfl (lv_at hl 1 rfl) ?_
    refine lv_aload_n hx hb dX12_tries_10 rfl (lv_at hl 0 rfl) ?_
    refine va_get (ci := 12) (C := RX12) (T := TX12) (N := 20) hx hb hts inlX12 hown hKW.1 hP 0 rfl rfl 0 (by decide) (hts _ wd_6_5) (fun _ h => h) rfl dX12_tries_11 ?_
    refine lv_iconst (v := 1) hx hb dX12_tries_14 (by decide) ?_
    obtain ⟨dk_2, hdk_2a, hdk_2b, edk_2⟩ := DI.n1 hDI
    refine va_iald hx hb hKW.1 hP 1 0 rfl rfl (show ¬ _ by decide) dX12_tries_15 ?_
    refine k_top (y := nI dk_2) edk_2 ?_
    refine lv_icmp_ne (tgt := 95) hx hb dX12_tries_16 (by decide) (fun c_3 => ?_) (fun c_3 => ?_)
    · have c_3n : ¬ 5 = dk_2 := fun h => c_3 ((k_eqI (a := 5) (b := dk_2) (by omega) (by omega)).mpr h)
      refine lv_aload_n hx hb dX12_tries_95 rfl (lv_at hl 0 rfl) ?_
      refine va_get (ci := 12) (C := RX12) (T := TX12) (N := 20) hx hb hts inlX12 hown hKW.1 hP 0 rfl rfl 0 (by decide) (hts _ wd_6_5) (fun _ h => h) rfl dX12_tries_96 ?_
      refine lv_bipush (v := 33) hx hb dX12_tries_99 (by decide) ?_
      refine lv_iload_n hx hb dX12_tries_101 rfl (lv_at hl 1 rfl) ?_
      refine lv_iadd hx hb dX12_tries_102 ?_
      refine k_top (y := 38) (by decide) ?_
      refine va_iald hx hb hKW.1 hP 1 0 rfl rfl (show ¬ _ by decide) dX12_tries_103 ?_
      refine lv_topi (fun x_4 ex_4 => ?_)
      refine lv_istore_n (lv' := [(3, .int x_4), (0, .ref (z 0)), (1, .int 5), (2, .int x)]) hx hb dX12_tries_104 rfl hl (by decide) rfl (fun ls hl => ?_)
      refine lv_iload_n hx hb dX12_tries_105 rfl (lv_at hl 0 rfl) ?_
      refine lv_if_ge (tgt := 124) hx hb dX12_tries_106 (by decide) (fun c_5 => ?_) (fun c_5 => ?_)
      · refine lv_iconst (v := 0) hx hb dX12_tries_124 (by decide) ?_
        refine lv_istore (lv' := [(4, .int 0), (3, .int x_4), (0, .ref (z 0)), (1, .int 5), (2, .int x)]) hx hb dX12_tries_125 hl (by decide) rfl (fun ls hl => ?_)
        have L127 : ∀ (n127 : Nat) (i : Nat) (y0 : Int32) (y1 : Int32) (y2 : Int32) (y3 : Int32) (sa : Nat → Int32) (ta : Nat → Int32) (ba : Nat → Int32) (hfuel127 : 5 - i < n127) (hi : i ≤ 5) (H : Heap) (locs : List Loc) (hP : va_P g.1 vwCl [(z 0, .inr (12, [.ref (z 1), .ref (z 2), .int (nI kp), .int y0, .ref (z 3), .ref (z 4), .ref (z 5), .ref (z 6), .int y1, .ref (z 7), .ref (z 8), .ref (z 9), .ref (z 10), .ref (z 11), .ref (z 12), .int y2, .ref (z 13), .ref (z 14), .int y3, .ref (z 15)])), (z 1, .inl (gI g, 461, .inl D)), (z 8, .inl (gI g, 5, .inl sa)), (z 9, .inl (gI g, 5, .inl f1)), (z 10, .inl (gZ g, 5, .inl f2)), (z 11, .inl (gI g, 7, .inl ta)), (z 12, .inl (gI g, 7, .inl ba))] H) (hD : va_D A [(z 0, .inr (12, [.ref (z 1), .ref (z 2), .int (nI kp), .int y0, .ref (z 3), .ref (z 4), .ref (z 5), .ref (z 6), .int y1, .ref (z 7), .ref (z 8), .ref (z 9), .ref (z 10), .ref (z 11), .ref (z 12), .int y2, .ref (z 13), .ref (z 14), .int y3, .ref (z 15)])), (z 1, .inl (gI g, 461, .inl D)), (z 8, .inl (gI g, 5, .inl sa)), (z 9, .inl (gI g, 5, .inl f1)), (z 10, .inl (gZ g, 5, .inl f2)), (z 11, .inl (gI g, 7, .inl ta)), (z 12, .inl (gI g, 7, .inl ba))]) (hS : va_S A s.heap H locs) (ls : Array Slot) (hl : lv_has ls 5 [(4, .int (nI i)), (3, .int x_4), (0, .ref (z 0)), (1, .int 5), (2, .int x)]), W p l e (kR 5 0 0) s m ([.ref (z 0), .int 5, .int x] : List Value).toArray below meth c H locs 0 0 (kQv g A below ([.ref (z 0), .int 5, .int x] : List Value).toArray s 0 0 (fun (u : (Nat → Int32) × (Nat → Int32) × (Nat → Int32) × (Nat → Int32)) => True) (fun (u : (Nat → Int32) × (Nat → Int32) × (Nat → Int32) × (Nat → Int32)) => ([(z 0, .inr (12, [.ref (z 1), .ref (z 2), .int (nI kp), .int (u.1 0), .ref (z 3), .ref (z 4), .ref (z 5), .ref (z 6), .int (u.1 1), .ref (z 7), .ref (z 8), .ref (z 9), .ref (z 10), .ref (z 11), .ref (z 12), .int (u.1 2), .ref (z 13), .ref (z 14), .int (u.1 3), .ref (z 15)])), (z 1, .inl (gI g, 461, .inl D)), (z 8, .inl (gI g, 5, .inl u.2.1)), (z 9, .inl (gI g, 5, .inl f1)), (z 10, .inl (gZ g, 5, .inl f2)), (z 11, .inl (gI g, 7, .inl u.2.2.1)), (z 12, .inl (gI g, 7, .inl u.2.2.2))] : va_W))) (F0 m 127 ls []) := by
          intro n127
          induction n127 with
          | zero => intro i y0 y1 y2 y3 sa ta ba hfuel127; exact absurd hfuel127 (Nat.not_lt_zero _)
          | succ n127 ih127 =>
            intro i y0 y1 y2 y3 sa ta ba hfuel127 hi H locs hP hD hS ls hl
            refine lv_iload hx hb dX12_tries_127 (lv_at hl 0 rfl) ?_
            refine lv_aload_n hx hb dX12_tries_129 rfl (lv_at hl 2 rfl) ?_
            refine va_get (ci := 12) (C := RX12) (T := TX12) (N := 20) hx hb hts inlX12 hown hKW.1 hP 0 rfl rfl 0 (by decide) (hts _ wd_6_5) (fun _ h => h) rfl dX12_tries_130 ?_
            refine lv_iconst (v := 0) hx hb dX12_tries_133 (by decide) ?_
            obtain ⟨dk_6, hdk_6a, hdk_6b, edk_6⟩ := DI.n0 hDI
            refine va_iald hx hb hKW.1 hP 1 0 rfl rfl (show ¬ _ by decide) dX12_tries_134 ?_
            refine k_top (y := nI dk_6) edk_6 ?_
            refine lv_icmp_ge (tgt := 212) hx hb dX12_tries_135 (by decide) (fun c_7 => ?_) (fun c_7 => ?_)
            · have c_7n : dk_6 ≤ i := (k_leI (a := dk_6) (b := i) (by omega) (by omega)).mp c_7
              exact k_vret ((fun kk_ => ([y0, y1, y2, y3] : List Int32).getD kk_ 0), sa, ta, ba) [0, 1, 2, 3, 4, 5, 6] hx hb hr hlk hP hD hS trivial rfl rfl rfl (Nat.le_of_ble_eq_true rfl) (Nat.le_of_ble_eq_true rfl) dX12_tries_212
            · have c_7n : i < dk_6 := Nat.not_le.mp (fun h => c_7 ((k_leI (a := dk_6) (b := i) (by omega) (by omega)).mpr h))
              refine lv_aload_n hx hb dX12_tries_138 rfl (lv_at hl 2 rfl) ?_
              refine va_get (ci := 12) (C := RX12) (T := TX12) (N := 20) hx hb hts inlX12 hown hKW.1 hP 0 rfl rfl 0 (by decide) (hts _ wd_6_5) (fun _ h => h) rfl dX12_tries_139 ?_
              refine lv_bipush (v := 40) hx hb dX12_tries_142 (by decide) ?_
              refine lv_iload_n hx hb dX12_tries_144 rfl (lv_at hl 3 rfl) ?_
              refine lv_iadd hx hb dX12_tries_145 ?_
              refine k_top (y := 45) (by decide) ?_
              refine va_iald hx hb hKW.1 hP 1 0 rfl rfl (show ¬ _ by decide) dX12_tries_146 ?_
              refine lv_topi (fun x_8 ex_8 => ?_)
              refine lv_if_ne (tgt := 212) hx hb dX12_tries_147 (by decide) (fun c_9 => ?_) (fun c_9 => ?_)
              · exact k_vret ((fun kk_ => ([y0, y1, y2, y3] : List Int32).getD kk_ 0), sa, ta, ba) [0, 1, 2, 3, 4, 5, 6] hx hb hr hlk hP hD hS trivial rfl rfl rfl (Nat.le_of_ble_eq_true rfl) (Nat.le_of_ble_eq_true rfl) dX12_tries_212
              · refine lv_aload_n hx hb dX12_tries_150 rfl (lv_at hl 2 rfl) ?_
                refine va_get (ci := 12) (C := RX12) (T := TX12) (N := 20) hx hb hts inlX12 hown hKW.1 hP 0 rfl rfl 13 (by decide) (hts _ wd_6_16) (fun _ h => h) rfl dX12_tries_151 ?_
                refine lv_iload_n hx hb dX12_tries_154 rfl (lv_at hl 3 rfl) ?_
                refine lv_iload hx hb dX12_tries_155 (lv_at hl 0 rfl) ?_
                refine va_iast hx hb hKW.1 hP hD hS 5 0 rfl rfl (show ¬ _ by decide) dX12_tries_157 (fun H locs hP hD hS => ?_)
                have hP : va_P g.1 vwCl [(z 0, .inr (12, [.ref (z 1), .ref (z 2), .int (nI kp), .int y0, .ref (z 3), .ref (z 4), .ref (z 5), .ref (z 6), .int y1, .ref (z 7), .ref (z 8), .ref (z 9), .ref (z 10), .ref (z 11), .ref (z 12), .int y2, .ref (z 13), .ref (z 14), .int y3, .ref (z 15)])), (z 1, .inl (gI g, 461, .inl D)), (z 8, .inl (gI g, 5, .inl sa)), (z 9, .inl (gI g, 5, .inl f1)), (z 10, .inl (gZ g, 5, .inl f2)), (z 11, .inl (gI g, 7, .inl (upd ta 5 (nI i)))), (z 12, .inl (gI g, 7, .inl ba))] H := hP
                have hD : va_D A [(z 0, .inr (12, [.ref (z 1), .ref (z 2), .int (nI kp), .int y0, .ref (z 3), .ref (z 4), .ref (z 5), .ref (z 6), .int y1, .ref (z 7), .ref (z 8), .ref (z 9), .ref (z 10), .ref (z 11), .ref (z 12), .int y2, .ref (z 13), .ref (z 14), .int y3, .ref (z 15)])), (z 1, .inl (gI g, 461, .inl D)), (z 8, .inl (gI g, 5, .inl sa)), (z 9, .inl (gI g, 5, .inl f1)), (z 10, .inl (gZ g, 5, .inl f2)), (z 11, .inl (gI g, 7, .inl (upd ta 5 (nI i)))), (z 12, .inl (gI g, 7, .inl ba))] := hD
                obtain ⟨f_10, ef_10⟩ : ∃ zz_ : Nat → Int32, zz_ = upd ta 5 (nI i) := ⟨_, rfl⟩
                rw [← ef_10] at hP hD
                refine lv_aload_n hx hb dX12_tries_158 rfl (lv_at hl 2 rfl) ?_
                refine va_get (ci := 12) (C := RX12) (T := TX12) (N := 20) hx hb hts inlX12 hown hKW.1 hP 0 rfl rfl 10 (by decide) (hts _ wd_6_12) (fun _ h => h) rfl dX12_tries_159 ?_
                refine lv_iload hx hb dX12_tries_162 (lv_at hl 0 rfl) ?_
                refine lv_dup2_11 hx hb dX12_tries_164 rfl rfl ?_
                refine va_iald hx hb hKW.1 hP 2 0 rfl rfl (vp_in_nI (by omega) (by decide)) dX12_tries_165 ?_
                refine lv_topi (fun x_11 ex_11 => ?_)
                refine lv_iconst (v := 1) hx hb dX12_tries_166 (by decide) ?_
                refine lv_iload_n hx hb dX12_tries_167 rfl (lv_at hl 3 rfl) ?_
                refine lv_ishl hx hb dX12_tries_168 ?_
                refine k_top (y := 32) (by decide) ?_
                refine lv_ior hx hb dX12_tries_169 ?_
                refine lv_topi (fun x_12 ex_12 => ?_)
                refine va_iast hx hb hKW.1 hP hD hS 2 0 rfl rfl (vp_in_nI (by omega) (by decide)) dX12_tries_170 (fun H locs hP hD hS => ?_)
                have hP : va_P g.1 vwCl [(z 0, .inr (12, [.ref (z 1), .ref (z 2), .int (nI kp), .int y0, .ref (z 3), .ref (z 4), .ref (z 5), .ref (z 6), .int y1, .ref (z 7), .ref (z 8), .ref (z 9), .ref (z 10), .ref (z 11), .ref (z 12), .int y2, .ref (z 13), .ref (z 14), .int y3, .ref (z 15)])), (z 1, .inl (gI g, 461, .inl D)), (z 8, .inl (gI g, 5, .inl (upd sa (nI i).toNatClampNeg x_12))), (z 9, .inl (gI g, 5, .inl f1)), (z 10, .inl (gZ g, 5, .inl f2)), (z 11, .inl (gI g, 7, .inl f_10)), (z 12, .inl (gI g, 7, .inl ba))] H := hP
                have hD : va_D A [(z 0, .inr (12, [.ref (z 1), .ref (z 2), .int (nI kp), .int y0, .ref (z 3), .ref (z 4), .ref (z 5), .ref (z 6), .int y1, .ref (z 7), .ref (z 8), .ref (z 9), .ref (z 10), .ref (z 11), .ref (z 12), .int y2, .ref (z 13), .ref (z 14), .int y3, .ref (z 15)])), (z 1, .inl (gI g, 461, .inl D)), (z 8, .inl (gI g, 5, .inl (upd sa (nI i).toNatClampNeg x_12))), (z 9, .inl (gI g, 5, .inl f1)), (z 10, .inl (gZ g, 5, .inl f2)), (z 11, .inl (gI g, 7, .inl f_10)), (z 12, .inl (gI g, 7, .inl ba))] := hD
                obtain ⟨f_13, ef_13⟩ : ∃ zz_ : Nat → Int32, zz_ = upd sa (nI i).toNatClampNeg x_12 := ⟨_, rfl⟩
                rw [← ef_13] at hP hD
                refine lv_aload_n hx hb dX12_tries_171 rfl (lv_at hl 2 rfl) ?_
                refine lv_iload_n hx hb dX12_tries_172 rfl (lv_at hl 3 rfl) ?_
                refine lv_iconst (v := 1) hx hb dX12_tries_173 (by decide) ?_
                refine lv_iadd hx hb dX12_tries_174 ?_
                refine k_top (y := 6) (by decide) ?_
                refine lv_iload hx hb dX12_tries_175 (lv_at hl 0 rfl) ?_
                refine lv_iload_n hx hb dX12_tries_177 rfl (lv_at hl 1 rfl) ?_
                refine lv_icmp_ne (tgt := 185) hx hb dX12_tries_178 (by decide) (fun c_14 => ?_) (fun c_14 => ?_)
                · refine lv_iload_n hx hb dX12_tries_185 rfl (lv_at hl 4 rfl) ?_
                  refine lv_iconst (v := 1) hx hb dX12_tries_186 (by decide) ?_
                  refine lv_iadd hx hb dX12_tries_187 ?_
                  refine lv_topi (fun x_15 ex_15 => ?_)
                  refine k_Vv [0, 1, 2, 3, 4, 5, 6] [] 0 12 (wr := []) hx hb hml hown hts hKW hP hD hS hA hl.1 (c_X12_tries_6 l g _ z kp (fun kk_ => ([y0, y1, y2, y3] : List Int32).getD kk_ 0) D f_13 f1 f2 f_10 ba x_15 (by first | assumption | omega | decide) (by rw [edk_2, k_nIi (by omega)]; have q := hh; rw [edk_2, k_nIi (by omega)] at q; omega)) rfl rfl rfl wd_31_9 wd_1_5 wd_31_6 wd_31_7 wd_31_8 yd_X12_tries ⟨(Nat.le_of_ble_eq_true rfl), (Nat.le_of_ble_eq_true rfl)⟩ rfl rfl rfl rfl (by decide) rfl (Nat.le_of_ble_eq_true rfl) dX12_tries_188 ⟨(Nat.le_of_ble_eq_true rfl), (Nat.le_of_ble_eq_true rfl)⟩ (fun u_17 H locs hw_18 hP hD hS => ?_)
                  obtain ⟨f_19, f_20, f_21, f_22⟩ := u_17
                  have hP : va_P g.1 vwCl [(z 0, .inr (12, [.ref (z 1), .ref (z 2), .int (nI kp), .int (f_19 0), .ref (z 3), .ref (z 4), .ref (z 5), .ref (z 6), .int (f_19 1), .ref (z 7), .ref (z 8), .ref (z 9), .ref (z 10), .ref (z 11), .ref (z 12), .int (f_19 2), .ref (z 13), .ref (z 14), .int (f_19 3), .ref (z 15)])), (z 1, .inl (gI g, 461, .inl D)), (z 8, .inl (gI g, 5, .inl f_20)), (z 9, .inl (gI g, 5, .inl f1)), (z 10, .inl (gZ g, 5, .inl f2)), (z 11, .inl (gI g, 7, .inl f_21)), (z 12, .inl (gI g, 7, .inl f_22))] H := hP
                  have hD : va_D A [(z 0, .inr (12, [.ref (z 1), .ref (z 2), .int (nI kp), .int (f_19 0), .ref (z 3), .ref (z 4), .ref (z 5), .ref (z 6), .int (f_19 1), .ref (z 7), .ref (z 8), .ref (z 9), .ref (z 10), .ref (z 11), .ref (z 12), .int (f_19 2), .ref (z 13), .ref (z 14), .int (f_19 3), .ref (z 15)])), (z 1, .inl (gI g, 461, .inl D)), (z 8, .inl (gI g, 5, .inl f_20)), (z 9, .inl (gI g, 5, .inl f1)), (z 10, .inl (gZ g, 5, .inl f2)), (z 11, .inl (gI g, 7, .inl f_21)), (z 12, .inl (gI g, 7, .inl f_22))] := hD
                  refine lv_aload_n hx hb dX12_tries_191 rfl (lv_at hl 2 rfl) ?_
                  refine va_get (ci := 12) (C := RX12) (T := TX12) (N := 20) hx hb hts inlX12 hown hKW.1 hP 0 rfl rfl 10 (by decide) (hts _ wd_6_12) (fun _ h => h) rfl dX12_tries_192 ?_
                  refine lv_iload hx hb dX12_tries_195 (lv_at hl 0 rfl) ?_
                  refine lv_dup2_11 hx hb dX12_tries_197 rfl rfl ?_
                  refine va_iald hx hb hKW.1 hP 2 0 rfl rfl (vp_in_nI (by omega) (by decide)) dX12_tries_198 ?_
                  refine lv_topi (fun x_23 ex_23 => ?_)
                  refine lv_iconst (v := 1) hx hb dX12_tries_199 (by decide) ?_
                  refine lv_iload_n hx hb dX12_tries_200 rfl (lv_at hl 3 rfl) ?_
                  refine lv_ishl hx hb dX12_tries_201 ?_
                  refine k_top (y := 32) (by decide) ?_
                  refine lv_iconst (v := (-1)) hx hb dX12_tries_202 (by decide) ?_
                  refine lv_ixor hx hb dX12_tries_203 ?_
                  refine k_top (y := (-33)) (by decide) ?_
                  refine lv_iand hx hb dX12_tries_204 ?_
                  refine lv_topi (fun x_24 ex_24 => ?_)
                  refine va_iast hx hb hKW.1 hP hD hS 2 0 rfl rfl (vp_in_nI (by omega) (by decide)) dX12_tries_205 (fun H locs hP hD hS => ?_)
                  have hP : va_P g.1 vwCl [(z 0, .inr (12, [.ref (z 1), .ref (z 2), .int (nI kp), .int (f_19 0), .ref (z 3), .ref (z 4), .ref (z 5), .ref (z 6), .int (f_19 1), .ref (z 7), .ref (z 8), .ref (z 9), .ref (z 10), .ref (z 11), .ref (z 12), .int (f_19 2), .ref (z 13), .ref (z 14), .int (f_19 3), .ref (z 15)])), (z 1, .inl (gI g, 461, .inl D)), (z 8, .inl (gI g, 5, .inl (upd f_20 (nI i).toNatClampNeg x_24))), (z 9, .inl (gI g, 5, .inl f1)), (z 10, .inl (gZ g, 5, .inl f2)), (z 11, .inl (gI g, 7, .inl f_21)), (z 12, .inl (gI g, 7, .inl f_22))] H := hP
                  have hD : va_D A [(z 0, .inr (12, [.ref (z 1), .ref (z 2), .int (nI kp), .int (f_19 0), .ref (z 3), .ref (z 4), .ref (z 5), .ref (z 6), .int (f_19 1), .ref (z 7), .ref (z 8), .ref (z 9), .ref (z 10), .ref (z 11), .ref (z 12), .int (f_19 2), .ref (z 13), .ref (z 14), .int (f_19 3), .ref (z 15)])), (z 1, .inl (gI g, 461, .inl D)), (z 8, .inl (gI g, 5, .inl (upd f_20 (nI i).toNatClampNeg x_24))), (z 9, .inl (gI g, 5, .inl f1)), (z 10, .inl (gZ g, 5, .inl f2)), (z 11, .inl (gI g, 7, .inl f_21)), (z 12, .inl (gI g, 7, .inl f_22))] := hD
                  obtain ⟨f_25, ef_25⟩ : ∃ zz_ : Nat → Int32, zz_ = upd f_20 (nI i).toNatClampNeg x_24 := ⟨_, rfl⟩
                  rw [← ef_25] at hP hD
                  refine lv_iinc (v := nI (i + 1)) (lv' := [(4, .int (nI (i + 1))), (3, .int x_4), (0, .ref (z 0)), (1, .int 5), (2, .int x)]) hx hb dX12_tries_206 hl (k := 0) rfl (nI_add i 1) (by decide) rfl (fun ls hl => ?_)
                  refine lv_goto (tgt := 127) hx hb dX12_tries_209 (by decide) ?_
                  exact ih127 (i + 1) (f_19 0) (f_19 1) (f_19 2) (f_19 3) f_25 f_21 f_22 (by omega) (by first | assumption | omega) H locs (hP.sub [0, 1, 2, 3, 4, 5, 6] rfl) (hD.sub [0, 1, 2, 3, 4, 5, 6] (by decide) rfl) hS ls (lv_sub hl [0, 1, 2, 3, 4] rfl)
                · refine lv_iload_n hx hb dX12_tries_181 rfl (lv_at hl 4 rfl) ?_
                  refine lv_goto (tgt := 188) hx hb dX12_tries_182 (by decide) ?_
                  refine k_Vv [0, 1, 2, 3, 4, 5, 6] [] 0 12 (wr := []) hx hb hml hown hts hKW hP hD hS hA hl.1 (c_X12_tries_6 l g _ z kp (fun kk_ => ([y0, y1, y2, y3] : List Int32).getD kk_ 0) D f_13 f1 f2 f_10 ba x (by first | assumption | omega | decide) (by rw [edk_2, k_nIi (by omega)]; have q := hh; rw [edk_2, k_nIi (by omega)] at q; omega)) rfl rfl rfl wd_31_9 wd_1_5 wd_31_6 wd_31_7 wd_31_8 yd_X12_tries ⟨(Nat.le_of_ble_eq_true rfl), (Nat.le_of_ble_eq_true rfl)⟩ rfl rfl rfl rfl (by decide) rfl (Nat.le_of_ble_eq_true rfl) dX12_tries_188 ⟨(Nat.le_of_ble_eq_true rfl), (Nat.le_of_ble_eq_true rfl)⟩ (fun u_27 H locs hw_28 hP hD hS => ?_)
                  obtain ⟨f_29, f_30, f_31, f_32⟩ := u_27
                  have hP : va_P g.1 vwCl [(z 0, .inr (12, [.ref (z 1), .ref (z 2), .int (nI kp), .int (f_29 0), .ref (z 3), .ref (z 4), .ref (z 5), .ref (z 6), .int (f_29 1), .ref (z 7), .ref (z 8), .ref (z 9), .ref (z 10), .ref (z 11), .ref (z 12), .int (f_29 2), .ref (z 13), .ref (z 14), .int (f_29 3), .ref (z 15)])), (z 1, .inl (gI g, 461, .inl D)), (z 8, .inl (gI g, 5, .inl f_30)), (z 9, .inl (gI g, 5, .inl f1)), (z 10, .inl (gZ g, 5, .inl f2)), (z 11, .inl (gI g, 7, .inl f_31)), (z 12, .inl (gI g, 7, .inl f_32))] H := hP
                  have hD : va_D A [(z 0, .inr (12, [.ref (z 1), .ref (z 2), .int (nI kp), .int (f_29 0), .ref (z 3), .ref (z 4), .ref (z 5), .ref (z 6), .int (f_29 1), .ref (z 7), .ref (z 8), .ref (z 9), .ref (z 10), .ref (z 11), .ref (z 12), .int (f_29 2), .ref (z 13), .ref (z 14), .int (f_29 3), .ref (z 15)])), (z 1, .inl (gI g, 461, .inl D)), (z 8, .inl (gI g, 5, .inl f_30)), (z 9, .inl (gI g, 5, .inl f1)), (z 10, .inl (gZ g, 5, .inl f2)), (z 11, .inl (gI g, 7, .inl f_31)), (z 12, .inl (gI g, 7, .inl f_32))] := hD
                  refine lv_aload_n hx hb dX12_tries_191 rfl (lv_at hl 2 rfl) ?_
                  refine va_get (ci := 12) (C := RX12) (T := TX12) (N := 20) hx hb hts inlX12 hown hKW.1 hP 0 rfl rfl 10 (by decide) (hts _ wd_6_12) (fun _ h => h) rfl dX12_tries_192 ?_
                  refine lv_iload hx hb dX12_tries_195 (lv_at hl 0 rfl) ?_
                  refine lv_dup2_11 hx hb dX12_tries_197 rfl rfl ?_
                  refine va_iald hx hb hKW.1 hP 2 0 rfl rfl (vp_in_nI (by omega) (by decide)) dX12_tries_198 ?_
                  refine lv_topi (fun x_33 ex_33 => ?_)
                  refine lv_iconst (v := 1) hx hb dX12_tries_199 (by decide) ?_
                  refine lv_iload_n hx hb dX12_tries_200 rfl (lv_at hl 3 rfl) ?_
                  refine lv_ishl hx hb dX12_tries_201 ?_
                  refine k_top (y := 32) (by decide) ?_
                  refine lv_iconst (v := (-1)) hx hb dX12_tries_202 (by decide) ?_
                  refine lv_ixor hx hb dX12_tries_203 ?_
                  refine k_top (y := (-33)) (by decide) ?_
                  refine lv_iand hx hb dX12_tries_204 ?_
                  refine lv_topi (fun x_34 ex_34 => ?_)
                  refine va_iast hx hb hKW.1 hP hD hS 2 0 rfl rfl (vp_in_nI (by omega) (by decide)) dX12_tries_205 (fun H locs hP hD hS => ?_)
                  have hP : va_P g.1 vwCl [(z 0, .inr (12, [.ref (z 1), .ref (z 2), .int (nI kp), .int (f_29 0), .ref (z 3), .ref (z 4), .ref (z 5), .ref (z 6), .int (f_29 1), .ref (z 7), .ref (z 8), .ref (z 9), .ref (z 10), .ref (z 11), .ref (z 12), .int (f_29 2), .ref (z 13), .ref (z 14), .int (f_29 3), .ref (z 15)])), (z 1, .inl (gI g, 461, .inl D)), (z 8, .inl (gI g, 5, .inl (upd f_30 (nI i).toNatClampNeg x_34))), (z 9, .inl (gI g, 5, .inl f1)), (z 10, .inl (gZ g, 5, .inl f2)), (z 11, .inl (gI g, 7, .inl f_31)), (z 12, .inl (gI g, 7, .inl f_32))] H := hP
                  have hD : va_D A [(z 0, .inr (12, [.ref (z 1), .ref (z 2), .int (nI kp), .int (f_29 0), .ref (z 3), .ref (z 4), .ref (z 5), .ref (z 6), .int (f_29 1), .ref (z 7), .ref (z 8), .ref (z 9), .ref (z 10), .ref (z 11), .ref (z 12), .int (f_29 2), .ref (z 13), .ref (z 14), .int (f_29 3), .ref (z 15)])), (z 1, .inl (gI g, 461, .inl D)), (z 8, .inl (gI g, 5, .inl (upd f_30 (nI i).toNatClampNeg x_34))), (z 9, .inl (gI g, 5, .inl f1)), (z 10, .inl (gZ g, 5, .inl f2)), (z 11, .inl (gI g, 7, .inl f_31)), (z 12, .inl (gI g, 7, .inl f_32))] := hD
                  obtain ⟨f_35, ef_35⟩ : ∃ zz_ : Nat → Int32, zz_ = upd f_30 (nI i).toNatClampNeg x_34 := ⟨_, rfl⟩
                  rw [← ef_35] at hP hD
                  refine lv_iinc (v := nI (i + 1)) (lv' := [(4, .int (nI (i + 1))), (3, .int x_4), (0, .ref (z 0)), (1, .int 5), (2, .int x)]) hx hb dX12_tries_206 hl (k := 0) rfl (nI_add i 1) (by decide) rfl (fun ls hl => ?_)
                  refine lv_goto (tgt := 127) hx hb dX12_tries_209 (by decide) ?_
                  exact ih127 (i + 1) (f_29 0) (f_29 1) (f_29 2) (f_29 3) f_35 f_31 f_32 (by omega) (by first | assumption | omega) H locs (hP.sub [0, 1, 2, 3, 4, 5, 6] rfl) (hD.sub [0, 1, 2, 3, 4, 5, 6] (by decide) rfl) hS ls (lv_sub hl [0, 1, 2, 3, 4] rfl)
        exact L127 (5 - 0 + 1) 0 (xs 0) (xs 1) (xs 2) (xs 3) f0 f3 f4 (Nat.lt_succ_self _) (by first | assumption | omega) H locs (hP.sub [0, 1, 2, 3, 4, 5, 6] rfl) (hD.sub [0, 1, 2, 3, 4, 5, 6] (by decide) rfl) hS ls (lv_sub hl [0, 1, 2, 3, 4] rfl)
      · refine lv_aload_n hx hb dX12_tries_109 rfl (lv_at hl 1 rfl) ?_
        refine va_get (ci := 12) (C := RX12) (T := TX12) (N := 20) hx hb hts inlX12 hown hKW.1 hP 0 rfl rfl 13 (by decide) (hts _ wd_6_16) (fun _ h => h) rfl dX12_tries_110 ?_
        refine lv_iload_n hx hb dX12_tries_113 rfl (lv_at hl 2 rfl) ?_
        refine lv_iconst (v := (-1)) hx hb dX12_tries_114 (by decide) ?_
        refine va_iast hx hb hKW.1 hP hD hS 5 0 rfl rfl (show ¬ _ by decide) dX12_tries_115 (fun H locs hP hD hS => ?_)
        have hP : va_P g.1 vwCl [(z 0, .inr (12, [.ref (z 1), .ref (z 2), .int (nI kp), .int (xs 0), .ref (z 3), .ref (z 4), .ref (z 5), .ref (z 6), .int (xs 1), .ref (z 7), .ref (z 8), .ref (z 9), .ref (z 10), .ref (z 11), .ref (z 12), .int (xs 2), .ref (z 13), .ref (z 14), .int (xs 3), .ref (z 15)])), (z 1, .inl (gI g, 461, .inl D)), (z 8, .inl (gI g, 5, .inl f0)), (z 9, .inl (gI g, 5, .inl f1)), (z 10, .inl (gZ g, 5, .inl f2)), (z 11, .inl (gI g, 7, .inl (upd f3 5 (-1)))), (z 12, .inl (gI g, 7, .inl f4))] H := hP
        have hD : va_D A [(z 0, .inr (12, [.ref (z 1), .ref (z 2), .int (nI kp), .int (xs 0), .ref (z 3), .ref (z 4), .ref (z 5), .ref (z 6), .int (xs 1), .ref (z 7), .ref (z 8), .ref (z 9), .ref (z 10), .ref (z 11), .ref (z 12), .int (xs 2), .ref (z 13), .ref (z 14), .int (xs 3), .ref (z 15)])), (z 1, .inl (gI g, 461, .inl D)), (z 8, .inl (gI g, 5, .inl f0)), (z 9, .inl (gI g, 5, .inl f1)), (z 10, .inl (gZ g, 5, .inl f2)), (z 11, .inl (gI g, 7, .inl (upd f3 5 (-1)))), (z 12, .inl (gI g, 7, .inl f4))] := hD
        obtain ⟨f_36, ef_36⟩ : ∃ zz_ : Nat → Int32, zz_ = upd f3 5 (-1) := ⟨_, rfl⟩
        rw [← ef_36] at hP hD
        refine lv_aload_n hx hb dX12_tries_116 rfl (lv_at hl 1 rfl) ?_
        refine lv_iload_n hx hb dX12_tries_117 rfl (lv_at hl 2 rfl) ?_
        refine lv_iconst (v := 1) hx hb dX12_tries_118 (by decide) ?_
        refine lv_iadd hx hb dX12_tries_119 ?_
        refine k_top (y := 6) (by decide) ?_
        refine lv_iload_n hx hb dX12_tries_120 rfl (lv_at hl 3 rfl) ?_
        refine k_Vv [0, 1, 2, 3, 4, 5, 6] [] 0 12 (wr := []) hx hb hml hown hts hKW hP hD hS hA hl.1 (c_X12_tries_6 l g _ z kp xs D f0 f1 f2 f_36 f4 x (by first | assumption | omega | decide) (by rw [edk_2, k_nIi (by omega)]; have q := hh; rw [edk_2, k_nIi (by omega)] at q; omega)) rfl rfl rfl wd_31_9 wd_1_5 wd_31_6 wd_31_7 wd_31_8 yd_X12_tries ⟨(Nat.le_of_ble_eq_true rfl), (Nat.le_of_ble_eq_true rfl)⟩ rfl rfl rfl rfl (by decide) rfl (Nat.le_of_ble_eq_true rfl) dX12_tries_121 ⟨(Nat.le_of_ble_eq_true rfl), (Nat.le_of_ble_eq_true rfl)⟩ (fun u_38 H locs hw_39 hP hD hS => ?_)
        obtain ⟨f_40, f_41, f_42, f_43⟩ := u_38
        have hP : va_P g.1 vwCl [(z 0, .inr (12, [.ref (z 1), .ref (z 2), .int (nI kp), .int (f_40 0), .ref (z 3), .ref (z 4), .ref (z 5), .ref (z 6), .int (f_40 1), .ref (z 7), .ref (z 8), .ref (z 9), .ref (z 10), .ref (z 11), .ref (z 12), .int (f_40 2), .ref (z 13), .ref (z 14), .int (f_40 3), .ref (z 15)])), (z 1, .inl (gI g, 461, .inl D)), (z 8, .inl (gI g, 5, .inl f_41)), (z 9, .inl (gI g, 5, .inl f1)), (z 10, .inl (gZ g, 5, .inl f2)), (z 11, .inl (gI g, 7, .inl f_42)), (z 12, .inl (gI g, 7, .inl f_43))] H := hP
        have hD : va_D A [(z 0, .inr (12, [.ref (z 1), .ref (z 2), .int (nI kp), .int (f_40 0), .ref (z 3), .ref (z 4), .ref (z 5), .ref (z 6), .int (f_40 1), .ref (z 7), .ref (z 8), .ref (z 9), .ref (z 10), .ref (z 11), .ref (z 12), .int (f_40 2), .ref (z 13), .ref (z 14), .int (f_40 3), .ref (z 15)])), (z 1, .inl (gI g, 461, .inl D)), (z 8, .inl (gI g, 5, .inl f_41)), (z 9, .inl (gI g, 5, .inl f1)), (z 10, .inl (gZ g, 5, .inl f2)), (z 11, .inl (gI g, 7, .inl f_42)), (z 12, .inl (gI g, 7, .inl f_43))] := hD
        refine lv_iconst (v := 0) hx hb dX12_tries_124 (by decide) ?_
        refine lv_istore (lv' := [(4, .int 0), (3, .int x_4), (0, .ref (z 0)), (1, .int 5), (2, .int x)]) hx hb dX12_tries_125 hl (by decide) rfl (fun ls hl => ?_)
        have L127 : ∀ (n127 : Nat) (i : Nat) (y0 : Int32) (y1 : Int32) (y2 : Int32) (y3 : Int32) (sa : Nat → Int32) (ta : Nat → Int32) (ba : Nat → Int32) (hfuel127 : 5 - i < n127) (hi : i ≤ 5) (H : Heap) (locs : List Loc) (hP : va_P g.1 vwCl [(z 0, .inr (12, [.ref (z 1), .ref (z 2), .int (nI kp), .int y0, .ref (z 3), .ref (z 4), .ref (z 5), .ref (z 6), .int y1, .ref (z 7), .ref (z 8), .ref (z 9), .ref (z 10), .ref (z 11), .ref (z 12), .int y2, .ref (z 13), .ref (z 14), .int y3, .ref (z 15)])), (z 1, .inl (gI g, 461, .inl D)), (z 8, .inl (gI g, 5, .inl sa)), (z 9, .inl (gI g, 5, .inl f1)), (z 10, .inl (gZ g, 5, .inl f2)), (z 11, .inl (gI g, 7, .inl ta)), (z 12, .inl (gI g, 7, .inl ba))] H) (hD : va_D A [(z 0, .inr (12, [.ref (z 1), .ref (z 2), .int (nI kp), .int y0, .ref (z 3), .ref (z 4), .ref (z 5), .ref (z 6), .int y1, .ref (z 7), .ref (z 8), .ref (z 9), .ref (z 10), .ref (z 11), .ref (z 12), .int y2, .ref (z 13), .ref (z 14), .int y3, .ref (z 15)])), (z 1, .inl (gI g, 461, .inl D)), (z 8, .inl (gI g, 5, .inl sa)), (z 9, .inl (gI g, 5, .inl f1)), (z 10, .inl (gZ g, 5, .inl f2)), (z 11, .inl (gI g, 7, .inl ta)), (z 12, .inl (gI g, 7, .inl ba))]) (hS : va_S A s.heap H locs) (ls : Array Slot) (hl : lv_has ls 5 [(4, .int (nI i)), (3, .int x_4), (0, .ref (z 0)), (1, .int 5), (2, .int x)]), W p l e (kR 5 0 0) s m ([.ref (z 0), .int 5, .int x] : List Value).toArray below meth c H locs 0 0 (kQv g A below ([.ref (z 0), .int 5, .int x] : List Value).toArray s 0 0 (fun (u : (Nat → Int32) × (Nat → Int32) × (Nat → Int32) × (Nat → Int32)) => True) (fun (u : (Nat → Int32) × (Nat → Int32) × (Nat → Int32) × (Nat → Int32)) => ([(z 0, .inr (12, [.ref (z 1), .ref (z 2), .int (nI kp), .int (u.1 0), .ref (z 3), .ref (z 4), .ref (z 5), .ref (z 6), .int (u.1 1), .ref (z 7), .ref (z 8), .ref (z 9), .ref (z 10), .ref (z 11), .ref (z 12), .int (u.1 2), .ref (z 13), .ref (z 14), .int (u.1 3), .ref (z 15)])), (z 1, .inl (gI g, 461, .inl D)), (z 8, .inl (gI g, 5, .inl u.2.1)), (z 9, .inl (gI g, 5, .inl f1)), (z 10, .inl (gZ g, 5, .inl f2)), (z 11, .inl (gI g, 7, .inl u.2.2.1)), (z 12, .inl (gI g, 7, .inl u.2.2.2))] : va_W))) (F0 m 127 ls []) := by
          intro n127
          induction n127 with
          | zero => intro i y0 y1 y2 y3 sa ta ba hfuel127; exact absurd hfuel127 (Nat.not_lt_zero _)
          | succ n127 ih127 =>
            intro i y0 y1 y2 y3 sa ta ba hfuel127 hi H locs hP hD hS ls hl
            refine lv_iload hx hb dX12_tries_127 (lv_at hl 0 rfl) ?_
            refine lv_aload_n hx hb dX12_tries_129 rfl (lv_at hl 2 rfl) ?_
            refine va_get (ci := 12) (C := RX12) (T := TX12) (N := 20) hx hb hts inlX12 hown hKW.1 hP 0 rfl rfl 0 (by decide) (hts _ wd_6_5) (fun _ h => h) rfl dX12_tries_130 ?_
            refine lv_iconst (v := 0) hx hb dX12_tries_133 (by decide) ?_
            obtain ⟨dk_44, hdk_44a, hdk_44b, edk_44⟩ := DI.n0 hDI
            refine va_iald hx hb hKW.1 hP 1 0 rfl rfl (show ¬ _ by decide) dX12_tries_134 ?_
            refine k_top (y := nI dk_44) edk_44 ?_
            refine lv_icmp_ge (tgt := 212) hx hb dX12_tries_135 (by decide) (fun c_45 => ?_) (fun c_45 => ?_)
            · have c_45n : dk_44 ≤ i := (k_leI (a := dk_44) (b := i) (by omega) (by omega)).mp c_45
              exact k_vret ((fun kk_ => ([y0, y1, y2, y3] : List Int32).getD kk_ 0), sa, ta, ba) [0, 1, 2, 3, 4, 5, 6] hx hb hr hlk hP hD hS trivial rfl rfl rfl (Nat.le_of_ble_eq_true rfl) (Nat.le_of_ble_eq_true rfl) dX12_tries_212
            · have c_45n : i < dk_44 := Nat.not_le.mp (fun h => c_45 ((k_leI (a := dk_44) (b := i) (by omega) (by omega)).mpr h))
              refine lv_aload_n hx hb dX12_tries_138 rfl (lv_at hl 2 rfl) ?_
              refine va_get (ci := 12) (C := RX12) (T := TX12) (N := 20) hx hb hts inlX12 hown hKW.1 hP 0 rfl rfl 0 (by decide) (hts _ wd_6_5) (fun _ h => h) rfl dX12_tries_139 ?_
              refine lv_bipush (v := 40) hx hb dX12_tries_142 (by decide) ?_
              refine lv_iload_n hx hb dX12_tries_144 rfl (lv_at hl 3 rfl) ?_
              refine lv_iadd hx hb dX12_tries_145 ?_
              refine k_top (y := 45) (by decide) ?_
              refine va_iald hx hb hKW.1 hP 1 0 rfl rfl (show ¬ _ by decide) dX12_tries_146 ?_
              refine lv_topi (fun x_46 ex_46 => ?_)
              refine lv_if_ne (tgt := 212) hx hb dX12_tries_147 (by decide) (fun c_47 => ?_) (fun c_47 => ?_)
              · exact k_vret ((fun kk_ => ([y0, y1, y2, y3] : List Int32).getD kk_ 0), sa, ta, ba) [0, 1, 2, 3, 4, 5, 6] hx hb hr hlk hP hD hS trivial rfl rfl rfl (Nat.le_of_ble_eq_true rfl) (Nat.le_of_ble_eq_true rfl) dX12_tries_212
              · refine lv_aload_n hx hb dX12_tries_150 rfl (lv_at hl 2 rfl) ?_
                refine va_get (ci := 12) (C := RX12) (T := TX12) (N := 20) hx hb hts inlX12 hown hKW.1 hP 0 rfl rfl 13 (by decide) (hts _ wd_6_16) (fun _ h => h) rfl dX12_tries_151 ?_
                refine lv_iload_n hx hb dX12_tries_154 rfl (lv_at hl 3 rfl) ?_
                refine lv_iload hx hb dX12_tries_155 (lv_at hl 0 rfl) ?_
                refine va_iast hx hb hKW.1 hP hD hS 5 0 rfl rfl (show ¬ _ by decide) dX12_tries_157 (fun H locs hP hD hS => ?_)
                have hP : va_P g.1 vwCl [(z 0, .inr (12, [.ref (z 1), .ref (z 2), .int (nI kp), .int y0, .ref (z 3), .ref (z 4), .ref (z 5), .ref (z 6), .int y1, .ref (z 7), .ref (z 8), .ref (z 9), .ref (z 10), .ref (z 11), .ref (z 12), .int y2, .ref (z 13), .ref (z 14), .int y3, .ref (z 15)])), (z 1, .inl (gI g, 461, .inl D)), (z 8, .inl (gI g, 5, .inl sa)), (z 9, .inl (gI g, 5, .inl f1)), (z 10, .inl (gZ g, 5, .inl f2)), (z 11, .inl (gI g, 7, .inl (upd ta 5 (nI i)))), (z 12, .inl (gI g, 7, .inl ba))] H := hP
                have hD : va_D A [(z 0, .inr (12, [.ref (z 1), .ref (z 2), .int (nI kp), .int y0, .ref (z 3), .ref (z 4), .ref (z 5), .ref (z 6), .int y1, .ref (z 7), .ref (z 8), .ref (z 9), .ref (z 10), .ref (z 11), .ref (z 12), .int y2, .ref (z 13), .ref (z 14), .int y3, .ref (z 15)])), (z 1, .inl (gI g, 461, .inl D)), (z 8, .inl (gI g, 5, .inl sa)), (z 9, .inl (gI g, 5, .inl f1)), (z 10, .inl (gZ g, 5, .inl f2)), (z 11, .inl (gI g, 7, .inl (upd ta 5 (nI i)))), (z 12, .inl (gI g, 7, .inl ba))] := hD
                obtain ⟨f_48, ef_48⟩ : ∃ zz_ : Nat → Int32, zz_ = upd ta 5 (nI i) := ⟨_, rfl⟩
                rw [← ef_48] at hP hD
                refine lv_aload_n hx hb dX12_tries_158 rfl (lv_at hl 2 rfl) ?_
                refine va_get (ci := 12) (C := RX12) (T := TX12) (N := 20) hx hb hts inlX12 hown hKW.1 hP 0 rfl rfl 10 (by decide) (hts _ wd_6_12) (fun _ h => h) rfl dX12_tries_159 ?_
                refine lv_iload hx hb dX12_tries_162 (lv_at hl 0 rfl) ?_
                refine lv_dup2_11 hx hb dX12_tries_164 rfl rfl ?_
                refine va_iald hx hb hKW.1 hP 2 0 rfl rfl (vp_in_nI (by omega) (by decide)) dX12_tries_165 ?_
                refine lv_topi (fun x_49 ex_49 => ?_)
                refine lv_iconst (v := 1) hx hb dX12_tries_166 (by decide) ?_
                refine lv_iload_n hx hb dX12_tries_167 rfl (lv_at hl 3 rfl) ?_
                refine lv_ishl hx hb dX12_tries_168 ?_
                refine k_top (y := 32) (by decide) ?_
                refine lv_ior hx hb dX12_tries_169 ?_
                refine lv_topi (fun x_50 ex_50 => ?_)
                refine va_iast hx hb hKW.1 hP hD hS 2 0 rfl rfl (vp_in_nI (by omega) (by decide)) dX12_tries_170 (fun H locs hP hD hS => ?_)
                have hP : va_P g.1 vwCl [(z 0, .inr (12, [.ref (z 1), .ref (z 2), .int (nI kp), .int y0, .ref (z 3), .ref (z 4), .ref (z 5), .ref (z 6), .int y1, .ref (z 7), .ref (z 8), .ref (z 9), .ref (z 10), .ref (z 11), .ref (z 12), .int y2, .ref (z 13), .ref (z 14), .int y3, .ref (z 15)])), (z 1, .inl (gI g, 461, .inl D)), (z 8, .inl (gI g, 5, .inl (upd sa (nI i).toNatClampNeg x_50))), (z 9, .inl (gI g, 5, .inl f1)), (z 10, .inl (gZ g, 5, .inl f2)), (z 11, .inl (gI g, 7, .inl f_48)), (z 12, .inl (gI g, 7, .inl ba))] H := hP
                have hD : va_D A [(z 0, .inr (12, [.ref (z 1), .ref (z 2), .int (nI kp), .int y0, .ref (z 3), .ref (z 4), .ref (z 5), .ref (z 6), .int y1, .ref (z 7), .ref (z 8), .ref (z 9), .ref (z 10), .ref (z 11), .ref (z 12), .int y2, .ref (z 13), .ref (z 14), .int y3, .ref (z 15)])), (z 1, .inl (gI g, 461, .inl D)), (z 8, .inl (gI g, 5, .inl (upd sa (nI i).toNatClampNeg x_50))), (z 9, .inl (gI g, 5, .inl f1)), (z 10, .inl (gZ g, 5, .inl f2)), (z 11, .inl (gI g, 7, .inl f_48)), (z 12, .inl (gI g, 7, .inl ba))] := hD
                obtain ⟨f_51, ef_51⟩ : ∃ zz_ : Nat → Int32, zz_ = upd sa (nI i).toNatClampNeg x_50 := ⟨_, rfl⟩
                rw [← ef_51] at hP hD
                refine lv_aload_n hx hb dX12_tries_171 rfl (lv_at hl 2 rfl) ?_
                refine lv_iload_n hx hb dX12_tries_172 rfl (lv_at hl 3 rfl) ?_
                refine lv_iconst (v := 1) hx hb dX12_tries_173 (by decide) ?_
                refine lv_iadd hx hb dX12_tries_174 ?_
                refine k_top (y := 6) (by decide) ?_
                refine lv_iload hx hb dX12_tries_175 (lv_at hl 0 rfl) ?_
                refine lv_iload_n hx hb dX12_tries_177 rfl (lv_at hl 1 rfl) ?_
                refine lv_icmp_ne (tgt := 185) hx hb dX12_tries_178 (by decide) (fun c_52 => ?_) (fun c_52 => ?_)
                · refine lv_iload_n hx hb dX12_tries_185 rfl (lv_at hl 4 rfl) ?_
                  refine lv_iconst (v := 1) hx hb dX12_tries_186 (by decide) ?_
                  refine lv_iadd hx hb dX12_tries_187 ?_
                  refine lv_topi (fun x_53 ex_53 => ?_)
                  refine k_Vv [0, 1, 2, 3, 4, 5, 6] [] 0 12 (wr := []) hx hb hml hown hts hKW hP hD hS hA hl.1 (c_X12_tries_6 l g _ z kp (fun kk_ => ([y0, y1, y2, y3] : List Int32).getD kk_ 0) D f_51 f1 f2 f_48 ba x_53 (by first | assumption | omega | decide) (by rw [edk_2, k_nIi (by omega)]; have q := hh; rw [edk_2, k_nIi (by omega)] at q; omega)) rfl rfl rfl wd_31_9 wd_1_5 wd_31_6 wd_31_7 wd_31_8 yd_X12_tries ⟨(Nat.le_of_ble_eq_true rfl), (Nat.le_of_ble_eq_true rfl)⟩ rfl rfl rfl rfl (by decide) rfl (Nat.le_of_ble_eq_true rfl) dX12_tries_188 ⟨(Nat.le_of_ble_eq_true rfl), (Nat.le_of_ble_eq_true rfl)⟩ (fun u_55 H locs hw_56 hP hD hS => ?_)
                  obtain ⟨f_57, f_58, f_59, f_60⟩ := u_55
                  have hP : va_P g.1 vwCl [(z 0, .inr (12, [.ref (z 1), .ref (z 2), .int (nI kp), .int (f_57 0), .ref (z 3), .ref (z 4), .ref (z 5), .ref (z 6), .int (f_57 1), .ref (z 7), .ref (z 8), .ref (z 9), .ref (z 10), .ref (z 11), .ref (z 12), .int (f_57 2), .ref (z 13), .ref (z 14), .int (f_57 3), .ref (z 15)])), (z 1, .inl (gI g, 461, .inl D)), (z 8, .inl (gI g, 5, .inl f_58)), (z 9, .inl (gI g, 5, .inl f1)), (z 10, .inl (gZ g, 5, .inl f2)), (z 11, .inl (gI g, 7, .inl f_59)), (z 12, .inl (gI g, 7, .inl f_60))] H := hP
                  have hD : va_D A [(z 0, .inr (12, [.ref (z 1), .ref (z 2), .int (nI kp), .int (f_57 0), .ref (z 3), .ref (z 4), .ref (z 5), .ref (z 6), .int (f_57 1), .ref (z 7), .ref (z 8), .ref (z 9), .ref (z 10), .ref (z 11), .ref (z 12), .int (f_57 2), .ref (z 13), .ref (z 14), .int (f_57 3), .ref (z 15)])), (z 1, .inl (gI g, 461, .inl D)), (z 8, .inl (gI g, 5, .inl f_58)), (z 9, .inl (gI g, 5, .inl f1)), (z 10, .inl (gZ g, 5, .inl f2)), (z 11, .inl (gI g, 7, .inl f_59)), (z 12, .inl (gI g, 7, .inl f_60))] := hD
                  refine lv_aload_n hx hb dX12_tries_191 rfl (lv_at hl 2 rfl) ?_
                  refine va_get (ci := 12) (C := RX12) (T := TX12) (N := 20) hx hb hts inlX12 hown hKW.1 hP 0 rfl rfl 10 (by decide) (hts _ wd_6_12) (fun _ h => h) rfl dX12_tries_192 ?_
                  refine lv_iload hx hb dX12_tries_195 (lv_at hl 0 rfl) ?_
                  refine lv_dup2_11 hx hb dX12_tries_197 rfl rfl ?_
                  refine va_iald hx hb hKW.1 hP 2 0 rfl rfl (vp_in_nI (by omega) (by decide)) dX12_tries_198 ?_
                  refine lv_topi (fun x_61 ex_61 => ?_)
                  refine lv_iconst (v := 1) hx hb dX12_tries_199 (by decide) ?_
                  refine lv_iload_n hx hb dX12_tries_200 rfl (lv_at hl 3 rfl) ?_
                  refine lv_ishl hx hb dX12_tries_201 ?_
                  refine k_top (y := 32) (by decide) ?_
                  refine lv_iconst (v := (-1)) hx hb dX12_tries_202 (by decide) ?_
                  refine lv_ixor hx hb dX12_tries_203 ?_
                  refine k_top (y := (-33)) (by decide) ?_
                  refine lv_iand hx hb dX12_tries_204 ?_
                  refine lv_topi (fun x_62 ex_62 => ?_)
                  refine va_iast hx hb hKW.1 hP hD hS 2 0 rfl rfl (vp_in_nI (by omega) (by decide)) dX12_tries_205 (fun H locs hP hD hS => ?_)
                  have hP : va_P g.1 vwCl [(z 0, .inr (12, [.ref (z 1), .ref (z 2), .int (nI kp), .int (f_57 0), .ref (z 3), .ref (z 4), .ref (z 5), .ref (z 6), .int (f_57 1), .ref (z 7), .ref (z 8), .ref (z 9), .ref (z 10), .ref (z 11), .ref (z 12), .int (f_57 2), .ref (z 13), .ref (z 14), .int (f_57 3), .ref (z 15)])), (z 1, .inl (gI g, 461, .inl D)), (z 8, .inl (gI g, 5, .inl (upd f_58 (nI i).toNatClampNeg x_62))), (z 9, .inl (gI g, 5, .inl f1)), (z 10, .inl (gZ g, 5, .inl f2)), (z 11, .inl (gI g, 7, .inl f_59)), (z 12, .inl (gI g, 7, .inl f_60))] H := hP
                  have hD : va_D A [(z 0, .inr (12, [.ref (z 1), .ref (z 2), .int (nI kp), .int (f_57 0), .ref (z 3), .ref (z 4), .ref (z 5), .ref (z 6), .int (f_57 1), .ref (z 7), .ref (z 8), .ref (z 9), .ref (z 10), .ref (z 11), .ref (z 12), .int (f_57 2), .ref (z 13), .ref (z 14), .int (f_57 3), .ref (z 15)])), (z 1, .inl (gI g, 461, .inl D)), (z 8, .inl (gI g, 5, .inl (upd f_58 (nI i).toNatClampNeg x_62))), (z 9, .inl (gI g, 5, .inl f1)), (z 10, .inl (gZ g, 5, .inl f2)), (z 11, .inl (gI g, 7, .inl f_59)), (z 12, .inl (gI g, 7, .inl f_60))] := hD
                  obtain ⟨f_63, ef_63⟩ : ∃ zz_ : Nat → Int32, zz_ = upd f_58 (nI i).toNatClampNeg x_62 := ⟨_, rfl⟩
                  rw [← ef_63] at hP hD
                  refine lv_iinc (v := nI (i + 1)) (lv' := [(4, .int (nI (i + 1))), (3, .int x_4), (0, .ref (z 0)), (1, .int 5), (2, .int x)]) hx hb dX12_tries_206 hl (k := 0) rfl (nI_add i 1) (by decide) rfl (fun ls hl => ?_)
                  refine lv_goto (tgt := 127) hx hb dX12_tries_209 (by decide) ?_
                  exact ih127 (i + 1) (f_57 0) (f_57 1) (f_57 2) (f_57 3) f_63 f_59 f_60 (by omega) (by first | assumption | omega) H locs (hP.sub [0, 1, 2, 3, 4, 5, 6] rfl) (hD.sub [0, 1, 2, 3, 4, 5, 6] (by decide) rfl) hS ls (lv_sub hl [0, 1, 2, 3, 4] rfl)
                · refine lv_iload_n hx hb dX12_tries_181 rfl (lv_at hl 4 rfl) ?_
                  refine lv_goto (tgt := 188) hx hb dX12_tries_182 (by decide) ?_
                  refine k_Vv [0, 1, 2, 3, 4, 5, 6] [] 0 12 (wr := []) hx hb hml hown hts hKW hP hD hS hA hl.1 (c_X12_tries_6 l g _ z kp (fun kk_ => ([y0, y1, y2, y3] : List Int32).getD kk_ 0) D f_51 f1 f2 f_48 ba x (by first | assumption | omega | decide) (by rw [edk_2, k_nIi (by omega)]; have q := hh; rw [edk_2, k_nIi (by omega)] at q; omega)) rfl rfl rfl wd_31_9 wd_1_5 wd_31_6 wd_31_7 wd_31_8 yd_X12_tries ⟨(Nat.le_of_ble_eq_true rfl), (Nat.le_of_ble_eq_true rfl)⟩ rfl rfl rfl rfl (by decide) rfl (Nat.le_of_ble_eq_true rfl) dX12_tries_188 ⟨(Nat.le_of_ble_eq_true rfl), (Nat.le_of_ble_eq_true rfl)⟩ (fun u_65 H locs hw_66 hP hD hS => ?_)
                  obtain ⟨f_67, f_68, f_69, f_70⟩ := u_65
                  have hP : va_P g.1 vwCl [(z 0, .inr (12, [.ref (z 1), .ref (z 2), .int (nI kp), .int (f_67 0), .ref (z 3), .ref (z 4), .ref (z 5), .ref (z 6), .int (f_67 1), .ref (z 7), .ref (z 8), .ref (z 9), .ref (z 10), .ref (z 11), .ref (z 12), .int (f_67 2), .ref (z 13), .ref (z 14), .int (f_67 3), .ref (z 15)])), (z 1, .inl (gI g, 461, .inl D)), (z 8, .inl (gI g, 5, .inl f_68)), (z 9, .inl (gI g, 5, .inl f1)), (z 10, .inl (gZ g, 5, .inl f2)), (z 11, .inl (gI g, 7, .inl f_69)), (z 12, .inl (gI g, 7, .inl f_70))] H := hP
                  have hD : va_D A [(z 0, .inr (12, [.ref (z 1), .ref (z 2), .int (nI kp), .int (f_67 0), .ref (z 3), .ref (z 4), .ref (z 5), .ref (z 6), .int (f_67 1), .ref (z 7), .ref (z 8), .ref (z 9), .ref (z 10), .ref (z 11), .ref (z 12), .int (f_67 2), .ref (z 13), .ref (z 14), .int (f_67 3), .ref (z 15)])), (z 1, .inl (gI g, 461, .inl D)), (z 8, .inl (gI g, 5, .inl f_68)), (z 9, .inl (gI g, 5, .inl f1)), (z 10, .inl (gZ g, 5, .inl f2)), (z 11, .inl (gI g, 7, .inl f_69)), (z 12, .inl (gI g, 7, .inl f_70))] := hD
                  refine lv_aload_n hx hb dX12_tries_191 rfl (lv_at hl 2 rfl) ?_
                  refine va_get (ci := 12) (C := RX12) (T := TX12) (N := 20) hx hb hts inlX12 hown hKW.1 hP 0 rfl rfl 10 (by decide) (hts _ wd_6_12) (fun _ h => h) rfl dX12_tries_192 ?_
                  refine lv_iload hx hb dX12_tries_195 (lv_at hl 0 rfl) ?_
                  refine lv_dup2_11 hx hb dX12_tries_197 rfl rfl ?_
                  refine va_iald hx hb hKW.1 hP 2 0 rfl rfl (vp_in_nI (by omega) (by decide)) dX12_tries_198 ?_
                  refine lv_topi (fun x_71 ex_71 => ?_)
                  refine lv_iconst (v := 1) hx hb dX12_tries_199 (by decide) ?_
                  refine lv_iload_n hx hb dX12_tries_200 rfl (lv_at hl 3 rfl) ?_
                  refine lv_ishl hx hb dX12_tries_201 ?_
                  refine k_top (y := 32) (by decide) ?_
                  refine lv_iconst (v := (-1)) hx hb dX12_tries_202 (by decide) ?_
                  refine lv_ixor hx hb dX12_tries_203 ?_
                  refine k_top (y := (-33)) (by decide) ?_
                  refine lv_iand hx hb dX12_tries_204 ?_
                  refine lv_topi (fun x_72 ex_72 => ?_)
                  refine va_iast hx hb hKW.1 hP hD hS 2 0 rfl rfl (vp_in_nI (by omega) (by decide)) dX12_tries_205 (fun H locs hP hD hS => ?_)
                  have hP : va_P g.1 vwCl [(z 0, .inr (12, [.ref (z 1), .ref (z 2), .int (nI kp), .int (f_67 0), .ref (z 3), .ref (z 4), .ref (z 5), .ref (z 6), .int (f_67 1), .ref (z 7), .ref (z 8), .ref (z 9), .ref (z 10), .ref (z 11), .ref (z 12), .int (f_67 2), .ref (z 13), .ref (z 14), .int (f_67 3), .ref (z 15)])), (z 1, .inl (gI g, 461, .inl D)), (z 8, .inl (gI g, 5, .inl (upd f_68 (nI i).toNatClampNeg x_72))), (z 9, .inl (gI g, 5, .inl f1)), (z 10, .inl (gZ g, 5, .inl f2)), (z 11, .inl (gI g, 7, .inl f_69)), (z 12, .inl (gI g, 7, .inl f_70))] H := hP
                  have hD : va_D A [(z 0, .inr (12, [.ref (z 1), .ref (z 2), .int (nI kp), .int (f_67 0), .ref (z 3), .ref (z 4), .ref (z 5), .ref (z 6), .int (f_67 1), .ref (z 7), .ref (z 8), .ref (z 9), .ref (z 10), .ref (z 11), .ref (z 12), .int (f_67 2), .ref (z 13), .ref (z 14), .int (f_67 3), .ref (z 15)])), (z 1, .inl (gI g, 461, .inl D)), (z 8, .inl (gI g, 5, .inl (upd f_68 (nI i).toNatClampNeg x_72))), (z 9, .inl (gI g, 5, .inl f1)), (z 10, .inl (gZ g, 5, .inl f2)), (z 11, .inl (gI g, 7, .inl f_69)), (z 12, .inl (gI g, 7, .inl f_70))] := hD
                  obtain ⟨f_73, ef_73⟩ : ∃ zz_ : Nat → Int32, zz_ = upd f_68 (nI i).toNatClampNeg x_72 := ⟨_, rfl⟩
                  rw [← ef_73] at hP hD
                  refine lv_iinc (v := nI (i + 1)) (lv' := [(4, .int (nI (i + 1))), (3, .int x_4), (0, .ref (z 0)), (1, .int 5), (2, .int x)]) hx hb dX12_tries_206 hl (k := 0) rfl (nI_add i 1) (by decide) rfl (fun ls hl => ?_)
                  refine lv_goto (tgt := 127) hx hb dX12_tries_209 (by decide) ?_
                  exact ih127 (i + 1) (f_67 0) (f_67 1) (f_67 2) (f_67 3) f_73 f_69 f_70 (by omega) (by first | assumption | omega) H locs (hP.sub [0, 1, 2, 3, 4, 5, 6] rfl) (hD.sub [0, 1, 2, 3, 4, 5, 6] (by decide) rfl) hS ls (lv_sub hl [0, 1, 2, 3, 4] rfl)
        exact L127 (5 - 0 + 1) 0 (f_40 0) (f_40 1) (f_40 2) (f_40 3) f_41 f_42 f_43 (Nat.lt_succ_self _) (by first | assumption | omega) H locs (hP.sub [0, 1, 2, 3, 4, 5, 6] rfl) (hD.sub [0, 1, 2, 3, 4, 5, 6] (by decide) rfl) hS ls (lv_sub hl [0, 1, 2, 3, 4] rfl)
    · have c_3n : 5 = dk_2 := (k_eqI (a := 5) (b := dk_2) (by omega) (by omega)).mp c_3
      refine lv_iconst (v := 0) hx hb dX12_tries_19 (by decide) ?_
      refine lv_istore_n (lv' := [(3, .int 0), (0, .ref (z 0)), (1, .int 5), (2, .int x)]) hx hb dX12_tries_20 rfl hl (by decide) rfl (fun ls hl => ?_)
      have L21 : ∀ (n21 : Nat) (i : Nat) (hfuel21 : 5 - i < n21) (hi : i ≤ 5) (H : Heap) (locs : List Loc) (hP : va_P g.1 vwCl [(z 0, .inr (12, [.ref (z 1), .ref (z 2), .int (nI kp), .int (xs 0), .ref (z 3), .ref (z 4), .ref (z 5), .ref (z 6), .int (xs 1), .ref (z 7), .ref (z 8), .ref (z 9), .ref (z 10), .ref (z 11), .ref (z 12), .int (xs 2), .ref (z 13), .ref (z 14), .int (xs 3), .ref (z 15)])), (z 1, .inl (gI g, 461, .inl D)), (z 8, .inl (gI g, 5, .inl f0)), (z 9, .inl (gI g, 5, .inl f1)), (z 10, .inl (gZ g, 5, .inl f2)), (z 11, .inl (gI g, 7, .inl f3)), (z 12, .inl (gI g, 7, .inl f4))] H) (hD : va_D A [(z 0, .inr (12, [.ref (z 1), .ref (z 2), .int (nI kp), .int (xs 0), .ref (z 3), .ref (z 4), .ref (z 5), .ref (z 6), .int (xs 1), .ref (z 7), .ref (z 8), .ref (z 9), .ref (z 10), .ref (z 11), .ref (z 12), .int (xs 2), .ref (z 13), .ref (z 14), .int (xs 3), .ref (z 15)])), (z 1, .inl (gI g, 461, .inl D)), (z 8, .inl (gI g, 5, .inl f0)), (z 9, .inl (gI g, 5, .inl f1)), (z 10, .inl (gZ g, 5, .inl f2)), (z 11, .inl (gI g, 7, .inl f3)), (z 12, .inl (gI g, 7, .inl f4))]) (hS : va_S A s.heap H locs) (ls : Array Slot) (hl : lv_has ls 5 [(3, .int (nI i)), (0, .ref (z 0)), (1, .int 5), (2, .int x)]), W p l e (kR 5 0 0) s m ([.ref (z 0), .int 5, .int x] : List Value).toArray below meth c H locs 0 0 (kQv g A below ([.ref (z 0), .int 5, .int x] : List Value).toArray s 0 0 (fun (u : (Nat → Int32) × (Nat → Int32) × (Nat → Int32) × (Nat → Int32)) => True) (fun (u : (Nat → Int32) × (Nat → Int32) × (Nat → Int32) × (Nat → Int32)) => ([(z 0, .inr (12, [.ref (z 1), .ref (z 2), .int (nI kp), .int (u.1 0), .ref (z 3), .ref (z 4), .ref (z 5), .ref (z 6), .int (u.1 1), .ref (z 7), .ref (z 8), .ref (z 9), .ref (z 10), .ref (z 11), .ref (z 12), .int (u.1 2), .ref (z 13), .ref (z 14), .int (u.1 3), .ref (z 15)])), (z 1, .inl (gI g, 461, .inl D)), (z 8, .inl (gI g, 5, .inl u.2.1)), (z 9, .inl (gI g, 5, .inl f1)), (z 10, .inl (gZ g, 5, .inl f2)), (z 11, .inl (gI g, 7, .inl u.2.2.1)), (z 12, .inl (gI g, 7, .inl u.2.2.2))] : va_W))) (F0 m 21 ls []) := by
        intro n21
        induction n21 with
        | zero => intro i hfuel21; exact absurd hfuel21 (Nat.not_lt_zero _)
        | succ n21 ih21 =>
          intro i hfuel21 hi H locs hP hD hS ls hl
          refine lv_iload_n hx hb dX12_tries_21 rfl (lv_at hl 0 rfl) ?_
          refine lv_aload_n hx hb dX12_tries_22 rfl (lv_at hl 1 rfl) ?_
          refine va_get (ci := 12) (C := RX12) (T := TX12) (N := 20) hx hb hts inlX12 hown hKW.1 hP 0 rfl rfl 0 (by decide) (hts _ wd_6_5) (fun _ h => h) rfl dX12_tries_23 ?_
          refine lv_iconst (v := 0) hx hb dX12_tries_26 (by decide) ?_
          obtain ⟨dk_74, hdk_74a, hdk_74b, edk_74⟩ := DI.n0 hDI
          refine va_iald hx hb hKW.1 hP 1 0 rfl rfl (show ¬ _ by decide) dX12_tries_27 ?_
          refine k_top (y := nI dk_74) edk_74 ?_
          refine lv_icmp_ge (tgt := 63) hx hb dX12_tries_28 (by decide) (fun c_75 => ?_) (fun c_75 => ?_)
          · have c_75n : dk_74 ≤ i := (k_leI (a := dk_74) (b := i) (by omega) (by omega)).mp c_75
            refine lv_aload_n hx hb dX12_tries_63 rfl (lv_at hl 1 rfl) ?_
            refine lv_iload_n hx hb dX12_tries_64 rfl (lv_at hl 3 rfl) ?_
            refine va_put (ci := 12) (v := .int x) (C := RX12) (T := TX12) (N := 20) hx hb hts inlX12 tyX12 tyX12_ok nmX12 hown hKW.1 hP hD hS 0 rfl rfl 15 (by decide) (hts _ wd_31_1) (fun _ h => h) rfl (tyX12_ok 15 (by decide)) rfl rfl (Nat.le_of_ble_eq_true rfl) dX12_tries_65 (fun H locs hP hD hS => ?_)
            have hP : va_P g.1 vwCl [(z 0, .inr (12, [.ref (z 1), .ref (z 2), .int (nI kp), .int (xs 0), .ref (z 3), .ref (z 4), .ref (z 5), .ref (z 6), .int (xs 1), .ref (z 7), .ref (z 8), .ref (z 9), .ref (z 10), .ref (z 11), .ref (z 12), .int x, .ref (z 13), .ref (z 14), .int (xs 3), .ref (z 15)])), (z 1, .inl (gI g, 461, .inl D)), (z 8, .inl (gI g, 5, .inl f0)), (z 9, .inl (gI g, 5, .inl f1)), (z 10, .inl (gZ g, 5, .inl f2)), (z 11, .inl (gI g, 7, .inl f3)), (z 12, .inl (gI g, 7, .inl f4))] H := hP
            have hD : va_D A [(z 0, .inr (12, [.ref (z 1), .ref (z 2), .int (nI kp), .int (xs 0), .ref (z 3), .ref (z 4), .ref (z 5), .ref (z 6), .int (xs 1), .ref (z 7), .ref (z 8), .ref (z 9), .ref (z 10), .ref (z 11), .ref (z 12), .int x, .ref (z 13), .ref (z 14), .int (xs 3), .ref (z 15)])), (z 1, .inl (gI g, 461, .inl D)), (z 8, .inl (gI g, 5, .inl f0)), (z 9, .inl (gI g, 5, .inl f1)), (z 10, .inl (gZ g, 5, .inl f2)), (z 11, .inl (gI g, 7, .inl f3)), (z 12, .inl (gI g, 7, .inl f4))] := hD
            refine lv_iconst (v := 0) hx hb dX12_tries_68 (by decide) ?_
            refine lv_istore_n (lv' := [(3, .int 0), (0, .ref (z 0)), (1, .int 5), (2, .int x)]) hx hb dX12_tries_69 rfl hl (by decide) rfl (fun ls hl => ?_)
            have L70 : ∀ (n70 : Nat) (i : Nat) (ga : Nat → Int32) (hfuel70 : 7 - i < n70) (hi : i ≤ 7) (H : Heap) (locs : List Loc) (hP : va_P g.1 vwCl [(z 0, .inr (12, [.ref (z 1), .ref (z 2), .int (nI kp), .int (xs 0), .ref (z 3), .ref (z 4), .ref (z 5), .ref (z 6), .int (xs 1), .ref (z 7), .ref (z 8), .ref (z 9), .ref (z 10), .ref (z 11), .ref (z 12), .int x, .ref (z 13), .ref (z 14), .int (xs 3), .ref (z 15)])), (z 1, .inl (gI g, 461, .inl D)), (z 8, .inl (gI g, 5, .inl f0)), (z 9, .inl (gI g, 5, .inl f1)), (z 10, .inl (gZ g, 5, .inl f2)), (z 11, .inl (gI g, 7, .inl f3)), (z 12, .inl (gI g, 7, .inl ga))] H) (hD : va_D A [(z 0, .inr (12, [.ref (z 1), .ref (z 2), .int (nI kp), .int (xs 0), .ref (z 3), .ref (z 4), .ref (z 5), .ref (z 6), .int (xs 1), .ref (z 7), .ref (z 8), .ref (z 9), .ref (z 10), .ref (z 11), .ref (z 12), .int x, .ref (z 13), .ref (z 14), .int (xs 3), .ref (z 15)])), (z 1, .inl (gI g, 461, .inl D)), (z 8, .inl (gI g, 5, .inl f0)), (z 9, .inl (gI g, 5, .inl f1)), (z 10, .inl (gZ g, 5, .inl f2)), (z 11, .inl (gI g, 7, .inl f3)), (z 12, .inl (gI g, 7, .inl ga))]) (hS : va_S A s.heap H locs) (ls : Array Slot) (hl : lv_has ls 5 [(3, .int (nI i)), (0, .ref (z 0)), (1, .int 5), (2, .int x)]), W p l e (kR 5 0 0) s m ([.ref (z 0), .int 5, .int x] : List Value).toArray below meth c H locs 0 0 (kQv g A below ([.ref (z 0), .int 5, .int x] : List Value).toArray s 0 0 (fun (u : (Nat → Int32) × (Nat → Int32) × (Nat → Int32) × (Nat → Int32)) => True) (fun (u : (Nat → Int32) × (Nat → Int32) × (Nat → Int32) × (Nat → Int32)) => ([(z 0, .inr (12, [.ref (z 1), .ref (z 2), .int (nI kp), .int (u.1 0), .ref (z 3), .ref (z 4), .ref (z 5), .ref (z 6), .int (u.1 1), .ref (z 7), .ref (z 8), .ref (z 9), .ref (z 10), .ref (z 11), .ref (z 12), .int (u.1 2), .ref (z 13), .ref (z 14), .int (u.1 3), .ref (z 15)])), (z 1, .inl (gI g, 461, .inl D)), (z 8, .inl (gI g, 5, .inl u.2.1)), (z 9, .inl (gI g, 5, .inl f1)), (z 10, .inl (gZ g, 5, .inl f2)), (z 11, .inl (gI g, 7, .inl u.2.2.1)), (z 12, .inl (gI g, 7, .inl u.2.2.2))] : va_W))) (F0 m 70 ls []) := by
              intro n70
              induction n70 with
              | zero => intro i ga hfuel70; exact absurd hfuel70 (Nat.not_lt_zero _)
              | succ n70 ih70 =>
                intro i ga hfuel70 hi H locs hP hD hS ls hl
                refine lv_iload_n hx hb dX12_tries_70 rfl (lv_at hl 0 rfl) ?_
                refine lv_bipush (v := 7) hx hb dX12_tries_71 (by decide) ?_
                refine lv_icmp_ge (tgt := 94) hx hb dX12_tries_73 (by decide) (fun c_76 => ?_) (fun c_76 => ?_)
                · have c_76n : 7 ≤ i := (k_leI (a := 7) (b := i) (by omega) (by omega)).mp c_76
                  exact k_vret ((fun kk_ => ([(xs 0), (xs 1), x, (xs 3)] : List Int32).getD kk_ 0), f0, f3, ga) [0, 1, 2, 3, 4, 5, 6] hx hb hr hlk hP hD hS trivial rfl rfl rfl (Nat.le_of_ble_eq_true rfl) (Nat.le_of_ble_eq_true rfl) dX12_tries_94
                · have c_76n : i < 7 := Nat.not_le.mp (fun h => c_76 ((k_leI (a := 7) (b := i) (by omega) (by omega)).mpr h))
                  refine lv_aload_n hx hb dX12_tries_76 rfl (lv_at hl 1 rfl) ?_
                  refine va_get (ci := 12) (C := RX12) (T := TX12) (N := 20) hx hb hts inlX12 hown hKW.1 hP 0 rfl rfl 14 (by decide) (hts _ wd_6_17) (fun _ h => h) rfl dX12_tries_77 ?_
                  refine lv_iload_n hx hb dX12_tries_80 rfl (lv_at hl 0 rfl) ?_
                  refine lv_aload_n hx hb dX12_tries_81 rfl (lv_at hl 1 rfl) ?_
                  refine va_get (ci := 12) (C := RX12) (T := TX12) (N := 20) hx hb hts inlX12 hown hKW.1 hP 0 rfl rfl 13 (by decide) (hts _ wd_6_16) (fun _ h => h) rfl dX12_tries_82 ?_
                  refine lv_iload_n hx hb dX12_tries_85 rfl (lv_at hl 0 rfl) ?_
                  refine va_iald hx hb hKW.1 hP 5 0 rfl rfl (vp_in_nI (by omega) (by decide)) dX12_tries_86 ?_
                  refine lv_topi (fun x_77 ex_77 => ?_)
                  refine va_iast hx hb hKW.1 hP hD hS 6 0 rfl rfl (vp_in_nI (by omega) (by decide)) dX12_tries_87 (fun H locs hP hD hS => ?_)
                  have hP : va_P g.1 vwCl [(z 0, .inr (12, [.ref (z 1), .ref (z 2), .int (nI kp), .int (xs 0), .ref (z 3), .ref (z 4), .ref (z 5), .ref (z 6), .int (xs 1), .ref (z 7), .ref (z 8), .ref (z 9), .ref (z 10), .ref (z 11), .ref (z 12), .int x, .ref (z 13), .ref (z 14), .int (xs 3), .ref (z 15)])), (z 1, .inl (gI g, 461, .inl D)), (z 8, .inl (gI g, 5, .inl f0)), (z 9, .inl (gI g, 5, .inl f1)), (z 10, .inl (gZ g, 5, .inl f2)), (z 11, .inl (gI g, 7, .inl f3)), (z 12, .inl (gI g, 7, .inl (upd ga (nI i).toNatClampNeg x_77)))] H := hP
                  have hD : va_D A [(z 0, .inr (12, [.ref (z 1), .ref (z 2), .int (nI kp), .int (xs 0), .ref (z 3), .ref (z 4), .ref (z 5), .ref (z 6), .int (xs 1), .ref (z 7), .ref (z 8), .ref (z 9), .ref (z 10), .ref (z 11), .ref (z 12), .int x, .ref (z 13), .ref (z 14), .int (xs 3), .ref (z 15)])), (z 1, .inl (gI g, 461, .inl D)), (z 8, .inl (gI g, 5, .inl f0)), (z 9, .inl (gI g, 5, .inl f1)), (z 10, .inl (gZ g, 5, .inl f2)), (z 11, .inl (gI g, 7, .inl f3)), (z 12, .inl (gI g, 7, .inl (upd ga (nI i).toNatClampNeg x_77)))] := hD
                  obtain ⟨f_78, ef_78⟩ : ∃ zz_ : Nat → Int32, zz_ = upd ga (nI i).toNatClampNeg x_77 := ⟨_, rfl⟩
                  rw [← ef_78] at hP hD
                  refine lv_iinc (v := nI (i + 1)) (lv' := [(3, .int (nI (i + 1))), (0, .ref (z 0)), (1, .int 5), (2, .int x)]) hx hb dX12_tries_88 hl (k := 0) rfl (nI_add i 1) (by decide) rfl (fun ls hl => ?_)
                  refine lv_goto (tgt := 70) hx hb dX12_tries_91 (by decide) ?_
                  exact ih70 (i + 1) f_78 (by omega) (by first | assumption | omega) H locs (hP.sub [0, 1, 2, 3, 4, 5, 6] rfl) (hD.sub [0, 1, 2, 3, 4, 5, 6] (by decide) rfl) hS ls (lv_sub hl [0, 1, 2, 3] rfl)
            exact L70 (7 - 0 + 1) 0 f4 (Nat.lt_succ_self _) (by first | assumption | omega) H locs (hP.sub [0, 1, 2, 3, 4, 5, 6] rfl) (hD.sub [0, 1, 2, 3, 4, 5, 6] (by decide) rfl) hS ls (lv_sub hl [0, 1, 2, 3] rfl)
          · have c_75n : i < dk_74 := Nat.not_le.mp (fun h => c_75 ((k_leI (a := dk_74) (b := i) (by omega) (by omega)).mpr h))
            refine lv_aload_n hx hb dX12_tries_31 rfl (lv_at hl 1 rfl) ?_
            refine lv_aload_n hx hb dX12_tries_32 rfl (lv_at hl 1 rfl) ?_
            refine va_get (ci := 12) (C := RX12) (T := TX12) (N := 20) hx hb hts inlX12 hown hKW.1 hP 0 rfl rfl 10 (by decide) (hts _ wd_6_12) (fun _ h => h) rfl dX12_tries_33 ?_
            refine lv_iload_n hx hb dX12_tries_36 rfl (lv_at hl 0 rfl) ?_
            refine va_iald hx hb hKW.1 hP 2 0 rfl rfl (vp_in_nI (by omega) (by decide)) dX12_tries_37 ?_
            refine lv_topi (fun x_79 ex_79 => ?_)
            refine lv_aload_n hx hb dX12_tries_38 rfl (lv_at hl 1 rfl) ?_
            refine va_get (ci := 12) (C := RX12) (T := TX12) (N := 20) hx hb hts inlX12 hown hKW.1 hP 0 rfl rfl 11 (by decide) (hts _ wd_6_13) (fun _ h => h) rfl dX12_tries_39 ?_
            refine lv_iload_n hx hb dX12_tries_42 rfl (lv_at hl 0 rfl) ?_
            refine va_iald hx hb hKW.1 hP 3 0 rfl rfl (vp_in_nI (by omega) (by decide)) dX12_tries_43 ?_
            refine lv_topi (fun x_80 ex_80 => ?_)
            refine lv_aload_n hx hb dX12_tries_44 rfl (lv_at hl 1 rfl) ?_
            refine va_get (ci := 12) (C := RX12) (T := TX12) (N := 20) hx hb hts inlX12 hown hKW.1 hP 0 rfl rfl 12 (by decide) (hts _ wd_6_15) (fun _ h => h) rfl dX12_tries_45 ?_
            refine lv_iload_n hx hb dX12_tries_48 rfl (lv_at hl 0 rfl) ?_
            refine va_zald hx hb hKW.1 hP 4 2 rfl rfl (vp_in_nI (by omega) (by decide)) dX12_tries_49 ?_
            refine lv_topi (fun x_81 ex_81 => ?_)
            refine k_Vi [0, 1] [2, 3, 4, 5, 6] 0 12 (wr := [(z 8, .inl (gI g, 5, .inl f0)), (z 9, .inl (gI g, 5, .inl f1)), (z 10, .inl (gZ g, 5, .inl f2)), (z 11, .inl (gI g, 7, .inl f3)), (z 12, .inl (gI g, 7, .inl f4))]) hx hb hml hown hts hKW hP hD hS hA hl.1 (c_X12_areEnough l g _ z kp xs D x_79 x_80 x_81 (by first | assumption | omega | decide)) rfl rfl rfl wd_28_2 wd_1_5 wd_27_23 wd_28_0 wd_28_1 yd_X12_areEnough ⟨(Nat.le_of_ble_eq_true rfl), (Nat.le_of_ble_eq_true rfl)⟩ rfl rfl rfl rfl (by decide) rfl (Nat.le_of_ble_eq_true rfl) dX12_tries_50 ⟨(Nat.le_of_ble_eq_true rfl), (Nat.le_of_ble_eq_true rfl)⟩ (fun r_82 u_83 H locs hw_84 hP hD hS => ?_)
            have hP : va_P g.1 vwCl [(z 8, .inl (gI g, 5, .inl f0)), (z 9, .inl (gI g, 5, .inl f1)), (z 10, .inl (gZ g, 5, .inl f2)), (z 11, .inl (gI g, 7, .inl f3)), (z 12, .inl (gI g, 7, .inl f4)), (z 0, .inr (12, [.ref (z 1), .ref (z 2), .int (nI kp), .int (xs 0), .ref (z 3), .ref (z 4), .ref (z 5), .ref (z 6), .int (xs 1), .ref (z 7), .ref (z 8), .ref (z 9), .ref (z 10), .ref (z 11), .ref (z 12), .int (xs 2), .ref (z 13), .ref (z 14), .int (xs 3), .ref (z 15)])), (z 1, .inl (gI g, 461, .inl D))] H := hP
            have hD : va_D A [(z 8, .inl (gI g, 5, .inl f0)), (z 9, .inl (gI g, 5, .inl f1)), (z 10, .inl (gZ g, 5, .inl f2)), (z 11, .inl (gI g, 7, .inl f3)), (z 12, .inl (gI g, 7, .inl f4)), (z 0, .inr (12, [.ref (z 1), .ref (z 2), .int (nI kp), .int (xs 0), .ref (z 3), .ref (z 4), .ref (z 5), .ref (z 6), .int (xs 1), .ref (z 7), .ref (z 8), .ref (z 9), .ref (z 10), .ref (z 11), .ref (z 12), .int (xs 2), .ref (z 13), .ref (z 14), .int (xs 3), .ref (z 15)])), (z 1, .inl (gI g, 461, .inl D))] := hD
            rcases (show r_82 = 1 ∨ r_82 = 0 from hw_84) with rfl | rfl <;> clear hw_84
            · refine lv_if_ne (tgt := 57) hx hb dX12_tries_53 (by decide) (fun _ => ?_) (fun c => absurd c (by decide))
              refine lv_iinc (v := nI (i + 1)) (lv' := [(3, .int (nI (i + 1))), (0, .ref (z 0)), (1, .int 5), (2, .int x)]) hx hb dX12_tries_57 hl (k := 0) rfl (nI_add i 1) (by decide) rfl (fun ls hl => ?_)
              refine lv_goto (tgt := 21) hx hb dX12_tries_60 (by decide) ?_
              exact ih21 (i + 1) (by omega) (by first | assumption | omega) H locs (hP.sub [5, 6, 0, 1, 2, 3, 4] rfl) (hD.sub [5, 6, 0, 1, 2, 3, 4] (by decide) rfl) hS ls (lv_sub hl [0, 1, 2, 3] rfl)
            · refine lv_if_ne (tgt := 57) hx hb dX12_tries_53 (by decide) (fun c => absurd c (by decide)) (fun _ => ?_)
              exact k_vret (xs, f0, f3, f4) [5, 6, 0, 1, 2, 3, 4] hx hb hr hlk hP hD hS trivial rfl rfl rfl (Nat.le_of_ble_eq_true rfl) (Nat.le_of_ble_eq_true rfl) dX12_tries_56
      exact L21 (5 - 0 + 1) 0 (Nat.lt_succ_self _) (by first | assumption | omega) H locs (hP.sub [0, 1, 2, 3, 4, 5, 6] rfl) (hD.sub [0, 1, 2, 3, 4, 5, 6] (by decide) rfl) hS ls (lv_sub hl [0, 1, 2, 3] rfl)
  · exact k_vret (xs, f0, f3, f4) [0, 1, 2, 3, 4, 5, 6] hx hb hr hlk hP hD hS trivial rfl rfl rfl (Nat.le_of_ble_eq_true rfl) (Nat.le_of_ble_eq_true rfl) dX12_tries_8

set_option maxHeartbeats 8000000 in
set_option maxRecDepth 100000 in
theorem c_X12_tries_4 (l : Launch) (g : kG) (sz : Nat) (z : Nat → Nat) (kp : Nat) (xs : Nat → Int32) (D : Nat → Int32) (f0 : Nat → Int32) (f1 : Nat → Int32) (f2 : Nat → Int32) (f3 : Nat → Int32) (f4 : Nat → Int32) (x : Int32) (hDI : DI D) (hh : (4 : Int) ≤ (D 1).toInt) : kMv l g yX12_tries cX12_tries 5 none 6 0 0 [.ref (z 0), .int 4, .int x] sz [(z 0, .inr (12, [.ref (z 1), .ref (z 2), .int (nI kp), .int (xs 0), .ref (z 3), .ref (z 4), .ref (z 5), .ref (z 6), .int (xs 1), .ref (z 7), .ref (z 8), .ref (z 9), .ref (z 10), .ref (z 11), .ref (z 12), .int (xs 2), .ref (z 13), .ref (z 14), .int (xs 3), .ref (z 15)])), (z 1, .inl (gI g, 461, .inl D)), (z 8, .inl (gI g, 5, .inl f0)), (z 9, .inl (gI g, 5, .inl f1)), (z 10, .inl (gZ g, 5, .inl f2)), (z 11, .inl (gI g, 7, .inl f3)), (z 12, .inl (gI g, 7, .inl f4))] (fun (u : (Nat → Int32) × (Nat → Int32) × (Nat → Int32) × (Nat → Int32)) => True) (fun (u : (Nat → Int32) × (Nat → Int32) × (Nat → Int32) × (Nat → Int32)) => ([(z 0, .inr (12, [.ref (z 1), .ref (z 2), .int (nI kp), .int (u.1 0), .ref (z 3), .ref (z 4), .ref (z 5), .ref (z 6), .int (u.1 1), .ref (z 7), .ref (z 8), .ref (z 9), .ref (z 10), .ref (z 11), .ref (z 12), .int (u.1 2), .ref (z 13), .ref (z 14), .int (u.1 3), .ref (z 15)])), (z 1, .inl (gI g, 461, .inl D)), (z 8, .inl (gI g, 5, .inl u.2.1)), (z 9, .inl (gI g, 5, .inl f1)), (z 10, .inl (gZ g, 5, .inl f2)), (z 11, .inl (gI g, 7, .inl u.2.2.1)), (z 12, .inl (gI g, 7, .inl u.2.2.2))] : va_W)) := by
  refine kMv.of (by decide) (Nat.le_of_ble_eq_true rfl) (fun p e s m below meth c A hx hb hr hml hown hts hlk hnm hKW hP hD hS hA ls hl => ?_)
  have hown : s.vm.findClass RX12 = some m.cls := hown
  have hl : lv_has ls 5 [(0, .ref (z 0)), (1, .int 4), (2, .int x)] := hl
  refine k_hide hP hS (fun H locs hP hS => ?_)
  refine lv_iload_n hx hb dX12_tries_0 rfl (lv_at hl 2 rfl) ?_
  refine lv_aload_n hx hb dX12_tries_1 rfl (lv_at hl 0 rfl) ?_
  refine va_get (ci := 12) (C := RX12) (T := TX12) (N := 20) hx hb hts inlX12 hown hKW.1 hP 0 rfl rfl 15 (by decide) (hts _ wd_31_1) (fun _ h => h) rfl dX12_tries_2 ?_
  refine lv_icmp_lt (tgt := 9) hx hb dX12_tries_5 (by decide) (fun c_1 => ?_) (fun c_1 => ?_)
  · refine lv_iload_n hx hb dX12_tries_9 rfl (lv_at hl 1 rfl) ?_
    refine lv_aload_n hx hb dX12_tries_10 rfl (lv_at hl 0 rfl) ?_
    refine va_get (ci := 12) (C := RX12) (T := TX12) (N := 20) hx hb hts inlX12 hown hKW.1 hP 0 rfl rfl 0 (by decide) (hts _ wd_6_5) (fun _ h => h) rfl dX12_tries_11 ?_
    refine lv_iconst (v := 1) hx hb dX12_tries_14 (by decide) ?_
    obtain ⟨dk_2, hdk_2a, hdk_2b, edk_2⟩ := DI.n1 hDI
    refine va_iald hx hb hKW.1 hP 1 0 rfl rfl (show ¬ _ by decide) dX12_tries_15 ?_
    refine k_top (y := nI dk_2) edk_2 ?_
    refine lv_icmp_ne (tgt := 95) hx hb dX12_tries_16 (by decide) (fun c_3 => ?_) (fun c_3 => ?_)
    · have c_3n : ¬ 4 = dk_2 := fun h => c_3 ((k_eqI (a := 4) (b := dk_2) (by omega) (by omega)).mpr h)
      refine lv_aload_n hx hb dX12_tries_95 rfl (lv_at hl 0 rfl) ?_
      refine va_get (ci := 12) (C := RX12) (T := TX12) (N := 20) hx hb hts inlX12 hown hKW.1 hP 0 rfl rfl 0 (by decide) (hts _ wd_6_5) (fun _ h => h) rfl dX12_tries_96 ?_
      refine lv_bipush (v := 33) hx hb dX12_tries_99 (by decide) ?_
      refine lv_iload_n hx hb dX12_tries_101 rfl (lv_at hl 1 rfl) ?_
      refine lv_iadd hx hb dX12_tries_102 ?_
      refine k_top (y := 37) (by decide) ?_
      refine va_iald hx hb hKW.1 hP 1 0 rfl rfl (show ¬ _ by decide) dX12_tries_103 ?_
      refine lv_topi (fun x_4 ex_4 => ?_)
      refine lv_istore_n (lv' := [(3, .int x_4), (0, .ref (z 0)), (1, .int 4), (2, .int x)]) hx hb dX12_tries_104 rfl hl (by decide) rfl (fun ls hl => ?_)
      refine lv_iload_n hx hb dX12_tries_105 rfl (lv_at hl 0 rfl) ?_
      refine lv_if_ge (tgt := 124) hx hb dX12_tries_106 (by decide) (fun c_5 => ?_) (fun c_5 => ?_)
      · refine lv_iconst (v := 0) hx hb dX12_tries_124 (by decide) ?_
        refine lv_istore (lv' := [(4, .int 0), (3, .int x_4), (0, .ref (z 0)), (1, .int 4), (2, .int x)]) hx hb dX12_tries_125 hl (by decide) rfl (fun ls hl => ?_)
        have L127 : ∀ (n127 : Nat) (i : Nat) (y0 : Int32) (y1 : Int32) (y2 : Int32) (y3 : Int32) (sa : Nat → Int32) (ta : Nat → Int32) (ba : Nat → Int32) (hfuel127 : 5 - i < n127) (hi : i ≤ 5) (H : Heap) (locs : List Loc) (hP : va_P g.1 vwCl [(z 0, .inr (12, [.ref (z 1), .ref (z 2), .int (nI kp), .int y0, .ref (z 3), .ref (z 4), .ref (z 5), .ref (z 6), .int y1, .ref (z 7), .ref (z 8), .ref (z 9), .ref (z 10), .ref (z 11), .ref (z 12), .int y2, .ref (z 13), .ref (z 14), .int y3, .ref (z 15)])), (z 1, .inl (gI g, 461, .inl D)), (z 8, .inl (gI g, 5, .inl sa)), (z 9, .inl (gI g, 5, .inl f1)), (z 10, .inl (gZ g, 5, .inl f2)), (z 11, .inl (gI g, 7, .inl ta)), (z 12, .inl (gI g, 7, .inl ba))] H) (hD : va_D A [(z 0, .inr (12, [.ref (z 1), .ref (z 2), .int (nI kp), .int y0, .ref (z 3), .ref (z 4), .ref (z 5), .ref (z 6), .int y1, .ref (z 7), .ref (z 8), .ref (z 9), .ref (z 10), .ref (z 11), .ref (z 12), .int y2, .ref (z 13), .ref (z 14), .int y3, .ref (z 15)])), (z 1, .inl (gI g, 461, .inl D)), (z 8, .inl (gI g, 5, .inl sa)), (z 9, .inl (gI g, 5, .inl f1)), (z 10, .inl (gZ g, 5, .inl f2)), (z 11, .inl (gI g, 7, .inl ta)), (z 12, .inl (gI g, 7, .inl ba))]) (hS : va_S A s.heap H locs) (ls : Array Slot) (hl : lv_has ls 5 [(4, .int (nI i)), (3, .int x_4), (0, .ref (z 0)), (1, .int 4), (2, .int x)]), W p l e (kR 6 0 0) s m ([.ref (z 0), .int 4, .int x] : List Value).toArray below meth c H locs 0 0 (kQv g A below ([.ref (z 0), .int 4, .int x] : List Value).toArray s 0 0 (fun (u : (Nat → Int32) × (Nat → Int32) × (Nat → Int32) × (Nat → Int32)) => True) (fun (u : (Nat → Int32) × (Nat → Int32) × (Nat → Int32) × (Nat → Int32)) => ([(z 0, .inr (12, [.ref (z 1), .ref (z 2), .int (nI kp), .int (u.1 0), .ref (z 3), .ref (z 4), .ref (z 5), .ref (z 6), .int (u.1 1), .ref (z 7), .ref (z 8), .ref (z 9), .ref (z 10), .ref (z 11), .ref (z 12), .int (u.1 2), .ref (z 13), .ref (z 14), .int (u.1 3), .ref (z 15)])), (z 1, .inl (gI g, 461, .inl D)), (z 8, .inl (gI g, 5, .inl u.2.1)), (z 9, .inl (gI g, 5, .inl f1)), (z 10, .inl (gZ g, 5, .inl f2)), (z 11, .inl (gI g, 7, .inl u.2.2.1)), (z 12, .inl (gI g, 7, .inl u.2.2.2))] : va_W))) (F0 m 127 ls []) := by
          intro n127
          induction n127 with
          | zero => intro i y0 y1 y2 y3 sa ta ba hfuel127; exact absurd hfuel127 (Nat.not_lt_zero _)
          | succ n127 ih127 =>
            intro i y0 y1 y2 y3 sa ta ba hfuel127 hi H locs hP hD hS ls hl
            refine lv_iload hx hb dX12_tries_127 (lv_at hl 0 rfl) ?_
            refine lv_aload_n hx hb dX12_tries_129 rfl (lv_at hl 2 rfl) ?_
            refine va_get (ci := 12) (C := RX12) (T := TX12) (N := 20) hx hb hts inlX12 hown hKW.1 hP 0 rfl rfl 0 (by decide) (hts _ wd_6_5) (fun _ h => h) rfl dX12_tries_130 ?_
            refine lv_iconst (v := 0) hx hb dX12_tries_133 (by decide) ?_
            obtain ⟨dk_6, hdk_6a, hdk_6b, edk_6⟩ := DI.n0 hDI
            refine va_iald hx hb hKW.1 hP 1 0 rfl rfl (show ¬ _ by decide) dX12_tries_134 ?_
            refine k_top (y := nI dk_6) edk_6 ?_
            refine lv_icmp_ge (tgt := 212) hx hb dX12_tries_135 (by decide) (fun c_7 => ?_) (fun c_7 => ?_)
            · have c_7n : dk_6 ≤ i := (k_leI (a := dk_6) (b := i) (by omega) (by omega)).mp c_7
              exact k_vret ((fun kk_ => ([y0, y1, y2, y3] : List Int32).getD kk_ 0), sa, ta, ba) [0, 1, 2, 3, 4, 5, 6] hx hb hr hlk hP hD hS trivial rfl rfl rfl (Nat.le_of_ble_eq_true rfl) (Nat.le_of_ble_eq_true rfl) dX12_tries_212
            · have c_7n : i < dk_6 := Nat.not_le.mp (fun h => c_7 ((k_leI (a := dk_6) (b := i) (by omega) (by omega)).mpr h))
              refine lv_aload_n hx hb dX12_tries_138 rfl (lv_at hl 2 rfl) ?_
              refine va_get (ci := 12) (C := RX12) (T := TX12) (N := 20) hx hb hts inlX12 hown hKW.1 hP 0 rfl rfl 0 (by decide) (hts _ wd_6_5) (fun _ h => h) rfl dX12_tries_139 ?_
              refine lv_bipush (v := 40) hx hb dX12_tries_142 (by decide) ?_
              refine lv_iload_n hx hb dX12_tries_144 rfl (lv_at hl 3 rfl) ?_
              refine lv_iadd hx hb dX12_tries_145 ?_
              refine k_top (y := 44) (by decide) ?_
              refine va_iald hx hb hKW.1 hP 1 0 rfl rfl (show ¬ _ by decide) dX12_tries_146 ?_
              refine lv_topi (fun x_8 ex_8 => ?_)
              refine lv_if_ne (tgt := 212) hx hb dX12_tries_147 (by decide) (fun c_9 => ?_) (fun c_9 => ?_)
              · exact k_vret ((fun kk_ => ([y0, y1, y2, y3] : List Int32).getD kk_ 0), sa, ta, ba) [0, 1, 2, 3, 4, 5, 6] hx hb hr hlk hP hD hS trivial rfl rfl rfl (Nat.le_of_ble_eq_true rfl) (Nat.le_of_ble_eq_true rfl) dX12_tries_212
              · refine lv_aload_n hx hb dX12_tries_150 rfl (lv_at hl 2 rfl) ?_
                refine va_get (ci := 12) (C := RX12) (T := TX12) (N := 20) hx hb hts inlX12 hown hKW.1 hP 0 rfl rfl 13 (by decide) (hts _ wd_6_16) (fun _ h => h) rfl dX12_tries_151 ?_
                refine lv_iload_n hx hb dX12_tries_154 rfl (lv_at hl 3 rfl) ?_
                refine lv_iload hx hb dX12_tries_155 (lv_at hl 0 rfl) ?_
                refine va_iast hx hb hKW.1 hP hD hS 5 0 rfl rfl (show ¬ _ by decide) dX12_tries_157 (fun H locs hP hD hS => ?_)
                have hP : va_P g.1 vwCl [(z 0, .inr (12, [.ref (z 1), .ref (z 2), .int (nI kp), .int y0, .ref (z 3), .ref (z 4), .ref (z 5), .ref (z 6), .int y1, .ref (z 7), .ref (z 8), .ref (z 9), .ref (z 10), .ref (z 11), .ref (z 12), .int y2, .ref (z 13), .ref (z 14), .int y3, .ref (z 15)])), (z 1, .inl (gI g, 461, .inl D)), (z 8, .inl (gI g, 5, .inl sa)), (z 9, .inl (gI g, 5, .inl f1)), (z 10, .inl (gZ g, 5, .inl f2)), (z 11, .inl (gI g, 7, .inl (upd ta 4 (nI i)))), (z 12, .inl (gI g, 7, .inl ba))] H := hP
                have hD : va_D A [(z 0, .inr (12, [.ref (z 1), .ref (z 2), .int (nI kp), .int y0, .ref (z 3), .ref (z 4), .ref (z 5), .ref (z 6), .int y1, .ref (z 7), .ref (z 8), .ref (z 9), .ref (z 10), .ref (z 11), .ref (z 12), .int y2, .ref (z 13), .ref (z 14), .int y3, .ref (z 15)])), (z 1, .inl (gI g, 461, .inl D)), (z 8, .inl (gI g, 5, .inl sa)), (z 9, .inl (gI g, 5, .inl f1)), (z 10, .inl (gZ g, 5, .inl f2)), (z 11, .inl (gI g, 7, .inl (upd ta 4 (nI i)))), (z 12, .inl (gI g, 7, .inl ba))] := hD
                obtain ⟨f_10, ef_10⟩ : ∃ zz_ : Nat → Int32, zz_ = upd ta 4 (nI i) := ⟨_, rfl⟩
                rw [← ef_10] at hP hD
                refine lv_aload_n hx hb dX12_tries_158 rfl (lv_at hl 2 rfl) ?_
                refine va_get (ci := 12) (C := RX12) (T := TX12) (N := 20) hx hb hts inlX12 hown hKW.1 hP 0 rfl rfl 10 (by decide) (hts _ wd_6_12) (fun _ h => h) rfl dX12_tries_159 ?_
                refine lv_iload hx hb dX12_tries_162 (lv_at hl 0 rfl) ?_
                refine lv_dup2_11 hx hb dX12_tries_164 rfl rfl ?_
                refine va_iald hx hb hKW.1 hP 2 0 rfl rfl (vp_in_nI (by omega) (by decide)) dX12_tries_165 ?_
                refine lv_topi (fun x_11 ex_11 => ?_)
                refine lv_iconst (v := 1) hx hb dX12_tries_166 (by decide) ?_
                refine lv_iload_n hx hb dX12_tries_167 rfl (lv_at hl 3 rfl) ?_
                refine lv_ishl hx hb dX12_tries_168 ?_
                refine k_top (y := 16) (by decide) ?_
                refine lv_ior hx hb dX12_tries_169 ?_
                refine lv_topi (fun x_12 ex_12 => ?_)
                refine va_iast hx hb hKW.1 hP hD hS 2 0 rfl rfl (vp_in_nI (by omega) (by decide)) dX12_tries_170 (fun H locs hP hD hS => ?_)
                have hP : va_P g.1 vwCl [(z 0, .inr (12, [.ref (z 1), .ref (z 2), .int (nI kp), .int y0, .ref (z 3), .ref (z 4), .ref (z 5), .ref (z 6), .int y1, .ref (z 7), .ref (z 8), .ref (z 9), .ref (z 10), .ref (z 11), .ref (z 12), .int y2, .ref (z 13), .ref (z 14), .int y3, .ref (z 15)])), (z 1, .inl (gI g, 461, .inl D)), (z 8, .inl (gI g, 5, .inl (upd sa (nI i).toNatClampNeg x_12))), (z 9, .inl (gI g, 5, .inl f1)), (z 10, .inl (gZ g, 5, .inl f2)), (z 11, .inl (gI g, 7, .inl f_10)), (z 12, .inl (gI g, 7, .inl ba))] H := hP
                have hD : va_D A [(z 0, .inr (12, [.ref (z 1), .ref (z 2), .int (nI kp), .int y0, .ref (z 3), .ref (z 4), .ref (z 5), .ref (z 6), .int y1, .ref (z 7), .ref (z 8), .ref (z 9), .ref (z 10), .ref (z 11), .ref (z 12), .int y2, .ref (z 13), .ref (z 14), .int y3, .ref (z 15)])), (z 1, .inl (gI g, 461, .inl D)), (z 8, .inl (gI g, 5, .inl (upd sa (nI i).toNatClampNeg x_12))), (z 9, .inl (gI g, 5, .inl f1)), (z 10, .inl (gZ g, 5, .inl f2)), (z 11, .inl (gI g, 7, .inl f_10)), (z 12, .inl (gI g, 7, .inl ba))] := hD
                obtain ⟨f_13, ef_13⟩ : ∃ zz_ : Nat → Int32, zz_ = upd sa (nI i).toNatClampNeg x_12 := ⟨_, rfl⟩
                rw [← ef_13] at hP hD
                refine lv_aload_n hx hb dX12_tries_171 rfl (lv_at hl 2 rfl) ?_
                refine lv_iload_n hx hb dX12_tries_172 rfl (lv_at hl 3 rfl) ?_
                refine lv_iconst (v := 1) hx hb dX12_tries_173 (by decide) ?_
                refine lv_iadd hx hb dX12_tries_174 ?_
                refine k_top (y := 5) (by decide) ?_
                refine lv_iload hx hb dX12_tries_175 (lv_at hl 0 rfl) ?_
                refine lv_iload_n hx hb dX12_tries_177 rfl (lv_at hl 1 rfl) ?_
                refine lv_icmp_ne (tgt := 185) hx hb dX12_tries_178 (by decide) (fun c_14 => ?_) (fun c_14 => ?_)
                · refine lv_iload_n hx hb dX12_tries_185 rfl (lv_at hl 4 rfl) ?_
                  refine lv_iconst (v := 1) hx hb dX12_tries_186 (by decide) ?_
                  refine lv_iadd hx hb dX12_tries_187 ?_
                  refine lv_topi (fun x_15 ex_15 => ?_)
                  refine k_Vv [0, 1, 2, 3, 4, 5, 6] [] 0 12 (wr := []) hx hb hml hown hts hKW hP hD hS hA hl.1 (c_X12_tries_5 l g _ z kp (fun kk_ => ([y0, y1, y2, y3] : List Int32).getD kk_ 0) D f_13 f1 f2 f_10 ba x_15 (by first | assumption | omega | decide) (by rw [edk_2, k_nIi (by omega)]; have q := hh; rw [edk_2, k_nIi (by omega)] at q; omega)) rfl rfl rfl wd_31_9 wd_1_5 wd_31_6 wd_31_7 wd_31_8 yd_X12_tries ⟨(Nat.le_of_ble_eq_true rfl), (Nat.le_of_ble_eq_true rfl)⟩ rfl rfl rfl rfl (by decide) rfl (Nat.le_of_ble_eq_true rfl) dX12_tries_188 ⟨(Nat.le_of_ble_eq_true rfl), (Nat.le_of_ble_eq_true rfl)⟩ (fun u_17 H locs hw_18 hP hD hS => ?_)
                  obtain ⟨f_19, f_20, f_21, f_22⟩ := u_17
                  have hP : va_P g.1 vwCl [(z 0, .inr (12, [.ref (z 1), .ref (z 2), .int (nI kp), .int (f_19 0), .ref (z 3), .ref (z 4), .ref (z 5), .ref (z 6), .int (f_19 1), .ref (z 7), .ref (z 8), .ref (z 9), .ref (z 10), .ref (z 11), .ref (z 12), .int (f_19 2), .ref (z 13), .ref (z 14), .int (f_19 3), .ref (z 15)])), (z 1, .inl (gI g, 461, .inl D)), (z 8, .inl (gI g, 5, .inl f_20)), (z 9, .inl (gI g, 5, .inl f1)), (z 10, .inl (gZ g, 5, .inl f2)), (z 11, .inl (gI g, 7, .inl f_21)), (z 12, .inl (gI g, 7, .inl f_22))] H := hP
                  have hD : va_D A [(z 0, .inr (12, [.ref (z 1), .ref (z 2), .int (nI kp), .int (f_19 0), .ref (z 3), .ref (z 4), .ref (z 5), .ref (z 6), .int (f_19 1), .ref (z 7), .ref (z 8), .ref (z 9), .ref (z 10), .ref (z 11), .ref (z 12), .int (f_19 2), .ref (z 13), .ref (z 14), .int (f_19 3), .ref (z 15)])), (z 1, .inl (gI g, 461, .inl D)), (z 8, .inl (gI g, 5, .inl f_20)), (z 9, .inl (gI g, 5, .inl f1)), (z 10, .inl (gZ g, 5, .inl f2)), (z 11, .inl (gI g, 7, .inl f_21)), (z 12, .inl (gI g, 7, .inl f_22))] := hD
                  refine lv_aload_n hx hb dX12_tries_191 rfl (lv_at hl 2 rfl) ?_
                  refine va_get (ci := 12) (C := RX12) (T := TX12) (N := 20) hx hb hts inlX12 hown hKW.1 hP 0 rfl rfl 10 (by decide) (hts _ wd_6_12) (fun _ h => h) rfl dX12_tries_192 ?_
                  refine lv_iload hx hb dX12_tries_195 (lv_at hl 0 rfl) ?_
                  refine lv_dup2_11 hx hb dX12_tries_197 rfl rfl ?_
                  refine va_iald hx hb hKW.1 hP 2 0 rfl rfl (vp_in_nI (by omega) (by decide)) dX12_tries_198 ?_
                  refine lv_topi (fun x_23 ex_23 => ?_)
                  refine lv_iconst (v := 1) hx hb dX12_tries_199 (by decide) ?_
                  refine lv_iload_n hx hb dX12_tries_200 rfl (lv_at hl 3 rfl) ?_
                  refine lv_ishl hx hb dX12_tries_201 ?_
                  refine k_top (y := 16) (by decide) ?_
                  refine lv_iconst (v := (-1)) hx hb dX12_tries_202 (by decide) ?_
                  refine lv_ixor hx hb dX12_tries_203 ?_
                  refine k_top (y := (-17)) (by decide) ?_
                  refine lv_iand hx hb dX12_tries_204 ?_
                  refine lv_topi (fun x_24 ex_24 => ?_)
                  refine va_iast hx hb hKW.1 hP hD hS 2 0 rfl rfl (vp_in_nI (by omega) (by decide)) dX12_tries_205 (fun H locs hP hD hS => ?_)
                  have hP : va_P g.1 vwCl [(z 0, .inr (12, [.ref (z 1), .ref (z 2), .int (nI kp), .int (f_19 0), .ref (z 3), .ref (z 4), .ref (z 5), .ref (z 6), .int (f_19 1), .ref (z 7), .ref (z 8), .ref (z 9), .ref (z 10), .ref (z 11), .ref (z 12), .int (f_19 2), .ref (z 13), .ref (z 14), .int (f_19 3), .ref (z 15)])), (z 1, .inl (gI g, 461, .inl D)), (z 8, .inl (gI g, 5, .inl (upd f_20 (nI i).toNatClampNeg x_24))), (z 9, .inl (gI g, 5, .inl f1)), (z 10, .inl (gZ g, 5, .inl f2)), (z 11, .inl (gI g, 7, .inl f_21)), (z 12, .inl (gI g, 7, .inl f_22))] H := hP
                  have hD : va_D A [(z 0, .inr (12, [.ref (z 1), .ref (z 2), .int (nI kp), .int (f_19 0), .ref (z 3), .ref (z 4), .ref (z 5), .ref (z 6), .int (f_19 1), .ref (z 7), .ref (z 8), .ref (z 9), .ref (z 10), .ref (z 11), .ref (z 12), .int (f_19 2), .ref (z 13), .ref (z 14), .int (f_19 3), .ref (z 15)])), (z 1, .inl (gI g, 461, .inl D)), (z 8, .inl (gI g, 5, .inl (upd f_20 (nI i).toNatClampNeg x_24))), (z 9, .inl (gI g, 5, .inl f1)), (z 10, .inl (gZ g, 5, .inl f2)), (z 11, .inl (gI g, 7, .inl f_21)), (z 12, .inl (gI g, 7, .inl f_22))] := hD
                  obtain ⟨f_25, ef_25⟩ : ∃ zz_ : Nat → Int32, zz_ = upd f_20 (nI i).toNatClampNeg x_24 := ⟨_, rfl⟩
                  rw [← ef_25] at hP hD
                  refine lv_iinc (v := nI (i + 1)) (lv' := [(4, .int (nI (i + 1))), (3, .int x_4), (0, .ref (z 0)), (1, .int 4), (2, .int x)]) hx hb dX12_tries_206 hl (k := 0) rfl (nI_add i 1) (by decide) rfl (fun ls hl => ?_)
                  refine lv_goto (tgt := 127) hx hb dX12_tries_209 (by decide) ?_
                  exact ih127 (i + 1) (f_19 0) (f_19 1) (f_19 2) (f_19 3) f_25 f_21 f_22 (by omega) (by first | assumption | omega) H locs (hP.sub [0, 1, 2, 3, 4, 5, 6] rfl) (hD.sub [0, 1, 2, 3, 4, 5, 6] (by decide) rfl) hS ls (lv_sub hl [0, 1, 2, 3, 4] rfl)
                · refine lv_iload_n hx hb dX12_tries_181 rfl (lv_at hl 4 rfl) ?_
                  refine lv_goto (tgt := 188) hx hb dX12_tries_182 (by decide) ?_
                  refine k_Vv [0, 1, 2, 3, 4, 5, 6] [] 0 12 (wr := []) hx hb hml hown hts hKW hP hD hS hA hl.1 (c_X12_tries_5 l g _ z kp (fun kk_ => ([y0, y1, y2, y3] : List Int32).getD kk_ 0) D f_13 f1 f2 f_10 ba x (by first | assumption | omega | decide) (by rw [edk_2, k_nIi (by omega)]; have q := hh; rw [edk_2, k_nIi (by omega)] at q; omega)) rfl rfl rfl wd_31_9 wd_1_5 wd_31_6 wd_31_7 wd_31_8 yd_X12_tries ⟨(Nat.le_of_ble_eq_true rfl), (Nat.le_of_ble_eq_true rfl)⟩ rfl rfl rfl rfl (by decide) rfl (Nat.le_of_ble_eq_true rfl) dX12_tries_188 ⟨(Nat.le_of_ble_eq_true rfl), (Nat.le_of_ble_eq_true rfl)⟩ (fun u_27 H locs hw_28 hP hD hS => ?_)
                  obtain ⟨f_29, f_30, f_31, f_32⟩ := u_27
                  have hP : va_P g.1 vwCl [(z 0, .inr (12, [.ref (z 1), .ref (z 2), .int (nI kp), .int (f_29 0), .ref (z 3), .ref (z 4), .ref (z 5), .ref (z 6), .int (f_29 1), .ref (z 7), .ref (z 8), .ref (z 9), .ref (z 10), .ref (z 11), .ref (z 12), .int (f_29 2), .ref (z 13), .ref (z 14), .int (f_29 3), .ref (z 15)])), (z 1, .inl (gI g, 461, .inl D)), (z 8, .inl (gI g, 5, .inl f_30)), (z 9, .inl (gI g, 5, .inl f1)), (z 10, .inl (gZ g, 5, .inl f2)), (z 11, .inl (gI g, 7, .inl f_31)), (z 12, .inl (gI g, 7, .inl f_32))] H := hP
                  have hD : va_D A [(z 0, .inr (12, [.ref (z 1), .ref (z 2), .int (nI kp), .int (f_29 0), .ref (z 3), .ref (z 4), .ref (z 5), .ref (z 6), .int (f_29 1), .ref (z 7), .ref (z 8), .ref (z 9), .ref (z 10), .ref (z 11), .ref (z 12), .int (f_29 2), .ref (z 13), .ref (z 14), .int (f_29 3), .ref (z 15)])), (z 1, .inl (gI g, 461, .inl D)), (z 8, .inl (gI g, 5, .inl f_30)), (z 9, .inl (gI g, 5, .inl f1)), (z 10, .inl (gZ g, 5, .inl f2)), (z 11, .inl (gI g, 7, .inl f_31)), (z 12, .inl (gI g, 7, .inl f_32))] := hD
                  refine lv_aload_n hx hb dX12_tries_191 rfl (lv_at hl 2 rfl) ?_
                  refine va_get (ci := 12) (C := RX12) (T := TX12) (N := 20) hx hb hts inlX12 hown hKW.1 hP 0 rfl rfl 10 (by decide) (hts _ wd_6_12) (fun _ h => h) rfl dX12_tries_192 ?_
                  refine lv_iload hx hb dX12_tries_195 (lv_at hl 0 rfl) ?_
                  refine lv_dup2_11 hx hb dX12_tries_197 rfl rfl ?_
                  refine va_iald hx hb hKW.1 hP 2 0 rfl rfl (vp_in_nI (by omega) (by decide)) dX12_tries_198 ?_
                  refine lv_topi (fun x_33 ex_33 => ?_)
                  refine lv_iconst (v := 1) hx hb dX12_tries_199 (by decide) ?_
                  refine lv_iload_n hx hb dX12_tries_200 rfl (lv_at hl 3 rfl) ?_
                  refine lv_ishl hx hb dX12_tries_201 ?_
                  refine k_top (y := 16) (by decide) ?_
                  refine lv_iconst (v := (-1)) hx hb dX12_tries_202 (by decide) ?_
                  refine lv_ixor hx hb dX12_tries_203 ?_
                  refine k_top (y := (-17)) (by decide) ?_
                  refine lv_iand hx hb dX12_tries_204 ?_
                  refine lv_topi (fun x_34 ex_34 => ?_)
                  refine va_iast hx hb hKW.1 hP hD hS 2 0 rfl rfl (vp_in_nI (by omega) (by decide)) dX12_tries_205 (fun H locs hP hD hS => ?_)
                  have hP : va_P g.1 vwCl [(z 0, .inr (12, [.ref (z 1), .ref (z 2), .int (nI kp), .int (f_29 0), .ref (z 3), .ref (z 4), .ref (z 5), .ref (z 6), .int (f_29 1), .ref (z 7), .ref (z 8), .ref (z 9), .ref (z 10), .ref (z 11), .ref (z 12), .int (f_29 2), .ref (z 13), .ref (z 14), .int (f_29 3), .ref (z 15)])), (z 1, .inl (gI g, 461, .inl D)), (z 8, .inl (gI g, 5, .inl (upd f_30 (nI i).toNatClampNeg x_34))), (z 9, .inl (gI g, 5, .inl f1)), (z 10, .inl (gZ g, 5, .inl f2)), (z 11, .inl (gI g, 7, .inl f_31)), (z 12, .inl (gI g, 7, .inl f_32))] H := hP
                  have hD : va_D A [(z 0, .inr (12, [.ref (z 1), .ref (z 2), .int (nI kp), .int (f_29 0), .ref (z 3), .ref (z 4), .ref (z 5), .ref (z 6), .int (f_29 1), .ref (z 7), .ref (z 8), .ref (z 9), .ref (z 10), .ref (z 11), .ref (z 12), .int (f_29 2), .ref (z 13), .ref (z 14), .int (f_29 3), .ref (z 15)])), (z 1, .inl (gI g, 461, .inl D)), (z 8, .inl (gI g, 5, .inl (upd f_30 (nI i).toNatClampNeg x_34))), (z 9, .inl (gI g, 5, .inl f1)), (z 10, .inl (gZ g, 5, .inl f2)), (z 11, .inl (gI g, 7, .inl f_31)), (z 12, .inl (gI g, 7, .inl f_32))] := hD
                  obtain ⟨f_35, ef_35⟩ : ∃ zz_ : Nat → Int32, zz_ = upd f_30 (nI i).toNatClampNeg x_34 := ⟨_, rfl⟩
                  rw [← ef_35] at hP hD
                  refine lv_iinc (v := nI (i + 1)) (lv' := [(4, .int (nI (i + 1))), (3, .int x_4), (0, .ref (z 0)), (1, .int 4), (2, .int x)]) hx hb dX12_tries_206 hl (k := 0) rfl (nI_add i 1) (by decide) rfl (fun ls hl => ?_)
                  refine lv_goto (tgt := 127) hx hb dX12_tries_209 (by decide) ?_
                  exact ih127 (i + 1) (f_29 0) (f_29 1) (f_29 2) (f_29 3) f_35 f_31 f_32 (by omega) (by first | assumption | omega) H locs (hP.sub [0, 1, 2, 3, 4, 5, 6] rfl) (hD.sub [0, 1, 2, 3, 4, 5, 6] (by decide) rfl) hS ls (lv_sub hl [0, 1, 2, 3, 4] rfl)
        exact L127 (5 - 0 + 1) 0 (xs 0) (xs 1) (xs 2) (xs 3) f0 f3 f4 (Nat.lt_succ_self _) (by first | assumption | omega) H locs (hP.sub [0, 1, 2, 3, 4, 5, 6] rfl) (hD.sub [0, 1, 2, 3, 4, 5, 6] (by decide) rfl) hS ls (lv_sub hl [0, 1, 2, 3, 4] rfl)
      · refine lv_aload_n hx hb dX12_tries_109 rfl (lv_at hl 1 rfl) ?_
        refine va_get (ci := 12) (C := RX12) (T := TX12) (N := 20) hx hb hts inlX12 hown hKW.1 hP 0 rfl rfl 13 (by decide) (hts _ wd_6_16) (fun _ h => h) rfl dX12_tries_110 ?_
        refine lv_iload_n hx hb dX12_tries_113 rfl (lv_at hl 2 rfl) ?_
        refine lv_iconst (v := (-1)) hx hb dX12_tries_114 (by decide) ?_
        refine va_iast hx hb hKW.1 hP hD hS 5 0 rfl rfl (show ¬ _ by decide) dX12_tries_115 (fun H locs hP hD hS => ?_)
        have hP : va_P g.1 vwCl [(z 0, .inr (12, [.ref (z 1), .ref (z 2), .int (nI kp), .int (xs 0), .ref (z 3), .ref (z 4), .ref (z 5), .ref (z 6), .int (xs 1), .ref (z 7), .ref (z 8), .ref (z 9), .ref (z 10), .ref (z 11), .ref (z 12), .int (xs 2), .ref (z 13), .ref (z 14), .int (xs 3), .ref (z 15)])), (z 1, .inl (gI g, 461, .inl D)), (z 8, .inl (gI g, 5, .inl f0)), (z 9, .inl (gI g, 5, .inl f1)), (z 10, .inl (gZ g, 5, .inl f2)), (z 11, .inl (gI g, 7, .inl (upd f3 4 (-1)))), (z 12, .inl (gI g, 7, .inl f4))] H := hP
        have hD : va_D A [(z 0, .inr (12, [.ref (z 1), .ref (z 2), .int (nI kp), .int (xs 0), .ref (z 3), .ref (z 4), .ref (z 5), .ref (z 6), .int (xs 1), .ref (z 7), .ref (z 8), .ref (z 9), .ref (z 10), .ref (z 11), .ref (z 12), .int (xs 2), .ref (z 13), .ref (z 14), .int (xs 3), .ref (z 15)])), (z 1, .inl (gI g, 461, .inl D)), (z 8, .inl (gI g, 5, .inl f0)), (z 9, .inl (gI g, 5, .inl f1)), (z 10, .inl (gZ g, 5, .inl f2)), (z 11, .inl (gI g, 7, .inl (upd f3 4 (-1)))), (z 12, .inl (gI g, 7, .inl f4))] := hD
        obtain ⟨f_36, ef_36⟩ : ∃ zz_ : Nat → Int32, zz_ = upd f3 4 (-1) := ⟨_, rfl⟩
        rw [← ef_36] at hP hD
        refine lv_aload_n hx hb dX12_tries_116 rfl (lv_at hl 1 rfl) ?_
        refine lv_iload_n hx hb dX12_tries_117 rfl (lv_at hl 2 rfl) ?_
        refine lv_iconst (v := 1) hx hb dX12_tries_118 (by decide) ?_
        refine lv_iadd hx hb dX12_tries_119 ?_
        refine k_top (y := 5) (by decide) ?_
        refine lv_iload_n hx hb dX12_tries_120 rfl (lv_at hl 3 rfl) ?_
        refine k_Vv [0, 1, 2, 3, 4, 5, 6] [] 0 12 (wr := []) hx hb hml hown hts hKW hP hD hS hA hl.1 (c_X12_tries_5 l g _ z kp xs D f0 f1 f2 f_36 f4 x (by first | assumption | omega | decide) (by rw [edk_2, k_nIi (by omega)]; have q := hh; rw [edk_2, k_nIi (by omega)] at q; omega)) rfl rfl rfl wd_31_9 wd_1_5 wd_31_6 wd_31_7 wd_31_8 yd_X12_tries ⟨(Nat.le_of_ble_eq_true rfl), (Nat.le_of_ble_eq_true rfl)⟩ rfl rfl rfl rfl (by decide) rfl (Nat.le_of_ble_eq_true rfl) dX12_tries_121 ⟨(Nat.le_of_ble_eq_true rfl), (Nat.le_of_ble_eq_true rfl)⟩ (fun u_38 H locs hw_39 hP hD hS => ?_)
        obtain ⟨f_40, f_41, f_42, f_43⟩ := u_38
        have hP : va_P g.1 vwCl [(z 0, .inr (12, [.ref (z 1), .ref (z 2), .int (nI kp), .int (f_40 0), .ref (z 3), .ref (z 4), .ref (z 5), .ref (z 6), .int (f_40 1), .ref (z 7), .ref (z 8), .ref (z 9), .ref (z 10), .ref (z 11), .ref (z 12), .int (f_40 2), .ref (z 13), .ref (z 14), .int (f_40 3), .ref (z 15)])), (z 1, .inl (gI g, 461, .inl D)), (z 8, .inl (gI g, 5, .inl f_41)), (z 9, .inl (gI g, 5, .inl f1)), (z 10, .inl (gZ g, 5, .inl f2)), (z 11, .inl (gI g, 7, .inl f_42)), (z 12, .inl (gI g, 7, .inl f_43))] H := hP
        have hD : va_D A [(z 0, .inr (12, [.ref (z 1), .ref (z 2), .int (nI kp), .int (f_40 0), .ref (z 3), .ref (z 4), .ref (z 5), .ref (z 6), .int (f_40 1), .ref (z 7), .ref (z 8), .ref (z 9), .ref (z 10), .ref (z 11), .ref (z 12), .int (f_40 2), .ref (z 13), .ref (z 14), .int (f_40 3), .ref (z 15)])), (z 1, .inl (gI g, 461, .inl D)), (z 8, .inl (gI g, 5, .inl f_41)), (z 9, .inl (gI g, 5, .inl f1)), (z 10, .inl (gZ g, 5, .inl f2)), (z 11, .inl (gI g, 7, .inl f_42)), (z 12, .inl (gI g, 7, .inl f_43))] := hD
        refine lv_iconst (v := 0) hx hb dX12_tries_124 (by decide) ?_
        refine lv_istore (lv' := [(4, .int 0), (3, .int x_4), (0, .ref (z 0)), (1, .int 4), (2, .int x)]) hx hb dX12_tries_125 hl (by decide) rfl (fun ls hl => ?_)
        have L127 : ∀ (n127 : Nat) (i : Nat) (y0 : Int32) (y1 : Int32) (y2 : Int32) (y3 : Int32) (sa : Nat → Int32) (ta : Nat → Int32) (ba : Nat → Int32) (hfuel127 : 5 - i < n127) (hi : i ≤ 5) (H : Heap) (locs : List Loc) (hP : va_P g.1 vwCl [(z 0, .inr (12, [.ref (z 1), .ref (z 2), .int (nI kp), .int y0, .ref (z 3), .ref (z 4), .ref (z 5), .ref (z 6), .int y1, .ref (z 7), .ref (z 8), .ref (z 9), .ref (z 10), .ref (z 11), .ref (z 12), .int y2, .ref (z 13), .ref (z 14), .int y3, .ref (z 15)])), (z 1, .inl (gI g, 461, .inl D)), (z 8, .inl (gI g, 5, .inl sa)), (z 9, .inl (gI g, 5, .inl f1)), (z 10, .inl (gZ g, 5, .inl f2)), (z 11, .inl (gI g, 7, .inl ta)), (z 12, .inl (gI g, 7, .inl ba))] H) (hD : va_D A [(z 0, .inr (12, [.ref (z 1), .ref (z 2), .int (nI kp), .int y0, .ref (z 3), .ref (z 4), .ref (z 5), .ref (z 6), .int y1, .ref (z 7), .ref (z 8), .ref (z 9), .ref (z 10), .ref (z 11), .ref (z 12), .int y2, .ref (z 13), .ref (z 14), .int y3, .ref (z 15)])), (z 1, .inl (gI g, 461, .inl D)), (z 8, .inl (gI g, 5, .inl sa)), (z 9, .inl (gI g, 5, .inl f1)), (z 10, .inl (gZ g, 5, .inl f2)), (z 11, .inl (gI g, 7, .inl ta)), (z 12, .inl (gI g, 7, .inl ba))]) (hS : va_S A s.heap H locs) (ls : Array Slot) (hl : lv_has ls 5 [(4, .int (nI i)), (3, .int x_4), (0, .ref (z 0)), (1, .int 4), (2, .int x)]), W p l e (kR 6 0 0) s m ([.ref (z 0), .int 4, .int x] : List Value).toArray below meth c H locs 0 0 (kQv g A below ([.ref (z 0), .int 4, .int x] : List Value).toArray s 0 0 (fun (u : (Nat → Int32) × (Nat → Int32) × (Nat → Int32) × (Nat → Int32)) => True) (fun (u : (Nat → Int32) × (Nat → Int32) × (Nat → Int32) × (Nat → Int32)) => ([(z 0, .inr (12, [.ref (z 1), .ref (z 2), .int (nI kp), .int (u.1 0), .ref (z 3), .ref (z 4), .ref (z 5), .ref (z 6), .int (u.1 1), .ref (z 7), .ref (z 8), .ref (z 9), .ref (z 10), .ref (z 11), .ref (z 12), .int (u.1 2), .ref (z 13), .ref (z 14), .int (u.1 3), .ref (z 15)])), (z 1, .inl (gI g, 461, .inl D)), (z 8, .inl (gI g, 5, .inl u.2.1)), (z 9, .inl (gI g, 5, .inl f1)), (z 10, .inl (gZ g, 5, .inl f2)), (z 11, .inl (gI g, 7, .inl u.2.2.1)), (z 12, .inl (gI g, 7, .inl u.2.2.2))] : va_W))) (F0 m 127 ls []) := by
          intro n127
          induction n127 with
          | zero => intro i y0 y1 y2 y3 sa ta ba hfuel127; exact absurd hfuel127 (Nat.not_lt_zero _)
          | succ n127 ih127 =>
            intro i y0 y1 y2 y3 sa ta ba hfuel127 hi H locs hP hD hS ls hl
            refine lv_iload hx hb dX12_tries_127 (lv_at hl 0 rfl) ?_
            refine lv_aload_n hx hb dX12_tries_129 rfl (lv_at hl 2 rfl) ?_
            refine va_get (ci := 12) (C := RX12) (T := TX12) (N := 20) hx hb hts inlX12 hown hKW.1 hP 0 rfl rfl 0 (by decide) (hts _ wd_6_5) (fun _ h => h) rfl dX12_tries_130 ?_
            refine lv_iconst (v := 0) hx hb dX12_tries_133 (by decide) ?_
            obtain ⟨dk_44, hdk_44a, hdk_44b, edk_44⟩ := DI.n0 hDI
            refine va_iald hx hb hKW.1 hP 1 0 rfl rfl (show ¬ _ by decide) dX12_tries_134 ?_
            refine k_top (y := nI dk_44) edk_44 ?_
            refine lv_icmp_ge (tgt := 212) hx hb dX12_tries_135 (by decide) (fun c_45 => ?_) (fun c_45 => ?_)
            · have c_45n : dk_44 ≤ i := (k_leI (a := dk_44) (b := i) (by omega) (by omega)).mp c_45
              exact k_vret ((fun kk_ => ([y0, y1, y2, y3] : List Int32).getD kk_ 0), sa, ta, ba) [0, 1, 2, 3, 4, 5, 6] hx hb hr hlk hP hD hS trivial rfl rfl rfl (Nat.le_of_ble_eq_true rfl) (Nat.le_of_ble_eq_true rfl) dX12_tries_212
            · have c_45n : i < dk_44 := Nat.not_le.mp (fun h => c_45 ((k_leI (a := dk_44) (b := i) (by omega) (by omega)).mpr h))
              refine lv_aload_n hx hb dX12_tries_138 rfl (lv_at hl 2 rfl) ?_
              refine va_get (ci := 12) (C := RX12) (T := TX12) (N := 20) hx hb hts inlX12 hown hKW.1 hP 0 rfl rfl 0 (by decide) (hts _ wd_6_5) (fun _ h => h) rfl dX12_tries_139 ?_
              refine lv_bipush (v := 40) hx hb dX12_tries_142 (by decide) ?_
              refine lv_iload_n hx hb dX12_tries_144 rfl (lv_at hl 3 rfl) ?_
              refine lv_iadd hx hb dX12_tries_145 ?_
              refine k_top (y := 44) (by decide) ?_
              refine va_iald hx hb hKW.1 hP 1 0 rfl rfl (show ¬ _ by decide) dX12_tries_146 ?_
              refine lv_topi (fun x_46 ex_46 => ?_)
              refine lv_if_ne (tgt := 212) hx hb dX12_tries_147 (by decide) (fun c_47 => ?_) (fun c_47 => ?_)
              · exact k_vret ((fun kk_ => ([y0, y1, y2, y3] : List Int32).getD kk_ 0), sa, ta, ba) [0, 1, 2, 3, 4, 5, 6] hx hb hr hlk hP hD hS trivial rfl rfl rfl (Nat.le_of_ble_eq_true rfl) (Nat.le_of_ble_eq_true rfl) dX12_tries_212
              · refine lv_aload_n hx hb dX12_tries_150 rfl (lv_at hl 2 rfl) ?_
                refine va_get (ci := 12) (C := RX12) (T := TX12) (N := 20) hx hb hts inlX12 hown hKW.1 hP 0 rfl rfl 13 (by decide) (hts _ wd_6_16) (fun _ h => h) rfl dX12_tries_151 ?_
                refine lv_iload_n hx hb dX12_tries_154 rfl (lv_at hl 3 rfl) ?_
                refine lv_iload hx hb dX12_tries_155 (lv_at hl 0 rfl) ?_
                refine va_iast hx hb hKW.1 hP hD hS 5 0 rfl rfl (show ¬ _ by decide) dX12_tries_157 (fun H locs hP hD hS => ?_)
                have hP : va_P g.1 vwCl [(z 0, .inr (12, [.ref (z 1), .ref (z 2), .int (nI kp), .int y0, .ref (z 3), .ref (z 4), .ref (z 5), .ref (z 6), .int y1, .ref (z 7), .ref (z 8), .ref (z 9), .ref (z 10), .ref (z 11), .ref (z 12), .int y2, .ref (z 13), .ref (z 14), .int y3, .ref (z 15)])), (z 1, .inl (gI g, 461, .inl D)), (z 8, .inl (gI g, 5, .inl sa)), (z 9, .inl (gI g, 5, .inl f1)), (z 10, .inl (gZ g, 5, .inl f2)), (z 11, .inl (gI g, 7, .inl (upd ta 4 (nI i)))), (z 12, .inl (gI g, 7, .inl ba))] H := hP
                have hD : va_D A [(z 0, .inr (12, [.ref (z 1), .ref (z 2), .int (nI kp), .int y0, .ref (z 3), .ref (z 4), .ref (z 5), .ref (z 6), .int y1, .ref (z 7), .ref (z 8), .ref (z 9), .ref (z 10), .ref (z 11), .ref (z 12), .int y2, .ref (z 13), .ref (z 14), .int y3, .ref (z 15)])), (z 1, .inl (gI g, 461, .inl D)), (z 8, .inl (gI g, 5, .inl sa)), (z 9, .inl (gI g, 5, .inl f1)), (z 10, .inl (gZ g, 5, .inl f2)), (z 11, .inl (gI g, 7, .inl (upd ta 4 (nI i)))), (z 12, .inl (gI g, 7, .inl ba))] := hD
                obtain ⟨f_48, ef_48⟩ : ∃ zz_ : Nat → Int32, zz_ = upd ta 4 (nI i) := ⟨_, rfl⟩
                rw [← ef_48] at hP hD
                refine lv_aload_n hx hb dX12_tries_158 rfl (lv_at hl 2 rfl) ?_
                refine va_get (ci := 12) (C := RX12) (T := TX12) (N := 20) hx hb hts inlX12 hown hKW.1 hP 0 rfl rfl 10 (by decide) (hts _ wd_6_12) (fun _ h => h) rfl dX12_tries_159 ?_
                refine lv_iload hx hb dX12_tries_162 (lv_at hl 0 rfl) ?_
                refine lv_dup2_11 hx hb dX12_tries_164 rfl rfl ?_
                refine va_iald hx hb hKW.1 hP 2 0 rfl rfl (vp_in_nI (by omega) (by decide)) dX12_tries_165 ?_
                refine lv_topi (fun x_49 ex_49 => ?_)
                refine lv_iconst (v := 1) hx hb dX12_tries_166 (by decide) ?_
                refine lv_iload_n hx hb dX12_tries_167 rfl (lv_at hl 3 rfl) ?_
                refine lv_ishl hx hb dX12_tries_168 ?_
                refine k_top (y := 16) (by decide) ?_
                refine lv_ior hx hb dX12_tries_169 ?_
                refine lv_topi (fun x_50 ex_50 => ?_)
                refine va_iast hx hb hKW.1 hP hD hS 2 0 rfl rfl (vp_in_nI (by omega) (by decide)) dX12_tries_170 (fun H locs hP hD hS => ?_)
                have hP : va_P g.1 vwCl [(z 0, .inr (12, [.ref (z 1), .ref (z 2), .int (nI kp), .int y0, .ref (z 3), .ref (z 4), .ref (z 5), .ref (z 6), .int y1, .ref (z 7), .ref (z 8), .ref (z 9), .ref (z 10), .ref (z 11), .ref (z 12), .int y2, .ref (z 13), .ref (z 14), .int y3, .ref (z 15)])), (z 1, .inl (gI g, 461, .inl D)), (z 8, .inl (gI g, 5, .inl (upd sa (nI i).toNatClampNeg x_50))), (z 9, .inl (gI g, 5, .inl f1)), (z 10, .inl (gZ g, 5, .inl f2)), (z 11, .inl (gI g, 7, .inl f_48)), (z 12, .inl (gI g, 7, .inl ba))] H := hP
                have hD : va_D A [(z 0, .inr (12, [.ref (z 1), .ref (z 2), .int (nI kp), .int y0, .ref (z 3), .ref (z 4), .ref (z 5), .ref (z 6), .int y1, .ref (z 7), .ref (z 8), .ref (z 9), .ref (z 10), .ref (z 11), .ref (z 12), .int y2, .ref (z 13), .ref (z 14), .int y3, .ref (z 15)])), (z 1, .inl (gI g, 461, .inl D)), (z 8, .inl (gI g, 5, .inl (upd sa (nI i).toNatClampNeg x_50))), (z 9, .inl (gI g, 5, .inl f1)), (z 10, .inl (gZ g, 5, .inl f2)), (z 11, .inl (gI g, 7, .inl f_48)), (z 12, .inl (gI g, 7, .inl ba))] := hD
                obtain ⟨f_51, ef_51⟩ : ∃ zz_ : Nat → Int32, zz_ = upd sa (nI i).toNatClampNeg x_50 := ⟨_, rfl⟩
                rw [← ef_51] at hP hD
                refine lv_aload_n hx hb dX12_tries_171 rfl (lv_at hl 2 rfl) ?_
                refine lv_iload_n hx hb dX12_tries_172 rfl (lv_at hl 3 rfl) ?_
                refine lv_iconst (v := 1) hx hb dX12_tries_173 (by decide) ?_
                refine lv_iadd hx hb dX12_tries_174 ?_
                refine k_top (y := 5) (by decide) ?_
                refine lv_iload hx hb dX12_tries_175 (lv_at hl 0 rfl) ?_
                refine lv_iload_n hx hb dX12_tries_177 rfl (lv_at hl 1 rfl) ?_
                refine lv_icmp_ne (tgt := 185) hx hb dX12_tries_178 (by decide) (fun c_52 => ?_) (fun c_52 => ?_)
                · refine lv_iload_n hx hb dX12_tries_185 rfl (lv_at hl 4 rfl) ?_
                  refine lv_iconst (v := 1) hx hb dX12_tries_186 (by decide) ?_
                  refine lv_iadd hx hb dX12_tries_187 ?_
                  refine lv_topi (fun x_53 ex_53 => ?_)
                  refine k_Vv [0, 1, 2, 3, 4, 5, 6] [] 0 12 (wr := []) hx hb hml hown hts hKW hP hD hS hA hl.1 (c_X12_tries_5 l g _ z kp (fun kk_ => ([y0, y1, y2, y3] : List Int32).getD kk_ 0) D f_51 f1 f2 f_48 ba x_53 (by first | assumption | omega | decide) (by rw [edk_2, k_nIi (by omega)]; have q := hh; rw [edk_2, k_nIi (by omega)] at q; omega)) rfl rfl rfl wd_31_9 wd_1_5 wd_31_6 wd_31_7 wd_31_8 yd_X12_tries ⟨(Nat.le_of_ble_eq_true rfl), (Nat.le_of_ble_eq_true rfl)⟩ rfl rfl rfl rfl (by decide) rfl (Nat.le_of_ble_eq_true rfl) dX12_tries_188 ⟨(Nat.le_of_ble_eq_true rfl), (Nat.le_of_ble_eq_true rfl)⟩ (fun u_55 H locs hw_56 hP hD hS => ?_)
                  obtain ⟨f_57, f_58, f_59, f_60⟩ := u_55
                  have hP : va_P g.1 vwCl [(z 0, .inr (12, [.ref (z 1), .ref (z 2), .int (nI kp), .int (f_57 0), .ref (z 3), .ref (z 4), .ref (z 5), .ref (z 6), .int (f_57 1), .ref (z 7), .ref (z 8), .ref (z 9), .ref (z 10), .ref (z 11), .ref (z 12), .int (f_57 2), .ref (z 13), .ref (z 14), .int (f_57 3), .ref (z 15)])), (z 1, .inl (gI g, 461, .inl D)), (z 8, .inl (gI g, 5, .inl f_58)), (z 9, .inl (gI g, 5, .inl f1)), (z 10, .inl (gZ g, 5, .inl f2)), (z 11, .inl (gI g, 7, .inl f_59)), (z 12, .inl (gI g, 7, .inl f_60))] H := hP
                  have hD : va_D A [(z 0, .inr (12, [.ref (z 1), .ref (z 2), .int (nI kp), .int (f_57 0), .ref (z 3), .ref (z 4), .ref (z 5), .ref (z 6), .int (f_57 1), .ref (z 7), .ref (z 8), .ref (z 9), .ref (z 10), .ref (z 11), .ref (z 12), .int (f_57 2), .ref (z 13), .ref (z 14), .int (f_57 3), .ref (z 15)])), (z 1, .inl (gI g, 461, .inl D)), (z 8, .inl (gI g, 5, .inl f_58)), (z 9, .inl (gI g, 5, .inl f1)), (z 10, .inl (gZ g, 5, .inl f2)), (z 11, .inl (gI g, 7, .inl f_59)), (z 12, .inl (gI g, 7, .inl f_60))] := hD
                  refine lv_aload_n hx hb dX12_tries_191 rfl (lv_at hl 2 rfl) ?_
                  refine va_get (ci := 12) (C := RX12) (T := TX12) (N := 20) hx hb hts inlX12 hown hKW.1 hP 0 rfl rfl 10 (by decide) (hts _ wd_6_12) (fun _ h => h) rfl dX12_tries_192 ?_
                  refine lv_iload hx hb dX12_tries_195 (lv_at hl 0 rfl) ?_
                  refine lv_dup2_11 hx hb dX12_tries_197 rfl rfl ?_
                  refine va_iald hx hb hKW.1 hP 2 0 rfl rfl (vp_in_nI (by omega) (by decide)) dX12_tries_198 ?_
                  refine lv_topi (fun x_61 ex_61 => ?_)
                  refine lv_iconst (v := 1) hx hb dX12_tries_199 (by decide) ?_
                  refine lv_iload_n hx hb dX12_tries_200 rfl (lv_at hl 3 rfl) ?_
                  refine lv_ishl hx hb dX12_tries_201 ?_
                  refine k_top (y := 16) (by decide) ?_
                  refine lv_iconst (v := (-1)) hx hb dX12_tries_202 (by decide) ?_
                  refine lv_ixor hx hb dX12_tries_203 ?_
                  refine k_top (y := (-17)) (by decide) ?_
                  refine lv_iand hx hb dX12_tries_204 ?_
                  refine lv_topi (fun x_62 ex_62 => ?_)
                  refine va_iast hx hb hKW.1 hP hD hS 2 0 rfl rfl (vp_in_nI (by omega) (by decide)) dX12_tries_205 (fun H locs hP hD hS => ?_)
                  have hP : va_P g.1 vwCl [(z 0, .inr (12, [.ref (z 1), .ref (z 2), .int (nI kp), .int (f_57 0), .ref (z 3), .ref (z 4), .ref (z 5), .ref (z 6), .int (f_57 1), .ref (z 7), .ref (z 8), .ref (z 9), .ref (z 10), .ref (z 11), .ref (z 12), .int (f_57 2), .ref (z 13), .ref (z 14), .int (f_57 3), .ref (z 15)])), (z 1, .inl (gI g, 461, .inl D)), (z 8, .inl (gI g, 5, .inl (upd f_58 (nI i).toNatClampNeg x_62))), (z 9, .inl (gI g, 5, .inl f1)), (z 10, .inl (gZ g, 5, .inl f2)), (z 11, .inl (gI g, 7, .inl f_59)), (z 12, .inl (gI g, 7, .inl f_60))] H := hP
                  have hD : va_D A [(z 0, .inr (12, [.ref (z 1), .ref (z 2), .int (nI kp), .int (f_57 0), .ref (z 3), .ref (z 4), .ref (z 5), .ref (z 6), .int (f_57 1), .ref (z 7), .ref (z 8), .ref (z 9), .ref (z 10), .ref (z 11), .ref (z 12), .int (f_57 2), .ref (z 13), .ref (z 14), .int (f_57 3), .ref (z 15)])), (z 1, .inl (gI g, 461, .inl D)), (z 8, .inl (gI g, 5, .inl (upd f_58 (nI i).toNatClampNeg x_62))), (z 9, .inl (gI g, 5, .inl f1)), (z 10, .inl (gZ g, 5, .inl f2)), (z 11, .inl (gI g, 7, .inl f_59)), (z 12, .inl (gI g, 7, .inl f_60))] := hD
                  obtain ⟨f_63, ef_63⟩ : ∃ zz_ : Nat → Int32, zz_ = upd f_58 (nI i).toNatClampNeg x_62 := ⟨_, rfl⟩
                  rw [← ef_63] at hP hD
                  refine lv_iinc (v := nI (i + 1)) (lv' := [(4, .int (nI (i + 1))), (3, .int x_4), (0, .ref (z 0)), (1, .int 4), (2, .int x)]) hx hb dX12_tries_206 hl (k := 0) rfl (nI_add i 1) (by decide) rfl (fun ls hl => ?_)
                  refine lv_goto (tgt := 127) hx hb dX12_tries_209 (by decide) ?_
                  exact ih127 (i + 1) (f_57 0) (f_57 1) (f_57 2) (f_57 3) f_63 f_59 f_60 (by omega) (by first | assumption | omega) H locs (hP.sub [0, 1, 2, 3, 4, 5, 6] rfl) (hD.sub [0, 1, 2, 3, 4, 5, 6] (by decide) rfl) hS ls (lv_sub hl [0, 1, 2, 3, 4] rfl)
                · refine lv_iload_n hx hb dX12_tries_181 rfl (lv_at hl 4 rfl) ?_
                  refine lv_goto (tgt := 188) hx hb dX12_tries_182 (by decide) ?_
                  refine k_Vv [0, 1, 2, 3, 4, 5, 6] [] 0 12 (wr := []) hx hb hml hown hts hKW hP hD hS hA hl.1 (c_X12_tries_5 l g _ z kp (fun kk_ => ([y0, y1, y2, y3] : List Int32).getD kk_ 0) D f_51 f1 f2 f_48 ba x (by first | assumption | omega | decide) (by rw [edk_2, k_nIi (by omega)]; have q := hh; rw [edk_2, k_nIi (by omega)] at q; omega)) rfl rfl rfl wd_31_9 wd_1_5 wd_31_6 wd_31_7 wd_31_8 yd_X12_tries ⟨(Nat.le_of_ble_eq_true rfl), (Nat.le_of_ble_eq_true rfl)⟩ rfl rfl rfl rfl (by decide) rfl (Nat.le_of_ble_eq_true rfl) dX12_tries_188 ⟨(Nat.le_of_ble_eq_true rfl), (Nat.le_of_ble_eq_true rfl)⟩ (fun u_65 H locs hw_66 hP hD hS => ?_)
                  obtain ⟨f_67, f_68, f_69, f_70⟩ := u_65
                  have hP : va_P g.1 vwCl [(z 0, .inr (12, [.ref (z 1), .ref (z 2), .int (nI kp), .int (f_67 0), .ref (z 3), .ref (z 4), .ref (z 5), .ref (z 6), .int (f_67 1), .ref (z 7), .ref (z 8), .ref (z 9), .ref (z 10), .ref (z 11), .ref (z 12), .int (f_67 2), .ref (z 13), .ref (z 14), .int (f_67 3), .ref (z 15)])), (z 1, .inl (gI g, 461, .inl D)), (z 8, .inl (gI g, 5, .inl f_68)), (z 9, .inl (gI g, 5, .inl f1)), (z 10, .inl (gZ g, 5, .inl f2)), (z 11, .inl (gI g, 7, .inl f_69)), (z 12, .inl (gI g, 7, .inl f_70))] H := hP
                  have hD : va_D A [(z 0, .inr (12, [.ref (z 1), .ref (z 2), .int (nI kp), .int (f_67 0), .ref (z 3), .ref (z 4), .ref (z 5), .ref (z 6), .int (f_67 1), .ref (z 7), .ref (z 8), .ref (z 9), .ref (z 10), .ref (z 11), .ref (z 12), .int (f_67 2), .ref (z 13), .ref (z 14), .int (f_67 3), .ref (z 15)])), (z 1, .inl (gI g, 461, .inl D)), (z 8, .inl (gI g, 5, .inl f_68)), (z 9, .inl (gI g, 5, .inl f1)), (z 10, .inl (gZ g, 5, .inl f2)), (z 11, .inl (gI g, 7, .inl f_69)), (z 12, .inl (gI g, 7, .inl f_70))] := hD
                  refine lv_aload_n hx hb dX12_tries_191 rfl (lv_at hl 2 rfl) ?_
                  refine va_get (ci := 12) (C := RX12) (T := TX12) (N := 20) hx hb hts inlX12 hown hKW.1 hP 0 rfl rfl 10 (by decide) (hts _ wd_6_12) (fun _ h => h) rfl dX12_tries_192 ?_
                  refine lv_iload hx hb dX12_tries_195 (lv_at hl 0 rfl) ?_
                  refine lv_dup2_11 hx hb dX12_tries_197 rfl rfl ?_
                  refine va_iald hx hb hKW.1 hP 2 0 rfl rfl (vp_in_nI (by omega) (by decide)) dX12_tries_198 ?_
                  refine lv_topi (fun x_71 ex_71 => ?_)
                  refine lv_iconst (v := 1) hx hb dX12_tries_199 (by decide) ?_
                  refine lv_iload_n hx hb dX12_tries_200 rfl (lv_at hl 3 rfl) ?_
                  refine lv_ishl hx hb dX12_tries_201 ?_
                  refine k_top (y := 16) (by decide) ?_
                  refine lv_iconst (v := (-1)) hx hb dX12_tries_202 (by decide) ?_
                  refine lv_ixor hx hb dX12_tries_203 ?_
                  refine k_top (y := (-17)) (by decide) ?_
                  refine lv_iand hx hb dX12_tries_204 ?_
                  refine lv_topi (fun x_72 ex_72 => ?_)
                  refine va_iast hx hb hKW.1 hP hD hS 2 0 rfl rfl (vp_in_nI (by omega) (by decide)) dX12_tries_205 (fun H locs hP hD hS => ?_)
                  have hP : va_P g.1 vwCl [(z 0, .inr (12, [.ref (z 1), .ref (z 2), .int (nI kp), .int (f_67 0), .ref (z 3), .ref (z 4), .ref (z 5), .ref (z 6), .int (f_67 1), .ref (z 7), .ref (z 8), .ref (z 9), .ref (z 10), .ref (z 11), .ref (z 12), .int (f_67 2), .ref (z 13), .ref (z 14), .int (f_67 3), .ref (z 15)])), (z 1, .inl (gI g, 461, .inl D)), (z 8, .inl (gI g, 5, .inl (upd f_68 (nI i).toNatClampNeg x_72))), (z 9, .inl (gI g, 5, .inl f1)), (z 10, .inl (gZ g, 5, .inl f2)), (z 11, .inl (gI g, 7, .inl f_69)), (z 12, .inl (gI g, 7, .inl f_70))] H := hP
                  have hD : va_D A [(z 0, .inr (12, [.ref (z 1), .ref (z 2), .int (nI kp), .int (f_67 0), .ref (z 3), .ref (z 4), .ref (z 5), .ref (z 6), .int (f_67 1), .ref (z 7), .ref (z 8), .ref (z 9), .ref (z 10), .ref (z 11), .ref (z 12), .int (f_67 2), .ref (z 13), .ref (z 14), .int (f_67 3), .ref (z 15)])), (z 1, .inl (gI g, 461, .inl D)), (z 8, .inl (gI g, 5, .inl (upd f_68 (nI i).toNatClampNeg x_72))), (z 9, .inl (gI g, 5, .inl f1)), (z 10, .inl (gZ g, 5, .inl f2)), (z 11, .inl (gI g, 7, .inl f_69)), (z 12, .inl (gI g, 7, .inl f_70))] := hD
                  obtain ⟨f_73, ef_73⟩ : ∃ zz_ : Nat → Int32, zz_ = upd f_68 (nI i).toNatClampNeg x_72 := ⟨_, rfl⟩
                  rw [← ef_73] at hP hD
                  refine lv_iinc (v := nI (i + 1)) (lv' := [(4, .int (nI (i + 1))), (3, .int x_4), (0, .ref (z 0)), (1, .int 4), (2, .int x)]) hx hb dX12_tries_206 hl (k := 0) rfl (nI_add i 1) (by decide) rfl (fun ls hl => ?_)
                  refine lv_goto (tgt := 127) hx hb dX12_tries_209 (by decide) ?_
                  exact ih127 (i + 1) (f_67 0) (f_67 1) (f_67 2) (f_67 3) f_73 f_69 f_70 (by omega) (by first | assumption | omega) H locs (hP.sub [0, 1, 2, 3, 4, 5, 6] rfl) (hD.sub [0, 1, 2, 3, 4, 5, 6] (by decide) rfl) hS ls (lv_sub hl [0, 1, 2, 3, 4] rfl)
        exact L127 (5 - 0 + 1) 0 (f_40 0) (f_40 1) (f_40 2) (f_40 3) f_41 f_42 f_43 (Nat.lt_succ_self _) (by first | assumption | omega) H locs (hP.sub [0, 1, 2, 3, 4, 5, 6] rfl) (hD.sub [0, 1, 2, 3, 4, 5, 6] (by decide) rfl) hS ls (lv_sub hl [0, 1, 2, 3, 4] rfl)
    · have c_3n : 4 = dk_2 := (k_eqI (a := 4) (b := dk_2) (by omega) (by omega)).mp c_3
      refine lv_iconst (v := 0) hx hb dX12_tries_19 (by decide) ?_
      refine lv_istore_n (lv' := [(3, .int 0), (0, .ref (z 0)), (1, .int 4), (2, .int x)]) hx hb dX12_tries_20 rfl hl (by decide) rfl (fun ls hl => ?_)
      have L21 : ∀ (n21 : Nat) (i : Nat) (hfuel21 : 5 - i < n21) (hi : i ≤ 5) (H : Heap) (locs : List Loc) (hP : va_P g.1 vwCl [(z 0, .inr (12, [.ref (z 1), .ref (z 2), .int (nI kp), .int (xs 0), .ref (z 3), .ref (z 4), .ref (z 5), .ref (z 6), .int (xs 1), .ref (z 7), .ref (z 8), .ref (z 9), .ref (z 10), .ref (z 11), .ref (z 12), .int (xs 2), .ref (z 13), .ref (z 14), .int (xs 3), .ref (z 15)])), (z 1, .inl (gI g, 461, .inl D)), (z 8, .inl (gI g, 5, .inl f0)), (z 9, .inl (gI g, 5, .inl f1)), (z 10, .inl (gZ g, 5, .inl f2)), (z 11, .inl (gI g, 7, .inl f3)), (z 12, .inl (gI g, 7, .inl f4))] H) (hD : va_D A [(z 0, .inr (12, [.ref (z 1), .ref (z 2), .int (nI kp), .int (xs 0), .ref (z 3), .ref (z 4), .ref (z 5), .ref (z 6), .int (xs 1), .ref (z 7), .ref (z 8), .ref (z 9), .ref (z 10), .ref (z 11), .ref (z 12), .int (xs 2), .ref (z 13), .ref (z 14), .int (xs 3), .ref (z 15)])), (z 1, .inl (gI g, 461, .inl D)), (z 8, .inl (gI g, 5, .inl f0)), (z 9, .inl (gI g, 5, .inl f1)), (z 10, .inl (gZ g, 5, .inl f2)), (z 11, .inl (gI g, 7, .inl f3)), (z 12, .inl (gI g, 7, .inl f4))]) (hS : va_S A s.heap H locs) (ls : Array Slot) (hl : lv_has ls 5 [(3, .int (nI i)), (0, .ref (z 0)), (1, .int 4), (2, .int x)]), W p l e (kR 6 0 0) s m ([.ref (z 0), .int 4, .int x] : List Value).toArray below meth c H locs 0 0 (kQv g A below ([.ref (z 0), .int 4, .int x] : List Value).toArray s 0 0 (fun (u : (Nat → Int32) × (Nat → Int32) × (Nat → Int32) × (Nat → Int32)) => True) (fun (u : (Nat → Int32) × (Nat → Int32) × (Nat → Int32) × (Nat → Int32)) => ([(z 0, .inr (12, [.ref (z 1), .ref (z 2), .int (nI kp), .int (u.1 0), .ref (z 3), .ref (z 4), .ref (z 5), .ref (z 6), .int (u.1 1), .ref (z 7), .ref (z 8), .ref (z 9), .ref (z 10), .ref (z 11), .ref (z 12), .int (u.1 2), .ref (z 13), .ref (z 14), .int (u.1 3), .ref (z 15)])), (z 1, .inl (gI g, 461, .inl D)), (z 8, .inl (gI g, 5, .inl u.2.1)), (z 9, .inl (gI g, 5, .inl f1)), (z 10, .inl (gZ g, 5, .inl f2)), (z 11, .inl (gI g, 7, .inl u.2.2.1)), (z 12, .inl (gI g, 7, .inl u.2.2.2))] : va_W))) (F0 m 21 ls []) := by
        intro n21
        induction n21 with
        | zero => intro i hfuel21; exact absurd hfuel21 (Nat.not_lt_zero _)
        | succ n21 ih21 =>
          intro i hfuel21 hi H locs hP hD hS ls hl
          refine lv_iload_n hx hb dX12_tries_21 rfl (lv_at hl 0 rfl) ?_
          refine lv_aload_n hx hb dX12_tries_22 rfl (lv_at hl 1 rfl) ?_
          refine va_get (ci := 12) (C := RX12) (T := TX12) (N := 20) hx hb hts inlX12 hown hKW.1 hP 0 rfl rfl 0 (by decide) (hts _ wd_6_5) (fun _ h => h) rfl dX12_tries_23 ?_
          refine lv_iconst (v := 0) hx hb dX12_tries_26 (by decide) ?_
          obtain ⟨dk_74, hdk_74a, hdk_74b, edk_74⟩ := DI.n0 hDI
          refine va_iald hx hb hKW.1 hP 1 0 rfl rfl (show ¬ _ by decide) dX12_tries_27 ?_
          refine k_top (y := nI dk_74) edk_74 ?_
          refine lv_icmp_ge (tgt := 63) hx hb dX12_tries_28 (by decide) (fun c_75 => ?_) (fun c_75 => ?_)
          · have c_75n : dk_74 ≤ i := (k_leI (a := dk_74) (b := i) (by omega) (by omega)).mp c_75
            refine lv_aload_n hx hb dX12_tries_63 rfl (lv_at hl 1 rfl) ?_
            refine lv_iload_n hx hb dX12_tries_64 rfl (lv_at hl 3 rfl) ?_
            refine va_put (ci := 12) (v := .int x) (C := RX12) (T := TX12) (N := 20) hx hb hts inlX12 tyX12 tyX12_ok nmX12 hown hKW.1 hP hD hS 0 rfl rfl 15 (by decide) (hts _ wd_31_1) (fun _ h => h) rfl (tyX12_ok 15 (by decide)) rfl rfl (Nat.le_of_ble_eq_true rfl) dX12_tries_65 (fun H locs hP hD hS => ?_)
            have hP : va_P g.1 vwCl [(z 0, .inr (12, [.ref (z 1), .ref (z 2), .int (nI kp), .int (xs 0), .ref (z 3), .ref (z 4), .ref (z 5), .ref (z 6), .int (xs 1), .ref (z 7), .ref (z 8), .ref (z 9), .ref (z 10), .ref (z 11), .ref (z 12), .int x, .ref (z 13), .ref (z 14), .int (xs 3), .ref (z 15)])), (z 1, .inl (gI g, 461, .inl D)), (z 8, .inl (gI g, 5, .inl f0)), (z 9, .inl (gI g, 5, .inl f1)), (z 10, .inl (gZ g, 5, .inl f2)), (z 11, .inl (gI g, 7, .inl f3)), (z 12, .inl (gI g, 7, .inl f4))] H := hP
            have hD : va_D A [(z 0, .inr (12, [.ref (z 1), .ref (z 2), .int (nI kp), .int (xs 0), .ref (z 3), .ref (z 4), .ref (z 5), .ref (z 6), .int (xs 1), .ref (z 7), .ref (z 8), .ref (z 9), .ref (z 10), .ref (z 11), .ref (z 12), .int x, .ref (z 13), .ref (z 14), .int (xs 3), .ref (z 15)])), (z 1, .inl (gI g, 461, .inl D)), (z 8, .inl (gI g, 5, .inl f0)), (z 9, .inl (gI g, 5, .inl f1)), (z 10, .inl (gZ g, 5, .inl f2)), (z 11, .inl (gI g, 7, .inl f3)), (z 12, .inl (gI g, 7, .inl f4))] := hD
            refine lv_iconst (v := 0) hx hb dX12_tries_68 (by decide) ?_
            refine lv_istore_n (lv' := [(3, .int 0), (0, .ref (z 0)), (1, .int 4), (2, .int x)]) hx hb dX12_tries_69 rfl hl (by decide) rfl (fun ls hl => ?_)
            have L70 : ∀ (n70 : Nat) (i : Nat) (ga : Nat → Int32) (hfuel70 : 7 - i < n70) (hi : i ≤ 7) (H : Heap) (locs : List Loc) (hP : va_P g.1 vwCl [(z 0, .inr (12, [.ref (z 1), .ref (z 2), .int (nI kp), .int (xs 0), .ref (z 3), .ref (z 4), .ref (z 5), .ref (z 6), .int (xs 1), .ref (z 7), .ref (z 8), .ref (z 9), .ref (z 10), .ref (z 11), .ref (z 12), .int x, .ref (z 13), .ref (z 14), .int (xs 3), .ref (z 15)])), (z 1, .inl (gI g, 461, .inl D)), (z 8, .inl (gI g, 5, .inl f0)), (z 9, .inl (gI g, 5, .inl f1)), (z 10, .inl (gZ g, 5, .inl f2)), (z 11, .inl (gI g, 7, .inl f3)), (z 12, .inl (gI g, 7, .inl ga))] H) (hD : va_D A [(z 0, .inr (12, [.ref (z 1), .ref (z 2), .int (nI kp), .int (xs 0), .ref (z 3), .ref (z 4), .ref (z 5), .ref (z 6), .int (xs 1), .ref (z 7), .ref (z 8), .ref (z 9), .ref (z 10), .ref (z 11), .ref (z 12), .int x, .ref (z 13), .ref (z 14), .int (xs 3), .ref (z 15)])), (z 1, .inl (gI g, 461, .inl D)), (z 8, .inl (gI g, 5, .inl f0)), (z 9, .inl (gI g, 5, .inl f1)), (z 10, .inl (gZ g, 5, .inl f2)), (z 11, .inl (gI g, 7, .inl f3)), (z 12, .inl (gI g, 7, .inl ga))]) (hS : va_S A s.heap H locs) (ls : Array Slot) (hl : lv_has ls 5 [(3, .int (nI i)), (0, .ref (z 0)), (1, .int 4), (2, .int x)]), W p l e (kR 6 0 0) s m ([.ref (z 0), .int 4, .int x] : List Value).toArray below meth c H locs 0 0 (kQv g A below ([.ref (z 0), .int 4, .int x] : List Value).toArray s 0 0 (fun (u : (Nat → Int32) × (Nat → Int32) × (Nat → Int32) × (Nat → Int32)) => True) (fun (u : (Nat → Int32) × (Nat → Int32) × (Nat → Int32) × (Nat → Int32)) => ([(z 0, .inr (12, [.ref (z 1), .ref (z 2), .int (nI kp), .int (u.1 0), .ref (z 3), .ref (z 4), .ref (z 5), .ref (z 6), .int (u.1 1), .ref (z 7), .ref (z 8), .ref (z 9), .ref (z 10), .ref (z 11), .ref (z 12), .int (u.1 2), .ref (z 13), .ref (z 14), .int (u.1 3), .ref (z 15)])), (z 1, .inl (gI g, 461, .inl D)), (z 8, .inl (gI g, 5, .inl u.2.1)), (z 9, .inl (gI g, 5, .inl f1)), (z 10, .inl (gZ g, 5, .inl f2)), (z 11, .inl (gI g, 7, .inl u.2.2.1)), (z 12, .inl (gI g, 7, .inl u.2.2.2))] : va_W))) (F0 m 70 ls []) := by
              intro n70
              induction n70 with
              | zero => intro i ga hfuel70; exact absurd hfuel70 (Nat.not_lt_zero _)
              | succ n70 ih70 =>
                intro i ga hfuel70 hi H locs hP hD hS ls hl
                refine lv_iload_n hx hb dX12_tries_70 rfl (lv_at hl 0 rfl) ?_
                refine lv_bipush (v := 7) hx hb dX12_tries_71 (by decide) ?_
                refine lv_icmp_ge (tgt := 94) hx hb dX12_tries_73 (by decide) (fun c_76 => ?_) (fun c_76 => ?_)
                · have c_76n : 7 ≤ i := (k_leI (a := 7) (b := i) (by omega) (by omega)).mp c_76
                  exact k_vret ((fun kk_ => ([(xs 0), (xs 1), x, (xs 3)] : List Int32).getD kk_ 0), f0, f3, ga) [0, 1, 2, 3, 4, 5, 6] hx hb hr hlk hP hD hS trivial rfl rfl rfl (Nat.le_of_ble_eq_true rfl) (Nat.le_of_ble_eq_true rfl) dX12_tries_94
                · have c_76n : i < 7 := Nat.not_le.mp (fun h => c_76 ((k_leI (a := 7) (b := i) (by omega) (by omega)).mpr h))
                  refine lv_aload_n hx hb dX12_tries_76 rfl (lv_at hl 1 rfl) ?_
                  refine va_get (ci := 12) (C := RX12) (T := TX12) (N := 20) hx hb hts inlX12 hown hKW.1 hP 0 rfl rfl 14 (by decide) (hts _ wd_6_17) (fun _ h => h) rfl dX12_tries_77 ?_
                  refine lv_iload_n hx hb dX12_tries_80 rfl (lv_at hl 0 rfl) ?_
                  refine lv_aload_n hx hb dX12_tries_81 rfl (lv_at hl 1 rfl) ?_
                  refine va_get (ci := 12) (C := RX12) (T := TX12) (N := 20) hx hb hts inlX12 hown hKW.1 hP 0 rfl rfl 13 (by decide) (hts _ wd_6_16) (fun _ h => h) rfl dX12_tries_82 ?_
                  refine lv_iload_n hx hb dX12_tries_85 rfl (lv_at hl 0 rfl) ?_
                  refine va_iald hx hb hKW.1 hP 5 0 rfl rfl (vp_in_nI (by omega) (by decide)) dX12_tries_86 ?_
                  refine lv_topi (fun x_77 ex_77 => ?_)
                  refine va_iast hx hb hKW.1 hP hD hS 6 0 rfl rfl (vp_in_nI (by omega) (by decide)) dX12_tries_87 (fun H locs hP hD hS => ?_)
                  have hP : va_P g.1 vwCl [(z 0, .inr (12, [.ref (z 1), .ref (z 2), .int (nI kp), .int (xs 0), .ref (z 3), .ref (z 4), .ref (z 5), .ref (z 6), .int (xs 1), .ref (z 7), .ref (z 8), .ref (z 9), .ref (z 10), .ref (z 11), .ref (z 12), .int x, .ref (z 13), .ref (z 14), .int (xs 3), .ref (z 15)])), (z 1, .inl (gI g, 461, .inl D)), (z 8, .inl (gI g, 5, .inl f0)), (z 9, .inl (gI g, 5, .inl f1)), (z 10, .inl (gZ g, 5, .inl f2)), (z 11, .inl (gI g, 7, .inl f3)), (z 12, .inl (gI g, 7, .inl (upd ga (nI i).toNatClampNeg x_77)))] H := hP
                  have hD : va_D A [(z 0, .inr (12, [.ref (z 1), .ref (z 2), .int (nI kp), .int (xs 0), .ref (z 3), .ref (z 4), .ref (z 5), .ref (z 6), .int (xs 1), .ref (z 7), .ref (z 8), .ref (z 9), .ref (z 10), .ref (z 11), .ref (z 12), .int x, .ref (z 13), .ref (z 14), .int (xs 3), .ref (z 15)])), (z 1, .inl (gI g, 461, .inl D)), (z 8, .inl (gI g, 5, .inl f0)), (z 9, .inl (gI g, 5, .inl f1)), (z 10, .inl (gZ g, 5, .inl f2)), (z 11, .inl (gI g, 7, .inl f3)), (z 12, .inl (gI g, 7, .inl (upd ga (nI i).toNatClampNeg x_77)))] := hD
                  obtain ⟨f_78, ef_78⟩ : ∃ zz_ : Nat → Int32, zz_ = upd ga (nI i).toNatClampNeg x_77 := ⟨_, rfl⟩
                  rw [← ef_78] at hP hD
                  refine lv_iinc (v := nI (i + 1)) (lv' := [(3, .int (nI (i + 1))), (0, .ref (z 0)), (1, .int 4), (2, .int x)]) hx hb dX12_tries_88 hl (k := 0) rfl (nI_add i 1) (by decide) rfl (fun ls hl => ?_)
                  refine lv_goto (tgt := 70) hx hb dX12_tries_91 (by decide) ?_
                  exact ih70 (i + 1) f_78 (by omega) (by first | assumption | omega) H locs (hP.sub [0, 1, 2, 3, 4, 5, 6] rfl) (hD.sub [0, 1, 2, 3, 4, 5, 6] (by decide) rfl) hS ls (lv_sub hl [0, 1, 2, 3] rfl)
            exact L70 (7 - 0 + 1) 0 f4 (Nat.lt_succ_self _) (by first | assumption | omega) H locs (hP.sub [0, 1, 2, 3, 4, 5, 6] rfl) (hD.sub [0, 1, 2, 3, 4, 5, 6] (by decide) rfl) hS ls (lv_sub hl [0, 1, 2, 3] rfl)
          · have c_75n : i < dk_74 := Nat.not_le.mp (fun h => c_75 ((k_leI (a := dk_74) (b := i) (by omega) (by omega)).mpr h))
            refine lv_aload_n hx hb dX12_tries_31 rfl (lv_at hl 1 rfl) ?_
            refine lv_aload_n hx hb dX12_tries_32 rfl (lv_at hl 1 rfl) ?_
            refine va_get (ci := 12) (C := RX12) (T := TX12) (N := 20) hx hb hts inlX12 hown hKW.1 hP 0 rfl rfl 10 (by decide) (hts _ wd_6_12) (fun _ h => h) rfl dX12_tries_33 ?_
            refine lv_iload_n hx hb dX12_tries_36 rfl (lv_at hl 0 rfl) ?_
            refine va_iald hx hb hKW.1 hP 2 0 rfl rfl (vp_in_nI (by omega) (by decide)) dX12_tries_37 ?_
            refine lv_topi (fun x_79 ex_79 => ?_)
            refine lv_aload_n hx hb dX12_tries_38 rfl (lv_at hl 1 rfl) ?_
            refine va_get (ci := 12) (C := RX12) (T := TX12) (N := 20) hx hb hts inlX12 hown hKW.1 hP 0 rfl rfl 11 (by decide) (hts _ wd_6_13) (fun _ h => h) rfl dX12_tries_39 ?_
            refine lv_iload_n hx hb dX12_tries_42 rfl (lv_at hl 0 rfl) ?_
            refine va_iald hx hb hKW.1 hP 3 0 rfl rfl (vp_in_nI (by omega) (by decide)) dX12_tries_43 ?_
            refine lv_topi (fun x_80 ex_80 => ?_)
            refine lv_aload_n hx hb dX12_tries_44 rfl (lv_at hl 1 rfl) ?_
            refine va_get (ci := 12) (C := RX12) (T := TX12) (N := 20) hx hb hts inlX12 hown hKW.1 hP 0 rfl rfl 12 (by decide) (hts _ wd_6_15) (fun _ h => h) rfl dX12_tries_45 ?_
            refine lv_iload_n hx hb dX12_tries_48 rfl (lv_at hl 0 rfl) ?_
            refine va_zald hx hb hKW.1 hP 4 2 rfl rfl (vp_in_nI (by omega) (by decide)) dX12_tries_49 ?_
            refine lv_topi (fun x_81 ex_81 => ?_)
            refine k_Vi [0, 1] [2, 3, 4, 5, 6] 0 12 (wr := [(z 8, .inl (gI g, 5, .inl f0)), (z 9, .inl (gI g, 5, .inl f1)), (z 10, .inl (gZ g, 5, .inl f2)), (z 11, .inl (gI g, 7, .inl f3)), (z 12, .inl (gI g, 7, .inl f4))]) hx hb hml hown hts hKW hP hD hS hA hl.1 (c_X12_areEnough l g _ z kp xs D x_79 x_80 x_81 (by first | assumption | omega | decide)) rfl rfl rfl wd_28_2 wd_1_5 wd_27_23 wd_28_0 wd_28_1 yd_X12_areEnough ⟨(Nat.le_of_ble_eq_true rfl), (Nat.le_of_ble_eq_true rfl)⟩ rfl rfl rfl rfl (by decide) rfl (Nat.le_of_ble_eq_true rfl) dX12_tries_50 ⟨(Nat.le_of_ble_eq_true rfl), (Nat.le_of_ble_eq_true rfl)⟩ (fun r_82 u_83 H locs hw_84 hP hD hS => ?_)
            have hP : va_P g.1 vwCl [(z 8, .inl (gI g, 5, .inl f0)), (z 9, .inl (gI g, 5, .inl f1)), (z 10, .inl (gZ g, 5, .inl f2)), (z 11, .inl (gI g, 7, .inl f3)), (z 12, .inl (gI g, 7, .inl f4)), (z 0, .inr (12, [.ref (z 1), .ref (z 2), .int (nI kp), .int (xs 0), .ref (z 3), .ref (z 4), .ref (z 5), .ref (z 6), .int (xs 1), .ref (z 7), .ref (z 8), .ref (z 9), .ref (z 10), .ref (z 11), .ref (z 12), .int (xs 2), .ref (z 13), .ref (z 14), .int (xs 3), .ref (z 15)])), (z 1, .inl (gI g, 461, .inl D))] H := hP
            have hD : va_D A [(z 8, .inl (gI g, 5, .inl f0)), (z 9, .inl (gI g, 5, .inl f1)), (z 10, .inl (gZ g, 5, .inl f2)), (z 11, .inl (gI g, 7, .inl f3)), (z 12, .inl (gI g, 7, .inl f4)), (z 0, .inr (12, [.ref (z 1), .ref (z 2), .int (nI kp), .int (xs 0), .ref (z 3), .ref (z 4), .ref (z 5), .ref (z 6), .int (xs 1), .ref (z 7), .ref (z 8), .ref (z 9), .ref (z 10), .ref (z 11), .ref (z 12), .int (xs 2), .ref (z 13), .ref (z 14), .int (xs 3), .ref (z 15)])), (z 1, .inl (gI g, 461, .inl D))] := hD
            rcases (show r_82 = 1 ∨ r_82 = 0 from hw_84) with rfl | rfl <;> clear hw_84
            · refine lv_if_ne (tgt := 57) hx hb dX12_tries_53 (by decide) (fun _ => ?_) (fun c => absurd c (by decide))
              refine lv_iinc (v := nI (i + 1)) (lv' := [(3, .int (nI (i + 1))), (0, .ref (z 0)), (1, .int 4), (2, .int x)]) hx hb dX12_tries_57 hl (k := 0) rfl (nI_add i 1) (by decide) rfl (fun ls hl => ?_)
              refine lv_goto (tgt := 21) hx hb dX12_tries_60 (by decide) ?_
              exact ih21 (i + 1) (by omega) (by first | assumption | omega) H locs (hP.sub [5, 6, 0, 1, 2, 3, 4] rfl) (hD.sub [5, 6, 0, 1, 2, 3, 4] (by decide) rfl) hS ls (lv_sub hl [0, 1, 2, 3] rfl)
            · refine lv_if_ne (tgt := 57) hx hb dX12_tries_53 (by decide) (fun c => absurd c (by decide)) (fun _ => ?_)
              exact k_vret (xs, f0, f3, f4) [5, 6, 0, 1, 2, 3, 4] hx hb hr hlk hP hD hS trivial rfl rfl rfl (Nat.le_of_ble_eq_true rfl) (Nat.le_of_ble_eq_true rfl) dX12_tries_56
      exact L21 (5 - 0 + 1) 0 (Nat.lt_succ_self _) (by first | assumption | omega) H locs (hP.sub [0, 1, 2, 3, 4, 5, 6] rfl) (hD.sub [0, 1, 2, 3, 4, 5, 6] (by decide) rfl) hS ls (lv_sub hl [0, 1, 2, 3] rfl)
  · exact k_vret (xs, f0, f3, f4) [0, 1, 2, 3, 4, 5, 6] hx hb hr hlk hP hD hS trivial rfl rfl rfl (Nat.le_of_ble_eq_true rfl) (Nat.le_of_ble_eq_true rfl) dX12_tries_8
