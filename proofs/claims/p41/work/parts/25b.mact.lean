theorem dX12_child_0 : decode cX12_child 0 = .ok (.iload_n 1, 1) := by decide +kernel
theorem dX12_child_1 : decode cX12_child 1 = .ok (.bipush (-71), 2) := by decide +kernel
theorem dX12_child_3 : decode cX12_child 3 = .ok (.bipush 60, 2) := by decide +kernel
theorem dX12_child_5 : decode cX12_child 5 = .ok (.invokestatic 64, 3) := by decide +kernel
theorem dX12_child_8 : decode cX12_child 8 = .ok (.ifCond .eq 59, 3) := by decide +kernel
theorem dX12_child_11 : decode cX12_child 11 = .ok (.iload_n 2, 1) := by decide +kernel
theorem dX12_child_12 : decode cX12_child 12 = .ok (.iconst (-1), 1) := by decide +kernel
theorem dX12_child_13 : decode cX12_child 13 = .ok (.if_icmp .eq 11, 3) := by decide +kernel
theorem dX12_child_24 : decode cX12_child 24 = .ok (.iload_n 3, 1) := by decide +kernel
theorem dX12_child_25 : decode cX12_child 25 = .ok (.iconst 0, 1) := by decide +kernel
theorem dX12_child_26 : decode cX12_child 26 = .ok (.bipush 31, 2) := by decide +kernel
theorem dX12_child_28 : decode cX12_child 28 = .ok (.invokestatic 64, 3) := by decide +kernel
theorem dX12_child_31 : decode cX12_child 31 = .ok (.ifCond .eq 36, 3) := by decide +kernel
theorem dX12_child_34 : decode cX12_child 34 = .ok (.iload 4, 2) := by decide +kernel
theorem dX12_child_36 : decode cX12_child 36 = .ok (.ifCond .lt 31, 3) := by decide +kernel
theorem dX12_child_67 : decode cX12_child 67 = .ok (.aload_n 0, 1) := by decide +kernel
theorem dX12_child_68 : decode cX12_child 68 = .ok (.iconst 1, 1) := by decide +kernel
theorem dX12_child_69 : decode cX12_child 69 = .ok (.invokevirtual 68, 3) := by decide +kernel
theorem dX12_child_72 : decode cX12_child 72 = .ok (.ireturn, 1) := by decide +kernel
theorem dX12_child_39 : decode cX12_child 39 = .ok (.iload 4, 2) := by decide +kernel
theorem dX12_child_41 : decode cX12_child 41 = .ok (.bipush 100, 2) := by decide +kernel
theorem dX12_child_43 : decode cX12_child 43 = .ok (.idiv, 1) := by decide +kernel
theorem dX12_child_44 : decode cX12_child 44 = .ok (.iconst 0, 1) := by decide +kernel
theorem dX12_child_45 : decode cX12_child 45 = .ok (.bipush 60, 2) := by decide +kernel
theorem dX12_child_47 : decode cX12_child 47 = .ok (.invokestatic 64, 3) := by decide +kernel
theorem dX12_child_50 : decode cX12_child 50 = .ok (.ifCond .eq 17, 3) := by decide +kernel
theorem dX12_child_53 : decode cX12_child 53 = .ok (.iload 4, 2) := by decide +kernel
theorem dX12_child_55 : decode cX12_child 55 = .ok (.bipush 100, 2) := by decide +kernel
theorem dX12_child_57 : decode cX12_child 57 = .ok (.irem, 1) := by decide +kernel
theorem dX12_child_58 : decode cX12_child 58 = .ok (.iconst 0, 1) := by decide +kernel
theorem dX12_child_59 : decode cX12_child 59 = .ok (.bipush 60, 2) := by decide +kernel
theorem dX12_child_61 : decode cX12_child 61 = .ok (.invokestatic 64, 3) := by decide +kernel
theorem dX12_child_64 : decode cX12_child 64 = .ok (.ifCond .ne 9, 3) := by decide +kernel
theorem dX12_child_73 : decode cX12_child 73 = .ok (.iload 4, 2) := by decide +kernel
theorem dX12_child_75 : decode cX12_child 75 = .ok (.bipush 100, 2) := by decide +kernel
theorem dX12_child_77 : decode cX12_child 77 = .ok (.idiv, 1) := by decide +kernel
theorem dX12_child_78 : decode cX12_child 78 = .ok (.iload 4, 2) := by decide +kernel
theorem dX12_child_80 : decode cX12_child 80 = .ok (.bipush 100, 2) := by decide +kernel
theorem dX12_child_82 : decode cX12_child 82 = .ok (.irem, 1) := by decide +kernel
theorem dX12_child_83 : decode cX12_child 83 = .ok (.if_icmp .le 9, 3) := by decide +kernel
theorem dX12_child_92 : decode cX12_child 92 = .ok (.aload_n 0, 1) := by decide +kernel
theorem dX12_child_93 : decode cX12_child 93 = .ok (.getfield 7, 3) := by decide +kernel
theorem dX12_child_96 : decode cX12_child 96 = .ok (.iconst 2, 1) := by decide +kernel
theorem dX12_child_97 : decode cX12_child 97 = .ok (.iaload, 1) := by decide +kernel
theorem dX12_child_98 : decode cX12_child 98 = .ok (.bipush 10, 2) := by decide +kernel
theorem dX12_child_100 : decode cX12_child 100 = .ok (.if_icmp .ne 9, 3) := by decide +kernel
theorem dX12_child_109 : decode cX12_child 109 = .ok (.aload_n 0, 1) := by decide +kernel
theorem dX12_child_110 : decode cX12_child 110 = .ok (.invokevirtual 72, 3) := by decide +kernel
theorem dX12_child_113 : decode cX12_child 113 = .ok (.aload_n 0, 1) := by decide +kernel
theorem dX12_child_114 : decode cX12_child 114 = .ok (.getfield 7, 3) := by decide +kernel
theorem dX12_child_117 : decode cX12_child 117 = .ok (.iconst 2, 1) := by decide +kernel
theorem dX12_child_118 : decode cX12_child 118 = .ok (.iaload, 1) := by decide +kernel
theorem dX12_child_119 : decode cX12_child 119 = .ok (.istore 5, 2) := by decide +kernel
theorem dX12_child_121 : decode cX12_child 121 = .ok (.aload_n 0, 1) := by decide +kernel
theorem dX12_child_122 : decode cX12_child 122 = .ok (.getfield 7, 3) := by decide +kernel
theorem dX12_child_125 : decode cX12_child 125 = .ok (.bipush 47, 2) := by decide +kernel
theorem dX12_child_127 : decode cX12_child 127 = .ok (.iload 5, 2) := by decide +kernel
theorem dX12_child_129 : decode cX12_child 129 = .ok (.iadd, 1) := by decide +kernel
theorem dX12_child_130 : decode cX12_child 130 = .ok (.iload_n 1, 1) := by decide +kernel
theorem dX12_child_131 : decode cX12_child 131 = .ok (.iastore, 1) := by decide +kernel
theorem dX12_child_132 : decode cX12_child 132 = .ok (.aload_n 0, 1) := by decide +kernel
theorem dX12_child_133 : decode cX12_child 133 = .ok (.getfield 7, 3) := by decide +kernel
theorem dX12_child_136 : decode cX12_child 136 = .ok (.bipush 57, 2) := by decide +kernel
theorem dX12_child_138 : decode cX12_child 138 = .ok (.iload 5, 2) := by decide +kernel
theorem dX12_child_140 : decode cX12_child 140 = .ok (.iadd, 1) := by decide +kernel
theorem dX12_child_141 : decode cX12_child 141 = .ok (.iload_n 2, 1) := by decide +kernel
theorem dX12_child_142 : decode cX12_child 142 = .ok (.iastore, 1) := by decide +kernel
theorem dX12_child_143 : decode cX12_child 143 = .ok (.aload_n 0, 1) := by decide +kernel
theorem dX12_child_144 : decode cX12_child 144 = .ok (.getfield 7, 3) := by decide +kernel
theorem dX12_child_147 : decode cX12_child 147 = .ok (.bipush 67, 2) := by decide +kernel
theorem dX12_child_149 : decode cX12_child 149 = .ok (.iload 5, 2) := by decide +kernel
theorem dX12_child_151 : decode cX12_child 151 = .ok (.iadd, 1) := by decide +kernel
theorem dX12_child_152 : decode cX12_child 152 = .ok (.iload_n 3, 1) := by decide +kernel
theorem dX12_child_153 : decode cX12_child 153 = .ok (.iastore, 1) := by decide +kernel
theorem dX12_child_154 : decode cX12_child 154 = .ok (.aload_n 0, 1) := by decide +kernel
theorem dX12_child_155 : decode cX12_child 155 = .ok (.getfield 7, 3) := by decide +kernel
theorem dX12_child_158 : decode cX12_child 158 = .ok (.bipush 77, 2) := by decide +kernel
theorem dX12_child_160 : decode cX12_child 160 = .ok (.iload 5, 2) := by decide +kernel
theorem dX12_child_162 : decode cX12_child 162 = .ok (.iadd, 1) := by decide +kernel
theorem dX12_child_163 : decode cX12_child 163 = .ok (.iload 4, 2) := by decide +kernel
theorem dX12_child_165 : decode cX12_child 165 = .ok (.bipush 100, 2) := by decide +kernel
theorem dX12_child_167 : decode cX12_child 167 = .ok (.idiv, 1) := by decide +kernel
theorem dX12_child_168 : decode cX12_child 168 = .ok (.iastore, 1) := by decide +kernel
theorem dX12_child_169 : decode cX12_child 169 = .ok (.aload_n 0, 1) := by decide +kernel
theorem dX12_child_170 : decode cX12_child 170 = .ok (.getfield 7, 3) := by decide +kernel
theorem dX12_child_173 : decode cX12_child 173 = .ok (.bipush 87, 2) := by decide +kernel
theorem dX12_child_175 : decode cX12_child 175 = .ok (.iload 5, 2) := by decide +kernel
theorem dX12_child_177 : decode cX12_child 177 = .ok (.iadd, 1) := by decide +kernel
theorem dX12_child_178 : decode cX12_child 178 = .ok (.iload 4, 2) := by decide +kernel
theorem dX12_child_180 : decode cX12_child 180 = .ok (.bipush 100, 2) := by decide +kernel
theorem dX12_child_182 : decode cX12_child 182 = .ok (.irem, 1) := by decide +kernel
theorem dX12_child_183 : decode cX12_child 183 = .ok (.iastore, 1) := by decide +kernel
theorem dX12_child_184 : decode cX12_child 184 = .ok (.aload_n 0, 1) := by decide +kernel
theorem dX12_child_185 : decode cX12_child 185 = .ok (.getfield 7, 3) := by decide +kernel
theorem dX12_child_188 : decode cX12_child 188 = .ok (.bipush 97, 2) := by decide +kernel
theorem dX12_child_190 : decode cX12_child 190 = .ok (.iload 5, 2) := by decide +kernel
theorem dX12_child_192 : decode cX12_child 192 = .ok (.iadd, 1) := by decide +kernel
theorem dX12_child_193 : decode cX12_child 193 = .ok (.iconst (-1), 1) := by decide +kernel
theorem dX12_child_194 : decode cX12_child 194 = .ok (.iastore, 1) := by decide +kernel
theorem dX12_child_195 : decode cX12_child 195 = .ok (.aload_n 0, 1) := by decide +kernel
theorem dX12_child_196 : decode cX12_child 196 = .ok (.getfield 7, 3) := by decide +kernel
theorem dX12_child_199 : decode cX12_child 199 = .ok (.bipush 107, 2) := by decide +kernel
theorem dX12_child_201 : decode cX12_child 201 = .ok (.iload 5, 2) := by decide +kernel
theorem dX12_child_203 : decode cX12_child 203 = .ok (.iadd, 1) := by decide +kernel
theorem dX12_child_204 : decode cX12_child 204 = .ok (.iconst 0, 1) := by decide +kernel
theorem dX12_child_205 : decode cX12_child 205 = .ok (.iastore, 1) := by decide +kernel
theorem dX12_child_206 : decode cX12_child 206 = .ok (.aload_n 0, 1) := by decide +kernel
theorem dX12_child_207 : decode cX12_child 207 = .ok (.getfield 7, 3) := by decide +kernel
theorem dX12_child_210 : decode cX12_child 210 = .ok (.bipush 117, 2) := by decide +kernel
theorem dX12_child_212 : decode cX12_child 212 = .ok (.iload 5, 2) := by decide +kernel
theorem dX12_child_214 : decode cX12_child 214 = .ok (.iadd, 1) := by decide +kernel
theorem dX12_child_215 : decode cX12_child 215 = .ok (.iconst 0, 1) := by decide +kernel
theorem dX12_child_216 : decode cX12_child 216 = .ok (.iastore, 1) := by decide +kernel
theorem dX12_child_217 : decode cX12_child 217 = .ok (.aload_n 0, 1) := by decide +kernel
theorem dX12_child_218 : decode cX12_child 218 = .ok (.getfield 7, 3) := by decide +kernel
theorem dX12_child_221 : decode cX12_child 221 = .ok (.bipush 127, 2) := by decide +kernel
theorem dX12_child_223 : decode cX12_child 223 = .ok (.iload 5, 2) := by decide +kernel
theorem dX12_child_225 : decode cX12_child 225 = .ok (.iadd, 1) := by decide +kernel
theorem dX12_child_226 : decode cX12_child 226 = .ok (.iconst 0, 1) := by decide +kernel
theorem dX12_child_227 : decode cX12_child 227 = .ok (.iastore, 1) := by decide +kernel
theorem dX12_child_228 : decode cX12_child 228 = .ok (.aload_n 0, 1) := by decide +kernel
theorem dX12_child_229 : decode cX12_child 229 = .ok (.getfield 7, 3) := by decide +kernel
theorem dX12_child_232 : decode cX12_child 232 = .ok (.iconst 2, 1) := by decide +kernel
theorem dX12_child_233 : decode cX12_child 233 = .ok (.dup2, 1) := by decide +kernel
theorem dX12_child_234 : decode cX12_child 234 = .ok (.iaload, 1) := by decide +kernel
theorem dX12_child_235 : decode cX12_child 235 = .ok (.iconst 1, 1) := by decide +kernel
theorem dX12_child_236 : decode cX12_child 236 = .ok (.iadd, 1) := by decide +kernel
theorem dX12_child_237 : decode cX12_child 237 = .ok (.iastore, 1) := by decide +kernel
theorem dX12_child_238 : decode cX12_child 238 = .ok (.iload 5, 2) := by decide +kernel
theorem dX12_child_240 : decode cX12_child 240 = .ok (.ireturn, 1) := by decide +kernel
theorem dX12_child_103 : decode cX12_child 103 = .ok (.aload_n 0, 1) := by decide +kernel
theorem dX12_child_104 : decode cX12_child 104 = .ok (.iconst 5, 1) := by decide +kernel
theorem dX12_child_105 : decode cX12_child 105 = .ok (.invokevirtual 68, 3) := by decide +kernel
theorem dX12_child_108 : decode cX12_child 108 = .ok (.ireturn, 1) := by decide +kernel
theorem dX12_child_86 : decode cX12_child 86 = .ok (.aload_n 0, 1) := by decide +kernel
theorem dX12_child_87 : decode cX12_child 87 = .ok (.iconst 3, 1) := by decide +kernel
theorem dX12_child_88 : decode cX12_child 88 = .ok (.invokevirtual 68, 3) := by decide +kernel
theorem dX12_child_91 : decode cX12_child 91 = .ok (.ireturn, 1) := by decide +kernel
theorem dX12_child_16 : decode cX12_child 16 = .ok (.aload_n 0, 1) := by decide +kernel
theorem dX12_child_17 : decode cX12_child 17 = .ok (.iload_n 2, 1) := by decide +kernel
theorem dX12_child_18 : decode cX12_child 18 = .ok (.invokevirtual 82, 3) := by decide +kernel
theorem dX12_child_21 : decode cX12_child 21 = .ok (.ifCond .eq 46, 3) := by decide +kernel
set_option maxHeartbeats 8000000 in
set_option maxRecDepth 100000 in
theorem c_X12_child (l : Launch) (g : kG) (sz : Nat) (z : Nat → Nat) (kp : Nat) (xs : Nat → Int32) (D : Nat → Int32) (Wk : Nat → Int32) (x : Int32) (y : Int32) (v : Int32) (w : Int32) (hDI : DI D) (hkp : kp ≤ 16) (hWI : WI Wk kp) : kMi l g yX12_child cX12_child 6 (some .int) 4 0 0 [.ref (z 0), .int x, .int y, .int v, .int w] sz [(z 0, .inr (12, [.ref (z 1), .ref (z 2), .int (nI kp), .int (xs 0), .ref (z 3), .ref (z 4), .ref (z 5), .ref (z 6), .int (xs 1), .ref (z 7), .ref (z 8), .ref (z 9), .ref (z 10), .ref (z 11), .ref (z 12), .int (xs 2), .ref (z 13), .ref (z 14), .int (xs 3), .ref (z 15)])), (z 1, .inl (gI g, 461, .inl D)), (z 2, .inl (gI g, 7376, .inl Wk))] (fun (r : Int32) (u : Nat × (Nat → Int32) × (Nat → Int32) × (Nat → Int32)) => u.1 ≤ 16 ∧ DI u.2.2.1 ∧ WI u.2.2.2 u.1) (fun (u : Nat × (Nat → Int32) × (Nat → Int32) × (Nat → Int32)) => ([(z 0, .inr (12, [.ref (z 1), .ref (z 2), .int (nI u.1), .int (u.2.1 0), .ref (z 3), .ref (z 4), .ref (z 5), .ref (z 6), .int (u.2.1 1), .ref (z 7), .ref (z 8), .ref (z 9), .ref (z 10), .ref (z 11), .ref (z 12), .int (u.2.1 2), .ref (z 13), .ref (z 14), .int (u.2.1 3), .ref (z 15)])), (z 1, .inl (gI g, 461, .inl u.2.2.1)), (z 2, .inl (gI g, 7376, .inl u.2.2.2))] : va_W)) := by
  refine kMi.of (by decide) (Nat.le_of_ble_eq_true rfl) (fun p e s m below meth c A hx hb hr hml hown hts hlk hnm hKW hP hD hS hA ls hl => ?_)
  have hown : s.vm.findClass RX12 = some m.cls := hown
  have hl : lv_has ls 6 [(0, .ref (z 0)), (1, .int x), (2, .int y), (3, .int v), (4, .int w)] := hl
  refine k_hide hP hS (fun H locs hP hS => ?_)
  refine lv_iload_n hx hb dX12_child_0 rfl (lv_at hl 1 rfl) ?_
  refine lv_bipush (v := (-71)) hx hb dX12_child_1 (by decide) ?_
  refine lv_bipush (v := 60) hx hb dX12_child_3 (by decide) ?_
  refine k_Si [] [0, 1, 2] (wr := [(z 0, .inr (12, [.ref (z 1), .ref (z 2), .int (nI kp), .int (xs 0), .ref (z 3), .ref (z 4), .ref (z 5), .ref (z 6), .int (xs 1), .ref (z 7), .ref (z 8), .ref (z 9), .ref (z 10), .ref (z 11), .ref (z 12), .int (xs 2), .ref (z 13), .ref (z 14), .int (xs 3), .ref (z 15)])), (z 1, .inl (gI g, 461, .inl D)), (z 2, .inl (gI g, 7376, .inl Wk))]) hx hb hml hown hts hKW hP hD hS hA hl.1 (c_X12_isIn l g _ x (-71) 60 ) wd_10_11 wd_1_5 wd_10_9 wd_10_10 yd_X12_isIn ⟨(Nat.le_of_ble_eq_true rfl), (Nat.le_of_ble_eq_true rfl)⟩ rfl rfl rfl rfl (by decide) rfl (Nat.le_of_ble_eq_true rfl) dX12_child_5 ⟨(Nat.le_of_ble_eq_true rfl), (Nat.le_of_ble_eq_true rfl)⟩ (fun r_1 u_2 H locs hw_3 hP hD hS => ?_)
  have hP : va_P g.1 vwCl [(z 0, .inr (12, [.ref (z 1), .ref (z 2), .int (nI kp), .int (xs 0), .ref (z 3), .ref (z 4), .ref (z 5), .ref (z 6), .int (xs 1), .ref (z 7), .ref (z 8), .ref (z 9), .ref (z 10), .ref (z 11), .ref (z 12), .int (xs 2), .ref (z 13), .ref (z 14), .int (xs 3), .ref (z 15)])), (z 1, .inl (gI g, 461, .inl D)), (z 2, .inl (gI g, 7376, .inl Wk))] H := hP
  have hD : va_D A [(z 0, .inr (12, [.ref (z 1), .ref (z 2), .int (nI kp), .int (xs 0), .ref (z 3), .ref (z 4), .ref (z 5), .ref (z 6), .int (xs 1), .ref (z 7), .ref (z 8), .ref (z 9), .ref (z 10), .ref (z 11), .ref (z 12), .int (xs 2), .ref (z 13), .ref (z 14), .int (xs 3), .ref (z 15)])), (z 1, .inl (gI g, 461, .inl D)), (z 2, .inl (gI g, 7376, .inl Wk))] := hD
  rcases (show (r_1 = 1 ∧ (Int32.toInt (-71) ≤ Int32.toInt x ∧ Int32.toInt x ≤ Int32.toInt 60)) ∨ (r_1 = 0 ∧ ¬ (Int32.toInt (-71) ≤ Int32.toInt x ∧ Int32.toInt x ≤ Int32.toInt 60)) from hw_3) with ⟨rfl, hw_3b⟩ | ⟨rfl, hw_3b⟩ <;> clear hw_3
  · refine lv_if_eq (tgt := 67) hx hb dX12_child_8 (by decide) (fun c => absurd c (by decide)) (fun _ => ?_)
    refine lv_iload_n hx hb dX12_child_11 rfl (lv_at hl 2 rfl) ?_
    refine lv_iconst (v := (-1)) hx hb dX12_child_12 (by decide) ?_
    refine lv_icmp_eq (tgt := 24) hx hb dX12_child_13 (by decide) (fun c_4 => ?_) (fun c_4 => ?_)
    · refine lv_iload_n hx hb dX12_child_24 rfl (lv_at hl 3 rfl) ?_
      refine lv_iconst (v := 0) hx hb dX12_child_25 (by decide) ?_
      refine lv_bipush (v := 31) hx hb dX12_child_26 (by decide) ?_
      refine k_Si [] [0, 1, 2] (wr := [(z 0, .inr (12, [.ref (z 1), .ref (z 2), .int (nI kp), .int (xs 0), .ref (z 3), .ref (z 4), .ref (z 5), .ref (z 6), .int (xs 1), .ref (z 7), .ref (z 8), .ref (z 9), .ref (z 10), .ref (z 11), .ref (z 12), .int (xs 2), .ref (z 13), .ref (z 14), .int (xs 3), .ref (z 15)])), (z 1, .inl (gI g, 461, .inl D)), (z 2, .inl (gI g, 7376, .inl Wk))]) hx hb hml hown hts hKW hP hD hS hA hl.1 (c_X12_isIn l g _ v 0 31 ) wd_10_11 wd_1_5 wd_10_9 wd_10_10 yd_X12_isIn ⟨(Nat.le_of_ble_eq_true rfl), (Nat.le_of_ble_eq_true rfl)⟩ rfl rfl rfl rfl (by decide) rfl (Nat.le_of_ble_eq_true rfl) dX12_child_28 ⟨(Nat.le_of_ble_eq_true rfl), (Nat.le_of_ble_eq_true rfl)⟩ (fun r_5 u_6 H locs hw_7 hP hD hS => ?_)
      have hP : va_P g.1 vwCl [(z 0, .inr (12, [.ref (z 1), .ref (z 2), .int (nI kp), .int (xs 0), .ref (z 3), .ref (z 4), .ref (z 5), .ref (z 6), .int (xs 1), .ref (z 7), .ref (z 8), .ref (z 9), .ref (z 10), .ref (z 11), .ref (z 12), .int (xs 2), .ref (z 13), .ref (z 14), .int (xs 3), .ref (z 15)])), (z 1, .inl (gI g, 461, .inl D)), (z 2, .inl (gI g, 7376, .inl Wk))] H := hP
      have hD : va_D A [(z 0, .inr (12, [.ref (z 1), .ref (z 2), .int (nI kp), .int (xs 0), .ref (z 3), .ref (z 4), .ref (z 5), .ref (z 6), .int (xs 1), .ref (z 7), .ref (z 8), .ref (z 9), .ref (z 10), .ref (z 11), .ref (z 12), .int (xs 2), .ref (z 13), .ref (z 14), .int (xs 3), .ref (z 15)])), (z 1, .inl (gI g, 461, .inl D)), (z 2, .inl (gI g, 7376, .inl Wk))] := hD
      rcases (show (r_5 = 1 ∧ (Int32.toInt 0 ≤ Int32.toInt v ∧ Int32.toInt v ≤ Int32.toInt 31)) ∨ (r_5 = 0 ∧ ¬ (Int32.toInt 0 ≤ Int32.toInt v ∧ Int32.toInt v ≤ Int32.toInt 31)) from hw_7) with ⟨rfl, hw_7b⟩ | ⟨rfl, hw_7b⟩ <;> clear hw_7
      · refine lv_if_eq (tgt := 67) hx hb dX12_child_31 (by decide) (fun c => absurd c (by decide)) (fun _ => ?_)
        refine lv_iload hx hb dX12_child_34 (lv_at hl 4 rfl) ?_
        refine lv_if_lt (tgt := 67) hx hb dX12_child_36 (by decide) (fun c_8 => ?_) (fun c_8 => ?_)
        · refine lv_aload_n hx hb dX12_child_67 rfl (lv_at hl 0 rfl) ?_
          refine lv_iconst (v := 1) hx hb dX12_child_68 (by decide) ?_
          refine k_Vi [0] [1, 2] 0 12 (wr := [(z 1, .inl (gI g, 461, .inl D)), (z 2, .inl (gI g, 7376, .inl Wk))]) hx hb hml hown hts hKW hP hD hS hA hl.1 (c_X12_finding_1 l g _ z kp xs ) rfl rfl rfl wd_10_15 wd_1_5 wd_10_12 wd_10_13 wd_10_14 yd_X12_finding ⟨(Nat.le_of_ble_eq_true rfl), (Nat.le_of_ble_eq_true rfl)⟩ rfl rfl rfl rfl (by decide) rfl (Nat.le_of_ble_eq_true rfl) dX12_child_69 ⟨(Nat.le_of_ble_eq_true rfl), (Nat.le_of_ble_eq_true rfl)⟩ (fun r_9 u_10 H locs hw_11 hP hD hS => ?_)
          have hP : va_P g.1 vwCl [(z 1, .inl (gI g, 461, .inl D)), (z 2, .inl (gI g, 7376, .inl Wk)), (z 0, .inr (12, [.ref (z 1), .ref (z 2), .int (nI kp), .int u_10, .ref (z 3), .ref (z 4), .ref (z 5), .ref (z 6), .int (xs 1), .ref (z 7), .ref (z 8), .ref (z 9), .ref (z 10), .ref (z 11), .ref (z 12), .int (xs 2), .ref (z 13), .ref (z 14), .int (xs 3), .ref (z 15)]))] H := hP
          have hD : va_D A [(z 1, .inl (gI g, 461, .inl D)), (z 2, .inl (gI g, 7376, .inl Wk)), (z 0, .inr (12, [.ref (z 1), .ref (z 2), .int (nI kp), .int u_10, .ref (z 3), .ref (z 4), .ref (z 5), .ref (z 6), .int (xs 1), .ref (z 7), .ref (z 8), .ref (z 9), .ref (z 10), .ref (z 11), .ref (z 12), .int (xs 2), .ref (z 13), .ref (z 14), .int (xs 3), .ref (z 15)]))] := hD
          have hw_11 : r_9 = (-100001) := hw_11
          subst hw_11
          exact k_iret (kp, (fun kk_ => ([u_10, (xs 1), (xs 2), (xs 3)] : List Int32).getD kk_ 0), D, Wk) [2, 0, 1] hx hb hr hlk hP hD hS (⟨hkp, hDI, hWI⟩) rfl rfl rfl (Nat.le_of_ble_eq_true rfl) (Nat.le_of_ble_eq_true rfl) dX12_child_72
        · refine lv_iload hx hb dX12_child_39 (lv_at hl 4 rfl) ?_
          refine lv_bipush (v := 100) hx hb dX12_child_41 (by decide) ?_
          refine lv_idiv hx hb dX12_child_43 (by decide) ?_
          refine k_top (y := w / 100) rfl ?_
          refine lv_iconst (v := 0) hx hb dX12_child_44 (by decide) ?_
          refine lv_bipush (v := 60) hx hb dX12_child_45 (by decide) ?_
          refine k_Si [] [0, 1, 2] (wr := [(z 0, .inr (12, [.ref (z 1), .ref (z 2), .int (nI kp), .int (xs 0), .ref (z 3), .ref (z 4), .ref (z 5), .ref (z 6), .int (xs 1), .ref (z 7), .ref (z 8), .ref (z 9), .ref (z 10), .ref (z 11), .ref (z 12), .int (xs 2), .ref (z 13), .ref (z 14), .int (xs 3), .ref (z 15)])), (z 1, .inl (gI g, 461, .inl D)), (z 2, .inl (gI g, 7376, .inl Wk))]) hx hb hml hown hts hKW hP hD hS hA hl.1 (c_X12_isIn l g _ (w / 100) 0 60 ) wd_10_11 wd_1_5 wd_10_9 wd_10_10 yd_X12_isIn ⟨(Nat.le_of_ble_eq_true rfl), (Nat.le_of_ble_eq_true rfl)⟩ rfl rfl rfl rfl (by decide) rfl (Nat.le_of_ble_eq_true rfl) dX12_child_47 ⟨(Nat.le_of_ble_eq_true rfl), (Nat.le_of_ble_eq_true rfl)⟩ (fun r_12 u_13 H locs hw_14 hP hD hS => ?_)
          have hP : va_P g.1 vwCl [(z 0, .inr (12, [.ref (z 1), .ref (z 2), .int (nI kp), .int (xs 0), .ref (z 3), .ref (z 4), .ref (z 5), .ref (z 6), .int (xs 1), .ref (z 7), .ref (z 8), .ref (z 9), .ref (z 10), .ref (z 11), .ref (z 12), .int (xs 2), .ref (z 13), .ref (z 14), .int (xs 3), .ref (z 15)])), (z 1, .inl (gI g, 461, .inl D)), (z 2, .inl (gI g, 7376, .inl Wk))] H := hP
          have hD : va_D A [(z 0, .inr (12, [.ref (z 1), .ref (z 2), .int (nI kp), .int (xs 0), .ref (z 3), .ref (z 4), .ref (z 5), .ref (z 6), .int (xs 1), .ref (z 7), .ref (z 8), .ref (z 9), .ref (z 10), .ref (z 11), .ref (z 12), .int (xs 2), .ref (z 13), .ref (z 14), .int (xs 3), .ref (z 15)])), (z 1, .inl (gI g, 461, .inl D)), (z 2, .inl (gI g, 7376, .inl Wk))] := hD
          rcases (show (r_12 = 1 ∧ (Int32.toInt 0 ≤ Int32.toInt (w / 100) ∧ Int32.toInt (w / 100) ≤ Int32.toInt 60)) ∨ (r_12 = 0 ∧ ¬ (Int32.toInt 0 ≤ Int32.toInt (w / 100) ∧ Int32.toInt (w / 100) ≤ Int32.toInt 60)) from hw_14) with ⟨rfl, hw_14b⟩ | ⟨rfl, hw_14b⟩ <;> clear hw_14
          · refine lv_if_eq (tgt := 67) hx hb dX12_child_50 (by decide) (fun c => absurd c (by decide)) (fun _ => ?_)
            refine lv_iload hx hb dX12_child_53 (lv_at hl 4 rfl) ?_
            refine lv_bipush (v := 100) hx hb dX12_child_55 (by decide) ?_
            refine lv_irem hx hb dX12_child_57 (by decide) ?_
            refine k_top (y := w - w / 100 * 100) rfl ?_
            refine lv_iconst (v := 0) hx hb dX12_child_58 (by decide) ?_
            refine lv_bipush (v := 60) hx hb dX12_child_59 (by decide) ?_
            refine k_Si [] [0, 1, 2] (wr := [(z 0, .inr (12, [.ref (z 1), .ref (z 2), .int (nI kp), .int (xs 0), .ref (z 3), .ref (z 4), .ref (z 5), .ref (z 6), .int (xs 1), .ref (z 7), .ref (z 8), .ref (z 9), .ref (z 10), .ref (z 11), .ref (z 12), .int (xs 2), .ref (z 13), .ref (z 14), .int (xs 3), .ref (z 15)])), (z 1, .inl (gI g, 461, .inl D)), (z 2, .inl (gI g, 7376, .inl Wk))]) hx hb hml hown hts hKW hP hD hS hA hl.1 (c_X12_isIn l g _ (w - w / 100 * 100) 0 60 ) wd_10_11 wd_1_5 wd_10_9 wd_10_10 yd_X12_isIn ⟨(Nat.le_of_ble_eq_true rfl), (Nat.le_of_ble_eq_true rfl)⟩ rfl rfl rfl rfl (by decide) rfl (Nat.le_of_ble_eq_true rfl) dX12_child_61 ⟨(Nat.le_of_ble_eq_true rfl), (Nat.le_of_ble_eq_true rfl)⟩ (fun r_15 u_16 H locs hw_17 hP hD hS => ?_)
            have hP : va_P g.1 vwCl [(z 0, .inr (12, [.ref (z 1), .ref (z 2), .int (nI kp), .int (xs 0), .ref (z 3), .ref (z 4), .ref (z 5), .ref (z 6), .int (xs 1), .ref (z 7), .ref (z 8), .ref (z 9), .ref (z 10), .ref (z 11), .ref (z 12), .int (xs 2), .ref (z 13), .ref (z 14), .int (xs 3), .ref (z 15)])), (z 1, .inl (gI g, 461, .inl D)), (z 2, .inl (gI g, 7376, .inl Wk))] H := hP
            have hD : va_D A [(z 0, .inr (12, [.ref (z 1), .ref (z 2), .int (nI kp), .int (xs 0), .ref (z 3), .ref (z 4), .ref (z 5), .ref (z 6), .int (xs 1), .ref (z 7), .ref (z 8), .ref (z 9), .ref (z 10), .ref (z 11), .ref (z 12), .int (xs 2), .ref (z 13), .ref (z 14), .int (xs 3), .ref (z 15)])), (z 1, .inl (gI g, 461, .inl D)), (z 2, .inl (gI g, 7376, .inl Wk))] := hD
            rcases (show (r_15 = 1 ∧ (Int32.toInt 0 ≤ Int32.toInt (w - w / 100 * 100) ∧ Int32.toInt (w - w / 100 * 100) ≤ Int32.toInt 60)) ∨ (r_15 = 0 ∧ ¬ (Int32.toInt 0 ≤ Int32.toInt (w - w / 100 * 100) ∧ Int32.toInt (w - w / 100 * 100) ≤ Int32.toInt 60)) from hw_17) with ⟨rfl, hw_17b⟩ | ⟨rfl, hw_17b⟩ <;> clear hw_17
            · refine lv_if_ne (tgt := 73) hx hb dX12_child_64 (by decide) (fun _ => ?_) (fun c => absurd c (by decide))
              refine lv_iload hx hb dX12_child_73 (lv_at hl 4 rfl) ?_
              refine lv_bipush (v := 100) hx hb dX12_child_75 (by decide) ?_
              refine lv_idiv hx hb dX12_child_77 (by decide) ?_
              refine k_top (y := w / 100) rfl ?_
              refine lv_iload hx hb dX12_child_78 (lv_at hl 4 rfl) ?_
              refine lv_bipush (v := 100) hx hb dX12_child_80 (by decide) ?_
              refine lv_irem hx hb dX12_child_82 (by decide) ?_
              refine k_top (y := w - w / 100 * 100) rfl ?_
              refine lv_icmp_le (tgt := 92) hx hb dX12_child_83 (by decide) (fun c_18 => ?_) (fun c_18 => ?_)
              · refine lv_aload_n hx hb dX12_child_92 rfl (lv_at hl 0 rfl) ?_
                refine va_get (ci := 12) (C := RX12) (T := TX12) (N := 20) hx hb hts inlX12 hown hKW.1 hP 0 rfl rfl 0 (by decide) (hts _ wd_6_5) (fun _ h => h) rfl dX12_child_93 ?_
                refine lv_iconst (v := 2) hx hb dX12_child_96 (by decide) ?_
                obtain ⟨dk_19, hdk_19a, hdk_19b, edk_19⟩ := DI.n2 hDI
                refine va_iald hx hb hKW.1 hP 1 0 rfl rfl (show ¬ _ by decide) dX12_child_97 ?_
                refine k_top (y := nI dk_19) edk_19 ?_
                refine lv_bipush (v := 10) hx hb dX12_child_98 (by decide) ?_
                refine lv_icmp_ne (tgt := 109) hx hb dX12_child_100 (by decide) (fun c_20 => ?_) (fun c_20 => ?_)
                · have c_20n : ¬ dk_19 = 10 := fun h => c_20 ((k_eqI (a := dk_19) (b := 10) (by omega) (by omega)).mpr h)
                  refine lv_aload_n hx hb dX12_child_109 rfl (lv_at hl 0 rfl) ?_
                  refine k_Vv [0, 1, 2] [] 0 12 (wr := []) hx hb hml hown hts hKW hP hD hS hA hl.1 (c_X12_keep l g _ z kp xs D Wk (by first | assumption | omega | decide) (by first | assumption | omega | decide) (by first | assumption | omega | decide)) rfl rfl rfl wd_10_21 wd_1_5 wd_10_18 wd_10_19 wd_10_20 yd_X12_keep ⟨(Nat.le_of_ble_eq_true rfl), (Nat.le_of_ble_eq_true rfl)⟩ rfl rfl rfl rfl (by decide) rfl (Nat.le_of_ble_eq_true rfl) dX12_child_110 ⟨(Nat.le_of_ble_eq_true rfl), (Nat.le_of_ble_eq_true rfl)⟩ (fun u_22 H locs hw_23 hP hD hS => ?_)
                  obtain ⟨q_24, f_25⟩ := u_22
                  have hP : va_P g.1 vwCl [(z 0, .inr (12, [.ref (z 1), .ref (z 2), .int (nI q_24), .int (xs 0), .ref (z 3), .ref (z 4), .ref (z 5), .ref (z 6), .int (xs 1), .ref (z 7), .ref (z 8), .ref (z 9), .ref (z 10), .ref (z 11), .ref (z 12), .int (xs 2), .ref (z 13), .ref (z 14), .int (xs 3), .ref (z 15)])), (z 1, .inl (gI g, 461, .inl D)), (z 2, .inl (gI g, 7376, .inl f_25))] H := hP
                  have hD : va_D A [(z 0, .inr (12, [.ref (z 1), .ref (z 2), .int (nI q_24), .int (xs 0), .ref (z 3), .ref (z 4), .ref (z 5), .ref (z 6), .int (xs 1), .ref (z 7), .ref (z 8), .ref (z 9), .ref (z 10), .ref (z 11), .ref (z 12), .int (xs 2), .ref (z 13), .ref (z 14), .int (xs 3), .ref (z 15)])), (z 1, .inl (gI g, 461, .inl D)), (z 2, .inl (gI g, 7376, .inl f_25))] := hD
                  have hw_23 : q_24 ≤ 16 ∧ WI f_25 q_24 := hw_23
                  obtain ⟨hkk, hkW⟩ := hw_23
                  refine lv_aload_n hx hb dX12_child_113 rfl (lv_at hl 0 rfl) ?_
                  refine va_get (ci := 12) (C := RX12) (T := TX12) (N := 20) hx hb hts inlX12 hown hKW.1 hP 0 rfl rfl 0 (by decide) (hts _ wd_6_5) (fun _ h => h) rfl dX12_child_114 ?_
                  refine lv_iconst (v := 2) hx hb dX12_child_117 (by decide) ?_
                  refine va_iald hx hb hKW.1 hP 1 0 rfl rfl (show ¬ _ by decide) dX12_child_118 ?_
                  refine k_top (y := nI dk_19) edk_19 ?_
                  refine lv_istore (lv' := [(5, .int (nI dk_19)), (0, .ref (z 0)), (1, .int x), (2, .int y), (3, .int v), (4, .int w)]) hx hb dX12_child_119 hl (by decide) rfl (fun ls hl => ?_)
                  refine lv_aload_n hx hb dX12_child_121 rfl (lv_at hl 1 rfl) ?_
                  refine va_get (ci := 12) (C := RX12) (T := TX12) (N := 20) hx hb hts inlX12 hown hKW.1 hP 0 rfl rfl 0 (by decide) (hts _ wd_6_5) (fun _ h => h) rfl dX12_child_122 ?_
                  refine lv_bipush (v := 47) hx hb dX12_child_125 (by decide) ?_
                  refine lv_iload hx hb dX12_child_127 (lv_at hl 0 rfl) ?_
                  refine lv_iadd hx hb dX12_child_129 ?_
                  refine k_top (y := nI (dk_19 + 47)) (by rw [Nat.add_comm]; exact nI_add 47 dk_19) ?_
                  refine lv_iload_n hx hb dX12_child_130 rfl (lv_at hl 2 rfl) ?_
                  refine va_iast hx hb hKW.1 hP hD hS 1 0 rfl rfl (vp_in_nI (by omega) (by decide)) dX12_child_131 (fun H locs hP hD hS => ?_)
                  have hP : va_P g.1 vwCl [(z 0, .inr (12, [.ref (z 1), .ref (z 2), .int (nI q_24), .int (xs 0), .ref (z 3), .ref (z 4), .ref (z 5), .ref (z 6), .int (xs 1), .ref (z 7), .ref (z 8), .ref (z 9), .ref (z 10), .ref (z 11), .ref (z 12), .int (xs 2), .ref (z 13), .ref (z 14), .int (xs 3), .ref (z 15)])), (z 1, .inl (gI g, 461, .inl (upd D (nI (dk_19 + 47)).toNatClampNeg x))), (z 2, .inl (gI g, 7376, .inl f_25))] H := hP
                  have hD : va_D A [(z 0, .inr (12, [.ref (z 1), .ref (z 2), .int (nI q_24), .int (xs 0), .ref (z 3), .ref (z 4), .ref (z 5), .ref (z 6), .int (xs 1), .ref (z 7), .ref (z 8), .ref (z 9), .ref (z 10), .ref (z 11), .ref (z 12), .int (xs 2), .ref (z 13), .ref (z 14), .int (xs 3), .ref (z 15)])), (z 1, .inl (gI g, 461, .inl (upd D (nI (dk_19 + 47)).toNatClampNeg x))), (z 2, .inl (gI g, 7376, .inl f_25))] := hD
                  obtain ⟨f_26, ef_26⟩ : ∃ zz_ : Nat → Int32, zz_ = upd D (nI (dk_19 + 47)).toNatClampNeg x := ⟨_, rfl⟩
                  rw [← ef_26] at hP hD
                  have dz_27 : f_26 2 = nI dk_19 := by rw [ef_26, nI_clamp (by omega), pk_un (by omega)]; exact edk_19
                  have hDf_26 : DI f_26 := DI.free (i := (dk_19 + 47)) (x := x) hDI (by rw [ef_26, nI_clamp (by omega)]) (by unfold dFree; omega)
                  refine lv_aload_n hx hb dX12_child_132 rfl (lv_at hl 1 rfl) ?_
                  refine va_get (ci := 12) (C := RX12) (T := TX12) (N := 20) hx hb hts inlX12 hown hKW.1 hP 0 rfl rfl 0 (by decide) (hts _ wd_6_5) (fun _ h => h) rfl dX12_child_133 ?_
                  refine lv_bipush (v := 57) hx hb dX12_child_136 (by decide) ?_
                  refine lv_iload hx hb dX12_child_138 (lv_at hl 0 rfl) ?_
                  refine lv_iadd hx hb dX12_child_140 ?_
                  refine k_top (y := nI (dk_19 + 57)) (by rw [Nat.add_comm]; exact nI_add 57 dk_19) ?_
                  refine lv_iload_n hx hb dX12_child_141 rfl (lv_at hl 3 rfl) ?_
                  refine va_iast hx hb hKW.1 hP hD hS 1 0 rfl rfl (vp_in_nI (by omega) (by decide)) dX12_child_142 (fun H locs hP hD hS => ?_)
                  have hP : va_P g.1 vwCl [(z 0, .inr (12, [.ref (z 1), .ref (z 2), .int (nI q_24), .int (xs 0), .ref (z 3), .ref (z 4), .ref (z 5), .ref (z 6), .int (xs 1), .ref (z 7), .ref (z 8), .ref (z 9), .ref (z 10), .ref (z 11), .ref (z 12), .int (xs 2), .ref (z 13), .ref (z 14), .int (xs 3), .ref (z 15)])), (z 1, .inl (gI g, 461, .inl (upd f_26 (nI (dk_19 + 57)).toNatClampNeg y))), (z 2, .inl (gI g, 7376, .inl f_25))] H := hP
                  have hD : va_D A [(z 0, .inr (12, [.ref (z 1), .ref (z 2), .int (nI q_24), .int (xs 0), .ref (z 3), .ref (z 4), .ref (z 5), .ref (z 6), .int (xs 1), .ref (z 7), .ref (z 8), .ref (z 9), .ref (z 10), .ref (z 11), .ref (z 12), .int (xs 2), .ref (z 13), .ref (z 14), .int (xs 3), .ref (z 15)])), (z 1, .inl (gI g, 461, .inl (upd f_26 (nI (dk_19 + 57)).toNatClampNeg y))), (z 2, .inl (gI g, 7376, .inl f_25))] := hD
                  obtain ⟨f_28, ef_28⟩ : ∃ zz_ : Nat → Int32, zz_ = upd f_26 (nI (dk_19 + 57)).toNatClampNeg y := ⟨_, rfl⟩
                  rw [← ef_28] at hP hD
                  have dz_29 : f_28 2 = nI dk_19 := by rw [ef_28, nI_clamp (by omega), pk_un (by omega)]; exact dz_27
                  have hDf_28 : DI f_28 := DI.free (i := (dk_19 + 57)) (x := y) hDf_26 (by rw [ef_28, nI_clamp (by omega)]) (by unfold dFree; omega)
                  refine lv_aload_n hx hb dX12_child_143 rfl (lv_at hl 1 rfl) ?_
                  refine va_get (ci := 12) (C := RX12) (T := TX12) (N := 20) hx hb hts inlX12 hown hKW.1 hP 0 rfl rfl 0 (by decide) (hts _ wd_6_5) (fun _ h => h) rfl dX12_child_144 ?_
                  refine lv_bipush (v := 67) hx hb dX12_child_147 (by decide) ?_
                  refine lv_iload hx hb dX12_child_149 (lv_at hl 0 rfl) ?_
                  refine lv_iadd hx hb dX12_child_151 ?_
                  refine k_top (y := nI (dk_19 + 67)) (by rw [Nat.add_comm]; exact nI_add 67 dk_19) ?_
                  refine lv_iload_n hx hb dX12_child_152 rfl (lv_at hl 4 rfl) ?_
                  refine va_iast hx hb hKW.1 hP hD hS 1 0 rfl rfl (vp_in_nI (by omega) (by decide)) dX12_child_153 (fun H locs hP hD hS => ?_)
                  have hP : va_P g.1 vwCl [(z 0, .inr (12, [.ref (z 1), .ref (z 2), .int (nI q_24), .int (xs 0), .ref (z 3), .ref (z 4), .ref (z 5), .ref (z 6), .int (xs 1), .ref (z 7), .ref (z 8), .ref (z 9), .ref (z 10), .ref (z 11), .ref (z 12), .int (xs 2), .ref (z 13), .ref (z 14), .int (xs 3), .ref (z 15)])), (z 1, .inl (gI g, 461, .inl (upd f_28 (nI (dk_19 + 67)).toNatClampNeg v))), (z 2, .inl (gI g, 7376, .inl f_25))] H := hP
                  have hD : va_D A [(z 0, .inr (12, [.ref (z 1), .ref (z 2), .int (nI q_24), .int (xs 0), .ref (z 3), .ref (z 4), .ref (z 5), .ref (z 6), .int (xs 1), .ref (z 7), .ref (z 8), .ref (z 9), .ref (z 10), .ref (z 11), .ref (z 12), .int (xs 2), .ref (z 13), .ref (z 14), .int (xs 3), .ref (z 15)])), (z 1, .inl (gI g, 461, .inl (upd f_28 (nI (dk_19 + 67)).toNatClampNeg v))), (z 2, .inl (gI g, 7376, .inl f_25))] := hD
                  obtain ⟨f_30, ef_30⟩ : ∃ zz_ : Nat → Int32, zz_ = upd f_28 (nI (dk_19 + 67)).toNatClampNeg v := ⟨_, rfl⟩
                  rw [← ef_30] at hP hD
                  have dz_31 : f_30 2 = nI dk_19 := by rw [ef_30, nI_clamp (by omega), pk_un (by omega)]; exact dz_29
                  have hDf_30 : DI f_30 := DI.free (i := (dk_19 + 67)) (x := v) hDf_28 (by rw [ef_30, nI_clamp (by omega)]) (by unfold dFree; omega)
                  refine lv_aload_n hx hb dX12_child_154 rfl (lv_at hl 1 rfl) ?_
                  refine va_get (ci := 12) (C := RX12) (T := TX12) (N := 20) hx hb hts inlX12 hown hKW.1 hP 0 rfl rfl 0 (by decide) (hts _ wd_6_5) (fun _ h => h) rfl dX12_child_155 ?_
                  refine lv_bipush (v := 77) hx hb dX12_child_158 (by decide) ?_
                  refine lv_iload hx hb dX12_child_160 (lv_at hl 0 rfl) ?_
                  refine lv_iadd hx hb dX12_child_162 ?_
                  refine k_top (y := nI (dk_19 + 77)) (by rw [Nat.add_comm]; exact nI_add 77 dk_19) ?_
                  refine lv_iload hx hb dX12_child_163 (lv_at hl 5 rfl) ?_
                  refine lv_bipush (v := 100) hx hb dX12_child_165 (by decide) ?_
                  refine lv_idiv hx hb dX12_child_167 (by decide) ?_
                  refine k_top (y := w / 100) rfl ?_
                  refine va_iast hx hb hKW.1 hP hD hS 1 0 rfl rfl (vp_in_nI (by omega) (by decide)) dX12_child_168 (fun H locs hP hD hS => ?_)
                  have hP : va_P g.1 vwCl [(z 0, .inr (12, [.ref (z 1), .ref (z 2), .int (nI q_24), .int (xs 0), .ref (z 3), .ref (z 4), .ref (z 5), .ref (z 6), .int (xs 1), .ref (z 7), .ref (z 8), .ref (z 9), .ref (z 10), .ref (z 11), .ref (z 12), .int (xs 2), .ref (z 13), .ref (z 14), .int (xs 3), .ref (z 15)])), (z 1, .inl (gI g, 461, .inl (upd f_30 (nI (dk_19 + 77)).toNatClampNeg (w / 100)))), (z 2, .inl (gI g, 7376, .inl f_25))] H := hP
                  have hD : va_D A [(z 0, .inr (12, [.ref (z 1), .ref (z 2), .int (nI q_24), .int (xs 0), .ref (z 3), .ref (z 4), .ref (z 5), .ref (z 6), .int (xs 1), .ref (z 7), .ref (z 8), .ref (z 9), .ref (z 10), .ref (z 11), .ref (z 12), .int (xs 2), .ref (z 13), .ref (z 14), .int (xs 3), .ref (z 15)])), (z 1, .inl (gI g, 461, .inl (upd f_30 (nI (dk_19 + 77)).toNatClampNeg (w / 100)))), (z 2, .inl (gI g, 7376, .inl f_25))] := hD
                  obtain ⟨f_32, ef_32⟩ : ∃ zz_ : Nat → Int32, zz_ = upd f_30 (nI (dk_19 + 77)).toNatClampNeg (w / 100) := ⟨_, rfl⟩
                  rw [← ef_32] at hP hD
                  have dz_33 : f_32 2 = nI dk_19 := by rw [ef_32, nI_clamp (by omega), pk_un (by omega)]; exact dz_31
                  have hDf_32 : DI f_32 := DI.upd (i := (dk_19 + 77)) (x := w / 100) hDf_30 (by rw [ef_32, nI_clamp (by omega)]) (h0 := (fun q => absurd q (by omega))) (h1 := (fun q => absurd q (by omega))) (h2 := (fun q => absurd q (by omega))) (h5 := (fun q => absurd q (by omega))) (h6 := (fun q => absurd q (by omega))) (h7 := (fun q => absurd q (by omega))) (h10 := (fun q => absurd q (by omega))) (hf := (fun _ _ => hw_14b)) (hn := (fun q q2 => False.elim (by omega))) (ht := (fun q q2 => False.elim (by omega))) (hl := (fun q q2 => False.elim (by omega))) (h8 := (by omega))
                  refine lv_aload_n hx hb dX12_child_169 rfl (lv_at hl 1 rfl) ?_
                  refine va_get (ci := 12) (C := RX12) (T := TX12) (N := 20) hx hb hts inlX12 hown hKW.1 hP 0 rfl rfl 0 (by decide) (hts _ wd_6_5) (fun _ h => h) rfl dX12_child_170 ?_
                  refine lv_bipush (v := 87) hx hb dX12_child_173 (by decide) ?_
                  refine lv_iload hx hb dX12_child_175 (lv_at hl 0 rfl) ?_
                  refine lv_iadd hx hb dX12_child_177 ?_
                  refine k_top (y := nI (dk_19 + 87)) (by rw [Nat.add_comm]; exact nI_add 87 dk_19) ?_
                  refine lv_iload hx hb dX12_child_178 (lv_at hl 5 rfl) ?_
                  refine lv_bipush (v := 100) hx hb dX12_child_180 (by decide) ?_
                  refine lv_irem hx hb dX12_child_182 (by decide) ?_
                  refine k_top (y := w - w / 100 * 100) rfl ?_
                  refine va_iast hx hb hKW.1 hP hD hS 1 0 rfl rfl (vp_in_nI (by omega) (by decide)) dX12_child_183 (fun H locs hP hD hS => ?_)
                  have hP : va_P g.1 vwCl [(z 0, .inr (12, [.ref (z 1), .ref (z 2), .int (nI q_24), .int (xs 0), .ref (z 3), .ref (z 4), .ref (z 5), .ref (z 6), .int (xs 1), .ref (z 7), .ref (z 8), .ref (z 9), .ref (z 10), .ref (z 11), .ref (z 12), .int (xs 2), .ref (z 13), .ref (z 14), .int (xs 3), .ref (z 15)])), (z 1, .inl (gI g, 461, .inl (upd f_32 (nI (dk_19 + 87)).toNatClampNeg (w - w / 100 * 100)))), (z 2, .inl (gI g, 7376, .inl f_25))] H := hP
                  have hD : va_D A [(z 0, .inr (12, [.ref (z 1), .ref (z 2), .int (nI q_24), .int (xs 0), .ref (z 3), .ref (z 4), .ref (z 5), .ref (z 6), .int (xs 1), .ref (z 7), .ref (z 8), .ref (z 9), .ref (z 10), .ref (z 11), .ref (z 12), .int (xs 2), .ref (z 13), .ref (z 14), .int (xs 3), .ref (z 15)])), (z 1, .inl (gI g, 461, .inl (upd f_32 (nI (dk_19 + 87)).toNatClampNeg (w - w / 100 * 100)))), (z 2, .inl (gI g, 7376, .inl f_25))] := hD
                  obtain ⟨f_34, ef_34⟩ : ∃ zz_ : Nat → Int32, zz_ = upd f_32 (nI (dk_19 + 87)).toNatClampNeg (w - w / 100 * 100) := ⟨_, rfl⟩
                  rw [← ef_34] at hP hD
                  have dz_35 : f_34 2 = nI dk_19 := by rw [ef_34, nI_clamp (by omega), pk_un (by omega)]; exact dz_33
                  have hDf_34 : DI f_34 := DI.upd (i := (dk_19 + 87)) (x := w - w / 100 * 100) hDf_32 (by rw [ef_34, nI_clamp (by omega)]) (h0 := (fun q => absurd q (by omega))) (h1 := (fun q => absurd q (by omega))) (h2 := (fun q => absurd q (by omega))) (h5 := (fun q => absurd q (by omega))) (h6 := (fun q => absurd q (by omega))) (h7 := (fun q => absurd q (by omega))) (h10 := (fun q => absurd q (by omega))) (hf := (fun _ _ => hw_17b)) (hn := (fun q q2 => False.elim (by omega))) (ht := (fun q q2 => False.elim (by omega))) (hl := (fun q q2 => False.elim (by omega))) (h8 := (by omega))
                  refine lv_aload_n hx hb dX12_child_184 rfl (lv_at hl 1 rfl) ?_
                  refine va_get (ci := 12) (C := RX12) (T := TX12) (N := 20) hx hb hts inlX12 hown hKW.1 hP 0 rfl rfl 0 (by decide) (hts _ wd_6_5) (fun _ h => h) rfl dX12_child_185 ?_
                  refine lv_bipush (v := 97) hx hb dX12_child_188 (by decide) ?_
                  refine lv_iload hx hb dX12_child_190 (lv_at hl 0 rfl) ?_
                  refine lv_iadd hx hb dX12_child_192 ?_
                  refine k_top (y := nI (dk_19 + 97)) (by rw [Nat.add_comm]; exact nI_add 97 dk_19) ?_
                  refine lv_iconst (v := (-1)) hx hb dX12_child_193 (by decide) ?_
                  refine va_iast hx hb hKW.1 hP hD hS 1 0 rfl rfl (vp_in_nI (by omega) (by decide)) dX12_child_194 (fun H locs hP hD hS => ?_)
                  have hP : va_P g.1 vwCl [(z 0, .inr (12, [.ref (z 1), .ref (z 2), .int (nI q_24), .int (xs 0), .ref (z 3), .ref (z 4), .ref (z 5), .ref (z 6), .int (xs 1), .ref (z 7), .ref (z 8), .ref (z 9), .ref (z 10), .ref (z 11), .ref (z 12), .int (xs 2), .ref (z 13), .ref (z 14), .int (xs 3), .ref (z 15)])), (z 1, .inl (gI g, 461, .inl (upd f_34 (nI (dk_19 + 97)).toNatClampNeg (-1)))), (z 2, .inl (gI g, 7376, .inl f_25))] H := hP
                  have hD : va_D A [(z 0, .inr (12, [.ref (z 1), .ref (z 2), .int (nI q_24), .int (xs 0), .ref (z 3), .ref (z 4), .ref (z 5), .ref (z 6), .int (xs 1), .ref (z 7), .ref (z 8), .ref (z 9), .ref (z 10), .ref (z 11), .ref (z 12), .int (xs 2), .ref (z 13), .ref (z 14), .int (xs 3), .ref (z 15)])), (z 1, .inl (gI g, 461, .inl (upd f_34 (nI (dk_19 + 97)).toNatClampNeg (-1)))), (z 2, .inl (gI g, 7376, .inl f_25))] := hD
                  obtain ⟨f_36, ef_36⟩ : ∃ zz_ : Nat → Int32, zz_ = upd f_34 (nI (dk_19 + 97)).toNatClampNeg (-1) := ⟨_, rfl⟩
                  rw [← ef_36] at hP hD
                  have dz_37 : f_36 2 = nI dk_19 := by rw [ef_36, nI_clamp (by omega), pk_un (by omega)]; exact dz_35
                  have hDf_36 : DI f_36 := DI.free (i := (dk_19 + 97)) (x := (-1)) hDf_34 (by rw [ef_36, nI_clamp (by omega)]) (by unfold dFree; omega)
                  refine lv_aload_n hx hb dX12_child_195 rfl (lv_at hl 1 rfl) ?_
                  refine va_get (ci := 12) (C := RX12) (T := TX12) (N := 20) hx hb hts inlX12 hown hKW.1 hP 0 rfl rfl 0 (by decide) (hts _ wd_6_5) (fun _ h => h) rfl dX12_child_196 ?_
                  refine lv_bipush (v := 107) hx hb dX12_child_199 (by decide) ?_
                  refine lv_iload hx hb dX12_child_201 (lv_at hl 0 rfl) ?_
                  refine lv_iadd hx hb dX12_child_203 ?_
                  refine k_top (y := nI (dk_19 + 107)) (by rw [Nat.add_comm]; exact nI_add 107 dk_19) ?_
                  refine lv_iconst (v := 0) hx hb dX12_child_204 (by decide) ?_
                  refine va_iast hx hb hKW.1 hP hD hS 1 0 rfl rfl (vp_in_nI (by omega) (by decide)) dX12_child_205 (fun H locs hP hD hS => ?_)
                  have hP : va_P g.1 vwCl [(z 0, .inr (12, [.ref (z 1), .ref (z 2), .int (nI q_24), .int (xs 0), .ref (z 3), .ref (z 4), .ref (z 5), .ref (z 6), .int (xs 1), .ref (z 7), .ref (z 8), .ref (z 9), .ref (z 10), .ref (z 11), .ref (z 12), .int (xs 2), .ref (z 13), .ref (z 14), .int (xs 3), .ref (z 15)])), (z 1, .inl (gI g, 461, .inl (upd f_36 (nI (dk_19 + 107)).toNatClampNeg 0))), (z 2, .inl (gI g, 7376, .inl f_25))] H := hP
                  have hD : va_D A [(z 0, .inr (12, [.ref (z 1), .ref (z 2), .int (nI q_24), .int (xs 0), .ref (z 3), .ref (z 4), .ref (z 5), .ref (z 6), .int (xs 1), .ref (z 7), .ref (z 8), .ref (z 9), .ref (z 10), .ref (z 11), .ref (z 12), .int (xs 2), .ref (z 13), .ref (z 14), .int (xs 3), .ref (z 15)])), (z 1, .inl (gI g, 461, .inl (upd f_36 (nI (dk_19 + 107)).toNatClampNeg 0))), (z 2, .inl (gI g, 7376, .inl f_25))] := hD
                  obtain ⟨f_38, ef_38⟩ : ∃ zz_ : Nat → Int32, zz_ = upd f_36 (nI (dk_19 + 107)).toNatClampNeg 0 := ⟨_, rfl⟩
                  rw [← ef_38] at hP hD
                  have dz_39 : f_38 2 = nI dk_19 := by rw [ef_38, nI_clamp (by omega), pk_un (by omega)]; exact dz_37
                  have hDf_38 : DI f_38 := DI.free (i := (dk_19 + 107)) (x := 0) hDf_36 (by rw [ef_38, nI_clamp (by omega)]) (by unfold dFree; omega)
                  refine lv_aload_n hx hb dX12_child_206 rfl (lv_at hl 1 rfl) ?_
                  refine va_get (ci := 12) (C := RX12) (T := TX12) (N := 20) hx hb hts inlX12 hown hKW.1 hP 0 rfl rfl 0 (by decide) (hts _ wd_6_5) (fun _ h => h) rfl dX12_child_207 ?_
                  refine lv_bipush (v := 117) hx hb dX12_child_210 (by decide) ?_
                  refine lv_iload hx hb dX12_child_212 (lv_at hl 0 rfl) ?_
                  refine lv_iadd hx hb dX12_child_214 ?_
                  refine k_top (y := nI (dk_19 + 117)) (by rw [Nat.add_comm]; exact nI_add 117 dk_19) ?_
                  refine lv_iconst (v := 0) hx hb dX12_child_215 (by decide) ?_
                  refine va_iast hx hb hKW.1 hP hD hS 1 0 rfl rfl (vp_in_nI (by omega) (by decide)) dX12_child_216 (fun H locs hP hD hS => ?_)
                  have hP : va_P g.1 vwCl [(z 0, .inr (12, [.ref (z 1), .ref (z 2), .int (nI q_24), .int (xs 0), .ref (z 3), .ref (z 4), .ref (z 5), .ref (z 6), .int (xs 1), .ref (z 7), .ref (z 8), .ref (z 9), .ref (z 10), .ref (z 11), .ref (z 12), .int (xs 2), .ref (z 13), .ref (z 14), .int (xs 3), .ref (z 15)])), (z 1, .inl (gI g, 461, .inl (upd f_38 (nI (dk_19 + 117)).toNatClampNeg 0))), (z 2, .inl (gI g, 7376, .inl f_25))] H := hP
                  have hD : va_D A [(z 0, .inr (12, [.ref (z 1), .ref (z 2), .int (nI q_24), .int (xs 0), .ref (z 3), .ref (z 4), .ref (z 5), .ref (z 6), .int (xs 1), .ref (z 7), .ref (z 8), .ref (z 9), .ref (z 10), .ref (z 11), .ref (z 12), .int (xs 2), .ref (z 13), .ref (z 14), .int (xs 3), .ref (z 15)])), (z 1, .inl (gI g, 461, .inl (upd f_38 (nI (dk_19 + 117)).toNatClampNeg 0))), (z 2, .inl (gI g, 7376, .inl f_25))] := hD
                  obtain ⟨f_40, ef_40⟩ : ∃ zz_ : Nat → Int32, zz_ = upd f_38 (nI (dk_19 + 117)).toNatClampNeg 0 := ⟨_, rfl⟩
                  rw [← ef_40] at hP hD
                  have dz_41 : f_40 2 = nI dk_19 := by rw [ef_40, nI_clamp (by omega), pk_un (by omega)]; exact dz_39
                  have hDf_40 : DI f_40 := DI.free (i := (dk_19 + 117)) (x := 0) hDf_38 (by rw [ef_40, nI_clamp (by omega)]) (by unfold dFree; omega)
                  refine lv_aload_n hx hb dX12_child_217 rfl (lv_at hl 1 rfl) ?_
                  refine va_get (ci := 12) (C := RX12) (T := TX12) (N := 20) hx hb hts inlX12 hown hKW.1 hP 0 rfl rfl 0 (by decide) (hts _ wd_6_5) (fun _ h => h) rfl dX12_child_218 ?_
                  refine lv_bipush (v := 127) hx hb dX12_child_221 (by decide) ?_
                  refine lv_iload hx hb dX12_child_223 (lv_at hl 0 rfl) ?_
                  refine lv_iadd hx hb dX12_child_225 ?_
                  refine k_top (y := nI (dk_19 + 127)) (by rw [Nat.add_comm]; exact nI_add 127 dk_19) ?_
                  refine lv_iconst (v := 0) hx hb dX12_child_226 (by decide) ?_
                  refine va_iast hx hb hKW.1 hP hD hS 1 0 rfl rfl (vp_in_nI (by omega) (by decide)) dX12_child_227 (fun H locs hP hD hS => ?_)
                  have hP : va_P g.1 vwCl [(z 0, .inr (12, [.ref (z 1), .ref (z 2), .int (nI q_24), .int (xs 0), .ref (z 3), .ref (z 4), .ref (z 5), .ref (z 6), .int (xs 1), .ref (z 7), .ref (z 8), .ref (z 9), .ref (z 10), .ref (z 11), .ref (z 12), .int (xs 2), .ref (z 13), .ref (z 14), .int (xs 3), .ref (z 15)])), (z 1, .inl (gI g, 461, .inl (upd f_40 (nI (dk_19 + 127)).toNatClampNeg 0))), (z 2, .inl (gI g, 7376, .inl f_25))] H := hP
                  have hD : va_D A [(z 0, .inr (12, [.ref (z 1), .ref (z 2), .int (nI q_24), .int (xs 0), .ref (z 3), .ref (z 4), .ref (z 5), .ref (z 6), .int (xs 1), .ref (z 7), .ref (z 8), .ref (z 9), .ref (z 10), .ref (z 11), .ref (z 12), .int (xs 2), .ref (z 13), .ref (z 14), .int (xs 3), .ref (z 15)])), (z 1, .inl (gI g, 461, .inl (upd f_40 (nI (dk_19 + 127)).toNatClampNeg 0))), (z 2, .inl (gI g, 7376, .inl f_25))] := hD
                  obtain ⟨f_42, ef_42⟩ : ∃ zz_ : Nat → Int32, zz_ = upd f_40 (nI (dk_19 + 127)).toNatClampNeg 0 := ⟨_, rfl⟩
                  rw [← ef_42] at hP hD
                  have dz_43 : f_42 2 = nI dk_19 := by rw [ef_42, nI_clamp (by omega), pk_un (by omega)]; exact dz_41
                  have hDf_42 : DI f_42 := DI.free (i := (dk_19 + 127)) (x := 0) hDf_40 (by rw [ef_42, nI_clamp (by omega)]) (by unfold dFree; omega)
                  refine lv_aload_n hx hb dX12_child_228 rfl (lv_at hl 1 rfl) ?_
                  refine va_get (ci := 12) (C := RX12) (T := TX12) (N := 20) hx hb hts inlX12 hown hKW.1 hP 0 rfl rfl 0 (by decide) (hts _ wd_6_5) (fun _ h => h) rfl dX12_child_229 ?_
                  refine lv_iconst (v := 2) hx hb dX12_child_232 (by decide) ?_
                  refine lv_dup2_11 hx hb dX12_child_233 rfl rfl ?_
                  refine va_iald hx hb hKW.1 hP 1 0 rfl rfl (show ¬ _ by decide) dX12_child_234 ?_
                  refine k_top (y := nI dk_19) dz_43 ?_
                  refine lv_iconst (v := 1) hx hb dX12_child_235 (by decide) ?_
                  refine lv_iadd hx hb dX12_child_236 ?_
                  refine k_top (y := nI (dk_19 + 1)) (nI_add dk_19 1) ?_
                  refine va_iast hx hb hKW.1 hP hD hS 1 0 rfl rfl (show ¬ _ by decide) dX12_child_237 (fun H locs hP hD hS => ?_)
                  have hP : va_P g.1 vwCl [(z 0, .inr (12, [.ref (z 1), .ref (z 2), .int (nI q_24), .int (xs 0), .ref (z 3), .ref (z 4), .ref (z 5), .ref (z 6), .int (xs 1), .ref (z 7), .ref (z 8), .ref (z 9), .ref (z 10), .ref (z 11), .ref (z 12), .int (xs 2), .ref (z 13), .ref (z 14), .int (xs 3), .ref (z 15)])), (z 1, .inl (gI g, 461, .inl (upd f_42 2 (nI (dk_19 + 1))))), (z 2, .inl (gI g, 7376, .inl f_25))] H := hP
                  have hD : va_D A [(z 0, .inr (12, [.ref (z 1), .ref (z 2), .int (nI q_24), .int (xs 0), .ref (z 3), .ref (z 4), .ref (z 5), .ref (z 6), .int (xs 1), .ref (z 7), .ref (z 8), .ref (z 9), .ref (z 10), .ref (z 11), .ref (z 12), .int (xs 2), .ref (z 13), .ref (z 14), .int (xs 3), .ref (z 15)])), (z 1, .inl (gI g, 461, .inl (upd f_42 2 (nI (dk_19 + 1))))), (z 2, .inl (gI g, 7376, .inl f_25))] := hD
                  obtain ⟨f_44, ef_44⟩ : ∃ zz_ : Nat → Int32, zz_ = upd f_42 2 (nI (dk_19 + 1)) := ⟨_, rfl⟩
                  rw [← ef_44] at hP hD
                  have dz_45 : f_44 2 = nI (dk_19 + 1) := by rw [ef_44, pk_us]
                  have hDf_44 : DI f_44 := DI.upd (i := 2) (x := nI (dk_19 + 1)) hDf_42 ef_44 (h0 := (fun q => absurd q (by omega))) (h1 := (fun q => absurd q (by omega))) (h2 := (fun _ => by rw [dz_43, k_nIi (by omega), k_nIi (by omega)]; omega)) (h5 := (fun q => absurd q (by omega))) (h6 := (fun q => absurd q (by omega))) (h7 := (fun q => absurd q (by omega))) (h10 := (fun q => absurd q (by omega))) (hf := (fun q q2 => False.elim (by omega))) (hn := (fun q q2 => False.elim (by omega))) (ht := (fun q q2 => False.elim (by omega))) (hl := (fun q q2 => False.elim (by omega))) (h8 := (by omega))
                  refine lv_iload hx hb dX12_child_238 (lv_at hl 0 rfl) ?_
                  exact k_iret (q_24, xs, f_44, f_25) [0, 1, 2] hx hb hr hlk hP hD hS (⟨hkk, hDf_44, hkW⟩) rfl rfl rfl (Nat.le_of_ble_eq_true rfl) (Nat.le_of_ble_eq_true rfl) dX12_child_240
                · have c_20n : dk_19 = 10 := (k_eqI (a := dk_19) (b := 10) (by omega) (by omega)).mp c_20
                  refine lv_aload_n hx hb dX12_child_103 rfl (lv_at hl 0 rfl) ?_
                  refine lv_iconst (v := 5) hx hb dX12_child_104 (by decide) ?_
                  refine k_Vi [0] [1, 2] 0 12 (wr := [(z 1, .inl (gI g, 461, .inl D)), (z 2, .inl (gI g, 7376, .inl Wk))]) hx hb hml hown hts hKW hP hD hS hA hl.1 (c_X12_finding_5 l g _ z kp xs ) rfl rfl rfl wd_10_15 wd_1_5 wd_10_12 wd_10_13 wd_10_14 yd_X12_finding ⟨(Nat.le_of_ble_eq_true rfl), (Nat.le_of_ble_eq_true rfl)⟩ rfl rfl rfl rfl (by decide) rfl (Nat.le_of_ble_eq_true rfl) dX12_child_105 ⟨(Nat.le_of_ble_eq_true rfl), (Nat.le_of_ble_eq_true rfl)⟩ (fun r_46 u_47 H locs hw_48 hP hD hS => ?_)
                  have hP : va_P g.1 vwCl [(z 1, .inl (gI g, 461, .inl D)), (z 2, .inl (gI g, 7376, .inl Wk)), (z 0, .inr (12, [.ref (z 1), .ref (z 2), .int (nI kp), .int u_47, .ref (z 3), .ref (z 4), .ref (z 5), .ref (z 6), .int (xs 1), .ref (z 7), .ref (z 8), .ref (z 9), .ref (z 10), .ref (z 11), .ref (z 12), .int (xs 2), .ref (z 13), .ref (z 14), .int (xs 3), .ref (z 15)]))] H := hP
                  have hD : va_D A [(z 1, .inl (gI g, 461, .inl D)), (z 2, .inl (gI g, 7376, .inl Wk)), (z 0, .inr (12, [.ref (z 1), .ref (z 2), .int (nI kp), .int u_47, .ref (z 3), .ref (z 4), .ref (z 5), .ref (z 6), .int (xs 1), .ref (z 7), .ref (z 8), .ref (z 9), .ref (z 10), .ref (z 11), .ref (z 12), .int (xs 2), .ref (z 13), .ref (z 14), .int (xs 3), .ref (z 15)]))] := hD
                  have hw_48 : r_46 = (-100005) := hw_48
                  subst hw_48
                  exact k_iret (kp, (fun kk_ => ([u_47, (xs 1), (xs 2), (xs 3)] : List Int32).getD kk_ 0), D, Wk) [2, 0, 1] hx hb hr hlk hP hD hS (⟨hkp, hDI, hWI⟩) rfl rfl rfl (Nat.le_of_ble_eq_true rfl) (Nat.le_of_ble_eq_true rfl) dX12_child_108
              · refine lv_aload_n hx hb dX12_child_86 rfl (lv_at hl 0 rfl) ?_
                refine lv_iconst (v := 3) hx hb dX12_child_87 (by decide) ?_
                refine k_Vi [0] [1, 2] 0 12 (wr := [(z 1, .inl (gI g, 461, .inl D)), (z 2, .inl (gI g, 7376, .inl Wk))]) hx hb hml hown hts hKW hP hD hS hA hl.1 (c_X12_finding_3 l g _ z kp xs ) rfl rfl rfl wd_10_15 wd_1_5 wd_10_12 wd_10_13 wd_10_14 yd_X12_finding ⟨(Nat.le_of_ble_eq_true rfl), (Nat.le_of_ble_eq_true rfl)⟩ rfl rfl rfl rfl (by decide) rfl (Nat.le_of_ble_eq_true rfl) dX12_child_88 ⟨(Nat.le_of_ble_eq_true rfl), (Nat.le_of_ble_eq_true rfl)⟩ (fun r_49 u_50 H locs hw_51 hP hD hS => ?_)
                have hP : va_P g.1 vwCl [(z 1, .inl (gI g, 461, .inl D)), (z 2, .inl (gI g, 7376, .inl Wk)), (z 0, .inr (12, [.ref (z 1), .ref (z 2), .int (nI kp), .int u_50, .ref (z 3), .ref (z 4), .ref (z 5), .ref (z 6), .int (xs 1), .ref (z 7), .ref (z 8), .ref (z 9), .ref (z 10), .ref (z 11), .ref (z 12), .int (xs 2), .ref (z 13), .ref (z 14), .int (xs 3), .ref (z 15)]))] H := hP
                have hD : va_D A [(z 1, .inl (gI g, 461, .inl D)), (z 2, .inl (gI g, 7376, .inl Wk)), (z 0, .inr (12, [.ref (z 1), .ref (z 2), .int (nI kp), .int u_50, .ref (z 3), .ref (z 4), .ref (z 5), .ref (z 6), .int (xs 1), .ref (z 7), .ref (z 8), .ref (z 9), .ref (z 10), .ref (z 11), .ref (z 12), .int (xs 2), .ref (z 13), .ref (z 14), .int (xs 3), .ref (z 15)]))] := hD
                have hw_51 : r_49 = (-100003) := hw_51
                subst hw_51
                exact k_iret (kp, (fun kk_ => ([u_50, (xs 1), (xs 2), (xs 3)] : List Int32).getD kk_ 0), D, Wk) [2, 0, 1] hx hb hr hlk hP hD hS (⟨hkp, hDI, hWI⟩) rfl rfl rfl (Nat.le_of_ble_eq_true rfl) (Nat.le_of_ble_eq_true rfl) dX12_child_91
            · refine lv_if_ne (tgt := 73) hx hb dX12_child_64 (by decide) (fun c => absurd c (by decide)) (fun _ => ?_)
              refine lv_aload_n hx hb dX12_child_67 rfl (lv_at hl 0 rfl) ?_
              refine lv_iconst (v := 1) hx hb dX12_child_68 (by decide) ?_
              refine k_Vi [0] [1, 2] 0 12 (wr := [(z 1, .inl (gI g, 461, .inl D)), (z 2, .inl (gI g, 7376, .inl Wk))]) hx hb hml hown hts hKW hP hD hS hA hl.1 (c_X12_finding_1 l g _ z kp xs ) rfl rfl rfl wd_10_15 wd_1_5 wd_10_12 wd_10_13 wd_10_14 yd_X12_finding ⟨(Nat.le_of_ble_eq_true rfl), (Nat.le_of_ble_eq_true rfl)⟩ rfl rfl rfl rfl (by decide) rfl (Nat.le_of_ble_eq_true rfl) dX12_child_69 ⟨(Nat.le_of_ble_eq_true rfl), (Nat.le_of_ble_eq_true rfl)⟩ (fun r_52 u_53 H locs hw_54 hP hD hS => ?_)
              have hP : va_P g.1 vwCl [(z 1, .inl (gI g, 461, .inl D)), (z 2, .inl (gI g, 7376, .inl Wk)), (z 0, .inr (12, [.ref (z 1), .ref (z 2), .int (nI kp), .int u_53, .ref (z 3), .ref (z 4), .ref (z 5), .ref (z 6), .int (xs 1), .ref (z 7), .ref (z 8), .ref (z 9), .ref (z 10), .ref (z 11), .ref (z 12), .int (xs 2), .ref (z 13), .ref (z 14), .int (xs 3), .ref (z 15)]))] H := hP
              have hD : va_D A [(z 1, .inl (gI g, 461, .inl D)), (z 2, .inl (gI g, 7376, .inl Wk)), (z 0, .inr (12, [.ref (z 1), .ref (z 2), .int (nI kp), .int u_53, .ref (z 3), .ref (z 4), .ref (z 5), .ref (z 6), .int (xs 1), .ref (z 7), .ref (z 8), .ref (z 9), .ref (z 10), .ref (z 11), .ref (z 12), .int (xs 2), .ref (z 13), .ref (z 14), .int (xs 3), .ref (z 15)]))] := hD
              have hw_54 : r_52 = (-100001) := hw_54
              subst hw_54
              exact k_iret (kp, (fun kk_ => ([u_53, (xs 1), (xs 2), (xs 3)] : List Int32).getD kk_ 0), D, Wk) [2, 0, 1] hx hb hr hlk hP hD hS (⟨hkp, hDI, hWI⟩) rfl rfl rfl (Nat.le_of_ble_eq_true rfl) (Nat.le_of_ble_eq_true rfl) dX12_child_72
          · refine lv_if_eq (tgt := 67) hx hb dX12_child_50 (by decide) (fun _ => ?_) (fun c => absurd c (by decide))
            refine lv_aload_n hx hb dX12_child_67 rfl (lv_at hl 0 rfl) ?_
            refine lv_iconst (v := 1) hx hb dX12_child_68 (by decide) ?_
            refine k_Vi [0] [1, 2] 0 12 (wr := [(z 1, .inl (gI g, 461, .inl D)), (z 2, .inl (gI g, 7376, .inl Wk))]) hx hb hml hown hts hKW hP hD hS hA hl.1 (c_X12_finding_1 l g _ z kp xs ) rfl rfl rfl wd_10_15 wd_1_5 wd_10_12 wd_10_13 wd_10_14 yd_X12_finding ⟨(Nat.le_of_ble_eq_true rfl), (Nat.le_of_ble_eq_true rfl)⟩ rfl rfl rfl rfl (by decide) rfl (Nat.le_of_ble_eq_true rfl) dX12_child_69 ⟨(Nat.le_of_ble_eq_true rfl), (Nat.le_of_ble_eq_true rfl)⟩ (fun r_55 u_56 H locs hw_57 hP hD hS => ?_)
            have hP : va_P g.1 vwCl [(z 1, .inl (gI g, 461, .inl D)), (z 2, .inl (gI g, 7376, .inl Wk)), (z 0, .inr (12, [.ref (z 1), .ref (z 2), .int (nI kp), .int u_56, .ref (z 3), .ref (z 4), .ref (z 5), .ref (z 6), .int (xs 1), .ref (z 7), .ref (z 8), .ref (z 9), .ref (z 10), .ref (z 11), .ref (z 12), .int (xs 2), .ref (z 13), .ref (z 14), .int (xs 3), .ref (z 15)]))] H := hP
            have hD : va_D A [(z 1, .inl (gI g, 461, .inl D)), (z 2, .inl (gI g, 7376, .inl Wk)), (z 0, .inr (12, [.ref (z 1), .ref (z 2), .int (nI kp), .int u_56, .ref (z 3), .ref (z 4), .ref (z 5), .ref (z 6), .int (xs 1), .ref (z 7), .ref (z 8), .ref (z 9), .ref (z 10), .ref (z 11), .ref (z 12), .int (xs 2), .ref (z 13), .ref (z 14), .int (xs 3), .ref (z 15)]))] := hD
            have hw_57 : r_55 = (-100001) := hw_57
            subst hw_57
            exact k_iret (kp, (fun kk_ => ([u_56, (xs 1), (xs 2), (xs 3)] : List Int32).getD kk_ 0), D, Wk) [2, 0, 1] hx hb hr hlk hP hD hS (⟨hkp, hDI, hWI⟩) rfl rfl rfl (Nat.le_of_ble_eq_true rfl) (Nat.le_of_ble_eq_true rfl) dX12_child_72
      · refine lv_if_eq (tgt := 67) hx hb dX12_child_31 (by decide) (fun _ => ?_) (fun c => absurd c (by decide))
        refine lv_aload_n hx hb dX12_child_67 rfl (lv_at hl 0 rfl) ?_
        refine lv_iconst (v := 1) hx hb dX12_child_68 (by decide) ?_
        refine k_Vi [0] [1, 2] 0 12 (wr := [(z 1, .inl (gI g, 461, .inl D)), (z 2, .inl (gI g, 7376, .inl Wk))]) hx hb hml hown hts hKW hP hD hS hA hl.1 (c_X12_finding_1 l g _ z kp xs ) rfl rfl rfl wd_10_15 wd_1_5 wd_10_12 wd_10_13 wd_10_14 yd_X12_finding ⟨(Nat.le_of_ble_eq_true rfl), (Nat.le_of_ble_eq_true rfl)⟩ rfl rfl rfl rfl (by decide) rfl (Nat.le_of_ble_eq_true rfl) dX12_child_69 ⟨(Nat.le_of_ble_eq_true rfl), (Nat.le_of_ble_eq_true rfl)⟩ (fun r_58 u_59 H locs hw_60 hP hD hS => ?_)
        have hP : va_P g.1 vwCl [(z 1, .inl (gI g, 461, .inl D)), (z 2, .inl (gI g, 7376, .inl Wk)), (z 0, .inr (12, [.ref (z 1), .ref (z 2), .int (nI kp), .int u_59, .ref (z 3), .ref (z 4), .ref (z 5), .ref (z 6), .int (xs 1), .ref (z 7), .ref (z 8), .ref (z 9), .ref (z 10), .ref (z 11), .ref (z 12), .int (xs 2), .ref (z 13), .ref (z 14), .int (xs 3), .ref (z 15)]))] H := hP
        have hD : va_D A [(z 1, .inl (gI g, 461, .inl D)), (z 2, .inl (gI g, 7376, .inl Wk)), (z 0, .inr (12, [.ref (z 1), .ref (z 2), .int (nI kp), .int u_59, .ref (z 3), .ref (z 4), .ref (z 5), .ref (z 6), .int (xs 1), .ref (z 7), .ref (z 8), .ref (z 9), .ref (z 10), .ref (z 11), .ref (z 12), .int (xs 2), .ref (z 13), .ref (z 14), .int (xs 3), .ref (z 15)]))] := hD
        have hw_60 : r_58 = (-100001) := hw_60
        subst hw_60
        exact k_iret (kp, (fun kk_ => ([u_59, (xs 1), (xs 2), (xs 3)] : List Int32).getD kk_ 0), D, Wk) [2, 0, 1] hx hb hr hlk hP hD hS (⟨hkp, hDI, hWI⟩) rfl rfl rfl (Nat.le_of_ble_eq_true rfl) (Nat.le_of_ble_eq_true rfl) dX12_child_72
    · refine lv_aload_n hx hb dX12_child_16 rfl (lv_at hl 0 rfl) ?_
      refine lv_iload_n hx hb dX12_child_17 rfl (lv_at hl 2 rfl) ?_
      refine k_Vi [0, 1] [2] 0 12 (wr := [(z 2, .inl (gI g, 7376, .inl Wk))]) hx hb hml hown hts hKW hP hD hS hA hl.1 (c_X12_isChild l g _ z kp xs D y (by first | assumption | omega | decide)) rfl rfl rfl wd_13_19 wd_1_5 wd_13_16 wd_13_17 wd_13_18 yd_X12_isChild ⟨(Nat.le_of_ble_eq_true rfl), (Nat.le_of_ble_eq_true rfl)⟩ rfl rfl rfl rfl (by decide) rfl (Nat.le_of_ble_eq_true rfl) dX12_child_18 ⟨(Nat.le_of_ble_eq_true rfl), (Nat.le_of_ble_eq_true rfl)⟩ (fun r_61 u_62 H locs hw_63 hP hD hS => ?_)
      have hP : va_P g.1 vwCl [(z 2, .inl (gI g, 7376, .inl Wk)), (z 0, .inr (12, [.ref (z 1), .ref (z 2), .int (nI kp), .int (xs 0), .ref (z 3), .ref (z 4), .ref (z 5), .ref (z 6), .int (xs 1), .ref (z 7), .ref (z 8), .ref (z 9), .ref (z 10), .ref (z 11), .ref (z 12), .int (xs 2), .ref (z 13), .ref (z 14), .int (xs 3), .ref (z 15)])), (z 1, .inl (gI g, 461, .inl D))] H := hP
      have hD : va_D A [(z 2, .inl (gI g, 7376, .inl Wk)), (z 0, .inr (12, [.ref (z 1), .ref (z 2), .int (nI kp), .int (xs 0), .ref (z 3), .ref (z 4), .ref (z 5), .ref (z 6), .int (xs 1), .ref (z 7), .ref (z 8), .ref (z 9), .ref (z 10), .ref (z 11), .ref (z 12), .int (xs 2), .ref (z 13), .ref (z 14), .int (xs 3), .ref (z 15)])), (z 1, .inl (gI g, 461, .inl D))] := hD
      rcases (show (r_61 = 1 ∧ (∃ j : Nat, (j < 10 ∧ (j : Int) < (D 2).toInt) ∧ y = nI j)) ∨ (r_61 = 0 ∧ ¬ (∃ j : Nat, (j < 10 ∧ (j : Int) < (D 2).toInt) ∧ y = nI j)) from hw_63) with ⟨rfl, hw_63b⟩ | ⟨rfl, hw_63b⟩ <;> clear hw_63
      · obtain ⟨j_64, hj_64, rfl⟩ := hw_63b
        refine lv_if_eq (tgt := 67) hx hb dX12_child_21 (by decide) (fun c => absurd c (by decide)) (fun _ => ?_)
        refine lv_iload_n hx hb dX12_child_24 rfl (lv_at hl 3 rfl) ?_
        refine lv_iconst (v := 0) hx hb dX12_child_25 (by decide) ?_
        refine lv_bipush (v := 31) hx hb dX12_child_26 (by decide) ?_
        refine k_Si [] [0, 1, 2] (wr := [(z 2, .inl (gI g, 7376, .inl Wk)), (z 0, .inr (12, [.ref (z 1), .ref (z 2), .int (nI kp), .int (xs 0), .ref (z 3), .ref (z 4), .ref (z 5), .ref (z 6), .int (xs 1), .ref (z 7), .ref (z 8), .ref (z 9), .ref (z 10), .ref (z 11), .ref (z 12), .int (xs 2), .ref (z 13), .ref (z 14), .int (xs 3), .ref (z 15)])), (z 1, .inl (gI g, 461, .inl D))]) hx hb hml hown hts hKW hP hD hS hA hl.1 (c_X12_isIn l g _ v 0 31 ) wd_10_11 wd_1_5 wd_10_9 wd_10_10 yd_X12_isIn ⟨(Nat.le_of_ble_eq_true rfl), (Nat.le_of_ble_eq_true rfl)⟩ rfl rfl rfl rfl (by decide) rfl (Nat.le_of_ble_eq_true rfl) dX12_child_28 ⟨(Nat.le_of_ble_eq_true rfl), (Nat.le_of_ble_eq_true rfl)⟩ (fun r_65 u_66 H locs hw_67 hP hD hS => ?_)
        have hP : va_P g.1 vwCl [(z 2, .inl (gI g, 7376, .inl Wk)), (z 0, .inr (12, [.ref (z 1), .ref (z 2), .int (nI kp), .int (xs 0), .ref (z 3), .ref (z 4), .ref (z 5), .ref (z 6), .int (xs 1), .ref (z 7), .ref (z 8), .ref (z 9), .ref (z 10), .ref (z 11), .ref (z 12), .int (xs 2), .ref (z 13), .ref (z 14), .int (xs 3), .ref (z 15)])), (z 1, .inl (gI g, 461, .inl D))] H := hP
        have hD : va_D A [(z 2, .inl (gI g, 7376, .inl Wk)), (z 0, .inr (12, [.ref (z 1), .ref (z 2), .int (nI kp), .int (xs 0), .ref (z 3), .ref (z 4), .ref (z 5), .ref (z 6), .int (xs 1), .ref (z 7), .ref (z 8), .ref (z 9), .ref (z 10), .ref (z 11), .ref (z 12), .int (xs 2), .ref (z 13), .ref (z 14), .int (xs 3), .ref (z 15)])), (z 1, .inl (gI g, 461, .inl D))] := hD
        rcases (show (r_65 = 1 ∧ (Int32.toInt 0 ≤ Int32.toInt v ∧ Int32.toInt v ≤ Int32.toInt 31)) ∨ (r_65 = 0 ∧ ¬ (Int32.toInt 0 ≤ Int32.toInt v ∧ Int32.toInt v ≤ Int32.toInt 31)) from hw_67) with ⟨rfl, hw_67b⟩ | ⟨rfl, hw_67b⟩ <;> clear hw_67
        · refine lv_if_eq (tgt := 67) hx hb dX12_child_31 (by decide) (fun c => absurd c (by decide)) (fun _ => ?_)
          refine lv_iload hx hb dX12_child_34 (lv_at hl 4 rfl) ?_
          refine lv_if_lt (tgt := 67) hx hb dX12_child_36 (by decide) (fun c_68 => ?_) (fun c_68 => ?_)
          · refine lv_aload_n hx hb dX12_child_67 rfl (lv_at hl 0 rfl) ?_
            refine lv_iconst (v := 1) hx hb dX12_child_68 (by decide) ?_
            refine k_Vi [1] [0, 2] 1 12 (wr := [(z 2, .inl (gI g, 7376, .inl Wk)), (z 1, .inl (gI g, 461, .inl D))]) hx hb hml hown hts hKW hP hD hS hA hl.1 (c_X12_finding_1 l g _ z kp xs ) rfl rfl rfl wd_10_15 wd_1_5 wd_10_12 wd_10_13 wd_10_14 yd_X12_finding ⟨(Nat.le_of_ble_eq_true rfl), (Nat.le_of_ble_eq_true rfl)⟩ rfl rfl rfl rfl (by decide) rfl (Nat.le_of_ble_eq_true rfl) dX12_child_69 ⟨(Nat.le_of_ble_eq_true rfl), (Nat.le_of_ble_eq_true rfl)⟩ (fun r_69 u_70 H locs hw_71 hP hD hS => ?_)
            have hP : va_P g.1 vwCl [(z 2, .inl (gI g, 7376, .inl Wk)), (z 1, .inl (gI g, 461, .inl D)), (z 0, .inr (12, [.ref (z 1), .ref (z 2), .int (nI kp), .int u_70, .ref (z 3), .ref (z 4), .ref (z 5), .ref (z 6), .int (xs 1), .ref (z 7), .ref (z 8), .ref (z 9), .ref (z 10), .ref (z 11), .ref (z 12), .int (xs 2), .ref (z 13), .ref (z 14), .int (xs 3), .ref (z 15)]))] H := hP
            have hD : va_D A [(z 2, .inl (gI g, 7376, .inl Wk)), (z 1, .inl (gI g, 461, .inl D)), (z 0, .inr (12, [.ref (z 1), .ref (z 2), .int (nI kp), .int u_70, .ref (z 3), .ref (z 4), .ref (z 5), .ref (z 6), .int (xs 1), .ref (z 7), .ref (z 8), .ref (z 9), .ref (z 10), .ref (z 11), .ref (z 12), .int (xs 2), .ref (z 13), .ref (z 14), .int (xs 3), .ref (z 15)]))] := hD
            have hw_71 : r_69 = (-100001) := hw_71
            subst hw_71
            exact k_iret (kp, (fun kk_ => ([u_70, (xs 1), (xs 2), (xs 3)] : List Int32).getD kk_ 0), D, Wk) [2, 1, 0] hx hb hr hlk hP hD hS (⟨hkp, hDI, hWI⟩) rfl rfl rfl (Nat.le_of_ble_eq_true rfl) (Nat.le_of_ble_eq_true rfl) dX12_child_72
          · refine lv_iload hx hb dX12_child_39 (lv_at hl 4 rfl) ?_
            refine lv_bipush (v := 100) hx hb dX12_child_41 (by decide) ?_
            refine lv_idiv hx hb dX12_child_43 (by decide) ?_
            refine k_top (y := w / 100) rfl ?_
            refine lv_iconst (v := 0) hx hb dX12_child_44 (by decide) ?_
            refine lv_bipush (v := 60) hx hb dX12_child_45 (by decide) ?_
            refine k_Si [] [0, 1, 2] (wr := [(z 2, .inl (gI g, 7376, .inl Wk)), (z 0, .inr (12, [.ref (z 1), .ref (z 2), .int (nI kp), .int (xs 0), .ref (z 3), .ref (z 4), .ref (z 5), .ref (z 6), .int (xs 1), .ref (z 7), .ref (z 8), .ref (z 9), .ref (z 10), .ref (z 11), .ref (z 12), .int (xs 2), .ref (z 13), .ref (z 14), .int (xs 3), .ref (z 15)])), (z 1, .inl (gI g, 461, .inl D))]) hx hb hml hown hts hKW hP hD hS hA hl.1 (c_X12_isIn l g _ (w / 100) 0 60 ) wd_10_11 wd_1_5 wd_10_9 wd_10_10 yd_X12_isIn ⟨(Nat.le_of_ble_eq_true rfl), (Nat.le_of_ble_eq_true rfl)⟩ rfl rfl rfl rfl (by decide) rfl (Nat.le_of_ble_eq_true rfl) dX12_child_47 ⟨(Nat.le_of_ble_eq_true rfl), (Nat.le_of_ble_eq_true rfl)⟩ (fun r_72 u_73 H locs hw_74 hP hD hS => ?_)
            have hP : va_P g.1 vwCl [(z 2, .inl (gI g, 7376, .inl Wk)), (z 0, .inr (12, [.ref (z 1), .ref (z 2), .int (nI kp), .int (xs 0), .ref (z 3), .ref (z 4), .ref (z 5), .ref (z 6), .int (xs 1), .ref (z 7), .ref (z 8), .ref (z 9), .ref (z 10), .ref (z 11), .ref (z 12), .int (xs 2), .ref (z 13), .ref (z 14), .int (xs 3), .ref (z 15)])), (z 1, .inl (gI g, 461, .inl D))] H := hP
            have hD : va_D A [(z 2, .inl (gI g, 7376, .inl Wk)), (z 0, .inr (12, [.ref (z 1), .ref (z 2), .int (nI kp), .int (xs 0), .ref (z 3), .ref (z 4), .ref (z 5), .ref (z 6), .int (xs 1), .ref (z 7), .ref (z 8), .ref (z 9), .ref (z 10), .ref (z 11), .ref (z 12), .int (xs 2), .ref (z 13), .ref (z 14), .int (xs 3), .ref (z 15)])), (z 1, .inl (gI g, 461, .inl D))] := hD
            rcases (show (r_72 = 1 ∧ (Int32.toInt 0 ≤ Int32.toInt (w / 100) ∧ Int32.toInt (w / 100) ≤ Int32.toInt 60)) ∨ (r_72 = 0 ∧ ¬ (Int32.toInt 0 ≤ Int32.toInt (w / 100) ∧ Int32.toInt (w / 100) ≤ Int32.toInt 60)) from hw_74) with ⟨rfl, hw_74b⟩ | ⟨rfl, hw_74b⟩ <;> clear hw_74
            · refine lv_if_eq (tgt := 67) hx hb dX12_child_50 (by decide) (fun c => absurd c (by decide)) (fun _ => ?_)
              refine lv_iload hx hb dX12_child_53 (lv_at hl 4 rfl) ?_
              refine lv_bipush (v := 100) hx hb dX12_child_55 (by decide) ?_
              refine lv_irem hx hb dX12_child_57 (by decide) ?_
              refine k_top (y := w - w / 100 * 100) rfl ?_
              refine lv_iconst (v := 0) hx hb dX12_child_58 (by decide) ?_
              refine lv_bipush (v := 60) hx hb dX12_child_59 (by decide) ?_
              refine k_Si [] [0, 1, 2] (wr := [(z 2, .inl (gI g, 7376, .inl Wk)), (z 0, .inr (12, [.ref (z 1), .ref (z 2), .int (nI kp), .int (xs 0), .ref (z 3), .ref (z 4), .ref (z 5), .ref (z 6), .int (xs 1), .ref (z 7), .ref (z 8), .ref (z 9), .ref (z 10), .ref (z 11), .ref (z 12), .int (xs 2), .ref (z 13), .ref (z 14), .int (xs 3), .ref (z 15)])), (z 1, .inl (gI g, 461, .inl D))]) hx hb hml hown hts hKW hP hD hS hA hl.1 (c_X12_isIn l g _ (w - w / 100 * 100) 0 60 ) wd_10_11 wd_1_5 wd_10_9 wd_10_10 yd_X12_isIn ⟨(Nat.le_of_ble_eq_true rfl), (Nat.le_of_ble_eq_true rfl)⟩ rfl rfl rfl rfl (by decide) rfl (Nat.le_of_ble_eq_true rfl) dX12_child_61 ⟨(Nat.le_of_ble_eq_true rfl), (Nat.le_of_ble_eq_true rfl)⟩ (fun r_75 u_76 H locs hw_77 hP hD hS => ?_)
              have hP : va_P g.1 vwCl [(z 2, .inl (gI g, 7376, .inl Wk)), (z 0, .inr (12, [.ref (z 1), .ref (z 2), .int (nI kp), .int (xs 0), .ref (z 3), .ref (z 4), .ref (z 5), .ref (z 6), .int (xs 1), .ref (z 7), .ref (z 8), .ref (z 9), .ref (z 10), .ref (z 11), .ref (z 12), .int (xs 2), .ref (z 13), .ref (z 14), .int (xs 3), .ref (z 15)])), (z 1, .inl (gI g, 461, .inl D))] H := hP
              have hD : va_D A [(z 2, .inl (gI g, 7376, .inl Wk)), (z 0, .inr (12, [.ref (z 1), .ref (z 2), .int (nI kp), .int (xs 0), .ref (z 3), .ref (z 4), .ref (z 5), .ref (z 6), .int (xs 1), .ref (z 7), .ref (z 8), .ref (z 9), .ref (z 10), .ref (z 11), .ref (z 12), .int (xs 2), .ref (z 13), .ref (z 14), .int (xs 3), .ref (z 15)])), (z 1, .inl (gI g, 461, .inl D))] := hD
              rcases (show (r_75 = 1 ∧ (Int32.toInt 0 ≤ Int32.toInt (w - w / 100 * 100) ∧ Int32.toInt (w - w / 100 * 100) ≤ Int32.toInt 60)) ∨ (r_75 = 0 ∧ ¬ (Int32.toInt 0 ≤ Int32.toInt (w - w / 100 * 100) ∧ Int32.toInt (w - w / 100 * 100) ≤ Int32.toInt 60)) from hw_77) with ⟨rfl, hw_77b⟩ | ⟨rfl, hw_77b⟩ <;> clear hw_77
              · refine lv_if_ne (tgt := 73) hx hb dX12_child_64 (by decide) (fun _ => ?_) (fun c => absurd c (by decide))
                refine lv_iload hx hb dX12_child_73 (lv_at hl 4 rfl) ?_
                refine lv_bipush (v := 100) hx hb dX12_child_75 (by decide) ?_
                refine lv_idiv hx hb dX12_child_77 (by decide) ?_
                refine k_top (y := w / 100) rfl ?_
                refine lv_iload hx hb dX12_child_78 (lv_at hl 4 rfl) ?_
                refine lv_bipush (v := 100) hx hb dX12_child_80 (by decide) ?_
                refine lv_irem hx hb dX12_child_82 (by decide) ?_
                refine k_top (y := w - w / 100 * 100) rfl ?_
                refine lv_icmp_le (tgt := 92) hx hb dX12_child_83 (by decide) (fun c_78 => ?_) (fun c_78 => ?_)
                · refine lv_aload_n hx hb dX12_child_92 rfl (lv_at hl 0 rfl) ?_
                  refine va_get (ci := 12) (C := RX12) (T := TX12) (N := 20) hx hb hts inlX12 hown hKW.1 hP 1 rfl rfl 0 (by decide) (hts _ wd_6_5) (fun _ h => h) rfl dX12_child_93 ?_
                  refine lv_iconst (v := 2) hx hb dX12_child_96 (by decide) ?_
                  obtain ⟨dk_79, hdk_79a, hdk_79b, edk_79⟩ := DI.n2 hDI
                  refine va_iald hx hb hKW.1 hP 2 0 rfl rfl (show ¬ _ by decide) dX12_child_97 ?_
                  refine k_top (y := nI dk_79) edk_79 ?_
                  refine lv_bipush (v := 10) hx hb dX12_child_98 (by decide) ?_
                  refine lv_icmp_ne (tgt := 109) hx hb dX12_child_100 (by decide) (fun c_80 => ?_) (fun c_80 => ?_)
                  · have c_80n : ¬ dk_79 = 10 := fun h => c_80 ((k_eqI (a := dk_79) (b := 10) (by omega) (by omega)).mpr h)
                    refine lv_aload_n hx hb dX12_child_109 rfl (lv_at hl 0 rfl) ?_
                    refine k_Vv [1, 2, 0] [] 1 12 (wr := []) hx hb hml hown hts hKW hP hD hS hA hl.1 (c_X12_keep l g _ z kp xs D Wk (by first | assumption | omega | decide) (by first | assumption | omega | decide) (by first | assumption | omega | decide)) rfl rfl rfl wd_10_21 wd_1_5 wd_10_18 wd_10_19 wd_10_20 yd_X12_keep ⟨(Nat.le_of_ble_eq_true rfl), (Nat.le_of_ble_eq_true rfl)⟩ rfl rfl rfl rfl (by decide) rfl (Nat.le_of_ble_eq_true rfl) dX12_child_110 ⟨(Nat.le_of_ble_eq_true rfl), (Nat.le_of_ble_eq_true rfl)⟩ (fun u_82 H locs hw_83 hP hD hS => ?_)
                    obtain ⟨q_84, f_85⟩ := u_82
                    have hP : va_P g.1 vwCl [(z 0, .inr (12, [.ref (z 1), .ref (z 2), .int (nI q_84), .int (xs 0), .ref (z 3), .ref (z 4), .ref (z 5), .ref (z 6), .int (xs 1), .ref (z 7), .ref (z 8), .ref (z 9), .ref (z 10), .ref (z 11), .ref (z 12), .int (xs 2), .ref (z 13), .ref (z 14), .int (xs 3), .ref (z 15)])), (z 1, .inl (gI g, 461, .inl D)), (z 2, .inl (gI g, 7376, .inl f_85))] H := hP
                    have hD : va_D A [(z 0, .inr (12, [.ref (z 1), .ref (z 2), .int (nI q_84), .int (xs 0), .ref (z 3), .ref (z 4), .ref (z 5), .ref (z 6), .int (xs 1), .ref (z 7), .ref (z 8), .ref (z 9), .ref (z 10), .ref (z 11), .ref (z 12), .int (xs 2), .ref (z 13), .ref (z 14), .int (xs 3), .ref (z 15)])), (z 1, .inl (gI g, 461, .inl D)), (z 2, .inl (gI g, 7376, .inl f_85))] := hD
                    have hw_83 : q_84 ≤ 16 ∧ WI f_85 q_84 := hw_83
                    obtain ⟨hkk, hkW⟩ := hw_83
                    refine lv_aload_n hx hb dX12_child_113 rfl (lv_at hl 0 rfl) ?_
                    refine va_get (ci := 12) (C := RX12) (T := TX12) (N := 20) hx hb hts inlX12 hown hKW.1 hP 0 rfl rfl 0 (by decide) (hts _ wd_6_5) (fun _ h => h) rfl dX12_child_114 ?_
                    refine lv_iconst (v := 2) hx hb dX12_child_117 (by decide) ?_
                    refine va_iald hx hb hKW.1 hP 1 0 rfl rfl (show ¬ _ by decide) dX12_child_118 ?_
                    refine k_top (y := nI dk_79) edk_79 ?_
                    refine lv_istore (lv' := [(5, .int (nI dk_79)), (0, .ref (z 0)), (1, .int x), (2, .int (nI j_64)), (3, .int v), (4, .int w)]) hx hb dX12_child_119 hl (by decide) rfl (fun ls hl => ?_)
                    refine lv_aload_n hx hb dX12_child_121 rfl (lv_at hl 1 rfl) ?_
                    refine va_get (ci := 12) (C := RX12) (T := TX12) (N := 20) hx hb hts inlX12 hown hKW.1 hP 0 rfl rfl 0 (by decide) (hts _ wd_6_5) (fun _ h => h) rfl dX12_child_122 ?_
                    refine lv_bipush (v := 47) hx hb dX12_child_125 (by decide) ?_
                    refine lv_iload hx hb dX12_child_127 (lv_at hl 0 rfl) ?_
                    refine lv_iadd hx hb dX12_child_129 ?_
                    refine k_top (y := nI (dk_79 + 47)) (by rw [Nat.add_comm]; exact nI_add 47 dk_79) ?_
                    refine lv_iload_n hx hb dX12_child_130 rfl (lv_at hl 2 rfl) ?_
                    refine va_iast hx hb hKW.1 hP hD hS 1 0 rfl rfl (vp_in_nI (by omega) (by decide)) dX12_child_131 (fun H locs hP hD hS => ?_)
                    have hP : va_P g.1 vwCl [(z 0, .inr (12, [.ref (z 1), .ref (z 2), .int (nI q_84), .int (xs 0), .ref (z 3), .ref (z 4), .ref (z 5), .ref (z 6), .int (xs 1), .ref (z 7), .ref (z 8), .ref (z 9), .ref (z 10), .ref (z 11), .ref (z 12), .int (xs 2), .ref (z 13), .ref (z 14), .int (xs 3), .ref (z 15)])), (z 1, .inl (gI g, 461, .inl (upd D (nI (dk_79 + 47)).toNatClampNeg x))), (z 2, .inl (gI g, 7376, .inl f_85))] H := hP
                    have hD : va_D A [(z 0, .inr (12, [.ref (z 1), .ref (z 2), .int (nI q_84), .int (xs 0), .ref (z 3), .ref (z 4), .ref (z 5), .ref (z 6), .int (xs 1), .ref (z 7), .ref (z 8), .ref (z 9), .ref (z 10), .ref (z 11), .ref (z 12), .int (xs 2), .ref (z 13), .ref (z 14), .int (xs 3), .ref (z 15)])), (z 1, .inl (gI g, 461, .inl (upd D (nI (dk_79 + 47)).toNatClampNeg x))), (z 2, .inl (gI g, 7376, .inl f_85))] := hD
                    obtain ⟨f_86, ef_86⟩ : ∃ zz_ : Nat → Int32, zz_ = upd D (nI (dk_79 + 47)).toNatClampNeg x := ⟨_, rfl⟩
                    rw [← ef_86] at hP hD
                    have dz_87 : f_86 2 = nI dk_79 := by rw [ef_86, nI_clamp (by omega), pk_un (by omega)]; exact edk_79
                    have hDf_86 : DI f_86 := DI.free (i := (dk_79 + 47)) (x := x) hDI (by rw [ef_86, nI_clamp (by omega)]) (by unfold dFree; omega)
                    refine lv_aload_n hx hb dX12_child_132 rfl (lv_at hl 1 rfl) ?_
                    refine va_get (ci := 12) (C := RX12) (T := TX12) (N := 20) hx hb hts inlX12 hown hKW.1 hP 0 rfl rfl 0 (by decide) (hts _ wd_6_5) (fun _ h => h) rfl dX12_child_133 ?_
                    refine lv_bipush (v := 57) hx hb dX12_child_136 (by decide) ?_
                    refine lv_iload hx hb dX12_child_138 (lv_at hl 0 rfl) ?_
                    refine lv_iadd hx hb dX12_child_140 ?_
                    refine k_top (y := nI (dk_79 + 57)) (by rw [Nat.add_comm]; exact nI_add 57 dk_79) ?_
                    refine lv_iload_n hx hb dX12_child_141 rfl (lv_at hl 3 rfl) ?_
                    refine va_iast hx hb hKW.1 hP hD hS 1 0 rfl rfl (vp_in_nI (by omega) (by decide)) dX12_child_142 (fun H locs hP hD hS => ?_)
                    have hP : va_P g.1 vwCl [(z 0, .inr (12, [.ref (z 1), .ref (z 2), .int (nI q_84), .int (xs 0), .ref (z 3), .ref (z 4), .ref (z 5), .ref (z 6), .int (xs 1), .ref (z 7), .ref (z 8), .ref (z 9), .ref (z 10), .ref (z 11), .ref (z 12), .int (xs 2), .ref (z 13), .ref (z 14), .int (xs 3), .ref (z 15)])), (z 1, .inl (gI g, 461, .inl (upd f_86 (nI (dk_79 + 57)).toNatClampNeg (nI j_64)))), (z 2, .inl (gI g, 7376, .inl f_85))] H := hP
                    have hD : va_D A [(z 0, .inr (12, [.ref (z 1), .ref (z 2), .int (nI q_84), .int (xs 0), .ref (z 3), .ref (z 4), .ref (z 5), .ref (z 6), .int (xs 1), .ref (z 7), .ref (z 8), .ref (z 9), .ref (z 10), .ref (z 11), .ref (z 12), .int (xs 2), .ref (z 13), .ref (z 14), .int (xs 3), .ref (z 15)])), (z 1, .inl (gI g, 461, .inl (upd f_86 (nI (dk_79 + 57)).toNatClampNeg (nI j_64)))), (z 2, .inl (gI g, 7376, .inl f_85))] := hD
                    obtain ⟨f_88, ef_88⟩ : ∃ zz_ : Nat → Int32, zz_ = upd f_86 (nI (dk_79 + 57)).toNatClampNeg (nI j_64) := ⟨_, rfl⟩
                    rw [← ef_88] at hP hD
                    have dz_89 : f_88 2 = nI dk_79 := by rw [ef_88, nI_clamp (by omega), pk_un (by omega)]; exact dz_87
                    have hDf_88 : DI f_88 := DI.free (i := (dk_79 + 57)) (x := nI j_64) hDf_86 (by rw [ef_88, nI_clamp (by omega)]) (by unfold dFree; omega)
                    refine lv_aload_n hx hb dX12_child_143 rfl (lv_at hl 1 rfl) ?_
                    refine va_get (ci := 12) (C := RX12) (T := TX12) (N := 20) hx hb hts inlX12 hown hKW.1 hP 0 rfl rfl 0 (by decide) (hts _ wd_6_5) (fun _ h => h) rfl dX12_child_144 ?_
                    refine lv_bipush (v := 67) hx hb dX12_child_147 (by decide) ?_
                    refine lv_iload hx hb dX12_child_149 (lv_at hl 0 rfl) ?_
                    refine lv_iadd hx hb dX12_child_151 ?_
                    refine k_top (y := nI (dk_79 + 67)) (by rw [Nat.add_comm]; exact nI_add 67 dk_79) ?_
                    refine lv_iload_n hx hb dX12_child_152 rfl (lv_at hl 4 rfl) ?_
                    refine va_iast hx hb hKW.1 hP hD hS 1 0 rfl rfl (vp_in_nI (by omega) (by decide)) dX12_child_153 (fun H locs hP hD hS => ?_)
                    have hP : va_P g.1 vwCl [(z 0, .inr (12, [.ref (z 1), .ref (z 2), .int (nI q_84), .int (xs 0), .ref (z 3), .ref (z 4), .ref (z 5), .ref (z 6), .int (xs 1), .ref (z 7), .ref (z 8), .ref (z 9), .ref (z 10), .ref (z 11), .ref (z 12), .int (xs 2), .ref (z 13), .ref (z 14), .int (xs 3), .ref (z 15)])), (z 1, .inl (gI g, 461, .inl (upd f_88 (nI (dk_79 + 67)).toNatClampNeg v))), (z 2, .inl (gI g, 7376, .inl f_85))] H := hP
                    have hD : va_D A [(z 0, .inr (12, [.ref (z 1), .ref (z 2), .int (nI q_84), .int (xs 0), .ref (z 3), .ref (z 4), .ref (z 5), .ref (z 6), .int (xs 1), .ref (z 7), .ref (z 8), .ref (z 9), .ref (z 10), .ref (z 11), .ref (z 12), .int (xs 2), .ref (z 13), .ref (z 14), .int (xs 3), .ref (z 15)])), (z 1, .inl (gI g, 461, .inl (upd f_88 (nI (dk_79 + 67)).toNatClampNeg v))), (z 2, .inl (gI g, 7376, .inl f_85))] := hD
                    obtain ⟨f_90, ef_90⟩ : ∃ zz_ : Nat → Int32, zz_ = upd f_88 (nI (dk_79 + 67)).toNatClampNeg v := ⟨_, rfl⟩
                    rw [← ef_90] at hP hD
                    have dz_91 : f_90 2 = nI dk_79 := by rw [ef_90, nI_clamp (by omega), pk_un (by omega)]; exact dz_89
                    have hDf_90 : DI f_90 := DI.free (i := (dk_79 + 67)) (x := v) hDf_88 (by rw [ef_90, nI_clamp (by omega)]) (by unfold dFree; omega)
                    refine lv_aload_n hx hb dX12_child_154 rfl (lv_at hl 1 rfl) ?_
                    refine va_get (ci := 12) (C := RX12) (T := TX12) (N := 20) hx hb hts inlX12 hown hKW.1 hP 0 rfl rfl 0 (by decide) (hts _ wd_6_5) (fun _ h => h) rfl dX12_child_155 ?_
                    refine lv_bipush (v := 77) hx hb dX12_child_158 (by decide) ?_
                    refine lv_iload hx hb dX12_child_160 (lv_at hl 0 rfl) ?_
                    refine lv_iadd hx hb dX12_child_162 ?_
                    refine k_top (y := nI (dk_79 + 77)) (by rw [Nat.add_comm]; exact nI_add 77 dk_79) ?_
                    refine lv_iload hx hb dX12_child_163 (lv_at hl 5 rfl) ?_
                    refine lv_bipush (v := 100) hx hb dX12_child_165 (by decide) ?_
                    refine lv_idiv hx hb dX12_child_167 (by decide) ?_
                    refine k_top (y := w / 100) rfl ?_
                    refine va_iast hx hb hKW.1 hP hD hS 1 0 rfl rfl (vp_in_nI (by omega) (by decide)) dX12_child_168 (fun H locs hP hD hS => ?_)
                    have hP : va_P g.1 vwCl [(z 0, .inr (12, [.ref (z 1), .ref (z 2), .int (nI q_84), .int (xs 0), .ref (z 3), .ref (z 4), .ref (z 5), .ref (z 6), .int (xs 1), .ref (z 7), .ref (z 8), .ref (z 9), .ref (z 10), .ref (z 11), .ref (z 12), .int (xs 2), .ref (z 13), .ref (z 14), .int (xs 3), .ref (z 15)])), (z 1, .inl (gI g, 461, .inl (upd f_90 (nI (dk_79 + 77)).toNatClampNeg (w / 100)))), (z 2, .inl (gI g, 7376, .inl f_85))] H := hP
                    have hD : va_D A [(z 0, .inr (12, [.ref (z 1), .ref (z 2), .int (nI q_84), .int (xs 0), .ref (z 3), .ref (z 4), .ref (z 5), .ref (z 6), .int (xs 1), .ref (z 7), .ref (z 8), .ref (z 9), .ref (z 10), .ref (z 11), .ref (z 12), .int (xs 2), .ref (z 13), .ref (z 14), .int (xs 3), .ref (z 15)])), (z 1, .inl (gI g, 461, .inl (upd f_90 (nI (dk_79 + 77)).toNatClampNeg (w / 100)))), (z 2, .inl (gI g, 7376, .inl f_85))] := hD
                    obtain ⟨f_92, ef_92⟩ : ∃ zz_ : Nat → Int32, zz_ = upd f_90 (nI (dk_79 + 77)).toNatClampNeg (w / 100) := ⟨_, rfl⟩
                    rw [← ef_92] at hP hD
                    have dz_93 : f_92 2 = nI dk_79 := by rw [ef_92, nI_clamp (by omega), pk_un (by omega)]; exact dz_91
                    have hDf_92 : DI f_92 := DI.upd (i := (dk_79 + 77)) (x := w / 100) hDf_90 (by rw [ef_92, nI_clamp (by omega)]) (h0 := (fun q => absurd q (by omega))) (h1 := (fun q => absurd q (by omega))) (h2 := (fun q => absurd q (by omega))) (h5 := (fun q => absurd q (by omega))) (h6 := (fun q => absurd q (by omega))) (h7 := (fun q => absurd q (by omega))) (h10 := (fun q => absurd q (by omega))) (hf := (fun _ _ => hw_74b)) (hn := (fun q q2 => False.elim (by omega))) (ht := (fun q q2 => False.elim (by omega))) (hl := (fun q q2 => False.elim (by omega))) (h8 := (by omega))
                    refine lv_aload_n hx hb dX12_child_169 rfl (lv_at hl 1 rfl) ?_
                    refine va_get (ci := 12) (C := RX12) (T := TX12) (N := 20) hx hb hts inlX12 hown hKW.1 hP 0 rfl rfl 0 (by decide) (hts _ wd_6_5) (fun _ h => h) rfl dX12_child_170 ?_
                    refine lv_bipush (v := 87) hx hb dX12_child_173 (by decide) ?_
                    refine lv_iload hx hb dX12_child_175 (lv_at hl 0 rfl) ?_
                    refine lv_iadd hx hb dX12_child_177 ?_
                    refine k_top (y := nI (dk_79 + 87)) (by rw [Nat.add_comm]; exact nI_add 87 dk_79) ?_
                    refine lv_iload hx hb dX12_child_178 (lv_at hl 5 rfl) ?_
                    refine lv_bipush (v := 100) hx hb dX12_child_180 (by decide) ?_
                    refine lv_irem hx hb dX12_child_182 (by decide) ?_
                    refine k_top (y := w - w / 100 * 100) rfl ?_
                    refine va_iast hx hb hKW.1 hP hD hS 1 0 rfl rfl (vp_in_nI (by omega) (by decide)) dX12_child_183 (fun H locs hP hD hS => ?_)
                    have hP : va_P g.1 vwCl [(z 0, .inr (12, [.ref (z 1), .ref (z 2), .int (nI q_84), .int (xs 0), .ref (z 3), .ref (z 4), .ref (z 5), .ref (z 6), .int (xs 1), .ref (z 7), .ref (z 8), .ref (z 9), .ref (z 10), .ref (z 11), .ref (z 12), .int (xs 2), .ref (z 13), .ref (z 14), .int (xs 3), .ref (z 15)])), (z 1, .inl (gI g, 461, .inl (upd f_92 (nI (dk_79 + 87)).toNatClampNeg (w - w / 100 * 100)))), (z 2, .inl (gI g, 7376, .inl f_85))] H := hP
                    have hD : va_D A [(z 0, .inr (12, [.ref (z 1), .ref (z 2), .int (nI q_84), .int (xs 0), .ref (z 3), .ref (z 4), .ref (z 5), .ref (z 6), .int (xs 1), .ref (z 7), .ref (z 8), .ref (z 9), .ref (z 10), .ref (z 11), .ref (z 12), .int (xs 2), .ref (z 13), .ref (z 14), .int (xs 3), .ref (z 15)])), (z 1, .inl (gI g, 461, .inl (upd f_92 (nI (dk_79 + 87)).toNatClampNeg (w - w / 100 * 100)))), (z 2, .inl (gI g, 7376, .inl f_85))] := hD
                    obtain ⟨f_94, ef_94⟩ : ∃ zz_ : Nat → Int32, zz_ = upd f_92 (nI (dk_79 + 87)).toNatClampNeg (w - w / 100 * 100) := ⟨_, rfl⟩
                    rw [← ef_94] at hP hD
                    have dz_95 : f_94 2 = nI dk_79 := by rw [ef_94, nI_clamp (by omega), pk_un (by omega)]; exact dz_93
                    have hDf_94 : DI f_94 := DI.upd (i := (dk_79 + 87)) (x := w - w / 100 * 100) hDf_92 (by rw [ef_94, nI_clamp (by omega)]) (h0 := (fun q => absurd q (by omega))) (h1 := (fun q => absurd q (by omega))) (h2 := (fun q => absurd q (by omega))) (h5 := (fun q => absurd q (by omega))) (h6 := (fun q => absurd q (by omega))) (h7 := (fun q => absurd q (by omega))) (h10 := (fun q => absurd q (by omega))) (hf := (fun _ _ => hw_77b)) (hn := (fun q q2 => False.elim (by omega))) (ht := (fun q q2 => False.elim (by omega))) (hl := (fun q q2 => False.elim (by omega))) (h8 := (by omega))
                    refine lv_aload_n hx hb dX12_child_184 rfl (lv_at hl 1 rfl) ?_
                    refine va_get (ci := 12) (C := RX12) (T := TX12) (N := 20) hx hb hts inlX12 hown hKW.1 hP 0 rfl rfl 0 (by decide) (hts _ wd_6_5) (fun _ h => h) rfl dX12_child_185 ?_
                    refine lv_bipush (v := 97) hx hb dX12_child_188 (by decide) ?_
                    refine lv_iload hx hb dX12_child_190 (lv_at hl 0 rfl) ?_
                    refine lv_iadd hx hb dX12_child_192 ?_
                    refine k_top (y := nI (dk_79 + 97)) (by rw [Nat.add_comm]; exact nI_add 97 dk_79) ?_
                    refine lv_iconst (v := (-1)) hx hb dX12_child_193 (by decide) ?_
                    refine va_iast hx hb hKW.1 hP hD hS 1 0 rfl rfl (vp_in_nI (by omega) (by decide)) dX12_child_194 (fun H locs hP hD hS => ?_)
                    have hP : va_P g.1 vwCl [(z 0, .inr (12, [.ref (z 1), .ref (z 2), .int (nI q_84), .int (xs 0), .ref (z 3), .ref (z 4), .ref (z 5), .ref (z 6), .int (xs 1), .ref (z 7), .ref (z 8), .ref (z 9), .ref (z 10), .ref (z 11), .ref (z 12), .int (xs 2), .ref (z 13), .ref (z 14), .int (xs 3), .ref (z 15)])), (z 1, .inl (gI g, 461, .inl (upd f_94 (nI (dk_79 + 97)).toNatClampNeg (-1)))), (z 2, .inl (gI g, 7376, .inl f_85))] H := hP
                    have hD : va_D A [(z 0, .inr (12, [.ref (z 1), .ref (z 2), .int (nI q_84), .int (xs 0), .ref (z 3), .ref (z 4), .ref (z 5), .ref (z 6), .int (xs 1), .ref (z 7), .ref (z 8), .ref (z 9), .ref (z 10), .ref (z 11), .ref (z 12), .int (xs 2), .ref (z 13), .ref (z 14), .int (xs 3), .ref (z 15)])), (z 1, .inl (gI g, 461, .inl (upd f_94 (nI (dk_79 + 97)).toNatClampNeg (-1)))), (z 2, .inl (gI g, 7376, .inl f_85))] := hD
                    obtain ⟨f_96, ef_96⟩ : ∃ zz_ : Nat → Int32, zz_ = upd f_94 (nI (dk_79 + 97)).toNatClampNeg (-1) := ⟨_, rfl⟩
                    rw [← ef_96] at hP hD
                    have dz_97 : f_96 2 = nI dk_79 := by rw [ef_96, nI_clamp (by omega), pk_un (by omega)]; exact dz_95
                    have hDf_96 : DI f_96 := DI.free (i := (dk_79 + 97)) (x := (-1)) hDf_94 (by rw [ef_96, nI_clamp (by omega)]) (by unfold dFree; omega)
                    refine lv_aload_n hx hb dX12_child_195 rfl (lv_at hl 1 rfl) ?_
                    refine va_get (ci := 12) (C := RX12) (T := TX12) (N := 20) hx hb hts inlX12 hown hKW.1 hP 0 rfl rfl 0 (by decide) (hts _ wd_6_5) (fun _ h => h) rfl dX12_child_196 ?_
                    refine lv_bipush (v := 107) hx hb dX12_child_199 (by decide) ?_
                    refine lv_iload hx hb dX12_child_201 (lv_at hl 0 rfl) ?_
                    refine lv_iadd hx hb dX12_child_203 ?_
                    refine k_top (y := nI (dk_79 + 107)) (by rw [Nat.add_comm]; exact nI_add 107 dk_79) ?_
                    refine lv_iconst (v := 0) hx hb dX12_child_204 (by decide) ?_
                    refine va_iast hx hb hKW.1 hP hD hS 1 0 rfl rfl (vp_in_nI (by omega) (by decide)) dX12_child_205 (fun H locs hP hD hS => ?_)
                    have hP : va_P g.1 vwCl [(z 0, .inr (12, [.ref (z 1), .ref (z 2), .int (nI q_84), .int (xs 0), .ref (z 3), .ref (z 4), .ref (z 5), .ref (z 6), .int (xs 1), .ref (z 7), .ref (z 8), .ref (z 9), .ref (z 10), .ref (z 11), .ref (z 12), .int (xs 2), .ref (z 13), .ref (z 14), .int (xs 3), .ref (z 15)])), (z 1, .inl (gI g, 461, .inl (upd f_96 (nI (dk_79 + 107)).toNatClampNeg 0))), (z 2, .inl (gI g, 7376, .inl f_85))] H := hP
                    have hD : va_D A [(z 0, .inr (12, [.ref (z 1), .ref (z 2), .int (nI q_84), .int (xs 0), .ref (z 3), .ref (z 4), .ref (z 5), .ref (z 6), .int (xs 1), .ref (z 7), .ref (z 8), .ref (z 9), .ref (z 10), .ref (z 11), .ref (z 12), .int (xs 2), .ref (z 13), .ref (z 14), .int (xs 3), .ref (z 15)])), (z 1, .inl (gI g, 461, .inl (upd f_96 (nI (dk_79 + 107)).toNatClampNeg 0))), (z 2, .inl (gI g, 7376, .inl f_85))] := hD
                    obtain ⟨f_98, ef_98⟩ : ∃ zz_ : Nat → Int32, zz_ = upd f_96 (nI (dk_79 + 107)).toNatClampNeg 0 := ⟨_, rfl⟩
                    rw [← ef_98] at hP hD
                    have dz_99 : f_98 2 = nI dk_79 := by rw [ef_98, nI_clamp (by omega), pk_un (by omega)]; exact dz_97
                    have hDf_98 : DI f_98 := DI.free (i := (dk_79 + 107)) (x := 0) hDf_96 (by rw [ef_98, nI_clamp (by omega)]) (by unfold dFree; omega)
                    refine lv_aload_n hx hb dX12_child_206 rfl (lv_at hl 1 rfl) ?_
                    refine va_get (ci := 12) (C := RX12) (T := TX12) (N := 20) hx hb hts inlX12 hown hKW.1 hP 0 rfl rfl 0 (by decide) (hts _ wd_6_5) (fun _ h => h) rfl dX12_child_207 ?_
                    refine lv_bipush (v := 117) hx hb dX12_child_210 (by decide) ?_
                    refine lv_iload hx hb dX12_child_212 (lv_at hl 0 rfl) ?_
                    refine lv_iadd hx hb dX12_child_214 ?_
                    refine k_top (y := nI (dk_79 + 117)) (by rw [Nat.add_comm]; exact nI_add 117 dk_79) ?_
                    refine lv_iconst (v := 0) hx hb dX12_child_215 (by decide) ?_
                    refine va_iast hx hb hKW.1 hP hD hS 1 0 rfl rfl (vp_in_nI (by omega) (by decide)) dX12_child_216 (fun H locs hP hD hS => ?_)
                    have hP : va_P g.1 vwCl [(z 0, .inr (12, [.ref (z 1), .ref (z 2), .int (nI q_84), .int (xs 0), .ref (z 3), .ref (z 4), .ref (z 5), .ref (z 6), .int (xs 1), .ref (z 7), .ref (z 8), .ref (z 9), .ref (z 10), .ref (z 11), .ref (z 12), .int (xs 2), .ref (z 13), .ref (z 14), .int (xs 3), .ref (z 15)])), (z 1, .inl (gI g, 461, .inl (upd f_98 (nI (dk_79 + 117)).toNatClampNeg 0))), (z 2, .inl (gI g, 7376, .inl f_85))] H := hP
                    have hD : va_D A [(z 0, .inr (12, [.ref (z 1), .ref (z 2), .int (nI q_84), .int (xs 0), .ref (z 3), .ref (z 4), .ref (z 5), .ref (z 6), .int (xs 1), .ref (z 7), .ref (z 8), .ref (z 9), .ref (z 10), .ref (z 11), .ref (z 12), .int (xs 2), .ref (z 13), .ref (z 14), .int (xs 3), .ref (z 15)])), (z 1, .inl (gI g, 461, .inl (upd f_98 (nI (dk_79 + 117)).toNatClampNeg 0))), (z 2, .inl (gI g, 7376, .inl f_85))] := hD
                    obtain ⟨f_100, ef_100⟩ : ∃ zz_ : Nat → Int32, zz_ = upd f_98 (nI (dk_79 + 117)).toNatClampNeg 0 := ⟨_, rfl⟩
                    rw [← ef_100] at hP hD
                    have dz_101 : f_100 2 = nI dk_79 := by rw [ef_100, nI_clamp (by omega), pk_un (by omega)]; exact dz_99
                    have hDf_100 : DI f_100 := DI.free (i := (dk_79 + 117)) (x := 0) hDf_98 (by rw [ef_100, nI_clamp (by omega)]) (by unfold dFree; omega)
                    refine lv_aload_n hx hb dX12_child_217 rfl (lv_at hl 1 rfl) ?_
                    refine va_get (ci := 12) (C := RX12) (T := TX12) (N := 20) hx hb hts inlX12 hown hKW.1 hP 0 rfl rfl 0 (by decide) (hts _ wd_6_5) (fun _ h => h) rfl dX12_child_218 ?_
                    refine lv_bipush (v := 127) hx hb dX12_child_221 (by decide) ?_
                    refine lv_iload hx hb dX12_child_223 (lv_at hl 0 rfl) ?_
                    refine lv_iadd hx hb dX12_child_225 ?_
                    refine k_top (y := nI (dk_79 + 127)) (by rw [Nat.add_comm]; exact nI_add 127 dk_79) ?_
                    refine lv_iconst (v := 0) hx hb dX12_child_226 (by decide) ?_
                    refine va_iast hx hb hKW.1 hP hD hS 1 0 rfl rfl (vp_in_nI (by omega) (by decide)) dX12_child_227 (fun H locs hP hD hS => ?_)
                    have hP : va_P g.1 vwCl [(z 0, .inr (12, [.ref (z 1), .ref (z 2), .int (nI q_84), .int (xs 0), .ref (z 3), .ref (z 4), .ref (z 5), .ref (z 6), .int (xs 1), .ref (z 7), .ref (z 8), .ref (z 9), .ref (z 10), .ref (z 11), .ref (z 12), .int (xs 2), .ref (z 13), .ref (z 14), .int (xs 3), .ref (z 15)])), (z 1, .inl (gI g, 461, .inl (upd f_100 (nI (dk_79 + 127)).toNatClampNeg 0))), (z 2, .inl (gI g, 7376, .inl f_85))] H := hP
                    have hD : va_D A [(z 0, .inr (12, [.ref (z 1), .ref (z 2), .int (nI q_84), .int (xs 0), .ref (z 3), .ref (z 4), .ref (z 5), .ref (z 6), .int (xs 1), .ref (z 7), .ref (z 8), .ref (z 9), .ref (z 10), .ref (z 11), .ref (z 12), .int (xs 2), .ref (z 13), .ref (z 14), .int (xs 3), .ref (z 15)])), (z 1, .inl (gI g, 461, .inl (upd f_100 (nI (dk_79 + 127)).toNatClampNeg 0))), (z 2, .inl (gI g, 7376, .inl f_85))] := hD
                    obtain ⟨f_102, ef_102⟩ : ∃ zz_ : Nat → Int32, zz_ = upd f_100 (nI (dk_79 + 127)).toNatClampNeg 0 := ⟨_, rfl⟩
                    rw [← ef_102] at hP hD
                    have dz_103 : f_102 2 = nI dk_79 := by rw [ef_102, nI_clamp (by omega), pk_un (by omega)]; exact dz_101
                    have hDf_102 : DI f_102 := DI.free (i := (dk_79 + 127)) (x := 0) hDf_100 (by rw [ef_102, nI_clamp (by omega)]) (by unfold dFree; omega)
                    refine lv_aload_n hx hb dX12_child_228 rfl (lv_at hl 1 rfl) ?_
                    refine va_get (ci := 12) (C := RX12) (T := TX12) (N := 20) hx hb hts inlX12 hown hKW.1 hP 0 rfl rfl 0 (by decide) (hts _ wd_6_5) (fun _ h => h) rfl dX12_child_229 ?_
                    refine lv_iconst (v := 2) hx hb dX12_child_232 (by decide) ?_
                    refine lv_dup2_11 hx hb dX12_child_233 rfl rfl ?_
                    refine va_iald hx hb hKW.1 hP 1 0 rfl rfl (show ¬ _ by decide) dX12_child_234 ?_
                    refine k_top (y := nI dk_79) dz_103 ?_
                    refine lv_iconst (v := 1) hx hb dX12_child_235 (by decide) ?_
                    refine lv_iadd hx hb dX12_child_236 ?_
                    refine k_top (y := nI (dk_79 + 1)) (nI_add dk_79 1) ?_
                    refine va_iast hx hb hKW.1 hP hD hS 1 0 rfl rfl (show ¬ _ by decide) dX12_child_237 (fun H locs hP hD hS => ?_)
                    have hP : va_P g.1 vwCl [(z 0, .inr (12, [.ref (z 1), .ref (z 2), .int (nI q_84), .int (xs 0), .ref (z 3), .ref (z 4), .ref (z 5), .ref (z 6), .int (xs 1), .ref (z 7), .ref (z 8), .ref (z 9), .ref (z 10), .ref (z 11), .ref (z 12), .int (xs 2), .ref (z 13), .ref (z 14), .int (xs 3), .ref (z 15)])), (z 1, .inl (gI g, 461, .inl (upd f_102 2 (nI (dk_79 + 1))))), (z 2, .inl (gI g, 7376, .inl f_85))] H := hP
                    have hD : va_D A [(z 0, .inr (12, [.ref (z 1), .ref (z 2), .int (nI q_84), .int (xs 0), .ref (z 3), .ref (z 4), .ref (z 5), .ref (z 6), .int (xs 1), .ref (z 7), .ref (z 8), .ref (z 9), .ref (z 10), .ref (z 11), .ref (z 12), .int (xs 2), .ref (z 13), .ref (z 14), .int (xs 3), .ref (z 15)])), (z 1, .inl (gI g, 461, .inl (upd f_102 2 (nI (dk_79 + 1))))), (z 2, .inl (gI g, 7376, .inl f_85))] := hD
                    obtain ⟨f_104, ef_104⟩ : ∃ zz_ : Nat → Int32, zz_ = upd f_102 2 (nI (dk_79 + 1)) := ⟨_, rfl⟩
                    rw [← ef_104] at hP hD
                    have dz_105 : f_104 2 = nI (dk_79 + 1) := by rw [ef_104, pk_us]
                    have hDf_104 : DI f_104 := DI.upd (i := 2) (x := nI (dk_79 + 1)) hDf_102 ef_104 (h0 := (fun q => absurd q (by omega))) (h1 := (fun q => absurd q (by omega))) (h2 := (fun _ => by rw [dz_103, k_nIi (by omega), k_nIi (by omega)]; omega)) (h5 := (fun q => absurd q (by omega))) (h6 := (fun q => absurd q (by omega))) (h7 := (fun q => absurd q (by omega))) (h10 := (fun q => absurd q (by omega))) (hf := (fun q q2 => False.elim (by omega))) (hn := (fun q q2 => False.elim (by omega))) (ht := (fun q q2 => False.elim (by omega))) (hl := (fun q q2 => False.elim (by omega))) (h8 := (by omega))
                    refine lv_iload hx hb dX12_child_238 (lv_at hl 0 rfl) ?_
                    exact k_iret (q_84, xs, f_104, f_85) [0, 1, 2] hx hb hr hlk hP hD hS (⟨hkk, hDf_104, hkW⟩) rfl rfl rfl (Nat.le_of_ble_eq_true rfl) (Nat.le_of_ble_eq_true rfl) dX12_child_240
                  · have c_80n : dk_79 = 10 := (k_eqI (a := dk_79) (b := 10) (by omega) (by omega)).mp c_80
                    refine lv_aload_n hx hb dX12_child_103 rfl (lv_at hl 0 rfl) ?_
                    refine lv_iconst (v := 5) hx hb dX12_child_104 (by decide) ?_
                    refine k_Vi [1] [0, 2] 1 12 (wr := [(z 2, .inl (gI g, 7376, .inl Wk)), (z 1, .inl (gI g, 461, .inl D))]) hx hb hml hown hts hKW hP hD hS hA hl.1 (c_X12_finding_5 l g _ z kp xs ) rfl rfl rfl wd_10_15 wd_1_5 wd_10_12 wd_10_13 wd_10_14 yd_X12_finding ⟨(Nat.le_of_ble_eq_true rfl), (Nat.le_of_ble_eq_true rfl)⟩ rfl rfl rfl rfl (by decide) rfl (Nat.le_of_ble_eq_true rfl) dX12_child_105 ⟨(Nat.le_of_ble_eq_true rfl), (Nat.le_of_ble_eq_true rfl)⟩ (fun r_106 u_107 H locs hw_108 hP hD hS => ?_)
                    have hP : va_P g.1 vwCl [(z 2, .inl (gI g, 7376, .inl Wk)), (z 1, .inl (gI g, 461, .inl D)), (z 0, .inr (12, [.ref (z 1), .ref (z 2), .int (nI kp), .int u_107, .ref (z 3), .ref (z 4), .ref (z 5), .ref (z 6), .int (xs 1), .ref (z 7), .ref (z 8), .ref (z 9), .ref (z 10), .ref (z 11), .ref (z 12), .int (xs 2), .ref (z 13), .ref (z 14), .int (xs 3), .ref (z 15)]))] H := hP
                    have hD : va_D A [(z 2, .inl (gI g, 7376, .inl Wk)), (z 1, .inl (gI g, 461, .inl D)), (z 0, .inr (12, [.ref (z 1), .ref (z 2), .int (nI kp), .int u_107, .ref (z 3), .ref (z 4), .ref (z 5), .ref (z 6), .int (xs 1), .ref (z 7), .ref (z 8), .ref (z 9), .ref (z 10), .ref (z 11), .ref (z 12), .int (xs 2), .ref (z 13), .ref (z 14), .int (xs 3), .ref (z 15)]))] := hD
                    have hw_108 : r_106 = (-100005) := hw_108
                    subst hw_108
                    exact k_iret (kp, (fun kk_ => ([u_107, (xs 1), (xs 2), (xs 3)] : List Int32).getD kk_ 0), D, Wk) [2, 1, 0] hx hb hr hlk hP hD hS (⟨hkp, hDI, hWI⟩) rfl rfl rfl (Nat.le_of_ble_eq_true rfl) (Nat.le_of_ble_eq_true rfl) dX12_child_108
                · refine lv_aload_n hx hb dX12_child_86 rfl (lv_at hl 0 rfl) ?_
                  refine lv_iconst (v := 3) hx hb dX12_child_87 (by decide) ?_
                  refine k_Vi [1] [0, 2] 1 12 (wr := [(z 2, .inl (gI g, 7376, .inl Wk)), (z 1, .inl (gI g, 461, .inl D))]) hx hb hml hown hts hKW hP hD hS hA hl.1 (c_X12_finding_3 l g _ z kp xs ) rfl rfl rfl wd_10_15 wd_1_5 wd_10_12 wd_10_13 wd_10_14 yd_X12_finding ⟨(Nat.le_of_ble_eq_true rfl), (Nat.le_of_ble_eq_true rfl)⟩ rfl rfl rfl rfl (by decide) rfl (Nat.le_of_ble_eq_true rfl) dX12_child_88 ⟨(Nat.le_of_ble_eq_true rfl), (Nat.le_of_ble_eq_true rfl)⟩ (fun r_109 u_110 H locs hw_111 hP hD hS => ?_)
                  have hP : va_P g.1 vwCl [(z 2, .inl (gI g, 7376, .inl Wk)), (z 1, .inl (gI g, 461, .inl D)), (z 0, .inr (12, [.ref (z 1), .ref (z 2), .int (nI kp), .int u_110, .ref (z 3), .ref (z 4), .ref (z 5), .ref (z 6), .int (xs 1), .ref (z 7), .ref (z 8), .ref (z 9), .ref (z 10), .ref (z 11), .ref (z 12), .int (xs 2), .ref (z 13), .ref (z 14), .int (xs 3), .ref (z 15)]))] H := hP
                  have hD : va_D A [(z 2, .inl (gI g, 7376, .inl Wk)), (z 1, .inl (gI g, 461, .inl D)), (z 0, .inr (12, [.ref (z 1), .ref (z 2), .int (nI kp), .int u_110, .ref (z 3), .ref (z 4), .ref (z 5), .ref (z 6), .int (xs 1), .ref (z 7), .ref (z 8), .ref (z 9), .ref (z 10), .ref (z 11), .ref (z 12), .int (xs 2), .ref (z 13), .ref (z 14), .int (xs 3), .ref (z 15)]))] := hD
                  have hw_111 : r_109 = (-100003) := hw_111
                  subst hw_111
                  exact k_iret (kp, (fun kk_ => ([u_110, (xs 1), (xs 2), (xs 3)] : List Int32).getD kk_ 0), D, Wk) [2, 1, 0] hx hb hr hlk hP hD hS (⟨hkp, hDI, hWI⟩) rfl rfl rfl (Nat.le_of_ble_eq_true rfl) (Nat.le_of_ble_eq_true rfl) dX12_child_91
              · refine lv_if_ne (tgt := 73) hx hb dX12_child_64 (by decide) (fun c => absurd c (by decide)) (fun _ => ?_)
                refine lv_aload_n hx hb dX12_child_67 rfl (lv_at hl 0 rfl) ?_
                refine lv_iconst (v := 1) hx hb dX12_child_68 (by decide) ?_
                refine k_Vi [1] [0, 2] 1 12 (wr := [(z 2, .inl (gI g, 7376, .inl Wk)), (z 1, .inl (gI g, 461, .inl D))]) hx hb hml hown hts hKW hP hD hS hA hl.1 (c_X12_finding_1 l g _ z kp xs ) rfl rfl rfl wd_10_15 wd_1_5 wd_10_12 wd_10_13 wd_10_14 yd_X12_finding ⟨(Nat.le_of_ble_eq_true rfl), (Nat.le_of_ble_eq_true rfl)⟩ rfl rfl rfl rfl (by decide) rfl (Nat.le_of_ble_eq_true rfl) dX12_child_69 ⟨(Nat.le_of_ble_eq_true rfl), (Nat.le_of_ble_eq_true rfl)⟩ (fun r_112 u_113 H locs hw_114 hP hD hS => ?_)
                have hP : va_P g.1 vwCl [(z 2, .inl (gI g, 7376, .inl Wk)), (z 1, .inl (gI g, 461, .inl D)), (z 0, .inr (12, [.ref (z 1), .ref (z 2), .int (nI kp), .int u_113, .ref (z 3), .ref (z 4), .ref (z 5), .ref (z 6), .int (xs 1), .ref (z 7), .ref (z 8), .ref (z 9), .ref (z 10), .ref (z 11), .ref (z 12), .int (xs 2), .ref (z 13), .ref (z 14), .int (xs 3), .ref (z 15)]))] H := hP
                have hD : va_D A [(z 2, .inl (gI g, 7376, .inl Wk)), (z 1, .inl (gI g, 461, .inl D)), (z 0, .inr (12, [.ref (z 1), .ref (z 2), .int (nI kp), .int u_113, .ref (z 3), .ref (z 4), .ref (z 5), .ref (z 6), .int (xs 1), .ref (z 7), .ref (z 8), .ref (z 9), .ref (z 10), .ref (z 11), .ref (z 12), .int (xs 2), .ref (z 13), .ref (z 14), .int (xs 3), .ref (z 15)]))] := hD
                have hw_114 : r_112 = (-100001) := hw_114
                subst hw_114
                exact k_iret (kp, (fun kk_ => ([u_113, (xs 1), (xs 2), (xs 3)] : List Int32).getD kk_ 0), D, Wk) [2, 1, 0] hx hb hr hlk hP hD hS (⟨hkp, hDI, hWI⟩) rfl rfl rfl (Nat.le_of_ble_eq_true rfl) (Nat.le_of_ble_eq_true rfl) dX12_child_72
            · refine lv_if_eq (tgt := 67) hx hb dX12_child_50 (by decide) (fun _ => ?_) (fun c => absurd c (by decide))
              refine lv_aload_n hx hb dX12_child_67 rfl (lv_at hl 0 rfl) ?_
              refine lv_iconst (v := 1) hx hb dX12_child_68 (by decide) ?_
              refine k_Vi [1] [0, 2] 1 12 (wr := [(z 2, .inl (gI g, 7376, .inl Wk)), (z 1, .inl (gI g, 461, .inl D))]) hx hb hml hown hts hKW hP hD hS hA hl.1 (c_X12_finding_1 l g _ z kp xs ) rfl rfl rfl wd_10_15 wd_1_5 wd_10_12 wd_10_13 wd_10_14 yd_X12_finding ⟨(Nat.le_of_ble_eq_true rfl), (Nat.le_of_ble_eq_true rfl)⟩ rfl rfl rfl rfl (by decide) rfl (Nat.le_of_ble_eq_true rfl) dX12_child_69 ⟨(Nat.le_of_ble_eq_true rfl), (Nat.le_of_ble_eq_true rfl)⟩ (fun r_115 u_116 H locs hw_117 hP hD hS => ?_)
              have hP : va_P g.1 vwCl [(z 2, .inl (gI g, 7376, .inl Wk)), (z 1, .inl (gI g, 461, .inl D)), (z 0, .inr (12, [.ref (z 1), .ref (z 2), .int (nI kp), .int u_116, .ref (z 3), .ref (z 4), .ref (z 5), .ref (z 6), .int (xs 1), .ref (z 7), .ref (z 8), .ref (z 9), .ref (z 10), .ref (z 11), .ref (z 12), .int (xs 2), .ref (z 13), .ref (z 14), .int (xs 3), .ref (z 15)]))] H := hP
              have hD : va_D A [(z 2, .inl (gI g, 7376, .inl Wk)), (z 1, .inl (gI g, 461, .inl D)), (z 0, .inr (12, [.ref (z 1), .ref (z 2), .int (nI kp), .int u_116, .ref (z 3), .ref (z 4), .ref (z 5), .ref (z 6), .int (xs 1), .ref (z 7), .ref (z 8), .ref (z 9), .ref (z 10), .ref (z 11), .ref (z 12), .int (xs 2), .ref (z 13), .ref (z 14), .int (xs 3), .ref (z 15)]))] := hD
              have hw_117 : r_115 = (-100001) := hw_117
              subst hw_117
              exact k_iret (kp, (fun kk_ => ([u_116, (xs 1), (xs 2), (xs 3)] : List Int32).getD kk_ 0), D, Wk) [2, 1, 0] hx hb hr hlk hP hD hS (⟨hkp, hDI, hWI⟩) rfl rfl rfl (Nat.le_of_ble_eq_true rfl) (Nat.le_of_ble_eq_true rfl) dX12_child_72
        · refine lv_if_eq (tgt := 67) hx hb dX12_child_31 (by decide) (fun _ => ?_) (fun c => absurd c (by decide))
          refine lv_aload_n hx hb dX12_child_67 rfl (lv_at hl 0 rfl) ?_
          refine lv_iconst (v := 1) hx hb dX12_child_68 (by decide) ?_
          refine k_Vi [1] [0, 2] 1 12 (wr := [(z 2, .inl (gI g, 7376, .inl Wk)), (z 1, .inl (gI g, 461, .inl D))]) hx hb hml hown hts hKW hP hD hS hA hl.1 (c_X12_finding_1 l g _ z kp xs ) rfl rfl rfl wd_10_15 wd_1_5 wd_10_12 wd_10_13 wd_10_14 yd_X12_finding ⟨(Nat.le_of_ble_eq_true rfl), (Nat.le_of_ble_eq_true rfl)⟩ rfl rfl rfl rfl (by decide) rfl (Nat.le_of_ble_eq_true rfl) dX12_child_69 ⟨(Nat.le_of_ble_eq_true rfl), (Nat.le_of_ble_eq_true rfl)⟩ (fun r_118 u_119 H locs hw_120 hP hD hS => ?_)
          have hP : va_P g.1 vwCl [(z 2, .inl (gI g, 7376, .inl Wk)), (z 1, .inl (gI g, 461, .inl D)), (z 0, .inr (12, [.ref (z 1), .ref (z 2), .int (nI kp), .int u_119, .ref (z 3), .ref (z 4), .ref (z 5), .ref (z 6), .int (xs 1), .ref (z 7), .ref (z 8), .ref (z 9), .ref (z 10), .ref (z 11), .ref (z 12), .int (xs 2), .ref (z 13), .ref (z 14), .int (xs 3), .ref (z 15)]))] H := hP
          have hD : va_D A [(z 2, .inl (gI g, 7376, .inl Wk)), (z 1, .inl (gI g, 461, .inl D)), (z 0, .inr (12, [.ref (z 1), .ref (z 2), .int (nI kp), .int u_119, .ref (z 3), .ref (z 4), .ref (z 5), .ref (z 6), .int (xs 1), .ref (z 7), .ref (z 8), .ref (z 9), .ref (z 10), .ref (z 11), .ref (z 12), .int (xs 2), .ref (z 13), .ref (z 14), .int (xs 3), .ref (z 15)]))] := hD
          have hw_120 : r_118 = (-100001) := hw_120
          subst hw_120
          exact k_iret (kp, (fun kk_ => ([u_119, (xs 1), (xs 2), (xs 3)] : List Int32).getD kk_ 0), D, Wk) [2, 1, 0] hx hb hr hlk hP hD hS (⟨hkp, hDI, hWI⟩) rfl rfl rfl (Nat.le_of_ble_eq_true rfl) (Nat.le_of_ble_eq_true rfl) dX12_child_72
      · refine lv_if_eq (tgt := 67) hx hb dX12_child_21 (by decide) (fun _ => ?_) (fun c => absurd c (by decide))
        refine lv_aload_n hx hb dX12_child_67 rfl (lv_at hl 0 rfl) ?_
        refine lv_iconst (v := 1) hx hb dX12_child_68 (by decide) ?_
        refine k_Vi [1] [0, 2] 1 12 (wr := [(z 2, .inl (gI g, 7376, .inl Wk)), (z 1, .inl (gI g, 461, .inl D))]) hx hb hml hown hts hKW hP hD hS hA hl.1 (c_X12_finding_1 l g _ z kp xs ) rfl rfl rfl wd_10_15 wd_1_5 wd_10_12 wd_10_13 wd_10_14 yd_X12_finding ⟨(Nat.le_of_ble_eq_true rfl), (Nat.le_of_ble_eq_true rfl)⟩ rfl rfl rfl rfl (by decide) rfl (Nat.le_of_ble_eq_true rfl) dX12_child_69 ⟨(Nat.le_of_ble_eq_true rfl), (Nat.le_of_ble_eq_true rfl)⟩ (fun r_121 u_122 H locs hw_123 hP hD hS => ?_)
        have hP : va_P g.1 vwCl [(z 2, .inl (gI g, 7376, .inl Wk)), (z 1, .inl (gI g, 461, .inl D)), (z 0, .inr (12, [.ref (z 1), .ref (z 2), .int (nI kp), .int u_122, .ref (z 3), .ref (z 4), .ref (z 5), .ref (z 6), .int (xs 1), .ref (z 7), .ref (z 8), .ref (z 9), .ref (z 10), .ref (z 11), .ref (z 12), .int (xs 2), .ref (z 13), .ref (z 14), .int (xs 3), .ref (z 15)]))] H := hP
        have hD : va_D A [(z 2, .inl (gI g, 7376, .inl Wk)), (z 1, .inl (gI g, 461, .inl D)), (z 0, .inr (12, [.ref (z 1), .ref (z 2), .int (nI kp), .int u_122, .ref (z 3), .ref (z 4), .ref (z 5), .ref (z 6), .int (xs 1), .ref (z 7), .ref (z 8), .ref (z 9), .ref (z 10), .ref (z 11), .ref (z 12), .int (xs 2), .ref (z 13), .ref (z 14), .int (xs 3), .ref (z 15)]))] := hD
        have hw_123 : r_121 = (-100001) := hw_123
        subst hw_123
        exact k_iret (kp, (fun kk_ => ([u_122, (xs 1), (xs 2), (xs 3)] : List Int32).getD kk_ 0), D, Wk) [2, 1, 0] hx hb hr hlk hP hD hS (⟨hkp, hDI, hWI⟩) rfl rfl rfl (Nat.le_of_ble_eq_true rfl) (Nat.le_of_ble_eq_true rfl) dX12_child_72
  · refine lv_if_eq (tgt := 67) hx hb dX12_child_8 (by decide) (fun _ => ?_) (fun c => absurd c (by decide))
    refine lv_aload_n hx hb dX12_child_67 rfl (lv_at hl 0 rfl) ?_
    refine lv_iconst (v := 1) hx hb dX12_child_68 (by decide) ?_
    refine k_Vi [0] [1, 2] 0 12 (wr := [(z 1, .inl (gI g, 461, .inl D)), (z 2, .inl (gI g, 7376, .inl Wk))]) hx hb hml hown hts hKW hP hD hS hA hl.1 (c_X12_finding_1 l g _ z kp xs ) rfl rfl rfl wd_10_15 wd_1_5 wd_10_12 wd_10_13 wd_10_14 yd_X12_finding ⟨(Nat.le_of_ble_eq_true rfl), (Nat.le_of_ble_eq_true rfl)⟩ rfl rfl rfl rfl (by decide) rfl (Nat.le_of_ble_eq_true rfl) dX12_child_69 ⟨(Nat.le_of_ble_eq_true rfl), (Nat.le_of_ble_eq_true rfl)⟩ (fun r_124 u_125 H locs hw_126 hP hD hS => ?_)
    have hP : va_P g.1 vwCl [(z 1, .inl (gI g, 461, .inl D)), (z 2, .inl (gI g, 7376, .inl Wk)), (z 0, .inr (12, [.ref (z 1), .ref (z 2), .int (nI kp), .int u_125, .ref (z 3), .ref (z 4), .ref (z 5), .ref (z 6), .int (xs 1), .ref (z 7), .ref (z 8), .ref (z 9), .ref (z 10), .ref (z 11), .ref (z 12), .int (xs 2), .ref (z 13), .ref (z 14), .int (xs 3), .ref (z 15)]))] H := hP
    have hD : va_D A [(z 1, .inl (gI g, 461, .inl D)), (z 2, .inl (gI g, 7376, .inl Wk)), (z 0, .inr (12, [.ref (z 1), .ref (z 2), .int (nI kp), .int u_125, .ref (z 3), .ref (z 4), .ref (z 5), .ref (z 6), .int (xs 1), .ref (z 7), .ref (z 8), .ref (z 9), .ref (z 10), .ref (z 11), .ref (z 12), .int (xs 2), .ref (z 13), .ref (z 14), .int (xs 3), .ref (z 15)]))] := hD
    have hw_126 : r_124 = (-100001) := hw_126
    subst hw_126
    exact k_iret (kp, (fun kk_ => ([u_125, (xs 1), (xs 2), (xs 3)] : List Int32).getD kk_ 0), D, Wk) [2, 0, 1] hx hb hr hlk hP hD hS (⟨hkp, hDI, hWI⟩) rfl rfl rfl (Nat.le_of_ble_eq_true rfl) (Nat.le_of_ble_eq_true rfl) dX12_child_72
theorem dX12_month_0 : decode cX12_month 0 = .ok (.iload_n 1, 1) := by decide +kernel
theorem dX12_month_1 : decode cX12_month 1 = .ok (.invokestatic 89, 3) := by decide +kernel
theorem dX12_month_4 : decode cX12_month 4 = .ok (.ifCond .ne 9, 3) := by decide +kernel
theorem dX12_month_13 : decode cX12_month 13 = .ok (.aload_n 0, 1) := by decide +kernel
theorem dX12_month_14 : decode cX12_month 14 = .ok (.invokevirtual 72, 3) := by decide +kernel
theorem dX12_month_17 : decode cX12_month 17 = .ok (.aload_n 0, 1) := by decide +kernel
theorem dX12_month_18 : decode cX12_month 18 = .ok (.getfield 7, 3) := by decide +kernel
theorem dX12_month_21 : decode cX12_month 21 = .ok (.iconst 3, 1) := by decide +kernel
theorem dX12_month_22 : decode cX12_month 22 = .ok (.iaload, 1) := by decide +kernel
theorem dX12_month_23 : decode cX12_month 23 = .ok (.istore_n 2, 1) := by decide +kernel
theorem dX12_month_24 : decode cX12_month 24 = .ok (.aload_n 0, 1) := by decide +kernel
theorem dX12_month_25 : decode cX12_month 25 = .ok (.getfield 7, 3) := by decide +kernel
theorem dX12_month_28 : decode cX12_month 28 = .ok (.iconst 3, 1) := by decide +kernel
theorem dX12_month_29 : decode cX12_month 29 = .ok (.iload_n 1, 1) := by decide +kernel
theorem dX12_month_30 : decode cX12_month 30 = .ok (.iastore, 1) := by decide +kernel
theorem dX12_month_31 : decode cX12_month 31 = .ok (.iload_n 2, 1) := by decide +kernel
theorem dX12_month_32 : decode cX12_month 32 = .ok (.ireturn, 1) := by decide +kernel
theorem dX12_month_7 : decode cX12_month 7 = .ok (.aload_n 0, 1) := by decide +kernel
theorem dX12_month_8 : decode cX12_month 8 = .ok (.iconst 1, 1) := by decide +kernel
theorem dX12_month_9 : decode cX12_month 9 = .ok (.invokevirtual 68, 3) := by decide +kernel
theorem dX12_month_12 : decode cX12_month 12 = .ok (.ireturn, 1) := by decide +kernel
set_option maxHeartbeats 8000000 in
set_option maxRecDepth 100000 in
theorem c_X12_month (l : Launch) (g : kG) (sz : Nat) (z : Nat → Nat) (kp : Nat) (xs : Nat → Int32) (D : Nat → Int32) (Wk : Nat → Int32) (x : Int32) (hDI : DI D) (hkp : kp ≤ 16) (hWI : WI Wk kp) : kMi l g yX12_month cX12_month 3 (some .int) 4 0 0 [.ref (z 0), .int x] sz [(z 0, .inr (12, [.ref (z 1), .ref (z 2), .int (nI kp), .int (xs 0), .ref (z 3), .ref (z 4), .ref (z 5), .ref (z 6), .int (xs 1), .ref (z 7), .ref (z 8), .ref (z 9), .ref (z 10), .ref (z 11), .ref (z 12), .int (xs 2), .ref (z 13), .ref (z 14), .int (xs 3), .ref (z 15)])), (z 1, .inl (gI g, 461, .inl D)), (z 2, .inl (gI g, 7376, .inl Wk))] (fun (r : Int32) (u : Nat × (Nat → Int32) × (Nat → Int32) × (Nat → Int32)) => u.1 ≤ 16 ∧ DI u.2.2.1 ∧ WI u.2.2.2 u.1) (fun (u : Nat × (Nat → Int32) × (Nat → Int32) × (Nat → Int32)) => ([(z 0, .inr (12, [.ref (z 1), .ref (z 2), .int (nI u.1), .int (u.2.1 0), .ref (z 3), .ref (z 4), .ref (z 5), .ref (z 6), .int (u.2.1 1), .ref (z 7), .ref (z 8), .ref (z 9), .ref (z 10), .ref (z 11), .ref (z 12), .int (u.2.1 2), .ref (z 13), .ref (z 14), .int (u.2.1 3), .ref (z 15)])), (z 1, .inl (gI g, 461, .inl u.2.2.1)), (z 2, .inl (gI g, 7376, .inl u.2.2.2))] : va_W)) := by
  refine kMi.of (by decide) (Nat.le_of_ble_eq_true rfl) (fun p e s m below meth c A hx hb hr hml hown hts hlk hnm hKW hP hD hS hA ls hl => ?_)
  have hown : s.vm.findClass RX12 = some m.cls := hown
  have hl : lv_has ls 3 [(0, .ref (z 0)), (1, .int x)] := hl
  refine k_hide hP hS (fun H locs hP hS => ?_)
  refine lv_iload_n hx hb dX12_month_0 rfl (lv_at hl 1 rfl) ?_
  refine k_Si [] [0, 1, 2] (wr := [(z 0, .inr (12, [.ref (z 1), .ref (z 2), .int (nI kp), .int (xs 0), .ref (z 3), .ref (z 4), .ref (z 5), .ref (z 6), .int (xs 1), .ref (z 7), .ref (z 8), .ref (z 9), .ref (z 10), .ref (z 11), .ref (z 12), .int (xs 2), .ref (z 13), .ref (z 14), .int (xs 3), .ref (z 15)])), (z 1, .inl (gI g, 461, .inl D)), (z 2, .inl (gI g, 7376, .inl Wk))]) hx hb hml hown hts hKW hP hD hS hA hl.1 (c_X12_isMonth l g _ x ) wd_15_15 wd_1_5 wd_15_13 wd_15_14 yd_X12_isMonth ⟨(Nat.le_of_ble_eq_true rfl), (Nat.le_of_ble_eq_true rfl)⟩ rfl rfl rfl rfl (by decide) rfl (Nat.le_of_ble_eq_true rfl) dX12_month_1 ⟨(Nat.le_of_ble_eq_true rfl), (Nat.le_of_ble_eq_true rfl)⟩ (fun r_1 u_2 H locs hw_3 hP hD hS => ?_)
  have hP : va_P g.1 vwCl [(z 0, .inr (12, [.ref (z 1), .ref (z 2), .int (nI kp), .int (xs 0), .ref (z 3), .ref (z 4), .ref (z 5), .ref (z 6), .int (xs 1), .ref (z 7), .ref (z 8), .ref (z 9), .ref (z 10), .ref (z 11), .ref (z 12), .int (xs 2), .ref (z 13), .ref (z 14), .int (xs 3), .ref (z 15)])), (z 1, .inl (gI g, 461, .inl D)), (z 2, .inl (gI g, 7376, .inl Wk))] H := hP
  have hD : va_D A [(z 0, .inr (12, [.ref (z 1), .ref (z 2), .int (nI kp), .int (xs 0), .ref (z 3), .ref (z 4), .ref (z 5), .ref (z 6), .int (xs 1), .ref (z 7), .ref (z 8), .ref (z 9), .ref (z 10), .ref (z 11), .ref (z 12), .int (xs 2), .ref (z 13), .ref (z 14), .int (xs 3), .ref (z 15)])), (z 1, .inl (gI g, 461, .inl D)), (z 2, .inl (gI g, 7376, .inl Wk))] := hD
  rcases (show (r_1 = 1 ∧ ((0 : Int) ≤ Int32.toInt x ∧ Int32.toInt x ≤ 60)) ∨ (r_1 = 0 ∧ ¬ ((0 : Int) ≤ Int32.toInt x ∧ Int32.toInt x ≤ 60)) from hw_3) with ⟨rfl, hw_3b⟩ | ⟨rfl, hw_3b⟩ <;> clear hw_3
  · refine lv_if_ne (tgt := 13) hx hb dX12_month_4 (by decide) (fun _ => ?_) (fun c => absurd c (by decide))
    refine lv_aload_n hx hb dX12_month_13 rfl (lv_at hl 0 rfl) ?_
    refine k_Vv [0, 1, 2] [] 0 12 (wr := []) hx hb hml hown hts hKW hP hD hS hA hl.1 (c_X12_keep l g _ z kp xs D Wk (by first | assumption | omega | decide) (by first | assumption | omega | decide) (by first | assumption | omega | decide)) rfl rfl rfl wd_10_21 wd_1_5 wd_10_18 wd_10_19 wd_10_20 yd_X12_keep ⟨(Nat.le_of_ble_eq_true rfl), (Nat.le_of_ble_eq_true rfl)⟩ rfl rfl rfl rfl (by decide) rfl (Nat.le_of_ble_eq_true rfl) dX12_month_14 ⟨(Nat.le_of_ble_eq_true rfl), (Nat.le_of_ble_eq_true rfl)⟩ (fun u_5 H locs hw_6 hP hD hS => ?_)
    obtain ⟨q_7, f_8⟩ := u_5
    have hP : va_P g.1 vwCl [(z 0, .inr (12, [.ref (z 1), .ref (z 2), .int (nI q_7), .int (xs 0), .ref (z 3), .ref (z 4), .ref (z 5), .ref (z 6), .int (xs 1), .ref (z 7), .ref (z 8), .ref (z 9), .ref (z 10), .ref (z 11), .ref (z 12), .int (xs 2), .ref (z 13), .ref (z 14), .int (xs 3), .ref (z 15)])), (z 1, .inl (gI g, 461, .inl D)), (z 2, .inl (gI g, 7376, .inl f_8))] H := hP
    have hD : va_D A [(z 0, .inr (12, [.ref (z 1), .ref (z 2), .int (nI q_7), .int (xs 0), .ref (z 3), .ref (z 4), .ref (z 5), .ref (z 6), .int (xs 1), .ref (z 7), .ref (z 8), .ref (z 9), .ref (z 10), .ref (z 11), .ref (z 12), .int (xs 2), .ref (z 13), .ref (z 14), .int (xs 3), .ref (z 15)])), (z 1, .inl (gI g, 461, .inl D)), (z 2, .inl (gI g, 7376, .inl f_8))] := hD
    have hw_6 : q_7 ≤ 16 ∧ WI f_8 q_7 := hw_6
    obtain ⟨hkk, hkW⟩ := hw_6
    refine lv_aload_n hx hb dX12_month_17 rfl (lv_at hl 0 rfl) ?_
    refine va_get (ci := 12) (C := RX12) (T := TX12) (N := 20) hx hb hts inlX12 hown hKW.1 hP 0 rfl rfl 0 (by decide) (hts _ wd_6_5) (fun _ h => h) rfl dX12_month_18 ?_
    refine lv_iconst (v := 3) hx hb dX12_month_21 (by decide) ?_
    refine va_iald hx hb hKW.1 hP 1 0 rfl rfl (show ¬ _ by decide) dX12_month_22 ?_
    refine lv_topi (fun x_9 ex_9 => ?_)
    refine lv_istore_n (lv' := [(2, .int x_9), (0, .ref (z 0)), (1, .int x)]) hx hb dX12_month_23 rfl hl (by decide) rfl (fun ls hl => ?_)
    refine lv_aload_n hx hb dX12_month_24 rfl (lv_at hl 1 rfl) ?_
    refine va_get (ci := 12) (C := RX12) (T := TX12) (N := 20) hx hb hts inlX12 hown hKW.1 hP 0 rfl rfl 0 (by decide) (hts _ wd_6_5) (fun _ h => h) rfl dX12_month_25 ?_
    refine lv_iconst (v := 3) hx hb dX12_month_28 (by decide) ?_
    refine lv_iload_n hx hb dX12_month_29 rfl (lv_at hl 2 rfl) ?_
    refine va_iast hx hb hKW.1 hP hD hS 1 0 rfl rfl (show ¬ _ by decide) dX12_month_30 (fun H locs hP hD hS => ?_)
    have hP : va_P g.1 vwCl [(z 0, .inr (12, [.ref (z 1), .ref (z 2), .int (nI q_7), .int (xs 0), .ref (z 3), .ref (z 4), .ref (z 5), .ref (z 6), .int (xs 1), .ref (z 7), .ref (z 8), .ref (z 9), .ref (z 10), .ref (z 11), .ref (z 12), .int (xs 2), .ref (z 13), .ref (z 14), .int (xs 3), .ref (z 15)])), (z 1, .inl (gI g, 461, .inl (upd D 3 x))), (z 2, .inl (gI g, 7376, .inl f_8))] H := hP
    have hD : va_D A [(z 0, .inr (12, [.ref (z 1), .ref (z 2), .int (nI q_7), .int (xs 0), .ref (z 3), .ref (z 4), .ref (z 5), .ref (z 6), .int (xs 1), .ref (z 7), .ref (z 8), .ref (z 9), .ref (z 10), .ref (z 11), .ref (z 12), .int (xs 2), .ref (z 13), .ref (z 14), .int (xs 3), .ref (z 15)])), (z 1, .inl (gI g, 461, .inl (upd D 3 x))), (z 2, .inl (gI g, 7376, .inl f_8))] := hD
    obtain ⟨f_10, ef_10⟩ : ∃ zz_ : Nat → Int32, zz_ = upd D 3 x := ⟨_, rfl⟩
    rw [← ef_10] at hP hD
    have hDf_10 : DI f_10 := DI.free (i := 3) (x := x) hDI ef_10 (by unfold dFree; omega)
    refine lv_iload_n hx hb dX12_month_31 rfl (lv_at hl 0 rfl) ?_
    exact k_iret (q_7, xs, f_10, f_8) [0, 1, 2] hx hb hr hlk hP hD hS (⟨hkk, hDf_10, hkW⟩) rfl rfl rfl (Nat.le_of_ble_eq_true rfl) (Nat.le_of_ble_eq_true rfl) dX12_month_32
  · refine lv_if_ne (tgt := 13) hx hb dX12_month_4 (by decide) (fun c => absurd c (by decide)) (fun _ => ?_)
    refine lv_aload_n hx hb dX12_month_7 rfl (lv_at hl 0 rfl) ?_
    refine lv_iconst (v := 1) hx hb dX12_month_8 (by decide) ?_
    refine k_Vi [0] [1, 2] 0 12 (wr := [(z 1, .inl (gI g, 461, .inl D)), (z 2, .inl (gI g, 7376, .inl Wk))]) hx hb hml hown hts hKW hP hD hS hA hl.1 (c_X12_finding_1 l g _ z kp xs ) rfl rfl rfl wd_10_15 wd_1_5 wd_10_12 wd_10_13 wd_10_14 yd_X12_finding ⟨(Nat.le_of_ble_eq_true rfl), (Nat.le_of_ble_eq_true rfl)⟩ rfl rfl rfl rfl (by decide) rfl (Nat.le_of_ble_eq_true rfl) dX12_month_9 ⟨(Nat.le_of_ble_eq_true rfl), (Nat.le_of_ble_eq_true rfl)⟩ (fun r_11 u_12 H locs hw_13 hP hD hS => ?_)
    have hP : va_P g.1 vwCl [(z 1, .inl (gI g, 461, .inl D)), (z 2, .inl (gI g, 7376, .inl Wk)), (z 0, .inr (12, [.ref (z 1), .ref (z 2), .int (nI kp), .int u_12, .ref (z 3), .ref (z 4), .ref (z 5), .ref (z 6), .int (xs 1), .ref (z 7), .ref (z 8), .ref (z 9), .ref (z 10), .ref (z 11), .ref (z 12), .int (xs 2), .ref (z 13), .ref (z 14), .int (xs 3), .ref (z 15)]))] H := hP
    have hD : va_D A [(z 1, .inl (gI g, 461, .inl D)), (z 2, .inl (gI g, 7376, .inl Wk)), (z 0, .inr (12, [.ref (z 1), .ref (z 2), .int (nI kp), .int u_12, .ref (z 3), .ref (z 4), .ref (z 5), .ref (z 6), .int (xs 1), .ref (z 7), .ref (z 8), .ref (z 9), .ref (z 10), .ref (z 11), .ref (z 12), .int (xs 2), .ref (z 13), .ref (z 14), .int (xs 3), .ref (z 15)]))] := hD
    have hw_13 : r_11 = (-100001) := hw_13
    subst hw_13
    exact k_iret (kp, (fun kk_ => ([u_12, (xs 1), (xs 2), (xs 3)] : List Int32).getD kk_ 0), D, Wk) [2, 0, 1] hx hb hr hlk hP hD hS (⟨hkp, hDI, hWI⟩) rfl rfl rfl (Nat.le_of_ble_eq_true rfl) (Nat.le_of_ble_eq_true rfl) dX12_month_12
theorem dX12_slot_0 : decode cX12_slot 0 = .ok (.iload_n 1, 1) := by decide +kernel
theorem dX12_slot_1 : decode cX12_slot 1 = .ok (.iconst 0, 1) := by decide +kernel
theorem dX12_slot_2 : decode cX12_slot 2 = .ok (.bipush 59, 2) := by decide +kernel
theorem dX12_slot_4 : decode cX12_slot 4 = .ok (.invokestatic 64, 3) := by decide +kernel
theorem dX12_slot_7 : decode cX12_slot 7 = .ok (.ifCond .ne 9, 3) := by decide +kernel
theorem dX12_slot_16 : decode cX12_slot 16 = .ok (.iload_n 1, 1) := by decide +kernel
theorem dX12_slot_17 : decode cX12_slot 17 = .ok (.aload_n 0, 1) := by decide +kernel
theorem dX12_slot_18 : decode cX12_slot 18 = .ok (.getfield 7, 3) := by decide +kernel
theorem dX12_slot_21 : decode cX12_slot 21 = .ok (.iconst 4, 1) := by decide +kernel
theorem dX12_slot_22 : decode cX12_slot 22 = .ok (.iaload, 1) := by decide +kernel
theorem dX12_slot_23 : decode cX12_slot 23 = .ok (.if_icmp .ge 9, 3) := by decide +kernel
theorem dX12_slot_32 : decode cX12_slot 32 = .ok (.aload_n 0, 1) := by decide +kernel
theorem dX12_slot_33 : decode cX12_slot 33 = .ok (.invokevirtual 72, 3) := by decide +kernel
theorem dX12_slot_36 : decode cX12_slot 36 = .ok (.aload_n 0, 1) := by decide +kernel
theorem dX12_slot_37 : decode cX12_slot 37 = .ok (.getfield 7, 3) := by decide +kernel
theorem dX12_slot_40 : decode cX12_slot 40 = .ok (.iconst 4, 1) := by decide +kernel
theorem dX12_slot_41 : decode cX12_slot 41 = .ok (.iaload, 1) := by decide +kernel
theorem dX12_slot_42 : decode cX12_slot 42 = .ok (.istore_n 2, 1) := by decide +kernel
theorem dX12_slot_43 : decode cX12_slot 43 = .ok (.aload_n 0, 1) := by decide +kernel
theorem dX12_slot_44 : decode cX12_slot 44 = .ok (.getfield 7, 3) := by decide +kernel
theorem dX12_slot_47 : decode cX12_slot 47 = .ok (.iconst 4, 1) := by decide +kernel
theorem dX12_slot_48 : decode cX12_slot 48 = .ok (.iload_n 1, 1) := by decide +kernel
theorem dX12_slot_49 : decode cX12_slot 49 = .ok (.iastore, 1) := by decide +kernel
theorem dX12_slot_50 : decode cX12_slot 50 = .ok (.iload_n 2, 1) := by decide +kernel
theorem dX12_slot_51 : decode cX12_slot 51 = .ok (.ireturn, 1) := by decide +kernel
theorem dX12_slot_26 : decode cX12_slot 26 = .ok (.aload_n 0, 1) := by decide +kernel
theorem dX12_slot_27 : decode cX12_slot 27 = .ok (.iconst 3, 1) := by decide +kernel
theorem dX12_slot_28 : decode cX12_slot 28 = .ok (.invokevirtual 68, 3) := by decide +kernel
theorem dX12_slot_31 : decode cX12_slot 31 = .ok (.ireturn, 1) := by decide +kernel
theorem dX12_slot_10 : decode cX12_slot 10 = .ok (.aload_n 0, 1) := by decide +kernel
theorem dX12_slot_11 : decode cX12_slot 11 = .ok (.iconst 1, 1) := by decide +kernel
theorem dX12_slot_12 : decode cX12_slot 12 = .ok (.invokevirtual 68, 3) := by decide +kernel
theorem dX12_slot_15 : decode cX12_slot 15 = .ok (.ireturn, 1) := by decide +kernel
set_option maxHeartbeats 8000000 in
set_option maxRecDepth 100000 in
theorem c_X12_slot (l : Launch) (g : kG) (sz : Nat) (z : Nat → Nat) (kp : Nat) (xs : Nat → Int32) (D : Nat → Int32) (Wk : Nat → Int32) (x : Int32) (hDI : DI D) (hkp : kp ≤ 16) (hWI : WI Wk kp) : kMi l g yX12_slot cX12_slot 3 (some .int) 4 0 0 [.ref (z 0), .int x] sz [(z 0, .inr (12, [.ref (z 1), .ref (z 2), .int (nI kp), .int (xs 0), .ref (z 3), .ref (z 4), .ref (z 5), .ref (z 6), .int (xs 1), .ref (z 7), .ref (z 8), .ref (z 9), .ref (z 10), .ref (z 11), .ref (z 12), .int (xs 2), .ref (z 13), .ref (z 14), .int (xs 3), .ref (z 15)])), (z 1, .inl (gI g, 461, .inl D)), (z 2, .inl (gI g, 7376, .inl Wk))] (fun (r : Int32) (u : Nat × (Nat → Int32) × (Nat → Int32) × (Nat → Int32)) => u.1 ≤ 16 ∧ DI u.2.2.1 ∧ WI u.2.2.2 u.1) (fun (u : Nat × (Nat → Int32) × (Nat → Int32) × (Nat → Int32)) => ([(z 0, .inr (12, [.ref (z 1), .ref (z 2), .int (nI u.1), .int (u.2.1 0), .ref (z 3), .ref (z 4), .ref (z 5), .ref (z 6), .int (u.2.1 1), .ref (z 7), .ref (z 8), .ref (z 9), .ref (z 10), .ref (z 11), .ref (z 12), .int (u.2.1 2), .ref (z 13), .ref (z 14), .int (u.2.1 3), .ref (z 15)])), (z 1, .inl (gI g, 461, .inl u.2.2.1)), (z 2, .inl (gI g, 7376, .inl u.2.2.2))] : va_W)) := by
  refine kMi.of (by decide) (Nat.le_of_ble_eq_true rfl) (fun p e s m below meth c A hx hb hr hml hown hts hlk hnm hKW hP hD hS hA ls hl => ?_)
  have hown : s.vm.findClass RX12 = some m.cls := hown
  have hl : lv_has ls 3 [(0, .ref (z 0)), (1, .int x)] := hl
  refine k_hide hP hS (fun H locs hP hS => ?_)
  refine lv_iload_n hx hb dX12_slot_0 rfl (lv_at hl 1 rfl) ?_
  refine lv_iconst (v := 0) hx hb dX12_slot_1 (by decide) ?_
  refine lv_bipush (v := 59) hx hb dX12_slot_2 (by decide) ?_
  refine k_Si [] [0, 1, 2] (wr := [(z 0, .inr (12, [.ref (z 1), .ref (z 2), .int (nI kp), .int (xs 0), .ref (z 3), .ref (z 4), .ref (z 5), .ref (z 6), .int (xs 1), .ref (z 7), .ref (z 8), .ref (z 9), .ref (z 10), .ref (z 11), .ref (z 12), .int (xs 2), .ref (z 13), .ref (z 14), .int (xs 3), .ref (z 15)])), (z 1, .inl (gI g, 461, .inl D)), (z 2, .inl (gI g, 7376, .inl Wk))]) hx hb hml hown hts hKW hP hD hS hA hl.1 (c_X12_isIn l g _ x 0 59 ) wd_10_11 wd_1_5 wd_10_9 wd_10_10 yd_X12_isIn ⟨(Nat.le_of_ble_eq_true rfl), (Nat.le_of_ble_eq_true rfl)⟩ rfl rfl rfl rfl (by decide) rfl (Nat.le_of_ble_eq_true rfl) dX12_slot_4 ⟨(Nat.le_of_ble_eq_true rfl), (Nat.le_of_ble_eq_true rfl)⟩ (fun r_1 u_2 H locs hw_3 hP hD hS => ?_)
  have hP : va_P g.1 vwCl [(z 0, .inr (12, [.ref (z 1), .ref (z 2), .int (nI kp), .int (xs 0), .ref (z 3), .ref (z 4), .ref (z 5), .ref (z 6), .int (xs 1), .ref (z 7), .ref (z 8), .ref (z 9), .ref (z 10), .ref (z 11), .ref (z 12), .int (xs 2), .ref (z 13), .ref (z 14), .int (xs 3), .ref (z 15)])), (z 1, .inl (gI g, 461, .inl D)), (z 2, .inl (gI g, 7376, .inl Wk))] H := hP
  have hD : va_D A [(z 0, .inr (12, [.ref (z 1), .ref (z 2), .int (nI kp), .int (xs 0), .ref (z 3), .ref (z 4), .ref (z 5), .ref (z 6), .int (xs 1), .ref (z 7), .ref (z 8), .ref (z 9), .ref (z 10), .ref (z 11), .ref (z 12), .int (xs 2), .ref (z 13), .ref (z 14), .int (xs 3), .ref (z 15)])), (z 1, .inl (gI g, 461, .inl D)), (z 2, .inl (gI g, 7376, .inl Wk))] := hD
  rcases (show (r_1 = 1 ∧ (Int32.toInt 0 ≤ Int32.toInt x ∧ Int32.toInt x ≤ Int32.toInt 59)) ∨ (r_1 = 0 ∧ ¬ (Int32.toInt 0 ≤ Int32.toInt x ∧ Int32.toInt x ≤ Int32.toInt 59)) from hw_3) with ⟨rfl, hw_3b⟩ | ⟨rfl, hw_3b⟩ <;> clear hw_3
  · refine lv_if_ne (tgt := 16) hx hb dX12_slot_7 (by decide) (fun _ => ?_) (fun c => absurd c (by decide))
    refine lv_iload_n hx hb dX12_slot_16 rfl (lv_at hl 1 rfl) ?_
    refine lv_aload_n hx hb dX12_slot_17 rfl (lv_at hl 0 rfl) ?_
    refine va_get (ci := 12) (C := RX12) (T := TX12) (N := 20) hx hb hts inlX12 hown hKW.1 hP 0 rfl rfl 0 (by decide) (hts _ wd_6_5) (fun _ h => h) rfl dX12_slot_18 ?_
    refine lv_iconst (v := 4) hx hb dX12_slot_21 (by decide) ?_
    refine va_iald hx hb hKW.1 hP 1 0 rfl rfl (show ¬ _ by decide) dX12_slot_22 ?_
    refine lv_topi (fun x_4 ex_4 => ?_)
    refine lv_icmp_ge (tgt := 32) hx hb dX12_slot_23 (by decide) (fun c_5 => ?_) (fun c_5 => ?_)
    · refine lv_aload_n hx hb dX12_slot_32 rfl (lv_at hl 0 rfl) ?_
      refine k_Vv [0, 1, 2] [] 0 12 (wr := []) hx hb hml hown hts hKW hP hD hS hA hl.1 (c_X12_keep l g _ z kp xs D Wk (by first | assumption | omega | decide) (by first | assumption | omega | decide) (by first | assumption | omega | decide)) rfl rfl rfl wd_10_21 wd_1_5 wd_10_18 wd_10_19 wd_10_20 yd_X12_keep ⟨(Nat.le_of_ble_eq_true rfl), (Nat.le_of_ble_eq_true rfl)⟩ rfl rfl rfl rfl (by decide) rfl (Nat.le_of_ble_eq_true rfl) dX12_slot_33 ⟨(Nat.le_of_ble_eq_true rfl), (Nat.le_of_ble_eq_true rfl)⟩ (fun u_7 H locs hw_8 hP hD hS => ?_)
      obtain ⟨q_9, f_10⟩ := u_7
      have hP : va_P g.1 vwCl [(z 0, .inr (12, [.ref (z 1), .ref (z 2), .int (nI q_9), .int (xs 0), .ref (z 3), .ref (z 4), .ref (z 5), .ref (z 6), .int (xs 1), .ref (z 7), .ref (z 8), .ref (z 9), .ref (z 10), .ref (z 11), .ref (z 12), .int (xs 2), .ref (z 13), .ref (z 14), .int (xs 3), .ref (z 15)])), (z 1, .inl (gI g, 461, .inl D)), (z 2, .inl (gI g, 7376, .inl f_10))] H := hP
      have hD : va_D A [(z 0, .inr (12, [.ref (z 1), .ref (z 2), .int (nI q_9), .int (xs 0), .ref (z 3), .ref (z 4), .ref (z 5), .ref (z 6), .int (xs 1), .ref (z 7), .ref (z 8), .ref (z 9), .ref (z 10), .ref (z 11), .ref (z 12), .int (xs 2), .ref (z 13), .ref (z 14), .int (xs 3), .ref (z 15)])), (z 1, .inl (gI g, 461, .inl D)), (z 2, .inl (gI g, 7376, .inl f_10))] := hD
      have hw_8 : q_9 ≤ 16 ∧ WI f_10 q_9 := hw_8
      obtain ⟨hkk, hkW⟩ := hw_8
      refine lv_aload_n hx hb dX12_slot_36 rfl (lv_at hl 0 rfl) ?_
      refine va_get (ci := 12) (C := RX12) (T := TX12) (N := 20) hx hb hts inlX12 hown hKW.1 hP 0 rfl rfl 0 (by decide) (hts _ wd_6_5) (fun _ h => h) rfl dX12_slot_37 ?_
      refine lv_iconst (v := 4) hx hb dX12_slot_40 (by decide) ?_
      refine va_iald hx hb hKW.1 hP 1 0 rfl rfl (show ¬ _ by decide) dX12_slot_41 ?_
      refine lv_topi (fun x_11 ex_11 => ?_)
      refine lv_istore_n (lv' := [(2, .int x_11), (0, .ref (z 0)), (1, .int x)]) hx hb dX12_slot_42 rfl hl (by decide) rfl (fun ls hl => ?_)
      refine lv_aload_n hx hb dX12_slot_43 rfl (lv_at hl 1 rfl) ?_
      refine va_get (ci := 12) (C := RX12) (T := TX12) (N := 20) hx hb hts inlX12 hown hKW.1 hP 0 rfl rfl 0 (by decide) (hts _ wd_6_5) (fun _ h => h) rfl dX12_slot_44 ?_
      refine lv_iconst (v := 4) hx hb dX12_slot_47 (by decide) ?_
      refine lv_iload_n hx hb dX12_slot_48 rfl (lv_at hl 2 rfl) ?_
      refine va_iast hx hb hKW.1 hP hD hS 1 0 rfl rfl (show ¬ _ by decide) dX12_slot_49 (fun H locs hP hD hS => ?_)
      have hP : va_P g.1 vwCl [(z 0, .inr (12, [.ref (z 1), .ref (z 2), .int (nI q_9), .int (xs 0), .ref (z 3), .ref (z 4), .ref (z 5), .ref (z 6), .int (xs 1), .ref (z 7), .ref (z 8), .ref (z 9), .ref (z 10), .ref (z 11), .ref (z 12), .int (xs 2), .ref (z 13), .ref (z 14), .int (xs 3), .ref (z 15)])), (z 1, .inl (gI g, 461, .inl (upd D 4 x))), (z 2, .inl (gI g, 7376, .inl f_10))] H := hP
      have hD : va_D A [(z 0, .inr (12, [.ref (z 1), .ref (z 2), .int (nI q_9), .int (xs 0), .ref (z 3), .ref (z 4), .ref (z 5), .ref (z 6), .int (xs 1), .ref (z 7), .ref (z 8), .ref (z 9), .ref (z 10), .ref (z 11), .ref (z 12), .int (xs 2), .ref (z 13), .ref (z 14), .int (xs 3), .ref (z 15)])), (z 1, .inl (gI g, 461, .inl (upd D 4 x))), (z 2, .inl (gI g, 7376, .inl f_10))] := hD
      obtain ⟨f_12, ef_12⟩ : ∃ zz_ : Nat → Int32, zz_ = upd D 4 x := ⟨_, rfl⟩
      rw [← ef_12] at hP hD
      have hDf_12 : DI f_12 := DI.free (i := 4) (x := x) hDI ef_12 (by unfold dFree; omega)
      refine lv_iload_n hx hb dX12_slot_50 rfl (lv_at hl 0 rfl) ?_
      exact k_iret (q_9, xs, f_12, f_10) [0, 1, 2] hx hb hr hlk hP hD hS (⟨hkk, hDf_12, hkW⟩) rfl rfl rfl (Nat.le_of_ble_eq_true rfl) (Nat.le_of_ble_eq_true rfl) dX12_slot_51
    · refine lv_aload_n hx hb dX12_slot_26 rfl (lv_at hl 0 rfl) ?_
      refine lv_iconst (v := 3) hx hb dX12_slot_27 (by decide) ?_
      refine k_Vi [0] [1, 2] 0 12 (wr := [(z 1, .inl (gI g, 461, .inl D)), (z 2, .inl (gI g, 7376, .inl Wk))]) hx hb hml hown hts hKW hP hD hS hA hl.1 (c_X12_finding_3 l g _ z kp xs ) rfl rfl rfl wd_10_15 wd_1_5 wd_10_12 wd_10_13 wd_10_14 yd_X12_finding ⟨(Nat.le_of_ble_eq_true rfl), (Nat.le_of_ble_eq_true rfl)⟩ rfl rfl rfl rfl (by decide) rfl (Nat.le_of_ble_eq_true rfl) dX12_slot_28 ⟨(Nat.le_of_ble_eq_true rfl), (Nat.le_of_ble_eq_true rfl)⟩ (fun r_13 u_14 H locs hw_15 hP hD hS => ?_)
      have hP : va_P g.1 vwCl [(z 1, .inl (gI g, 461, .inl D)), (z 2, .inl (gI g, 7376, .inl Wk)), (z 0, .inr (12, [.ref (z 1), .ref (z 2), .int (nI kp), .int u_14, .ref (z 3), .ref (z 4), .ref (z 5), .ref (z 6), .int (xs 1), .ref (z 7), .ref (z 8), .ref (z 9), .ref (z 10), .ref (z 11), .ref (z 12), .int (xs 2), .ref (z 13), .ref (z 14), .int (xs 3), .ref (z 15)]))] H := hP
      have hD : va_D A [(z 1, .inl (gI g, 461, .inl D)), (z 2, .inl (gI g, 7376, .inl Wk)), (z 0, .inr (12, [.ref (z 1), .ref (z 2), .int (nI kp), .int u_14, .ref (z 3), .ref (z 4), .ref (z 5), .ref (z 6), .int (xs 1), .ref (z 7), .ref (z 8), .ref (z 9), .ref (z 10), .ref (z 11), .ref (z 12), .int (xs 2), .ref (z 13), .ref (z 14), .int (xs 3), .ref (z 15)]))] := hD
      have hw_15 : r_13 = (-100003) := hw_15
      subst hw_15
      exact k_iret (kp, (fun kk_ => ([u_14, (xs 1), (xs 2), (xs 3)] : List Int32).getD kk_ 0), D, Wk) [2, 0, 1] hx hb hr hlk hP hD hS (⟨hkp, hDI, hWI⟩) rfl rfl rfl (Nat.le_of_ble_eq_true rfl) (Nat.le_of_ble_eq_true rfl) dX12_slot_31
  · refine lv_if_ne (tgt := 16) hx hb dX12_slot_7 (by decide) (fun c => absurd c (by decide)) (fun _ => ?_)
    refine lv_aload_n hx hb dX12_slot_10 rfl (lv_at hl 0 rfl) ?_
    refine lv_iconst (v := 1) hx hb dX12_slot_11 (by decide) ?_
    refine k_Vi [0] [1, 2] 0 12 (wr := [(z 1, .inl (gI g, 461, .inl D)), (z 2, .inl (gI g, 7376, .inl Wk))]) hx hb hml hown hts hKW hP hD hS hA hl.1 (c_X12_finding_1 l g _ z kp xs ) rfl rfl rfl wd_10_15 wd_1_5 wd_10_12 wd_10_13 wd_10_14 yd_X12_finding ⟨(Nat.le_of_ble_eq_true rfl), (Nat.le_of_ble_eq_true rfl)⟩ rfl rfl rfl rfl (by decide) rfl (Nat.le_of_ble_eq_true rfl) dX12_slot_12 ⟨(Nat.le_of_ble_eq_true rfl), (Nat.le_of_ble_eq_true rfl)⟩ (fun r_16 u_17 H locs hw_18 hP hD hS => ?_)
    have hP : va_P g.1 vwCl [(z 1, .inl (gI g, 461, .inl D)), (z 2, .inl (gI g, 7376, .inl Wk)), (z 0, .inr (12, [.ref (z 1), .ref (z 2), .int (nI kp), .int u_17, .ref (z 3), .ref (z 4), .ref (z 5), .ref (z 6), .int (xs 1), .ref (z 7), .ref (z 8), .ref (z 9), .ref (z 10), .ref (z 11), .ref (z 12), .int (xs 2), .ref (z 13), .ref (z 14), .int (xs 3), .ref (z 15)]))] H := hP
    have hD : va_D A [(z 1, .inl (gI g, 461, .inl D)), (z 2, .inl (gI g, 7376, .inl Wk)), (z 0, .inr (12, [.ref (z 1), .ref (z 2), .int (nI kp), .int u_17, .ref (z 3), .ref (z 4), .ref (z 5), .ref (z 6), .int (xs 1), .ref (z 7), .ref (z 8), .ref (z 9), .ref (z 10), .ref (z 11), .ref (z 12), .int (xs 2), .ref (z 13), .ref (z 14), .int (xs 3), .ref (z 15)]))] := hD
    have hw_18 : r_16 = (-100001) := hw_18
    subst hw_18
    exact k_iret (kp, (fun kk_ => ([u_17, (xs 1), (xs 2), (xs 3)] : List Int32).getD kk_ 0), D, Wk) [2, 0, 1] hx hb hr hlk hP hD hS (⟨hkp, hDI, hWI⟩) rfl rfl rfl (Nat.le_of_ble_eq_true rfl) (Nat.le_of_ble_eq_true rfl) dX12_slot_15
theorem dX12_rate_0 : decode cX12_rate 0 = .ok (.iload_n 1, 1) := by decide +kernel
theorem dX12_rate_1 : decode cX12_rate 1 = .ok (.iconst 1, 1) := by decide +kernel
theorem dX12_rate_2 : decode cX12_rate 2 = .ok (.bipush 99, 2) := by decide +kernel
theorem dX12_rate_4 : decode cX12_rate 4 = .ok (.invokestatic 64, 3) := by decide +kernel
theorem dX12_rate_7 : decode cX12_rate 7 = .ok (.ifCond .ne 9, 3) := by decide +kernel
theorem dX12_rate_16 : decode cX12_rate 16 = .ok (.aload_n 0, 1) := by decide +kernel
theorem dX12_rate_17 : decode cX12_rate 17 = .ok (.invokevirtual 72, 3) := by decide +kernel
theorem dX12_rate_20 : decode cX12_rate 20 = .ok (.aload_n 0, 1) := by decide +kernel
theorem dX12_rate_21 : decode cX12_rate 21 = .ok (.getfield 7, 3) := by decide +kernel
theorem dX12_rate_24 : decode cX12_rate 24 = .ok (.bipush 9, 2) := by decide +kernel
theorem dX12_rate_26 : decode cX12_rate 26 = .ok (.iaload, 1) := by decide +kernel
theorem dX12_rate_27 : decode cX12_rate 27 = .ok (.istore_n 2, 1) := by decide +kernel
theorem dX12_rate_28 : decode cX12_rate 28 = .ok (.aload_n 0, 1) := by decide +kernel
theorem dX12_rate_29 : decode cX12_rate 29 = .ok (.getfield 7, 3) := by decide +kernel
theorem dX12_rate_32 : decode cX12_rate 32 = .ok (.bipush 9, 2) := by decide +kernel
theorem dX12_rate_34 : decode cX12_rate 34 = .ok (.iload_n 1, 1) := by decide +kernel
theorem dX12_rate_35 : decode cX12_rate 35 = .ok (.iastore, 1) := by decide +kernel
theorem dX12_rate_36 : decode cX12_rate 36 = .ok (.iload_n 2, 1) := by decide +kernel
theorem dX12_rate_37 : decode cX12_rate 37 = .ok (.ireturn, 1) := by decide +kernel
theorem dX12_rate_10 : decode cX12_rate 10 = .ok (.aload_n 0, 1) := by decide +kernel
theorem dX12_rate_11 : decode cX12_rate 11 = .ok (.iconst 1, 1) := by decide +kernel
theorem dX12_rate_12 : decode cX12_rate 12 = .ok (.invokevirtual 68, 3) := by decide +kernel
theorem dX12_rate_15 : decode cX12_rate 15 = .ok (.ireturn, 1) := by decide +kernel
set_option maxHeartbeats 8000000 in
set_option maxRecDepth 100000 in
theorem c_X12_rate (l : Launch) (g : kG) (sz : Nat) (z : Nat → Nat) (kp : Nat) (xs : Nat → Int32) (D : Nat → Int32) (Wk : Nat → Int32) (x : Int32) (hDI : DI D) (hkp : kp ≤ 16) (hWI : WI Wk kp) : kMi l g yX12_rate cX12_rate 3 (some .int) 4 0 0 [.ref (z 0), .int x] sz [(z 0, .inr (12, [.ref (z 1), .ref (z 2), .int (nI kp), .int (xs 0), .ref (z 3), .ref (z 4), .ref (z 5), .ref (z 6), .int (xs 1), .ref (z 7), .ref (z 8), .ref (z 9), .ref (z 10), .ref (z 11), .ref (z 12), .int (xs 2), .ref (z 13), .ref (z 14), .int (xs 3), .ref (z 15)])), (z 1, .inl (gI g, 461, .inl D)), (z 2, .inl (gI g, 7376, .inl Wk))] (fun (r : Int32) (u : Nat × (Nat → Int32) × (Nat → Int32) × (Nat → Int32)) => u.1 ≤ 16 ∧ DI u.2.2.1 ∧ WI u.2.2.2 u.1) (fun (u : Nat × (Nat → Int32) × (Nat → Int32) × (Nat → Int32)) => ([(z 0, .inr (12, [.ref (z 1), .ref (z 2), .int (nI u.1), .int (u.2.1 0), .ref (z 3), .ref (z 4), .ref (z 5), .ref (z 6), .int (u.2.1 1), .ref (z 7), .ref (z 8), .ref (z 9), .ref (z 10), .ref (z 11), .ref (z 12), .int (u.2.1 2), .ref (z 13), .ref (z 14), .int (u.2.1 3), .ref (z 15)])), (z 1, .inl (gI g, 461, .inl u.2.2.1)), (z 2, .inl (gI g, 7376, .inl u.2.2.2))] : va_W)) := by
  refine kMi.of (by decide) (Nat.le_of_ble_eq_true rfl) (fun p e s m below meth c A hx hb hr hml hown hts hlk hnm hKW hP hD hS hA ls hl => ?_)
  have hown : s.vm.findClass RX12 = some m.cls := hown
  have hl : lv_has ls 3 [(0, .ref (z 0)), (1, .int x)] := hl
  refine k_hide hP hS (fun H locs hP hS => ?_)
  refine lv_iload_n hx hb dX12_rate_0 rfl (lv_at hl 1 rfl) ?_
  refine lv_iconst (v := 1) hx hb dX12_rate_1 (by decide) ?_
  refine lv_bipush (v := 99) hx hb dX12_rate_2 (by decide) ?_
  refine k_Si [] [0, 1, 2] (wr := [(z 0, .inr (12, [.ref (z 1), .ref (z 2), .int (nI kp), .int (xs 0), .ref (z 3), .ref (z 4), .ref (z 5), .ref (z 6), .int (xs 1), .ref (z 7), .ref (z 8), .ref (z 9), .ref (z 10), .ref (z 11), .ref (z 12), .int (xs 2), .ref (z 13), .ref (z 14), .int (xs 3), .ref (z 15)])), (z 1, .inl (gI g, 461, .inl D)), (z 2, .inl (gI g, 7376, .inl Wk))]) hx hb hml hown hts hKW hP hD hS hA hl.1 (c_X12_isIn l g _ x 1 99 ) wd_10_11 wd_1_5 wd_10_9 wd_10_10 yd_X12_isIn ⟨(Nat.le_of_ble_eq_true rfl), (Nat.le_of_ble_eq_true rfl)⟩ rfl rfl rfl rfl (by decide) rfl (Nat.le_of_ble_eq_true rfl) dX12_rate_4 ⟨(Nat.le_of_ble_eq_true rfl), (Nat.le_of_ble_eq_true rfl)⟩ (fun r_1 u_2 H locs hw_3 hP hD hS => ?_)
  have hP : va_P g.1 vwCl [(z 0, .inr (12, [.ref (z 1), .ref (z 2), .int (nI kp), .int (xs 0), .ref (z 3), .ref (z 4), .ref (z 5), .ref (z 6), .int (xs 1), .ref (z 7), .ref (z 8), .ref (z 9), .ref (z 10), .ref (z 11), .ref (z 12), .int (xs 2), .ref (z 13), .ref (z 14), .int (xs 3), .ref (z 15)])), (z 1, .inl (gI g, 461, .inl D)), (z 2, .inl (gI g, 7376, .inl Wk))] H := hP
  have hD : va_D A [(z 0, .inr (12, [.ref (z 1), .ref (z 2), .int (nI kp), .int (xs 0), .ref (z 3), .ref (z 4), .ref (z 5), .ref (z 6), .int (xs 1), .ref (z 7), .ref (z 8), .ref (z 9), .ref (z 10), .ref (z 11), .ref (z 12), .int (xs 2), .ref (z 13), .ref (z 14), .int (xs 3), .ref (z 15)])), (z 1, .inl (gI g, 461, .inl D)), (z 2, .inl (gI g, 7376, .inl Wk))] := hD
  rcases (show (r_1 = 1 ∧ (Int32.toInt 1 ≤ Int32.toInt x ∧ Int32.toInt x ≤ Int32.toInt 99)) ∨ (r_1 = 0 ∧ ¬ (Int32.toInt 1 ≤ Int32.toInt x ∧ Int32.toInt x ≤ Int32.toInt 99)) from hw_3) with ⟨rfl, hw_3b⟩ | ⟨rfl, hw_3b⟩ <;> clear hw_3
  · refine lv_if_ne (tgt := 16) hx hb dX12_rate_7 (by decide) (fun _ => ?_) (fun c => absurd c (by decide))
    refine lv_aload_n hx hb dX12_rate_16 rfl (lv_at hl 0 rfl) ?_
    refine k_Vv [0, 1, 2] [] 0 12 (wr := []) hx hb hml hown hts hKW hP hD hS hA hl.1 (c_X12_keep l g _ z kp xs D Wk (by first | assumption | omega | decide) (by first | assumption | omega | decide) (by first | assumption | omega | decide)) rfl rfl rfl wd_10_21 wd_1_5 wd_10_18 wd_10_19 wd_10_20 yd_X12_keep ⟨(Nat.le_of_ble_eq_true rfl), (Nat.le_of_ble_eq_true rfl)⟩ rfl rfl rfl rfl (by decide) rfl (Nat.le_of_ble_eq_true rfl) dX12_rate_17 ⟨(Nat.le_of_ble_eq_true rfl), (Nat.le_of_ble_eq_true rfl)⟩ (fun u_5 H locs hw_6 hP hD hS => ?_)
    obtain ⟨q_7, f_8⟩ := u_5
    have hP : va_P g.1 vwCl [(z 0, .inr (12, [.ref (z 1), .ref (z 2), .int (nI q_7), .int (xs 0), .ref (z 3), .ref (z 4), .ref (z 5), .ref (z 6), .int (xs 1), .ref (z 7), .ref (z 8), .ref (z 9), .ref (z 10), .ref (z 11), .ref (z 12), .int (xs 2), .ref (z 13), .ref (z 14), .int (xs 3), .ref (z 15)])), (z 1, .inl (gI g, 461, .inl D)), (z 2, .inl (gI g, 7376, .inl f_8))] H := hP
    have hD : va_D A [(z 0, .inr (12, [.ref (z 1), .ref (z 2), .int (nI q_7), .int (xs 0), .ref (z 3), .ref (z 4), .ref (z 5), .ref (z 6), .int (xs 1), .ref (z 7), .ref (z 8), .ref (z 9), .ref (z 10), .ref (z 11), .ref (z 12), .int (xs 2), .ref (z 13), .ref (z 14), .int (xs 3), .ref (z 15)])), (z 1, .inl (gI g, 461, .inl D)), (z 2, .inl (gI g, 7376, .inl f_8))] := hD
    have hw_6 : q_7 ≤ 16 ∧ WI f_8 q_7 := hw_6
    obtain ⟨hkk, hkW⟩ := hw_6
    refine lv_aload_n hx hb dX12_rate_20 rfl (lv_at hl 0 rfl) ?_
    refine va_get (ci := 12) (C := RX12) (T := TX12) (N := 20) hx hb hts inlX12 hown hKW.1 hP 0 rfl rfl 0 (by decide) (hts _ wd_6_5) (fun _ h => h) rfl dX12_rate_21 ?_
    refine lv_bipush (v := 9) hx hb dX12_rate_24 (by decide) ?_
    refine va_iald hx hb hKW.1 hP 1 0 rfl rfl (show ¬ _ by decide) dX12_rate_26 ?_
    refine lv_topi (fun x_9 ex_9 => ?_)
    refine lv_istore_n (lv' := [(2, .int x_9), (0, .ref (z 0)), (1, .int x)]) hx hb dX12_rate_27 rfl hl (by decide) rfl (fun ls hl => ?_)
    refine lv_aload_n hx hb dX12_rate_28 rfl (lv_at hl 1 rfl) ?_
    refine va_get (ci := 12) (C := RX12) (T := TX12) (N := 20) hx hb hts inlX12 hown hKW.1 hP 0 rfl rfl 0 (by decide) (hts _ wd_6_5) (fun _ h => h) rfl dX12_rate_29 ?_
    refine lv_bipush (v := 9) hx hb dX12_rate_32 (by decide) ?_
    refine lv_iload_n hx hb dX12_rate_34 rfl (lv_at hl 2 rfl) ?_
    refine va_iast hx hb hKW.1 hP hD hS 1 0 rfl rfl (show ¬ _ by decide) dX12_rate_35 (fun H locs hP hD hS => ?_)
    have hP : va_P g.1 vwCl [(z 0, .inr (12, [.ref (z 1), .ref (z 2), .int (nI q_7), .int (xs 0), .ref (z 3), .ref (z 4), .ref (z 5), .ref (z 6), .int (xs 1), .ref (z 7), .ref (z 8), .ref (z 9), .ref (z 10), .ref (z 11), .ref (z 12), .int (xs 2), .ref (z 13), .ref (z 14), .int (xs 3), .ref (z 15)])), (z 1, .inl (gI g, 461, .inl (upd D 9 x))), (z 2, .inl (gI g, 7376, .inl f_8))] H := hP
    have hD : va_D A [(z 0, .inr (12, [.ref (z 1), .ref (z 2), .int (nI q_7), .int (xs 0), .ref (z 3), .ref (z 4), .ref (z 5), .ref (z 6), .int (xs 1), .ref (z 7), .ref (z 8), .ref (z 9), .ref (z 10), .ref (z 11), .ref (z 12), .int (xs 2), .ref (z 13), .ref (z 14), .int (xs 3), .ref (z 15)])), (z 1, .inl (gI g, 461, .inl (upd D 9 x))), (z 2, .inl (gI g, 7376, .inl f_8))] := hD
    obtain ⟨f_10, ef_10⟩ : ∃ zz_ : Nat → Int32, zz_ = upd D 9 x := ⟨_, rfl⟩
    rw [← ef_10] at hP hD
    have hDf_10 : DI f_10 := DI.free (i := 9) (x := x) hDI ef_10 (by unfold dFree; omega)
    refine lv_iload_n hx hb dX12_rate_36 rfl (lv_at hl 0 rfl) ?_
    exact k_iret (q_7, xs, f_10, f_8) [0, 1, 2] hx hb hr hlk hP hD hS (⟨hkk, hDf_10, hkW⟩) rfl rfl rfl (Nat.le_of_ble_eq_true rfl) (Nat.le_of_ble_eq_true rfl) dX12_rate_37
  · refine lv_if_ne (tgt := 16) hx hb dX12_rate_7 (by decide) (fun c => absurd c (by decide)) (fun _ => ?_)
    refine lv_aload_n hx hb dX12_rate_10 rfl (lv_at hl 0 rfl) ?_
    refine lv_iconst (v := 1) hx hb dX12_rate_11 (by decide) ?_
    refine k_Vi [0] [1, 2] 0 12 (wr := [(z 1, .inl (gI g, 461, .inl D)), (z 2, .inl (gI g, 7376, .inl Wk))]) hx hb hml hown hts hKW hP hD hS hA hl.1 (c_X12_finding_1 l g _ z kp xs ) rfl rfl rfl wd_10_15 wd_1_5 wd_10_12 wd_10_13 wd_10_14 yd_X12_finding ⟨(Nat.le_of_ble_eq_true rfl), (Nat.le_of_ble_eq_true rfl)⟩ rfl rfl rfl rfl (by decide) rfl (Nat.le_of_ble_eq_true rfl) dX12_rate_12 ⟨(Nat.le_of_ble_eq_true rfl), (Nat.le_of_ble_eq_true rfl)⟩ (fun r_11 u_12 H locs hw_13 hP hD hS => ?_)
    have hP : va_P g.1 vwCl [(z 1, .inl (gI g, 461, .inl D)), (z 2, .inl (gI g, 7376, .inl Wk)), (z 0, .inr (12, [.ref (z 1), .ref (z 2), .int (nI kp), .int u_12, .ref (z 3), .ref (z 4), .ref (z 5), .ref (z 6), .int (xs 1), .ref (z 7), .ref (z 8), .ref (z 9), .ref (z 10), .ref (z 11), .ref (z 12), .int (xs 2), .ref (z 13), .ref (z 14), .int (xs 3), .ref (z 15)]))] H := hP
    have hD : va_D A [(z 1, .inl (gI g, 461, .inl D)), (z 2, .inl (gI g, 7376, .inl Wk)), (z 0, .inr (12, [.ref (z 1), .ref (z 2), .int (nI kp), .int u_12, .ref (z 3), .ref (z 4), .ref (z 5), .ref (z 6), .int (xs 1), .ref (z 7), .ref (z 8), .ref (z 9), .ref (z 10), .ref (z 11), .ref (z 12), .int (xs 2), .ref (z 13), .ref (z 14), .int (xs 3), .ref (z 15)]))] := hD
    have hw_13 : r_11 = (-100001) := hw_13
    subst hw_13
    exact k_iret (kp, (fun kk_ => ([u_12, (xs 1), (xs 2), (xs 3)] : List Int32).getD kk_ 0), D, Wk) [2, 0, 1] hx hb hr hlk hP hD hS (⟨hkp, hDI, hWI⟩) rfl rfl rfl (Nat.le_of_ble_eq_true rfl) (Nat.le_of_ble_eq_true rfl) dX12_rate_15
theorem dX12_day_0 : decode cX12_day 0 = .ok (.aload_n 0, 1) := by decide +kernel
theorem dX12_day_1 : decode cX12_day 1 = .ok (.invokevirtual 72, 3) := by decide +kernel
theorem dX12_day_4 : decode cX12_day 4 = .ok (.iconst 0, 1) := by decide +kernel
theorem dX12_day_5 : decode cX12_day 5 = .ok (.istore_n 1, 1) := by decide +kernel
theorem dX12_day_6 : decode cX12_day 6 = .ok (.iconst 0, 1) := by decide +kernel
theorem dX12_day_7 : decode cX12_day 7 = .ok (.istore_n 2, 1) := by decide +kernel
theorem dX12_day_8 : decode cX12_day 8 = .ok (.iload_n 2, 1) := by decide +kernel
theorem dX12_day_9 : decode cX12_day 9 = .ok (.aload_n 0, 1) := by decide +kernel
theorem dX12_day_10 : decode cX12_day 10 = .ok (.getfield 7, 3) := by decide +kernel
theorem dX12_day_13 : decode cX12_day 13 = .ok (.iconst 2, 1) := by decide +kernel
theorem dX12_day_14 : decode cX12_day 14 = .ok (.iaload, 1) := by decide +kernel
theorem dX12_day_15 : decode cX12_day 15 = .ok (.if_icmp .ge 49, 3) := by decide +kernel
theorem dX12_day_64 : decode cX12_day 64 = .ok (.iconst 0, 1) := by decide +kernel
theorem dX12_day_65 : decode cX12_day 65 = .ok (.istore_n 2, 1) := by decide +kernel
theorem dX12_day_66 : decode cX12_day 66 = .ok (.iload_n 2, 1) := by decide +kernel
theorem dX12_day_67 : decode cX12_day 67 = .ok (.aload_n 0, 1) := by decide +kernel
theorem dX12_day_68 : decode cX12_day 68 = .ok (.getfield 7, 3) := by decide +kernel
theorem dX12_day_71 : decode cX12_day 71 = .ok (.iconst 1, 1) := by decide +kernel
theorem dX12_day_72 : decode cX12_day 72 = .ok (.iaload, 1) := by decide +kernel
theorem dX12_day_73 : decode cX12_day 73 = .ok (.if_icmp .ge 19, 3) := by decide +kernel
theorem dX12_day_92 : decode cX12_day 92 = .ok (.aload_n 0, 1) := by decide +kernel
theorem dX12_day_93 : decode cX12_day 93 = .ok (.getfield 7, 3) := by decide +kernel
theorem dX12_day_96 : decode cX12_day 96 = .ok (.iconst 4, 1) := by decide +kernel
theorem dX12_day_97 : decode cX12_day 97 = .ok (.iconst 0, 1) := by decide +kernel
theorem dX12_day_98 : decode cX12_day 98 = .ok (.iastore, 1) := by decide +kernel
theorem dX12_day_99 : decode cX12_day 99 = .ok (.aload_n 0, 1) := by decide +kernel
theorem dX12_day_100 : decode cX12_day 100 = .ok (.getfield 7, 3) := by decide +kernel
theorem dX12_day_103 : decode cX12_day 103 = .ok (.iconst 5, 1) := by decide +kernel
theorem dX12_day_104 : decode cX12_day 104 = .ok (.iconst 0, 1) := by decide +kernel
theorem dX12_day_105 : decode cX12_day 105 = .ok (.iastore, 1) := by decide +kernel
theorem dX12_day_106 : decode cX12_day 106 = .ok (.aload_n 0, 1) := by decide +kernel
theorem dX12_day_107 : decode cX12_day 107 = .ok (.getfield 7, 3) := by decide +kernel
theorem dX12_day_110 : decode cX12_day 110 = .ok (.bipush 6, 2) := by decide +kernel
theorem dX12_day_112 : decode cX12_day 112 = .ok (.iconst 0, 1) := by decide +kernel
theorem dX12_day_113 : decode cX12_day 113 = .ok (.iastore, 1) := by decide +kernel
theorem dX12_day_114 : decode cX12_day 114 = .ok (.iload_n 1, 1) := by decide +kernel
theorem dX12_day_115 : decode cX12_day 115 = .ok (.ireturn, 1) := by decide +kernel
theorem dX12_day_76 : decode cX12_day 76 = .ok (.aload_n 0, 1) := by decide +kernel
theorem dX12_day_77 : decode cX12_day 77 = .ok (.getfield 7, 3) := by decide +kernel
theorem dX12_day_80 : decode cX12_day 80 = .ok (.bipush 40, 2) := by decide +kernel
theorem dX12_day_82 : decode cX12_day 82 = .ok (.iload_n 2, 1) := by decide +kernel
theorem dX12_day_83 : decode cX12_day 83 = .ok (.iadd, 1) := by decide +kernel
theorem dX12_day_84 : decode cX12_day 84 = .ok (.iconst 0, 1) := by decide +kernel
theorem dX12_day_85 : decode cX12_day 85 = .ok (.iastore, 1) := by decide +kernel
theorem dX12_day_86 : decode cX12_day 86 = .ok (.iinc 2 1, 3) := by decide +kernel
theorem dX12_day_89 : decode cX12_day 89 = .ok (.goto (-23), 3) := by decide +kernel
theorem dX12_day_18 : decode cX12_day 18 = .ok (.iload_n 1, 1) := by decide +kernel
theorem dX12_day_19 : decode cX12_day 19 = .ok (.aload_n 0, 1) := by decide +kernel
theorem dX12_day_20 : decode cX12_day 20 = .ok (.getfield 7, 3) := by decide +kernel
theorem dX12_day_23 : decode cX12_day 23 = .ok (.bipush 97, 2) := by decide +kernel
theorem dX12_day_25 : decode cX12_day 25 = .ok (.iload_n 2, 1) := by decide +kernel
theorem dX12_day_26 : decode cX12_day 26 = .ok (.iadd, 1) := by decide +kernel
theorem dX12_day_27 : decode cX12_day 27 = .ok (.iaload, 1) := by decide +kernel
theorem dX12_day_28 : decode cX12_day 28 = .ok (.ifCond .lt 7, 3) := by decide +kernel
theorem dX12_day_35 : decode cX12_day 35 = .ok (.iconst 0, 1) := by decide +kernel
theorem dX12_day_36 : decode cX12_day 36 = .ok (.iadd, 1) := by decide +kernel
theorem dX12_day_37 : decode cX12_day 37 = .ok (.istore_n 1, 1) := by decide +kernel
theorem dX12_day_38 : decode cX12_day 38 = .ok (.aload_n 0, 1) := by decide +kernel
theorem dX12_day_39 : decode cX12_day 39 = .ok (.getfield 7, 3) := by decide +kernel
theorem dX12_day_42 : decode cX12_day 42 = .ok (.bipush 97, 2) := by decide +kernel
theorem dX12_day_44 : decode cX12_day 44 = .ok (.iload_n 2, 1) := by decide +kernel
theorem dX12_day_45 : decode cX12_day 45 = .ok (.iadd, 1) := by decide +kernel
theorem dX12_day_46 : decode cX12_day 46 = .ok (.iconst (-1), 1) := by decide +kernel
theorem dX12_day_47 : decode cX12_day 47 = .ok (.iastore, 1) := by decide +kernel
theorem dX12_day_48 : decode cX12_day 48 = .ok (.aload_n 0, 1) := by decide +kernel
theorem dX12_day_49 : decode cX12_day 49 = .ok (.getfield 7, 3) := by decide +kernel
theorem dX12_day_52 : decode cX12_day 52 = .ok (.bipush 107, 2) := by decide +kernel
theorem dX12_day_54 : decode cX12_day 54 = .ok (.iload_n 2, 1) := by decide +kernel
theorem dX12_day_55 : decode cX12_day 55 = .ok (.iadd, 1) := by decide +kernel
theorem dX12_day_56 : decode cX12_day 56 = .ok (.iconst 0, 1) := by decide +kernel
theorem dX12_day_57 : decode cX12_day 57 = .ok (.iastore, 1) := by decide +kernel
theorem dX12_day_58 : decode cX12_day 58 = .ok (.iinc 2 1, 3) := by decide +kernel
theorem dX12_day_61 : decode cX12_day 61 = .ok (.goto (-53), 3) := by decide +kernel
theorem dX12_day_31 : decode cX12_day 31 = .ok (.iconst 1, 1) := by decide +kernel
theorem dX12_day_32 : decode cX12_day 32 = .ok (.goto 4, 3) := by decide +kernel
set_option maxHeartbeats 8000000 in
set_option maxRecDepth 100000 in
theorem c_X12_day (l : Launch) (g : kG) (sz : Nat) (z : Nat → Nat) (kp : Nat) (xs : Nat → Int32) (D : Nat → Int32) (Wk : Nat → Int32) (hDI : DI D) (hkp : kp ≤ 16) (hWI : WI Wk kp) : kMi l g yX12_day cX12_day 3 (some .int) 4 0 0 [.ref (z 0)] sz [(z 0, .inr (12, [.ref (z 1), .ref (z 2), .int (nI kp), .int (xs 0), .ref (z 3), .ref (z 4), .ref (z 5), .ref (z 6), .int (xs 1), .ref (z 7), .ref (z 8), .ref (z 9), .ref (z 10), .ref (z 11), .ref (z 12), .int (xs 2), .ref (z 13), .ref (z 14), .int (xs 3), .ref (z 15)])), (z 1, .inl (gI g, 461, .inl D)), (z 2, .inl (gI g, 7376, .inl Wk))] (fun (r : Int32) (u : Nat × (Nat → Int32) × (Nat → Int32) × (Nat → Int32)) => u.1 ≤ 16 ∧ DI u.2.2.1 ∧ WI u.2.2.2 u.1) (fun (u : Nat × (Nat → Int32) × (Nat → Int32) × (Nat → Int32)) => ([(z 0, .inr (12, [.ref (z 1), .ref (z 2), .int (nI u.1), .int (u.2.1 0), .ref (z 3), .ref (z 4), .ref (z 5), .ref (z 6), .int (u.2.1 1), .ref (z 7), .ref (z 8), .ref (z 9), .ref (z 10), .ref (z 11), .ref (z 12), .int (u.2.1 2), .ref (z 13), .ref (z 14), .int (u.2.1 3), .ref (z 15)])), (z 1, .inl (gI g, 461, .inl u.2.2.1)), (z 2, .inl (gI g, 7376, .inl u.2.2.2))] : va_W)) := by
  refine kMi.of (by decide) (Nat.le_of_ble_eq_true rfl) (fun p e s m below meth c A hx hb hr hml hown hts hlk hnm hKW hP hD hS hA ls hl => ?_)
  have hown : s.vm.findClass RX12 = some m.cls := hown
  have hl : lv_has ls 3 [(0, .ref (z 0))] := hl
  refine k_hide hP hS (fun H locs hP hS => ?_)
  refine lv_aload_n hx hb dX12_day_0 rfl (lv_at hl 0 rfl) ?_
  refine k_Vv [0, 1, 2] [] 0 12 (wr := []) hx hb hml hown hts hKW hP hD hS hA hl.1 (c_X12_keep l g _ z kp xs D Wk (by first | assumption | omega | decide) (by first | assumption | omega | decide) (by first | assumption | omega | decide)) rfl rfl rfl wd_10_21 wd_1_5 wd_10_18 wd_10_19 wd_10_20 yd_X12_keep ⟨(Nat.le_of_ble_eq_true rfl), (Nat.le_of_ble_eq_true rfl)⟩ rfl rfl rfl rfl (by decide) rfl (Nat.le_of_ble_eq_true rfl) dX12_day_1 ⟨(Nat.le_of_ble_eq_true rfl), (Nat.le_of_ble_eq_true rfl)⟩ (fun u_2 H locs hw_3 hP hD hS => ?_)
  obtain ⟨q_4, f_5⟩ := u_2
  have hP : va_P g.1 vwCl [(z 0, .inr (12, [.ref (z 1), .ref (z 2), .int (nI q_4), .int (xs 0), .ref (z 3), .ref (z 4), .ref (z 5), .ref (z 6), .int (xs 1), .ref (z 7), .ref (z 8), .ref (z 9), .ref (z 10), .ref (z 11), .ref (z 12), .int (xs 2), .ref (z 13), .ref (z 14), .int (xs 3), .ref (z 15)])), (z 1, .inl (gI g, 461, .inl D)), (z 2, .inl (gI g, 7376, .inl f_5))] H := hP
  have hD : va_D A [(z 0, .inr (12, [.ref (z 1), .ref (z 2), .int (nI q_4), .int (xs 0), .ref (z 3), .ref (z 4), .ref (z 5), .ref (z 6), .int (xs 1), .ref (z 7), .ref (z 8), .ref (z 9), .ref (z 10), .ref (z 11), .ref (z 12), .int (xs 2), .ref (z 13), .ref (z 14), .int (xs 3), .ref (z 15)])), (z 1, .inl (gI g, 461, .inl D)), (z 2, .inl (gI g, 7376, .inl f_5))] := hD
  have hw_3 : q_4 ≤ 16 ∧ WI f_5 q_4 := hw_3
  obtain ⟨hkk, hkW⟩ := hw_3
  refine lv_iconst (v := 0) hx hb dX12_day_4 (by decide) ?_
  refine lv_istore_n (lv' := [(1, .int 0), (0, .ref (z 0))]) hx hb dX12_day_5 rfl hl (by decide) rfl (fun ls hl => ?_)
  refine lv_iconst (v := 0) hx hb dX12_day_6 (by decide) ?_
  refine lv_istore_n (lv' := [(2, .int 0), (1, .int 0), (0, .ref (z 0))]) hx hb dX12_day_7 rfl hl (by decide) rfl (fun ls hl => ?_)
  have L8 : ∀ (n8 : Nat) (i : Nat) (x1 : Int32) (Da : Nat → Int32) (hfuel8 : 10 - i < n8) (hi : i ≤ 10) (hDa : DI Da) (H : Heap) (locs : List Loc) (hP : va_P g.1 vwCl [(z 0, .inr (12, [.ref (z 1), .ref (z 2), .int (nI q_4), .int (xs 0), .ref (z 3), .ref (z 4), .ref (z 5), .ref (z 6), .int (xs 1), .ref (z 7), .ref (z 8), .ref (z 9), .ref (z 10), .ref (z 11), .ref (z 12), .int (xs 2), .ref (z 13), .ref (z 14), .int (xs 3), .ref (z 15)])), (z 1, .inl (gI g, 461, .inl Da)), (z 2, .inl (gI g, 7376, .inl f_5))] H) (hD : va_D A [(z 0, .inr (12, [.ref (z 1), .ref (z 2), .int (nI q_4), .int (xs 0), .ref (z 3), .ref (z 4), .ref (z 5), .ref (z 6), .int (xs 1), .ref (z 7), .ref (z 8), .ref (z 9), .ref (z 10), .ref (z 11), .ref (z 12), .int (xs 2), .ref (z 13), .ref (z 14), .int (xs 3), .ref (z 15)])), (z 1, .inl (gI g, 461, .inl Da)), (z 2, .inl (gI g, 7376, .inl f_5))]) (hS : va_S A s.heap H locs) (ls : Array Slot) (hl : lv_has ls 3 [(2, .int (nI i)), (1, .int x1), (0, .ref (z 0))]), W p l e (kR 4 0 0) s m ([.ref (z 0)] : List Value).toArray below meth c H locs 0 0 (kQi g A below ([.ref (z 0)] : List Value).toArray s 0 0 (fun (r : Int32) (u : Nat × (Nat → Int32) × (Nat → Int32) × (Nat → Int32)) => u.1 ≤ 16 ∧ DI u.2.2.1 ∧ WI u.2.2.2 u.1) (fun (u : Nat × (Nat → Int32) × (Nat → Int32) × (Nat → Int32)) => ([(z 0, .inr (12, [.ref (z 1), .ref (z 2), .int (nI u.1), .int (u.2.1 0), .ref (z 3), .ref (z 4), .ref (z 5), .ref (z 6), .int (u.2.1 1), .ref (z 7), .ref (z 8), .ref (z 9), .ref (z 10), .ref (z 11), .ref (z 12), .int (u.2.1 2), .ref (z 13), .ref (z 14), .int (u.2.1 3), .ref (z 15)])), (z 1, .inl (gI g, 461, .inl u.2.2.1)), (z 2, .inl (gI g, 7376, .inl u.2.2.2))] : va_W))) (F0 m 8 ls []) := by
    intro n8
    induction n8 with
    | zero => intro i x1 Da hfuel8; exact absurd hfuel8 (Nat.not_lt_zero _)
    | succ n8 ih8 =>
      intro i x1 Da hfuel8 hi hDa H locs hP hD hS ls hl
      refine lv_iload_n hx hb dX12_day_8 rfl (lv_at hl 0 rfl) ?_
      refine lv_aload_n hx hb dX12_day_9 rfl (lv_at hl 2 rfl) ?_
      refine va_get (ci := 12) (C := RX12) (T := TX12) (N := 20) hx hb hts inlX12 hown hKW.1 hP 0 rfl rfl 0 (by decide) (hts _ wd_6_5) (fun _ h => h) rfl dX12_day_10 ?_
      refine lv_iconst (v := 2) hx hb dX12_day_13 (by decide) ?_
      obtain ⟨dk_6, hdk_6a, hdk_6b, edk_6⟩ := DI.n2 hDa
      refine va_iald hx hb hKW.1 hP 1 0 rfl rfl (show ¬ _ by decide) dX12_day_14 ?_
      refine k_top (y := nI dk_6) edk_6 ?_
      refine lv_icmp_ge (tgt := 64) hx hb dX12_day_15 (by decide) (fun c_7 => ?_) (fun c_7 => ?_)
      · have c_7n : dk_6 ≤ i := (k_leI (a := dk_6) (b := i) (by omega) (by omega)).mp c_7
        refine lv_iconst (v := 0) hx hb dX12_day_64 (by decide) ?_
        refine lv_istore_n (lv' := [(2, .int 0), (1, .int x1), (0, .ref (z 0))]) hx hb dX12_day_65 rfl hl (by decide) rfl (fun ls hl => ?_)
        have L66 : ∀ (n66 : Nat) (i : Nat) (x1 : Int32) (Da : Nat → Int32) (hfuel66 : 7 - i < n66) (hi : i ≤ 7) (hDa : DI Da) (H : Heap) (locs : List Loc) (hP : va_P g.1 vwCl [(z 0, .inr (12, [.ref (z 1), .ref (z 2), .int (nI q_4), .int (xs 0), .ref (z 3), .ref (z 4), .ref (z 5), .ref (z 6), .int (xs 1), .ref (z 7), .ref (z 8), .ref (z 9), .ref (z 10), .ref (z 11), .ref (z 12), .int (xs 2), .ref (z 13), .ref (z 14), .int (xs 3), .ref (z 15)])), (z 1, .inl (gI g, 461, .inl Da)), (z 2, .inl (gI g, 7376, .inl f_5))] H) (hD : va_D A [(z 0, .inr (12, [.ref (z 1), .ref (z 2), .int (nI q_4), .int (xs 0), .ref (z 3), .ref (z 4), .ref (z 5), .ref (z 6), .int (xs 1), .ref (z 7), .ref (z 8), .ref (z 9), .ref (z 10), .ref (z 11), .ref (z 12), .int (xs 2), .ref (z 13), .ref (z 14), .int (xs 3), .ref (z 15)])), (z 1, .inl (gI g, 461, .inl Da)), (z 2, .inl (gI g, 7376, .inl f_5))]) (hS : va_S A s.heap H locs) (ls : Array Slot) (hl : lv_has ls 3 [(2, .int (nI i)), (1, .int x1), (0, .ref (z 0))]), W p l e (kR 4 0 0) s m ([.ref (z 0)] : List Value).toArray below meth c H locs 0 0 (kQi g A below ([.ref (z 0)] : List Value).toArray s 0 0 (fun (r : Int32) (u : Nat × (Nat → Int32) × (Nat → Int32) × (Nat → Int32)) => u.1 ≤ 16 ∧ DI u.2.2.1 ∧ WI u.2.2.2 u.1) (fun (u : Nat × (Nat → Int32) × (Nat → Int32) × (Nat → Int32)) => ([(z 0, .inr (12, [.ref (z 1), .ref (z 2), .int (nI u.1), .int (u.2.1 0), .ref (z 3), .ref (z 4), .ref (z 5), .ref (z 6), .int (u.2.1 1), .ref (z 7), .ref (z 8), .ref (z 9), .ref (z 10), .ref (z 11), .ref (z 12), .int (u.2.1 2), .ref (z 13), .ref (z 14), .int (u.2.1 3), .ref (z 15)])), (z 1, .inl (gI g, 461, .inl u.2.2.1)), (z 2, .inl (gI g, 7376, .inl u.2.2.2))] : va_W))) (F0 m 66 ls []) := by
          intro n66
          induction n66 with
          | zero => intro i x1 Da hfuel66; exact absurd hfuel66 (Nat.not_lt_zero _)
          | succ n66 ih66 =>
            intro i x1 Da hfuel66 hi hDa H locs hP hD hS ls hl
            refine lv_iload_n hx hb dX12_day_66 rfl (lv_at hl 0 rfl) ?_
            refine lv_aload_n hx hb dX12_day_67 rfl (lv_at hl 2 rfl) ?_
            refine va_get (ci := 12) (C := RX12) (T := TX12) (N := 20) hx hb hts inlX12 hown hKW.1 hP 0 rfl rfl 0 (by decide) (hts _ wd_6_5) (fun _ h => h) rfl dX12_day_68 ?_
            refine lv_iconst (v := 1) hx hb dX12_day_71 (by decide) ?_
            obtain ⟨dk_8, hdk_8a, hdk_8b, edk_8⟩ := DI.n1 hDa
            refine va_iald hx hb hKW.1 hP 1 0 rfl rfl (show ¬ _ by decide) dX12_day_72 ?_
            refine k_top (y := nI dk_8) edk_8 ?_
            refine lv_icmp_ge (tgt := 92) hx hb dX12_day_73 (by decide) (fun c_9 => ?_) (fun c_9 => ?_)
            · have c_9n : dk_8 ≤ i := (k_leI (a := dk_8) (b := i) (by omega) (by omega)).mp c_9
              refine lv_aload_n hx hb dX12_day_92 rfl (lv_at hl 2 rfl) ?_
              refine va_get (ci := 12) (C := RX12) (T := TX12) (N := 20) hx hb hts inlX12 hown hKW.1 hP 0 rfl rfl 0 (by decide) (hts _ wd_6_5) (fun _ h => h) rfl dX12_day_93 ?_
              refine lv_iconst (v := 4) hx hb dX12_day_96 (by decide) ?_
              refine lv_iconst (v := 0) hx hb dX12_day_97 (by decide) ?_
              refine va_iast hx hb hKW.1 hP hD hS 1 0 rfl rfl (show ¬ _ by decide) dX12_day_98 (fun H locs hP hD hS => ?_)
              have hP : va_P g.1 vwCl [(z 0, .inr (12, [.ref (z 1), .ref (z 2), .int (nI q_4), .int (xs 0), .ref (z 3), .ref (z 4), .ref (z 5), .ref (z 6), .int (xs 1), .ref (z 7), .ref (z 8), .ref (z 9), .ref (z 10), .ref (z 11), .ref (z 12), .int (xs 2), .ref (z 13), .ref (z 14), .int (xs 3), .ref (z 15)])), (z 1, .inl (gI g, 461, .inl (upd Da 4 0))), (z 2, .inl (gI g, 7376, .inl f_5))] H := hP
              have hD : va_D A [(z 0, .inr (12, [.ref (z 1), .ref (z 2), .int (nI q_4), .int (xs 0), .ref (z 3), .ref (z 4), .ref (z 5), .ref (z 6), .int (xs 1), .ref (z 7), .ref (z 8), .ref (z 9), .ref (z 10), .ref (z 11), .ref (z 12), .int (xs 2), .ref (z 13), .ref (z 14), .int (xs 3), .ref (z 15)])), (z 1, .inl (gI g, 461, .inl (upd Da 4 0))), (z 2, .inl (gI g, 7376, .inl f_5))] := hD
              obtain ⟨f_10, ef_10⟩ : ∃ zz_ : Nat → Int32, zz_ = upd Da 4 0 := ⟨_, rfl⟩
              rw [← ef_10] at hP hD
              have dz_11 : f_10 1 = nI dk_8 := by rw [ef_10, pk_un (by decide)]; exact edk_8
              have hDf_10 : DI f_10 := DI.free (i := 4) (x := 0) hDa ef_10 (by unfold dFree; omega)
              refine lv_aload_n hx hb dX12_day_99 rfl (lv_at hl 2 rfl) ?_
              refine va_get (ci := 12) (C := RX12) (T := TX12) (N := 20) hx hb hts inlX12 hown hKW.1 hP 0 rfl rfl 0 (by decide) (hts _ wd_6_5) (fun _ h => h) rfl dX12_day_100 ?_
              refine lv_iconst (v := 5) hx hb dX12_day_103 (by decide) ?_
              refine lv_iconst (v := 0) hx hb dX12_day_104 (by decide) ?_
              refine va_iast hx hb hKW.1 hP hD hS 1 0 rfl rfl (show ¬ _ by decide) dX12_day_105 (fun H locs hP hD hS => ?_)
              have hP : va_P g.1 vwCl [(z 0, .inr (12, [.ref (z 1), .ref (z 2), .int (nI q_4), .int (xs 0), .ref (z 3), .ref (z 4), .ref (z 5), .ref (z 6), .int (xs 1), .ref (z 7), .ref (z 8), .ref (z 9), .ref (z 10), .ref (z 11), .ref (z 12), .int (xs 2), .ref (z 13), .ref (z 14), .int (xs 3), .ref (z 15)])), (z 1, .inl (gI g, 461, .inl (upd f_10 5 0))), (z 2, .inl (gI g, 7376, .inl f_5))] H := hP
              have hD : va_D A [(z 0, .inr (12, [.ref (z 1), .ref (z 2), .int (nI q_4), .int (xs 0), .ref (z 3), .ref (z 4), .ref (z 5), .ref (z 6), .int (xs 1), .ref (z 7), .ref (z 8), .ref (z 9), .ref (z 10), .ref (z 11), .ref (z 12), .int (xs 2), .ref (z 13), .ref (z 14), .int (xs 3), .ref (z 15)])), (z 1, .inl (gI g, 461, .inl (upd f_10 5 0))), (z 2, .inl (gI g, 7376, .inl f_5))] := hD
              obtain ⟨f_12, ef_12⟩ : ∃ zz_ : Nat → Int32, zz_ = upd f_10 5 0 := ⟨_, rfl⟩
              rw [← ef_12] at hP hD
              have dz_13 : f_12 1 = nI dk_8 := by rw [ef_12, pk_un (by decide)]; exact dz_11
              have dz_14 : f_12 5 = 0 := by rw [ef_12, pk_us]
              have hDf_12 : DI f_12 := DI.upd (i := 5) (x := 0) hDf_10 ef_12 (h0 := (fun q => absurd q (by omega))) (h1 := (fun q => absurd q (by omega))) (h2 := (fun q => absurd q (by omega))) (h5 := (fun _ => by decide)) (h6 := (fun q => absurd q (by omega))) (h7 := (fun q => absurd q (by omega))) (h10 := (fun q => absurd q (by omega))) (hf := (fun q q2 => False.elim (by omega))) (hn := (fun q q2 => False.elim (by omega))) (ht := (fun q q2 => False.elim (by omega))) (hl := (fun q q2 => False.elim (by omega))) (h8 := (by omega))
              refine lv_aload_n hx hb dX12_day_106 rfl (lv_at hl 2 rfl) ?_
              refine va_get (ci := 12) (C := RX12) (T := TX12) (N := 20) hx hb hts inlX12 hown hKW.1 hP 0 rfl rfl 0 (by decide) (hts _ wd_6_5) (fun _ h => h) rfl dX12_day_107 ?_
              refine lv_bipush (v := 6) hx hb dX12_day_110 (by decide) ?_
              refine lv_iconst (v := 0) hx hb dX12_day_112 (by decide) ?_
              refine va_iast hx hb hKW.1 hP hD hS 1 0 rfl rfl (show ¬ _ by decide) dX12_day_113 (fun H locs hP hD hS => ?_)
              have hP : va_P g.1 vwCl [(z 0, .inr (12, [.ref (z 1), .ref (z 2), .int (nI q_4), .int (xs 0), .ref (z 3), .ref (z 4), .ref (z 5), .ref (z 6), .int (xs 1), .ref (z 7), .ref (z 8), .ref (z 9), .ref (z 10), .ref (z 11), .ref (z 12), .int (xs 2), .ref (z 13), .ref (z 14), .int (xs 3), .ref (z 15)])), (z 1, .inl (gI g, 461, .inl (upd f_12 6 0))), (z 2, .inl (gI g, 7376, .inl f_5))] H := hP
              have hD : va_D A [(z 0, .inr (12, [.ref (z 1), .ref (z 2), .int (nI q_4), .int (xs 0), .ref (z 3), .ref (z 4), .ref (z 5), .ref (z 6), .int (xs 1), .ref (z 7), .ref (z 8), .ref (z 9), .ref (z 10), .ref (z 11), .ref (z 12), .int (xs 2), .ref (z 13), .ref (z 14), .int (xs 3), .ref (z 15)])), (z 1, .inl (gI g, 461, .inl (upd f_12 6 0))), (z 2, .inl (gI g, 7376, .inl f_5))] := hD
              obtain ⟨f_15, ef_15⟩ : ∃ zz_ : Nat → Int32, zz_ = upd f_12 6 0 := ⟨_, rfl⟩
              rw [← ef_15] at hP hD
              have dz_16 : f_15 1 = nI dk_8 := by rw [ef_15, pk_un (by decide)]; exact dz_13
              have dz_17 : f_15 5 = 0 := by rw [ef_15, pk_un (by decide)]; exact dz_14
              have dz_18 : f_15 6 = 0 := by rw [ef_15, pk_us]
              have hDf_15 : DI f_15 := DI.upd (i := 6) (x := 0) hDf_12 ef_15 (h0 := (fun q => absurd q (by omega))) (h1 := (fun q => absurd q (by omega))) (h2 := (fun q => absurd q (by omega))) (h5 := (fun q => absurd q (by omega))) (h6 := (fun _ => by decide)) (h7 := (fun q => absurd q (by omega))) (h10 := (fun q => absurd q (by omega))) (hf := (fun q q2 => False.elim (by omega))) (hn := (fun q q2 => False.elim (by omega))) (ht := (fun q q2 => False.elim (by omega))) (hl := (fun q q2 => False.elim (by omega))) (h8 := (by omega))
              refine lv_iload_n hx hb dX12_day_114 rfl (lv_at hl 1 rfl) ?_
              exact k_iret (q_4, xs, f_15, f_5) [0, 1, 2] hx hb hr hlk hP hD hS (⟨hkk, hDf_15, hkW⟩) rfl rfl rfl (Nat.le_of_ble_eq_true rfl) (Nat.le_of_ble_eq_true rfl) dX12_day_115
            · have c_9n : i < dk_8 := Nat.not_le.mp (fun h => c_9 ((k_leI (a := dk_8) (b := i) (by omega) (by omega)).mpr h))
              refine lv_aload_n hx hb dX12_day_76 rfl (lv_at hl 2 rfl) ?_
              refine va_get (ci := 12) (C := RX12) (T := TX12) (N := 20) hx hb hts inlX12 hown hKW.1 hP 0 rfl rfl 0 (by decide) (hts _ wd_6_5) (fun _ h => h) rfl dX12_day_77 ?_
              refine lv_bipush (v := 40) hx hb dX12_day_80 (by decide) ?_
              refine lv_iload_n hx hb dX12_day_82 rfl (lv_at hl 0 rfl) ?_
              refine lv_iadd hx hb dX12_day_83 ?_
              refine k_top (y := nI (i + 40)) (by rw [Nat.add_comm]; exact nI_add 40 i) ?_
              refine lv_iconst (v := 0) hx hb dX12_day_84 (by decide) ?_
              refine va_iast hx hb hKW.1 hP hD hS 1 0 rfl rfl (vp_in_nI (by omega) (by decide)) dX12_day_85 (fun H locs hP hD hS => ?_)
              have hP : va_P g.1 vwCl [(z 0, .inr (12, [.ref (z 1), .ref (z 2), .int (nI q_4), .int (xs 0), .ref (z 3), .ref (z 4), .ref (z 5), .ref (z 6), .int (xs 1), .ref (z 7), .ref (z 8), .ref (z 9), .ref (z 10), .ref (z 11), .ref (z 12), .int (xs 2), .ref (z 13), .ref (z 14), .int (xs 3), .ref (z 15)])), (z 1, .inl (gI g, 461, .inl (upd Da (nI (i + 40)).toNatClampNeg 0))), (z 2, .inl (gI g, 7376, .inl f_5))] H := hP
              have hD : va_D A [(z 0, .inr (12, [.ref (z 1), .ref (z 2), .int (nI q_4), .int (xs 0), .ref (z 3), .ref (z 4), .ref (z 5), .ref (z 6), .int (xs 1), .ref (z 7), .ref (z 8), .ref (z 9), .ref (z 10), .ref (z 11), .ref (z 12), .int (xs 2), .ref (z 13), .ref (z 14), .int (xs 3), .ref (z 15)])), (z 1, .inl (gI g, 461, .inl (upd Da (nI (i + 40)).toNatClampNeg 0))), (z 2, .inl (gI g, 7376, .inl f_5))] := hD
              obtain ⟨f_19, ef_19⟩ : ∃ zz_ : Nat → Int32, zz_ = upd Da (nI (i + 40)).toNatClampNeg 0 := ⟨_, rfl⟩
              rw [← ef_19] at hP hD
              have dz_20 : f_19 1 = nI dk_8 := by rw [ef_19, nI_clamp (by omega), pk_un (by omega)]; exact edk_8
              have hDf_19 : DI f_19 := DI.free (i := (i + 40)) (x := 0) hDa (by rw [ef_19, nI_clamp (by omega)]) (by unfold dFree; omega)
              refine lv_iinc (v := nI (i + 1)) (lv' := [(2, .int (nI (i + 1))), (1, .int x1), (0, .ref (z 0))]) hx hb dX12_day_86 hl (k := 0) rfl (nI_add i 1) (by decide) rfl (fun ls hl => ?_)
              refine lv_goto (tgt := 66) hx hb dX12_day_89 (by decide) ?_
              exact ih66 (i + 1) x1 f_19 (by omega) (by first | assumption | omega) hDf_19 H locs (hP.sub [0, 1, 2] rfl) (hD.sub [0, 1, 2] (by decide) rfl) hS ls (lv_sub hl [0, 1, 2] rfl)
        exact L66 (7 - 0 + 1) 0 x1 Da (Nat.lt_succ_self _) (by first | assumption | omega) hDa H locs (hP.sub [0, 1, 2] rfl) (hD.sub [0, 1, 2] (by decide) rfl) hS ls (lv_sub hl [0, 1, 2] rfl)
      · have c_7n : i < dk_6 := Nat.not_le.mp (fun h => c_7 ((k_leI (a := dk_6) (b := i) (by omega) (by omega)).mpr h))
        refine lv_iload_n hx hb dX12_day_18 rfl (lv_at hl 1 rfl) ?_
        refine lv_aload_n hx hb dX12_day_19 rfl (lv_at hl 2 rfl) ?_
        refine va_get (ci := 12) (C := RX12) (T := TX12) (N := 20) hx hb hts inlX12 hown hKW.1 hP 0 rfl rfl 0 (by decide) (hts _ wd_6_5) (fun _ h => h) rfl dX12_day_20 ?_
        refine lv_bipush (v := 97) hx hb dX12_day_23 (by decide) ?_
        refine lv_iload_n hx hb dX12_day_25 rfl (lv_at hl 0 rfl) ?_
        refine lv_iadd hx hb dX12_day_26 ?_
        refine k_top (y := nI (i + 97)) (by rw [Nat.add_comm]; exact nI_add 97 i) ?_
        refine va_iald hx hb hKW.1 hP 1 0 rfl rfl (vp_in_nI (by omega) (by decide)) dX12_day_27 ?_
        refine lv_topi (fun x_21 ex_21 => ?_)
        refine lv_if_lt (tgt := 35) hx hb dX12_day_28 (by decide) (fun c_22 => ?_) (fun c_22 => ?_)
        · refine lv_iconst (v := 0) hx hb dX12_day_35 (by decide) ?_
          refine lv_iadd hx hb dX12_day_36 ?_
          refine lv_topi (fun x_23 ex_23 => ?_)
          refine lv_istore_n (lv' := [(1, .int x_23), (2, .int (nI i)), (0, .ref (z 0))]) hx hb dX12_day_37 rfl hl (by decide) rfl (fun ls hl => ?_)
          refine lv_aload_n hx hb dX12_day_38 rfl (lv_at hl 2 rfl) ?_
          refine va_get (ci := 12) (C := RX12) (T := TX12) (N := 20) hx hb hts inlX12 hown hKW.1 hP 0 rfl rfl 0 (by decide) (hts _ wd_6_5) (fun _ h => h) rfl dX12_day_39 ?_
          refine lv_bipush (v := 97) hx hb dX12_day_42 (by decide) ?_
          refine lv_iload_n hx hb dX12_day_44 rfl (lv_at hl 1 rfl) ?_
          refine lv_iadd hx hb dX12_day_45 ?_
          refine k_top (y := nI (i + 97)) (by rw [Nat.add_comm]; exact nI_add 97 i) ?_
          refine lv_iconst (v := (-1)) hx hb dX12_day_46 (by decide) ?_
          refine va_iast hx hb hKW.1 hP hD hS 1 0 rfl rfl (vp_in_nI (by omega) (by decide)) dX12_day_47 (fun H locs hP hD hS => ?_)
          have hP : va_P g.1 vwCl [(z 0, .inr (12, [.ref (z 1), .ref (z 2), .int (nI q_4), .int (xs 0), .ref (z 3), .ref (z 4), .ref (z 5), .ref (z 6), .int (xs 1), .ref (z 7), .ref (z 8), .ref (z 9), .ref (z 10), .ref (z 11), .ref (z 12), .int (xs 2), .ref (z 13), .ref (z 14), .int (xs 3), .ref (z 15)])), (z 1, .inl (gI g, 461, .inl (upd Da (nI (i + 97)).toNatClampNeg (-1)))), (z 2, .inl (gI g, 7376, .inl f_5))] H := hP
          have hD : va_D A [(z 0, .inr (12, [.ref (z 1), .ref (z 2), .int (nI q_4), .int (xs 0), .ref (z 3), .ref (z 4), .ref (z 5), .ref (z 6), .int (xs 1), .ref (z 7), .ref (z 8), .ref (z 9), .ref (z 10), .ref (z 11), .ref (z 12), .int (xs 2), .ref (z 13), .ref (z 14), .int (xs 3), .ref (z 15)])), (z 1, .inl (gI g, 461, .inl (upd Da (nI (i + 97)).toNatClampNeg (-1)))), (z 2, .inl (gI g, 7376, .inl f_5))] := hD
          obtain ⟨f_24, ef_24⟩ : ∃ zz_ : Nat → Int32, zz_ = upd Da (nI (i + 97)).toNatClampNeg (-1) := ⟨_, rfl⟩
          rw [← ef_24] at hP hD
          have dz_25 : f_24 2 = nI dk_6 := by rw [ef_24, nI_clamp (by omega), pk_un (by omega)]; exact edk_6
          have hDf_24 : DI f_24 := DI.free (i := (i + 97)) (x := (-1)) hDa (by rw [ef_24, nI_clamp (by omega)]) (by unfold dFree; omega)
          refine lv_aload_n hx hb dX12_day_48 rfl (lv_at hl 2 rfl) ?_
          refine va_get (ci := 12) (C := RX12) (T := TX12) (N := 20) hx hb hts inlX12 hown hKW.1 hP 0 rfl rfl 0 (by decide) (hts _ wd_6_5) (fun _ h => h) rfl dX12_day_49 ?_
          refine lv_bipush (v := 107) hx hb dX12_day_52 (by decide) ?_
          refine lv_iload_n hx hb dX12_day_54 rfl (lv_at hl 1 rfl) ?_
          refine lv_iadd hx hb dX12_day_55 ?_
          refine k_top (y := nI (i + 107)) (by rw [Nat.add_comm]; exact nI_add 107 i) ?_
          refine lv_iconst (v := 0) hx hb dX12_day_56 (by decide) ?_
          refine va_iast hx hb hKW.1 hP hD hS 1 0 rfl rfl (vp_in_nI (by omega) (by decide)) dX12_day_57 (fun H locs hP hD hS => ?_)
          have hP : va_P g.1 vwCl [(z 0, .inr (12, [.ref (z 1), .ref (z 2), .int (nI q_4), .int (xs 0), .ref (z 3), .ref (z 4), .ref (z 5), .ref (z 6), .int (xs 1), .ref (z 7), .ref (z 8), .ref (z 9), .ref (z 10), .ref (z 11), .ref (z 12), .int (xs 2), .ref (z 13), .ref (z 14), .int (xs 3), .ref (z 15)])), (z 1, .inl (gI g, 461, .inl (upd f_24 (nI (i + 107)).toNatClampNeg 0))), (z 2, .inl (gI g, 7376, .inl f_5))] H := hP
          have hD : va_D A [(z 0, .inr (12, [.ref (z 1), .ref (z 2), .int (nI q_4), .int (xs 0), .ref (z 3), .ref (z 4), .ref (z 5), .ref (z 6), .int (xs 1), .ref (z 7), .ref (z 8), .ref (z 9), .ref (z 10), .ref (z 11), .ref (z 12), .int (xs 2), .ref (z 13), .ref (z 14), .int (xs 3), .ref (z 15)])), (z 1, .inl (gI g, 461, .inl (upd f_24 (nI (i + 107)).toNatClampNeg 0))), (z 2, .inl (gI g, 7376, .inl f_5))] := hD
          obtain ⟨f_26, ef_26⟩ : ∃ zz_ : Nat → Int32, zz_ = upd f_24 (nI (i + 107)).toNatClampNeg 0 := ⟨_, rfl⟩
          rw [← ef_26] at hP hD
          have dz_27 : f_26 2 = nI dk_6 := by rw [ef_26, nI_clamp (by omega), pk_un (by omega)]; exact dz_25
          have hDf_26 : DI f_26 := DI.free (i := (i + 107)) (x := 0) hDf_24 (by rw [ef_26, nI_clamp (by omega)]) (by unfold dFree; omega)
          refine lv_iinc (v := nI (i + 1)) (lv' := [(2, .int (nI (i + 1))), (1, .int x_23), (0, .ref (z 0))]) hx hb dX12_day_58 hl (k := 1) rfl (nI_add i 1) (by decide) rfl (fun ls hl => ?_)
          refine lv_goto (tgt := 8) hx hb dX12_day_61 (by decide) ?_
          exact ih8 (i + 1) x_23 f_26 (by omega) (by first | assumption | omega) hDf_26 H locs (hP.sub [0, 1, 2] rfl) (hD.sub [0, 1, 2] (by decide) rfl) hS ls (lv_sub hl [0, 1, 2] rfl)
        · refine lv_iconst (v := 1) hx hb dX12_day_31 (by decide) ?_
          refine lv_goto (tgt := 36) hx hb dX12_day_32 (by decide) ?_
          refine lv_iadd hx hb dX12_day_36 ?_
          refine lv_topi (fun x_28 ex_28 => ?_)
          refine lv_istore_n (lv' := [(1, .int x_28), (2, .int (nI i)), (0, .ref (z 0))]) hx hb dX12_day_37 rfl hl (by decide) rfl (fun ls hl => ?_)
          refine lv_aload_n hx hb dX12_day_38 rfl (lv_at hl 2 rfl) ?_
          refine va_get (ci := 12) (C := RX12) (T := TX12) (N := 20) hx hb hts inlX12 hown hKW.1 hP 0 rfl rfl 0 (by decide) (hts _ wd_6_5) (fun _ h => h) rfl dX12_day_39 ?_
          refine lv_bipush (v := 97) hx hb dX12_day_42 (by decide) ?_
          refine lv_iload_n hx hb dX12_day_44 rfl (lv_at hl 1 rfl) ?_
          refine lv_iadd hx hb dX12_day_45 ?_
          refine k_top (y := nI (i + 97)) (by rw [Nat.add_comm]; exact nI_add 97 i) ?_
          refine lv_iconst (v := (-1)) hx hb dX12_day_46 (by decide) ?_
          refine va_iast hx hb hKW.1 hP hD hS 1 0 rfl rfl (vp_in_nI (by omega) (by decide)) dX12_day_47 (fun H locs hP hD hS => ?_)
          have hP : va_P g.1 vwCl [(z 0, .inr (12, [.ref (z 1), .ref (z 2), .int (nI q_4), .int (xs 0), .ref (z 3), .ref (z 4), .ref (z 5), .ref (z 6), .int (xs 1), .ref (z 7), .ref (z 8), .ref (z 9), .ref (z 10), .ref (z 11), .ref (z 12), .int (xs 2), .ref (z 13), .ref (z 14), .int (xs 3), .ref (z 15)])), (z 1, .inl (gI g, 461, .inl (upd Da (nI (i + 97)).toNatClampNeg (-1)))), (z 2, .inl (gI g, 7376, .inl f_5))] H := hP
          have hD : va_D A [(z 0, .inr (12, [.ref (z 1), .ref (z 2), .int (nI q_4), .int (xs 0), .ref (z 3), .ref (z 4), .ref (z 5), .ref (z 6), .int (xs 1), .ref (z 7), .ref (z 8), .ref (z 9), .ref (z 10), .ref (z 11), .ref (z 12), .int (xs 2), .ref (z 13), .ref (z 14), .int (xs 3), .ref (z 15)])), (z 1, .inl (gI g, 461, .inl (upd Da (nI (i + 97)).toNatClampNeg (-1)))), (z 2, .inl (gI g, 7376, .inl f_5))] := hD
          obtain ⟨f_29, ef_29⟩ : ∃ zz_ : Nat → Int32, zz_ = upd Da (nI (i + 97)).toNatClampNeg (-1) := ⟨_, rfl⟩
          rw [← ef_29] at hP hD
          have dz_30 : f_29 2 = nI dk_6 := by rw [ef_29, nI_clamp (by omega), pk_un (by omega)]; exact edk_6
          have hDf_29 : DI f_29 := DI.free (i := (i + 97)) (x := (-1)) hDa (by rw [ef_29, nI_clamp (by omega)]) (by unfold dFree; omega)
          refine lv_aload_n hx hb dX12_day_48 rfl (lv_at hl 2 rfl) ?_
          refine va_get (ci := 12) (C := RX12) (T := TX12) (N := 20) hx hb hts inlX12 hown hKW.1 hP 0 rfl rfl 0 (by decide) (hts _ wd_6_5) (fun _ h => h) rfl dX12_day_49 ?_
          refine lv_bipush (v := 107) hx hb dX12_day_52 (by decide) ?_
          refine lv_iload_n hx hb dX12_day_54 rfl (lv_at hl 1 rfl) ?_
          refine lv_iadd hx hb dX12_day_55 ?_
          refine k_top (y := nI (i + 107)) (by rw [Nat.add_comm]; exact nI_add 107 i) ?_
          refine lv_iconst (v := 0) hx hb dX12_day_56 (by decide) ?_
          refine va_iast hx hb hKW.1 hP hD hS 1 0 rfl rfl (vp_in_nI (by omega) (by decide)) dX12_day_57 (fun H locs hP hD hS => ?_)
          have hP : va_P g.1 vwCl [(z 0, .inr (12, [.ref (z 1), .ref (z 2), .int (nI q_4), .int (xs 0), .ref (z 3), .ref (z 4), .ref (z 5), .ref (z 6), .int (xs 1), .ref (z 7), .ref (z 8), .ref (z 9), .ref (z 10), .ref (z 11), .ref (z 12), .int (xs 2), .ref (z 13), .ref (z 14), .int (xs 3), .ref (z 15)])), (z 1, .inl (gI g, 461, .inl (upd f_29 (nI (i + 107)).toNatClampNeg 0))), (z 2, .inl (gI g, 7376, .inl f_5))] H := hP
          have hD : va_D A [(z 0, .inr (12, [.ref (z 1), .ref (z 2), .int (nI q_4), .int (xs 0), .ref (z 3), .ref (z 4), .ref (z 5), .ref (z 6), .int (xs 1), .ref (z 7), .ref (z 8), .ref (z 9), .ref (z 10), .ref (z 11), .ref (z 12), .int (xs 2), .ref (z 13), .ref (z 14), .int (xs 3), .ref (z 15)])), (z 1, .inl (gI g, 461, .inl (upd f_29 (nI (i + 107)).toNatClampNeg 0))), (z 2, .inl (gI g, 7376, .inl f_5))] := hD
          obtain ⟨f_31, ef_31⟩ : ∃ zz_ : Nat → Int32, zz_ = upd f_29 (nI (i + 107)).toNatClampNeg 0 := ⟨_, rfl⟩
          rw [← ef_31] at hP hD
          have dz_32 : f_31 2 = nI dk_6 := by rw [ef_31, nI_clamp (by omega), pk_un (by omega)]; exact dz_30
          have hDf_31 : DI f_31 := DI.free (i := (i + 107)) (x := 0) hDf_29 (by rw [ef_31, nI_clamp (by omega)]) (by unfold dFree; omega)
          refine lv_iinc (v := nI (i + 1)) (lv' := [(2, .int (nI (i + 1))), (1, .int x_28), (0, .ref (z 0))]) hx hb dX12_day_58 hl (k := 1) rfl (nI_add i 1) (by decide) rfl (fun ls hl => ?_)
          refine lv_goto (tgt := 8) hx hb dX12_day_61 (by decide) ?_
          exact ih8 (i + 1) x_28 f_31 (by omega) (by first | assumption | omega) hDf_31 H locs (hP.sub [0, 1, 2] rfl) (hD.sub [0, 1, 2] (by decide) rfl) hS ls (lv_sub hl [0, 1, 2] rfl)
  exact L8 (10 - 0 + 1) 0 0 D (Nat.lt_succ_self _) (by first | assumption | omega) hDI H locs (hP.sub [0, 1, 2] rfl) (hD.sub [0, 1, 2] (by decide) rfl) hS ls (lv_sub hl [0, 1, 2] rfl)
theorem dX12_in_0 : decode cX12_in 0 = .ok (.aload_n 0, 1) := by decide +kernel
theorem dX12_in_1 : decode cX12_in 1 = .ok (.iload_n 1, 1) := by decide +kernel
theorem dX12_in_2 : decode cX12_in 2 = .ok (.invokevirtual 82, 3) := by decide +kernel
theorem dX12_in_5 : decode cX12_in 5 = .ok (.ifCond .eq 11, 3) := by decide +kernel
theorem dX12_in_8 : decode cX12_in 8 = .ok (.aload_n 0, 1) := by decide +kernel
theorem dX12_in_9 : decode cX12_in 9 = .ok (.iload_n 2, 1) := by decide +kernel
theorem dX12_in_10 : decode cX12_in 10 = .ok (.invokevirtual 100, 3) := by decide +kernel
theorem dX12_in_13 : decode cX12_in 13 = .ok (.ifCond .ne 9, 3) := by decide +kernel
theorem dX12_in_22 : decode cX12_in 22 = .ok (.aload_n 0, 1) := by decide +kernel
theorem dX12_in_23 : decode cX12_in 23 = .ok (.getfield 7, 3) := by decide +kernel
theorem dX12_in_26 : decode cX12_in 26 = .ok (.bipush 97, 2) := by decide +kernel
theorem dX12_in_28 : decode cX12_in 28 = .ok (.iload_n 1, 1) := by decide +kernel
theorem dX12_in_29 : decode cX12_in 29 = .ok (.iadd, 1) := by decide +kernel
theorem dX12_in_30 : decode cX12_in 30 = .ok (.iaload, 1) := by decide +kernel
theorem dX12_in_31 : decode cX12_in 31 = .ok (.ifCond .lt 10, 3) := by decide +kernel
theorem dX12_in_41 : decode cX12_in 41 = .ok (.aload_n 0, 1) := by decide +kernel
theorem dX12_in_42 : decode cX12_in 42 = .ok (.iload_n 2, 1) := by decide +kernel
theorem dX12_in_43 : decode cX12_in 43 = .ok (.aload_n 0, 1) := by decide +kernel
theorem dX12_in_44 : decode cX12_in 44 = .ok (.getfield 7, 3) := by decide +kernel
theorem dX12_in_47 : decode cX12_in 47 = .ok (.iconst 3, 1) := by decide +kernel
theorem dX12_in_48 : decode cX12_in 48 = .ok (.iaload, 1) := by decide +kernel
theorem dX12_in_49 : decode cX12_in 49 = .ok (.aload_n 0, 1) := by decide +kernel
theorem dX12_in_50 : decode cX12_in 50 = .ok (.getfield 7, 3) := by decide +kernel
theorem dX12_in_53 : decode cX12_in 53 = .ok (.bipush 47, 2) := by decide +kernel
theorem dX12_in_55 : decode cX12_in 55 = .ok (.iload_n 1, 1) := by decide +kernel
theorem dX12_in_56 : decode cX12_in 56 = .ok (.iadd, 1) := by decide +kernel
theorem dX12_in_57 : decode cX12_in 57 = .ok (.iaload, 1) := by decide +kernel
theorem dX12_in_58 : decode cX12_in 58 = .ok (.isub, 1) := by decide +kernel
theorem dX12_in_59 : decode cX12_in 59 = .ok (.invokevirtual 85, 3) := by decide +kernel
theorem dX12_in_62 : decode cX12_in 62 = .ok (.ifCond .ne 9, 3) := by decide +kernel
theorem dX12_in_71 : decode cX12_in 71 = .ok (.aload_n 0, 1) := by decide +kernel
theorem dX12_in_72 : decode cX12_in 72 = .ok (.iload_n 2, 1) := by decide +kernel
theorem dX12_in_73 : decode cX12_in 73 = .ok (.invokevirtual 103, 3) := by decide +kernel
theorem dX12_in_76 : decode cX12_in 76 = .ok (.invokestatic 106, 3) := by decide +kernel
theorem dX12_in_79 : decode cX12_in 79 = .ok (.aload_n 0, 1) := by decide +kernel
theorem dX12_in_80 : decode cX12_in 80 = .ok (.getfield 7, 3) := by decide +kernel
theorem dX12_in_83 : decode cX12_in 83 = .ok (.bipush 21, 2) := by decide +kernel
theorem dX12_in_85 : decode cX12_in 85 = .ok (.iload_n 2, 1) := by decide +kernel
theorem dX12_in_86 : decode cX12_in 86 = .ok (.iadd, 1) := by decide +kernel
theorem dX12_in_87 : decode cX12_in 87 = .ok (.iaload, 1) := by decide +kernel
theorem dX12_in_88 : decode cX12_in 88 = .ok (.if_icmp .lt 9, 3) := by decide +kernel
theorem dX12_in_97 : decode cX12_in 97 = .ok (.aload_n 0, 1) := by decide +kernel
theorem dX12_in_98 : decode cX12_in 98 = .ok (.invokevirtual 72, 3) := by decide +kernel
theorem dX12_in_101 : decode cX12_in 101 = .ok (.aload_n 0, 1) := by decide +kernel
theorem dX12_in_102 : decode cX12_in 102 = .ok (.getfield 7, 3) := by decide +kernel
theorem dX12_in_105 : decode cX12_in 105 = .ok (.bipush 97, 2) := by decide +kernel
theorem dX12_in_107 : decode cX12_in 107 = .ok (.iload_n 1, 1) := by decide +kernel
theorem dX12_in_108 : decode cX12_in 108 = .ok (.iadd, 1) := by decide +kernel
theorem dX12_in_109 : decode cX12_in 109 = .ok (.iload_n 2, 1) := by decide +kernel
theorem dX12_in_110 : decode cX12_in 110 = .ok (.iastore, 1) := by decide +kernel
theorem dX12_in_111 : decode cX12_in 111 = .ok (.aload_n 0, 1) := by decide +kernel
theorem dX12_in_112 : decode cX12_in 112 = .ok (.iload_n 1, 1) := by decide +kernel
theorem dX12_in_113 : decode cX12_in 113 = .ok (.iconst 1, 1) := by decide +kernel
theorem dX12_in_114 : decode cX12_in 114 = .ok (.invokevirtual 109, 3) := by decide +kernel
theorem dX12_in_117 : decode cX12_in 117 = .ok (.aload_n 0, 1) := by decide +kernel
theorem dX12_in_118 : decode cX12_in 118 = .ok (.iload_n 2, 1) := by decide +kernel
theorem dX12_in_119 : decode cX12_in 119 = .ok (.invokevirtual 103, 3) := by decide +kernel
theorem dX12_in_122 : decode cX12_in 122 = .ok (.invokestatic 106, 3) := by decide +kernel
theorem dX12_in_125 : decode cX12_in 125 = .ok (.ireturn, 1) := by decide +kernel
theorem dX12_in_91 : decode cX12_in 91 = .ok (.aload_n 0, 1) := by decide +kernel
theorem dX12_in_92 : decode cX12_in 92 = .ok (.iconst 5, 1) := by decide +kernel
theorem dX12_in_93 : decode cX12_in 93 = .ok (.invokevirtual 68, 3) := by decide +kernel
theorem dX12_in_96 : decode cX12_in 96 = .ok (.ireturn, 1) := by decide +kernel
theorem dX12_in_65 : decode cX12_in 65 = .ok (.aload_n 0, 1) := by decide +kernel
theorem dX12_in_66 : decode cX12_in 66 = .ok (.iconst 4, 1) := by decide +kernel
theorem dX12_in_67 : decode cX12_in 67 = .ok (.invokevirtual 68, 3) := by decide +kernel
theorem dX12_in_70 : decode cX12_in 70 = .ok (.ireturn, 1) := by decide +kernel
theorem dX12_in_34 : decode cX12_in 34 = .ok (.aload_n 0, 1) := by decide +kernel
theorem dX12_in_35 : decode cX12_in 35 = .ok (.bipush 7, 2) := by decide +kernel
theorem dX12_in_37 : decode cX12_in 37 = .ok (.invokevirtual 68, 3) := by decide +kernel
theorem dX12_in_40 : decode cX12_in 40 = .ok (.ireturn, 1) := by decide +kernel
theorem dX12_in_16 : decode cX12_in 16 = .ok (.aload_n 0, 1) := by decide +kernel
theorem dX12_in_17 : decode cX12_in 17 = .ok (.iconst 1, 1) := by decide +kernel
theorem dX12_in_18 : decode cX12_in 18 = .ok (.invokevirtual 68, 3) := by decide +kernel
theorem dX12_in_21 : decode cX12_in 21 = .ok (.ireturn, 1) := by decide +kernel
set_option maxHeartbeats 8000000 in
set_option maxRecDepth 100000 in
theorem c_X12_in (l : Launch) (g : kG) (sz : Nat) (z : Nat → Nat) (kp : Nat) (xs : Nat → Int32) (D : Nat → Int32) (Wk : Nat → Int32) (x : Int32) (y : Int32) (hDI : DI D) (hkp : kp ≤ 16) (hWI : WI Wk kp) : kMi l g yX12_in cX12_in 3 (some .int) 4 0 0 [.ref (z 0), .int x, .int y] sz [(z 0, .inr (12, [.ref (z 1), .ref (z 2), .int (nI kp), .int (xs 0), .ref (z 3), .ref (z 4), .ref (z 5), .ref (z 6), .int (xs 1), .ref (z 7), .ref (z 8), .ref (z 9), .ref (z 10), .ref (z 11), .ref (z 12), .int (xs 2), .ref (z 13), .ref (z 14), .int (xs 3), .ref (z 15)])), (z 1, .inl (gI g, 461, .inl D)), (z 2, .inl (gI g, 7376, .inl Wk))] (fun (r : Int32) (u : Nat × (Nat → Int32) × (Nat → Int32) × (Nat → Int32)) => u.1 ≤ 16 ∧ DI u.2.2.1 ∧ WI u.2.2.2 u.1) (fun (u : Nat × (Nat → Int32) × (Nat → Int32) × (Nat → Int32)) => ([(z 0, .inr (12, [.ref (z 1), .ref (z 2), .int (nI u.1), .int (u.2.1 0), .ref (z 3), .ref (z 4), .ref (z 5), .ref (z 6), .int (u.2.1 1), .ref (z 7), .ref (z 8), .ref (z 9), .ref (z 10), .ref (z 11), .ref (z 12), .int (u.2.1 2), .ref (z 13), .ref (z 14), .int (u.2.1 3), .ref (z 15)])), (z 1, .inl (gI g, 461, .inl u.2.2.1)), (z 2, .inl (gI g, 7376, .inl u.2.2.2))] : va_W)) := by
  refine kMi.of (by decide) (Nat.le_of_ble_eq_true rfl) (fun p e s m below meth c A hx hb hr hml hown hts hlk hnm hKW hP hD hS hA ls hl => ?_)
  have hown : s.vm.findClass RX12 = some m.cls := hown
  have hl : lv_has ls 3 [(0, .ref (z 0)), (1, .int x), (2, .int y)] := hl
  refine k_hide hP hS (fun H locs hP hS => ?_)
  refine lv_aload_n hx hb dX12_in_0 rfl (lv_at hl 0 rfl) ?_
  refine lv_iload_n hx hb dX12_in_1 rfl (lv_at hl 1 rfl) ?_
  refine k_Vi [0, 1] [2] 0 12 (wr := [(z 2, .inl (gI g, 7376, .inl Wk))]) hx hb hml hown hts hKW hP hD hS hA hl.1 (c_X12_isChild l g _ z kp xs D x (by first | assumption | omega | decide)) rfl rfl rfl wd_13_19 wd_1_5 wd_13_16 wd_13_17 wd_13_18 yd_X12_isChild ⟨(Nat.le_of_ble_eq_true rfl), (Nat.le_of_ble_eq_true rfl)⟩ rfl rfl rfl rfl (by decide) rfl (Nat.le_of_ble_eq_true rfl) dX12_in_2 ⟨(Nat.le_of_ble_eq_true rfl), (Nat.le_of_ble_eq_true rfl)⟩ (fun r_1 u_2 H locs hw_3 hP hD hS => ?_)
  have hP : va_P g.1 vwCl [(z 2, .inl (gI g, 7376, .inl Wk)), (z 0, .inr (12, [.ref (z 1), .ref (z 2), .int (nI kp), .int (xs 0), .ref (z 3), .ref (z 4), .ref (z 5), .ref (z 6), .int (xs 1), .ref (z 7), .ref (z 8), .ref (z 9), .ref (z 10), .ref (z 11), .ref (z 12), .int (xs 2), .ref (z 13), .ref (z 14), .int (xs 3), .ref (z 15)])), (z 1, .inl (gI g, 461, .inl D))] H := hP
  have hD : va_D A [(z 2, .inl (gI g, 7376, .inl Wk)), (z 0, .inr (12, [.ref (z 1), .ref (z 2), .int (nI kp), .int (xs 0), .ref (z 3), .ref (z 4), .ref (z 5), .ref (z 6), .int (xs 1), .ref (z 7), .ref (z 8), .ref (z 9), .ref (z 10), .ref (z 11), .ref (z 12), .int (xs 2), .ref (z 13), .ref (z 14), .int (xs 3), .ref (z 15)])), (z 1, .inl (gI g, 461, .inl D))] := hD
  rcases (show (r_1 = 1 ∧ (∃ j : Nat, (j < 10 ∧ (j : Int) < (D 2).toInt) ∧ x = nI j)) ∨ (r_1 = 0 ∧ ¬ (∃ j : Nat, (j < 10 ∧ (j : Int) < (D 2).toInt) ∧ x = nI j)) from hw_3) with ⟨rfl, hw_3b⟩ | ⟨rfl, hw_3b⟩ <;> clear hw_3
  · obtain ⟨j_4, hj_4, rfl⟩ := hw_3b
    refine lv_if_eq (tgt := 16) hx hb dX12_in_5 (by decide) (fun c => absurd c (by decide)) (fun _ => ?_)
    refine lv_aload_n hx hb dX12_in_8 rfl (lv_at hl 0 rfl) ?_
    refine lv_iload_n hx hb dX12_in_9 rfl (lv_at hl 2 rfl) ?_
    refine k_Vi [1, 2] [0] 1 12 (wr := [(z 2, .inl (gI g, 7376, .inl Wk))]) hx hb hml hown hts hKW hP hD hS hA hl.1 (c_X12_isRoom l g _ z kp xs D y (by first | assumption | omega | decide)) rfl rfl rfl wd_20_4 wd_1_5 wd_20_1 wd_20_2 wd_20_3 yd_X12_isRoom ⟨(Nat.le_of_ble_eq_true rfl), (Nat.le_of_ble_eq_true rfl)⟩ rfl rfl rfl rfl (by decide) rfl (Nat.le_of_ble_eq_true rfl) dX12_in_10 ⟨(Nat.le_of_ble_eq_true rfl), (Nat.le_of_ble_eq_true rfl)⟩ (fun r_5 u_6 H locs hw_7 hP hD hS => ?_)
    have hP : va_P g.1 vwCl [(z 2, .inl (gI g, 7376, .inl Wk)), (z 0, .inr (12, [.ref (z 1), .ref (z 2), .int (nI kp), .int (xs 0), .ref (z 3), .ref (z 4), .ref (z 5), .ref (z 6), .int (xs 1), .ref (z 7), .ref (z 8), .ref (z 9), .ref (z 10), .ref (z 11), .ref (z 12), .int (xs 2), .ref (z 13), .ref (z 14), .int (xs 3), .ref (z 15)])), (z 1, .inl (gI g, 461, .inl D))] H := hP
    have hD : va_D A [(z 2, .inl (gI g, 7376, .inl Wk)), (z 0, .inr (12, [.ref (z 1), .ref (z 2), .int (nI kp), .int (xs 0), .ref (z 3), .ref (z 4), .ref (z 5), .ref (z 6), .int (xs 1), .ref (z 7), .ref (z 8), .ref (z 9), .ref (z 10), .ref (z 11), .ref (z 12), .int (xs 2), .ref (z 13), .ref (z 14), .int (xs 3), .ref (z 15)])), (z 1, .inl (gI g, 461, .inl D))] := hD
    rcases (show (r_5 = 1 ∧ (∃ j : Nat, (j < 5 ∧ (j : Int) < (D 0).toInt) ∧ y = nI j)) ∨ (r_5 = 0 ∧ ¬ (∃ j : Nat, (j < 5 ∧ (j : Int) < (D 0).toInt) ∧ y = nI j)) from hw_7) with ⟨rfl, hw_7b⟩ | ⟨rfl, hw_7b⟩ <;> clear hw_7
    · obtain ⟨j_8, hj_8, rfl⟩ := hw_7b
      refine lv_if_ne (tgt := 22) hx hb dX12_in_13 (by decide) (fun _ => ?_) (fun c => absurd c (by decide))
      refine lv_aload_n hx hb dX12_in_22 rfl (lv_at hl 0 rfl) ?_
      refine va_get (ci := 12) (C := RX12) (T := TX12) (N := 20) hx hb hts inlX12 hown hKW.1 hP 1 rfl rfl 0 (by decide) (hts _ wd_6_5) (fun _ h => h) rfl dX12_in_23 ?_
      refine lv_bipush (v := 97) hx hb dX12_in_26 (by decide) ?_
      refine lv_iload_n hx hb dX12_in_28 rfl (lv_at hl 1 rfl) ?_
      refine lv_iadd hx hb dX12_in_29 ?_
      refine k_top (y := nI (j_4 + 97)) (by rw [Nat.add_comm]; exact nI_add 97 j_4) ?_
      refine va_iald hx hb hKW.1 hP 2 0 rfl rfl (vp_in_nI (by omega) (by decide)) dX12_in_30 ?_
      refine lv_topi (fun x_9 ex_9 => ?_)
      refine lv_if_lt (tgt := 41) hx hb dX12_in_31 (by decide) (fun c_10 => ?_) (fun c_10 => ?_)
      · refine lv_aload_n hx hb dX12_in_41 rfl (lv_at hl 0 rfl) ?_
        refine lv_iload_n hx hb dX12_in_42 rfl (lv_at hl 2 rfl) ?_
        refine lv_aload_n hx hb dX12_in_43 rfl (lv_at hl 0 rfl) ?_
        refine va_get (ci := 12) (C := RX12) (T := TX12) (N := 20) hx hb hts inlX12 hown hKW.1 hP 1 rfl rfl 0 (by decide) (hts _ wd_6_5) (fun _ h => h) rfl dX12_in_44 ?_
        refine lv_iconst (v := 3) hx hb dX12_in_47 (by decide) ?_
        refine va_iald hx hb hKW.1 hP 2 0 rfl rfl (show ¬ _ by decide) dX12_in_48 ?_
        refine lv_topi (fun x_11 ex_11 => ?_)
        refine lv_aload_n hx hb dX12_in_49 rfl (lv_at hl 0 rfl) ?_
        refine va_get (ci := 12) (C := RX12) (T := TX12) (N := 20) hx hb hts inlX12 hown hKW.1 hP 1 rfl rfl 0 (by decide) (hts _ wd_6_5) (fun _ h => h) rfl dX12_in_50 ?_
        refine lv_bipush (v := 47) hx hb dX12_in_53 (by decide) ?_
        refine lv_iload_n hx hb dX12_in_55 rfl (lv_at hl 1 rfl) ?_
        refine lv_iadd hx hb dX12_in_56 ?_
        refine k_top (y := nI (j_4 + 47)) (by rw [Nat.add_comm]; exact nI_add 47 j_4) ?_
        refine va_iald hx hb hKW.1 hP 2 0 rfl rfl (vp_in_nI (by omega) (by decide)) dX12_in_57 ?_
        refine lv_topi (fun x_12 ex_12 => ?_)
        refine lv_isub hx hb dX12_in_58 ?_
        refine lv_topi (fun x_13 ex_13 => ?_)
        refine k_Vi [1, 2] [0] 1 12 (wr := [(z 2, .inl (gI g, 7376, .inl Wk))]) hx hb hml hown hts hKW hP hD hS hA hl.1 (c_X12_takes l g _ z kp xs D j_8 x_13 (by first | assumption | omega | decide)) rfl rfl rfl wd_15_23 wd_1_5 wd_15_20 wd_15_21 wd_15_22 yd_X12_takes ⟨(Nat.le_of_ble_eq_true rfl), (Nat.le_of_ble_eq_true rfl)⟩ rfl rfl rfl rfl (by decide) rfl (Nat.le_of_ble_eq_true rfl) dX12_in_59 ⟨(Nat.le_of_ble_eq_true rfl), (Nat.le_of_ble_eq_true rfl)⟩ (fun r_14 u_15 H locs hw_16 hP hD hS => ?_)
        have hP : va_P g.1 vwCl [(z 2, .inl (gI g, 7376, .inl Wk)), (z 0, .inr (12, [.ref (z 1), .ref (z 2), .int (nI kp), .int (xs 0), .ref (z 3), .ref (z 4), .ref (z 5), .ref (z 6), .int (xs 1), .ref (z 7), .ref (z 8), .ref (z 9), .ref (z 10), .ref (z 11), .ref (z 12), .int (xs 2), .ref (z 13), .ref (z 14), .int (xs 3), .ref (z 15)])), (z 1, .inl (gI g, 461, .inl D))] H := hP
        have hD : va_D A [(z 2, .inl (gI g, 7376, .inl Wk)), (z 0, .inr (12, [.ref (z 1), .ref (z 2), .int (nI kp), .int (xs 0), .ref (z 3), .ref (z 4), .ref (z 5), .ref (z 6), .int (xs 1), .ref (z 7), .ref (z 8), .ref (z 9), .ref (z 10), .ref (z 11), .ref (z 12), .int (xs 2), .ref (z 13), .ref (z 14), .int (xs 3), .ref (z 15)])), (z 1, .inl (gI g, 461, .inl D))] := hD
        rcases (show r_14 = 1 ∨ r_14 = 0 from hw_16) with rfl | rfl <;> clear hw_16
        · refine lv_if_ne (tgt := 71) hx hb dX12_in_62 (by decide) (fun _ => ?_) (fun c => absurd c (by decide))
          refine lv_aload_n hx hb dX12_in_71 rfl (lv_at hl 0 rfl) ?_
          refine lv_iload_n hx hb dX12_in_72 rfl (lv_at hl 2 rfl) ?_
          refine k_Vi [1, 2] [0] 1 12 (wr := [(z 2, .inl (gI g, 7376, .inl Wk))]) hx hb hml hown hts hKW hP hD hS hA hl.1 (c_X12_childrenIn l g _ z kp xs D (nI j_8) (by first | assumption | omega | decide)) rfl rfl rfl wd_20_8 wd_1_5 wd_20_5 wd_20_6 wd_20_7 yd_X12_childrenIn ⟨(Nat.le_of_ble_eq_true rfl), (Nat.le_of_ble_eq_true rfl)⟩ rfl rfl rfl rfl (by decide) rfl (Nat.le_of_ble_eq_true rfl) dX12_in_73 ⟨(Nat.le_of_ble_eq_true rfl), (Nat.le_of_ble_eq_true rfl)⟩ (fun r_17 u_18 H locs hw_19 hP hD hS => ?_)
          have hP : va_P g.1 vwCl [(z 2, .inl (gI g, 7376, .inl Wk)), (z 0, .inr (12, [.ref (z 1), .ref (z 2), .int (nI kp), .int (xs 0), .ref (z 3), .ref (z 4), .ref (z 5), .ref (z 6), .int (xs 1), .ref (z 7), .ref (z 8), .ref (z 9), .ref (z 10), .ref (z 11), .ref (z 12), .int (xs 2), .ref (z 13), .ref (z 14), .int (xs 3), .ref (z 15)])), (z 1, .inl (gI g, 461, .inl D))] H := hP
          have hD : va_D A [(z 2, .inl (gI g, 7376, .inl Wk)), (z 0, .inr (12, [.ref (z 1), .ref (z 2), .int (nI kp), .int (xs 0), .ref (z 3), .ref (z 4), .ref (z 5), .ref (z 6), .int (xs 1), .ref (z 7), .ref (z 8), .ref (z 9), .ref (z 10), .ref (z 11), .ref (z 12), .int (xs 2), .ref (z 13), .ref (z 14), .int (xs 3), .ref (z 15)])), (z 1, .inl (gI g, 461, .inl D))] := hD
          refine k_Si [] [0, 1, 2] (wr := [(z 2, .inl (gI g, 7376, .inl Wk)), (z 0, .inr (12, [.ref (z 1), .ref (z 2), .int (nI kp), .int (xs 0), .ref (z 3), .ref (z 4), .ref (z 5), .ref (z 6), .int (xs 1), .ref (z 7), .ref (z 8), .ref (z 9), .ref (z 10), .ref (z 11), .ref (z 12), .int (xs 2), .ref (z 13), .ref (z 14), .int (xs 3), .ref (z 15)])), (z 1, .inl (gI g, 461, .inl D))]) hx hb hml hown hts hKW hP hD hS hA hl.1 (c_X12_ones l g _ r_17 ) wd_20_11 wd_1_5 wd_20_9 wd_20_10 yd_X12_ones ⟨(Nat.le_of_ble_eq_true rfl), (Nat.le_of_ble_eq_true rfl)⟩ rfl rfl rfl rfl (by decide) rfl (Nat.le_of_ble_eq_true rfl) dX12_in_76 ⟨(Nat.le_of_ble_eq_true rfl), (Nat.le_of_ble_eq_true rfl)⟩ (fun r_20 u_21 H locs hw_22 hP hD hS => ?_)
          have hP : va_P g.1 vwCl [(z 2, .inl (gI g, 7376, .inl Wk)), (z 0, .inr (12, [.ref (z 1), .ref (z 2), .int (nI kp), .int (xs 0), .ref (z 3), .ref (z 4), .ref (z 5), .ref (z 6), .int (xs 1), .ref (z 7), .ref (z 8), .ref (z 9), .ref (z 10), .ref (z 11), .ref (z 12), .int (xs 2), .ref (z 13), .ref (z 14), .int (xs 3), .ref (z 15)])), (z 1, .inl (gI g, 461, .inl D))] H := hP
          have hD : va_D A [(z 2, .inl (gI g, 7376, .inl Wk)), (z 0, .inr (12, [.ref (z 1), .ref (z 2), .int (nI kp), .int (xs 0), .ref (z 3), .ref (z 4), .ref (z 5), .ref (z 6), .int (xs 1), .ref (z 7), .ref (z 8), .ref (z 9), .ref (z 10), .ref (z 11), .ref (z 12), .int (xs 2), .ref (z 13), .ref (z 14), .int (xs 3), .ref (z 15)])), (z 1, .inl (gI g, 461, .inl D))] := hD
          refine lv_aload_n hx hb dX12_in_79 rfl (lv_at hl 0 rfl) ?_
          refine va_get (ci := 12) (C := RX12) (T := TX12) (N := 20) hx hb hts inlX12 hown hKW.1 hP 1 rfl rfl 0 (by decide) (hts _ wd_6_5) (fun _ h => h) rfl dX12_in_80 ?_
          refine lv_bipush (v := 21) hx hb dX12_in_83 (by decide) ?_
          refine lv_iload_n hx hb dX12_in_85 rfl (lv_at hl 2 rfl) ?_
          refine lv_iadd hx hb dX12_in_86 ?_
          refine k_top (y := nI (j_8 + 21)) (by rw [Nat.add_comm]; exact nI_add 21 j_8) ?_
          refine va_iald hx hb hKW.1 hP 2 0 rfl rfl (vp_in_nI (by omega) (by decide)) dX12_in_87 ?_
          refine lv_topi (fun x_23 ex_23 => ?_)
          refine lv_icmp_lt (tgt := 97) hx hb dX12_in_88 (by decide) (fun c_24 => ?_) (fun c_24 => ?_)
          · refine lv_aload_n hx hb dX12_in_97 rfl (lv_at hl 0 rfl) ?_
            refine k_Vv [1, 2, 0] [] 1 12 (wr := []) hx hb hml hown hts hKW hP hD hS hA hl.1 (c_X12_keep l g _ z kp xs D Wk (by first | assumption | omega | decide) (by first | assumption | omega | decide) (by first | assumption | omega | decide)) rfl rfl rfl wd_10_21 wd_1_5 wd_10_18 wd_10_19 wd_10_20 yd_X12_keep ⟨(Nat.le_of_ble_eq_true rfl), (Nat.le_of_ble_eq_true rfl)⟩ rfl rfl rfl rfl (by decide) rfl (Nat.le_of_ble_eq_true rfl) dX12_in_98 ⟨(Nat.le_of_ble_eq_true rfl), (Nat.le_of_ble_eq_true rfl)⟩ (fun u_26 H locs hw_27 hP hD hS => ?_)
            obtain ⟨q_28, f_29⟩ := u_26
            have hP : va_P g.1 vwCl [(z 0, .inr (12, [.ref (z 1), .ref (z 2), .int (nI q_28), .int (xs 0), .ref (z 3), .ref (z 4), .ref (z 5), .ref (z 6), .int (xs 1), .ref (z 7), .ref (z 8), .ref (z 9), .ref (z 10), .ref (z 11), .ref (z 12), .int (xs 2), .ref (z 13), .ref (z 14), .int (xs 3), .ref (z 15)])), (z 1, .inl (gI g, 461, .inl D)), (z 2, .inl (gI g, 7376, .inl f_29))] H := hP
            have hD : va_D A [(z 0, .inr (12, [.ref (z 1), .ref (z 2), .int (nI q_28), .int (xs 0), .ref (z 3), .ref (z 4), .ref (z 5), .ref (z 6), .int (xs 1), .ref (z 7), .ref (z 8), .ref (z 9), .ref (z 10), .ref (z 11), .ref (z 12), .int (xs 2), .ref (z 13), .ref (z 14), .int (xs 3), .ref (z 15)])), (z 1, .inl (gI g, 461, .inl D)), (z 2, .inl (gI g, 7376, .inl f_29))] := hD
            have hw_27 : q_28 ≤ 16 ∧ WI f_29 q_28 := hw_27
            obtain ⟨hkk, hkW⟩ := hw_27
            refine lv_aload_n hx hb dX12_in_101 rfl (lv_at hl 0 rfl) ?_
            refine va_get (ci := 12) (C := RX12) (T := TX12) (N := 20) hx hb hts inlX12 hown hKW.1 hP 0 rfl rfl 0 (by decide) (hts _ wd_6_5) (fun _ h => h) rfl dX12_in_102 ?_
            refine lv_bipush (v := 97) hx hb dX12_in_105 (by decide) ?_
            refine lv_iload_n hx hb dX12_in_107 rfl (lv_at hl 1 rfl) ?_
            refine lv_iadd hx hb dX12_in_108 ?_
            refine k_top (y := nI (j_4 + 97)) (by rw [Nat.add_comm]; exact nI_add 97 j_4) ?_
            refine lv_iload_n hx hb dX12_in_109 rfl (lv_at hl 2 rfl) ?_
            refine va_iast hx hb hKW.1 hP hD hS 1 0 rfl rfl (vp_in_nI (by omega) (by decide)) dX12_in_110 (fun H locs hP hD hS => ?_)
            have hP : va_P g.1 vwCl [(z 0, .inr (12, [.ref (z 1), .ref (z 2), .int (nI q_28), .int (xs 0), .ref (z 3), .ref (z 4), .ref (z 5), .ref (z 6), .int (xs 1), .ref (z 7), .ref (z 8), .ref (z 9), .ref (z 10), .ref (z 11), .ref (z 12), .int (xs 2), .ref (z 13), .ref (z 14), .int (xs 3), .ref (z 15)])), (z 1, .inl (gI g, 461, .inl (upd D (nI (j_4 + 97)).toNatClampNeg (nI j_8)))), (z 2, .inl (gI g, 7376, .inl f_29))] H := hP
            have hD : va_D A [(z 0, .inr (12, [.ref (z 1), .ref (z 2), .int (nI q_28), .int (xs 0), .ref (z 3), .ref (z 4), .ref (z 5), .ref (z 6), .int (xs 1), .ref (z 7), .ref (z 8), .ref (z 9), .ref (z 10), .ref (z 11), .ref (z 12), .int (xs 2), .ref (z 13), .ref (z 14), .int (xs 3), .ref (z 15)])), (z 1, .inl (gI g, 461, .inl (upd D (nI (j_4 + 97)).toNatClampNeg (nI j_8)))), (z 2, .inl (gI g, 7376, .inl f_29))] := hD
            obtain ⟨f_30, ef_30⟩ : ∃ zz_ : Nat → Int32, zz_ = upd D (nI (j_4 + 97)).toNatClampNeg (nI j_8) := ⟨_, rfl⟩
            rw [← ef_30] at hP hD
            have hDf_30 : DI f_30 := DI.free (i := (j_4 + 97)) (x := nI j_8) hDI (by rw [ef_30, nI_clamp (by omega)]) (by unfold dFree; omega)
            refine lv_aload_n hx hb dX12_in_111 rfl (lv_at hl 0 rfl) ?_
            refine lv_iload_n hx hb dX12_in_112 rfl (lv_at hl 1 rfl) ?_
            refine lv_iconst (v := 1) hx hb dX12_in_113 (by decide) ?_
            refine k_Vv [0, 1] [2] 0 12 (wr := [(z 2, .inl (gI g, 7376, .inl f_29))]) hx hb hml hown hts hKW hP hD hS hA hl.1 (c_X12_leadRoll l g _ z q_28 xs f_30 (nI j_4) 1 (by first | assumption | omega | decide)) rfl rfl rfl wd_20_15 wd_1_5 wd_20_12 wd_20_13 wd_20_14 yd_X12_leadRoll ⟨(Nat.le_of_ble_eq_true rfl), (Nat.le_of_ble_eq_true rfl)⟩ rfl rfl rfl rfl (by decide) rfl (Nat.le_of_ble_eq_true rfl) dX12_in_114 ⟨(Nat.le_of_ble_eq_true rfl), (Nat.le_of_ble_eq_true rfl)⟩ (fun u_32 H locs hw_33 hP hD hS => ?_)
            have hP : va_P g.1 vwCl [(z 2, .inl (gI g, 7376, .inl f_29)), (z 0, .inr (12, [.ref (z 1), .ref (z 2), .int (nI q_28), .int (xs 0), .ref (z 3), .ref (z 4), .ref (z 5), .ref (z 6), .int (xs 1), .ref (z 7), .ref (z 8), .ref (z 9), .ref (z 10), .ref (z 11), .ref (z 12), .int (xs 2), .ref (z 13), .ref (z 14), .int (xs 3), .ref (z 15)])), (z 1, .inl (gI g, 461, .inl u_32))] H := hP
            have hD : va_D A [(z 2, .inl (gI g, 7376, .inl f_29)), (z 0, .inr (12, [.ref (z 1), .ref (z 2), .int (nI q_28), .int (xs 0), .ref (z 3), .ref (z 4), .ref (z 5), .ref (z 6), .int (xs 1), .ref (z 7), .ref (z 8), .ref (z 9), .ref (z 10), .ref (z 11), .ref (z 12), .int (xs 2), .ref (z 13), .ref (z 14), .int (xs 3), .ref (z 15)])), (z 1, .inl (gI g, 461, .inl u_32))] := hD
            have hw_33 : DI u_32 := hw_33
            have hld_34 := hw_33
            refine lv_aload_n hx hb dX12_in_117 rfl (lv_at hl 0 rfl) ?_
            refine lv_iload_n hx hb dX12_in_118 rfl (lv_at hl 2 rfl) ?_
            refine k_Vi [1, 2] [0] 1 12 (wr := [(z 2, .inl (gI g, 7376, .inl f_29))]) hx hb hml hown hts hKW hP hD hS hA hl.1 (c_X12_childrenIn l g _ z q_28 xs u_32 (nI j_8) (by first | assumption | omega | decide)) rfl rfl rfl wd_20_8 wd_1_5 wd_20_5 wd_20_6 wd_20_7 yd_X12_childrenIn ⟨(Nat.le_of_ble_eq_true rfl), (Nat.le_of_ble_eq_true rfl)⟩ rfl rfl rfl rfl (by decide) rfl (Nat.le_of_ble_eq_true rfl) dX12_in_119 ⟨(Nat.le_of_ble_eq_true rfl), (Nat.le_of_ble_eq_true rfl)⟩ (fun r_35 u_36 H locs hw_37 hP hD hS => ?_)
            have hP : va_P g.1 vwCl [(z 2, .inl (gI g, 7376, .inl f_29)), (z 0, .inr (12, [.ref (z 1), .ref (z 2), .int (nI q_28), .int (xs 0), .ref (z 3), .ref (z 4), .ref (z 5), .ref (z 6), .int (xs 1), .ref (z 7), .ref (z 8), .ref (z 9), .ref (z 10), .ref (z 11), .ref (z 12), .int (xs 2), .ref (z 13), .ref (z 14), .int (xs 3), .ref (z 15)])), (z 1, .inl (gI g, 461, .inl u_32))] H := hP
            have hD : va_D A [(z 2, .inl (gI g, 7376, .inl f_29)), (z 0, .inr (12, [.ref (z 1), .ref (z 2), .int (nI q_28), .int (xs 0), .ref (z 3), .ref (z 4), .ref (z 5), .ref (z 6), .int (xs 1), .ref (z 7), .ref (z 8), .ref (z 9), .ref (z 10), .ref (z 11), .ref (z 12), .int (xs 2), .ref (z 13), .ref (z 14), .int (xs 3), .ref (z 15)])), (z 1, .inl (gI g, 461, .inl u_32))] := hD
            refine k_Si [] [0, 1, 2] (wr := [(z 2, .inl (gI g, 7376, .inl f_29)), (z 0, .inr (12, [.ref (z 1), .ref (z 2), .int (nI q_28), .int (xs 0), .ref (z 3), .ref (z 4), .ref (z 5), .ref (z 6), .int (xs 1), .ref (z 7), .ref (z 8), .ref (z 9), .ref (z 10), .ref (z 11), .ref (z 12), .int (xs 2), .ref (z 13), .ref (z 14), .int (xs 3), .ref (z 15)])), (z 1, .inl (gI g, 461, .inl u_32))]) hx hb hml hown hts hKW hP hD hS hA hl.1 (c_X12_ones l g _ r_35 ) wd_20_11 wd_1_5 wd_20_9 wd_20_10 yd_X12_ones ⟨(Nat.le_of_ble_eq_true rfl), (Nat.le_of_ble_eq_true rfl)⟩ rfl rfl rfl rfl (by decide) rfl (Nat.le_of_ble_eq_true rfl) dX12_in_122 ⟨(Nat.le_of_ble_eq_true rfl), (Nat.le_of_ble_eq_true rfl)⟩ (fun r_38 u_39 H locs hw_40 hP hD hS => ?_)
            have hP : va_P g.1 vwCl [(z 2, .inl (gI g, 7376, .inl f_29)), (z 0, .inr (12, [.ref (z 1), .ref (z 2), .int (nI q_28), .int (xs 0), .ref (z 3), .ref (z 4), .ref (z 5), .ref (z 6), .int (xs 1), .ref (z 7), .ref (z 8), .ref (z 9), .ref (z 10), .ref (z 11), .ref (z 12), .int (xs 2), .ref (z 13), .ref (z 14), .int (xs 3), .ref (z 15)])), (z 1, .inl (gI g, 461, .inl u_32))] H := hP
            have hD : va_D A [(z 2, .inl (gI g, 7376, .inl f_29)), (z 0, .inr (12, [.ref (z 1), .ref (z 2), .int (nI q_28), .int (xs 0), .ref (z 3), .ref (z 4), .ref (z 5), .ref (z 6), .int (xs 1), .ref (z 7), .ref (z 8), .ref (z 9), .ref (z 10), .ref (z 11), .ref (z 12), .int (xs 2), .ref (z 13), .ref (z 14), .int (xs 3), .ref (z 15)])), (z 1, .inl (gI g, 461, .inl u_32))] := hD
            exact k_iret (q_28, xs, u_32, f_29) [1, 2, 0] hx hb hr hlk hP hD hS (⟨hkk, hld_34, hkW⟩) rfl rfl rfl (Nat.le_of_ble_eq_true rfl) (Nat.le_of_ble_eq_true rfl) dX12_in_125
          · refine lv_aload_n hx hb dX12_in_91 rfl (lv_at hl 0 rfl) ?_
            refine lv_iconst (v := 5) hx hb dX12_in_92 (by decide) ?_
            refine k_Vi [1] [0, 2] 1 12 (wr := [(z 2, .inl (gI g, 7376, .inl Wk)), (z 1, .inl (gI g, 461, .inl D))]) hx hb hml hown hts hKW hP hD hS hA hl.1 (c_X12_finding_5 l g _ z kp xs ) rfl rfl rfl wd_10_15 wd_1_5 wd_10_12 wd_10_13 wd_10_14 yd_X12_finding ⟨(Nat.le_of_ble_eq_true rfl), (Nat.le_of_ble_eq_true rfl)⟩ rfl rfl rfl rfl (by decide) rfl (Nat.le_of_ble_eq_true rfl) dX12_in_93 ⟨(Nat.le_of_ble_eq_true rfl), (Nat.le_of_ble_eq_true rfl)⟩ (fun r_41 u_42 H locs hw_43 hP hD hS => ?_)
            have hP : va_P g.1 vwCl [(z 2, .inl (gI g, 7376, .inl Wk)), (z 1, .inl (gI g, 461, .inl D)), (z 0, .inr (12, [.ref (z 1), .ref (z 2), .int (nI kp), .int u_42, .ref (z 3), .ref (z 4), .ref (z 5), .ref (z 6), .int (xs 1), .ref (z 7), .ref (z 8), .ref (z 9), .ref (z 10), .ref (z 11), .ref (z 12), .int (xs 2), .ref (z 13), .ref (z 14), .int (xs 3), .ref (z 15)]))] H := hP
            have hD : va_D A [(z 2, .inl (gI g, 7376, .inl Wk)), (z 1, .inl (gI g, 461, .inl D)), (z 0, .inr (12, [.ref (z 1), .ref (z 2), .int (nI kp), .int u_42, .ref (z 3), .ref (z 4), .ref (z 5), .ref (z 6), .int (xs 1), .ref (z 7), .ref (z 8), .ref (z 9), .ref (z 10), .ref (z 11), .ref (z 12), .int (xs 2), .ref (z 13), .ref (z 14), .int (xs 3), .ref (z 15)]))] := hD
            have hw_43 : r_41 = (-100005) := hw_43
            subst hw_43
            exact k_iret (kp, (fun kk_ => ([u_42, (xs 1), (xs 2), (xs 3)] : List Int32).getD kk_ 0), D, Wk) [2, 1, 0] hx hb hr hlk hP hD hS (⟨hkp, hDI, hWI⟩) rfl rfl rfl (Nat.le_of_ble_eq_true rfl) (Nat.le_of_ble_eq_true rfl) dX12_in_96
        · refine lv_if_ne (tgt := 71) hx hb dX12_in_62 (by decide) (fun c => absurd c (by decide)) (fun _ => ?_)
          refine lv_aload_n hx hb dX12_in_65 rfl (lv_at hl 0 rfl) ?_
          refine lv_iconst (v := 4) hx hb dX12_in_66 (by decide) ?_
          refine k_Vi [1] [0, 2] 1 12 (wr := [(z 2, .inl (gI g, 7376, .inl Wk)), (z 1, .inl (gI g, 461, .inl D))]) hx hb hml hown hts hKW hP hD hS hA hl.1 (c_X12_finding_4 l g _ z kp xs ) rfl rfl rfl wd_10_15 wd_1_5 wd_10_12 wd_10_13 wd_10_14 yd_X12_finding ⟨(Nat.le_of_ble_eq_true rfl), (Nat.le_of_ble_eq_true rfl)⟩ rfl rfl rfl rfl (by decide) rfl (Nat.le_of_ble_eq_true rfl) dX12_in_67 ⟨(Nat.le_of_ble_eq_true rfl), (Nat.le_of_ble_eq_true rfl)⟩ (fun r_44 u_45 H locs hw_46 hP hD hS => ?_)
          have hP : va_P g.1 vwCl [(z 2, .inl (gI g, 7376, .inl Wk)), (z 1, .inl (gI g, 461, .inl D)), (z 0, .inr (12, [.ref (z 1), .ref (z 2), .int (nI kp), .int u_45, .ref (z 3), .ref (z 4), .ref (z 5), .ref (z 6), .int (xs 1), .ref (z 7), .ref (z 8), .ref (z 9), .ref (z 10), .ref (z 11), .ref (z 12), .int (xs 2), .ref (z 13), .ref (z 14), .int (xs 3), .ref (z 15)]))] H := hP
          have hD : va_D A [(z 2, .inl (gI g, 7376, .inl Wk)), (z 1, .inl (gI g, 461, .inl D)), (z 0, .inr (12, [.ref (z 1), .ref (z 2), .int (nI kp), .int u_45, .ref (z 3), .ref (z 4), .ref (z 5), .ref (z 6), .int (xs 1), .ref (z 7), .ref (z 8), .ref (z 9), .ref (z 10), .ref (z 11), .ref (z 12), .int (xs 2), .ref (z 13), .ref (z 14), .int (xs 3), .ref (z 15)]))] := hD
          have hw_46 : r_44 = (-100004) := hw_46
          subst hw_46
          exact k_iret (kp, (fun kk_ => ([u_45, (xs 1), (xs 2), (xs 3)] : List Int32).getD kk_ 0), D, Wk) [2, 1, 0] hx hb hr hlk hP hD hS (⟨hkp, hDI, hWI⟩) rfl rfl rfl (Nat.le_of_ble_eq_true rfl) (Nat.le_of_ble_eq_true rfl) dX12_in_70
      · refine lv_aload_n hx hb dX12_in_34 rfl (lv_at hl 0 rfl) ?_
        refine lv_bipush (v := 7) hx hb dX12_in_35 (by decide) ?_
        refine k_Vi [1] [0, 2] 1 12 (wr := [(z 2, .inl (gI g, 7376, .inl Wk)), (z 1, .inl (gI g, 461, .inl D))]) hx hb hml hown hts hKW hP hD hS hA hl.1 (c_X12_finding_7 l g _ z kp xs ) rfl rfl rfl wd_10_15 wd_1_5 wd_10_12 wd_10_13 wd_10_14 yd_X12_finding ⟨(Nat.le_of_ble_eq_true rfl), (Nat.le_of_ble_eq_true rfl)⟩ rfl rfl rfl rfl (by decide) rfl (Nat.le_of_ble_eq_true rfl) dX12_in_37 ⟨(Nat.le_of_ble_eq_true rfl), (Nat.le_of_ble_eq_true rfl)⟩ (fun r_47 u_48 H locs hw_49 hP hD hS => ?_)
        have hP : va_P g.1 vwCl [(z 2, .inl (gI g, 7376, .inl Wk)), (z 1, .inl (gI g, 461, .inl D)), (z 0, .inr (12, [.ref (z 1), .ref (z 2), .int (nI kp), .int u_48, .ref (z 3), .ref (z 4), .ref (z 5), .ref (z 6), .int (xs 1), .ref (z 7), .ref (z 8), .ref (z 9), .ref (z 10), .ref (z 11), .ref (z 12), .int (xs 2), .ref (z 13), .ref (z 14), .int (xs 3), .ref (z 15)]))] H := hP
        have hD : va_D A [(z 2, .inl (gI g, 7376, .inl Wk)), (z 1, .inl (gI g, 461, .inl D)), (z 0, .inr (12, [.ref (z 1), .ref (z 2), .int (nI kp), .int u_48, .ref (z 3), .ref (z 4), .ref (z 5), .ref (z 6), .int (xs 1), .ref (z 7), .ref (z 8), .ref (z 9), .ref (z 10), .ref (z 11), .ref (z 12), .int (xs 2), .ref (z 13), .ref (z 14), .int (xs 3), .ref (z 15)]))] := hD
        have hw_49 : r_47 = (-100007) := hw_49
        subst hw_49
        exact k_iret (kp, (fun kk_ => ([u_48, (xs 1), (xs 2), (xs 3)] : List Int32).getD kk_ 0), D, Wk) [2, 1, 0] hx hb hr hlk hP hD hS (⟨hkp, hDI, hWI⟩) rfl rfl rfl (Nat.le_of_ble_eq_true rfl) (Nat.le_of_ble_eq_true rfl) dX12_in_40
    · refine lv_if_ne (tgt := 22) hx hb dX12_in_13 (by decide) (fun c => absurd c (by decide)) (fun _ => ?_)
      refine lv_aload_n hx hb dX12_in_16 rfl (lv_at hl 0 rfl) ?_
      refine lv_iconst (v := 1) hx hb dX12_in_17 (by decide) ?_
      refine k_Vi [1] [0, 2] 1 12 (wr := [(z 2, .inl (gI g, 7376, .inl Wk)), (z 1, .inl (gI g, 461, .inl D))]) hx hb hml hown hts hKW hP hD hS hA hl.1 (c_X12_finding_1 l g _ z kp xs ) rfl rfl rfl wd_10_15 wd_1_5 wd_10_12 wd_10_13 wd_10_14 yd_X12_finding ⟨(Nat.le_of_ble_eq_true rfl), (Nat.le_of_ble_eq_true rfl)⟩ rfl rfl rfl rfl (by decide) rfl (Nat.le_of_ble_eq_true rfl) dX12_in_18 ⟨(Nat.le_of_ble_eq_true rfl), (Nat.le_of_ble_eq_true rfl)⟩ (fun r_50 u_51 H locs hw_52 hP hD hS => ?_)
      have hP : va_P g.1 vwCl [(z 2, .inl (gI g, 7376, .inl Wk)), (z 1, .inl (gI g, 461, .inl D)), (z 0, .inr (12, [.ref (z 1), .ref (z 2), .int (nI kp), .int u_51, .ref (z 3), .ref (z 4), .ref (z 5), .ref (z 6), .int (xs 1), .ref (z 7), .ref (z 8), .ref (z 9), .ref (z 10), .ref (z 11), .ref (z 12), .int (xs 2), .ref (z 13), .ref (z 14), .int (xs 3), .ref (z 15)]))] H := hP
      have hD : va_D A [(z 2, .inl (gI g, 7376, .inl Wk)), (z 1, .inl (gI g, 461, .inl D)), (z 0, .inr (12, [.ref (z 1), .ref (z 2), .int (nI kp), .int u_51, .ref (z 3), .ref (z 4), .ref (z 5), .ref (z 6), .int (xs 1), .ref (z 7), .ref (z 8), .ref (z 9), .ref (z 10), .ref (z 11), .ref (z 12), .int (xs 2), .ref (z 13), .ref (z 14), .int (xs 3), .ref (z 15)]))] := hD
      have hw_52 : r_50 = (-100001) := hw_52
      subst hw_52
      exact k_iret (kp, (fun kk_ => ([u_51, (xs 1), (xs 2), (xs 3)] : List Int32).getD kk_ 0), D, Wk) [2, 1, 0] hx hb hr hlk hP hD hS (⟨hkp, hDI, hWI⟩) rfl rfl rfl (Nat.le_of_ble_eq_true rfl) (Nat.le_of_ble_eq_true rfl) dX12_in_21
  · refine lv_if_eq (tgt := 16) hx hb dX12_in_5 (by decide) (fun _ => ?_) (fun c => absurd c (by decide))
    refine lv_aload_n hx hb dX12_in_16 rfl (lv_at hl 0 rfl) ?_
    refine lv_iconst (v := 1) hx hb dX12_in_17 (by decide) ?_
    refine k_Vi [1] [0, 2] 1 12 (wr := [(z 2, .inl (gI g, 7376, .inl Wk)), (z 1, .inl (gI g, 461, .inl D))]) hx hb hml hown hts hKW hP hD hS hA hl.1 (c_X12_finding_1 l g _ z kp xs ) rfl rfl rfl wd_10_15 wd_1_5 wd_10_12 wd_10_13 wd_10_14 yd_X12_finding ⟨(Nat.le_of_ble_eq_true rfl), (Nat.le_of_ble_eq_true rfl)⟩ rfl rfl rfl rfl (by decide) rfl (Nat.le_of_ble_eq_true rfl) dX12_in_18 ⟨(Nat.le_of_ble_eq_true rfl), (Nat.le_of_ble_eq_true rfl)⟩ (fun r_53 u_54 H locs hw_55 hP hD hS => ?_)
    have hP : va_P g.1 vwCl [(z 2, .inl (gI g, 7376, .inl Wk)), (z 1, .inl (gI g, 461, .inl D)), (z 0, .inr (12, [.ref (z 1), .ref (z 2), .int (nI kp), .int u_54, .ref (z 3), .ref (z 4), .ref (z 5), .ref (z 6), .int (xs 1), .ref (z 7), .ref (z 8), .ref (z 9), .ref (z 10), .ref (z 11), .ref (z 12), .int (xs 2), .ref (z 13), .ref (z 14), .int (xs 3), .ref (z 15)]))] H := hP
    have hD : va_D A [(z 2, .inl (gI g, 7376, .inl Wk)), (z 1, .inl (gI g, 461, .inl D)), (z 0, .inr (12, [.ref (z 1), .ref (z 2), .int (nI kp), .int u_54, .ref (z 3), .ref (z 4), .ref (z 5), .ref (z 6), .int (xs 1), .ref (z 7), .ref (z 8), .ref (z 9), .ref (z 10), .ref (z 11), .ref (z 12), .int (xs 2), .ref (z 13), .ref (z 14), .int (xs 3), .ref (z 15)]))] := hD
    have hw_55 : r_53 = (-100001) := hw_55
    subst hw_55
    exact k_iret (kp, (fun kk_ => ([u_54, (xs 1), (xs 2), (xs 3)] : List Int32).getD kk_ 0), D, Wk) [2, 1, 0] hx hb hr hlk hP hD hS (⟨hkp, hDI, hWI⟩) rfl rfl rfl (Nat.le_of_ble_eq_true rfl) (Nat.le_of_ble_eq_true rfl) dX12_in_21
