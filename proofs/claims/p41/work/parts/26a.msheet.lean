abbrev kSF (M : Nat → Int32) : Nat → Nat → Int32 := fun j k => M (60 * j + k)
theorem k_sgR {x : Int32} (h : kSG x) : kRg 0 6 x ∨ kRg 10 54 x := h.elim (fun q => Or.inl ⟨by have := q.1; omega, q.2⟩) (fun q => Or.inr q)
theorem k_putM {M M1 : Nat → Int32} {js jy : Nat} {v : Int32} (e : M1 = upd M (nI (60 * js + jy)).toNatClampNeg v) (hs : js < 4) (hy : jy < 60) : ∀ j k, j < 4 → k < 60 → kSF M1 j k = if j = js ∧ k = jy then v else kSF M j k := by
  intro j k hj hk
  rw [nI_clamp (by omega)] at e
  show M1 (60 * j + k) = if j = js ∧ k = jy then v else M (60 * j + k)
  by_cases q : j = js ∧ k = jy
  · rw [if_pos q, q.1, q.2, e, pk_us]
  · rw [if_neg q, e, pk_un (by omega)]
theorem k_upd4 {B B1 : Nat → Int32} {js : Nat} {v : Int32} (e : B1 = upd B (nI js).toNatClampNeg v) (hs : js < 4) : ∀ j, j < 4 → B1 j = if j = js then v else B j := by
  intro j hj
  rw [nI_clamp (by omega)] at e
  by_cases q : j = js
  · rw [if_pos q, q, e, pk_us]
  · rw [if_neg q, e, pk_un q]
theorem k_updZ {Z Z1 : Nat → Int32} {sn : Nat → Nat} {js nj : Nat} {v : Int32} (e : Z1 = upd Z (nI js).toNatClampNeg v) (hs : js < 4) (hv : v = nI nj) (hn : nj ≤ 60) (hZ : ∀ j, j < 4 → Z j = nI (sn j) ∧ sn j ≤ 60) : ∀ j, j < 4 → Z1 j = nI ((fun j => if j = js then nj else sn j) j) ∧ (fun j => if j = js then nj else sn j) j ≤ 60 := by
  intro j hj
  show Z1 j = nI (if j = js then nj else sn j) ∧ (if j = js then nj else sn j) ≤ 60
  rw [k_upd4 e hs j hj]
  by_cases q : j = js
  · rw [if_pos q, if_pos q]; exact ⟨hv, hn⟩
  · rw [if_neg q, if_neg q]; exact hZ j hj
def kZr (M Ma : Nat → Int32) (js i : Nat) : Prop := ∀ j k, j < 4 → k < 60 → kSF Ma j k = if j = js ∧ k < i then 0 else kSF M j k
theorem k_zr0 {M : Nat → Int32} {js : Nat} : kZr M M js 0 := fun j k _ _ => by rw [if_neg (by omega)]
theorem k_zrS {M Ma Mb : Nat → Int32} {js i : Nat} (h : kZr M Ma js i) (e : Mb = upd Ma (nI (60 * js + i)).toNatClampNeg 0) (hs : js < 4) (hi : i < 60) : kZr M Mb js (i + 1) := by
  intro j k hj hk
  rw [k_putM e hs hi j k hj hk, h j k hj hk]
  by_cases q : j = js ∧ k = i
  · rw [if_pos q, if_pos (by omega)]
  · rw [if_neg q]
    by_cases q2 : j = js ∧ k < i
    · rw [if_pos q2, if_pos (by omega)]
    · rw [if_neg q2, if_neg (by omega)]
theorem k_zrE {M Ma : Nat → Int32} {js i : Nat} (h : kZr M Ma js i) (hi : 60 ≤ i) : ∀ j k, j < 4 → k < 60 → kSF Ma j k = if j = js then 0 else kSF M j k := by
  intro j k hj hk
  rw [h j k hj hk]
  by_cases q : j = js
  · rw [if_pos (by omega), if_pos q]
  · rw [if_neg (by omega), if_neg q]
theorem k_subn {n : Nat} {u x : Int32} (hn : n ≤ 60) (h0 : ¬ u < 0) (e : x = nI n - u) : x.toInt = (n : Int) - u.toInt := by
  rw [Int32.lt_iff_toInt_lt, show Int32.toInt 0 = (0 : Int) from rfl] at h0
  have := Int32.toInt_lt u
  rw [e, Int32.toInt_sub, k_nIi (by omega)]
  exact Int.bmod_eq_of_le (by omega) (by omega)
theorem k_ccS {M Ca Cb : Nat → Int32} {js jf i : Nat} {x : Int32} (h : ∀ k, k < i → Ca k = kSF M js (jf + k)) (hb : js < 4 ∧ jf + i < 60) (ex : x = M (nI (60 * js + jf + i)).toNatClampNeg) (e : Cb = upd Ca (nI i).toNatClampNeg x) : ∀ k, k < i + 1 → Cb k = kSF M js (jf + k) := by
  intro k hk
  rw [nI_clamp (by omega)] at ex e
  by_cases q : k = i
  · rw [q, e, pk_us, ex]
    show M _ = M _
    congr 1
    omega
  · rw [e, pk_un q, h k (by omega)]
def kCm (M Ma : Nat → Int32) (js jf jt ju i : Nat) : Prop := ∀ j k, j < 4 → k < 60 → kSF Ma j k = if j = jt ∧ ju ≤ k ∧ k < ju + i then kSF M js (jf + (k - ju)) else kSF M j k
theorem k_cm0 {M : Nat → Int32} {js jf jt ju : Nat} : kCm M M js jf jt ju 0 := fun j k _ _ => by rw [if_neg (by omega)]
theorem k_cmS {M Ca Ma Mb : Nat → Int32} {js jf jt ju jn i : Nat} {x : Int32} (h : kCm M Ma js jf jt ju i) (hC : ∀ k, k < jn → Ca k = kSF M js (jf + k)) (hb : jt < 4 ∧ ju + i < 60 ∧ i < jn) (ex : x = Ca (nI i).toNatClampNeg) (e : Mb = upd Ma (nI (60 * jt + ju + i)).toNatClampNeg x) : kCm M Mb js jf jt ju (i + 1) := by
  intro j k hj hk
  rw [nI_clamp (by omega)] at ex
  have e2 : Mb = upd Ma (nI (60 * jt + (ju + i))).toNatClampNeg x := by rw [e, Nat.add_assoc]
  rw [k_putM e2 hb.1 hb.2.1 j k hj hk, h j k hj hk]
  by_cases q : j = jt ∧ k = ju + i
  · rw [if_pos q, if_pos (by omega), ex, hC i hb.2.2, show k - ju = i by omega]
  · rw [if_neg q]
    by_cases q2 : j = jt ∧ ju ≤ k ∧ k < ju + i
    · rw [if_pos q2, if_pos (by omega)]
    · rw [if_neg q2, if_neg (by omega)]
theorem k_diInit {E F : Nat → Int32} (e1 : E = upd (fun _ => 0) 7 36) (e2 : F = upd E 9 10) : DI F := by
  have h7 : F 7 = 36 := by rw [e2, pk_un (by decide), e1, pk_us]
  have h0 : ∀ j, ¬ j = 7 → ¬ j = 9 → F j = 0 := fun j a b => by rw [e2, pk_un b, e1, pk_un a]
  have z : kRg 0 0 (0 : Int32) := by decide
  refine ⟨?_, ?_, ?_, ?_, ?_, ?_, ?_, ?_, fun j hj => ?_, fun j hj => ?_, fun j hj => ?_, fun j hj => ?_, fun k hk => ?_, fun k l hkl hl => ?_⟩
  · rw [h0 0 (by decide) (by decide)]; decide
  · rw [h0 1 (by decide) (by decide)]; decide
  · rw [h0 2 (by decide) (by decide)]; decide
  · rw [h0 5 (by decide) (by decide)]; decide
  · rw [h0 6 (by decide) (by decide)]; decide
  · rw [h7]; decide
  · rw [h0 8 (by decide) (by decide)]; decide
  · rw [h0 10 (by decide) (by decide)]; decide
  · rw [h0 _ (by omega) (by omega)]; decide
  · rw [h0 _ (by omega) (by omega)]; decide
  · rw [h0 _ (by omega) (by omega)]; decide
  · rw [h0 _ (by omega) (by omega)]; exact Or.inl (by decide)
  · rw [h0 8 (by decide) (by decide), show Int32.toInt 0 = (0 : Int) from rfl] at hk; omega
  · rw [h0 8 (by decide) (by decide), show Int32.toInt 0 = (0 : Int) from rfl] at hl; omega
theorem dX12_text_0 : decode cX12_text 0 = .ok (.iload_n 1, 1) := by decide +kernel
theorem dX12_text_1 : decode cX12_text 1 = .ok (.invokestatic 168, 3) := by decide +kernel
theorem dX12_text_4 : decode cX12_text 4 = .ok (.ifCond .ne 9, 3) := by decide +kernel
theorem dX12_text_13 : decode cX12_text 13 = .ok (.aload_n 0, 1) := by decide +kernel
theorem dX12_text_14 : decode cX12_text 14 = .ok (.getfield 16, 3) := by decide +kernel
theorem dX12_text_17 : decode cX12_text 17 = .ok (.iload_n 1, 1) := by decide +kernel
theorem dX12_text_18 : decode cX12_text 18 = .ok (.iaload, 1) := by decide +kernel
theorem dX12_text_19 : decode cX12_text 19 = .ok (.ifCond .ne 9, 3) := by decide +kernel
theorem dX12_text_28 : decode cX12_text 28 = .ok (.aload_n 0, 1) := by decide +kernel
theorem dX12_text_29 : decode cX12_text 29 = .ok (.getfield 19, 3) := by decide +kernel
theorem dX12_text_32 : decode cX12_text 32 = .ok (.iload_n 1, 1) := by decide +kernel
theorem dX12_text_33 : decode cX12_text 33 = .ok (.iaload, 1) := by decide +kernel
theorem dX12_text_34 : decode cX12_text 34 = .ok (.bipush 14, 2) := by decide +kernel
theorem dX12_text_36 : decode cX12_text 36 = .ok (.if_icmp .le 9, 3) := by decide +kernel
theorem dX12_text_45 : decode cX12_text 45 = .ok (.iconst 0, 1) := by decide +kernel
theorem dX12_text_46 : decode cX12_text 46 = .ok (.istore_n 2, 1) := by decide +kernel
theorem dX12_text_47 : decode cX12_text 47 = .ok (.iload_n 2, 1) := by decide +kernel
theorem dX12_text_48 : decode cX12_text 48 = .ok (.aload_n 0, 1) := by decide +kernel
theorem dX12_text_49 : decode cX12_text 49 = .ok (.getfield 19, 3) := by decide +kernel
theorem dX12_text_52 : decode cX12_text 52 = .ok (.iload_n 1, 1) := by decide +kernel
theorem dX12_text_53 : decode cX12_text 53 = .ok (.iaload, 1) := by decide +kernel
theorem dX12_text_54 : decode cX12_text 54 = .ok (.if_icmp .ge 48, 3) := by decide +kernel
theorem dX12_text_102 : decode cX12_text 102 = .ok (.aload_n 0, 1) := by decide +kernel
theorem dX12_text_103 : decode cX12_text 103 = .ok (.invokevirtual 72, 3) := by decide +kernel
theorem dX12_text_106 : decode cX12_text 106 = .ok (.iconst 0, 1) := by decide +kernel
theorem dX12_text_107 : decode cX12_text 107 = .ok (.istore_n 2, 1) := by decide +kernel
theorem dX12_text_108 : decode cX12_text 108 = .ok (.iload_n 2, 1) := by decide +kernel
theorem dX12_text_109 : decode cX12_text 109 = .ok (.aload_n 0, 1) := by decide +kernel
theorem dX12_text_110 : decode cX12_text 110 = .ok (.getfield 19, 3) := by decide +kernel
theorem dX12_text_113 : decode cX12_text 113 = .ok (.iload_n 1, 1) := by decide +kernel
theorem dX12_text_114 : decode cX12_text 114 = .ok (.iaload, 1) := by decide +kernel
theorem dX12_text_115 : decode cX12_text 115 = .ok (.if_icmp .ge 30, 3) := by decide +kernel
theorem dX12_text_145 : decode cX12_text 145 = .ok (.aload_n 0, 1) := by decide +kernel
theorem dX12_text_146 : decode cX12_text 146 = .ok (.getfield 7, 3) := by decide +kernel
theorem dX12_text_149 : decode cX12_text 149 = .ok (.bipush 10, 2) := by decide +kernel
theorem dX12_text_151 : decode cX12_text 151 = .ok (.aload_n 0, 1) := by decide +kernel
theorem dX12_text_152 : decode cX12_text 152 = .ok (.getfield 19, 3) := by decide +kernel
theorem dX12_text_155 : decode cX12_text 155 = .ok (.iload_n 1, 1) := by decide +kernel
theorem dX12_text_156 : decode cX12_text 156 = .ok (.iaload, 1) := by decide +kernel
theorem dX12_text_157 : decode cX12_text 157 = .ok (.iastore, 1) := by decide +kernel
theorem dX12_text_158 : decode cX12_text 158 = .ok (.aload_n 0, 1) := by decide +kernel
theorem dX12_text_159 : decode cX12_text 159 = .ok (.getfield 19, 3) := by decide +kernel
theorem dX12_text_162 : decode cX12_text 162 = .ok (.iload_n 1, 1) := by decide +kernel
theorem dX12_text_163 : decode cX12_text 163 = .ok (.iaload, 1) := by decide +kernel
theorem dX12_text_164 : decode cX12_text 164 = .ok (.ireturn, 1) := by decide +kernel
theorem dX12_text_118 : decode cX12_text 118 = .ok (.aload_n 0, 1) := by decide +kernel
theorem dX12_text_119 : decode cX12_text 119 = .ok (.getfield 7, 3) := by decide +kernel
theorem dX12_text_122 : decode cX12_text 122 = .ok (.sipush 207, 3) := by decide +kernel
theorem dX12_text_125 : decode cX12_text 125 = .ok (.iload_n 2, 1) := by decide +kernel
theorem dX12_text_126 : decode cX12_text 126 = .ok (.iadd, 1) := by decide +kernel
theorem dX12_text_127 : decode cX12_text 127 = .ok (.aload_n 0, 1) := by decide +kernel
theorem dX12_text_128 : decode cX12_text 128 = .ok (.getfield 22, 3) := by decide +kernel
theorem dX12_text_131 : decode cX12_text 131 = .ok (.bipush 60, 2) := by decide +kernel
theorem dX12_text_133 : decode cX12_text 133 = .ok (.iload_n 1, 1) := by decide +kernel
theorem dX12_text_134 : decode cX12_text 134 = .ok (.imul, 1) := by decide +kernel
theorem dX12_text_135 : decode cX12_text 135 = .ok (.iload_n 2, 1) := by decide +kernel
theorem dX12_text_136 : decode cX12_text 136 = .ok (.iadd, 1) := by decide +kernel
theorem dX12_text_137 : decode cX12_text 137 = .ok (.iaload, 1) := by decide +kernel
theorem dX12_text_138 : decode cX12_text 138 = .ok (.iastore, 1) := by decide +kernel
theorem dX12_text_139 : decode cX12_text 139 = .ok (.iinc 2 1, 3) := by decide +kernel
theorem dX12_text_142 : decode cX12_text 142 = .ok (.goto (-34), 3) := by decide +kernel
theorem dX12_text_57 : decode cX12_text 57 = .ok (.aload_n 0, 1) := by decide +kernel
theorem dX12_text_58 : decode cX12_text 58 = .ok (.getfield 22, 3) := by decide +kernel
theorem dX12_text_61 : decode cX12_text 61 = .ok (.bipush 60, 2) := by decide +kernel
theorem dX12_text_63 : decode cX12_text 63 = .ok (.iload_n 1, 1) := by decide +kernel
theorem dX12_text_64 : decode cX12_text 64 = .ok (.imul, 1) := by decide +kernel
theorem dX12_text_65 : decode cX12_text 65 = .ok (.iload_n 2, 1) := by decide +kernel
theorem dX12_text_66 : decode cX12_text 66 = .ok (.iadd, 1) := by decide +kernel
theorem dX12_text_67 : decode cX12_text 67 = .ok (.iaload, 1) := by decide +kernel
theorem dX12_text_68 : decode cX12_text 68 = .ok (.istore_n 3, 1) := by decide +kernel
theorem dX12_text_69 : decode cX12_text 69 = .ok (.iload_n 3, 1) := by decide +kernel
theorem dX12_text_70 : decode cX12_text 70 = .ok (.iconst 1, 1) := by decide +kernel
theorem dX12_text_71 : decode cX12_text 71 = .ok (.bipush 6, 2) := by decide +kernel
theorem dX12_text_73 : decode cX12_text 73 = .ok (.invokestatic 64, 3) := by decide +kernel
theorem dX12_text_76 : decode cX12_text 76 = .ok (.ifCond .ne 20, 3) := by decide +kernel
theorem dX12_text_96 : decode cX12_text 96 = .ok (.iinc 2 1, 3) := by decide +kernel
theorem dX12_text_99 : decode cX12_text 99 = .ok (.goto (-52), 3) := by decide +kernel
theorem dX12_text_79 : decode cX12_text 79 = .ok (.iload_n 3, 1) := by decide +kernel
theorem dX12_text_80 : decode cX12_text 80 = .ok (.bipush 10, 2) := by decide +kernel
theorem dX12_text_82 : decode cX12_text 82 = .ok (.bipush 54, 2) := by decide +kernel
theorem dX12_text_84 : decode cX12_text 84 = .ok (.invokestatic 64, 3) := by decide +kernel
theorem dX12_text_87 : decode cX12_text 87 = .ok (.ifCond .ne 9, 3) := by decide +kernel
theorem dX12_text_90 : decode cX12_text 90 = .ok (.aload_n 0, 1) := by decide +kernel
theorem dX12_text_91 : decode cX12_text 91 = .ok (.iconst 1, 1) := by decide +kernel
theorem dX12_text_92 : decode cX12_text 92 = .ok (.invokevirtual 68, 3) := by decide +kernel
theorem dX12_text_95 : decode cX12_text 95 = .ok (.ireturn, 1) := by decide +kernel
theorem dX12_text_39 : decode cX12_text 39 = .ok (.aload_n 0, 1) := by decide +kernel
theorem dX12_text_40 : decode cX12_text 40 = .ok (.iconst 3, 1) := by decide +kernel
theorem dX12_text_41 : decode cX12_text 41 = .ok (.invokevirtual 68, 3) := by decide +kernel
theorem dX12_text_44 : decode cX12_text 44 = .ok (.ireturn, 1) := by decide +kernel
theorem dX12_text_22 : decode cX12_text 22 = .ok (.aload_n 0, 1) := by decide +kernel
theorem dX12_text_23 : decode cX12_text 23 = .ok (.iconst 2, 1) := by decide +kernel
theorem dX12_text_24 : decode cX12_text 24 = .ok (.invokevirtual 68, 3) := by decide +kernel
theorem dX12_text_27 : decode cX12_text 27 = .ok (.ireturn, 1) := by decide +kernel
theorem dX12_text_7 : decode cX12_text 7 = .ok (.aload_n 0, 1) := by decide +kernel
theorem dX12_text_8 : decode cX12_text 8 = .ok (.iconst 1, 1) := by decide +kernel
theorem dX12_text_9 : decode cX12_text 9 = .ok (.invokevirtual 68, 3) := by decide +kernel
theorem dX12_text_12 : decode cX12_text 12 = .ok (.ireturn, 1) := by decide +kernel
set_option maxHeartbeats 8000000 in
set_option maxRecDepth 100000 in
theorem c_X12_text (l : Launch) (g : kG) (sz : Nat) (z : Nat → Nat) (kp : Nat) (xs : Nat → Int32) (D : Nat → Int32) (Wk : Nat → Int32) (B : Nat → Int32) (Z : Nat → Int32) (M : Nat → Int32) (sn : Nat → Nat) (x : Int32) (hDI : DI D) (hkp : kp ≤ 16) (hWI : WI Wk kp) (hZ : ∀ j, j < 4 → Z j = nI (sn j) ∧ sn j ≤ 60) : kMi l g yX12_text cX12_text 4 (some .int) 4 0 0 [.ref (z 0), .int x] sz [(z 0, .inr (12, [.ref (z 1), .ref (z 2), .int (nI kp), .int (xs 0), .ref (z 3), .ref (z 4), .ref (z 5), .ref (z 6), .int (xs 1), .ref (z 7), .ref (z 8), .ref (z 9), .ref (z 10), .ref (z 11), .ref (z 12), .int (xs 2), .ref (z 13), .ref (z 14), .int (xs 3), .ref (z 15)])), (z 1, .inl (gI g, 461, .inl D)), (z 2, .inl (gI g, 7376, .inl Wk)), (z 3, .inl (gI g, 4, .inl B)), (z 4, .inl (gI g, 4, .inl Z)), (z 5, .inl (gI g, 240, .inl M))] (fun (r : Int32) (u : Nat × (Nat → Int32) × (Nat → Int32) × (Nat → Int32)) => (r = aText x B sn (kSF M)) ∧ (u.1 ≤ 16 ∧ DI u.2.2.1 ∧ WI u.2.2.2 u.1)) (fun (u : Nat × (Nat → Int32) × (Nat → Int32) × (Nat → Int32)) => ([(z 0, .inr (12, [.ref (z 1), .ref (z 2), .int (nI u.1), .int (u.2.1 0), .ref (z 3), .ref (z 4), .ref (z 5), .ref (z 6), .int (u.2.1 1), .ref (z 7), .ref (z 8), .ref (z 9), .ref (z 10), .ref (z 11), .ref (z 12), .int (u.2.1 2), .ref (z 13), .ref (z 14), .int (u.2.1 3), .ref (z 15)])), (z 1, .inl (gI g, 461, .inl u.2.2.1)), (z 2, .inl (gI g, 7376, .inl u.2.2.2)), (z 3, .inl (gI g, 4, .inl B)), (z 4, .inl (gI g, 4, .inl Z)), (z 5, .inl (gI g, 240, .inl M))] : va_W)) := by
  refine kMi.of (by decide) (Nat.le_of_ble_eq_true rfl) (fun p e s m below meth c A hx hb hr hml hown hts hlk hnm hKW hP hD hS hA ls hl => ?_)
  have hown : s.vm.findClass RX12 = some m.cls := hown
  have hl : lv_has ls 4 [(0, .ref (z 0)), (1, .int x)] := hl
  refine k_hide hP hS (fun H locs hP hS => ?_)
  refine lv_iload_n hx hb dX12_text_0 rfl (lv_at hl 1 rfl) ?_
  refine k_Si [] [0, 1, 2, 3, 4, 5] (wr := [(z 0, .inr (12, [.ref (z 1), .ref (z 2), .int (nI kp), .int (xs 0), .ref (z 3), .ref (z 4), .ref (z 5), .ref (z 6), .int (xs 1), .ref (z 7), .ref (z 8), .ref (z 9), .ref (z 10), .ref (z 11), .ref (z 12), .int (xs 2), .ref (z 13), .ref (z 14), .int (xs 3), .ref (z 15)])), (z 1, .inl (gI g, 461, .inl D)), (z 2, .inl (gI g, 7376, .inl Wk)), (z 3, .inl (gI g, 4, .inl B)), (z 4, .inl (gI g, 4, .inl Z)), (z 5, .inl (gI g, 240, .inl M))]) hx hb hml hown hts hKW hP hD hS hA hl.1 (c_X12_isSheet l g _ x ) wd_38_14 wd_1_5 wd_38_12 wd_38_13 yd_X12_isSheet ⟨(Nat.le_of_ble_eq_true rfl), (Nat.le_of_ble_eq_true rfl)⟩ rfl rfl rfl rfl (by decide) rfl (Nat.le_of_ble_eq_true rfl) dX12_text_1 ⟨(Nat.le_of_ble_eq_true rfl), (Nat.le_of_ble_eq_true rfl)⟩ (fun r_1 u_2 H locs hw_3 hP hD hS => ?_)
  have hP : va_P g.1 vwCl [(z 0, .inr (12, [.ref (z 1), .ref (z 2), .int (nI kp), .int (xs 0), .ref (z 3), .ref (z 4), .ref (z 5), .ref (z 6), .int (xs 1), .ref (z 7), .ref (z 8), .ref (z 9), .ref (z 10), .ref (z 11), .ref (z 12), .int (xs 2), .ref (z 13), .ref (z 14), .int (xs 3), .ref (z 15)])), (z 1, .inl (gI g, 461, .inl D)), (z 2, .inl (gI g, 7376, .inl Wk)), (z 3, .inl (gI g, 4, .inl B)), (z 4, .inl (gI g, 4, .inl Z)), (z 5, .inl (gI g, 240, .inl M))] H := hP
  have hD : va_D A [(z 0, .inr (12, [.ref (z 1), .ref (z 2), .int (nI kp), .int (xs 0), .ref (z 3), .ref (z 4), .ref (z 5), .ref (z 6), .int (xs 1), .ref (z 7), .ref (z 8), .ref (z 9), .ref (z 10), .ref (z 11), .ref (z 12), .int (xs 2), .ref (z 13), .ref (z 14), .int (xs 3), .ref (z 15)])), (z 1, .inl (gI g, 461, .inl D)), (z 2, .inl (gI g, 7376, .inl Wk)), (z 3, .inl (gI g, 4, .inl B)), (z 4, .inl (gI g, 4, .inl Z)), (z 5, .inl (gI g, 240, .inl M))] := hD
  rcases (show (r_1 = 1 ∧ ((0 : Int) ≤ Int32.toInt x ∧ Int32.toInt x ≤ 3)) ∨ (r_1 = 0 ∧ ¬ ((0 : Int) ≤ Int32.toInt x ∧ Int32.toInt x ≤ 3)) from hw_3) with ⟨rfl, hw_3b⟩ | ⟨rfl, hw_3b⟩ <;> clear hw_3
  · refine lv_if_ne (tgt := 13) hx hb dX12_text_4 (by decide) (fun _ => ?_) (fun c => absurd c (by decide))
    obtain ⟨js, hjs, rfl⟩ := k_ofr (x := x) (n := 4) (by decide) (by have q := hw_3b; omega)
    refine lv_aload_n hx hb dX12_text_13 rfl (lv_at hl 0 rfl) ?_
    have hsz := (hZ js hjs).2
    have hT : aText (nI js) B sn (kSF M) = aT1 (B js) (sn js) (kSF M js) := by unfold aText; rw [if_pos (by rw [k_nIi (by omega)]; omega), nI_clamp (by omega)]
    refine va_get (ci := 12) (C := RX12) (T := TX12) (N := 20) hx hb hts inlX12 hown hKW.1 hP 0 rfl rfl 4 (by decide) (hts _ wd_6_7) (fun _ h => h) rfl dX12_text_14 ?_
    refine lv_iload_n hx hb dX12_text_17 rfl (lv_at hl 1 rfl) ?_
    refine va_iald hx hb hKW.1 hP 3 0 rfl rfl (vp_in_nI (by omega) (by decide)) dX12_text_18 ?_
    refine k_top (y := B js) (by rw [nI_clamp (by omega)]) ?_
    refine lv_if_ne (tgt := 28) hx hb dX12_text_19 (by decide) (fun c_4 => ?_) (fun c_4 => ?_)
    · refine lv_aload_n hx hb dX12_text_28 rfl (lv_at hl 0 rfl) ?_
      refine va_get (ci := 12) (C := RX12) (T := TX12) (N := 20) hx hb hts inlX12 hown hKW.1 hP 0 rfl rfl 5 (by decide) (hts _ wd_6_8) (fun _ h => h) rfl dX12_text_29 ?_
      refine lv_iload_n hx hb dX12_text_32 rfl (lv_at hl 1 rfl) ?_
      refine va_iald hx hb hKW.1 hP 4 0 rfl rfl (vp_in_nI (by omega) (by decide)) dX12_text_33 ?_
      refine k_top (y := nI (sn js)) (by rw [nI_clamp (by omega)]; exact (hZ js hjs).1) ?_
      refine lv_bipush (v := 14) hx hb dX12_text_34 (by decide) ?_
      refine lv_icmp_le (tgt := 45) hx hb dX12_text_36 (by decide) (fun c_5 => ?_) (fun c_5 => ?_)
      · have c_5n : (sn js) ≤ 14 := (k_leI (a := (sn js)) (b := 14) (by omega) (by omega)).mp c_5
        refine lv_iconst (v := 0) hx hb dX12_text_45 (by decide) ?_
        refine lv_istore_n (lv' := [(2, .int 0), (0, .ref (z 0)), (1, .int (nI js))]) hx hb dX12_text_46 rfl hl (by decide) rfl (fun ls hl => ?_)
        have L47 : ∀ (n47 : Nat) (i : Nat) (hfuel47 : 60 - i < n47) (hi : i ≤ 60) (hg : ∀ k, k < i → kSG (kSF M js k)) (H : Heap) (locs : List Loc) (hP : va_P g.1 vwCl [(z 0, .inr (12, [.ref (z 1), .ref (z 2), .int (nI kp), .int (xs 0), .ref (z 3), .ref (z 4), .ref (z 5), .ref (z 6), .int (xs 1), .ref (z 7), .ref (z 8), .ref (z 9), .ref (z 10), .ref (z 11), .ref (z 12), .int (xs 2), .ref (z 13), .ref (z 14), .int (xs 3), .ref (z 15)])), (z 1, .inl (gI g, 461, .inl D)), (z 2, .inl (gI g, 7376, .inl Wk)), (z 3, .inl (gI g, 4, .inl B)), (z 4, .inl (gI g, 4, .inl Z)), (z 5, .inl (gI g, 240, .inl M))] H) (hD : va_D A [(z 0, .inr (12, [.ref (z 1), .ref (z 2), .int (nI kp), .int (xs 0), .ref (z 3), .ref (z 4), .ref (z 5), .ref (z 6), .int (xs 1), .ref (z 7), .ref (z 8), .ref (z 9), .ref (z 10), .ref (z 11), .ref (z 12), .int (xs 2), .ref (z 13), .ref (z 14), .int (xs 3), .ref (z 15)])), (z 1, .inl (gI g, 461, .inl D)), (z 2, .inl (gI g, 7376, .inl Wk)), (z 3, .inl (gI g, 4, .inl B)), (z 4, .inl (gI g, 4, .inl Z)), (z 5, .inl (gI g, 240, .inl M))]) (hS : va_S A s.heap H locs) (ls : Array Slot) (hl : lv_has ls 4 [(2, .int (nI i)), (0, .ref (z 0)), (1, .int (nI js))]), W p l e (kR 4 0 0) s m ([.ref (z 0), .int (nI js)] : List Value).toArray below meth c H locs 0 0 (kQi g A below ([.ref (z 0), .int (nI js)] : List Value).toArray s 0 0 (fun (r : Int32) (u : Nat × (Nat → Int32) × (Nat → Int32) × (Nat → Int32)) => (r = aText (nI js) B sn (kSF M)) ∧ (u.1 ≤ 16 ∧ DI u.2.2.1 ∧ WI u.2.2.2 u.1)) (fun (u : Nat × (Nat → Int32) × (Nat → Int32) × (Nat → Int32)) => ([(z 0, .inr (12, [.ref (z 1), .ref (z 2), .int (nI u.1), .int (u.2.1 0), .ref (z 3), .ref (z 4), .ref (z 5), .ref (z 6), .int (u.2.1 1), .ref (z 7), .ref (z 8), .ref (z 9), .ref (z 10), .ref (z 11), .ref (z 12), .int (u.2.1 2), .ref (z 13), .ref (z 14), .int (u.2.1 3), .ref (z 15)])), (z 1, .inl (gI g, 461, .inl u.2.2.1)), (z 2, .inl (gI g, 7376, .inl u.2.2.2)), (z 3, .inl (gI g, 4, .inl B)), (z 4, .inl (gI g, 4, .inl Z)), (z 5, .inl (gI g, 240, .inl M))] : va_W))) (F0 m 47 ls []) := by
          intro n47
          induction n47 with
          | zero => intro i hfuel47; exact absurd hfuel47 (Nat.not_lt_zero _)
          | succ n47 ih47 =>
            intro i hfuel47 hi hg H locs hP hD hS ls hl
            refine lv_iload_n hx hb dX12_text_47 rfl (lv_at hl 0 rfl) ?_
            refine lv_aload_n hx hb dX12_text_48 rfl (lv_at hl 1 rfl) ?_
            refine va_get (ci := 12) (C := RX12) (T := TX12) (N := 20) hx hb hts inlX12 hown hKW.1 hP 0 rfl rfl 5 (by decide) (hts _ wd_6_8) (fun _ h => h) rfl dX12_text_49 ?_
            refine lv_iload_n hx hb dX12_text_52 rfl (lv_at hl 2 rfl) ?_
            refine va_iald hx hb hKW.1 hP 4 0 rfl rfl (vp_in_nI (by omega) (by decide)) dX12_text_53 ?_
            refine k_top (y := nI (sn js)) (by rw [nI_clamp (by omega)]; exact (hZ js hjs).1) ?_
            refine lv_icmp_ge (tgt := 102) hx hb dX12_text_54 (by decide) (fun c_6 => ?_) (fun c_6 => ?_)
            · have c_6n : (sn js) ≤ i := (k_leI (a := (sn js)) (b := i) (by omega) (by omega)).mp c_6
              have hall : ∀ k, k < sn js → kSG (kSF M js k) := fun k hk => hg k (by omega)
              have hfin : aText (nI js) B sn (kSF M) = nI (sn js) := by rw [hT]; unfold aT1; rw [if_neg c_4, if_neg (by omega), if_pos hall]
              refine lv_aload_n hx hb dX12_text_102 rfl (lv_at hl 1 rfl) ?_
              refine k_Vv [0, 1, 2] [3, 4, 5] 0 12 (wr := [(z 3, .inl (gI g, 4, .inl B)), (z 4, .inl (gI g, 4, .inl Z)), (z 5, .inl (gI g, 240, .inl M))]) hx hb hml hown hts hKW hP hD hS hA hl.1 (c_X12_keep l g _ z kp xs D Wk (by first | assumption | omega | decide) (by first | assumption | omega | decide) (by first | assumption | omega | decide)) rfl rfl rfl wd_10_21 wd_1_5 wd_10_18 wd_10_19 wd_10_20 yd_X12_keep ⟨(Nat.le_of_ble_eq_true rfl), (Nat.le_of_ble_eq_true rfl)⟩ rfl rfl rfl rfl (by decide) rfl (Nat.le_of_ble_eq_true rfl) dX12_text_103 ⟨(Nat.le_of_ble_eq_true rfl), (Nat.le_of_ble_eq_true rfl)⟩ (fun u_8 H locs hw_9 hP hD hS => ?_)
              obtain ⟨q_10, f_11⟩ := u_8
              have hP : va_P g.1 vwCl [(z 3, .inl (gI g, 4, .inl B)), (z 4, .inl (gI g, 4, .inl Z)), (z 5, .inl (gI g, 240, .inl M)), (z 0, .inr (12, [.ref (z 1), .ref (z 2), .int (nI q_10), .int (xs 0), .ref (z 3), .ref (z 4), .ref (z 5), .ref (z 6), .int (xs 1), .ref (z 7), .ref (z 8), .ref (z 9), .ref (z 10), .ref (z 11), .ref (z 12), .int (xs 2), .ref (z 13), .ref (z 14), .int (xs 3), .ref (z 15)])), (z 1, .inl (gI g, 461, .inl D)), (z 2, .inl (gI g, 7376, .inl f_11))] H := hP
              have hD : va_D A [(z 3, .inl (gI g, 4, .inl B)), (z 4, .inl (gI g, 4, .inl Z)), (z 5, .inl (gI g, 240, .inl M)), (z 0, .inr (12, [.ref (z 1), .ref (z 2), .int (nI q_10), .int (xs 0), .ref (z 3), .ref (z 4), .ref (z 5), .ref (z 6), .int (xs 1), .ref (z 7), .ref (z 8), .ref (z 9), .ref (z 10), .ref (z 11), .ref (z 12), .int (xs 2), .ref (z 13), .ref (z 14), .int (xs 3), .ref (z 15)])), (z 1, .inl (gI g, 461, .inl D)), (z 2, .inl (gI g, 7376, .inl f_11))] := hD
              have hw_9 : q_10 ≤ 16 ∧ WI f_11 q_10 := hw_9
              obtain ⟨hkk, hkW⟩ := hw_9
              refine lv_iconst (v := 0) hx hb dX12_text_106 (by decide) ?_
              refine lv_istore_n (lv' := [(2, .int 0), (0, .ref (z 0)), (1, .int (nI js))]) hx hb dX12_text_107 rfl hl (by decide) rfl (fun ls hl => ?_)
              have L108 : ∀ (n108 : Nat) (i : Nat) (Da : Nat → Int32) (hfuel108 : 60 - i < n108) (hi : i ≤ 60) (hDa : DI Da) (H : Heap) (locs : List Loc) (hP : va_P g.1 vwCl [(z 3, .inl (gI g, 4, .inl B)), (z 4, .inl (gI g, 4, .inl Z)), (z 5, .inl (gI g, 240, .inl M)), (z 0, .inr (12, [.ref (z 1), .ref (z 2), .int (nI q_10), .int (xs 0), .ref (z 3), .ref (z 4), .ref (z 5), .ref (z 6), .int (xs 1), .ref (z 7), .ref (z 8), .ref (z 9), .ref (z 10), .ref (z 11), .ref (z 12), .int (xs 2), .ref (z 13), .ref (z 14), .int (xs 3), .ref (z 15)])), (z 1, .inl (gI g, 461, .inl Da)), (z 2, .inl (gI g, 7376, .inl f_11))] H) (hD : va_D A [(z 3, .inl (gI g, 4, .inl B)), (z 4, .inl (gI g, 4, .inl Z)), (z 5, .inl (gI g, 240, .inl M)), (z 0, .inr (12, [.ref (z 1), .ref (z 2), .int (nI q_10), .int (xs 0), .ref (z 3), .ref (z 4), .ref (z 5), .ref (z 6), .int (xs 1), .ref (z 7), .ref (z 8), .ref (z 9), .ref (z 10), .ref (z 11), .ref (z 12), .int (xs 2), .ref (z 13), .ref (z 14), .int (xs 3), .ref (z 15)])), (z 1, .inl (gI g, 461, .inl Da)), (z 2, .inl (gI g, 7376, .inl f_11))]) (hS : va_S A s.heap H locs) (ls : Array Slot) (hl : lv_has ls 4 [(2, .int (nI i)), (0, .ref (z 0)), (1, .int (nI js))]), W p l e (kR 4 0 0) s m ([.ref (z 0), .int (nI js)] : List Value).toArray below meth c H locs 0 0 (kQi g A below ([.ref (z 0), .int (nI js)] : List Value).toArray s 0 0 (fun (r : Int32) (u : Nat × (Nat → Int32) × (Nat → Int32) × (Nat → Int32)) => (r = aText (nI js) B sn (kSF M)) ∧ (u.1 ≤ 16 ∧ DI u.2.2.1 ∧ WI u.2.2.2 u.1)) (fun (u : Nat × (Nat → Int32) × (Nat → Int32) × (Nat → Int32)) => ([(z 0, .inr (12, [.ref (z 1), .ref (z 2), .int (nI u.1), .int (u.2.1 0), .ref (z 3), .ref (z 4), .ref (z 5), .ref (z 6), .int (u.2.1 1), .ref (z 7), .ref (z 8), .ref (z 9), .ref (z 10), .ref (z 11), .ref (z 12), .int (u.2.1 2), .ref (z 13), .ref (z 14), .int (u.2.1 3), .ref (z 15)])), (z 1, .inl (gI g, 461, .inl u.2.2.1)), (z 2, .inl (gI g, 7376, .inl u.2.2.2)), (z 3, .inl (gI g, 4, .inl B)), (z 4, .inl (gI g, 4, .inl Z)), (z 5, .inl (gI g, 240, .inl M))] : va_W))) (F0 m 108 ls []) := by
                intro n108
                induction n108 with
                | zero => intro i Da hfuel108; exact absurd hfuel108 (Nat.not_lt_zero _)
                | succ n108 ih108 =>
                  intro i Da hfuel108 hi hDa H locs hP hD hS ls hl
                  refine lv_iload_n hx hb dX12_text_108 rfl (lv_at hl 0 rfl) ?_
                  refine lv_aload_n hx hb dX12_text_109 rfl (lv_at hl 1 rfl) ?_
                  refine va_get (ci := 12) (C := RX12) (T := TX12) (N := 20) hx hb hts inlX12 hown hKW.1 hP 3 rfl rfl 5 (by decide) (hts _ wd_6_8) (fun _ h => h) rfl dX12_text_110 ?_
                  refine lv_iload_n hx hb dX12_text_113 rfl (lv_at hl 2 rfl) ?_
                  refine va_iald hx hb hKW.1 hP 1 0 rfl rfl (vp_in_nI (by omega) (by decide)) dX12_text_114 ?_
                  refine k_top (y := nI (sn js)) (by rw [nI_clamp (by omega)]; exact (hZ js hjs).1) ?_
                  refine lv_icmp_ge (tgt := 145) hx hb dX12_text_115 (by decide) (fun c_12 => ?_) (fun c_12 => ?_)
                  · have c_12n : (sn js) ≤ i := (k_leI (a := (sn js)) (b := i) (by omega) (by omega)).mp c_12
                    refine lv_aload_n hx hb dX12_text_145 rfl (lv_at hl 1 rfl) ?_
                    refine va_get (ci := 12) (C := RX12) (T := TX12) (N := 20) hx hb hts inlX12 hown hKW.1 hP 3 rfl rfl 0 (by decide) (hts _ wd_6_5) (fun _ h => h) rfl dX12_text_146 ?_
                    refine lv_bipush (v := 10) hx hb dX12_text_149 (by decide) ?_
                    refine lv_aload_n hx hb dX12_text_151 rfl (lv_at hl 1 rfl) ?_
                    refine va_get (ci := 12) (C := RX12) (T := TX12) (N := 20) hx hb hts inlX12 hown hKW.1 hP 3 rfl rfl 5 (by decide) (hts _ wd_6_8) (fun _ h => h) rfl dX12_text_152 ?_
                    refine lv_iload_n hx hb dX12_text_155 rfl (lv_at hl 2 rfl) ?_
                    refine va_iald hx hb hKW.1 hP 1 0 rfl rfl (vp_in_nI (by omega) (by decide)) dX12_text_156 ?_
                    refine k_top (y := nI (sn js)) (by rw [nI_clamp (by omega)]; exact (hZ js hjs).1) ?_
                    refine va_iast hx hb hKW.1 hP hD hS 4 0 rfl rfl (show ¬ _ by decide) dX12_text_157 (fun H locs hP hD hS => ?_)
                    have hP : va_P g.1 vwCl [(z 3, .inl (gI g, 4, .inl B)), (z 4, .inl (gI g, 4, .inl Z)), (z 5, .inl (gI g, 240, .inl M)), (z 0, .inr (12, [.ref (z 1), .ref (z 2), .int (nI q_10), .int (xs 0), .ref (z 3), .ref (z 4), .ref (z 5), .ref (z 6), .int (xs 1), .ref (z 7), .ref (z 8), .ref (z 9), .ref (z 10), .ref (z 11), .ref (z 12), .int (xs 2), .ref (z 13), .ref (z 14), .int (xs 3), .ref (z 15)])), (z 1, .inl (gI g, 461, .inl (upd Da 10 (nI (sn js))))), (z 2, .inl (gI g, 7376, .inl f_11))] H := hP
                    have hD : va_D A [(z 3, .inl (gI g, 4, .inl B)), (z 4, .inl (gI g, 4, .inl Z)), (z 5, .inl (gI g, 240, .inl M)), (z 0, .inr (12, [.ref (z 1), .ref (z 2), .int (nI q_10), .int (xs 0), .ref (z 3), .ref (z 4), .ref (z 5), .ref (z 6), .int (xs 1), .ref (z 7), .ref (z 8), .ref (z 9), .ref (z 10), .ref (z 11), .ref (z 12), .int (xs 2), .ref (z 13), .ref (z 14), .int (xs 3), .ref (z 15)])), (z 1, .inl (gI g, 461, .inl (upd Da 10 (nI (sn js))))), (z 2, .inl (gI g, 7376, .inl f_11))] := hD
                    obtain ⟨f_13, ef_13⟩ : ∃ zz_ : Nat → Int32, zz_ = upd Da 10 (nI (sn js)) := ⟨_, rfl⟩
                    rw [← ef_13] at hP hD
                    have dz_14 : f_13 10 = nI (sn js) := by rw [ef_13, pk_us]
                    have hDf_13 : DI f_13 := DI.upd (i := 10) (x := nI (sn js)) hDa ef_13 (h0 := (fun q => absurd q (by omega))) (h1 := (fun q => absurd q (by omega))) (h2 := (fun q => absurd q (by omega))) (h5 := (fun q => absurd q (by omega))) (h6 := (fun q => absurd q (by omega))) (h7 := (fun q => absurd q (by omega))) (h10 := (fun _ => k_rgI (lo := 0) (hi := 14) (n := (sn js)) (by decide) (by omega) (by omega))) (hf := (fun q q2 => False.elim (by omega))) (hn := (fun q q2 => False.elim (by omega))) (ht := (fun q q2 => False.elim (by omega))) (hl := (fun q q2 => False.elim (by omega))) (h8 := (by omega))
                    refine lv_aload_n hx hb dX12_text_158 rfl (lv_at hl 1 rfl) ?_
                    refine va_get (ci := 12) (C := RX12) (T := TX12) (N := 20) hx hb hts inlX12 hown hKW.1 hP 3 rfl rfl 5 (by decide) (hts _ wd_6_8) (fun _ h => h) rfl dX12_text_159 ?_
                    refine lv_iload_n hx hb dX12_text_162 rfl (lv_at hl 2 rfl) ?_
                    refine va_iald hx hb hKW.1 hP 1 0 rfl rfl (vp_in_nI (by omega) (by decide)) dX12_text_163 ?_
                    refine k_top (y := nI (sn js)) (by rw [nI_clamp (by omega)]; exact (hZ js hjs).1) ?_
                    exact k_iret (q_10, xs, f_13, f_11) [3, 4, 5, 0, 1, 2] hx hb hr hlk hP hD hS (⟨hfin.symm, hkk, hDf_13, hkW⟩) rfl rfl rfl (Nat.le_of_ble_eq_true rfl) (Nat.le_of_ble_eq_true rfl) dX12_text_164
                  · have c_12n : i < (sn js) := Nat.not_le.mp (fun h => c_12 ((k_leI (a := (sn js)) (b := i) (by omega) (by omega)).mpr h))
                    refine lv_aload_n hx hb dX12_text_118 rfl (lv_at hl 1 rfl) ?_
                    refine va_get (ci := 12) (C := RX12) (T := TX12) (N := 20) hx hb hts inlX12 hown hKW.1 hP 3 rfl rfl 0 (by decide) (hts _ wd_6_5) (fun _ h => h) rfl dX12_text_119 ?_
                    refine lv_sipush (v := 207) hx hb dX12_text_122 (by decide) ?_
                    refine lv_iload_n hx hb dX12_text_125 rfl (lv_at hl 0 rfl) ?_
                    refine lv_iadd hx hb dX12_text_126 ?_
                    refine k_top (y := nI (i + 207)) (by rw [Nat.add_comm]; exact nI_add 207 i) ?_
                    refine lv_aload_n hx hb dX12_text_127 rfl (lv_at hl 1 rfl) ?_
                    refine va_get (ci := 12) (C := RX12) (T := TX12) (N := 20) hx hb hts inlX12 hown hKW.1 hP 3 rfl rfl 6 (by decide) (hts _ wd_6_9) (fun _ h => h) rfl dX12_text_128 ?_
                    refine lv_bipush (v := 60) hx hb dX12_text_131 (by decide) ?_
                    refine lv_iload_n hx hb dX12_text_133 rfl (lv_at hl 2 rfl) ?_
                    refine lv_imul hx hb dX12_text_134 ?_
                    refine k_top (y := nI (60 * js)) (show (60 : Int32) * nI js = nI (60 * js) from k_nmul 60 js) ?_
                    refine lv_iload_n hx hb dX12_text_135 rfl (lv_at hl 0 rfl) ?_
                    refine lv_iadd hx hb dX12_text_136 ?_
                    refine k_top (y := nI ((60 * js) + i)) (nI_add (60 * js) i) ?_
                    refine va_iald hx hb hKW.1 hP 2 0 rfl rfl (vp_in_nI (by omega) (by decide)) dX12_text_137 ?_
                    refine lv_topi (fun x_15 ex_15 => ?_)
                    refine va_iast hx hb hKW.1 hP hD hS 4 0 rfl rfl (vp_in_nI (by omega) (by decide)) dX12_text_138 (fun H locs hP hD hS => ?_)
                    have hP : va_P g.1 vwCl [(z 3, .inl (gI g, 4, .inl B)), (z 4, .inl (gI g, 4, .inl Z)), (z 5, .inl (gI g, 240, .inl M)), (z 0, .inr (12, [.ref (z 1), .ref (z 2), .int (nI q_10), .int (xs 0), .ref (z 3), .ref (z 4), .ref (z 5), .ref (z 6), .int (xs 1), .ref (z 7), .ref (z 8), .ref (z 9), .ref (z 10), .ref (z 11), .ref (z 12), .int (xs 2), .ref (z 13), .ref (z 14), .int (xs 3), .ref (z 15)])), (z 1, .inl (gI g, 461, .inl (upd Da (nI (i + 207)).toNatClampNeg x_15))), (z 2, .inl (gI g, 7376, .inl f_11))] H := hP
                    have hD : va_D A [(z 3, .inl (gI g, 4, .inl B)), (z 4, .inl (gI g, 4, .inl Z)), (z 5, .inl (gI g, 240, .inl M)), (z 0, .inr (12, [.ref (z 1), .ref (z 2), .int (nI q_10), .int (xs 0), .ref (z 3), .ref (z 4), .ref (z 5), .ref (z 6), .int (xs 1), .ref (z 7), .ref (z 8), .ref (z 9), .ref (z 10), .ref (z 11), .ref (z 12), .int (xs 2), .ref (z 13), .ref (z 14), .int (xs 3), .ref (z 15)])), (z 1, .inl (gI g, 461, .inl (upd Da (nI (i + 207)).toNatClampNeg x_15))), (z 2, .inl (gI g, 7376, .inl f_11))] := hD
                    obtain ⟨f_16, ef_16⟩ : ∃ zz_ : Nat → Int32, zz_ = upd Da (nI (i + 207)).toNatClampNeg x_15 := ⟨_, rfl⟩
                    rw [← ef_16] at hP hD
                    have hDf_16 : DI f_16 := DI.upd (i := (i + 207)) (x := x_15) hDa (by rw [ef_16, nI_clamp (by omega)]) (h0 := (fun q => absurd q (by omega))) (h1 := (fun q => absurd q (by omega))) (h2 := (fun q => absurd q (by omega))) (h5 := (fun q => absurd q (by omega))) (h6 := (fun q => absurd q (by omega))) (h7 := (fun q => absurd q (by omega))) (h10 := (fun q => absurd q (by omega))) (hf := (fun q q2 => False.elim (by omega))) (hn := (fun q q2 => False.elim (by omega))) (ht := (fun _ _ => k_sgR (by rw [ex_15, nI_clamp (by omega)]; exact hall i (by omega)))) (hl := (fun q q2 => False.elim (by omega))) (h8 := (by omega))
                    refine lv_iinc (v := nI (i + 1)) (lv' := [(2, .int (nI (i + 1))), (0, .ref (z 0)), (1, .int (nI js))]) hx hb dX12_text_139 hl (k := 0) rfl (nI_add i 1) (by decide) rfl (fun ls hl => ?_)
                    refine lv_goto (tgt := 108) hx hb dX12_text_142 (by decide) ?_
                    exact ih108 (i + 1) f_16 (by omega) (by first | assumption | omega) hDf_16 H locs (hP.sub [0, 1, 2, 3, 4, 5] rfl) (hD.sub [0, 1, 2, 3, 4, 5] (by decide) rfl) hS ls (lv_sub hl [0, 1, 2] rfl)
              exact L108 (60 - 0 + 1) 0 D (Nat.lt_succ_self _) (by first | assumption | omega) hDI H locs (hP.sub [0, 1, 2, 3, 4, 5] rfl) (hD.sub [0, 1, 2, 3, 4, 5] (by decide) rfl) hS ls (lv_sub hl [0, 1, 2] rfl)
            · have c_6n : i < (sn js) := Nat.not_le.mp (fun h => c_6 ((k_leI (a := (sn js)) (b := i) (by omega) (by omega)).mpr h))
              refine lv_aload_n hx hb dX12_text_57 rfl (lv_at hl 1 rfl) ?_
              refine va_get (ci := 12) (C := RX12) (T := TX12) (N := 20) hx hb hts inlX12 hown hKW.1 hP 0 rfl rfl 6 (by decide) (hts _ wd_6_9) (fun _ h => h) rfl dX12_text_58 ?_
              refine lv_bipush (v := 60) hx hb dX12_text_61 (by decide) ?_
              refine lv_iload_n hx hb dX12_text_63 rfl (lv_at hl 2 rfl) ?_
              refine lv_imul hx hb dX12_text_64 ?_
              refine k_top (y := nI (60 * js)) (show (60 : Int32) * nI js = nI (60 * js) from k_nmul 60 js) ?_
              refine lv_iload_n hx hb dX12_text_65 rfl (lv_at hl 0 rfl) ?_
              refine lv_iadd hx hb dX12_text_66 ?_
              refine k_top (y := nI ((60 * js) + i)) (nI_add (60 * js) i) ?_
              refine va_iald hx hb hKW.1 hP 5 0 rfl rfl (vp_in_nI (by omega) (by decide)) dX12_text_67 ?_
              refine lv_topi (fun x_17 ex_17 => ?_)
              refine lv_istore_n (lv' := [(3, .int x_17), (2, .int (nI i)), (0, .ref (z 0)), (1, .int (nI js))]) hx hb dX12_text_68 rfl hl (by decide) rfl (fun ls hl => ?_)
              have hvi : x_17 = kSF M js i := by rw [ex_17, nI_clamp (by omega)]
              refine lv_iload_n hx hb dX12_text_69 rfl (lv_at hl 0 rfl) ?_
              refine lv_iconst (v := 1) hx hb dX12_text_70 (by decide) ?_
              refine lv_bipush (v := 6) hx hb dX12_text_71 (by decide) ?_
              refine k_Si [] [0, 1, 2, 3, 4, 5] (wr := [(z 0, .inr (12, [.ref (z 1), .ref (z 2), .int (nI kp), .int (xs 0), .ref (z 3), .ref (z 4), .ref (z 5), .ref (z 6), .int (xs 1), .ref (z 7), .ref (z 8), .ref (z 9), .ref (z 10), .ref (z 11), .ref (z 12), .int (xs 2), .ref (z 13), .ref (z 14), .int (xs 3), .ref (z 15)])), (z 1, .inl (gI g, 461, .inl D)), (z 2, .inl (gI g, 7376, .inl Wk)), (z 3, .inl (gI g, 4, .inl B)), (z 4, .inl (gI g, 4, .inl Z)), (z 5, .inl (gI g, 240, .inl M))]) hx hb hml hown hts hKW hP hD hS hA hl.1 (c_X12_isIn l g _ x_17 1 6 ) wd_10_11 wd_1_5 wd_10_9 wd_10_10 yd_X12_isIn ⟨(Nat.le_of_ble_eq_true rfl), (Nat.le_of_ble_eq_true rfl)⟩ rfl rfl rfl rfl (by decide) rfl (Nat.le_of_ble_eq_true rfl) dX12_text_73 ⟨(Nat.le_of_ble_eq_true rfl), (Nat.le_of_ble_eq_true rfl)⟩ (fun r_18 u_19 H locs hw_20 hP hD hS => ?_)
              have hP : va_P g.1 vwCl [(z 0, .inr (12, [.ref (z 1), .ref (z 2), .int (nI kp), .int (xs 0), .ref (z 3), .ref (z 4), .ref (z 5), .ref (z 6), .int (xs 1), .ref (z 7), .ref (z 8), .ref (z 9), .ref (z 10), .ref (z 11), .ref (z 12), .int (xs 2), .ref (z 13), .ref (z 14), .int (xs 3), .ref (z 15)])), (z 1, .inl (gI g, 461, .inl D)), (z 2, .inl (gI g, 7376, .inl Wk)), (z 3, .inl (gI g, 4, .inl B)), (z 4, .inl (gI g, 4, .inl Z)), (z 5, .inl (gI g, 240, .inl M))] H := hP
              have hD : va_D A [(z 0, .inr (12, [.ref (z 1), .ref (z 2), .int (nI kp), .int (xs 0), .ref (z 3), .ref (z 4), .ref (z 5), .ref (z 6), .int (xs 1), .ref (z 7), .ref (z 8), .ref (z 9), .ref (z 10), .ref (z 11), .ref (z 12), .int (xs 2), .ref (z 13), .ref (z 14), .int (xs 3), .ref (z 15)])), (z 1, .inl (gI g, 461, .inl D)), (z 2, .inl (gI g, 7376, .inl Wk)), (z 3, .inl (gI g, 4, .inl B)), (z 4, .inl (gI g, 4, .inl Z)), (z 5, .inl (gI g, 240, .inl M))] := hD
              rcases (show (r_18 = 1 ∧ (Int32.toInt 1 ≤ Int32.toInt x_17 ∧ Int32.toInt x_17 ≤ Int32.toInt 6)) ∨ (r_18 = 0 ∧ ¬ (Int32.toInt 1 ≤ Int32.toInt x_17 ∧ Int32.toInt x_17 ≤ Int32.toInt 6)) from hw_20) with ⟨rfl, hw_20b⟩ | ⟨rfl, hw_20b⟩ <;> clear hw_20
              · refine lv_if_ne (tgt := 96) hx hb dX12_text_76 (by decide) (fun _ => ?_) (fun c => absurd c (by decide))
                refine lv_iinc (v := nI (i + 1)) (lv' := [(2, .int (nI (i + 1))), (3, .int x_17), (0, .ref (z 0)), (1, .int (nI js))]) hx hb dX12_text_96 hl (k := 1) rfl (nI_add i 1) (by decide) rfl (fun ls hl => ?_)
                refine lv_goto (tgt := 47) hx hb dX12_text_99 (by decide) ?_
                exact ih47 (i + 1) (by omega) (by first | assumption | omega) (fun k hk => (Nat.lt_or_ge k i).elim (fun q => hg k q) (fun q => by rw [show k = i by omega, ← hvi]; exact Or.inl hw_20b)) H locs (hP.sub [0, 1, 2, 3, 4, 5] rfl) (hD.sub [0, 1, 2, 3, 4, 5] (by decide) rfl) hS ls (lv_sub hl [0, 2, 3] rfl)
              · refine lv_if_ne (tgt := 96) hx hb dX12_text_76 (by decide) (fun c => absurd c (by decide)) (fun _ => ?_)
                refine lv_iload_n hx hb dX12_text_79 rfl (lv_at hl 0 rfl) ?_
                refine lv_bipush (v := 10) hx hb dX12_text_80 (by decide) ?_
                refine lv_bipush (v := 54) hx hb dX12_text_82 (by decide) ?_
                refine k_Si [] [0, 1, 2, 3, 4, 5] (wr := [(z 0, .inr (12, [.ref (z 1), .ref (z 2), .int (nI kp), .int (xs 0), .ref (z 3), .ref (z 4), .ref (z 5), .ref (z 6), .int (xs 1), .ref (z 7), .ref (z 8), .ref (z 9), .ref (z 10), .ref (z 11), .ref (z 12), .int (xs 2), .ref (z 13), .ref (z 14), .int (xs 3), .ref (z 15)])), (z 1, .inl (gI g, 461, .inl D)), (z 2, .inl (gI g, 7376, .inl Wk)), (z 3, .inl (gI g, 4, .inl B)), (z 4, .inl (gI g, 4, .inl Z)), (z 5, .inl (gI g, 240, .inl M))]) hx hb hml hown hts hKW hP hD hS hA hl.1 (c_X12_isIn l g _ x_17 10 54 ) wd_10_11 wd_1_5 wd_10_9 wd_10_10 yd_X12_isIn ⟨(Nat.le_of_ble_eq_true rfl), (Nat.le_of_ble_eq_true rfl)⟩ rfl rfl rfl rfl (by decide) rfl (Nat.le_of_ble_eq_true rfl) dX12_text_84 ⟨(Nat.le_of_ble_eq_true rfl), (Nat.le_of_ble_eq_true rfl)⟩ (fun r_21 u_22 H locs hw_23 hP hD hS => ?_)
                have hP : va_P g.1 vwCl [(z 0, .inr (12, [.ref (z 1), .ref (z 2), .int (nI kp), .int (xs 0), .ref (z 3), .ref (z 4), .ref (z 5), .ref (z 6), .int (xs 1), .ref (z 7), .ref (z 8), .ref (z 9), .ref (z 10), .ref (z 11), .ref (z 12), .int (xs 2), .ref (z 13), .ref (z 14), .int (xs 3), .ref (z 15)])), (z 1, .inl (gI g, 461, .inl D)), (z 2, .inl (gI g, 7376, .inl Wk)), (z 3, .inl (gI g, 4, .inl B)), (z 4, .inl (gI g, 4, .inl Z)), (z 5, .inl (gI g, 240, .inl M))] H := hP
                have hD : va_D A [(z 0, .inr (12, [.ref (z 1), .ref (z 2), .int (nI kp), .int (xs 0), .ref (z 3), .ref (z 4), .ref (z 5), .ref (z 6), .int (xs 1), .ref (z 7), .ref (z 8), .ref (z 9), .ref (z 10), .ref (z 11), .ref (z 12), .int (xs 2), .ref (z 13), .ref (z 14), .int (xs 3), .ref (z 15)])), (z 1, .inl (gI g, 461, .inl D)), (z 2, .inl (gI g, 7376, .inl Wk)), (z 3, .inl (gI g, 4, .inl B)), (z 4, .inl (gI g, 4, .inl Z)), (z 5, .inl (gI g, 240, .inl M))] := hD
                rcases (show (r_21 = 1 ∧ (Int32.toInt 10 ≤ Int32.toInt x_17 ∧ Int32.toInt x_17 ≤ Int32.toInt 54)) ∨ (r_21 = 0 ∧ ¬ (Int32.toInt 10 ≤ Int32.toInt x_17 ∧ Int32.toInt x_17 ≤ Int32.toInt 54)) from hw_23) with ⟨rfl, hw_23b⟩ | ⟨rfl, hw_23b⟩ <;> clear hw_23
                · refine lv_if_ne (tgt := 96) hx hb dX12_text_87 (by decide) (fun _ => ?_) (fun c => absurd c (by decide))
                  refine lv_iinc (v := nI (i + 1)) (lv' := [(2, .int (nI (i + 1))), (3, .int x_17), (0, .ref (z 0)), (1, .int (nI js))]) hx hb dX12_text_96 hl (k := 1) rfl (nI_add i 1) (by decide) rfl (fun ls hl => ?_)
                  refine lv_goto (tgt := 47) hx hb dX12_text_99 (by decide) ?_
                  exact ih47 (i + 1) (by omega) (by first | assumption | omega) (fun k hk => (Nat.lt_or_ge k i).elim (fun q => hg k q) (fun q => by rw [show k = i by omega, ← hvi]; exact Or.inr hw_23b)) H locs (hP.sub [0, 1, 2, 3, 4, 5] rfl) (hD.sub [0, 1, 2, 3, 4, 5] (by decide) rfl) hS ls (lv_sub hl [0, 2, 3] rfl)
                · refine lv_if_ne (tgt := 96) hx hb dX12_text_87 (by decide) (fun c => absurd c (by decide)) (fun _ => ?_)
                  refine lv_aload_n hx hb dX12_text_90 rfl (lv_at hl 2 rfl) ?_
                  refine lv_iconst (v := 1) hx hb dX12_text_91 (by decide) ?_
                  refine k_Vi [0] [1, 2, 3, 4, 5] 0 12 (wr := [(z 1, .inl (gI g, 461, .inl D)), (z 2, .inl (gI g, 7376, .inl Wk)), (z 3, .inl (gI g, 4, .inl B)), (z 4, .inl (gI g, 4, .inl Z)), (z 5, .inl (gI g, 240, .inl M))]) hx hb hml hown hts hKW hP hD hS hA hl.1 (c_X12_finding_1 l g _ z kp xs ) rfl rfl rfl wd_10_15 wd_1_5 wd_10_12 wd_10_13 wd_10_14 yd_X12_finding ⟨(Nat.le_of_ble_eq_true rfl), (Nat.le_of_ble_eq_true rfl)⟩ rfl rfl rfl rfl (by decide) rfl (Nat.le_of_ble_eq_true rfl) dX12_text_92 ⟨(Nat.le_of_ble_eq_true rfl), (Nat.le_of_ble_eq_true rfl)⟩ (fun r_24 u_25 H locs hw_26 hP hD hS => ?_)
                  have hP : va_P g.1 vwCl [(z 1, .inl (gI g, 461, .inl D)), (z 2, .inl (gI g, 7376, .inl Wk)), (z 3, .inl (gI g, 4, .inl B)), (z 4, .inl (gI g, 4, .inl Z)), (z 5, .inl (gI g, 240, .inl M)), (z 0, .inr (12, [.ref (z 1), .ref (z 2), .int (nI kp), .int u_25, .ref (z 3), .ref (z 4), .ref (z 5), .ref (z 6), .int (xs 1), .ref (z 7), .ref (z 8), .ref (z 9), .ref (z 10), .ref (z 11), .ref (z 12), .int (xs 2), .ref (z 13), .ref (z 14), .int (xs 3), .ref (z 15)]))] H := hP
                  have hD : va_D A [(z 1, .inl (gI g, 461, .inl D)), (z 2, .inl (gI g, 7376, .inl Wk)), (z 3, .inl (gI g, 4, .inl B)), (z 4, .inl (gI g, 4, .inl Z)), (z 5, .inl (gI g, 240, .inl M)), (z 0, .inr (12, [.ref (z 1), .ref (z 2), .int (nI kp), .int u_25, .ref (z 3), .ref (z 4), .ref (z 5), .ref (z 6), .int (xs 1), .ref (z 7), .ref (z 8), .ref (z 9), .ref (z 10), .ref (z 11), .ref (z 12), .int (xs 2), .ref (z 13), .ref (z 14), .int (xs 3), .ref (z 15)]))] := hD
                  have hw_26 : r_24 = (-100001) := hw_26
                  subst hw_26
                  exact k_iret (kp, (fun kk_ => ([u_25, (xs 1), (xs 2), (xs 3)] : List Int32).getD kk_ 0), D, Wk) [5, 0, 1, 2, 3, 4] hx hb hr hlk hP hD hS (⟨(by rw [hT]; unfold aT1; rw [if_neg c_4, if_neg (by omega), if_neg (fun h => by have q := h i (by omega); rw [← hvi] at q; exact q.elim hw_20b hw_23b)]), hkp, hDI, hWI⟩) rfl rfl rfl (Nat.le_of_ble_eq_true rfl) (Nat.le_of_ble_eq_true rfl) dX12_text_95
        exact L47 (60 - 0 + 1) 0 (Nat.lt_succ_self _) (by first | assumption | omega) (fun k hk => absurd hk (by omega)) H locs (hP.sub [0, 1, 2, 3, 4, 5] rfl) (hD.sub [0, 1, 2, 3, 4, 5] (by decide) rfl) hS ls (lv_sub hl [0, 1, 2] rfl)
      · have c_5n : 14 < (sn js) := Nat.not_le.mp (fun h => c_5 ((k_leI (a := (sn js)) (b := 14) (by omega) (by omega)).mpr h))
        refine lv_aload_n hx hb dX12_text_39 rfl (lv_at hl 0 rfl) ?_
        refine lv_iconst (v := 3) hx hb dX12_text_40 (by decide) ?_
        refine k_Vi [0] [1, 2, 3, 4, 5] 0 12 (wr := [(z 1, .inl (gI g, 461, .inl D)), (z 2, .inl (gI g, 7376, .inl Wk)), (z 3, .inl (gI g, 4, .inl B)), (z 4, .inl (gI g, 4, .inl Z)), (z 5, .inl (gI g, 240, .inl M))]) hx hb hml hown hts hKW hP hD hS hA hl.1 (c_X12_finding_3 l g _ z kp xs ) rfl rfl rfl wd_10_15 wd_1_5 wd_10_12 wd_10_13 wd_10_14 yd_X12_finding ⟨(Nat.le_of_ble_eq_true rfl), (Nat.le_of_ble_eq_true rfl)⟩ rfl rfl rfl rfl (by decide) rfl (Nat.le_of_ble_eq_true rfl) dX12_text_41 ⟨(Nat.le_of_ble_eq_true rfl), (Nat.le_of_ble_eq_true rfl)⟩ (fun r_27 u_28 H locs hw_29 hP hD hS => ?_)
        have hP : va_P g.1 vwCl [(z 1, .inl (gI g, 461, .inl D)), (z 2, .inl (gI g, 7376, .inl Wk)), (z 3, .inl (gI g, 4, .inl B)), (z 4, .inl (gI g, 4, .inl Z)), (z 5, .inl (gI g, 240, .inl M)), (z 0, .inr (12, [.ref (z 1), .ref (z 2), .int (nI kp), .int u_28, .ref (z 3), .ref (z 4), .ref (z 5), .ref (z 6), .int (xs 1), .ref (z 7), .ref (z 8), .ref (z 9), .ref (z 10), .ref (z 11), .ref (z 12), .int (xs 2), .ref (z 13), .ref (z 14), .int (xs 3), .ref (z 15)]))] H := hP
        have hD : va_D A [(z 1, .inl (gI g, 461, .inl D)), (z 2, .inl (gI g, 7376, .inl Wk)), (z 3, .inl (gI g, 4, .inl B)), (z 4, .inl (gI g, 4, .inl Z)), (z 5, .inl (gI g, 240, .inl M)), (z 0, .inr (12, [.ref (z 1), .ref (z 2), .int (nI kp), .int u_28, .ref (z 3), .ref (z 4), .ref (z 5), .ref (z 6), .int (xs 1), .ref (z 7), .ref (z 8), .ref (z 9), .ref (z 10), .ref (z 11), .ref (z 12), .int (xs 2), .ref (z 13), .ref (z 14), .int (xs 3), .ref (z 15)]))] := hD
        have hw_29 : r_27 = (-100003) := hw_29
        subst hw_29
        exact k_iret (kp, (fun kk_ => ([u_28, (xs 1), (xs 2), (xs 3)] : List Int32).getD kk_ 0), D, Wk) [5, 0, 1, 2, 3, 4] hx hb hr hlk hP hD hS (⟨(by rw [hT]; unfold aT1; rw [if_neg c_4, if_pos (by omega)]), hkp, hDI, hWI⟩) rfl rfl rfl (Nat.le_of_ble_eq_true rfl) (Nat.le_of_ble_eq_true rfl) dX12_text_44
    · refine lv_aload_n hx hb dX12_text_22 rfl (lv_at hl 0 rfl) ?_
      refine lv_iconst (v := 2) hx hb dX12_text_23 (by decide) ?_
      refine k_Vi [0] [1, 2, 3, 4, 5] 0 12 (wr := [(z 1, .inl (gI g, 461, .inl D)), (z 2, .inl (gI g, 7376, .inl Wk)), (z 3, .inl (gI g, 4, .inl B)), (z 4, .inl (gI g, 4, .inl Z)), (z 5, .inl (gI g, 240, .inl M))]) hx hb hml hown hts hKW hP hD hS hA hl.1 (c_X12_finding_2 l g _ z kp xs ) rfl rfl rfl wd_10_15 wd_1_5 wd_10_12 wd_10_13 wd_10_14 yd_X12_finding ⟨(Nat.le_of_ble_eq_true rfl), (Nat.le_of_ble_eq_true rfl)⟩ rfl rfl rfl rfl (by decide) rfl (Nat.le_of_ble_eq_true rfl) dX12_text_24 ⟨(Nat.le_of_ble_eq_true rfl), (Nat.le_of_ble_eq_true rfl)⟩ (fun r_30 u_31 H locs hw_32 hP hD hS => ?_)
      have hP : va_P g.1 vwCl [(z 1, .inl (gI g, 461, .inl D)), (z 2, .inl (gI g, 7376, .inl Wk)), (z 3, .inl (gI g, 4, .inl B)), (z 4, .inl (gI g, 4, .inl Z)), (z 5, .inl (gI g, 240, .inl M)), (z 0, .inr (12, [.ref (z 1), .ref (z 2), .int (nI kp), .int u_31, .ref (z 3), .ref (z 4), .ref (z 5), .ref (z 6), .int (xs 1), .ref (z 7), .ref (z 8), .ref (z 9), .ref (z 10), .ref (z 11), .ref (z 12), .int (xs 2), .ref (z 13), .ref (z 14), .int (xs 3), .ref (z 15)]))] H := hP
      have hD : va_D A [(z 1, .inl (gI g, 461, .inl D)), (z 2, .inl (gI g, 7376, .inl Wk)), (z 3, .inl (gI g, 4, .inl B)), (z 4, .inl (gI g, 4, .inl Z)), (z 5, .inl (gI g, 240, .inl M)), (z 0, .inr (12, [.ref (z 1), .ref (z 2), .int (nI kp), .int u_31, .ref (z 3), .ref (z 4), .ref (z 5), .ref (z 6), .int (xs 1), .ref (z 7), .ref (z 8), .ref (z 9), .ref (z 10), .ref (z 11), .ref (z 12), .int (xs 2), .ref (z 13), .ref (z 14), .int (xs 3), .ref (z 15)]))] := hD
      have hw_32 : r_30 = (-100002) := hw_32
      subst hw_32
      exact k_iret (kp, (fun kk_ => ([u_31, (xs 1), (xs 2), (xs 3)] : List Int32).getD kk_ 0), D, Wk) [5, 0, 1, 2, 3, 4] hx hb hr hlk hP hD hS (⟨(by rw [hT]; unfold aT1; rw [if_pos c_4]), hkp, hDI, hWI⟩) rfl rfl rfl (Nat.le_of_ble_eq_true rfl) (Nat.le_of_ble_eq_true rfl) dX12_text_27
  · refine lv_if_ne (tgt := 13) hx hb dX12_text_4 (by decide) (fun c => absurd c (by decide)) (fun _ => ?_)
    refine lv_aload_n hx hb dX12_text_7 rfl (lv_at hl 0 rfl) ?_
    refine lv_iconst (v := 1) hx hb dX12_text_8 (by decide) ?_
    refine k_Vi [0] [1, 2, 3, 4, 5] 0 12 (wr := [(z 1, .inl (gI g, 461, .inl D)), (z 2, .inl (gI g, 7376, .inl Wk)), (z 3, .inl (gI g, 4, .inl B)), (z 4, .inl (gI g, 4, .inl Z)), (z 5, .inl (gI g, 240, .inl M))]) hx hb hml hown hts hKW hP hD hS hA hl.1 (c_X12_finding_1 l g _ z kp xs ) rfl rfl rfl wd_10_15 wd_1_5 wd_10_12 wd_10_13 wd_10_14 yd_X12_finding ⟨(Nat.le_of_ble_eq_true rfl), (Nat.le_of_ble_eq_true rfl)⟩ rfl rfl rfl rfl (by decide) rfl (Nat.le_of_ble_eq_true rfl) dX12_text_9 ⟨(Nat.le_of_ble_eq_true rfl), (Nat.le_of_ble_eq_true rfl)⟩ (fun r_33 u_34 H locs hw_35 hP hD hS => ?_)
    have hP : va_P g.1 vwCl [(z 1, .inl (gI g, 461, .inl D)), (z 2, .inl (gI g, 7376, .inl Wk)), (z 3, .inl (gI g, 4, .inl B)), (z 4, .inl (gI g, 4, .inl Z)), (z 5, .inl (gI g, 240, .inl M)), (z 0, .inr (12, [.ref (z 1), .ref (z 2), .int (nI kp), .int u_34, .ref (z 3), .ref (z 4), .ref (z 5), .ref (z 6), .int (xs 1), .ref (z 7), .ref (z 8), .ref (z 9), .ref (z 10), .ref (z 11), .ref (z 12), .int (xs 2), .ref (z 13), .ref (z 14), .int (xs 3), .ref (z 15)]))] H := hP
    have hD : va_D A [(z 1, .inl (gI g, 461, .inl D)), (z 2, .inl (gI g, 7376, .inl Wk)), (z 3, .inl (gI g, 4, .inl B)), (z 4, .inl (gI g, 4, .inl Z)), (z 5, .inl (gI g, 240, .inl M)), (z 0, .inr (12, [.ref (z 1), .ref (z 2), .int (nI kp), .int u_34, .ref (z 3), .ref (z 4), .ref (z 5), .ref (z 6), .int (xs 1), .ref (z 7), .ref (z 8), .ref (z 9), .ref (z 10), .ref (z 11), .ref (z 12), .int (xs 2), .ref (z 13), .ref (z 14), .int (xs 3), .ref (z 15)]))] := hD
    have hw_35 : r_33 = (-100001) := hw_35
    subst hw_35
    exact k_iret (kp, (fun kk_ => ([u_34, (xs 1), (xs 2), (xs 3)] : List Int32).getD kk_ 0), D, Wk) [5, 0, 1, 2, 3, 4] hx hb hr hlk hP hD hS (⟨(by unfold aText; rw [if_neg hw_3b]), hkp, hDI, hWI⟩) rfl rfl rfl (Nat.le_of_ble_eq_true rfl) (Nat.le_of_ble_eq_true rfl) dX12_text_12
theorem dX12_put_0 : decode cX12_put 0 = .ok (.iload_n 1, 1) := by decide +kernel
theorem dX12_put_1 : decode cX12_put 1 = .ok (.invokestatic 168, 3) := by decide +kernel
theorem dX12_put_4 : decode cX12_put 4 = .ok (.ifCond .ne 9, 3) := by decide +kernel
theorem dX12_put_13 : decode cX12_put 13 = .ok (.aload_n 0, 1) := by decide +kernel
theorem dX12_put_14 : decode cX12_put 14 = .ok (.getfield 16, 3) := by decide +kernel
theorem dX12_put_17 : decode cX12_put 17 = .ok (.iload_n 1, 1) := by decide +kernel
theorem dX12_put_18 : decode cX12_put 18 = .ok (.iaload, 1) := by decide +kernel
theorem dX12_put_19 : decode cX12_put 19 = .ok (.ifCond .ne 9, 3) := by decide +kernel
theorem dX12_put_28 : decode cX12_put 28 = .ok (.iload_n 2, 1) := by decide +kernel
theorem dX12_put_29 : decode cX12_put 29 = .ok (.iconst 0, 1) := by decide +kernel
theorem dX12_put_30 : decode cX12_put 30 = .ok (.aload_n 0, 1) := by decide +kernel
theorem dX12_put_31 : decode cX12_put 31 = .ok (.getfield 19, 3) := by decide +kernel
theorem dX12_put_34 : decode cX12_put 34 = .ok (.iload_n 1, 1) := by decide +kernel
theorem dX12_put_35 : decode cX12_put 35 = .ok (.iaload, 1) := by decide +kernel
theorem dX12_put_36 : decode cX12_put 36 = .ok (.iconst 1, 1) := by decide +kernel
theorem dX12_put_37 : decode cX12_put 37 = .ok (.isub, 1) := by decide +kernel
theorem dX12_put_38 : decode cX12_put 38 = .ok (.invokestatic 64, 3) := by decide +kernel
theorem dX12_put_41 : decode cX12_put 41 = .ok (.ifCond .ne 9, 3) := by decide +kernel
theorem dX12_put_50 : decode cX12_put 50 = .ok (.aload_n 0, 1) := by decide +kernel
theorem dX12_put_51 : decode cX12_put 51 = .ok (.getfield 22, 3) := by decide +kernel
theorem dX12_put_54 : decode cX12_put 54 = .ok (.bipush 60, 2) := by decide +kernel
theorem dX12_put_56 : decode cX12_put 56 = .ok (.iload_n 1, 1) := by decide +kernel
theorem dX12_put_57 : decode cX12_put 57 = .ok (.imul, 1) := by decide +kernel
theorem dX12_put_58 : decode cX12_put 58 = .ok (.iload_n 2, 1) := by decide +kernel
theorem dX12_put_59 : decode cX12_put 59 = .ok (.iadd, 1) := by decide +kernel
theorem dX12_put_60 : decode cX12_put 60 = .ok (.iload_n 3, 1) := by decide +kernel
theorem dX12_put_61 : decode cX12_put 61 = .ok (.aload_n 0, 1) := by decide +kernel
theorem dX12_put_62 : decode cX12_put 62 = .ok (.getfield 16, 3) := by decide +kernel
theorem dX12_put_65 : decode cX12_put 65 = .ok (.iload_n 1, 1) := by decide +kernel
theorem dX12_put_66 : decode cX12_put 66 = .ok (.iaload, 1) := by decide +kernel
theorem dX12_put_67 : decode cX12_put 67 = .ok (.invokestatic 190, 3) := by decide +kernel
theorem dX12_put_70 : decode cX12_put 70 = .ok (.iastore, 1) := by decide +kernel
theorem dX12_put_71 : decode cX12_put 71 = .ok (.iconst 0, 1) := by decide +kernel
theorem dX12_put_72 : decode cX12_put 72 = .ok (.ireturn, 1) := by decide +kernel
theorem dX12_put_44 : decode cX12_put 44 = .ok (.aload_n 0, 1) := by decide +kernel
theorem dX12_put_45 : decode cX12_put 45 = .ok (.iconst 1, 1) := by decide +kernel
theorem dX12_put_46 : decode cX12_put 46 = .ok (.invokevirtual 68, 3) := by decide +kernel
theorem dX12_put_49 : decode cX12_put 49 = .ok (.ireturn, 1) := by decide +kernel
theorem dX12_put_22 : decode cX12_put 22 = .ok (.aload_n 0, 1) := by decide +kernel
theorem dX12_put_23 : decode cX12_put 23 = .ok (.iconst 2, 1) := by decide +kernel
theorem dX12_put_24 : decode cX12_put 24 = .ok (.invokevirtual 68, 3) := by decide +kernel
theorem dX12_put_27 : decode cX12_put 27 = .ok (.ireturn, 1) := by decide +kernel
theorem dX12_put_7 : decode cX12_put 7 = .ok (.aload_n 0, 1) := by decide +kernel
theorem dX12_put_8 : decode cX12_put 8 = .ok (.iconst 1, 1) := by decide +kernel
theorem dX12_put_9 : decode cX12_put 9 = .ok (.invokevirtual 68, 3) := by decide +kernel
theorem dX12_put_12 : decode cX12_put 12 = .ok (.ireturn, 1) := by decide +kernel
set_option maxHeartbeats 8000000 in
set_option maxRecDepth 100000 in
theorem c_X12_put (l : Launch) (g : kG) (sz : Nat) (z : Nat → Nat) (kp : Nat) (xs : Nat → Int32) (B : Nat → Int32) (Z : Nat → Int32) (M : Nat → Int32) (sn : Nat → Nat) (x : Int32) (y : Int32) (w : Int32) (hZ : ∀ j, j < 4 → Z j = nI (sn j) ∧ sn j ≤ 60) : kMi l g yX12_put cX12_put 4 (some .int) 3 0 0 [.ref (z 0), .int x, .int y, .int w] sz [(z 0, .inr (12, [.ref (z 1), .ref (z 2), .int (nI kp), .int (xs 0), .ref (z 3), .ref (z 4), .ref (z 5), .ref (z 6), .int (xs 1), .ref (z 7), .ref (z 8), .ref (z 9), .ref (z 10), .ref (z 11), .ref (z 12), .int (xs 2), .ref (z 13), .ref (z 14), .int (xs 3), .ref (z 15)])), (z 3, .inl (gI g, 4, .inl B)), (z 4, .inl (gI g, 4, .inl Z)), (z 5, .inl (gI g, 240, .inl M))] (fun (r : Int32) (u : (Nat → Int32) × (Nat → Int32)) => (r = aPut x y B sn) ∧ (PutR x y w B sn (kSF M) (kSF u.2))) (fun (u : (Nat → Int32) × (Nat → Int32)) => ([(z 0, .inr (12, [.ref (z 1), .ref (z 2), .int (nI kp), .int (u.1 0), .ref (z 3), .ref (z 4), .ref (z 5), .ref (z 6), .int (u.1 1), .ref (z 7), .ref (z 8), .ref (z 9), .ref (z 10), .ref (z 11), .ref (z 12), .int (u.1 2), .ref (z 13), .ref (z 14), .int (u.1 3), .ref (z 15)])), (z 3, .inl (gI g, 4, .inl B)), (z 4, .inl (gI g, 4, .inl Z)), (z 5, .inl (gI g, 240, .inl u.2))] : va_W)) := by
  refine kMi.of (by decide) (Nat.le_of_ble_eq_true rfl) (fun p e s m below meth c A hx hb hr hml hown hts hlk hnm hKW hP hD hS hA ls hl => ?_)
  have hown : s.vm.findClass RX12 = some m.cls := hown
  have hl : lv_has ls 4 [(0, .ref (z 0)), (1, .int x), (2, .int y), (3, .int w)] := hl
  refine k_hide hP hS (fun H locs hP hS => ?_)
  refine lv_iload_n hx hb dX12_put_0 rfl (lv_at hl 1 rfl) ?_
  refine k_Si [] [0, 1, 2, 3] (wr := [(z 0, .inr (12, [.ref (z 1), .ref (z 2), .int (nI kp), .int (xs 0), .ref (z 3), .ref (z 4), .ref (z 5), .ref (z 6), .int (xs 1), .ref (z 7), .ref (z 8), .ref (z 9), .ref (z 10), .ref (z 11), .ref (z 12), .int (xs 2), .ref (z 13), .ref (z 14), .int (xs 3), .ref (z 15)])), (z 3, .inl (gI g, 4, .inl B)), (z 4, .inl (gI g, 4, .inl Z)), (z 5, .inl (gI g, 240, .inl M))]) hx hb hml hown hts hKW hP hD hS hA hl.1 (c_X12_isSheet l g _ x ) wd_38_14 wd_1_5 wd_38_12 wd_38_13 yd_X12_isSheet ⟨(Nat.le_of_ble_eq_true rfl), (Nat.le_of_ble_eq_true rfl)⟩ rfl rfl rfl rfl (by decide) rfl (Nat.le_of_ble_eq_true rfl) dX12_put_1 ⟨(Nat.le_of_ble_eq_true rfl), (Nat.le_of_ble_eq_true rfl)⟩ (fun r_1 u_2 H locs hw_3 hP hD hS => ?_)
  have hP : va_P g.1 vwCl [(z 0, .inr (12, [.ref (z 1), .ref (z 2), .int (nI kp), .int (xs 0), .ref (z 3), .ref (z 4), .ref (z 5), .ref (z 6), .int (xs 1), .ref (z 7), .ref (z 8), .ref (z 9), .ref (z 10), .ref (z 11), .ref (z 12), .int (xs 2), .ref (z 13), .ref (z 14), .int (xs 3), .ref (z 15)])), (z 3, .inl (gI g, 4, .inl B)), (z 4, .inl (gI g, 4, .inl Z)), (z 5, .inl (gI g, 240, .inl M))] H := hP
  have hD : va_D A [(z 0, .inr (12, [.ref (z 1), .ref (z 2), .int (nI kp), .int (xs 0), .ref (z 3), .ref (z 4), .ref (z 5), .ref (z 6), .int (xs 1), .ref (z 7), .ref (z 8), .ref (z 9), .ref (z 10), .ref (z 11), .ref (z 12), .int (xs 2), .ref (z 13), .ref (z 14), .int (xs 3), .ref (z 15)])), (z 3, .inl (gI g, 4, .inl B)), (z 4, .inl (gI g, 4, .inl Z)), (z 5, .inl (gI g, 240, .inl M))] := hD
  rcases (show (r_1 = 1 ∧ ((0 : Int) ≤ Int32.toInt x ∧ Int32.toInt x ≤ 3)) ∨ (r_1 = 0 ∧ ¬ ((0 : Int) ≤ Int32.toInt x ∧ Int32.toInt x ≤ 3)) from hw_3) with ⟨rfl, hw_3b⟩ | ⟨rfl, hw_3b⟩ <;> clear hw_3
  · refine lv_if_ne (tgt := 13) hx hb dX12_put_4 (by decide) (fun _ => ?_) (fun c => absurd c (by decide))
    obtain ⟨js, hjs, rfl⟩ := k_ofr (x := x) (n := 4) (by decide) (by have q := hw_3b; omega)
    refine lv_aload_n hx hb dX12_put_13 rfl (lv_at hl 0 rfl) ?_
    have hsz := (hZ js hjs).2
    have hT : aPut (nI js) y B sn = aP1 (B js) (sn js) y := by unfold aPut; rw [if_pos (by rw [k_nIi (by omega)]; omega), nI_clamp (by omega)]
    refine va_get (ci := 12) (C := RX12) (T := TX12) (N := 20) hx hb hts inlX12 hown hKW.1 hP 0 rfl rfl 4 (by decide) (hts _ wd_6_7) (fun _ h => h) rfl dX12_put_14 ?_
    refine lv_iload_n hx hb dX12_put_17 rfl (lv_at hl 1 rfl) ?_
    refine va_iald hx hb hKW.1 hP 1 0 rfl rfl (vp_in_nI (by omega) (by decide)) dX12_put_18 ?_
    refine k_top (y := B js) (by rw [nI_clamp (by omega)]) ?_
    refine lv_if_ne (tgt := 28) hx hb dX12_put_19 (by decide) (fun c_4 => ?_) (fun c_4 => ?_)
    · refine lv_iload_n hx hb dX12_put_28 rfl (lv_at hl 2 rfl) ?_
      refine lv_iconst (v := 0) hx hb dX12_put_29 (by decide) ?_
      refine lv_aload_n hx hb dX12_put_30 rfl (lv_at hl 0 rfl) ?_
      refine va_get (ci := 12) (C := RX12) (T := TX12) (N := 20) hx hb hts inlX12 hown hKW.1 hP 0 rfl rfl 5 (by decide) (hts _ wd_6_8) (fun _ h => h) rfl dX12_put_31 ?_
      refine lv_iload_n hx hb dX12_put_34 rfl (lv_at hl 1 rfl) ?_
      refine va_iald hx hb hKW.1 hP 2 0 rfl rfl (vp_in_nI (by omega) (by decide)) dX12_put_35 ?_
      refine k_top (y := nI (sn js)) (by rw [nI_clamp (by omega)]; exact (hZ js hjs).1) ?_
      refine lv_iconst (v := 1) hx hb dX12_put_36 (by decide) ?_
      refine lv_isub hx hb dX12_put_37 ?_
      refine lv_topi (fun x_5 ex_5 => ?_)
      have hxz : Int32.toInt x_5 = (sn js : Int) - 1 := by rw [ex_5, show nI (sn js) - 1 = nI (sn js) - nI 1 from rfl, pk_sub_toInt (by omega) (by decide)]; rfl
      refine k_Si [] [0, 1, 2, 3] (wr := [(z 0, .inr (12, [.ref (z 1), .ref (z 2), .int (nI kp), .int (xs 0), .ref (z 3), .ref (z 4), .ref (z 5), .ref (z 6), .int (xs 1), .ref (z 7), .ref (z 8), .ref (z 9), .ref (z 10), .ref (z 11), .ref (z 12), .int (xs 2), .ref (z 13), .ref (z 14), .int (xs 3), .ref (z 15)])), (z 3, .inl (gI g, 4, .inl B)), (z 4, .inl (gI g, 4, .inl Z)), (z 5, .inl (gI g, 240, .inl M))]) hx hb hml hown hts hKW hP hD hS hA hl.1 (c_X12_isIn l g _ y 0 x_5 ) wd_10_11 wd_1_5 wd_10_9 wd_10_10 yd_X12_isIn ⟨(Nat.le_of_ble_eq_true rfl), (Nat.le_of_ble_eq_true rfl)⟩ rfl rfl rfl rfl (by decide) rfl (Nat.le_of_ble_eq_true rfl) dX12_put_38 ⟨(Nat.le_of_ble_eq_true rfl), (Nat.le_of_ble_eq_true rfl)⟩ (fun r_6 u_7 H locs hw_8 hP hD hS => ?_)
      have hP : va_P g.1 vwCl [(z 0, .inr (12, [.ref (z 1), .ref (z 2), .int (nI kp), .int (xs 0), .ref (z 3), .ref (z 4), .ref (z 5), .ref (z 6), .int (xs 1), .ref (z 7), .ref (z 8), .ref (z 9), .ref (z 10), .ref (z 11), .ref (z 12), .int (xs 2), .ref (z 13), .ref (z 14), .int (xs 3), .ref (z 15)])), (z 3, .inl (gI g, 4, .inl B)), (z 4, .inl (gI g, 4, .inl Z)), (z 5, .inl (gI g, 240, .inl M))] H := hP
      have hD : va_D A [(z 0, .inr (12, [.ref (z 1), .ref (z 2), .int (nI kp), .int (xs 0), .ref (z 3), .ref (z 4), .ref (z 5), .ref (z 6), .int (xs 1), .ref (z 7), .ref (z 8), .ref (z 9), .ref (z 10), .ref (z 11), .ref (z 12), .int (xs 2), .ref (z 13), .ref (z 14), .int (xs 3), .ref (z 15)])), (z 3, .inl (gI g, 4, .inl B)), (z 4, .inl (gI g, 4, .inl Z)), (z 5, .inl (gI g, 240, .inl M))] := hD
      rcases (show (r_6 = 1 ∧ (Int32.toInt 0 ≤ Int32.toInt y ∧ Int32.toInt y ≤ Int32.toInt x_5)) ∨ (r_6 = 0 ∧ ¬ (Int32.toInt 0 ≤ Int32.toInt y ∧ Int32.toInt y ≤ Int32.toInt x_5)) from hw_8) with ⟨rfl, hw_8b⟩ | ⟨rfl, hw_8b⟩ <;> clear hw_8
      · refine lv_if_ne (tgt := 50) hx hb dX12_put_41 (by decide) (fun _ => ?_) (fun c => absurd c (by decide))
        obtain ⟨jy, hjy, rfl⟩ := k_ofr (x := y) (n := sn js) (by omega) (by have q := hw_8b; rw [hxz, show Int32.toInt 0 = (0 : Int) from rfl] at q; omega)
        refine lv_aload_n hx hb dX12_put_50 rfl (lv_at hl 0 rfl) ?_
        refine va_get (ci := 12) (C := RX12) (T := TX12) (N := 20) hx hb hts inlX12 hown hKW.1 hP 0 rfl rfl 6 (by decide) (hts _ wd_6_9) (fun _ h => h) rfl dX12_put_51 ?_
        refine lv_bipush (v := 60) hx hb dX12_put_54 (by decide) ?_
        refine lv_iload_n hx hb dX12_put_56 rfl (lv_at hl 1 rfl) ?_
        refine lv_imul hx hb dX12_put_57 ?_
        refine k_top (y := nI (60 * js)) (show (60 : Int32) * nI js = nI (60 * js) from k_nmul 60 js) ?_
        refine lv_iload_n hx hb dX12_put_58 rfl (lv_at hl 2 rfl) ?_
        refine lv_iadd hx hb dX12_put_59 ?_
        refine k_top (y := nI ((60 * js) + jy)) (nI_add (60 * js) jy) ?_
        refine lv_iload_n hx hb dX12_put_60 rfl (lv_at hl 3 rfl) ?_
        refine lv_aload_n hx hb dX12_put_61 rfl (lv_at hl 0 rfl) ?_
        refine va_get (ci := 12) (C := RX12) (T := TX12) (N := 20) hx hb hts inlX12 hown hKW.1 hP 0 rfl rfl 4 (by decide) (hts _ wd_6_7) (fun _ h => h) rfl dX12_put_62 ?_
        refine lv_iload_n hx hb dX12_put_65 rfl (lv_at hl 1 rfl) ?_
        refine va_iald hx hb hKW.1 hP 1 0 rfl rfl (vp_in_nI (by omega) (by decide)) dX12_put_66 ?_
        refine k_top (y := B js) (by rw [nI_clamp (by omega)]) ?_
        refine k_Si [] [0, 1, 2, 3] (wr := [(z 0, .inr (12, [.ref (z 1), .ref (z 2), .int (nI kp), .int (xs 0), .ref (z 3), .ref (z 4), .ref (z 5), .ref (z 6), .int (xs 1), .ref (z 7), .ref (z 8), .ref (z 9), .ref (z 10), .ref (z 11), .ref (z 12), .int (xs 2), .ref (z 13), .ref (z 14), .int (xs 3), .ref (z 15)])), (z 3, .inl (gI g, 4, .inl B)), (z 4, .inl (gI g, 4, .inl Z)), (z 5, .inl (gI g, 240, .inl M))]) hx hb hml hown hts hKW hP hD hS hA hl.1 (c_X12_lowest l g _ w (B js) ) wd_47_3 wd_1_5 wd_47_1 wd_47_2 yd_X12_lowest ⟨(Nat.le_of_ble_eq_true rfl), (Nat.le_of_ble_eq_true rfl)⟩ rfl rfl rfl rfl (by decide) rfl (Nat.le_of_ble_eq_true rfl) dX12_put_67 ⟨(Nat.le_of_ble_eq_true rfl), (Nat.le_of_ble_eq_true rfl)⟩ (fun r_9 u_10 H locs hw_11 hP hD hS => ?_)
        have hP : va_P g.1 vwCl [(z 0, .inr (12, [.ref (z 1), .ref (z 2), .int (nI kp), .int (xs 0), .ref (z 3), .ref (z 4), .ref (z 5), .ref (z 6), .int (xs 1), .ref (z 7), .ref (z 8), .ref (z 9), .ref (z 10), .ref (z 11), .ref (z 12), .int (xs 2), .ref (z 13), .ref (z 14), .int (xs 3), .ref (z 15)])), (z 3, .inl (gI g, 4, .inl B)), (z 4, .inl (gI g, 4, .inl Z)), (z 5, .inl (gI g, 240, .inl M))] H := hP
        have hD : va_D A [(z 0, .inr (12, [.ref (z 1), .ref (z 2), .int (nI kp), .int (xs 0), .ref (z 3), .ref (z 4), .ref (z 5), .ref (z 6), .int (xs 1), .ref (z 7), .ref (z 8), .ref (z 9), .ref (z 10), .ref (z 11), .ref (z 12), .int (xs 2), .ref (z 13), .ref (z 14), .int (xs 3), .ref (z 15)])), (z 3, .inl (gI g, 4, .inl B)), (z 4, .inl (gI g, 4, .inl Z)), (z 5, .inl (gI g, 240, .inl M))] := hD
        have hw_11 : r_9 = lowB (B js) w := hw_11
        subst hw_11
        refine va_iast hx hb hKW.1 hP hD hS 3 0 rfl rfl (vp_in_nI (by omega) (by decide)) dX12_put_70 (fun H locs hP hD hS => ?_)
        have hP : va_P g.1 vwCl [(z 0, .inr (12, [.ref (z 1), .ref (z 2), .int (nI kp), .int (xs 0), .ref (z 3), .ref (z 4), .ref (z 5), .ref (z 6), .int (xs 1), .ref (z 7), .ref (z 8), .ref (z 9), .ref (z 10), .ref (z 11), .ref (z 12), .int (xs 2), .ref (z 13), .ref (z 14), .int (xs 3), .ref (z 15)])), (z 3, .inl (gI g, 4, .inl B)), (z 4, .inl (gI g, 4, .inl Z)), (z 5, .inl (gI g, 240, .inl (upd M (nI ((60 * js) + jy)).toNatClampNeg (lowB (B js) w))))] H := hP
        have hD : va_D A [(z 0, .inr (12, [.ref (z 1), .ref (z 2), .int (nI kp), .int (xs 0), .ref (z 3), .ref (z 4), .ref (z 5), .ref (z 6), .int (xs 1), .ref (z 7), .ref (z 8), .ref (z 9), .ref (z 10), .ref (z 11), .ref (z 12), .int (xs 2), .ref (z 13), .ref (z 14), .int (xs 3), .ref (z 15)])), (z 3, .inl (gI g, 4, .inl B)), (z 4, .inl (gI g, 4, .inl Z)), (z 5, .inl (gI g, 240, .inl (upd M (nI ((60 * js) + jy)).toNatClampNeg (lowB (B js) w))))] := hD
        obtain ⟨f_12, ef_12⟩ : ∃ zz_ : Nat → Int32, zz_ = upd M (nI ((60 * js) + jy)).toNatClampNeg (lowB (B js) w) := ⟨_, rfl⟩
        rw [← ef_12] at hP hD
        refine lv_iconst (v := 0) hx hb dX12_put_71 (by decide) ?_
        have hres : 0 = aPut (nI js) (nI jy) B sn := (by rw [hT]; unfold aP1; rw [if_neg c_4, if_pos (by rw [k_nIi (by omega)]; omega)])
        exact k_iret (xs, f_12) [0, 1, 2, 3] hx hb hr hlk hP hD hS (⟨hres, Or.inl ⟨hres.symm, js, jy, hjs, by omega, rfl, rfl, k_putM ef_12 hjs (by omega)⟩⟩) rfl rfl rfl (Nat.le_of_ble_eq_true rfl) (Nat.le_of_ble_eq_true rfl) dX12_put_72
      · refine lv_if_ne (tgt := 50) hx hb dX12_put_41 (by decide) (fun c => absurd c (by decide)) (fun _ => ?_)
        have hyr : ¬ ((0 : Int) ≤ y.toInt ∧ y.toInt < sn js) := by have q := hw_8b; rw [hxz, show Int32.toInt 0 = (0 : Int) from rfl] at q; omega
        refine lv_aload_n hx hb dX12_put_44 rfl (lv_at hl 0 rfl) ?_
        refine lv_iconst (v := 1) hx hb dX12_put_45 (by decide) ?_
        refine k_Vi [0] [1, 2, 3] 0 12 (wr := [(z 3, .inl (gI g, 4, .inl B)), (z 4, .inl (gI g, 4, .inl Z)), (z 5, .inl (gI g, 240, .inl M))]) hx hb hml hown hts hKW hP hD hS hA hl.1 (c_X12_finding_1 l g _ z kp xs ) rfl rfl rfl wd_10_15 wd_1_5 wd_10_12 wd_10_13 wd_10_14 yd_X12_finding ⟨(Nat.le_of_ble_eq_true rfl), (Nat.le_of_ble_eq_true rfl)⟩ rfl rfl rfl rfl (by decide) rfl (Nat.le_of_ble_eq_true rfl) dX12_put_46 ⟨(Nat.le_of_ble_eq_true rfl), (Nat.le_of_ble_eq_true rfl)⟩ (fun r_13 u_14 H locs hw_15 hP hD hS => ?_)
        have hP : va_P g.1 vwCl [(z 3, .inl (gI g, 4, .inl B)), (z 4, .inl (gI g, 4, .inl Z)), (z 5, .inl (gI g, 240, .inl M)), (z 0, .inr (12, [.ref (z 1), .ref (z 2), .int (nI kp), .int u_14, .ref (z 3), .ref (z 4), .ref (z 5), .ref (z 6), .int (xs 1), .ref (z 7), .ref (z 8), .ref (z 9), .ref (z 10), .ref (z 11), .ref (z 12), .int (xs 2), .ref (z 13), .ref (z 14), .int (xs 3), .ref (z 15)]))] H := hP
        have hD : va_D A [(z 3, .inl (gI g, 4, .inl B)), (z 4, .inl (gI g, 4, .inl Z)), (z 5, .inl (gI g, 240, .inl M)), (z 0, .inr (12, [.ref (z 1), .ref (z 2), .int (nI kp), .int u_14, .ref (z 3), .ref (z 4), .ref (z 5), .ref (z 6), .int (xs 1), .ref (z 7), .ref (z 8), .ref (z 9), .ref (z 10), .ref (z 11), .ref (z 12), .int (xs 2), .ref (z 13), .ref (z 14), .int (xs 3), .ref (z 15)]))] := hD
        have hw_15 : r_13 = (-100001) := hw_15
        subst hw_15
        have hres : (-100001) = aPut (nI js) y B sn := (by rw [hT]; unfold aP1; rw [if_neg c_4, if_neg hyr])
        exact k_iret ((fun kk_ => ([u_14, (xs 1), (xs 2), (xs 3)] : List Int32).getD kk_ 0), M) [3, 0, 1, 2] hx hb hr hlk hP hD hS (⟨hres, Or.inr ⟨by rw [← hres]; decide, fun _ _ _ _ => rfl⟩⟩) rfl rfl rfl (Nat.le_of_ble_eq_true rfl) (Nat.le_of_ble_eq_true rfl) dX12_put_49
    · refine lv_aload_n hx hb dX12_put_22 rfl (lv_at hl 0 rfl) ?_
      refine lv_iconst (v := 2) hx hb dX12_put_23 (by decide) ?_
      refine k_Vi [0] [1, 2, 3] 0 12 (wr := [(z 3, .inl (gI g, 4, .inl B)), (z 4, .inl (gI g, 4, .inl Z)), (z 5, .inl (gI g, 240, .inl M))]) hx hb hml hown hts hKW hP hD hS hA hl.1 (c_X12_finding_2 l g _ z kp xs ) rfl rfl rfl wd_10_15 wd_1_5 wd_10_12 wd_10_13 wd_10_14 yd_X12_finding ⟨(Nat.le_of_ble_eq_true rfl), (Nat.le_of_ble_eq_true rfl)⟩ rfl rfl rfl rfl (by decide) rfl (Nat.le_of_ble_eq_true rfl) dX12_put_24 ⟨(Nat.le_of_ble_eq_true rfl), (Nat.le_of_ble_eq_true rfl)⟩ (fun r_16 u_17 H locs hw_18 hP hD hS => ?_)
      have hP : va_P g.1 vwCl [(z 3, .inl (gI g, 4, .inl B)), (z 4, .inl (gI g, 4, .inl Z)), (z 5, .inl (gI g, 240, .inl M)), (z 0, .inr (12, [.ref (z 1), .ref (z 2), .int (nI kp), .int u_17, .ref (z 3), .ref (z 4), .ref (z 5), .ref (z 6), .int (xs 1), .ref (z 7), .ref (z 8), .ref (z 9), .ref (z 10), .ref (z 11), .ref (z 12), .int (xs 2), .ref (z 13), .ref (z 14), .int (xs 3), .ref (z 15)]))] H := hP
      have hD : va_D A [(z 3, .inl (gI g, 4, .inl B)), (z 4, .inl (gI g, 4, .inl Z)), (z 5, .inl (gI g, 240, .inl M)), (z 0, .inr (12, [.ref (z 1), .ref (z 2), .int (nI kp), .int u_17, .ref (z 3), .ref (z 4), .ref (z 5), .ref (z 6), .int (xs 1), .ref (z 7), .ref (z 8), .ref (z 9), .ref (z 10), .ref (z 11), .ref (z 12), .int (xs 2), .ref (z 13), .ref (z 14), .int (xs 3), .ref (z 15)]))] := hD
      have hw_18 : r_16 = (-100002) := hw_18
      subst hw_18
      have hres : (-100002) = aPut (nI js) y B sn := (by rw [hT]; unfold aP1; rw [if_pos c_4])
      exact k_iret ((fun kk_ => ([u_17, (xs 1), (xs 2), (xs 3)] : List Int32).getD kk_ 0), M) [3, 0, 1, 2] hx hb hr hlk hP hD hS (⟨hres, Or.inr ⟨by rw [← hres]; decide, fun _ _ _ _ => rfl⟩⟩) rfl rfl rfl (Nat.le_of_ble_eq_true rfl) (Nat.le_of_ble_eq_true rfl) dX12_put_27
  · refine lv_if_ne (tgt := 13) hx hb dX12_put_4 (by decide) (fun c => absurd c (by decide)) (fun _ => ?_)
    refine lv_aload_n hx hb dX12_put_7 rfl (lv_at hl 0 rfl) ?_
    refine lv_iconst (v := 1) hx hb dX12_put_8 (by decide) ?_
    refine k_Vi [0] [1, 2, 3] 0 12 (wr := [(z 3, .inl (gI g, 4, .inl B)), (z 4, .inl (gI g, 4, .inl Z)), (z 5, .inl (gI g, 240, .inl M))]) hx hb hml hown hts hKW hP hD hS hA hl.1 (c_X12_finding_1 l g _ z kp xs ) rfl rfl rfl wd_10_15 wd_1_5 wd_10_12 wd_10_13 wd_10_14 yd_X12_finding ⟨(Nat.le_of_ble_eq_true rfl), (Nat.le_of_ble_eq_true rfl)⟩ rfl rfl rfl rfl (by decide) rfl (Nat.le_of_ble_eq_true rfl) dX12_put_9 ⟨(Nat.le_of_ble_eq_true rfl), (Nat.le_of_ble_eq_true rfl)⟩ (fun r_19 u_20 H locs hw_21 hP hD hS => ?_)
    have hP : va_P g.1 vwCl [(z 3, .inl (gI g, 4, .inl B)), (z 4, .inl (gI g, 4, .inl Z)), (z 5, .inl (gI g, 240, .inl M)), (z 0, .inr (12, [.ref (z 1), .ref (z 2), .int (nI kp), .int u_20, .ref (z 3), .ref (z 4), .ref (z 5), .ref (z 6), .int (xs 1), .ref (z 7), .ref (z 8), .ref (z 9), .ref (z 10), .ref (z 11), .ref (z 12), .int (xs 2), .ref (z 13), .ref (z 14), .int (xs 3), .ref (z 15)]))] H := hP
    have hD : va_D A [(z 3, .inl (gI g, 4, .inl B)), (z 4, .inl (gI g, 4, .inl Z)), (z 5, .inl (gI g, 240, .inl M)), (z 0, .inr (12, [.ref (z 1), .ref (z 2), .int (nI kp), .int u_20, .ref (z 3), .ref (z 4), .ref (z 5), .ref (z 6), .int (xs 1), .ref (z 7), .ref (z 8), .ref (z 9), .ref (z 10), .ref (z 11), .ref (z 12), .int (xs 2), .ref (z 13), .ref (z 14), .int (xs 3), .ref (z 15)]))] := hD
    have hw_21 : r_19 = (-100001) := hw_21
    subst hw_21
    have hres : (-100001) = aPut x y B sn := (by unfold aPut; rw [if_neg hw_3b])
    exact k_iret ((fun kk_ => ([u_20, (xs 1), (xs 2), (xs 3)] : List Int32).getD kk_ 0), M) [3, 0, 1, 2] hx hb hr hlk hP hD hS (⟨hres, Or.inr ⟨by rw [← hres]; decide, fun _ _ _ _ => rfl⟩⟩) rfl rfl rfl (Nat.le_of_ble_eq_true rfl) (Nat.le_of_ble_eq_true rfl) dX12_put_12
theorem dX12_sheet_0 : decode cX12_sheet 0 = .ok (.iload_n 1, 1) := by decide +kernel
theorem dX12_sheet_1 : decode cX12_sheet 1 = .ok (.invokestatic 168, 3) := by decide +kernel
theorem dX12_sheet_4 : decode cX12_sheet 4 = .ok (.ifCond .eq 25, 3) := by decide +kernel
theorem dX12_sheet_7 : decode cX12_sheet 7 = .ok (.iload_n 2, 1) := by decide +kernel
theorem dX12_sheet_8 : decode cX12_sheet 8 = .ok (.ifCond .eq 27, 3) := by decide +kernel
theorem dX12_sheet_35 : decode cX12_sheet 35 = .ok (.iload_n 3, 1) := by decide +kernel
theorem dX12_sheet_36 : decode cX12_sheet 36 = .ok (.ifCond .ge 9, 3) := by decide +kernel
theorem dX12_sheet_45 : decode cX12_sheet 45 = .ok (.iload_n 3, 1) := by decide +kernel
theorem dX12_sheet_46 : decode cX12_sheet 46 = .ok (.bipush 60, 2) := by decide +kernel
theorem dX12_sheet_48 : decode cX12_sheet 48 = .ok (.if_icmp .le 9, 3) := by decide +kernel
theorem dX12_sheet_57 : decode cX12_sheet 57 = .ok (.aload_n 0, 1) := by decide +kernel
theorem dX12_sheet_58 : decode cX12_sheet 58 = .ok (.getfield 16, 3) := by decide +kernel
theorem dX12_sheet_61 : decode cX12_sheet 61 = .ok (.iload_n 1, 1) := by decide +kernel
theorem dX12_sheet_62 : decode cX12_sheet 62 = .ok (.iload_n 2, 1) := by decide +kernel
theorem dX12_sheet_63 : decode cX12_sheet 63 = .ok (.iastore, 1) := by decide +kernel
theorem dX12_sheet_64 : decode cX12_sheet 64 = .ok (.aload_n 0, 1) := by decide +kernel
theorem dX12_sheet_65 : decode cX12_sheet 65 = .ok (.getfield 19, 3) := by decide +kernel
theorem dX12_sheet_68 : decode cX12_sheet 68 = .ok (.iload_n 1, 1) := by decide +kernel
theorem dX12_sheet_69 : decode cX12_sheet 69 = .ok (.iload_n 2, 1) := by decide +kernel
theorem dX12_sheet_70 : decode cX12_sheet 70 = .ok (.ifCond .ne 7, 3) := by decide +kernel
theorem dX12_sheet_73 : decode cX12_sheet 73 = .ok (.iconst 0, 1) := by decide +kernel
theorem dX12_sheet_74 : decode cX12_sheet 74 = .ok (.goto 4, 3) := by decide +kernel
theorem dX12_sheet_78 : decode cX12_sheet 78 = .ok (.iastore, 1) := by decide +kernel
theorem dX12_sheet_79 : decode cX12_sheet 79 = .ok (.iconst 0, 1) := by decide +kernel
theorem dX12_sheet_80 : decode cX12_sheet 80 = .ok (.istore 4, 2) := by decide +kernel
theorem dX12_sheet_82 : decode cX12_sheet 82 = .ok (.iload 4, 2) := by decide +kernel
theorem dX12_sheet_84 : decode cX12_sheet 84 = .ok (.bipush 60, 2) := by decide +kernel
theorem dX12_sheet_86 : decode cX12_sheet 86 = .ok (.if_icmp .ge 22, 3) := by decide +kernel
theorem dX12_sheet_108 : decode cX12_sheet 108 = .ok (.iload_n 2, 1) := by decide +kernel
theorem dX12_sheet_109 : decode cX12_sheet 109 = .ok (.ifCond .ne 7, 3) := by decide +kernel
theorem dX12_sheet_112 : decode cX12_sheet 112 = .ok (.iconst 0, 1) := by decide +kernel
theorem dX12_sheet_113 : decode cX12_sheet 113 = .ok (.goto 4, 3) := by decide +kernel
theorem dX12_sheet_117 : decode cX12_sheet 117 = .ok (.ireturn, 1) := by decide +kernel
theorem dX12_sheet_89 : decode cX12_sheet 89 = .ok (.aload_n 0, 1) := by decide +kernel
theorem dX12_sheet_90 : decode cX12_sheet 90 = .ok (.getfield 22, 3) := by decide +kernel
theorem dX12_sheet_93 : decode cX12_sheet 93 = .ok (.bipush 60, 2) := by decide +kernel
theorem dX12_sheet_95 : decode cX12_sheet 95 = .ok (.iload_n 1, 1) := by decide +kernel
theorem dX12_sheet_96 : decode cX12_sheet 96 = .ok (.imul, 1) := by decide +kernel
theorem dX12_sheet_97 : decode cX12_sheet 97 = .ok (.iload 4, 2) := by decide +kernel
theorem dX12_sheet_99 : decode cX12_sheet 99 = .ok (.iadd, 1) := by decide +kernel
theorem dX12_sheet_100 : decode cX12_sheet 100 = .ok (.iconst 0, 1) := by decide +kernel
theorem dX12_sheet_101 : decode cX12_sheet 101 = .ok (.iastore, 1) := by decide +kernel
theorem dX12_sheet_102 : decode cX12_sheet 102 = .ok (.iinc 4 1, 3) := by decide +kernel
theorem dX12_sheet_105 : decode cX12_sheet 105 = .ok (.goto (-23), 3) := by decide +kernel
theorem dX12_sheet_51 : decode cX12_sheet 51 = .ok (.aload_n 0, 1) := by decide +kernel
theorem dX12_sheet_52 : decode cX12_sheet 52 = .ok (.iconst 1, 1) := by decide +kernel
theorem dX12_sheet_53 : decode cX12_sheet 53 = .ok (.invokevirtual 68, 3) := by decide +kernel
theorem dX12_sheet_56 : decode cX12_sheet 56 = .ok (.ireturn, 1) := by decide +kernel
theorem dX12_sheet_39 : decode cX12_sheet 39 = .ok (.aload_n 0, 1) := by decide +kernel
theorem dX12_sheet_40 : decode cX12_sheet 40 = .ok (.iconst 3, 1) := by decide +kernel
theorem dX12_sheet_41 : decode cX12_sheet 41 = .ok (.invokevirtual 68, 3) := by decide +kernel
theorem dX12_sheet_44 : decode cX12_sheet 44 = .ok (.ireturn, 1) := by decide +kernel
theorem dX12_sheet_11 : decode cX12_sheet 11 = .ok (.iload_n 2, 1) := by decide +kernel
theorem dX12_sheet_12 : decode cX12_sheet 12 = .ok (.bipush 8, 2) := by decide +kernel
theorem dX12_sheet_14 : decode cX12_sheet 14 = .ok (.if_icmp .eq 21, 3) := by decide +kernel
theorem dX12_sheet_77 : decode cX12_sheet 77 = .ok (.iload_n 3, 1) := by decide +kernel
theorem dX12_sheet_116 : decode cX12_sheet 116 = .ok (.iload_n 3, 1) := by decide +kernel
theorem dX12_sheet_17 : decode cX12_sheet 17 = .ok (.iload_n 2, 1) := by decide +kernel
theorem dX12_sheet_18 : decode cX12_sheet 18 = .ok (.bipush 16, 2) := by decide +kernel
theorem dX12_sheet_20 : decode cX12_sheet 20 = .ok (.if_icmp .eq 15, 3) := by decide +kernel
theorem dX12_sheet_23 : decode cX12_sheet 23 = .ok (.iload_n 2, 1) := by decide +kernel
theorem dX12_sheet_24 : decode cX12_sheet 24 = .ok (.bipush 32, 2) := by decide +kernel
theorem dX12_sheet_26 : decode cX12_sheet 26 = .ok (.if_icmp .eq 9, 3) := by decide +kernel
theorem dX12_sheet_29 : decode cX12_sheet 29 = .ok (.aload_n 0, 1) := by decide +kernel
theorem dX12_sheet_30 : decode cX12_sheet 30 = .ok (.iconst 1, 1) := by decide +kernel
theorem dX12_sheet_31 : decode cX12_sheet 31 = .ok (.invokevirtual 68, 3) := by decide +kernel
theorem dX12_sheet_34 : decode cX12_sheet 34 = .ok (.ireturn, 1) := by decide +kernel
set_option maxHeartbeats 8000000 in
set_option maxRecDepth 100000 in
theorem c_X12_sheet (l : Launch) (g : kG) (sz : Nat) (z : Nat → Nat) (kp : Nat) (xs : Nat → Int32) (B : Nat → Int32) (Z : Nat → Int32) (M : Nat → Int32) (sn : Nat → Nat) (x : Int32) (y : Int32) (w : Int32) (hZ : ∀ j, j < 4 → Z j = nI (sn j) ∧ sn j ≤ 60) : kMi l g yX12_sheet cX12_sheet 5 (some .int) 3 0 0 [.ref (z 0), .int x, .int y, .int w] sz [(z 0, .inr (12, [.ref (z 1), .ref (z 2), .int (nI kp), .int (xs 0), .ref (z 3), .ref (z 4), .ref (z 5), .ref (z 6), .int (xs 1), .ref (z 7), .ref (z 8), .ref (z 9), .ref (z 10), .ref (z 11), .ref (z 12), .int (xs 2), .ref (z 13), .ref (z 14), .int (xs 3), .ref (z 15)])), (z 3, .inl (gI g, 4, .inl B)), (z 4, .inl (gI g, 4, .inl Z)), (z 5, .inl (gI g, 240, .inl M))] (fun (r : Int32) (u : (Nat → Int32) × (Nat → Int32) × (Nat → Int32) × (Nat → Int32) × (Nat → Nat)) => (r = aSheet x y w) ∧ (ShR x y w B u.2.1 sn u.2.2.2.2 (kSF M) (kSF u.2.2.2.1) ∧ ∀ j, j < 4 → u.2.2.1 j = nI (u.2.2.2.2 j) ∧ u.2.2.2.2 j ≤ 60)) (fun (u : (Nat → Int32) × (Nat → Int32) × (Nat → Int32) × (Nat → Int32) × (Nat → Nat)) => ([(z 0, .inr (12, [.ref (z 1), .ref (z 2), .int (nI kp), .int (u.1 0), .ref (z 3), .ref (z 4), .ref (z 5), .ref (z 6), .int (u.1 1), .ref (z 7), .ref (z 8), .ref (z 9), .ref (z 10), .ref (z 11), .ref (z 12), .int (u.1 2), .ref (z 13), .ref (z 14), .int (u.1 3), .ref (z 15)])), (z 3, .inl (gI g, 4, .inl u.2.1)), (z 4, .inl (gI g, 4, .inl u.2.2.1)), (z 5, .inl (gI g, 240, .inl u.2.2.2.1))] : va_W)) := by
  refine kMi.of (by decide) (Nat.le_of_ble_eq_true rfl) (fun p e s m below meth c A hx hb hr hml hown hts hlk hnm hKW hP hD hS hA ls hl => ?_)
  have hown : s.vm.findClass RX12 = some m.cls := hown
  have hl : lv_has ls 5 [(0, .ref (z 0)), (1, .int x), (2, .int y), (3, .int w)] := hl
  refine k_hide hP hS (fun H locs hP hS => ?_)
  refine lv_iload_n hx hb dX12_sheet_0 rfl (lv_at hl 1 rfl) ?_
  refine k_Si [] [0, 1, 2, 3] (wr := [(z 0, .inr (12, [.ref (z 1), .ref (z 2), .int (nI kp), .int (xs 0), .ref (z 3), .ref (z 4), .ref (z 5), .ref (z 6), .int (xs 1), .ref (z 7), .ref (z 8), .ref (z 9), .ref (z 10), .ref (z 11), .ref (z 12), .int (xs 2), .ref (z 13), .ref (z 14), .int (xs 3), .ref (z 15)])), (z 3, .inl (gI g, 4, .inl B)), (z 4, .inl (gI g, 4, .inl Z)), (z 5, .inl (gI g, 240, .inl M))]) hx hb hml hown hts hKW hP hD hS hA hl.1 (c_X12_isSheet l g _ x ) wd_38_14 wd_1_5 wd_38_12 wd_38_13 yd_X12_isSheet ⟨(Nat.le_of_ble_eq_true rfl), (Nat.le_of_ble_eq_true rfl)⟩ rfl rfl rfl rfl (by decide) rfl (Nat.le_of_ble_eq_true rfl) dX12_sheet_1 ⟨(Nat.le_of_ble_eq_true rfl), (Nat.le_of_ble_eq_true rfl)⟩ (fun r_1 u_2 H locs hw_3 hP hD hS => ?_)
  have hP : va_P g.1 vwCl [(z 0, .inr (12, [.ref (z 1), .ref (z 2), .int (nI kp), .int (xs 0), .ref (z 3), .ref (z 4), .ref (z 5), .ref (z 6), .int (xs 1), .ref (z 7), .ref (z 8), .ref (z 9), .ref (z 10), .ref (z 11), .ref (z 12), .int (xs 2), .ref (z 13), .ref (z 14), .int (xs 3), .ref (z 15)])), (z 3, .inl (gI g, 4, .inl B)), (z 4, .inl (gI g, 4, .inl Z)), (z 5, .inl (gI g, 240, .inl M))] H := hP
  have hD : va_D A [(z 0, .inr (12, [.ref (z 1), .ref (z 2), .int (nI kp), .int (xs 0), .ref (z 3), .ref (z 4), .ref (z 5), .ref (z 6), .int (xs 1), .ref (z 7), .ref (z 8), .ref (z 9), .ref (z 10), .ref (z 11), .ref (z 12), .int (xs 2), .ref (z 13), .ref (z 14), .int (xs 3), .ref (z 15)])), (z 3, .inl (gI g, 4, .inl B)), (z 4, .inl (gI g, 4, .inl Z)), (z 5, .inl (gI g, 240, .inl M))] := hD
  rcases (show (r_1 = 1 ∧ ((0 : Int) ≤ Int32.toInt x ∧ Int32.toInt x ≤ 3)) ∨ (r_1 = 0 ∧ ¬ ((0 : Int) ≤ Int32.toInt x ∧ Int32.toInt x ≤ 3)) from hw_3) with ⟨rfl, hw_3b⟩ | ⟨rfl, hw_3b⟩ <;> clear hw_3
  · refine lv_if_eq (tgt := 29) hx hb dX12_sheet_4 (by decide) (fun c => absurd c (by decide)) (fun _ => ?_)
    refine lv_iload_n hx hb dX12_sheet_7 rfl (lv_at hl 2 rfl) ?_
    refine lv_if_eq (tgt := 35) hx hb dX12_sheet_8 (by decide) (fun c_4 => ?_) (fun c_4 => ?_)
    · refine lv_iload_n hx hb dX12_sheet_35 rfl (lv_at hl 3 rfl) ?_
      refine lv_if_ge (tgt := 45) hx hb dX12_sheet_36 (by decide) (fun c_5 => ?_) (fun c_5 => ?_)
      · refine lv_iload_n hx hb dX12_sheet_45 rfl (lv_at hl 3 rfl) ?_
        refine lv_bipush (v := 60) hx hb dX12_sheet_46 (by decide) ?_
        refine lv_icmp_le (tgt := 57) hx hb dX12_sheet_48 (by decide) (fun c_6 => ?_) (fun c_6 => ?_)
        · have hpre : (if y = 0 then 0 else w) = aSheet x y w := (by clear hP hD hS hA hts hKW hl; unfold aSheet; (repeat' split) <;> first | rfl | (exfalso; (first | omega | (simp only [Int32.lt_iff_toInt_lt, Int32.le_iff_toInt_le, ← Int32.toInt_inj] at *; omega) | (simp only [Int32.lt_iff_toInt_lt, Int32.le_iff_toInt_le, ← Int32.toInt_inj] at *; simp at *; omega) | (simp only [Int32.lt_iff_toInt_lt, Int32.le_iff_toInt_le, ← Int32.toInt_inj] at *; simp at *; done) | (simp at *; omega) | (simp at *; done))))
          obtain ⟨nz, hnz, rfl⟩ := k_ofr (x := w) (n := 61) (by decide) (by have q1 := c_5; have q2 := c_6; rw [Int32.le_iff_toInt_le] at q1 q2; rw [show Int32.toInt 0 = (0 : Int) from rfl] at q1; rw [show Int32.toInt 60 = (60 : Int) from rfl] at q2; omega)
          obtain ⟨js, hjs, rfl⟩ := k_ofr (x := x) (n := 4) (by decide) (by have q := hw_3b; omega)
          refine lv_aload_n hx hb dX12_sheet_57 rfl (lv_at hl 0 rfl) ?_
          refine va_get (ci := 12) (C := RX12) (T := TX12) (N := 20) hx hb hts inlX12 hown hKW.1 hP 0 rfl rfl 4 (by decide) (hts _ wd_6_7) (fun _ h => h) rfl dX12_sheet_58 ?_
          refine lv_iload_n hx hb dX12_sheet_61 rfl (lv_at hl 1 rfl) ?_
          refine lv_iload_n hx hb dX12_sheet_62 rfl (lv_at hl 2 rfl) ?_
          refine va_iast hx hb hKW.1 hP hD hS 1 0 rfl rfl (vp_in_nI (by omega) (by decide)) dX12_sheet_63 (fun H locs hP hD hS => ?_)
          have hP : va_P g.1 vwCl [(z 0, .inr (12, [.ref (z 1), .ref (z 2), .int (nI kp), .int (xs 0), .ref (z 3), .ref (z 4), .ref (z 5), .ref (z 6), .int (xs 1), .ref (z 7), .ref (z 8), .ref (z 9), .ref (z 10), .ref (z 11), .ref (z 12), .int (xs 2), .ref (z 13), .ref (z 14), .int (xs 3), .ref (z 15)])), (z 3, .inl (gI g, 4, .inl (upd B (nI js).toNatClampNeg y))), (z 4, .inl (gI g, 4, .inl Z)), (z 5, .inl (gI g, 240, .inl M))] H := hP
          have hD : va_D A [(z 0, .inr (12, [.ref (z 1), .ref (z 2), .int (nI kp), .int (xs 0), .ref (z 3), .ref (z 4), .ref (z 5), .ref (z 6), .int (xs 1), .ref (z 7), .ref (z 8), .ref (z 9), .ref (z 10), .ref (z 11), .ref (z 12), .int (xs 2), .ref (z 13), .ref (z 14), .int (xs 3), .ref (z 15)])), (z 3, .inl (gI g, 4, .inl (upd B (nI js).toNatClampNeg y))), (z 4, .inl (gI g, 4, .inl Z)), (z 5, .inl (gI g, 240, .inl M))] := hD
          obtain ⟨f_7, ef_7⟩ : ∃ zz_ : Nat → Int32, zz_ = upd B (nI js).toNatClampNeg y := ⟨_, rfl⟩
          rw [← ef_7] at hP hD
          refine lv_aload_n hx hb dX12_sheet_64 rfl (lv_at hl 0 rfl) ?_
          refine va_get (ci := 12) (C := RX12) (T := TX12) (N := 20) hx hb hts inlX12 hown hKW.1 hP 0 rfl rfl 5 (by decide) (hts _ wd_6_8) (fun _ h => h) rfl dX12_sheet_65 ?_
          refine lv_iload_n hx hb dX12_sheet_68 rfl (lv_at hl 1 rfl) ?_
          refine lv_iload_n hx hb dX12_sheet_69 rfl (lv_at hl 2 rfl) ?_
          refine lv_if_ne (tgt := 77) hx hb dX12_sheet_70 (by decide) (fun c => False.elim (c c_4)) (fun _ => ?_)
          refine lv_iconst (v := 0) hx hb dX12_sheet_73 (by decide) ?_
          refine lv_goto (tgt := 78) hx hb dX12_sheet_74 (by decide) ?_
          refine va_iast hx hb hKW.1 hP hD hS 2 0 rfl rfl (vp_in_nI (by omega) (by decide)) dX12_sheet_78 (fun H locs hP hD hS => ?_)
          have hP : va_P g.1 vwCl [(z 0, .inr (12, [.ref (z 1), .ref (z 2), .int (nI kp), .int (xs 0), .ref (z 3), .ref (z 4), .ref (z 5), .ref (z 6), .int (xs 1), .ref (z 7), .ref (z 8), .ref (z 9), .ref (z 10), .ref (z 11), .ref (z 12), .int (xs 2), .ref (z 13), .ref (z 14), .int (xs 3), .ref (z 15)])), (z 3, .inl (gI g, 4, .inl f_7)), (z 4, .inl (gI g, 4, .inl (upd Z (nI js).toNatClampNeg 0))), (z 5, .inl (gI g, 240, .inl M))] H := hP
          have hD : va_D A [(z 0, .inr (12, [.ref (z 1), .ref (z 2), .int (nI kp), .int (xs 0), .ref (z 3), .ref (z 4), .ref (z 5), .ref (z 6), .int (xs 1), .ref (z 7), .ref (z 8), .ref (z 9), .ref (z 10), .ref (z 11), .ref (z 12), .int (xs 2), .ref (z 13), .ref (z 14), .int (xs 3), .ref (z 15)])), (z 3, .inl (gI g, 4, .inl f_7)), (z 4, .inl (gI g, 4, .inl (upd Z (nI js).toNatClampNeg 0))), (z 5, .inl (gI g, 240, .inl M))] := hD
          obtain ⟨f_8, ef_8⟩ : ∃ zz_ : Nat → Int32, zz_ = upd Z (nI js).toNatClampNeg 0 := ⟨_, rfl⟩
          rw [← ef_8] at hP hD
          refine lv_iconst (v := 0) hx hb dX12_sheet_79 (by decide) ?_
          refine lv_istore (lv' := [(4, .int 0), (0, .ref (z 0)), (1, .int (nI js)), (2, .int y), (3, .int (nI nz))]) hx hb dX12_sheet_80 hl (by decide) rfl (fun ls hl => ?_)
          have L82 : ∀ (n82 : Nat) (i : Nat) (Ma : Nat → Int32) (hfuel82 : 60 - i < n82) (hi : i ≤ 60) (hzr : kZr M Ma js i) (H : Heap) (locs : List Loc) (hP : va_P g.1 vwCl [(z 0, .inr (12, [.ref (z 1), .ref (z 2), .int (nI kp), .int (xs 0), .ref (z 3), .ref (z 4), .ref (z 5), .ref (z 6), .int (xs 1), .ref (z 7), .ref (z 8), .ref (z 9), .ref (z 10), .ref (z 11), .ref (z 12), .int (xs 2), .ref (z 13), .ref (z 14), .int (xs 3), .ref (z 15)])), (z 3, .inl (gI g, 4, .inl f_7)), (z 4, .inl (gI g, 4, .inl f_8)), (z 5, .inl (gI g, 240, .inl Ma))] H) (hD : va_D A [(z 0, .inr (12, [.ref (z 1), .ref (z 2), .int (nI kp), .int (xs 0), .ref (z 3), .ref (z 4), .ref (z 5), .ref (z 6), .int (xs 1), .ref (z 7), .ref (z 8), .ref (z 9), .ref (z 10), .ref (z 11), .ref (z 12), .int (xs 2), .ref (z 13), .ref (z 14), .int (xs 3), .ref (z 15)])), (z 3, .inl (gI g, 4, .inl f_7)), (z 4, .inl (gI g, 4, .inl f_8)), (z 5, .inl (gI g, 240, .inl Ma))]) (hS : va_S A s.heap H locs) (ls : Array Slot) (hl : lv_has ls 5 [(4, .int (nI i)), (0, .ref (z 0)), (1, .int (nI js)), (2, .int y), (3, .int (nI nz))]), W p l e (kR 3 0 0) s m ([.ref (z 0), .int (nI js), .int y, .int (nI nz)] : List Value).toArray below meth c H locs 0 0 (kQi g A below ([.ref (z 0), .int (nI js), .int y, .int (nI nz)] : List Value).toArray s 0 0 (fun (r : Int32) (u : (Nat → Int32) × (Nat → Int32) × (Nat → Int32) × (Nat → Int32) × (Nat → Nat)) => (r = aSheet (nI js) y (nI nz)) ∧ (ShR (nI js) y (nI nz) B u.2.1 sn u.2.2.2.2 (kSF M) (kSF u.2.2.2.1) ∧ ∀ j, j < 4 → u.2.2.1 j = nI (u.2.2.2.2 j) ∧ u.2.2.2.2 j ≤ 60)) (fun (u : (Nat → Int32) × (Nat → Int32) × (Nat → Int32) × (Nat → Int32) × (Nat → Nat)) => ([(z 0, .inr (12, [.ref (z 1), .ref (z 2), .int (nI kp), .int (u.1 0), .ref (z 3), .ref (z 4), .ref (z 5), .ref (z 6), .int (u.1 1), .ref (z 7), .ref (z 8), .ref (z 9), .ref (z 10), .ref (z 11), .ref (z 12), .int (u.1 2), .ref (z 13), .ref (z 14), .int (u.1 3), .ref (z 15)])), (z 3, .inl (gI g, 4, .inl u.2.1)), (z 4, .inl (gI g, 4, .inl u.2.2.1)), (z 5, .inl (gI g, 240, .inl u.2.2.2.1))] : va_W))) (F0 m 82 ls []) := by
            intro n82
            induction n82 with
            | zero => intro i Ma hfuel82; exact absurd hfuel82 (Nat.not_lt_zero _)
            | succ n82 ih82 =>
              intro i Ma hfuel82 hi hzr H locs hP hD hS ls hl
              refine lv_iload hx hb dX12_sheet_82 (lv_at hl 0 rfl) ?_
              refine lv_bipush (v := 60) hx hb dX12_sheet_84 (by decide) ?_
              refine lv_icmp_ge (tgt := 108) hx hb dX12_sheet_86 (by decide) (fun c_9 => ?_) (fun c_9 => ?_)
              · have c_9n : 60 ≤ i := (k_leI (a := 60) (b := i) (by omega) (by omega)).mp c_9
                refine lv_iload_n hx hb dX12_sheet_108 rfl (lv_at hl 3 rfl) ?_
                refine lv_if_ne (tgt := 116) hx hb dX12_sheet_109 (by decide) (fun c => False.elim (c c_4)) (fun _ => ?_)
                refine lv_iconst (v := 0) hx hb dX12_sheet_112 (by decide) ?_
                refine lv_goto (tgt := 117) hx hb dX12_sheet_113 (by decide) ?_
                have hres : 0 = aSheet (nI js) y (nI nz) := by rw [← hpre, if_pos c_4]
                exact k_iret (xs, f_7, f_8, Ma, (fun j => if j = js then 0 else sn j)) [0, 1, 2, 3] hx hb hr hlk hP hD hS (⟨hres, Or.inl ⟨js, 0, hjs, by omega, rfl, (by rw [if_pos c_4]; rfl), hres.symm, k_upd4 ef_7 hjs, fun _ _ => rfl, k_zrE hzr (by omega)⟩, k_updZ ef_8 hjs rfl (by omega) hZ⟩) rfl rfl rfl (Nat.le_of_ble_eq_true rfl) (Nat.le_of_ble_eq_true rfl) dX12_sheet_117
              · have c_9n : i < 60 := Nat.not_le.mp (fun h => c_9 ((k_leI (a := 60) (b := i) (by omega) (by omega)).mpr h))
                refine lv_aload_n hx hb dX12_sheet_89 rfl (lv_at hl 1 rfl) ?_
                refine va_get (ci := 12) (C := RX12) (T := TX12) (N := 20) hx hb hts inlX12 hown hKW.1 hP 0 rfl rfl 6 (by decide) (hts _ wd_6_9) (fun _ h => h) rfl dX12_sheet_90 ?_
                refine lv_bipush (v := 60) hx hb dX12_sheet_93 (by decide) ?_
                refine lv_iload_n hx hb dX12_sheet_95 rfl (lv_at hl 2 rfl) ?_
                refine lv_imul hx hb dX12_sheet_96 ?_
                refine k_top (y := nI (60 * js)) (show (60 : Int32) * nI js = nI (60 * js) from k_nmul 60 js) ?_
                refine lv_iload hx hb dX12_sheet_97 (lv_at hl 0 rfl) ?_
                refine lv_iadd hx hb dX12_sheet_99 ?_
                refine k_top (y := nI ((60 * js) + i)) (nI_add (60 * js) i) ?_
                refine lv_iconst (v := 0) hx hb dX12_sheet_100 (by decide) ?_
                refine va_iast hx hb hKW.1 hP hD hS 3 0 rfl rfl (vp_in_nI (by omega) (by decide)) dX12_sheet_101 (fun H locs hP hD hS => ?_)
                have hP : va_P g.1 vwCl [(z 0, .inr (12, [.ref (z 1), .ref (z 2), .int (nI kp), .int (xs 0), .ref (z 3), .ref (z 4), .ref (z 5), .ref (z 6), .int (xs 1), .ref (z 7), .ref (z 8), .ref (z 9), .ref (z 10), .ref (z 11), .ref (z 12), .int (xs 2), .ref (z 13), .ref (z 14), .int (xs 3), .ref (z 15)])), (z 3, .inl (gI g, 4, .inl f_7)), (z 4, .inl (gI g, 4, .inl f_8)), (z 5, .inl (gI g, 240, .inl (upd Ma (nI ((60 * js) + i)).toNatClampNeg 0)))] H := hP
                have hD : va_D A [(z 0, .inr (12, [.ref (z 1), .ref (z 2), .int (nI kp), .int (xs 0), .ref (z 3), .ref (z 4), .ref (z 5), .ref (z 6), .int (xs 1), .ref (z 7), .ref (z 8), .ref (z 9), .ref (z 10), .ref (z 11), .ref (z 12), .int (xs 2), .ref (z 13), .ref (z 14), .int (xs 3), .ref (z 15)])), (z 3, .inl (gI g, 4, .inl f_7)), (z 4, .inl (gI g, 4, .inl f_8)), (z 5, .inl (gI g, 240, .inl (upd Ma (nI ((60 * js) + i)).toNatClampNeg 0)))] := hD
                obtain ⟨f_10, ef_10⟩ : ∃ zz_ : Nat → Int32, zz_ = upd Ma (nI ((60 * js) + i)).toNatClampNeg 0 := ⟨_, rfl⟩
                rw [← ef_10] at hP hD
                refine lv_iinc (v := nI (i + 1)) (lv' := [(4, .int (nI (i + 1))), (0, .ref (z 0)), (1, .int (nI js)), (2, .int y), (3, .int (nI nz))]) hx hb dX12_sheet_102 hl (k := 0) rfl (nI_add i 1) (by decide) rfl (fun ls hl => ?_)
                refine lv_goto (tgt := 82) hx hb dX12_sheet_105 (by decide) ?_
                exact ih82 (i + 1) f_10 (by omega) (by first | assumption | omega) (k_zrS hzr ef_10 hjs (by omega)) H locs (hP.sub [0, 1, 2, 3] rfl) (hD.sub [0, 1, 2, 3] (by decide) rfl) hS ls (lv_sub hl [0, 1, 2, 3, 4] rfl)
          exact L82 (60 - 0 + 1) 0 M (Nat.lt_succ_self _) (by first | assumption | omega) k_zr0 H locs (hP.sub [0, 1, 2, 3] rfl) (hD.sub [0, 1, 2, 3] (by decide) rfl) hS ls (lv_sub hl [0, 1, 2, 3, 4] rfl)
        · refine lv_aload_n hx hb dX12_sheet_51 rfl (lv_at hl 0 rfl) ?_
          refine lv_iconst (v := 1) hx hb dX12_sheet_52 (by decide) ?_
          refine k_Vi [0] [1, 2, 3] 0 12 (wr := [(z 3, .inl (gI g, 4, .inl B)), (z 4, .inl (gI g, 4, .inl Z)), (z 5, .inl (gI g, 240, .inl M))]) hx hb hml hown hts hKW hP hD hS hA hl.1 (c_X12_finding_1 l g _ z kp xs ) rfl rfl rfl wd_10_15 wd_1_5 wd_10_12 wd_10_13 wd_10_14 yd_X12_finding ⟨(Nat.le_of_ble_eq_true rfl), (Nat.le_of_ble_eq_true rfl)⟩ rfl rfl rfl rfl (by decide) rfl (Nat.le_of_ble_eq_true rfl) dX12_sheet_53 ⟨(Nat.le_of_ble_eq_true rfl), (Nat.le_of_ble_eq_true rfl)⟩ (fun r_11 u_12 H locs hw_13 hP hD hS => ?_)
          have hP : va_P g.1 vwCl [(z 3, .inl (gI g, 4, .inl B)), (z 4, .inl (gI g, 4, .inl Z)), (z 5, .inl (gI g, 240, .inl M)), (z 0, .inr (12, [.ref (z 1), .ref (z 2), .int (nI kp), .int u_12, .ref (z 3), .ref (z 4), .ref (z 5), .ref (z 6), .int (xs 1), .ref (z 7), .ref (z 8), .ref (z 9), .ref (z 10), .ref (z 11), .ref (z 12), .int (xs 2), .ref (z 13), .ref (z 14), .int (xs 3), .ref (z 15)]))] H := hP
          have hD : va_D A [(z 3, .inl (gI g, 4, .inl B)), (z 4, .inl (gI g, 4, .inl Z)), (z 5, .inl (gI g, 240, .inl M)), (z 0, .inr (12, [.ref (z 1), .ref (z 2), .int (nI kp), .int u_12, .ref (z 3), .ref (z 4), .ref (z 5), .ref (z 6), .int (xs 1), .ref (z 7), .ref (z 8), .ref (z 9), .ref (z 10), .ref (z 11), .ref (z 12), .int (xs 2), .ref (z 13), .ref (z 14), .int (xs 3), .ref (z 15)]))] := hD
          have hw_13 : r_11 = (-100001) := hw_13
          subst hw_13
          have hres : (-100001) = aSheet x y w := (by clear hP hD hS hA hts hKW hl; unfold aSheet; (repeat' split) <;> first | rfl | (exfalso; (first | omega | (simp only [Int32.lt_iff_toInt_lt, Int32.le_iff_toInt_le, ← Int32.toInt_inj] at *; omega) | (simp only [Int32.lt_iff_toInt_lt, Int32.le_iff_toInt_le, ← Int32.toInt_inj] at *; simp at *; omega) | (simp only [Int32.lt_iff_toInt_lt, Int32.le_iff_toInt_le, ← Int32.toInt_inj] at *; simp at *; done) | (simp at *; omega) | (simp at *; done))))
          exact k_iret ((fun kk_ => ([u_12, (xs 1), (xs 2), (xs 3)] : List Int32).getD kk_ 0), B, Z, M, sn) [3, 0, 1, 2] hx hb hr hlk hP hD hS (⟨hres, Or.inr ⟨by rw [← hres]; decide, fun _ _ => rfl, fun _ _ => rfl, fun _ _ _ _ => rfl⟩, hZ⟩) rfl rfl rfl (Nat.le_of_ble_eq_true rfl) (Nat.le_of_ble_eq_true rfl) dX12_sheet_56
      · refine lv_aload_n hx hb dX12_sheet_39 rfl (lv_at hl 0 rfl) ?_
        refine lv_iconst (v := 3) hx hb dX12_sheet_40 (by decide) ?_
        refine k_Vi [0] [1, 2, 3] 0 12 (wr := [(z 3, .inl (gI g, 4, .inl B)), (z 4, .inl (gI g, 4, .inl Z)), (z 5, .inl (gI g, 240, .inl M))]) hx hb hml hown hts hKW hP hD hS hA hl.1 (c_X12_finding_3 l g _ z kp xs ) rfl rfl rfl wd_10_15 wd_1_5 wd_10_12 wd_10_13 wd_10_14 yd_X12_finding ⟨(Nat.le_of_ble_eq_true rfl), (Nat.le_of_ble_eq_true rfl)⟩ rfl rfl rfl rfl (by decide) rfl (Nat.le_of_ble_eq_true rfl) dX12_sheet_41 ⟨(Nat.le_of_ble_eq_true rfl), (Nat.le_of_ble_eq_true rfl)⟩ (fun r_14 u_15 H locs hw_16 hP hD hS => ?_)
        have hP : va_P g.1 vwCl [(z 3, .inl (gI g, 4, .inl B)), (z 4, .inl (gI g, 4, .inl Z)), (z 5, .inl (gI g, 240, .inl M)), (z 0, .inr (12, [.ref (z 1), .ref (z 2), .int (nI kp), .int u_15, .ref (z 3), .ref (z 4), .ref (z 5), .ref (z 6), .int (xs 1), .ref (z 7), .ref (z 8), .ref (z 9), .ref (z 10), .ref (z 11), .ref (z 12), .int (xs 2), .ref (z 13), .ref (z 14), .int (xs 3), .ref (z 15)]))] H := hP
        have hD : va_D A [(z 3, .inl (gI g, 4, .inl B)), (z 4, .inl (gI g, 4, .inl Z)), (z 5, .inl (gI g, 240, .inl M)), (z 0, .inr (12, [.ref (z 1), .ref (z 2), .int (nI kp), .int u_15, .ref (z 3), .ref (z 4), .ref (z 5), .ref (z 6), .int (xs 1), .ref (z 7), .ref (z 8), .ref (z 9), .ref (z 10), .ref (z 11), .ref (z 12), .int (xs 2), .ref (z 13), .ref (z 14), .int (xs 3), .ref (z 15)]))] := hD
        have hw_16 : r_14 = (-100003) := hw_16
        subst hw_16
        have hres : (-100003) = aSheet x y w := (by clear hP hD hS hA hts hKW hl; unfold aSheet; (repeat' split) <;> first | rfl | (exfalso; (first | omega | (simp only [Int32.lt_iff_toInt_lt, Int32.le_iff_toInt_le, ← Int32.toInt_inj] at *; omega) | (simp only [Int32.lt_iff_toInt_lt, Int32.le_iff_toInt_le, ← Int32.toInt_inj] at *; simp at *; omega) | (simp only [Int32.lt_iff_toInt_lt, Int32.le_iff_toInt_le, ← Int32.toInt_inj] at *; simp at *; done) | (simp at *; omega) | (simp at *; done))))
        exact k_iret ((fun kk_ => ([u_15, (xs 1), (xs 2), (xs 3)] : List Int32).getD kk_ 0), B, Z, M, sn) [3, 0, 1, 2] hx hb hr hlk hP hD hS (⟨hres, Or.inr ⟨by rw [← hres]; decide, fun _ _ => rfl, fun _ _ => rfl, fun _ _ _ _ => rfl⟩, hZ⟩) rfl rfl rfl (Nat.le_of_ble_eq_true rfl) (Nat.le_of_ble_eq_true rfl) dX12_sheet_44
    · refine lv_iload_n hx hb dX12_sheet_11 rfl (lv_at hl 2 rfl) ?_
      refine lv_bipush (v := 8) hx hb dX12_sheet_12 (by decide) ?_
      refine lv_icmp_eq (tgt := 35) hx hb dX12_sheet_14 (by decide) (fun c_17 => ?_) (fun c_17 => ?_)
      · refine lv_iload_n hx hb dX12_sheet_35 rfl (lv_at hl 3 rfl) ?_
        refine lv_if_ge (tgt := 45) hx hb dX12_sheet_36 (by decide) (fun c_18 => ?_) (fun c_18 => ?_)
        · refine lv_iload_n hx hb dX12_sheet_45 rfl (lv_at hl 3 rfl) ?_
          refine lv_bipush (v := 60) hx hb dX12_sheet_46 (by decide) ?_
          refine lv_icmp_le (tgt := 57) hx hb dX12_sheet_48 (by decide) (fun c_19 => ?_) (fun c_19 => ?_)
          · have hpre : (if y = 0 then 0 else w) = aSheet x y w := (by clear hP hD hS hA hts hKW hl; unfold aSheet; (repeat' split) <;> first | rfl | (exfalso; (first | omega | (simp only [Int32.lt_iff_toInt_lt, Int32.le_iff_toInt_le, ← Int32.toInt_inj] at *; omega) | (simp only [Int32.lt_iff_toInt_lt, Int32.le_iff_toInt_le, ← Int32.toInt_inj] at *; simp at *; omega) | (simp only [Int32.lt_iff_toInt_lt, Int32.le_iff_toInt_le, ← Int32.toInt_inj] at *; simp at *; done) | (simp at *; omega) | (simp at *; done))))
            obtain ⟨nz, hnz, rfl⟩ := k_ofr (x := w) (n := 61) (by decide) (by have q1 := c_18; have q2 := c_19; rw [Int32.le_iff_toInt_le] at q1 q2; rw [show Int32.toInt 0 = (0 : Int) from rfl] at q1; rw [show Int32.toInt 60 = (60 : Int) from rfl] at q2; omega)
            obtain ⟨js, hjs, rfl⟩ := k_ofr (x := x) (n := 4) (by decide) (by have q := hw_3b; omega)
            refine lv_aload_n hx hb dX12_sheet_57 rfl (lv_at hl 0 rfl) ?_
            refine va_get (ci := 12) (C := RX12) (T := TX12) (N := 20) hx hb hts inlX12 hown hKW.1 hP 0 rfl rfl 4 (by decide) (hts _ wd_6_7) (fun _ h => h) rfl dX12_sheet_58 ?_
            refine lv_iload_n hx hb dX12_sheet_61 rfl (lv_at hl 1 rfl) ?_
            refine lv_iload_n hx hb dX12_sheet_62 rfl (lv_at hl 2 rfl) ?_
            refine va_iast hx hb hKW.1 hP hD hS 1 0 rfl rfl (vp_in_nI (by omega) (by decide)) dX12_sheet_63 (fun H locs hP hD hS => ?_)
            have hP : va_P g.1 vwCl [(z 0, .inr (12, [.ref (z 1), .ref (z 2), .int (nI kp), .int (xs 0), .ref (z 3), .ref (z 4), .ref (z 5), .ref (z 6), .int (xs 1), .ref (z 7), .ref (z 8), .ref (z 9), .ref (z 10), .ref (z 11), .ref (z 12), .int (xs 2), .ref (z 13), .ref (z 14), .int (xs 3), .ref (z 15)])), (z 3, .inl (gI g, 4, .inl (upd B (nI js).toNatClampNeg y))), (z 4, .inl (gI g, 4, .inl Z)), (z 5, .inl (gI g, 240, .inl M))] H := hP
            have hD : va_D A [(z 0, .inr (12, [.ref (z 1), .ref (z 2), .int (nI kp), .int (xs 0), .ref (z 3), .ref (z 4), .ref (z 5), .ref (z 6), .int (xs 1), .ref (z 7), .ref (z 8), .ref (z 9), .ref (z 10), .ref (z 11), .ref (z 12), .int (xs 2), .ref (z 13), .ref (z 14), .int (xs 3), .ref (z 15)])), (z 3, .inl (gI g, 4, .inl (upd B (nI js).toNatClampNeg y))), (z 4, .inl (gI g, 4, .inl Z)), (z 5, .inl (gI g, 240, .inl M))] := hD
            obtain ⟨f_20, ef_20⟩ : ∃ zz_ : Nat → Int32, zz_ = upd B (nI js).toNatClampNeg y := ⟨_, rfl⟩
            rw [← ef_20] at hP hD
            refine lv_aload_n hx hb dX12_sheet_64 rfl (lv_at hl 0 rfl) ?_
            refine va_get (ci := 12) (C := RX12) (T := TX12) (N := 20) hx hb hts inlX12 hown hKW.1 hP 0 rfl rfl 5 (by decide) (hts _ wd_6_8) (fun _ h => h) rfl dX12_sheet_65 ?_
            refine lv_iload_n hx hb dX12_sheet_68 rfl (lv_at hl 1 rfl) ?_
            refine lv_iload_n hx hb dX12_sheet_69 rfl (lv_at hl 2 rfl) ?_
            refine lv_if_ne (tgt := 77) hx hb dX12_sheet_70 (by decide) (fun _ => ?_) (fun c => False.elim (c_4 c))
            refine lv_iload_n hx hb dX12_sheet_77 rfl (lv_at hl 3 rfl) ?_
            refine va_iast hx hb hKW.1 hP hD hS 2 0 rfl rfl (vp_in_nI (by omega) (by decide)) dX12_sheet_78 (fun H locs hP hD hS => ?_)
            have hP : va_P g.1 vwCl [(z 0, .inr (12, [.ref (z 1), .ref (z 2), .int (nI kp), .int (xs 0), .ref (z 3), .ref (z 4), .ref (z 5), .ref (z 6), .int (xs 1), .ref (z 7), .ref (z 8), .ref (z 9), .ref (z 10), .ref (z 11), .ref (z 12), .int (xs 2), .ref (z 13), .ref (z 14), .int (xs 3), .ref (z 15)])), (z 3, .inl (gI g, 4, .inl f_20)), (z 4, .inl (gI g, 4, .inl (upd Z (nI js).toNatClampNeg (nI nz)))), (z 5, .inl (gI g, 240, .inl M))] H := hP
            have hD : va_D A [(z 0, .inr (12, [.ref (z 1), .ref (z 2), .int (nI kp), .int (xs 0), .ref (z 3), .ref (z 4), .ref (z 5), .ref (z 6), .int (xs 1), .ref (z 7), .ref (z 8), .ref (z 9), .ref (z 10), .ref (z 11), .ref (z 12), .int (xs 2), .ref (z 13), .ref (z 14), .int (xs 3), .ref (z 15)])), (z 3, .inl (gI g, 4, .inl f_20)), (z 4, .inl (gI g, 4, .inl (upd Z (nI js).toNatClampNeg (nI nz)))), (z 5, .inl (gI g, 240, .inl M))] := hD
            obtain ⟨f_21, ef_21⟩ : ∃ zz_ : Nat → Int32, zz_ = upd Z (nI js).toNatClampNeg (nI nz) := ⟨_, rfl⟩
            rw [← ef_21] at hP hD
            refine lv_iconst (v := 0) hx hb dX12_sheet_79 (by decide) ?_
            refine lv_istore (lv' := [(4, .int 0), (0, .ref (z 0)), (1, .int (nI js)), (2, .int y), (3, .int (nI nz))]) hx hb dX12_sheet_80 hl (by decide) rfl (fun ls hl => ?_)
            have L82 : ∀ (n82 : Nat) (i : Nat) (Ma : Nat → Int32) (hfuel82 : 60 - i < n82) (hi : i ≤ 60) (hzr : kZr M Ma js i) (H : Heap) (locs : List Loc) (hP : va_P g.1 vwCl [(z 0, .inr (12, [.ref (z 1), .ref (z 2), .int (nI kp), .int (xs 0), .ref (z 3), .ref (z 4), .ref (z 5), .ref (z 6), .int (xs 1), .ref (z 7), .ref (z 8), .ref (z 9), .ref (z 10), .ref (z 11), .ref (z 12), .int (xs 2), .ref (z 13), .ref (z 14), .int (xs 3), .ref (z 15)])), (z 3, .inl (gI g, 4, .inl f_20)), (z 4, .inl (gI g, 4, .inl f_21)), (z 5, .inl (gI g, 240, .inl Ma))] H) (hD : va_D A [(z 0, .inr (12, [.ref (z 1), .ref (z 2), .int (nI kp), .int (xs 0), .ref (z 3), .ref (z 4), .ref (z 5), .ref (z 6), .int (xs 1), .ref (z 7), .ref (z 8), .ref (z 9), .ref (z 10), .ref (z 11), .ref (z 12), .int (xs 2), .ref (z 13), .ref (z 14), .int (xs 3), .ref (z 15)])), (z 3, .inl (gI g, 4, .inl f_20)), (z 4, .inl (gI g, 4, .inl f_21)), (z 5, .inl (gI g, 240, .inl Ma))]) (hS : va_S A s.heap H locs) (ls : Array Slot) (hl : lv_has ls 5 [(4, .int (nI i)), (0, .ref (z 0)), (1, .int (nI js)), (2, .int y), (3, .int (nI nz))]), W p l e (kR 3 0 0) s m ([.ref (z 0), .int (nI js), .int y, .int (nI nz)] : List Value).toArray below meth c H locs 0 0 (kQi g A below ([.ref (z 0), .int (nI js), .int y, .int (nI nz)] : List Value).toArray s 0 0 (fun (r : Int32) (u : (Nat → Int32) × (Nat → Int32) × (Nat → Int32) × (Nat → Int32) × (Nat → Nat)) => (r = aSheet (nI js) y (nI nz)) ∧ (ShR (nI js) y (nI nz) B u.2.1 sn u.2.2.2.2 (kSF M) (kSF u.2.2.2.1) ∧ ∀ j, j < 4 → u.2.2.1 j = nI (u.2.2.2.2 j) ∧ u.2.2.2.2 j ≤ 60)) (fun (u : (Nat → Int32) × (Nat → Int32) × (Nat → Int32) × (Nat → Int32) × (Nat → Nat)) => ([(z 0, .inr (12, [.ref (z 1), .ref (z 2), .int (nI kp), .int (u.1 0), .ref (z 3), .ref (z 4), .ref (z 5), .ref (z 6), .int (u.1 1), .ref (z 7), .ref (z 8), .ref (z 9), .ref (z 10), .ref (z 11), .ref (z 12), .int (u.1 2), .ref (z 13), .ref (z 14), .int (u.1 3), .ref (z 15)])), (z 3, .inl (gI g, 4, .inl u.2.1)), (z 4, .inl (gI g, 4, .inl u.2.2.1)), (z 5, .inl (gI g, 240, .inl u.2.2.2.1))] : va_W))) (F0 m 82 ls []) := by
              intro n82
              induction n82 with
              | zero => intro i Ma hfuel82; exact absurd hfuel82 (Nat.not_lt_zero _)
              | succ n82 ih82 =>
                intro i Ma hfuel82 hi hzr H locs hP hD hS ls hl
                refine lv_iload hx hb dX12_sheet_82 (lv_at hl 0 rfl) ?_
                refine lv_bipush (v := 60) hx hb dX12_sheet_84 (by decide) ?_
                refine lv_icmp_ge (tgt := 108) hx hb dX12_sheet_86 (by decide) (fun c_22 => ?_) (fun c_22 => ?_)
                · have c_22n : 60 ≤ i := (k_leI (a := 60) (b := i) (by omega) (by omega)).mp c_22
                  refine lv_iload_n hx hb dX12_sheet_108 rfl (lv_at hl 3 rfl) ?_
                  refine lv_if_ne (tgt := 116) hx hb dX12_sheet_109 (by decide) (fun _ => ?_) (fun c => False.elim (c_4 c))
                  refine lv_iload_n hx hb dX12_sheet_116 rfl (lv_at hl 4 rfl) ?_
                  have hres : nI nz = aSheet (nI js) y (nI nz) := by rw [← hpre, if_neg c_4]
                  exact k_iret (xs, f_20, f_21, Ma, (fun j => if j = js then nz else sn j)) [0, 1, 2, 3] hx hb hr hlk hP hD hS (⟨hres, Or.inl ⟨js, nz, hjs, by omega, rfl, (by rw [if_neg c_4]), hres.symm, k_upd4 ef_20 hjs, fun _ _ => rfl, k_zrE hzr (by omega)⟩, k_updZ ef_21 hjs rfl (by omega) hZ⟩) rfl rfl rfl (Nat.le_of_ble_eq_true rfl) (Nat.le_of_ble_eq_true rfl) dX12_sheet_117
                · have c_22n : i < 60 := Nat.not_le.mp (fun h => c_22 ((k_leI (a := 60) (b := i) (by omega) (by omega)).mpr h))
                  refine lv_aload_n hx hb dX12_sheet_89 rfl (lv_at hl 1 rfl) ?_
                  refine va_get (ci := 12) (C := RX12) (T := TX12) (N := 20) hx hb hts inlX12 hown hKW.1 hP 0 rfl rfl 6 (by decide) (hts _ wd_6_9) (fun _ h => h) rfl dX12_sheet_90 ?_
                  refine lv_bipush (v := 60) hx hb dX12_sheet_93 (by decide) ?_
                  refine lv_iload_n hx hb dX12_sheet_95 rfl (lv_at hl 2 rfl) ?_
                  refine lv_imul hx hb dX12_sheet_96 ?_
                  refine k_top (y := nI (60 * js)) (show (60 : Int32) * nI js = nI (60 * js) from k_nmul 60 js) ?_
                  refine lv_iload hx hb dX12_sheet_97 (lv_at hl 0 rfl) ?_
                  refine lv_iadd hx hb dX12_sheet_99 ?_
                  refine k_top (y := nI ((60 * js) + i)) (nI_add (60 * js) i) ?_
                  refine lv_iconst (v := 0) hx hb dX12_sheet_100 (by decide) ?_
                  refine va_iast hx hb hKW.1 hP hD hS 3 0 rfl rfl (vp_in_nI (by omega) (by decide)) dX12_sheet_101 (fun H locs hP hD hS => ?_)
                  have hP : va_P g.1 vwCl [(z 0, .inr (12, [.ref (z 1), .ref (z 2), .int (nI kp), .int (xs 0), .ref (z 3), .ref (z 4), .ref (z 5), .ref (z 6), .int (xs 1), .ref (z 7), .ref (z 8), .ref (z 9), .ref (z 10), .ref (z 11), .ref (z 12), .int (xs 2), .ref (z 13), .ref (z 14), .int (xs 3), .ref (z 15)])), (z 3, .inl (gI g, 4, .inl f_20)), (z 4, .inl (gI g, 4, .inl f_21)), (z 5, .inl (gI g, 240, .inl (upd Ma (nI ((60 * js) + i)).toNatClampNeg 0)))] H := hP
                  have hD : va_D A [(z 0, .inr (12, [.ref (z 1), .ref (z 2), .int (nI kp), .int (xs 0), .ref (z 3), .ref (z 4), .ref (z 5), .ref (z 6), .int (xs 1), .ref (z 7), .ref (z 8), .ref (z 9), .ref (z 10), .ref (z 11), .ref (z 12), .int (xs 2), .ref (z 13), .ref (z 14), .int (xs 3), .ref (z 15)])), (z 3, .inl (gI g, 4, .inl f_20)), (z 4, .inl (gI g, 4, .inl f_21)), (z 5, .inl (gI g, 240, .inl (upd Ma (nI ((60 * js) + i)).toNatClampNeg 0)))] := hD
                  obtain ⟨f_23, ef_23⟩ : ∃ zz_ : Nat → Int32, zz_ = upd Ma (nI ((60 * js) + i)).toNatClampNeg 0 := ⟨_, rfl⟩
                  rw [← ef_23] at hP hD
                  refine lv_iinc (v := nI (i + 1)) (lv' := [(4, .int (nI (i + 1))), (0, .ref (z 0)), (1, .int (nI js)), (2, .int y), (3, .int (nI nz))]) hx hb dX12_sheet_102 hl (k := 0) rfl (nI_add i 1) (by decide) rfl (fun ls hl => ?_)
                  refine lv_goto (tgt := 82) hx hb dX12_sheet_105 (by decide) ?_
                  exact ih82 (i + 1) f_23 (by omega) (by first | assumption | omega) (k_zrS hzr ef_23 hjs (by omega)) H locs (hP.sub [0, 1, 2, 3] rfl) (hD.sub [0, 1, 2, 3] (by decide) rfl) hS ls (lv_sub hl [0, 1, 2, 3, 4] rfl)
            exact L82 (60 - 0 + 1) 0 M (Nat.lt_succ_self _) (by first | assumption | omega) k_zr0 H locs (hP.sub [0, 1, 2, 3] rfl) (hD.sub [0, 1, 2, 3] (by decide) rfl) hS ls (lv_sub hl [0, 1, 2, 3, 4] rfl)
          · refine lv_aload_n hx hb dX12_sheet_51 rfl (lv_at hl 0 rfl) ?_
            refine lv_iconst (v := 1) hx hb dX12_sheet_52 (by decide) ?_
            refine k_Vi [0] [1, 2, 3] 0 12 (wr := [(z 3, .inl (gI g, 4, .inl B)), (z 4, .inl (gI g, 4, .inl Z)), (z 5, .inl (gI g, 240, .inl M))]) hx hb hml hown hts hKW hP hD hS hA hl.1 (c_X12_finding_1 l g _ z kp xs ) rfl rfl rfl wd_10_15 wd_1_5 wd_10_12 wd_10_13 wd_10_14 yd_X12_finding ⟨(Nat.le_of_ble_eq_true rfl), (Nat.le_of_ble_eq_true rfl)⟩ rfl rfl rfl rfl (by decide) rfl (Nat.le_of_ble_eq_true rfl) dX12_sheet_53 ⟨(Nat.le_of_ble_eq_true rfl), (Nat.le_of_ble_eq_true rfl)⟩ (fun r_24 u_25 H locs hw_26 hP hD hS => ?_)
            have hP : va_P g.1 vwCl [(z 3, .inl (gI g, 4, .inl B)), (z 4, .inl (gI g, 4, .inl Z)), (z 5, .inl (gI g, 240, .inl M)), (z 0, .inr (12, [.ref (z 1), .ref (z 2), .int (nI kp), .int u_25, .ref (z 3), .ref (z 4), .ref (z 5), .ref (z 6), .int (xs 1), .ref (z 7), .ref (z 8), .ref (z 9), .ref (z 10), .ref (z 11), .ref (z 12), .int (xs 2), .ref (z 13), .ref (z 14), .int (xs 3), .ref (z 15)]))] H := hP
            have hD : va_D A [(z 3, .inl (gI g, 4, .inl B)), (z 4, .inl (gI g, 4, .inl Z)), (z 5, .inl (gI g, 240, .inl M)), (z 0, .inr (12, [.ref (z 1), .ref (z 2), .int (nI kp), .int u_25, .ref (z 3), .ref (z 4), .ref (z 5), .ref (z 6), .int (xs 1), .ref (z 7), .ref (z 8), .ref (z 9), .ref (z 10), .ref (z 11), .ref (z 12), .int (xs 2), .ref (z 13), .ref (z 14), .int (xs 3), .ref (z 15)]))] := hD
            have hw_26 : r_24 = (-100001) := hw_26
            subst hw_26
            have hres : (-100001) = aSheet x y w := (by clear hP hD hS hA hts hKW hl; unfold aSheet; (repeat' split) <;> first | rfl | (exfalso; (first | omega | (simp only [Int32.lt_iff_toInt_lt, Int32.le_iff_toInt_le, ← Int32.toInt_inj] at *; omega) | (simp only [Int32.lt_iff_toInt_lt, Int32.le_iff_toInt_le, ← Int32.toInt_inj] at *; simp at *; omega) | (simp only [Int32.lt_iff_toInt_lt, Int32.le_iff_toInt_le, ← Int32.toInt_inj] at *; simp at *; done) | (simp at *; omega) | (simp at *; done))))
            exact k_iret ((fun kk_ => ([u_25, (xs 1), (xs 2), (xs 3)] : List Int32).getD kk_ 0), B, Z, M, sn) [3, 0, 1, 2] hx hb hr hlk hP hD hS (⟨hres, Or.inr ⟨by rw [← hres]; decide, fun _ _ => rfl, fun _ _ => rfl, fun _ _ _ _ => rfl⟩, hZ⟩) rfl rfl rfl (Nat.le_of_ble_eq_true rfl) (Nat.le_of_ble_eq_true rfl) dX12_sheet_56
        · refine lv_aload_n hx hb dX12_sheet_39 rfl (lv_at hl 0 rfl) ?_
          refine lv_iconst (v := 3) hx hb dX12_sheet_40 (by decide) ?_
          refine k_Vi [0] [1, 2, 3] 0 12 (wr := [(z 3, .inl (gI g, 4, .inl B)), (z 4, .inl (gI g, 4, .inl Z)), (z 5, .inl (gI g, 240, .inl M))]) hx hb hml hown hts hKW hP hD hS hA hl.1 (c_X12_finding_3 l g _ z kp xs ) rfl rfl rfl wd_10_15 wd_1_5 wd_10_12 wd_10_13 wd_10_14 yd_X12_finding ⟨(Nat.le_of_ble_eq_true rfl), (Nat.le_of_ble_eq_true rfl)⟩ rfl rfl rfl rfl (by decide) rfl (Nat.le_of_ble_eq_true rfl) dX12_sheet_41 ⟨(Nat.le_of_ble_eq_true rfl), (Nat.le_of_ble_eq_true rfl)⟩ (fun r_27 u_28 H locs hw_29 hP hD hS => ?_)
          have hP : va_P g.1 vwCl [(z 3, .inl (gI g, 4, .inl B)), (z 4, .inl (gI g, 4, .inl Z)), (z 5, .inl (gI g, 240, .inl M)), (z 0, .inr (12, [.ref (z 1), .ref (z 2), .int (nI kp), .int u_28, .ref (z 3), .ref (z 4), .ref (z 5), .ref (z 6), .int (xs 1), .ref (z 7), .ref (z 8), .ref (z 9), .ref (z 10), .ref (z 11), .ref (z 12), .int (xs 2), .ref (z 13), .ref (z 14), .int (xs 3), .ref (z 15)]))] H := hP
          have hD : va_D A [(z 3, .inl (gI g, 4, .inl B)), (z 4, .inl (gI g, 4, .inl Z)), (z 5, .inl (gI g, 240, .inl M)), (z 0, .inr (12, [.ref (z 1), .ref (z 2), .int (nI kp), .int u_28, .ref (z 3), .ref (z 4), .ref (z 5), .ref (z 6), .int (xs 1), .ref (z 7), .ref (z 8), .ref (z 9), .ref (z 10), .ref (z 11), .ref (z 12), .int (xs 2), .ref (z 13), .ref (z 14), .int (xs 3), .ref (z 15)]))] := hD
          have hw_29 : r_27 = (-100003) := hw_29
          subst hw_29
          have hres : (-100003) = aSheet x y w := (by clear hP hD hS hA hts hKW hl; unfold aSheet; (repeat' split) <;> first | rfl | (exfalso; (first | omega | (simp only [Int32.lt_iff_toInt_lt, Int32.le_iff_toInt_le, ← Int32.toInt_inj] at *; omega) | (simp only [Int32.lt_iff_toInt_lt, Int32.le_iff_toInt_le, ← Int32.toInt_inj] at *; simp at *; omega) | (simp only [Int32.lt_iff_toInt_lt, Int32.le_iff_toInt_le, ← Int32.toInt_inj] at *; simp at *; done) | (simp at *; omega) | (simp at *; done))))
          exact k_iret ((fun kk_ => ([u_28, (xs 1), (xs 2), (xs 3)] : List Int32).getD kk_ 0), B, Z, M, sn) [3, 0, 1, 2] hx hb hr hlk hP hD hS (⟨hres, Or.inr ⟨by rw [← hres]; decide, fun _ _ => rfl, fun _ _ => rfl, fun _ _ _ _ => rfl⟩, hZ⟩) rfl rfl rfl (Nat.le_of_ble_eq_true rfl) (Nat.le_of_ble_eq_true rfl) dX12_sheet_44
      · refine lv_iload_n hx hb dX12_sheet_17 rfl (lv_at hl 2 rfl) ?_
        refine lv_bipush (v := 16) hx hb dX12_sheet_18 (by decide) ?_
        refine lv_icmp_eq (tgt := 35) hx hb dX12_sheet_20 (by decide) (fun c_30 => ?_) (fun c_30 => ?_)
        · refine lv_iload_n hx hb dX12_sheet_35 rfl (lv_at hl 3 rfl) ?_
          refine lv_if_ge (tgt := 45) hx hb dX12_sheet_36 (by decide) (fun c_31 => ?_) (fun c_31 => ?_)
          · refine lv_iload_n hx hb dX12_sheet_45 rfl (lv_at hl 3 rfl) ?_
            refine lv_bipush (v := 60) hx hb dX12_sheet_46 (by decide) ?_
            refine lv_icmp_le (tgt := 57) hx hb dX12_sheet_48 (by decide) (fun c_32 => ?_) (fun c_32 => ?_)
            · have hpre : (if y = 0 then 0 else w) = aSheet x y w := (by clear hP hD hS hA hts hKW hl; unfold aSheet; (repeat' split) <;> first | rfl | (exfalso; (first | omega | (simp only [Int32.lt_iff_toInt_lt, Int32.le_iff_toInt_le, ← Int32.toInt_inj] at *; omega) | (simp only [Int32.lt_iff_toInt_lt, Int32.le_iff_toInt_le, ← Int32.toInt_inj] at *; simp at *; omega) | (simp only [Int32.lt_iff_toInt_lt, Int32.le_iff_toInt_le, ← Int32.toInt_inj] at *; simp at *; done) | (simp at *; omega) | (simp at *; done))))
              obtain ⟨nz, hnz, rfl⟩ := k_ofr (x := w) (n := 61) (by decide) (by have q1 := c_31; have q2 := c_32; rw [Int32.le_iff_toInt_le] at q1 q2; rw [show Int32.toInt 0 = (0 : Int) from rfl] at q1; rw [show Int32.toInt 60 = (60 : Int) from rfl] at q2; omega)
              obtain ⟨js, hjs, rfl⟩ := k_ofr (x := x) (n := 4) (by decide) (by have q := hw_3b; omega)
              refine lv_aload_n hx hb dX12_sheet_57 rfl (lv_at hl 0 rfl) ?_
              refine va_get (ci := 12) (C := RX12) (T := TX12) (N := 20) hx hb hts inlX12 hown hKW.1 hP 0 rfl rfl 4 (by decide) (hts _ wd_6_7) (fun _ h => h) rfl dX12_sheet_58 ?_
              refine lv_iload_n hx hb dX12_sheet_61 rfl (lv_at hl 1 rfl) ?_
              refine lv_iload_n hx hb dX12_sheet_62 rfl (lv_at hl 2 rfl) ?_
              refine va_iast hx hb hKW.1 hP hD hS 1 0 rfl rfl (vp_in_nI (by omega) (by decide)) dX12_sheet_63 (fun H locs hP hD hS => ?_)
              have hP : va_P g.1 vwCl [(z 0, .inr (12, [.ref (z 1), .ref (z 2), .int (nI kp), .int (xs 0), .ref (z 3), .ref (z 4), .ref (z 5), .ref (z 6), .int (xs 1), .ref (z 7), .ref (z 8), .ref (z 9), .ref (z 10), .ref (z 11), .ref (z 12), .int (xs 2), .ref (z 13), .ref (z 14), .int (xs 3), .ref (z 15)])), (z 3, .inl (gI g, 4, .inl (upd B (nI js).toNatClampNeg y))), (z 4, .inl (gI g, 4, .inl Z)), (z 5, .inl (gI g, 240, .inl M))] H := hP
              have hD : va_D A [(z 0, .inr (12, [.ref (z 1), .ref (z 2), .int (nI kp), .int (xs 0), .ref (z 3), .ref (z 4), .ref (z 5), .ref (z 6), .int (xs 1), .ref (z 7), .ref (z 8), .ref (z 9), .ref (z 10), .ref (z 11), .ref (z 12), .int (xs 2), .ref (z 13), .ref (z 14), .int (xs 3), .ref (z 15)])), (z 3, .inl (gI g, 4, .inl (upd B (nI js).toNatClampNeg y))), (z 4, .inl (gI g, 4, .inl Z)), (z 5, .inl (gI g, 240, .inl M))] := hD
              obtain ⟨f_33, ef_33⟩ : ∃ zz_ : Nat → Int32, zz_ = upd B (nI js).toNatClampNeg y := ⟨_, rfl⟩
              rw [← ef_33] at hP hD
              refine lv_aload_n hx hb dX12_sheet_64 rfl (lv_at hl 0 rfl) ?_
              refine va_get (ci := 12) (C := RX12) (T := TX12) (N := 20) hx hb hts inlX12 hown hKW.1 hP 0 rfl rfl 5 (by decide) (hts _ wd_6_8) (fun _ h => h) rfl dX12_sheet_65 ?_
              refine lv_iload_n hx hb dX12_sheet_68 rfl (lv_at hl 1 rfl) ?_
              refine lv_iload_n hx hb dX12_sheet_69 rfl (lv_at hl 2 rfl) ?_
              refine lv_if_ne (tgt := 77) hx hb dX12_sheet_70 (by decide) (fun _ => ?_) (fun c => False.elim (c_4 c))
              refine lv_iload_n hx hb dX12_sheet_77 rfl (lv_at hl 3 rfl) ?_
              refine va_iast hx hb hKW.1 hP hD hS 2 0 rfl rfl (vp_in_nI (by omega) (by decide)) dX12_sheet_78 (fun H locs hP hD hS => ?_)
              have hP : va_P g.1 vwCl [(z 0, .inr (12, [.ref (z 1), .ref (z 2), .int (nI kp), .int (xs 0), .ref (z 3), .ref (z 4), .ref (z 5), .ref (z 6), .int (xs 1), .ref (z 7), .ref (z 8), .ref (z 9), .ref (z 10), .ref (z 11), .ref (z 12), .int (xs 2), .ref (z 13), .ref (z 14), .int (xs 3), .ref (z 15)])), (z 3, .inl (gI g, 4, .inl f_33)), (z 4, .inl (gI g, 4, .inl (upd Z (nI js).toNatClampNeg (nI nz)))), (z 5, .inl (gI g, 240, .inl M))] H := hP
              have hD : va_D A [(z 0, .inr (12, [.ref (z 1), .ref (z 2), .int (nI kp), .int (xs 0), .ref (z 3), .ref (z 4), .ref (z 5), .ref (z 6), .int (xs 1), .ref (z 7), .ref (z 8), .ref (z 9), .ref (z 10), .ref (z 11), .ref (z 12), .int (xs 2), .ref (z 13), .ref (z 14), .int (xs 3), .ref (z 15)])), (z 3, .inl (gI g, 4, .inl f_33)), (z 4, .inl (gI g, 4, .inl (upd Z (nI js).toNatClampNeg (nI nz)))), (z 5, .inl (gI g, 240, .inl M))] := hD
              obtain ⟨f_34, ef_34⟩ : ∃ zz_ : Nat → Int32, zz_ = upd Z (nI js).toNatClampNeg (nI nz) := ⟨_, rfl⟩
              rw [← ef_34] at hP hD
              refine lv_iconst (v := 0) hx hb dX12_sheet_79 (by decide) ?_
              refine lv_istore (lv' := [(4, .int 0), (0, .ref (z 0)), (1, .int (nI js)), (2, .int y), (3, .int (nI nz))]) hx hb dX12_sheet_80 hl (by decide) rfl (fun ls hl => ?_)
              have L82 : ∀ (n82 : Nat) (i : Nat) (Ma : Nat → Int32) (hfuel82 : 60 - i < n82) (hi : i ≤ 60) (hzr : kZr M Ma js i) (H : Heap) (locs : List Loc) (hP : va_P g.1 vwCl [(z 0, .inr (12, [.ref (z 1), .ref (z 2), .int (nI kp), .int (xs 0), .ref (z 3), .ref (z 4), .ref (z 5), .ref (z 6), .int (xs 1), .ref (z 7), .ref (z 8), .ref (z 9), .ref (z 10), .ref (z 11), .ref (z 12), .int (xs 2), .ref (z 13), .ref (z 14), .int (xs 3), .ref (z 15)])), (z 3, .inl (gI g, 4, .inl f_33)), (z 4, .inl (gI g, 4, .inl f_34)), (z 5, .inl (gI g, 240, .inl Ma))] H) (hD : va_D A [(z 0, .inr (12, [.ref (z 1), .ref (z 2), .int (nI kp), .int (xs 0), .ref (z 3), .ref (z 4), .ref (z 5), .ref (z 6), .int (xs 1), .ref (z 7), .ref (z 8), .ref (z 9), .ref (z 10), .ref (z 11), .ref (z 12), .int (xs 2), .ref (z 13), .ref (z 14), .int (xs 3), .ref (z 15)])), (z 3, .inl (gI g, 4, .inl f_33)), (z 4, .inl (gI g, 4, .inl f_34)), (z 5, .inl (gI g, 240, .inl Ma))]) (hS : va_S A s.heap H locs) (ls : Array Slot) (hl : lv_has ls 5 [(4, .int (nI i)), (0, .ref (z 0)), (1, .int (nI js)), (2, .int y), (3, .int (nI nz))]), W p l e (kR 3 0 0) s m ([.ref (z 0), .int (nI js), .int y, .int (nI nz)] : List Value).toArray below meth c H locs 0 0 (kQi g A below ([.ref (z 0), .int (nI js), .int y, .int (nI nz)] : List Value).toArray s 0 0 (fun (r : Int32) (u : (Nat → Int32) × (Nat → Int32) × (Nat → Int32) × (Nat → Int32) × (Nat → Nat)) => (r = aSheet (nI js) y (nI nz)) ∧ (ShR (nI js) y (nI nz) B u.2.1 sn u.2.2.2.2 (kSF M) (kSF u.2.2.2.1) ∧ ∀ j, j < 4 → u.2.2.1 j = nI (u.2.2.2.2 j) ∧ u.2.2.2.2 j ≤ 60)) (fun (u : (Nat → Int32) × (Nat → Int32) × (Nat → Int32) × (Nat → Int32) × (Nat → Nat)) => ([(z 0, .inr (12, [.ref (z 1), .ref (z 2), .int (nI kp), .int (u.1 0), .ref (z 3), .ref (z 4), .ref (z 5), .ref (z 6), .int (u.1 1), .ref (z 7), .ref (z 8), .ref (z 9), .ref (z 10), .ref (z 11), .ref (z 12), .int (u.1 2), .ref (z 13), .ref (z 14), .int (u.1 3), .ref (z 15)])), (z 3, .inl (gI g, 4, .inl u.2.1)), (z 4, .inl (gI g, 4, .inl u.2.2.1)), (z 5, .inl (gI g, 240, .inl u.2.2.2.1))] : va_W))) (F0 m 82 ls []) := by
                intro n82
                induction n82 with
                | zero => intro i Ma hfuel82; exact absurd hfuel82 (Nat.not_lt_zero _)
                | succ n82 ih82 =>
                  intro i Ma hfuel82 hi hzr H locs hP hD hS ls hl
                  refine lv_iload hx hb dX12_sheet_82 (lv_at hl 0 rfl) ?_
                  refine lv_bipush (v := 60) hx hb dX12_sheet_84 (by decide) ?_
                  refine lv_icmp_ge (tgt := 108) hx hb dX12_sheet_86 (by decide) (fun c_35 => ?_) (fun c_35 => ?_)
                  · have c_35n : 60 ≤ i := (k_leI (a := 60) (b := i) (by omega) (by omega)).mp c_35
                    refine lv_iload_n hx hb dX12_sheet_108 rfl (lv_at hl 3 rfl) ?_
                    refine lv_if_ne (tgt := 116) hx hb dX12_sheet_109 (by decide) (fun _ => ?_) (fun c => False.elim (c_4 c))
                    refine lv_iload_n hx hb dX12_sheet_116 rfl (lv_at hl 4 rfl) ?_
                    have hres : nI nz = aSheet (nI js) y (nI nz) := by rw [← hpre, if_neg c_4]
                    exact k_iret (xs, f_33, f_34, Ma, (fun j => if j = js then nz else sn j)) [0, 1, 2, 3] hx hb hr hlk hP hD hS (⟨hres, Or.inl ⟨js, nz, hjs, by omega, rfl, (by rw [if_neg c_4]), hres.symm, k_upd4 ef_33 hjs, fun _ _ => rfl, k_zrE hzr (by omega)⟩, k_updZ ef_34 hjs rfl (by omega) hZ⟩) rfl rfl rfl (Nat.le_of_ble_eq_true rfl) (Nat.le_of_ble_eq_true rfl) dX12_sheet_117
                  · have c_35n : i < 60 := Nat.not_le.mp (fun h => c_35 ((k_leI (a := 60) (b := i) (by omega) (by omega)).mpr h))
                    refine lv_aload_n hx hb dX12_sheet_89 rfl (lv_at hl 1 rfl) ?_
                    refine va_get (ci := 12) (C := RX12) (T := TX12) (N := 20) hx hb hts inlX12 hown hKW.1 hP 0 rfl rfl 6 (by decide) (hts _ wd_6_9) (fun _ h => h) rfl dX12_sheet_90 ?_
                    refine lv_bipush (v := 60) hx hb dX12_sheet_93 (by decide) ?_
                    refine lv_iload_n hx hb dX12_sheet_95 rfl (lv_at hl 2 rfl) ?_
                    refine lv_imul hx hb dX12_sheet_96 ?_
                    refine k_top (y := nI (60 * js)) (show (60 : Int32) * nI js = nI (60 * js) from k_nmul 60 js) ?_
                    refine lv_iload hx hb dX12_sheet_97 (lv_at hl 0 rfl) ?_
                    refine lv_iadd hx hb dX12_sheet_99 ?_
                    refine k_top (y := nI ((60 * js) + i)) (nI_add (60 * js) i) ?_
                    refine lv_iconst (v := 0) hx hb dX12_sheet_100 (by decide) ?_
                    refine va_iast hx hb hKW.1 hP hD hS 3 0 rfl rfl (vp_in_nI (by omega) (by decide)) dX12_sheet_101 (fun H locs hP hD hS => ?_)
                    have hP : va_P g.1 vwCl [(z 0, .inr (12, [.ref (z 1), .ref (z 2), .int (nI kp), .int (xs 0), .ref (z 3), .ref (z 4), .ref (z 5), .ref (z 6), .int (xs 1), .ref (z 7), .ref (z 8), .ref (z 9), .ref (z 10), .ref (z 11), .ref (z 12), .int (xs 2), .ref (z 13), .ref (z 14), .int (xs 3), .ref (z 15)])), (z 3, .inl (gI g, 4, .inl f_33)), (z 4, .inl (gI g, 4, .inl f_34)), (z 5, .inl (gI g, 240, .inl (upd Ma (nI ((60 * js) + i)).toNatClampNeg 0)))] H := hP
                    have hD : va_D A [(z 0, .inr (12, [.ref (z 1), .ref (z 2), .int (nI kp), .int (xs 0), .ref (z 3), .ref (z 4), .ref (z 5), .ref (z 6), .int (xs 1), .ref (z 7), .ref (z 8), .ref (z 9), .ref (z 10), .ref (z 11), .ref (z 12), .int (xs 2), .ref (z 13), .ref (z 14), .int (xs 3), .ref (z 15)])), (z 3, .inl (gI g, 4, .inl f_33)), (z 4, .inl (gI g, 4, .inl f_34)), (z 5, .inl (gI g, 240, .inl (upd Ma (nI ((60 * js) + i)).toNatClampNeg 0)))] := hD
                    obtain ⟨f_36, ef_36⟩ : ∃ zz_ : Nat → Int32, zz_ = upd Ma (nI ((60 * js) + i)).toNatClampNeg 0 := ⟨_, rfl⟩
                    rw [← ef_36] at hP hD
                    refine lv_iinc (v := nI (i + 1)) (lv' := [(4, .int (nI (i + 1))), (0, .ref (z 0)), (1, .int (nI js)), (2, .int y), (3, .int (nI nz))]) hx hb dX12_sheet_102 hl (k := 0) rfl (nI_add i 1) (by decide) rfl (fun ls hl => ?_)
                    refine lv_goto (tgt := 82) hx hb dX12_sheet_105 (by decide) ?_
                    exact ih82 (i + 1) f_36 (by omega) (by first | assumption | omega) (k_zrS hzr ef_36 hjs (by omega)) H locs (hP.sub [0, 1, 2, 3] rfl) (hD.sub [0, 1, 2, 3] (by decide) rfl) hS ls (lv_sub hl [0, 1, 2, 3, 4] rfl)
              exact L82 (60 - 0 + 1) 0 M (Nat.lt_succ_self _) (by first | assumption | omega) k_zr0 H locs (hP.sub [0, 1, 2, 3] rfl) (hD.sub [0, 1, 2, 3] (by decide) rfl) hS ls (lv_sub hl [0, 1, 2, 3, 4] rfl)
            · refine lv_aload_n hx hb dX12_sheet_51 rfl (lv_at hl 0 rfl) ?_
              refine lv_iconst (v := 1) hx hb dX12_sheet_52 (by decide) ?_
              refine k_Vi [0] [1, 2, 3] 0 12 (wr := [(z 3, .inl (gI g, 4, .inl B)), (z 4, .inl (gI g, 4, .inl Z)), (z 5, .inl (gI g, 240, .inl M))]) hx hb hml hown hts hKW hP hD hS hA hl.1 (c_X12_finding_1 l g _ z kp xs ) rfl rfl rfl wd_10_15 wd_1_5 wd_10_12 wd_10_13 wd_10_14 yd_X12_finding ⟨(Nat.le_of_ble_eq_true rfl), (Nat.le_of_ble_eq_true rfl)⟩ rfl rfl rfl rfl (by decide) rfl (Nat.le_of_ble_eq_true rfl) dX12_sheet_53 ⟨(Nat.le_of_ble_eq_true rfl), (Nat.le_of_ble_eq_true rfl)⟩ (fun r_37 u_38 H locs hw_39 hP hD hS => ?_)
              have hP : va_P g.1 vwCl [(z 3, .inl (gI g, 4, .inl B)), (z 4, .inl (gI g, 4, .inl Z)), (z 5, .inl (gI g, 240, .inl M)), (z 0, .inr (12, [.ref (z 1), .ref (z 2), .int (nI kp), .int u_38, .ref (z 3), .ref (z 4), .ref (z 5), .ref (z 6), .int (xs 1), .ref (z 7), .ref (z 8), .ref (z 9), .ref (z 10), .ref (z 11), .ref (z 12), .int (xs 2), .ref (z 13), .ref (z 14), .int (xs 3), .ref (z 15)]))] H := hP
              have hD : va_D A [(z 3, .inl (gI g, 4, .inl B)), (z 4, .inl (gI g, 4, .inl Z)), (z 5, .inl (gI g, 240, .inl M)), (z 0, .inr (12, [.ref (z 1), .ref (z 2), .int (nI kp), .int u_38, .ref (z 3), .ref (z 4), .ref (z 5), .ref (z 6), .int (xs 1), .ref (z 7), .ref (z 8), .ref (z 9), .ref (z 10), .ref (z 11), .ref (z 12), .int (xs 2), .ref (z 13), .ref (z 14), .int (xs 3), .ref (z 15)]))] := hD
              have hw_39 : r_37 = (-100001) := hw_39
              subst hw_39
              have hres : (-100001) = aSheet x y w := (by clear hP hD hS hA hts hKW hl; unfold aSheet; (repeat' split) <;> first | rfl | (exfalso; (first | omega | (simp only [Int32.lt_iff_toInt_lt, Int32.le_iff_toInt_le, ← Int32.toInt_inj] at *; omega) | (simp only [Int32.lt_iff_toInt_lt, Int32.le_iff_toInt_le, ← Int32.toInt_inj] at *; simp at *; omega) | (simp only [Int32.lt_iff_toInt_lt, Int32.le_iff_toInt_le, ← Int32.toInt_inj] at *; simp at *; done) | (simp at *; omega) | (simp at *; done))))
              exact k_iret ((fun kk_ => ([u_38, (xs 1), (xs 2), (xs 3)] : List Int32).getD kk_ 0), B, Z, M, sn) [3, 0, 1, 2] hx hb hr hlk hP hD hS (⟨hres, Or.inr ⟨by rw [← hres]; decide, fun _ _ => rfl, fun _ _ => rfl, fun _ _ _ _ => rfl⟩, hZ⟩) rfl rfl rfl (Nat.le_of_ble_eq_true rfl) (Nat.le_of_ble_eq_true rfl) dX12_sheet_56
          · refine lv_aload_n hx hb dX12_sheet_39 rfl (lv_at hl 0 rfl) ?_
            refine lv_iconst (v := 3) hx hb dX12_sheet_40 (by decide) ?_
            refine k_Vi [0] [1, 2, 3] 0 12 (wr := [(z 3, .inl (gI g, 4, .inl B)), (z 4, .inl (gI g, 4, .inl Z)), (z 5, .inl (gI g, 240, .inl M))]) hx hb hml hown hts hKW hP hD hS hA hl.1 (c_X12_finding_3 l g _ z kp xs ) rfl rfl rfl wd_10_15 wd_1_5 wd_10_12 wd_10_13 wd_10_14 yd_X12_finding ⟨(Nat.le_of_ble_eq_true rfl), (Nat.le_of_ble_eq_true rfl)⟩ rfl rfl rfl rfl (by decide) rfl (Nat.le_of_ble_eq_true rfl) dX12_sheet_41 ⟨(Nat.le_of_ble_eq_true rfl), (Nat.le_of_ble_eq_true rfl)⟩ (fun r_40 u_41 H locs hw_42 hP hD hS => ?_)
            have hP : va_P g.1 vwCl [(z 3, .inl (gI g, 4, .inl B)), (z 4, .inl (gI g, 4, .inl Z)), (z 5, .inl (gI g, 240, .inl M)), (z 0, .inr (12, [.ref (z 1), .ref (z 2), .int (nI kp), .int u_41, .ref (z 3), .ref (z 4), .ref (z 5), .ref (z 6), .int (xs 1), .ref (z 7), .ref (z 8), .ref (z 9), .ref (z 10), .ref (z 11), .ref (z 12), .int (xs 2), .ref (z 13), .ref (z 14), .int (xs 3), .ref (z 15)]))] H := hP
            have hD : va_D A [(z 3, .inl (gI g, 4, .inl B)), (z 4, .inl (gI g, 4, .inl Z)), (z 5, .inl (gI g, 240, .inl M)), (z 0, .inr (12, [.ref (z 1), .ref (z 2), .int (nI kp), .int u_41, .ref (z 3), .ref (z 4), .ref (z 5), .ref (z 6), .int (xs 1), .ref (z 7), .ref (z 8), .ref (z 9), .ref (z 10), .ref (z 11), .ref (z 12), .int (xs 2), .ref (z 13), .ref (z 14), .int (xs 3), .ref (z 15)]))] := hD
            have hw_42 : r_40 = (-100003) := hw_42
            subst hw_42
            have hres : (-100003) = aSheet x y w := (by clear hP hD hS hA hts hKW hl; unfold aSheet; (repeat' split) <;> first | rfl | (exfalso; (first | omega | (simp only [Int32.lt_iff_toInt_lt, Int32.le_iff_toInt_le, ← Int32.toInt_inj] at *; omega) | (simp only [Int32.lt_iff_toInt_lt, Int32.le_iff_toInt_le, ← Int32.toInt_inj] at *; simp at *; omega) | (simp only [Int32.lt_iff_toInt_lt, Int32.le_iff_toInt_le, ← Int32.toInt_inj] at *; simp at *; done) | (simp at *; omega) | (simp at *; done))))
            exact k_iret ((fun kk_ => ([u_41, (xs 1), (xs 2), (xs 3)] : List Int32).getD kk_ 0), B, Z, M, sn) [3, 0, 1, 2] hx hb hr hlk hP hD hS (⟨hres, Or.inr ⟨by rw [← hres]; decide, fun _ _ => rfl, fun _ _ => rfl, fun _ _ _ _ => rfl⟩, hZ⟩) rfl rfl rfl (Nat.le_of_ble_eq_true rfl) (Nat.le_of_ble_eq_true rfl) dX12_sheet_44
        · refine lv_iload_n hx hb dX12_sheet_23 rfl (lv_at hl 2 rfl) ?_
          refine lv_bipush (v := 32) hx hb dX12_sheet_24 (by decide) ?_
          refine lv_icmp_eq (tgt := 35) hx hb dX12_sheet_26 (by decide) (fun c_43 => ?_) (fun c_43 => ?_)
          · refine lv_iload_n hx hb dX12_sheet_35 rfl (lv_at hl 3 rfl) ?_
            refine lv_if_ge (tgt := 45) hx hb dX12_sheet_36 (by decide) (fun c_44 => ?_) (fun c_44 => ?_)
            · refine lv_iload_n hx hb dX12_sheet_45 rfl (lv_at hl 3 rfl) ?_
              refine lv_bipush (v := 60) hx hb dX12_sheet_46 (by decide) ?_
              refine lv_icmp_le (tgt := 57) hx hb dX12_sheet_48 (by decide) (fun c_45 => ?_) (fun c_45 => ?_)
              · have hpre : (if y = 0 then 0 else w) = aSheet x y w := (by clear hP hD hS hA hts hKW hl; unfold aSheet; (repeat' split) <;> first | rfl | (exfalso; (first | omega | (simp only [Int32.lt_iff_toInt_lt, Int32.le_iff_toInt_le, ← Int32.toInt_inj] at *; omega) | (simp only [Int32.lt_iff_toInt_lt, Int32.le_iff_toInt_le, ← Int32.toInt_inj] at *; simp at *; omega) | (simp only [Int32.lt_iff_toInt_lt, Int32.le_iff_toInt_le, ← Int32.toInt_inj] at *; simp at *; done) | (simp at *; omega) | (simp at *; done))))
                obtain ⟨nz, hnz, rfl⟩ := k_ofr (x := w) (n := 61) (by decide) (by have q1 := c_44; have q2 := c_45; rw [Int32.le_iff_toInt_le] at q1 q2; rw [show Int32.toInt 0 = (0 : Int) from rfl] at q1; rw [show Int32.toInt 60 = (60 : Int) from rfl] at q2; omega)
                obtain ⟨js, hjs, rfl⟩ := k_ofr (x := x) (n := 4) (by decide) (by have q := hw_3b; omega)
                refine lv_aload_n hx hb dX12_sheet_57 rfl (lv_at hl 0 rfl) ?_
                refine va_get (ci := 12) (C := RX12) (T := TX12) (N := 20) hx hb hts inlX12 hown hKW.1 hP 0 rfl rfl 4 (by decide) (hts _ wd_6_7) (fun _ h => h) rfl dX12_sheet_58 ?_
                refine lv_iload_n hx hb dX12_sheet_61 rfl (lv_at hl 1 rfl) ?_
                refine lv_iload_n hx hb dX12_sheet_62 rfl (lv_at hl 2 rfl) ?_
                refine va_iast hx hb hKW.1 hP hD hS 1 0 rfl rfl (vp_in_nI (by omega) (by decide)) dX12_sheet_63 (fun H locs hP hD hS => ?_)
                have hP : va_P g.1 vwCl [(z 0, .inr (12, [.ref (z 1), .ref (z 2), .int (nI kp), .int (xs 0), .ref (z 3), .ref (z 4), .ref (z 5), .ref (z 6), .int (xs 1), .ref (z 7), .ref (z 8), .ref (z 9), .ref (z 10), .ref (z 11), .ref (z 12), .int (xs 2), .ref (z 13), .ref (z 14), .int (xs 3), .ref (z 15)])), (z 3, .inl (gI g, 4, .inl (upd B (nI js).toNatClampNeg y))), (z 4, .inl (gI g, 4, .inl Z)), (z 5, .inl (gI g, 240, .inl M))] H := hP
                have hD : va_D A [(z 0, .inr (12, [.ref (z 1), .ref (z 2), .int (nI kp), .int (xs 0), .ref (z 3), .ref (z 4), .ref (z 5), .ref (z 6), .int (xs 1), .ref (z 7), .ref (z 8), .ref (z 9), .ref (z 10), .ref (z 11), .ref (z 12), .int (xs 2), .ref (z 13), .ref (z 14), .int (xs 3), .ref (z 15)])), (z 3, .inl (gI g, 4, .inl (upd B (nI js).toNatClampNeg y))), (z 4, .inl (gI g, 4, .inl Z)), (z 5, .inl (gI g, 240, .inl M))] := hD
                obtain ⟨f_46, ef_46⟩ : ∃ zz_ : Nat → Int32, zz_ = upd B (nI js).toNatClampNeg y := ⟨_, rfl⟩
                rw [← ef_46] at hP hD
                refine lv_aload_n hx hb dX12_sheet_64 rfl (lv_at hl 0 rfl) ?_
                refine va_get (ci := 12) (C := RX12) (T := TX12) (N := 20) hx hb hts inlX12 hown hKW.1 hP 0 rfl rfl 5 (by decide) (hts _ wd_6_8) (fun _ h => h) rfl dX12_sheet_65 ?_
                refine lv_iload_n hx hb dX12_sheet_68 rfl (lv_at hl 1 rfl) ?_
                refine lv_iload_n hx hb dX12_sheet_69 rfl (lv_at hl 2 rfl) ?_
                refine lv_if_ne (tgt := 77) hx hb dX12_sheet_70 (by decide) (fun _ => ?_) (fun c => False.elim (c_4 c))
                refine lv_iload_n hx hb dX12_sheet_77 rfl (lv_at hl 3 rfl) ?_
                refine va_iast hx hb hKW.1 hP hD hS 2 0 rfl rfl (vp_in_nI (by omega) (by decide)) dX12_sheet_78 (fun H locs hP hD hS => ?_)
                have hP : va_P g.1 vwCl [(z 0, .inr (12, [.ref (z 1), .ref (z 2), .int (nI kp), .int (xs 0), .ref (z 3), .ref (z 4), .ref (z 5), .ref (z 6), .int (xs 1), .ref (z 7), .ref (z 8), .ref (z 9), .ref (z 10), .ref (z 11), .ref (z 12), .int (xs 2), .ref (z 13), .ref (z 14), .int (xs 3), .ref (z 15)])), (z 3, .inl (gI g, 4, .inl f_46)), (z 4, .inl (gI g, 4, .inl (upd Z (nI js).toNatClampNeg (nI nz)))), (z 5, .inl (gI g, 240, .inl M))] H := hP
                have hD : va_D A [(z 0, .inr (12, [.ref (z 1), .ref (z 2), .int (nI kp), .int (xs 0), .ref (z 3), .ref (z 4), .ref (z 5), .ref (z 6), .int (xs 1), .ref (z 7), .ref (z 8), .ref (z 9), .ref (z 10), .ref (z 11), .ref (z 12), .int (xs 2), .ref (z 13), .ref (z 14), .int (xs 3), .ref (z 15)])), (z 3, .inl (gI g, 4, .inl f_46)), (z 4, .inl (gI g, 4, .inl (upd Z (nI js).toNatClampNeg (nI nz)))), (z 5, .inl (gI g, 240, .inl M))] := hD
                obtain ⟨f_47, ef_47⟩ : ∃ zz_ : Nat → Int32, zz_ = upd Z (nI js).toNatClampNeg (nI nz) := ⟨_, rfl⟩
                rw [← ef_47] at hP hD
                refine lv_iconst (v := 0) hx hb dX12_sheet_79 (by decide) ?_
                refine lv_istore (lv' := [(4, .int 0), (0, .ref (z 0)), (1, .int (nI js)), (2, .int y), (3, .int (nI nz))]) hx hb dX12_sheet_80 hl (by decide) rfl (fun ls hl => ?_)
                have L82 : ∀ (n82 : Nat) (i : Nat) (Ma : Nat → Int32) (hfuel82 : 60 - i < n82) (hi : i ≤ 60) (hzr : kZr M Ma js i) (H : Heap) (locs : List Loc) (hP : va_P g.1 vwCl [(z 0, .inr (12, [.ref (z 1), .ref (z 2), .int (nI kp), .int (xs 0), .ref (z 3), .ref (z 4), .ref (z 5), .ref (z 6), .int (xs 1), .ref (z 7), .ref (z 8), .ref (z 9), .ref (z 10), .ref (z 11), .ref (z 12), .int (xs 2), .ref (z 13), .ref (z 14), .int (xs 3), .ref (z 15)])), (z 3, .inl (gI g, 4, .inl f_46)), (z 4, .inl (gI g, 4, .inl f_47)), (z 5, .inl (gI g, 240, .inl Ma))] H) (hD : va_D A [(z 0, .inr (12, [.ref (z 1), .ref (z 2), .int (nI kp), .int (xs 0), .ref (z 3), .ref (z 4), .ref (z 5), .ref (z 6), .int (xs 1), .ref (z 7), .ref (z 8), .ref (z 9), .ref (z 10), .ref (z 11), .ref (z 12), .int (xs 2), .ref (z 13), .ref (z 14), .int (xs 3), .ref (z 15)])), (z 3, .inl (gI g, 4, .inl f_46)), (z 4, .inl (gI g, 4, .inl f_47)), (z 5, .inl (gI g, 240, .inl Ma))]) (hS : va_S A s.heap H locs) (ls : Array Slot) (hl : lv_has ls 5 [(4, .int (nI i)), (0, .ref (z 0)), (1, .int (nI js)), (2, .int y), (3, .int (nI nz))]), W p l e (kR 3 0 0) s m ([.ref (z 0), .int (nI js), .int y, .int (nI nz)] : List Value).toArray below meth c H locs 0 0 (kQi g A below ([.ref (z 0), .int (nI js), .int y, .int (nI nz)] : List Value).toArray s 0 0 (fun (r : Int32) (u : (Nat → Int32) × (Nat → Int32) × (Nat → Int32) × (Nat → Int32) × (Nat → Nat)) => (r = aSheet (nI js) y (nI nz)) ∧ (ShR (nI js) y (nI nz) B u.2.1 sn u.2.2.2.2 (kSF M) (kSF u.2.2.2.1) ∧ ∀ j, j < 4 → u.2.2.1 j = nI (u.2.2.2.2 j) ∧ u.2.2.2.2 j ≤ 60)) (fun (u : (Nat → Int32) × (Nat → Int32) × (Nat → Int32) × (Nat → Int32) × (Nat → Nat)) => ([(z 0, .inr (12, [.ref (z 1), .ref (z 2), .int (nI kp), .int (u.1 0), .ref (z 3), .ref (z 4), .ref (z 5), .ref (z 6), .int (u.1 1), .ref (z 7), .ref (z 8), .ref (z 9), .ref (z 10), .ref (z 11), .ref (z 12), .int (u.1 2), .ref (z 13), .ref (z 14), .int (u.1 3), .ref (z 15)])), (z 3, .inl (gI g, 4, .inl u.2.1)), (z 4, .inl (gI g, 4, .inl u.2.2.1)), (z 5, .inl (gI g, 240, .inl u.2.2.2.1))] : va_W))) (F0 m 82 ls []) := by
                  intro n82
                  induction n82 with
                  | zero => intro i Ma hfuel82; exact absurd hfuel82 (Nat.not_lt_zero _)
                  | succ n82 ih82 =>
                    intro i Ma hfuel82 hi hzr H locs hP hD hS ls hl
                    refine lv_iload hx hb dX12_sheet_82 (lv_at hl 0 rfl) ?_
                    refine lv_bipush (v := 60) hx hb dX12_sheet_84 (by decide) ?_
                    refine lv_icmp_ge (tgt := 108) hx hb dX12_sheet_86 (by decide) (fun c_48 => ?_) (fun c_48 => ?_)
                    · have c_48n : 60 ≤ i := (k_leI (a := 60) (b := i) (by omega) (by omega)).mp c_48
                      refine lv_iload_n hx hb dX12_sheet_108 rfl (lv_at hl 3 rfl) ?_
                      refine lv_if_ne (tgt := 116) hx hb dX12_sheet_109 (by decide) (fun _ => ?_) (fun c => False.elim (c_4 c))
                      refine lv_iload_n hx hb dX12_sheet_116 rfl (lv_at hl 4 rfl) ?_
                      have hres : nI nz = aSheet (nI js) y (nI nz) := by rw [← hpre, if_neg c_4]
                      exact k_iret (xs, f_46, f_47, Ma, (fun j => if j = js then nz else sn j)) [0, 1, 2, 3] hx hb hr hlk hP hD hS (⟨hres, Or.inl ⟨js, nz, hjs, by omega, rfl, (by rw [if_neg c_4]), hres.symm, k_upd4 ef_46 hjs, fun _ _ => rfl, k_zrE hzr (by omega)⟩, k_updZ ef_47 hjs rfl (by omega) hZ⟩) rfl rfl rfl (Nat.le_of_ble_eq_true rfl) (Nat.le_of_ble_eq_true rfl) dX12_sheet_117
                    · have c_48n : i < 60 := Nat.not_le.mp (fun h => c_48 ((k_leI (a := 60) (b := i) (by omega) (by omega)).mpr h))
                      refine lv_aload_n hx hb dX12_sheet_89 rfl (lv_at hl 1 rfl) ?_
                      refine va_get (ci := 12) (C := RX12) (T := TX12) (N := 20) hx hb hts inlX12 hown hKW.1 hP 0 rfl rfl 6 (by decide) (hts _ wd_6_9) (fun _ h => h) rfl dX12_sheet_90 ?_
                      refine lv_bipush (v := 60) hx hb dX12_sheet_93 (by decide) ?_
                      refine lv_iload_n hx hb dX12_sheet_95 rfl (lv_at hl 2 rfl) ?_
                      refine lv_imul hx hb dX12_sheet_96 ?_
                      refine k_top (y := nI (60 * js)) (show (60 : Int32) * nI js = nI (60 * js) from k_nmul 60 js) ?_
                      refine lv_iload hx hb dX12_sheet_97 (lv_at hl 0 rfl) ?_
                      refine lv_iadd hx hb dX12_sheet_99 ?_
                      refine k_top (y := nI ((60 * js) + i)) (nI_add (60 * js) i) ?_
                      refine lv_iconst (v := 0) hx hb dX12_sheet_100 (by decide) ?_
                      refine va_iast hx hb hKW.1 hP hD hS 3 0 rfl rfl (vp_in_nI (by omega) (by decide)) dX12_sheet_101 (fun H locs hP hD hS => ?_)
                      have hP : va_P g.1 vwCl [(z 0, .inr (12, [.ref (z 1), .ref (z 2), .int (nI kp), .int (xs 0), .ref (z 3), .ref (z 4), .ref (z 5), .ref (z 6), .int (xs 1), .ref (z 7), .ref (z 8), .ref (z 9), .ref (z 10), .ref (z 11), .ref (z 12), .int (xs 2), .ref (z 13), .ref (z 14), .int (xs 3), .ref (z 15)])), (z 3, .inl (gI g, 4, .inl f_46)), (z 4, .inl (gI g, 4, .inl f_47)), (z 5, .inl (gI g, 240, .inl (upd Ma (nI ((60 * js) + i)).toNatClampNeg 0)))] H := hP
                      have hD : va_D A [(z 0, .inr (12, [.ref (z 1), .ref (z 2), .int (nI kp), .int (xs 0), .ref (z 3), .ref (z 4), .ref (z 5), .ref (z 6), .int (xs 1), .ref (z 7), .ref (z 8), .ref (z 9), .ref (z 10), .ref (z 11), .ref (z 12), .int (xs 2), .ref (z 13), .ref (z 14), .int (xs 3), .ref (z 15)])), (z 3, .inl (gI g, 4, .inl f_46)), (z 4, .inl (gI g, 4, .inl f_47)), (z 5, .inl (gI g, 240, .inl (upd Ma (nI ((60 * js) + i)).toNatClampNeg 0)))] := hD
                      obtain ⟨f_49, ef_49⟩ : ∃ zz_ : Nat → Int32, zz_ = upd Ma (nI ((60 * js) + i)).toNatClampNeg 0 := ⟨_, rfl⟩
                      rw [← ef_49] at hP hD
                      refine lv_iinc (v := nI (i + 1)) (lv' := [(4, .int (nI (i + 1))), (0, .ref (z 0)), (1, .int (nI js)), (2, .int y), (3, .int (nI nz))]) hx hb dX12_sheet_102 hl (k := 0) rfl (nI_add i 1) (by decide) rfl (fun ls hl => ?_)
                      refine lv_goto (tgt := 82) hx hb dX12_sheet_105 (by decide) ?_
                      exact ih82 (i + 1) f_49 (by omega) (by first | assumption | omega) (k_zrS hzr ef_49 hjs (by omega)) H locs (hP.sub [0, 1, 2, 3] rfl) (hD.sub [0, 1, 2, 3] (by decide) rfl) hS ls (lv_sub hl [0, 1, 2, 3, 4] rfl)
                exact L82 (60 - 0 + 1) 0 M (Nat.lt_succ_self _) (by first | assumption | omega) k_zr0 H locs (hP.sub [0, 1, 2, 3] rfl) (hD.sub [0, 1, 2, 3] (by decide) rfl) hS ls (lv_sub hl [0, 1, 2, 3, 4] rfl)
              · refine lv_aload_n hx hb dX12_sheet_51 rfl (lv_at hl 0 rfl) ?_
                refine lv_iconst (v := 1) hx hb dX12_sheet_52 (by decide) ?_
                refine k_Vi [0] [1, 2, 3] 0 12 (wr := [(z 3, .inl (gI g, 4, .inl B)), (z 4, .inl (gI g, 4, .inl Z)), (z 5, .inl (gI g, 240, .inl M))]) hx hb hml hown hts hKW hP hD hS hA hl.1 (c_X12_finding_1 l g _ z kp xs ) rfl rfl rfl wd_10_15 wd_1_5 wd_10_12 wd_10_13 wd_10_14 yd_X12_finding ⟨(Nat.le_of_ble_eq_true rfl), (Nat.le_of_ble_eq_true rfl)⟩ rfl rfl rfl rfl (by decide) rfl (Nat.le_of_ble_eq_true rfl) dX12_sheet_53 ⟨(Nat.le_of_ble_eq_true rfl), (Nat.le_of_ble_eq_true rfl)⟩ (fun r_50 u_51 H locs hw_52 hP hD hS => ?_)
                have hP : va_P g.1 vwCl [(z 3, .inl (gI g, 4, .inl B)), (z 4, .inl (gI g, 4, .inl Z)), (z 5, .inl (gI g, 240, .inl M)), (z 0, .inr (12, [.ref (z 1), .ref (z 2), .int (nI kp), .int u_51, .ref (z 3), .ref (z 4), .ref (z 5), .ref (z 6), .int (xs 1), .ref (z 7), .ref (z 8), .ref (z 9), .ref (z 10), .ref (z 11), .ref (z 12), .int (xs 2), .ref (z 13), .ref (z 14), .int (xs 3), .ref (z 15)]))] H := hP
                have hD : va_D A [(z 3, .inl (gI g, 4, .inl B)), (z 4, .inl (gI g, 4, .inl Z)), (z 5, .inl (gI g, 240, .inl M)), (z 0, .inr (12, [.ref (z 1), .ref (z 2), .int (nI kp), .int u_51, .ref (z 3), .ref (z 4), .ref (z 5), .ref (z 6), .int (xs 1), .ref (z 7), .ref (z 8), .ref (z 9), .ref (z 10), .ref (z 11), .ref (z 12), .int (xs 2), .ref (z 13), .ref (z 14), .int (xs 3), .ref (z 15)]))] := hD
                have hw_52 : r_50 = (-100001) := hw_52
                subst hw_52
                have hres : (-100001) = aSheet x y w := (by clear hP hD hS hA hts hKW hl; unfold aSheet; (repeat' split) <;> first | rfl | (exfalso; (first | omega | (simp only [Int32.lt_iff_toInt_lt, Int32.le_iff_toInt_le, ← Int32.toInt_inj] at *; omega) | (simp only [Int32.lt_iff_toInt_lt, Int32.le_iff_toInt_le, ← Int32.toInt_inj] at *; simp at *; omega) | (simp only [Int32.lt_iff_toInt_lt, Int32.le_iff_toInt_le, ← Int32.toInt_inj] at *; simp at *; done) | (simp at *; omega) | (simp at *; done))))
                exact k_iret ((fun kk_ => ([u_51, (xs 1), (xs 2), (xs 3)] : List Int32).getD kk_ 0), B, Z, M, sn) [3, 0, 1, 2] hx hb hr hlk hP hD hS (⟨hres, Or.inr ⟨by rw [← hres]; decide, fun _ _ => rfl, fun _ _ => rfl, fun _ _ _ _ => rfl⟩, hZ⟩) rfl rfl rfl (Nat.le_of_ble_eq_true rfl) (Nat.le_of_ble_eq_true rfl) dX12_sheet_56
            · refine lv_aload_n hx hb dX12_sheet_39 rfl (lv_at hl 0 rfl) ?_
              refine lv_iconst (v := 3) hx hb dX12_sheet_40 (by decide) ?_
              refine k_Vi [0] [1, 2, 3] 0 12 (wr := [(z 3, .inl (gI g, 4, .inl B)), (z 4, .inl (gI g, 4, .inl Z)), (z 5, .inl (gI g, 240, .inl M))]) hx hb hml hown hts hKW hP hD hS hA hl.1 (c_X12_finding_3 l g _ z kp xs ) rfl rfl rfl wd_10_15 wd_1_5 wd_10_12 wd_10_13 wd_10_14 yd_X12_finding ⟨(Nat.le_of_ble_eq_true rfl), (Nat.le_of_ble_eq_true rfl)⟩ rfl rfl rfl rfl (by decide) rfl (Nat.le_of_ble_eq_true rfl) dX12_sheet_41 ⟨(Nat.le_of_ble_eq_true rfl), (Nat.le_of_ble_eq_true rfl)⟩ (fun r_53 u_54 H locs hw_55 hP hD hS => ?_)
              have hP : va_P g.1 vwCl [(z 3, .inl (gI g, 4, .inl B)), (z 4, .inl (gI g, 4, .inl Z)), (z 5, .inl (gI g, 240, .inl M)), (z 0, .inr (12, [.ref (z 1), .ref (z 2), .int (nI kp), .int u_54, .ref (z 3), .ref (z 4), .ref (z 5), .ref (z 6), .int (xs 1), .ref (z 7), .ref (z 8), .ref (z 9), .ref (z 10), .ref (z 11), .ref (z 12), .int (xs 2), .ref (z 13), .ref (z 14), .int (xs 3), .ref (z 15)]))] H := hP
              have hD : va_D A [(z 3, .inl (gI g, 4, .inl B)), (z 4, .inl (gI g, 4, .inl Z)), (z 5, .inl (gI g, 240, .inl M)), (z 0, .inr (12, [.ref (z 1), .ref (z 2), .int (nI kp), .int u_54, .ref (z 3), .ref (z 4), .ref (z 5), .ref (z 6), .int (xs 1), .ref (z 7), .ref (z 8), .ref (z 9), .ref (z 10), .ref (z 11), .ref (z 12), .int (xs 2), .ref (z 13), .ref (z 14), .int (xs 3), .ref (z 15)]))] := hD
              have hw_55 : r_53 = (-100003) := hw_55
              subst hw_55
              have hres : (-100003) = aSheet x y w := (by clear hP hD hS hA hts hKW hl; unfold aSheet; (repeat' split) <;> first | rfl | (exfalso; (first | omega | (simp only [Int32.lt_iff_toInt_lt, Int32.le_iff_toInt_le, ← Int32.toInt_inj] at *; omega) | (simp only [Int32.lt_iff_toInt_lt, Int32.le_iff_toInt_le, ← Int32.toInt_inj] at *; simp at *; omega) | (simp only [Int32.lt_iff_toInt_lt, Int32.le_iff_toInt_le, ← Int32.toInt_inj] at *; simp at *; done) | (simp at *; omega) | (simp at *; done))))
              exact k_iret ((fun kk_ => ([u_54, (xs 1), (xs 2), (xs 3)] : List Int32).getD kk_ 0), B, Z, M, sn) [3, 0, 1, 2] hx hb hr hlk hP hD hS (⟨hres, Or.inr ⟨by rw [← hres]; decide, fun _ _ => rfl, fun _ _ => rfl, fun _ _ _ _ => rfl⟩, hZ⟩) rfl rfl rfl (Nat.le_of_ble_eq_true rfl) (Nat.le_of_ble_eq_true rfl) dX12_sheet_44
          · refine lv_aload_n hx hb dX12_sheet_29 rfl (lv_at hl 0 rfl) ?_
            refine lv_iconst (v := 1) hx hb dX12_sheet_30 (by decide) ?_
            refine k_Vi [0] [1, 2, 3] 0 12 (wr := [(z 3, .inl (gI g, 4, .inl B)), (z 4, .inl (gI g, 4, .inl Z)), (z 5, .inl (gI g, 240, .inl M))]) hx hb hml hown hts hKW hP hD hS hA hl.1 (c_X12_finding_1 l g _ z kp xs ) rfl rfl rfl wd_10_15 wd_1_5 wd_10_12 wd_10_13 wd_10_14 yd_X12_finding ⟨(Nat.le_of_ble_eq_true rfl), (Nat.le_of_ble_eq_true rfl)⟩ rfl rfl rfl rfl (by decide) rfl (Nat.le_of_ble_eq_true rfl) dX12_sheet_31 ⟨(Nat.le_of_ble_eq_true rfl), (Nat.le_of_ble_eq_true rfl)⟩ (fun r_56 u_57 H locs hw_58 hP hD hS => ?_)
            have hP : va_P g.1 vwCl [(z 3, .inl (gI g, 4, .inl B)), (z 4, .inl (gI g, 4, .inl Z)), (z 5, .inl (gI g, 240, .inl M)), (z 0, .inr (12, [.ref (z 1), .ref (z 2), .int (nI kp), .int u_57, .ref (z 3), .ref (z 4), .ref (z 5), .ref (z 6), .int (xs 1), .ref (z 7), .ref (z 8), .ref (z 9), .ref (z 10), .ref (z 11), .ref (z 12), .int (xs 2), .ref (z 13), .ref (z 14), .int (xs 3), .ref (z 15)]))] H := hP
            have hD : va_D A [(z 3, .inl (gI g, 4, .inl B)), (z 4, .inl (gI g, 4, .inl Z)), (z 5, .inl (gI g, 240, .inl M)), (z 0, .inr (12, [.ref (z 1), .ref (z 2), .int (nI kp), .int u_57, .ref (z 3), .ref (z 4), .ref (z 5), .ref (z 6), .int (xs 1), .ref (z 7), .ref (z 8), .ref (z 9), .ref (z 10), .ref (z 11), .ref (z 12), .int (xs 2), .ref (z 13), .ref (z 14), .int (xs 3), .ref (z 15)]))] := hD
            have hw_58 : r_56 = (-100001) := hw_58
            subst hw_58
            have hres : (-100001) = aSheet x y w := (by clear hP hD hS hA hts hKW hl; unfold aSheet; (repeat' split) <;> first | rfl | (exfalso; (first | omega | (simp only [Int32.lt_iff_toInt_lt, Int32.le_iff_toInt_le, ← Int32.toInt_inj] at *; omega) | (simp only [Int32.lt_iff_toInt_lt, Int32.le_iff_toInt_le, ← Int32.toInt_inj] at *; simp at *; omega) | (simp only [Int32.lt_iff_toInt_lt, Int32.le_iff_toInt_le, ← Int32.toInt_inj] at *; simp at *; done) | (simp at *; omega) | (simp at *; done))))
            exact k_iret ((fun kk_ => ([u_57, (xs 1), (xs 2), (xs 3)] : List Int32).getD kk_ 0), B, Z, M, sn) [3, 0, 1, 2] hx hb hr hlk hP hD hS (⟨hres, Or.inr ⟨by rw [← hres]; decide, fun _ _ => rfl, fun _ _ => rfl, fun _ _ _ _ => rfl⟩, hZ⟩) rfl rfl rfl (Nat.le_of_ble_eq_true rfl) (Nat.le_of_ble_eq_true rfl) dX12_sheet_34
  · refine lv_if_eq (tgt := 29) hx hb dX12_sheet_4 (by decide) (fun _ => ?_) (fun c => absurd c (by decide))
    refine lv_aload_n hx hb dX12_sheet_29 rfl (lv_at hl 0 rfl) ?_
    refine lv_iconst (v := 1) hx hb dX12_sheet_30 (by decide) ?_
    refine k_Vi [0] [1, 2, 3] 0 12 (wr := [(z 3, .inl (gI g, 4, .inl B)), (z 4, .inl (gI g, 4, .inl Z)), (z 5, .inl (gI g, 240, .inl M))]) hx hb hml hown hts hKW hP hD hS hA hl.1 (c_X12_finding_1 l g _ z kp xs ) rfl rfl rfl wd_10_15 wd_1_5 wd_10_12 wd_10_13 wd_10_14 yd_X12_finding ⟨(Nat.le_of_ble_eq_true rfl), (Nat.le_of_ble_eq_true rfl)⟩ rfl rfl rfl rfl (by decide) rfl (Nat.le_of_ble_eq_true rfl) dX12_sheet_31 ⟨(Nat.le_of_ble_eq_true rfl), (Nat.le_of_ble_eq_true rfl)⟩ (fun r_59 u_60 H locs hw_61 hP hD hS => ?_)
    have hP : va_P g.1 vwCl [(z 3, .inl (gI g, 4, .inl B)), (z 4, .inl (gI g, 4, .inl Z)), (z 5, .inl (gI g, 240, .inl M)), (z 0, .inr (12, [.ref (z 1), .ref (z 2), .int (nI kp), .int u_60, .ref (z 3), .ref (z 4), .ref (z 5), .ref (z 6), .int (xs 1), .ref (z 7), .ref (z 8), .ref (z 9), .ref (z 10), .ref (z 11), .ref (z 12), .int (xs 2), .ref (z 13), .ref (z 14), .int (xs 3), .ref (z 15)]))] H := hP
    have hD : va_D A [(z 3, .inl (gI g, 4, .inl B)), (z 4, .inl (gI g, 4, .inl Z)), (z 5, .inl (gI g, 240, .inl M)), (z 0, .inr (12, [.ref (z 1), .ref (z 2), .int (nI kp), .int u_60, .ref (z 3), .ref (z 4), .ref (z 5), .ref (z 6), .int (xs 1), .ref (z 7), .ref (z 8), .ref (z 9), .ref (z 10), .ref (z 11), .ref (z 12), .int (xs 2), .ref (z 13), .ref (z 14), .int (xs 3), .ref (z 15)]))] := hD
    have hw_61 : r_59 = (-100001) := hw_61
    subst hw_61
    have hres : (-100001) = aSheet x y w := (by clear hP hD hS hA hts hKW hl; unfold aSheet; (repeat' split) <;> first | rfl | (exfalso; (first | omega | (simp only [Int32.lt_iff_toInt_lt, Int32.le_iff_toInt_le, ← Int32.toInt_inj] at *; omega) | (simp only [Int32.lt_iff_toInt_lt, Int32.le_iff_toInt_le, ← Int32.toInt_inj] at *; simp at *; omega) | (simp only [Int32.lt_iff_toInt_lt, Int32.le_iff_toInt_le, ← Int32.toInt_inj] at *; simp at *; done) | (simp at *; omega) | (simp at *; done))))
    exact k_iret ((fun kk_ => ([u_60, (xs 1), (xs 2), (xs 3)] : List Int32).getD kk_ 0), B, Z, M, sn) [3, 0, 1, 2] hx hb hr hlk hP hD hS (⟨hres, Or.inr ⟨by rw [← hres]; decide, fun _ _ => rfl, fun _ _ => rfl, fun _ _ _ _ => rfl⟩, hZ⟩) rfl rfl rfl (Nat.le_of_ble_eq_true rfl) (Nat.le_of_ble_eq_true rfl) dX12_sheet_34
theorem dX12_copy_0 : decode cX12_copy 0 = .ok (.iload_n 1, 1) := by decide +kernel
theorem dX12_copy_1 : decode cX12_copy 1 = .ok (.invokestatic 168, 3) := by decide +kernel
theorem dX12_copy_4 : decode cX12_copy 4 = .ok (.ifCond .eq 10, 3) := by decide +kernel
theorem dX12_copy_7 : decode cX12_copy 7 = .ok (.iload_n 3, 1) := by decide +kernel
theorem dX12_copy_8 : decode cX12_copy 8 = .ok (.invokestatic 168, 3) := by decide +kernel
theorem dX12_copy_11 : decode cX12_copy 11 = .ok (.ifCond .ne 9, 3) := by decide +kernel
theorem dX12_copy_20 : decode cX12_copy 20 = .ok (.aload_n 0, 1) := by decide +kernel
theorem dX12_copy_21 : decode cX12_copy 21 = .ok (.getfield 16, 3) := by decide +kernel
theorem dX12_copy_24 : decode cX12_copy 24 = .ok (.iload_n 1, 1) := by decide +kernel
theorem dX12_copy_25 : decode cX12_copy 25 = .ok (.iaload, 1) := by decide +kernel
theorem dX12_copy_26 : decode cX12_copy 26 = .ok (.ifCond .eq 12, 3) := by decide +kernel
theorem dX12_copy_38 : decode cX12_copy 38 = .ok (.aload_n 0, 1) := by decide +kernel
theorem dX12_copy_39 : decode cX12_copy 39 = .ok (.iconst 2, 1) := by decide +kernel
theorem dX12_copy_40 : decode cX12_copy 40 = .ok (.invokevirtual 68, 3) := by decide +kernel
theorem dX12_copy_43 : decode cX12_copy 43 = .ok (.ireturn, 1) := by decide +kernel
theorem dX12_copy_29 : decode cX12_copy 29 = .ok (.aload_n 0, 1) := by decide +kernel
theorem dX12_copy_30 : decode cX12_copy 30 = .ok (.getfield 16, 3) := by decide +kernel
theorem dX12_copy_33 : decode cX12_copy 33 = .ok (.iload_n 3, 1) := by decide +kernel
theorem dX12_copy_34 : decode cX12_copy 34 = .ok (.iaload, 1) := by decide +kernel
theorem dX12_copy_35 : decode cX12_copy 35 = .ok (.ifCond .ne 9, 3) := by decide +kernel
theorem dX12_copy_44 : decode cX12_copy 44 = .ok (.aload_n 0, 1) := by decide +kernel
theorem dX12_copy_45 : decode cX12_copy 45 = .ok (.getfield 16, 3) := by decide +kernel
theorem dX12_copy_48 : decode cX12_copy 48 = .ok (.iload_n 1, 1) := by decide +kernel
theorem dX12_copy_49 : decode cX12_copy 49 = .ok (.iaload, 1) := by decide +kernel
theorem dX12_copy_50 : decode cX12_copy 50 = .ok (.aload_n 0, 1) := by decide +kernel
theorem dX12_copy_51 : decode cX12_copy 51 = .ok (.getfield 16, 3) := by decide +kernel
theorem dX12_copy_54 : decode cX12_copy 54 = .ok (.iload_n 3, 1) := by decide +kernel
theorem dX12_copy_55 : decode cX12_copy 55 = .ok (.iaload, 1) := by decide +kernel
theorem dX12_copy_56 : decode cX12_copy 56 = .ok (.if_icmp .eq 9, 3) := by decide +kernel
theorem dX12_copy_65 : decode cX12_copy 65 = .ok (.iload_n 2, 1) := by decide +kernel
theorem dX12_copy_66 : decode cX12_copy 66 = .ok (.ifCond .lt 40, 3) := by decide +kernel
theorem dX12_copy_106 : decode cX12_copy 106 = .ok (.aload_n 0, 1) := by decide +kernel
theorem dX12_copy_107 : decode cX12_copy 107 = .ok (.iconst 1, 1) := by decide +kernel
theorem dX12_copy_108 : decode cX12_copy 108 = .ok (.invokevirtual 68, 3) := by decide +kernel
theorem dX12_copy_111 : decode cX12_copy 111 = .ok (.ireturn, 1) := by decide +kernel
theorem dX12_copy_69 : decode cX12_copy 69 = .ok (.iload 4, 2) := by decide +kernel
theorem dX12_copy_71 : decode cX12_copy 71 = .ok (.ifCond .lt 35, 3) := by decide +kernel
theorem dX12_copy_74 : decode cX12_copy 74 = .ok (.iload 5, 2) := by decide +kernel
theorem dX12_copy_76 : decode cX12_copy 76 = .ok (.ifCond .lt 30, 3) := by decide +kernel
theorem dX12_copy_79 : decode cX12_copy 79 = .ok (.iload_n 2, 1) := by decide +kernel
theorem dX12_copy_80 : decode cX12_copy 80 = .ok (.aload_n 0, 1) := by decide +kernel
theorem dX12_copy_81 : decode cX12_copy 81 = .ok (.getfield 19, 3) := by decide +kernel
theorem dX12_copy_84 : decode cX12_copy 84 = .ok (.iload_n 1, 1) := by decide +kernel
theorem dX12_copy_85 : decode cX12_copy 85 = .ok (.iaload, 1) := by decide +kernel
theorem dX12_copy_86 : decode cX12_copy 86 = .ok (.iload 5, 2) := by decide +kernel
theorem dX12_copy_88 : decode cX12_copy 88 = .ok (.isub, 1) := by decide +kernel
theorem dX12_copy_89 : decode cX12_copy 89 = .ok (.if_icmp .gt 17, 3) := by decide +kernel
theorem dX12_copy_92 : decode cX12_copy 92 = .ok (.iload 4, 2) := by decide +kernel
theorem dX12_copy_94 : decode cX12_copy 94 = .ok (.aload_n 0, 1) := by decide +kernel
theorem dX12_copy_95 : decode cX12_copy 95 = .ok (.getfield 19, 3) := by decide +kernel
theorem dX12_copy_98 : decode cX12_copy 98 = .ok (.iload_n 3, 1) := by decide +kernel
theorem dX12_copy_99 : decode cX12_copy 99 = .ok (.iaload, 1) := by decide +kernel
theorem dX12_copy_100 : decode cX12_copy 100 = .ok (.iload 5, 2) := by decide +kernel
theorem dX12_copy_102 : decode cX12_copy 102 = .ok (.isub, 1) := by decide +kernel
theorem dX12_copy_103 : decode cX12_copy 103 = .ok (.if_icmp .le 9, 3) := by decide +kernel
theorem dX12_copy_112 : decode cX12_copy 112 = .ok (.iconst 0, 1) := by decide +kernel
theorem dX12_copy_113 : decode cX12_copy 113 = .ok (.istore 6, 2) := by decide +kernel
theorem dX12_copy_115 : decode cX12_copy 115 = .ok (.iload 6, 2) := by decide +kernel
theorem dX12_copy_117 : decode cX12_copy 117 = .ok (.iload 5, 2) := by decide +kernel
theorem dX12_copy_119 : decode cX12_copy 119 = .ok (.if_icmp .ge 30, 3) := by decide +kernel
theorem dX12_copy_149 : decode cX12_copy 149 = .ok (.iconst 0, 1) := by decide +kernel
theorem dX12_copy_150 : decode cX12_copy 150 = .ok (.istore 6, 2) := by decide +kernel
theorem dX12_copy_152 : decode cX12_copy 152 = .ok (.iload 6, 2) := by decide +kernel
theorem dX12_copy_154 : decode cX12_copy 154 = .ok (.iload 5, 2) := by decide +kernel
theorem dX12_copy_156 : decode cX12_copy 156 = .ok (.if_icmp .ge 31, 3) := by decide +kernel
theorem dX12_copy_187 : decode cX12_copy 187 = .ok (.iload 5, 2) := by decide +kernel
theorem dX12_copy_189 : decode cX12_copy 189 = .ok (.ireturn, 1) := by decide +kernel
theorem dX12_copy_159 : decode cX12_copy 159 = .ok (.aload_n 0, 1) := by decide +kernel
theorem dX12_copy_160 : decode cX12_copy 160 = .ok (.getfield 22, 3) := by decide +kernel
theorem dX12_copy_163 : decode cX12_copy 163 = .ok (.bipush 60, 2) := by decide +kernel
theorem dX12_copy_165 : decode cX12_copy 165 = .ok (.iload_n 3, 1) := by decide +kernel
theorem dX12_copy_166 : decode cX12_copy 166 = .ok (.imul, 1) := by decide +kernel
theorem dX12_copy_167 : decode cX12_copy 167 = .ok (.iload 4, 2) := by decide +kernel
theorem dX12_copy_169 : decode cX12_copy 169 = .ok (.iadd, 1) := by decide +kernel
theorem dX12_copy_170 : decode cX12_copy 170 = .ok (.iload 6, 2) := by decide +kernel
theorem dX12_copy_172 : decode cX12_copy 172 = .ok (.iadd, 1) := by decide +kernel
theorem dX12_copy_173 : decode cX12_copy 173 = .ok (.aload_n 0, 1) := by decide +kernel
theorem dX12_copy_174 : decode cX12_copy 174 = .ok (.getfield 53, 3) := by decide +kernel
theorem dX12_copy_177 : decode cX12_copy 177 = .ok (.iload 6, 2) := by decide +kernel
theorem dX12_copy_179 : decode cX12_copy 179 = .ok (.iaload, 1) := by decide +kernel
theorem dX12_copy_180 : decode cX12_copy 180 = .ok (.iastore, 1) := by decide +kernel
theorem dX12_copy_181 : decode cX12_copy 181 = .ok (.iinc 6 1, 3) := by decide +kernel
theorem dX12_copy_184 : decode cX12_copy 184 = .ok (.goto (-32), 3) := by decide +kernel
theorem dX12_copy_122 : decode cX12_copy 122 = .ok (.aload_n 0, 1) := by decide +kernel
theorem dX12_copy_123 : decode cX12_copy 123 = .ok (.getfield 53, 3) := by decide +kernel
theorem dX12_copy_126 : decode cX12_copy 126 = .ok (.iload 6, 2) := by decide +kernel
theorem dX12_copy_128 : decode cX12_copy 128 = .ok (.aload_n 0, 1) := by decide +kernel
theorem dX12_copy_129 : decode cX12_copy 129 = .ok (.getfield 22, 3) := by decide +kernel
theorem dX12_copy_132 : decode cX12_copy 132 = .ok (.bipush 60, 2) := by decide +kernel
theorem dX12_copy_134 : decode cX12_copy 134 = .ok (.iload_n 1, 1) := by decide +kernel
theorem dX12_copy_135 : decode cX12_copy 135 = .ok (.imul, 1) := by decide +kernel
theorem dX12_copy_136 : decode cX12_copy 136 = .ok (.iload_n 2, 1) := by decide +kernel
theorem dX12_copy_137 : decode cX12_copy 137 = .ok (.iadd, 1) := by decide +kernel
theorem dX12_copy_138 : decode cX12_copy 138 = .ok (.iload 6, 2) := by decide +kernel
theorem dX12_copy_140 : decode cX12_copy 140 = .ok (.iadd, 1) := by decide +kernel
theorem dX12_copy_141 : decode cX12_copy 141 = .ok (.iaload, 1) := by decide +kernel
theorem dX12_copy_142 : decode cX12_copy 142 = .ok (.iastore, 1) := by decide +kernel
theorem dX12_copy_143 : decode cX12_copy 143 = .ok (.iinc 6 1, 3) := by decide +kernel
theorem dX12_copy_146 : decode cX12_copy 146 = .ok (.goto (-31), 3) := by decide +kernel
theorem dX12_copy_59 : decode cX12_copy 59 = .ok (.aload_n 0, 1) := by decide +kernel
theorem dX12_copy_60 : decode cX12_copy 60 = .ok (.iconst 4, 1) := by decide +kernel
theorem dX12_copy_61 : decode cX12_copy 61 = .ok (.invokevirtual 68, 3) := by decide +kernel
theorem dX12_copy_64 : decode cX12_copy 64 = .ok (.ireturn, 1) := by decide +kernel
theorem dX12_copy_14 : decode cX12_copy 14 = .ok (.aload_n 0, 1) := by decide +kernel
theorem dX12_copy_15 : decode cX12_copy 15 = .ok (.iconst 1, 1) := by decide +kernel
theorem dX12_copy_16 : decode cX12_copy 16 = .ok (.invokevirtual 68, 3) := by decide +kernel
theorem dX12_copy_19 : decode cX12_copy 19 = .ok (.ireturn, 1) := by decide +kernel
set_option maxHeartbeats 8000000 in
set_option maxRecDepth 100000 in
theorem c_X12_copy (l : Launch) (g : kG) (sz : Nat) (z : Nat → Nat) (kp : Nat) (xs : Nat → Int32) (B : Nat → Int32) (Z : Nat → Int32) (M : Nat → Int32) (sn : Nat → Nat) (Cf : Nat → Int32) (x : Int32) (y : Int32) (v : Int32) (w : Int32) (n5 : Int32) (hZ : ∀ j, j < 4 → Z j = nI (sn j) ∧ sn j ≤ 60) : kMi l g yX12_copy cX12_copy 7 (some .int) 3 0 0 [.ref (z 0), .int x, .int y, .int v, .int w, .int n5] sz [(z 0, .inr (12, [.ref (z 1), .ref (z 2), .int (nI kp), .int (xs 0), .ref (z 3), .ref (z 4), .ref (z 5), .ref (z 6), .int (xs 1), .ref (z 7), .ref (z 8), .ref (z 9), .ref (z 10), .ref (z 11), .ref (z 12), .int (xs 2), .ref (z 13), .ref (z 14), .int (xs 3), .ref (z 15)])), (z 3, .inl (gI g, 4, .inl B)), (z 4, .inl (gI g, 4, .inl Z)), (z 5, .inl (gI g, 240, .inl M)), (z 15, .inl (gI g, 60, .inl Cf))] (fun (r : Int32) (u : (Nat → Int32) × (Nat → Int32) × (Nat → Int32)) => (r = aCopy x y v w n5 B sn) ∧ (CpR x y v w n5 B sn (kSF M) (kSF u.2.1))) (fun (u : (Nat → Int32) × (Nat → Int32) × (Nat → Int32)) => ([(z 0, .inr (12, [.ref (z 1), .ref (z 2), .int (nI kp), .int (u.1 0), .ref (z 3), .ref (z 4), .ref (z 5), .ref (z 6), .int (u.1 1), .ref (z 7), .ref (z 8), .ref (z 9), .ref (z 10), .ref (z 11), .ref (z 12), .int (u.1 2), .ref (z 13), .ref (z 14), .int (u.1 3), .ref (z 15)])), (z 3, .inl (gI g, 4, .inl B)), (z 4, .inl (gI g, 4, .inl Z)), (z 5, .inl (gI g, 240, .inl u.2.1)), (z 15, .inl (gI g, 60, .inl u.2.2))] : va_W)) := by
  refine kMi.of (by decide) (Nat.le_of_ble_eq_true rfl) (fun p e s m below meth c A hx hb hr hml hown hts hlk hnm hKW hP hD hS hA ls hl => ?_)
  have hown : s.vm.findClass RX12 = some m.cls := hown
  have hl : lv_has ls 7 [(0, .ref (z 0)), (1, .int x), (2, .int y), (3, .int v), (4, .int w), (5, .int n5)] := hl
  refine k_hide hP hS (fun H locs hP hS => ?_)
  refine lv_iload_n hx hb dX12_copy_0 rfl (lv_at hl 1 rfl) ?_
  refine k_Si [] [0, 1, 2, 3, 4] (wr := [(z 0, .inr (12, [.ref (z 1), .ref (z 2), .int (nI kp), .int (xs 0), .ref (z 3), .ref (z 4), .ref (z 5), .ref (z 6), .int (xs 1), .ref (z 7), .ref (z 8), .ref (z 9), .ref (z 10), .ref (z 11), .ref (z 12), .int (xs 2), .ref (z 13), .ref (z 14), .int (xs 3), .ref (z 15)])), (z 3, .inl (gI g, 4, .inl B)), (z 4, .inl (gI g, 4, .inl Z)), (z 5, .inl (gI g, 240, .inl M)), (z 15, .inl (gI g, 60, .inl Cf))]) hx hb hml hown hts hKW hP hD hS hA hl.1 (c_X12_isSheet l g _ x ) wd_38_14 wd_1_5 wd_38_12 wd_38_13 yd_X12_isSheet ⟨(Nat.le_of_ble_eq_true rfl), (Nat.le_of_ble_eq_true rfl)⟩ rfl rfl rfl rfl (by decide) rfl (Nat.le_of_ble_eq_true rfl) dX12_copy_1 ⟨(Nat.le_of_ble_eq_true rfl), (Nat.le_of_ble_eq_true rfl)⟩ (fun r_1 u_2 H locs hw_3 hP hD hS => ?_)
  have hP : va_P g.1 vwCl [(z 0, .inr (12, [.ref (z 1), .ref (z 2), .int (nI kp), .int (xs 0), .ref (z 3), .ref (z 4), .ref (z 5), .ref (z 6), .int (xs 1), .ref (z 7), .ref (z 8), .ref (z 9), .ref (z 10), .ref (z 11), .ref (z 12), .int (xs 2), .ref (z 13), .ref (z 14), .int (xs 3), .ref (z 15)])), (z 3, .inl (gI g, 4, .inl B)), (z 4, .inl (gI g, 4, .inl Z)), (z 5, .inl (gI g, 240, .inl M)), (z 15, .inl (gI g, 60, .inl Cf))] H := hP
  have hD : va_D A [(z 0, .inr (12, [.ref (z 1), .ref (z 2), .int (nI kp), .int (xs 0), .ref (z 3), .ref (z 4), .ref (z 5), .ref (z 6), .int (xs 1), .ref (z 7), .ref (z 8), .ref (z 9), .ref (z 10), .ref (z 11), .ref (z 12), .int (xs 2), .ref (z 13), .ref (z 14), .int (xs 3), .ref (z 15)])), (z 3, .inl (gI g, 4, .inl B)), (z 4, .inl (gI g, 4, .inl Z)), (z 5, .inl (gI g, 240, .inl M)), (z 15, .inl (gI g, 60, .inl Cf))] := hD
  rcases (show (r_1 = 1 ∧ ((0 : Int) ≤ Int32.toInt x ∧ Int32.toInt x ≤ 3)) ∨ (r_1 = 0 ∧ ¬ ((0 : Int) ≤ Int32.toInt x ∧ Int32.toInt x ≤ 3)) from hw_3) with ⟨rfl, hw_3b⟩ | ⟨rfl, hw_3b⟩ <;> clear hw_3
  · refine lv_if_eq (tgt := 14) hx hb dX12_copy_4 (by decide) (fun c => absurd c (by decide)) (fun _ => ?_)
    refine lv_iload_n hx hb dX12_copy_7 rfl (lv_at hl 3 rfl) ?_
    refine k_Si [] [0, 1, 2, 3, 4] (wr := [(z 0, .inr (12, [.ref (z 1), .ref (z 2), .int (nI kp), .int (xs 0), .ref (z 3), .ref (z 4), .ref (z 5), .ref (z 6), .int (xs 1), .ref (z 7), .ref (z 8), .ref (z 9), .ref (z 10), .ref (z 11), .ref (z 12), .int (xs 2), .ref (z 13), .ref (z 14), .int (xs 3), .ref (z 15)])), (z 3, .inl (gI g, 4, .inl B)), (z 4, .inl (gI g, 4, .inl Z)), (z 5, .inl (gI g, 240, .inl M)), (z 15, .inl (gI g, 60, .inl Cf))]) hx hb hml hown hts hKW hP hD hS hA hl.1 (c_X12_isSheet l g _ v ) wd_38_14 wd_1_5 wd_38_12 wd_38_13 yd_X12_isSheet ⟨(Nat.le_of_ble_eq_true rfl), (Nat.le_of_ble_eq_true rfl)⟩ rfl rfl rfl rfl (by decide) rfl (Nat.le_of_ble_eq_true rfl) dX12_copy_8 ⟨(Nat.le_of_ble_eq_true rfl), (Nat.le_of_ble_eq_true rfl)⟩ (fun r_4 u_5 H locs hw_6 hP hD hS => ?_)
    have hP : va_P g.1 vwCl [(z 0, .inr (12, [.ref (z 1), .ref (z 2), .int (nI kp), .int (xs 0), .ref (z 3), .ref (z 4), .ref (z 5), .ref (z 6), .int (xs 1), .ref (z 7), .ref (z 8), .ref (z 9), .ref (z 10), .ref (z 11), .ref (z 12), .int (xs 2), .ref (z 13), .ref (z 14), .int (xs 3), .ref (z 15)])), (z 3, .inl (gI g, 4, .inl B)), (z 4, .inl (gI g, 4, .inl Z)), (z 5, .inl (gI g, 240, .inl M)), (z 15, .inl (gI g, 60, .inl Cf))] H := hP
    have hD : va_D A [(z 0, .inr (12, [.ref (z 1), .ref (z 2), .int (nI kp), .int (xs 0), .ref (z 3), .ref (z 4), .ref (z 5), .ref (z 6), .int (xs 1), .ref (z 7), .ref (z 8), .ref (z 9), .ref (z 10), .ref (z 11), .ref (z 12), .int (xs 2), .ref (z 13), .ref (z 14), .int (xs 3), .ref (z 15)])), (z 3, .inl (gI g, 4, .inl B)), (z 4, .inl (gI g, 4, .inl Z)), (z 5, .inl (gI g, 240, .inl M)), (z 15, .inl (gI g, 60, .inl Cf))] := hD
    rcases (show (r_4 = 1 ∧ ((0 : Int) ≤ Int32.toInt v ∧ Int32.toInt v ≤ 3)) ∨ (r_4 = 0 ∧ ¬ ((0 : Int) ≤ Int32.toInt v ∧ Int32.toInt v ≤ 3)) from hw_6) with ⟨rfl, hw_6b⟩ | ⟨rfl, hw_6b⟩ <;> clear hw_6
    · refine lv_if_ne (tgt := 20) hx hb dX12_copy_11 (by decide) (fun _ => ?_) (fun c => absurd c (by decide))
      obtain ⟨js, hjs, rfl⟩ := k_ofr (x := x) (n := 4) (by decide) (by have q := hw_3b; omega)
      obtain ⟨jt, hjt, rfl⟩ := k_ofr (x := v) (n := 4) (by decide) (by have q := hw_6b; omega)
      refine lv_aload_n hx hb dX12_copy_20 rfl (lv_at hl 0 rfl) ?_
      have hsz := (hZ js hjs).2
      have hszt := (hZ jt hjt).2
      have hT : aCopy (nI js) y (nI jt) w n5 B sn = aC1 (B js) (B jt) (sn js) (sn jt) y w n5 := by unfold aCopy; rw [if_pos ⟨by rw [k_nIi (by omega)]; omega, by rw [k_nIi (by omega)]; omega⟩, nI_clamp (by omega), nI_clamp (by omega)]
      refine va_get (ci := 12) (C := RX12) (T := TX12) (N := 20) hx hb hts inlX12 hown hKW.1 hP 0 rfl rfl 4 (by decide) (hts _ wd_6_7) (fun _ h => h) rfl dX12_copy_21 ?_
      refine lv_iload_n hx hb dX12_copy_24 rfl (lv_at hl 1 rfl) ?_
      refine va_iald hx hb hKW.1 hP 1 0 rfl rfl (vp_in_nI (by omega) (by decide)) dX12_copy_25 ?_
      refine k_top (y := B js) (by rw [nI_clamp (by omega)]) ?_
      refine lv_if_eq (tgt := 38) hx hb dX12_copy_26 (by decide) (fun c_7 => ?_) (fun c_7 => ?_)
      · refine lv_aload_n hx hb dX12_copy_38 rfl (lv_at hl 0 rfl) ?_
        refine lv_iconst (v := 2) hx hb dX12_copy_39 (by decide) ?_
        refine k_Vi [0] [1, 2, 3, 4] 0 12 (wr := [(z 3, .inl (gI g, 4, .inl B)), (z 4, .inl (gI g, 4, .inl Z)), (z 5, .inl (gI g, 240, .inl M)), (z 15, .inl (gI g, 60, .inl Cf))]) hx hb hml hown hts hKW hP hD hS hA hl.1 (c_X12_finding_2 l g _ z kp xs ) rfl rfl rfl wd_10_15 wd_1_5 wd_10_12 wd_10_13 wd_10_14 yd_X12_finding ⟨(Nat.le_of_ble_eq_true rfl), (Nat.le_of_ble_eq_true rfl)⟩ rfl rfl rfl rfl (by decide) rfl (Nat.le_of_ble_eq_true rfl) dX12_copy_40 ⟨(Nat.le_of_ble_eq_true rfl), (Nat.le_of_ble_eq_true rfl)⟩ (fun r_8 u_9 H locs hw_10 hP hD hS => ?_)
        have hP : va_P g.1 vwCl [(z 3, .inl (gI g, 4, .inl B)), (z 4, .inl (gI g, 4, .inl Z)), (z 5, .inl (gI g, 240, .inl M)), (z 15, .inl (gI g, 60, .inl Cf)), (z 0, .inr (12, [.ref (z 1), .ref (z 2), .int (nI kp), .int u_9, .ref (z 3), .ref (z 4), .ref (z 5), .ref (z 6), .int (xs 1), .ref (z 7), .ref (z 8), .ref (z 9), .ref (z 10), .ref (z 11), .ref (z 12), .int (xs 2), .ref (z 13), .ref (z 14), .int (xs 3), .ref (z 15)]))] H := hP
        have hD : va_D A [(z 3, .inl (gI g, 4, .inl B)), (z 4, .inl (gI g, 4, .inl Z)), (z 5, .inl (gI g, 240, .inl M)), (z 15, .inl (gI g, 60, .inl Cf)), (z 0, .inr (12, [.ref (z 1), .ref (z 2), .int (nI kp), .int u_9, .ref (z 3), .ref (z 4), .ref (z 5), .ref (z 6), .int (xs 1), .ref (z 7), .ref (z 8), .ref (z 9), .ref (z 10), .ref (z 11), .ref (z 12), .int (xs 2), .ref (z 13), .ref (z 14), .int (xs 3), .ref (z 15)]))] := hD
        have hw_10 : r_8 = (-100002) := hw_10
        subst hw_10
        have hres : (-100002) = aCopy (nI js) y (nI jt) w n5 B sn := (by rw [hT]; unfold aC1; rw [if_pos (Or.inl c_7)])
        exact k_iret ((fun kk_ => ([u_9, (xs 1), (xs 2), (xs 3)] : List Int32).getD kk_ 0), M, Cf) [4, 0, 1, 2, 3] hx hb hr hlk hP hD hS (⟨hres, Or.inr ⟨by rw [← hres]; decide, fun _ _ _ _ => rfl⟩⟩) rfl rfl rfl (Nat.le_of_ble_eq_true rfl) (Nat.le_of_ble_eq_true rfl) dX12_copy_43
      · refine lv_aload_n hx hb dX12_copy_29 rfl (lv_at hl 0 rfl) ?_
        refine va_get (ci := 12) (C := RX12) (T := TX12) (N := 20) hx hb hts inlX12 hown hKW.1 hP 0 rfl rfl 4 (by decide) (hts _ wd_6_7) (fun _ h => h) rfl dX12_copy_30 ?_
        refine lv_iload_n hx hb dX12_copy_33 rfl (lv_at hl 3 rfl) ?_
        refine va_iald hx hb hKW.1 hP 1 0 rfl rfl (vp_in_nI (by omega) (by decide)) dX12_copy_34 ?_
        refine k_top (y := B jt) (by rw [nI_clamp (by omega)]) ?_
        refine lv_if_ne (tgt := 44) hx hb dX12_copy_35 (by decide) (fun c_11 => ?_) (fun c_11 => ?_)
        · refine lv_aload_n hx hb dX12_copy_44 rfl (lv_at hl 0 rfl) ?_
          refine va_get (ci := 12) (C := RX12) (T := TX12) (N := 20) hx hb hts inlX12 hown hKW.1 hP 0 rfl rfl 4 (by decide) (hts _ wd_6_7) (fun _ h => h) rfl dX12_copy_45 ?_
          refine lv_iload_n hx hb dX12_copy_48 rfl (lv_at hl 1 rfl) ?_
          refine va_iald hx hb hKW.1 hP 1 0 rfl rfl (vp_in_nI (by omega) (by decide)) dX12_copy_49 ?_
          refine k_top (y := B js) (by rw [nI_clamp (by omega)]) ?_
          refine lv_aload_n hx hb dX12_copy_50 rfl (lv_at hl 0 rfl) ?_
          refine va_get (ci := 12) (C := RX12) (T := TX12) (N := 20) hx hb hts inlX12 hown hKW.1 hP 0 rfl rfl 4 (by decide) (hts _ wd_6_7) (fun _ h => h) rfl dX12_copy_51 ?_
          refine lv_iload_n hx hb dX12_copy_54 rfl (lv_at hl 3 rfl) ?_
          refine va_iald hx hb hKW.1 hP 1 0 rfl rfl (vp_in_nI (by omega) (by decide)) dX12_copy_55 ?_
          refine k_top (y := B jt) (by rw [nI_clamp (by omega)]) ?_
          refine lv_icmp_eq (tgt := 65) hx hb dX12_copy_56 (by decide) (fun c_12 => ?_) (fun c_12 => ?_)
          · refine lv_iload_n hx hb dX12_copy_65 rfl (lv_at hl 2 rfl) ?_
            refine lv_if_lt (tgt := 106) hx hb dX12_copy_66 (by decide) (fun c_13 => ?_) (fun c_13 => ?_)
            · refine lv_aload_n hx hb dX12_copy_106 rfl (lv_at hl 0 rfl) ?_
              refine lv_iconst (v := 1) hx hb dX12_copy_107 (by decide) ?_
              refine k_Vi [0] [1, 2, 3, 4] 0 12 (wr := [(z 3, .inl (gI g, 4, .inl B)), (z 4, .inl (gI g, 4, .inl Z)), (z 5, .inl (gI g, 240, .inl M)), (z 15, .inl (gI g, 60, .inl Cf))]) hx hb hml hown hts hKW hP hD hS hA hl.1 (c_X12_finding_1 l g _ z kp xs ) rfl rfl rfl wd_10_15 wd_1_5 wd_10_12 wd_10_13 wd_10_14 yd_X12_finding ⟨(Nat.le_of_ble_eq_true rfl), (Nat.le_of_ble_eq_true rfl)⟩ rfl rfl rfl rfl (by decide) rfl (Nat.le_of_ble_eq_true rfl) dX12_copy_108 ⟨(Nat.le_of_ble_eq_true rfl), (Nat.le_of_ble_eq_true rfl)⟩ (fun r_14 u_15 H locs hw_16 hP hD hS => ?_)
              have hP : va_P g.1 vwCl [(z 3, .inl (gI g, 4, .inl B)), (z 4, .inl (gI g, 4, .inl Z)), (z 5, .inl (gI g, 240, .inl M)), (z 15, .inl (gI g, 60, .inl Cf)), (z 0, .inr (12, [.ref (z 1), .ref (z 2), .int (nI kp), .int u_15, .ref (z 3), .ref (z 4), .ref (z 5), .ref (z 6), .int (xs 1), .ref (z 7), .ref (z 8), .ref (z 9), .ref (z 10), .ref (z 11), .ref (z 12), .int (xs 2), .ref (z 13), .ref (z 14), .int (xs 3), .ref (z 15)]))] H := hP
              have hD : va_D A [(z 3, .inl (gI g, 4, .inl B)), (z 4, .inl (gI g, 4, .inl Z)), (z 5, .inl (gI g, 240, .inl M)), (z 15, .inl (gI g, 60, .inl Cf)), (z 0, .inr (12, [.ref (z 1), .ref (z 2), .int (nI kp), .int u_15, .ref (z 3), .ref (z 4), .ref (z 5), .ref (z 6), .int (xs 1), .ref (z 7), .ref (z 8), .ref (z 9), .ref (z 10), .ref (z 11), .ref (z 12), .int (xs 2), .ref (z 13), .ref (z 14), .int (xs 3), .ref (z 15)]))] := hD
              have hw_16 : r_14 = (-100001) := hw_16
              subst hw_16
              have hres : (-100001) = aCopy (nI js) y (nI jt) w n5 B sn := (by rw [hT]; unfold aC1; rw [if_neg (fun q => q.elim c_7 c_11), if_neg (fun q => q c_12), if_neg (fun q => (by clear hP hD hS hA hts hKW hl; clear hZ hT; (first | omega | (simp only [Int32.lt_iff_toInt_lt, Int32.le_iff_toInt_le, ← Int32.toInt_inj] at *; omega) | (simp only [Int32.lt_iff_toInt_lt, Int32.le_iff_toInt_le, ← Int32.toInt_inj] at *; simp at *; omega) | (simp only [Int32.lt_iff_toInt_lt, Int32.le_iff_toInt_le, ← Int32.toInt_inj] at *; simp at *; done) | (simp at *; omega) | (simp at *; done))))])
              exact k_iret ((fun kk_ => ([u_15, (xs 1), (xs 2), (xs 3)] : List Int32).getD kk_ 0), M, Cf) [4, 0, 1, 2, 3] hx hb hr hlk hP hD hS (⟨hres, Or.inr ⟨by rw [← hres]; decide, fun _ _ _ _ => rfl⟩⟩) rfl rfl rfl (Nat.le_of_ble_eq_true rfl) (Nat.le_of_ble_eq_true rfl) dX12_copy_111
            · refine lv_iload hx hb dX12_copy_69 (lv_at hl 4 rfl) ?_
              refine lv_if_lt (tgt := 106) hx hb dX12_copy_71 (by decide) (fun c_17 => ?_) (fun c_17 => ?_)
              · refine lv_aload_n hx hb dX12_copy_106 rfl (lv_at hl 0 rfl) ?_
                refine lv_iconst (v := 1) hx hb dX12_copy_107 (by decide) ?_
                refine k_Vi [0] [1, 2, 3, 4] 0 12 (wr := [(z 3, .inl (gI g, 4, .inl B)), (z 4, .inl (gI g, 4, .inl Z)), (z 5, .inl (gI g, 240, .inl M)), (z 15, .inl (gI g, 60, .inl Cf))]) hx hb hml hown hts hKW hP hD hS hA hl.1 (c_X12_finding_1 l g _ z kp xs ) rfl rfl rfl wd_10_15 wd_1_5 wd_10_12 wd_10_13 wd_10_14 yd_X12_finding ⟨(Nat.le_of_ble_eq_true rfl), (Nat.le_of_ble_eq_true rfl)⟩ rfl rfl rfl rfl (by decide) rfl (Nat.le_of_ble_eq_true rfl) dX12_copy_108 ⟨(Nat.le_of_ble_eq_true rfl), (Nat.le_of_ble_eq_true rfl)⟩ (fun r_18 u_19 H locs hw_20 hP hD hS => ?_)
                have hP : va_P g.1 vwCl [(z 3, .inl (gI g, 4, .inl B)), (z 4, .inl (gI g, 4, .inl Z)), (z 5, .inl (gI g, 240, .inl M)), (z 15, .inl (gI g, 60, .inl Cf)), (z 0, .inr (12, [.ref (z 1), .ref (z 2), .int (nI kp), .int u_19, .ref (z 3), .ref (z 4), .ref (z 5), .ref (z 6), .int (xs 1), .ref (z 7), .ref (z 8), .ref (z 9), .ref (z 10), .ref (z 11), .ref (z 12), .int (xs 2), .ref (z 13), .ref (z 14), .int (xs 3), .ref (z 15)]))] H := hP
                have hD : va_D A [(z 3, .inl (gI g, 4, .inl B)), (z 4, .inl (gI g, 4, .inl Z)), (z 5, .inl (gI g, 240, .inl M)), (z 15, .inl (gI g, 60, .inl Cf)), (z 0, .inr (12, [.ref (z 1), .ref (z 2), .int (nI kp), .int u_19, .ref (z 3), .ref (z 4), .ref (z 5), .ref (z 6), .int (xs 1), .ref (z 7), .ref (z 8), .ref (z 9), .ref (z 10), .ref (z 11), .ref (z 12), .int (xs 2), .ref (z 13), .ref (z 14), .int (xs 3), .ref (z 15)]))] := hD
                have hw_20 : r_18 = (-100001) := hw_20
                subst hw_20
                have hres : (-100001) = aCopy (nI js) y (nI jt) w n5 B sn := (by rw [hT]; unfold aC1; rw [if_neg (fun q => q.elim c_7 c_11), if_neg (fun q => q c_12), if_neg (fun q => (by clear hP hD hS hA hts hKW hl; clear hZ hT; (first | omega | (simp only [Int32.lt_iff_toInt_lt, Int32.le_iff_toInt_le, ← Int32.toInt_inj] at *; omega) | (simp only [Int32.lt_iff_toInt_lt, Int32.le_iff_toInt_le, ← Int32.toInt_inj] at *; simp at *; omega) | (simp only [Int32.lt_iff_toInt_lt, Int32.le_iff_toInt_le, ← Int32.toInt_inj] at *; simp at *; done) | (simp at *; omega) | (simp at *; done))))])
                exact k_iret ((fun kk_ => ([u_19, (xs 1), (xs 2), (xs 3)] : List Int32).getD kk_ 0), M, Cf) [4, 0, 1, 2, 3] hx hb hr hlk hP hD hS (⟨hres, Or.inr ⟨by rw [← hres]; decide, fun _ _ _ _ => rfl⟩⟩) rfl rfl rfl (Nat.le_of_ble_eq_true rfl) (Nat.le_of_ble_eq_true rfl) dX12_copy_111
              · refine lv_iload hx hb dX12_copy_74 (lv_at hl 5 rfl) ?_
                refine lv_if_lt (tgt := 106) hx hb dX12_copy_76 (by decide) (fun c_21 => ?_) (fun c_21 => ?_)
                · refine lv_aload_n hx hb dX12_copy_106 rfl (lv_at hl 0 rfl) ?_
                  refine lv_iconst (v := 1) hx hb dX12_copy_107 (by decide) ?_
                  refine k_Vi [0] [1, 2, 3, 4] 0 12 (wr := [(z 3, .inl (gI g, 4, .inl B)), (z 4, .inl (gI g, 4, .inl Z)), (z 5, .inl (gI g, 240, .inl M)), (z 15, .inl (gI g, 60, .inl Cf))]) hx hb hml hown hts hKW hP hD hS hA hl.1 (c_X12_finding_1 l g _ z kp xs ) rfl rfl rfl wd_10_15 wd_1_5 wd_10_12 wd_10_13 wd_10_14 yd_X12_finding ⟨(Nat.le_of_ble_eq_true rfl), (Nat.le_of_ble_eq_true rfl)⟩ rfl rfl rfl rfl (by decide) rfl (Nat.le_of_ble_eq_true rfl) dX12_copy_108 ⟨(Nat.le_of_ble_eq_true rfl), (Nat.le_of_ble_eq_true rfl)⟩ (fun r_22 u_23 H locs hw_24 hP hD hS => ?_)
                  have hP : va_P g.1 vwCl [(z 3, .inl (gI g, 4, .inl B)), (z 4, .inl (gI g, 4, .inl Z)), (z 5, .inl (gI g, 240, .inl M)), (z 15, .inl (gI g, 60, .inl Cf)), (z 0, .inr (12, [.ref (z 1), .ref (z 2), .int (nI kp), .int u_23, .ref (z 3), .ref (z 4), .ref (z 5), .ref (z 6), .int (xs 1), .ref (z 7), .ref (z 8), .ref (z 9), .ref (z 10), .ref (z 11), .ref (z 12), .int (xs 2), .ref (z 13), .ref (z 14), .int (xs 3), .ref (z 15)]))] H := hP
                  have hD : va_D A [(z 3, .inl (gI g, 4, .inl B)), (z 4, .inl (gI g, 4, .inl Z)), (z 5, .inl (gI g, 240, .inl M)), (z 15, .inl (gI g, 60, .inl Cf)), (z 0, .inr (12, [.ref (z 1), .ref (z 2), .int (nI kp), .int u_23, .ref (z 3), .ref (z 4), .ref (z 5), .ref (z 6), .int (xs 1), .ref (z 7), .ref (z 8), .ref (z 9), .ref (z 10), .ref (z 11), .ref (z 12), .int (xs 2), .ref (z 13), .ref (z 14), .int (xs 3), .ref (z 15)]))] := hD
                  have hw_24 : r_22 = (-100001) := hw_24
                  subst hw_24
                  have hres : (-100001) = aCopy (nI js) y (nI jt) w n5 B sn := (by rw [hT]; unfold aC1; rw [if_neg (fun q => q.elim c_7 c_11), if_neg (fun q => q c_12), if_neg (fun q => (by clear hP hD hS hA hts hKW hl; clear hZ hT; (first | omega | (simp only [Int32.lt_iff_toInt_lt, Int32.le_iff_toInt_le, ← Int32.toInt_inj] at *; omega) | (simp only [Int32.lt_iff_toInt_lt, Int32.le_iff_toInt_le, ← Int32.toInt_inj] at *; simp at *; omega) | (simp only [Int32.lt_iff_toInt_lt, Int32.le_iff_toInt_le, ← Int32.toInt_inj] at *; simp at *; done) | (simp at *; omega) | (simp at *; done))))])
                  exact k_iret ((fun kk_ => ([u_23, (xs 1), (xs 2), (xs 3)] : List Int32).getD kk_ 0), M, Cf) [4, 0, 1, 2, 3] hx hb hr hlk hP hD hS (⟨hres, Or.inr ⟨by rw [← hres]; decide, fun _ _ _ _ => rfl⟩⟩) rfl rfl rfl (Nat.le_of_ble_eq_true rfl) (Nat.le_of_ble_eq_true rfl) dX12_copy_111
                · refine lv_iload_n hx hb dX12_copy_79 rfl (lv_at hl 2 rfl) ?_
                  refine lv_aload_n hx hb dX12_copy_80 rfl (lv_at hl 0 rfl) ?_
                  refine va_get (ci := 12) (C := RX12) (T := TX12) (N := 20) hx hb hts inlX12 hown hKW.1 hP 0 rfl rfl 5 (by decide) (hts _ wd_6_8) (fun _ h => h) rfl dX12_copy_81 ?_
                  refine lv_iload_n hx hb dX12_copy_84 rfl (lv_at hl 1 rfl) ?_
                  refine va_iald hx hb hKW.1 hP 2 0 rfl rfl (vp_in_nI (by omega) (by decide)) dX12_copy_85 ?_
                  refine k_top (y := nI (sn js)) (by rw [nI_clamp (by omega)]; exact (hZ js hjs).1) ?_
                  refine lv_iload hx hb dX12_copy_86 (lv_at hl 5 rfl) ?_
                  refine lv_isub hx hb dX12_copy_88 ?_
                  refine lv_topi (fun x_25 ex_25 => ?_)
                  have hx1 := k_subn (n := sn js) (by omega) c_21 ex_25
                  refine lv_icmp_gt (tgt := 106) hx hb dX12_copy_89 (by decide) (fun c_26 => ?_) (fun c_26 => ?_)
                  · refine lv_aload_n hx hb dX12_copy_106 rfl (lv_at hl 0 rfl) ?_
                    refine lv_iconst (v := 1) hx hb dX12_copy_107 (by decide) ?_
                    refine k_Vi [0] [1, 2, 3, 4] 0 12 (wr := [(z 3, .inl (gI g, 4, .inl B)), (z 4, .inl (gI g, 4, .inl Z)), (z 5, .inl (gI g, 240, .inl M)), (z 15, .inl (gI g, 60, .inl Cf))]) hx hb hml hown hts hKW hP hD hS hA hl.1 (c_X12_finding_1 l g _ z kp xs ) rfl rfl rfl wd_10_15 wd_1_5 wd_10_12 wd_10_13 wd_10_14 yd_X12_finding ⟨(Nat.le_of_ble_eq_true rfl), (Nat.le_of_ble_eq_true rfl)⟩ rfl rfl rfl rfl (by decide) rfl (Nat.le_of_ble_eq_true rfl) dX12_copy_108 ⟨(Nat.le_of_ble_eq_true rfl), (Nat.le_of_ble_eq_true rfl)⟩ (fun r_27 u_28 H locs hw_29 hP hD hS => ?_)
                    have hP : va_P g.1 vwCl [(z 3, .inl (gI g, 4, .inl B)), (z 4, .inl (gI g, 4, .inl Z)), (z 5, .inl (gI g, 240, .inl M)), (z 15, .inl (gI g, 60, .inl Cf)), (z 0, .inr (12, [.ref (z 1), .ref (z 2), .int (nI kp), .int u_28, .ref (z 3), .ref (z 4), .ref (z 5), .ref (z 6), .int (xs 1), .ref (z 7), .ref (z 8), .ref (z 9), .ref (z 10), .ref (z 11), .ref (z 12), .int (xs 2), .ref (z 13), .ref (z 14), .int (xs 3), .ref (z 15)]))] H := hP
                    have hD : va_D A [(z 3, .inl (gI g, 4, .inl B)), (z 4, .inl (gI g, 4, .inl Z)), (z 5, .inl (gI g, 240, .inl M)), (z 15, .inl (gI g, 60, .inl Cf)), (z 0, .inr (12, [.ref (z 1), .ref (z 2), .int (nI kp), .int u_28, .ref (z 3), .ref (z 4), .ref (z 5), .ref (z 6), .int (xs 1), .ref (z 7), .ref (z 8), .ref (z 9), .ref (z 10), .ref (z 11), .ref (z 12), .int (xs 2), .ref (z 13), .ref (z 14), .int (xs 3), .ref (z 15)]))] := hD
                    have hw_29 : r_27 = (-100001) := hw_29
                    subst hw_29
                    have hres : (-100001) = aCopy (nI js) y (nI jt) w n5 B sn := (by rw [hT]; unfold aC1; rw [if_neg (fun q => q.elim c_7 c_11), if_neg (fun q => q c_12), if_neg (fun q => (by clear hP hD hS hA hts hKW hl; clear hZ hT; (first | omega | (simp only [Int32.lt_iff_toInt_lt, Int32.le_iff_toInt_le, ← Int32.toInt_inj] at *; omega) | (simp only [Int32.lt_iff_toInt_lt, Int32.le_iff_toInt_le, ← Int32.toInt_inj] at *; simp at *; omega) | (simp only [Int32.lt_iff_toInt_lt, Int32.le_iff_toInt_le, ← Int32.toInt_inj] at *; simp at *; done) | (simp at *; omega) | (simp at *; done))))])
                    exact k_iret ((fun kk_ => ([u_28, (xs 1), (xs 2), (xs 3)] : List Int32).getD kk_ 0), M, Cf) [4, 0, 1, 2, 3] hx hb hr hlk hP hD hS (⟨hres, Or.inr ⟨by rw [← hres]; decide, fun _ _ _ _ => rfl⟩⟩) rfl rfl rfl (Nat.le_of_ble_eq_true rfl) (Nat.le_of_ble_eq_true rfl) dX12_copy_111
                  · refine lv_iload hx hb dX12_copy_92 (lv_at hl 4 rfl) ?_
                    refine lv_aload_n hx hb dX12_copy_94 rfl (lv_at hl 0 rfl) ?_
                    refine va_get (ci := 12) (C := RX12) (T := TX12) (N := 20) hx hb hts inlX12 hown hKW.1 hP 0 rfl rfl 5 (by decide) (hts _ wd_6_8) (fun _ h => h) rfl dX12_copy_95 ?_
                    refine lv_iload_n hx hb dX12_copy_98 rfl (lv_at hl 3 rfl) ?_
                    refine va_iald hx hb hKW.1 hP 2 0 rfl rfl (vp_in_nI (by omega) (by decide)) dX12_copy_99 ?_
                    refine k_top (y := nI (sn jt)) (by rw [nI_clamp (by omega)]; exact (hZ jt hjt).1) ?_
                    refine lv_iload hx hb dX12_copy_100 (lv_at hl 5 rfl) ?_
                    refine lv_isub hx hb dX12_copy_102 ?_
                    refine lv_topi (fun x_30 ex_30 => ?_)
                    have hx2 := k_subn (n := sn jt) (by omega) c_21 ex_30
                    refine lv_icmp_le (tgt := 112) hx hb dX12_copy_103 (by decide) (fun c_31 => ?_) (fun c_31 => ?_)
                    · have hbb : (0 : Int) ≤ y.toInt ∧ (0 : Int) ≤ w.toInt ∧ (0 : Int) ≤ n5.toInt ∧ y.toInt + n5.toInt ≤ (sn js : Int) ∧ w.toInt + n5.toInt ≤ (sn jt : Int) := (by clear hP hD hS hA hts hKW hl; clear hZ hT; (first | omega | (simp only [Int32.lt_iff_toInt_lt, Int32.le_iff_toInt_le, ← Int32.toInt_inj] at *; omega) | (simp only [Int32.lt_iff_toInt_lt, Int32.le_iff_toInt_le, ← Int32.toInt_inj] at *; simp at *; omega) | (simp only [Int32.lt_iff_toInt_lt, Int32.le_iff_toInt_le, ← Int32.toInt_inj] at *; simp at *; done) | (simp at *; omega) | (simp at *; done)))
                      have hfin : aCopy (nI js) y (nI jt) w n5 B sn = n5 := by rw [hT]; unfold aC1; rw [if_neg (fun q => q.elim c_7 c_11), if_neg (fun q => q c_12), if_pos ⟨⟨hbb.1, hbb.2.2.1, hbb.2.2.2.1⟩, hbb.2.1, hbb.2.2.1, hbb.2.2.2.2⟩]
                      obtain ⟨jf, hjf, rfl⟩ := k_ofr (x := y) (n := 61) (by decide) (by omega)
                      obtain ⟨ju, hju, rfl⟩ := k_ofr (x := w) (n := 61) (by decide) (by omega)
                      obtain ⟨jn, hjn, rfl⟩ := k_ofr (x := n5) (n := 61) (by decide) (by omega)
                      refine lv_iconst (v := 0) hx hb dX12_copy_112 (by decide) ?_
                      have hb1 : jf + jn ≤ sn js := by have q := hbb.2.2.2.1; rw [k_nIi (by omega), k_nIi (by omega)] at q; omega
                      have hb2 : ju + jn ≤ sn jt := by have q := hbb.2.2.2.2; rw [k_nIi (by omega), k_nIi (by omega)] at q; omega
                      refine lv_istore (lv' := [(6, .int 0), (0, .ref (z 0)), (1, .int (nI js)), (2, .int (nI jf)), (3, .int (nI jt)), (4, .int (nI ju)), (5, .int (nI jn))]) hx hb dX12_copy_113 hl (by decide) rfl (fun ls hl => ?_)
                      have L115 : ∀ (n115 : Nat) (i : Nat) (Ca : Nat → Int32) (hfuel115 : 60 - i < n115) (hi : i ≤ jn) (hC : ∀ k, k < i → Ca k = kSF M js (jf + k)) (H : Heap) (locs : List Loc) (hP : va_P g.1 vwCl [(z 0, .inr (12, [.ref (z 1), .ref (z 2), .int (nI kp), .int (xs 0), .ref (z 3), .ref (z 4), .ref (z 5), .ref (z 6), .int (xs 1), .ref (z 7), .ref (z 8), .ref (z 9), .ref (z 10), .ref (z 11), .ref (z 12), .int (xs 2), .ref (z 13), .ref (z 14), .int (xs 3), .ref (z 15)])), (z 3, .inl (gI g, 4, .inl B)), (z 4, .inl (gI g, 4, .inl Z)), (z 5, .inl (gI g, 240, .inl M)), (z 15, .inl (gI g, 60, .inl Ca))] H) (hD : va_D A [(z 0, .inr (12, [.ref (z 1), .ref (z 2), .int (nI kp), .int (xs 0), .ref (z 3), .ref (z 4), .ref (z 5), .ref (z 6), .int (xs 1), .ref (z 7), .ref (z 8), .ref (z 9), .ref (z 10), .ref (z 11), .ref (z 12), .int (xs 2), .ref (z 13), .ref (z 14), .int (xs 3), .ref (z 15)])), (z 3, .inl (gI g, 4, .inl B)), (z 4, .inl (gI g, 4, .inl Z)), (z 5, .inl (gI g, 240, .inl M)), (z 15, .inl (gI g, 60, .inl Ca))]) (hS : va_S A s.heap H locs) (ls : Array Slot) (hl : lv_has ls 7 [(6, .int (nI i)), (0, .ref (z 0)), (1, .int (nI js)), (2, .int (nI jf)), (3, .int (nI jt)), (4, .int (nI ju)), (5, .int (nI jn))]), W p l e (kR 3 0 0) s m ([.ref (z 0), .int (nI js), .int (nI jf), .int (nI jt), .int (nI ju), .int (nI jn)] : List Value).toArray below meth c H locs 0 0 (kQi g A below ([.ref (z 0), .int (nI js), .int (nI jf), .int (nI jt), .int (nI ju), .int (nI jn)] : List Value).toArray s 0 0 (fun (r : Int32) (u : (Nat → Int32) × (Nat → Int32) × (Nat → Int32)) => (r = aCopy (nI js) (nI jf) (nI jt) (nI ju) (nI jn) B sn) ∧ (CpR (nI js) (nI jf) (nI jt) (nI ju) (nI jn) B sn (kSF M) (kSF u.2.1))) (fun (u : (Nat → Int32) × (Nat → Int32) × (Nat → Int32)) => ([(z 0, .inr (12, [.ref (z 1), .ref (z 2), .int (nI kp), .int (u.1 0), .ref (z 3), .ref (z 4), .ref (z 5), .ref (z 6), .int (u.1 1), .ref (z 7), .ref (z 8), .ref (z 9), .ref (z 10), .ref (z 11), .ref (z 12), .int (u.1 2), .ref (z 13), .ref (z 14), .int (u.1 3), .ref (z 15)])), (z 3, .inl (gI g, 4, .inl B)), (z 4, .inl (gI g, 4, .inl Z)), (z 5, .inl (gI g, 240, .inl u.2.1)), (z 15, .inl (gI g, 60, .inl u.2.2))] : va_W))) (F0 m 115 ls []) := by
                        intro n115
                        induction n115 with
                        | zero => intro i Ca hfuel115; exact absurd hfuel115 (Nat.not_lt_zero _)
                        | succ n115 ih115 =>
                          intro i Ca hfuel115 hi hC H locs hP hD hS ls hl
                          refine lv_iload hx hb dX12_copy_115 (lv_at hl 0 rfl) ?_
                          refine lv_iload hx hb dX12_copy_117 (lv_at hl 6 rfl) ?_
                          refine lv_icmp_ge (tgt := 149) hx hb dX12_copy_119 (by decide) (fun c_32 => ?_) (fun c_32 => ?_)
                          · have c_32n : jn ≤ i := (k_leI (a := jn) (b := i) (by omega) (by omega)).mp c_32
                            have hCn : ∀ k, k < jn → Ca k = kSF M js (jf + k) := fun k hk => hC k (by omega)
                            refine lv_iconst (v := 0) hx hb dX12_copy_149 (by decide) ?_
                            refine lv_istore (lv' := [(6, .int 0), (0, .ref (z 0)), (1, .int (nI js)), (2, .int (nI jf)), (3, .int (nI jt)), (4, .int (nI ju)), (5, .int (nI jn))]) hx hb dX12_copy_150 hl (by decide) rfl (fun ls hl => ?_)
                            have L152 : ∀ (n152 : Nat) (i : Nat) (Ma : Nat → Int32) (hfuel152 : 60 - i < n152) (hi : i ≤ jn) (hcm : kCm M Ma js jf jt ju i) (H : Heap) (locs : List Loc) (hP : va_P g.1 vwCl [(z 0, .inr (12, [.ref (z 1), .ref (z 2), .int (nI kp), .int (xs 0), .ref (z 3), .ref (z 4), .ref (z 5), .ref (z 6), .int (xs 1), .ref (z 7), .ref (z 8), .ref (z 9), .ref (z 10), .ref (z 11), .ref (z 12), .int (xs 2), .ref (z 13), .ref (z 14), .int (xs 3), .ref (z 15)])), (z 3, .inl (gI g, 4, .inl B)), (z 4, .inl (gI g, 4, .inl Z)), (z 5, .inl (gI g, 240, .inl Ma)), (z 15, .inl (gI g, 60, .inl Ca))] H) (hD : va_D A [(z 0, .inr (12, [.ref (z 1), .ref (z 2), .int (nI kp), .int (xs 0), .ref (z 3), .ref (z 4), .ref (z 5), .ref (z 6), .int (xs 1), .ref (z 7), .ref (z 8), .ref (z 9), .ref (z 10), .ref (z 11), .ref (z 12), .int (xs 2), .ref (z 13), .ref (z 14), .int (xs 3), .ref (z 15)])), (z 3, .inl (gI g, 4, .inl B)), (z 4, .inl (gI g, 4, .inl Z)), (z 5, .inl (gI g, 240, .inl Ma)), (z 15, .inl (gI g, 60, .inl Ca))]) (hS : va_S A s.heap H locs) (ls : Array Slot) (hl : lv_has ls 7 [(6, .int (nI i)), (0, .ref (z 0)), (1, .int (nI js)), (2, .int (nI jf)), (3, .int (nI jt)), (4, .int (nI ju)), (5, .int (nI jn))]), W p l e (kR 3 0 0) s m ([.ref (z 0), .int (nI js), .int (nI jf), .int (nI jt), .int (nI ju), .int (nI jn)] : List Value).toArray below meth c H locs 0 0 (kQi g A below ([.ref (z 0), .int (nI js), .int (nI jf), .int (nI jt), .int (nI ju), .int (nI jn)] : List Value).toArray s 0 0 (fun (r : Int32) (u : (Nat → Int32) × (Nat → Int32) × (Nat → Int32)) => (r = aCopy (nI js) (nI jf) (nI jt) (nI ju) (nI jn) B sn) ∧ (CpR (nI js) (nI jf) (nI jt) (nI ju) (nI jn) B sn (kSF M) (kSF u.2.1))) (fun (u : (Nat → Int32) × (Nat → Int32) × (Nat → Int32)) => ([(z 0, .inr (12, [.ref (z 1), .ref (z 2), .int (nI kp), .int (u.1 0), .ref (z 3), .ref (z 4), .ref (z 5), .ref (z 6), .int (u.1 1), .ref (z 7), .ref (z 8), .ref (z 9), .ref (z 10), .ref (z 11), .ref (z 12), .int (u.1 2), .ref (z 13), .ref (z 14), .int (u.1 3), .ref (z 15)])), (z 3, .inl (gI g, 4, .inl B)), (z 4, .inl (gI g, 4, .inl Z)), (z 5, .inl (gI g, 240, .inl u.2.1)), (z 15, .inl (gI g, 60, .inl u.2.2))] : va_W))) (F0 m 152 ls []) := by
                              intro n152
                              induction n152 with
                              | zero => intro i Ma hfuel152; exact absurd hfuel152 (Nat.not_lt_zero _)
                              | succ n152 ih152 =>
                                intro i Ma hfuel152 hi hcm H locs hP hD hS ls hl
                                refine lv_iload hx hb dX12_copy_152 (lv_at hl 0 rfl) ?_
                                refine lv_iload hx hb dX12_copy_154 (lv_at hl 6 rfl) ?_
                                refine lv_icmp_ge (tgt := 187) hx hb dX12_copy_156 (by decide) (fun c_33 => ?_) (fun c_33 => ?_)
                                · have c_33n : jn ≤ i := (k_leI (a := jn) (b := i) (by omega) (by omega)).mp c_33
                                  refine lv_iload hx hb dX12_copy_187 (lv_at hl 6 rfl) ?_
                                  have hres : nI jn = aCopy (nI js) (nI jf) (nI jt) (nI ju) (nI jn) B sn := hfin.symm
                                  exact k_iret (xs, Ma, Ca) [0, 1, 2, 3, 4] hx hb hr hlk hP hD hS (⟨hres, Or.inl ⟨js, jf, jt, ju, jn, hjs, hjt, by omega, by omega, rfl, rfl, rfl, rfl, rfl, hfin, (by rw [show i = jn by omega] at hcm; exact hcm)⟩⟩) rfl rfl rfl (Nat.le_of_ble_eq_true rfl) (Nat.le_of_ble_eq_true rfl) dX12_copy_189
                                · have c_33n : i < jn := Nat.not_le.mp (fun h => c_33 ((k_leI (a := jn) (b := i) (by omega) (by omega)).mpr h))
                                  refine lv_aload_n hx hb dX12_copy_159 rfl (lv_at hl 1 rfl) ?_
                                  refine va_get (ci := 12) (C := RX12) (T := TX12) (N := 20) hx hb hts inlX12 hown hKW.1 hP 0 rfl rfl 6 (by decide) (hts _ wd_6_9) (fun _ h => h) rfl dX12_copy_160 ?_
                                  refine lv_bipush (v := 60) hx hb dX12_copy_163 (by decide) ?_
                                  refine lv_iload_n hx hb dX12_copy_165 rfl (lv_at hl 4 rfl) ?_
                                  refine lv_imul hx hb dX12_copy_166 ?_
                                  refine k_top (y := nI (60 * jt)) (show (60 : Int32) * nI jt = nI (60 * jt) from k_nmul 60 jt) ?_
                                  refine lv_iload hx hb dX12_copy_167 (lv_at hl 5 rfl) ?_
                                  refine lv_iadd hx hb dX12_copy_169 ?_
                                  refine k_top (y := nI ((60 * jt) + ju)) (nI_add (60 * jt) ju) ?_
                                  refine lv_iload hx hb dX12_copy_170 (lv_at hl 0 rfl) ?_
                                  refine lv_iadd hx hb dX12_copy_172 ?_
                                  refine k_top (y := nI (((60 * jt) + ju) + i)) (nI_add ((60 * jt) + ju) i) ?_
                                  refine lv_aload_n hx hb dX12_copy_173 rfl (lv_at hl 1 rfl) ?_
                                  refine va_get (ci := 12) (C := RX12) (T := TX12) (N := 20) hx hb hts inlX12 hown hKW.1 hP 0 rfl rfl 19 (by decide) (hts _ wd_6_20) (fun _ h => h) rfl dX12_copy_174 ?_
                                  refine lv_iload hx hb dX12_copy_177 (lv_at hl 0 rfl) ?_
                                  refine va_iald hx hb hKW.1 hP 4 0 rfl rfl (vp_in_nI (by omega) (by decide)) dX12_copy_179 ?_
                                  refine lv_topi (fun x_34 ex_34 => ?_)
                                  refine va_iast hx hb hKW.1 hP hD hS 3 0 rfl rfl (vp_in_nI (by omega) (by decide)) dX12_copy_180 (fun H locs hP hD hS => ?_)
                                  have hP : va_P g.1 vwCl [(z 0, .inr (12, [.ref (z 1), .ref (z 2), .int (nI kp), .int (xs 0), .ref (z 3), .ref (z 4), .ref (z 5), .ref (z 6), .int (xs 1), .ref (z 7), .ref (z 8), .ref (z 9), .ref (z 10), .ref (z 11), .ref (z 12), .int (xs 2), .ref (z 13), .ref (z 14), .int (xs 3), .ref (z 15)])), (z 3, .inl (gI g, 4, .inl B)), (z 4, .inl (gI g, 4, .inl Z)), (z 5, .inl (gI g, 240, .inl (upd Ma (nI (((60 * jt) + ju) + i)).toNatClampNeg x_34))), (z 15, .inl (gI g, 60, .inl Ca))] H := hP
                                  have hD : va_D A [(z 0, .inr (12, [.ref (z 1), .ref (z 2), .int (nI kp), .int (xs 0), .ref (z 3), .ref (z 4), .ref (z 5), .ref (z 6), .int (xs 1), .ref (z 7), .ref (z 8), .ref (z 9), .ref (z 10), .ref (z 11), .ref (z 12), .int (xs 2), .ref (z 13), .ref (z 14), .int (xs 3), .ref (z 15)])), (z 3, .inl (gI g, 4, .inl B)), (z 4, .inl (gI g, 4, .inl Z)), (z 5, .inl (gI g, 240, .inl (upd Ma (nI (((60 * jt) + ju) + i)).toNatClampNeg x_34))), (z 15, .inl (gI g, 60, .inl Ca))] := hD
                                  obtain ⟨f_35, ef_35⟩ : ∃ zz_ : Nat → Int32, zz_ = upd Ma (nI (((60 * jt) + ju) + i)).toNatClampNeg x_34 := ⟨_, rfl⟩
                                  rw [← ef_35] at hP hD
                                  refine lv_iinc (v := nI (i + 1)) (lv' := [(6, .int (nI (i + 1))), (0, .ref (z 0)), (1, .int (nI js)), (2, .int (nI jf)), (3, .int (nI jt)), (4, .int (nI ju)), (5, .int (nI jn))]) hx hb dX12_copy_181 hl (k := 0) rfl (nI_add i 1) (by decide) rfl (fun ls hl => ?_)
                                  refine lv_goto (tgt := 152) hx hb dX12_copy_184 (by decide) ?_
                                  exact ih152 (i + 1) f_35 (by omega) (by first | assumption | omega) (k_cmS hcm hCn (by omega) ex_34 ef_35) H locs (hP.sub [0, 1, 2, 3, 4] rfl) (hD.sub [0, 1, 2, 3, 4] (by decide) rfl) hS ls (lv_sub hl [0, 1, 2, 3, 4, 5, 6] rfl)
                            exact L152 (60 - 0 + 1) 0 M (Nat.lt_succ_self _) (by first | assumption | omega) k_cm0 H locs (hP.sub [0, 1, 2, 3, 4] rfl) (hD.sub [0, 1, 2, 3, 4] (by decide) rfl) hS ls (lv_sub hl [0, 1, 2, 3, 4, 5, 6] rfl)
                          · have c_32n : i < jn := Nat.not_le.mp (fun h => c_32 ((k_leI (a := jn) (b := i) (by omega) (by omega)).mpr h))
                            refine lv_aload_n hx hb dX12_copy_122 rfl (lv_at hl 1 rfl) ?_
                            refine va_get (ci := 12) (C := RX12) (T := TX12) (N := 20) hx hb hts inlX12 hown hKW.1 hP 0 rfl rfl 19 (by decide) (hts _ wd_6_20) (fun _ h => h) rfl dX12_copy_123 ?_
                            refine lv_iload hx hb dX12_copy_126 (lv_at hl 0 rfl) ?_
                            refine lv_aload_n hx hb dX12_copy_128 rfl (lv_at hl 1 rfl) ?_
                            refine va_get (ci := 12) (C := RX12) (T := TX12) (N := 20) hx hb hts inlX12 hown hKW.1 hP 0 rfl rfl 6 (by decide) (hts _ wd_6_9) (fun _ h => h) rfl dX12_copy_129 ?_
                            refine lv_bipush (v := 60) hx hb dX12_copy_132 (by decide) ?_
                            refine lv_iload_n hx hb dX12_copy_134 rfl (lv_at hl 2 rfl) ?_
                            refine lv_imul hx hb dX12_copy_135 ?_
                            refine k_top (y := nI (60 * js)) (show (60 : Int32) * nI js = nI (60 * js) from k_nmul 60 js) ?_
                            refine lv_iload_n hx hb dX12_copy_136 rfl (lv_at hl 3 rfl) ?_
                            refine lv_iadd hx hb dX12_copy_137 ?_
                            refine k_top (y := nI ((60 * js) + jf)) (nI_add (60 * js) jf) ?_
                            refine lv_iload hx hb dX12_copy_138 (lv_at hl 0 rfl) ?_
                            refine lv_iadd hx hb dX12_copy_140 ?_
                            refine k_top (y := nI (((60 * js) + jf) + i)) (nI_add ((60 * js) + jf) i) ?_
                            refine va_iald hx hb hKW.1 hP 3 0 rfl rfl (vp_in_nI (by omega) (by decide)) dX12_copy_141 ?_
                            refine lv_topi (fun x_36 ex_36 => ?_)
                            refine va_iast hx hb hKW.1 hP hD hS 4 0 rfl rfl (vp_in_nI (by omega) (by decide)) dX12_copy_142 (fun H locs hP hD hS => ?_)
                            have hP : va_P g.1 vwCl [(z 0, .inr (12, [.ref (z 1), .ref (z 2), .int (nI kp), .int (xs 0), .ref (z 3), .ref (z 4), .ref (z 5), .ref (z 6), .int (xs 1), .ref (z 7), .ref (z 8), .ref (z 9), .ref (z 10), .ref (z 11), .ref (z 12), .int (xs 2), .ref (z 13), .ref (z 14), .int (xs 3), .ref (z 15)])), (z 3, .inl (gI g, 4, .inl B)), (z 4, .inl (gI g, 4, .inl Z)), (z 5, .inl (gI g, 240, .inl M)), (z 15, .inl (gI g, 60, .inl (upd Ca (nI i).toNatClampNeg x_36)))] H := hP
                            have hD : va_D A [(z 0, .inr (12, [.ref (z 1), .ref (z 2), .int (nI kp), .int (xs 0), .ref (z 3), .ref (z 4), .ref (z 5), .ref (z 6), .int (xs 1), .ref (z 7), .ref (z 8), .ref (z 9), .ref (z 10), .ref (z 11), .ref (z 12), .int (xs 2), .ref (z 13), .ref (z 14), .int (xs 3), .ref (z 15)])), (z 3, .inl (gI g, 4, .inl B)), (z 4, .inl (gI g, 4, .inl Z)), (z 5, .inl (gI g, 240, .inl M)), (z 15, .inl (gI g, 60, .inl (upd Ca (nI i).toNatClampNeg x_36)))] := hD
                            obtain ⟨f_37, ef_37⟩ : ∃ zz_ : Nat → Int32, zz_ = upd Ca (nI i).toNatClampNeg x_36 := ⟨_, rfl⟩
                            rw [← ef_37] at hP hD
                            refine lv_iinc (v := nI (i + 1)) (lv' := [(6, .int (nI (i + 1))), (0, .ref (z 0)), (1, .int (nI js)), (2, .int (nI jf)), (3, .int (nI jt)), (4, .int (nI ju)), (5, .int (nI jn))]) hx hb dX12_copy_143 hl (k := 0) rfl (nI_add i 1) (by decide) rfl (fun ls hl => ?_)
                            refine lv_goto (tgt := 115) hx hb dX12_copy_146 (by decide) ?_
                            exact ih115 (i + 1) f_37 (by omega) (by first | assumption | omega) (k_ccS hC (by omega) ex_36 ef_37) H locs (hP.sub [0, 1, 2, 3, 4] rfl) (hD.sub [0, 1, 2, 3, 4] (by decide) rfl) hS ls (lv_sub hl [0, 1, 2, 3, 4, 5, 6] rfl)
                      exact L115 (60 - 0 + 1) 0 Cf (Nat.lt_succ_self _) (by first | assumption | omega) (fun k hk => absurd hk (by omega)) H locs (hP.sub [0, 1, 2, 3, 4] rfl) (hD.sub [0, 1, 2, 3, 4] (by decide) rfl) hS ls (lv_sub hl [0, 1, 2, 3, 4, 5, 6] rfl)
                    · refine lv_aload_n hx hb dX12_copy_106 rfl (lv_at hl 0 rfl) ?_
                      refine lv_iconst (v := 1) hx hb dX12_copy_107 (by decide) ?_
                      refine k_Vi [0] [1, 2, 3, 4] 0 12 (wr := [(z 3, .inl (gI g, 4, .inl B)), (z 4, .inl (gI g, 4, .inl Z)), (z 5, .inl (gI g, 240, .inl M)), (z 15, .inl (gI g, 60, .inl Cf))]) hx hb hml hown hts hKW hP hD hS hA hl.1 (c_X12_finding_1 l g _ z kp xs ) rfl rfl rfl wd_10_15 wd_1_5 wd_10_12 wd_10_13 wd_10_14 yd_X12_finding ⟨(Nat.le_of_ble_eq_true rfl), (Nat.le_of_ble_eq_true rfl)⟩ rfl rfl rfl rfl (by decide) rfl (Nat.le_of_ble_eq_true rfl) dX12_copy_108 ⟨(Nat.le_of_ble_eq_true rfl), (Nat.le_of_ble_eq_true rfl)⟩ (fun r_38 u_39 H locs hw_40 hP hD hS => ?_)
                      have hP : va_P g.1 vwCl [(z 3, .inl (gI g, 4, .inl B)), (z 4, .inl (gI g, 4, .inl Z)), (z 5, .inl (gI g, 240, .inl M)), (z 15, .inl (gI g, 60, .inl Cf)), (z 0, .inr (12, [.ref (z 1), .ref (z 2), .int (nI kp), .int u_39, .ref (z 3), .ref (z 4), .ref (z 5), .ref (z 6), .int (xs 1), .ref (z 7), .ref (z 8), .ref (z 9), .ref (z 10), .ref (z 11), .ref (z 12), .int (xs 2), .ref (z 13), .ref (z 14), .int (xs 3), .ref (z 15)]))] H := hP
                      have hD : va_D A [(z 3, .inl (gI g, 4, .inl B)), (z 4, .inl (gI g, 4, .inl Z)), (z 5, .inl (gI g, 240, .inl M)), (z 15, .inl (gI g, 60, .inl Cf)), (z 0, .inr (12, [.ref (z 1), .ref (z 2), .int (nI kp), .int u_39, .ref (z 3), .ref (z 4), .ref (z 5), .ref (z 6), .int (xs 1), .ref (z 7), .ref (z 8), .ref (z 9), .ref (z 10), .ref (z 11), .ref (z 12), .int (xs 2), .ref (z 13), .ref (z 14), .int (xs 3), .ref (z 15)]))] := hD
                      have hw_40 : r_38 = (-100001) := hw_40
                      subst hw_40
                      have hres : (-100001) = aCopy (nI js) y (nI jt) w n5 B sn := (by rw [hT]; unfold aC1; rw [if_neg (fun q => q.elim c_7 c_11), if_neg (fun q => q c_12), if_neg (fun q => (by clear hP hD hS hA hts hKW hl; clear hZ hT; (first | omega | (simp only [Int32.lt_iff_toInt_lt, Int32.le_iff_toInt_le, ← Int32.toInt_inj] at *; omega) | (simp only [Int32.lt_iff_toInt_lt, Int32.le_iff_toInt_le, ← Int32.toInt_inj] at *; simp at *; omega) | (simp only [Int32.lt_iff_toInt_lt, Int32.le_iff_toInt_le, ← Int32.toInt_inj] at *; simp at *; done) | (simp at *; omega) | (simp at *; done))))])
                      exact k_iret ((fun kk_ => ([u_39, (xs 1), (xs 2), (xs 3)] : List Int32).getD kk_ 0), M, Cf) [4, 0, 1, 2, 3] hx hb hr hlk hP hD hS (⟨hres, Or.inr ⟨by rw [← hres]; decide, fun _ _ _ _ => rfl⟩⟩) rfl rfl rfl (Nat.le_of_ble_eq_true rfl) (Nat.le_of_ble_eq_true rfl) dX12_copy_111
          · refine lv_aload_n hx hb dX12_copy_59 rfl (lv_at hl 0 rfl) ?_
            refine lv_iconst (v := 4) hx hb dX12_copy_60 (by decide) ?_
            refine k_Vi [0] [1, 2, 3, 4] 0 12 (wr := [(z 3, .inl (gI g, 4, .inl B)), (z 4, .inl (gI g, 4, .inl Z)), (z 5, .inl (gI g, 240, .inl M)), (z 15, .inl (gI g, 60, .inl Cf))]) hx hb hml hown hts hKW hP hD hS hA hl.1 (c_X12_finding_4 l g _ z kp xs ) rfl rfl rfl wd_10_15 wd_1_5 wd_10_12 wd_10_13 wd_10_14 yd_X12_finding ⟨(Nat.le_of_ble_eq_true rfl), (Nat.le_of_ble_eq_true rfl)⟩ rfl rfl rfl rfl (by decide) rfl (Nat.le_of_ble_eq_true rfl) dX12_copy_61 ⟨(Nat.le_of_ble_eq_true rfl), (Nat.le_of_ble_eq_true rfl)⟩ (fun r_41 u_42 H locs hw_43 hP hD hS => ?_)
            have hP : va_P g.1 vwCl [(z 3, .inl (gI g, 4, .inl B)), (z 4, .inl (gI g, 4, .inl Z)), (z 5, .inl (gI g, 240, .inl M)), (z 15, .inl (gI g, 60, .inl Cf)), (z 0, .inr (12, [.ref (z 1), .ref (z 2), .int (nI kp), .int u_42, .ref (z 3), .ref (z 4), .ref (z 5), .ref (z 6), .int (xs 1), .ref (z 7), .ref (z 8), .ref (z 9), .ref (z 10), .ref (z 11), .ref (z 12), .int (xs 2), .ref (z 13), .ref (z 14), .int (xs 3), .ref (z 15)]))] H := hP
            have hD : va_D A [(z 3, .inl (gI g, 4, .inl B)), (z 4, .inl (gI g, 4, .inl Z)), (z 5, .inl (gI g, 240, .inl M)), (z 15, .inl (gI g, 60, .inl Cf)), (z 0, .inr (12, [.ref (z 1), .ref (z 2), .int (nI kp), .int u_42, .ref (z 3), .ref (z 4), .ref (z 5), .ref (z 6), .int (xs 1), .ref (z 7), .ref (z 8), .ref (z 9), .ref (z 10), .ref (z 11), .ref (z 12), .int (xs 2), .ref (z 13), .ref (z 14), .int (xs 3), .ref (z 15)]))] := hD
            have hw_43 : r_41 = (-100004) := hw_43
            subst hw_43
            have hres : (-100004) = aCopy (nI js) y (nI jt) w n5 B sn := (by rw [hT]; unfold aC1; rw [if_neg (fun q => q.elim c_7 c_11), if_pos c_12])
            exact k_iret ((fun kk_ => ([u_42, (xs 1), (xs 2), (xs 3)] : List Int32).getD kk_ 0), M, Cf) [4, 0, 1, 2, 3] hx hb hr hlk hP hD hS (⟨hres, Or.inr ⟨by rw [← hres]; decide, fun _ _ _ _ => rfl⟩⟩) rfl rfl rfl (Nat.le_of_ble_eq_true rfl) (Nat.le_of_ble_eq_true rfl) dX12_copy_64
        · refine lv_aload_n hx hb dX12_copy_38 rfl (lv_at hl 0 rfl) ?_
          refine lv_iconst (v := 2) hx hb dX12_copy_39 (by decide) ?_
          refine k_Vi [0] [1, 2, 3, 4] 0 12 (wr := [(z 3, .inl (gI g, 4, .inl B)), (z 4, .inl (gI g, 4, .inl Z)), (z 5, .inl (gI g, 240, .inl M)), (z 15, .inl (gI g, 60, .inl Cf))]) hx hb hml hown hts hKW hP hD hS hA hl.1 (c_X12_finding_2 l g _ z kp xs ) rfl rfl rfl wd_10_15 wd_1_5 wd_10_12 wd_10_13 wd_10_14 yd_X12_finding ⟨(Nat.le_of_ble_eq_true rfl), (Nat.le_of_ble_eq_true rfl)⟩ rfl rfl rfl rfl (by decide) rfl (Nat.le_of_ble_eq_true rfl) dX12_copy_40 ⟨(Nat.le_of_ble_eq_true rfl), (Nat.le_of_ble_eq_true rfl)⟩ (fun r_44 u_45 H locs hw_46 hP hD hS => ?_)
          have hP : va_P g.1 vwCl [(z 3, .inl (gI g, 4, .inl B)), (z 4, .inl (gI g, 4, .inl Z)), (z 5, .inl (gI g, 240, .inl M)), (z 15, .inl (gI g, 60, .inl Cf)), (z 0, .inr (12, [.ref (z 1), .ref (z 2), .int (nI kp), .int u_45, .ref (z 3), .ref (z 4), .ref (z 5), .ref (z 6), .int (xs 1), .ref (z 7), .ref (z 8), .ref (z 9), .ref (z 10), .ref (z 11), .ref (z 12), .int (xs 2), .ref (z 13), .ref (z 14), .int (xs 3), .ref (z 15)]))] H := hP
          have hD : va_D A [(z 3, .inl (gI g, 4, .inl B)), (z 4, .inl (gI g, 4, .inl Z)), (z 5, .inl (gI g, 240, .inl M)), (z 15, .inl (gI g, 60, .inl Cf)), (z 0, .inr (12, [.ref (z 1), .ref (z 2), .int (nI kp), .int u_45, .ref (z 3), .ref (z 4), .ref (z 5), .ref (z 6), .int (xs 1), .ref (z 7), .ref (z 8), .ref (z 9), .ref (z 10), .ref (z 11), .ref (z 12), .int (xs 2), .ref (z 13), .ref (z 14), .int (xs 3), .ref (z 15)]))] := hD
          have hw_46 : r_44 = (-100002) := hw_46
          subst hw_46
          have hres : (-100002) = aCopy (nI js) y (nI jt) w n5 B sn := (by rw [hT]; unfold aC1; rw [if_pos (Or.inr c_11)])
          exact k_iret ((fun kk_ => ([u_45, (xs 1), (xs 2), (xs 3)] : List Int32).getD kk_ 0), M, Cf) [4, 0, 1, 2, 3] hx hb hr hlk hP hD hS (⟨hres, Or.inr ⟨by rw [← hres]; decide, fun _ _ _ _ => rfl⟩⟩) rfl rfl rfl (Nat.le_of_ble_eq_true rfl) (Nat.le_of_ble_eq_true rfl) dX12_copy_43
    · refine lv_if_ne (tgt := 20) hx hb dX12_copy_11 (by decide) (fun c => absurd c (by decide)) (fun _ => ?_)
      refine lv_aload_n hx hb dX12_copy_14 rfl (lv_at hl 0 rfl) ?_
      refine lv_iconst (v := 1) hx hb dX12_copy_15 (by decide) ?_
      refine k_Vi [0] [1, 2, 3, 4] 0 12 (wr := [(z 3, .inl (gI g, 4, .inl B)), (z 4, .inl (gI g, 4, .inl Z)), (z 5, .inl (gI g, 240, .inl M)), (z 15, .inl (gI g, 60, .inl Cf))]) hx hb hml hown hts hKW hP hD hS hA hl.1 (c_X12_finding_1 l g _ z kp xs ) rfl rfl rfl wd_10_15 wd_1_5 wd_10_12 wd_10_13 wd_10_14 yd_X12_finding ⟨(Nat.le_of_ble_eq_true rfl), (Nat.le_of_ble_eq_true rfl)⟩ rfl rfl rfl rfl (by decide) rfl (Nat.le_of_ble_eq_true rfl) dX12_copy_16 ⟨(Nat.le_of_ble_eq_true rfl), (Nat.le_of_ble_eq_true rfl)⟩ (fun r_47 u_48 H locs hw_49 hP hD hS => ?_)
      have hP : va_P g.1 vwCl [(z 3, .inl (gI g, 4, .inl B)), (z 4, .inl (gI g, 4, .inl Z)), (z 5, .inl (gI g, 240, .inl M)), (z 15, .inl (gI g, 60, .inl Cf)), (z 0, .inr (12, [.ref (z 1), .ref (z 2), .int (nI kp), .int u_48, .ref (z 3), .ref (z 4), .ref (z 5), .ref (z 6), .int (xs 1), .ref (z 7), .ref (z 8), .ref (z 9), .ref (z 10), .ref (z 11), .ref (z 12), .int (xs 2), .ref (z 13), .ref (z 14), .int (xs 3), .ref (z 15)]))] H := hP
      have hD : va_D A [(z 3, .inl (gI g, 4, .inl B)), (z 4, .inl (gI g, 4, .inl Z)), (z 5, .inl (gI g, 240, .inl M)), (z 15, .inl (gI g, 60, .inl Cf)), (z 0, .inr (12, [.ref (z 1), .ref (z 2), .int (nI kp), .int u_48, .ref (z 3), .ref (z 4), .ref (z 5), .ref (z 6), .int (xs 1), .ref (z 7), .ref (z 8), .ref (z 9), .ref (z 10), .ref (z 11), .ref (z 12), .int (xs 2), .ref (z 13), .ref (z 14), .int (xs 3), .ref (z 15)]))] := hD
      have hw_49 : r_47 = (-100001) := hw_49
      subst hw_49
      have hres : (-100001) = aCopy x y v w n5 B sn := (by unfold aCopy; rw [if_neg (fun q => hw_6b q.2)])
      exact k_iret ((fun kk_ => ([u_48, (xs 1), (xs 2), (xs 3)] : List Int32).getD kk_ 0), M, Cf) [4, 0, 1, 2, 3] hx hb hr hlk hP hD hS (⟨hres, Or.inr ⟨by rw [← hres]; decide, fun _ _ _ _ => rfl⟩⟩) rfl rfl rfl (Nat.le_of_ble_eq_true rfl) (Nat.le_of_ble_eq_true rfl) dX12_copy_19
  · refine lv_if_eq (tgt := 14) hx hb dX12_copy_4 (by decide) (fun _ => ?_) (fun c => absurd c (by decide))
    refine lv_aload_n hx hb dX12_copy_14 rfl (lv_at hl 0 rfl) ?_
    refine lv_iconst (v := 1) hx hb dX12_copy_15 (by decide) ?_
    refine k_Vi [0] [1, 2, 3, 4] 0 12 (wr := [(z 3, .inl (gI g, 4, .inl B)), (z 4, .inl (gI g, 4, .inl Z)), (z 5, .inl (gI g, 240, .inl M)), (z 15, .inl (gI g, 60, .inl Cf))]) hx hb hml hown hts hKW hP hD hS hA hl.1 (c_X12_finding_1 l g _ z kp xs ) rfl rfl rfl wd_10_15 wd_1_5 wd_10_12 wd_10_13 wd_10_14 yd_X12_finding ⟨(Nat.le_of_ble_eq_true rfl), (Nat.le_of_ble_eq_true rfl)⟩ rfl rfl rfl rfl (by decide) rfl (Nat.le_of_ble_eq_true rfl) dX12_copy_16 ⟨(Nat.le_of_ble_eq_true rfl), (Nat.le_of_ble_eq_true rfl)⟩ (fun r_50 u_51 H locs hw_52 hP hD hS => ?_)
    have hP : va_P g.1 vwCl [(z 3, .inl (gI g, 4, .inl B)), (z 4, .inl (gI g, 4, .inl Z)), (z 5, .inl (gI g, 240, .inl M)), (z 15, .inl (gI g, 60, .inl Cf)), (z 0, .inr (12, [.ref (z 1), .ref (z 2), .int (nI kp), .int u_51, .ref (z 3), .ref (z 4), .ref (z 5), .ref (z 6), .int (xs 1), .ref (z 7), .ref (z 8), .ref (z 9), .ref (z 10), .ref (z 11), .ref (z 12), .int (xs 2), .ref (z 13), .ref (z 14), .int (xs 3), .ref (z 15)]))] H := hP
    have hD : va_D A [(z 3, .inl (gI g, 4, .inl B)), (z 4, .inl (gI g, 4, .inl Z)), (z 5, .inl (gI g, 240, .inl M)), (z 15, .inl (gI g, 60, .inl Cf)), (z 0, .inr (12, [.ref (z 1), .ref (z 2), .int (nI kp), .int u_51, .ref (z 3), .ref (z 4), .ref (z 5), .ref (z 6), .int (xs 1), .ref (z 7), .ref (z 8), .ref (z 9), .ref (z 10), .ref (z 11), .ref (z 12), .int (xs 2), .ref (z 13), .ref (z 14), .int (xs 3), .ref (z 15)]))] := hD
    have hw_52 : r_50 = (-100001) := hw_52
    subst hw_52
    have hres : (-100001) = aCopy x y v w n5 B sn := (by unfold aCopy; rw [if_neg (fun q => hw_3b q.1)])
    exact k_iret ((fun kk_ => ([u_51, (xs 1), (xs 2), (xs 3)] : List Int32).getD kk_ 0), M, Cf) [4, 0, 1, 2, 3] hx hb hr hlk hP hD hS (⟨hres, Or.inr ⟨by rw [← hres]; decide, fun _ _ _ _ => rfl⟩⟩) rfl rfl rfl (Nat.le_of_ble_eq_true rfl) (Nat.le_of_ble_eq_true rfl) dX12_copy_19
