theorem k_nmul (a b : Nat) : nI a * nI b = nI (a * b) := by
  apply Int32.toBitVec_inj.1
  show BitVec.ofNat 32 a * BitVec.ofNat 32 b = BitVec.ofNat 32 (a * b)
  exact (BitVec.ofNat_mul a b).symm
theorem k_add1 {x : Int32} (h : x.toInt < 1000000) (h0 : -1000000 ≤ x.toInt) : (x + 1).toInt = x.toInt + 1 := by
  rw [Int32.toInt_add, show Int32.toInt 1 = 1 from rfl]
  exact Int.bmod_eq_of_le (by omega) (by omega)
def ShI (T : Nat → Int32) (i k : Nat) : Prop := i ≤ 60 ∧ (∀ j, j < 60 → 0 ≤ (T j).toInt ∧ (T j).toInt ≤ k) ∧ ∃ t : Nat, k ≤ 8 * i + t ∧ (t = 0 ∨ (i < 60 ∧ t ≤ 8 ∧ (t : Int) ≤ (T i).toInt))
theorem ShI.b {T : Nat → Int32} {i k : Nat} (h : ShI T i k) : k ≤ 480 ∧ i ≤ 60 := by
  obtain ⟨h1, _, t, h2, h3⟩ := h
  omega
theorem ShI.s0 {T : Nat → Int32} (h : ∀ j, j < 60 → T j = 0) : ShI T 0 0 := ⟨by decide, fun j hj => by rw [h j hj]; decide, 0, by decide, Or.inl rfl⟩
theorem ShI.s1 {T : Nat → Int32} {i k : Nat} (h : ShI T i k) (hi : i < 60) : ShI T (i + 1) k := by
  obtain ⟨h1, h4, t, h2, h3⟩ := h
  exact ⟨by omega, h4, 0, by omega, Or.inl rfl⟩
theorem ShI.s2 {T T1 : Nat → Int32} {i k b L : Nat} {x y : Int32} (h : ShI T i k) (hi : i < 60) (c : x < y) (ex : x = T (nI i).toNatClampNeg) (hy : y.toInt ≤ 8) (hT : ∀ j, j < 60 → T1 j = if b ≤ j ∧ j < b + L then T j + 1 else T j) (hb : b ≤ i) (hL : i < b + L) : ShI T1 i (k + 1) ∧ k < 480 := by
  have hb1 := h.b
  obtain ⟨h1, h4, t, h2, h3⟩ := h
  rw [nI_clamp (by omega)] at ex
  rw [Int32.lt_iff_toInt_lt, ex] at c
  have hTi := h4 i hi
  have h7 : t ≤ 7 := by omega
  have ei : (T1 i).toInt = (T i).toInt + 1 := by rw [hT i hi, if_pos ⟨hb, hL⟩, k_add1 (by omega) (by omega)]
  refine ⟨⟨h1, fun j hj => ?_, t + 1, by omega, Or.inr ⟨hi, by omega, by omega⟩⟩, by omega⟩
  have hj4 := h4 j hj
  rw [hT j hj]
  by_cases q : b ≤ j ∧ j < b + L
  · rw [if_pos q, k_add1 (by omega) (by omega)]; omega
  · rw [if_neg q]; omega
def WI (W : Nat → Int32) (kp : Nat) : Prop := ∀ b, b < kp → DI (fun k => W (461 * b + k))
def kShf (W Wa : Nat → Int32) (i : Nat) : Prop := ∀ j, j < 7376 → Wa j = if j < i then W (j + 461) else W j
theorem k_shf0 {W : Nat → Int32} : kShf W W 0 := fun j _ => by rw [if_neg (by omega)]
theorem k_shfS {W Wa Wb : Nat → Int32} {i : Nat} {x : Int32} (h : kShf W Wa i) (hi : i < 6915) (ex : x = Wa (nI (i + 461)).toNatClampNeg) (e : Wb = upd Wa (nI i).toNatClampNeg x) : kShf W Wb (i + 1) := by
  intro j hj
  rw [nI_clamp (by omega)] at ex e
  by_cases q : j = i
  · subst q
    rw [e, pk_us, if_pos (by omega), ex, h (j + 461) (by omega), if_neg (by omega)]
  · rw [e, pk_un q, h j hj]
    by_cases q2 : j < i
    · rw [if_pos q2, if_pos (by omega)]
    · rw [if_neg q2, if_neg (by omega)]
theorem k_shfW {W Wa : Nat → Int32} {i kp : Nat} (hk : kp = 16) (h : kShf W Wa i) (hi : i = 6915) (hW : WI W kp) : WI Wa (kp - 1) := by
  intro b hb
  refine (hW (b + 1) (by omega)).congr (fun j hj _ => ?_)
  show Wa (461 * b + j) = W (461 * (b + 1) + j)
  rw [h _ (by omega), if_pos (by omega)]
  congr 1
  omega
def kCpB (W Wb D : Nat → Int32) (q i : Nat) : Prop := ∀ j, j < 7376 → Wb j = if 461 * q ≤ j ∧ j < 461 * q + i then D (j - 461 * q) else W j
theorem k_cpB0 {W D : Nat → Int32} {q : Nat} : kCpB W W D q 0 := fun j _ => by rw [if_neg (by omega)]
theorem k_cpBS {W Wa Wb D : Nat → Int32} {q i : Nat} {x : Int32} (h : kCpB W Wa D q i) (hq : q < 16) (hi : i < 461) (ex : x = D (nI i).toNatClampNeg) (e : Wb = upd Wa (nI (461 * q + i)).toNatClampNeg x) : kCpB W Wb D q (i + 1) := by
  intro j hj
  rw [nI_clamp (by omega)] at ex e
  by_cases z : j = 461 * q + i
  · subst z
    rw [e, pk_us, if_pos (by omega), ex]
    congr 1
    omega
  · rw [e, pk_un z, h j hj]
    by_cases q2 : 461 * q ≤ j ∧ j < 461 * q + i
    · rw [if_pos q2, if_pos (by omega)]
    · rw [if_neg q2, if_neg (by omega)]
theorem k_cpBW {W Wb D : Nat → Int32} {q i : Nat} (hq : q < 16) (h : kCpB W Wb D q i) (hi : i = 461) (hW : WI W q) (hD : DI D) : WI Wb (q + 1) := by
  intro b hb
  by_cases z : b = q
  · subst z
    refine hD.congr (fun j hj _ => ?_)
    show Wb (461 * b + j) = D j
    rw [h _ (by omega), if_pos (by omega)]
    congr 1
    omega
  · refine (hW b (by omega)).congr (fun j hj _ => ?_)
    show Wb (461 * b + j) = W (461 * b + j)
    rw [h _ (by omega), if_neg (by omega)]
def kBck (W D Da : Nat → Int32) (q i : Nat) : Prop := ∀ j, j < 461 → Da j = if j < i then W (461 * q + j) else D j
theorem k_bck0 {W D : Nat → Int32} {q : Nat} : kBck W D D q 0 := fun j _ => by rw [if_neg (by omega)]
theorem k_bckS {W D Da Db : Nat → Int32} {q i : Nat} {x : Int32} (h : kBck W D Da q i) (hq : q < 16) (hi : i < 461) (ex : x = W (nI (461 * q + i)).toNatClampNeg) (e : Db = upd Da (nI i).toNatClampNeg x) : kBck W D Db q (i + 1) := by
  intro j hj
  rw [nI_clamp (by omega)] at ex e
  by_cases z : j = i
  · subst z
    rw [e, pk_us, if_pos (by omega), ex]
  · rw [e, pk_un z, h j hj]
    by_cases q2 : j < i
    · rw [if_pos q2, if_pos (by omega)]
    · rw [if_neg q2, if_neg (by omega)]
theorem k_bckD {W D Da : Nat → Int32} {q i kp : Nat} (h : kBck W D Da q i) (hi : i = 461) (hW : WI W kp) (hq : q < kp) : DI Da := (hW q hq).congr (fun j hj _ => by rw [h j (by omega), if_pos (by omega)])
theorem WI.le {W : Nat → Int32} {a b : Nat} (h : WI W b) (hab : a ≤ b) : WI W a := fun k hk => h k (by omega)
theorem dX12_findShifts_0 : decode cX12_findShifts 0 = .ok (.aload_n 0, 1) := by decide +kernel
theorem dX12_findShifts_1 : decode cX12_findShifts 1 = .ok (.iconst 0, 1) := by decide +kernel
theorem dX12_findShifts_2 : decode cX12_findShifts 2 = .ok (.putfield 158, 3) := by decide +kernel
theorem dX12_findShifts_5 : decode cX12_findShifts 5 = .ok (.iconst 0, 1) := by decide +kernel
theorem dX12_findShifts_6 : decode cX12_findShifts 6 = .ok (.istore_n 1, 1) := by decide +kernel
theorem dX12_findShifts_7 : decode cX12_findShifts 7 = .ok (.iload_n 1, 1) := by decide +kernel
theorem dX12_findShifts_8 : decode cX12_findShifts 8 = .ok (.bipush 60, 2) := by decide +kernel
theorem dX12_findShifts_10 : decode cX12_findShifts 10 = .ok (.if_icmp .ge 16, 3) := by decide +kernel
theorem dX12_findShifts_26 : decode cX12_findShifts 26 = .ok (.iconst 0, 1) := by decide +kernel
theorem dX12_findShifts_27 : decode cX12_findShifts 27 = .ok (.istore_n 1, 1) := by decide +kernel
theorem dX12_findShifts_28 : decode cX12_findShifts 28 = .ok (.iload_n 1, 1) := by decide +kernel
theorem dX12_findShifts_29 : decode cX12_findShifts 29 = .ok (.bipush 60, 2) := by decide +kernel
theorem dX12_findShifts_31 : decode cX12_findShifts 31 = .ok (.if_icmp .ge 85, 3) := by decide +kernel
theorem dX12_findShifts_116 : decode cX12_findShifts 116 = .ok (.return_, 1) := by decide +kernel
theorem dX12_findShifts_34 : decode cX12_findShifts 34 = .ok (.aload_n 0, 1) := by decide +kernel
theorem dX12_findShifts_35 : decode cX12_findShifts 35 = .ok (.getfield 47, 3) := by decide +kernel
theorem dX12_findShifts_38 : decode cX12_findShifts 38 = .ok (.iload_n 1, 1) := by decide +kernel
theorem dX12_findShifts_39 : decode cX12_findShifts 39 = .ok (.iaload, 1) := by decide +kernel
theorem dX12_findShifts_40 : decode cX12_findShifts 40 = .ok (.aload_n 0, 1) := by decide +kernel
theorem dX12_findShifts_41 : decode cX12_findShifts 41 = .ok (.getfield 7, 3) := by decide +kernel
theorem dX12_findShifts_44 : decode cX12_findShifts 44 = .ok (.sipush 147, 3) := by decide +kernel
theorem dX12_findShifts_47 : decode cX12_findShifts 47 = .ok (.iload_n 1, 1) := by decide +kernel
theorem dX12_findShifts_48 : decode cX12_findShifts 48 = .ok (.iadd, 1) := by decide +kernel
theorem dX12_findShifts_49 : decode cX12_findShifts 49 = .ok (.iaload, 1) := by decide +kernel
theorem dX12_findShifts_50 : decode cX12_findShifts 50 = .ok (.if_icmp .lt 9, 3) := by decide +kernel
theorem dX12_findShifts_59 : decode cX12_findShifts 59 = .ok (.iload_n 1, 1) := by decide +kernel
theorem dX12_findShifts_60 : decode cX12_findShifts 60 = .ok (.bipush 60, 2) := by decide +kernel
theorem dX12_findShifts_62 : decode cX12_findShifts 62 = .ok (.aload_n 0, 1) := by decide +kernel
theorem dX12_findShifts_63 : decode cX12_findShifts 63 = .ok (.getfield 7, 3) := by decide +kernel
theorem dX12_findShifts_66 : decode cX12_findShifts 66 = .ok (.bipush 7, 2) := by decide +kernel
theorem dX12_findShifts_68 : decode cX12_findShifts 68 = .ok (.iaload, 1) := by decide +kernel
theorem dX12_findShifts_69 : decode cX12_findShifts 69 = .ok (.isub, 1) := by decide +kernel
theorem dX12_findShifts_70 : decode cX12_findShifts 70 = .ok (.if_icmp .ge 7, 3) := by decide +kernel
theorem dX12_findShifts_77 : decode cX12_findShifts 77 = .ok (.bipush 60, 2) := by decide +kernel
theorem dX12_findShifts_79 : decode cX12_findShifts 79 = .ok (.aload_n 0, 1) := by decide +kernel
theorem dX12_findShifts_80 : decode cX12_findShifts 80 = .ok (.getfield 7, 3) := by decide +kernel
theorem dX12_findShifts_83 : decode cX12_findShifts 83 = .ok (.bipush 7, 2) := by decide +kernel
theorem dX12_findShifts_85 : decode cX12_findShifts 85 = .ok (.iaload, 1) := by decide +kernel
theorem dX12_findShifts_86 : decode cX12_findShifts 86 = .ok (.isub, 1) := by decide +kernel
theorem dX12_findShifts_87 : decode cX12_findShifts 87 = .ok (.istore_n 2, 1) := by decide +kernel
theorem dX12_findShifts_88 : decode cX12_findShifts 88 = .ok (.aload_n 0, 1) := by decide +kernel
theorem dX12_findShifts_89 : decode cX12_findShifts 89 = .ok (.iload_n 2, 1) := by decide +kernel
theorem dX12_findShifts_90 : decode cX12_findShifts 90 = .ok (.invokevirtual 161, 3) := by decide +kernel
theorem dX12_findShifts_93 : decode cX12_findShifts 93 = .ok (.aload_n 0, 1) := by decide +kernel
theorem dX12_findShifts_94 : decode cX12_findShifts 94 = .ok (.getfield 50, 3) := by decide +kernel
theorem dX12_findShifts_97 : decode cX12_findShifts 97 = .ok (.aload_n 0, 1) := by decide +kernel
theorem dX12_findShifts_98 : decode cX12_findShifts 98 = .ok (.getfield 158, 3) := by decide +kernel
theorem dX12_findShifts_101 : decode cX12_findShifts 101 = .ok (.iload_n 2, 1) := by decide +kernel
theorem dX12_findShifts_102 : decode cX12_findShifts 102 = .ok (.iastore, 1) := by decide +kernel
theorem dX12_findShifts_103 : decode cX12_findShifts 103 = .ok (.aload_n 0, 1) := by decide +kernel
theorem dX12_findShifts_104 : decode cX12_findShifts 104 = .ok (.dup, 1) := by decide +kernel
theorem dX12_findShifts_105 : decode cX12_findShifts 105 = .ok (.getfield 158, 3) := by decide +kernel
theorem dX12_findShifts_108 : decode cX12_findShifts 108 = .ok (.iconst 1, 1) := by decide +kernel
theorem dX12_findShifts_109 : decode cX12_findShifts 109 = .ok (.iadd, 1) := by decide +kernel
theorem dX12_findShifts_110 : decode cX12_findShifts 110 = .ok (.putfield 158, 3) := by decide +kernel
theorem dX12_findShifts_113 : decode cX12_findShifts 113 = .ok (.goto (-85), 3) := by decide +kernel
theorem dX12_findShifts_73 : decode cX12_findShifts 73 = .ok (.iload_n 1, 1) := by decide +kernel
theorem dX12_findShifts_74 : decode cX12_findShifts 74 = .ok (.goto 13, 3) := by decide +kernel
theorem dX12_findShifts_53 : decode cX12_findShifts 53 = .ok (.iinc 1 1, 3) := by decide +kernel
theorem dX12_findShifts_56 : decode cX12_findShifts 56 = .ok (.goto (-28), 3) := by decide +kernel
theorem dX12_findShifts_13 : decode cX12_findShifts 13 = .ok (.aload_n 0, 1) := by decide +kernel
theorem dX12_findShifts_14 : decode cX12_findShifts 14 = .ok (.getfield 47, 3) := by decide +kernel
theorem dX12_findShifts_17 : decode cX12_findShifts 17 = .ok (.iload_n 1, 1) := by decide +kernel
theorem dX12_findShifts_18 : decode cX12_findShifts 18 = .ok (.iconst 0, 1) := by decide +kernel
theorem dX12_findShifts_19 : decode cX12_findShifts 19 = .ok (.iastore, 1) := by decide +kernel
theorem dX12_findShifts_20 : decode cX12_findShifts 20 = .ok (.iinc 1 1, 3) := by decide +kernel
theorem dX12_findShifts_23 : decode cX12_findShifts 23 = .ok (.goto (-16), 3) := by decide +kernel
set_option maxHeartbeats 8000000 in
set_option maxRecDepth 100000 in
theorem c_X12_findShifts (l : Launch) (g : kG) (sz : Nat) (z : Nat → Nat) (kp : Nat) (xs : Nat → Int32) (D : Nat → Int32) (T : Nat → Int32) (Bg : Nat → Int32) (hDI : DI D) : kMv l g yX12_findShifts cX12_findShifts 3 none 2 0 0 [.ref (z 0)] sz [(z 0, .inr (12, [.ref (z 1), .ref (z 2), .int (nI kp), .int (xs 0), .ref (z 3), .ref (z 4), .ref (z 5), .ref (z 6), .int (xs 1), .ref (z 7), .ref (z 8), .ref (z 9), .ref (z 10), .ref (z 11), .ref (z 12), .int (xs 2), .ref (z 13), .ref (z 14), .int (xs 3), .ref (z 15)])), (z 1, .inl (gI g, 461, .inl D)), (z 13, .inl (gI g, 60, .inl T)), (z 14, .inl (gI g, 480, .inl Bg))] (fun (u : Nat × (Nat → Int32) × (Nat → Int32)) => u.1 ≤ 480) (fun (u : Nat × (Nat → Int32) × (Nat → Int32)) => ([(z 0, .inr (12, [.ref (z 1), .ref (z 2), .int (nI kp), .int (xs 0), .ref (z 3), .ref (z 4), .ref (z 5), .ref (z 6), .int (xs 1), .ref (z 7), .ref (z 8), .ref (z 9), .ref (z 10), .ref (z 11), .ref (z 12), .int (xs 2), .ref (z 13), .ref (z 14), .int (nI u.1), .ref (z 15)])), (z 1, .inl (gI g, 461, .inl D)), (z 13, .inl (gI g, 60, .inl u.2.1)), (z 14, .inl (gI g, 480, .inl u.2.2))] : va_W)) := by
  refine kMv.of (by decide) (Nat.le_of_ble_eq_true rfl) (fun p e s m below meth c A hx hb hr hml hown hts hlk hnm hKW hP hD hS hA ls hl => ?_)
  have hown : s.vm.findClass RX12 = some m.cls := hown
  have hl : lv_has ls 3 [(0, .ref (z 0))] := hl
  refine k_hide hP hS (fun H locs hP hS => ?_)
  refine lv_aload_n hx hb dX12_findShifts_0 rfl (lv_at hl 0 rfl) ?_
  refine lv_iconst (v := 0) hx hb dX12_findShifts_1 (by decide) ?_
  refine va_put (ci := 12) (v := .int 0) (C := RX12) (T := TX12) (N := 20) hx hb hts inlX12 tyX12 tyX12_ok nmX12 hown hKW.1 hP hD hS 0 rfl rfl 18 (by decide) (hts _ wd_36_10) (fun _ h => h) rfl (tyX12_ok 18 (by decide)) rfl rfl (Nat.le_of_ble_eq_true rfl) dX12_findShifts_2 (fun H locs hP hD hS => ?_)
  have hP : va_P g.1 vwCl [(z 0, .inr (12, [.ref (z 1), .ref (z 2), .int (nI kp), .int (xs 0), .ref (z 3), .ref (z 4), .ref (z 5), .ref (z 6), .int (xs 1), .ref (z 7), .ref (z 8), .ref (z 9), .ref (z 10), .ref (z 11), .ref (z 12), .int (xs 2), .ref (z 13), .ref (z 14), .int 0, .ref (z 15)])), (z 1, .inl (gI g, 461, .inl D)), (z 13, .inl (gI g, 60, .inl T)), (z 14, .inl (gI g, 480, .inl Bg))] H := hP
  have hD : va_D A [(z 0, .inr (12, [.ref (z 1), .ref (z 2), .int (nI kp), .int (xs 0), .ref (z 3), .ref (z 4), .ref (z 5), .ref (z 6), .int (xs 1), .ref (z 7), .ref (z 8), .ref (z 9), .ref (z 10), .ref (z 11), .ref (z 12), .int (xs 2), .ref (z 13), .ref (z 14), .int 0, .ref (z 15)])), (z 1, .inl (gI g, 461, .inl D)), (z 13, .inl (gI g, 60, .inl T)), (z 14, .inl (gI g, 480, .inl Bg))] := hD
  refine lv_iconst (v := 0) hx hb dX12_findShifts_5 (by decide) ?_
  refine lv_istore_n (lv' := [(1, .int 0), (0, .ref (z 0))]) hx hb dX12_findShifts_6 rfl hl (by decide) rfl (fun ls hl => ?_)
  have L7 : ∀ (n7 : Nat) (i : Nat) (ga : Nat → Int32) (hfuel7 : 60 - i < n7) (hi : i ≤ 60) (hg : ∀ j, j < i → ga j = 0) (H : Heap) (locs : List Loc) (hP : va_P g.1 vwCl [(z 0, .inr (12, [.ref (z 1), .ref (z 2), .int (nI kp), .int (xs 0), .ref (z 3), .ref (z 4), .ref (z 5), .ref (z 6), .int (xs 1), .ref (z 7), .ref (z 8), .ref (z 9), .ref (z 10), .ref (z 11), .ref (z 12), .int (xs 2), .ref (z 13), .ref (z 14), .int 0, .ref (z 15)])), (z 1, .inl (gI g, 461, .inl D)), (z 13, .inl (gI g, 60, .inl ga)), (z 14, .inl (gI g, 480, .inl Bg))] H) (hD : va_D A [(z 0, .inr (12, [.ref (z 1), .ref (z 2), .int (nI kp), .int (xs 0), .ref (z 3), .ref (z 4), .ref (z 5), .ref (z 6), .int (xs 1), .ref (z 7), .ref (z 8), .ref (z 9), .ref (z 10), .ref (z 11), .ref (z 12), .int (xs 2), .ref (z 13), .ref (z 14), .int 0, .ref (z 15)])), (z 1, .inl (gI g, 461, .inl D)), (z 13, .inl (gI g, 60, .inl ga)), (z 14, .inl (gI g, 480, .inl Bg))]) (hS : va_S A s.heap H locs) (ls : Array Slot) (hl : lv_has ls 3 [(1, .int (nI i)), (0, .ref (z 0))]), W p l e (kR 2 0 0) s m ([.ref (z 0)] : List Value).toArray below meth c H locs 0 0 (kQv g A below ([.ref (z 0)] : List Value).toArray s 0 0 (fun (u : Nat × (Nat → Int32) × (Nat → Int32)) => u.1 ≤ 480) (fun (u : Nat × (Nat → Int32) × (Nat → Int32)) => ([(z 0, .inr (12, [.ref (z 1), .ref (z 2), .int (nI kp), .int (xs 0), .ref (z 3), .ref (z 4), .ref (z 5), .ref (z 6), .int (xs 1), .ref (z 7), .ref (z 8), .ref (z 9), .ref (z 10), .ref (z 11), .ref (z 12), .int (xs 2), .ref (z 13), .ref (z 14), .int (nI u.1), .ref (z 15)])), (z 1, .inl (gI g, 461, .inl D)), (z 13, .inl (gI g, 60, .inl u.2.1)), (z 14, .inl (gI g, 480, .inl u.2.2))] : va_W))) (F0 m 7 ls []) := by
    intro n7
    induction n7 with
    | zero => intro i ga hfuel7; exact absurd hfuel7 (Nat.not_lt_zero _)
    | succ n7 ih7 =>
      intro i ga hfuel7 hi hg H locs hP hD hS ls hl
      refine lv_iload_n hx hb dX12_findShifts_7 rfl (lv_at hl 0 rfl) ?_
      refine lv_bipush (v := 60) hx hb dX12_findShifts_8 (by decide) ?_
      refine lv_icmp_ge (tgt := 26) hx hb dX12_findShifts_10 (by decide) (fun c_1 => ?_) (fun c_1 => ?_)
      · have c_1n : 60 ≤ i := (k_leI (a := 60) (b := i) (by omega) (by omega)).mp c_1
        refine lv_iconst (v := 0) hx hb dX12_findShifts_26 (by decide) ?_
        refine lv_istore_n (lv' := [(1, .int 0), (0, .ref (z 0))]) hx hb dX12_findShifts_27 rfl hl (by decide) rfl (fun ls hl => ?_)
        have L28 : ∀ (n28 : Nat) (i : Nat) (k : Nat) (Ta : Nat → Int32) (Ba : Nat → Int32) (hfuel28 : 540 - (i + k) < n28) (hsh : ShI Ta i k) (H : Heap) (locs : List Loc) (hP : va_P g.1 vwCl [(z 0, .inr (12, [.ref (z 1), .ref (z 2), .int (nI kp), .int (xs 0), .ref (z 3), .ref (z 4), .ref (z 5), .ref (z 6), .int (xs 1), .ref (z 7), .ref (z 8), .ref (z 9), .ref (z 10), .ref (z 11), .ref (z 12), .int (xs 2), .ref (z 13), .ref (z 14), .int (nI k), .ref (z 15)])), (z 1, .inl (gI g, 461, .inl D)), (z 13, .inl (gI g, 60, .inl Ta)), (z 14, .inl (gI g, 480, .inl Ba))] H) (hD : va_D A [(z 0, .inr (12, [.ref (z 1), .ref (z 2), .int (nI kp), .int (xs 0), .ref (z 3), .ref (z 4), .ref (z 5), .ref (z 6), .int (xs 1), .ref (z 7), .ref (z 8), .ref (z 9), .ref (z 10), .ref (z 11), .ref (z 12), .int (xs 2), .ref (z 13), .ref (z 14), .int (nI k), .ref (z 15)])), (z 1, .inl (gI g, 461, .inl D)), (z 13, .inl (gI g, 60, .inl Ta)), (z 14, .inl (gI g, 480, .inl Ba))]) (hS : va_S A s.heap H locs) (ls : Array Slot) (hl : lv_has ls 3 [(1, .int (nI i)), (0, .ref (z 0))]), W p l e (kR 2 0 0) s m ([.ref (z 0)] : List Value).toArray below meth c H locs 0 0 (kQv g A below ([.ref (z 0)] : List Value).toArray s 0 0 (fun (u : Nat × (Nat → Int32) × (Nat → Int32)) => u.1 ≤ 480) (fun (u : Nat × (Nat → Int32) × (Nat → Int32)) => ([(z 0, .inr (12, [.ref (z 1), .ref (z 2), .int (nI kp), .int (xs 0), .ref (z 3), .ref (z 4), .ref (z 5), .ref (z 6), .int (xs 1), .ref (z 7), .ref (z 8), .ref (z 9), .ref (z 10), .ref (z 11), .ref (z 12), .int (xs 2), .ref (z 13), .ref (z 14), .int (nI u.1), .ref (z 15)])), (z 1, .inl (gI g, 461, .inl D)), (z 13, .inl (gI g, 60, .inl u.2.1)), (z 14, .inl (gI g, 480, .inl u.2.2))] : va_W))) (F0 m 28 ls []) := by
          intro n28
          induction n28 with
          | zero => intro i k Ta Ba hfuel28; exact absurd hfuel28 (Nat.not_lt_zero _)
          | succ n28 ih28 =>
            intro i k Ta Ba hfuel28 hsh H locs hP hD hS ls hl
            have hshb := hsh.b
            refine lv_iload_n hx hb dX12_findShifts_28 rfl (lv_at hl 0 rfl) ?_
            refine lv_bipush (v := 60) hx hb dX12_findShifts_29 (by decide) ?_
            refine lv_icmp_ge (tgt := 116) hx hb dX12_findShifts_31 (by decide) (fun c_2 => ?_) (fun c_2 => ?_)
            · have c_2n : 60 ≤ i := (k_leI (a := 60) (b := i) (by omega) (by omega)).mp c_2
              exact k_vret (k, Ta, Ba) [0, 1, 2, 3] hx hb hr hlk hP hD hS (by omega) rfl rfl rfl (Nat.le_of_ble_eq_true rfl) (Nat.le_of_ble_eq_true rfl) dX12_findShifts_116
            · have c_2n : i < 60 := Nat.not_le.mp (fun h => c_2 ((k_leI (a := 60) (b := i) (by omega) (by omega)).mpr h))
              refine lv_aload_n hx hb dX12_findShifts_34 rfl (lv_at hl 1 rfl) ?_
              refine va_get (ci := 12) (C := RX12) (T := TX12) (N := 20) hx hb hts inlX12 hown hKW.1 hP 0 rfl rfl 16 (by decide) (hts _ wd_6_18) (fun _ h => h) rfl dX12_findShifts_35 ?_
              refine lv_iload_n hx hb dX12_findShifts_38 rfl (lv_at hl 0 rfl) ?_
              refine va_iald hx hb hKW.1 hP 2 0 rfl rfl (vp_in_nI (by omega) (by decide)) dX12_findShifts_39 ?_
              refine lv_topi (fun x_3 ex_3 => ?_)
              refine lv_aload_n hx hb dX12_findShifts_40 rfl (lv_at hl 1 rfl) ?_
              refine va_get (ci := 12) (C := RX12) (T := TX12) (N := 20) hx hb hts inlX12 hown hKW.1 hP 0 rfl rfl 0 (by decide) (hts _ wd_6_5) (fun _ h => h) rfl dX12_findShifts_41 ?_
              refine lv_sipush (v := 147) hx hb dX12_findShifts_44 (by decide) ?_
              refine lv_iload_n hx hb dX12_findShifts_47 rfl (lv_at hl 0 rfl) ?_
              refine lv_iadd hx hb dX12_findShifts_48 ?_
              refine k_top (y := nI (i + 147)) (by rw [Nat.add_comm]; exact nI_add 147 i) ?_
              refine va_iald hx hb hKW.1 hP 1 0 rfl rfl (vp_in_nI (by omega) (by decide)) dX12_findShifts_49 ?_
              refine lv_topi (fun x_4 ex_4 => ?_)
              refine lv_icmp_lt (tgt := 59) hx hb dX12_findShifts_50 (by decide) (fun c_5 => ?_) (fun c_5 => ?_)
              · refine lv_iload_n hx hb dX12_findShifts_59 rfl (lv_at hl 0 rfl) ?_
                refine lv_bipush (v := 60) hx hb dX12_findShifts_60 (by decide) ?_
                refine lv_aload_n hx hb dX12_findShifts_62 rfl (lv_at hl 1 rfl) ?_
                refine va_get (ci := 12) (C := RX12) (T := TX12) (N := 20) hx hb hts inlX12 hown hKW.1 hP 0 rfl rfl 0 (by decide) (hts _ wd_6_5) (fun _ h => h) rfl dX12_findShifts_63 ?_
                refine lv_bipush (v := 7) hx hb dX12_findShifts_66 (by decide) ?_
                obtain ⟨dk_6, hdk_6a, hdk_6b, edk_6⟩ := DI.n7 hDI
                refine va_iald hx hb hKW.1 hP 1 0 rfl rfl (show ¬ _ by decide) dX12_findShifts_68 ?_
                refine k_top (y := nI dk_6) edk_6 ?_
                refine lv_isub hx hb dX12_findShifts_69 ?_
                refine k_top (y := nI (60 - dk_6)) (k_sub (a := 60) (by omega)) ?_
                refine lv_icmp_ge (tgt := 77) hx hb dX12_findShifts_70 (by decide) (fun c_7 => ?_) (fun c_7 => ?_)
                · have c_7n : (60 - dk_6) ≤ i := (k_leI (a := (60 - dk_6)) (b := i) (by omega) (by omega)).mp c_7
                  refine lv_bipush (v := 60) hx hb dX12_findShifts_77 (by decide) ?_
                  refine lv_aload_n hx hb dX12_findShifts_79 rfl (lv_at hl 1 rfl) ?_
                  refine va_get (ci := 12) (C := RX12) (T := TX12) (N := 20) hx hb hts inlX12 hown hKW.1 hP 0 rfl rfl 0 (by decide) (hts _ wd_6_5) (fun _ h => h) rfl dX12_findShifts_80 ?_
                  refine lv_bipush (v := 7) hx hb dX12_findShifts_83 (by decide) ?_
                  refine va_iald hx hb hKW.1 hP 1 0 rfl rfl (show ¬ _ by decide) dX12_findShifts_85 ?_
                  refine k_top (y := nI dk_6) edk_6 ?_
                  refine lv_isub hx hb dX12_findShifts_86 ?_
                  refine k_top (y := nI (60 - dk_6)) (k_sub (a := 60) (by omega)) ?_
                  refine lv_istore_n (lv' := [(2, .int (nI (60 - dk_6))), (1, .int (nI i)), (0, .ref (z 0))]) hx hb dX12_findShifts_87 rfl hl (by decide) rfl (fun ls hl => ?_)
                  refine lv_aload_n hx hb dX12_findShifts_88 rfl (lv_at hl 2 rfl) ?_
                  refine lv_iload_n hx hb dX12_findShifts_89 rfl (lv_at hl 0 rfl) ?_
                  refine k_Vv [0, 1, 2] [3] 0 12 (wr := [(z 14, .inl (gI g, 480, .inl Ba))]) hx hb hml hown hts hKW hP hD hS hA hl.1 (c_X12_putShift l g _ z kp (fun kk_ => ([(xs 0), (xs 1), (xs 2), (nI k)] : List Int32).getD kk_ 0) D Ta (60 - dk_6) dk_6 (by first | assumption | omega | decide) edk_6 (by first | assumption | omega | decide)) rfl rfl rfl wd_36_18 wd_1_5 wd_36_15 wd_36_16 wd_36_17 yd_X12_putShift ⟨(Nat.le_of_ble_eq_true rfl), (Nat.le_of_ble_eq_true rfl)⟩ rfl rfl rfl rfl (by decide) rfl (Nat.le_of_ble_eq_true rfl) dX12_findShifts_90 ⟨(Nat.le_of_ble_eq_true rfl), (Nat.le_of_ble_eq_true rfl)⟩ (fun u_9 H locs hw_10 hP hD hS => ?_)
                  have hP : va_P g.1 vwCl [(z 14, .inl (gI g, 480, .inl Ba)), (z 0, .inr (12, [.ref (z 1), .ref (z 2), .int (nI kp), .int (xs 0), .ref (z 3), .ref (z 4), .ref (z 5), .ref (z 6), .int (xs 1), .ref (z 7), .ref (z 8), .ref (z 9), .ref (z 10), .ref (z 11), .ref (z 12), .int (xs 2), .ref (z 13), .ref (z 14), .int (nI k), .ref (z 15)])), (z 1, .inl (gI g, 461, .inl D)), (z 13, .inl (gI g, 60, .inl u_9))] H := hP
                  have hD : va_D A [(z 14, .inl (gI g, 480, .inl Ba)), (z 0, .inr (12, [.ref (z 1), .ref (z 2), .int (nI kp), .int (xs 0), .ref (z 3), .ref (z 4), .ref (z 5), .ref (z 6), .int (xs 1), .ref (z 7), .ref (z 8), .ref (z 9), .ref (z 10), .ref (z 11), .ref (z 12), .int (xs 2), .ref (z 13), .ref (z 14), .int (nI k), .ref (z 15)])), (z 1, .inl (gI g, 461, .inl D)), (z 13, .inl (gI g, 60, .inl u_9))] := hD
                  have hw_10 : ∀ j, j < 60 → u_9 j = if (60 - dk_6) ≤ j ∧ j < (60 - dk_6) + dk_6 then Ta j + 1 else Ta j := hw_10
                  have hps := hw_10
                  obtain ⟨hs2a, hs2b⟩ := ShI.s2 hsh (by omega) c_5 ex_3 (by rw [ex_4, nI_clamp (by omega), Nat.add_comm]; exact (DI.need hDI i (by omega)).2) hps (by omega) (by omega)
                  refine lv_aload_n hx hb dX12_findShifts_93 rfl (lv_at hl 2 rfl) ?_
                  refine va_get (ci := 12) (C := RX12) (T := TX12) (N := 20) hx hb hts inlX12 hown hKW.1 hP 1 rfl rfl 17 (by decide) (hts _ wd_6_19) (fun _ h => h) rfl dX12_findShifts_94 ?_
                  refine lv_aload_n hx hb dX12_findShifts_97 rfl (lv_at hl 2 rfl) ?_
                  refine va_get (ci := 12) (C := RX12) (T := TX12) (N := 20) hx hb hts inlX12 hown hKW.1 hP 1 rfl rfl 18 (by decide) (hts _ wd_36_10) (fun _ h => h) rfl dX12_findShifts_98 ?_
                  refine lv_iload_n hx hb dX12_findShifts_101 rfl (lv_at hl 0 rfl) ?_
                  refine va_iast hx hb hKW.1 hP hD hS 0 0 rfl rfl (vp_in_nI (by omega) (by decide)) dX12_findShifts_102 (fun H locs hP hD hS => ?_)
                  have hP : va_P g.1 vwCl [(z 14, .inl (gI g, 480, .inl (upd Ba (nI k).toNatClampNeg (nI (60 - dk_6))))), (z 0, .inr (12, [.ref (z 1), .ref (z 2), .int (nI kp), .int (xs 0), .ref (z 3), .ref (z 4), .ref (z 5), .ref (z 6), .int (xs 1), .ref (z 7), .ref (z 8), .ref (z 9), .ref (z 10), .ref (z 11), .ref (z 12), .int (xs 2), .ref (z 13), .ref (z 14), .int (nI k), .ref (z 15)])), (z 1, .inl (gI g, 461, .inl D)), (z 13, .inl (gI g, 60, .inl u_9))] H := hP
                  have hD : va_D A [(z 14, .inl (gI g, 480, .inl (upd Ba (nI k).toNatClampNeg (nI (60 - dk_6))))), (z 0, .inr (12, [.ref (z 1), .ref (z 2), .int (nI kp), .int (xs 0), .ref (z 3), .ref (z 4), .ref (z 5), .ref (z 6), .int (xs 1), .ref (z 7), .ref (z 8), .ref (z 9), .ref (z 10), .ref (z 11), .ref (z 12), .int (xs 2), .ref (z 13), .ref (z 14), .int (nI k), .ref (z 15)])), (z 1, .inl (gI g, 461, .inl D)), (z 13, .inl (gI g, 60, .inl u_9))] := hD
                  obtain ⟨f_11, ef_11⟩ : ∃ zz_ : Nat → Int32, zz_ = upd Ba (nI k).toNatClampNeg (nI (60 - dk_6)) := ⟨_, rfl⟩
                  rw [← ef_11] at hP hD
                  refine lv_aload_n hx hb dX12_findShifts_103 rfl (lv_at hl 2 rfl) ?_
                  refine lv_dup hx hb dX12_findShifts_104 rfl ?_
                  refine va_get (ci := 12) (C := RX12) (T := TX12) (N := 20) hx hb hts inlX12 hown hKW.1 hP 1 rfl rfl 18 (by decide) (hts _ wd_36_10) (fun _ h => h) rfl dX12_findShifts_105 ?_
                  refine lv_iconst (v := 1) hx hb dX12_findShifts_108 (by decide) ?_
                  refine lv_iadd hx hb dX12_findShifts_109 ?_
                  refine k_top (y := nI (k + 1)) (nI_add k 1) ?_
                  refine va_put (ci := 12) (v := .int (nI (k + 1))) (C := RX12) (T := TX12) (N := 20) hx hb hts inlX12 tyX12 tyX12_ok nmX12 hown hKW.1 hP hD hS 1 rfl rfl 18 (by decide) (hts _ wd_36_10) (fun _ h => h) rfl (tyX12_ok 18 (by decide)) rfl rfl (Nat.le_of_ble_eq_true rfl) dX12_findShifts_110 (fun H locs hP hD hS => ?_)
                  have hP : va_P g.1 vwCl [(z 14, .inl (gI g, 480, .inl f_11)), (z 0, .inr (12, [.ref (z 1), .ref (z 2), .int (nI kp), .int (xs 0), .ref (z 3), .ref (z 4), .ref (z 5), .ref (z 6), .int (xs 1), .ref (z 7), .ref (z 8), .ref (z 9), .ref (z 10), .ref (z 11), .ref (z 12), .int (xs 2), .ref (z 13), .ref (z 14), .int (nI (k + 1)), .ref (z 15)])), (z 1, .inl (gI g, 461, .inl D)), (z 13, .inl (gI g, 60, .inl u_9))] H := hP
                  have hD : va_D A [(z 14, .inl (gI g, 480, .inl f_11)), (z 0, .inr (12, [.ref (z 1), .ref (z 2), .int (nI kp), .int (xs 0), .ref (z 3), .ref (z 4), .ref (z 5), .ref (z 6), .int (xs 1), .ref (z 7), .ref (z 8), .ref (z 9), .ref (z 10), .ref (z 11), .ref (z 12), .int (xs 2), .ref (z 13), .ref (z 14), .int (nI (k + 1)), .ref (z 15)])), (z 1, .inl (gI g, 461, .inl D)), (z 13, .inl (gI g, 60, .inl u_9))] := hD
                  refine lv_goto (tgt := 28) hx hb dX12_findShifts_113 (by decide) ?_
                  exact ih28 i (k + 1) u_9 f_11 (by have := hsh.b; omega) hs2a H locs (hP.sub [1, 2, 3, 0] rfl) (hD.sub [1, 2, 3, 0] (by decide) rfl) hS ls (lv_sub hl [1, 2] rfl)
                · have c_7n : i < (60 - dk_6) := Nat.not_le.mp (fun h => c_7 ((k_leI (a := (60 - dk_6)) (b := i) (by omega) (by omega)).mpr h))
                  refine lv_iload_n hx hb dX12_findShifts_73 rfl (lv_at hl 0 rfl) ?_
                  refine lv_goto (tgt := 87) hx hb dX12_findShifts_74 (by decide) ?_
                  refine lv_istore_n (lv' := [(2, .int (nI i)), (1, .int (nI i)), (0, .ref (z 0))]) hx hb dX12_findShifts_87 rfl hl (by decide) rfl (fun ls hl => ?_)
                  refine lv_aload_n hx hb dX12_findShifts_88 rfl (lv_at hl 2 rfl) ?_
                  refine lv_iload_n hx hb dX12_findShifts_89 rfl (lv_at hl 0 rfl) ?_
                  refine k_Vv [0, 1, 2] [3] 0 12 (wr := [(z 14, .inl (gI g, 480, .inl Ba))]) hx hb hml hown hts hKW hP hD hS hA hl.1 (c_X12_putShift l g _ z kp (fun kk_ => ([(xs 0), (xs 1), (xs 2), (nI k)] : List Int32).getD kk_ 0) D Ta i dk_6 (by first | assumption | omega | decide) edk_6 (by first | assumption | omega | decide)) rfl rfl rfl wd_36_18 wd_1_5 wd_36_15 wd_36_16 wd_36_17 yd_X12_putShift ⟨(Nat.le_of_ble_eq_true rfl), (Nat.le_of_ble_eq_true rfl)⟩ rfl rfl rfl rfl (by decide) rfl (Nat.le_of_ble_eq_true rfl) dX12_findShifts_90 ⟨(Nat.le_of_ble_eq_true rfl), (Nat.le_of_ble_eq_true rfl)⟩ (fun u_13 H locs hw_14 hP hD hS => ?_)
                  have hP : va_P g.1 vwCl [(z 14, .inl (gI g, 480, .inl Ba)), (z 0, .inr (12, [.ref (z 1), .ref (z 2), .int (nI kp), .int (xs 0), .ref (z 3), .ref (z 4), .ref (z 5), .ref (z 6), .int (xs 1), .ref (z 7), .ref (z 8), .ref (z 9), .ref (z 10), .ref (z 11), .ref (z 12), .int (xs 2), .ref (z 13), .ref (z 14), .int (nI k), .ref (z 15)])), (z 1, .inl (gI g, 461, .inl D)), (z 13, .inl (gI g, 60, .inl u_13))] H := hP
                  have hD : va_D A [(z 14, .inl (gI g, 480, .inl Ba)), (z 0, .inr (12, [.ref (z 1), .ref (z 2), .int (nI kp), .int (xs 0), .ref (z 3), .ref (z 4), .ref (z 5), .ref (z 6), .int (xs 1), .ref (z 7), .ref (z 8), .ref (z 9), .ref (z 10), .ref (z 11), .ref (z 12), .int (xs 2), .ref (z 13), .ref (z 14), .int (nI k), .ref (z 15)])), (z 1, .inl (gI g, 461, .inl D)), (z 13, .inl (gI g, 60, .inl u_13))] := hD
                  have hw_14 : ∀ j, j < 60 → u_13 j = if i ≤ j ∧ j < i + dk_6 then Ta j + 1 else Ta j := hw_14
                  have hps := hw_14
                  obtain ⟨hs2a, hs2b⟩ := ShI.s2 hsh (by omega) c_5 ex_3 (by rw [ex_4, nI_clamp (by omega), Nat.add_comm]; exact (DI.need hDI i (by omega)).2) hps (by omega) (by omega)
                  refine lv_aload_n hx hb dX12_findShifts_93 rfl (lv_at hl 2 rfl) ?_
                  refine va_get (ci := 12) (C := RX12) (T := TX12) (N := 20) hx hb hts inlX12 hown hKW.1 hP 1 rfl rfl 17 (by decide) (hts _ wd_6_19) (fun _ h => h) rfl dX12_findShifts_94 ?_
                  refine lv_aload_n hx hb dX12_findShifts_97 rfl (lv_at hl 2 rfl) ?_
                  refine va_get (ci := 12) (C := RX12) (T := TX12) (N := 20) hx hb hts inlX12 hown hKW.1 hP 1 rfl rfl 18 (by decide) (hts _ wd_36_10) (fun _ h => h) rfl dX12_findShifts_98 ?_
                  refine lv_iload_n hx hb dX12_findShifts_101 rfl (lv_at hl 0 rfl) ?_
                  refine va_iast hx hb hKW.1 hP hD hS 0 0 rfl rfl (vp_in_nI (by omega) (by decide)) dX12_findShifts_102 (fun H locs hP hD hS => ?_)
                  have hP : va_P g.1 vwCl [(z 14, .inl (gI g, 480, .inl (upd Ba (nI k).toNatClampNeg (nI i)))), (z 0, .inr (12, [.ref (z 1), .ref (z 2), .int (nI kp), .int (xs 0), .ref (z 3), .ref (z 4), .ref (z 5), .ref (z 6), .int (xs 1), .ref (z 7), .ref (z 8), .ref (z 9), .ref (z 10), .ref (z 11), .ref (z 12), .int (xs 2), .ref (z 13), .ref (z 14), .int (nI k), .ref (z 15)])), (z 1, .inl (gI g, 461, .inl D)), (z 13, .inl (gI g, 60, .inl u_13))] H := hP
                  have hD : va_D A [(z 14, .inl (gI g, 480, .inl (upd Ba (nI k).toNatClampNeg (nI i)))), (z 0, .inr (12, [.ref (z 1), .ref (z 2), .int (nI kp), .int (xs 0), .ref (z 3), .ref (z 4), .ref (z 5), .ref (z 6), .int (xs 1), .ref (z 7), .ref (z 8), .ref (z 9), .ref (z 10), .ref (z 11), .ref (z 12), .int (xs 2), .ref (z 13), .ref (z 14), .int (nI k), .ref (z 15)])), (z 1, .inl (gI g, 461, .inl D)), (z 13, .inl (gI g, 60, .inl u_13))] := hD
                  obtain ⟨f_15, ef_15⟩ : ∃ zz_ : Nat → Int32, zz_ = upd Ba (nI k).toNatClampNeg (nI i) := ⟨_, rfl⟩
                  rw [← ef_15] at hP hD
                  refine lv_aload_n hx hb dX12_findShifts_103 rfl (lv_at hl 2 rfl) ?_
                  refine lv_dup hx hb dX12_findShifts_104 rfl ?_
                  refine va_get (ci := 12) (C := RX12) (T := TX12) (N := 20) hx hb hts inlX12 hown hKW.1 hP 1 rfl rfl 18 (by decide) (hts _ wd_36_10) (fun _ h => h) rfl dX12_findShifts_105 ?_
                  refine lv_iconst (v := 1) hx hb dX12_findShifts_108 (by decide) ?_
                  refine lv_iadd hx hb dX12_findShifts_109 ?_
                  refine k_top (y := nI (k + 1)) (nI_add k 1) ?_
                  refine va_put (ci := 12) (v := .int (nI (k + 1))) (C := RX12) (T := TX12) (N := 20) hx hb hts inlX12 tyX12 tyX12_ok nmX12 hown hKW.1 hP hD hS 1 rfl rfl 18 (by decide) (hts _ wd_36_10) (fun _ h => h) rfl (tyX12_ok 18 (by decide)) rfl rfl (Nat.le_of_ble_eq_true rfl) dX12_findShifts_110 (fun H locs hP hD hS => ?_)
                  have hP : va_P g.1 vwCl [(z 14, .inl (gI g, 480, .inl f_15)), (z 0, .inr (12, [.ref (z 1), .ref (z 2), .int (nI kp), .int (xs 0), .ref (z 3), .ref (z 4), .ref (z 5), .ref (z 6), .int (xs 1), .ref (z 7), .ref (z 8), .ref (z 9), .ref (z 10), .ref (z 11), .ref (z 12), .int (xs 2), .ref (z 13), .ref (z 14), .int (nI (k + 1)), .ref (z 15)])), (z 1, .inl (gI g, 461, .inl D)), (z 13, .inl (gI g, 60, .inl u_13))] H := hP
                  have hD : va_D A [(z 14, .inl (gI g, 480, .inl f_15)), (z 0, .inr (12, [.ref (z 1), .ref (z 2), .int (nI kp), .int (xs 0), .ref (z 3), .ref (z 4), .ref (z 5), .ref (z 6), .int (xs 1), .ref (z 7), .ref (z 8), .ref (z 9), .ref (z 10), .ref (z 11), .ref (z 12), .int (xs 2), .ref (z 13), .ref (z 14), .int (nI (k + 1)), .ref (z 15)])), (z 1, .inl (gI g, 461, .inl D)), (z 13, .inl (gI g, 60, .inl u_13))] := hD
                  refine lv_goto (tgt := 28) hx hb dX12_findShifts_113 (by decide) ?_
                  exact ih28 i (k + 1) u_13 f_15 (by have := hsh.b; omega) hs2a H locs (hP.sub [1, 2, 3, 0] rfl) (hD.sub [1, 2, 3, 0] (by decide) rfl) hS ls (lv_sub hl [1, 2] rfl)
              · refine lv_iinc (v := nI (i + 1)) (lv' := [(1, .int (nI (i + 1))), (0, .ref (z 0))]) hx hb dX12_findShifts_53 hl (k := 0) rfl (nI_add i 1) (by decide) rfl (fun ls hl => ?_)
                refine lv_goto (tgt := 28) hx hb dX12_findShifts_56 (by decide) ?_
                exact ih28 (i + 1) k Ta Ba (by have := hsh.b; omega) (ShI.s1 hsh (by omega)) H locs (hP.sub [0, 1, 2, 3] rfl) (hD.sub [0, 1, 2, 3] (by decide) rfl) hS ls (lv_sub hl [0, 1] rfl)
        exact L28 (540 - (0 + 0) + 1) 0 0 ga Bg (Nat.lt_succ_self _) (ShI.s0 (fun j hj => hg j (by omega))) H locs (hP.sub [0, 1, 2, 3] rfl) (hD.sub [0, 1, 2, 3] (by decide) rfl) hS ls (lv_sub hl [0, 1] rfl)
      · have c_1n : i < 60 := Nat.not_le.mp (fun h => c_1 ((k_leI (a := 60) (b := i) (by omega) (by omega)).mpr h))
        refine lv_aload_n hx hb dX12_findShifts_13 rfl (lv_at hl 1 rfl) ?_
        refine va_get (ci := 12) (C := RX12) (T := TX12) (N := 20) hx hb hts inlX12 hown hKW.1 hP 0 rfl rfl 16 (by decide) (hts _ wd_6_18) (fun _ h => h) rfl dX12_findShifts_14 ?_
        refine lv_iload_n hx hb dX12_findShifts_17 rfl (lv_at hl 0 rfl) ?_
        refine lv_iconst (v := 0) hx hb dX12_findShifts_18 (by decide) ?_
        refine va_iast hx hb hKW.1 hP hD hS 2 0 rfl rfl (vp_in_nI (by omega) (by decide)) dX12_findShifts_19 (fun H locs hP hD hS => ?_)
        have hP : va_P g.1 vwCl [(z 0, .inr (12, [.ref (z 1), .ref (z 2), .int (nI kp), .int (xs 0), .ref (z 3), .ref (z 4), .ref (z 5), .ref (z 6), .int (xs 1), .ref (z 7), .ref (z 8), .ref (z 9), .ref (z 10), .ref (z 11), .ref (z 12), .int (xs 2), .ref (z 13), .ref (z 14), .int 0, .ref (z 15)])), (z 1, .inl (gI g, 461, .inl D)), (z 13, .inl (gI g, 60, .inl (upd ga (nI i).toNatClampNeg 0))), (z 14, .inl (gI g, 480, .inl Bg))] H := hP
        have hD : va_D A [(z 0, .inr (12, [.ref (z 1), .ref (z 2), .int (nI kp), .int (xs 0), .ref (z 3), .ref (z 4), .ref (z 5), .ref (z 6), .int (xs 1), .ref (z 7), .ref (z 8), .ref (z 9), .ref (z 10), .ref (z 11), .ref (z 12), .int (xs 2), .ref (z 13), .ref (z 14), .int 0, .ref (z 15)])), (z 1, .inl (gI g, 461, .inl D)), (z 13, .inl (gI g, 60, .inl (upd ga (nI i).toNatClampNeg 0))), (z 14, .inl (gI g, 480, .inl Bg))] := hD
        obtain ⟨f_16, ef_16⟩ : ∃ zz_ : Nat → Int32, zz_ = upd ga (nI i).toNatClampNeg 0 := ⟨_, rfl⟩
        rw [← ef_16] at hP hD
        refine lv_iinc (v := nI (i + 1)) (lv' := [(1, .int (nI (i + 1))), (0, .ref (z 0))]) hx hb dX12_findShifts_20 hl (k := 0) rfl (nI_add i 1) (by decide) rfl (fun ls hl => ?_)
        refine lv_goto (tgt := 7) hx hb dX12_findShifts_23 (by decide) ?_
        exact ih7 (i + 1) f_16 (by omega) (by first | assumption | omega) (k_fill0 ef_16 (by omega) hg) H locs (hP.sub [0, 1, 2, 3] rfl) (hD.sub [0, 1, 2, 3] (by decide) rfl) hS ls (lv_sub hl [0, 1] rfl)
  exact L7 (60 - 0 + 1) 0 T (Nat.lt_succ_self _) (by first | assumption | omega) (fun j hj => absurd hj (by omega)) H locs (hP.sub [0, 1, 2, 3] rfl) (hD.sub [0, 1, 2, 3] (by decide) rfl) hS ls (lv_sub hl [0, 1] rfl)
theorem dX12_shifts_0 : decode cX12_shifts 0 = .ok (.iload_n 1, 1) := by decide +kernel
theorem dX12_shifts_1 : decode cX12_shifts 1 = .ok (.iconst (-1), 1) := by decide +kernel
theorem dX12_shifts_2 : decode cX12_shifts 2 = .ok (.if_icmp .ge 9, 3) := by decide +kernel
theorem dX12_shifts_11 : decode cX12_shifts 11 = .ok (.aload_n 0, 1) := by decide +kernel
theorem dX12_shifts_12 : decode cX12_shifts 12 = .ok (.invokevirtual 165, 3) := by decide +kernel
theorem dX12_shifts_15 : decode cX12_shifts 15 = .ok (.iload_n 1, 1) := by decide +kernel
theorem dX12_shifts_16 : decode cX12_shifts 16 = .ok (.ifCond .ge 10, 3) := by decide +kernel
theorem dX12_shifts_26 : decode cX12_shifts 26 = .ok (.iload_n 1, 1) := by decide +kernel
theorem dX12_shifts_27 : decode cX12_shifts 27 = .ok (.aload_n 0, 1) := by decide +kernel
theorem dX12_shifts_28 : decode cX12_shifts 28 = .ok (.getfield 158, 3) := by decide +kernel
theorem dX12_shifts_31 : decode cX12_shifts 31 = .ok (.if_icmp .ge 12, 3) := by decide +kernel
theorem dX12_shifts_43 : decode cX12_shifts 43 = .ok (.aload_n 0, 1) := by decide +kernel
theorem dX12_shifts_44 : decode cX12_shifts 44 = .ok (.bipush 6, 2) := by decide +kernel
theorem dX12_shifts_46 : decode cX12_shifts 46 = .ok (.invokevirtual 68, 3) := by decide +kernel
theorem dX12_shifts_49 : decode cX12_shifts 49 = .ok (.ireturn, 1) := by decide +kernel
theorem dX12_shifts_34 : decode cX12_shifts 34 = .ok (.aload_n 0, 1) := by decide +kernel
theorem dX12_shifts_35 : decode cX12_shifts 35 = .ok (.getfield 50, 3) := by decide +kernel
theorem dX12_shifts_38 : decode cX12_shifts 38 = .ok (.iload_n 1, 1) := by decide +kernel
theorem dX12_shifts_39 : decode cX12_shifts 39 = .ok (.iaload, 1) := by decide +kernel
theorem dX12_shifts_40 : decode cX12_shifts 40 = .ok (.goto 9, 3) := by decide +kernel
theorem dX12_shifts_19 : decode cX12_shifts 19 = .ok (.aload_n 0, 1) := by decide +kernel
theorem dX12_shifts_20 : decode cX12_shifts 20 = .ok (.getfield 158, 3) := by decide +kernel
theorem dX12_shifts_23 : decode cX12_shifts 23 = .ok (.goto 26, 3) := by decide +kernel
theorem dX12_shifts_5 : decode cX12_shifts 5 = .ok (.aload_n 0, 1) := by decide +kernel
theorem dX12_shifts_6 : decode cX12_shifts 6 = .ok (.iconst 1, 1) := by decide +kernel
theorem dX12_shifts_7 : decode cX12_shifts 7 = .ok (.invokevirtual 68, 3) := by decide +kernel
theorem dX12_shifts_10 : decode cX12_shifts 10 = .ok (.ireturn, 1) := by decide +kernel
set_option maxHeartbeats 8000000 in
set_option maxRecDepth 100000 in
theorem c_X12_shifts (l : Launch) (g : kG) (sz : Nat) (z : Nat → Nat) (kp : Nat) (xs : Nat → Int32) (D : Nat → Int32) (T : Nat → Int32) (Bg : Nat → Int32) (x : Int32) (hDI : DI D) : kMi l g yX12_shifts cX12_shifts 2 (some .int) 3 0 0 [.ref (z 0), .int x] sz [(z 0, .inr (12, [.ref (z 1), .ref (z 2), .int (nI kp), .int (xs 0), .ref (z 3), .ref (z 4), .ref (z 5), .ref (z 6), .int (xs 1), .ref (z 7), .ref (z 8), .ref (z 9), .ref (z 10), .ref (z 11), .ref (z 12), .int (xs 2), .ref (z 13), .ref (z 14), .int (xs 3), .ref (z 15)])), (z 1, .inl (gI g, 461, .inl D)), (z 13, .inl (gI g, 60, .inl T)), (z 14, .inl (gI g, 480, .inl Bg))] (fun (r : Int32) (u : (Nat → Int32) × (Nat → Int32) × (Nat → Int32)) => True) (fun (u : (Nat → Int32) × (Nat → Int32) × (Nat → Int32)) => ([(z 0, .inr (12, [.ref (z 1), .ref (z 2), .int (nI kp), .int (u.1 0), .ref (z 3), .ref (z 4), .ref (z 5), .ref (z 6), .int (u.1 1), .ref (z 7), .ref (z 8), .ref (z 9), .ref (z 10), .ref (z 11), .ref (z 12), .int (u.1 2), .ref (z 13), .ref (z 14), .int (u.1 3), .ref (z 15)])), (z 1, .inl (gI g, 461, .inl D)), (z 13, .inl (gI g, 60, .inl u.2.1)), (z 14, .inl (gI g, 480, .inl u.2.2))] : va_W)) := by
  refine kMi.of (by decide) (Nat.le_of_ble_eq_true rfl) (fun p e s m below meth c A hx hb hr hml hown hts hlk hnm hKW hP hD hS hA ls hl => ?_)
  have hown : s.vm.findClass RX12 = some m.cls := hown
  have hl : lv_has ls 2 [(0, .ref (z 0)), (1, .int x)] := hl
  refine k_hide hP hS (fun H locs hP hS => ?_)
  refine lv_iload_n hx hb dX12_shifts_0 rfl (lv_at hl 1 rfl) ?_
  refine lv_iconst (v := (-1)) hx hb dX12_shifts_1 (by decide) ?_
  refine lv_icmp_ge (tgt := 11) hx hb dX12_shifts_2 (by decide) (fun c_1 => ?_) (fun c_1 => ?_)
  · refine lv_aload_n hx hb dX12_shifts_11 rfl (lv_at hl 0 rfl) ?_
    refine k_Vv [0, 1, 2, 3] [] 0 12 (wr := []) hx hb hml hown hts hKW hP hD hS hA hl.1 (c_X12_findShifts l g _ z kp xs D T Bg (by first | assumption | omega | decide)) rfl rfl rfl wd_36_14 wd_1_5 wd_36_11 wd_36_12 wd_36_13 yd_X12_findShifts ⟨(Nat.le_of_ble_eq_true rfl), (Nat.le_of_ble_eq_true rfl)⟩ rfl rfl rfl rfl (by decide) rfl (Nat.le_of_ble_eq_true rfl) dX12_shifts_12 ⟨(Nat.le_of_ble_eq_true rfl), (Nat.le_of_ble_eq_true rfl)⟩ (fun u_3 H locs hw_4 hP hD hS => ?_)
    obtain ⟨q_5, f_6, f_7⟩ := u_3
    have hP : va_P g.1 vwCl [(z 0, .inr (12, [.ref (z 1), .ref (z 2), .int (nI kp), .int (xs 0), .ref (z 3), .ref (z 4), .ref (z 5), .ref (z 6), .int (xs 1), .ref (z 7), .ref (z 8), .ref (z 9), .ref (z 10), .ref (z 11), .ref (z 12), .int (xs 2), .ref (z 13), .ref (z 14), .int (nI q_5), .ref (z 15)])), (z 1, .inl (gI g, 461, .inl D)), (z 13, .inl (gI g, 60, .inl f_6)), (z 14, .inl (gI g, 480, .inl f_7))] H := hP
    have hD : va_D A [(z 0, .inr (12, [.ref (z 1), .ref (z 2), .int (nI kp), .int (xs 0), .ref (z 3), .ref (z 4), .ref (z 5), .ref (z 6), .int (xs 1), .ref (z 7), .ref (z 8), .ref (z 9), .ref (z 10), .ref (z 11), .ref (z 12), .int (xs 2), .ref (z 13), .ref (z 14), .int (nI q_5), .ref (z 15)])), (z 1, .inl (gI g, 461, .inl D)), (z 13, .inl (gI g, 60, .inl f_6)), (z 14, .inl (gI g, 480, .inl f_7))] := hD
    have hw_4 : q_5 ≤ 480 := hw_4
    have hkm := hw_4
    refine lv_iload_n hx hb dX12_shifts_15 rfl (lv_at hl 1 rfl) ?_
    refine lv_if_ge (tgt := 26) hx hb dX12_shifts_16 (by decide) (fun c_8 => ?_) (fun c_8 => ?_)
    · refine lv_iload_n hx hb dX12_shifts_26 rfl (lv_at hl 1 rfl) ?_
      refine lv_aload_n hx hb dX12_shifts_27 rfl (lv_at hl 0 rfl) ?_
      refine va_get (ci := 12) (C := RX12) (T := TX12) (N := 20) hx hb hts inlX12 hown hKW.1 hP 0 rfl rfl 18 (by decide) (hts _ wd_36_10) (fun _ h => h) rfl dX12_shifts_28 ?_
      refine lv_icmp_ge (tgt := 43) hx hb dX12_shifts_31 (by decide) (fun c_9 => ?_) (fun c_9 => ?_)
      · refine lv_aload_n hx hb dX12_shifts_43 rfl (lv_at hl 0 rfl) ?_
        refine lv_bipush (v := 6) hx hb dX12_shifts_44 (by decide) ?_
        refine k_Vi [0] [1, 2, 3] 0 12 (wr := [(z 1, .inl (gI g, 461, .inl D)), (z 13, .inl (gI g, 60, .inl f_6)), (z 14, .inl (gI g, 480, .inl f_7))]) hx hb hml hown hts hKW hP hD hS hA hl.1 (c_X12_finding_6 l g _ z kp (fun kk_ => ([(xs 0), (xs 1), (xs 2), (nI q_5)] : List Int32).getD kk_ 0) ) rfl rfl rfl wd_10_15 wd_1_5 wd_10_12 wd_10_13 wd_10_14 yd_X12_finding ⟨(Nat.le_of_ble_eq_true rfl), (Nat.le_of_ble_eq_true rfl)⟩ rfl rfl rfl rfl (by decide) rfl (Nat.le_of_ble_eq_true rfl) dX12_shifts_46 ⟨(Nat.le_of_ble_eq_true rfl), (Nat.le_of_ble_eq_true rfl)⟩ (fun r_10 u_11 H locs hw_12 hP hD hS => ?_)
        have hP : va_P g.1 vwCl [(z 1, .inl (gI g, 461, .inl D)), (z 13, .inl (gI g, 60, .inl f_6)), (z 14, .inl (gI g, 480, .inl f_7)), (z 0, .inr (12, [.ref (z 1), .ref (z 2), .int (nI kp), .int u_11, .ref (z 3), .ref (z 4), .ref (z 5), .ref (z 6), .int (xs 1), .ref (z 7), .ref (z 8), .ref (z 9), .ref (z 10), .ref (z 11), .ref (z 12), .int (xs 2), .ref (z 13), .ref (z 14), .int (nI q_5), .ref (z 15)]))] H := hP
        have hD : va_D A [(z 1, .inl (gI g, 461, .inl D)), (z 13, .inl (gI g, 60, .inl f_6)), (z 14, .inl (gI g, 480, .inl f_7)), (z 0, .inr (12, [.ref (z 1), .ref (z 2), .int (nI kp), .int u_11, .ref (z 3), .ref (z 4), .ref (z 5), .ref (z 6), .int (xs 1), .ref (z 7), .ref (z 8), .ref (z 9), .ref (z 10), .ref (z 11), .ref (z 12), .int (xs 2), .ref (z 13), .ref (z 14), .int (nI q_5), .ref (z 15)]))] := hD
        have hw_12 : r_10 = (-100006) := hw_12
        subst hw_12
        exact k_iret ((fun kk_ => ([u_11, (xs 1), (xs 2), (nI q_5)] : List Int32).getD kk_ 0), f_6, f_7) [3, 0, 1, 2] hx hb hr hlk hP hD hS trivial rfl rfl rfl (Nat.le_of_ble_eq_true rfl) (Nat.le_of_ble_eq_true rfl) dX12_shifts_49
      · refine lv_aload_n hx hb dX12_shifts_34 rfl (lv_at hl 0 rfl) ?_
        refine va_get (ci := 12) (C := RX12) (T := TX12) (N := 20) hx hb hts inlX12 hown hKW.1 hP 0 rfl rfl 17 (by decide) (hts _ wd_6_19) (fun _ h => h) rfl dX12_shifts_35 ?_
        refine lv_iload_n hx hb dX12_shifts_38 rfl (lv_at hl 1 rfl) ?_
        refine va_iald hx hb hKW.1 hP 3 0 rfl rfl (vp_in_iff.mpr (by clear hP hD hS hA hts hKW hl; have q1 := c_8; have q2 := c_9; rw [Int32.le_iff_toInt_le] at q1 q2; rw [k_nIi (by omega)] at q2; rw [show Int32.toInt 0 = (0 : Int) from rfl] at q1; omega)) dX12_shifts_39 ?_
        refine lv_topi (fun x_13 ex_13 => ?_)
        refine lv_goto (tgt := 49) hx hb dX12_shifts_40 (by decide) ?_
        exact k_iret ((fun kk_ => ([(xs 0), (xs 1), (xs 2), (nI q_5)] : List Int32).getD kk_ 0), f_6, f_7) [0, 1, 2, 3] hx hb hr hlk hP hD hS trivial rfl rfl rfl (Nat.le_of_ble_eq_true rfl) (Nat.le_of_ble_eq_true rfl) dX12_shifts_49
    · refine lv_aload_n hx hb dX12_shifts_19 rfl (lv_at hl 0 rfl) ?_
      refine va_get (ci := 12) (C := RX12) (T := TX12) (N := 20) hx hb hts inlX12 hown hKW.1 hP 0 rfl rfl 18 (by decide) (hts _ wd_36_10) (fun _ h => h) rfl dX12_shifts_20 ?_
      refine lv_goto (tgt := 49) hx hb dX12_shifts_23 (by decide) ?_
      exact k_iret ((fun kk_ => ([(xs 0), (xs 1), (xs 2), (nI q_5)] : List Int32).getD kk_ 0), f_6, f_7) [0, 1, 2, 3] hx hb hr hlk hP hD hS trivial rfl rfl rfl (Nat.le_of_ble_eq_true rfl) (Nat.le_of_ble_eq_true rfl) dX12_shifts_49
  · refine lv_aload_n hx hb dX12_shifts_5 rfl (lv_at hl 0 rfl) ?_
    refine lv_iconst (v := 1) hx hb dX12_shifts_6 (by decide) ?_
    refine k_Vi [0] [1, 2, 3] 0 12 (wr := [(z 1, .inl (gI g, 461, .inl D)), (z 13, .inl (gI g, 60, .inl T)), (z 14, .inl (gI g, 480, .inl Bg))]) hx hb hml hown hts hKW hP hD hS hA hl.1 (c_X12_finding_1 l g _ z kp xs ) rfl rfl rfl wd_10_15 wd_1_5 wd_10_12 wd_10_13 wd_10_14 yd_X12_finding ⟨(Nat.le_of_ble_eq_true rfl), (Nat.le_of_ble_eq_true rfl)⟩ rfl rfl rfl rfl (by decide) rfl (Nat.le_of_ble_eq_true rfl) dX12_shifts_7 ⟨(Nat.le_of_ble_eq_true rfl), (Nat.le_of_ble_eq_true rfl)⟩ (fun r_14 u_15 H locs hw_16 hP hD hS => ?_)
    have hP : va_P g.1 vwCl [(z 1, .inl (gI g, 461, .inl D)), (z 13, .inl (gI g, 60, .inl T)), (z 14, .inl (gI g, 480, .inl Bg)), (z 0, .inr (12, [.ref (z 1), .ref (z 2), .int (nI kp), .int u_15, .ref (z 3), .ref (z 4), .ref (z 5), .ref (z 6), .int (xs 1), .ref (z 7), .ref (z 8), .ref (z 9), .ref (z 10), .ref (z 11), .ref (z 12), .int (xs 2), .ref (z 13), .ref (z 14), .int (xs 3), .ref (z 15)]))] H := hP
    have hD : va_D A [(z 1, .inl (gI g, 461, .inl D)), (z 13, .inl (gI g, 60, .inl T)), (z 14, .inl (gI g, 480, .inl Bg)), (z 0, .inr (12, [.ref (z 1), .ref (z 2), .int (nI kp), .int u_15, .ref (z 3), .ref (z 4), .ref (z 5), .ref (z 6), .int (xs 1), .ref (z 7), .ref (z 8), .ref (z 9), .ref (z 10), .ref (z 11), .ref (z 12), .int (xs 2), .ref (z 13), .ref (z 14), .int (xs 3), .ref (z 15)]))] := hD
    have hw_16 : r_14 = (-100001) := hw_16
    subst hw_16
    exact k_iret ((fun kk_ => ([u_15, (xs 1), (xs 2), (xs 3)] : List Int32).getD kk_ 0), T, Bg) [3, 0, 1, 2] hx hb hr hlk hP hD hS trivial rfl rfl rfl (Nat.le_of_ble_eq_true rfl) (Nat.le_of_ble_eq_true rfl) dX12_shifts_10
theorem dX12_proves_0 : decode cX12_proves 0 = .ok (.iload_n 1, 1) := by decide +kernel
theorem dX12_proves_1 : decode cX12_proves 1 = .ok (.invokestatic 168, 3) := by decide +kernel
theorem dX12_proves_4 : decode cX12_proves 4 = .ok (.ifCond .ne 9, 3) := by decide +kernel
theorem dX12_proves_13 : decode cX12_proves 13 = .ok (.aload_n 0, 1) := by decide +kernel
theorem dX12_proves_14 : decode cX12_proves 14 = .ok (.getfield 16, 3) := by decide +kernel
theorem dX12_proves_17 : decode cX12_proves 17 = .ok (.iload_n 1, 1) := by decide +kernel
theorem dX12_proves_18 : decode cX12_proves 18 = .ok (.iaload, 1) := by decide +kernel
theorem dX12_proves_19 : decode cX12_proves 19 = .ok (.ifCond .ne 9, 3) := by decide +kernel
theorem dX12_proves_28 : decode cX12_proves 28 = .ok (.iconst 0, 1) := by decide +kernel
theorem dX12_proves_29 : decode cX12_proves 29 = .ok (.istore_n 2, 1) := by decide +kernel
theorem dX12_proves_30 : decode cX12_proves 30 = .ok (.iload_n 2, 1) := by decide +kernel
theorem dX12_proves_31 : decode cX12_proves 31 = .ok (.aload_n 0, 1) := by decide +kernel
theorem dX12_proves_32 : decode cX12_proves 32 = .ok (.getfield 19, 3) := by decide +kernel
theorem dX12_proves_35 : decode cX12_proves 35 = .ok (.iload_n 1, 1) := by decide +kernel
theorem dX12_proves_36 : decode cX12_proves 36 = .ok (.iaload, 1) := by decide +kernel
theorem dX12_proves_37 : decode cX12_proves 37 = .ok (.if_icmp .ge 66, 3) := by decide +kernel
theorem dX12_proves_103 : decode cX12_proves 103 = .ok (.aload_n 0, 1) := by decide +kernel
theorem dX12_proves_104 : decode cX12_proves 104 = .ok (.invokevirtual 165, 3) := by decide +kernel
theorem dX12_proves_107 : decode cX12_proves 107 = .ok (.iconst 0, 1) := by decide +kernel
theorem dX12_proves_108 : decode cX12_proves 108 = .ok (.istore_n 2, 1) := by decide +kernel
theorem dX12_proves_109 : decode cX12_proves 109 = .ok (.iload_n 2, 1) := by decide +kernel
theorem dX12_proves_110 : decode cX12_proves 110 = .ok (.bipush 60, 2) := by decide +kernel
theorem dX12_proves_112 : decode cX12_proves 112 = .ok (.if_icmp .ge 16, 3) := by decide +kernel
theorem dX12_proves_128 : decode cX12_proves 128 = .ok (.iconst 0, 1) := by decide +kernel
theorem dX12_proves_129 : decode cX12_proves 129 = .ok (.istore_n 2, 1) := by decide +kernel
theorem dX12_proves_130 : decode cX12_proves 130 = .ok (.iload_n 2, 1) := by decide +kernel
theorem dX12_proves_131 : decode cX12_proves 131 = .ok (.aload_n 0, 1) := by decide +kernel
theorem dX12_proves_132 : decode cX12_proves 132 = .ok (.getfield 19, 3) := by decide +kernel
theorem dX12_proves_135 : decode cX12_proves 135 = .ok (.iload_n 1, 1) := by decide +kernel
theorem dX12_proves_136 : decode cX12_proves 136 = .ok (.iaload, 1) := by decide +kernel
theorem dX12_proves_137 : decode cX12_proves 137 = .ok (.if_icmp .ge 24, 3) := by decide +kernel
theorem dX12_proves_161 : decode cX12_proves 161 = .ok (.iconst 0, 1) := by decide +kernel
theorem dX12_proves_162 : decode cX12_proves 162 = .ok (.istore_n 2, 1) := by decide +kernel
theorem dX12_proves_163 : decode cX12_proves 163 = .ok (.iload_n 2, 1) := by decide +kernel
theorem dX12_proves_164 : decode cX12_proves 164 = .ok (.bipush 60, 2) := by decide +kernel
theorem dX12_proves_166 : decode cX12_proves 166 = .ok (.if_icmp .ge 30, 3) := by decide +kernel
theorem dX12_proves_196 : decode cX12_proves 196 = .ok (.aload_n 0, 1) := by decide +kernel
theorem dX12_proves_197 : decode cX12_proves 197 = .ok (.getfield 19, 3) := by decide +kernel
theorem dX12_proves_200 : decode cX12_proves 200 = .ok (.iload_n 1, 1) := by decide +kernel
theorem dX12_proves_201 : decode cX12_proves 201 = .ok (.iaload, 1) := by decide +kernel
theorem dX12_proves_202 : decode cX12_proves 202 = .ok (.aload_n 0, 1) := by decide +kernel
theorem dX12_proves_203 : decode cX12_proves 203 = .ok (.getfield 158, 3) := by decide +kernel
theorem dX12_proves_206 : decode cX12_proves 206 = .ok (.if_icmp .le 8, 3) := by decide +kernel
theorem dX12_proves_214 : decode cX12_proves 214 = .ok (.iconst (-1), 1) := by decide +kernel
theorem dX12_proves_215 : decode cX12_proves 215 = .ok (.ireturn, 1) := by decide +kernel
theorem dX12_proves_209 : decode cX12_proves 209 = .ok (.bipush 60, 2) := by decide +kernel
theorem dX12_proves_211 : decode cX12_proves 211 = .ok (.goto 4, 3) := by decide +kernel
theorem dX12_proves_169 : decode cX12_proves 169 = .ok (.aload_n 0, 1) := by decide +kernel
theorem dX12_proves_170 : decode cX12_proves 170 = .ok (.getfield 47, 3) := by decide +kernel
theorem dX12_proves_173 : decode cX12_proves 173 = .ok (.iload_n 2, 1) := by decide +kernel
theorem dX12_proves_174 : decode cX12_proves 174 = .ok (.iaload, 1) := by decide +kernel
theorem dX12_proves_175 : decode cX12_proves 175 = .ok (.aload_n 0, 1) := by decide +kernel
theorem dX12_proves_176 : decode cX12_proves 176 = .ok (.getfield 7, 3) := by decide +kernel
theorem dX12_proves_179 : decode cX12_proves 179 = .ok (.sipush 147, 3) := by decide +kernel
theorem dX12_proves_182 : decode cX12_proves 182 = .ok (.iload_n 2, 1) := by decide +kernel
theorem dX12_proves_183 : decode cX12_proves 183 = .ok (.iadd, 1) := by decide +kernel
theorem dX12_proves_184 : decode cX12_proves 184 = .ok (.iaload, 1) := by decide +kernel
theorem dX12_proves_185 : decode cX12_proves 185 = .ok (.if_icmp .ge 5, 3) := by decide +kernel
theorem dX12_proves_190 : decode cX12_proves 190 = .ok (.iinc 2 1, 3) := by decide +kernel
theorem dX12_proves_193 : decode cX12_proves 193 = .ok (.goto (-30), 3) := by decide +kernel
theorem dX12_proves_188 : decode cX12_proves 188 = .ok (.iload_n 2, 1) := by decide +kernel
theorem dX12_proves_189 : decode cX12_proves 189 = .ok (.ireturn, 1) := by decide +kernel
theorem dX12_proves_140 : decode cX12_proves 140 = .ok (.aload_n 0, 1) := by decide +kernel
theorem dX12_proves_141 : decode cX12_proves 141 = .ok (.aload_n 0, 1) := by decide +kernel
theorem dX12_proves_142 : decode cX12_proves 142 = .ok (.getfield 22, 3) := by decide +kernel
theorem dX12_proves_145 : decode cX12_proves 145 = .ok (.bipush 60, 2) := by decide +kernel
theorem dX12_proves_147 : decode cX12_proves 147 = .ok (.iload_n 1, 1) := by decide +kernel
theorem dX12_proves_148 : decode cX12_proves 148 = .ok (.imul, 1) := by decide +kernel
theorem dX12_proves_149 : decode cX12_proves 149 = .ok (.iload_n 2, 1) := by decide +kernel
theorem dX12_proves_150 : decode cX12_proves 150 = .ok (.iadd, 1) := by decide +kernel
theorem dX12_proves_151 : decode cX12_proves 151 = .ok (.iaload, 1) := by decide +kernel
theorem dX12_proves_152 : decode cX12_proves 152 = .ok (.invokevirtual 161, 3) := by decide +kernel
theorem dX12_proves_155 : decode cX12_proves 155 = .ok (.iinc 2 1, 3) := by decide +kernel
theorem dX12_proves_158 : decode cX12_proves 158 = .ok (.goto (-28), 3) := by decide +kernel
theorem dX12_proves_115 : decode cX12_proves 115 = .ok (.aload_n 0, 1) := by decide +kernel
theorem dX12_proves_116 : decode cX12_proves 116 = .ok (.getfield 47, 3) := by decide +kernel
theorem dX12_proves_119 : decode cX12_proves 119 = .ok (.iload_n 2, 1) := by decide +kernel
theorem dX12_proves_120 : decode cX12_proves 120 = .ok (.iconst 0, 1) := by decide +kernel
theorem dX12_proves_121 : decode cX12_proves 121 = .ok (.iastore, 1) := by decide +kernel
theorem dX12_proves_122 : decode cX12_proves 122 = .ok (.iinc 2 1, 3) := by decide +kernel
theorem dX12_proves_125 : decode cX12_proves 125 = .ok (.goto (-16), 3) := by decide +kernel
theorem dX12_proves_40 : decode cX12_proves 40 = .ok (.aload_n 0, 1) := by decide +kernel
theorem dX12_proves_41 : decode cX12_proves 41 = .ok (.getfield 22, 3) := by decide +kernel
theorem dX12_proves_44 : decode cX12_proves 44 = .ok (.bipush 60, 2) := by decide +kernel
theorem dX12_proves_46 : decode cX12_proves 46 = .ok (.iload_n 1, 1) := by decide +kernel
theorem dX12_proves_47 : decode cX12_proves 47 = .ok (.imul, 1) := by decide +kernel
theorem dX12_proves_48 : decode cX12_proves 48 = .ok (.iload_n 2, 1) := by decide +kernel
theorem dX12_proves_49 : decode cX12_proves 49 = .ok (.iadd, 1) := by decide +kernel
theorem dX12_proves_50 : decode cX12_proves 50 = .ok (.iaload, 1) := by decide +kernel
theorem dX12_proves_51 : decode cX12_proves 51 = .ok (.istore_n 3, 1) := by decide +kernel
theorem dX12_proves_52 : decode cX12_proves 52 = .ok (.iload_n 3, 1) := by decide +kernel
theorem dX12_proves_53 : decode cX12_proves 53 = .ok (.iconst 0, 1) := by decide +kernel
theorem dX12_proves_54 : decode cX12_proves 54 = .ok (.bipush 60, 2) := by decide +kernel
theorem dX12_proves_56 : decode cX12_proves 56 = .ok (.aload_n 0, 1) := by decide +kernel
theorem dX12_proves_57 : decode cX12_proves 57 = .ok (.getfield 7, 3) := by decide +kernel
theorem dX12_proves_60 : decode cX12_proves 60 = .ok (.bipush 7, 2) := by decide +kernel
theorem dX12_proves_62 : decode cX12_proves 62 = .ok (.iaload, 1) := by decide +kernel
theorem dX12_proves_63 : decode cX12_proves 63 = .ok (.isub, 1) := by decide +kernel
theorem dX12_proves_64 : decode cX12_proves 64 = .ok (.invokestatic 64, 3) := by decide +kernel
theorem dX12_proves_67 : decode cX12_proves 67 = .ok (.ifCond .eq 24, 3) := by decide +kernel
theorem dX12_proves_70 : decode cX12_proves 70 = .ok (.iload_n 2, 1) := by decide +kernel
theorem dX12_proves_71 : decode cX12_proves 71 = .ok (.ifCond .le 26, 3) := by decide +kernel
theorem dX12_proves_97 : decode cX12_proves 97 = .ok (.iinc 2 1, 3) := by decide +kernel
theorem dX12_proves_100 : decode cX12_proves 100 = .ok (.goto (-70), 3) := by decide +kernel
theorem dX12_proves_74 : decode cX12_proves 74 = .ok (.iload_n 3, 1) := by decide +kernel
theorem dX12_proves_75 : decode cX12_proves 75 = .ok (.aload_n 0, 1) := by decide +kernel
theorem dX12_proves_76 : decode cX12_proves 76 = .ok (.getfield 22, 3) := by decide +kernel
theorem dX12_proves_79 : decode cX12_proves 79 = .ok (.bipush 60, 2) := by decide +kernel
theorem dX12_proves_81 : decode cX12_proves 81 = .ok (.iload_n 1, 1) := by decide +kernel
theorem dX12_proves_82 : decode cX12_proves 82 = .ok (.imul, 1) := by decide +kernel
theorem dX12_proves_83 : decode cX12_proves 83 = .ok (.iload_n 2, 1) := by decide +kernel
theorem dX12_proves_84 : decode cX12_proves 84 = .ok (.iadd, 1) := by decide +kernel
theorem dX12_proves_85 : decode cX12_proves 85 = .ok (.iconst 1, 1) := by decide +kernel
theorem dX12_proves_86 : decode cX12_proves 86 = .ok (.isub, 1) := by decide +kernel
theorem dX12_proves_87 : decode cX12_proves 87 = .ok (.iaload, 1) := by decide +kernel
theorem dX12_proves_88 : decode cX12_proves 88 = .ok (.if_icmp .ge 9, 3) := by decide +kernel
theorem dX12_proves_91 : decode cX12_proves 91 = .ok (.aload_n 0, 1) := by decide +kernel
theorem dX12_proves_92 : decode cX12_proves 92 = .ok (.iconst 4, 1) := by decide +kernel
theorem dX12_proves_93 : decode cX12_proves 93 = .ok (.invokevirtual 68, 3) := by decide +kernel
theorem dX12_proves_96 : decode cX12_proves 96 = .ok (.ireturn, 1) := by decide +kernel
theorem dX12_proves_22 : decode cX12_proves 22 = .ok (.aload_n 0, 1) := by decide +kernel
theorem dX12_proves_23 : decode cX12_proves 23 = .ok (.iconst 2, 1) := by decide +kernel
theorem dX12_proves_24 : decode cX12_proves 24 = .ok (.invokevirtual 68, 3) := by decide +kernel
theorem dX12_proves_27 : decode cX12_proves 27 = .ok (.ireturn, 1) := by decide +kernel
theorem dX12_proves_7 : decode cX12_proves 7 = .ok (.aload_n 0, 1) := by decide +kernel
theorem dX12_proves_8 : decode cX12_proves 8 = .ok (.iconst 1, 1) := by decide +kernel
theorem dX12_proves_9 : decode cX12_proves 9 = .ok (.invokevirtual 68, 3) := by decide +kernel
theorem dX12_proves_12 : decode cX12_proves 12 = .ok (.ireturn, 1) := by decide +kernel
set_option maxHeartbeats 8000000 in
set_option maxRecDepth 100000 in
theorem c_X12_proves (l : Launch) (g : kG) (sz : Nat) (z : Nat → Nat) (kp : Nat) (xs : Nat → Int32) (D : Nat → Int32) (T : Nat → Int32) (Bg : Nat → Int32) (B : Nat → Int32) (Z : Nat → Int32) (M : Nat → Int32) (sn : Nat → Nat) (x : Int32) (hDI : DI D) (hZ : ∀ j, j < 4 → Z j = nI (sn j) ∧ sn j ≤ 60) : kMi l g yX12_proves cX12_proves 4 (some .int) 3 0 0 [.ref (z 0), .int x] sz [(z 0, .inr (12, [.ref (z 1), .ref (z 2), .int (nI kp), .int (xs 0), .ref (z 3), .ref (z 4), .ref (z 5), .ref (z 6), .int (xs 1), .ref (z 7), .ref (z 8), .ref (z 9), .ref (z 10), .ref (z 11), .ref (z 12), .int (xs 2), .ref (z 13), .ref (z 14), .int (xs 3), .ref (z 15)])), (z 1, .inl (gI g, 461, .inl D)), (z 13, .inl (gI g, 60, .inl T)), (z 14, .inl (gI g, 480, .inl Bg)), (z 3, .inl (gI g, 4, .inl B)), (z 4, .inl (gI g, 4, .inl Z)), (z 5, .inl (gI g, 240, .inl M))] (fun (r : Int32) (u : (Nat → Int32) × (Nat → Int32) × (Nat → Int32)) => True) (fun (u : (Nat → Int32) × (Nat → Int32) × (Nat → Int32)) => ([(z 0, .inr (12, [.ref (z 1), .ref (z 2), .int (nI kp), .int (u.1 0), .ref (z 3), .ref (z 4), .ref (z 5), .ref (z 6), .int (u.1 1), .ref (z 7), .ref (z 8), .ref (z 9), .ref (z 10), .ref (z 11), .ref (z 12), .int (u.1 2), .ref (z 13), .ref (z 14), .int (u.1 3), .ref (z 15)])), (z 1, .inl (gI g, 461, .inl D)), (z 13, .inl (gI g, 60, .inl u.2.1)), (z 14, .inl (gI g, 480, .inl u.2.2)), (z 3, .inl (gI g, 4, .inl B)), (z 4, .inl (gI g, 4, .inl Z)), (z 5, .inl (gI g, 240, .inl M))] : va_W)) := by
  refine kMi.of (by decide) (Nat.le_of_ble_eq_true rfl) (fun p e s m below meth c A hx hb hr hml hown hts hlk hnm hKW hP hD hS hA ls hl => ?_)
  have hown : s.vm.findClass RX12 = some m.cls := hown
  have hl : lv_has ls 4 [(0, .ref (z 0)), (1, .int x)] := hl
  refine k_hide hP hS (fun H locs hP hS => ?_)
  refine lv_iload_n hx hb dX12_proves_0 rfl (lv_at hl 1 rfl) ?_
  refine k_Si [] [0, 1, 2, 3, 4, 5, 6] (wr := [(z 0, .inr (12, [.ref (z 1), .ref (z 2), .int (nI kp), .int (xs 0), .ref (z 3), .ref (z 4), .ref (z 5), .ref (z 6), .int (xs 1), .ref (z 7), .ref (z 8), .ref (z 9), .ref (z 10), .ref (z 11), .ref (z 12), .int (xs 2), .ref (z 13), .ref (z 14), .int (xs 3), .ref (z 15)])), (z 1, .inl (gI g, 461, .inl D)), (z 13, .inl (gI g, 60, .inl T)), (z 14, .inl (gI g, 480, .inl Bg)), (z 3, .inl (gI g, 4, .inl B)), (z 4, .inl (gI g, 4, .inl Z)), (z 5, .inl (gI g, 240, .inl M))]) hx hb hml hown hts hKW hP hD hS hA hl.1 (c_X12_isSheet l g _ x ) wd_38_14 wd_1_5 wd_38_12 wd_38_13 yd_X12_isSheet ⟨(Nat.le_of_ble_eq_true rfl), (Nat.le_of_ble_eq_true rfl)⟩ rfl rfl rfl rfl (by decide) rfl (Nat.le_of_ble_eq_true rfl) dX12_proves_1 ⟨(Nat.le_of_ble_eq_true rfl), (Nat.le_of_ble_eq_true rfl)⟩ (fun r_1 u_2 H locs hw_3 hP hD hS => ?_)
  have hP : va_P g.1 vwCl [(z 0, .inr (12, [.ref (z 1), .ref (z 2), .int (nI kp), .int (xs 0), .ref (z 3), .ref (z 4), .ref (z 5), .ref (z 6), .int (xs 1), .ref (z 7), .ref (z 8), .ref (z 9), .ref (z 10), .ref (z 11), .ref (z 12), .int (xs 2), .ref (z 13), .ref (z 14), .int (xs 3), .ref (z 15)])), (z 1, .inl (gI g, 461, .inl D)), (z 13, .inl (gI g, 60, .inl T)), (z 14, .inl (gI g, 480, .inl Bg)), (z 3, .inl (gI g, 4, .inl B)), (z 4, .inl (gI g, 4, .inl Z)), (z 5, .inl (gI g, 240, .inl M))] H := hP
  have hD : va_D A [(z 0, .inr (12, [.ref (z 1), .ref (z 2), .int (nI kp), .int (xs 0), .ref (z 3), .ref (z 4), .ref (z 5), .ref (z 6), .int (xs 1), .ref (z 7), .ref (z 8), .ref (z 9), .ref (z 10), .ref (z 11), .ref (z 12), .int (xs 2), .ref (z 13), .ref (z 14), .int (xs 3), .ref (z 15)])), (z 1, .inl (gI g, 461, .inl D)), (z 13, .inl (gI g, 60, .inl T)), (z 14, .inl (gI g, 480, .inl Bg)), (z 3, .inl (gI g, 4, .inl B)), (z 4, .inl (gI g, 4, .inl Z)), (z 5, .inl (gI g, 240, .inl M))] := hD
  rcases (show (r_1 = 1 ∧ ((0 : Int) ≤ Int32.toInt x ∧ Int32.toInt x ≤ 3)) ∨ (r_1 = 0 ∧ ¬ ((0 : Int) ≤ Int32.toInt x ∧ Int32.toInt x ≤ 3)) from hw_3) with ⟨rfl, hw_3b⟩ | ⟨rfl, hw_3b⟩ <;> clear hw_3
  · refine lv_if_ne (tgt := 13) hx hb dX12_proves_4 (by decide) (fun _ => ?_) (fun c => absurd c (by decide))
    obtain ⟨js, hjs, rfl⟩ := k_ofr (x := x) (n := 4) (by decide) (by have q := hw_3b; omega)
    refine lv_aload_n hx hb dX12_proves_13 rfl (lv_at hl 0 rfl) ?_
    have hsz := (hZ js hjs).2
    refine va_get (ci := 12) (C := RX12) (T := TX12) (N := 20) hx hb hts inlX12 hown hKW.1 hP 0 rfl rfl 4 (by decide) (hts _ wd_6_7) (fun _ h => h) rfl dX12_proves_14 ?_
    refine lv_iload_n hx hb dX12_proves_17 rfl (lv_at hl 1 rfl) ?_
    refine va_iald hx hb hKW.1 hP 4 0 rfl rfl (vp_in_nI (by omega) (by decide)) dX12_proves_18 ?_
    refine lv_topi (fun x_4 ex_4 => ?_)
    refine lv_if_ne (tgt := 28) hx hb dX12_proves_19 (by decide) (fun c_5 => ?_) (fun c_5 => ?_)
    · refine lv_iconst (v := 0) hx hb dX12_proves_28 (by decide) ?_
      refine lv_istore_n (lv' := [(2, .int 0), (0, .ref (z 0)), (1, .int (nI js))]) hx hb dX12_proves_29 rfl hl (by decide) rfl (fun ls hl => ?_)
      have L30 : ∀ (n30 : Nat) (i : Nat) (hfuel30 : 60 - i < n30) (hi : i ≤ 60) (hv : ∀ k, k < i → (0 : Int) ≤ (M (60 * js + k)).toInt ∧ (M (60 * js + k)).toInt ≤ 60 - (D 7).toInt) (H : Heap) (locs : List Loc) (hP : va_P g.1 vwCl [(z 0, .inr (12, [.ref (z 1), .ref (z 2), .int (nI kp), .int (xs 0), .ref (z 3), .ref (z 4), .ref (z 5), .ref (z 6), .int (xs 1), .ref (z 7), .ref (z 8), .ref (z 9), .ref (z 10), .ref (z 11), .ref (z 12), .int (xs 2), .ref (z 13), .ref (z 14), .int (xs 3), .ref (z 15)])), (z 1, .inl (gI g, 461, .inl D)), (z 13, .inl (gI g, 60, .inl T)), (z 14, .inl (gI g, 480, .inl Bg)), (z 3, .inl (gI g, 4, .inl B)), (z 4, .inl (gI g, 4, .inl Z)), (z 5, .inl (gI g, 240, .inl M))] H) (hD : va_D A [(z 0, .inr (12, [.ref (z 1), .ref (z 2), .int (nI kp), .int (xs 0), .ref (z 3), .ref (z 4), .ref (z 5), .ref (z 6), .int (xs 1), .ref (z 7), .ref (z 8), .ref (z 9), .ref (z 10), .ref (z 11), .ref (z 12), .int (xs 2), .ref (z 13), .ref (z 14), .int (xs 3), .ref (z 15)])), (z 1, .inl (gI g, 461, .inl D)), (z 13, .inl (gI g, 60, .inl T)), (z 14, .inl (gI g, 480, .inl Bg)), (z 3, .inl (gI g, 4, .inl B)), (z 4, .inl (gI g, 4, .inl Z)), (z 5, .inl (gI g, 240, .inl M))]) (hS : va_S A s.heap H locs) (ls : Array Slot) (hl : lv_has ls 4 [(2, .int (nI i)), (0, .ref (z 0)), (1, .int (nI js))]), W p l e (kR 3 0 0) s m ([.ref (z 0), .int (nI js)] : List Value).toArray below meth c H locs 0 0 (kQi g A below ([.ref (z 0), .int (nI js)] : List Value).toArray s 0 0 (fun (r : Int32) (u : (Nat → Int32) × (Nat → Int32) × (Nat → Int32)) => True) (fun (u : (Nat → Int32) × (Nat → Int32) × (Nat → Int32)) => ([(z 0, .inr (12, [.ref (z 1), .ref (z 2), .int (nI kp), .int (u.1 0), .ref (z 3), .ref (z 4), .ref (z 5), .ref (z 6), .int (u.1 1), .ref (z 7), .ref (z 8), .ref (z 9), .ref (z 10), .ref (z 11), .ref (z 12), .int (u.1 2), .ref (z 13), .ref (z 14), .int (u.1 3), .ref (z 15)])), (z 1, .inl (gI g, 461, .inl D)), (z 13, .inl (gI g, 60, .inl u.2.1)), (z 14, .inl (gI g, 480, .inl u.2.2)), (z 3, .inl (gI g, 4, .inl B)), (z 4, .inl (gI g, 4, .inl Z)), (z 5, .inl (gI g, 240, .inl M))] : va_W))) (F0 m 30 ls []) := by
        intro n30
        induction n30 with
        | zero => intro i hfuel30; exact absurd hfuel30 (Nat.not_lt_zero _)
        | succ n30 ih30 =>
          intro i hfuel30 hi hv H locs hP hD hS ls hl
          refine lv_iload_n hx hb dX12_proves_30 rfl (lv_at hl 0 rfl) ?_
          refine lv_aload_n hx hb dX12_proves_31 rfl (lv_at hl 1 rfl) ?_
          refine va_get (ci := 12) (C := RX12) (T := TX12) (N := 20) hx hb hts inlX12 hown hKW.1 hP 0 rfl rfl 5 (by decide) (hts _ wd_6_8) (fun _ h => h) rfl dX12_proves_32 ?_
          refine lv_iload_n hx hb dX12_proves_35 rfl (lv_at hl 2 rfl) ?_
          refine va_iald hx hb hKW.1 hP 5 0 rfl rfl (vp_in_nI (by omega) (by decide)) dX12_proves_36 ?_
          refine k_top (y := nI (sn js)) (by rw [nI_clamp (by omega)]; exact (hZ js hjs).1) ?_
          refine lv_icmp_ge (tgt := 103) hx hb dX12_proves_37 (by decide) (fun c_6 => ?_) (fun c_6 => ?_)
          · have c_6n : (sn js) ≤ i := (k_leI (a := (sn js)) (b := i) (by omega) (by omega)).mp c_6
            have hv2 : ∀ k, k < sn js → (0 : Int) ≤ (M (60 * js + k)).toInt ∧ (M (60 * js + k)).toInt ≤ 60 - (D 7).toInt := fun k hk => hv k (by omega)
            obtain ⟨L, hLa, hLb, eL⟩ := DI.n7 hDI
            have eL7 : (D 7).toInt = (L : Int) := by rw [eL, k_nIi (by omega)]
            refine lv_aload_n hx hb dX12_proves_103 rfl (lv_at hl 1 rfl) ?_
            refine k_Vv [0, 1, 2, 3] [4, 5, 6] 0 12 (wr := [(z 3, .inl (gI g, 4, .inl B)), (z 4, .inl (gI g, 4, .inl Z)), (z 5, .inl (gI g, 240, .inl M))]) hx hb hml hown hts hKW hP hD hS hA hl.1 (c_X12_findShifts l g _ z kp xs D T Bg (by first | assumption | omega | decide)) rfl rfl rfl wd_36_14 wd_1_5 wd_36_11 wd_36_12 wd_36_13 yd_X12_findShifts ⟨(Nat.le_of_ble_eq_true rfl), (Nat.le_of_ble_eq_true rfl)⟩ rfl rfl rfl rfl (by decide) rfl (Nat.le_of_ble_eq_true rfl) dX12_proves_104 ⟨(Nat.le_of_ble_eq_true rfl), (Nat.le_of_ble_eq_true rfl)⟩ (fun u_8 H locs hw_9 hP hD hS => ?_)
            obtain ⟨q_10, f_11, f_12⟩ := u_8
            have hP : va_P g.1 vwCl [(z 3, .inl (gI g, 4, .inl B)), (z 4, .inl (gI g, 4, .inl Z)), (z 5, .inl (gI g, 240, .inl M)), (z 0, .inr (12, [.ref (z 1), .ref (z 2), .int (nI kp), .int (xs 0), .ref (z 3), .ref (z 4), .ref (z 5), .ref (z 6), .int (xs 1), .ref (z 7), .ref (z 8), .ref (z 9), .ref (z 10), .ref (z 11), .ref (z 12), .int (xs 2), .ref (z 13), .ref (z 14), .int (nI q_10), .ref (z 15)])), (z 1, .inl (gI g, 461, .inl D)), (z 13, .inl (gI g, 60, .inl f_11)), (z 14, .inl (gI g, 480, .inl f_12))] H := hP
            have hD : va_D A [(z 3, .inl (gI g, 4, .inl B)), (z 4, .inl (gI g, 4, .inl Z)), (z 5, .inl (gI g, 240, .inl M)), (z 0, .inr (12, [.ref (z 1), .ref (z 2), .int (nI kp), .int (xs 0), .ref (z 3), .ref (z 4), .ref (z 5), .ref (z 6), .int (xs 1), .ref (z 7), .ref (z 8), .ref (z 9), .ref (z 10), .ref (z 11), .ref (z 12), .int (xs 2), .ref (z 13), .ref (z 14), .int (nI q_10), .ref (z 15)])), (z 1, .inl (gI g, 461, .inl D)), (z 13, .inl (gI g, 60, .inl f_11)), (z 14, .inl (gI g, 480, .inl f_12))] := hD
            have hw_9 : q_10 ≤ 480 := hw_9
            have hkm := hw_9
            refine lv_iconst (v := 0) hx hb dX12_proves_107 (by decide) ?_
            refine lv_istore_n (lv' := [(2, .int 0), (0, .ref (z 0)), (1, .int (nI js))]) hx hb dX12_proves_108 rfl hl (by decide) rfl (fun ls hl => ?_)
            have L109 : ∀ (n109 : Nat) (i : Nat) (ga : Nat → Int32) (hfuel109 : 60 - i < n109) (hi : i ≤ 60) (H : Heap) (locs : List Loc) (hP : va_P g.1 vwCl [(z 3, .inl (gI g, 4, .inl B)), (z 4, .inl (gI g, 4, .inl Z)), (z 5, .inl (gI g, 240, .inl M)), (z 0, .inr (12, [.ref (z 1), .ref (z 2), .int (nI kp), .int (xs 0), .ref (z 3), .ref (z 4), .ref (z 5), .ref (z 6), .int (xs 1), .ref (z 7), .ref (z 8), .ref (z 9), .ref (z 10), .ref (z 11), .ref (z 12), .int (xs 2), .ref (z 13), .ref (z 14), .int (nI q_10), .ref (z 15)])), (z 1, .inl (gI g, 461, .inl D)), (z 13, .inl (gI g, 60, .inl ga)), (z 14, .inl (gI g, 480, .inl f_12))] H) (hD : va_D A [(z 3, .inl (gI g, 4, .inl B)), (z 4, .inl (gI g, 4, .inl Z)), (z 5, .inl (gI g, 240, .inl M)), (z 0, .inr (12, [.ref (z 1), .ref (z 2), .int (nI kp), .int (xs 0), .ref (z 3), .ref (z 4), .ref (z 5), .ref (z 6), .int (xs 1), .ref (z 7), .ref (z 8), .ref (z 9), .ref (z 10), .ref (z 11), .ref (z 12), .int (xs 2), .ref (z 13), .ref (z 14), .int (nI q_10), .ref (z 15)])), (z 1, .inl (gI g, 461, .inl D)), (z 13, .inl (gI g, 60, .inl ga)), (z 14, .inl (gI g, 480, .inl f_12))]) (hS : va_S A s.heap H locs) (ls : Array Slot) (hl : lv_has ls 4 [(2, .int (nI i)), (0, .ref (z 0)), (1, .int (nI js))]), W p l e (kR 3 0 0) s m ([.ref (z 0), .int (nI js)] : List Value).toArray below meth c H locs 0 0 (kQi g A below ([.ref (z 0), .int (nI js)] : List Value).toArray s 0 0 (fun (r : Int32) (u : (Nat → Int32) × (Nat → Int32) × (Nat → Int32)) => True) (fun (u : (Nat → Int32) × (Nat → Int32) × (Nat → Int32)) => ([(z 0, .inr (12, [.ref (z 1), .ref (z 2), .int (nI kp), .int (u.1 0), .ref (z 3), .ref (z 4), .ref (z 5), .ref (z 6), .int (u.1 1), .ref (z 7), .ref (z 8), .ref (z 9), .ref (z 10), .ref (z 11), .ref (z 12), .int (u.1 2), .ref (z 13), .ref (z 14), .int (u.1 3), .ref (z 15)])), (z 1, .inl (gI g, 461, .inl D)), (z 13, .inl (gI g, 60, .inl u.2.1)), (z 14, .inl (gI g, 480, .inl u.2.2)), (z 3, .inl (gI g, 4, .inl B)), (z 4, .inl (gI g, 4, .inl Z)), (z 5, .inl (gI g, 240, .inl M))] : va_W))) (F0 m 109 ls []) := by
              intro n109
              induction n109 with
              | zero => intro i ga hfuel109; exact absurd hfuel109 (Nat.not_lt_zero _)
              | succ n109 ih109 =>
                intro i ga hfuel109 hi H locs hP hD hS ls hl
                refine lv_iload_n hx hb dX12_proves_109 rfl (lv_at hl 0 rfl) ?_
                refine lv_bipush (v := 60) hx hb dX12_proves_110 (by decide) ?_
                refine lv_icmp_ge (tgt := 128) hx hb dX12_proves_112 (by decide) (fun c_13 => ?_) (fun c_13 => ?_)
                · have c_13n : 60 ≤ i := (k_leI (a := 60) (b := i) (by omega) (by omega)).mp c_13
                  refine lv_iconst (v := 0) hx hb dX12_proves_128 (by decide) ?_
                  refine lv_istore_n (lv' := [(2, .int 0), (0, .ref (z 0)), (1, .int (nI js))]) hx hb dX12_proves_129 rfl hl (by decide) rfl (fun ls hl => ?_)
                  have L130 : ∀ (n130 : Nat) (i : Nat) (Ta : Nat → Int32) (hfuel130 : 60 - i < n130) (hi : i ≤ 60) (H : Heap) (locs : List Loc) (hP : va_P g.1 vwCl [(z 3, .inl (gI g, 4, .inl B)), (z 4, .inl (gI g, 4, .inl Z)), (z 5, .inl (gI g, 240, .inl M)), (z 0, .inr (12, [.ref (z 1), .ref (z 2), .int (nI kp), .int (xs 0), .ref (z 3), .ref (z 4), .ref (z 5), .ref (z 6), .int (xs 1), .ref (z 7), .ref (z 8), .ref (z 9), .ref (z 10), .ref (z 11), .ref (z 12), .int (xs 2), .ref (z 13), .ref (z 14), .int (nI q_10), .ref (z 15)])), (z 1, .inl (gI g, 461, .inl D)), (z 13, .inl (gI g, 60, .inl Ta)), (z 14, .inl (gI g, 480, .inl f_12))] H) (hD : va_D A [(z 3, .inl (gI g, 4, .inl B)), (z 4, .inl (gI g, 4, .inl Z)), (z 5, .inl (gI g, 240, .inl M)), (z 0, .inr (12, [.ref (z 1), .ref (z 2), .int (nI kp), .int (xs 0), .ref (z 3), .ref (z 4), .ref (z 5), .ref (z 6), .int (xs 1), .ref (z 7), .ref (z 8), .ref (z 9), .ref (z 10), .ref (z 11), .ref (z 12), .int (xs 2), .ref (z 13), .ref (z 14), .int (nI q_10), .ref (z 15)])), (z 1, .inl (gI g, 461, .inl D)), (z 13, .inl (gI g, 60, .inl Ta)), (z 14, .inl (gI g, 480, .inl f_12))]) (hS : va_S A s.heap H locs) (ls : Array Slot) (hl : lv_has ls 4 [(2, .int (nI i)), (0, .ref (z 0)), (1, .int (nI js))]), W p l e (kR 3 0 0) s m ([.ref (z 0), .int (nI js)] : List Value).toArray below meth c H locs 0 0 (kQi g A below ([.ref (z 0), .int (nI js)] : List Value).toArray s 0 0 (fun (r : Int32) (u : (Nat → Int32) × (Nat → Int32) × (Nat → Int32)) => True) (fun (u : (Nat → Int32) × (Nat → Int32) × (Nat → Int32)) => ([(z 0, .inr (12, [.ref (z 1), .ref (z 2), .int (nI kp), .int (u.1 0), .ref (z 3), .ref (z 4), .ref (z 5), .ref (z 6), .int (u.1 1), .ref (z 7), .ref (z 8), .ref (z 9), .ref (z 10), .ref (z 11), .ref (z 12), .int (u.1 2), .ref (z 13), .ref (z 14), .int (u.1 3), .ref (z 15)])), (z 1, .inl (gI g, 461, .inl D)), (z 13, .inl (gI g, 60, .inl u.2.1)), (z 14, .inl (gI g, 480, .inl u.2.2)), (z 3, .inl (gI g, 4, .inl B)), (z 4, .inl (gI g, 4, .inl Z)), (z 5, .inl (gI g, 240, .inl M))] : va_W))) (F0 m 130 ls []) := by
                    intro n130
                    induction n130 with
                    | zero => intro i Ta hfuel130; exact absurd hfuel130 (Nat.not_lt_zero _)
                    | succ n130 ih130 =>
                      intro i Ta hfuel130 hi H locs hP hD hS ls hl
                      refine lv_iload_n hx hb dX12_proves_130 rfl (lv_at hl 0 rfl) ?_
                      refine lv_aload_n hx hb dX12_proves_131 rfl (lv_at hl 1 rfl) ?_
                      refine va_get (ci := 12) (C := RX12) (T := TX12) (N := 20) hx hb hts inlX12 hown hKW.1 hP 3 rfl rfl 5 (by decide) (hts _ wd_6_8) (fun _ h => h) rfl dX12_proves_132 ?_
                      refine lv_iload_n hx hb dX12_proves_135 rfl (lv_at hl 2 rfl) ?_
                      refine va_iald hx hb hKW.1 hP 1 0 rfl rfl (vp_in_nI (by omega) (by decide)) dX12_proves_136 ?_
                      refine k_top (y := nI (sn js)) (by rw [nI_clamp (by omega)]; exact (hZ js hjs).1) ?_
                      refine lv_icmp_ge (tgt := 161) hx hb dX12_proves_137 (by decide) (fun c_14 => ?_) (fun c_14 => ?_)
                      · have c_14n : (sn js) ≤ i := (k_leI (a := (sn js)) (b := i) (by omega) (by omega)).mp c_14
                        refine lv_iconst (v := 0) hx hb dX12_proves_161 (by decide) ?_
                        refine lv_istore_n (lv' := [(2, .int 0), (0, .ref (z 0)), (1, .int (nI js))]) hx hb dX12_proves_162 rfl hl (by decide) rfl (fun ls hl => ?_)
                        have L163 : ∀ (n163 : Nat) (i : Nat) (hfuel163 : 60 - i < n163) (hi : i ≤ 60) (H : Heap) (locs : List Loc) (hP : va_P g.1 vwCl [(z 3, .inl (gI g, 4, .inl B)), (z 4, .inl (gI g, 4, .inl Z)), (z 5, .inl (gI g, 240, .inl M)), (z 0, .inr (12, [.ref (z 1), .ref (z 2), .int (nI kp), .int (xs 0), .ref (z 3), .ref (z 4), .ref (z 5), .ref (z 6), .int (xs 1), .ref (z 7), .ref (z 8), .ref (z 9), .ref (z 10), .ref (z 11), .ref (z 12), .int (xs 2), .ref (z 13), .ref (z 14), .int (nI q_10), .ref (z 15)])), (z 1, .inl (gI g, 461, .inl D)), (z 13, .inl (gI g, 60, .inl Ta)), (z 14, .inl (gI g, 480, .inl f_12))] H) (hD : va_D A [(z 3, .inl (gI g, 4, .inl B)), (z 4, .inl (gI g, 4, .inl Z)), (z 5, .inl (gI g, 240, .inl M)), (z 0, .inr (12, [.ref (z 1), .ref (z 2), .int (nI kp), .int (xs 0), .ref (z 3), .ref (z 4), .ref (z 5), .ref (z 6), .int (xs 1), .ref (z 7), .ref (z 8), .ref (z 9), .ref (z 10), .ref (z 11), .ref (z 12), .int (xs 2), .ref (z 13), .ref (z 14), .int (nI q_10), .ref (z 15)])), (z 1, .inl (gI g, 461, .inl D)), (z 13, .inl (gI g, 60, .inl Ta)), (z 14, .inl (gI g, 480, .inl f_12))]) (hS : va_S A s.heap H locs) (ls : Array Slot) (hl : lv_has ls 4 [(2, .int (nI i)), (0, .ref (z 0)), (1, .int (nI js))]), W p l e (kR 3 0 0) s m ([.ref (z 0), .int (nI js)] : List Value).toArray below meth c H locs 0 0 (kQi g A below ([.ref (z 0), .int (nI js)] : List Value).toArray s 0 0 (fun (r : Int32) (u : (Nat → Int32) × (Nat → Int32) × (Nat → Int32)) => True) (fun (u : (Nat → Int32) × (Nat → Int32) × (Nat → Int32)) => ([(z 0, .inr (12, [.ref (z 1), .ref (z 2), .int (nI kp), .int (u.1 0), .ref (z 3), .ref (z 4), .ref (z 5), .ref (z 6), .int (u.1 1), .ref (z 7), .ref (z 8), .ref (z 9), .ref (z 10), .ref (z 11), .ref (z 12), .int (u.1 2), .ref (z 13), .ref (z 14), .int (u.1 3), .ref (z 15)])), (z 1, .inl (gI g, 461, .inl D)), (z 13, .inl (gI g, 60, .inl u.2.1)), (z 14, .inl (gI g, 480, .inl u.2.2)), (z 3, .inl (gI g, 4, .inl B)), (z 4, .inl (gI g, 4, .inl Z)), (z 5, .inl (gI g, 240, .inl M))] : va_W))) (F0 m 163 ls []) := by
                          intro n163
                          induction n163 with
                          | zero => intro i hfuel163; exact absurd hfuel163 (Nat.not_lt_zero _)
                          | succ n163 ih163 =>
                            intro i hfuel163 hi H locs hP hD hS ls hl
                            refine lv_iload_n hx hb dX12_proves_163 rfl (lv_at hl 0 rfl) ?_
                            refine lv_bipush (v := 60) hx hb dX12_proves_164 (by decide) ?_
                            refine lv_icmp_ge (tgt := 196) hx hb dX12_proves_166 (by decide) (fun c_15 => ?_) (fun c_15 => ?_)
                            · have c_15n : 60 ≤ i := (k_leI (a := 60) (b := i) (by omega) (by omega)).mp c_15
                              refine lv_aload_n hx hb dX12_proves_196 rfl (lv_at hl 1 rfl) ?_
                              refine va_get (ci := 12) (C := RX12) (T := TX12) (N := 20) hx hb hts inlX12 hown hKW.1 hP 3 rfl rfl 5 (by decide) (hts _ wd_6_8) (fun _ h => h) rfl dX12_proves_197 ?_
                              refine lv_iload_n hx hb dX12_proves_200 rfl (lv_at hl 2 rfl) ?_
                              refine va_iald hx hb hKW.1 hP 1 0 rfl rfl (vp_in_nI (by omega) (by decide)) dX12_proves_201 ?_
                              refine k_top (y := nI (sn js)) (by rw [nI_clamp (by omega)]; exact (hZ js hjs).1) ?_
                              refine lv_aload_n hx hb dX12_proves_202 rfl (lv_at hl 1 rfl) ?_
                              refine va_get (ci := 12) (C := RX12) (T := TX12) (N := 20) hx hb hts inlX12 hown hKW.1 hP 3 rfl rfl 18 (by decide) (hts _ wd_36_10) (fun _ h => h) rfl dX12_proves_203 ?_
                              refine lv_icmp_le (tgt := 214) hx hb dX12_proves_206 (by decide) (fun c_16 => ?_) (fun c_16 => ?_)
                              · have c_16n : (sn js) ≤ q_10 := (k_leI (a := (sn js)) (b := q_10) (by omega) (by omega)).mp c_16
                                refine lv_iconst (v := (-1)) hx hb dX12_proves_214 (by decide) ?_
                                exact k_iret ((fun kk_ => ([(xs 0), (xs 1), (xs 2), (nI q_10)] : List Int32).getD kk_ 0), Ta, f_12) [3, 4, 5, 6, 0, 1, 2] hx hb hr hlk hP hD hS trivial rfl rfl rfl (Nat.le_of_ble_eq_true rfl) (Nat.le_of_ble_eq_true rfl) dX12_proves_215
                              · have c_16n : q_10 < (sn js) := Nat.not_le.mp (fun h => c_16 ((k_leI (a := (sn js)) (b := q_10) (by omega) (by omega)).mpr h))
                                refine lv_bipush (v := 60) hx hb dX12_proves_209 (by decide) ?_
                                refine lv_goto (tgt := 215) hx hb dX12_proves_211 (by decide) ?_
                                exact k_iret ((fun kk_ => ([(xs 0), (xs 1), (xs 2), (nI q_10)] : List Int32).getD kk_ 0), Ta, f_12) [3, 4, 5, 6, 0, 1, 2] hx hb hr hlk hP hD hS trivial rfl rfl rfl (Nat.le_of_ble_eq_true rfl) (Nat.le_of_ble_eq_true rfl) dX12_proves_215
                            · have c_15n : i < 60 := Nat.not_le.mp (fun h => c_15 ((k_leI (a := 60) (b := i) (by omega) (by omega)).mpr h))
                              refine lv_aload_n hx hb dX12_proves_169 rfl (lv_at hl 1 rfl) ?_
                              refine va_get (ci := 12) (C := RX12) (T := TX12) (N := 20) hx hb hts inlX12 hown hKW.1 hP 3 rfl rfl 16 (by decide) (hts _ wd_6_18) (fun _ h => h) rfl dX12_proves_170 ?_
                              refine lv_iload_n hx hb dX12_proves_173 rfl (lv_at hl 0 rfl) ?_
                              refine va_iald hx hb hKW.1 hP 5 0 rfl rfl (vp_in_nI (by omega) (by decide)) dX12_proves_174 ?_
                              refine lv_topi (fun x_17 ex_17 => ?_)
                              refine lv_aload_n hx hb dX12_proves_175 rfl (lv_at hl 1 rfl) ?_
                              refine va_get (ci := 12) (C := RX12) (T := TX12) (N := 20) hx hb hts inlX12 hown hKW.1 hP 3 rfl rfl 0 (by decide) (hts _ wd_6_5) (fun _ h => h) rfl dX12_proves_176 ?_
                              refine lv_sipush (v := 147) hx hb dX12_proves_179 (by decide) ?_
                              refine lv_iload_n hx hb dX12_proves_182 rfl (lv_at hl 0 rfl) ?_
                              refine lv_iadd hx hb dX12_proves_183 ?_
                              refine k_top (y := nI (i + 147)) (by rw [Nat.add_comm]; exact nI_add 147 i) ?_
                              refine va_iald hx hb hKW.1 hP 4 0 rfl rfl (vp_in_nI (by omega) (by decide)) dX12_proves_184 ?_
                              refine lv_topi (fun x_18 ex_18 => ?_)
                              refine lv_icmp_ge (tgt := 190) hx hb dX12_proves_185 (by decide) (fun c_19 => ?_) (fun c_19 => ?_)
                              · refine lv_iinc (v := nI (i + 1)) (lv' := [(2, .int (nI (i + 1))), (0, .ref (z 0)), (1, .int (nI js))]) hx hb dX12_proves_190 hl (k := 0) rfl (nI_add i 1) (by decide) rfl (fun ls hl => ?_)
                                refine lv_goto (tgt := 163) hx hb dX12_proves_193 (by decide) ?_
                                exact ih163 (i + 1) (by omega) (by first | assumption | omega) H locs (hP.sub [0, 1, 2, 3, 4, 5, 6] rfl) (hD.sub [0, 1, 2, 3, 4, 5, 6] (by decide) rfl) hS ls (lv_sub hl [0, 1, 2] rfl)
                              · refine lv_iload_n hx hb dX12_proves_188 rfl (lv_at hl 0 rfl) ?_
                                exact k_iret ((fun kk_ => ([(xs 0), (xs 1), (xs 2), (nI q_10)] : List Int32).getD kk_ 0), Ta, f_12) [3, 4, 5, 6, 0, 1, 2] hx hb hr hlk hP hD hS trivial rfl rfl rfl (Nat.le_of_ble_eq_true rfl) (Nat.le_of_ble_eq_true rfl) dX12_proves_189
                        exact L163 (60 - 0 + 1) 0 (Nat.lt_succ_self _) (by first | assumption | omega) H locs (hP.sub [0, 1, 2, 3, 4, 5, 6] rfl) (hD.sub [0, 1, 2, 3, 4, 5, 6] (by decide) rfl) hS ls (lv_sub hl [0, 1, 2] rfl)
                      · have c_14n : i < (sn js) := Nat.not_le.mp (fun h => c_14 ((k_leI (a := (sn js)) (b := i) (by omega) (by omega)).mpr h))
                        refine lv_aload_n hx hb dX12_proves_140 rfl (lv_at hl 1 rfl) ?_
                        refine lv_aload_n hx hb dX12_proves_141 rfl (lv_at hl 1 rfl) ?_
                        refine va_get (ci := 12) (C := RX12) (T := TX12) (N := 20) hx hb hts inlX12 hown hKW.1 hP 3 rfl rfl 6 (by decide) (hts _ wd_6_9) (fun _ h => h) rfl dX12_proves_142 ?_
                        refine lv_bipush (v := 60) hx hb dX12_proves_145 (by decide) ?_
                        refine lv_iload_n hx hb dX12_proves_147 rfl (lv_at hl 2 rfl) ?_
                        refine lv_imul hx hb dX12_proves_148 ?_
                        refine k_top (y := nI (60 * js)) (show (60 : Int32) * nI js = nI (60 * js) from k_nmul 60 js) ?_
                        refine lv_iload_n hx hb dX12_proves_149 rfl (lv_at hl 0 rfl) ?_
                        refine lv_iadd hx hb dX12_proves_150 ?_
                        refine k_top (y := nI ((60 * js) + i)) (nI_add (60 * js) i) ?_
                        obtain ⟨bv, hbv, ebv⟩ := k_ofr (x := M (60 * js + i)) (n := 61 - L) (by omega) (by have q := hv2 i (by omega); omega)
                        refine va_iald hx hb hKW.1 hP 2 0 rfl rfl (vp_in_nI (by omega) (by decide)) dX12_proves_151 ?_
                        refine k_top (y := nI bv) (by rw [nI_clamp (by omega)]; exact ebv) ?_
                        refine k_Vv [3, 4, 5] [0, 1, 2, 6] 3 12 (wr := [(z 3, .inl (gI g, 4, .inl B)), (z 4, .inl (gI g, 4, .inl Z)), (z 5, .inl (gI g, 240, .inl M)), (z 14, .inl (gI g, 480, .inl f_12))]) hx hb hml hown hts hKW hP hD hS hA hl.1 (c_X12_putShift l g _ z kp (fun kk_ => ([(xs 0), (xs 1), (xs 2), (nI q_10)] : List Int32).getD kk_ 0) D Ta bv L (by first | assumption | omega | decide) eL (by first | assumption | omega | decide)) rfl rfl rfl wd_36_18 wd_1_5 wd_36_15 wd_36_16 wd_36_17 yd_X12_putShift ⟨(Nat.le_of_ble_eq_true rfl), (Nat.le_of_ble_eq_true rfl)⟩ rfl rfl rfl rfl (by decide) rfl (Nat.le_of_ble_eq_true rfl) dX12_proves_152 ⟨(Nat.le_of_ble_eq_true rfl), (Nat.le_of_ble_eq_true rfl)⟩ (fun u_21 H locs hw_22 hP hD hS => ?_)
                        have hP : va_P g.1 vwCl [(z 3, .inl (gI g, 4, .inl B)), (z 4, .inl (gI g, 4, .inl Z)), (z 5, .inl (gI g, 240, .inl M)), (z 14, .inl (gI g, 480, .inl f_12)), (z 0, .inr (12, [.ref (z 1), .ref (z 2), .int (nI kp), .int (xs 0), .ref (z 3), .ref (z 4), .ref (z 5), .ref (z 6), .int (xs 1), .ref (z 7), .ref (z 8), .ref (z 9), .ref (z 10), .ref (z 11), .ref (z 12), .int (xs 2), .ref (z 13), .ref (z 14), .int (nI q_10), .ref (z 15)])), (z 1, .inl (gI g, 461, .inl D)), (z 13, .inl (gI g, 60, .inl u_21))] H := hP
                        have hD : va_D A [(z 3, .inl (gI g, 4, .inl B)), (z 4, .inl (gI g, 4, .inl Z)), (z 5, .inl (gI g, 240, .inl M)), (z 14, .inl (gI g, 480, .inl f_12)), (z 0, .inr (12, [.ref (z 1), .ref (z 2), .int (nI kp), .int (xs 0), .ref (z 3), .ref (z 4), .ref (z 5), .ref (z 6), .int (xs 1), .ref (z 7), .ref (z 8), .ref (z 9), .ref (z 10), .ref (z 11), .ref (z 12), .int (xs 2), .ref (z 13), .ref (z 14), .int (nI q_10), .ref (z 15)])), (z 1, .inl (gI g, 461, .inl D)), (z 13, .inl (gI g, 60, .inl u_21))] := hD
                        have hw_22 : ∀ j, j < 60 → u_21 j = if bv ≤ j ∧ j < bv + L then Ta j + 1 else Ta j := hw_22
                        have hps := hw_22
                        refine lv_iinc (v := nI (i + 1)) (lv' := [(2, .int (nI (i + 1))), (0, .ref (z 0)), (1, .int (nI js))]) hx hb dX12_proves_155 hl (k := 0) rfl (nI_add i 1) (by decide) rfl (fun ls hl => ?_)
                        refine lv_goto (tgt := 130) hx hb dX12_proves_158 (by decide) ?_
                        exact ih130 (i + 1) u_21 (by omega) (by first | assumption | omega) H locs (hP.sub [0, 1, 2, 4, 5, 6, 3] rfl) (hD.sub [0, 1, 2, 4, 5, 6, 3] (by decide) rfl) hS ls (lv_sub hl [0, 1, 2] rfl)
                  exact L130 (60 - 0 + 1) 0 ga (Nat.lt_succ_self _) (by first | assumption | omega) H locs (hP.sub [0, 1, 2, 3, 4, 5, 6] rfl) (hD.sub [0, 1, 2, 3, 4, 5, 6] (by decide) rfl) hS ls (lv_sub hl [0, 1, 2] rfl)
                · have c_13n : i < 60 := Nat.not_le.mp (fun h => c_13 ((k_leI (a := 60) (b := i) (by omega) (by omega)).mpr h))
                  refine lv_aload_n hx hb dX12_proves_115 rfl (lv_at hl 1 rfl) ?_
                  refine va_get (ci := 12) (C := RX12) (T := TX12) (N := 20) hx hb hts inlX12 hown hKW.1 hP 3 rfl rfl 16 (by decide) (hts _ wd_6_18) (fun _ h => h) rfl dX12_proves_116 ?_
                  refine lv_iload_n hx hb dX12_proves_119 rfl (lv_at hl 0 rfl) ?_
                  refine lv_iconst (v := 0) hx hb dX12_proves_120 (by decide) ?_
                  refine va_iast hx hb hKW.1 hP hD hS 5 0 rfl rfl (vp_in_nI (by omega) (by decide)) dX12_proves_121 (fun H locs hP hD hS => ?_)
                  have hP : va_P g.1 vwCl [(z 3, .inl (gI g, 4, .inl B)), (z 4, .inl (gI g, 4, .inl Z)), (z 5, .inl (gI g, 240, .inl M)), (z 0, .inr (12, [.ref (z 1), .ref (z 2), .int (nI kp), .int (xs 0), .ref (z 3), .ref (z 4), .ref (z 5), .ref (z 6), .int (xs 1), .ref (z 7), .ref (z 8), .ref (z 9), .ref (z 10), .ref (z 11), .ref (z 12), .int (xs 2), .ref (z 13), .ref (z 14), .int (nI q_10), .ref (z 15)])), (z 1, .inl (gI g, 461, .inl D)), (z 13, .inl (gI g, 60, .inl (upd ga (nI i).toNatClampNeg 0))), (z 14, .inl (gI g, 480, .inl f_12))] H := hP
                  have hD : va_D A [(z 3, .inl (gI g, 4, .inl B)), (z 4, .inl (gI g, 4, .inl Z)), (z 5, .inl (gI g, 240, .inl M)), (z 0, .inr (12, [.ref (z 1), .ref (z 2), .int (nI kp), .int (xs 0), .ref (z 3), .ref (z 4), .ref (z 5), .ref (z 6), .int (xs 1), .ref (z 7), .ref (z 8), .ref (z 9), .ref (z 10), .ref (z 11), .ref (z 12), .int (xs 2), .ref (z 13), .ref (z 14), .int (nI q_10), .ref (z 15)])), (z 1, .inl (gI g, 461, .inl D)), (z 13, .inl (gI g, 60, .inl (upd ga (nI i).toNatClampNeg 0))), (z 14, .inl (gI g, 480, .inl f_12))] := hD
                  obtain ⟨f_23, ef_23⟩ : ∃ zz_ : Nat → Int32, zz_ = upd ga (nI i).toNatClampNeg 0 := ⟨_, rfl⟩
                  rw [← ef_23] at hP hD
                  refine lv_iinc (v := nI (i + 1)) (lv' := [(2, .int (nI (i + 1))), (0, .ref (z 0)), (1, .int (nI js))]) hx hb dX12_proves_122 hl (k := 0) rfl (nI_add i 1) (by decide) rfl (fun ls hl => ?_)
                  refine lv_goto (tgt := 109) hx hb dX12_proves_125 (by decide) ?_
                  exact ih109 (i + 1) f_23 (by omega) (by first | assumption | omega) H locs (hP.sub [0, 1, 2, 3, 4, 5, 6] rfl) (hD.sub [0, 1, 2, 3, 4, 5, 6] (by decide) rfl) hS ls (lv_sub hl [0, 1, 2] rfl)
            exact L109 (60 - 0 + 1) 0 f_11 (Nat.lt_succ_self _) (by first | assumption | omega) H locs (hP.sub [0, 1, 2, 3, 4, 5, 6] rfl) (hD.sub [0, 1, 2, 3, 4, 5, 6] (by decide) rfl) hS ls (lv_sub hl [0, 1, 2] rfl)
          · have c_6n : i < (sn js) := Nat.not_le.mp (fun h => c_6 ((k_leI (a := (sn js)) (b := i) (by omega) (by omega)).mpr h))
            refine lv_aload_n hx hb dX12_proves_40 rfl (lv_at hl 1 rfl) ?_
            refine va_get (ci := 12) (C := RX12) (T := TX12) (N := 20) hx hb hts inlX12 hown hKW.1 hP 0 rfl rfl 6 (by decide) (hts _ wd_6_9) (fun _ h => h) rfl dX12_proves_41 ?_
            refine lv_bipush (v := 60) hx hb dX12_proves_44 (by decide) ?_
            refine lv_iload_n hx hb dX12_proves_46 rfl (lv_at hl 2 rfl) ?_
            refine lv_imul hx hb dX12_proves_47 ?_
            refine k_top (y := nI (60 * js)) (show (60 : Int32) * nI js = nI (60 * js) from k_nmul 60 js) ?_
            refine lv_iload_n hx hb dX12_proves_48 rfl (lv_at hl 0 rfl) ?_
            refine lv_iadd hx hb dX12_proves_49 ?_
            refine k_top (y := nI ((60 * js) + i)) (nI_add (60 * js) i) ?_
            refine va_iald hx hb hKW.1 hP 6 0 rfl rfl (vp_in_nI (by omega) (by decide)) dX12_proves_50 ?_
            refine lv_topi (fun x_24 ex_24 => ?_)
            refine lv_istore_n (lv' := [(3, .int x_24), (2, .int (nI i)), (0, .ref (z 0)), (1, .int (nI js))]) hx hb dX12_proves_51 rfl hl (by decide) rfl (fun ls hl => ?_)
            refine lv_iload_n hx hb dX12_proves_52 rfl (lv_at hl 0 rfl) ?_
            refine lv_iconst (v := 0) hx hb dX12_proves_53 (by decide) ?_
            refine lv_bipush (v := 60) hx hb dX12_proves_54 (by decide) ?_
            refine lv_aload_n hx hb dX12_proves_56 rfl (lv_at hl 2 rfl) ?_
            refine va_get (ci := 12) (C := RX12) (T := TX12) (N := 20) hx hb hts inlX12 hown hKW.1 hP 0 rfl rfl 0 (by decide) (hts _ wd_6_5) (fun _ h => h) rfl dX12_proves_57 ?_
            refine lv_bipush (v := 7) hx hb dX12_proves_60 (by decide) ?_
            obtain ⟨dk_25, hdk_25a, hdk_25b, edk_25⟩ := DI.n7 hDI
            refine va_iald hx hb hKW.1 hP 1 0 rfl rfl (show ¬ _ by decide) dX12_proves_62 ?_
            refine k_top (y := nI dk_25) edk_25 ?_
            refine lv_isub hx hb dX12_proves_63 ?_
            refine k_top (y := nI (60 - dk_25)) (k_sub (a := 60) (by omega)) ?_
            refine k_Si [] [0, 1, 2, 3, 4, 5, 6] (wr := [(z 0, .inr (12, [.ref (z 1), .ref (z 2), .int (nI kp), .int (xs 0), .ref (z 3), .ref (z 4), .ref (z 5), .ref (z 6), .int (xs 1), .ref (z 7), .ref (z 8), .ref (z 9), .ref (z 10), .ref (z 11), .ref (z 12), .int (xs 2), .ref (z 13), .ref (z 14), .int (xs 3), .ref (z 15)])), (z 1, .inl (gI g, 461, .inl D)), (z 13, .inl (gI g, 60, .inl T)), (z 14, .inl (gI g, 480, .inl Bg)), (z 3, .inl (gI g, 4, .inl B)), (z 4, .inl (gI g, 4, .inl Z)), (z 5, .inl (gI g, 240, .inl M))]) hx hb hml hown hts hKW hP hD hS hA hl.1 (c_X12_isIn l g _ x_24 0 (nI (60 - dk_25)) ) wd_10_11 wd_1_5 wd_10_9 wd_10_10 yd_X12_isIn ⟨(Nat.le_of_ble_eq_true rfl), (Nat.le_of_ble_eq_true rfl)⟩ rfl rfl rfl rfl (by decide) rfl (Nat.le_of_ble_eq_true rfl) dX12_proves_64 ⟨(Nat.le_of_ble_eq_true rfl), (Nat.le_of_ble_eq_true rfl)⟩ (fun r_26 u_27 H locs hw_28 hP hD hS => ?_)
            have hP : va_P g.1 vwCl [(z 0, .inr (12, [.ref (z 1), .ref (z 2), .int (nI kp), .int (xs 0), .ref (z 3), .ref (z 4), .ref (z 5), .ref (z 6), .int (xs 1), .ref (z 7), .ref (z 8), .ref (z 9), .ref (z 10), .ref (z 11), .ref (z 12), .int (xs 2), .ref (z 13), .ref (z 14), .int (xs 3), .ref (z 15)])), (z 1, .inl (gI g, 461, .inl D)), (z 13, .inl (gI g, 60, .inl T)), (z 14, .inl (gI g, 480, .inl Bg)), (z 3, .inl (gI g, 4, .inl B)), (z 4, .inl (gI g, 4, .inl Z)), (z 5, .inl (gI g, 240, .inl M))] H := hP
            have hD : va_D A [(z 0, .inr (12, [.ref (z 1), .ref (z 2), .int (nI kp), .int (xs 0), .ref (z 3), .ref (z 4), .ref (z 5), .ref (z 6), .int (xs 1), .ref (z 7), .ref (z 8), .ref (z 9), .ref (z 10), .ref (z 11), .ref (z 12), .int (xs 2), .ref (z 13), .ref (z 14), .int (xs 3), .ref (z 15)])), (z 1, .inl (gI g, 461, .inl D)), (z 13, .inl (gI g, 60, .inl T)), (z 14, .inl (gI g, 480, .inl Bg)), (z 3, .inl (gI g, 4, .inl B)), (z 4, .inl (gI g, 4, .inl Z)), (z 5, .inl (gI g, 240, .inl M))] := hD
            rcases (show (r_26 = 1 ∧ (Int32.toInt 0 ≤ Int32.toInt x_24 ∧ Int32.toInt x_24 ≤ Int32.toInt (nI (60 - dk_25)))) ∨ (r_26 = 0 ∧ ¬ (Int32.toInt 0 ≤ Int32.toInt x_24 ∧ Int32.toInt x_24 ≤ Int32.toInt (nI (60 - dk_25)))) from hw_28) with ⟨rfl, hw_28b⟩ | ⟨rfl, hw_28b⟩ <;> clear hw_28
            · refine lv_if_eq (tgt := 91) hx hb dX12_proves_67 (by decide) (fun c => absurd c (by decide)) (fun _ => ?_)
              refine lv_iload_n hx hb dX12_proves_70 rfl (lv_at hl 1 rfl) ?_
              refine lv_if_le (tgt := 97) hx hb dX12_proves_71 (by decide) (fun c_29 => ?_) (fun c_29 => ?_)
              · have c_29n : i ≤ 0 := (k_leI (a := i) (b := 0) (by omega) (by omega)).mp c_29
                refine lv_iinc (v := nI (i + 1)) (lv' := [(2, .int (nI (i + 1))), (3, .int x_24), (0, .ref (z 0)), (1, .int (nI js))]) hx hb dX12_proves_97 hl (k := 1) rfl (nI_add i 1) (by decide) rfl (fun ls hl => ?_)
                refine lv_goto (tgt := 30) hx hb dX12_proves_100 (by decide) ?_
                exact ih30 (i + 1) (by omega) (by first | assumption | omega) (fun k hk => (Nat.lt_or_ge k i).elim (fun q => hv k q) (fun q => by rw [show k = i by omega]; have q2 := hw_28b; rw [ex_24, nI_clamp (by omega), k_nIi (by omega), show Int32.toInt 0 = (0 : Int) from rfl] at q2; rw [edk_25, k_nIi (by omega)]; omega)) H locs (hP.sub [0, 1, 2, 3, 4, 5, 6] rfl) (hD.sub [0, 1, 2, 3, 4, 5, 6] (by decide) rfl) hS ls (lv_sub hl [0, 2, 3] rfl)
              · have c_29n : 0 < i := Nat.not_le.mp (fun h => c_29 ((k_leI (a := i) (b := 0) (by omega) (by omega)).mpr h))
                refine lv_iload_n hx hb dX12_proves_74 rfl (lv_at hl 0 rfl) ?_
                refine lv_aload_n hx hb dX12_proves_75 rfl (lv_at hl 2 rfl) ?_
                refine va_get (ci := 12) (C := RX12) (T := TX12) (N := 20) hx hb hts inlX12 hown hKW.1 hP 0 rfl rfl 6 (by decide) (hts _ wd_6_9) (fun _ h => h) rfl dX12_proves_76 ?_
                refine lv_bipush (v := 60) hx hb dX12_proves_79 (by decide) ?_
                refine lv_iload_n hx hb dX12_proves_81 rfl (lv_at hl 3 rfl) ?_
                refine lv_imul hx hb dX12_proves_82 ?_
                refine k_top (y := nI (60 * js)) (show (60 : Int32) * nI js = nI (60 * js) from k_nmul 60 js) ?_
                refine lv_iload_n hx hb dX12_proves_83 rfl (lv_at hl 1 rfl) ?_
                refine lv_iadd hx hb dX12_proves_84 ?_
                refine k_top (y := nI ((60 * js) + i)) (nI_add (60 * js) i) ?_
                refine lv_iconst (v := 1) hx hb dX12_proves_85 (by decide) ?_
                refine lv_isub hx hb dX12_proves_86 ?_
                refine k_top (y := nI (60 * js + i - 1)) (k_sub (b := 1) (by omega)) ?_
                refine va_iald hx hb hKW.1 hP 6 0 rfl rfl (vp_in_nI (by omega) (by decide)) dX12_proves_87 ?_
                refine lv_topi (fun x_30 ex_30 => ?_)
                refine lv_icmp_ge (tgt := 97) hx hb dX12_proves_88 (by decide) (fun c_31 => ?_) (fun c_31 => ?_)
                · refine lv_iinc (v := nI (i + 1)) (lv' := [(2, .int (nI (i + 1))), (3, .int x_24), (0, .ref (z 0)), (1, .int (nI js))]) hx hb dX12_proves_97 hl (k := 1) rfl (nI_add i 1) (by decide) rfl (fun ls hl => ?_)
                  refine lv_goto (tgt := 30) hx hb dX12_proves_100 (by decide) ?_
                  exact ih30 (i + 1) (by omega) (by first | assumption | omega) (fun k hk => (Nat.lt_or_ge k i).elim (fun q => hv k q) (fun q => by rw [show k = i by omega]; have q2 := hw_28b; rw [ex_24, nI_clamp (by omega), k_nIi (by omega), show Int32.toInt 0 = (0 : Int) from rfl] at q2; rw [edk_25, k_nIi (by omega)]; omega)) H locs (hP.sub [0, 1, 2, 3, 4, 5, 6] rfl) (hD.sub [0, 1, 2, 3, 4, 5, 6] (by decide) rfl) hS ls (lv_sub hl [0, 2, 3] rfl)
                · refine lv_aload_n hx hb dX12_proves_91 rfl (lv_at hl 2 rfl) ?_
                  refine lv_iconst (v := 4) hx hb dX12_proves_92 (by decide) ?_
                  refine k_Vi [0] [1, 2, 3, 4, 5, 6] 0 12 (wr := [(z 1, .inl (gI g, 461, .inl D)), (z 13, .inl (gI g, 60, .inl T)), (z 14, .inl (gI g, 480, .inl Bg)), (z 3, .inl (gI g, 4, .inl B)), (z 4, .inl (gI g, 4, .inl Z)), (z 5, .inl (gI g, 240, .inl M))]) hx hb hml hown hts hKW hP hD hS hA hl.1 (c_X12_finding_4 l g _ z kp xs ) rfl rfl rfl wd_10_15 wd_1_5 wd_10_12 wd_10_13 wd_10_14 yd_X12_finding ⟨(Nat.le_of_ble_eq_true rfl), (Nat.le_of_ble_eq_true rfl)⟩ rfl rfl rfl rfl (by decide) rfl (Nat.le_of_ble_eq_true rfl) dX12_proves_93 ⟨(Nat.le_of_ble_eq_true rfl), (Nat.le_of_ble_eq_true rfl)⟩ (fun r_32 u_33 H locs hw_34 hP hD hS => ?_)
                  have hP : va_P g.1 vwCl [(z 1, .inl (gI g, 461, .inl D)), (z 13, .inl (gI g, 60, .inl T)), (z 14, .inl (gI g, 480, .inl Bg)), (z 3, .inl (gI g, 4, .inl B)), (z 4, .inl (gI g, 4, .inl Z)), (z 5, .inl (gI g, 240, .inl M)), (z 0, .inr (12, [.ref (z 1), .ref (z 2), .int (nI kp), .int u_33, .ref (z 3), .ref (z 4), .ref (z 5), .ref (z 6), .int (xs 1), .ref (z 7), .ref (z 8), .ref (z 9), .ref (z 10), .ref (z 11), .ref (z 12), .int (xs 2), .ref (z 13), .ref (z 14), .int (xs 3), .ref (z 15)]))] H := hP
                  have hD : va_D A [(z 1, .inl (gI g, 461, .inl D)), (z 13, .inl (gI g, 60, .inl T)), (z 14, .inl (gI g, 480, .inl Bg)), (z 3, .inl (gI g, 4, .inl B)), (z 4, .inl (gI g, 4, .inl Z)), (z 5, .inl (gI g, 240, .inl M)), (z 0, .inr (12, [.ref (z 1), .ref (z 2), .int (nI kp), .int u_33, .ref (z 3), .ref (z 4), .ref (z 5), .ref (z 6), .int (xs 1), .ref (z 7), .ref (z 8), .ref (z 9), .ref (z 10), .ref (z 11), .ref (z 12), .int (xs 2), .ref (z 13), .ref (z 14), .int (xs 3), .ref (z 15)]))] := hD
                  have hw_34 : r_32 = (-100004) := hw_34
                  subst hw_34
                  exact k_iret ((fun kk_ => ([u_33, (xs 1), (xs 2), (xs 3)] : List Int32).getD kk_ 0), T, Bg) [6, 0, 1, 2, 3, 4, 5] hx hb hr hlk hP hD hS trivial rfl rfl rfl (Nat.le_of_ble_eq_true rfl) (Nat.le_of_ble_eq_true rfl) dX12_proves_96
            · refine lv_if_eq (tgt := 91) hx hb dX12_proves_67 (by decide) (fun _ => ?_) (fun c => absurd c (by decide))
              refine lv_aload_n hx hb dX12_proves_91 rfl (lv_at hl 2 rfl) ?_
              refine lv_iconst (v := 4) hx hb dX12_proves_92 (by decide) ?_
              refine k_Vi [0] [1, 2, 3, 4, 5, 6] 0 12 (wr := [(z 1, .inl (gI g, 461, .inl D)), (z 13, .inl (gI g, 60, .inl T)), (z 14, .inl (gI g, 480, .inl Bg)), (z 3, .inl (gI g, 4, .inl B)), (z 4, .inl (gI g, 4, .inl Z)), (z 5, .inl (gI g, 240, .inl M))]) hx hb hml hown hts hKW hP hD hS hA hl.1 (c_X12_finding_4 l g _ z kp xs ) rfl rfl rfl wd_10_15 wd_1_5 wd_10_12 wd_10_13 wd_10_14 yd_X12_finding ⟨(Nat.le_of_ble_eq_true rfl), (Nat.le_of_ble_eq_true rfl)⟩ rfl rfl rfl rfl (by decide) rfl (Nat.le_of_ble_eq_true rfl) dX12_proves_93 ⟨(Nat.le_of_ble_eq_true rfl), (Nat.le_of_ble_eq_true rfl)⟩ (fun r_35 u_36 H locs hw_37 hP hD hS => ?_)
              have hP : va_P g.1 vwCl [(z 1, .inl (gI g, 461, .inl D)), (z 13, .inl (gI g, 60, .inl T)), (z 14, .inl (gI g, 480, .inl Bg)), (z 3, .inl (gI g, 4, .inl B)), (z 4, .inl (gI g, 4, .inl Z)), (z 5, .inl (gI g, 240, .inl M)), (z 0, .inr (12, [.ref (z 1), .ref (z 2), .int (nI kp), .int u_36, .ref (z 3), .ref (z 4), .ref (z 5), .ref (z 6), .int (xs 1), .ref (z 7), .ref (z 8), .ref (z 9), .ref (z 10), .ref (z 11), .ref (z 12), .int (xs 2), .ref (z 13), .ref (z 14), .int (xs 3), .ref (z 15)]))] H := hP
              have hD : va_D A [(z 1, .inl (gI g, 461, .inl D)), (z 13, .inl (gI g, 60, .inl T)), (z 14, .inl (gI g, 480, .inl Bg)), (z 3, .inl (gI g, 4, .inl B)), (z 4, .inl (gI g, 4, .inl Z)), (z 5, .inl (gI g, 240, .inl M)), (z 0, .inr (12, [.ref (z 1), .ref (z 2), .int (nI kp), .int u_36, .ref (z 3), .ref (z 4), .ref (z 5), .ref (z 6), .int (xs 1), .ref (z 7), .ref (z 8), .ref (z 9), .ref (z 10), .ref (z 11), .ref (z 12), .int (xs 2), .ref (z 13), .ref (z 14), .int (xs 3), .ref (z 15)]))] := hD
              have hw_37 : r_35 = (-100004) := hw_37
              subst hw_37
              exact k_iret ((fun kk_ => ([u_36, (xs 1), (xs 2), (xs 3)] : List Int32).getD kk_ 0), T, Bg) [6, 0, 1, 2, 3, 4, 5] hx hb hr hlk hP hD hS trivial rfl rfl rfl (Nat.le_of_ble_eq_true rfl) (Nat.le_of_ble_eq_true rfl) dX12_proves_96
      exact L30 (60 - 0 + 1) 0 (Nat.lt_succ_self _) (by first | assumption | omega) (fun k hk => absurd hk (by omega)) H locs (hP.sub [0, 1, 2, 3, 4, 5, 6] rfl) (hD.sub [0, 1, 2, 3, 4, 5, 6] (by decide) rfl) hS ls (lv_sub hl [0, 1, 2] rfl)
    · refine lv_aload_n hx hb dX12_proves_22 rfl (lv_at hl 0 rfl) ?_
      refine lv_iconst (v := 2) hx hb dX12_proves_23 (by decide) ?_
      refine k_Vi [0] [1, 2, 3, 4, 5, 6] 0 12 (wr := [(z 1, .inl (gI g, 461, .inl D)), (z 13, .inl (gI g, 60, .inl T)), (z 14, .inl (gI g, 480, .inl Bg)), (z 3, .inl (gI g, 4, .inl B)), (z 4, .inl (gI g, 4, .inl Z)), (z 5, .inl (gI g, 240, .inl M))]) hx hb hml hown hts hKW hP hD hS hA hl.1 (c_X12_finding_2 l g _ z kp xs ) rfl rfl rfl wd_10_15 wd_1_5 wd_10_12 wd_10_13 wd_10_14 yd_X12_finding ⟨(Nat.le_of_ble_eq_true rfl), (Nat.le_of_ble_eq_true rfl)⟩ rfl rfl rfl rfl (by decide) rfl (Nat.le_of_ble_eq_true rfl) dX12_proves_24 ⟨(Nat.le_of_ble_eq_true rfl), (Nat.le_of_ble_eq_true rfl)⟩ (fun r_38 u_39 H locs hw_40 hP hD hS => ?_)
      have hP : va_P g.1 vwCl [(z 1, .inl (gI g, 461, .inl D)), (z 13, .inl (gI g, 60, .inl T)), (z 14, .inl (gI g, 480, .inl Bg)), (z 3, .inl (gI g, 4, .inl B)), (z 4, .inl (gI g, 4, .inl Z)), (z 5, .inl (gI g, 240, .inl M)), (z 0, .inr (12, [.ref (z 1), .ref (z 2), .int (nI kp), .int u_39, .ref (z 3), .ref (z 4), .ref (z 5), .ref (z 6), .int (xs 1), .ref (z 7), .ref (z 8), .ref (z 9), .ref (z 10), .ref (z 11), .ref (z 12), .int (xs 2), .ref (z 13), .ref (z 14), .int (xs 3), .ref (z 15)]))] H := hP
      have hD : va_D A [(z 1, .inl (gI g, 461, .inl D)), (z 13, .inl (gI g, 60, .inl T)), (z 14, .inl (gI g, 480, .inl Bg)), (z 3, .inl (gI g, 4, .inl B)), (z 4, .inl (gI g, 4, .inl Z)), (z 5, .inl (gI g, 240, .inl M)), (z 0, .inr (12, [.ref (z 1), .ref (z 2), .int (nI kp), .int u_39, .ref (z 3), .ref (z 4), .ref (z 5), .ref (z 6), .int (xs 1), .ref (z 7), .ref (z 8), .ref (z 9), .ref (z 10), .ref (z 11), .ref (z 12), .int (xs 2), .ref (z 13), .ref (z 14), .int (xs 3), .ref (z 15)]))] := hD
      have hw_40 : r_38 = (-100002) := hw_40
      subst hw_40
      exact k_iret ((fun kk_ => ([u_39, (xs 1), (xs 2), (xs 3)] : List Int32).getD kk_ 0), T, Bg) [6, 0, 1, 2, 3, 4, 5] hx hb hr hlk hP hD hS trivial rfl rfl rfl (Nat.le_of_ble_eq_true rfl) (Nat.le_of_ble_eq_true rfl) dX12_proves_27
  · refine lv_if_ne (tgt := 13) hx hb dX12_proves_4 (by decide) (fun c => absurd c (by decide)) (fun _ => ?_)
    refine lv_aload_n hx hb dX12_proves_7 rfl (lv_at hl 0 rfl) ?_
    refine lv_iconst (v := 1) hx hb dX12_proves_8 (by decide) ?_
    refine k_Vi [0] [1, 2, 3, 4, 5, 6] 0 12 (wr := [(z 1, .inl (gI g, 461, .inl D)), (z 13, .inl (gI g, 60, .inl T)), (z 14, .inl (gI g, 480, .inl Bg)), (z 3, .inl (gI g, 4, .inl B)), (z 4, .inl (gI g, 4, .inl Z)), (z 5, .inl (gI g, 240, .inl M))]) hx hb hml hown hts hKW hP hD hS hA hl.1 (c_X12_finding_1 l g _ z kp xs ) rfl rfl rfl wd_10_15 wd_1_5 wd_10_12 wd_10_13 wd_10_14 yd_X12_finding ⟨(Nat.le_of_ble_eq_true rfl), (Nat.le_of_ble_eq_true rfl)⟩ rfl rfl rfl rfl (by decide) rfl (Nat.le_of_ble_eq_true rfl) dX12_proves_9 ⟨(Nat.le_of_ble_eq_true rfl), (Nat.le_of_ble_eq_true rfl)⟩ (fun r_41 u_42 H locs hw_43 hP hD hS => ?_)
    have hP : va_P g.1 vwCl [(z 1, .inl (gI g, 461, .inl D)), (z 13, .inl (gI g, 60, .inl T)), (z 14, .inl (gI g, 480, .inl Bg)), (z 3, .inl (gI g, 4, .inl B)), (z 4, .inl (gI g, 4, .inl Z)), (z 5, .inl (gI g, 240, .inl M)), (z 0, .inr (12, [.ref (z 1), .ref (z 2), .int (nI kp), .int u_42, .ref (z 3), .ref (z 4), .ref (z 5), .ref (z 6), .int (xs 1), .ref (z 7), .ref (z 8), .ref (z 9), .ref (z 10), .ref (z 11), .ref (z 12), .int (xs 2), .ref (z 13), .ref (z 14), .int (xs 3), .ref (z 15)]))] H := hP
    have hD : va_D A [(z 1, .inl (gI g, 461, .inl D)), (z 13, .inl (gI g, 60, .inl T)), (z 14, .inl (gI g, 480, .inl Bg)), (z 3, .inl (gI g, 4, .inl B)), (z 4, .inl (gI g, 4, .inl Z)), (z 5, .inl (gI g, 240, .inl M)), (z 0, .inr (12, [.ref (z 1), .ref (z 2), .int (nI kp), .int u_42, .ref (z 3), .ref (z 4), .ref (z 5), .ref (z 6), .int (xs 1), .ref (z 7), .ref (z 8), .ref (z 9), .ref (z 10), .ref (z 11), .ref (z 12), .int (xs 2), .ref (z 13), .ref (z 14), .int (xs 3), .ref (z 15)]))] := hD
    have hw_43 : r_41 = (-100001) := hw_43
    subst hw_43
    exact k_iret ((fun kk_ => ([u_42, (xs 1), (xs 2), (xs 3)] : List Int32).getD kk_ 0), T, Bg) [6, 0, 1, 2, 3, 4, 5] hx hb hr hlk hP hD hS trivial rfl rfl rfl (Nat.le_of_ble_eq_true rfl) (Nat.le_of_ble_eq_true rfl) dX12_proves_12
theorem dX12_keep_0 : decode cX12_keep 0 = .ok (.aload_n 0, 1) := by decide +kernel
theorem dX12_keep_1 : decode cX12_keep 1 = .ok (.getfield 61, 3) := by decide +kernel
theorem dX12_keep_4 : decode cX12_keep 4 = .ok (.bipush 16, 2) := by decide +kernel
theorem dX12_keep_6 : decode cX12_keep 6 = .ok (.if_icmp .ne 44, 3) := by decide +kernel
theorem dX12_keep_50 : decode cX12_keep 50 = .ok (.iconst 0, 1) := by decide +kernel
theorem dX12_keep_51 : decode cX12_keep 51 = .ok (.istore_n 1, 1) := by decide +kernel
theorem dX12_keep_52 : decode cX12_keep 52 = .ok (.iload_n 1, 1) := by decide +kernel
theorem dX12_keep_53 : decode cX12_keep 53 = .ok (.sipush 461, 3) := by decide +kernel
theorem dX12_keep_56 : decode cX12_keep 56 = .ok (.if_icmp .ge 30, 3) := by decide +kernel
theorem dX12_keep_86 : decode cX12_keep 86 = .ok (.aload_n 0, 1) := by decide +kernel
theorem dX12_keep_87 : decode cX12_keep 87 = .ok (.dup, 1) := by decide +kernel
theorem dX12_keep_88 : decode cX12_keep 88 = .ok (.getfield 61, 3) := by decide +kernel
theorem dX12_keep_91 : decode cX12_keep 91 = .ok (.iconst 1, 1) := by decide +kernel
theorem dX12_keep_92 : decode cX12_keep 92 = .ok (.iadd, 1) := by decide +kernel
theorem dX12_keep_93 : decode cX12_keep 93 = .ok (.putfield 61, 3) := by decide +kernel
theorem dX12_keep_96 : decode cX12_keep 96 = .ok (.return_, 1) := by decide +kernel
theorem dX12_keep_59 : decode cX12_keep 59 = .ok (.aload_n 0, 1) := by decide +kernel
theorem dX12_keep_60 : decode cX12_keep 60 = .ok (.getfield 13, 3) := by decide +kernel
theorem dX12_keep_63 : decode cX12_keep 63 = .ok (.sipush 461, 3) := by decide +kernel
theorem dX12_keep_66 : decode cX12_keep 66 = .ok (.aload_n 0, 1) := by decide +kernel
theorem dX12_keep_67 : decode cX12_keep 67 = .ok (.getfield 61, 3) := by decide +kernel
theorem dX12_keep_70 : decode cX12_keep 70 = .ok (.imul, 1) := by decide +kernel
theorem dX12_keep_71 : decode cX12_keep 71 = .ok (.iload_n 1, 1) := by decide +kernel
theorem dX12_keep_72 : decode cX12_keep 72 = .ok (.iadd, 1) := by decide +kernel
theorem dX12_keep_73 : decode cX12_keep 73 = .ok (.aload_n 0, 1) := by decide +kernel
theorem dX12_keep_74 : decode cX12_keep 74 = .ok (.getfield 7, 3) := by decide +kernel
theorem dX12_keep_77 : decode cX12_keep 77 = .ok (.iload_n 1, 1) := by decide +kernel
theorem dX12_keep_78 : decode cX12_keep 78 = .ok (.iaload, 1) := by decide +kernel
theorem dX12_keep_79 : decode cX12_keep 79 = .ok (.iastore, 1) := by decide +kernel
theorem dX12_keep_80 : decode cX12_keep 80 = .ok (.iinc 1 1, 3) := by decide +kernel
theorem dX12_keep_83 : decode cX12_keep 83 = .ok (.goto (-31), 3) := by decide +kernel
theorem dX12_keep_9 : decode cX12_keep 9 = .ok (.iconst 0, 1) := by decide +kernel
theorem dX12_keep_10 : decode cX12_keep 10 = .ok (.istore_n 1, 1) := by decide +kernel
theorem dX12_keep_11 : decode cX12_keep 11 = .ok (.iload_n 1, 1) := by decide +kernel
theorem dX12_keep_12 : decode cX12_keep 12 = .ok (.sipush 6915, 3) := by decide +kernel
theorem dX12_keep_15 : decode cX12_keep 15 = .ok (.if_icmp .ge 25, 3) := by decide +kernel
theorem dX12_keep_40 : decode cX12_keep 40 = .ok (.aload_n 0, 1) := by decide +kernel
theorem dX12_keep_41 : decode cX12_keep 41 = .ok (.dup, 1) := by decide +kernel
theorem dX12_keep_42 : decode cX12_keep 42 = .ok (.getfield 61, 3) := by decide +kernel
theorem dX12_keep_45 : decode cX12_keep 45 = .ok (.iconst 1, 1) := by decide +kernel
theorem dX12_keep_46 : decode cX12_keep 46 = .ok (.isub, 1) := by decide +kernel
theorem dX12_keep_47 : decode cX12_keep 47 = .ok (.putfield 61, 3) := by decide +kernel
theorem dX12_keep_18 : decode cX12_keep 18 = .ok (.aload_n 0, 1) := by decide +kernel
theorem dX12_keep_19 : decode cX12_keep 19 = .ok (.getfield 13, 3) := by decide +kernel
theorem dX12_keep_22 : decode cX12_keep 22 = .ok (.iload_n 1, 1) := by decide +kernel
theorem dX12_keep_23 : decode cX12_keep 23 = .ok (.aload_n 0, 1) := by decide +kernel
theorem dX12_keep_24 : decode cX12_keep 24 = .ok (.getfield 13, 3) := by decide +kernel
theorem dX12_keep_27 : decode cX12_keep 27 = .ok (.iload_n 1, 1) := by decide +kernel
theorem dX12_keep_28 : decode cX12_keep 28 = .ok (.sipush 461, 3) := by decide +kernel
theorem dX12_keep_31 : decode cX12_keep 31 = .ok (.iadd, 1) := by decide +kernel
theorem dX12_keep_32 : decode cX12_keep 32 = .ok (.iaload, 1) := by decide +kernel
theorem dX12_keep_33 : decode cX12_keep 33 = .ok (.iastore, 1) := by decide +kernel
theorem dX12_keep_34 : decode cX12_keep 34 = .ok (.iinc 1 1, 3) := by decide +kernel
theorem dX12_keep_37 : decode cX12_keep 37 = .ok (.goto (-26), 3) := by decide +kernel
set_option maxHeartbeats 8000000 in
set_option maxRecDepth 100000 in
theorem c_X12_keep (l : Launch) (g : kG) (sz : Nat) (z : Nat → Nat) (kp : Nat) (xs : Nat → Int32) (D : Nat → Int32) (Wk : Nat → Int32) (hDI : DI D) (hkp : kp ≤ 16) (hWI : WI Wk kp) : kMv l g yX12_keep cX12_keep 2 none 1 0 0 [.ref (z 0)] sz [(z 0, .inr (12, [.ref (z 1), .ref (z 2), .int (nI kp), .int (xs 0), .ref (z 3), .ref (z 4), .ref (z 5), .ref (z 6), .int (xs 1), .ref (z 7), .ref (z 8), .ref (z 9), .ref (z 10), .ref (z 11), .ref (z 12), .int (xs 2), .ref (z 13), .ref (z 14), .int (xs 3), .ref (z 15)])), (z 1, .inl (gI g, 461, .inl D)), (z 2, .inl (gI g, 7376, .inl Wk))] (fun (u : Nat × (Nat → Int32)) => u.1 ≤ 16 ∧ WI u.2 u.1) (fun (u : Nat × (Nat → Int32)) => ([(z 0, .inr (12, [.ref (z 1), .ref (z 2), .int (nI u.1), .int (xs 0), .ref (z 3), .ref (z 4), .ref (z 5), .ref (z 6), .int (xs 1), .ref (z 7), .ref (z 8), .ref (z 9), .ref (z 10), .ref (z 11), .ref (z 12), .int (xs 2), .ref (z 13), .ref (z 14), .int (xs 3), .ref (z 15)])), (z 1, .inl (gI g, 461, .inl D)), (z 2, .inl (gI g, 7376, .inl u.2))] : va_W)) := by
  refine kMv.of (by decide) (Nat.le_of_ble_eq_true rfl) (fun p e s m below meth c A hx hb hr hml hown hts hlk hnm hKW hP hD hS hA ls hl => ?_)
  have hown : s.vm.findClass RX12 = some m.cls := hown
  have hl : lv_has ls 2 [(0, .ref (z 0))] := hl
  refine k_hide hP hS (fun H locs hP hS => ?_)
  refine lv_aload_n hx hb dX12_keep_0 rfl (lv_at hl 0 rfl) ?_
  refine va_get (ci := 12) (C := RX12) (T := TX12) (N := 20) hx hb hts inlX12 hown hKW.1 hP 0 rfl rfl 2 (by decide) (hts _ wd_10_22) (fun _ h => h) rfl dX12_keep_1 ?_
  refine lv_bipush (v := 16) hx hb dX12_keep_4 (by decide) ?_
  refine lv_icmp_ne (tgt := 50) hx hb dX12_keep_6 (by decide) (fun c_1 => ?_) (fun c_1 => ?_)
  · have c_1n : ¬ kp = 16 := fun h => c_1 ((k_eqI (a := kp) (b := 16) (by omega) (by omega)).mpr h)
    refine lv_iconst (v := 0) hx hb dX12_keep_50 (by decide) ?_
    refine lv_istore_n (lv' := [(1, .int 0), (0, .ref (z 0))]) hx hb dX12_keep_51 rfl hl (by decide) rfl (fun ls hl => ?_)
    have L52 : ∀ (n52 : Nat) (i : Nat) (Wb : Nat → Int32) (hfuel52 : 461 - i < n52) (hi : i ≤ 461) (hcp : kCpB Wk Wb D kp i) (H : Heap) (locs : List Loc) (hP : va_P g.1 vwCl [(z 0, .inr (12, [.ref (z 1), .ref (z 2), .int (nI kp), .int (xs 0), .ref (z 3), .ref (z 4), .ref (z 5), .ref (z 6), .int (xs 1), .ref (z 7), .ref (z 8), .ref (z 9), .ref (z 10), .ref (z 11), .ref (z 12), .int (xs 2), .ref (z 13), .ref (z 14), .int (xs 3), .ref (z 15)])), (z 1, .inl (gI g, 461, .inl D)), (z 2, .inl (gI g, 7376, .inl Wb))] H) (hD : va_D A [(z 0, .inr (12, [.ref (z 1), .ref (z 2), .int (nI kp), .int (xs 0), .ref (z 3), .ref (z 4), .ref (z 5), .ref (z 6), .int (xs 1), .ref (z 7), .ref (z 8), .ref (z 9), .ref (z 10), .ref (z 11), .ref (z 12), .int (xs 2), .ref (z 13), .ref (z 14), .int (xs 3), .ref (z 15)])), (z 1, .inl (gI g, 461, .inl D)), (z 2, .inl (gI g, 7376, .inl Wb))]) (hS : va_S A s.heap H locs) (ls : Array Slot) (hl : lv_has ls 2 [(1, .int (nI i)), (0, .ref (z 0))]), W p l e (kR 1 0 0) s m ([.ref (z 0)] : List Value).toArray below meth c H locs 0 0 (kQv g A below ([.ref (z 0)] : List Value).toArray s 0 0 (fun (u : Nat × (Nat → Int32)) => u.1 ≤ 16 ∧ WI u.2 u.1) (fun (u : Nat × (Nat → Int32)) => ([(z 0, .inr (12, [.ref (z 1), .ref (z 2), .int (nI u.1), .int (xs 0), .ref (z 3), .ref (z 4), .ref (z 5), .ref (z 6), .int (xs 1), .ref (z 7), .ref (z 8), .ref (z 9), .ref (z 10), .ref (z 11), .ref (z 12), .int (xs 2), .ref (z 13), .ref (z 14), .int (xs 3), .ref (z 15)])), (z 1, .inl (gI g, 461, .inl D)), (z 2, .inl (gI g, 7376, .inl u.2))] : va_W))) (F0 m 52 ls []) := by
      intro n52
      induction n52 with
      | zero => intro i Wb hfuel52; exact absurd hfuel52 (Nat.not_lt_zero _)
      | succ n52 ih52 =>
        intro i Wb hfuel52 hi hcp H locs hP hD hS ls hl
        refine lv_iload_n hx hb dX12_keep_52 rfl (lv_at hl 0 rfl) ?_
        refine lv_sipush (v := 461) hx hb dX12_keep_53 (by decide) ?_
        refine lv_icmp_ge (tgt := 86) hx hb dX12_keep_56 (by decide) (fun c_2 => ?_) (fun c_2 => ?_)
        · have c_2n : 461 ≤ i := (k_leI (a := 461) (b := i) (by omega) (by omega)).mp c_2
          refine lv_aload_n hx hb dX12_keep_86 rfl (lv_at hl 1 rfl) ?_
          refine lv_dup hx hb dX12_keep_87 rfl ?_
          refine va_get (ci := 12) (C := RX12) (T := TX12) (N := 20) hx hb hts inlX12 hown hKW.1 hP 0 rfl rfl 2 (by decide) (hts _ wd_10_22) (fun _ h => h) rfl dX12_keep_88 ?_
          refine lv_iconst (v := 1) hx hb dX12_keep_91 (by decide) ?_
          refine lv_iadd hx hb dX12_keep_92 ?_
          refine k_top (y := nI (kp + 1)) (nI_add kp 1) ?_
          refine va_put (ci := 12) (v := .int (nI (kp + 1))) (C := RX12) (T := TX12) (N := 20) hx hb hts inlX12 tyX12 tyX12_ok nmX12 hown hKW.1 hP hD hS 0 rfl rfl 2 (by decide) (hts _ wd_10_22) (fun _ h => h) rfl (tyX12_ok 2 (by decide)) rfl rfl (Nat.le_of_ble_eq_true rfl) dX12_keep_93 (fun H locs hP hD hS => ?_)
          have hP : va_P g.1 vwCl [(z 0, .inr (12, [.ref (z 1), .ref (z 2), .int (nI (kp + 1)), .int (xs 0), .ref (z 3), .ref (z 4), .ref (z 5), .ref (z 6), .int (xs 1), .ref (z 7), .ref (z 8), .ref (z 9), .ref (z 10), .ref (z 11), .ref (z 12), .int (xs 2), .ref (z 13), .ref (z 14), .int (xs 3), .ref (z 15)])), (z 1, .inl (gI g, 461, .inl D)), (z 2, .inl (gI g, 7376, .inl Wb))] H := hP
          have hD : va_D A [(z 0, .inr (12, [.ref (z 1), .ref (z 2), .int (nI (kp + 1)), .int (xs 0), .ref (z 3), .ref (z 4), .ref (z 5), .ref (z 6), .int (xs 1), .ref (z 7), .ref (z 8), .ref (z 9), .ref (z 10), .ref (z 11), .ref (z 12), .int (xs 2), .ref (z 13), .ref (z 14), .int (xs 3), .ref (z 15)])), (z 1, .inl (gI g, 461, .inl D)), (z 2, .inl (gI g, 7376, .inl Wb))] := hD
          exact k_vret ((kp + 1), Wb) [0, 1, 2] hx hb hr hlk hP hD hS (⟨by omega, k_cpBW (by omega) hcp (by omega) hWI hDI⟩) rfl rfl rfl (Nat.le_of_ble_eq_true rfl) (Nat.le_of_ble_eq_true rfl) dX12_keep_96
        · have c_2n : i < 461 := Nat.not_le.mp (fun h => c_2 ((k_leI (a := 461) (b := i) (by omega) (by omega)).mpr h))
          refine lv_aload_n hx hb dX12_keep_59 rfl (lv_at hl 1 rfl) ?_
          refine va_get (ci := 12) (C := RX12) (T := TX12) (N := 20) hx hb hts inlX12 hown hKW.1 hP 0 rfl rfl 1 (by decide) (hts _ wd_6_6) (fun _ h => h) rfl dX12_keep_60 ?_
          refine lv_sipush (v := 461) hx hb dX12_keep_63 (by decide) ?_
          refine lv_aload_n hx hb dX12_keep_66 rfl (lv_at hl 1 rfl) ?_
          refine va_get (ci := 12) (C := RX12) (T := TX12) (N := 20) hx hb hts inlX12 hown hKW.1 hP 0 rfl rfl 2 (by decide) (hts _ wd_10_22) (fun _ h => h) rfl dX12_keep_67 ?_
          refine lv_imul hx hb dX12_keep_70 ?_
          refine k_top (y := nI (461 * kp)) (show (461 : Int32) * nI kp = nI (461 * kp) from k_nmul 461 kp) ?_
          refine lv_iload_n hx hb dX12_keep_71 rfl (lv_at hl 0 rfl) ?_
          refine lv_iadd hx hb dX12_keep_72 ?_
          refine k_top (y := nI ((461 * kp) + i)) (nI_add (461 * kp) i) ?_
          refine lv_aload_n hx hb dX12_keep_73 rfl (lv_at hl 1 rfl) ?_
          refine va_get (ci := 12) (C := RX12) (T := TX12) (N := 20) hx hb hts inlX12 hown hKW.1 hP 0 rfl rfl 0 (by decide) (hts _ wd_6_5) (fun _ h => h) rfl dX12_keep_74 ?_
          refine lv_iload_n hx hb dX12_keep_77 rfl (lv_at hl 0 rfl) ?_
          refine va_iald hx hb hKW.1 hP 1 0 rfl rfl (vp_in_nI (by omega) (by decide)) dX12_keep_78 ?_
          refine lv_topi (fun x_3 ex_3 => ?_)
          refine va_iast hx hb hKW.1 hP hD hS 2 0 rfl rfl (vp_in_nI (by omega) (by decide)) dX12_keep_79 (fun H locs hP hD hS => ?_)
          have hP : va_P g.1 vwCl [(z 0, .inr (12, [.ref (z 1), .ref (z 2), .int (nI kp), .int (xs 0), .ref (z 3), .ref (z 4), .ref (z 5), .ref (z 6), .int (xs 1), .ref (z 7), .ref (z 8), .ref (z 9), .ref (z 10), .ref (z 11), .ref (z 12), .int (xs 2), .ref (z 13), .ref (z 14), .int (xs 3), .ref (z 15)])), (z 1, .inl (gI g, 461, .inl D)), (z 2, .inl (gI g, 7376, .inl (upd Wb (nI ((461 * kp) + i)).toNatClampNeg x_3)))] H := hP
          have hD : va_D A [(z 0, .inr (12, [.ref (z 1), .ref (z 2), .int (nI kp), .int (xs 0), .ref (z 3), .ref (z 4), .ref (z 5), .ref (z 6), .int (xs 1), .ref (z 7), .ref (z 8), .ref (z 9), .ref (z 10), .ref (z 11), .ref (z 12), .int (xs 2), .ref (z 13), .ref (z 14), .int (xs 3), .ref (z 15)])), (z 1, .inl (gI g, 461, .inl D)), (z 2, .inl (gI g, 7376, .inl (upd Wb (nI ((461 * kp) + i)).toNatClampNeg x_3)))] := hD
          obtain ⟨f_4, ef_4⟩ : ∃ zz_ : Nat → Int32, zz_ = upd Wb (nI ((461 * kp) + i)).toNatClampNeg x_3 := ⟨_, rfl⟩
          rw [← ef_4] at hP hD
          refine lv_iinc (v := nI (i + 1)) (lv' := [(1, .int (nI (i + 1))), (0, .ref (z 0))]) hx hb dX12_keep_80 hl (k := 0) rfl (nI_add i 1) (by decide) rfl (fun ls hl => ?_)
          refine lv_goto (tgt := 52) hx hb dX12_keep_83 (by decide) ?_
          exact ih52 (i + 1) f_4 (by omega) (by first | assumption | omega) (k_cpBS hcp (by omega) (by omega) ex_3 ef_4) H locs (hP.sub [0, 1, 2] rfl) (hD.sub [0, 1, 2] (by decide) rfl) hS ls (lv_sub hl [0, 1] rfl)
    exact L52 (461 - 0 + 1) 0 Wk (Nat.lt_succ_self _) (by first | assumption | omega) k_cpB0 H locs (hP.sub [0, 1, 2] rfl) (hD.sub [0, 1, 2] (by decide) rfl) hS ls (lv_sub hl [0, 1] rfl)
  · have c_1n : kp = 16 := (k_eqI (a := kp) (b := 16) (by omega) (by omega)).mp c_1
    refine lv_iconst (v := 0) hx hb dX12_keep_9 (by decide) ?_
    refine lv_istore_n (lv' := [(1, .int 0), (0, .ref (z 0))]) hx hb dX12_keep_10 rfl hl (by decide) rfl (fun ls hl => ?_)
    have L11 : ∀ (n11 : Nat) (i : Nat) (Wa : Nat → Int32) (hfuel11 : 6915 - i < n11) (hi : i ≤ 6915) (hs : kShf Wk Wa i) (H : Heap) (locs : List Loc) (hP : va_P g.1 vwCl [(z 0, .inr (12, [.ref (z 1), .ref (z 2), .int (nI kp), .int (xs 0), .ref (z 3), .ref (z 4), .ref (z 5), .ref (z 6), .int (xs 1), .ref (z 7), .ref (z 8), .ref (z 9), .ref (z 10), .ref (z 11), .ref (z 12), .int (xs 2), .ref (z 13), .ref (z 14), .int (xs 3), .ref (z 15)])), (z 1, .inl (gI g, 461, .inl D)), (z 2, .inl (gI g, 7376, .inl Wa))] H) (hD : va_D A [(z 0, .inr (12, [.ref (z 1), .ref (z 2), .int (nI kp), .int (xs 0), .ref (z 3), .ref (z 4), .ref (z 5), .ref (z 6), .int (xs 1), .ref (z 7), .ref (z 8), .ref (z 9), .ref (z 10), .ref (z 11), .ref (z 12), .int (xs 2), .ref (z 13), .ref (z 14), .int (xs 3), .ref (z 15)])), (z 1, .inl (gI g, 461, .inl D)), (z 2, .inl (gI g, 7376, .inl Wa))]) (hS : va_S A s.heap H locs) (ls : Array Slot) (hl : lv_has ls 2 [(1, .int (nI i)), (0, .ref (z 0))]), W p l e (kR 1 0 0) s m ([.ref (z 0)] : List Value).toArray below meth c H locs 0 0 (kQv g A below ([.ref (z 0)] : List Value).toArray s 0 0 (fun (u : Nat × (Nat → Int32)) => u.1 ≤ 16 ∧ WI u.2 u.1) (fun (u : Nat × (Nat → Int32)) => ([(z 0, .inr (12, [.ref (z 1), .ref (z 2), .int (nI u.1), .int (xs 0), .ref (z 3), .ref (z 4), .ref (z 5), .ref (z 6), .int (xs 1), .ref (z 7), .ref (z 8), .ref (z 9), .ref (z 10), .ref (z 11), .ref (z 12), .int (xs 2), .ref (z 13), .ref (z 14), .int (xs 3), .ref (z 15)])), (z 1, .inl (gI g, 461, .inl D)), (z 2, .inl (gI g, 7376, .inl u.2))] : va_W))) (F0 m 11 ls []) := by
      intro n11
      induction n11 with
      | zero => intro i Wa hfuel11; exact absurd hfuel11 (Nat.not_lt_zero _)
      | succ n11 ih11 =>
        intro i Wa hfuel11 hi hs H locs hP hD hS ls hl
        refine lv_iload_n hx hb dX12_keep_11 rfl (lv_at hl 0 rfl) ?_
        refine lv_sipush (v := 6915) hx hb dX12_keep_12 (by decide) ?_
        refine lv_icmp_ge (tgt := 40) hx hb dX12_keep_15 (by decide) (fun c_5 => ?_) (fun c_5 => ?_)
        · have c_5n : 6915 ≤ i := (k_leI (a := 6915) (b := i) (by omega) (by omega)).mp c_5
          have hWs : WI Wa (kp - 1) := k_shfW (by omega) hs (by omega) hWI
          refine lv_aload_n hx hb dX12_keep_40 rfl (lv_at hl 1 rfl) ?_
          refine lv_dup hx hb dX12_keep_41 rfl ?_
          refine va_get (ci := 12) (C := RX12) (T := TX12) (N := 20) hx hb hts inlX12 hown hKW.1 hP 0 rfl rfl 2 (by decide) (hts _ wd_10_22) (fun _ h => h) rfl dX12_keep_42 ?_
          refine lv_iconst (v := 1) hx hb dX12_keep_45 (by decide) ?_
          refine lv_isub hx hb dX12_keep_46 ?_
          refine k_top (y := nI (kp - 1)) (k_sub (b := 1) (by omega)) ?_
          refine va_put (ci := 12) (v := .int (nI (kp - 1))) (C := RX12) (T := TX12) (N := 20) hx hb hts inlX12 tyX12 tyX12_ok nmX12 hown hKW.1 hP hD hS 0 rfl rfl 2 (by decide) (hts _ wd_10_22) (fun _ h => h) rfl (tyX12_ok 2 (by decide)) rfl rfl (Nat.le_of_ble_eq_true rfl) dX12_keep_47 (fun H locs hP hD hS => ?_)
          have hP : va_P g.1 vwCl [(z 0, .inr (12, [.ref (z 1), .ref (z 2), .int (nI (kp - 1)), .int (xs 0), .ref (z 3), .ref (z 4), .ref (z 5), .ref (z 6), .int (xs 1), .ref (z 7), .ref (z 8), .ref (z 9), .ref (z 10), .ref (z 11), .ref (z 12), .int (xs 2), .ref (z 13), .ref (z 14), .int (xs 3), .ref (z 15)])), (z 1, .inl (gI g, 461, .inl D)), (z 2, .inl (gI g, 7376, .inl Wa))] H := hP
          have hD : va_D A [(z 0, .inr (12, [.ref (z 1), .ref (z 2), .int (nI (kp - 1)), .int (xs 0), .ref (z 3), .ref (z 4), .ref (z 5), .ref (z 6), .int (xs 1), .ref (z 7), .ref (z 8), .ref (z 9), .ref (z 10), .ref (z 11), .ref (z 12), .int (xs 2), .ref (z 13), .ref (z 14), .int (xs 3), .ref (z 15)])), (z 1, .inl (gI g, 461, .inl D)), (z 2, .inl (gI g, 7376, .inl Wa))] := hD
          refine lv_iconst (v := 0) hx hb dX12_keep_50 (by decide) ?_
          refine lv_istore_n (lv' := [(1, .int 0), (0, .ref (z 0))]) hx hb dX12_keep_51 rfl hl (by decide) rfl (fun ls hl => ?_)
          have L52 : ∀ (n52 : Nat) (i : Nat) (Wb : Nat → Int32) (hfuel52 : 461 - i < n52) (hi : i ≤ 461) (hcp : kCpB Wa Wb D (kp - 1) i) (H : Heap) (locs : List Loc) (hP : va_P g.1 vwCl [(z 0, .inr (12, [.ref (z 1), .ref (z 2), .int (nI (kp - 1)), .int (xs 0), .ref (z 3), .ref (z 4), .ref (z 5), .ref (z 6), .int (xs 1), .ref (z 7), .ref (z 8), .ref (z 9), .ref (z 10), .ref (z 11), .ref (z 12), .int (xs 2), .ref (z 13), .ref (z 14), .int (xs 3), .ref (z 15)])), (z 1, .inl (gI g, 461, .inl D)), (z 2, .inl (gI g, 7376, .inl Wb))] H) (hD : va_D A [(z 0, .inr (12, [.ref (z 1), .ref (z 2), .int (nI (kp - 1)), .int (xs 0), .ref (z 3), .ref (z 4), .ref (z 5), .ref (z 6), .int (xs 1), .ref (z 7), .ref (z 8), .ref (z 9), .ref (z 10), .ref (z 11), .ref (z 12), .int (xs 2), .ref (z 13), .ref (z 14), .int (xs 3), .ref (z 15)])), (z 1, .inl (gI g, 461, .inl D)), (z 2, .inl (gI g, 7376, .inl Wb))]) (hS : va_S A s.heap H locs) (ls : Array Slot) (hl : lv_has ls 2 [(1, .int (nI i)), (0, .ref (z 0))]), W p l e (kR 1 0 0) s m ([.ref (z 0)] : List Value).toArray below meth c H locs 0 0 (kQv g A below ([.ref (z 0)] : List Value).toArray s 0 0 (fun (u : Nat × (Nat → Int32)) => u.1 ≤ 16 ∧ WI u.2 u.1) (fun (u : Nat × (Nat → Int32)) => ([(z 0, .inr (12, [.ref (z 1), .ref (z 2), .int (nI u.1), .int (xs 0), .ref (z 3), .ref (z 4), .ref (z 5), .ref (z 6), .int (xs 1), .ref (z 7), .ref (z 8), .ref (z 9), .ref (z 10), .ref (z 11), .ref (z 12), .int (xs 2), .ref (z 13), .ref (z 14), .int (xs 3), .ref (z 15)])), (z 1, .inl (gI g, 461, .inl D)), (z 2, .inl (gI g, 7376, .inl u.2))] : va_W))) (F0 m 52 ls []) := by
            intro n52
            induction n52 with
            | zero => intro i Wb hfuel52; exact absurd hfuel52 (Nat.not_lt_zero _)
            | succ n52 ih52 =>
              intro i Wb hfuel52 hi hcp H locs hP hD hS ls hl
              refine lv_iload_n hx hb dX12_keep_52 rfl (lv_at hl 0 rfl) ?_
              refine lv_sipush (v := 461) hx hb dX12_keep_53 (by decide) ?_
              refine lv_icmp_ge (tgt := 86) hx hb dX12_keep_56 (by decide) (fun c_6 => ?_) (fun c_6 => ?_)
              · have c_6n : 461 ≤ i := (k_leI (a := 461) (b := i) (by omega) (by omega)).mp c_6
                refine lv_aload_n hx hb dX12_keep_86 rfl (lv_at hl 1 rfl) ?_
                refine lv_dup hx hb dX12_keep_87 rfl ?_
                refine va_get (ci := 12) (C := RX12) (T := TX12) (N := 20) hx hb hts inlX12 hown hKW.1 hP 0 rfl rfl 2 (by decide) (hts _ wd_10_22) (fun _ h => h) rfl dX12_keep_88 ?_
                refine lv_iconst (v := 1) hx hb dX12_keep_91 (by decide) ?_
                refine lv_iadd hx hb dX12_keep_92 ?_
                refine k_top (y := nI ((kp - 1) + 1)) (nI_add (kp - 1) 1) ?_
                refine va_put (ci := 12) (v := .int (nI ((kp - 1) + 1))) (C := RX12) (T := TX12) (N := 20) hx hb hts inlX12 tyX12 tyX12_ok nmX12 hown hKW.1 hP hD hS 0 rfl rfl 2 (by decide) (hts _ wd_10_22) (fun _ h => h) rfl (tyX12_ok 2 (by decide)) rfl rfl (Nat.le_of_ble_eq_true rfl) dX12_keep_93 (fun H locs hP hD hS => ?_)
                have hP : va_P g.1 vwCl [(z 0, .inr (12, [.ref (z 1), .ref (z 2), .int (nI ((kp - 1) + 1)), .int (xs 0), .ref (z 3), .ref (z 4), .ref (z 5), .ref (z 6), .int (xs 1), .ref (z 7), .ref (z 8), .ref (z 9), .ref (z 10), .ref (z 11), .ref (z 12), .int (xs 2), .ref (z 13), .ref (z 14), .int (xs 3), .ref (z 15)])), (z 1, .inl (gI g, 461, .inl D)), (z 2, .inl (gI g, 7376, .inl Wb))] H := hP
                have hD : va_D A [(z 0, .inr (12, [.ref (z 1), .ref (z 2), .int (nI ((kp - 1) + 1)), .int (xs 0), .ref (z 3), .ref (z 4), .ref (z 5), .ref (z 6), .int (xs 1), .ref (z 7), .ref (z 8), .ref (z 9), .ref (z 10), .ref (z 11), .ref (z 12), .int (xs 2), .ref (z 13), .ref (z 14), .int (xs 3), .ref (z 15)])), (z 1, .inl (gI g, 461, .inl D)), (z 2, .inl (gI g, 7376, .inl Wb))] := hD
                exact k_vret (((kp - 1) + 1), Wb) [0, 1, 2] hx hb hr hlk hP hD hS (⟨by omega, k_cpBW (by omega) hcp (by omega) hWs hDI⟩) rfl rfl rfl (Nat.le_of_ble_eq_true rfl) (Nat.le_of_ble_eq_true rfl) dX12_keep_96
              · have c_6n : i < 461 := Nat.not_le.mp (fun h => c_6 ((k_leI (a := 461) (b := i) (by omega) (by omega)).mpr h))
                refine lv_aload_n hx hb dX12_keep_59 rfl (lv_at hl 1 rfl) ?_
                refine va_get (ci := 12) (C := RX12) (T := TX12) (N := 20) hx hb hts inlX12 hown hKW.1 hP 0 rfl rfl 1 (by decide) (hts _ wd_6_6) (fun _ h => h) rfl dX12_keep_60 ?_
                refine lv_sipush (v := 461) hx hb dX12_keep_63 (by decide) ?_
                refine lv_aload_n hx hb dX12_keep_66 rfl (lv_at hl 1 rfl) ?_
                refine va_get (ci := 12) (C := RX12) (T := TX12) (N := 20) hx hb hts inlX12 hown hKW.1 hP 0 rfl rfl 2 (by decide) (hts _ wd_10_22) (fun _ h => h) rfl dX12_keep_67 ?_
                refine lv_imul hx hb dX12_keep_70 ?_
                refine k_top (y := nI (461 * (kp - 1))) (show (461 : Int32) * nI (kp - 1) = nI (461 * (kp - 1)) from k_nmul 461 (kp - 1)) ?_
                refine lv_iload_n hx hb dX12_keep_71 rfl (lv_at hl 0 rfl) ?_
                refine lv_iadd hx hb dX12_keep_72 ?_
                refine k_top (y := nI ((461 * (kp - 1)) + i)) (nI_add (461 * (kp - 1)) i) ?_
                refine lv_aload_n hx hb dX12_keep_73 rfl (lv_at hl 1 rfl) ?_
                refine va_get (ci := 12) (C := RX12) (T := TX12) (N := 20) hx hb hts inlX12 hown hKW.1 hP 0 rfl rfl 0 (by decide) (hts _ wd_6_5) (fun _ h => h) rfl dX12_keep_74 ?_
                refine lv_iload_n hx hb dX12_keep_77 rfl (lv_at hl 0 rfl) ?_
                refine va_iald hx hb hKW.1 hP 1 0 rfl rfl (vp_in_nI (by omega) (by decide)) dX12_keep_78 ?_
                refine lv_topi (fun x_7 ex_7 => ?_)
                refine va_iast hx hb hKW.1 hP hD hS 2 0 rfl rfl (vp_in_nI (by omega) (by decide)) dX12_keep_79 (fun H locs hP hD hS => ?_)
                have hP : va_P g.1 vwCl [(z 0, .inr (12, [.ref (z 1), .ref (z 2), .int (nI (kp - 1)), .int (xs 0), .ref (z 3), .ref (z 4), .ref (z 5), .ref (z 6), .int (xs 1), .ref (z 7), .ref (z 8), .ref (z 9), .ref (z 10), .ref (z 11), .ref (z 12), .int (xs 2), .ref (z 13), .ref (z 14), .int (xs 3), .ref (z 15)])), (z 1, .inl (gI g, 461, .inl D)), (z 2, .inl (gI g, 7376, .inl (upd Wb (nI ((461 * (kp - 1)) + i)).toNatClampNeg x_7)))] H := hP
                have hD : va_D A [(z 0, .inr (12, [.ref (z 1), .ref (z 2), .int (nI (kp - 1)), .int (xs 0), .ref (z 3), .ref (z 4), .ref (z 5), .ref (z 6), .int (xs 1), .ref (z 7), .ref (z 8), .ref (z 9), .ref (z 10), .ref (z 11), .ref (z 12), .int (xs 2), .ref (z 13), .ref (z 14), .int (xs 3), .ref (z 15)])), (z 1, .inl (gI g, 461, .inl D)), (z 2, .inl (gI g, 7376, .inl (upd Wb (nI ((461 * (kp - 1)) + i)).toNatClampNeg x_7)))] := hD
                obtain ⟨f_8, ef_8⟩ : ∃ zz_ : Nat → Int32, zz_ = upd Wb (nI ((461 * (kp - 1)) + i)).toNatClampNeg x_7 := ⟨_, rfl⟩
                rw [← ef_8] at hP hD
                refine lv_iinc (v := nI (i + 1)) (lv' := [(1, .int (nI (i + 1))), (0, .ref (z 0))]) hx hb dX12_keep_80 hl (k := 0) rfl (nI_add i 1) (by decide) rfl (fun ls hl => ?_)
                refine lv_goto (tgt := 52) hx hb dX12_keep_83 (by decide) ?_
                exact ih52 (i + 1) f_8 (by omega) (by first | assumption | omega) (k_cpBS hcp (by omega) (by omega) ex_7 ef_8) H locs (hP.sub [0, 1, 2] rfl) (hD.sub [0, 1, 2] (by decide) rfl) hS ls (lv_sub hl [0, 1] rfl)
          exact L52 (461 - 0 + 1) 0 Wa (Nat.lt_succ_self _) (by first | assumption | omega) k_cpB0 H locs (hP.sub [0, 1, 2] rfl) (hD.sub [0, 1, 2] (by decide) rfl) hS ls (lv_sub hl [0, 1] rfl)
        · have c_5n : i < 6915 := Nat.not_le.mp (fun h => c_5 ((k_leI (a := 6915) (b := i) (by omega) (by omega)).mpr h))
          refine lv_aload_n hx hb dX12_keep_18 rfl (lv_at hl 1 rfl) ?_
          refine va_get (ci := 12) (C := RX12) (T := TX12) (N := 20) hx hb hts inlX12 hown hKW.1 hP 0 rfl rfl 1 (by decide) (hts _ wd_6_6) (fun _ h => h) rfl dX12_keep_19 ?_
          refine lv_iload_n hx hb dX12_keep_22 rfl (lv_at hl 0 rfl) ?_
          refine lv_aload_n hx hb dX12_keep_23 rfl (lv_at hl 1 rfl) ?_
          refine va_get (ci := 12) (C := RX12) (T := TX12) (N := 20) hx hb hts inlX12 hown hKW.1 hP 0 rfl rfl 1 (by decide) (hts _ wd_6_6) (fun _ h => h) rfl dX12_keep_24 ?_
          refine lv_iload_n hx hb dX12_keep_27 rfl (lv_at hl 0 rfl) ?_
          refine lv_sipush (v := 461) hx hb dX12_keep_28 (by decide) ?_
          refine lv_iadd hx hb dX12_keep_31 ?_
          refine k_top (y := nI (i + 461)) (nI_add i 461) ?_
          refine va_iald hx hb hKW.1 hP 2 0 rfl rfl (vp_in_nI (by omega) (by decide)) dX12_keep_32 ?_
          refine lv_topi (fun x_9 ex_9 => ?_)
          refine va_iast hx hb hKW.1 hP hD hS 2 0 rfl rfl (vp_in_nI (by omega) (by decide)) dX12_keep_33 (fun H locs hP hD hS => ?_)
          have hP : va_P g.1 vwCl [(z 0, .inr (12, [.ref (z 1), .ref (z 2), .int (nI kp), .int (xs 0), .ref (z 3), .ref (z 4), .ref (z 5), .ref (z 6), .int (xs 1), .ref (z 7), .ref (z 8), .ref (z 9), .ref (z 10), .ref (z 11), .ref (z 12), .int (xs 2), .ref (z 13), .ref (z 14), .int (xs 3), .ref (z 15)])), (z 1, .inl (gI g, 461, .inl D)), (z 2, .inl (gI g, 7376, .inl (upd Wa (nI i).toNatClampNeg x_9)))] H := hP
          have hD : va_D A [(z 0, .inr (12, [.ref (z 1), .ref (z 2), .int (nI kp), .int (xs 0), .ref (z 3), .ref (z 4), .ref (z 5), .ref (z 6), .int (xs 1), .ref (z 7), .ref (z 8), .ref (z 9), .ref (z 10), .ref (z 11), .ref (z 12), .int (xs 2), .ref (z 13), .ref (z 14), .int (xs 3), .ref (z 15)])), (z 1, .inl (gI g, 461, .inl D)), (z 2, .inl (gI g, 7376, .inl (upd Wa (nI i).toNatClampNeg x_9)))] := hD
          obtain ⟨f_10, ef_10⟩ : ∃ zz_ : Nat → Int32, zz_ = upd Wa (nI i).toNatClampNeg x_9 := ⟨_, rfl⟩
          rw [← ef_10] at hP hD
          refine lv_iinc (v := nI (i + 1)) (lv' := [(1, .int (nI (i + 1))), (0, .ref (z 0))]) hx hb dX12_keep_34 hl (k := 0) rfl (nI_add i 1) (by decide) rfl (fun ls hl => ?_)
          refine lv_goto (tgt := 11) hx hb dX12_keep_37 (by decide) ?_
          exact ih11 (i + 1) f_10 (by omega) (by first | assumption | omega) (k_shfS hs (by omega) ex_9 ef_10) H locs (hP.sub [0, 1, 2] rfl) (hD.sub [0, 1, 2] (by decide) rfl) hS ls (lv_sub hl [0, 1] rfl)
    exact L11 (6915 - 0 + 1) 0 Wk (Nat.lt_succ_self _) (by first | assumption | omega) k_shf0 H locs (hP.sub [0, 1, 2] rfl) (hD.sub [0, 1, 2] (by decide) rfl) hS ls (lv_sub hl [0, 1] rfl)
theorem dX12_undo_0 : decode cX12_undo 0 = .ok (.aload_n 0, 1) := by decide +kernel
theorem dX12_undo_1 : decode cX12_undo 1 = .ok (.getfield 61, 3) := by decide +kernel
theorem dX12_undo_4 : decode cX12_undo 4 = .ok (.ifCond .ne 10, 3) := by decide +kernel
theorem dX12_undo_14 : decode cX12_undo 14 = .ok (.aload_n 0, 1) := by decide +kernel
theorem dX12_undo_15 : decode cX12_undo 15 = .ok (.dup, 1) := by decide +kernel
theorem dX12_undo_16 : decode cX12_undo 16 = .ok (.getfield 61, 3) := by decide +kernel
theorem dX12_undo_19 : decode cX12_undo 19 = .ok (.iconst 1, 1) := by decide +kernel
theorem dX12_undo_20 : decode cX12_undo 20 = .ok (.isub, 1) := by decide +kernel
theorem dX12_undo_21 : decode cX12_undo 21 = .ok (.putfield 61, 3) := by decide +kernel
theorem dX12_undo_24 : decode cX12_undo 24 = .ok (.iconst 0, 1) := by decide +kernel
theorem dX12_undo_25 : decode cX12_undo 25 = .ok (.istore_n 1, 1) := by decide +kernel
theorem dX12_undo_26 : decode cX12_undo 26 = .ok (.iload_n 1, 1) := by decide +kernel
theorem dX12_undo_27 : decode cX12_undo 27 = .ok (.sipush 461, 3) := by decide +kernel
theorem dX12_undo_30 : decode cX12_undo 30 = .ok (.if_icmp .ge 30, 3) := by decide +kernel
theorem dX12_undo_60 : decode cX12_undo 60 = .ok (.aload_n 0, 1) := by decide +kernel
theorem dX12_undo_61 : decode cX12_undo 61 = .ok (.getfield 61, 3) := by decide +kernel
theorem dX12_undo_64 : decode cX12_undo 64 = .ok (.ireturn, 1) := by decide +kernel
theorem dX12_undo_33 : decode cX12_undo 33 = .ok (.aload_n 0, 1) := by decide +kernel
theorem dX12_undo_34 : decode cX12_undo 34 = .ok (.getfield 7, 3) := by decide +kernel
theorem dX12_undo_37 : decode cX12_undo 37 = .ok (.iload_n 1, 1) := by decide +kernel
theorem dX12_undo_38 : decode cX12_undo 38 = .ok (.aload_n 0, 1) := by decide +kernel
theorem dX12_undo_39 : decode cX12_undo 39 = .ok (.getfield 13, 3) := by decide +kernel
theorem dX12_undo_42 : decode cX12_undo 42 = .ok (.sipush 461, 3) := by decide +kernel
theorem dX12_undo_45 : decode cX12_undo 45 = .ok (.aload_n 0, 1) := by decide +kernel
theorem dX12_undo_46 : decode cX12_undo 46 = .ok (.getfield 61, 3) := by decide +kernel
theorem dX12_undo_49 : decode cX12_undo 49 = .ok (.imul, 1) := by decide +kernel
theorem dX12_undo_50 : decode cX12_undo 50 = .ok (.iload_n 1, 1) := by decide +kernel
theorem dX12_undo_51 : decode cX12_undo 51 = .ok (.iadd, 1) := by decide +kernel
theorem dX12_undo_52 : decode cX12_undo 52 = .ok (.iaload, 1) := by decide +kernel
theorem dX12_undo_53 : decode cX12_undo 53 = .ok (.iastore, 1) := by decide +kernel
theorem dX12_undo_54 : decode cX12_undo 54 = .ok (.iinc 1 1, 3) := by decide +kernel
theorem dX12_undo_57 : decode cX12_undo 57 = .ok (.goto (-31), 3) := by decide +kernel
theorem dX12_undo_7 : decode cX12_undo 7 = .ok (.aload_n 0, 1) := by decide +kernel
theorem dX12_undo_8 : decode cX12_undo 8 = .ok (.bipush 6, 2) := by decide +kernel
theorem dX12_undo_10 : decode cX12_undo 10 = .ok (.invokevirtual 68, 3) := by decide +kernel
theorem dX12_undo_13 : decode cX12_undo 13 = .ok (.ireturn, 1) := by decide +kernel
set_option maxHeartbeats 8000000 in
set_option maxRecDepth 100000 in
theorem c_X12_undo (l : Launch) (g : kG) (sz : Nat) (z : Nat → Nat) (kp : Nat) (xs : Nat → Int32) (D : Nat → Int32) (Wk : Nat → Int32) (hDI : DI D) (hkp : kp ≤ 16) (hWI : WI Wk kp) : kMi l g yX12_undo cX12_undo 2 (some .int) 2 0 0 [.ref (z 0)] sz [(z 0, .inr (12, [.ref (z 1), .ref (z 2), .int (nI kp), .int (xs 0), .ref (z 3), .ref (z 4), .ref (z 5), .ref (z 6), .int (xs 1), .ref (z 7), .ref (z 8), .ref (z 9), .ref (z 10), .ref (z 11), .ref (z 12), .int (xs 2), .ref (z 13), .ref (z 14), .int (xs 3), .ref (z 15)])), (z 1, .inl (gI g, 461, .inl D)), (z 2, .inl (gI g, 7376, .inl Wk))] (fun (r : Int32) (u : Nat × (Nat → Int32) × (Nat → Int32) × (Nat → Int32)) => u.1 ≤ 16 ∧ DI u.2.2.1 ∧ WI u.2.2.2 u.1) (fun (u : Nat × (Nat → Int32) × (Nat → Int32) × (Nat → Int32)) => ([(z 0, .inr (12, [.ref (z 1), .ref (z 2), .int (nI u.1), .int (u.2.1 0), .ref (z 3), .ref (z 4), .ref (z 5), .ref (z 6), .int (u.2.1 1), .ref (z 7), .ref (z 8), .ref (z 9), .ref (z 10), .ref (z 11), .ref (z 12), .int (u.2.1 2), .ref (z 13), .ref (z 14), .int (u.2.1 3), .ref (z 15)])), (z 1, .inl (gI g, 461, .inl u.2.2.1)), (z 2, .inl (gI g, 7376, .inl u.2.2.2))] : va_W)) := by
  refine kMi.of (by decide) (Nat.le_of_ble_eq_true rfl) (fun p e s m below meth c A hx hb hr hml hown hts hlk hnm hKW hP hD hS hA ls hl => ?_)
  have hown : s.vm.findClass RX12 = some m.cls := hown
  have hl : lv_has ls 2 [(0, .ref (z 0))] := hl
  refine k_hide hP hS (fun H locs hP hS => ?_)
  refine lv_aload_n hx hb dX12_undo_0 rfl (lv_at hl 0 rfl) ?_
  refine va_get (ci := 12) (C := RX12) (T := TX12) (N := 20) hx hb hts inlX12 hown hKW.1 hP 0 rfl rfl 2 (by decide) (hts _ wd_10_22) (fun _ h => h) rfl dX12_undo_1 ?_
  refine lv_if_ne (tgt := 14) hx hb dX12_undo_4 (by decide) (fun c_1 => ?_) (fun c_1 => ?_)
  · have c_1n : ¬ kp = 0 := fun h => c_1 ((k_eqI (a := kp) (b := 0) (by omega) (by omega)).mpr h)
    refine lv_aload_n hx hb dX12_undo_14 rfl (lv_at hl 0 rfl) ?_
    refine lv_dup hx hb dX12_undo_15 rfl ?_
    refine va_get (ci := 12) (C := RX12) (T := TX12) (N := 20) hx hb hts inlX12 hown hKW.1 hP 0 rfl rfl 2 (by decide) (hts _ wd_10_22) (fun _ h => h) rfl dX12_undo_16 ?_
    refine lv_iconst (v := 1) hx hb dX12_undo_19 (by decide) ?_
    refine lv_isub hx hb dX12_undo_20 ?_
    refine k_top (y := nI (kp - 1)) (k_sub (b := 1) (by omega)) ?_
    refine va_put (ci := 12) (v := .int (nI (kp - 1))) (C := RX12) (T := TX12) (N := 20) hx hb hts inlX12 tyX12 tyX12_ok nmX12 hown hKW.1 hP hD hS 0 rfl rfl 2 (by decide) (hts _ wd_10_22) (fun _ h => h) rfl (tyX12_ok 2 (by decide)) rfl rfl (Nat.le_of_ble_eq_true rfl) dX12_undo_21 (fun H locs hP hD hS => ?_)
    have hP : va_P g.1 vwCl [(z 0, .inr (12, [.ref (z 1), .ref (z 2), .int (nI (kp - 1)), .int (xs 0), .ref (z 3), .ref (z 4), .ref (z 5), .ref (z 6), .int (xs 1), .ref (z 7), .ref (z 8), .ref (z 9), .ref (z 10), .ref (z 11), .ref (z 12), .int (xs 2), .ref (z 13), .ref (z 14), .int (xs 3), .ref (z 15)])), (z 1, .inl (gI g, 461, .inl D)), (z 2, .inl (gI g, 7376, .inl Wk))] H := hP
    have hD : va_D A [(z 0, .inr (12, [.ref (z 1), .ref (z 2), .int (nI (kp - 1)), .int (xs 0), .ref (z 3), .ref (z 4), .ref (z 5), .ref (z 6), .int (xs 1), .ref (z 7), .ref (z 8), .ref (z 9), .ref (z 10), .ref (z 11), .ref (z 12), .int (xs 2), .ref (z 13), .ref (z 14), .int (xs 3), .ref (z 15)])), (z 1, .inl (gI g, 461, .inl D)), (z 2, .inl (gI g, 7376, .inl Wk))] := hD
    refine lv_iconst (v := 0) hx hb dX12_undo_24 (by decide) ?_
    refine lv_istore_n (lv' := [(1, .int 0), (0, .ref (z 0))]) hx hb dX12_undo_25 rfl hl (by decide) rfl (fun ls hl => ?_)
    have L26 : ∀ (n26 : Nat) (i : Nat) (Da : Nat → Int32) (hfuel26 : 461 - i < n26) (hi : i ≤ 461) (hcp : kBck Wk D Da (kp - 1) i) (H : Heap) (locs : List Loc) (hP : va_P g.1 vwCl [(z 0, .inr (12, [.ref (z 1), .ref (z 2), .int (nI (kp - 1)), .int (xs 0), .ref (z 3), .ref (z 4), .ref (z 5), .ref (z 6), .int (xs 1), .ref (z 7), .ref (z 8), .ref (z 9), .ref (z 10), .ref (z 11), .ref (z 12), .int (xs 2), .ref (z 13), .ref (z 14), .int (xs 3), .ref (z 15)])), (z 1, .inl (gI g, 461, .inl Da)), (z 2, .inl (gI g, 7376, .inl Wk))] H) (hD : va_D A [(z 0, .inr (12, [.ref (z 1), .ref (z 2), .int (nI (kp - 1)), .int (xs 0), .ref (z 3), .ref (z 4), .ref (z 5), .ref (z 6), .int (xs 1), .ref (z 7), .ref (z 8), .ref (z 9), .ref (z 10), .ref (z 11), .ref (z 12), .int (xs 2), .ref (z 13), .ref (z 14), .int (xs 3), .ref (z 15)])), (z 1, .inl (gI g, 461, .inl Da)), (z 2, .inl (gI g, 7376, .inl Wk))]) (hS : va_S A s.heap H locs) (ls : Array Slot) (hl : lv_has ls 2 [(1, .int (nI i)), (0, .ref (z 0))]), W p l e (kR 2 0 0) s m ([.ref (z 0)] : List Value).toArray below meth c H locs 0 0 (kQi g A below ([.ref (z 0)] : List Value).toArray s 0 0 (fun (r : Int32) (u : Nat × (Nat → Int32) × (Nat → Int32) × (Nat → Int32)) => u.1 ≤ 16 ∧ DI u.2.2.1 ∧ WI u.2.2.2 u.1) (fun (u : Nat × (Nat → Int32) × (Nat → Int32) × (Nat → Int32)) => ([(z 0, .inr (12, [.ref (z 1), .ref (z 2), .int (nI u.1), .int (u.2.1 0), .ref (z 3), .ref (z 4), .ref (z 5), .ref (z 6), .int (u.2.1 1), .ref (z 7), .ref (z 8), .ref (z 9), .ref (z 10), .ref (z 11), .ref (z 12), .int (u.2.1 2), .ref (z 13), .ref (z 14), .int (u.2.1 3), .ref (z 15)])), (z 1, .inl (gI g, 461, .inl u.2.2.1)), (z 2, .inl (gI g, 7376, .inl u.2.2.2))] : va_W))) (F0 m 26 ls []) := by
      intro n26
      induction n26 with
      | zero => intro i Da hfuel26; exact absurd hfuel26 (Nat.not_lt_zero _)
      | succ n26 ih26 =>
        intro i Da hfuel26 hi hcp H locs hP hD hS ls hl
        refine lv_iload_n hx hb dX12_undo_26 rfl (lv_at hl 0 rfl) ?_
        refine lv_sipush (v := 461) hx hb dX12_undo_27 (by decide) ?_
        refine lv_icmp_ge (tgt := 60) hx hb dX12_undo_30 (by decide) (fun c_2 => ?_) (fun c_2 => ?_)
        · have c_2n : 461 ≤ i := (k_leI (a := 461) (b := i) (by omega) (by omega)).mp c_2
          refine lv_aload_n hx hb dX12_undo_60 rfl (lv_at hl 1 rfl) ?_
          refine va_get (ci := 12) (C := RX12) (T := TX12) (N := 20) hx hb hts inlX12 hown hKW.1 hP 0 rfl rfl 2 (by decide) (hts _ wd_10_22) (fun _ h => h) rfl dX12_undo_61 ?_
          exact k_iret ((kp - 1), xs, Da, Wk) [0, 1, 2] hx hb hr hlk hP hD hS (⟨by omega, k_bckD hcp (by omega) hWI (by omega), hWI.le (by omega)⟩) rfl rfl rfl (Nat.le_of_ble_eq_true rfl) (Nat.le_of_ble_eq_true rfl) dX12_undo_64
        · have c_2n : i < 461 := Nat.not_le.mp (fun h => c_2 ((k_leI (a := 461) (b := i) (by omega) (by omega)).mpr h))
          refine lv_aload_n hx hb dX12_undo_33 rfl (lv_at hl 1 rfl) ?_
          refine va_get (ci := 12) (C := RX12) (T := TX12) (N := 20) hx hb hts inlX12 hown hKW.1 hP 0 rfl rfl 0 (by decide) (hts _ wd_6_5) (fun _ h => h) rfl dX12_undo_34 ?_
          refine lv_iload_n hx hb dX12_undo_37 rfl (lv_at hl 0 rfl) ?_
          refine lv_aload_n hx hb dX12_undo_38 rfl (lv_at hl 1 rfl) ?_
          refine va_get (ci := 12) (C := RX12) (T := TX12) (N := 20) hx hb hts inlX12 hown hKW.1 hP 0 rfl rfl 1 (by decide) (hts _ wd_6_6) (fun _ h => h) rfl dX12_undo_39 ?_
          refine lv_sipush (v := 461) hx hb dX12_undo_42 (by decide) ?_
          refine lv_aload_n hx hb dX12_undo_45 rfl (lv_at hl 1 rfl) ?_
          refine va_get (ci := 12) (C := RX12) (T := TX12) (N := 20) hx hb hts inlX12 hown hKW.1 hP 0 rfl rfl 2 (by decide) (hts _ wd_10_22) (fun _ h => h) rfl dX12_undo_46 ?_
          refine lv_imul hx hb dX12_undo_49 ?_
          refine k_top (y := nI (461 * (kp - 1))) (show (461 : Int32) * nI (kp - 1) = nI (461 * (kp - 1)) from k_nmul 461 (kp - 1)) ?_
          refine lv_iload_n hx hb dX12_undo_50 rfl (lv_at hl 0 rfl) ?_
          refine lv_iadd hx hb dX12_undo_51 ?_
          refine k_top (y := nI ((461 * (kp - 1)) + i)) (nI_add (461 * (kp - 1)) i) ?_
          refine va_iald hx hb hKW.1 hP 2 0 rfl rfl (vp_in_nI (by omega) (by decide)) dX12_undo_52 ?_
          refine lv_topi (fun x_3 ex_3 => ?_)
          refine va_iast hx hb hKW.1 hP hD hS 1 0 rfl rfl (vp_in_nI (by omega) (by decide)) dX12_undo_53 (fun H locs hP hD hS => ?_)
          have hP : va_P g.1 vwCl [(z 0, .inr (12, [.ref (z 1), .ref (z 2), .int (nI (kp - 1)), .int (xs 0), .ref (z 3), .ref (z 4), .ref (z 5), .ref (z 6), .int (xs 1), .ref (z 7), .ref (z 8), .ref (z 9), .ref (z 10), .ref (z 11), .ref (z 12), .int (xs 2), .ref (z 13), .ref (z 14), .int (xs 3), .ref (z 15)])), (z 1, .inl (gI g, 461, .inl (upd Da (nI i).toNatClampNeg x_3))), (z 2, .inl (gI g, 7376, .inl Wk))] H := hP
          have hD : va_D A [(z 0, .inr (12, [.ref (z 1), .ref (z 2), .int (nI (kp - 1)), .int (xs 0), .ref (z 3), .ref (z 4), .ref (z 5), .ref (z 6), .int (xs 1), .ref (z 7), .ref (z 8), .ref (z 9), .ref (z 10), .ref (z 11), .ref (z 12), .int (xs 2), .ref (z 13), .ref (z 14), .int (xs 3), .ref (z 15)])), (z 1, .inl (gI g, 461, .inl (upd Da (nI i).toNatClampNeg x_3))), (z 2, .inl (gI g, 7376, .inl Wk))] := hD
          obtain ⟨f_4, ef_4⟩ : ∃ zz_ : Nat → Int32, zz_ = upd Da (nI i).toNatClampNeg x_3 := ⟨_, rfl⟩
          rw [← ef_4] at hP hD
          refine lv_iinc (v := nI (i + 1)) (lv' := [(1, .int (nI (i + 1))), (0, .ref (z 0))]) hx hb dX12_undo_54 hl (k := 0) rfl (nI_add i 1) (by decide) rfl (fun ls hl => ?_)
          refine lv_goto (tgt := 26) hx hb dX12_undo_57 (by decide) ?_
          exact ih26 (i + 1) f_4 (by omega) (by first | assumption | omega) (k_bckS hcp (by omega) (by omega) ex_3 ef_4) H locs (hP.sub [0, 1, 2] rfl) (hD.sub [0, 1, 2] (by decide) rfl) hS ls (lv_sub hl [0, 1] rfl)
    exact L26 (461 - 0 + 1) 0 D (Nat.lt_succ_self _) (by first | assumption | omega) k_bck0 H locs (hP.sub [0, 1, 2] rfl) (hD.sub [0, 1, 2] (by decide) rfl) hS ls (lv_sub hl [0, 1] rfl)
  · have c_1n : kp = 0 := (k_eqI (a := kp) (b := 0) (by omega) (by omega)).mp c_1
    refine lv_aload_n hx hb dX12_undo_7 rfl (lv_at hl 0 rfl) ?_
    refine lv_bipush (v := 6) hx hb dX12_undo_8 (by decide) ?_
    refine k_Vi [0] [1, 2] 0 12 (wr := [(z 1, .inl (gI g, 461, .inl D)), (z 2, .inl (gI g, 7376, .inl Wk))]) hx hb hml hown hts hKW hP hD hS hA hl.1 (c_X12_finding_6 l g _ z kp xs ) rfl rfl rfl wd_10_15 wd_1_5 wd_10_12 wd_10_13 wd_10_14 yd_X12_finding ⟨(Nat.le_of_ble_eq_true rfl), (Nat.le_of_ble_eq_true rfl)⟩ rfl rfl rfl rfl (by decide) rfl (Nat.le_of_ble_eq_true rfl) dX12_undo_10 ⟨(Nat.le_of_ble_eq_true rfl), (Nat.le_of_ble_eq_true rfl)⟩ (fun r_5 u_6 H locs hw_7 hP hD hS => ?_)
    have hP : va_P g.1 vwCl [(z 1, .inl (gI g, 461, .inl D)), (z 2, .inl (gI g, 7376, .inl Wk)), (z 0, .inr (12, [.ref (z 1), .ref (z 2), .int (nI kp), .int u_6, .ref (z 3), .ref (z 4), .ref (z 5), .ref (z 6), .int (xs 1), .ref (z 7), .ref (z 8), .ref (z 9), .ref (z 10), .ref (z 11), .ref (z 12), .int (xs 2), .ref (z 13), .ref (z 14), .int (xs 3), .ref (z 15)]))] H := hP
    have hD : va_D A [(z 1, .inl (gI g, 461, .inl D)), (z 2, .inl (gI g, 7376, .inl Wk)), (z 0, .inr (12, [.ref (z 1), .ref (z 2), .int (nI kp), .int u_6, .ref (z 3), .ref (z 4), .ref (z 5), .ref (z 6), .int (xs 1), .ref (z 7), .ref (z 8), .ref (z 9), .ref (z 10), .ref (z 11), .ref (z 12), .int (xs 2), .ref (z 13), .ref (z 14), .int (xs 3), .ref (z 15)]))] := hD
    have hw_7 : r_5 = (-100006) := hw_7
    subst hw_7
    exact k_iret (kp, (fun kk_ => ([u_6, (xs 1), (xs 2), (xs 3)] : List Int32).getD kk_ 0), D, Wk) [2, 0, 1] hx hb hr hlk hP hD hS (⟨hkp, hDI, hWI⟩) rfl rfl rfl (Nat.le_of_ble_eq_true rfl) (Nat.le_of_ble_eq_true rfl) dX12_undo_13
