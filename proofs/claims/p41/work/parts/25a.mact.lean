theorem k_pig : ∀ (n : Nat) (f : Nat → Nat), (∀ i, i ≤ n → f i < n) → ∃ i j, i < j ∧ j ≤ n ∧ f i = f j
  | 0, f, h => absurd (h 0 (Nat.le_refl 0)) (Nat.not_lt_zero _)
  | n + 1, f, h => by
    by_cases hw : f (n + 1) = n
    · by_cases q : ∃ i, i ≤ n ∧ f i = n
      · obtain ⟨i, hi, e⟩ := q
        exact ⟨i, n + 1, by omega, by omega, by rw [e, hw]⟩
      · obtain ⟨i, j, h1, h2, h3⟩ := k_pig n f (fun i hi => by
          have a := h i (by omega)
          have b : ¬ f i = n := fun z => q ⟨i, hi, z⟩
          omega)
        exact ⟨i, j, h1, by omega, h3⟩
    · have hw1 : f (n + 1) < n := by have := h (n + 1) (Nat.le_refl _); omega
      obtain ⟨i, j, h1, h2, h3⟩ := k_pig n (fun i => if f i = n then f (n + 1) else f i) (fun i hi => by
        show (if f i = n then f (n + 1) else f i) < n
        by_cases z : f i = n
        · rw [if_pos z]; exact hw1
        · rw [if_neg z]; have := h i (by omega); omega)
      have h3 : (if f i = n then f (n + 1) else f i) = (if f j = n then f (n + 1) else f j) := h3
      by_cases zi : f i = n
      · by_cases zj : f j = n
        · exact ⟨i, j, h1, by omega, by rw [zi, zj]⟩
        · rw [if_pos zi, if_neg zj] at h3
          exact ⟨j, n + 1, by omega, by omega, h3.symm⟩
      · by_cases zj : f j = n
        · rw [if_neg zi, if_pos zj] at h3
          exact ⟨i, n + 1, by omega, by omega, h3⟩
        · rw [if_neg zi, if_neg zj] at h3
          exact ⟨i, j, h1, by omega, h3⟩
theorem DI.room {D : Nat → Int32} (h : DI D) {k j : Nat} (e : D 8 = nI k) (hk : k ≤ 10) (hj : (j : Int) < (D 2).toInt) (hn : ∀ t : Nat, (t : Int) < (D 8).toInt → ¬ D (137 + t) = nI j) : k < 10 := by
  have h2 : (D 2).toInt ≤ 10 := h.2.2.1.2
  have e8 : (D 8).toInt = (k : Int) := by rw [e, k_nIi (by omega)]
  by_cases hk10 : k < 10
  · exact hk10
  · exfalso
    obtain ⟨a, b, h1, h3, h4⟩ := k_pig 10 (fun t => if t < 10 then (D (137 + t)).toInt.toNat else j) (fun t ht => by
      show (if t < 10 then (D (137 + t)).toInt.toNat else j) < 10
      by_cases q : t < 10
      · rw [if_pos q]; have := h.li.1 t (by omega); omega
      · rw [if_neg q]; omega)
    have h4 : (if a < 10 then (D (137 + a)).toInt.toNat else j) = (if b < 10 then (D (137 + b)).toInt.toNat else j) := h4
    have la := h.li.1 a (by omega)
    rw [if_pos (by omega)] at h4
    by_cases q : b < 10
    · rw [if_pos q] at h4
      have lb := h.li.1 b (by omega)
      exact h.li.2 a b h1 (by omega) (Int32.toInt_inj.mp (by omega))
    · rw [if_neg q] at h4
      exact hn a (by omega) (Int32.toInt_inj.mp (by rw [k_nIi (by omega)]; omega))
theorem DI.mk2 {D E : Nat → Int32} (h : DI D) (he : ∀ i, i < 221 → ¬ dFree i → ¬ i = 8 → ¬ (137 ≤ i ∧ i < 147) → E i = D i) (h8 : kRg 0 10 (E 8)) (hli : LI E) : DI E := by
  have e : ∀ i, i < 221 → ¬ dFree i → ¬ i = 8 → ¬ (137 ≤ i ∧ i < 147) → E i = D i := he
  refine ⟨?_, ?_, ?_, ?_, ?_, ?_, h8, ?_, fun j hj => ?_, fun j hj => ?_, fun j hj => ?_, fun j hj => ?_, hli⟩
  · rw [e 0 (by decide) (by decide) (by decide) (by decide)]; exact h.1
  · rw [e 1 (by decide) (by decide) (by decide) (by decide)]; exact h.2.1
  · rw [e 2 (by decide) (by decide) (by decide) (by decide)]; exact h.2.2.1
  · rw [e 5 (by decide) (by decide) (by decide) (by decide)]; exact h.2.2.2.1
  · rw [e 6 (by decide) (by decide) (by decide) (by decide)]; exact h.2.2.2.2.1
  · rw [e 7 (by decide) (by decide) (by decide) (by decide)]; exact h.2.2.2.2.2.1
  · rw [e 10 (by decide) (by decide) (by decide) (by decide)]; exact h.2.2.2.2.2.2.2.1
  · rw [e (77 + j) (by omega) (by omega) (by omega) (by omega)]; exact h.first j hj
  · rw [e (87 + j) (by omega) (by omega) (by omega) (by omega)]; exact h.last j hj
  · rw [e (147 + j) (by omega) (by omega) (by omega) (by omega)]; exact h.need j hj
  · rw [e (207 + j) (by omega) (by omega) (by omega) (by omega)]; exact h.txt j hj
theorem k_diWait {D E F : Nat → Int32} {k j : Nat} (h : DI D) (e1 : E = upd D (nI (k + 137)).toNatClampNeg (nI j)) (e2 : F = upd E 8 (nI (k + 1))) (e8 : D 8 = nI k) (hk : k < 10) (hj : (j : Int) < (D 2).toInt) (hn : ∀ t : Nat, (t : Int) < (D 8).toInt → ¬ D (137 + t) = nI j) : DI F := by
  have h2 : (D 2).toInt ≤ 10 := h.2.2.1.2
  rw [nI_clamp (by omega)] at e1
  have i8 : (D 8).toInt = (k : Int) := by rw [e8, k_nIi (by omega)]
  have f8 : F 8 = nI (k + 1) := by rw [e2, pk_us]
  have fe : ∀ t, ¬ t = 8 → ¬ t = k + 137 → F t = D t := fun t h1 h3 => by rw [e2, pk_un h1, e1, pk_un h3]
  have fk : F (137 + k) = nI j := by rw [Nat.add_comm, e2, pk_un (by omega), e1, pk_us]
  have f2 : F 2 = D 2 := fe 2 (by decide) (by omega)
  have g8 : (F 8).toInt = (k : Int) + 1 := by rw [f8, k_nIi (by omega)]; omega
  refine h.mk2 (fun i hi hf h1 h3 => fe i h1 (by omega)) (by rw [f8]; exact k_rgI (lo := 0) (hi := 10) (by decide) (by omega) (by omega)) ⟨fun t ht => ?_, fun a b hab hb => ?_⟩
  · rw [g8] at ht
    rw [f2]
    by_cases q : t = k
    · rw [q, fk, k_nIi (by omega)]; omega
    · rw [fe _ (by omega) (by omega)]; exact h.li.1 t (by omega)
  · rw [g8] at hb
    rw [fe (137 + a) (by omega) (by omega)]
    by_cases q : b = k
    · rw [q, fk]; exact hn a (by omega)
    · rw [fe (137 + b) (by omega) (by omega)]; exact h.li.2 a b hab (by omega)
def kRm (D Da : Nat → Int32) (dk kl i : Nat) : Prop := Da 8 = nI (dk - 1) ∧ ∀ t, t < 461 → ¬ t = 8 → Da t = if 137 + kl ≤ t ∧ t < 137 + i then D (t + 1) else D t
theorem k_rm0 {D Da : Nat → Int32} {dk kl : Nat} (e : Da = upd D 8 (nI (dk - 1))) : kRm D Da dk kl kl := ⟨by rw [e, pk_us], fun t ht h8 => by rw [e, pk_un h8, if_neg (by omega)]⟩
theorem k_rmS {D Da Db : Nat → Int32} {dk kl i : Nat} {x : Int32} (h : kRm D Da dk kl i) (hi : kl ≤ i ∧ i < 10) (ex : x = Da (nI (i + 137 + 1)).toNatClampNeg) (e : Db = upd Da (nI (i + 137)).toNatClampNeg x) : kRm D Db dk kl (i + 1) := by
  rw [nI_clamp (by omega)] at ex e
  refine ⟨by rw [e, pk_un (by omega)]; exact h.1, fun t ht h8 => ?_⟩
  by_cases q : t = i + 137
  · rw [q, e, pk_us, ex, h.2 _ (by omega) (by omega), if_neg (by omega), if_pos (by omega)]
  · rw [e, pk_un q, h.2 t ht h8]
    by_cases q2 : 137 + kl ≤ t ∧ t < 137 + i
    · rw [if_pos q2, if_pos (by omega)]
    · rw [if_neg q2, if_neg (by omega)]
theorem k_rmD {D Da : Nat → Int32} {dk kl i : Nat} (h : DI D) (e8 : D 8 = nI dk) (hdk : dk ≤ 10) (hkl : kl < dk) (hr : kRm D Da dk kl i) (hi : i = dk - 1) : DI Da := by
  subst hi
  have i8 : (D 8).toInt = (dk : Int) := by rw [e8, k_nIi (by omega)]
  have g8 : (Da 8).toInt = (dk : Int) - 1 := by rw [hr.1, k_nIi (by omega)]; omega
  have f2 : Da 2 = D 2 := by rw [hr.2 2 (by decide) (by decide), if_neg (by omega)]
  have fl : ∀ t, t < dk - 1 → Da (137 + t) = D (137 + (if kl ≤ t then t + 1 else t)) := fun t ht => by
    rw [hr.2 _ (by omega) (by omega)]
    by_cases q : kl ≤ t
    · rw [if_pos (by omega), if_pos q]; rfl
    · rw [if_neg (by omega), if_neg q]
  refine h.mk2 (fun i hi hf h1 h3 => by rw [hr.2 i (by omega) h1, if_neg (by omega)]) (by rw [hr.1]; exact k_rgI (lo := 0) (hi := 10) (by decide) (by omega) (by omega)) ⟨fun t ht => ?_, fun a b hab hb => ?_⟩
  · rw [g8] at ht
    rw [f2, fl t (by omega)]
    exact h.li.1 _ (by split <;> omega)
  · rw [g8] at hb
    rw [fl a (by omega), fl b (by omega)]
    exact h.li.2 _ _ (by split <;> split <;> omega) (by split <;> omega)
theorem k_nlis {D : Nat → Int32} (h : DI D) {r v : Int32} (hw : (r = -1 ∧ ∀ k : Nat, (k : Int) < (D 8).toInt → ¬ D (137 + k) = v) ∨ ∃ k : Nat, (k : Int) < (D 8).toInt ∧ r = nI k) (c : r < 0) : ∀ k : Nat, (k : Int) < (D 8).toInt → ¬ D (137 + k) = v := by
  rcases hw with q | ⟨k, hk, e⟩
  · exact q.2
  · have h8 : (D 8).toInt ≤ 10 := h.2.2.2.2.2.2.1.2
    rw [Int32.lt_iff_toInt_lt, e, k_nIi (by omega), show Int32.toInt 0 = (0 : Int) from rfl] at c
    omega
theorem dX12_lead_0 : decode cX12_lead 0 = .ok (.aload_n 0, 1) := by decide +kernel
theorem dX12_lead_1 : decode cX12_lead 1 = .ok (.getfield 7, 3) := by decide +kernel
theorem dX12_lead_4 : decode cX12_lead 4 = .ok (.iload_n 1, 1) := by decide +kernel
theorem dX12_lead_5 : decode cX12_lead 5 = .ok (.iaload, 1) := by decide +kernel
theorem dX12_lead_6 : decode cX12_lead 6 = .ok (.bipush 40, 2) := by decide +kernel
theorem dX12_lead_8 : decode cX12_lead 8 = .ok (.if_icmp .ne 91, 3) := by decide +kernel
theorem dX12_lead_99 : decode cX12_lead 99 = .ok (.aload_n 0, 1) := by decide +kernel
theorem dX12_lead_100 : decode cX12_lead 100 = .ok (.getfield 7, 3) := by decide +kernel
theorem dX12_lead_103 : decode cX12_lead 103 = .ok (.iload_n 2, 1) := by decide +kernel
theorem dX12_lead_104 : decode cX12_lead 104 = .ok (.aload_n 0, 1) := by decide +kernel
theorem dX12_lead_105 : decode cX12_lead 105 = .ok (.getfield 7, 3) := by decide +kernel
theorem dX12_lead_108 : decode cX12_lead 108 = .ok (.iload_n 1, 1) := by decide +kernel
theorem dX12_lead_109 : decode cX12_lead 109 = .ok (.iaload, 1) := by decide +kernel
theorem dX12_lead_110 : decode cX12_lead 110 = .ok (.iadd, 1) := by decide +kernel
theorem dX12_lead_111 : decode cX12_lead 111 = .ok (.iload 5, 2) := by decide +kernel
theorem dX12_lead_113 : decode cX12_lead 113 = .ok (.iastore, 1) := by decide +kernel
theorem dX12_lead_114 : decode cX12_lead 114 = .ok (.aload_n 0, 1) := by decide +kernel
theorem dX12_lead_115 : decode cX12_lead 115 = .ok (.getfield 7, 3) := by decide +kernel
theorem dX12_lead_118 : decode cX12_lead 118 = .ok (.iload_n 3, 1) := by decide +kernel
theorem dX12_lead_119 : decode cX12_lead 119 = .ok (.aload_n 0, 1) := by decide +kernel
theorem dX12_lead_120 : decode cX12_lead 120 = .ok (.getfield 7, 3) := by decide +kernel
theorem dX12_lead_123 : decode cX12_lead 123 = .ok (.iload_n 1, 1) := by decide +kernel
theorem dX12_lead_124 : decode cX12_lead 124 = .ok (.iaload, 1) := by decide +kernel
theorem dX12_lead_125 : decode cX12_lead 125 = .ok (.iadd, 1) := by decide +kernel
theorem dX12_lead_126 : decode cX12_lead 126 = .ok (.aload_n 0, 1) := by decide +kernel
theorem dX12_lead_127 : decode cX12_lead 127 = .ok (.getfield 7, 3) := by decide +kernel
theorem dX12_lead_130 : decode cX12_lead 130 = .ok (.iconst 4, 1) := by decide +kernel
theorem dX12_lead_131 : decode cX12_lead 131 = .ok (.iaload, 1) := by decide +kernel
theorem dX12_lead_132 : decode cX12_lead 132 = .ok (.iastore, 1) := by decide +kernel
theorem dX12_lead_133 : decode cX12_lead 133 = .ok (.aload_n 0, 1) := by decide +kernel
theorem dX12_lead_134 : decode cX12_lead 134 = .ok (.getfield 7, 3) := by decide +kernel
theorem dX12_lead_137 : decode cX12_lead 137 = .ok (.iload 4, 2) := by decide +kernel
theorem dX12_lead_139 : decode cX12_lead 139 = .ok (.aload_n 0, 1) := by decide +kernel
theorem dX12_lead_140 : decode cX12_lead 140 = .ok (.getfield 7, 3) := by decide +kernel
theorem dX12_lead_143 : decode cX12_lead 143 = .ok (.iload_n 1, 1) := by decide +kernel
theorem dX12_lead_144 : decode cX12_lead 144 = .ok (.iaload, 1) := by decide +kernel
theorem dX12_lead_145 : decode cX12_lead 145 = .ok (.iadd, 1) := by decide +kernel
theorem dX12_lead_146 : decode cX12_lead 146 = .ok (.iload 6, 2) := by decide +kernel
theorem dX12_lead_148 : decode cX12_lead 148 = .ok (.iastore, 1) := by decide +kernel
theorem dX12_lead_149 : decode cX12_lead 149 = .ok (.aload_n 0, 1) := by decide +kernel
theorem dX12_lead_150 : decode cX12_lead 150 = .ok (.getfield 7, 3) := by decide +kernel
theorem dX12_lead_153 : decode cX12_lead 153 = .ok (.iload_n 1, 1) := by decide +kernel
theorem dX12_lead_154 : decode cX12_lead 154 = .ok (.dup2, 1) := by decide +kernel
theorem dX12_lead_155 : decode cX12_lead 155 = .ok (.iaload, 1) := by decide +kernel
theorem dX12_lead_156 : decode cX12_lead 156 = .ok (.iconst 1, 1) := by decide +kernel
theorem dX12_lead_157 : decode cX12_lead 157 = .ok (.iadd, 1) := by decide +kernel
theorem dX12_lead_158 : decode cX12_lead 158 = .ok (.iastore, 1) := by decide +kernel
theorem dX12_lead_159 : decode cX12_lead 159 = .ok (.return_, 1) := by decide +kernel
theorem dX12_lead_11 : decode cX12_lead 11 = .ok (.iconst 0, 1) := by decide +kernel
theorem dX12_lead_12 : decode cX12_lead 12 = .ok (.istore 7, 2) := by decide +kernel
theorem dX12_lead_14 : decode cX12_lead 14 = .ok (.iload 7, 2) := by decide +kernel
theorem dX12_lead_16 : decode cX12_lead 16 = .ok (.bipush 39, 2) := by decide +kernel
theorem dX12_lead_18 : decode cX12_lead 18 = .ok (.if_icmp .ge 71, 3) := by decide +kernel
theorem dX12_lead_89 : decode cX12_lead 89 = .ok (.aload_n 0, 1) := by decide +kernel
theorem dX12_lead_90 : decode cX12_lead 90 = .ok (.getfield 7, 3) := by decide +kernel
theorem dX12_lead_93 : decode cX12_lead 93 = .ok (.iload_n 1, 1) := by decide +kernel
theorem dX12_lead_94 : decode cX12_lead 94 = .ok (.dup2, 1) := by decide +kernel
theorem dX12_lead_95 : decode cX12_lead 95 = .ok (.iaload, 1) := by decide +kernel
theorem dX12_lead_96 : decode cX12_lead 96 = .ok (.iconst 1, 1) := by decide +kernel
theorem dX12_lead_97 : decode cX12_lead 97 = .ok (.isub, 1) := by decide +kernel
theorem dX12_lead_98 : decode cX12_lead 98 = .ok (.iastore, 1) := by decide +kernel
theorem dX12_lead_21 : decode cX12_lead 21 = .ok (.aload_n 0, 1) := by decide +kernel
theorem dX12_lead_22 : decode cX12_lead 22 = .ok (.getfield 7, 3) := by decide +kernel
theorem dX12_lead_25 : decode cX12_lead 25 = .ok (.iload_n 2, 1) := by decide +kernel
theorem dX12_lead_26 : decode cX12_lead 26 = .ok (.iload 7, 2) := by decide +kernel
theorem dX12_lead_28 : decode cX12_lead 28 = .ok (.iadd, 1) := by decide +kernel
theorem dX12_lead_29 : decode cX12_lead 29 = .ok (.aload_n 0, 1) := by decide +kernel
theorem dX12_lead_30 : decode cX12_lead 30 = .ok (.getfield 7, 3) := by decide +kernel
theorem dX12_lead_33 : decode cX12_lead 33 = .ok (.iload_n 2, 1) := by decide +kernel
theorem dX12_lead_34 : decode cX12_lead 34 = .ok (.iload 7, 2) := by decide +kernel
theorem dX12_lead_36 : decode cX12_lead 36 = .ok (.iadd, 1) := by decide +kernel
theorem dX12_lead_37 : decode cX12_lead 37 = .ok (.iconst 1, 1) := by decide +kernel
theorem dX12_lead_38 : decode cX12_lead 38 = .ok (.iadd, 1) := by decide +kernel
theorem dX12_lead_39 : decode cX12_lead 39 = .ok (.iaload, 1) := by decide +kernel
theorem dX12_lead_40 : decode cX12_lead 40 = .ok (.iastore, 1) := by decide +kernel
theorem dX12_lead_41 : decode cX12_lead 41 = .ok (.aload_n 0, 1) := by decide +kernel
theorem dX12_lead_42 : decode cX12_lead 42 = .ok (.getfield 7, 3) := by decide +kernel
theorem dX12_lead_45 : decode cX12_lead 45 = .ok (.iload_n 3, 1) := by decide +kernel
theorem dX12_lead_46 : decode cX12_lead 46 = .ok (.iload 7, 2) := by decide +kernel
theorem dX12_lead_48 : decode cX12_lead 48 = .ok (.iadd, 1) := by decide +kernel
theorem dX12_lead_49 : decode cX12_lead 49 = .ok (.aload_n 0, 1) := by decide +kernel
theorem dX12_lead_50 : decode cX12_lead 50 = .ok (.getfield 7, 3) := by decide +kernel
theorem dX12_lead_53 : decode cX12_lead 53 = .ok (.iload_n 3, 1) := by decide +kernel
theorem dX12_lead_54 : decode cX12_lead 54 = .ok (.iload 7, 2) := by decide +kernel
theorem dX12_lead_56 : decode cX12_lead 56 = .ok (.iadd, 1) := by decide +kernel
theorem dX12_lead_57 : decode cX12_lead 57 = .ok (.iconst 1, 1) := by decide +kernel
theorem dX12_lead_58 : decode cX12_lead 58 = .ok (.iadd, 1) := by decide +kernel
theorem dX12_lead_59 : decode cX12_lead 59 = .ok (.iaload, 1) := by decide +kernel
theorem dX12_lead_60 : decode cX12_lead 60 = .ok (.iastore, 1) := by decide +kernel
theorem dX12_lead_61 : decode cX12_lead 61 = .ok (.aload_n 0, 1) := by decide +kernel
theorem dX12_lead_62 : decode cX12_lead 62 = .ok (.getfield 7, 3) := by decide +kernel
theorem dX12_lead_65 : decode cX12_lead 65 = .ok (.iload 4, 2) := by decide +kernel
theorem dX12_lead_67 : decode cX12_lead 67 = .ok (.iload 7, 2) := by decide +kernel
theorem dX12_lead_69 : decode cX12_lead 69 = .ok (.iadd, 1) := by decide +kernel
theorem dX12_lead_70 : decode cX12_lead 70 = .ok (.aload_n 0, 1) := by decide +kernel
theorem dX12_lead_71 : decode cX12_lead 71 = .ok (.getfield 7, 3) := by decide +kernel
theorem dX12_lead_74 : decode cX12_lead 74 = .ok (.iload 4, 2) := by decide +kernel
theorem dX12_lead_76 : decode cX12_lead 76 = .ok (.iload 7, 2) := by decide +kernel
theorem dX12_lead_78 : decode cX12_lead 78 = .ok (.iadd, 1) := by decide +kernel
theorem dX12_lead_79 : decode cX12_lead 79 = .ok (.iconst 1, 1) := by decide +kernel
theorem dX12_lead_80 : decode cX12_lead 80 = .ok (.iadd, 1) := by decide +kernel
theorem dX12_lead_81 : decode cX12_lead 81 = .ok (.iaload, 1) := by decide +kernel
theorem dX12_lead_82 : decode cX12_lead 82 = .ok (.iastore, 1) := by decide +kernel
theorem dX12_lead_83 : decode cX12_lead 83 = .ok (.iinc 7 1, 3) := by decide +kernel
theorem dX12_lead_86 : decode cX12_lead 86 = .ok (.goto (-72), 3) := by decide +kernel
set_option maxHeartbeats 8000000 in
set_option maxRecDepth 100000 in
theorem c_X12_lead_r (l : Launch) (g : kG) (sz : Nat) (z : Nat → Nat) (kp : Nat) (xs : Nat → Int32) (D : Nat → Int32) (x : Int32) (y : Int32) (hDI : DI D) : kMv l g yX12_lead cX12_lead 8 none 1 0 0 [.ref (z 0), .int 5, .int 221, .int 261, .int 301, .int x, .int y] sz [(z 0, .inr (12, [.ref (z 1), .ref (z 2), .int (nI kp), .int (xs 0), .ref (z 3), .ref (z 4), .ref (z 5), .ref (z 6), .int (xs 1), .ref (z 7), .ref (z 8), .ref (z 9), .ref (z 10), .ref (z 11), .ref (z 12), .int (xs 2), .ref (z 13), .ref (z 14), .int (xs 3), .ref (z 15)])), (z 1, .inl (gI g, 461, .inl D))] (fun (u : (Nat → Int32)) => DI u) (fun (u : (Nat → Int32)) => ([(z 0, .inr (12, [.ref (z 1), .ref (z 2), .int (nI kp), .int (xs 0), .ref (z 3), .ref (z 4), .ref (z 5), .ref (z 6), .int (xs 1), .ref (z 7), .ref (z 8), .ref (z 9), .ref (z 10), .ref (z 11), .ref (z 12), .int (xs 2), .ref (z 13), .ref (z 14), .int (xs 3), .ref (z 15)])), (z 1, .inl (gI g, 461, .inl u))] : va_W)) := by
  refine kMv.of (by decide) (Nat.le_of_ble_eq_true rfl) (fun p e s m below meth c A hx hb hr hml hown hts hlk hnm hKW hP hD hS hA ls hl => ?_)
  have hown : s.vm.findClass RX12 = some m.cls := hown
  have hl : lv_has ls 8 [(0, .ref (z 0)), (1, .int 5), (2, .int 221), (3, .int 261), (4, .int 301), (5, .int x), (6, .int y)] := hl
  refine k_hide hP hS (fun H locs hP hS => ?_)
  refine lv_aload_n hx hb dX12_lead_0 rfl (lv_at hl 0 rfl) ?_
  refine va_get (ci := 12) (C := RX12) (T := TX12) (N := 20) hx hb hts inlX12 hown hKW.1 hP 0 rfl rfl 0 (by decide) (hts _ wd_6_5) (fun _ h => h) rfl dX12_lead_1 ?_
  refine lv_iload_n hx hb dX12_lead_4 rfl (lv_at hl 1 rfl) ?_
  obtain ⟨dk_1, hdk_1a, hdk_1b, edk_1⟩ := DI.n5 hDI
  refine va_iald hx hb hKW.1 hP 1 0 rfl rfl (show ¬ _ by decide) dX12_lead_5 ?_
  refine k_top (y := nI dk_1) edk_1 ?_
  refine lv_bipush (v := 40) hx hb dX12_lead_6 (by decide) ?_
  refine lv_icmp_ne (tgt := 99) hx hb dX12_lead_8 (by decide) (fun c_2 => ?_) (fun c_2 => ?_)
  · have c_2n : ¬ dk_1 = 40 := fun h => c_2 ((k_eqI (a := dk_1) (b := 40) (by omega) (by omega)).mpr h)
    refine lv_aload_n hx hb dX12_lead_99 rfl (lv_at hl 0 rfl) ?_
    refine va_get (ci := 12) (C := RX12) (T := TX12) (N := 20) hx hb hts inlX12 hown hKW.1 hP 0 rfl rfl 0 (by decide) (hts _ wd_6_5) (fun _ h => h) rfl dX12_lead_100 ?_
    refine lv_iload_n hx hb dX12_lead_103 rfl (lv_at hl 2 rfl) ?_
    refine lv_aload_n hx hb dX12_lead_104 rfl (lv_at hl 0 rfl) ?_
    refine va_get (ci := 12) (C := RX12) (T := TX12) (N := 20) hx hb hts inlX12 hown hKW.1 hP 0 rfl rfl 0 (by decide) (hts _ wd_6_5) (fun _ h => h) rfl dX12_lead_105 ?_
    refine lv_iload_n hx hb dX12_lead_108 rfl (lv_at hl 1 rfl) ?_
    refine va_iald hx hb hKW.1 hP 1 0 rfl rfl (show ¬ _ by decide) dX12_lead_109 ?_
    refine k_top (y := nI dk_1) edk_1 ?_
    refine lv_iadd hx hb dX12_lead_110 ?_
    refine k_top (y := nI (dk_1 + 221)) (by rw [Nat.add_comm]; exact nI_add 221 dk_1) ?_
    refine lv_iload hx hb dX12_lead_111 (lv_at hl 5 rfl) ?_
    refine va_iast hx hb hKW.1 hP hD hS 1 0 rfl rfl (vp_in_nI (by omega) (by decide)) dX12_lead_113 (fun H locs hP hD hS => ?_)
    have hP : va_P g.1 vwCl [(z 0, .inr (12, [.ref (z 1), .ref (z 2), .int (nI kp), .int (xs 0), .ref (z 3), .ref (z 4), .ref (z 5), .ref (z 6), .int (xs 1), .ref (z 7), .ref (z 8), .ref (z 9), .ref (z 10), .ref (z 11), .ref (z 12), .int (xs 2), .ref (z 13), .ref (z 14), .int (xs 3), .ref (z 15)])), (z 1, .inl (gI g, 461, .inl (upd D (nI (dk_1 + 221)).toNatClampNeg x)))] H := hP
    have hD : va_D A [(z 0, .inr (12, [.ref (z 1), .ref (z 2), .int (nI kp), .int (xs 0), .ref (z 3), .ref (z 4), .ref (z 5), .ref (z 6), .int (xs 1), .ref (z 7), .ref (z 8), .ref (z 9), .ref (z 10), .ref (z 11), .ref (z 12), .int (xs 2), .ref (z 13), .ref (z 14), .int (xs 3), .ref (z 15)])), (z 1, .inl (gI g, 461, .inl (upd D (nI (dk_1 + 221)).toNatClampNeg x)))] := hD
    obtain ⟨f_3, ef_3⟩ : ∃ zz_ : Nat → Int32, zz_ = upd D (nI (dk_1 + 221)).toNatClampNeg x := ⟨_, rfl⟩
    rw [← ef_3] at hP hD
    have dz_4 : f_3 5 = nI dk_1 := by rw [ef_3, nI_clamp (by omega), pk_un (by omega)]; exact edk_1
    have hDf_3 : DI f_3 := DI.free (i := (dk_1 + 221)) (x := x) hDI (by rw [ef_3, nI_clamp (by omega)]) (by unfold dFree; omega)
    refine lv_aload_n hx hb dX12_lead_114 rfl (lv_at hl 0 rfl) ?_
    refine va_get (ci := 12) (C := RX12) (T := TX12) (N := 20) hx hb hts inlX12 hown hKW.1 hP 0 rfl rfl 0 (by decide) (hts _ wd_6_5) (fun _ h => h) rfl dX12_lead_115 ?_
    refine lv_iload_n hx hb dX12_lead_118 rfl (lv_at hl 3 rfl) ?_
    refine lv_aload_n hx hb dX12_lead_119 rfl (lv_at hl 0 rfl) ?_
    refine va_get (ci := 12) (C := RX12) (T := TX12) (N := 20) hx hb hts inlX12 hown hKW.1 hP 0 rfl rfl 0 (by decide) (hts _ wd_6_5) (fun _ h => h) rfl dX12_lead_120 ?_
    refine lv_iload_n hx hb dX12_lead_123 rfl (lv_at hl 1 rfl) ?_
    refine va_iald hx hb hKW.1 hP 1 0 rfl rfl (show ¬ _ by decide) dX12_lead_124 ?_
    refine k_top (y := nI dk_1) dz_4 ?_
    refine lv_iadd hx hb dX12_lead_125 ?_
    refine k_top (y := nI (dk_1 + 261)) (by rw [Nat.add_comm]; exact nI_add 261 dk_1) ?_
    refine lv_aload_n hx hb dX12_lead_126 rfl (lv_at hl 0 rfl) ?_
    refine va_get (ci := 12) (C := RX12) (T := TX12) (N := 20) hx hb hts inlX12 hown hKW.1 hP 0 rfl rfl 0 (by decide) (hts _ wd_6_5) (fun _ h => h) rfl dX12_lead_127 ?_
    refine lv_iconst (v := 4) hx hb dX12_lead_130 (by decide) ?_
    refine va_iald hx hb hKW.1 hP 1 0 rfl rfl (show ¬ _ by decide) dX12_lead_131 ?_
    refine lv_topi (fun x_5 ex_5 => ?_)
    refine va_iast hx hb hKW.1 hP hD hS 1 0 rfl rfl (vp_in_nI (by omega) (by decide)) dX12_lead_132 (fun H locs hP hD hS => ?_)
    have hP : va_P g.1 vwCl [(z 0, .inr (12, [.ref (z 1), .ref (z 2), .int (nI kp), .int (xs 0), .ref (z 3), .ref (z 4), .ref (z 5), .ref (z 6), .int (xs 1), .ref (z 7), .ref (z 8), .ref (z 9), .ref (z 10), .ref (z 11), .ref (z 12), .int (xs 2), .ref (z 13), .ref (z 14), .int (xs 3), .ref (z 15)])), (z 1, .inl (gI g, 461, .inl (upd f_3 (nI (dk_1 + 261)).toNatClampNeg x_5)))] H := hP
    have hD : va_D A [(z 0, .inr (12, [.ref (z 1), .ref (z 2), .int (nI kp), .int (xs 0), .ref (z 3), .ref (z 4), .ref (z 5), .ref (z 6), .int (xs 1), .ref (z 7), .ref (z 8), .ref (z 9), .ref (z 10), .ref (z 11), .ref (z 12), .int (xs 2), .ref (z 13), .ref (z 14), .int (xs 3), .ref (z 15)])), (z 1, .inl (gI g, 461, .inl (upd f_3 (nI (dk_1 + 261)).toNatClampNeg x_5)))] := hD
    obtain ⟨f_6, ef_6⟩ : ∃ zz_ : Nat → Int32, zz_ = upd f_3 (nI (dk_1 + 261)).toNatClampNeg x_5 := ⟨_, rfl⟩
    rw [← ef_6] at hP hD
    have dz_7 : f_6 5 = nI dk_1 := by rw [ef_6, nI_clamp (by omega), pk_un (by omega)]; exact dz_4
    have hDf_6 : DI f_6 := DI.free (i := (dk_1 + 261)) (x := x_5) hDf_3 (by rw [ef_6, nI_clamp (by omega)]) (by unfold dFree; omega)
    refine lv_aload_n hx hb dX12_lead_133 rfl (lv_at hl 0 rfl) ?_
    refine va_get (ci := 12) (C := RX12) (T := TX12) (N := 20) hx hb hts inlX12 hown hKW.1 hP 0 rfl rfl 0 (by decide) (hts _ wd_6_5) (fun _ h => h) rfl dX12_lead_134 ?_
    refine lv_iload hx hb dX12_lead_137 (lv_at hl 4 rfl) ?_
    refine lv_aload_n hx hb dX12_lead_139 rfl (lv_at hl 0 rfl) ?_
    refine va_get (ci := 12) (C := RX12) (T := TX12) (N := 20) hx hb hts inlX12 hown hKW.1 hP 0 rfl rfl 0 (by decide) (hts _ wd_6_5) (fun _ h => h) rfl dX12_lead_140 ?_
    refine lv_iload_n hx hb dX12_lead_143 rfl (lv_at hl 1 rfl) ?_
    refine va_iald hx hb hKW.1 hP 1 0 rfl rfl (show ¬ _ by decide) dX12_lead_144 ?_
    refine k_top (y := nI dk_1) dz_7 ?_
    refine lv_iadd hx hb dX12_lead_145 ?_
    refine k_top (y := nI (dk_1 + 301)) (by rw [Nat.add_comm]; exact nI_add 301 dk_1) ?_
    refine lv_iload hx hb dX12_lead_146 (lv_at hl 6 rfl) ?_
    refine va_iast hx hb hKW.1 hP hD hS 1 0 rfl rfl (vp_in_nI (by omega) (by decide)) dX12_lead_148 (fun H locs hP hD hS => ?_)
    have hP : va_P g.1 vwCl [(z 0, .inr (12, [.ref (z 1), .ref (z 2), .int (nI kp), .int (xs 0), .ref (z 3), .ref (z 4), .ref (z 5), .ref (z 6), .int (xs 1), .ref (z 7), .ref (z 8), .ref (z 9), .ref (z 10), .ref (z 11), .ref (z 12), .int (xs 2), .ref (z 13), .ref (z 14), .int (xs 3), .ref (z 15)])), (z 1, .inl (gI g, 461, .inl (upd f_6 (nI (dk_1 + 301)).toNatClampNeg y)))] H := hP
    have hD : va_D A [(z 0, .inr (12, [.ref (z 1), .ref (z 2), .int (nI kp), .int (xs 0), .ref (z 3), .ref (z 4), .ref (z 5), .ref (z 6), .int (xs 1), .ref (z 7), .ref (z 8), .ref (z 9), .ref (z 10), .ref (z 11), .ref (z 12), .int (xs 2), .ref (z 13), .ref (z 14), .int (xs 3), .ref (z 15)])), (z 1, .inl (gI g, 461, .inl (upd f_6 (nI (dk_1 + 301)).toNatClampNeg y)))] := hD
    obtain ⟨f_8, ef_8⟩ : ∃ zz_ : Nat → Int32, zz_ = upd f_6 (nI (dk_1 + 301)).toNatClampNeg y := ⟨_, rfl⟩
    rw [← ef_8] at hP hD
    have dz_9 : f_8 5 = nI dk_1 := by rw [ef_8, nI_clamp (by omega), pk_un (by omega)]; exact dz_7
    have hDf_8 : DI f_8 := DI.free (i := (dk_1 + 301)) (x := y) hDf_6 (by rw [ef_8, nI_clamp (by omega)]) (by unfold dFree; omega)
    refine lv_aload_n hx hb dX12_lead_149 rfl (lv_at hl 0 rfl) ?_
    refine va_get (ci := 12) (C := RX12) (T := TX12) (N := 20) hx hb hts inlX12 hown hKW.1 hP 0 rfl rfl 0 (by decide) (hts _ wd_6_5) (fun _ h => h) rfl dX12_lead_150 ?_
    refine lv_iload_n hx hb dX12_lead_153 rfl (lv_at hl 1 rfl) ?_
    refine lv_dup2_11 hx hb dX12_lead_154 rfl rfl ?_
    refine va_iald hx hb hKW.1 hP 1 0 rfl rfl (show ¬ _ by decide) dX12_lead_155 ?_
    refine k_top (y := nI dk_1) dz_9 ?_
    refine lv_iconst (v := 1) hx hb dX12_lead_156 (by decide) ?_
    refine lv_iadd hx hb dX12_lead_157 ?_
    refine k_top (y := nI (dk_1 + 1)) (nI_add dk_1 1) ?_
    refine va_iast hx hb hKW.1 hP hD hS 1 0 rfl rfl (show ¬ _ by decide) dX12_lead_158 (fun H locs hP hD hS => ?_)
    have hP : va_P g.1 vwCl [(z 0, .inr (12, [.ref (z 1), .ref (z 2), .int (nI kp), .int (xs 0), .ref (z 3), .ref (z 4), .ref (z 5), .ref (z 6), .int (xs 1), .ref (z 7), .ref (z 8), .ref (z 9), .ref (z 10), .ref (z 11), .ref (z 12), .int (xs 2), .ref (z 13), .ref (z 14), .int (xs 3), .ref (z 15)])), (z 1, .inl (gI g, 461, .inl (upd f_8 5 (nI (dk_1 + 1)))))] H := hP
    have hD : va_D A [(z 0, .inr (12, [.ref (z 1), .ref (z 2), .int (nI kp), .int (xs 0), .ref (z 3), .ref (z 4), .ref (z 5), .ref (z 6), .int (xs 1), .ref (z 7), .ref (z 8), .ref (z 9), .ref (z 10), .ref (z 11), .ref (z 12), .int (xs 2), .ref (z 13), .ref (z 14), .int (xs 3), .ref (z 15)])), (z 1, .inl (gI g, 461, .inl (upd f_8 5 (nI (dk_1 + 1)))))] := hD
    obtain ⟨f_10, ef_10⟩ : ∃ zz_ : Nat → Int32, zz_ = upd f_8 5 (nI (dk_1 + 1)) := ⟨_, rfl⟩
    rw [← ef_10] at hP hD
    have dz_11 : f_10 5 = nI (dk_1 + 1) := by rw [ef_10, pk_us]
    have hDf_10 : DI f_10 := DI.upd (i := 5) (x := nI (dk_1 + 1)) hDf_8 ef_10 (h0 := (fun q => absurd q (by omega))) (h1 := (fun q => absurd q (by omega))) (h2 := (fun q => absurd q (by omega))) (h5 := (fun _ => k_rgI (lo := 0) (hi := 40) (n := (dk_1 + 1)) (by decide) (by omega) (by omega))) (h6 := (fun q => absurd q (by omega))) (h7 := (fun q => absurd q (by omega))) (h10 := (fun q => absurd q (by omega))) (hf := (fun q q2 => False.elim (by omega))) (hn := (fun q q2 => False.elim (by omega))) (ht := (fun q q2 => False.elim (by omega))) (hl := (fun q q2 => False.elim (by omega))) (h8 := (by omega))
    exact k_vret f_10 [0, 1] hx hb hr hlk hP hD hS hDf_10 rfl rfl rfl (Nat.le_of_ble_eq_true rfl) (Nat.le_of_ble_eq_true rfl) dX12_lead_159
  · have c_2n : dk_1 = 40 := (k_eqI (a := dk_1) (b := 40) (by omega) (by omega)).mp c_2
    refine lv_iconst (v := 0) hx hb dX12_lead_11 (by decide) ?_
    refine lv_istore (lv' := [(7, .int 0), (0, .ref (z 0)), (1, .int 5), (2, .int 221), (3, .int 261), (4, .int 301), (5, .int x), (6, .int y)]) hx hb dX12_lead_12 hl (by decide) rfl (fun ls hl => ?_)
    have L14 : ∀ (n14 : Nat) (i : Nat) (Da : Nat → Int32) (hfuel14 : 39 - i < n14) (hi : i ≤ 39) (hDa : DI Da) (h5 : Da 5 = 40) (H : Heap) (locs : List Loc) (hP : va_P g.1 vwCl [(z 0, .inr (12, [.ref (z 1), .ref (z 2), .int (nI kp), .int (xs 0), .ref (z 3), .ref (z 4), .ref (z 5), .ref (z 6), .int (xs 1), .ref (z 7), .ref (z 8), .ref (z 9), .ref (z 10), .ref (z 11), .ref (z 12), .int (xs 2), .ref (z 13), .ref (z 14), .int (xs 3), .ref (z 15)])), (z 1, .inl (gI g, 461, .inl Da))] H) (hD : va_D A [(z 0, .inr (12, [.ref (z 1), .ref (z 2), .int (nI kp), .int (xs 0), .ref (z 3), .ref (z 4), .ref (z 5), .ref (z 6), .int (xs 1), .ref (z 7), .ref (z 8), .ref (z 9), .ref (z 10), .ref (z 11), .ref (z 12), .int (xs 2), .ref (z 13), .ref (z 14), .int (xs 3), .ref (z 15)])), (z 1, .inl (gI g, 461, .inl Da))]) (hS : va_S A s.heap H locs) (ls : Array Slot) (hl : lv_has ls 8 [(7, .int (nI i)), (0, .ref (z 0)), (1, .int 5), (2, .int 221), (3, .int 261), (4, .int 301), (5, .int x), (6, .int y)]), W p l e (kR 1 0 0) s m ([.ref (z 0), .int 5, .int 221, .int 261, .int 301, .int x, .int y] : List Value).toArray below meth c H locs 0 0 (kQv g A below ([.ref (z 0), .int 5, .int 221, .int 261, .int 301, .int x, .int y] : List Value).toArray s 0 0 (fun (u : (Nat → Int32)) => DI u) (fun (u : (Nat → Int32)) => ([(z 0, .inr (12, [.ref (z 1), .ref (z 2), .int (nI kp), .int (xs 0), .ref (z 3), .ref (z 4), .ref (z 5), .ref (z 6), .int (xs 1), .ref (z 7), .ref (z 8), .ref (z 9), .ref (z 10), .ref (z 11), .ref (z 12), .int (xs 2), .ref (z 13), .ref (z 14), .int (xs 3), .ref (z 15)])), (z 1, .inl (gI g, 461, .inl u))] : va_W))) (F0 m 14 ls []) := by
      intro n14
      induction n14 with
      | zero => intro i Da hfuel14; exact absurd hfuel14 (Nat.not_lt_zero _)
      | succ n14 ih14 =>
        intro i Da hfuel14 hi hDa h5 H locs hP hD hS ls hl
        refine lv_iload hx hb dX12_lead_14 (lv_at hl 0 rfl) ?_
        refine lv_bipush (v := 39) hx hb dX12_lead_16 (by decide) ?_
        refine lv_icmp_ge (tgt := 89) hx hb dX12_lead_18 (by decide) (fun c_12 => ?_) (fun c_12 => ?_)
        · have c_12n : 39 ≤ i := (k_leI (a := 39) (b := i) (by omega) (by omega)).mp c_12
          refine lv_aload_n hx hb dX12_lead_89 rfl (lv_at hl 1 rfl) ?_
          refine va_get (ci := 12) (C := RX12) (T := TX12) (N := 20) hx hb hts inlX12 hown hKW.1 hP 0 rfl rfl 0 (by decide) (hts _ wd_6_5) (fun _ h => h) rfl dX12_lead_90 ?_
          refine lv_iload_n hx hb dX12_lead_93 rfl (lv_at hl 2 rfl) ?_
          refine lv_dup2_11 hx hb dX12_lead_94 rfl rfl ?_
          refine va_iald hx hb hKW.1 hP 1 0 rfl rfl (show ¬ _ by decide) dX12_lead_95 ?_
          refine k_top (y := 40) h5 ?_
          refine lv_iconst (v := 1) hx hb dX12_lead_96 (by decide) ?_
          refine lv_isub hx hb dX12_lead_97 ?_
          refine k_top (y := 39) (by decide) ?_
          refine va_iast hx hb hKW.1 hP hD hS 1 0 rfl rfl (show ¬ _ by decide) dX12_lead_98 (fun H locs hP hD hS => ?_)
          have hP : va_P g.1 vwCl [(z 0, .inr (12, [.ref (z 1), .ref (z 2), .int (nI kp), .int (xs 0), .ref (z 3), .ref (z 4), .ref (z 5), .ref (z 6), .int (xs 1), .ref (z 7), .ref (z 8), .ref (z 9), .ref (z 10), .ref (z 11), .ref (z 12), .int (xs 2), .ref (z 13), .ref (z 14), .int (xs 3), .ref (z 15)])), (z 1, .inl (gI g, 461, .inl (upd Da 5 39)))] H := hP
          have hD : va_D A [(z 0, .inr (12, [.ref (z 1), .ref (z 2), .int (nI kp), .int (xs 0), .ref (z 3), .ref (z 4), .ref (z 5), .ref (z 6), .int (xs 1), .ref (z 7), .ref (z 8), .ref (z 9), .ref (z 10), .ref (z 11), .ref (z 12), .int (xs 2), .ref (z 13), .ref (z 14), .int (xs 3), .ref (z 15)])), (z 1, .inl (gI g, 461, .inl (upd Da 5 39)))] := hD
          obtain ⟨f_13, ef_13⟩ : ∃ zz_ : Nat → Int32, zz_ = upd Da 5 39 := ⟨_, rfl⟩
          rw [← ef_13] at hP hD
          have dz_14 : f_13 5 = 39 := by rw [ef_13, pk_us]
          have hDf_13 : DI f_13 := DI.upd (i := 5) (x := 39) hDa ef_13 (h0 := (fun q => absurd q (by omega))) (h1 := (fun q => absurd q (by omega))) (h2 := (fun q => absurd q (by omega))) (h5 := (fun _ => by decide)) (h6 := (fun q => absurd q (by omega))) (h7 := (fun q => absurd q (by omega))) (h10 := (fun q => absurd q (by omega))) (hf := (fun q q2 => False.elim (by omega))) (hn := (fun q q2 => False.elim (by omega))) (ht := (fun q q2 => False.elim (by omega))) (hl := (fun q q2 => False.elim (by omega))) (h8 := (by omega))
          refine lv_aload_n hx hb dX12_lead_99 rfl (lv_at hl 1 rfl) ?_
          refine va_get (ci := 12) (C := RX12) (T := TX12) (N := 20) hx hb hts inlX12 hown hKW.1 hP 0 rfl rfl 0 (by decide) (hts _ wd_6_5) (fun _ h => h) rfl dX12_lead_100 ?_
          refine lv_iload_n hx hb dX12_lead_103 rfl (lv_at hl 3 rfl) ?_
          refine lv_aload_n hx hb dX12_lead_104 rfl (lv_at hl 1 rfl) ?_
          refine va_get (ci := 12) (C := RX12) (T := TX12) (N := 20) hx hb hts inlX12 hown hKW.1 hP 0 rfl rfl 0 (by decide) (hts _ wd_6_5) (fun _ h => h) rfl dX12_lead_105 ?_
          refine lv_iload_n hx hb dX12_lead_108 rfl (lv_at hl 2 rfl) ?_
          refine va_iald hx hb hKW.1 hP 1 0 rfl rfl (show ¬ _ by decide) dX12_lead_109 ?_
          refine k_top (y := 39) dz_14 ?_
          refine lv_iadd hx hb dX12_lead_110 ?_
          refine k_top (y := 260) (by decide) ?_
          refine lv_iload hx hb dX12_lead_111 (lv_at hl 6 rfl) ?_
          refine va_iast hx hb hKW.1 hP hD hS 1 0 rfl rfl (show ¬ _ by decide) dX12_lead_113 (fun H locs hP hD hS => ?_)
          have hP : va_P g.1 vwCl [(z 0, .inr (12, [.ref (z 1), .ref (z 2), .int (nI kp), .int (xs 0), .ref (z 3), .ref (z 4), .ref (z 5), .ref (z 6), .int (xs 1), .ref (z 7), .ref (z 8), .ref (z 9), .ref (z 10), .ref (z 11), .ref (z 12), .int (xs 2), .ref (z 13), .ref (z 14), .int (xs 3), .ref (z 15)])), (z 1, .inl (gI g, 461, .inl (upd f_13 260 x)))] H := hP
          have hD : va_D A [(z 0, .inr (12, [.ref (z 1), .ref (z 2), .int (nI kp), .int (xs 0), .ref (z 3), .ref (z 4), .ref (z 5), .ref (z 6), .int (xs 1), .ref (z 7), .ref (z 8), .ref (z 9), .ref (z 10), .ref (z 11), .ref (z 12), .int (xs 2), .ref (z 13), .ref (z 14), .int (xs 3), .ref (z 15)])), (z 1, .inl (gI g, 461, .inl (upd f_13 260 x)))] := hD
          obtain ⟨f_15, ef_15⟩ : ∃ zz_ : Nat → Int32, zz_ = upd f_13 260 x := ⟨_, rfl⟩
          rw [← ef_15] at hP hD
          have dz_16 : f_15 5 = 39 := by rw [ef_15, pk_un (by decide)]; exact dz_14
          have hDf_15 : DI f_15 := DI.free (i := 260) (x := x) hDf_13 ef_15 (by unfold dFree; omega)
          refine lv_aload_n hx hb dX12_lead_114 rfl (lv_at hl 1 rfl) ?_
          refine va_get (ci := 12) (C := RX12) (T := TX12) (N := 20) hx hb hts inlX12 hown hKW.1 hP 0 rfl rfl 0 (by decide) (hts _ wd_6_5) (fun _ h => h) rfl dX12_lead_115 ?_
          refine lv_iload_n hx hb dX12_lead_118 rfl (lv_at hl 4 rfl) ?_
          refine lv_aload_n hx hb dX12_lead_119 rfl (lv_at hl 1 rfl) ?_
          refine va_get (ci := 12) (C := RX12) (T := TX12) (N := 20) hx hb hts inlX12 hown hKW.1 hP 0 rfl rfl 0 (by decide) (hts _ wd_6_5) (fun _ h => h) rfl dX12_lead_120 ?_
          refine lv_iload_n hx hb dX12_lead_123 rfl (lv_at hl 2 rfl) ?_
          refine va_iald hx hb hKW.1 hP 1 0 rfl rfl (show ¬ _ by decide) dX12_lead_124 ?_
          refine k_top (y := 39) dz_16 ?_
          refine lv_iadd hx hb dX12_lead_125 ?_
          refine k_top (y := 300) (by decide) ?_
          refine lv_aload_n hx hb dX12_lead_126 rfl (lv_at hl 1 rfl) ?_
          refine va_get (ci := 12) (C := RX12) (T := TX12) (N := 20) hx hb hts inlX12 hown hKW.1 hP 0 rfl rfl 0 (by decide) (hts _ wd_6_5) (fun _ h => h) rfl dX12_lead_127 ?_
          refine lv_iconst (v := 4) hx hb dX12_lead_130 (by decide) ?_
          refine va_iald hx hb hKW.1 hP 1 0 rfl rfl (show ¬ _ by decide) dX12_lead_131 ?_
          refine lv_topi (fun x_17 ex_17 => ?_)
          refine va_iast hx hb hKW.1 hP hD hS 1 0 rfl rfl (show ¬ _ by decide) dX12_lead_132 (fun H locs hP hD hS => ?_)
          have hP : va_P g.1 vwCl [(z 0, .inr (12, [.ref (z 1), .ref (z 2), .int (nI kp), .int (xs 0), .ref (z 3), .ref (z 4), .ref (z 5), .ref (z 6), .int (xs 1), .ref (z 7), .ref (z 8), .ref (z 9), .ref (z 10), .ref (z 11), .ref (z 12), .int (xs 2), .ref (z 13), .ref (z 14), .int (xs 3), .ref (z 15)])), (z 1, .inl (gI g, 461, .inl (upd f_15 300 x_17)))] H := hP
          have hD : va_D A [(z 0, .inr (12, [.ref (z 1), .ref (z 2), .int (nI kp), .int (xs 0), .ref (z 3), .ref (z 4), .ref (z 5), .ref (z 6), .int (xs 1), .ref (z 7), .ref (z 8), .ref (z 9), .ref (z 10), .ref (z 11), .ref (z 12), .int (xs 2), .ref (z 13), .ref (z 14), .int (xs 3), .ref (z 15)])), (z 1, .inl (gI g, 461, .inl (upd f_15 300 x_17)))] := hD
          obtain ⟨f_18, ef_18⟩ : ∃ zz_ : Nat → Int32, zz_ = upd f_15 300 x_17 := ⟨_, rfl⟩
          rw [← ef_18] at hP hD
          have dz_19 : f_18 5 = 39 := by rw [ef_18, pk_un (by decide)]; exact dz_16
          have hDf_18 : DI f_18 := DI.free (i := 300) (x := x_17) hDf_15 ef_18 (by unfold dFree; omega)
          refine lv_aload_n hx hb dX12_lead_133 rfl (lv_at hl 1 rfl) ?_
          refine va_get (ci := 12) (C := RX12) (T := TX12) (N := 20) hx hb hts inlX12 hown hKW.1 hP 0 rfl rfl 0 (by decide) (hts _ wd_6_5) (fun _ h => h) rfl dX12_lead_134 ?_
          refine lv_iload hx hb dX12_lead_137 (lv_at hl 5 rfl) ?_
          refine lv_aload_n hx hb dX12_lead_139 rfl (lv_at hl 1 rfl) ?_
          refine va_get (ci := 12) (C := RX12) (T := TX12) (N := 20) hx hb hts inlX12 hown hKW.1 hP 0 rfl rfl 0 (by decide) (hts _ wd_6_5) (fun _ h => h) rfl dX12_lead_140 ?_
          refine lv_iload_n hx hb dX12_lead_143 rfl (lv_at hl 2 rfl) ?_
          refine va_iald hx hb hKW.1 hP 1 0 rfl rfl (show ¬ _ by decide) dX12_lead_144 ?_
          refine k_top (y := 39) dz_19 ?_
          refine lv_iadd hx hb dX12_lead_145 ?_
          refine k_top (y := 340) (by decide) ?_
          refine lv_iload hx hb dX12_lead_146 (lv_at hl 7 rfl) ?_
          refine va_iast hx hb hKW.1 hP hD hS 1 0 rfl rfl (show ¬ _ by decide) dX12_lead_148 (fun H locs hP hD hS => ?_)
          have hP : va_P g.1 vwCl [(z 0, .inr (12, [.ref (z 1), .ref (z 2), .int (nI kp), .int (xs 0), .ref (z 3), .ref (z 4), .ref (z 5), .ref (z 6), .int (xs 1), .ref (z 7), .ref (z 8), .ref (z 9), .ref (z 10), .ref (z 11), .ref (z 12), .int (xs 2), .ref (z 13), .ref (z 14), .int (xs 3), .ref (z 15)])), (z 1, .inl (gI g, 461, .inl (upd f_18 340 y)))] H := hP
          have hD : va_D A [(z 0, .inr (12, [.ref (z 1), .ref (z 2), .int (nI kp), .int (xs 0), .ref (z 3), .ref (z 4), .ref (z 5), .ref (z 6), .int (xs 1), .ref (z 7), .ref (z 8), .ref (z 9), .ref (z 10), .ref (z 11), .ref (z 12), .int (xs 2), .ref (z 13), .ref (z 14), .int (xs 3), .ref (z 15)])), (z 1, .inl (gI g, 461, .inl (upd f_18 340 y)))] := hD
          obtain ⟨f_20, ef_20⟩ : ∃ zz_ : Nat → Int32, zz_ = upd f_18 340 y := ⟨_, rfl⟩
          rw [← ef_20] at hP hD
          have dz_21 : f_20 5 = 39 := by rw [ef_20, pk_un (by decide)]; exact dz_19
          have hDf_20 : DI f_20 := DI.free (i := 340) (x := y) hDf_18 ef_20 (by unfold dFree; omega)
          refine lv_aload_n hx hb dX12_lead_149 rfl (lv_at hl 1 rfl) ?_
          refine va_get (ci := 12) (C := RX12) (T := TX12) (N := 20) hx hb hts inlX12 hown hKW.1 hP 0 rfl rfl 0 (by decide) (hts _ wd_6_5) (fun _ h => h) rfl dX12_lead_150 ?_
          refine lv_iload_n hx hb dX12_lead_153 rfl (lv_at hl 2 rfl) ?_
          refine lv_dup2_11 hx hb dX12_lead_154 rfl rfl ?_
          refine va_iald hx hb hKW.1 hP 1 0 rfl rfl (show ¬ _ by decide) dX12_lead_155 ?_
          refine k_top (y := 39) dz_21 ?_
          refine lv_iconst (v := 1) hx hb dX12_lead_156 (by decide) ?_
          refine lv_iadd hx hb dX12_lead_157 ?_
          refine k_top (y := 40) (by decide) ?_
          refine va_iast hx hb hKW.1 hP hD hS 1 0 rfl rfl (show ¬ _ by decide) dX12_lead_158 (fun H locs hP hD hS => ?_)
          have hP : va_P g.1 vwCl [(z 0, .inr (12, [.ref (z 1), .ref (z 2), .int (nI kp), .int (xs 0), .ref (z 3), .ref (z 4), .ref (z 5), .ref (z 6), .int (xs 1), .ref (z 7), .ref (z 8), .ref (z 9), .ref (z 10), .ref (z 11), .ref (z 12), .int (xs 2), .ref (z 13), .ref (z 14), .int (xs 3), .ref (z 15)])), (z 1, .inl (gI g, 461, .inl (upd f_20 5 40)))] H := hP
          have hD : va_D A [(z 0, .inr (12, [.ref (z 1), .ref (z 2), .int (nI kp), .int (xs 0), .ref (z 3), .ref (z 4), .ref (z 5), .ref (z 6), .int (xs 1), .ref (z 7), .ref (z 8), .ref (z 9), .ref (z 10), .ref (z 11), .ref (z 12), .int (xs 2), .ref (z 13), .ref (z 14), .int (xs 3), .ref (z 15)])), (z 1, .inl (gI g, 461, .inl (upd f_20 5 40)))] := hD
          obtain ⟨f_22, ef_22⟩ : ∃ zz_ : Nat → Int32, zz_ = upd f_20 5 40 := ⟨_, rfl⟩
          rw [← ef_22] at hP hD
          have dz_23 : f_22 5 = 40 := by rw [ef_22, pk_us]
          have hDf_22 : DI f_22 := DI.upd (i := 5) (x := 40) hDf_20 ef_22 (h0 := (fun q => absurd q (by omega))) (h1 := (fun q => absurd q (by omega))) (h2 := (fun q => absurd q (by omega))) (h5 := (fun _ => by decide)) (h6 := (fun q => absurd q (by omega))) (h7 := (fun q => absurd q (by omega))) (h10 := (fun q => absurd q (by omega))) (hf := (fun q q2 => False.elim (by omega))) (hn := (fun q q2 => False.elim (by omega))) (ht := (fun q q2 => False.elim (by omega))) (hl := (fun q q2 => False.elim (by omega))) (h8 := (by omega))
          exact k_vret f_22 [0, 1] hx hb hr hlk hP hD hS hDf_22 rfl rfl rfl (Nat.le_of_ble_eq_true rfl) (Nat.le_of_ble_eq_true rfl) dX12_lead_159
        · have c_12n : i < 39 := Nat.not_le.mp (fun h => c_12 ((k_leI (a := 39) (b := i) (by omega) (by omega)).mpr h))
          refine lv_aload_n hx hb dX12_lead_21 rfl (lv_at hl 1 rfl) ?_
          refine va_get (ci := 12) (C := RX12) (T := TX12) (N := 20) hx hb hts inlX12 hown hKW.1 hP 0 rfl rfl 0 (by decide) (hts _ wd_6_5) (fun _ h => h) rfl dX12_lead_22 ?_
          refine lv_iload_n hx hb dX12_lead_25 rfl (lv_at hl 3 rfl) ?_
          refine lv_iload hx hb dX12_lead_26 (lv_at hl 0 rfl) ?_
          refine lv_iadd hx hb dX12_lead_28 ?_
          refine k_top (y := nI (i + 221)) (by rw [Nat.add_comm]; exact nI_add 221 i) ?_
          refine lv_aload_n hx hb dX12_lead_29 rfl (lv_at hl 1 rfl) ?_
          refine va_get (ci := 12) (C := RX12) (T := TX12) (N := 20) hx hb hts inlX12 hown hKW.1 hP 0 rfl rfl 0 (by decide) (hts _ wd_6_5) (fun _ h => h) rfl dX12_lead_30 ?_
          refine lv_iload_n hx hb dX12_lead_33 rfl (lv_at hl 3 rfl) ?_
          refine lv_iload hx hb dX12_lead_34 (lv_at hl 0 rfl) ?_
          refine lv_iadd hx hb dX12_lead_36 ?_
          refine k_top (y := nI (i + 221)) (by rw [Nat.add_comm]; exact nI_add 221 i) ?_
          refine lv_iconst (v := 1) hx hb dX12_lead_37 (by decide) ?_
          refine lv_iadd hx hb dX12_lead_38 ?_
          refine k_top (y := nI ((i + 221) + 1)) (nI_add (i + 221) 1) ?_
          refine va_iald hx hb hKW.1 hP 1 0 rfl rfl (vp_in_nI (by omega) (by decide)) dX12_lead_39 ?_
          refine lv_topi (fun x_24 ex_24 => ?_)
          refine va_iast hx hb hKW.1 hP hD hS 1 0 rfl rfl (vp_in_nI (by omega) (by decide)) dX12_lead_40 (fun H locs hP hD hS => ?_)
          have hP : va_P g.1 vwCl [(z 0, .inr (12, [.ref (z 1), .ref (z 2), .int (nI kp), .int (xs 0), .ref (z 3), .ref (z 4), .ref (z 5), .ref (z 6), .int (xs 1), .ref (z 7), .ref (z 8), .ref (z 9), .ref (z 10), .ref (z 11), .ref (z 12), .int (xs 2), .ref (z 13), .ref (z 14), .int (xs 3), .ref (z 15)])), (z 1, .inl (gI g, 461, .inl (upd Da (nI (i + 221)).toNatClampNeg x_24)))] H := hP
          have hD : va_D A [(z 0, .inr (12, [.ref (z 1), .ref (z 2), .int (nI kp), .int (xs 0), .ref (z 3), .ref (z 4), .ref (z 5), .ref (z 6), .int (xs 1), .ref (z 7), .ref (z 8), .ref (z 9), .ref (z 10), .ref (z 11), .ref (z 12), .int (xs 2), .ref (z 13), .ref (z 14), .int (xs 3), .ref (z 15)])), (z 1, .inl (gI g, 461, .inl (upd Da (nI (i + 221)).toNatClampNeg x_24)))] := hD
          obtain ⟨f_25, ef_25⟩ : ∃ zz_ : Nat → Int32, zz_ = upd Da (nI (i + 221)).toNatClampNeg x_24 := ⟨_, rfl⟩
          rw [← ef_25] at hP hD
          have dz_26 : f_25 5 = 40 := by rw [ef_25, nI_clamp (by omega), pk_un (by omega)]; exact h5
          have hDf_25 : DI f_25 := DI.free (i := (i + 221)) (x := x_24) hDa (by rw [ef_25, nI_clamp (by omega)]) (by unfold dFree; omega)
          refine lv_aload_n hx hb dX12_lead_41 rfl (lv_at hl 1 rfl) ?_
          refine va_get (ci := 12) (C := RX12) (T := TX12) (N := 20) hx hb hts inlX12 hown hKW.1 hP 0 rfl rfl 0 (by decide) (hts _ wd_6_5) (fun _ h => h) rfl dX12_lead_42 ?_
          refine lv_iload_n hx hb dX12_lead_45 rfl (lv_at hl 4 rfl) ?_
          refine lv_iload hx hb dX12_lead_46 (lv_at hl 0 rfl) ?_
          refine lv_iadd hx hb dX12_lead_48 ?_
          refine k_top (y := nI (i + 261)) (by rw [Nat.add_comm]; exact nI_add 261 i) ?_
          refine lv_aload_n hx hb dX12_lead_49 rfl (lv_at hl 1 rfl) ?_
          refine va_get (ci := 12) (C := RX12) (T := TX12) (N := 20) hx hb hts inlX12 hown hKW.1 hP 0 rfl rfl 0 (by decide) (hts _ wd_6_5) (fun _ h => h) rfl dX12_lead_50 ?_
          refine lv_iload_n hx hb dX12_lead_53 rfl (lv_at hl 4 rfl) ?_
          refine lv_iload hx hb dX12_lead_54 (lv_at hl 0 rfl) ?_
          refine lv_iadd hx hb dX12_lead_56 ?_
          refine k_top (y := nI (i + 261)) (by rw [Nat.add_comm]; exact nI_add 261 i) ?_
          refine lv_iconst (v := 1) hx hb dX12_lead_57 (by decide) ?_
          refine lv_iadd hx hb dX12_lead_58 ?_
          refine k_top (y := nI ((i + 261) + 1)) (nI_add (i + 261) 1) ?_
          refine va_iald hx hb hKW.1 hP 1 0 rfl rfl (vp_in_nI (by omega) (by decide)) dX12_lead_59 ?_
          refine lv_topi (fun x_27 ex_27 => ?_)
          refine va_iast hx hb hKW.1 hP hD hS 1 0 rfl rfl (vp_in_nI (by omega) (by decide)) dX12_lead_60 (fun H locs hP hD hS => ?_)
          have hP : va_P g.1 vwCl [(z 0, .inr (12, [.ref (z 1), .ref (z 2), .int (nI kp), .int (xs 0), .ref (z 3), .ref (z 4), .ref (z 5), .ref (z 6), .int (xs 1), .ref (z 7), .ref (z 8), .ref (z 9), .ref (z 10), .ref (z 11), .ref (z 12), .int (xs 2), .ref (z 13), .ref (z 14), .int (xs 3), .ref (z 15)])), (z 1, .inl (gI g, 461, .inl (upd f_25 (nI (i + 261)).toNatClampNeg x_27)))] H := hP
          have hD : va_D A [(z 0, .inr (12, [.ref (z 1), .ref (z 2), .int (nI kp), .int (xs 0), .ref (z 3), .ref (z 4), .ref (z 5), .ref (z 6), .int (xs 1), .ref (z 7), .ref (z 8), .ref (z 9), .ref (z 10), .ref (z 11), .ref (z 12), .int (xs 2), .ref (z 13), .ref (z 14), .int (xs 3), .ref (z 15)])), (z 1, .inl (gI g, 461, .inl (upd f_25 (nI (i + 261)).toNatClampNeg x_27)))] := hD
          obtain ⟨f_28, ef_28⟩ : ∃ zz_ : Nat → Int32, zz_ = upd f_25 (nI (i + 261)).toNatClampNeg x_27 := ⟨_, rfl⟩
          rw [← ef_28] at hP hD
          have dz_29 : f_28 5 = 40 := by rw [ef_28, nI_clamp (by omega), pk_un (by omega)]; exact dz_26
          have hDf_28 : DI f_28 := DI.free (i := (i + 261)) (x := x_27) hDf_25 (by rw [ef_28, nI_clamp (by omega)]) (by unfold dFree; omega)
          refine lv_aload_n hx hb dX12_lead_61 rfl (lv_at hl 1 rfl) ?_
          refine va_get (ci := 12) (C := RX12) (T := TX12) (N := 20) hx hb hts inlX12 hown hKW.1 hP 0 rfl rfl 0 (by decide) (hts _ wd_6_5) (fun _ h => h) rfl dX12_lead_62 ?_
          refine lv_iload hx hb dX12_lead_65 (lv_at hl 5 rfl) ?_
          refine lv_iload hx hb dX12_lead_67 (lv_at hl 0 rfl) ?_
          refine lv_iadd hx hb dX12_lead_69 ?_
          refine k_top (y := nI (i + 301)) (by rw [Nat.add_comm]; exact nI_add 301 i) ?_
          refine lv_aload_n hx hb dX12_lead_70 rfl (lv_at hl 1 rfl) ?_
          refine va_get (ci := 12) (C := RX12) (T := TX12) (N := 20) hx hb hts inlX12 hown hKW.1 hP 0 rfl rfl 0 (by decide) (hts _ wd_6_5) (fun _ h => h) rfl dX12_lead_71 ?_
          refine lv_iload hx hb dX12_lead_74 (lv_at hl 5 rfl) ?_
          refine lv_iload hx hb dX12_lead_76 (lv_at hl 0 rfl) ?_
          refine lv_iadd hx hb dX12_lead_78 ?_
          refine k_top (y := nI (i + 301)) (by rw [Nat.add_comm]; exact nI_add 301 i) ?_
          refine lv_iconst (v := 1) hx hb dX12_lead_79 (by decide) ?_
          refine lv_iadd hx hb dX12_lead_80 ?_
          refine k_top (y := nI ((i + 301) + 1)) (nI_add (i + 301) 1) ?_
          refine va_iald hx hb hKW.1 hP 1 0 rfl rfl (vp_in_nI (by omega) (by decide)) dX12_lead_81 ?_
          refine lv_topi (fun x_30 ex_30 => ?_)
          refine va_iast hx hb hKW.1 hP hD hS 1 0 rfl rfl (vp_in_nI (by omega) (by decide)) dX12_lead_82 (fun H locs hP hD hS => ?_)
          have hP : va_P g.1 vwCl [(z 0, .inr (12, [.ref (z 1), .ref (z 2), .int (nI kp), .int (xs 0), .ref (z 3), .ref (z 4), .ref (z 5), .ref (z 6), .int (xs 1), .ref (z 7), .ref (z 8), .ref (z 9), .ref (z 10), .ref (z 11), .ref (z 12), .int (xs 2), .ref (z 13), .ref (z 14), .int (xs 3), .ref (z 15)])), (z 1, .inl (gI g, 461, .inl (upd f_28 (nI (i + 301)).toNatClampNeg x_30)))] H := hP
          have hD : va_D A [(z 0, .inr (12, [.ref (z 1), .ref (z 2), .int (nI kp), .int (xs 0), .ref (z 3), .ref (z 4), .ref (z 5), .ref (z 6), .int (xs 1), .ref (z 7), .ref (z 8), .ref (z 9), .ref (z 10), .ref (z 11), .ref (z 12), .int (xs 2), .ref (z 13), .ref (z 14), .int (xs 3), .ref (z 15)])), (z 1, .inl (gI g, 461, .inl (upd f_28 (nI (i + 301)).toNatClampNeg x_30)))] := hD
          obtain ⟨f_31, ef_31⟩ : ∃ zz_ : Nat → Int32, zz_ = upd f_28 (nI (i + 301)).toNatClampNeg x_30 := ⟨_, rfl⟩
          rw [← ef_31] at hP hD
          have dz_32 : f_31 5 = 40 := by rw [ef_31, nI_clamp (by omega), pk_un (by omega)]; exact dz_29
          have hDf_31 : DI f_31 := DI.free (i := (i + 301)) (x := x_30) hDf_28 (by rw [ef_31, nI_clamp (by omega)]) (by unfold dFree; omega)
          refine lv_iinc (v := nI (i + 1)) (lv' := [(7, .int (nI (i + 1))), (0, .ref (z 0)), (1, .int 5), (2, .int 221), (3, .int 261), (4, .int 301), (5, .int x), (6, .int y)]) hx hb dX12_lead_83 hl (k := 0) rfl (nI_add i 1) (by decide) rfl (fun ls hl => ?_)
          refine lv_goto (tgt := 14) hx hb dX12_lead_86 (by decide) ?_
          exact ih14 (i + 1) f_31 (by omega) (by first | assumption | omega) hDf_31 dz_32 H locs (hP.sub [0, 1] rfl) (hD.sub [0, 1] (by decide) rfl) hS ls (lv_sub hl [0, 1, 2, 3, 4, 5, 6, 7] rfl)
    exact L14 (39 - 0 + 1) 0 D (Nat.lt_succ_self _) (by first | assumption | omega) hDI (by rw [edk_1, show dk_1 = 40 by omega]; rfl) H locs (hP.sub [0, 1] rfl) (hD.sub [0, 1] (by decide) rfl) hS ls (lv_sub hl [0, 1, 2, 3, 4, 5, 6, 7] rfl)
theorem dX12_leadRoll_0 : decode cX12_leadRoll 0 = .ok (.aload_n 0, 1) := by decide +kernel
theorem dX12_leadRoll_1 : decode cX12_leadRoll 1 = .ok (.iconst 5, 1) := by decide +kernel
theorem dX12_leadRoll_2 : decode cX12_leadRoll 2 = .ok (.sipush 221, 3) := by decide +kernel
theorem dX12_leadRoll_5 : decode cX12_leadRoll 5 = .ok (.sipush 261, 3) := by decide +kernel
theorem dX12_leadRoll_8 : decode cX12_leadRoll 8 = .ok (.sipush 301, 3) := by decide +kernel
theorem dX12_leadRoll_11 : decode cX12_leadRoll 11 = .ok (.iload_n 1, 1) := by decide +kernel
theorem dX12_leadRoll_12 : decode cX12_leadRoll 12 = .ok (.iload_n 2, 1) := by decide +kernel
theorem dX12_leadRoll_13 : decode cX12_leadRoll 13 = .ok (.invokevirtual 96, 3) := by decide +kernel
theorem dX12_leadRoll_16 : decode cX12_leadRoll 16 = .ok (.return_, 1) := by decide +kernel
set_option maxHeartbeats 8000000 in
set_option maxRecDepth 100000 in
theorem c_X12_leadRoll (l : Launch) (g : kG) (sz : Nat) (z : Nat → Nat) (kp : Nat) (xs : Nat → Int32) (D : Nat → Int32) (x : Int32) (y : Int32) (hDI : DI D) : kMv l g yX12_leadRoll cX12_leadRoll 3 none 2 0 0 [.ref (z 0), .int x, .int y] sz [(z 0, .inr (12, [.ref (z 1), .ref (z 2), .int (nI kp), .int (xs 0), .ref (z 3), .ref (z 4), .ref (z 5), .ref (z 6), .int (xs 1), .ref (z 7), .ref (z 8), .ref (z 9), .ref (z 10), .ref (z 11), .ref (z 12), .int (xs 2), .ref (z 13), .ref (z 14), .int (xs 3), .ref (z 15)])), (z 1, .inl (gI g, 461, .inl D))] (fun (u : (Nat → Int32)) => DI u) (fun (u : (Nat → Int32)) => ([(z 0, .inr (12, [.ref (z 1), .ref (z 2), .int (nI kp), .int (xs 0), .ref (z 3), .ref (z 4), .ref (z 5), .ref (z 6), .int (xs 1), .ref (z 7), .ref (z 8), .ref (z 9), .ref (z 10), .ref (z 11), .ref (z 12), .int (xs 2), .ref (z 13), .ref (z 14), .int (xs 3), .ref (z 15)])), (z 1, .inl (gI g, 461, .inl u))] : va_W)) := by
  refine kMv.of (by decide) (Nat.le_of_ble_eq_true rfl) (fun p e s m below meth c A hx hb hr hml hown hts hlk hnm hKW hP hD hS hA ls hl => ?_)
  have hown : s.vm.findClass RX12 = some m.cls := hown
  have hl : lv_has ls 3 [(0, .ref (z 0)), (1, .int x), (2, .int y)] := hl
  refine k_hide hP hS (fun H locs hP hS => ?_)
  refine lv_aload_n hx hb dX12_leadRoll_0 rfl (lv_at hl 0 rfl) ?_
  refine lv_iconst (v := 5) hx hb dX12_leadRoll_1 (by decide) ?_
  refine lv_sipush (v := 221) hx hb dX12_leadRoll_2 (by decide) ?_
  refine lv_sipush (v := 261) hx hb dX12_leadRoll_5 (by decide) ?_
  refine lv_sipush (v := 301) hx hb dX12_leadRoll_8 (by decide) ?_
  refine lv_iload_n hx hb dX12_leadRoll_11 rfl (lv_at hl 1 rfl) ?_
  refine lv_iload_n hx hb dX12_leadRoll_12 rfl (lv_at hl 2 rfl) ?_
  refine k_Vv [0, 1] [] 0 12 (wr := []) hx hb hml hown hts hKW hP hD hS hA hl.1 (c_X12_lead_r l g _ z kp xs D x y (by first | assumption | omega | decide)) rfl rfl rfl wd_20_19 wd_1_5 wd_20_16 wd_20_17 wd_20_18 yd_X12_lead ⟨(Nat.le_of_ble_eq_true rfl), (Nat.le_of_ble_eq_true rfl)⟩ rfl rfl rfl rfl (by decide) rfl (Nat.le_of_ble_eq_true rfl) dX12_leadRoll_13 ⟨(Nat.le_of_ble_eq_true rfl), (Nat.le_of_ble_eq_true rfl)⟩ (fun u_2 H locs hw_3 hP hD hS => ?_)
  have hP : va_P g.1 vwCl [(z 0, .inr (12, [.ref (z 1), .ref (z 2), .int (nI kp), .int (xs 0), .ref (z 3), .ref (z 4), .ref (z 5), .ref (z 6), .int (xs 1), .ref (z 7), .ref (z 8), .ref (z 9), .ref (z 10), .ref (z 11), .ref (z 12), .int (xs 2), .ref (z 13), .ref (z 14), .int (xs 3), .ref (z 15)])), (z 1, .inl (gI g, 461, .inl u_2))] H := hP
  have hD : va_D A [(z 0, .inr (12, [.ref (z 1), .ref (z 2), .int (nI kp), .int (xs 0), .ref (z 3), .ref (z 4), .ref (z 5), .ref (z 6), .int (xs 1), .ref (z 7), .ref (z 8), .ref (z 9), .ref (z 10), .ref (z 11), .ref (z 12), .int (xs 2), .ref (z 13), .ref (z 14), .int (xs 3), .ref (z 15)])), (z 1, .inl (gI g, 461, .inl u_2))] := hD
  have hw_3 : DI u_2 := hw_3
  exact k_vret u_2 [0, 1] hx hb hr hlk hP hD hS hw_3 rfl rfl rfl (Nat.le_of_ble_eq_true rfl) (Nat.le_of_ble_eq_true rfl) dX12_leadRoll_16

set_option maxHeartbeats 8000000 in
set_option maxRecDepth 100000 in
theorem c_X12_lead_s (l : Launch) (g : kG) (sz : Nat) (z : Nat → Nat) (kp : Nat) (xs : Nat → Int32) (D : Nat → Int32) (x : Int32) (y : Int32) (hDI : DI D) : kMv l g yX12_lead cX12_lead 8 none 1 0 0 [.ref (z 0), .int 6, .int 341, .int 381, .int 421, .int x, .int y] sz [(z 0, .inr (12, [.ref (z 1), .ref (z 2), .int (nI kp), .int (xs 0), .ref (z 3), .ref (z 4), .ref (z 5), .ref (z 6), .int (xs 1), .ref (z 7), .ref (z 8), .ref (z 9), .ref (z 10), .ref (z 11), .ref (z 12), .int (xs 2), .ref (z 13), .ref (z 14), .int (xs 3), .ref (z 15)])), (z 1, .inl (gI g, 461, .inl D))] (fun (u : (Nat → Int32)) => DI u) (fun (u : (Nat → Int32)) => ([(z 0, .inr (12, [.ref (z 1), .ref (z 2), .int (nI kp), .int (xs 0), .ref (z 3), .ref (z 4), .ref (z 5), .ref (z 6), .int (xs 1), .ref (z 7), .ref (z 8), .ref (z 9), .ref (z 10), .ref (z 11), .ref (z 12), .int (xs 2), .ref (z 13), .ref (z 14), .int (xs 3), .ref (z 15)])), (z 1, .inl (gI g, 461, .inl u))] : va_W)) := by
  refine kMv.of (by decide) (Nat.le_of_ble_eq_true rfl) (fun p e s m below meth c A hx hb hr hml hown hts hlk hnm hKW hP hD hS hA ls hl => ?_)
  have hown : s.vm.findClass RX12 = some m.cls := hown
  have hl : lv_has ls 8 [(0, .ref (z 0)), (1, .int 6), (2, .int 341), (3, .int 381), (4, .int 421), (5, .int x), (6, .int y)] := hl
  refine k_hide hP hS (fun H locs hP hS => ?_)
  refine lv_aload_n hx hb dX12_lead_0 rfl (lv_at hl 0 rfl) ?_
  refine va_get (ci := 12) (C := RX12) (T := TX12) (N := 20) hx hb hts inlX12 hown hKW.1 hP 0 rfl rfl 0 (by decide) (hts _ wd_6_5) (fun _ h => h) rfl dX12_lead_1 ?_
  refine lv_iload_n hx hb dX12_lead_4 rfl (lv_at hl 1 rfl) ?_
  obtain ⟨dk_1, hdk_1a, hdk_1b, edk_1⟩ := DI.n6 hDI
  refine va_iald hx hb hKW.1 hP 1 0 rfl rfl (show ¬ _ by decide) dX12_lead_5 ?_
  refine k_top (y := nI dk_1) edk_1 ?_
  refine lv_bipush (v := 40) hx hb dX12_lead_6 (by decide) ?_
  refine lv_icmp_ne (tgt := 99) hx hb dX12_lead_8 (by decide) (fun c_2 => ?_) (fun c_2 => ?_)
  · have c_2n : ¬ dk_1 = 40 := fun h => c_2 ((k_eqI (a := dk_1) (b := 40) (by omega) (by omega)).mpr h)
    refine lv_aload_n hx hb dX12_lead_99 rfl (lv_at hl 0 rfl) ?_
    refine va_get (ci := 12) (C := RX12) (T := TX12) (N := 20) hx hb hts inlX12 hown hKW.1 hP 0 rfl rfl 0 (by decide) (hts _ wd_6_5) (fun _ h => h) rfl dX12_lead_100 ?_
    refine lv_iload_n hx hb dX12_lead_103 rfl (lv_at hl 2 rfl) ?_
    refine lv_aload_n hx hb dX12_lead_104 rfl (lv_at hl 0 rfl) ?_
    refine va_get (ci := 12) (C := RX12) (T := TX12) (N := 20) hx hb hts inlX12 hown hKW.1 hP 0 rfl rfl 0 (by decide) (hts _ wd_6_5) (fun _ h => h) rfl dX12_lead_105 ?_
    refine lv_iload_n hx hb dX12_lead_108 rfl (lv_at hl 1 rfl) ?_
    refine va_iald hx hb hKW.1 hP 1 0 rfl rfl (show ¬ _ by decide) dX12_lead_109 ?_
    refine k_top (y := nI dk_1) edk_1 ?_
    refine lv_iadd hx hb dX12_lead_110 ?_
    refine k_top (y := nI (dk_1 + 341)) (by rw [Nat.add_comm]; exact nI_add 341 dk_1) ?_
    refine lv_iload hx hb dX12_lead_111 (lv_at hl 5 rfl) ?_
    refine va_iast hx hb hKW.1 hP hD hS 1 0 rfl rfl (vp_in_nI (by omega) (by decide)) dX12_lead_113 (fun H locs hP hD hS => ?_)
    have hP : va_P g.1 vwCl [(z 0, .inr (12, [.ref (z 1), .ref (z 2), .int (nI kp), .int (xs 0), .ref (z 3), .ref (z 4), .ref (z 5), .ref (z 6), .int (xs 1), .ref (z 7), .ref (z 8), .ref (z 9), .ref (z 10), .ref (z 11), .ref (z 12), .int (xs 2), .ref (z 13), .ref (z 14), .int (xs 3), .ref (z 15)])), (z 1, .inl (gI g, 461, .inl (upd D (nI (dk_1 + 341)).toNatClampNeg x)))] H := hP
    have hD : va_D A [(z 0, .inr (12, [.ref (z 1), .ref (z 2), .int (nI kp), .int (xs 0), .ref (z 3), .ref (z 4), .ref (z 5), .ref (z 6), .int (xs 1), .ref (z 7), .ref (z 8), .ref (z 9), .ref (z 10), .ref (z 11), .ref (z 12), .int (xs 2), .ref (z 13), .ref (z 14), .int (xs 3), .ref (z 15)])), (z 1, .inl (gI g, 461, .inl (upd D (nI (dk_1 + 341)).toNatClampNeg x)))] := hD
    obtain ⟨f_3, ef_3⟩ : ∃ zz_ : Nat → Int32, zz_ = upd D (nI (dk_1 + 341)).toNatClampNeg x := ⟨_, rfl⟩
    rw [← ef_3] at hP hD
    have dz_4 : f_3 6 = nI dk_1 := by rw [ef_3, nI_clamp (by omega), pk_un (by omega)]; exact edk_1
    have hDf_3 : DI f_3 := DI.free (i := (dk_1 + 341)) (x := x) hDI (by rw [ef_3, nI_clamp (by omega)]) (by unfold dFree; omega)
    refine lv_aload_n hx hb dX12_lead_114 rfl (lv_at hl 0 rfl) ?_
    refine va_get (ci := 12) (C := RX12) (T := TX12) (N := 20) hx hb hts inlX12 hown hKW.1 hP 0 rfl rfl 0 (by decide) (hts _ wd_6_5) (fun _ h => h) rfl dX12_lead_115 ?_
    refine lv_iload_n hx hb dX12_lead_118 rfl (lv_at hl 3 rfl) ?_
    refine lv_aload_n hx hb dX12_lead_119 rfl (lv_at hl 0 rfl) ?_
    refine va_get (ci := 12) (C := RX12) (T := TX12) (N := 20) hx hb hts inlX12 hown hKW.1 hP 0 rfl rfl 0 (by decide) (hts _ wd_6_5) (fun _ h => h) rfl dX12_lead_120 ?_
    refine lv_iload_n hx hb dX12_lead_123 rfl (lv_at hl 1 rfl) ?_
    refine va_iald hx hb hKW.1 hP 1 0 rfl rfl (show ¬ _ by decide) dX12_lead_124 ?_
    refine k_top (y := nI dk_1) dz_4 ?_
    refine lv_iadd hx hb dX12_lead_125 ?_
    refine k_top (y := nI (dk_1 + 381)) (by rw [Nat.add_comm]; exact nI_add 381 dk_1) ?_
    refine lv_aload_n hx hb dX12_lead_126 rfl (lv_at hl 0 rfl) ?_
    refine va_get (ci := 12) (C := RX12) (T := TX12) (N := 20) hx hb hts inlX12 hown hKW.1 hP 0 rfl rfl 0 (by decide) (hts _ wd_6_5) (fun _ h => h) rfl dX12_lead_127 ?_
    refine lv_iconst (v := 4) hx hb dX12_lead_130 (by decide) ?_
    refine va_iald hx hb hKW.1 hP 1 0 rfl rfl (show ¬ _ by decide) dX12_lead_131 ?_
    refine lv_topi (fun x_5 ex_5 => ?_)
    refine va_iast hx hb hKW.1 hP hD hS 1 0 rfl rfl (vp_in_nI (by omega) (by decide)) dX12_lead_132 (fun H locs hP hD hS => ?_)
    have hP : va_P g.1 vwCl [(z 0, .inr (12, [.ref (z 1), .ref (z 2), .int (nI kp), .int (xs 0), .ref (z 3), .ref (z 4), .ref (z 5), .ref (z 6), .int (xs 1), .ref (z 7), .ref (z 8), .ref (z 9), .ref (z 10), .ref (z 11), .ref (z 12), .int (xs 2), .ref (z 13), .ref (z 14), .int (xs 3), .ref (z 15)])), (z 1, .inl (gI g, 461, .inl (upd f_3 (nI (dk_1 + 381)).toNatClampNeg x_5)))] H := hP
    have hD : va_D A [(z 0, .inr (12, [.ref (z 1), .ref (z 2), .int (nI kp), .int (xs 0), .ref (z 3), .ref (z 4), .ref (z 5), .ref (z 6), .int (xs 1), .ref (z 7), .ref (z 8), .ref (z 9), .ref (z 10), .ref (z 11), .ref (z 12), .int (xs 2), .ref (z 13), .ref (z 14), .int (xs 3), .ref (z 15)])), (z 1, .inl (gI g, 461, .inl (upd f_3 (nI (dk_1 + 381)).toNatClampNeg x_5)))] := hD
    obtain ⟨f_6, ef_6⟩ : ∃ zz_ : Nat → Int32, zz_ = upd f_3 (nI (dk_1 + 381)).toNatClampNeg x_5 := ⟨_, rfl⟩
    rw [← ef_6] at hP hD
    have dz_7 : f_6 6 = nI dk_1 := by rw [ef_6, nI_clamp (by omega), pk_un (by omega)]; exact dz_4
    have hDf_6 : DI f_6 := DI.free (i := (dk_1 + 381)) (x := x_5) hDf_3 (by rw [ef_6, nI_clamp (by omega)]) (by unfold dFree; omega)
    refine lv_aload_n hx hb dX12_lead_133 rfl (lv_at hl 0 rfl) ?_
    refine va_get (ci := 12) (C := RX12) (T := TX12) (N := 20) hx hb hts inlX12 hown hKW.1 hP 0 rfl rfl 0 (by decide) (hts _ wd_6_5) (fun _ h => h) rfl dX12_lead_134 ?_
    refine lv_iload hx hb dX12_lead_137 (lv_at hl 4 rfl) ?_
    refine lv_aload_n hx hb dX12_lead_139 rfl (lv_at hl 0 rfl) ?_
    refine va_get (ci := 12) (C := RX12) (T := TX12) (N := 20) hx hb hts inlX12 hown hKW.1 hP 0 rfl rfl 0 (by decide) (hts _ wd_6_5) (fun _ h => h) rfl dX12_lead_140 ?_
    refine lv_iload_n hx hb dX12_lead_143 rfl (lv_at hl 1 rfl) ?_
    refine va_iald hx hb hKW.1 hP 1 0 rfl rfl (show ¬ _ by decide) dX12_lead_144 ?_
    refine k_top (y := nI dk_1) dz_7 ?_
    refine lv_iadd hx hb dX12_lead_145 ?_
    refine k_top (y := nI (dk_1 + 421)) (by rw [Nat.add_comm]; exact nI_add 421 dk_1) ?_
    refine lv_iload hx hb dX12_lead_146 (lv_at hl 6 rfl) ?_
    refine va_iast hx hb hKW.1 hP hD hS 1 0 rfl rfl (vp_in_nI (by omega) (by decide)) dX12_lead_148 (fun H locs hP hD hS => ?_)
    have hP : va_P g.1 vwCl [(z 0, .inr (12, [.ref (z 1), .ref (z 2), .int (nI kp), .int (xs 0), .ref (z 3), .ref (z 4), .ref (z 5), .ref (z 6), .int (xs 1), .ref (z 7), .ref (z 8), .ref (z 9), .ref (z 10), .ref (z 11), .ref (z 12), .int (xs 2), .ref (z 13), .ref (z 14), .int (xs 3), .ref (z 15)])), (z 1, .inl (gI g, 461, .inl (upd f_6 (nI (dk_1 + 421)).toNatClampNeg y)))] H := hP
    have hD : va_D A [(z 0, .inr (12, [.ref (z 1), .ref (z 2), .int (nI kp), .int (xs 0), .ref (z 3), .ref (z 4), .ref (z 5), .ref (z 6), .int (xs 1), .ref (z 7), .ref (z 8), .ref (z 9), .ref (z 10), .ref (z 11), .ref (z 12), .int (xs 2), .ref (z 13), .ref (z 14), .int (xs 3), .ref (z 15)])), (z 1, .inl (gI g, 461, .inl (upd f_6 (nI (dk_1 + 421)).toNatClampNeg y)))] := hD
    obtain ⟨f_8, ef_8⟩ : ∃ zz_ : Nat → Int32, zz_ = upd f_6 (nI (dk_1 + 421)).toNatClampNeg y := ⟨_, rfl⟩
    rw [← ef_8] at hP hD
    have dz_9 : f_8 6 = nI dk_1 := by rw [ef_8, nI_clamp (by omega), pk_un (by omega)]; exact dz_7
    have hDf_8 : DI f_8 := DI.free (i := (dk_1 + 421)) (x := y) hDf_6 (by rw [ef_8, nI_clamp (by omega)]) (by unfold dFree; omega)
    refine lv_aload_n hx hb dX12_lead_149 rfl (lv_at hl 0 rfl) ?_
    refine va_get (ci := 12) (C := RX12) (T := TX12) (N := 20) hx hb hts inlX12 hown hKW.1 hP 0 rfl rfl 0 (by decide) (hts _ wd_6_5) (fun _ h => h) rfl dX12_lead_150 ?_
    refine lv_iload_n hx hb dX12_lead_153 rfl (lv_at hl 1 rfl) ?_
    refine lv_dup2_11 hx hb dX12_lead_154 rfl rfl ?_
    refine va_iald hx hb hKW.1 hP 1 0 rfl rfl (show ¬ _ by decide) dX12_lead_155 ?_
    refine k_top (y := nI dk_1) dz_9 ?_
    refine lv_iconst (v := 1) hx hb dX12_lead_156 (by decide) ?_
    refine lv_iadd hx hb dX12_lead_157 ?_
    refine k_top (y := nI (dk_1 + 1)) (nI_add dk_1 1) ?_
    refine va_iast hx hb hKW.1 hP hD hS 1 0 rfl rfl (show ¬ _ by decide) dX12_lead_158 (fun H locs hP hD hS => ?_)
    have hP : va_P g.1 vwCl [(z 0, .inr (12, [.ref (z 1), .ref (z 2), .int (nI kp), .int (xs 0), .ref (z 3), .ref (z 4), .ref (z 5), .ref (z 6), .int (xs 1), .ref (z 7), .ref (z 8), .ref (z 9), .ref (z 10), .ref (z 11), .ref (z 12), .int (xs 2), .ref (z 13), .ref (z 14), .int (xs 3), .ref (z 15)])), (z 1, .inl (gI g, 461, .inl (upd f_8 6 (nI (dk_1 + 1)))))] H := hP
    have hD : va_D A [(z 0, .inr (12, [.ref (z 1), .ref (z 2), .int (nI kp), .int (xs 0), .ref (z 3), .ref (z 4), .ref (z 5), .ref (z 6), .int (xs 1), .ref (z 7), .ref (z 8), .ref (z 9), .ref (z 10), .ref (z 11), .ref (z 12), .int (xs 2), .ref (z 13), .ref (z 14), .int (xs 3), .ref (z 15)])), (z 1, .inl (gI g, 461, .inl (upd f_8 6 (nI (dk_1 + 1)))))] := hD
    obtain ⟨f_10, ef_10⟩ : ∃ zz_ : Nat → Int32, zz_ = upd f_8 6 (nI (dk_1 + 1)) := ⟨_, rfl⟩
    rw [← ef_10] at hP hD
    have dz_11 : f_10 6 = nI (dk_1 + 1) := by rw [ef_10, pk_us]
    have hDf_10 : DI f_10 := DI.upd (i := 6) (x := nI (dk_1 + 1)) hDf_8 ef_10 (h0 := (fun q => absurd q (by omega))) (h1 := (fun q => absurd q (by omega))) (h2 := (fun q => absurd q (by omega))) (h5 := (fun q => absurd q (by omega))) (h6 := (fun _ => k_rgI (lo := 0) (hi := 40) (n := (dk_1 + 1)) (by decide) (by omega) (by omega))) (h7 := (fun q => absurd q (by omega))) (h10 := (fun q => absurd q (by omega))) (hf := (fun q q2 => False.elim (by omega))) (hn := (fun q q2 => False.elim (by omega))) (ht := (fun q q2 => False.elim (by omega))) (hl := (fun q q2 => False.elim (by omega))) (h8 := (by omega))
    exact k_vret f_10 [0, 1] hx hb hr hlk hP hD hS hDf_10 rfl rfl rfl (Nat.le_of_ble_eq_true rfl) (Nat.le_of_ble_eq_true rfl) dX12_lead_159
  · have c_2n : dk_1 = 40 := (k_eqI (a := dk_1) (b := 40) (by omega) (by omega)).mp c_2
    refine lv_iconst (v := 0) hx hb dX12_lead_11 (by decide) ?_
    refine lv_istore (lv' := [(7, .int 0), (0, .ref (z 0)), (1, .int 6), (2, .int 341), (3, .int 381), (4, .int 421), (5, .int x), (6, .int y)]) hx hb dX12_lead_12 hl (by decide) rfl (fun ls hl => ?_)
    have L14 : ∀ (n14 : Nat) (i : Nat) (Da : Nat → Int32) (hfuel14 : 39 - i < n14) (hi : i ≤ 39) (hDa : DI Da) (h5 : Da 6 = 40) (H : Heap) (locs : List Loc) (hP : va_P g.1 vwCl [(z 0, .inr (12, [.ref (z 1), .ref (z 2), .int (nI kp), .int (xs 0), .ref (z 3), .ref (z 4), .ref (z 5), .ref (z 6), .int (xs 1), .ref (z 7), .ref (z 8), .ref (z 9), .ref (z 10), .ref (z 11), .ref (z 12), .int (xs 2), .ref (z 13), .ref (z 14), .int (xs 3), .ref (z 15)])), (z 1, .inl (gI g, 461, .inl Da))] H) (hD : va_D A [(z 0, .inr (12, [.ref (z 1), .ref (z 2), .int (nI kp), .int (xs 0), .ref (z 3), .ref (z 4), .ref (z 5), .ref (z 6), .int (xs 1), .ref (z 7), .ref (z 8), .ref (z 9), .ref (z 10), .ref (z 11), .ref (z 12), .int (xs 2), .ref (z 13), .ref (z 14), .int (xs 3), .ref (z 15)])), (z 1, .inl (gI g, 461, .inl Da))]) (hS : va_S A s.heap H locs) (ls : Array Slot) (hl : lv_has ls 8 [(7, .int (nI i)), (0, .ref (z 0)), (1, .int 6), (2, .int 341), (3, .int 381), (4, .int 421), (5, .int x), (6, .int y)]), W p l e (kR 1 0 0) s m ([.ref (z 0), .int 6, .int 341, .int 381, .int 421, .int x, .int y] : List Value).toArray below meth c H locs 0 0 (kQv g A below ([.ref (z 0), .int 6, .int 341, .int 381, .int 421, .int x, .int y] : List Value).toArray s 0 0 (fun (u : (Nat → Int32)) => DI u) (fun (u : (Nat → Int32)) => ([(z 0, .inr (12, [.ref (z 1), .ref (z 2), .int (nI kp), .int (xs 0), .ref (z 3), .ref (z 4), .ref (z 5), .ref (z 6), .int (xs 1), .ref (z 7), .ref (z 8), .ref (z 9), .ref (z 10), .ref (z 11), .ref (z 12), .int (xs 2), .ref (z 13), .ref (z 14), .int (xs 3), .ref (z 15)])), (z 1, .inl (gI g, 461, .inl u))] : va_W))) (F0 m 14 ls []) := by
      intro n14
      induction n14 with
      | zero => intro i Da hfuel14; exact absurd hfuel14 (Nat.not_lt_zero _)
      | succ n14 ih14 =>
        intro i Da hfuel14 hi hDa h5 H locs hP hD hS ls hl
        refine lv_iload hx hb dX12_lead_14 (lv_at hl 0 rfl) ?_
        refine lv_bipush (v := 39) hx hb dX12_lead_16 (by decide) ?_
        refine lv_icmp_ge (tgt := 89) hx hb dX12_lead_18 (by decide) (fun c_12 => ?_) (fun c_12 => ?_)
        · have c_12n : 39 ≤ i := (k_leI (a := 39) (b := i) (by omega) (by omega)).mp c_12
          refine lv_aload_n hx hb dX12_lead_89 rfl (lv_at hl 1 rfl) ?_
          refine va_get (ci := 12) (C := RX12) (T := TX12) (N := 20) hx hb hts inlX12 hown hKW.1 hP 0 rfl rfl 0 (by decide) (hts _ wd_6_5) (fun _ h => h) rfl dX12_lead_90 ?_
          refine lv_iload_n hx hb dX12_lead_93 rfl (lv_at hl 2 rfl) ?_
          refine lv_dup2_11 hx hb dX12_lead_94 rfl rfl ?_
          refine va_iald hx hb hKW.1 hP 1 0 rfl rfl (show ¬ _ by decide) dX12_lead_95 ?_
          refine k_top (y := 40) h5 ?_
          refine lv_iconst (v := 1) hx hb dX12_lead_96 (by decide) ?_
          refine lv_isub hx hb dX12_lead_97 ?_
          refine k_top (y := 39) (by decide) ?_
          refine va_iast hx hb hKW.1 hP hD hS 1 0 rfl rfl (show ¬ _ by decide) dX12_lead_98 (fun H locs hP hD hS => ?_)
          have hP : va_P g.1 vwCl [(z 0, .inr (12, [.ref (z 1), .ref (z 2), .int (nI kp), .int (xs 0), .ref (z 3), .ref (z 4), .ref (z 5), .ref (z 6), .int (xs 1), .ref (z 7), .ref (z 8), .ref (z 9), .ref (z 10), .ref (z 11), .ref (z 12), .int (xs 2), .ref (z 13), .ref (z 14), .int (xs 3), .ref (z 15)])), (z 1, .inl (gI g, 461, .inl (upd Da 6 39)))] H := hP
          have hD : va_D A [(z 0, .inr (12, [.ref (z 1), .ref (z 2), .int (nI kp), .int (xs 0), .ref (z 3), .ref (z 4), .ref (z 5), .ref (z 6), .int (xs 1), .ref (z 7), .ref (z 8), .ref (z 9), .ref (z 10), .ref (z 11), .ref (z 12), .int (xs 2), .ref (z 13), .ref (z 14), .int (xs 3), .ref (z 15)])), (z 1, .inl (gI g, 461, .inl (upd Da 6 39)))] := hD
          obtain ⟨f_13, ef_13⟩ : ∃ zz_ : Nat → Int32, zz_ = upd Da 6 39 := ⟨_, rfl⟩
          rw [← ef_13] at hP hD
          have dz_14 : f_13 6 = 39 := by rw [ef_13, pk_us]
          have hDf_13 : DI f_13 := DI.upd (i := 6) (x := 39) hDa ef_13 (h0 := (fun q => absurd q (by omega))) (h1 := (fun q => absurd q (by omega))) (h2 := (fun q => absurd q (by omega))) (h5 := (fun q => absurd q (by omega))) (h6 := (fun _ => by decide)) (h7 := (fun q => absurd q (by omega))) (h10 := (fun q => absurd q (by omega))) (hf := (fun q q2 => False.elim (by omega))) (hn := (fun q q2 => False.elim (by omega))) (ht := (fun q q2 => False.elim (by omega))) (hl := (fun q q2 => False.elim (by omega))) (h8 := (by omega))
          refine lv_aload_n hx hb dX12_lead_99 rfl (lv_at hl 1 rfl) ?_
          refine va_get (ci := 12) (C := RX12) (T := TX12) (N := 20) hx hb hts inlX12 hown hKW.1 hP 0 rfl rfl 0 (by decide) (hts _ wd_6_5) (fun _ h => h) rfl dX12_lead_100 ?_
          refine lv_iload_n hx hb dX12_lead_103 rfl (lv_at hl 3 rfl) ?_
          refine lv_aload_n hx hb dX12_lead_104 rfl (lv_at hl 1 rfl) ?_
          refine va_get (ci := 12) (C := RX12) (T := TX12) (N := 20) hx hb hts inlX12 hown hKW.1 hP 0 rfl rfl 0 (by decide) (hts _ wd_6_5) (fun _ h => h) rfl dX12_lead_105 ?_
          refine lv_iload_n hx hb dX12_lead_108 rfl (lv_at hl 2 rfl) ?_
          refine va_iald hx hb hKW.1 hP 1 0 rfl rfl (show ¬ _ by decide) dX12_lead_109 ?_
          refine k_top (y := 39) dz_14 ?_
          refine lv_iadd hx hb dX12_lead_110 ?_
          refine k_top (y := 380) (by decide) ?_
          refine lv_iload hx hb dX12_lead_111 (lv_at hl 6 rfl) ?_
          refine va_iast hx hb hKW.1 hP hD hS 1 0 rfl rfl (show ¬ _ by decide) dX12_lead_113 (fun H locs hP hD hS => ?_)
          have hP : va_P g.1 vwCl [(z 0, .inr (12, [.ref (z 1), .ref (z 2), .int (nI kp), .int (xs 0), .ref (z 3), .ref (z 4), .ref (z 5), .ref (z 6), .int (xs 1), .ref (z 7), .ref (z 8), .ref (z 9), .ref (z 10), .ref (z 11), .ref (z 12), .int (xs 2), .ref (z 13), .ref (z 14), .int (xs 3), .ref (z 15)])), (z 1, .inl (gI g, 461, .inl (upd f_13 380 x)))] H := hP
          have hD : va_D A [(z 0, .inr (12, [.ref (z 1), .ref (z 2), .int (nI kp), .int (xs 0), .ref (z 3), .ref (z 4), .ref (z 5), .ref (z 6), .int (xs 1), .ref (z 7), .ref (z 8), .ref (z 9), .ref (z 10), .ref (z 11), .ref (z 12), .int (xs 2), .ref (z 13), .ref (z 14), .int (xs 3), .ref (z 15)])), (z 1, .inl (gI g, 461, .inl (upd f_13 380 x)))] := hD
          obtain ⟨f_15, ef_15⟩ : ∃ zz_ : Nat → Int32, zz_ = upd f_13 380 x := ⟨_, rfl⟩
          rw [← ef_15] at hP hD
          have dz_16 : f_15 6 = 39 := by rw [ef_15, pk_un (by decide)]; exact dz_14
          have hDf_15 : DI f_15 := DI.free (i := 380) (x := x) hDf_13 ef_15 (by unfold dFree; omega)
          refine lv_aload_n hx hb dX12_lead_114 rfl (lv_at hl 1 rfl) ?_
          refine va_get (ci := 12) (C := RX12) (T := TX12) (N := 20) hx hb hts inlX12 hown hKW.1 hP 0 rfl rfl 0 (by decide) (hts _ wd_6_5) (fun _ h => h) rfl dX12_lead_115 ?_
          refine lv_iload_n hx hb dX12_lead_118 rfl (lv_at hl 4 rfl) ?_
          refine lv_aload_n hx hb dX12_lead_119 rfl (lv_at hl 1 rfl) ?_
          refine va_get (ci := 12) (C := RX12) (T := TX12) (N := 20) hx hb hts inlX12 hown hKW.1 hP 0 rfl rfl 0 (by decide) (hts _ wd_6_5) (fun _ h => h) rfl dX12_lead_120 ?_
          refine lv_iload_n hx hb dX12_lead_123 rfl (lv_at hl 2 rfl) ?_
          refine va_iald hx hb hKW.1 hP 1 0 rfl rfl (show ¬ _ by decide) dX12_lead_124 ?_
          refine k_top (y := 39) dz_16 ?_
          refine lv_iadd hx hb dX12_lead_125 ?_
          refine k_top (y := 420) (by decide) ?_
          refine lv_aload_n hx hb dX12_lead_126 rfl (lv_at hl 1 rfl) ?_
          refine va_get (ci := 12) (C := RX12) (T := TX12) (N := 20) hx hb hts inlX12 hown hKW.1 hP 0 rfl rfl 0 (by decide) (hts _ wd_6_5) (fun _ h => h) rfl dX12_lead_127 ?_
          refine lv_iconst (v := 4) hx hb dX12_lead_130 (by decide) ?_
          refine va_iald hx hb hKW.1 hP 1 0 rfl rfl (show ¬ _ by decide) dX12_lead_131 ?_
          refine lv_topi (fun x_17 ex_17 => ?_)
          refine va_iast hx hb hKW.1 hP hD hS 1 0 rfl rfl (show ¬ _ by decide) dX12_lead_132 (fun H locs hP hD hS => ?_)
          have hP : va_P g.1 vwCl [(z 0, .inr (12, [.ref (z 1), .ref (z 2), .int (nI kp), .int (xs 0), .ref (z 3), .ref (z 4), .ref (z 5), .ref (z 6), .int (xs 1), .ref (z 7), .ref (z 8), .ref (z 9), .ref (z 10), .ref (z 11), .ref (z 12), .int (xs 2), .ref (z 13), .ref (z 14), .int (xs 3), .ref (z 15)])), (z 1, .inl (gI g, 461, .inl (upd f_15 420 x_17)))] H := hP
          have hD : va_D A [(z 0, .inr (12, [.ref (z 1), .ref (z 2), .int (nI kp), .int (xs 0), .ref (z 3), .ref (z 4), .ref (z 5), .ref (z 6), .int (xs 1), .ref (z 7), .ref (z 8), .ref (z 9), .ref (z 10), .ref (z 11), .ref (z 12), .int (xs 2), .ref (z 13), .ref (z 14), .int (xs 3), .ref (z 15)])), (z 1, .inl (gI g, 461, .inl (upd f_15 420 x_17)))] := hD
          obtain ⟨f_18, ef_18⟩ : ∃ zz_ : Nat → Int32, zz_ = upd f_15 420 x_17 := ⟨_, rfl⟩
          rw [← ef_18] at hP hD
          have dz_19 : f_18 6 = 39 := by rw [ef_18, pk_un (by decide)]; exact dz_16
          have hDf_18 : DI f_18 := DI.free (i := 420) (x := x_17) hDf_15 ef_18 (by unfold dFree; omega)
          refine lv_aload_n hx hb dX12_lead_133 rfl (lv_at hl 1 rfl) ?_
          refine va_get (ci := 12) (C := RX12) (T := TX12) (N := 20) hx hb hts inlX12 hown hKW.1 hP 0 rfl rfl 0 (by decide) (hts _ wd_6_5) (fun _ h => h) rfl dX12_lead_134 ?_
          refine lv_iload hx hb dX12_lead_137 (lv_at hl 5 rfl) ?_
          refine lv_aload_n hx hb dX12_lead_139 rfl (lv_at hl 1 rfl) ?_
          refine va_get (ci := 12) (C := RX12) (T := TX12) (N := 20) hx hb hts inlX12 hown hKW.1 hP 0 rfl rfl 0 (by decide) (hts _ wd_6_5) (fun _ h => h) rfl dX12_lead_140 ?_
          refine lv_iload_n hx hb dX12_lead_143 rfl (lv_at hl 2 rfl) ?_
          refine va_iald hx hb hKW.1 hP 1 0 rfl rfl (show ¬ _ by decide) dX12_lead_144 ?_
          refine k_top (y := 39) dz_19 ?_
          refine lv_iadd hx hb dX12_lead_145 ?_
          refine k_top (y := 460) (by decide) ?_
          refine lv_iload hx hb dX12_lead_146 (lv_at hl 7 rfl) ?_
          refine va_iast hx hb hKW.1 hP hD hS 1 0 rfl rfl (show ¬ _ by decide) dX12_lead_148 (fun H locs hP hD hS => ?_)
          have hP : va_P g.1 vwCl [(z 0, .inr (12, [.ref (z 1), .ref (z 2), .int (nI kp), .int (xs 0), .ref (z 3), .ref (z 4), .ref (z 5), .ref (z 6), .int (xs 1), .ref (z 7), .ref (z 8), .ref (z 9), .ref (z 10), .ref (z 11), .ref (z 12), .int (xs 2), .ref (z 13), .ref (z 14), .int (xs 3), .ref (z 15)])), (z 1, .inl (gI g, 461, .inl (upd f_18 460 y)))] H := hP
          have hD : va_D A [(z 0, .inr (12, [.ref (z 1), .ref (z 2), .int (nI kp), .int (xs 0), .ref (z 3), .ref (z 4), .ref (z 5), .ref (z 6), .int (xs 1), .ref (z 7), .ref (z 8), .ref (z 9), .ref (z 10), .ref (z 11), .ref (z 12), .int (xs 2), .ref (z 13), .ref (z 14), .int (xs 3), .ref (z 15)])), (z 1, .inl (gI g, 461, .inl (upd f_18 460 y)))] := hD
          obtain ⟨f_20, ef_20⟩ : ∃ zz_ : Nat → Int32, zz_ = upd f_18 460 y := ⟨_, rfl⟩
          rw [← ef_20] at hP hD
          have dz_21 : f_20 6 = 39 := by rw [ef_20, pk_un (by decide)]; exact dz_19
          have hDf_20 : DI f_20 := DI.free (i := 460) (x := y) hDf_18 ef_20 (by unfold dFree; omega)
          refine lv_aload_n hx hb dX12_lead_149 rfl (lv_at hl 1 rfl) ?_
          refine va_get (ci := 12) (C := RX12) (T := TX12) (N := 20) hx hb hts inlX12 hown hKW.1 hP 0 rfl rfl 0 (by decide) (hts _ wd_6_5) (fun _ h => h) rfl dX12_lead_150 ?_
          refine lv_iload_n hx hb dX12_lead_153 rfl (lv_at hl 2 rfl) ?_
          refine lv_dup2_11 hx hb dX12_lead_154 rfl rfl ?_
          refine va_iald hx hb hKW.1 hP 1 0 rfl rfl (show ¬ _ by decide) dX12_lead_155 ?_
          refine k_top (y := 39) dz_21 ?_
          refine lv_iconst (v := 1) hx hb dX12_lead_156 (by decide) ?_
          refine lv_iadd hx hb dX12_lead_157 ?_
          refine k_top (y := 40) (by decide) ?_
          refine va_iast hx hb hKW.1 hP hD hS 1 0 rfl rfl (show ¬ _ by decide) dX12_lead_158 (fun H locs hP hD hS => ?_)
          have hP : va_P g.1 vwCl [(z 0, .inr (12, [.ref (z 1), .ref (z 2), .int (nI kp), .int (xs 0), .ref (z 3), .ref (z 4), .ref (z 5), .ref (z 6), .int (xs 1), .ref (z 7), .ref (z 8), .ref (z 9), .ref (z 10), .ref (z 11), .ref (z 12), .int (xs 2), .ref (z 13), .ref (z 14), .int (xs 3), .ref (z 15)])), (z 1, .inl (gI g, 461, .inl (upd f_20 6 40)))] H := hP
          have hD : va_D A [(z 0, .inr (12, [.ref (z 1), .ref (z 2), .int (nI kp), .int (xs 0), .ref (z 3), .ref (z 4), .ref (z 5), .ref (z 6), .int (xs 1), .ref (z 7), .ref (z 8), .ref (z 9), .ref (z 10), .ref (z 11), .ref (z 12), .int (xs 2), .ref (z 13), .ref (z 14), .int (xs 3), .ref (z 15)])), (z 1, .inl (gI g, 461, .inl (upd f_20 6 40)))] := hD
          obtain ⟨f_22, ef_22⟩ : ∃ zz_ : Nat → Int32, zz_ = upd f_20 6 40 := ⟨_, rfl⟩
          rw [← ef_22] at hP hD
          have dz_23 : f_22 6 = 40 := by rw [ef_22, pk_us]
          have hDf_22 : DI f_22 := DI.upd (i := 6) (x := 40) hDf_20 ef_22 (h0 := (fun q => absurd q (by omega))) (h1 := (fun q => absurd q (by omega))) (h2 := (fun q => absurd q (by omega))) (h5 := (fun q => absurd q (by omega))) (h6 := (fun _ => by decide)) (h7 := (fun q => absurd q (by omega))) (h10 := (fun q => absurd q (by omega))) (hf := (fun q q2 => False.elim (by omega))) (hn := (fun q q2 => False.elim (by omega))) (ht := (fun q q2 => False.elim (by omega))) (hl := (fun q q2 => False.elim (by omega))) (h8 := (by omega))
          exact k_vret f_22 [0, 1] hx hb hr hlk hP hD hS hDf_22 rfl rfl rfl (Nat.le_of_ble_eq_true rfl) (Nat.le_of_ble_eq_true rfl) dX12_lead_159
        · have c_12n : i < 39 := Nat.not_le.mp (fun h => c_12 ((k_leI (a := 39) (b := i) (by omega) (by omega)).mpr h))
          refine lv_aload_n hx hb dX12_lead_21 rfl (lv_at hl 1 rfl) ?_
          refine va_get (ci := 12) (C := RX12) (T := TX12) (N := 20) hx hb hts inlX12 hown hKW.1 hP 0 rfl rfl 0 (by decide) (hts _ wd_6_5) (fun _ h => h) rfl dX12_lead_22 ?_
          refine lv_iload_n hx hb dX12_lead_25 rfl (lv_at hl 3 rfl) ?_
          refine lv_iload hx hb dX12_lead_26 (lv_at hl 0 rfl) ?_
          refine lv_iadd hx hb dX12_lead_28 ?_
          refine k_top (y := nI (i + 341)) (by rw [Nat.add_comm]; exact nI_add 341 i) ?_
          refine lv_aload_n hx hb dX12_lead_29 rfl (lv_at hl 1 rfl) ?_
          refine va_get (ci := 12) (C := RX12) (T := TX12) (N := 20) hx hb hts inlX12 hown hKW.1 hP 0 rfl rfl 0 (by decide) (hts _ wd_6_5) (fun _ h => h) rfl dX12_lead_30 ?_
          refine lv_iload_n hx hb dX12_lead_33 rfl (lv_at hl 3 rfl) ?_
          refine lv_iload hx hb dX12_lead_34 (lv_at hl 0 rfl) ?_
          refine lv_iadd hx hb dX12_lead_36 ?_
          refine k_top (y := nI (i + 341)) (by rw [Nat.add_comm]; exact nI_add 341 i) ?_
          refine lv_iconst (v := 1) hx hb dX12_lead_37 (by decide) ?_
          refine lv_iadd hx hb dX12_lead_38 ?_
          refine k_top (y := nI ((i + 341) + 1)) (nI_add (i + 341) 1) ?_
          refine va_iald hx hb hKW.1 hP 1 0 rfl rfl (vp_in_nI (by omega) (by decide)) dX12_lead_39 ?_
          refine lv_topi (fun x_24 ex_24 => ?_)
          refine va_iast hx hb hKW.1 hP hD hS 1 0 rfl rfl (vp_in_nI (by omega) (by decide)) dX12_lead_40 (fun H locs hP hD hS => ?_)
          have hP : va_P g.1 vwCl [(z 0, .inr (12, [.ref (z 1), .ref (z 2), .int (nI kp), .int (xs 0), .ref (z 3), .ref (z 4), .ref (z 5), .ref (z 6), .int (xs 1), .ref (z 7), .ref (z 8), .ref (z 9), .ref (z 10), .ref (z 11), .ref (z 12), .int (xs 2), .ref (z 13), .ref (z 14), .int (xs 3), .ref (z 15)])), (z 1, .inl (gI g, 461, .inl (upd Da (nI (i + 341)).toNatClampNeg x_24)))] H := hP
          have hD : va_D A [(z 0, .inr (12, [.ref (z 1), .ref (z 2), .int (nI kp), .int (xs 0), .ref (z 3), .ref (z 4), .ref (z 5), .ref (z 6), .int (xs 1), .ref (z 7), .ref (z 8), .ref (z 9), .ref (z 10), .ref (z 11), .ref (z 12), .int (xs 2), .ref (z 13), .ref (z 14), .int (xs 3), .ref (z 15)])), (z 1, .inl (gI g, 461, .inl (upd Da (nI (i + 341)).toNatClampNeg x_24)))] := hD
          obtain ⟨f_25, ef_25⟩ : ∃ zz_ : Nat → Int32, zz_ = upd Da (nI (i + 341)).toNatClampNeg x_24 := ⟨_, rfl⟩
          rw [← ef_25] at hP hD
          have dz_26 : f_25 6 = 40 := by rw [ef_25, nI_clamp (by omega), pk_un (by omega)]; exact h5
          have hDf_25 : DI f_25 := DI.free (i := (i + 341)) (x := x_24) hDa (by rw [ef_25, nI_clamp (by omega)]) (by unfold dFree; omega)
          refine lv_aload_n hx hb dX12_lead_41 rfl (lv_at hl 1 rfl) ?_
          refine va_get (ci := 12) (C := RX12) (T := TX12) (N := 20) hx hb hts inlX12 hown hKW.1 hP 0 rfl rfl 0 (by decide) (hts _ wd_6_5) (fun _ h => h) rfl dX12_lead_42 ?_
          refine lv_iload_n hx hb dX12_lead_45 rfl (lv_at hl 4 rfl) ?_
          refine lv_iload hx hb dX12_lead_46 (lv_at hl 0 rfl) ?_
          refine lv_iadd hx hb dX12_lead_48 ?_
          refine k_top (y := nI (i + 381)) (by rw [Nat.add_comm]; exact nI_add 381 i) ?_
          refine lv_aload_n hx hb dX12_lead_49 rfl (lv_at hl 1 rfl) ?_
          refine va_get (ci := 12) (C := RX12) (T := TX12) (N := 20) hx hb hts inlX12 hown hKW.1 hP 0 rfl rfl 0 (by decide) (hts _ wd_6_5) (fun _ h => h) rfl dX12_lead_50 ?_
          refine lv_iload_n hx hb dX12_lead_53 rfl (lv_at hl 4 rfl) ?_
          refine lv_iload hx hb dX12_lead_54 (lv_at hl 0 rfl) ?_
          refine lv_iadd hx hb dX12_lead_56 ?_
          refine k_top (y := nI (i + 381)) (by rw [Nat.add_comm]; exact nI_add 381 i) ?_
          refine lv_iconst (v := 1) hx hb dX12_lead_57 (by decide) ?_
          refine lv_iadd hx hb dX12_lead_58 ?_
          refine k_top (y := nI ((i + 381) + 1)) (nI_add (i + 381) 1) ?_
          refine va_iald hx hb hKW.1 hP 1 0 rfl rfl (vp_in_nI (by omega) (by decide)) dX12_lead_59 ?_
          refine lv_topi (fun x_27 ex_27 => ?_)
          refine va_iast hx hb hKW.1 hP hD hS 1 0 rfl rfl (vp_in_nI (by omega) (by decide)) dX12_lead_60 (fun H locs hP hD hS => ?_)
          have hP : va_P g.1 vwCl [(z 0, .inr (12, [.ref (z 1), .ref (z 2), .int (nI kp), .int (xs 0), .ref (z 3), .ref (z 4), .ref (z 5), .ref (z 6), .int (xs 1), .ref (z 7), .ref (z 8), .ref (z 9), .ref (z 10), .ref (z 11), .ref (z 12), .int (xs 2), .ref (z 13), .ref (z 14), .int (xs 3), .ref (z 15)])), (z 1, .inl (gI g, 461, .inl (upd f_25 (nI (i + 381)).toNatClampNeg x_27)))] H := hP
          have hD : va_D A [(z 0, .inr (12, [.ref (z 1), .ref (z 2), .int (nI kp), .int (xs 0), .ref (z 3), .ref (z 4), .ref (z 5), .ref (z 6), .int (xs 1), .ref (z 7), .ref (z 8), .ref (z 9), .ref (z 10), .ref (z 11), .ref (z 12), .int (xs 2), .ref (z 13), .ref (z 14), .int (xs 3), .ref (z 15)])), (z 1, .inl (gI g, 461, .inl (upd f_25 (nI (i + 381)).toNatClampNeg x_27)))] := hD
          obtain ⟨f_28, ef_28⟩ : ∃ zz_ : Nat → Int32, zz_ = upd f_25 (nI (i + 381)).toNatClampNeg x_27 := ⟨_, rfl⟩
          rw [← ef_28] at hP hD
          have dz_29 : f_28 6 = 40 := by rw [ef_28, nI_clamp (by omega), pk_un (by omega)]; exact dz_26
          have hDf_28 : DI f_28 := DI.free (i := (i + 381)) (x := x_27) hDf_25 (by rw [ef_28, nI_clamp (by omega)]) (by unfold dFree; omega)
          refine lv_aload_n hx hb dX12_lead_61 rfl (lv_at hl 1 rfl) ?_
          refine va_get (ci := 12) (C := RX12) (T := TX12) (N := 20) hx hb hts inlX12 hown hKW.1 hP 0 rfl rfl 0 (by decide) (hts _ wd_6_5) (fun _ h => h) rfl dX12_lead_62 ?_
          refine lv_iload hx hb dX12_lead_65 (lv_at hl 5 rfl) ?_
          refine lv_iload hx hb dX12_lead_67 (lv_at hl 0 rfl) ?_
          refine lv_iadd hx hb dX12_lead_69 ?_
          refine k_top (y := nI (i + 421)) (by rw [Nat.add_comm]; exact nI_add 421 i) ?_
          refine lv_aload_n hx hb dX12_lead_70 rfl (lv_at hl 1 rfl) ?_
          refine va_get (ci := 12) (C := RX12) (T := TX12) (N := 20) hx hb hts inlX12 hown hKW.1 hP 0 rfl rfl 0 (by decide) (hts _ wd_6_5) (fun _ h => h) rfl dX12_lead_71 ?_
          refine lv_iload hx hb dX12_lead_74 (lv_at hl 5 rfl) ?_
          refine lv_iload hx hb dX12_lead_76 (lv_at hl 0 rfl) ?_
          refine lv_iadd hx hb dX12_lead_78 ?_
          refine k_top (y := nI (i + 421)) (by rw [Nat.add_comm]; exact nI_add 421 i) ?_
          refine lv_iconst (v := 1) hx hb dX12_lead_79 (by decide) ?_
          refine lv_iadd hx hb dX12_lead_80 ?_
          refine k_top (y := nI ((i + 421) + 1)) (nI_add (i + 421) 1) ?_
          refine va_iald hx hb hKW.1 hP 1 0 rfl rfl (vp_in_nI (by omega) (by decide)) dX12_lead_81 ?_
          refine lv_topi (fun x_30 ex_30 => ?_)
          refine va_iast hx hb hKW.1 hP hD hS 1 0 rfl rfl (vp_in_nI (by omega) (by decide)) dX12_lead_82 (fun H locs hP hD hS => ?_)
          have hP : va_P g.1 vwCl [(z 0, .inr (12, [.ref (z 1), .ref (z 2), .int (nI kp), .int (xs 0), .ref (z 3), .ref (z 4), .ref (z 5), .ref (z 6), .int (xs 1), .ref (z 7), .ref (z 8), .ref (z 9), .ref (z 10), .ref (z 11), .ref (z 12), .int (xs 2), .ref (z 13), .ref (z 14), .int (xs 3), .ref (z 15)])), (z 1, .inl (gI g, 461, .inl (upd f_28 (nI (i + 421)).toNatClampNeg x_30)))] H := hP
          have hD : va_D A [(z 0, .inr (12, [.ref (z 1), .ref (z 2), .int (nI kp), .int (xs 0), .ref (z 3), .ref (z 4), .ref (z 5), .ref (z 6), .int (xs 1), .ref (z 7), .ref (z 8), .ref (z 9), .ref (z 10), .ref (z 11), .ref (z 12), .int (xs 2), .ref (z 13), .ref (z 14), .int (xs 3), .ref (z 15)])), (z 1, .inl (gI g, 461, .inl (upd f_28 (nI (i + 421)).toNatClampNeg x_30)))] := hD
          obtain ⟨f_31, ef_31⟩ : ∃ zz_ : Nat → Int32, zz_ = upd f_28 (nI (i + 421)).toNatClampNeg x_30 := ⟨_, rfl⟩
          rw [← ef_31] at hP hD
          have dz_32 : f_31 6 = 40 := by rw [ef_31, nI_clamp (by omega), pk_un (by omega)]; exact dz_29
          have hDf_31 : DI f_31 := DI.free (i := (i + 421)) (x := x_30) hDf_28 (by rw [ef_31, nI_clamp (by omega)]) (by unfold dFree; omega)
          refine lv_iinc (v := nI (i + 1)) (lv' := [(7, .int (nI (i + 1))), (0, .ref (z 0)), (1, .int 6), (2, .int 341), (3, .int 381), (4, .int 421), (5, .int x), (6, .int y)]) hx hb dX12_lead_83 hl (k := 0) rfl (nI_add i 1) (by decide) rfl (fun ls hl => ?_)
          refine lv_goto (tgt := 14) hx hb dX12_lead_86 (by decide) ?_
          exact ih14 (i + 1) f_31 (by omega) (by first | assumption | omega) hDf_31 dz_32 H locs (hP.sub [0, 1] rfl) (hD.sub [0, 1] (by decide) rfl) hS ls (lv_sub hl [0, 1, 2, 3, 4, 5, 6, 7] rfl)
    exact L14 (39 - 0 + 1) 0 D (Nat.lt_succ_self _) (by first | assumption | omega) hDI (by rw [edk_1, show dk_1 = 40 by omega]; rfl) H locs (hP.sub [0, 1] rfl) (hD.sub [0, 1] (by decide) rfl) hS ls (lv_sub hl [0, 1, 2, 3, 4, 5, 6, 7] rfl)
theorem dX12_leadSleep_0 : decode cX12_leadSleep 0 = .ok (.aload_n 0, 1) := by decide +kernel
theorem dX12_leadSleep_1 : decode cX12_leadSleep 1 = .ok (.bipush 6, 2) := by decide +kernel
theorem dX12_leadSleep_3 : decode cX12_leadSleep 3 = .ok (.sipush 341, 3) := by decide +kernel
theorem dX12_leadSleep_6 : decode cX12_leadSleep 6 = .ok (.sipush 381, 3) := by decide +kernel
theorem dX12_leadSleep_9 : decode cX12_leadSleep 9 = .ok (.sipush 421, 3) := by decide +kernel
theorem dX12_leadSleep_12 : decode cX12_leadSleep 12 = .ok (.iload_n 1, 1) := by decide +kernel
theorem dX12_leadSleep_13 : decode cX12_leadSleep 13 = .ok (.iload_n 2, 1) := by decide +kernel
theorem dX12_leadSleep_14 : decode cX12_leadSleep 14 = .ok (.invokevirtual 96, 3) := by decide +kernel
theorem dX12_leadSleep_17 : decode cX12_leadSleep 17 = .ok (.return_, 1) := by decide +kernel
set_option maxHeartbeats 8000000 in
set_option maxRecDepth 100000 in
theorem c_X12_leadSleep (l : Launch) (g : kG) (sz : Nat) (z : Nat → Nat) (kp : Nat) (xs : Nat → Int32) (D : Nat → Int32) (x : Int32) (y : Int32) (hDI : DI D) : kMv l g yX12_leadSleep cX12_leadSleep 3 none 2 0 0 [.ref (z 0), .int x, .int y] sz [(z 0, .inr (12, [.ref (z 1), .ref (z 2), .int (nI kp), .int (xs 0), .ref (z 3), .ref (z 4), .ref (z 5), .ref (z 6), .int (xs 1), .ref (z 7), .ref (z 8), .ref (z 9), .ref (z 10), .ref (z 11), .ref (z 12), .int (xs 2), .ref (z 13), .ref (z 14), .int (xs 3), .ref (z 15)])), (z 1, .inl (gI g, 461, .inl D))] (fun (u : (Nat → Int32)) => DI u) (fun (u : (Nat → Int32)) => ([(z 0, .inr (12, [.ref (z 1), .ref (z 2), .int (nI kp), .int (xs 0), .ref (z 3), .ref (z 4), .ref (z 5), .ref (z 6), .int (xs 1), .ref (z 7), .ref (z 8), .ref (z 9), .ref (z 10), .ref (z 11), .ref (z 12), .int (xs 2), .ref (z 13), .ref (z 14), .int (xs 3), .ref (z 15)])), (z 1, .inl (gI g, 461, .inl u))] : va_W)) := by
  refine kMv.of (by decide) (Nat.le_of_ble_eq_true rfl) (fun p e s m below meth c A hx hb hr hml hown hts hlk hnm hKW hP hD hS hA ls hl => ?_)
  have hown : s.vm.findClass RX12 = some m.cls := hown
  have hl : lv_has ls 3 [(0, .ref (z 0)), (1, .int x), (2, .int y)] := hl
  refine k_hide hP hS (fun H locs hP hS => ?_)
  refine lv_aload_n hx hb dX12_leadSleep_0 rfl (lv_at hl 0 rfl) ?_
  refine lv_bipush (v := 6) hx hb dX12_leadSleep_1 (by decide) ?_
  refine lv_sipush (v := 341) hx hb dX12_leadSleep_3 (by decide) ?_
  refine lv_sipush (v := 381) hx hb dX12_leadSleep_6 (by decide) ?_
  refine lv_sipush (v := 421) hx hb dX12_leadSleep_9 (by decide) ?_
  refine lv_iload_n hx hb dX12_leadSleep_12 rfl (lv_at hl 1 rfl) ?_
  refine lv_iload_n hx hb dX12_leadSleep_13 rfl (lv_at hl 2 rfl) ?_
  refine k_Vv [0, 1] [] 0 12 (wr := []) hx hb hml hown hts hKW hP hD hS hA hl.1 (c_X12_lead_s l g _ z kp xs D x y (by first | assumption | omega | decide)) rfl rfl rfl wd_20_19 wd_1_5 wd_20_16 wd_20_17 wd_20_18 yd_X12_lead ⟨(Nat.le_of_ble_eq_true rfl), (Nat.le_of_ble_eq_true rfl)⟩ rfl rfl rfl rfl (by decide) rfl (Nat.le_of_ble_eq_true rfl) dX12_leadSleep_14 ⟨(Nat.le_of_ble_eq_true rfl), (Nat.le_of_ble_eq_true rfl)⟩ (fun u_2 H locs hw_3 hP hD hS => ?_)
  have hP : va_P g.1 vwCl [(z 0, .inr (12, [.ref (z 1), .ref (z 2), .int (nI kp), .int (xs 0), .ref (z 3), .ref (z 4), .ref (z 5), .ref (z 6), .int (xs 1), .ref (z 7), .ref (z 8), .ref (z 9), .ref (z 10), .ref (z 11), .ref (z 12), .int (xs 2), .ref (z 13), .ref (z 14), .int (xs 3), .ref (z 15)])), (z 1, .inl (gI g, 461, .inl u_2))] H := hP
  have hD : va_D A [(z 0, .inr (12, [.ref (z 1), .ref (z 2), .int (nI kp), .int (xs 0), .ref (z 3), .ref (z 4), .ref (z 5), .ref (z 6), .int (xs 1), .ref (z 7), .ref (z 8), .ref (z 9), .ref (z 10), .ref (z 11), .ref (z 12), .int (xs 2), .ref (z 13), .ref (z 14), .int (xs 3), .ref (z 15)])), (z 1, .inl (gI g, 461, .inl u_2))] := hD
  have hw_3 : DI u_2 := hw_3
  exact k_vret u_2 [0, 1] hx hb hr hlk hP hD hS hw_3 rfl rfl rfl (Nat.le_of_ble_eq_true rfl) (Nat.le_of_ble_eq_true rfl) dX12_leadSleep_17
theorem dX12_room_0 : decode cX12_room 0 = .ok (.iload_n 1, 1) := by decide +kernel
theorem dX12_room_1 : decode cX12_room 1 = .ok (.ifCond .lt 39, 3) := by decide +kernel
theorem dX12_room_40 : decode cX12_room 40 = .ok (.aload_n 0, 1) := by decide +kernel
theorem dX12_room_41 : decode cX12_room 41 = .ok (.iconst 1, 1) := by decide +kernel
theorem dX12_room_42 : decode cX12_room 42 = .ok (.invokevirtual 68, 3) := by decide +kernel
theorem dX12_room_45 : decode cX12_room 45 = .ok (.ireturn, 1) := by decide +kernel
theorem dX12_room_4 : decode cX12_room 4 = .ok (.iload_n 1, 1) := by decide +kernel
theorem dX12_room_5 : decode cX12_room 5 = .ok (.bipush 100, 2) := by decide +kernel
theorem dX12_room_7 : decode cX12_room 7 = .ok (.idiv, 1) := by decide +kernel
theorem dX12_room_8 : decode cX12_room 8 = .ok (.iconst 0, 1) := by decide +kernel
theorem dX12_room_9 : decode cX12_room 9 = .ok (.bipush 71, 2) := by decide +kernel
theorem dX12_room_11 : decode cX12_room 11 = .ok (.invokestatic 64, 3) := by decide +kernel
theorem dX12_room_14 : decode cX12_room 14 = .ok (.ifCond .eq 26, 3) := by decide +kernel
theorem dX12_room_17 : decode cX12_room 17 = .ok (.iload_n 1, 1) := by decide +kernel
theorem dX12_room_18 : decode cX12_room 18 = .ok (.bipush 100, 2) := by decide +kernel
theorem dX12_room_20 : decode cX12_room 20 = .ok (.irem, 1) := by decide +kernel
theorem dX12_room_21 : decode cX12_room 21 = .ok (.iconst 0, 1) := by decide +kernel
theorem dX12_room_22 : decode cX12_room 22 = .ok (.bipush 71, 2) := by decide +kernel
theorem dX12_room_24 : decode cX12_room 24 = .ok (.invokestatic 64, 3) := by decide +kernel
theorem dX12_room_27 : decode cX12_room 27 = .ok (.ifCond .eq 13, 3) := by decide +kernel
theorem dX12_room_30 : decode cX12_room 30 = .ok (.iload_n 2, 1) := by decide +kernel
theorem dX12_room_31 : decode cX12_room 31 = .ok (.iconst 1, 1) := by decide +kernel
theorem dX12_room_32 : decode cX12_room 32 = .ok (.bipush 20, 2) := by decide +kernel
theorem dX12_room_34 : decode cX12_room 34 = .ok (.invokestatic 64, 3) := by decide +kernel
theorem dX12_room_37 : decode cX12_room 37 = .ok (.ifCond .ne 9, 3) := by decide +kernel
theorem dX12_room_46 : decode cX12_room 46 = .ok (.iload_n 1, 1) := by decide +kernel
theorem dX12_room_47 : decode cX12_room 47 = .ok (.bipush 100, 2) := by decide +kernel
theorem dX12_room_49 : decode cX12_room 49 = .ok (.idiv, 1) := by decide +kernel
theorem dX12_room_50 : decode cX12_room 50 = .ok (.iload_n 1, 1) := by decide +kernel
theorem dX12_room_51 : decode cX12_room 51 = .ok (.bipush 100, 2) := by decide +kernel
theorem dX12_room_53 : decode cX12_room 53 = .ok (.irem, 1) := by decide +kernel
theorem dX12_room_54 : decode cX12_room 54 = .ok (.if_icmp .le 9, 3) := by decide +kernel
theorem dX12_room_63 : decode cX12_room 63 = .ok (.aload_n 0, 1) := by decide +kernel
theorem dX12_room_64 : decode cX12_room 64 = .ok (.getfield 7, 3) := by decide +kernel
theorem dX12_room_67 : decode cX12_room 67 = .ok (.iconst 0, 1) := by decide +kernel
theorem dX12_room_68 : decode cX12_room 68 = .ok (.iaload, 1) := by decide +kernel
theorem dX12_room_69 : decode cX12_room 69 = .ok (.iconst 5, 1) := by decide +kernel
theorem dX12_room_70 : decode cX12_room 70 = .ok (.if_icmp .ne 9, 3) := by decide +kernel
theorem dX12_room_79 : decode cX12_room 79 = .ok (.aload_n 0, 1) := by decide +kernel
theorem dX12_room_80 : decode cX12_room 80 = .ok (.invokevirtual 72, 3) := by decide +kernel
theorem dX12_room_83 : decode cX12_room 83 = .ok (.aload_n 0, 1) := by decide +kernel
theorem dX12_room_84 : decode cX12_room 84 = .ok (.getfield 7, 3) := by decide +kernel
theorem dX12_room_87 : decode cX12_room 87 = .ok (.iconst 0, 1) := by decide +kernel
theorem dX12_room_88 : decode cX12_room 88 = .ok (.iaload, 1) := by decide +kernel
theorem dX12_room_89 : decode cX12_room 89 = .ok (.istore_n 3, 1) := by decide +kernel
theorem dX12_room_90 : decode cX12_room 90 = .ok (.aload_n 0, 1) := by decide +kernel
theorem dX12_room_91 : decode cX12_room 91 = .ok (.getfield 7, 3) := by decide +kernel
theorem dX12_room_94 : decode cX12_room 94 = .ok (.bipush 11, 2) := by decide +kernel
theorem dX12_room_96 : decode cX12_room 96 = .ok (.iload_n 3, 1) := by decide +kernel
theorem dX12_room_97 : decode cX12_room 97 = .ok (.iadd, 1) := by decide +kernel
theorem dX12_room_98 : decode cX12_room 98 = .ok (.iload_n 1, 1) := by decide +kernel
theorem dX12_room_99 : decode cX12_room 99 = .ok (.bipush 100, 2) := by decide +kernel
theorem dX12_room_101 : decode cX12_room 101 = .ok (.idiv, 1) := by decide +kernel
theorem dX12_room_102 : decode cX12_room 102 = .ok (.iastore, 1) := by decide +kernel
theorem dX12_room_103 : decode cX12_room 103 = .ok (.aload_n 0, 1) := by decide +kernel
theorem dX12_room_104 : decode cX12_room 104 = .ok (.getfield 7, 3) := by decide +kernel
theorem dX12_room_107 : decode cX12_room 107 = .ok (.bipush 16, 2) := by decide +kernel
theorem dX12_room_109 : decode cX12_room 109 = .ok (.iload_n 3, 1) := by decide +kernel
theorem dX12_room_110 : decode cX12_room 110 = .ok (.iadd, 1) := by decide +kernel
theorem dX12_room_111 : decode cX12_room 111 = .ok (.iload_n 1, 1) := by decide +kernel
theorem dX12_room_112 : decode cX12_room 112 = .ok (.bipush 100, 2) := by decide +kernel
theorem dX12_room_114 : decode cX12_room 114 = .ok (.irem, 1) := by decide +kernel
theorem dX12_room_115 : decode cX12_room 115 = .ok (.iastore, 1) := by decide +kernel
theorem dX12_room_116 : decode cX12_room 116 = .ok (.aload_n 0, 1) := by decide +kernel
theorem dX12_room_117 : decode cX12_room 117 = .ok (.getfield 7, 3) := by decide +kernel
theorem dX12_room_120 : decode cX12_room 120 = .ok (.bipush 21, 2) := by decide +kernel
theorem dX12_room_122 : decode cX12_room 122 = .ok (.iload_n 3, 1) := by decide +kernel
theorem dX12_room_123 : decode cX12_room 123 = .ok (.iadd, 1) := by decide +kernel
theorem dX12_room_124 : decode cX12_room 124 = .ok (.iload_n 2, 1) := by decide +kernel
theorem dX12_room_125 : decode cX12_room 125 = .ok (.iastore, 1) := by decide +kernel
theorem dX12_room_126 : decode cX12_room 126 = .ok (.aload_n 0, 1) := by decide +kernel
theorem dX12_room_127 : decode cX12_room 127 = .ok (.getfield 7, 3) := by decide +kernel
theorem dX12_room_130 : decode cX12_room 130 = .ok (.iconst 0, 1) := by decide +kernel
theorem dX12_room_131 : decode cX12_room 131 = .ok (.dup2, 1) := by decide +kernel
theorem dX12_room_132 : decode cX12_room 132 = .ok (.iaload, 1) := by decide +kernel
theorem dX12_room_133 : decode cX12_room 133 = .ok (.iconst 1, 1) := by decide +kernel
theorem dX12_room_134 : decode cX12_room 134 = .ok (.iadd, 1) := by decide +kernel
theorem dX12_room_135 : decode cX12_room 135 = .ok (.iastore, 1) := by decide +kernel
theorem dX12_room_136 : decode cX12_room 136 = .ok (.iload_n 3, 1) := by decide +kernel
theorem dX12_room_137 : decode cX12_room 137 = .ok (.ireturn, 1) := by decide +kernel
theorem dX12_room_73 : decode cX12_room 73 = .ok (.aload_n 0, 1) := by decide +kernel
theorem dX12_room_74 : decode cX12_room 74 = .ok (.iconst 5, 1) := by decide +kernel
theorem dX12_room_75 : decode cX12_room 75 = .ok (.invokevirtual 68, 3) := by decide +kernel
theorem dX12_room_78 : decode cX12_room 78 = .ok (.ireturn, 1) := by decide +kernel
theorem dX12_room_57 : decode cX12_room 57 = .ok (.aload_n 0, 1) := by decide +kernel
theorem dX12_room_58 : decode cX12_room 58 = .ok (.iconst 3, 1) := by decide +kernel
theorem dX12_room_59 : decode cX12_room 59 = .ok (.invokevirtual 68, 3) := by decide +kernel
theorem dX12_room_62 : decode cX12_room 62 = .ok (.ireturn, 1) := by decide +kernel
set_option maxHeartbeats 8000000 in
set_option maxRecDepth 100000 in
theorem c_X12_room (l : Launch) (g : kG) (sz : Nat) (z : Nat → Nat) (kp : Nat) (xs : Nat → Int32) (D : Nat → Int32) (Wk : Nat → Int32) (x : Int32) (y : Int32) (hDI : DI D) (hkp : kp ≤ 16) (hWI : WI Wk kp) : kMi l g yX12_room cX12_room 4 (some .int) 4 0 0 [.ref (z 0), .int x, .int y] sz [(z 0, .inr (12, [.ref (z 1), .ref (z 2), .int (nI kp), .int (xs 0), .ref (z 3), .ref (z 4), .ref (z 5), .ref (z 6), .int (xs 1), .ref (z 7), .ref (z 8), .ref (z 9), .ref (z 10), .ref (z 11), .ref (z 12), .int (xs 2), .ref (z 13), .ref (z 14), .int (xs 3), .ref (z 15)])), (z 1, .inl (gI g, 461, .inl D)), (z 2, .inl (gI g, 7376, .inl Wk))] (fun (r : Int32) (u : Nat × (Nat → Int32) × (Nat → Int32) × (Nat → Int32)) => u.1 ≤ 16 ∧ DI u.2.2.1 ∧ WI u.2.2.2 u.1) (fun (u : Nat × (Nat → Int32) × (Nat → Int32) × (Nat → Int32)) => ([(z 0, .inr (12, [.ref (z 1), .ref (z 2), .int (nI u.1), .int (u.2.1 0), .ref (z 3), .ref (z 4), .ref (z 5), .ref (z 6), .int (u.2.1 1), .ref (z 7), .ref (z 8), .ref (z 9), .ref (z 10), .ref (z 11), .ref (z 12), .int (u.2.1 2), .ref (z 13), .ref (z 14), .int (u.2.1 3), .ref (z 15)])), (z 1, .inl (gI g, 461, .inl u.2.2.1)), (z 2, .inl (gI g, 7376, .inl u.2.2.2))] : va_W)) := by
  refine kMi.of (by decide) (Nat.le_of_ble_eq_true rfl) (fun p e s m below meth c A hx hb hr hml hown hts hlk hnm hKW hP hD hS hA ls hl => ?_)
  have hown : s.vm.findClass RX12 = some m.cls := hown
  have hl : lv_has ls 4 [(0, .ref (z 0)), (1, .int x), (2, .int y)] := hl
  refine k_hide hP hS (fun H locs hP hS => ?_)
  refine lv_iload_n hx hb dX12_room_0 rfl (lv_at hl 1 rfl) ?_
  refine lv_if_lt (tgt := 40) hx hb dX12_room_1 (by decide) (fun c_1 => ?_) (fun c_1 => ?_)
  · refine lv_aload_n hx hb dX12_room_40 rfl (lv_at hl 0 rfl) ?_
    refine lv_iconst (v := 1) hx hb dX12_room_41 (by decide) ?_
    refine k_Vi [0] [1, 2] 0 12 (wr := [(z 1, .inl (gI g, 461, .inl D)), (z 2, .inl (gI g, 7376, .inl Wk))]) hx hb hml hown hts hKW hP hD hS hA hl.1 (c_X12_finding_1 l g _ z kp xs ) rfl rfl rfl wd_10_15 wd_1_5 wd_10_12 wd_10_13 wd_10_14 yd_X12_finding ⟨(Nat.le_of_ble_eq_true rfl), (Nat.le_of_ble_eq_true rfl)⟩ rfl rfl rfl rfl (by decide) rfl (Nat.le_of_ble_eq_true rfl) dX12_room_42 ⟨(Nat.le_of_ble_eq_true rfl), (Nat.le_of_ble_eq_true rfl)⟩ (fun r_2 u_3 H locs hw_4 hP hD hS => ?_)
    have hP : va_P g.1 vwCl [(z 1, .inl (gI g, 461, .inl D)), (z 2, .inl (gI g, 7376, .inl Wk)), (z 0, .inr (12, [.ref (z 1), .ref (z 2), .int (nI kp), .int u_3, .ref (z 3), .ref (z 4), .ref (z 5), .ref (z 6), .int (xs 1), .ref (z 7), .ref (z 8), .ref (z 9), .ref (z 10), .ref (z 11), .ref (z 12), .int (xs 2), .ref (z 13), .ref (z 14), .int (xs 3), .ref (z 15)]))] H := hP
    have hD : va_D A [(z 1, .inl (gI g, 461, .inl D)), (z 2, .inl (gI g, 7376, .inl Wk)), (z 0, .inr (12, [.ref (z 1), .ref (z 2), .int (nI kp), .int u_3, .ref (z 3), .ref (z 4), .ref (z 5), .ref (z 6), .int (xs 1), .ref (z 7), .ref (z 8), .ref (z 9), .ref (z 10), .ref (z 11), .ref (z 12), .int (xs 2), .ref (z 13), .ref (z 14), .int (xs 3), .ref (z 15)]))] := hD
    have hw_4 : r_2 = (-100001) := hw_4
    subst hw_4
    exact k_iret (kp, (fun kk_ => ([u_3, (xs 1), (xs 2), (xs 3)] : List Int32).getD kk_ 0), D, Wk) [2, 0, 1] hx hb hr hlk hP hD hS (⟨hkp, hDI, hWI⟩) rfl rfl rfl (Nat.le_of_ble_eq_true rfl) (Nat.le_of_ble_eq_true rfl) dX12_room_45
  · refine lv_iload_n hx hb dX12_room_4 rfl (lv_at hl 1 rfl) ?_
    refine lv_bipush (v := 100) hx hb dX12_room_5 (by decide) ?_
    refine lv_idiv hx hb dX12_room_7 (by decide) ?_
    refine lv_topi (fun x_5 ex_5 => ?_)
    refine lv_iconst (v := 0) hx hb dX12_room_8 (by decide) ?_
    refine lv_bipush (v := 71) hx hb dX12_room_9 (by decide) ?_
    refine k_Si [] [0, 1, 2] (wr := [(z 0, .inr (12, [.ref (z 1), .ref (z 2), .int (nI kp), .int (xs 0), .ref (z 3), .ref (z 4), .ref (z 5), .ref (z 6), .int (xs 1), .ref (z 7), .ref (z 8), .ref (z 9), .ref (z 10), .ref (z 11), .ref (z 12), .int (xs 2), .ref (z 13), .ref (z 14), .int (xs 3), .ref (z 15)])), (z 1, .inl (gI g, 461, .inl D)), (z 2, .inl (gI g, 7376, .inl Wk))]) hx hb hml hown hts hKW hP hD hS hA hl.1 (c_X12_isIn l g _ x_5 0 71 ) wd_10_11 wd_1_5 wd_10_9 wd_10_10 yd_X12_isIn ⟨(Nat.le_of_ble_eq_true rfl), (Nat.le_of_ble_eq_true rfl)⟩ rfl rfl rfl rfl (by decide) rfl (Nat.le_of_ble_eq_true rfl) dX12_room_11 ⟨(Nat.le_of_ble_eq_true rfl), (Nat.le_of_ble_eq_true rfl)⟩ (fun r_6 u_7 H locs hw_8 hP hD hS => ?_)
    have hP : va_P g.1 vwCl [(z 0, .inr (12, [.ref (z 1), .ref (z 2), .int (nI kp), .int (xs 0), .ref (z 3), .ref (z 4), .ref (z 5), .ref (z 6), .int (xs 1), .ref (z 7), .ref (z 8), .ref (z 9), .ref (z 10), .ref (z 11), .ref (z 12), .int (xs 2), .ref (z 13), .ref (z 14), .int (xs 3), .ref (z 15)])), (z 1, .inl (gI g, 461, .inl D)), (z 2, .inl (gI g, 7376, .inl Wk))] H := hP
    have hD : va_D A [(z 0, .inr (12, [.ref (z 1), .ref (z 2), .int (nI kp), .int (xs 0), .ref (z 3), .ref (z 4), .ref (z 5), .ref (z 6), .int (xs 1), .ref (z 7), .ref (z 8), .ref (z 9), .ref (z 10), .ref (z 11), .ref (z 12), .int (xs 2), .ref (z 13), .ref (z 14), .int (xs 3), .ref (z 15)])), (z 1, .inl (gI g, 461, .inl D)), (z 2, .inl (gI g, 7376, .inl Wk))] := hD
    rcases (show (r_6 = 1 ∧ (Int32.toInt 0 ≤ Int32.toInt x_5 ∧ Int32.toInt x_5 ≤ Int32.toInt 71)) ∨ (r_6 = 0 ∧ ¬ (Int32.toInt 0 ≤ Int32.toInt x_5 ∧ Int32.toInt x_5 ≤ Int32.toInt 71)) from hw_8) with ⟨rfl, hw_8b⟩ | ⟨rfl, hw_8b⟩ <;> clear hw_8
    · refine lv_if_eq (tgt := 40) hx hb dX12_room_14 (by decide) (fun c => absurd c (by decide)) (fun _ => ?_)
      refine lv_iload_n hx hb dX12_room_17 rfl (lv_at hl 1 rfl) ?_
      refine lv_bipush (v := 100) hx hb dX12_room_18 (by decide) ?_
      refine lv_irem hx hb dX12_room_20 (by decide) ?_
      refine lv_topi (fun x_9 ex_9 => ?_)
      refine lv_iconst (v := 0) hx hb dX12_room_21 (by decide) ?_
      refine lv_bipush (v := 71) hx hb dX12_room_22 (by decide) ?_
      refine k_Si [] [0, 1, 2] (wr := [(z 0, .inr (12, [.ref (z 1), .ref (z 2), .int (nI kp), .int (xs 0), .ref (z 3), .ref (z 4), .ref (z 5), .ref (z 6), .int (xs 1), .ref (z 7), .ref (z 8), .ref (z 9), .ref (z 10), .ref (z 11), .ref (z 12), .int (xs 2), .ref (z 13), .ref (z 14), .int (xs 3), .ref (z 15)])), (z 1, .inl (gI g, 461, .inl D)), (z 2, .inl (gI g, 7376, .inl Wk))]) hx hb hml hown hts hKW hP hD hS hA hl.1 (c_X12_isIn l g _ x_9 0 71 ) wd_10_11 wd_1_5 wd_10_9 wd_10_10 yd_X12_isIn ⟨(Nat.le_of_ble_eq_true rfl), (Nat.le_of_ble_eq_true rfl)⟩ rfl rfl rfl rfl (by decide) rfl (Nat.le_of_ble_eq_true rfl) dX12_room_24 ⟨(Nat.le_of_ble_eq_true rfl), (Nat.le_of_ble_eq_true rfl)⟩ (fun r_10 u_11 H locs hw_12 hP hD hS => ?_)
      have hP : va_P g.1 vwCl [(z 0, .inr (12, [.ref (z 1), .ref (z 2), .int (nI kp), .int (xs 0), .ref (z 3), .ref (z 4), .ref (z 5), .ref (z 6), .int (xs 1), .ref (z 7), .ref (z 8), .ref (z 9), .ref (z 10), .ref (z 11), .ref (z 12), .int (xs 2), .ref (z 13), .ref (z 14), .int (xs 3), .ref (z 15)])), (z 1, .inl (gI g, 461, .inl D)), (z 2, .inl (gI g, 7376, .inl Wk))] H := hP
      have hD : va_D A [(z 0, .inr (12, [.ref (z 1), .ref (z 2), .int (nI kp), .int (xs 0), .ref (z 3), .ref (z 4), .ref (z 5), .ref (z 6), .int (xs 1), .ref (z 7), .ref (z 8), .ref (z 9), .ref (z 10), .ref (z 11), .ref (z 12), .int (xs 2), .ref (z 13), .ref (z 14), .int (xs 3), .ref (z 15)])), (z 1, .inl (gI g, 461, .inl D)), (z 2, .inl (gI g, 7376, .inl Wk))] := hD
      rcases (show (r_10 = 1 ∧ (Int32.toInt 0 ≤ Int32.toInt x_9 ∧ Int32.toInt x_9 ≤ Int32.toInt 71)) ∨ (r_10 = 0 ∧ ¬ (Int32.toInt 0 ≤ Int32.toInt x_9 ∧ Int32.toInt x_9 ≤ Int32.toInt 71)) from hw_12) with ⟨rfl, hw_12b⟩ | ⟨rfl, hw_12b⟩ <;> clear hw_12
      · refine lv_if_eq (tgt := 40) hx hb dX12_room_27 (by decide) (fun c => absurd c (by decide)) (fun _ => ?_)
        refine lv_iload_n hx hb dX12_room_30 rfl (lv_at hl 2 rfl) ?_
        refine lv_iconst (v := 1) hx hb dX12_room_31 (by decide) ?_
        refine lv_bipush (v := 20) hx hb dX12_room_32 (by decide) ?_
        refine k_Si [] [0, 1, 2] (wr := [(z 0, .inr (12, [.ref (z 1), .ref (z 2), .int (nI kp), .int (xs 0), .ref (z 3), .ref (z 4), .ref (z 5), .ref (z 6), .int (xs 1), .ref (z 7), .ref (z 8), .ref (z 9), .ref (z 10), .ref (z 11), .ref (z 12), .int (xs 2), .ref (z 13), .ref (z 14), .int (xs 3), .ref (z 15)])), (z 1, .inl (gI g, 461, .inl D)), (z 2, .inl (gI g, 7376, .inl Wk))]) hx hb hml hown hts hKW hP hD hS hA hl.1 (c_X12_isIn l g _ y 1 20 ) wd_10_11 wd_1_5 wd_10_9 wd_10_10 yd_X12_isIn ⟨(Nat.le_of_ble_eq_true rfl), (Nat.le_of_ble_eq_true rfl)⟩ rfl rfl rfl rfl (by decide) rfl (Nat.le_of_ble_eq_true rfl) dX12_room_34 ⟨(Nat.le_of_ble_eq_true rfl), (Nat.le_of_ble_eq_true rfl)⟩ (fun r_13 u_14 H locs hw_15 hP hD hS => ?_)
        have hP : va_P g.1 vwCl [(z 0, .inr (12, [.ref (z 1), .ref (z 2), .int (nI kp), .int (xs 0), .ref (z 3), .ref (z 4), .ref (z 5), .ref (z 6), .int (xs 1), .ref (z 7), .ref (z 8), .ref (z 9), .ref (z 10), .ref (z 11), .ref (z 12), .int (xs 2), .ref (z 13), .ref (z 14), .int (xs 3), .ref (z 15)])), (z 1, .inl (gI g, 461, .inl D)), (z 2, .inl (gI g, 7376, .inl Wk))] H := hP
        have hD : va_D A [(z 0, .inr (12, [.ref (z 1), .ref (z 2), .int (nI kp), .int (xs 0), .ref (z 3), .ref (z 4), .ref (z 5), .ref (z 6), .int (xs 1), .ref (z 7), .ref (z 8), .ref (z 9), .ref (z 10), .ref (z 11), .ref (z 12), .int (xs 2), .ref (z 13), .ref (z 14), .int (xs 3), .ref (z 15)])), (z 1, .inl (gI g, 461, .inl D)), (z 2, .inl (gI g, 7376, .inl Wk))] := hD
        rcases (show (r_13 = 1 ∧ (Int32.toInt 1 ≤ Int32.toInt y ∧ Int32.toInt y ≤ Int32.toInt 20)) ∨ (r_13 = 0 ∧ ¬ (Int32.toInt 1 ≤ Int32.toInt y ∧ Int32.toInt y ≤ Int32.toInt 20)) from hw_15) with ⟨rfl, hw_15b⟩ | ⟨rfl, hw_15b⟩ <;> clear hw_15
        · refine lv_if_ne (tgt := 46) hx hb dX12_room_37 (by decide) (fun _ => ?_) (fun c => absurd c (by decide))
          refine lv_iload_n hx hb dX12_room_46 rfl (lv_at hl 1 rfl) ?_
          refine lv_bipush (v := 100) hx hb dX12_room_47 (by decide) ?_
          refine lv_idiv hx hb dX12_room_49 (by decide) ?_
          refine lv_topi (fun x_16 ex_16 => ?_)
          refine lv_iload_n hx hb dX12_room_50 rfl (lv_at hl 1 rfl) ?_
          refine lv_bipush (v := 100) hx hb dX12_room_51 (by decide) ?_
          refine lv_irem hx hb dX12_room_53 (by decide) ?_
          refine lv_topi (fun x_17 ex_17 => ?_)
          refine lv_icmp_le (tgt := 63) hx hb dX12_room_54 (by decide) (fun c_18 => ?_) (fun c_18 => ?_)
          · refine lv_aload_n hx hb dX12_room_63 rfl (lv_at hl 0 rfl) ?_
            refine va_get (ci := 12) (C := RX12) (T := TX12) (N := 20) hx hb hts inlX12 hown hKW.1 hP 0 rfl rfl 0 (by decide) (hts _ wd_6_5) (fun _ h => h) rfl dX12_room_64 ?_
            refine lv_iconst (v := 0) hx hb dX12_room_67 (by decide) ?_
            obtain ⟨dk_19, hdk_19a, hdk_19b, edk_19⟩ := DI.n0 hDI
            refine va_iald hx hb hKW.1 hP 1 0 rfl rfl (show ¬ _ by decide) dX12_room_68 ?_
            refine k_top (y := nI dk_19) edk_19 ?_
            refine lv_iconst (v := 5) hx hb dX12_room_69 (by decide) ?_
            refine lv_icmp_ne (tgt := 79) hx hb dX12_room_70 (by decide) (fun c_20 => ?_) (fun c_20 => ?_)
            · have c_20n : ¬ dk_19 = 5 := fun h => c_20 ((k_eqI (a := dk_19) (b := 5) (by omega) (by omega)).mpr h)
              refine lv_aload_n hx hb dX12_room_79 rfl (lv_at hl 0 rfl) ?_
              refine k_Vv [0, 1, 2] [] 0 12 (wr := []) hx hb hml hown hts hKW hP hD hS hA hl.1 (c_X12_keep l g _ z kp xs D Wk (by first | assumption | omega | decide) (by first | assumption | omega | decide) (by first | assumption | omega | decide)) rfl rfl rfl wd_10_21 wd_1_5 wd_10_18 wd_10_19 wd_10_20 yd_X12_keep ⟨(Nat.le_of_ble_eq_true rfl), (Nat.le_of_ble_eq_true rfl)⟩ rfl rfl rfl rfl (by decide) rfl (Nat.le_of_ble_eq_true rfl) dX12_room_80 ⟨(Nat.le_of_ble_eq_true rfl), (Nat.le_of_ble_eq_true rfl)⟩ (fun u_22 H locs hw_23 hP hD hS => ?_)
              obtain ⟨q_24, f_25⟩ := u_22
              have hP : va_P g.1 vwCl [(z 0, .inr (12, [.ref (z 1), .ref (z 2), .int (nI q_24), .int (xs 0), .ref (z 3), .ref (z 4), .ref (z 5), .ref (z 6), .int (xs 1), .ref (z 7), .ref (z 8), .ref (z 9), .ref (z 10), .ref (z 11), .ref (z 12), .int (xs 2), .ref (z 13), .ref (z 14), .int (xs 3), .ref (z 15)])), (z 1, .inl (gI g, 461, .inl D)), (z 2, .inl (gI g, 7376, .inl f_25))] H := hP
              have hD : va_D A [(z 0, .inr (12, [.ref (z 1), .ref (z 2), .int (nI q_24), .int (xs 0), .ref (z 3), .ref (z 4), .ref (z 5), .ref (z 6), .int (xs 1), .ref (z 7), .ref (z 8), .ref (z 9), .ref (z 10), .ref (z 11), .ref (z 12), .int (xs 2), .ref (z 13), .ref (z 14), .int (xs 3), .ref (z 15)])), (z 1, .inl (gI g, 461, .inl D)), (z 2, .inl (gI g, 7376, .inl f_25))] := hD
              have hw_23 : q_24 ≤ 16 ∧ WI f_25 q_24 := hw_23
              obtain ⟨hkk, hkW⟩ := hw_23
              refine lv_aload_n hx hb dX12_room_83 rfl (lv_at hl 0 rfl) ?_
              refine va_get (ci := 12) (C := RX12) (T := TX12) (N := 20) hx hb hts inlX12 hown hKW.1 hP 0 rfl rfl 0 (by decide) (hts _ wd_6_5) (fun _ h => h) rfl dX12_room_84 ?_
              refine lv_iconst (v := 0) hx hb dX12_room_87 (by decide) ?_
              refine va_iald hx hb hKW.1 hP 1 0 rfl rfl (show ¬ _ by decide) dX12_room_88 ?_
              refine k_top (y := nI dk_19) edk_19 ?_
              refine lv_istore_n (lv' := [(3, .int (nI dk_19)), (0, .ref (z 0)), (1, .int x), (2, .int y)]) hx hb dX12_room_89 rfl hl (by decide) rfl (fun ls hl => ?_)
              refine lv_aload_n hx hb dX12_room_90 rfl (lv_at hl 1 rfl) ?_
              refine va_get (ci := 12) (C := RX12) (T := TX12) (N := 20) hx hb hts inlX12 hown hKW.1 hP 0 rfl rfl 0 (by decide) (hts _ wd_6_5) (fun _ h => h) rfl dX12_room_91 ?_
              refine lv_bipush (v := 11) hx hb dX12_room_94 (by decide) ?_
              refine lv_iload_n hx hb dX12_room_96 rfl (lv_at hl 0 rfl) ?_
              refine lv_iadd hx hb dX12_room_97 ?_
              refine k_top (y := nI (dk_19 + 11)) (by rw [Nat.add_comm]; exact nI_add 11 dk_19) ?_
              refine lv_iload_n hx hb dX12_room_98 rfl (lv_at hl 2 rfl) ?_
              refine lv_bipush (v := 100) hx hb dX12_room_99 (by decide) ?_
              refine lv_idiv hx hb dX12_room_101 (by decide) ?_
              refine lv_topi (fun x_26 ex_26 => ?_)
              refine va_iast hx hb hKW.1 hP hD hS 1 0 rfl rfl (vp_in_nI (by omega) (by decide)) dX12_room_102 (fun H locs hP hD hS => ?_)
              have hP : va_P g.1 vwCl [(z 0, .inr (12, [.ref (z 1), .ref (z 2), .int (nI q_24), .int (xs 0), .ref (z 3), .ref (z 4), .ref (z 5), .ref (z 6), .int (xs 1), .ref (z 7), .ref (z 8), .ref (z 9), .ref (z 10), .ref (z 11), .ref (z 12), .int (xs 2), .ref (z 13), .ref (z 14), .int (xs 3), .ref (z 15)])), (z 1, .inl (gI g, 461, .inl (upd D (nI (dk_19 + 11)).toNatClampNeg x_26))), (z 2, .inl (gI g, 7376, .inl f_25))] H := hP
              have hD : va_D A [(z 0, .inr (12, [.ref (z 1), .ref (z 2), .int (nI q_24), .int (xs 0), .ref (z 3), .ref (z 4), .ref (z 5), .ref (z 6), .int (xs 1), .ref (z 7), .ref (z 8), .ref (z 9), .ref (z 10), .ref (z 11), .ref (z 12), .int (xs 2), .ref (z 13), .ref (z 14), .int (xs 3), .ref (z 15)])), (z 1, .inl (gI g, 461, .inl (upd D (nI (dk_19 + 11)).toNatClampNeg x_26))), (z 2, .inl (gI g, 7376, .inl f_25))] := hD
              obtain ⟨f_27, ef_27⟩ : ∃ zz_ : Nat → Int32, zz_ = upd D (nI (dk_19 + 11)).toNatClampNeg x_26 := ⟨_, rfl⟩
              rw [← ef_27] at hP hD
              have dz_28 : f_27 0 = nI dk_19 := by rw [ef_27, nI_clamp (by omega), pk_un (by omega)]; exact edk_19
              have hDf_27 : DI f_27 := DI.free (i := (dk_19 + 11)) (x := x_26) hDI (by rw [ef_27, nI_clamp (by omega)]) (by unfold dFree; omega)
              refine lv_aload_n hx hb dX12_room_103 rfl (lv_at hl 1 rfl) ?_
              refine va_get (ci := 12) (C := RX12) (T := TX12) (N := 20) hx hb hts inlX12 hown hKW.1 hP 0 rfl rfl 0 (by decide) (hts _ wd_6_5) (fun _ h => h) rfl dX12_room_104 ?_
              refine lv_bipush (v := 16) hx hb dX12_room_107 (by decide) ?_
              refine lv_iload_n hx hb dX12_room_109 rfl (lv_at hl 0 rfl) ?_
              refine lv_iadd hx hb dX12_room_110 ?_
              refine k_top (y := nI (dk_19 + 16)) (by rw [Nat.add_comm]; exact nI_add 16 dk_19) ?_
              refine lv_iload_n hx hb dX12_room_111 rfl (lv_at hl 2 rfl) ?_
              refine lv_bipush (v := 100) hx hb dX12_room_112 (by decide) ?_
              refine lv_irem hx hb dX12_room_114 (by decide) ?_
              refine lv_topi (fun x_29 ex_29 => ?_)
              refine va_iast hx hb hKW.1 hP hD hS 1 0 rfl rfl (vp_in_nI (by omega) (by decide)) dX12_room_115 (fun H locs hP hD hS => ?_)
              have hP : va_P g.1 vwCl [(z 0, .inr (12, [.ref (z 1), .ref (z 2), .int (nI q_24), .int (xs 0), .ref (z 3), .ref (z 4), .ref (z 5), .ref (z 6), .int (xs 1), .ref (z 7), .ref (z 8), .ref (z 9), .ref (z 10), .ref (z 11), .ref (z 12), .int (xs 2), .ref (z 13), .ref (z 14), .int (xs 3), .ref (z 15)])), (z 1, .inl (gI g, 461, .inl (upd f_27 (nI (dk_19 + 16)).toNatClampNeg x_29))), (z 2, .inl (gI g, 7376, .inl f_25))] H := hP
              have hD : va_D A [(z 0, .inr (12, [.ref (z 1), .ref (z 2), .int (nI q_24), .int (xs 0), .ref (z 3), .ref (z 4), .ref (z 5), .ref (z 6), .int (xs 1), .ref (z 7), .ref (z 8), .ref (z 9), .ref (z 10), .ref (z 11), .ref (z 12), .int (xs 2), .ref (z 13), .ref (z 14), .int (xs 3), .ref (z 15)])), (z 1, .inl (gI g, 461, .inl (upd f_27 (nI (dk_19 + 16)).toNatClampNeg x_29))), (z 2, .inl (gI g, 7376, .inl f_25))] := hD
              obtain ⟨f_30, ef_30⟩ : ∃ zz_ : Nat → Int32, zz_ = upd f_27 (nI (dk_19 + 16)).toNatClampNeg x_29 := ⟨_, rfl⟩
              rw [← ef_30] at hP hD
              have dz_31 : f_30 0 = nI dk_19 := by rw [ef_30, nI_clamp (by omega), pk_un (by omega)]; exact dz_28
              have hDf_30 : DI f_30 := DI.free (i := (dk_19 + 16)) (x := x_29) hDf_27 (by rw [ef_30, nI_clamp (by omega)]) (by unfold dFree; omega)
              refine lv_aload_n hx hb dX12_room_116 rfl (lv_at hl 1 rfl) ?_
              refine va_get (ci := 12) (C := RX12) (T := TX12) (N := 20) hx hb hts inlX12 hown hKW.1 hP 0 rfl rfl 0 (by decide) (hts _ wd_6_5) (fun _ h => h) rfl dX12_room_117 ?_
              refine lv_bipush (v := 21) hx hb dX12_room_120 (by decide) ?_
              refine lv_iload_n hx hb dX12_room_122 rfl (lv_at hl 0 rfl) ?_
              refine lv_iadd hx hb dX12_room_123 ?_
              refine k_top (y := nI (dk_19 + 21)) (by rw [Nat.add_comm]; exact nI_add 21 dk_19) ?_
              refine lv_iload_n hx hb dX12_room_124 rfl (lv_at hl 3 rfl) ?_
              refine va_iast hx hb hKW.1 hP hD hS 1 0 rfl rfl (vp_in_nI (by omega) (by decide)) dX12_room_125 (fun H locs hP hD hS => ?_)
              have hP : va_P g.1 vwCl [(z 0, .inr (12, [.ref (z 1), .ref (z 2), .int (nI q_24), .int (xs 0), .ref (z 3), .ref (z 4), .ref (z 5), .ref (z 6), .int (xs 1), .ref (z 7), .ref (z 8), .ref (z 9), .ref (z 10), .ref (z 11), .ref (z 12), .int (xs 2), .ref (z 13), .ref (z 14), .int (xs 3), .ref (z 15)])), (z 1, .inl (gI g, 461, .inl (upd f_30 (nI (dk_19 + 21)).toNatClampNeg y))), (z 2, .inl (gI g, 7376, .inl f_25))] H := hP
              have hD : va_D A [(z 0, .inr (12, [.ref (z 1), .ref (z 2), .int (nI q_24), .int (xs 0), .ref (z 3), .ref (z 4), .ref (z 5), .ref (z 6), .int (xs 1), .ref (z 7), .ref (z 8), .ref (z 9), .ref (z 10), .ref (z 11), .ref (z 12), .int (xs 2), .ref (z 13), .ref (z 14), .int (xs 3), .ref (z 15)])), (z 1, .inl (gI g, 461, .inl (upd f_30 (nI (dk_19 + 21)).toNatClampNeg y))), (z 2, .inl (gI g, 7376, .inl f_25))] := hD
              obtain ⟨f_32, ef_32⟩ : ∃ zz_ : Nat → Int32, zz_ = upd f_30 (nI (dk_19 + 21)).toNatClampNeg y := ⟨_, rfl⟩
              rw [← ef_32] at hP hD
              have dz_33 : f_32 0 = nI dk_19 := by rw [ef_32, nI_clamp (by omega), pk_un (by omega)]; exact dz_31
              have hDf_32 : DI f_32 := DI.free (i := (dk_19 + 21)) (x := y) hDf_30 (by rw [ef_32, nI_clamp (by omega)]) (by unfold dFree; omega)
              refine lv_aload_n hx hb dX12_room_126 rfl (lv_at hl 1 rfl) ?_
              refine va_get (ci := 12) (C := RX12) (T := TX12) (N := 20) hx hb hts inlX12 hown hKW.1 hP 0 rfl rfl 0 (by decide) (hts _ wd_6_5) (fun _ h => h) rfl dX12_room_127 ?_
              refine lv_iconst (v := 0) hx hb dX12_room_130 (by decide) ?_
              refine lv_dup2_11 hx hb dX12_room_131 rfl rfl ?_
              refine va_iald hx hb hKW.1 hP 1 0 rfl rfl (show ¬ _ by decide) dX12_room_132 ?_
              refine k_top (y := nI dk_19) dz_33 ?_
              refine lv_iconst (v := 1) hx hb dX12_room_133 (by decide) ?_
              refine lv_iadd hx hb dX12_room_134 ?_
              refine k_top (y := nI (dk_19 + 1)) (nI_add dk_19 1) ?_
              refine va_iast hx hb hKW.1 hP hD hS 1 0 rfl rfl (show ¬ _ by decide) dX12_room_135 (fun H locs hP hD hS => ?_)
              have hP : va_P g.1 vwCl [(z 0, .inr (12, [.ref (z 1), .ref (z 2), .int (nI q_24), .int (xs 0), .ref (z 3), .ref (z 4), .ref (z 5), .ref (z 6), .int (xs 1), .ref (z 7), .ref (z 8), .ref (z 9), .ref (z 10), .ref (z 11), .ref (z 12), .int (xs 2), .ref (z 13), .ref (z 14), .int (xs 3), .ref (z 15)])), (z 1, .inl (gI g, 461, .inl (upd f_32 0 (nI (dk_19 + 1))))), (z 2, .inl (gI g, 7376, .inl f_25))] H := hP
              have hD : va_D A [(z 0, .inr (12, [.ref (z 1), .ref (z 2), .int (nI q_24), .int (xs 0), .ref (z 3), .ref (z 4), .ref (z 5), .ref (z 6), .int (xs 1), .ref (z 7), .ref (z 8), .ref (z 9), .ref (z 10), .ref (z 11), .ref (z 12), .int (xs 2), .ref (z 13), .ref (z 14), .int (xs 3), .ref (z 15)])), (z 1, .inl (gI g, 461, .inl (upd f_32 0 (nI (dk_19 + 1))))), (z 2, .inl (gI g, 7376, .inl f_25))] := hD
              obtain ⟨f_34, ef_34⟩ : ∃ zz_ : Nat → Int32, zz_ = upd f_32 0 (nI (dk_19 + 1)) := ⟨_, rfl⟩
              rw [← ef_34] at hP hD
              have dz_35 : f_34 0 = nI (dk_19 + 1) := by rw [ef_34, pk_us]
              have hDf_34 : DI f_34 := DI.upd (i := 0) (x := nI (dk_19 + 1)) hDf_32 ef_34 (h0 := (fun _ => k_rgI (lo := 0) (hi := 5) (n := (dk_19 + 1)) (by decide) (by omega) (by omega))) (h1 := (fun q => absurd q (by omega))) (h2 := (fun q => absurd q (by omega))) (h5 := (fun q => absurd q (by omega))) (h6 := (fun q => absurd q (by omega))) (h7 := (fun q => absurd q (by omega))) (h10 := (fun q => absurd q (by omega))) (hf := (fun q q2 => False.elim (by omega))) (hn := (fun q q2 => False.elim (by omega))) (ht := (fun q q2 => False.elim (by omega))) (hl := (fun q q2 => False.elim (by omega))) (h8 := (by omega))
              refine lv_iload_n hx hb dX12_room_136 rfl (lv_at hl 0 rfl) ?_
              exact k_iret (q_24, xs, f_34, f_25) [0, 1, 2] hx hb hr hlk hP hD hS (⟨hkk, hDf_34, hkW⟩) rfl rfl rfl (Nat.le_of_ble_eq_true rfl) (Nat.le_of_ble_eq_true rfl) dX12_room_137
            · have c_20n : dk_19 = 5 := (k_eqI (a := dk_19) (b := 5) (by omega) (by omega)).mp c_20
              refine lv_aload_n hx hb dX12_room_73 rfl (lv_at hl 0 rfl) ?_
              refine lv_iconst (v := 5) hx hb dX12_room_74 (by decide) ?_
              refine k_Vi [0] [1, 2] 0 12 (wr := [(z 1, .inl (gI g, 461, .inl D)), (z 2, .inl (gI g, 7376, .inl Wk))]) hx hb hml hown hts hKW hP hD hS hA hl.1 (c_X12_finding_5 l g _ z kp xs ) rfl rfl rfl wd_10_15 wd_1_5 wd_10_12 wd_10_13 wd_10_14 yd_X12_finding ⟨(Nat.le_of_ble_eq_true rfl), (Nat.le_of_ble_eq_true rfl)⟩ rfl rfl rfl rfl (by decide) rfl (Nat.le_of_ble_eq_true rfl) dX12_room_75 ⟨(Nat.le_of_ble_eq_true rfl), (Nat.le_of_ble_eq_true rfl)⟩ (fun r_36 u_37 H locs hw_38 hP hD hS => ?_)
              have hP : va_P g.1 vwCl [(z 1, .inl (gI g, 461, .inl D)), (z 2, .inl (gI g, 7376, .inl Wk)), (z 0, .inr (12, [.ref (z 1), .ref (z 2), .int (nI kp), .int u_37, .ref (z 3), .ref (z 4), .ref (z 5), .ref (z 6), .int (xs 1), .ref (z 7), .ref (z 8), .ref (z 9), .ref (z 10), .ref (z 11), .ref (z 12), .int (xs 2), .ref (z 13), .ref (z 14), .int (xs 3), .ref (z 15)]))] H := hP
              have hD : va_D A [(z 1, .inl (gI g, 461, .inl D)), (z 2, .inl (gI g, 7376, .inl Wk)), (z 0, .inr (12, [.ref (z 1), .ref (z 2), .int (nI kp), .int u_37, .ref (z 3), .ref (z 4), .ref (z 5), .ref (z 6), .int (xs 1), .ref (z 7), .ref (z 8), .ref (z 9), .ref (z 10), .ref (z 11), .ref (z 12), .int (xs 2), .ref (z 13), .ref (z 14), .int (xs 3), .ref (z 15)]))] := hD
              have hw_38 : r_36 = (-100005) := hw_38
              subst hw_38
              exact k_iret (kp, (fun kk_ => ([u_37, (xs 1), (xs 2), (xs 3)] : List Int32).getD kk_ 0), D, Wk) [2, 0, 1] hx hb hr hlk hP hD hS (⟨hkp, hDI, hWI⟩) rfl rfl rfl (Nat.le_of_ble_eq_true rfl) (Nat.le_of_ble_eq_true rfl) dX12_room_78
          · refine lv_aload_n hx hb dX12_room_57 rfl (lv_at hl 0 rfl) ?_
            refine lv_iconst (v := 3) hx hb dX12_room_58 (by decide) ?_
            refine k_Vi [0] [1, 2] 0 12 (wr := [(z 1, .inl (gI g, 461, .inl D)), (z 2, .inl (gI g, 7376, .inl Wk))]) hx hb hml hown hts hKW hP hD hS hA hl.1 (c_X12_finding_3 l g _ z kp xs ) rfl rfl rfl wd_10_15 wd_1_5 wd_10_12 wd_10_13 wd_10_14 yd_X12_finding ⟨(Nat.le_of_ble_eq_true rfl), (Nat.le_of_ble_eq_true rfl)⟩ rfl rfl rfl rfl (by decide) rfl (Nat.le_of_ble_eq_true rfl) dX12_room_59 ⟨(Nat.le_of_ble_eq_true rfl), (Nat.le_of_ble_eq_true rfl)⟩ (fun r_39 u_40 H locs hw_41 hP hD hS => ?_)
            have hP : va_P g.1 vwCl [(z 1, .inl (gI g, 461, .inl D)), (z 2, .inl (gI g, 7376, .inl Wk)), (z 0, .inr (12, [.ref (z 1), .ref (z 2), .int (nI kp), .int u_40, .ref (z 3), .ref (z 4), .ref (z 5), .ref (z 6), .int (xs 1), .ref (z 7), .ref (z 8), .ref (z 9), .ref (z 10), .ref (z 11), .ref (z 12), .int (xs 2), .ref (z 13), .ref (z 14), .int (xs 3), .ref (z 15)]))] H := hP
            have hD : va_D A [(z 1, .inl (gI g, 461, .inl D)), (z 2, .inl (gI g, 7376, .inl Wk)), (z 0, .inr (12, [.ref (z 1), .ref (z 2), .int (nI kp), .int u_40, .ref (z 3), .ref (z 4), .ref (z 5), .ref (z 6), .int (xs 1), .ref (z 7), .ref (z 8), .ref (z 9), .ref (z 10), .ref (z 11), .ref (z 12), .int (xs 2), .ref (z 13), .ref (z 14), .int (xs 3), .ref (z 15)]))] := hD
            have hw_41 : r_39 = (-100003) := hw_41
            subst hw_41
            exact k_iret (kp, (fun kk_ => ([u_40, (xs 1), (xs 2), (xs 3)] : List Int32).getD kk_ 0), D, Wk) [2, 0, 1] hx hb hr hlk hP hD hS (⟨hkp, hDI, hWI⟩) rfl rfl rfl (Nat.le_of_ble_eq_true rfl) (Nat.le_of_ble_eq_true rfl) dX12_room_62
        · refine lv_if_ne (tgt := 46) hx hb dX12_room_37 (by decide) (fun c => absurd c (by decide)) (fun _ => ?_)
          refine lv_aload_n hx hb dX12_room_40 rfl (lv_at hl 0 rfl) ?_
          refine lv_iconst (v := 1) hx hb dX12_room_41 (by decide) ?_
          refine k_Vi [0] [1, 2] 0 12 (wr := [(z 1, .inl (gI g, 461, .inl D)), (z 2, .inl (gI g, 7376, .inl Wk))]) hx hb hml hown hts hKW hP hD hS hA hl.1 (c_X12_finding_1 l g _ z kp xs ) rfl rfl rfl wd_10_15 wd_1_5 wd_10_12 wd_10_13 wd_10_14 yd_X12_finding ⟨(Nat.le_of_ble_eq_true rfl), (Nat.le_of_ble_eq_true rfl)⟩ rfl rfl rfl rfl (by decide) rfl (Nat.le_of_ble_eq_true rfl) dX12_room_42 ⟨(Nat.le_of_ble_eq_true rfl), (Nat.le_of_ble_eq_true rfl)⟩ (fun r_42 u_43 H locs hw_44 hP hD hS => ?_)
          have hP : va_P g.1 vwCl [(z 1, .inl (gI g, 461, .inl D)), (z 2, .inl (gI g, 7376, .inl Wk)), (z 0, .inr (12, [.ref (z 1), .ref (z 2), .int (nI kp), .int u_43, .ref (z 3), .ref (z 4), .ref (z 5), .ref (z 6), .int (xs 1), .ref (z 7), .ref (z 8), .ref (z 9), .ref (z 10), .ref (z 11), .ref (z 12), .int (xs 2), .ref (z 13), .ref (z 14), .int (xs 3), .ref (z 15)]))] H := hP
          have hD : va_D A [(z 1, .inl (gI g, 461, .inl D)), (z 2, .inl (gI g, 7376, .inl Wk)), (z 0, .inr (12, [.ref (z 1), .ref (z 2), .int (nI kp), .int u_43, .ref (z 3), .ref (z 4), .ref (z 5), .ref (z 6), .int (xs 1), .ref (z 7), .ref (z 8), .ref (z 9), .ref (z 10), .ref (z 11), .ref (z 12), .int (xs 2), .ref (z 13), .ref (z 14), .int (xs 3), .ref (z 15)]))] := hD
          have hw_44 : r_42 = (-100001) := hw_44
          subst hw_44
          exact k_iret (kp, (fun kk_ => ([u_43, (xs 1), (xs 2), (xs 3)] : List Int32).getD kk_ 0), D, Wk) [2, 0, 1] hx hb hr hlk hP hD hS (⟨hkp, hDI, hWI⟩) rfl rfl rfl (Nat.le_of_ble_eq_true rfl) (Nat.le_of_ble_eq_true rfl) dX12_room_45
      · refine lv_if_eq (tgt := 40) hx hb dX12_room_27 (by decide) (fun _ => ?_) (fun c => absurd c (by decide))
        refine lv_aload_n hx hb dX12_room_40 rfl (lv_at hl 0 rfl) ?_
        refine lv_iconst (v := 1) hx hb dX12_room_41 (by decide) ?_
        refine k_Vi [0] [1, 2] 0 12 (wr := [(z 1, .inl (gI g, 461, .inl D)), (z 2, .inl (gI g, 7376, .inl Wk))]) hx hb hml hown hts hKW hP hD hS hA hl.1 (c_X12_finding_1 l g _ z kp xs ) rfl rfl rfl wd_10_15 wd_1_5 wd_10_12 wd_10_13 wd_10_14 yd_X12_finding ⟨(Nat.le_of_ble_eq_true rfl), (Nat.le_of_ble_eq_true rfl)⟩ rfl rfl rfl rfl (by decide) rfl (Nat.le_of_ble_eq_true rfl) dX12_room_42 ⟨(Nat.le_of_ble_eq_true rfl), (Nat.le_of_ble_eq_true rfl)⟩ (fun r_45 u_46 H locs hw_47 hP hD hS => ?_)
        have hP : va_P g.1 vwCl [(z 1, .inl (gI g, 461, .inl D)), (z 2, .inl (gI g, 7376, .inl Wk)), (z 0, .inr (12, [.ref (z 1), .ref (z 2), .int (nI kp), .int u_46, .ref (z 3), .ref (z 4), .ref (z 5), .ref (z 6), .int (xs 1), .ref (z 7), .ref (z 8), .ref (z 9), .ref (z 10), .ref (z 11), .ref (z 12), .int (xs 2), .ref (z 13), .ref (z 14), .int (xs 3), .ref (z 15)]))] H := hP
        have hD : va_D A [(z 1, .inl (gI g, 461, .inl D)), (z 2, .inl (gI g, 7376, .inl Wk)), (z 0, .inr (12, [.ref (z 1), .ref (z 2), .int (nI kp), .int u_46, .ref (z 3), .ref (z 4), .ref (z 5), .ref (z 6), .int (xs 1), .ref (z 7), .ref (z 8), .ref (z 9), .ref (z 10), .ref (z 11), .ref (z 12), .int (xs 2), .ref (z 13), .ref (z 14), .int (xs 3), .ref (z 15)]))] := hD
        have hw_47 : r_45 = (-100001) := hw_47
        subst hw_47
        exact k_iret (kp, (fun kk_ => ([u_46, (xs 1), (xs 2), (xs 3)] : List Int32).getD kk_ 0), D, Wk) [2, 0, 1] hx hb hr hlk hP hD hS (⟨hkp, hDI, hWI⟩) rfl rfl rfl (Nat.le_of_ble_eq_true rfl) (Nat.le_of_ble_eq_true rfl) dX12_room_45
    · refine lv_if_eq (tgt := 40) hx hb dX12_room_14 (by decide) (fun _ => ?_) (fun c => absurd c (by decide))
      refine lv_aload_n hx hb dX12_room_40 rfl (lv_at hl 0 rfl) ?_
      refine lv_iconst (v := 1) hx hb dX12_room_41 (by decide) ?_
      refine k_Vi [0] [1, 2] 0 12 (wr := [(z 1, .inl (gI g, 461, .inl D)), (z 2, .inl (gI g, 7376, .inl Wk))]) hx hb hml hown hts hKW hP hD hS hA hl.1 (c_X12_finding_1 l g _ z kp xs ) rfl rfl rfl wd_10_15 wd_1_5 wd_10_12 wd_10_13 wd_10_14 yd_X12_finding ⟨(Nat.le_of_ble_eq_true rfl), (Nat.le_of_ble_eq_true rfl)⟩ rfl rfl rfl rfl (by decide) rfl (Nat.le_of_ble_eq_true rfl) dX12_room_42 ⟨(Nat.le_of_ble_eq_true rfl), (Nat.le_of_ble_eq_true rfl)⟩ (fun r_48 u_49 H locs hw_50 hP hD hS => ?_)
      have hP : va_P g.1 vwCl [(z 1, .inl (gI g, 461, .inl D)), (z 2, .inl (gI g, 7376, .inl Wk)), (z 0, .inr (12, [.ref (z 1), .ref (z 2), .int (nI kp), .int u_49, .ref (z 3), .ref (z 4), .ref (z 5), .ref (z 6), .int (xs 1), .ref (z 7), .ref (z 8), .ref (z 9), .ref (z 10), .ref (z 11), .ref (z 12), .int (xs 2), .ref (z 13), .ref (z 14), .int (xs 3), .ref (z 15)]))] H := hP
      have hD : va_D A [(z 1, .inl (gI g, 461, .inl D)), (z 2, .inl (gI g, 7376, .inl Wk)), (z 0, .inr (12, [.ref (z 1), .ref (z 2), .int (nI kp), .int u_49, .ref (z 3), .ref (z 4), .ref (z 5), .ref (z 6), .int (xs 1), .ref (z 7), .ref (z 8), .ref (z 9), .ref (z 10), .ref (z 11), .ref (z 12), .int (xs 2), .ref (z 13), .ref (z 14), .int (xs 3), .ref (z 15)]))] := hD
      have hw_50 : r_48 = (-100001) := hw_50
      subst hw_50
      exact k_iret (kp, (fun kk_ => ([u_49, (xs 1), (xs 2), (xs 3)] : List Int32).getD kk_ 0), D, Wk) [2, 0, 1] hx hb hr hlk hP hD hS (⟨hkp, hDI, hWI⟩) rfl rfl rfl (Nat.le_of_ble_eq_true rfl) (Nat.le_of_ble_eq_true rfl) dX12_room_45
theorem dX12_hand_0 : decode cX12_hand 0 = .ok (.iload_n 1, 1) := by decide +kernel
theorem dX12_hand_1 : decode cX12_hand 1 = .ok (.iconst 0, 1) := by decide +kernel
theorem dX12_hand_2 : decode cX12_hand 2 = .ok (.iconst 3, 1) := by decide +kernel
theorem dX12_hand_3 : decode cX12_hand 3 = .ok (.invokestatic 64, 3) := by decide +kernel
theorem dX12_hand_6 : decode cX12_hand 6 = .ok (.ifCond .ne 9, 3) := by decide +kernel
theorem dX12_hand_15 : decode cX12_hand 15 = .ok (.aload_n 0, 1) := by decide +kernel
theorem dX12_hand_16 : decode cX12_hand 16 = .ok (.getfield 7, 3) := by decide +kernel
theorem dX12_hand_19 : decode cX12_hand 19 = .ok (.iconst 1, 1) := by decide +kernel
theorem dX12_hand_20 : decode cX12_hand 20 = .ok (.iaload, 1) := by decide +kernel
theorem dX12_hand_21 : decode cX12_hand 21 = .ok (.bipush 7, 2) := by decide +kernel
theorem dX12_hand_23 : decode cX12_hand 23 = .ok (.if_icmp .ne 9, 3) := by decide +kernel
theorem dX12_hand_32 : decode cX12_hand 32 = .ok (.aload_n 0, 1) := by decide +kernel
theorem dX12_hand_33 : decode cX12_hand 33 = .ok (.invokevirtual 72, 3) := by decide +kernel
theorem dX12_hand_36 : decode cX12_hand 36 = .ok (.aload_n 0, 1) := by decide +kernel
theorem dX12_hand_37 : decode cX12_hand 37 = .ok (.getfield 7, 3) := by decide +kernel
theorem dX12_hand_40 : decode cX12_hand 40 = .ok (.iconst 1, 1) := by decide +kernel
theorem dX12_hand_41 : decode cX12_hand 41 = .ok (.iaload, 1) := by decide +kernel
theorem dX12_hand_42 : decode cX12_hand 42 = .ok (.istore_n 2, 1) := by decide +kernel
theorem dX12_hand_43 : decode cX12_hand 43 = .ok (.aload_n 0, 1) := by decide +kernel
theorem dX12_hand_44 : decode cX12_hand 44 = .ok (.getfield 7, 3) := by decide +kernel
theorem dX12_hand_47 : decode cX12_hand 47 = .ok (.bipush 26, 2) := by decide +kernel
theorem dX12_hand_49 : decode cX12_hand 49 = .ok (.iload_n 2, 1) := by decide +kernel
theorem dX12_hand_50 : decode cX12_hand 50 = .ok (.iadd, 1) := by decide +kernel
theorem dX12_hand_51 : decode cX12_hand 51 = .ok (.iload_n 1, 1) := by decide +kernel
theorem dX12_hand_52 : decode cX12_hand 52 = .ok (.iastore, 1) := by decide +kernel
theorem dX12_hand_53 : decode cX12_hand 53 = .ok (.aload_n 0, 1) := by decide +kernel
theorem dX12_hand_54 : decode cX12_hand 54 = .ok (.getfield 7, 3) := by decide +kernel
theorem dX12_hand_57 : decode cX12_hand 57 = .ok (.bipush 33, 2) := by decide +kernel
theorem dX12_hand_59 : decode cX12_hand 59 = .ok (.iload_n 2, 1) := by decide +kernel
theorem dX12_hand_60 : decode cX12_hand 60 = .ok (.iadd, 1) := by decide +kernel
theorem dX12_hand_61 : decode cX12_hand 61 = .ok (.iconst (-1), 1) := by decide +kernel
theorem dX12_hand_62 : decode cX12_hand 62 = .ok (.iastore, 1) := by decide +kernel
theorem dX12_hand_63 : decode cX12_hand 63 = .ok (.aload_n 0, 1) := by decide +kernel
theorem dX12_hand_64 : decode cX12_hand 64 = .ok (.getfield 7, 3) := by decide +kernel
theorem dX12_hand_67 : decode cX12_hand 67 = .ok (.bipush 40, 2) := by decide +kernel
theorem dX12_hand_69 : decode cX12_hand 69 = .ok (.iload_n 2, 1) := by decide +kernel
theorem dX12_hand_70 : decode cX12_hand 70 = .ok (.iadd, 1) := by decide +kernel
theorem dX12_hand_71 : decode cX12_hand 71 = .ok (.iconst 0, 1) := by decide +kernel
theorem dX12_hand_72 : decode cX12_hand 72 = .ok (.iastore, 1) := by decide +kernel
theorem dX12_hand_73 : decode cX12_hand 73 = .ok (.aload_n 0, 1) := by decide +kernel
theorem dX12_hand_74 : decode cX12_hand 74 = .ok (.getfield 7, 3) := by decide +kernel
theorem dX12_hand_77 : decode cX12_hand 77 = .ok (.iconst 1, 1) := by decide +kernel
theorem dX12_hand_78 : decode cX12_hand 78 = .ok (.dup2, 1) := by decide +kernel
theorem dX12_hand_79 : decode cX12_hand 79 = .ok (.iaload, 1) := by decide +kernel
theorem dX12_hand_80 : decode cX12_hand 80 = .ok (.iconst 1, 1) := by decide +kernel
theorem dX12_hand_81 : decode cX12_hand 81 = .ok (.iadd, 1) := by decide +kernel
theorem dX12_hand_82 : decode cX12_hand 82 = .ok (.iastore, 1) := by decide +kernel
theorem dX12_hand_83 : decode cX12_hand 83 = .ok (.iload_n 2, 1) := by decide +kernel
theorem dX12_hand_84 : decode cX12_hand 84 = .ok (.ireturn, 1) := by decide +kernel
theorem dX12_hand_26 : decode cX12_hand 26 = .ok (.aload_n 0, 1) := by decide +kernel
theorem dX12_hand_27 : decode cX12_hand 27 = .ok (.iconst 5, 1) := by decide +kernel
theorem dX12_hand_28 : decode cX12_hand 28 = .ok (.invokevirtual 68, 3) := by decide +kernel
theorem dX12_hand_31 : decode cX12_hand 31 = .ok (.ireturn, 1) := by decide +kernel
theorem dX12_hand_9 : decode cX12_hand 9 = .ok (.aload_n 0, 1) := by decide +kernel
theorem dX12_hand_10 : decode cX12_hand 10 = .ok (.iconst 1, 1) := by decide +kernel
theorem dX12_hand_11 : decode cX12_hand 11 = .ok (.invokevirtual 68, 3) := by decide +kernel
theorem dX12_hand_14 : decode cX12_hand 14 = .ok (.ireturn, 1) := by decide +kernel
set_option maxHeartbeats 8000000 in
set_option maxRecDepth 100000 in
theorem c_X12_hand (l : Launch) (g : kG) (sz : Nat) (z : Nat → Nat) (kp : Nat) (xs : Nat → Int32) (D : Nat → Int32) (Wk : Nat → Int32) (x : Int32) (hDI : DI D) (hkp : kp ≤ 16) (hWI : WI Wk kp) : kMi l g yX12_hand cX12_hand 3 (some .int) 4 0 0 [.ref (z 0), .int x] sz [(z 0, .inr (12, [.ref (z 1), .ref (z 2), .int (nI kp), .int (xs 0), .ref (z 3), .ref (z 4), .ref (z 5), .ref (z 6), .int (xs 1), .ref (z 7), .ref (z 8), .ref (z 9), .ref (z 10), .ref (z 11), .ref (z 12), .int (xs 2), .ref (z 13), .ref (z 14), .int (xs 3), .ref (z 15)])), (z 1, .inl (gI g, 461, .inl D)), (z 2, .inl (gI g, 7376, .inl Wk))] (fun (r : Int32) (u : Nat × (Nat → Int32) × (Nat → Int32) × (Nat → Int32)) => u.1 ≤ 16 ∧ DI u.2.2.1 ∧ WI u.2.2.2 u.1) (fun (u : Nat × (Nat → Int32) × (Nat → Int32) × (Nat → Int32)) => ([(z 0, .inr (12, [.ref (z 1), .ref (z 2), .int (nI u.1), .int (u.2.1 0), .ref (z 3), .ref (z 4), .ref (z 5), .ref (z 6), .int (u.2.1 1), .ref (z 7), .ref (z 8), .ref (z 9), .ref (z 10), .ref (z 11), .ref (z 12), .int (u.2.1 2), .ref (z 13), .ref (z 14), .int (u.2.1 3), .ref (z 15)])), (z 1, .inl (gI g, 461, .inl u.2.2.1)), (z 2, .inl (gI g, 7376, .inl u.2.2.2))] : va_W)) := by
  refine kMi.of (by decide) (Nat.le_of_ble_eq_true rfl) (fun p e s m below meth c A hx hb hr hml hown hts hlk hnm hKW hP hD hS hA ls hl => ?_)
  have hown : s.vm.findClass RX12 = some m.cls := hown
  have hl : lv_has ls 3 [(0, .ref (z 0)), (1, .int x)] := hl
  refine k_hide hP hS (fun H locs hP hS => ?_)
  refine lv_iload_n hx hb dX12_hand_0 rfl (lv_at hl 1 rfl) ?_
  refine lv_iconst (v := 0) hx hb dX12_hand_1 (by decide) ?_
  refine lv_iconst (v := 3) hx hb dX12_hand_2 (by decide) ?_
  refine k_Si [] [0, 1, 2] (wr := [(z 0, .inr (12, [.ref (z 1), .ref (z 2), .int (nI kp), .int (xs 0), .ref (z 3), .ref (z 4), .ref (z 5), .ref (z 6), .int (xs 1), .ref (z 7), .ref (z 8), .ref (z 9), .ref (z 10), .ref (z 11), .ref (z 12), .int (xs 2), .ref (z 13), .ref (z 14), .int (xs 3), .ref (z 15)])), (z 1, .inl (gI g, 461, .inl D)), (z 2, .inl (gI g, 7376, .inl Wk))]) hx hb hml hown hts hKW hP hD hS hA hl.1 (c_X12_isIn l g _ x 0 3 ) wd_10_11 wd_1_5 wd_10_9 wd_10_10 yd_X12_isIn ⟨(Nat.le_of_ble_eq_true rfl), (Nat.le_of_ble_eq_true rfl)⟩ rfl rfl rfl rfl (by decide) rfl (Nat.le_of_ble_eq_true rfl) dX12_hand_3 ⟨(Nat.le_of_ble_eq_true rfl), (Nat.le_of_ble_eq_true rfl)⟩ (fun r_1 u_2 H locs hw_3 hP hD hS => ?_)
  have hP : va_P g.1 vwCl [(z 0, .inr (12, [.ref (z 1), .ref (z 2), .int (nI kp), .int (xs 0), .ref (z 3), .ref (z 4), .ref (z 5), .ref (z 6), .int (xs 1), .ref (z 7), .ref (z 8), .ref (z 9), .ref (z 10), .ref (z 11), .ref (z 12), .int (xs 2), .ref (z 13), .ref (z 14), .int (xs 3), .ref (z 15)])), (z 1, .inl (gI g, 461, .inl D)), (z 2, .inl (gI g, 7376, .inl Wk))] H := hP
  have hD : va_D A [(z 0, .inr (12, [.ref (z 1), .ref (z 2), .int (nI kp), .int (xs 0), .ref (z 3), .ref (z 4), .ref (z 5), .ref (z 6), .int (xs 1), .ref (z 7), .ref (z 8), .ref (z 9), .ref (z 10), .ref (z 11), .ref (z 12), .int (xs 2), .ref (z 13), .ref (z 14), .int (xs 3), .ref (z 15)])), (z 1, .inl (gI g, 461, .inl D)), (z 2, .inl (gI g, 7376, .inl Wk))] := hD
  rcases (show (r_1 = 1 ∧ (Int32.toInt 0 ≤ Int32.toInt x ∧ Int32.toInt x ≤ Int32.toInt 3)) ∨ (r_1 = 0 ∧ ¬ (Int32.toInt 0 ≤ Int32.toInt x ∧ Int32.toInt x ≤ Int32.toInt 3)) from hw_3) with ⟨rfl, hw_3b⟩ | ⟨rfl, hw_3b⟩ <;> clear hw_3
  · refine lv_if_ne (tgt := 15) hx hb dX12_hand_6 (by decide) (fun _ => ?_) (fun c => absurd c (by decide))
    refine lv_aload_n hx hb dX12_hand_15 rfl (lv_at hl 0 rfl) ?_
    refine va_get (ci := 12) (C := RX12) (T := TX12) (N := 20) hx hb hts inlX12 hown hKW.1 hP 0 rfl rfl 0 (by decide) (hts _ wd_6_5) (fun _ h => h) rfl dX12_hand_16 ?_
    refine lv_iconst (v := 1) hx hb dX12_hand_19 (by decide) ?_
    obtain ⟨dk_4, hdk_4a, hdk_4b, edk_4⟩ := DI.n1 hDI
    refine va_iald hx hb hKW.1 hP 1 0 rfl rfl (show ¬ _ by decide) dX12_hand_20 ?_
    refine k_top (y := nI dk_4) edk_4 ?_
    refine lv_bipush (v := 7) hx hb dX12_hand_21 (by decide) ?_
    refine lv_icmp_ne (tgt := 32) hx hb dX12_hand_23 (by decide) (fun c_5 => ?_) (fun c_5 => ?_)
    · have c_5n : ¬ dk_4 = 7 := fun h => c_5 ((k_eqI (a := dk_4) (b := 7) (by omega) (by omega)).mpr h)
      refine lv_aload_n hx hb dX12_hand_32 rfl (lv_at hl 0 rfl) ?_
      refine k_Vv [0, 1, 2] [] 0 12 (wr := []) hx hb hml hown hts hKW hP hD hS hA hl.1 (c_X12_keep l g _ z kp xs D Wk (by first | assumption | omega | decide) (by first | assumption | omega | decide) (by first | assumption | omega | decide)) rfl rfl rfl wd_10_21 wd_1_5 wd_10_18 wd_10_19 wd_10_20 yd_X12_keep ⟨(Nat.le_of_ble_eq_true rfl), (Nat.le_of_ble_eq_true rfl)⟩ rfl rfl rfl rfl (by decide) rfl (Nat.le_of_ble_eq_true rfl) dX12_hand_33 ⟨(Nat.le_of_ble_eq_true rfl), (Nat.le_of_ble_eq_true rfl)⟩ (fun u_7 H locs hw_8 hP hD hS => ?_)
      obtain ⟨q_9, f_10⟩ := u_7
      have hP : va_P g.1 vwCl [(z 0, .inr (12, [.ref (z 1), .ref (z 2), .int (nI q_9), .int (xs 0), .ref (z 3), .ref (z 4), .ref (z 5), .ref (z 6), .int (xs 1), .ref (z 7), .ref (z 8), .ref (z 9), .ref (z 10), .ref (z 11), .ref (z 12), .int (xs 2), .ref (z 13), .ref (z 14), .int (xs 3), .ref (z 15)])), (z 1, .inl (gI g, 461, .inl D)), (z 2, .inl (gI g, 7376, .inl f_10))] H := hP
      have hD : va_D A [(z 0, .inr (12, [.ref (z 1), .ref (z 2), .int (nI q_9), .int (xs 0), .ref (z 3), .ref (z 4), .ref (z 5), .ref (z 6), .int (xs 1), .ref (z 7), .ref (z 8), .ref (z 9), .ref (z 10), .ref (z 11), .ref (z 12), .int (xs 2), .ref (z 13), .ref (z 14), .int (xs 3), .ref (z 15)])), (z 1, .inl (gI g, 461, .inl D)), (z 2, .inl (gI g, 7376, .inl f_10))] := hD
      have hw_8 : q_9 ≤ 16 ∧ WI f_10 q_9 := hw_8
      obtain ⟨hkk, hkW⟩ := hw_8
      refine lv_aload_n hx hb dX12_hand_36 rfl (lv_at hl 0 rfl) ?_
      refine va_get (ci := 12) (C := RX12) (T := TX12) (N := 20) hx hb hts inlX12 hown hKW.1 hP 0 rfl rfl 0 (by decide) (hts _ wd_6_5) (fun _ h => h) rfl dX12_hand_37 ?_
      refine lv_iconst (v := 1) hx hb dX12_hand_40 (by decide) ?_
      refine va_iald hx hb hKW.1 hP 1 0 rfl rfl (show ¬ _ by decide) dX12_hand_41 ?_
      refine k_top (y := nI dk_4) edk_4 ?_
      refine lv_istore_n (lv' := [(2, .int (nI dk_4)), (0, .ref (z 0)), (1, .int x)]) hx hb dX12_hand_42 rfl hl (by decide) rfl (fun ls hl => ?_)
      refine lv_aload_n hx hb dX12_hand_43 rfl (lv_at hl 1 rfl) ?_
      refine va_get (ci := 12) (C := RX12) (T := TX12) (N := 20) hx hb hts inlX12 hown hKW.1 hP 0 rfl rfl 0 (by decide) (hts _ wd_6_5) (fun _ h => h) rfl dX12_hand_44 ?_
      refine lv_bipush (v := 26) hx hb dX12_hand_47 (by decide) ?_
      refine lv_iload_n hx hb dX12_hand_49 rfl (lv_at hl 0 rfl) ?_
      refine lv_iadd hx hb dX12_hand_50 ?_
      refine k_top (y := nI (dk_4 + 26)) (by rw [Nat.add_comm]; exact nI_add 26 dk_4) ?_
      refine lv_iload_n hx hb dX12_hand_51 rfl (lv_at hl 2 rfl) ?_
      refine va_iast hx hb hKW.1 hP hD hS 1 0 rfl rfl (vp_in_nI (by omega) (by decide)) dX12_hand_52 (fun H locs hP hD hS => ?_)
      have hP : va_P g.1 vwCl [(z 0, .inr (12, [.ref (z 1), .ref (z 2), .int (nI q_9), .int (xs 0), .ref (z 3), .ref (z 4), .ref (z 5), .ref (z 6), .int (xs 1), .ref (z 7), .ref (z 8), .ref (z 9), .ref (z 10), .ref (z 11), .ref (z 12), .int (xs 2), .ref (z 13), .ref (z 14), .int (xs 3), .ref (z 15)])), (z 1, .inl (gI g, 461, .inl (upd D (nI (dk_4 + 26)).toNatClampNeg x))), (z 2, .inl (gI g, 7376, .inl f_10))] H := hP
      have hD : va_D A [(z 0, .inr (12, [.ref (z 1), .ref (z 2), .int (nI q_9), .int (xs 0), .ref (z 3), .ref (z 4), .ref (z 5), .ref (z 6), .int (xs 1), .ref (z 7), .ref (z 8), .ref (z 9), .ref (z 10), .ref (z 11), .ref (z 12), .int (xs 2), .ref (z 13), .ref (z 14), .int (xs 3), .ref (z 15)])), (z 1, .inl (gI g, 461, .inl (upd D (nI (dk_4 + 26)).toNatClampNeg x))), (z 2, .inl (gI g, 7376, .inl f_10))] := hD
      obtain ⟨f_11, ef_11⟩ : ∃ zz_ : Nat → Int32, zz_ = upd D (nI (dk_4 + 26)).toNatClampNeg x := ⟨_, rfl⟩
      rw [← ef_11] at hP hD
      have dz_12 : f_11 1 = nI dk_4 := by rw [ef_11, nI_clamp (by omega), pk_un (by omega)]; exact edk_4
      have hDf_11 : DI f_11 := DI.free (i := (dk_4 + 26)) (x := x) hDI (by rw [ef_11, nI_clamp (by omega)]) (by unfold dFree; omega)
      refine lv_aload_n hx hb dX12_hand_53 rfl (lv_at hl 1 rfl) ?_
      refine va_get (ci := 12) (C := RX12) (T := TX12) (N := 20) hx hb hts inlX12 hown hKW.1 hP 0 rfl rfl 0 (by decide) (hts _ wd_6_5) (fun _ h => h) rfl dX12_hand_54 ?_
      refine lv_bipush (v := 33) hx hb dX12_hand_57 (by decide) ?_
      refine lv_iload_n hx hb dX12_hand_59 rfl (lv_at hl 0 rfl) ?_
      refine lv_iadd hx hb dX12_hand_60 ?_
      refine k_top (y := nI (dk_4 + 33)) (by rw [Nat.add_comm]; exact nI_add 33 dk_4) ?_
      refine lv_iconst (v := (-1)) hx hb dX12_hand_61 (by decide) ?_
      refine va_iast hx hb hKW.1 hP hD hS 1 0 rfl rfl (vp_in_nI (by omega) (by decide)) dX12_hand_62 (fun H locs hP hD hS => ?_)
      have hP : va_P g.1 vwCl [(z 0, .inr (12, [.ref (z 1), .ref (z 2), .int (nI q_9), .int (xs 0), .ref (z 3), .ref (z 4), .ref (z 5), .ref (z 6), .int (xs 1), .ref (z 7), .ref (z 8), .ref (z 9), .ref (z 10), .ref (z 11), .ref (z 12), .int (xs 2), .ref (z 13), .ref (z 14), .int (xs 3), .ref (z 15)])), (z 1, .inl (gI g, 461, .inl (upd f_11 (nI (dk_4 + 33)).toNatClampNeg (-1)))), (z 2, .inl (gI g, 7376, .inl f_10))] H := hP
      have hD : va_D A [(z 0, .inr (12, [.ref (z 1), .ref (z 2), .int (nI q_9), .int (xs 0), .ref (z 3), .ref (z 4), .ref (z 5), .ref (z 6), .int (xs 1), .ref (z 7), .ref (z 8), .ref (z 9), .ref (z 10), .ref (z 11), .ref (z 12), .int (xs 2), .ref (z 13), .ref (z 14), .int (xs 3), .ref (z 15)])), (z 1, .inl (gI g, 461, .inl (upd f_11 (nI (dk_4 + 33)).toNatClampNeg (-1)))), (z 2, .inl (gI g, 7376, .inl f_10))] := hD
      obtain ⟨f_13, ef_13⟩ : ∃ zz_ : Nat → Int32, zz_ = upd f_11 (nI (dk_4 + 33)).toNatClampNeg (-1) := ⟨_, rfl⟩
      rw [← ef_13] at hP hD
      have dz_14 : f_13 1 = nI dk_4 := by rw [ef_13, nI_clamp (by omega), pk_un (by omega)]; exact dz_12
      have hDf_13 : DI f_13 := DI.free (i := (dk_4 + 33)) (x := (-1)) hDf_11 (by rw [ef_13, nI_clamp (by omega)]) (by unfold dFree; omega)
      refine lv_aload_n hx hb dX12_hand_63 rfl (lv_at hl 1 rfl) ?_
      refine va_get (ci := 12) (C := RX12) (T := TX12) (N := 20) hx hb hts inlX12 hown hKW.1 hP 0 rfl rfl 0 (by decide) (hts _ wd_6_5) (fun _ h => h) rfl dX12_hand_64 ?_
      refine lv_bipush (v := 40) hx hb dX12_hand_67 (by decide) ?_
      refine lv_iload_n hx hb dX12_hand_69 rfl (lv_at hl 0 rfl) ?_
      refine lv_iadd hx hb dX12_hand_70 ?_
      refine k_top (y := nI (dk_4 + 40)) (by rw [Nat.add_comm]; exact nI_add 40 dk_4) ?_
      refine lv_iconst (v := 0) hx hb dX12_hand_71 (by decide) ?_
      refine va_iast hx hb hKW.1 hP hD hS 1 0 rfl rfl (vp_in_nI (by omega) (by decide)) dX12_hand_72 (fun H locs hP hD hS => ?_)
      have hP : va_P g.1 vwCl [(z 0, .inr (12, [.ref (z 1), .ref (z 2), .int (nI q_9), .int (xs 0), .ref (z 3), .ref (z 4), .ref (z 5), .ref (z 6), .int (xs 1), .ref (z 7), .ref (z 8), .ref (z 9), .ref (z 10), .ref (z 11), .ref (z 12), .int (xs 2), .ref (z 13), .ref (z 14), .int (xs 3), .ref (z 15)])), (z 1, .inl (gI g, 461, .inl (upd f_13 (nI (dk_4 + 40)).toNatClampNeg 0))), (z 2, .inl (gI g, 7376, .inl f_10))] H := hP
      have hD : va_D A [(z 0, .inr (12, [.ref (z 1), .ref (z 2), .int (nI q_9), .int (xs 0), .ref (z 3), .ref (z 4), .ref (z 5), .ref (z 6), .int (xs 1), .ref (z 7), .ref (z 8), .ref (z 9), .ref (z 10), .ref (z 11), .ref (z 12), .int (xs 2), .ref (z 13), .ref (z 14), .int (xs 3), .ref (z 15)])), (z 1, .inl (gI g, 461, .inl (upd f_13 (nI (dk_4 + 40)).toNatClampNeg 0))), (z 2, .inl (gI g, 7376, .inl f_10))] := hD
      obtain ⟨f_15, ef_15⟩ : ∃ zz_ : Nat → Int32, zz_ = upd f_13 (nI (dk_4 + 40)).toNatClampNeg 0 := ⟨_, rfl⟩
      rw [← ef_15] at hP hD
      have dz_16 : f_15 1 = nI dk_4 := by rw [ef_15, nI_clamp (by omega), pk_un (by omega)]; exact dz_14
      have hDf_15 : DI f_15 := DI.free (i := (dk_4 + 40)) (x := 0) hDf_13 (by rw [ef_15, nI_clamp (by omega)]) (by unfold dFree; omega)
      refine lv_aload_n hx hb dX12_hand_73 rfl (lv_at hl 1 rfl) ?_
      refine va_get (ci := 12) (C := RX12) (T := TX12) (N := 20) hx hb hts inlX12 hown hKW.1 hP 0 rfl rfl 0 (by decide) (hts _ wd_6_5) (fun _ h => h) rfl dX12_hand_74 ?_
      refine lv_iconst (v := 1) hx hb dX12_hand_77 (by decide) ?_
      refine lv_dup2_11 hx hb dX12_hand_78 rfl rfl ?_
      refine va_iald hx hb hKW.1 hP 1 0 rfl rfl (show ¬ _ by decide) dX12_hand_79 ?_
      refine k_top (y := nI dk_4) dz_16 ?_
      refine lv_iconst (v := 1) hx hb dX12_hand_80 (by decide) ?_
      refine lv_iadd hx hb dX12_hand_81 ?_
      refine k_top (y := nI (dk_4 + 1)) (nI_add dk_4 1) ?_
      refine va_iast hx hb hKW.1 hP hD hS 1 0 rfl rfl (show ¬ _ by decide) dX12_hand_82 (fun H locs hP hD hS => ?_)
      have hP : va_P g.1 vwCl [(z 0, .inr (12, [.ref (z 1), .ref (z 2), .int (nI q_9), .int (xs 0), .ref (z 3), .ref (z 4), .ref (z 5), .ref (z 6), .int (xs 1), .ref (z 7), .ref (z 8), .ref (z 9), .ref (z 10), .ref (z 11), .ref (z 12), .int (xs 2), .ref (z 13), .ref (z 14), .int (xs 3), .ref (z 15)])), (z 1, .inl (gI g, 461, .inl (upd f_15 1 (nI (dk_4 + 1))))), (z 2, .inl (gI g, 7376, .inl f_10))] H := hP
      have hD : va_D A [(z 0, .inr (12, [.ref (z 1), .ref (z 2), .int (nI q_9), .int (xs 0), .ref (z 3), .ref (z 4), .ref (z 5), .ref (z 6), .int (xs 1), .ref (z 7), .ref (z 8), .ref (z 9), .ref (z 10), .ref (z 11), .ref (z 12), .int (xs 2), .ref (z 13), .ref (z 14), .int (xs 3), .ref (z 15)])), (z 1, .inl (gI g, 461, .inl (upd f_15 1 (nI (dk_4 + 1))))), (z 2, .inl (gI g, 7376, .inl f_10))] := hD
      obtain ⟨f_17, ef_17⟩ : ∃ zz_ : Nat → Int32, zz_ = upd f_15 1 (nI (dk_4 + 1)) := ⟨_, rfl⟩
      rw [← ef_17] at hP hD
      have dz_18 : f_17 1 = nI (dk_4 + 1) := by rw [ef_17, pk_us]
      have hDf_17 : DI f_17 := DI.upd (i := 1) (x := nI (dk_4 + 1)) hDf_15 ef_17 (h0 := (fun q => absurd q (by omega))) (h1 := (fun _ => k_rgI (lo := 0) (hi := 7) (n := (dk_4 + 1)) (by decide) (by omega) (by omega))) (h2 := (fun q => absurd q (by omega))) (h5 := (fun q => absurd q (by omega))) (h6 := (fun q => absurd q (by omega))) (h7 := (fun q => absurd q (by omega))) (h10 := (fun q => absurd q (by omega))) (hf := (fun q q2 => False.elim (by omega))) (hn := (fun q q2 => False.elim (by omega))) (ht := (fun q q2 => False.elim (by omega))) (hl := (fun q q2 => False.elim (by omega))) (h8 := (by omega))
      refine lv_iload_n hx hb dX12_hand_83 rfl (lv_at hl 0 rfl) ?_
      exact k_iret (q_9, xs, f_17, f_10) [0, 1, 2] hx hb hr hlk hP hD hS (⟨hkk, hDf_17, hkW⟩) rfl rfl rfl (Nat.le_of_ble_eq_true rfl) (Nat.le_of_ble_eq_true rfl) dX12_hand_84
    · have c_5n : dk_4 = 7 := (k_eqI (a := dk_4) (b := 7) (by omega) (by omega)).mp c_5
      refine lv_aload_n hx hb dX12_hand_26 rfl (lv_at hl 0 rfl) ?_
      refine lv_iconst (v := 5) hx hb dX12_hand_27 (by decide) ?_
      refine k_Vi [0] [1, 2] 0 12 (wr := [(z 1, .inl (gI g, 461, .inl D)), (z 2, .inl (gI g, 7376, .inl Wk))]) hx hb hml hown hts hKW hP hD hS hA hl.1 (c_X12_finding_5 l g _ z kp xs ) rfl rfl rfl wd_10_15 wd_1_5 wd_10_12 wd_10_13 wd_10_14 yd_X12_finding ⟨(Nat.le_of_ble_eq_true rfl), (Nat.le_of_ble_eq_true rfl)⟩ rfl rfl rfl rfl (by decide) rfl (Nat.le_of_ble_eq_true rfl) dX12_hand_28 ⟨(Nat.le_of_ble_eq_true rfl), (Nat.le_of_ble_eq_true rfl)⟩ (fun r_19 u_20 H locs hw_21 hP hD hS => ?_)
      have hP : va_P g.1 vwCl [(z 1, .inl (gI g, 461, .inl D)), (z 2, .inl (gI g, 7376, .inl Wk)), (z 0, .inr (12, [.ref (z 1), .ref (z 2), .int (nI kp), .int u_20, .ref (z 3), .ref (z 4), .ref (z 5), .ref (z 6), .int (xs 1), .ref (z 7), .ref (z 8), .ref (z 9), .ref (z 10), .ref (z 11), .ref (z 12), .int (xs 2), .ref (z 13), .ref (z 14), .int (xs 3), .ref (z 15)]))] H := hP
      have hD : va_D A [(z 1, .inl (gI g, 461, .inl D)), (z 2, .inl (gI g, 7376, .inl Wk)), (z 0, .inr (12, [.ref (z 1), .ref (z 2), .int (nI kp), .int u_20, .ref (z 3), .ref (z 4), .ref (z 5), .ref (z 6), .int (xs 1), .ref (z 7), .ref (z 8), .ref (z 9), .ref (z 10), .ref (z 11), .ref (z 12), .int (xs 2), .ref (z 13), .ref (z 14), .int (xs 3), .ref (z 15)]))] := hD
      have hw_21 : r_19 = (-100005) := hw_21
      subst hw_21
      exact k_iret (kp, (fun kk_ => ([u_20, (xs 1), (xs 2), (xs 3)] : List Int32).getD kk_ 0), D, Wk) [2, 0, 1] hx hb hr hlk hP hD hS (⟨hkp, hDI, hWI⟩) rfl rfl rfl (Nat.le_of_ble_eq_true rfl) (Nat.le_of_ble_eq_true rfl) dX12_hand_31
  · refine lv_if_ne (tgt := 15) hx hb dX12_hand_6 (by decide) (fun c => absurd c (by decide)) (fun _ => ?_)
    refine lv_aload_n hx hb dX12_hand_9 rfl (lv_at hl 0 rfl) ?_
    refine lv_iconst (v := 1) hx hb dX12_hand_10 (by decide) ?_
    refine k_Vi [0] [1, 2] 0 12 (wr := [(z 1, .inl (gI g, 461, .inl D)), (z 2, .inl (gI g, 7376, .inl Wk))]) hx hb hml hown hts hKW hP hD hS hA hl.1 (c_X12_finding_1 l g _ z kp xs ) rfl rfl rfl wd_10_15 wd_1_5 wd_10_12 wd_10_13 wd_10_14 yd_X12_finding ⟨(Nat.le_of_ble_eq_true rfl), (Nat.le_of_ble_eq_true rfl)⟩ rfl rfl rfl rfl (by decide) rfl (Nat.le_of_ble_eq_true rfl) dX12_hand_11 ⟨(Nat.le_of_ble_eq_true rfl), (Nat.le_of_ble_eq_true rfl)⟩ (fun r_22 u_23 H locs hw_24 hP hD hS => ?_)
    have hP : va_P g.1 vwCl [(z 1, .inl (gI g, 461, .inl D)), (z 2, .inl (gI g, 7376, .inl Wk)), (z 0, .inr (12, [.ref (z 1), .ref (z 2), .int (nI kp), .int u_23, .ref (z 3), .ref (z 4), .ref (z 5), .ref (z 6), .int (xs 1), .ref (z 7), .ref (z 8), .ref (z 9), .ref (z 10), .ref (z 11), .ref (z 12), .int (xs 2), .ref (z 13), .ref (z 14), .int (xs 3), .ref (z 15)]))] H := hP
    have hD : va_D A [(z 1, .inl (gI g, 461, .inl D)), (z 2, .inl (gI g, 7376, .inl Wk)), (z 0, .inr (12, [.ref (z 1), .ref (z 2), .int (nI kp), .int u_23, .ref (z 3), .ref (z 4), .ref (z 5), .ref (z 6), .int (xs 1), .ref (z 7), .ref (z 8), .ref (z 9), .ref (z 10), .ref (z 11), .ref (z 12), .int (xs 2), .ref (z 13), .ref (z 14), .int (xs 3), .ref (z 15)]))] := hD
    have hw_24 : r_22 = (-100001) := hw_24
    subst hw_24
    exact k_iret (kp, (fun kk_ => ([u_23, (xs 1), (xs 2), (xs 3)] : List Int32).getD kk_ 0), D, Wk) [2, 0, 1] hx hb hr hlk hP hD hS (⟨hkp, hDI, hWI⟩) rfl rfl rfl (Nat.le_of_ble_eq_true rfl) (Nat.le_of_ble_eq_true rfl) dX12_hand_14
