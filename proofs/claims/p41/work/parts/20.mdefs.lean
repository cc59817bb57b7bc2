abbrev kRg (lo hi : Int) (x : Int32) : Prop := lo ≤ x.toInt ∧ x.toInt ≤ hi
abbrev LI (D : Nat → Int32) : Prop := (∀ k : Nat, (k : Int) < (D 8).toInt → (0 : Int) ≤ (D (137 + k)).toInt ∧ (D (137 + k)).toInt < (D 2).toInt) ∧ ∀ k l : Nat, k < l → (l : Int) < (D 8).toInt → D (137 + k) ≠ D (137 + l)
def DI (D : Nat → Int32) : Prop := kRg 0 5 (D 0) ∧ kRg 0 7 (D 1) ∧ kRg 0 10 (D 2) ∧ kRg 0 40 (D 5) ∧ kRg 0 40 (D 6) ∧ kRg 1 60 (D 7) ∧ kRg 0 10 (D 8) ∧ kRg 0 14 (D 10) ∧ (∀ j, j < 10 → kRg 0 60 (D (77 + j))) ∧ (∀ j, j < 10 → kRg 0 60 (D (87 + j))) ∧ (∀ j, j < 60 → kRg 0 8 (D (147 + j))) ∧ (∀ j, j < 14 → kRg 0 6 (D (207 + j)) ∨ kRg 10 54 (D (207 + j))) ∧ LI D
theorem k_rgN {lo hi : Nat} {x : Int32} (hh : hi < 2 ^ 30) (h : kRg lo hi x) : ∃ k : Nat, lo ≤ k ∧ k ≤ hi ∧ x = nI k := by
  obtain ⟨j, hj, e⟩ := k_ofr (x := x) (n := hi + 1) (by omega) ⟨by have := h.1; omega, by have := h.2; omega⟩
  refine ⟨j, ?_, by omega, e⟩
  have := h.1
  rw [e, k_nIi (by omega)] at this
  omega
theorem DI.n0 {D : Nat → Int32} (h : DI D) : ∃ k : Nat, 0 ≤ k ∧ k ≤ 5 ∧ D 0 = nI k := k_rgN (lo := 0) (hi := 5) (by decide) h.1
theorem DI.n1 {D : Nat → Int32} (h : DI D) : ∃ k : Nat, 0 ≤ k ∧ k ≤ 7 ∧ D 1 = nI k := k_rgN (lo := 0) (hi := 7) (by decide) h.2.1
theorem DI.n2 {D : Nat → Int32} (h : DI D) : ∃ k : Nat, 0 ≤ k ∧ k ≤ 10 ∧ D 2 = nI k := k_rgN (lo := 0) (hi := 10) (by decide) h.2.2.1
theorem DI.n5 {D : Nat → Int32} (h : DI D) : ∃ k : Nat, 0 ≤ k ∧ k ≤ 40 ∧ D 5 = nI k := k_rgN (lo := 0) (hi := 40) (by decide) h.2.2.2.1
theorem DI.n6 {D : Nat → Int32} (h : DI D) : ∃ k : Nat, 0 ≤ k ∧ k ≤ 40 ∧ D 6 = nI k := k_rgN (lo := 0) (hi := 40) (by decide) h.2.2.2.2.1
theorem DI.n7 {D : Nat → Int32} (h : DI D) : ∃ k : Nat, 1 ≤ k ∧ k ≤ 60 ∧ D 7 = nI k := k_rgN (lo := 1) (hi := 60) (by decide) h.2.2.2.2.2.1
theorem DI.n8 {D : Nat → Int32} (h : DI D) : ∃ k : Nat, 0 ≤ k ∧ k ≤ 10 ∧ D 8 = nI k := k_rgN (lo := 0) (hi := 10) (by decide) h.2.2.2.2.2.2.1
theorem DI.n10 {D : Nat → Int32} (h : DI D) : ∃ k : Nat, 0 ≤ k ∧ k ≤ 14 ∧ D 10 = nI k := k_rgN (lo := 0) (hi := 14) (by decide) h.2.2.2.2.2.2.2.1
theorem DI.first {D : Nat → Int32} (h : DI D) : ∀ j, j < 10 → kRg 0 60 (D (77 + j)) := h.2.2.2.2.2.2.2.2.1
theorem DI.last {D : Nat → Int32} (h : DI D) : ∀ j, j < 10 → kRg 0 60 (D (87 + j)) := h.2.2.2.2.2.2.2.2.2.1
theorem DI.need {D : Nat → Int32} (h : DI D) : ∀ j, j < 60 → kRg 0 8 (D (147 + j)) := h.2.2.2.2.2.2.2.2.2.2.1
theorem DI.txt {D : Nat → Int32} (h : DI D) : ∀ j, j < 14 → kRg 0 6 (D (207 + j)) ∨ kRg 10 54 (D (207 + j)) := h.2.2.2.2.2.2.2.2.2.2.2.1
theorem DI.li {D : Nat → Int32} (h : DI D) : LI D := h.2.2.2.2.2.2.2.2.2.2.2.2
/-- the places that the invariant says nothing of -/
abbrev dFree (i : Nat) : Prop := i = 3 ∨ i = 4 ∨ i = 9 ∨ (11 ≤ i ∧ i < 77) ∨ (97 ≤ i ∧ i < 137) ∨ 221 ≤ i
theorem DI.congr {D E : Nat → Int32} (h : DI D) (he : ∀ i, i < 221 → ¬ dFree i → E i = D i) : DI E := by
  have e : ∀ i, i < 221 → ¬ dFree i → E i = D i := he
  have c8 : E 8 = D 8 := e 8 (by decide) (by decide)
  have c2 : E 2 = D 2 := e 2 (by decide) (by decide)
  have h8 : (D 8).toInt ≤ 10 := h.2.2.2.2.2.2.1.2
  refine ⟨?_, ?_, ?_, ?_, ?_, ?_, ?_, ?_, fun j hj => ?_, fun j hj => ?_, fun j hj => ?_, fun j hj => ?_, fun k hk => ?_, fun k l hkl hl => ?_⟩
  · rw [e 0 (by decide) (by decide)]; exact h.1
  · rw [e 1 (by decide) (by decide)]; exact h.2.1
  · rw [c2]; exact h.2.2.1
  · rw [e 5 (by decide) (by decide)]; exact h.2.2.2.1
  · rw [e 6 (by decide) (by decide)]; exact h.2.2.2.2.1
  · rw [e 7 (by decide) (by decide)]; exact h.2.2.2.2.2.1
  · rw [c8]; exact h.2.2.2.2.2.2.1
  · rw [e 10 (by decide) (by decide)]; exact h.2.2.2.2.2.2.2.1
  · rw [e (77 + j) (by omega) (by omega)]; exact h.first j hj
  · rw [e (87 + j) (by omega) (by omega)]; exact h.last j hj
  · rw [e (147 + j) (by omega) (by omega)]; exact h.need j hj
  · rw [e (207 + j) (by omega) (by omega)]; exact h.txt j hj
  · rw [c8] at hk
    rw [c2, e (137 + k) (by omega) (by omega)]; exact h.li.1 k hk
  · rw [c8] at hl
    rw [e (137 + k) (by omega) (by omega), e (137 + l) (by omega) (by omega)]; exact h.li.2 k l hkl hl
theorem DI.free {D E : Nat → Int32} {i : Nat} {x : Int32} (h : DI D) (e : E = upd D i x) (hi : dFree i) : DI E := h.congr (fun j _ hf => by rw [e, pk_un (fun q => hf (by rw [q]; exact hi))])
theorem k_rgI {lo hi n : Nat} (hh : hi < 2 ^ 30) (h1 : lo ≤ n) (h2 : n ≤ hi) : kRg lo hi (nI n) := by
  unfold kRg
  rw [k_nIi (by omega)]
  omega
theorem DI.upd {D E : Nat → Int32} {i : Nat} {x : Int32} (h : DI D) (e : E = upd D i x) (h0 : i = 0 → kRg 0 5 x) (h1 : i = 1 → kRg 0 7 x) (h2 : i = 2 → (D 2).toInt ≤ x.toInt ∧ x.toInt ≤ 10) (h5 : i = 5 → kRg 0 40 x) (h6 : i = 6 → kRg 0 40 x) (h7 : i = 7 → kRg 1 60 x) (h8 : ¬ i = 8) (h10 : i = 10 → kRg 0 14 x) (hf : 77 ≤ i → i < 97 → kRg 0 60 x) (hn : 147 ≤ i → i < 207 → kRg 0 8 x) (ht : 207 ≤ i → i < 221 → kRg 0 6 x ∨ kRg 10 54 x) (hl : 137 ≤ i → i < 147 → (D 8).toInt ≤ (i : Int) - 137) : DI E := by
  have es : E i = x := by rw [e, pk_us]
  have en : ∀ j, ¬ j = i → E j = D j := fun j hj => by rw [e, pk_un hj]
  have c8 : E 8 = D 8 := en 8 (fun q => h8 q.symm)
  have c2 : (D 2).toInt ≤ (E 2).toInt := by
    by_cases q : 2 = i
    · subst q; rw [es]; exact (h2 rfl).1
    · rw [en 2 q]; exact Int.le_refl _
  have g8 : (D 8).toInt ≤ 10 := h.2.2.2.2.2.2.1.2
  have lis : ∀ k : Nat, (k : Int) < (D 8).toInt → E (137 + k) = D (137 + k) := fun k hk => en _ (fun q => by have := hl (by omega) (by omega); omega)
  refine ⟨?_, ?_, ?_, ?_, ?_, ?_, ?_, ?_, fun j hj => ?_, fun j hj => ?_, fun j hj => ?_, fun j hj => ?_, fun k hk => ?_, fun k l hkl hl => ?_⟩
  · by_cases q : 0 = i
    · subst q; rw [es]; exact h0 rfl
    · rw [en 0 q]; exact h.1
  · by_cases q : 1 = i
    · subst q; rw [es]; exact h1 rfl
    · rw [en 1 q]; exact h.2.1
  · by_cases q : 2 = i
    · subst q; rw [es]; exact ⟨Int.le_trans h.2.2.1.1 (h2 rfl).1, (h2 rfl).2⟩
    · rw [en 2 q]; exact h.2.2.1
  · by_cases q : 5 = i
    · subst q; rw [es]; exact h5 rfl
    · rw [en 5 q]; exact h.2.2.2.1
  · by_cases q : 6 = i
    · subst q; rw [es]; exact h6 rfl
    · rw [en 6 q]; exact h.2.2.2.2.1
  · by_cases q : 7 = i
    · subst q; rw [es]; exact h7 rfl
    · rw [en 7 q]; exact h.2.2.2.2.2.1
  · rw [c8]; exact h.2.2.2.2.2.2.1
  · by_cases q : 10 = i
    · subst q; rw [es]; exact h10 rfl
    · rw [en 10 q]; exact h.2.2.2.2.2.2.2.1
  · by_cases q : 77 + j = i
    · subst q; rw [es]; exact hf (by omega) (by omega)
    · rw [en _ q]; exact h.first j hj
  · by_cases q : 87 + j = i
    · subst q; rw [es]; exact hf (by omega) (by omega)
    · rw [en _ q]; exact h.last j hj
  · by_cases q : 147 + j = i
    · subst q; rw [es]; exact hn (by omega) (by omega)
    · rw [en _ q]; exact h.need j hj
  · by_cases q : 207 + j = i
    · subst q; rw [es]; exact ht (by omega) (by omega)
    · rw [en _ q]; exact h.txt j hj
  · rw [c8] at hk
    rw [lis k hk]
    exact ⟨(h.li.1 k hk).1, Int.lt_of_lt_of_le (h.li.1 k hk).2 c2⟩
  · rw [c8] at hl
    rw [lis k (by omega), lis l hl]; exact h.li.2 k l hkl hl
