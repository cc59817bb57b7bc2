/-! THE CLAIM OUT OF ONE WALK OF THE LAW'S BODY. Your part is whole_start (and what it stands on); all else here is the same for every law, but numbers. -/
def R_law : String := "SmallRoomsLaw"
def lw_P (b : Addr) (xs : List Int32) (args : Array Value) (s : State) : Prop := args = #[.ref b] ∧ s.IntsAt b xs ∧ xs.length ≤ 3072 ∧ (Jvm.Cond.and given_1 narrow_1).before args s = true
def lw_Q (_ : Array Value) (s : State) (o : Outcome) (t : State) : Prop := o = .returned (some (.int 1)) ∧ Framed s o t [] 600000 7302250
def lw_Z (below : List Frame) (a : Array Value) (s : State) : State → Prop := fun t => ∃ o, t.status = .running ∧ Ended t below o ∧ lw_Q a s o t
/-- the law's own end, with 1 on the stack, nothing written that was there before, its room as the claim has it -/
theorem lw_ret {p : Program} {l : Launch} {e : Env} {s : State} {m : MethodId} {below : List Frame} {meth : Method} {c : Code} {b : Nat} (hx : p.tables.exec = Jvm.exec) (hb : c.code = code) (hr : meth.sig.returnType = ret) (hlocks : meth.locks = false) {pc : Nat} {H : Heap} {ls : Array Slot} (hdg : decode code pc = .ok (.ireturn, 1)) : W p l e room_1 s m #[Value.ref b] below meth c H [] 600000 7302250 (lw_Z below #[Value.ref b] s) (F0 m pc ls [.int 1]) := by
  intro T hT X
  obtain ⟨fs, hret, hrun, hended, hW, hframe⟩ := X.leave (v := some (.int 1)) (hlocks := hlocks) (fun h => by rw [hr] at h; cases h)
  have hmeth' : T.vm.method? m = some meth := X.method'
  refine ⟨T.setFrames fs, ?_, .returned (some (.int 1)), hrun, hended, rfl, ⟨_, rfl⟩, hW, hframe⟩
  jvm_step X.here [X.here.top, hx, hb, hdg, hmeth', hr, ret, narrow_b1]
  (try refine ⟨rfl, ?_⟩); (try refine ⟨rfl, ?_⟩)
  first | (intro acts; rw [hret _ acts rfl rfl rfl]) | rw [hret _ _ rfl rfl rfl]
  exact Steps.refl _
/-- what holds at the law's entry: the machine, the code, the tables' words (any of lw_tbl by 'hts w (by decide +kernel)'), the script of L ints xs at the cell b, what the Statement gives of the start (any of its parts by flat_of_before) -/
def lw_At (p : Program) (s : State) (m : MethodId) (meth : Method) (c : Code) (b L : Nat) (xs : Nat → Int32) : Prop :=
  p.tables.exec = Jvm.exec ∧ c.code = code ∧ meth.sig.returnType = ret ∧ c.maxLocals = 4 ∧ s.vm.findClass R_law = some m.cls ∧ (∀ w ∈ lw_tbl, w.before #[Value.ref b] s = true) ∧ va_X b L xs s s.heap ∧ b < s.heap.size ∧ meth.locks = false ∧ (Jvm.Cond.and given_1 narrow_1).before #[Value.ref b] s = true
def qf (a : Nat) (u : Nat → Nat) : Nat → Nat := fun k => match k with | 0 => a | k + 1 => u (k + 1)
theorem k_arr {s : State} {args : Array Value} {ty : FieldType} (h : (Cond.arrayClass ty).before args s = true) (hp : ∀ cA : ClassId, s.vm.findClass ("[" ++ ty.toString) = some cA → va_RA s cA ty) : ∃ cA : ClassId, ArrOfT s cA ty ∧ va_RA s cA ty := by
  obtain ⟨cA, kA, comp, h1, h2, h3⟩ := Cond.arrayClass_spec h
  exact ⟨cA, fun n z => ⟨fun k h => (by cases h), kA, h2, comp, h3⟩, hp cA h1⟩
theorem k_arrO {s : State} {args : Array Value} {C : String} (h : (Cond.arrayOver (.object C)).before args s = true) : ∃ cA : ClassId, ArrOfT s cA (.object C) ∧ va_RA s cA (.object C) := by
  obtain ⟨comp, cA, kA, hcomp, hidx, hkA, hkindA, hnameA⟩ := Cond.arrayOver_spec h
  exact ⟨cA, fun n z => ⟨fun k h => (by cases h), kA, hkA, comp, hkindA⟩, kA, comp, hkA, hkindA, hcomp, hnameA⟩
set_option maxHeartbeats 8000000 in
set_option maxRecDepth 100000 in
theorem lw_st0 {s : State} {b : Nat} {A : Nat → Prop} (hts0 : ∀ w ∈ lw_tbl, w.before #[Value.ref b] s = true) (hgv : (Jvm.Cond.and given_1 narrow_1).before #[Value.ref b] s = true) (hA : ∀ a : Nat, a < s.heap.size → ¬ A a) : ∃ w0 : Nat, va_Z "SmallRooms" "WORTH_OF_KIND" "[I" (.ref w0) A s s.heap ∧ kXs w0 4 (fun j => ([2, 2, 3, 0] : List Int32).getD j 0) s s.heap ∧ w0 < s.heap.size ∧ ¬ A w0 := by
  have hs := flat_of_before _ hgv
  have harr : (Cond.arrayOf (.static "SmallRooms" "WORTH_OF_KIND" "[I") .int).before #[Value.ref b] s = true := hs _ (by decide +kernel)
  have hlen : (Cond.eq (.length (.static "SmallRooms" "WORTH_OF_KIND" "[I")) (.int 4)).before #[Value.ref b] s = true := hs _ (by decide +kernel)
  have h0 : (Cond.eq (.elem (.static "SmallRooms" "WORTH_OF_KIND" "[I") (.int 0)) (.int 2)).before #[Value.ref b] s = true := hs _ (by decide +kernel)
  have h1 : (Cond.eq (.elem (.static "SmallRooms" "WORTH_OF_KIND" "[I") (.int 1)) (.int 2)).before #[Value.ref b] s = true := hs _ (by decide +kernel)
  have h2 : (Cond.eq (.elem (.static "SmallRooms" "WORTH_OF_KIND" "[I") (.int 2)) (.int 3)).before #[Value.ref b] s = true := hs _ (by decide +kernel)
  have h3 : (Cond.eq (.elem (.static "SmallRooms" "WORTH_OF_KIND" "[I") (.int 3)) (.int 0)).before #[Value.ref b] s = true := hs _ (by decide +kernel)
  obtain ⟨w0, hv, cell, c1, c2, c3, c4, c5, c6, c7⟩ := va_Tof (tm := (.static "SmallRooms" "WORTH_OF_KIND" "[I")) (ty := .int) (N := 4) (f := fun j => Value.int ((fun j => ([2, 2, 3, 0] : List Int32).getD j 0) j)) (A := A) (by decide) harr (va_eqt hlen) (fun j hj => by
    match j, hj with
    | 0, _ => exact va_eqt h0
    | 1, _ => exact va_eqt h1
    | 2, _ => exact va_eqt h2
    | 3, _ => exact va_eqt h3
    | j + 4, hj => exact absurd hj (by omega)) hA
  exact ⟨w0, va_Zof (hts0 _ (tbi_3 _ (List.mem_of_getElem? (i := 166) rfl))) (hts0 _ (tbi_1 _ (List.mem_of_getElem? (i := 1) rfl))) hv hA, ⟨cell, c1, c2, c3, c4, c6⟩, (Array.getElem?_eq_some_iff.mp c1).1, c7⟩
set_option maxHeartbeats 8000000 in
set_option maxRecDepth 100000 in
theorem lw_st1 {s : State} {b : Nat} {A : Nat → Prop} (hts0 : ∀ w ∈ lw_tbl, w.before #[Value.ref b] s = true) (hgv : (Jvm.Cond.and given_1 narrow_1).before #[Value.ref b] s = true) (hA : ∀ a : Nat, a < s.heap.size → ¬ A a) : ∃ w0 : Nat, va_Z "SmallRooms$Planner" "DIGIT_OF_HAND" "[I" (.ref w0) A s s.heap ∧ kXs w0 7 (fun j => ([46656, 7776, 1296, 216, 36, 6, 1] : List Int32).getD j 0) s s.heap ∧ w0 < s.heap.size ∧ ¬ A w0 := by
  have hs := flat_of_before _ hgv
  have harr : (Cond.arrayOf (.static "SmallRooms$Planner" "DIGIT_OF_HAND" "[I") .int).before #[Value.ref b] s = true := hs _ (by decide +kernel)
  have hlen : (Cond.eq (.length (.static "SmallRooms$Planner" "DIGIT_OF_HAND" "[I")) (.int 7)).before #[Value.ref b] s = true := hs _ (by decide +kernel)
  have h0 : (Cond.eq (.elem (.static "SmallRooms$Planner" "DIGIT_OF_HAND" "[I") (.int 0)) (.int 46656)).before #[Value.ref b] s = true := hs _ (by decide +kernel)
  have h1 : (Cond.eq (.elem (.static "SmallRooms$Planner" "DIGIT_OF_HAND" "[I") (.int 1)) (.int 7776)).before #[Value.ref b] s = true := hs _ (by decide +kernel)
  have h2 : (Cond.eq (.elem (.static "SmallRooms$Planner" "DIGIT_OF_HAND" "[I") (.int 2)) (.int 1296)).before #[Value.ref b] s = true := hs _ (by decide +kernel)
  have h3 : (Cond.eq (.elem (.static "SmallRooms$Planner" "DIGIT_OF_HAND" "[I") (.int 3)) (.int 216)).before #[Value.ref b] s = true := hs _ (by decide +kernel)
  have h4 : (Cond.eq (.elem (.static "SmallRooms$Planner" "DIGIT_OF_HAND" "[I") (.int 4)) (.int 36)).before #[Value.ref b] s = true := hs _ (by decide +kernel)
  have h5 : (Cond.eq (.elem (.static "SmallRooms$Planner" "DIGIT_OF_HAND" "[I") (.int 5)) (.int 6)).before #[Value.ref b] s = true := hs _ (by decide +kernel)
  have h6 : (Cond.eq (.elem (.static "SmallRooms$Planner" "DIGIT_OF_HAND" "[I") (.int 6)) (.int 1)).before #[Value.ref b] s = true := hs _ (by decide +kernel)
  obtain ⟨w0, hv, cell, c1, c2, c3, c4, c5, c6, c7⟩ := va_Tof (tm := (.static "SmallRooms$Planner" "DIGIT_OF_HAND" "[I")) (ty := .int) (N := 7) (f := fun j => Value.int ((fun j => ([46656, 7776, 1296, 216, 36, 6, 1] : List Int32).getD j 0) j)) (A := A) (by decide) harr (va_eqt hlen) (fun j hj => by
    match j, hj with
    | 0, _ => exact va_eqt h0
    | 1, _ => exact va_eqt h1
    | 2, _ => exact va_eqt h2
    | 3, _ => exact va_eqt h3
    | 4, _ => exact va_eqt h4
    | 5, _ => exact va_eqt h5
    | 6, _ => exact va_eqt h6
    | j + 7, hj => exact absurd hj (by omega)) hA
  exact ⟨w0, va_Zof (hts0 _ (tbi_3 _ (List.mem_of_getElem? (i := 217) rfl))) (hts0 _ (tbi_1 _ (List.mem_of_getElem? (i := 10) rfl))) hv hA, ⟨cell, c1, c2, c3, c4, c6⟩, (Array.getElem?_eq_some_iff.mp c1).1, c7⟩
set_option maxHeartbeats 8000000 in
set_option maxRecDepth 100000 in
theorem lw_kw {s : State} {b : Nat} {A : Nat → Prop} (hts0 : ∀ w ∈ lw_tbl, w.before #[Value.ref b] s = true) (hgv : (Jvm.Cond.and given_1 narrow_1).before #[Value.ref b] s = true) (hA : ∀ a : Nat, a < s.heap.size → ¬ A a) : ∃ g : kG, kKW g A s := by
  have hts : ∀ w ∈ wsL_law, w.before #[Value.ref b] s = true := fun w h => hts0 w (wsL_law_in w h)
  obtain ⟨c0, i0, hn0⟩ := u_known (C := RX0) (T := TX0) (N := 12) (n := 12) hts inlX0 (hts _ wd_3_0)
  obtain ⟨c1, i1, hn1⟩ := u_known (C := RX1) (T := TX1) (N := 4) (n := 4) hts inlX1 (hts _ wd_2_20)
  obtain ⟨c2, i2, hn2⟩ := u_known (C := RX2) (T := TX2) (N := 3) (n := 3) hts inlX2 (hts _ wd_1_17)
  obtain ⟨c3, i3, hn3⟩ := u_known (C := RX3) (T := TX3) (N := 4) (n := 4) hts inlX3 (hts _ wd_3_4)
  obtain ⟨c4, i4, hn4⟩ := u_known (C := RX4) (T := TX4) (N := 11) (n := 11) hts inlX4 (hts _ wd_1_13)
  obtain ⟨c5, i5, hn5⟩ := u_known (C := RX5) (T := TX5) (N := 5) (n := 5) hts inlX5 (hts _ wd_2_1)
  obtain ⟨c6, i6, hn6⟩ := u_known (C := RX6) (T := TX6) (N := 3) (n := 3) hts inlX6 (hts _ wd_3_9)
  obtain ⟨c7, i7, hn7⟩ := u_known (C := RX7) (T := TX7) (N := 2) (n := 2) hts inlX7 (hts _ wd_1_21)
  obtain ⟨c8, i8, hn8⟩ := u_known (C := RX8) (T := TX8) (N := 4) (n := 4) hts inlX8 (hts _ wd_2_16)
  obtain ⟨c9, i9, hn9⟩ := u_known (C := RX9) (T := TX9) (N := 3) (n := 3) hts inlX9 (hts _ wd_2_10)
  obtain ⟨c10, i10, hn10⟩ := u_known (C := RX10) (T := TX10) (N := 1) (n := 1) hts inlX10 (hts _ wd_2_5)
  obtain ⟨c11, i11, hn11⟩ := u_known (C := RX11) (T := TX11) (N := 7) (n := 7) hts inlX11 (hts _ wd_1_1)
  obtain ⟨c12, i12, hn12⟩ := u_known (C := RX12) (T := TX12) (N := 20) (n := 20) hts inlX12 (hts _ wd_1_4)
  obtain ⟨cI, hI⟩ := k_arr (hts _ wd_3_12) (fun _ h => h)
  obtain ⟨cJ, hJ⟩ := k_arr (hts _ wd_5_9) (fun _ h => h)
  obtain ⟨cZ, hZ⟩ := k_arr (hts _ wd_6_14) (fun _ h => h)
  obtain ⟨cN, hN⟩ := k_arrO (hts0 _ aoN_in)
  obtain ⟨cS, hSh⟩ := k_arrO (hts0 _ aoS_in)
  obtain ⟨w0, z0, y0, l0, n0⟩ := lw_st0 (A := A) hts0 hgv hA
  obtain ⟨w1, z1, y1, l1, n1⟩ := lw_st1 (A := A) hts0 hgv hA
  refine ⟨((fun k => match k with | 0 => c0 | 1 => c1 | 2 => c2 | 3 => c3 | 4 => c4 | 5 => c5 | 6 => c6 | 7 => c7 | 8 => c8 | 9 => c9 | 10 => c10 | 11 => c11 | _ => c12, fun k => match k with | 0 => i0 | 1 => i1 | 2 => i2 | 3 => i3 | 4 => i4 | 5 => i5 | 6 => i6 | 7 => i7 | 8 => i8 | 9 => i9 | 10 => i10 | 11 => i11 | _ => i12), (cI, cJ, cZ, cN, cS)), ⟨?_, ?_⟩, ?_, va_AO.of (hts0 _ aoN_in), va_AO.of (hts0 _ aoS_in), w0, w1, _, _, z0, y0, l0, n0, z1, y1, l1, n1, fun j hj => ?_⟩
  · intro k q hq
    match k, hq with
    | 0, hq => cases hq; exact hn0
    | 1, hq => cases hq; exact hn1
    | 2, hq => cases hq; exact hn2
    | 3, hq => cases hq; exact hn3
    | 4, hq => cases hq; exact hn4
    | 5, hq => cases hq; exact hn5
    | 6, hq => cases hq; exact hn6
    | 7, hq => cases hq; exact hn7
    | 8, hq => cases hq; exact hn8
    | 9, hq => cases hq; exact hn9
    | 10, hq => cases hq; exact hn10
    | 11, hq => cases hq; exact hn11
    | 12, hq => cases hq; exact hn12
    | k + 13, hq => simp [vwCl] at hq
  · intro k q hq
    match k, hq with
    | 0, hq => cases hq; exact hI
    | 1, hq => cases hq; exact hJ
    | 2, hq => cases hq; exact hZ
    | 3, hq => cases hq; exact hN
    | 4, hq => cases hq; exact hSh
    | k + 5, hq => simp [kT] at hq
  · intro w hw
    rcases kNW_each w hw with ⟨a, i, x, y, rfl⟩ | ⟨a, i, b, n, d, y, rfl⟩
    · exact va_Nw.of rfl (hts0 _ (nest_in _ hw))
    · exact va_Nw.of rfl (hts0 _ (nest_in _ hw))
  · match j, hj with
    | 0, _ => decide
    | 1, _ => decide
    | 2, _ => decide
    | 3, _ => decide
    | 4, _ => decide
    | 5, _ => decide
    | 6, _ => decide
    | j + 7, hj => exact absurd hj (by omega)

abbrev kInv (g : kG) (nn : Nat → Nat) (F : Nat → Nat → Int32) (hnx : Nat) (kf : Nat → Option Nat) (R : va_W) (sn : Nat → Nat) (D : Nat → Int32) (kp : Nat) (Wk Z sb B : Nat → Int32) (SF : Nat → Nat → Int32) (M : Nat → Int32) : Prop := NI nn F ∧ hnx < 16 ∧ HI g kf R ∧ (sn 0 ≤ 60 ∧ sn 1 ≤ 60 ∧ sn 2 ≤ 60 ∧ sn 3 ≤ 60) ∧ DI D ∧ kp ≤ 16 ∧ WI Wk kp ∧ (∀ j, j < 4 → Z j = nI (sn j) ∧ sn j ≤ 60) ∧ (∀ j, j < 4 → B j = sb j) ∧ ∀ j k, j < 4 → k < 60 → kSF M j k = SF j k
theorem k_in4 {x : Int32} (h : (0 : Int) ≤ x.toInt ∧ x.toInt ≤ 3) : x.toNatClampNeg < 4 := by
  obtain ⟨j, hj, e⟩ := k_ofr (x := x) (n := 4) (by decide) ⟨h.1, by have := h.2; omega⟩
  rw [e, nI_clamp (by omega)]; exact hj
theorem k_alT {x : Int32} {sb B : Nat → Int32} {sn : Nat → Nat} {SF : Nat → Nat → Int32} {M : Nat → Int32} (hn : ∀ j, j < 4 → sn j ≤ 60) (hB : ∀ j, j < 4 → B j = sb j) (hM : ∀ j k, j < 4 → k < 60 → kSF M j k = SF j k) : aText x sb sn SF = aText x B sn (kSF M) := by
  unfold aText
  by_cases h : (0 : Int) ≤ x.toInt ∧ x.toInt ≤ 3
  · rw [if_pos h, if_pos h]
    have h4 := k_in4 h
    unfold aT1
    rw [hB _ h4]
    by_cases h0 : sb x.toNatClampNeg = 0
    · rw [if_pos h0, if_pos h0]
    · rw [if_neg h0, if_neg h0]
      by_cases h14 : 14 < sn x.toNatClampNeg
      · rw [if_pos h14, if_pos h14]
      · rw [if_neg h14, if_neg h14]
        by_cases ha : ∀ k, k < sn x.toNatClampNeg → kSG (SF x.toNatClampNeg k)
        · rw [if_pos ha, if_pos (fun k hk => by rw [hM _ k h4 (by omega)]; exact ha k hk)]
        · rw [if_neg ha, if_neg (fun q => ha (fun k hk => by rw [← hM _ k h4 (by omega)]; exact q k hk))]
  · rw [if_neg h, if_neg h]
theorem k_alPe {x y : Int32} {sb B : Nat → Int32} {sn : Nat → Nat} (hB : ∀ j, j < 4 → B j = sb j) : aPut x y sb sn = aPut x y B sn := by
  unfold aPut
  by_cases h : (0 : Int) ≤ x.toInt ∧ x.toInt ≤ 3
  · rw [if_pos h, if_pos h, hB _ (k_in4 h)]
  · rw [if_neg h, if_neg h]
theorem k_alCe {s fr t tt n : Int32} {sb B : Nat → Int32} {sn : Nat → Nat} (hB : ∀ j, j < 4 → B j = sb j) : aCopy s fr t tt n sb sn = aCopy s fr t tt n B sn := by
  unfold aCopy
  by_cases h : ((0 : Int) ≤ s.toInt ∧ s.toInt ≤ 3) ∧ ((0 : Int) ≤ t.toInt ∧ t.toInt ≤ 3)
  · rw [if_pos h, if_pos h, hB _ (k_in4 h.1), hB _ (k_in4 h.2)]
  · rw [if_neg h, if_neg h]
theorem k_nIj {a b : Nat} (ha : a < 2 ^ 31) (hb : b < 2 ^ 31) (e : nI a = nI b) : a = b := (k_eqI ha hb).mp e
theorem k_alP {x y w : Int32} {sb B : Nat → Int32} {sn : Nat → Nat} {SF SF1 : Nat → Nat → Int32} {M M1 : Nat → Int32} (hB : ∀ j, j < 4 → B j = sb j) (hM : ∀ j k, j < 4 → k < 60 → kSF M j k = SF j k) (h1 : PutR x y w sb sn SF SF1) (h2 : PutR x y w B sn (kSF M) (kSF M1)) : ∀ j k, j < 4 → k < 60 → kSF M1 j k = SF1 j k := by
  intro j k hj hk
  have he := k_alPe (x := x) (y := y) (sn := sn) hB
  rcases h1 with ⟨a1, js, ji, b1, b2, b3, b4, b5⟩ | ⟨a1, b1⟩
  · rcases h2 with ⟨a2, ks, ki, d1, d2, d3, d4, d5⟩ | ⟨a2, d1⟩
    · have e1 : js = ks := k_nIj (by omega) (by omega) (b3.symm.trans d3)
      have e2 : ji = ki := k_nIj (by omega) (by omega) (b4.symm.trans d4)
      subst e1; subst e2
      rw [d5 j k hj hk, b5 j k hj hk, hM j k hj hk, hB js b1]
    · exact absurd (he.symm.trans a1) a2
  · rcases h2 with ⟨a2, _⟩ | ⟨a2, d1⟩
    · exact absurd (he.trans a2) a1
    · rw [d1 j k hj hk, b1 j k hj hk]; exact hM j k hj hk
theorem k_neg {n : Nat} {x : Int32} (hn : n < 2 ^ 31) (h : x.toInt < 0) (e : x = nI n) : False := by
  rw [e, k_nIi hn] at h
  omega
theorem k_alS {x y w : Int32} {sb sb1 B B1 Z1 : Nat → Int32} {sn sn1 sm1 : Nat → Nat} {SF SF1 : Nat → Nat → Int32} {M M1 : Nat → Int32} (hB : ∀ j, j < 4 → B j = sb j) (hM : ∀ j k, j < 4 → k < 60 → kSF M j k = SF j k) (h1 : ShR x y w sb sb1 sn sn1 SF SF1) (h2 : ShR x y w B B1 sn sm1 (kSF M) (kSF M1)) (hZ : ∀ j, j < 4 → Z1 j = nI (sm1 j) ∧ sm1 j ≤ 60) : (∀ j, j < 4 → Z1 j = nI (sn1 j) ∧ sn1 j ≤ 60) ∧ (∀ j, j < 4 → B1 j = sb1 j) ∧ ∀ j k, j < 4 → k < 60 → kSF M1 j k = SF1 j k := by
  have key : (∀ j, j < 4 → sm1 j = sn1 j) ∧ (∀ j, j < 4 → B1 j = sb1 j) ∧ ∀ j k, j < 4 → k < 60 → kSF M1 j k = SF1 j k := by
    rcases h1 with ⟨js, nj, b1, b2, b3, b4, b5, b6, b7, b8⟩ | ⟨a1, b6, b7, b8⟩
    · rcases h2 with ⟨ks, mj, d1, d2, d3, d4, d5, d6, d7, d8⟩ | ⟨a2, _⟩
      · have e1 : js = ks := k_nIj (by omega) (by omega) (b3.symm.trans d3)
        have e2 : nj = mj := k_nIj (by omega) (by omega) (b5.symm.trans d5)
        subst e1; subst e2
        refine ⟨fun j hj => by rw [d7 j hj, b7 j hj], fun j hj => by rw [d6 j hj, b6 j hj, hB j hj], fun j k hj hk => by rw [d8 j k hj hk, b8 j k hj hk, hM j k hj hk]⟩
      · exact False.elim (k_neg (by omega) a2 b5)
    · rcases h2 with ⟨ks, mj, d1, d2, d3, d4, d5, d6, d7, d8⟩ | ⟨a2, d6, d7, d8⟩
      · exact False.elim (k_neg (by omega) a1 d5)
      · exact ⟨fun j hj => by rw [d7 j hj, b7 j hj], fun j hj => by rw [d6 j hj, b6 j hj, hB j hj], fun j k hj hk => by rw [d8 j k hj hk, b8 j k hj hk]; exact hM j k hj hk⟩
  exact ⟨fun j hj => by rw [← key.1 j hj]; exact hZ j hj, key.2⟩
theorem k_alC {s fr t tt n : Int32} {sb B : Nat → Int32} {sn : Nat → Nat} {SF SF1 : Nat → Nat → Int32} {M M1 : Nat → Int32} (hB : ∀ j, j < 4 → B j = sb j) (hM : ∀ j k, j < 4 → k < 60 → kSF M j k = SF j k) (h1 : CpR s fr t tt n sb sn SF SF1) (h2 : CpR s fr t tt n B sn (kSF M) (kSF M1)) : ∀ j k, j < 4 → k < 60 → kSF M1 j k = SF1 j k := by
  intro j k hj hk
  have he := k_alCe (s := s) (fr := fr) (t := t) (tt := tt) (n := n) (sn := sn) hB
  rcases h1 with ⟨js, jf, jt, ju, jn, b1, b2, b3, b4, b5, b6, b7, b8, b9, b10, b11⟩ | ⟨a1, b1⟩
  · rcases h2 with ⟨ks, kf, kt, ku, kn, d1, d2, d3, d4, d5, d6, d7, d8, d9, d10, d11⟩ | ⟨a2, d1⟩
    · have e1 : js = ks := k_nIj (by omega) (by omega) (b5.symm.trans d5)
      have e2 : jf = kf := k_nIj (by omega) (by omega) (b6.symm.trans d6)
      have e3 : jt = kt := k_nIj (by omega) (by omega) (b7.symm.trans d7)
      have e4 : ju = ku := k_nIj (by omega) (by omega) (b8.symm.trans d8)
      have e5 : jn = kn := k_nIj (by omega) (by omega) (b9.symm.trans d9)
      subst e1; subst e2; subst e3; subst e4; subst e5
      rw [d11 j k hj hk, b11 j k hj hk]
      by_cases q : j = jt ∧ ju ≤ k ∧ k < ju + jn
      · rw [if_pos q, if_pos q, hM js _ b1 (by omega)]
      · rw [if_neg q, if_neg q, hM j k hj hk]
    · rw [← he, b10] at a2
      exact False.elim (k_neg (by omega) a2 b9)
  · rcases h2 with ⟨ks, kf, kt, ku, kn, d1, d2, d3, d4, d5, d6, d7, d8, d9, d10, d11⟩ | ⟨a2, d1⟩
    · rw [he, d10] at a1
      exact False.elim (k_neg (by omega) a1 d9)
    · rw [d1 j k hj hk, b1 j k hj hk]; exact hM j k hj hk

def kTl (p : Program) (l : Launch) (e : Env) (s : State) (m : MethodId) (below : List Frame) (meth : Method) (c : Code) (g : kG) (A : Nat → Prop) (b i ce sl : Nat) (q z : Nat → Nat) : Prop := ∀ (nn : Nat → Nat) (v : Nat → Int32) (F : Nat → Nat → Int32) (fn : Int32) (hnx : Nat) (hc : Int32) (kf : Nat → Option Nat) (rf : Nat → Int32) (rr : Nat → Int64) (l1 : Nat → Int32) (l2 : Nat → Int32) (l3 : Nat → Int32) (xab : Int32) (xtr : Int32) (sf0 : Nat → Int32) (sb : Nat → Int32) (sn : Nat → Nat) (SF : Nat → Nat → Int32) (R : va_W) (kp : Nat) (xs : Nat → Int32) (D : Nat → Int32) (Wk : Nat → Int32) (B : Nat → Int32) (Z : Nat → Int32) (M : Nat → Int32) (pf : Nat → Int32) (cf : Nat → Int32) (f0 : Nat → Int32) (f1 : Nat → Int32) (f2 : Nat → Int32) (f3 : Nat → Int32) (f4 : Nat → Int32) (T : Nat → Int32) (Bg : Nat → Int32) (Cf : Nat → Int32) (hI : kInv g nn F hnx kf R sn D kp Wk Z sb B SF M) (H : Heap) (locs : List Loc) (hP : va_P g.1 vwCl ((q 0, .inr (11, [.ref (q 1), .ref (q 29), .ref (q 31), .ref (q 34), .ref (q 38), .ref (q 40), .int fn])) :: (q 1, .inr (4, [.ref (q 2), .ref (q 6), .ref (q 9), .ref (q 18), .ref (q 22), .ref (q 26), .ref (q 28), .int (v 4), .int (v 5), .int (nI (nn 7)), .int (v 6)])) :: (q 2, .inr (8, [.int (nI (nn 0)), .ref (q 3), .ref (q 4), .ref (q 5)])) :: (q 3, .inl (gI g, 5, .inl (F 0))) :: (q 4, .inl (gI g, 5, .inl (F 1))) :: (q 5, .inl (gI g, 5, .inl (F 2))) :: (q 6, .inr (1, [.int (nI (nn 1)), .ref (q 7), .ref (q 8), .int (v 0)])) :: (q 7, .inl (gI g, 7, .inl (F 3))) :: (q 8, .inl (gI g, 7, .inl (F 4))) :: (q 9, .inr (0, [.int (nI (nn 2)), .ref (q 10), .ref (q 11), .ref (q 12), .ref (q 13), .ref (q 14), .ref (q 15), .ref (q 16), .int (v 1), .int (v 2), .int (nI (nn 3)), .ref (q 17)])) :: (q 10, .inl (gI g, 10, .inl (F 5))) :: (q 11, .inl (gI g, 10, .inl (F 6))) :: (q 12, .inl (gI g, 10, .inl (F 7))) :: (q 13, .inl (gI g, 10, .inl (F 8))) :: (q 14, .inl (gI g, 10, .inl (F 9))) :: (q 15, .inl (gI g, 10, .inl (F 10))) :: (q 16, .inl (gI g, 10, .inl (F 11))) :: (q 17, .inl (gI g, 10, .inl (F 12))) :: (q 18, .inr (3, [.int (nI (nn 4)), .ref (q 19), .ref (q 20), .ref (q 21)])) :: (q 19, .inl (gI g, 40, .inl (F 13))) :: (q 20, .inl (gI g, 40, .inl (F 14))) :: (q 21, .inl (gI g, 40, .inl (F 15))) :: (q 22, .inr (3, [.int (nI (nn 5)), .ref (q 23), .ref (q 24), .ref (q 25)])) :: (q 23, .inl (gI g, 40, .inl (F 16))) :: (q 24, .inl (gI g, 40, .inl (F 17))) :: (q 25, .inl (gI g, 40, .inl (F 18))) :: (q 26, .inr (6, [.int (nI (nn 6)), .int (v 3), .ref (q 27)])) :: (q 27, .inl (gI g, 14, .inl (F 19))) :: (q 28, .inl (gI g, 60, .inl (F 20))) :: (q 29, .inr (2, [.int hc, .int (nI hnx), .ref (q 30)])) :: (q 30, .inl (gN g, 16, .inr (.inr (.inr (.inr kf))))) :: (q 31, .inr (7, [.ref (q 32), .ref (q 33)])) :: (q 32, .inl (gI g, 7, .inl rf)) :: (q 33, .inl (gJ g, 5, .inr (.inl rr))) :: (q 34, .inr (5, [.ref (q 35), .ref (q 36), .ref (q 37), .int xab, .int xtr])) :: (q 35, .inl (gI g, 128, .inl l1)) :: (q 36, .inl (gI g, 128, .inl l2)) :: (q 37, .inl (gI g, 128, .inl l3)) :: (q 38, .inr (10, [.ref (q 39)])) :: (q 39, .inl (gI g, 60, .inl sf0)) :: (q 40, .inl (gS g, 4, .inr (.inr (.inr (.inr (va_up (va_up (va_up (va_up (fun _ => none) 0 (some (q 41))) 1 (some (q 43))) 2 (some (q 45))) 3 (some (q 47)))))))) :: (q 41, .inr (9, [.int (sb 0), .int (nI (sn 0)), .ref (q 42)])) :: (q 42, .inl (gI g, 60, .inl (SF 0))) :: (q 43, .inr (9, [.int (sb 1), .int (nI (sn 1)), .ref (q 44)])) :: (q 44, .inl (gI g, 60, .inl (SF 1))) :: (q 45, .inr (9, [.int (sb 2), .int (nI (sn 2)), .ref (q 46)])) :: (q 46, .inl (gI g, 60, .inl (SF 2))) :: (q 47, .inr (9, [.int (sb 3), .int (nI (sn 3)), .ref (q 48)])) :: (q 48, .inl (gI g, 60, .inl (SF 3))) :: (z 0, .inr (12, [.ref (z 1), .ref (z 2), .int (nI kp), .int (xs 0), .ref (z 3), .ref (z 4), .ref (z 5), .ref (z 6), .int (xs 1), .ref (z 7), .ref (z 8), .ref (z 9), .ref (z 10), .ref (z 11), .ref (z 12), .int (xs 2), .ref (z 13), .ref (z 14), .int (xs 3), .ref (z 15)])) :: (z 1, .inl (gI g, 461, .inl D)) :: (z 2, .inl (gI g, 7376, .inl Wk)) :: (z 3, .inl (gI g, 4, .inl B)) :: (z 4, .inl (gI g, 4, .inl Z)) :: (z 5, .inl (gI g, 240, .inl M)) :: (z 6, .inl (gI g, 5, .inl pf)) :: (z 7, .inl (gI g, 7, .inl cf)) :: (z 8, .inl (gI g, 5, .inl f0)) :: (z 9, .inl (gI g, 5, .inl f1)) :: (z 10, .inl (gZ g, 5, .inl f2)) :: (z 11, .inl (gI g, 7, .inl f3)) :: (z 12, .inl (gI g, 7, .inl f4)) :: (z 13, .inl (gI g, 60, .inl T)) :: (z 14, .inl (gI g, 480, .inl Bg)) :: (z 15, .inl (gI g, 60, .inl Cf)) :: R) H) (hD : va_D A ((q 0, .inr (11, [.ref (q 1), .ref (q 29), .ref (q 31), .ref (q 34), .ref (q 38), .ref (q 40), .int fn])) :: (q 1, .inr (4, [.ref (q 2), .ref (q 6), .ref (q 9), .ref (q 18), .ref (q 22), .ref (q 26), .ref (q 28), .int (v 4), .int (v 5), .int (nI (nn 7)), .int (v 6)])) :: (q 2, .inr (8, [.int (nI (nn 0)), .ref (q 3), .ref (q 4), .ref (q 5)])) :: (q 3, .inl (gI g, 5, .inl (F 0))) :: (q 4, .inl (gI g, 5, .inl (F 1))) :: (q 5, .inl (gI g, 5, .inl (F 2))) :: (q 6, .inr (1, [.int (nI (nn 1)), .ref (q 7), .ref (q 8), .int (v 0)])) :: (q 7, .inl (gI g, 7, .inl (F 3))) :: (q 8, .inl (gI g, 7, .inl (F 4))) :: (q 9, .inr (0, [.int (nI (nn 2)), .ref (q 10), .ref (q 11), .ref (q 12), .ref (q 13), .ref (q 14), .ref (q 15), .ref (q 16), .int (v 1), .int (v 2), .int (nI (nn 3)), .ref (q 17)])) :: (q 10, .inl (gI g, 10, .inl (F 5))) :: (q 11, .inl (gI g, 10, .inl (F 6))) :: (q 12, .inl (gI g, 10, .inl (F 7))) :: (q 13, .inl (gI g, 10, .inl (F 8))) :: (q 14, .inl (gI g, 10, .inl (F 9))) :: (q 15, .inl (gI g, 10, .inl (F 10))) :: (q 16, .inl (gI g, 10, .inl (F 11))) :: (q 17, .inl (gI g, 10, .inl (F 12))) :: (q 18, .inr (3, [.int (nI (nn 4)), .ref (q 19), .ref (q 20), .ref (q 21)])) :: (q 19, .inl (gI g, 40, .inl (F 13))) :: (q 20, .inl (gI g, 40, .inl (F 14))) :: (q 21, .inl (gI g, 40, .inl (F 15))) :: (q 22, .inr (3, [.int (nI (nn 5)), .ref (q 23), .ref (q 24), .ref (q 25)])) :: (q 23, .inl (gI g, 40, .inl (F 16))) :: (q 24, .inl (gI g, 40, .inl (F 17))) :: (q 25, .inl (gI g, 40, .inl (F 18))) :: (q 26, .inr (6, [.int (nI (nn 6)), .int (v 3), .ref (q 27)])) :: (q 27, .inl (gI g, 14, .inl (F 19))) :: (q 28, .inl (gI g, 60, .inl (F 20))) :: (q 29, .inr (2, [.int hc, .int (nI hnx), .ref (q 30)])) :: (q 30, .inl (gN g, 16, .inr (.inr (.inr (.inr kf))))) :: (q 31, .inr (7, [.ref (q 32), .ref (q 33)])) :: (q 32, .inl (gI g, 7, .inl rf)) :: (q 33, .inl (gJ g, 5, .inr (.inl rr))) :: (q 34, .inr (5, [.ref (q 35), .ref (q 36), .ref (q 37), .int xab, .int xtr])) :: (q 35, .inl (gI g, 128, .inl l1)) :: (q 36, .inl (gI g, 128, .inl l2)) :: (q 37, .inl (gI g, 128, .inl l3)) :: (q 38, .inr (10, [.ref (q 39)])) :: (q 39, .inl (gI g, 60, .inl sf0)) :: (q 40, .inl (gS g, 4, .inr (.inr (.inr (.inr (va_up (va_up (va_up (va_up (fun _ => none) 0 (some (q 41))) 1 (some (q 43))) 2 (some (q 45))) 3 (some (q 47)))))))) :: (q 41, .inr (9, [.int (sb 0), .int (nI (sn 0)), .ref (q 42)])) :: (q 42, .inl (gI g, 60, .inl (SF 0))) :: (q 43, .inr (9, [.int (sb 1), .int (nI (sn 1)), .ref (q 44)])) :: (q 44, .inl (gI g, 60, .inl (SF 1))) :: (q 45, .inr (9, [.int (sb 2), .int (nI (sn 2)), .ref (q 46)])) :: (q 46, .inl (gI g, 60, .inl (SF 2))) :: (q 47, .inr (9, [.int (sb 3), .int (nI (sn 3)), .ref (q 48)])) :: (q 48, .inl (gI g, 60, .inl (SF 3))) :: (z 0, .inr (12, [.ref (z 1), .ref (z 2), .int (nI kp), .int (xs 0), .ref (z 3), .ref (z 4), .ref (z 5), .ref (z 6), .int (xs 1), .ref (z 7), .ref (z 8), .ref (z 9), .ref (z 10), .ref (z 11), .ref (z 12), .int (xs 2), .ref (z 13), .ref (z 14), .int (xs 3), .ref (z 15)])) :: (z 1, .inl (gI g, 461, .inl D)) :: (z 2, .inl (gI g, 7376, .inl Wk)) :: (z 3, .inl (gI g, 4, .inl B)) :: (z 4, .inl (gI g, 4, .inl Z)) :: (z 5, .inl (gI g, 240, .inl M)) :: (z 6, .inl (gI g, 5, .inl pf)) :: (z 7, .inl (gI g, 7, .inl cf)) :: (z 8, .inl (gI g, 5, .inl f0)) :: (z 9, .inl (gI g, 5, .inl f1)) :: (z 10, .inl (gZ g, 5, .inl f2)) :: (z 11, .inl (gI g, 7, .inl f3)) :: (z 12, .inl (gI g, 7, .inl f4)) :: (z 13, .inl (gI g, 60, .inl T)) :: (z 14, .inl (gI g, 480, .inl Bg)) :: (z 15, .inl (gI g, 60, .inl Cf)) :: R)) (hS : va_S A s.heap H locs) (ls : Array Slot) (hl : lv_has ls 4 [(0, .ref b), (1, .ref (q 0)), (2, .ref (z 0)), (3, .int (nI i))]), W p l e room_1 s m #[Value.ref b] below meth c H locs ce sl (lw_Z below #[Value.ref b] s) (F0 m 1506 ls [])

theorem k_scr {L i : Nat} {x : Int32} (hL : L ≤ 3072) (hi : i ≤ 3072) (e : x = nI L - 6) (h : ¬ x < nI i) : i + 6 ≤ L := by
  rw [Int32.lt_iff_toInt_lt, e, show nI L - 6 = nI L - nI 6 from rfl, pk_sub_toInt (by omega) (by decide), k_nIi (by omega)] at h
  omega
