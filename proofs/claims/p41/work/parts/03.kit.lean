theorem k_fm {is : List Nat} {X cx : va_W} (h : is.map (fun i => X[i]?) = cx.map some) : is.filterMap (fun i => X[i]?) = cx := by
  induction is generalizing cx with
  | nil =>
    cases cx with
    | nil => rfl
    | cons a t => cases h
  | cons i t ih =>
    cases cx with
    | nil => cases h
    | cons a r =>
      have h1 : X[i]? = some a := (List.cons.inj h).1
      have h2 := ih (List.cons.inj h).2
      rw [List.filterMap_cons, h1]
      show a :: _ = _
      rw [h2]

abbrev kG : Type := va_G × (ClassId × ClassId × ClassId × ClassId × ClassId)
abbrev gI (g : kG) : ClassId := g.2.1
abbrev gJ (g : kG) : ClassId := g.2.2.1
abbrev gZ (g : kG) : ClassId := g.2.2.2.1
abbrev gN (g : kG) : ClassId := g.2.2.2.2.1
abbrev gS (g : kG) : ClassId := g.2.2.2.2.2
abbrev kT (g : kG) : List (ClassId × FieldType) := [(gI g, .int), (gJ g, .long), (gZ g, .boolean), (gN g, .object "SmallRooms$Nursery"), (gS g, .object "SmallRooms$Sheet")]
theorem kNW_each : ∀ w ∈ nestW, (∃ a i x h, w = Cond.methodLinkNest a i x h) ∨ (∃ a i b n d h, w = Cond.fieldLinkNest a i b n d h) := by
  intro w hw
  simp only [nestW, List.mem_cons, List.not_mem_nil, or_false] at hw
  rcases hw with rfl | rfl | rfl | rfl | rfl | rfl | rfl | rfl | rfl | rfl | rfl | rfl | rfl | rfl | rfl | rfl | rfl | rfl | rfl | rfl | rfl | rfl | rfl | rfl | rfl | rfl | rfl | rfl | rfl | rfl <;> first | exact Or.inl ⟨_, _, _, _, rfl⟩ | exact Or.inr ⟨_, _, _, _, _, _, rfl⟩
def kNW (U : State) : Prop := ∀ w ∈ nestW, va_Nw w U
theorem kNW.warm {s U : State} (hW : s.WarmedH U.vm) (h : kNW s) : kNW U := by
  intro w hw
  have h1 := h w hw
  rcases kNW_each w hw with ⟨a, i, x, y, rfl⟩ | ⟨a, i, b, n, d, y, rfl⟩
  · exact va_Nw.warmM hW h1
  · exact va_Nw.warmF hW h1
theorem kNW.same {u U : State} (hv : u.vm = U.vm) (h : kNW u) : kNW U := by
  intro w hw
  have h1 := h w hw
  rcases kNW_each w hw with ⟨a, i, x, y, rfl⟩ | ⟨a, i, b, n, d, y, rfl⟩
  · exact va_Nw.same rfl hv h1
  · exact va_Nw.same rfl hv h1

def kXs (b L : Nat) (xs : Nat → Int32) (U : State) (H : Heap) : Prop := ∃ scr : Cell, H[b]? = some scr ∧ U.isArrayOf scr .int ∧ scr.vm ≠ .unknown ∧ L ≤ scr.slots.size ∧ ∀ j : Nat, j < L → scr.slots[j]? = some (.int (xs j))
theorem kXs.kept {b L : Nat} {xs : Nat → Int32} {U : State} {H H1 : Heap} (h : kXs b L xs U H) (hq : H1[b]? = H[b]?) : kXs b L xs U H1 := by
  obtain ⟨scr, h1, h2⟩ := h
  exact ⟨scr, by rw [hq]; exact h1, h2⟩
theorem kXs.moved {b L : Nat} {xs : Nat → Int32} {u U : State} {H : Heap} (hvm : u.vm.Alike U.vm) (h : kXs b L xs u H) : kXs b L xs U H := by
  obtain ⟨scr, h1, h2, h3⟩ := h
  exact ⟨scr, h1, State.isArrayOf_alike hvm h2, h3⟩
theorem k_sld {p : Program} {l : Launch} {e : Env} {R : Room} {s : State} {m : MethodId} {args : Array Value} {below : List Frame} {meth : Method} {c : Code} {H : Heap} {locs : List Loc} {cells slots : Nat} {Q : State → Prop} {cc : ByteArray} {pc : Nat} {ls : Array Slot} {rest : List Value} {A : Nat → Prop} {H0 : Heap} (hexec : p.tables.exec = Jvm.exec) (hb : c.code = cc) {b L : Nat} {xs : Nat → Int32} (hX : kXs b L xs s H0) (hbl : b < H0.size) (hbA : ¬ A b) (hS : va_S A H0 H locs) {i : Int32} (hin : vp_in i L) (hdg : decode cc pc = .ok (.iaload, 1))
    (kk : W p l e R s m args below meth c H locs cells slots Q (F0 m (pc + 1) ls (.int (xs i.toNatClampNeg) :: rest))) : W p l e R s m args below meth c H locs cells slots Q (F0 m pc ls (.int i :: .ref b :: rest)) := by
  obtain ⟨scr, h1, h2, h3, h4, h5⟩ := hX
  have hlt : i.toNatClampNeg < L := Nat.not_le.mp fun q => hin (Or.inr q)
  exact W.iald (v := .int (xs i.toNatClampNeg)) hexec hb (by rw [hS.2.1 b hbl hbA]; exact h1) h2 h3 (fun q => hin (q.imp id (fun z => Nat.le_trans h4 z))) (h5 _ hlt) rfl rfl hdg kk
def kZ (A : Nat → Prop) (U : State) (H : Heap) : Prop := ∃ (w0 w1 : Nat) (x0 x1 : Nat → Int32), va_Z "SmallRooms" "WORTH_OF_KIND" "[I" (.ref w0) A U H ∧ kXs w0 4 x0 U H ∧ w0 < H.size ∧ ¬ A w0 ∧ va_Z "SmallRooms$Planner" "DIGIT_OF_HAND" "[I" (.ref w1) A U H ∧ kXs w1 7 x1 U H ∧ w1 < H.size ∧ ¬ A w1 ∧ ∀ j, j < 7 → x1 j ≠ 0
theorem kZ.call {A B : Nat → Prop} {s U : State} {H : Heap} {locs : List Loc} (hvm : s.vm.Alike U.vm) (hS : va_S A s.heap H locs) (hF : ∀ q, B q → A q) (h : kZ A s s.heap) : kZ B U H := by
  obtain ⟨w0, w1, x0, x1, z0, y0, l0, n0, z1, y1, l1, n1, hd⟩ := h
  exact ⟨w0, w1, x0, x1, ((z0.kept (fun a ha hn => hS.2.1 a ha hn)).moved hvm).narrow hF, (y0.kept (hS.2.1 w0 l0 n0)).moved hvm, Nat.lt_of_lt_of_le l0 hS.1, fun z => n0 (hF _ z), ((z1.kept (fun a ha hn => hS.2.1 a ha hn)).moved hvm).narrow hF, (y1.kept (hS.2.1 w1 l1 n1)).moved hvm, Nat.lt_of_lt_of_le l1 hS.1, fun z => n1 (hF _ z), hd⟩
theorem kZ.same {A : Nat → Prop} {s U : State} {H : Heap} (hvm : s.vm.Alike U.vm) (h : kZ A s H) : kZ A U H := by
  obtain ⟨w0, w1, x0, x1, z0, y0, l0, n0, z1, y1, l1, n1, hd⟩ := h
  exact ⟨w0, w1, x0, x1, z0.moved hvm, y0.moved hvm, l0, n0, z1.moved hvm, y1.moved hvm, l1, n1, hd⟩
def kKW (g : kG) (A : Nat → Prop) (U : State) : Prop := va_K g.1 vwCl (kT g) U ∧ kNW U ∧ va_AO "SmallRooms$Nursery" U ∧ va_AO "SmallRooms$Sheet" U ∧ kZ A U U.heap
theorem kKW.call {g : kG} {A B : Nat → Prop} {s U : State} {H : Heap} {locs : List Loc} (hW : s.WarmedH U.vm) (hU : U.heap = H) (hS : va_S A s.heap H locs) (hF : ∀ q, B q → A q) (h : kKW g A s) : kKW g B U := ⟨va_K.moved hW.alike h.1, kNW.warm hW h.2.1, va_AO.moved hW.alike h.2.2.1, va_AO.moved hW.alike h.2.2.2.1, by rw [hU]; exact kZ.call hW.alike hS hF h.2.2.2.2⟩
theorem kKW.calling {g : kG} {A : Nat → Prop} {U : State} (gg : JFrame) (mk : MethodId) (a : Array Value) (h : kKW g A U) : kKW g A (U.calling gg mk a) := ⟨va_K.moved (u := U) (U := U.calling gg mk a) (Vm.Alike.refl U.vm) h.1, kNW.same (u := U) (U := U.calling gg mk a) rfl h.2.1, va_AO.moved (u := U) (U := U.calling gg mk a) (Vm.Alike.refl U.vm) h.2.2.1, va_AO.moved (u := U) (U := U.calling gg mk a) (Vm.Alike.refl U.vm) h.2.2.2.1, kZ.same (s := U) (U := U.calling gg mk a) (Vm.Alike.refl U.vm) h.2.2.2.2⟩
def kPre (g : kG) (sz : Nat) (ws : va_W) (U : State) : Prop := U.heap.size = sz ∧ va_P g.1 vwCl ws U.heap ∧ kKW g (va_A ws sz) U ∧ va_D (fun _ => True) ws
theorem kPre.blind (av : List Value) (g : kG) (sz : Nat) (ws : va_W) : FrameBlind (va_Pc av (kPre g sz ws)) := fun a U gg mk q => ⟨q.1, q.2.1, q.2.2.1, kKW.calling gg mk a q.2.2.2.1, q.2.2.2.2⟩
def kPost (g : kG) (A : Nat → Prop) (w : va_W) (t : State) : Prop := va_P g.1 vwCl w t.heap ∧ va_D A w
abbrev kR (lev mc ms : Nat) : Room := { frames := lev, cells := mc, slots := ms, locals := 64 * lev }
theorem k_good : GoodIn wsL_law wsL_law := goodIn_sub (fun _ h => h) (by decide +kernel)
theorem k_goodC {k : Cond} (h : k ∈ wsL_law) : GoodIn wsL_law (k :: wsL_law) := fun w hw => (List.mem_cons.mp hw).elim (fun e => e ▸ k_good k h) (k_good w)
def kMi (l : Launch) (g : kG) (y : MethodName) (cc : ByteArray) (n : Nat) (r : Option FieldType) (lev mc ms : Nat) (av : List Value) (sz : Nat) (ws : va_W) {S : Type} (post : Int32 → S → Prop) (w1 : S → va_W) : Prop :=
  Met l y (Cond.code y cc n r :: wsL_law) (kR lev mc ms) (va_Pc av (kPre g sz ws)) (va_Qi post (fun u t => kPost g (va_A ws sz) (w1 u) t) (va_A ws sz)) mc ms (va_A ws sz)
abbrev kQi (g : kG) (A : Nat → Prop) (below : List Frame) (args : Array Value) (s : State) (mc ms : Nat) {S : Type} (post : Int32 → S → Prop) (w1 : S → va_W) : State → Prop := MQ below (va_Qi post (fun u t => kPost g A (w1 u) t) A) args s mc ms A
theorem kMi.of {l : Launch} {g : kG} {y : MethodName} {cc : ByteArray} {n : Nat} {r : Option FieldType} {lev mc ms : Nat} {av : List Value} {sz : Nat} {ws : va_W} {S : Type} {post : Int32 → S → Prop} {w1 : S → va_W} (hy : plainName y.cls = true) (hlen : (lg_sl av).length ≤ n)
    (body : ∀ (p : Program) (e : Env) (s : State) (m : MethodId) (below : List Frame) (meth : Method) (c : Code) (A : Nat → Prop), p.tables.exec = Jvm.exec → c.code = cc → meth.sig.returnType = r → c.maxLocals = n → s.vm.findClass y.cls = some m.cls → (∀ w ∈ wsL_law, w.before av.toArray s = true) → meth.locks = false → meth.name = y.name → kKW g A s → va_P g.1 vwCl ws s.heap → va_D A ws → va_S A s.heap s.heap [] → (∀ q, s.heap.size ≤ q → A q) → ∀ ls : Array Slot, lv_has ls n (lv_args 0 av) →
      W p l e (kR lev mc ms) s m av.toArray below meth c s.heap [] 0 0 (kQi g A below av.toArray s mc ms post w1) (F0 m 0 ls [])) : kMi l g y cc n r lev mc ms av sz ws post w1 := by
  unfold kMi
  refine Met.ofW (cc := cc) (maxL := n) (ret := r) hy rfl ?_
  intro p e s m args below meth c s₁ B hml hv
  obtain ⟨rfl, hsz, hP, hK, hD0⟩ := hv
  have hts := atoms_spec (ws := Cond.code y cc n r :: wsL_law) B.pre
  have hown : s.vm.findClass y.cls = some m.cls := findClass_of_methodNamed B.named
  have hin : meth.name = y.name := (name_of_methodNamed B.named B.method).1
  subst hsz
  have hD := hD0.self (sz := s.heap.size)
  have hA : ∀ q : Nat, s.heap.size ≤ q → va_A ws s.heap.size q := fun q h => Or.inr h
  have hl := lv_entry av (n := n) hlen
  rw [lg_entry_eq]
  exact body p e s m below meth c _ B.exec B.bytes B.returns hml hown (fun w h => hts w (List.mem_cons_of_mem _ h)) B.notSynchronized hin hK hP hD va_S.rf hA _ hl
def kMv (l : Launch) (g : kG) (y : MethodName) (cc : ByteArray) (n : Nat) (r : Option FieldType) (lev mc ms : Nat) (av : List Value) (sz : Nat) (ws : va_W) {S : Type} (post : S → Prop) (w1 : S → va_W) : Prop :=
  Met l y (Cond.code y cc n r :: wsL_law) (kR lev mc ms) (va_Pc av (kPre g sz ws)) (va_Qv post (fun u t => kPost g (va_A ws sz) (w1 u) t) (va_A ws sz)) mc ms (va_A ws sz)
abbrev kQv (g : kG) (A : Nat → Prop) (below : List Frame) (args : Array Value) (s : State) (mc ms : Nat) {S : Type} (post : S → Prop) (w1 : S → va_W) : State → Prop := MQ below (va_Qv post (fun u t => kPost g A (w1 u) t) A) args s mc ms A
theorem kMv.of {l : Launch} {g : kG} {y : MethodName} {cc : ByteArray} {n : Nat} {r : Option FieldType} {lev mc ms : Nat} {av : List Value} {sz : Nat} {ws : va_W} {S : Type} {post : S → Prop} {w1 : S → va_W} (hy : plainName y.cls = true) (hlen : (lg_sl av).length ≤ n)
    (body : ∀ (p : Program) (e : Env) (s : State) (m : MethodId) (below : List Frame) (meth : Method) (c : Code) (A : Nat → Prop), p.tables.exec = Jvm.exec → c.code = cc → meth.sig.returnType = r → c.maxLocals = n → s.vm.findClass y.cls = some m.cls → (∀ w ∈ wsL_law, w.before av.toArray s = true) → meth.locks = false → meth.name = y.name → kKW g A s → va_P g.1 vwCl ws s.heap → va_D A ws → va_S A s.heap s.heap [] → (∀ q, s.heap.size ≤ q → A q) → ∀ ls : Array Slot, lv_has ls n (lv_args 0 av) →
      W p l e (kR lev mc ms) s m av.toArray below meth c s.heap [] 0 0 (kQv g A below av.toArray s mc ms post w1) (F0 m 0 ls [])) : kMv l g y cc n r lev mc ms av sz ws post w1 := by
  unfold kMv
  refine Met.ofW (cc := cc) (maxL := n) (ret := r) hy rfl ?_
  intro p e s m args below meth c s₁ B hml hv
  obtain ⟨rfl, hsz, hP, hK, hD0⟩ := hv
  have hts := atoms_spec (ws := Cond.code y cc n r :: wsL_law) B.pre
  have hown : s.vm.findClass y.cls = some m.cls := findClass_of_methodNamed B.named
  have hin : meth.name = y.name := (name_of_methodNamed B.named B.method).1
  subst hsz
  have hD := hD0.self (sz := s.heap.size)
  have hA : ∀ q : Nat, s.heap.size ≤ q → va_A ws s.heap.size q := fun q h => Or.inr h
  have hl := lv_entry av (n := n) hlen
  rw [lg_entry_eq]
  exact body p e s m below meth c _ B.exec B.bytes B.returns hml hown (fun w h => hts w (List.mem_cons_of_mem _ h)) B.notSynchronized hin hK hP hD va_S.rf hA _ hl
def kMl (l : Launch) (g : kG) (y : MethodName) (cc : ByteArray) (n : Nat) (r : Option FieldType) (lev mc ms : Nat) (av : List Value) (sz : Nat) (ws : va_W) {S : Type} (post : Int64 → S → Prop) (w1 : S → va_W) : Prop :=
  Met l y (Cond.code y cc n r :: wsL_law) (kR lev mc ms) (va_Pc av (kPre g sz ws)) (va_Ql post (fun u t => kPost g (va_A ws sz) (w1 u) t) (va_A ws sz)) mc ms (va_A ws sz)
abbrev kQl (g : kG) (A : Nat → Prop) (below : List Frame) (args : Array Value) (s : State) (mc ms : Nat) {S : Type} (post : Int64 → S → Prop) (w1 : S → va_W) : State → Prop := MQ below (va_Ql post (fun u t => kPost g A (w1 u) t) A) args s mc ms A
theorem kMl.of {l : Launch} {g : kG} {y : MethodName} {cc : ByteArray} {n : Nat} {r : Option FieldType} {lev mc ms : Nat} {av : List Value} {sz : Nat} {ws : va_W} {S : Type} {post : Int64 → S → Prop} {w1 : S → va_W} (hy : plainName y.cls = true) (hlen : (lg_sl av).length ≤ n)
    (body : ∀ (p : Program) (e : Env) (s : State) (m : MethodId) (below : List Frame) (meth : Method) (c : Code) (A : Nat → Prop), p.tables.exec = Jvm.exec → c.code = cc → meth.sig.returnType = r → c.maxLocals = n → s.vm.findClass y.cls = some m.cls → (∀ w ∈ wsL_law, w.before av.toArray s = true) → meth.locks = false → meth.name = y.name → kKW g A s → va_P g.1 vwCl ws s.heap → va_D A ws → va_S A s.heap s.heap [] → (∀ q, s.heap.size ≤ q → A q) → ∀ ls : Array Slot, lv_has ls n (lv_args 0 av) →
      W p l e (kR lev mc ms) s m av.toArray below meth c s.heap [] 0 0 (kQl g A below av.toArray s mc ms post w1) (F0 m 0 ls [])) : kMl l g y cc n r lev mc ms av sz ws post w1 := by
  unfold kMl
  refine Met.ofW (cc := cc) (maxL := n) (ret := r) hy rfl ?_
  intro p e s m args below meth c s₁ B hml hv
  obtain ⟨rfl, hsz, hP, hK, hD0⟩ := hv
  have hts := atoms_spec (ws := Cond.code y cc n r :: wsL_law) B.pre
  have hown : s.vm.findClass y.cls = some m.cls := findClass_of_methodNamed B.named
  have hin : meth.name = y.name := (name_of_methodNamed B.named B.method).1
  subst hsz
  have hD := hD0.self (sz := s.heap.size)
  have hA : ∀ q : Nat, s.heap.size ≤ q → va_A ws s.heap.size q := fun q h => Or.inr h
  have hl := lv_entry av (n := n) hlen
  rw [lg_entry_eq]
  exact body p e s m below meth c _ B.exec B.bytes B.returns hml hown (fun w h => hts w (List.mem_cons_of_mem _ h)) B.notSynchronized hin hK hP hD va_S.rf hA _ hl
theorem kMl.ofF {l : Launch} {g : kG} {y : MethodName} {cc : ByteArray} {n : Nat} {r : Option FieldType} {lev mc ms : Nat} {av : List Value} {sz : Nat} {ws : va_W} {S : Type} {post : Int64 → S → Prop} {w1 : S → va_W} (hy : plainFor y = true) (hlen : (lg_sl av).length ≤ n)
    (body : ∀ (p : Program) (e : Env) (s : State) (m : MethodId) (below : List Frame) (meth : Method) (c : Code) (A : Nat → Prop), p.tables.exec = Jvm.exec → c.code = cc → meth.sig.returnType = r → c.maxLocals = n → s.vm.findClass y.cls = some m.cls → (∀ w ∈ wsL_law, w.before av.toArray s = true) → meth.locks = false → meth.name = y.name → kKW g A s → va_P g.1 vwCl ws s.heap → va_D A ws → va_S A s.heap s.heap [] → (∀ q, s.heap.size ≤ q → A q) → ∀ ls : Array Slot, lv_has ls n (lv_args 0 av) →
      W p l e (kR lev mc ms) s m av.toArray below meth c s.heap [] 0 0 (kQl g A below av.toArray s mc ms post w1) (F0 m 0 ls [])) : kMl l g y cc n r lev mc ms av sz ws post w1 := by
  unfold kMl
  refine va_MetF (cc := cc) (maxL := n) (ret := r) hy rfl ?_
  intro p e s m args below meth c s₁ B hml hv
  obtain ⟨rfl, hsz, hP, hK, hD0⟩ := hv
  have hts := atoms_spec (ws := Cond.code y cc n r :: wsL_law) B.pre
  have hown : s.vm.findClass y.cls = some m.cls := findClass_of_methodNamed B.named
  have hin : meth.name = y.name := (name_of_methodNamed B.named B.method).1
  subst hsz
  have hD := hD0.self (sz := s.heap.size)
  have hA : ∀ q : Nat, s.heap.size ≤ q → va_A ws s.heap.size q := fun q h => Or.inr h
  have hl := lv_entry av (n := n) hlen
  rw [lg_entry_eq]
  exact body p e s m below meth c _ B.exec B.bytes B.returns hml hown (fun w h => hts w (List.mem_cons_of_mem _ h)) B.notSynchronized hin hK hP hD va_S.rf hA _ hl
section KRows
variable {p : Program} {l : Launch} {e : Env} {R : Room} {s : State} {m : MethodId} {args : Array Value} {below : List Frame} {meth : Method} {c : Code} {H : Heap} {locs : List Loc} {cells slots : Nat} {Q : State → Prop} {A : Nat → Prop} {g : kG} {cc : ByteArray} {pc : Nat} {ls : Array Slot} {rest : List Value} {ws : va_W}
theorem k_top {x y : Int32} (h : x = y) (k : W p l e R s m args below meth c H locs cells slots Q (F0 m pc ls (.int y :: rest))) : W p l e R s m args below meth c H locs cells slots Q (F0 m pc ls (.int x :: rest)) := h ▸ k
theorem k_topl {x y : Int64} (h : x = y) (k : W p l e R s m args below meth c H locs cells slots Q (F0 m pc ls (.long y :: rest))) : W p l e R s m args below meth c H locs cells slots Q (F0 m pc ls (.long x :: rest)) := h ▸ k
theorem k_iret {S : Type} {post : Int32 → S → Prop} {w1 : S → va_W} {v : Int32} {mc ms : Nat} (u : S) (is : List Nat) (hexec : p.tables.exec = Jvm.exec) (hb : c.code = cc) (hr : meth.sig.returnType = some .int) (hlk : meth.locks = false) (hP : va_P g.1 vwCl ws H) (hD : va_D A ws) (hS : va_S A s.heap H locs) (hp : post v u) (hn : va_nd is = true) (h1 : is.filterMap (fun i => ws[i]?) = w1 u) (h2 : is.map (fun i => ws[i]?) = (w1 u).map some) (hc : cells ≤ mc) (hs : slots ≤ ms) (hdg : decode cc pc = .ok (.ireturn, 1)) :
    W p l e R s m args below meth c H locs cells slots (kQi g A below args s mc ms post w1) (F0 m pc ls [.int v]) := by
  refine W.widen hc hs ?_
  exact W.iret hexec hb hr (fun t ht _ => ⟨⟨v, u, rfl, hp, by rw [ht]; exact hP.sub is h1, hD.sub is hn h2⟩, hS.F ht⟩) hS.2.2 hdg hlk
theorem k_iretP {S : Type} {post : Int32 → S → Prop} {w1 : S → va_W} {v : Int32} {mc ms : Nat} {X rx pl : va_W} (u : S) (is : List Nat) (hexec : p.tables.exec = Jvm.exec) (hb : c.code = cc) (hr : meth.sig.returnType = some .int) (hlk : meth.locks = false) (hP : va_P g.1 vwCl (X ++ pl) H) (hD : va_D A (X ++ pl)) (hS : va_S A s.heap H locs) (hp : post v u) (hn : va_nd is = true) (hw : w1 u = rx ++ pl) (h2 : is.map (fun i => X[i]?) = rx.map some) (hc : cells ≤ mc) (hs : slots ≤ ms) (hdg : decode cc pc = .ok (.ireturn, 1)) :
    W p l e R s m args below meth c H locs cells slots (kQi g A below args s mc ms post w1) (F0 m pc ls [.int v]) := by
  refine W.widen hc hs ?_
  exact W.iret hexec hb hr (fun t ht _ => ⟨⟨v, u, rfl, hp, by rw [ht, hw]; exact hP.part is h2, by rw [hw]; exact hD.part is hn h2⟩, hS.F ht⟩) hS.2.2 hdg hlk
theorem k_zret {S : Type} {post : Int32 → S → Prop} {w1 : S → va_W} {v : Int32} {mc ms : Nat} (u : S) (is : List Nat) (hexec : p.tables.exec = Jvm.exec) (hb : c.code = cc) (hr : meth.sig.returnType = some .boolean) (hlk : meth.locks = false) (hP : va_P g.1 vwCl ws H) (hD : va_D A ws) (hS : va_S A s.heap H locs) (hp : post v u) (hv : narrow .boolean (.int v) = .int v) (hn : va_nd is = true) (h1 : is.filterMap (fun i => ws[i]?) = w1 u) (h2 : is.map (fun i => ws[i]?) = (w1 u).map some) (hc : cells ≤ mc) (hs : slots ≤ ms) (hdg : decode cc pc = .ok (.ireturn, 1)) :
    W p l e R s m args below meth c H locs cells slots (kQi g A below args s mc ms post w1) (F0 m pc ls [.int v]) := by
  refine W.widen hc hs ?_
  exact W.zret hexec hb hr hv (fun t ht _ => ⟨⟨v, u, rfl, hp, by rw [ht]; exact hP.sub is h1, hD.sub is hn h2⟩, hS.F ht⟩) hS.2.2 hdg hlk
theorem k_zretP {S : Type} {post : Int32 → S → Prop} {w1 : S → va_W} {v : Int32} {mc ms : Nat} {X rx pl : va_W} (u : S) (is : List Nat) (hexec : p.tables.exec = Jvm.exec) (hb : c.code = cc) (hr : meth.sig.returnType = some .boolean) (hlk : meth.locks = false) (hP : va_P g.1 vwCl (X ++ pl) H) (hD : va_D A (X ++ pl)) (hS : va_S A s.heap H locs) (hp : post v u) (hv : narrow .boolean (.int v) = .int v) (hn : va_nd is = true) (hw : w1 u = rx ++ pl) (h2 : is.map (fun i => X[i]?) = rx.map some) (hc : cells ≤ mc) (hs : slots ≤ ms) (hdg : decode cc pc = .ok (.ireturn, 1)) :
    W p l e R s m args below meth c H locs cells slots (kQi g A below args s mc ms post w1) (F0 m pc ls [.int v]) := by
  refine W.widen hc hs ?_
  exact W.zret hexec hb hr hv (fun t ht _ => ⟨⟨v, u, rfl, hp, by rw [ht, hw]; exact hP.part is h2, by rw [hw]; exact hD.part is hn h2⟩, hS.F ht⟩) hS.2.2 hdg hlk
theorem k_lret {S : Type} {post : Int64 → S → Prop} {w1 : S → va_W} {v : Int64} {mc ms : Nat} (u : S) (is : List Nat) (hexec : p.tables.exec = Jvm.exec) (hb : c.code = cc) (hr : meth.sig.returnType = some .long) (hlk : meth.locks = false) (hP : va_P g.1 vwCl ws H) (hD : va_D A ws) (hS : va_S A s.heap H locs) (hp : post v u) (hn : va_nd is = true) (h1 : is.filterMap (fun i => ws[i]?) = w1 u) (h2 : is.map (fun i => ws[i]?) = (w1 u).map some) (hc : cells ≤ mc) (hs : slots ≤ ms) (hdg : decode cc pc = .ok (.lreturn, 1)) :
    W p l e R s m args below meth c H locs cells slots (kQl g A below args s mc ms post w1) (F0 m pc ls [.long v]) := by
  refine W.widen hc hs ?_
  exact W.lret hexec hb hr (fun t ht _ => ⟨⟨v, u, rfl, hp, by rw [ht]; exact hP.sub is h1, hD.sub is hn h2⟩, hS.F ht⟩) hS.2.2 hdg hlk
theorem k_lretP {S : Type} {post : Int64 → S → Prop} {w1 : S → va_W} {v : Int64} {mc ms : Nat} {X rx pl : va_W} (u : S) (is : List Nat) (hexec : p.tables.exec = Jvm.exec) (hb : c.code = cc) (hr : meth.sig.returnType = some .long) (hlk : meth.locks = false) (hP : va_P g.1 vwCl (X ++ pl) H) (hD : va_D A (X ++ pl)) (hS : va_S A s.heap H locs) (hp : post v u) (hn : va_nd is = true) (hw : w1 u = rx ++ pl) (h2 : is.map (fun i => X[i]?) = rx.map some) (hc : cells ≤ mc) (hs : slots ≤ ms) (hdg : decode cc pc = .ok (.lreturn, 1)) :
    W p l e R s m args below meth c H locs cells slots (kQl g A below args s mc ms post w1) (F0 m pc ls [.long v]) := by
  refine W.widen hc hs ?_
  exact W.lret hexec hb hr (fun t ht _ => ⟨⟨v, u, rfl, hp, by rw [ht, hw]; exact hP.part is h2, by rw [hw]; exact hD.part is hn h2⟩, hS.F ht⟩) hS.2.2 hdg hlk
theorem k_vret {S : Type} {post : S → Prop} {w1 : S → va_W} {mc ms : Nat} (u : S) (is : List Nat) (hexec : p.tables.exec = Jvm.exec) (hb : c.code = cc) (hr : meth.sig.returnType = none) (hlk : meth.locks = false) (hP : va_P g.1 vwCl ws H) (hD : va_D A ws) (hS : va_S A s.heap H locs) (hp : post u) (hn : va_nd is = true) (h1 : is.filterMap (fun i => ws[i]?) = w1 u) (h2 : is.map (fun i => ws[i]?) = (w1 u).map some) (hc : cells ≤ mc) (hs : slots ≤ ms) (hdg : decode cc pc = .ok (.return_, 1)) :
    W p l e R s m args below meth c H locs cells slots (kQv g A below args s mc ms post w1) (F0 m pc ls []) := by
  refine W.widen hc hs ?_
  exact W.vret hexec hb hr (fun t ht _ => ⟨⟨u, rfl, hp, by rw [ht]; exact hP.sub is h1, hD.sub is hn h2⟩, hS.F ht⟩) hS.2.2 hdg hlk
theorem k_vretP {S : Type} {post : S → Prop} {w1 : S → va_W} {mc ms : Nat} {X rx pl : va_W} (u : S) (is : List Nat) (hexec : p.tables.exec = Jvm.exec) (hb : c.code = cc) (hr : meth.sig.returnType = none) (hlk : meth.locks = false) (hP : va_P g.1 vwCl (X ++ pl) H) (hD : va_D A (X ++ pl)) (hS : va_S A s.heap H locs) (hp : post u) (hn : va_nd is = true) (hw : w1 u = rx ++ pl) (h2 : is.map (fun i => X[i]?) = rx.map some) (hc : cells ≤ mc) (hs : slots ≤ ms) (hdg : decode cc pc = .ok (.return_, 1)) :
    W p l e R s m args below meth c H locs cells slots (kQv g A below args s mc ms post w1) (F0 m pc ls []) := by
  refine W.widen hc hs ?_
  exact W.vret hexec hb hr (fun t ht _ => ⟨⟨u, rfl, hp, by rw [ht, hw]; exact hP.part is h2, by rw [hw]; exact hD.part is hn h2⟩, hS.F ht⟩) hS.2.2 hdg hlk
/-- array classes are one to a type -/
theorem k_oneC {D : va_G} {cl : List vw_C} {tys : List (ClassId × FieldType)} {cA cB : ClassId} {ty : FieldType} (t0 : Nat) (ht : tys[t0]? = some (cB, ty)) (hK : va_K D cl (tys ++ [(cA, ty)]) s) : cA = cB := by
  have h1 := (hK.2 tys.length (cA, ty) (by rw [List.getElem?_append_right (Nat.le_refl _)]; simp)).2
  have h2 := (hK.2 t0 (cB, ty) (by rw [List.getElem?_append_left (List.getElem?_eq_some_iff.mp ht).1]; exact ht)).2
  have key : ∀ c : ClassId, va_RA s c ty → s.vm.findClass ("[" ++ ty.toString) = some c := by
    intro c h
    unfold va_RA at h
    split at h
    · obtain ⟨_, _, _, _, _, h⟩ := h; exact h
    · exact h
  have e1 := key _ h1
  rw [key _ h2] at e1
  exact (Option.some.inj e1).symm
theorem k_newi {n : Int32} {N' : Nat} (hexec : p.tables.exec = Jvm.exec) (hb : c.code = cc) (harr : (Cond.arrayClass .int).before args s = true) (hKW : kKW g A s) (hP : va_P g.1 vwCl ws H) (hD : va_D A ws) (hS : va_S A s.heap H locs) (hA : ∀ q, s.heap.size ≤ q → A q) (hn : ¬ n < 0) (hN : n.toNatClampNeg = N') (hbytes : N' * 4 ≤ 536870912) (hcells : cells + 1 ≤ R.cells) (hslots : slots + N' ≤ R.slots) (hdg : decode cc pc = .ok (.newarray .int, 2))
    (kk : ∀ (q : Nat) (H1 : Heap), va_P g.1 vwCl (ws ++ [(q, .inl (gI g, N', .inl (fun _ => 0)))]) H1 → va_D A (ws ++ [(q, .inl (gI g, N', .inl (fun _ => 0)))]) → va_S A s.heap H1 locs → W p l e R s m args below meth c H1 locs (cells + 1) (slots + N') Q (F0 m (pc + 2) ls (.ref q :: rest))) : W p l e R s m args below meth c H locs cells slots Q (F0 m pc ls (.int n :: rest)) := by
  refine va_newa (atype := .int) (ty := .int) (a0 := (N', .inl (fun _ => 0))) hexec hb harr rfl hKW.1 hP hD hS hA (fun _ => rfl) hn hN hbytes hcells hslots hdg (fun q cA H1 hK1 hP1 hD1 hS1 => ?_)
  obtain rfl : cA = gI g := k_oneC 0 rfl hK1
  exact kk q H1 hP1 hD1 hS1
theorem k_newl {n : Int32} {N' : Nat} (hexec : p.tables.exec = Jvm.exec) (hb : c.code = cc) (harr : (Cond.arrayClass .long).before args s = true) (hKW : kKW g A s) (hP : va_P g.1 vwCl ws H) (hD : va_D A ws) (hS : va_S A s.heap H locs) (hA : ∀ q, s.heap.size ≤ q → A q) (hn : ¬ n < 0) (hN : n.toNatClampNeg = N') (hbytes : N' * 8 ≤ 536870912) (hcells : cells + 1 ≤ R.cells) (hslots : slots + N' ≤ R.slots) (hdg : decode cc pc = .ok (.newarray .long, 2))
    (kk : ∀ (q : Nat) (H1 : Heap), va_P g.1 vwCl (ws ++ [(q, .inl (gJ g, N', .inr (.inl (fun _ => 0))))]) H1 → va_D A (ws ++ [(q, .inl (gJ g, N', .inr (.inl (fun _ => 0))))]) → va_S A s.heap H1 locs → W p l e R s m args below meth c H1 locs (cells + 1) (slots + N') Q (F0 m (pc + 2) ls (.ref q :: rest))) : W p l e R s m args below meth c H locs cells slots Q (F0 m pc ls (.int n :: rest)) := by
  refine va_newa (atype := .long) (ty := .long) (a0 := (N', .inr (.inl (fun _ => 0)))) hexec hb harr rfl hKW.1 hP hD hS hA (fun _ => rfl) hn hN hbytes hcells hslots hdg (fun q cA H1 hK1 hP1 hD1 hS1 => ?_)
  obtain rfl : cA = gJ g := k_oneC 1 rfl hK1
  exact kk q H1 hP1 hD1 hS1
theorem k_newz {n : Int32} {N' : Nat} (hexec : p.tables.exec = Jvm.exec) (hb : c.code = cc) (harr : (Cond.arrayClass .boolean).before args s = true) (hKW : kKW g A s) (hP : va_P g.1 vwCl ws H) (hD : va_D A ws) (hS : va_S A s.heap H locs) (hA : ∀ q, s.heap.size ≤ q → A q) (hn : ¬ n < 0) (hN : n.toNatClampNeg = N') (hbytes : N' * 1 ≤ 536870912) (hcells : cells + 1 ≤ R.cells) (hslots : slots + N' ≤ R.slots) (hdg : decode cc pc = .ok (.newarray .boolean, 2))
    (kk : ∀ (q : Nat) (H1 : Heap), va_P g.1 vwCl (ws ++ [(q, .inl (gZ g, N', .inl (fun _ => 0)))]) H1 → va_D A (ws ++ [(q, .inl (gZ g, N', .inl (fun _ => 0)))]) → va_S A s.heap H1 locs → W p l e R s m args below meth c H1 locs (cells + 1) (slots + N') Q (F0 m (pc + 2) ls (.ref q :: rest))) : W p l e R s m args below meth c H locs cells slots Q (F0 m pc ls (.int n :: rest)) := by
  refine va_newa (atype := .boolean) (ty := .boolean) (a0 := (N', .inl (fun _ => 0))) hexec hb harr rfl hKW.1 hP hD hS hA (fun _ => rfl) hn hN hbytes hcells hslots hdg (fun q cA H1 hK1 hP1 hD1 hS1 => ?_)
  obtain rfl : cA = gZ g := k_oneC 2 rfl hK1
  exact kk q H1 hP1 hD1 hS1
theorem k_newN {own : String} {index : Nat} {n : Int32} {N' : Nat} (hexec : p.tables.exec = Jvm.exec) (hb : c.code = cc) (hown : s.vm.findClass own = some m.cls) (hcl : (Cond.classLink own index "SmallRooms$Nursery").before args s = true) (hKW : kKW g A s) (hP : va_P g.1 vwCl ws H) (hD : va_D A ws) (hS : va_S A s.heap H locs) (hA : ∀ q, s.heap.size ≤ q → A q) (hn : ¬ n < 0) (hN : n.toNatClampNeg = N') (hbytes : N' * 4 ≤ 536870912) (hcells : cells + 1 ≤ R.cells) (hslots : slots + N' ≤ R.slots) (hdg : decode cc pc = .ok (.anewarray index, 3))
    (kk : ∀ (q : Nat) (H1 : Heap), va_P g.1 vwCl (ws ++ [(q, .inl (gN g, N', .inr (.inr (.inr (.inr (fun _ => none))))))]) H1 → va_D A (ws ++ [(q, .inl (gN g, N', .inr (.inr (.inr (.inr (fun _ => none))))))]) → va_S A s.heap H1 locs → W p l e R s m args below meth c H1 locs (cells + 1) (slots + N') Q (F0 m (pc + 3) ls (.ref q :: rest))) : W p l e R s m args below meth c H locs cells slots Q (F0 m pc ls (.int n :: rest)) := by
  refine va_newq (C := "SmallRooms$Nursery") hexec hb hown hcl hKW.2.2.1 hKW.1 hP hD hS hA hn hN hbytes hcells hslots hdg (fun q cA H1 hK1 hP1 hD1 hS1 => ?_)
  obtain rfl : cA = gN g := k_oneC 3 rfl hK1
  exact kk q H1 hP1 hD1 hS1
theorem k_newS {own : String} {index : Nat} {n : Int32} {N' : Nat} (hexec : p.tables.exec = Jvm.exec) (hb : c.code = cc) (hown : s.vm.findClass own = some m.cls) (hcl : (Cond.classLink own index "SmallRooms$Sheet").before args s = true) (hKW : kKW g A s) (hP : va_P g.1 vwCl ws H) (hD : va_D A ws) (hS : va_S A s.heap H locs) (hA : ∀ q, s.heap.size ≤ q → A q) (hn : ¬ n < 0) (hN : n.toNatClampNeg = N') (hbytes : N' * 4 ≤ 536870912) (hcells : cells + 1 ≤ R.cells) (hslots : slots + N' ≤ R.slots) (hdg : decode cc pc = .ok (.anewarray index, 3))
    (kk : ∀ (q : Nat) (H1 : Heap), va_P g.1 vwCl (ws ++ [(q, .inl (gS g, N', .inr (.inr (.inr (.inr (fun _ => none))))))]) H1 → va_D A (ws ++ [(q, .inl (gS g, N', .inr (.inr (.inr (.inr (fun _ => none))))))]) → va_S A s.heap H1 locs → W p l e R s m args below meth c H1 locs (cells + 1) (slots + N') Q (F0 m (pc + 3) ls (.ref q :: rest))) : W p l e R s m args below meth c H locs cells slots Q (F0 m pc ls (.int n :: rest)) := by
  refine va_newq (C := "SmallRooms$Sheet") hexec hb hown hcl hKW.2.2.2.1 hKW.1 hP hD hS hA hn hN hbytes hcells hslots hdg (fun q cA H1 hK1 hP1 hD1 hS1 => ?_)
  obtain rfl : cA = gS g := k_oneC 4 rfl hK1
  exact kk q H1 hP1 hD1 hS1

theorem k_extP {a n q : Nat} {cA : ClassId} {f F : Nat → Int32} (hP : va_P g.1 vwCl ws H) (ha : ws[q]? = some (a, .inl (cA, n, .inl F))) (he : ∀ j, j < n → F j = f j) : va_P g.1 vwCl (ws.set q (a, .inl (cA, n, .inl f))) H := by
  intro k x hk
  by_cases hkq : q = k
  · subst hkq
    rw [List.getElem?_set_self (List.getElem?_eq_some_iff.mp ha).1] at hk
    cases hk
    have h1 := hP q _ ha
    show H[a]? = some (vp_cell cA (n, .inl f))
    have h2 : H[a]? = some (vp_cell cA (n, .inl F)) := h1
    rw [h2, vp_cell_i, vp_cell_i]
    unfold arrV
    congr 3
    funext j
    show Value.int (F j.val) = Value.int (f j.val)
    rw [he j.val j.isLt]
  · rw [List.getElem?_set_ne hkq] at hk
    exact hP k x hk
theorem k_extD {a q : Nat} {e0 e1 : va_E} (hD : va_D A ws) (ha : ws[q]? = some (a, e0)) : va_D A (ws.set q (a, e1)) := by
  have key : ∀ (k : Nat) (x : Nat × va_E), (ws.set q (a, e1))[k]? = some x → ∃ y, ws[k]? = some y ∧ y.1 = x.1 := by
    intro k x hk
    by_cases hkq : q = k
    · subst hkq
      rw [List.getElem?_set_self (List.getElem?_eq_some_iff.mp ha).1] at hk
      cases hk
      exact ⟨_, ha, rfl⟩
    · rw [List.getElem?_set_ne hkq] at hk
      exact ⟨x, hk, rfl⟩
  refine ⟨fun i j x y hx hy hxy => ?_, fun k x hk => ?_⟩
  · obtain ⟨x', h1, h2⟩ := key i x hx
    obtain ⟨y', h3, h4⟩ := key j y hy
    exact hD.1 i j x' y' h1 h3 (by rw [h2, h4]; exact hxy)
  · obtain ⟨x', h1, h2⟩ := key k x hk
    rw [← h2]
    exact hD.2 k x' h1
theorem k_cpyF {f F : Nat → Int32} {n j : Nat} (h : j < n) : va_cpy f F 0 0 n j = f j := by
  unfold va_cpy
  rw [if_pos ⟨Nat.zero_le _, by omega⟩]
  congr 1
  omega
theorem k_subP {X cx pl : va_W} (h : va_P g.1 vwCl (X ++ pl) H) : va_P g.1 vwCl X H := fun k q hk => h k q (by rw [List.getElem?_append_left (List.getElem?_eq_some_iff.mp hk).1]; exact hk)
theorem k_subD {X pl : va_W} (h : va_D A (X ++ pl)) : va_D A X := ⟨fun i j x y hx hy => h.1 i j x y (by rw [List.getElem?_append_left (List.getElem?_eq_some_iff.mp hx).1]; exact hx) (by rw [List.getElem?_append_left (List.getElem?_eq_some_iff.mp hy).1]; exact hy), fun k q hk => h.2 k q (by rw [List.getElem?_append_left (List.getElem?_eq_some_iff.mp hk).1]; exact hk)⟩
variable {own C host : String} {index n nn nL maxL lev mc ms : Nat} {y : MethodName} {bytes : ByteArray} {ret : Option FieldType} {As : List Value} {b : Addr} {wc wr X pl : va_W} {S : Type} {w1 rx pl1 : S → va_W}
theorem k_cb (hts : ∀ w ∈ wsL_law, w.before args s = true) (hcode : Cond.code y bytes maxL ret ∈ wsL_law) (hini : Cond.initialized y.cls ∈ wsL_law) (hl : Cond.methodLink own index y ∈ wsL_law) (hd : y.cls ≠ "java/lang/invoke/MethodHandle" ∧ y.cls ≠ "java/lang/invoke/VarHandle" ∧ (parseMethodDescriptor y.desc).map (fun d => d.parameters.length) = some n) (hR : lev + 1 ≤ R.frames ∧ 8 + (maxL + 11) + 64 * lev ≤ R.locals) : CallB R s args own index y bytes maxL ret (Cond.code y bytes maxL ret :: wsL_law) (kR lev mc ms) mc ms n :=
  callB_of n hts (k_goodC hcode) rfl rfl rfl (hts _ hini) (hts _ hl) hd hR
theorem k_cn (hts : ∀ w ∈ wsL_law, w.before args s = true) (hKW : kKW g A s) (hcode : Cond.code y bytes maxL ret ∈ wsL_law) (hini : Cond.initialized y.cls ∈ wsL_law) (hl : Cond.methodLinkNest own index y host ∈ nestW) (hd : y.cls ≠ "java/lang/invoke/MethodHandle" ∧ y.cls ≠ "java/lang/invoke/VarHandle" ∧ (parseMethodDescriptor y.desc).map (fun d => d.parameters.length) = some n) (hR : lev + 1 ≤ R.frames ∧ 8 + (maxL + 11) + 64 * lev ≤ R.locals) : va_CN R s args own index y host bytes maxL ret (Cond.code y bytes maxL ret :: wsL_law) (kR lev mc ms) mc ms n :=
  va_cnB n hts (k_goodC hcode) rfl rfl rfl (hKW.2.1 _ hl) (hts _ hini) hd hR
theorem k_pre {av : List Value} (hKW : kKW g A s) (hS : va_S A s.heap H locs) (hF : ∀ q, va_A wc H.size q → A q) (hP : va_P g.1 vwCl wc H) (hD : va_D A wc) : ∀ U : State, U.heap = H → s.WarmedH U.vm → va_Pc av (kPre g H.size wc) av.toArray U := fun U hU hW => ⟨rfl, by rw [hU], by rw [hU]; exact hP, kKW.call hW hU hS hF hKW, hD.weaken (fun _ _ _ _ => trivial)⟩
theorem k_Si {post : Int32 → S → Prop} (isC isR : List Nat) (hexec : p.tables.exec = Jvm.exec) (hb : c.code = cc) (hml : c.maxLocals = nL) (hown : s.vm.findClass own = some m.cls) (hts : ∀ w ∈ wsL_law, w.before args s = true) (hKW : kKW g A s) (hP : va_P g.1 vwCl ws H) (hD : va_D A ws) (hS : va_S A s.heap H locs) (hA : ∀ q, s.heap.size ≤ q → A q) (hsz : ls.size = nL)
    (hM : kMi l g y bytes maxL ret lev mc ms As H.size wc post w1)
    (hcode : Cond.code y bytes maxL ret ∈ wsL_law) (hini : Cond.initialized y.cls ∈ wsL_law) (hl : Cond.methodLink own index y ∈ wsL_law) (hst : Cond.static y ∈ wsL_law) (hd : y.cls ≠ "java/lang/invoke/MethodHandle" ∧ y.cls ≠ "java/lang/invoke/VarHandle" ∧ (parseMethodDescriptor y.desc).map (fun d => d.parameters.length) = some As.length) (hR : lev + 1 ≤ R.frames ∧ 8 + (maxL + 11) + 64 * lev ≤ R.locals)
    (hnC : va_nd isC = true) (hC2 : isC.map (fun i => ws[i]?) = wc.map some) (hnR : va_nd isR = true) (hR2 : isR.map (fun i => ws[i]?) = wr.map some) (hdis : ∀ i ∈ isR, i ∉ isC)
    {st0 : List Value} (hst0 : st0 = As.reverse ++ rest) (hcat : (rest.map fun v => v.category).sum ≤ 8) (hdg : decode cc pc = .ok (.invokestatic index, 3)) (hf : cells + mc ≤ R.cells ∧ slots + ms ≤ R.slots)
    (kk : ∀ (r : Int32) (u : S) (H1 : Heap) (locs1 : List Loc), post r u → va_P g.1 vwCl (wr ++ w1 u) H1 → va_D A (wr ++ w1 u) → va_S A s.heap H1 locs1 → W p l e R s m args below meth c H1 locs1 (cells + mc) (slots + ms) Q (F0 m (pc + 3) ls (.int r :: rest))) :
    W p l e R s m args below meth c H locs cells slots Q (F0 m pc ls st0) := by
  subst hst0
  have hFc := va_free (wc := wc) hD hS hA isC hC2
  have hPc : va_P g.1 vwCl wc H := hP.sub isC (k_fm hC2)
  have hDc := hD.sub isC hnC hC2
  refine va_calli (va_runS ⟨hexec, hb, hml, hown, hts⟩ hM ⟨k_cb hts hcode hini hl hd hR, hts _ hst⟩ ⟨kPre.blind _ _ _ _, k_pre hKW hS hFc hPc hDc⟩ rfl rfl hsz rfl (lv_room hcat) hdg hf) hS (fun q _ h => hFc q h) hFc (fun r u t H1 locs1 ht hvm hw hB hz1 hk1 hS1 => ?_)
  have h1 : va_P g.1 vwCl (w1 u) H1 := by rw [← ht]; exact hB.1
  obtain ⟨hP2, hD2⟩ := va_join hP hD isC isR hC2 hR2 hnR hdis hk1 hFc h1 hB.2
  exact kk r u H1 locs1 hw hP2 hD2 hS1
theorem k_SiQ {post : Int32 → S → Prop} (isC isR : List Nat) (hexec : p.tables.exec = Jvm.exec) (hb : c.code = cc) (hml : c.maxLocals = nL) (hown : s.vm.findClass own = some m.cls) (hts : ∀ w ∈ wsL_law, w.before args s = true) (hKW : kKW g A s) (hP : va_P g.1 vwCl (X ++ pl) H) (hD : va_D A (X ++ pl)) (hS : va_S A s.heap H locs) (hA : ∀ q, s.heap.size ≤ q → A q) (hsz : ls.size = nL)
    (hM : kMi l g y bytes maxL ret lev mc ms As H.size wc post w1)
    (hcode : Cond.code y bytes maxL ret ∈ wsL_law) (hini : Cond.initialized y.cls ∈ wsL_law) (hl : Cond.methodLink own index y ∈ wsL_law) (hst : Cond.static y ∈ wsL_law) (hd : y.cls ≠ "java/lang/invoke/MethodHandle" ∧ y.cls ≠ "java/lang/invoke/VarHandle" ∧ (parseMethodDescriptor y.desc).map (fun d => d.parameters.length) = some As.length) (hR : lev + 1 ≤ R.frames ∧ 8 + (maxL + 11) + 64 * lev ≤ R.locals)
    (hnC : va_nd isC = true) (hC2 : isC.map (fun i => X[i]?) = wc.map some) (hnR : va_nd isR = true) (hR2 : isR.map (fun i => X[i]?) = wr.map some) (hdis : ∀ i ∈ isR, i ∉ isC)
    {st0 : List Value} (hst0 : st0 = As.reverse ++ rest) (hcat : (rest.map fun v => v.category).sum ≤ 8) (hdg : decode cc pc = .ok (.invokestatic index, 3)) (hf : cells + mc ≤ R.cells ∧ slots + ms ≤ R.slots)
    (kk : ∀ (r : Int32) (u : S) (H1 : Heap) (locs1 : List Loc), post r u → va_P g.1 vwCl ((wr ++ w1 u) ++ pl) H1 → va_D A ((wr ++ w1 u) ++ pl) → va_S A s.heap H1 locs1 → W p l e R s m args below meth c H1 locs1 (cells + mc) (slots + ms) Q (F0 m (pc + 3) ls (.int r :: rest))) :
    W p l e R s m args below meth c H locs cells slots Q (F0 m pc ls st0) := by
  subst hst0
  have hFc := va_free (wc := wc) (k_subD hD) hS hA isC hC2
  have hPc : va_P g.1 vwCl wc H := (k_subP (cx := wc) hP).sub isC (k_fm hC2)
  have hDc := (k_subD hD).sub isC hnC hC2
  refine va_calli (va_runS ⟨hexec, hb, hml, hown, hts⟩ hM ⟨k_cb hts hcode hini hl hd hR, hts _ hst⟩ ⟨kPre.blind _ _ _ _, k_pre hKW hS hFc hPc hDc⟩ rfl rfl hsz rfl (lv_room hcat) hdg hf) hS (fun q _ h => hFc q h) hFc (fun r u t H1 locs1 ht hvm hw hB hz1 hk1 hS1 => ?_)
  have h1 : va_P g.1 vwCl (w1 u) H1 := by rw [← ht]; exact hB.1
  obtain ⟨hP2, hD2⟩ := va_joinQ hP hD isC isR hC2 hR2 hnR hdis hk1 hFc h1 hB.2
  exact kk r u H1 locs1 hw hP2 hD2 hS1
theorem k_Sv {post : S → Prop} (isC isR : List Nat) (hexec : p.tables.exec = Jvm.exec) (hb : c.code = cc) (hml : c.maxLocals = nL) (hown : s.vm.findClass own = some m.cls) (hts : ∀ w ∈ wsL_law, w.before args s = true) (hKW : kKW g A s) (hP : va_P g.1 vwCl ws H) (hD : va_D A ws) (hS : va_S A s.heap H locs) (hA : ∀ q, s.heap.size ≤ q → A q) (hsz : ls.size = nL)
    (hM : kMv l g y bytes maxL ret lev mc ms As H.size wc post w1)
    (hcode : Cond.code y bytes maxL ret ∈ wsL_law) (hini : Cond.initialized y.cls ∈ wsL_law) (hl : Cond.methodLink own index y ∈ wsL_law) (hst : Cond.static y ∈ wsL_law) (hd : y.cls ≠ "java/lang/invoke/MethodHandle" ∧ y.cls ≠ "java/lang/invoke/VarHandle" ∧ (parseMethodDescriptor y.desc).map (fun d => d.parameters.length) = some As.length) (hR : lev + 1 ≤ R.frames ∧ 8 + (maxL + 11) + 64 * lev ≤ R.locals)
    (hnC : va_nd isC = true) (hC2 : isC.map (fun i => ws[i]?) = wc.map some) (hnR : va_nd isR = true) (hR2 : isR.map (fun i => ws[i]?) = wr.map some) (hdis : ∀ i ∈ isR, i ∉ isC)
    {st0 : List Value} (hst0 : st0 = As.reverse ++ rest) (hcat : (rest.map fun v => v.category).sum ≤ 8) (hdg : decode cc pc = .ok (.invokestatic index, 3)) (hf : cells + mc ≤ R.cells ∧ slots + ms ≤ R.slots)
    (kk : ∀ (u : S) (H1 : Heap) (locs1 : List Loc), post u → va_P g.1 vwCl (wr ++ w1 u) H1 → va_D A (wr ++ w1 u) → va_S A s.heap H1 locs1 → W p l e R s m args below meth c H1 locs1 (cells + mc) (slots + ms) Q (F0 m (pc + 3) ls rest)) :
    W p l e R s m args below meth c H locs cells slots Q (F0 m pc ls st0) := by
  subst hst0
  have hFc := va_free (wc := wc) hD hS hA isC hC2
  have hPc : va_P g.1 vwCl wc H := hP.sub isC (k_fm hC2)
  have hDc := hD.sub isC hnC hC2
  refine va_callv (va_runS ⟨hexec, hb, hml, hown, hts⟩ hM ⟨k_cb hts hcode hini hl hd hR, hts _ hst⟩ ⟨kPre.blind _ _ _ _, k_pre hKW hS hFc hPc hDc⟩ rfl rfl hsz rfl (lv_room hcat) hdg hf) hS (fun q _ h => hFc q h) hFc (fun u t H1 locs1 ht hvm hw hB hz1 hk1 hS1 => ?_)
  have h1 : va_P g.1 vwCl (w1 u) H1 := by rw [← ht]; exact hB.1
  obtain ⟨hP2, hD2⟩ := va_join hP hD isC isR hC2 hR2 hnR hdis hk1 hFc h1 hB.2
  exact kk u H1 locs1 hw hP2 hD2 hS1
theorem k_SvQ {post : S → Prop} (isC isR : List Nat) (hexec : p.tables.exec = Jvm.exec) (hb : c.code = cc) (hml : c.maxLocals = nL) (hown : s.vm.findClass own = some m.cls) (hts : ∀ w ∈ wsL_law, w.before args s = true) (hKW : kKW g A s) (hP : va_P g.1 vwCl (X ++ pl) H) (hD : va_D A (X ++ pl)) (hS : va_S A s.heap H locs) (hA : ∀ q, s.heap.size ≤ q → A q) (hsz : ls.size = nL)
    (hM : kMv l g y bytes maxL ret lev mc ms As H.size wc post w1)
    (hcode : Cond.code y bytes maxL ret ∈ wsL_law) (hini : Cond.initialized y.cls ∈ wsL_law) (hl : Cond.methodLink own index y ∈ wsL_law) (hst : Cond.static y ∈ wsL_law) (hd : y.cls ≠ "java/lang/invoke/MethodHandle" ∧ y.cls ≠ "java/lang/invoke/VarHandle" ∧ (parseMethodDescriptor y.desc).map (fun d => d.parameters.length) = some As.length) (hR : lev + 1 ≤ R.frames ∧ 8 + (maxL + 11) + 64 * lev ≤ R.locals)
    (hnC : va_nd isC = true) (hC2 : isC.map (fun i => X[i]?) = wc.map some) (hnR : va_nd isR = true) (hR2 : isR.map (fun i => X[i]?) = wr.map some) (hdis : ∀ i ∈ isR, i ∉ isC)
    {st0 : List Value} (hst0 : st0 = As.reverse ++ rest) (hcat : (rest.map fun v => v.category).sum ≤ 8) (hdg : decode cc pc = .ok (.invokestatic index, 3)) (hf : cells + mc ≤ R.cells ∧ slots + ms ≤ R.slots)
    (kk : ∀ (u : S) (H1 : Heap) (locs1 : List Loc), post u → va_P g.1 vwCl ((wr ++ w1 u) ++ pl) H1 → va_D A ((wr ++ w1 u) ++ pl) → va_S A s.heap H1 locs1 → W p l e R s m args below meth c H1 locs1 (cells + mc) (slots + ms) Q (F0 m (pc + 3) ls rest)) :
    W p l e R s m args below meth c H locs cells slots Q (F0 m pc ls st0) := by
  subst hst0
  have hFc := va_free (wc := wc) (k_subD hD) hS hA isC hC2
  have hPc : va_P g.1 vwCl wc H := (k_subP (cx := wc) hP).sub isC (k_fm hC2)
  have hDc := (k_subD hD).sub isC hnC hC2
  refine va_callv (va_runS ⟨hexec, hb, hml, hown, hts⟩ hM ⟨k_cb hts hcode hini hl hd hR, hts _ hst⟩ ⟨kPre.blind _ _ _ _, k_pre hKW hS hFc hPc hDc⟩ rfl rfl hsz rfl (lv_room hcat) hdg hf) hS (fun q _ h => hFc q h) hFc (fun u t H1 locs1 ht hvm hw hB hz1 hk1 hS1 => ?_)
  have h1 : va_P g.1 vwCl (w1 u) H1 := by rw [← ht]; exact hB.1
  obtain ⟨hP2, hD2⟩ := va_joinQ hP hD isC isR hC2 hR2 hnR hdis hk1 hFc h1 hB.2
  exact kk u H1 locs1 hw hP2 hD2 hS1
theorem k_Sl {post : Int64 → S → Prop} (isC isR : List Nat) (hexec : p.tables.exec = Jvm.exec) (hb : c.code = cc) (hml : c.maxLocals = nL) (hown : s.vm.findClass own = some m.cls) (hts : ∀ w ∈ wsL_law, w.before args s = true) (hKW : kKW g A s) (hP : va_P g.1 vwCl ws H) (hD : va_D A ws) (hS : va_S A s.heap H locs) (hA : ∀ q, s.heap.size ≤ q → A q) (hsz : ls.size = nL)
    (hM : kMl l g y bytes maxL ret lev mc ms As H.size wc post w1)
    (hcode : Cond.code y bytes maxL ret ∈ wsL_law) (hini : Cond.initialized y.cls ∈ wsL_law) (hl : Cond.methodLink own index y ∈ wsL_law) (hst : Cond.static y ∈ wsL_law) (hd : y.cls ≠ "java/lang/invoke/MethodHandle" ∧ y.cls ≠ "java/lang/invoke/VarHandle" ∧ (parseMethodDescriptor y.desc).map (fun d => d.parameters.length) = some As.length) (hR : lev + 1 ≤ R.frames ∧ 8 + (maxL + 11) + 64 * lev ≤ R.locals)
    (hnC : va_nd isC = true) (hC2 : isC.map (fun i => ws[i]?) = wc.map some) (hnR : va_nd isR = true) (hR2 : isR.map (fun i => ws[i]?) = wr.map some) (hdis : ∀ i ∈ isR, i ∉ isC)
    {st0 : List Value} (hst0 : st0 = As.reverse ++ rest) (hcat : (rest.map fun v => v.category).sum ≤ 8) (hdg : decode cc pc = .ok (.invokestatic index, 3)) (hf : cells + mc ≤ R.cells ∧ slots + ms ≤ R.slots)
    (kk : ∀ (r : Int64) (u : S) (H1 : Heap) (locs1 : List Loc), post r u → va_P g.1 vwCl (wr ++ w1 u) H1 → va_D A (wr ++ w1 u) → va_S A s.heap H1 locs1 → W p l e R s m args below meth c H1 locs1 (cells + mc) (slots + ms) Q (F0 m (pc + 3) ls (.long r :: rest))) :
    W p l e R s m args below meth c H locs cells slots Q (F0 m pc ls st0) := by
  subst hst0
  have hFc := va_free (wc := wc) hD hS hA isC hC2
  have hPc : va_P g.1 vwCl wc H := hP.sub isC (k_fm hC2)
  have hDc := hD.sub isC hnC hC2
  refine va_calll (va_runS ⟨hexec, hb, hml, hown, hts⟩ hM ⟨k_cb hts hcode hini hl hd hR, hts _ hst⟩ ⟨kPre.blind _ _ _ _, k_pre hKW hS hFc hPc hDc⟩ rfl rfl hsz rfl (lv_room hcat) hdg hf) hS (fun q _ h => hFc q h) hFc (fun r u t H1 locs1 ht hvm hw hB hz1 hk1 hS1 => ?_)
  have h1 : va_P g.1 vwCl (w1 u) H1 := by rw [← ht]; exact hB.1
  obtain ⟨hP2, hD2⟩ := va_join hP hD isC isR hC2 hR2 hnR hdis hk1 hFc h1 hB.2
  exact kk r u H1 locs1 hw hP2 hD2 hS1
theorem k_SlQ {post : Int64 → S → Prop} (isC isR : List Nat) (hexec : p.tables.exec = Jvm.exec) (hb : c.code = cc) (hml : c.maxLocals = nL) (hown : s.vm.findClass own = some m.cls) (hts : ∀ w ∈ wsL_law, w.before args s = true) (hKW : kKW g A s) (hP : va_P g.1 vwCl (X ++ pl) H) (hD : va_D A (X ++ pl)) (hS : va_S A s.heap H locs) (hA : ∀ q, s.heap.size ≤ q → A q) (hsz : ls.size = nL)
    (hM : kMl l g y bytes maxL ret lev mc ms As H.size wc post w1)
    (hcode : Cond.code y bytes maxL ret ∈ wsL_law) (hini : Cond.initialized y.cls ∈ wsL_law) (hl : Cond.methodLink own index y ∈ wsL_law) (hst : Cond.static y ∈ wsL_law) (hd : y.cls ≠ "java/lang/invoke/MethodHandle" ∧ y.cls ≠ "java/lang/invoke/VarHandle" ∧ (parseMethodDescriptor y.desc).map (fun d => d.parameters.length) = some As.length) (hR : lev + 1 ≤ R.frames ∧ 8 + (maxL + 11) + 64 * lev ≤ R.locals)
    (hnC : va_nd isC = true) (hC2 : isC.map (fun i => X[i]?) = wc.map some) (hnR : va_nd isR = true) (hR2 : isR.map (fun i => X[i]?) = wr.map some) (hdis : ∀ i ∈ isR, i ∉ isC)
    {st0 : List Value} (hst0 : st0 = As.reverse ++ rest) (hcat : (rest.map fun v => v.category).sum ≤ 8) (hdg : decode cc pc = .ok (.invokestatic index, 3)) (hf : cells + mc ≤ R.cells ∧ slots + ms ≤ R.slots)
    (kk : ∀ (r : Int64) (u : S) (H1 : Heap) (locs1 : List Loc), post r u → va_P g.1 vwCl ((wr ++ w1 u) ++ pl) H1 → va_D A ((wr ++ w1 u) ++ pl) → va_S A s.heap H1 locs1 → W p l e R s m args below meth c H1 locs1 (cells + mc) (slots + ms) Q (F0 m (pc + 3) ls (.long r :: rest))) :
    W p l e R s m args below meth c H locs cells slots Q (F0 m pc ls st0) := by
  subst hst0
  have hFc := va_free (wc := wc) (k_subD hD) hS hA isC hC2
  have hPc : va_P g.1 vwCl wc H := (k_subP (cx := wc) hP).sub isC (k_fm hC2)
  have hDc := (k_subD hD).sub isC hnC hC2
  refine va_calll (va_runS ⟨hexec, hb, hml, hown, hts⟩ hM ⟨k_cb hts hcode hini hl hd hR, hts _ hst⟩ ⟨kPre.blind _ _ _ _, k_pre hKW hS hFc hPc hDc⟩ rfl rfl hsz rfl (lv_room hcat) hdg hf) hS (fun q _ h => hFc q h) hFc (fun r u t H1 locs1 ht hvm hw hB hz1 hk1 hS1 => ?_)
  have h1 : va_P g.1 vwCl (w1 u) H1 := by rw [← ht]; exact hB.1
  obtain ⟨hP2, hD2⟩ := va_joinQ hP hD isC isR hC2 hR2 hnR hdis hk1 hFc h1 hB.2
  exact kk r u H1 locs1 hw hP2 hD2 hS1
theorem k_SNi {post : Int32 → S → Prop} (isC isR : List Nat) (hexec : p.tables.exec = Jvm.exec) (hb : c.code = cc) (hml : c.maxLocals = nL) (hown : s.vm.findClass own = some m.cls) (hts : ∀ w ∈ wsL_law, w.before args s = true) (hKW : kKW g A s) (hP : va_P g.1 vwCl ws H) (hD : va_D A ws) (hS : va_S A s.heap H locs) (hA : ∀ q, s.heap.size ≤ q → A q) (hsz : ls.size = nL)
    (hM : kMi l g y bytes maxL ret lev mc ms As H.size wc post w1)
    (hcode : Cond.code y bytes maxL ret ∈ wsL_law) (hini : Cond.initialized y.cls ∈ wsL_law) (hl : Cond.methodLinkNest own index y host ∈ nestW) (hst : Cond.static y ∈ wsL_law) (hd : y.cls ≠ "java/lang/invoke/MethodHandle" ∧ y.cls ≠ "java/lang/invoke/VarHandle" ∧ (parseMethodDescriptor y.desc).map (fun d => d.parameters.length) = some As.length) (hR : lev + 1 ≤ R.frames ∧ 8 + (maxL + 11) + 64 * lev ≤ R.locals)
    (hnC : va_nd isC = true) (hC2 : isC.map (fun i => ws[i]?) = wc.map some) (hnR : va_nd isR = true) (hR2 : isR.map (fun i => ws[i]?) = wr.map some) (hdis : ∀ i ∈ isR, i ∉ isC)
    {st0 : List Value} (hst0 : st0 = As.reverse ++ rest) (hcat : (rest.map fun v => v.category).sum ≤ 8) (hdg : decode cc pc = .ok (.invokestatic index, 3)) (hf : cells + mc ≤ R.cells ∧ slots + ms ≤ R.slots)
    (kk : ∀ (r : Int32) (u : S) (H1 : Heap) (locs1 : List Loc), post r u → va_P g.1 vwCl (wr ++ w1 u) H1 → va_D A (wr ++ w1 u) → va_S A s.heap H1 locs1 → W p l e R s m args below meth c H1 locs1 (cells + mc) (slots + ms) Q (F0 m (pc + 3) ls (.int r :: rest))) :
    W p l e R s m args below meth c H locs cells slots Q (F0 m pc ls st0) := by
  subst hst0
  have hFc := va_free (wc := wc) hD hS hA isC hC2
  have hPc : va_P g.1 vwCl wc H := hP.sub isC (k_fm hC2)
  have hDc := hD.sub isC hnC hC2
  refine va_calli (va_runSN ⟨hexec, hb, hml, hown, hts⟩ hM ⟨k_cn hts hKW hcode hini hl hd hR, hts _ hst, trivial⟩ ⟨kPre.blind _ _ _ _, k_pre hKW hS hFc hPc hDc⟩ rfl rfl hsz rfl (lv_room hcat) hdg hf) hS (fun q _ h => hFc q h) hFc (fun r u t H1 locs1 ht hvm hw hB hz1 hk1 hS1 => ?_)
  have h1 : va_P g.1 vwCl (w1 u) H1 := by rw [← ht]; exact hB.1
  obtain ⟨hP2, hD2⟩ := va_join hP hD isC isR hC2 hR2 hnR hdis hk1 hFc h1 hB.2
  exact kk r u H1 locs1 hw hP2 hD2 hS1
theorem k_SNiQ {post : Int32 → S → Prop} (isC isR : List Nat) (hexec : p.tables.exec = Jvm.exec) (hb : c.code = cc) (hml : c.maxLocals = nL) (hown : s.vm.findClass own = some m.cls) (hts : ∀ w ∈ wsL_law, w.before args s = true) (hKW : kKW g A s) (hP : va_P g.1 vwCl (X ++ pl) H) (hD : va_D A (X ++ pl)) (hS : va_S A s.heap H locs) (hA : ∀ q, s.heap.size ≤ q → A q) (hsz : ls.size = nL)
    (hM : kMi l g y bytes maxL ret lev mc ms As H.size wc post w1)
    (hcode : Cond.code y bytes maxL ret ∈ wsL_law) (hini : Cond.initialized y.cls ∈ wsL_law) (hl : Cond.methodLinkNest own index y host ∈ nestW) (hst : Cond.static y ∈ wsL_law) (hd : y.cls ≠ "java/lang/invoke/MethodHandle" ∧ y.cls ≠ "java/lang/invoke/VarHandle" ∧ (parseMethodDescriptor y.desc).map (fun d => d.parameters.length) = some As.length) (hR : lev + 1 ≤ R.frames ∧ 8 + (maxL + 11) + 64 * lev ≤ R.locals)
    (hnC : va_nd isC = true) (hC2 : isC.map (fun i => X[i]?) = wc.map some) (hnR : va_nd isR = true) (hR2 : isR.map (fun i => X[i]?) = wr.map some) (hdis : ∀ i ∈ isR, i ∉ isC)
    {st0 : List Value} (hst0 : st0 = As.reverse ++ rest) (hcat : (rest.map fun v => v.category).sum ≤ 8) (hdg : decode cc pc = .ok (.invokestatic index, 3)) (hf : cells + mc ≤ R.cells ∧ slots + ms ≤ R.slots)
    (kk : ∀ (r : Int32) (u : S) (H1 : Heap) (locs1 : List Loc), post r u → va_P g.1 vwCl ((wr ++ w1 u) ++ pl) H1 → va_D A ((wr ++ w1 u) ++ pl) → va_S A s.heap H1 locs1 → W p l e R s m args below meth c H1 locs1 (cells + mc) (slots + ms) Q (F0 m (pc + 3) ls (.int r :: rest))) :
    W p l e R s m args below meth c H locs cells slots Q (F0 m pc ls st0) := by
  subst hst0
  have hFc := va_free (wc := wc) (k_subD hD) hS hA isC hC2
  have hPc : va_P g.1 vwCl wc H := (k_subP (cx := wc) hP).sub isC (k_fm hC2)
  have hDc := (k_subD hD).sub isC hnC hC2
  refine va_calli (va_runSN ⟨hexec, hb, hml, hown, hts⟩ hM ⟨k_cn hts hKW hcode hini hl hd hR, hts _ hst, trivial⟩ ⟨kPre.blind _ _ _ _, k_pre hKW hS hFc hPc hDc⟩ rfl rfl hsz rfl (lv_room hcat) hdg hf) hS (fun q _ h => hFc q h) hFc (fun r u t H1 locs1 ht hvm hw hB hz1 hk1 hS1 => ?_)
  have h1 : va_P g.1 vwCl (w1 u) H1 := by rw [← ht]; exact hB.1
  obtain ⟨hP2, hD2⟩ := va_joinQ hP hD isC isR hC2 hR2 hnR hdis hk1 hFc h1 hB.2
  exact kk r u H1 locs1 hw hP2 hD2 hS1
theorem k_SNl {post : Int64 → S → Prop} (isC isR : List Nat) (hexec : p.tables.exec = Jvm.exec) (hb : c.code = cc) (hml : c.maxLocals = nL) (hown : s.vm.findClass own = some m.cls) (hts : ∀ w ∈ wsL_law, w.before args s = true) (hKW : kKW g A s) (hP : va_P g.1 vwCl ws H) (hD : va_D A ws) (hS : va_S A s.heap H locs) (hA : ∀ q, s.heap.size ≤ q → A q) (hsz : ls.size = nL)
    (hM : kMl l g y bytes maxL ret lev mc ms As H.size wc post w1)
    (hcode : Cond.code y bytes maxL ret ∈ wsL_law) (hini : Cond.initialized y.cls ∈ wsL_law) (hl : Cond.methodLinkNest own index y host ∈ nestW) (hst : Cond.static y ∈ wsL_law) (hd : y.cls ≠ "java/lang/invoke/MethodHandle" ∧ y.cls ≠ "java/lang/invoke/VarHandle" ∧ (parseMethodDescriptor y.desc).map (fun d => d.parameters.length) = some As.length) (hR : lev + 1 ≤ R.frames ∧ 8 + (maxL + 11) + 64 * lev ≤ R.locals)
    (hnC : va_nd isC = true) (hC2 : isC.map (fun i => ws[i]?) = wc.map some) (hnR : va_nd isR = true) (hR2 : isR.map (fun i => ws[i]?) = wr.map some) (hdis : ∀ i ∈ isR, i ∉ isC)
    {st0 : List Value} (hst0 : st0 = As.reverse ++ rest) (hcat : (rest.map fun v => v.category).sum ≤ 8) (hdg : decode cc pc = .ok (.invokestatic index, 3)) (hf : cells + mc ≤ R.cells ∧ slots + ms ≤ R.slots)
    (kk : ∀ (r : Int64) (u : S) (H1 : Heap) (locs1 : List Loc), post r u → va_P g.1 vwCl (wr ++ w1 u) H1 → va_D A (wr ++ w1 u) → va_S A s.heap H1 locs1 → W p l e R s m args below meth c H1 locs1 (cells + mc) (slots + ms) Q (F0 m (pc + 3) ls (.long r :: rest))) :
    W p l e R s m args below meth c H locs cells slots Q (F0 m pc ls st0) := by
  subst hst0
  have hFc := va_free (wc := wc) hD hS hA isC hC2
  have hPc : va_P g.1 vwCl wc H := hP.sub isC (k_fm hC2)
  have hDc := hD.sub isC hnC hC2
  refine va_calll (va_runSN ⟨hexec, hb, hml, hown, hts⟩ hM ⟨k_cn hts hKW hcode hini hl hd hR, hts _ hst, trivial⟩ ⟨kPre.blind _ _ _ _, k_pre hKW hS hFc hPc hDc⟩ rfl rfl hsz rfl (lv_room hcat) hdg hf) hS (fun q _ h => hFc q h) hFc (fun r u t H1 locs1 ht hvm hw hB hz1 hk1 hS1 => ?_)
  have h1 : va_P g.1 vwCl (w1 u) H1 := by rw [← ht]; exact hB.1
  obtain ⟨hP2, hD2⟩ := va_join hP hD isC isR hC2 hR2 hnR hdis hk1 hFc h1 hB.2
  exact kk r u H1 locs1 hw hP2 hD2 hS1
theorem k_SNlQ {post : Int64 → S → Prop} (isC isR : List Nat) (hexec : p.tables.exec = Jvm.exec) (hb : c.code = cc) (hml : c.maxLocals = nL) (hown : s.vm.findClass own = some m.cls) (hts : ∀ w ∈ wsL_law, w.before args s = true) (hKW : kKW g A s) (hP : va_P g.1 vwCl (X ++ pl) H) (hD : va_D A (X ++ pl)) (hS : va_S A s.heap H locs) (hA : ∀ q, s.heap.size ≤ q → A q) (hsz : ls.size = nL)
    (hM : kMl l g y bytes maxL ret lev mc ms As H.size wc post w1)
    (hcode : Cond.code y bytes maxL ret ∈ wsL_law) (hini : Cond.initialized y.cls ∈ wsL_law) (hl : Cond.methodLinkNest own index y host ∈ nestW) (hst : Cond.static y ∈ wsL_law) (hd : y.cls ≠ "java/lang/invoke/MethodHandle" ∧ y.cls ≠ "java/lang/invoke/VarHandle" ∧ (parseMethodDescriptor y.desc).map (fun d => d.parameters.length) = some As.length) (hR : lev + 1 ≤ R.frames ∧ 8 + (maxL + 11) + 64 * lev ≤ R.locals)
    (hnC : va_nd isC = true) (hC2 : isC.map (fun i => X[i]?) = wc.map some) (hnR : va_nd isR = true) (hR2 : isR.map (fun i => X[i]?) = wr.map some) (hdis : ∀ i ∈ isR, i ∉ isC)
    {st0 : List Value} (hst0 : st0 = As.reverse ++ rest) (hcat : (rest.map fun v => v.category).sum ≤ 8) (hdg : decode cc pc = .ok (.invokestatic index, 3)) (hf : cells + mc ≤ R.cells ∧ slots + ms ≤ R.slots)
    (kk : ∀ (r : Int64) (u : S) (H1 : Heap) (locs1 : List Loc), post r u → va_P g.1 vwCl ((wr ++ w1 u) ++ pl) H1 → va_D A ((wr ++ w1 u) ++ pl) → va_S A s.heap H1 locs1 → W p l e R s m args below meth c H1 locs1 (cells + mc) (slots + ms) Q (F0 m (pc + 3) ls (.long r :: rest))) :
    W p l e R s m args below meth c H locs cells slots Q (F0 m pc ls st0) := by
  subst hst0
  have hFc := va_free (wc := wc) (k_subD hD) hS hA isC hC2
  have hPc : va_P g.1 vwCl wc H := (k_subP (cx := wc) hP).sub isC (k_fm hC2)
  have hDc := (k_subD hD).sub isC hnC hC2
  refine va_calll (va_runSN ⟨hexec, hb, hml, hown, hts⟩ hM ⟨k_cn hts hKW hcode hini hl hd hR, hts _ hst, trivial⟩ ⟨kPre.blind _ _ _ _, k_pre hKW hS hFc hPc hDc⟩ rfl rfl hsz rfl (lv_room hcat) hdg hf) hS (fun q _ h => hFc q h) hFc (fun r u t H1 locs1 ht hvm hw hB hz1 hk1 hS1 => ?_)
  have h1 : va_P g.1 vwCl (w1 u) H1 := by rw [← ht]; exact hB.1
  obtain ⟨hP2, hD2⟩ := va_joinQ hP hD isC isR hC2 hR2 hnR hdis hk1 hFc h1 hB.2
  exact kk r u H1 locs1 hw hP2 hD2 hS1
theorem k_Vi {post : Int32 → S → Prop} (isC isR : List Nat) (rq ci : Nat) {qc : vw_C} {fs : List Value} (hexec : p.tables.exec = Jvm.exec) (hb : c.code = cc) (hml : c.maxLocals = nL) (hown : s.vm.findClass own = some m.cls) (hts : ∀ w ∈ wsL_law, w.before args s = true) (hKW : kKW g A s) (hP : va_P g.1 vwCl ws H) (hD : va_D A ws) (hS : va_S A s.heap H locs) (hA : ∀ q, s.heap.size ≤ q → A q) (hsz : ls.size = nL)
    (hM : kMi l g y bytes maxL ret lev mc ms (.ref b :: As) H.size wc post w1) (hrc : vwCl[ci]? = some qc) (hre : ws[rq]? = some (b, .inr (ci, fs))) (hyc : y.cls = qc.1)
    (hcode : Cond.code y bytes maxL ret ∈ wsL_law) (hini : Cond.initialized y.cls ∈ wsL_law) (hl : Cond.methodLink own index y ∈ wsL_law) (hin : Cond.instanceMethod y ∈ wsL_law) (hse : Cond.selects y.cls y y ∈ wsL_law) (hd : y.cls ≠ "java/lang/invoke/MethodHandle" ∧ y.cls ≠ "java/lang/invoke/VarHandle" ∧ (parseMethodDescriptor y.desc).map (fun d => d.parameters.length) = some As.length) (hR : lev + 1 ≤ R.frames ∧ 8 + (maxL + 11) + 64 * lev ≤ R.locals)
    (hnC : va_nd isC = true) (hC2 : isC.map (fun i => ws[i]?) = wc.map some) (hnR : va_nd isR = true) (hR2 : isR.map (fun i => ws[i]?) = wr.map some) (hdis : ∀ i ∈ isR, i ∉ isC)
    {st0 : List Value} (hst0 : st0 = As.reverse ++ .ref b :: rest) (hcat : (rest.map fun v => v.category).sum ≤ 8) (hdg : decode cc pc = .ok (.invokevirtual index, 3)) (hf : cells + mc ≤ R.cells ∧ slots + ms ≤ R.slots)
    (kk : ∀ (r : Int32) (u : S) (H1 : Heap) (locs1 : List Loc), post r u → va_P g.1 vwCl (wr ++ w1 u) H1 → va_D A (wr ++ w1 u) → va_S A s.heap H1 locs1 → W p l e R s m args below meth c H1 locs1 (cells + mc) (slots + ms) Q (F0 m (pc + 3) ls (.int r :: rest))) :
    W p l e R s m args below meth c H locs cells slots Q (F0 m pc ls st0) := by
  subst hst0
  have hFc := va_free (wc := wc) hD hS hA isC hC2
  have hPc : va_P g.1 vwCl wc H := hP.sub isC (k_fm hC2)
  have hDc := hD.sub isC hnC hC2
  refine va_calli (va_runV (C := y.cls) (As := As) ⟨hexec, hb, hml, hown, hts⟩ hM ⟨k_cb hts hcode hini hl hd hR, hts _ hin, hts _ hse⟩ ⟨kPre.blind _ _ _ _, hyc ▸ va_recv hKW.1 hP hrc hre, k_pre hKW hS hFc hPc hDc⟩ rfl rfl hsz rfl (lv_room hcat) hdg hf) hS (fun q _ h => hFc q h) hFc (fun r u t H1 locs1 ht hvm hw hB hz1 hk1 hS1 => ?_)
  have h1 : va_P g.1 vwCl (w1 u) H1 := by rw [← ht]; exact hB.1
  obtain ⟨hP2, hD2⟩ := va_join hP hD isC isR hC2 hR2 hnR hdis hk1 hFc h1 hB.2
  exact kk r u H1 locs1 hw hP2 hD2 hS1
theorem k_ViQ {post : Int32 → S → Prop} (isC isR : List Nat) (rq ci : Nat) {qc : vw_C} {fs : List Value} (hexec : p.tables.exec = Jvm.exec) (hb : c.code = cc) (hml : c.maxLocals = nL) (hown : s.vm.findClass own = some m.cls) (hts : ∀ w ∈ wsL_law, w.before args s = true) (hKW : kKW g A s) (hP : va_P g.1 vwCl (X ++ pl) H) (hD : va_D A (X ++ pl)) (hS : va_S A s.heap H locs) (hA : ∀ q, s.heap.size ≤ q → A q) (hsz : ls.size = nL)
    (hM : kMi l g y bytes maxL ret lev mc ms (.ref b :: As) H.size wc post w1) (hrc : vwCl[ci]? = some qc) (hre : (X ++ pl)[rq]? = some (b, .inr (ci, fs))) (hyc : y.cls = qc.1)
    (hcode : Cond.code y bytes maxL ret ∈ wsL_law) (hini : Cond.initialized y.cls ∈ wsL_law) (hl : Cond.methodLink own index y ∈ wsL_law) (hin : Cond.instanceMethod y ∈ wsL_law) (hse : Cond.selects y.cls y y ∈ wsL_law) (hd : y.cls ≠ "java/lang/invoke/MethodHandle" ∧ y.cls ≠ "java/lang/invoke/VarHandle" ∧ (parseMethodDescriptor y.desc).map (fun d => d.parameters.length) = some As.length) (hR : lev + 1 ≤ R.frames ∧ 8 + (maxL + 11) + 64 * lev ≤ R.locals)
    (hnC : va_nd isC = true) (hC2 : isC.map (fun i => X[i]?) = wc.map some) (hnR : va_nd isR = true) (hR2 : isR.map (fun i => X[i]?) = wr.map some) (hdis : ∀ i ∈ isR, i ∉ isC)
    {st0 : List Value} (hst0 : st0 = As.reverse ++ .ref b :: rest) (hcat : (rest.map fun v => v.category).sum ≤ 8) (hdg : decode cc pc = .ok (.invokevirtual index, 3)) (hf : cells + mc ≤ R.cells ∧ slots + ms ≤ R.slots)
    (kk : ∀ (r : Int32) (u : S) (H1 : Heap) (locs1 : List Loc), post r u → va_P g.1 vwCl ((wr ++ w1 u) ++ pl) H1 → va_D A ((wr ++ w1 u) ++ pl) → va_S A s.heap H1 locs1 → W p l e R s m args below meth c H1 locs1 (cells + mc) (slots + ms) Q (F0 m (pc + 3) ls (.int r :: rest))) :
    W p l e R s m args below meth c H locs cells slots Q (F0 m pc ls st0) := by
  subst hst0
  have hFc := va_free (wc := wc) (k_subD hD) hS hA isC hC2
  have hPc : va_P g.1 vwCl wc H := (k_subP (cx := wc) hP).sub isC (k_fm hC2)
  have hDc := (k_subD hD).sub isC hnC hC2
  refine va_calli (va_runV (C := y.cls) (As := As) ⟨hexec, hb, hml, hown, hts⟩ hM ⟨k_cb hts hcode hini hl hd hR, hts _ hin, hts _ hse⟩ ⟨kPre.blind _ _ _ _, hyc ▸ va_recv hKW.1 hP hrc hre, k_pre hKW hS hFc hPc hDc⟩ rfl rfl hsz rfl (lv_room hcat) hdg hf) hS (fun q _ h => hFc q h) hFc (fun r u t H1 locs1 ht hvm hw hB hz1 hk1 hS1 => ?_)
  have h1 : va_P g.1 vwCl (w1 u) H1 := by rw [← ht]; exact hB.1
  obtain ⟨hP2, hD2⟩ := va_joinQ hP hD isC isR hC2 hR2 hnR hdis hk1 hFc h1 hB.2
  exact kk r u H1 locs1 hw hP2 hD2 hS1
theorem k_ViP {post : Int32 → S → Prop} (isC isR : List Nat) (rq ci : Nat) {qc : vw_C} {fs : List Value} (hexec : p.tables.exec = Jvm.exec) (hb : c.code = cc) (hml : c.maxLocals = nL) (hown : s.vm.findClass own = some m.cls) (hts : ∀ w ∈ wsL_law, w.before args s = true) (hKW : kKW g A s) (hP : va_P g.1 vwCl (X ++ pl) H) (hD : va_D A (X ++ pl)) (hS : va_S A s.heap H locs) (hA : ∀ q, s.heap.size ≤ q → A q) (hsz : ls.size = nL)
    (hM : kMi l g y bytes maxL ret lev mc ms (.ref b :: As) H.size (wc ++ pl) post (fun u => rx u ++ pl1 u)) (hrc : vwCl[ci]? = some qc) (hre : (X ++ pl)[rq]? = some (b, .inr (ci, fs))) (hyc : y.cls = qc.1)
    (hcode : Cond.code y bytes maxL ret ∈ wsL_law) (hini : Cond.initialized y.cls ∈ wsL_law) (hl : Cond.methodLink own index y ∈ wsL_law) (hin : Cond.instanceMethod y ∈ wsL_law) (hse : Cond.selects y.cls y y ∈ wsL_law) (hd : y.cls ≠ "java/lang/invoke/MethodHandle" ∧ y.cls ≠ "java/lang/invoke/VarHandle" ∧ (parseMethodDescriptor y.desc).map (fun d => d.parameters.length) = some As.length) (hR : lev + 1 ≤ R.frames ∧ 8 + (maxL + 11) + 64 * lev ≤ R.locals)
    (hnC : va_nd isC = true) (hC2 : isC.map (fun i => X[i]?) = wc.map some) (hnR : va_nd isR = true) (hR2 : isR.map (fun i => X[i]?) = wr.map some) (hdis : ∀ i ∈ isR, i ∉ isC)
    {st0 : List Value} (hst0 : st0 = As.reverse ++ .ref b :: rest) (hcat : (rest.map fun v => v.category).sum ≤ 8) (hdg : decode cc pc = .ok (.invokevirtual index, 3)) (hf : cells + mc ≤ R.cells ∧ slots + ms ≤ R.slots)
    (kk : ∀ (r : Int32) (u : S) (H1 : Heap) (locs1 : List Loc), post r u → va_P g.1 vwCl ((wr ++ rx u) ++ pl1 u) H1 → va_D A ((wr ++ rx u) ++ pl1 u) → va_S A s.heap H1 locs1 → W p l e R s m args below meth c H1 locs1 (cells + mc) (slots + ms) Q (F0 m (pc + 3) ls (.int r :: rest))) :
    W p l e R s m args below meth c H locs cells slots Q (F0 m pc ls st0) := by
  subst hst0
  have hFc := va_freeP (cx := wc) hD hS hA isC hC2
  have hPc := hP.part isC hC2
  have hDc := hD.part isC hnC hC2
  refine va_calli (va_runV (C := y.cls) (As := As) ⟨hexec, hb, hml, hown, hts⟩ hM ⟨k_cb hts hcode hini hl hd hR, hts _ hin, hts _ hse⟩ ⟨kPre.blind _ _ _ _, hyc ▸ va_recv hKW.1 hP hrc hre, k_pre hKW hS hFc hPc hDc⟩ rfl rfl hsz rfl (lv_room hcat) hdg hf) hS (fun q _ h => hFc q h) hFc (fun r u t H1 locs1 ht hvm hw hB hz1 hk1 hS1 => ?_)
  have h1 : va_P g.1 vwCl (rx u ++ pl1 u) H1 := by rw [← ht]; exact hB.1
  obtain ⟨hP2, hD2⟩ := va_joinP hP hD isC isR hC2 hR2 hnR hdis hk1 hFc h1 hB.2
  exact kk r u H1 locs1 hw hP2 hD2 hS1
theorem k_Vv {post : S → Prop} (isC isR : List Nat) (rq ci : Nat) {qc : vw_C} {fs : List Value} (hexec : p.tables.exec = Jvm.exec) (hb : c.code = cc) (hml : c.maxLocals = nL) (hown : s.vm.findClass own = some m.cls) (hts : ∀ w ∈ wsL_law, w.before args s = true) (hKW : kKW g A s) (hP : va_P g.1 vwCl ws H) (hD : va_D A ws) (hS : va_S A s.heap H locs) (hA : ∀ q, s.heap.size ≤ q → A q) (hsz : ls.size = nL)
    (hM : kMv l g y bytes maxL ret lev mc ms (.ref b :: As) H.size wc post w1) (hrc : vwCl[ci]? = some qc) (hre : ws[rq]? = some (b, .inr (ci, fs))) (hyc : y.cls = qc.1)
    (hcode : Cond.code y bytes maxL ret ∈ wsL_law) (hini : Cond.initialized y.cls ∈ wsL_law) (hl : Cond.methodLink own index y ∈ wsL_law) (hin : Cond.instanceMethod y ∈ wsL_law) (hse : Cond.selects y.cls y y ∈ wsL_law) (hd : y.cls ≠ "java/lang/invoke/MethodHandle" ∧ y.cls ≠ "java/lang/invoke/VarHandle" ∧ (parseMethodDescriptor y.desc).map (fun d => d.parameters.length) = some As.length) (hR : lev + 1 ≤ R.frames ∧ 8 + (maxL + 11) + 64 * lev ≤ R.locals)
    (hnC : va_nd isC = true) (hC2 : isC.map (fun i => ws[i]?) = wc.map some) (hnR : va_nd isR = true) (hR2 : isR.map (fun i => ws[i]?) = wr.map some) (hdis : ∀ i ∈ isR, i ∉ isC)
    {st0 : List Value} (hst0 : st0 = As.reverse ++ .ref b :: rest) (hcat : (rest.map fun v => v.category).sum ≤ 8) (hdg : decode cc pc = .ok (.invokevirtual index, 3)) (hf : cells + mc ≤ R.cells ∧ slots + ms ≤ R.slots)
    (kk : ∀ (u : S) (H1 : Heap) (locs1 : List Loc), post u → va_P g.1 vwCl (wr ++ w1 u) H1 → va_D A (wr ++ w1 u) → va_S A s.heap H1 locs1 → W p l e R s m args below meth c H1 locs1 (cells + mc) (slots + ms) Q (F0 m (pc + 3) ls rest)) :
    W p l e R s m args below meth c H locs cells slots Q (F0 m pc ls st0) := by
  subst hst0
  have hFc := va_free (wc := wc) hD hS hA isC hC2
  have hPc : va_P g.1 vwCl wc H := hP.sub isC (k_fm hC2)
  have hDc := hD.sub isC hnC hC2
  refine va_callv (va_runV (C := y.cls) (As := As) ⟨hexec, hb, hml, hown, hts⟩ hM ⟨k_cb hts hcode hini hl hd hR, hts _ hin, hts _ hse⟩ ⟨kPre.blind _ _ _ _, hyc ▸ va_recv hKW.1 hP hrc hre, k_pre hKW hS hFc hPc hDc⟩ rfl rfl hsz rfl (lv_room hcat) hdg hf) hS (fun q _ h => hFc q h) hFc (fun u t H1 locs1 ht hvm hw hB hz1 hk1 hS1 => ?_)
  have h1 : va_P g.1 vwCl (w1 u) H1 := by rw [← ht]; exact hB.1
  obtain ⟨hP2, hD2⟩ := va_join hP hD isC isR hC2 hR2 hnR hdis hk1 hFc h1 hB.2
  exact kk u H1 locs1 hw hP2 hD2 hS1
theorem k_VvQ {post : S → Prop} (isC isR : List Nat) (rq ci : Nat) {qc : vw_C} {fs : List Value} (hexec : p.tables.exec = Jvm.exec) (hb : c.code = cc) (hml : c.maxLocals = nL) (hown : s.vm.findClass own = some m.cls) (hts : ∀ w ∈ wsL_law, w.before args s = true) (hKW : kKW g A s) (hP : va_P g.1 vwCl (X ++ pl) H) (hD : va_D A (X ++ pl)) (hS : va_S A s.heap H locs) (hA : ∀ q, s.heap.size ≤ q → A q) (hsz : ls.size = nL)
    (hM : kMv l g y bytes maxL ret lev mc ms (.ref b :: As) H.size wc post w1) (hrc : vwCl[ci]? = some qc) (hre : (X ++ pl)[rq]? = some (b, .inr (ci, fs))) (hyc : y.cls = qc.1)
    (hcode : Cond.code y bytes maxL ret ∈ wsL_law) (hini : Cond.initialized y.cls ∈ wsL_law) (hl : Cond.methodLink own index y ∈ wsL_law) (hin : Cond.instanceMethod y ∈ wsL_law) (hse : Cond.selects y.cls y y ∈ wsL_law) (hd : y.cls ≠ "java/lang/invoke/MethodHandle" ∧ y.cls ≠ "java/lang/invoke/VarHandle" ∧ (parseMethodDescriptor y.desc).map (fun d => d.parameters.length) = some As.length) (hR : lev + 1 ≤ R.frames ∧ 8 + (maxL + 11) + 64 * lev ≤ R.locals)
    (hnC : va_nd isC = true) (hC2 : isC.map (fun i => X[i]?) = wc.map some) (hnR : va_nd isR = true) (hR2 : isR.map (fun i => X[i]?) = wr.map some) (hdis : ∀ i ∈ isR, i ∉ isC)
    {st0 : List Value} (hst0 : st0 = As.reverse ++ .ref b :: rest) (hcat : (rest.map fun v => v.category).sum ≤ 8) (hdg : decode cc pc = .ok (.invokevirtual index, 3)) (hf : cells + mc ≤ R.cells ∧ slots + ms ≤ R.slots)
    (kk : ∀ (u : S) (H1 : Heap) (locs1 : List Loc), post u → va_P g.1 vwCl ((wr ++ w1 u) ++ pl) H1 → va_D A ((wr ++ w1 u) ++ pl) → va_S A s.heap H1 locs1 → W p l e R s m args below meth c H1 locs1 (cells + mc) (slots + ms) Q (F0 m (pc + 3) ls rest)) :
    W p l e R s m args below meth c H locs cells slots Q (F0 m pc ls st0) := by
  subst hst0
  have hFc := va_free (wc := wc) (k_subD hD) hS hA isC hC2
  have hPc : va_P g.1 vwCl wc H := (k_subP (cx := wc) hP).sub isC (k_fm hC2)
  have hDc := (k_subD hD).sub isC hnC hC2
  refine va_callv (va_runV (C := y.cls) (As := As) ⟨hexec, hb, hml, hown, hts⟩ hM ⟨k_cb hts hcode hini hl hd hR, hts _ hin, hts _ hse⟩ ⟨kPre.blind _ _ _ _, hyc ▸ va_recv hKW.1 hP hrc hre, k_pre hKW hS hFc hPc hDc⟩ rfl rfl hsz rfl (lv_room hcat) hdg hf) hS (fun q _ h => hFc q h) hFc (fun u t H1 locs1 ht hvm hw hB hz1 hk1 hS1 => ?_)
  have h1 : va_P g.1 vwCl (w1 u) H1 := by rw [← ht]; exact hB.1
  obtain ⟨hP2, hD2⟩ := va_joinQ hP hD isC isR hC2 hR2 hnR hdis hk1 hFc h1 hB.2
  exact kk u H1 locs1 hw hP2 hD2 hS1
theorem k_VvP {post : S → Prop} (isC isR : List Nat) (rq ci : Nat) {qc : vw_C} {fs : List Value} (hexec : p.tables.exec = Jvm.exec) (hb : c.code = cc) (hml : c.maxLocals = nL) (hown : s.vm.findClass own = some m.cls) (hts : ∀ w ∈ wsL_law, w.before args s = true) (hKW : kKW g A s) (hP : va_P g.1 vwCl (X ++ pl) H) (hD : va_D A (X ++ pl)) (hS : va_S A s.heap H locs) (hA : ∀ q, s.heap.size ≤ q → A q) (hsz : ls.size = nL)
    (hM : kMv l g y bytes maxL ret lev mc ms (.ref b :: As) H.size (wc ++ pl) post (fun u => rx u ++ pl1 u)) (hrc : vwCl[ci]? = some qc) (hre : (X ++ pl)[rq]? = some (b, .inr (ci, fs))) (hyc : y.cls = qc.1)
    (hcode : Cond.code y bytes maxL ret ∈ wsL_law) (hini : Cond.initialized y.cls ∈ wsL_law) (hl : Cond.methodLink own index y ∈ wsL_law) (hin : Cond.instanceMethod y ∈ wsL_law) (hse : Cond.selects y.cls y y ∈ wsL_law) (hd : y.cls ≠ "java/lang/invoke/MethodHandle" ∧ y.cls ≠ "java/lang/invoke/VarHandle" ∧ (parseMethodDescriptor y.desc).map (fun d => d.parameters.length) = some As.length) (hR : lev + 1 ≤ R.frames ∧ 8 + (maxL + 11) + 64 * lev ≤ R.locals)
    (hnC : va_nd isC = true) (hC2 : isC.map (fun i => X[i]?) = wc.map some) (hnR : va_nd isR = true) (hR2 : isR.map (fun i => X[i]?) = wr.map some) (hdis : ∀ i ∈ isR, i ∉ isC)
    {st0 : List Value} (hst0 : st0 = As.reverse ++ .ref b :: rest) (hcat : (rest.map fun v => v.category).sum ≤ 8) (hdg : decode cc pc = .ok (.invokevirtual index, 3)) (hf : cells + mc ≤ R.cells ∧ slots + ms ≤ R.slots)
    (kk : ∀ (u : S) (H1 : Heap) (locs1 : List Loc), post u → va_P g.1 vwCl ((wr ++ rx u) ++ pl1 u) H1 → va_D A ((wr ++ rx u) ++ pl1 u) → va_S A s.heap H1 locs1 → W p l e R s m args below meth c H1 locs1 (cells + mc) (slots + ms) Q (F0 m (pc + 3) ls rest)) :
    W p l e R s m args below meth c H locs cells slots Q (F0 m pc ls st0) := by
  subst hst0
  have hFc := va_freeP (cx := wc) hD hS hA isC hC2
  have hPc := hP.part isC hC2
  have hDc := hD.part isC hnC hC2
  refine va_callv (va_runV (C := y.cls) (As := As) ⟨hexec, hb, hml, hown, hts⟩ hM ⟨k_cb hts hcode hini hl hd hR, hts _ hin, hts _ hse⟩ ⟨kPre.blind _ _ _ _, hyc ▸ va_recv hKW.1 hP hrc hre, k_pre hKW hS hFc hPc hDc⟩ rfl rfl hsz rfl (lv_room hcat) hdg hf) hS (fun q _ h => hFc q h) hFc (fun u t H1 locs1 ht hvm hw hB hz1 hk1 hS1 => ?_)
  have h1 : va_P g.1 vwCl (rx u ++ pl1 u) H1 := by rw [← ht]; exact hB.1
  obtain ⟨hP2, hD2⟩ := va_joinP hP hD isC isR hC2 hR2 hnR hdis hk1 hFc h1 hB.2
  exact kk u H1 locs1 hw hP2 hD2 hS1
theorem k_Vl {post : Int64 → S → Prop} (isC isR : List Nat) (rq ci : Nat) {qc : vw_C} {fs : List Value} (hexec : p.tables.exec = Jvm.exec) (hb : c.code = cc) (hml : c.maxLocals = nL) (hown : s.vm.findClass own = some m.cls) (hts : ∀ w ∈ wsL_law, w.before args s = true) (hKW : kKW g A s) (hP : va_P g.1 vwCl ws H) (hD : va_D A ws) (hS : va_S A s.heap H locs) (hA : ∀ q, s.heap.size ≤ q → A q) (hsz : ls.size = nL)
    (hM : kMl l g y bytes maxL ret lev mc ms (.ref b :: As) H.size wc post w1) (hrc : vwCl[ci]? = some qc) (hre : ws[rq]? = some (b, .inr (ci, fs))) (hyc : y.cls = qc.1)
    (hcode : Cond.code y bytes maxL ret ∈ wsL_law) (hini : Cond.initialized y.cls ∈ wsL_law) (hl : Cond.methodLink own index y ∈ wsL_law) (hin : Cond.instanceMethod y ∈ wsL_law) (hse : Cond.selects y.cls y y ∈ wsL_law) (hd : y.cls ≠ "java/lang/invoke/MethodHandle" ∧ y.cls ≠ "java/lang/invoke/VarHandle" ∧ (parseMethodDescriptor y.desc).map (fun d => d.parameters.length) = some As.length) (hR : lev + 1 ≤ R.frames ∧ 8 + (maxL + 11) + 64 * lev ≤ R.locals)
    (hnC : va_nd isC = true) (hC2 : isC.map (fun i => ws[i]?) = wc.map some) (hnR : va_nd isR = true) (hR2 : isR.map (fun i => ws[i]?) = wr.map some) (hdis : ∀ i ∈ isR, i ∉ isC)
    {st0 : List Value} (hst0 : st0 = As.reverse ++ .ref b :: rest) (hcat : (rest.map fun v => v.category).sum ≤ 8) (hdg : decode cc pc = .ok (.invokevirtual index, 3)) (hf : cells + mc ≤ R.cells ∧ slots + ms ≤ R.slots)
    (kk : ∀ (r : Int64) (u : S) (H1 : Heap) (locs1 : List Loc), post r u → va_P g.1 vwCl (wr ++ w1 u) H1 → va_D A (wr ++ w1 u) → va_S A s.heap H1 locs1 → W p l e R s m args below meth c H1 locs1 (cells + mc) (slots + ms) Q (F0 m (pc + 3) ls (.long r :: rest))) :
    W p l e R s m args below meth c H locs cells slots Q (F0 m pc ls st0) := by
  subst hst0
  have hFc := va_free (wc := wc) hD hS hA isC hC2
  have hPc : va_P g.1 vwCl wc H := hP.sub isC (k_fm hC2)
  have hDc := hD.sub isC hnC hC2
  refine va_calll (va_runV (C := y.cls) (As := As) ⟨hexec, hb, hml, hown, hts⟩ hM ⟨k_cb hts hcode hini hl hd hR, hts _ hin, hts _ hse⟩ ⟨kPre.blind _ _ _ _, hyc ▸ va_recv hKW.1 hP hrc hre, k_pre hKW hS hFc hPc hDc⟩ rfl rfl hsz rfl (lv_room hcat) hdg hf) hS (fun q _ h => hFc q h) hFc (fun r u t H1 locs1 ht hvm hw hB hz1 hk1 hS1 => ?_)
  have h1 : va_P g.1 vwCl (w1 u) H1 := by rw [← ht]; exact hB.1
  obtain ⟨hP2, hD2⟩ := va_join hP hD isC isR hC2 hR2 hnR hdis hk1 hFc h1 hB.2
  exact kk r u H1 locs1 hw hP2 hD2 hS1
theorem k_VlQ {post : Int64 → S → Prop} (isC isR : List Nat) (rq ci : Nat) {qc : vw_C} {fs : List Value} (hexec : p.tables.exec = Jvm.exec) (hb : c.code = cc) (hml : c.maxLocals = nL) (hown : s.vm.findClass own = some m.cls) (hts : ∀ w ∈ wsL_law, w.before args s = true) (hKW : kKW g A s) (hP : va_P g.1 vwCl (X ++ pl) H) (hD : va_D A (X ++ pl)) (hS : va_S A s.heap H locs) (hA : ∀ q, s.heap.size ≤ q → A q) (hsz : ls.size = nL)
    (hM : kMl l g y bytes maxL ret lev mc ms (.ref b :: As) H.size wc post w1) (hrc : vwCl[ci]? = some qc) (hre : (X ++ pl)[rq]? = some (b, .inr (ci, fs))) (hyc : y.cls = qc.1)
    (hcode : Cond.code y bytes maxL ret ∈ wsL_law) (hini : Cond.initialized y.cls ∈ wsL_law) (hl : Cond.methodLink own index y ∈ wsL_law) (hin : Cond.instanceMethod y ∈ wsL_law) (hse : Cond.selects y.cls y y ∈ wsL_law) (hd : y.cls ≠ "java/lang/invoke/MethodHandle" ∧ y.cls ≠ "java/lang/invoke/VarHandle" ∧ (parseMethodDescriptor y.desc).map (fun d => d.parameters.length) = some As.length) (hR : lev + 1 ≤ R.frames ∧ 8 + (maxL + 11) + 64 * lev ≤ R.locals)
    (hnC : va_nd isC = true) (hC2 : isC.map (fun i => X[i]?) = wc.map some) (hnR : va_nd isR = true) (hR2 : isR.map (fun i => X[i]?) = wr.map some) (hdis : ∀ i ∈ isR, i ∉ isC)
    {st0 : List Value} (hst0 : st0 = As.reverse ++ .ref b :: rest) (hcat : (rest.map fun v => v.category).sum ≤ 8) (hdg : decode cc pc = .ok (.invokevirtual index, 3)) (hf : cells + mc ≤ R.cells ∧ slots + ms ≤ R.slots)
    (kk : ∀ (r : Int64) (u : S) (H1 : Heap) (locs1 : List Loc), post r u → va_P g.1 vwCl ((wr ++ w1 u) ++ pl) H1 → va_D A ((wr ++ w1 u) ++ pl) → va_S A s.heap H1 locs1 → W p l e R s m args below meth c H1 locs1 (cells + mc) (slots + ms) Q (F0 m (pc + 3) ls (.long r :: rest))) :
    W p l e R s m args below meth c H locs cells slots Q (F0 m pc ls st0) := by
  subst hst0
  have hFc := va_free (wc := wc) (k_subD hD) hS hA isC hC2
  have hPc : va_P g.1 vwCl wc H := (k_subP (cx := wc) hP).sub isC (k_fm hC2)
  have hDc := (k_subD hD).sub isC hnC hC2
  refine va_calll (va_runV (C := y.cls) (As := As) ⟨hexec, hb, hml, hown, hts⟩ hM ⟨k_cb hts hcode hini hl hd hR, hts _ hin, hts _ hse⟩ ⟨kPre.blind _ _ _ _, hyc ▸ va_recv hKW.1 hP hrc hre, k_pre hKW hS hFc hPc hDc⟩ rfl rfl hsz rfl (lv_room hcat) hdg hf) hS (fun q _ h => hFc q h) hFc (fun r u t H1 locs1 ht hvm hw hB hz1 hk1 hS1 => ?_)
  have h1 : va_P g.1 vwCl (w1 u) H1 := by rw [← ht]; exact hB.1
  obtain ⟨hP2, hD2⟩ := va_joinQ hP hD isC isR hC2 hR2 hnR hdis hk1 hFc h1 hB.2
  exact kk r u H1 locs1 hw hP2 hD2 hS1
theorem k_I {post : S → Prop} (isC isR : List Nat) (hexec : p.tables.exec = Jvm.exec) (hb : c.code = cc) (hml : c.maxLocals = nL) (hown : s.vm.findClass own = some m.cls) (hts : ∀ w ∈ wsL_law, w.before args s = true) (hKW : kKW g A s) (hP : va_P g.1 vwCl ws H) (hD : va_D A ws) (hS : va_S A s.heap H locs) (hA : ∀ q, s.heap.size ≤ q → A q) (hsz : ls.size = nL)
    (hM : kMv l g y bytes maxL none lev mc ms (.ref b :: As) H.size wc post w1) (hy : y.name = "<init>")
    (hcode : Cond.code y bytes maxL none ∈ wsL_law) (hini : Cond.initialized y.cls ∈ wsL_law) (hl : Cond.methodLink own index y ∈ wsL_law) (hin : Cond.instanceMethod y ∈ wsL_law) (hd : y.cls ≠ "java/lang/invoke/MethodHandle" ∧ y.cls ≠ "java/lang/invoke/VarHandle" ∧ (parseMethodDescriptor y.desc).map (fun d => d.parameters.length) = some As.length) (hR : lev + 1 ≤ R.frames ∧ 8 + (maxL + 11) + 64 * lev ≤ R.locals)
    (hnC : va_nd isC = true) (hC2 : isC.map (fun i => ws[i]?) = wc.map some) (hnR : va_nd isR = true) (hR2 : isR.map (fun i => ws[i]?) = wr.map some) (hdis : ∀ i ∈ isR, i ∉ isC)
    {st0 : List Value} (hst0 : st0 = As.reverse ++ .ref b :: rest) (hcat : (rest.map fun v => v.category).sum ≤ 8) (hdg : decode cc pc = .ok (.invokespecial index, 3)) (hf : cells + mc ≤ R.cells ∧ slots + ms ≤ R.slots)
    (kk : ∀ (u : S) (H1 : Heap) (locs1 : List Loc), post u → va_P g.1 vwCl (wr ++ w1 u) H1 → va_D A (wr ++ w1 u) → va_S A s.heap H1 locs1 → W p l e R s m args below meth c H1 locs1 (cells + mc) (slots + ms) Q (F0 m (pc + 3) ls rest)) :
    W p l e R s m args below meth c H locs cells slots Q (F0 m pc ls st0) := by
  subst hst0
  have hFc := va_free (wc := wc) hD hS hA isC hC2
  have hPc : va_P g.1 vwCl wc H := hP.sub isC (k_fm hC2)
  have hDc := hD.sub isC hnC hC2
  refine va_callv (va_runI (As := As) ⟨hexec, hb, hml, hown, hts⟩ hM ⟨k_cb hts hcode hini hl hd hR, hy, hts _ hin⟩ ⟨kPre.blind _ _ _ _, k_pre hKW hS hFc hPc hDc⟩ rfl rfl hsz rfl (lv_room hcat) hdg hf) hS (fun q _ h => hFc q h) hFc (fun u t H1 locs1 ht hvm hw hB hz1 hk1 hS1 => ?_)
  have h1 : va_P g.1 vwCl (w1 u) H1 := by rw [← ht]; exact hB.1
  obtain ⟨hP2, hD2⟩ := va_join hP hD isC isR hC2 hR2 hnR hdis hk1 hFc h1 hB.2
  exact kk u H1 locs1 hw hP2 hD2 hS1
theorem k_IQ {post : S → Prop} (isC isR : List Nat) (hexec : p.tables.exec = Jvm.exec) (hb : c.code = cc) (hml : c.maxLocals = nL) (hown : s.vm.findClass own = some m.cls) (hts : ∀ w ∈ wsL_law, w.before args s = true) (hKW : kKW g A s) (hP : va_P g.1 vwCl (X ++ pl) H) (hD : va_D A (X ++ pl)) (hS : va_S A s.heap H locs) (hA : ∀ q, s.heap.size ≤ q → A q) (hsz : ls.size = nL)
    (hM : kMv l g y bytes maxL none lev mc ms (.ref b :: As) H.size wc post w1) (hy : y.name = "<init>")
    (hcode : Cond.code y bytes maxL none ∈ wsL_law) (hini : Cond.initialized y.cls ∈ wsL_law) (hl : Cond.methodLink own index y ∈ wsL_law) (hin : Cond.instanceMethod y ∈ wsL_law) (hd : y.cls ≠ "java/lang/invoke/MethodHandle" ∧ y.cls ≠ "java/lang/invoke/VarHandle" ∧ (parseMethodDescriptor y.desc).map (fun d => d.parameters.length) = some As.length) (hR : lev + 1 ≤ R.frames ∧ 8 + (maxL + 11) + 64 * lev ≤ R.locals)
    (hnC : va_nd isC = true) (hC2 : isC.map (fun i => X[i]?) = wc.map some) (hnR : va_nd isR = true) (hR2 : isR.map (fun i => X[i]?) = wr.map some) (hdis : ∀ i ∈ isR, i ∉ isC)
    {st0 : List Value} (hst0 : st0 = As.reverse ++ .ref b :: rest) (hcat : (rest.map fun v => v.category).sum ≤ 8) (hdg : decode cc pc = .ok (.invokespecial index, 3)) (hf : cells + mc ≤ R.cells ∧ slots + ms ≤ R.slots)
    (kk : ∀ (u : S) (H1 : Heap) (locs1 : List Loc), post u → va_P g.1 vwCl ((wr ++ w1 u) ++ pl) H1 → va_D A ((wr ++ w1 u) ++ pl) → va_S A s.heap H1 locs1 → W p l e R s m args below meth c H1 locs1 (cells + mc) (slots + ms) Q (F0 m (pc + 3) ls rest)) :
    W p l e R s m args below meth c H locs cells slots Q (F0 m pc ls st0) := by
  subst hst0
  have hFc := va_free (wc := wc) (k_subD hD) hS hA isC hC2
  have hPc : va_P g.1 vwCl wc H := (k_subP (cx := wc) hP).sub isC (k_fm hC2)
  have hDc := (k_subD hD).sub isC hnC hC2
  refine va_callv (va_runI (As := As) ⟨hexec, hb, hml, hown, hts⟩ hM ⟨k_cb hts hcode hini hl hd hR, hy, hts _ hin⟩ ⟨kPre.blind _ _ _ _, k_pre hKW hS hFc hPc hDc⟩ rfl rfl hsz rfl (lv_room hcat) hdg hf) hS (fun q _ h => hFc q h) hFc (fun u t H1 locs1 ht hvm hw hB hz1 hk1 hS1 => ?_)
  have h1 : va_P g.1 vwCl (w1 u) H1 := by rw [← ht]; exact hB.1
  obtain ⟨hP2, hD2⟩ := va_joinQ hP hD isC isR hC2 hR2 hnR hdis hk1 hFc h1 hB.2
  exact kk u H1 locs1 hw hP2 hD2 hS1
theorem k_IN {post : S → Prop} (isC isR : List Nat) (hexec : p.tables.exec = Jvm.exec) (hb : c.code = cc) (hml : c.maxLocals = nL) (hown : s.vm.findClass own = some m.cls) (hts : ∀ w ∈ wsL_law, w.before args s = true) (hKW : kKW g A s) (hP : va_P g.1 vwCl ws H) (hD : va_D A ws) (hS : va_S A s.heap H locs) (hA : ∀ q, s.heap.size ≤ q → A q) (hsz : ls.size = nL)
    (hM : kMv l g y bytes maxL none lev mc ms (.ref b :: As) H.size wc post w1) (hy : y.name = "<init>")
    (hcode : Cond.code y bytes maxL none ∈ wsL_law) (hini : Cond.initialized y.cls ∈ wsL_law) (hl : Cond.methodLinkNest own index y host ∈ nestW) (hin : Cond.instanceMethod y ∈ wsL_law) (hd : y.cls ≠ "java/lang/invoke/MethodHandle" ∧ y.cls ≠ "java/lang/invoke/VarHandle" ∧ (parseMethodDescriptor y.desc).map (fun d => d.parameters.length) = some As.length) (hR : lev + 1 ≤ R.frames ∧ 8 + (maxL + 11) + 64 * lev ≤ R.locals)
    (hnC : va_nd isC = true) (hC2 : isC.map (fun i => ws[i]?) = wc.map some) (hnR : va_nd isR = true) (hR2 : isR.map (fun i => ws[i]?) = wr.map some) (hdis : ∀ i ∈ isR, i ∉ isC)
    {st0 : List Value} (hst0 : st0 = As.reverse ++ .ref b :: rest) (hcat : (rest.map fun v => v.category).sum ≤ 8) (hdg : decode cc pc = .ok (.invokespecial index, 3)) (hf : cells + mc ≤ R.cells ∧ slots + ms ≤ R.slots)
    (kk : ∀ (u : S) (H1 : Heap) (locs1 : List Loc), post u → va_P g.1 vwCl (wr ++ w1 u) H1 → va_D A (wr ++ w1 u) → va_S A s.heap H1 locs1 → W p l e R s m args below meth c H1 locs1 (cells + mc) (slots + ms) Q (F0 m (pc + 3) ls rest)) :
    W p l e R s m args below meth c H locs cells slots Q (F0 m pc ls st0) := by
  subst hst0
  have hFc := va_free (wc := wc) hD hS hA isC hC2
  have hPc : va_P g.1 vwCl wc H := hP.sub isC (k_fm hC2)
  have hDc := hD.sub isC hnC hC2
  refine va_callv (va_runIN (As := As) ⟨hexec, hb, hml, hown, hts⟩ hM ⟨k_cn hts hKW hcode hini hl hd hR, hy, hts _ hin⟩ ⟨kPre.blind _ _ _ _, k_pre hKW hS hFc hPc hDc⟩ rfl rfl hsz rfl (lv_room hcat) hdg hf) hS (fun q _ h => hFc q h) hFc (fun u t H1 locs1 ht hvm hw hB hz1 hk1 hS1 => ?_)
  have h1 : va_P g.1 vwCl (w1 u) H1 := by rw [← ht]; exact hB.1
  obtain ⟨hP2, hD2⟩ := va_join hP hD isC isR hC2 hR2 hnR hdis hk1 hFc h1 hB.2
  exact kk u H1 locs1 hw hP2 hD2 hS1
theorem k_INQ {post : S → Prop} (isC isR : List Nat) (hexec : p.tables.exec = Jvm.exec) (hb : c.code = cc) (hml : c.maxLocals = nL) (hown : s.vm.findClass own = some m.cls) (hts : ∀ w ∈ wsL_law, w.before args s = true) (hKW : kKW g A s) (hP : va_P g.1 vwCl (X ++ pl) H) (hD : va_D A (X ++ pl)) (hS : va_S A s.heap H locs) (hA : ∀ q, s.heap.size ≤ q → A q) (hsz : ls.size = nL)
    (hM : kMv l g y bytes maxL none lev mc ms (.ref b :: As) H.size wc post w1) (hy : y.name = "<init>")
    (hcode : Cond.code y bytes maxL none ∈ wsL_law) (hini : Cond.initialized y.cls ∈ wsL_law) (hl : Cond.methodLinkNest own index y host ∈ nestW) (hin : Cond.instanceMethod y ∈ wsL_law) (hd : y.cls ≠ "java/lang/invoke/MethodHandle" ∧ y.cls ≠ "java/lang/invoke/VarHandle" ∧ (parseMethodDescriptor y.desc).map (fun d => d.parameters.length) = some As.length) (hR : lev + 1 ≤ R.frames ∧ 8 + (maxL + 11) + 64 * lev ≤ R.locals)
    (hnC : va_nd isC = true) (hC2 : isC.map (fun i => X[i]?) = wc.map some) (hnR : va_nd isR = true) (hR2 : isR.map (fun i => X[i]?) = wr.map some) (hdis : ∀ i ∈ isR, i ∉ isC)
    {st0 : List Value} (hst0 : st0 = As.reverse ++ .ref b :: rest) (hcat : (rest.map fun v => v.category).sum ≤ 8) (hdg : decode cc pc = .ok (.invokespecial index, 3)) (hf : cells + mc ≤ R.cells ∧ slots + ms ≤ R.slots)
    (kk : ∀ (u : S) (H1 : Heap) (locs1 : List Loc), post u → va_P g.1 vwCl ((wr ++ w1 u) ++ pl) H1 → va_D A ((wr ++ w1 u) ++ pl) → va_S A s.heap H1 locs1 → W p l e R s m args below meth c H1 locs1 (cells + mc) (slots + ms) Q (F0 m (pc + 3) ls rest)) :
    W p l e R s m args below meth c H locs cells slots Q (F0 m pc ls st0) := by
  subst hst0
  have hFc := va_free (wc := wc) (k_subD hD) hS hA isC hC2
  have hPc : va_P g.1 vwCl wc H := (k_subP (cx := wc) hP).sub isC (k_fm hC2)
  have hDc := (k_subD hD).sub isC hnC hC2
  refine va_callv (va_runIN (As := As) ⟨hexec, hb, hml, hown, hts⟩ hM ⟨k_cn hts hKW hcode hini hl hd hR, hy, hts _ hin⟩ ⟨kPre.blind _ _ _ _, k_pre hKW hS hFc hPc hDc⟩ rfl rfl hsz rfl (lv_room hcat) hdg hf) hS (fun q _ h => hFc q h) hFc (fun u t H1 locs1 ht hvm hw hB hz1 hk1 hS1 => ?_)
  have h1 : va_P g.1 vwCl (w1 u) H1 := by rw [← ht]; exact hB.1
  obtain ⟨hP2, hD2⟩ := va_joinQ hP hD isC isR hC2 hR2 hnR hdis hk1 hFc h1 hB.2
  exact kk u H1 locs1 hw hP2 hD2 hS1
end KRows
theorem k_nIi {n : Nat} (h : n < 2 ^ 31) : (nI n).toInt = n := by
  unfold nI
  rw [Int32.toInt_ofNat_of_lt h]
theorem k_ltI {a b : Nat} (ha : a < 2 ^ 31) (hb : b < 2 ^ 31) : nI a < nI b ↔ a < b := by
  rw [Int32.lt_iff_toInt_lt, k_nIi ha, k_nIi hb]; omega
theorem k_leI {a b : Nat} (ha : a < 2 ^ 31) (hb : b < 2 ^ 31) : nI a ≤ nI b ↔ a ≤ b := by
  rw [Int32.le_iff_toInt_le, k_nIi ha, k_nIi hb]; omega
theorem k_eqI {a b : Nat} (ha : a < 2 ^ 31) (hb : b < 2 ^ 31) : nI a = nI b ↔ a = b := by
  rw [← Int32.toInt_inj, k_nIi ha, k_nIi hb]; omega
theorem k_n_ge {n : Nat} (z : Int32) (hz : z.toInt ≤ 0) (hn : n < 2 ^ 31) : z ≤ nI n := by
  rw [Int32.le_iff_toInt_le, k_nIi hn]; omega
theorem k_n_gt {n : Nat} (z : Int32) (hz : z.toInt < 0) (hn : n < 2 ^ 31) : z < nI n := by
  rw [Int32.lt_iff_toInt_lt, k_nIi hn]; omega
theorem k_n_lt {n : Nat} (z : Int32) (hz : z.toInt ≤ 0) (hn : n < 2 ^ 31) : ¬ nI n < z := by
  rw [Int32.lt_iff_toInt_lt, k_nIi hn]; omega
theorem k_n_le {n : Nat} (z : Int32) (hz : z.toInt < 0) (hn : n < 2 ^ 31) : ¬ nI n ≤ z := by
  rw [Int32.le_iff_toInt_le, k_nIi hn]; omega
theorem k_n_eq {n : Nat} (z : Int32) (hz : z.toInt < 0) (hn : n < 2 ^ 31) : ¬ nI n = z := by
  rw [← Int32.toInt_inj, k_nIi hn]; omega
theorem k_has {v : Int32} {n : Nat} (hn : n < 2 ^ 31) (h1 : ¬ v < 0) (h2 : ¬ nI n ≤ v) : ∃ j : Nat, j < n ∧ v = nI j := by
  rw [Int32.lt_iff_toInt_lt] at h1
  rw [Int32.le_iff_toInt_le, k_nIi hn] at h2
  simp at h1
  exact vp_in_of (vp_in_iff.mpr ⟨h1, by omega⟩) hn
theorem k_hasN1 {v : Int32} {n : Nat} (hn : n < 2 ^ 31) (h1 : v < 0) : ¬ ∃ j : Nat, j < n ∧ v = nI j := by
  rintro ⟨j, hj, rfl⟩
  exact k_n_lt 0 (by decide) (by omega) h1
theorem k_hasN2 {v : Int32} {n : Nat} (hn : n < 2 ^ 31) (h1 : nI n ≤ v) : ¬ ∃ j : Nat, j < n ∧ v = nI j := by
  rintro ⟨j, hj, rfl⟩
  have := (k_leI hn (by omega)).mp h1
  omega
theorem k_ofr {x : Int32} {n : Nat} (hn : n < 2 ^ 31) (h : (0 : Int) ≤ x.toInt ∧ x.toInt < n) : ∃ j : Nat, j < n ∧ x = nI j := vp_in_of (vp_in_iff.mpr h) hn
theorem k_sub {a b : Nat} (h : b ≤ a) : nI a - nI b = nI (a - b) := by
  have h1 : nI a = nI (a - b) + nI b := by rw [nI_add, Nat.sub_add_cancel h]
  rw [h1, Int32.add_sub_cancel]
theorem k_dec {k : Nat} (h : 1 ≤ k) : nI k + (-1) = nI (k - 1) := by
  have h1 := k_sub (a := k) (b := 1) h
  rw [← h1, show nI 1 = 1 from rfl]
  exact (Int32.sub_eq_add_neg ..).symm
theorem k_li {x y : Int32} (h : ¬ x = y) : ¬ x.toInt = y.toInt := fun e => h (Int32.toInt_inj.mp e)
theorem k_hide {p : Program} {l : Launch} {e : Env} {R : Room} {s : State} {m : MethodId} {args : Array Value} {below : List Frame} {meth : Method} {c : Code} {cells slots : Nat} {Q : State → Prop} {A : Nat → Prop} {g : kG} {ws : va_W} {gg : JFrame} (hP : va_P g.1 vwCl ws s.heap) (hS : va_S A s.heap s.heap []) (k : ∀ (H : Heap) (locs : List Loc), va_P g.1 vwCl ws H → va_S A s.heap H locs → W p l e R s m args below meth c H locs cells slots Q gg) : W p l e R s m args below meth c s.heap [] cells slots Q gg := k s.heap [] hP hS
