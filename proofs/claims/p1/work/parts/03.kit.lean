/-! my own rows over the kit's: one list of words for all methods, one bundle of facts, one row a call -/
abbrev kG : Type := va_G × (ClassId × ClassId × ClassId × ClassId × ClassId)
abbrev gI (g : kG) : ClassId := g.2.1
abbrev gJ (g : kG) : ClassId := g.2.2.1
abbrev gZ (g : kG) : ClassId := g.2.2.2.1
abbrev gN (g : kG) : ClassId := g.2.2.2.2.1
abbrev gS (g : kG) : ClassId := g.2.2.2.2.2
abbrev kT (g : kG) : List (ClassId × FieldType) := [(gI g, .int), (gJ g, .long), (gZ g, .boolean), (gN g, .object "SmallRooms$Nursery"), (gS g, .object "SmallRooms$Sheet")]
theorem kNW_each : ∀ w ∈ nestW, (∃ a i x h, w = Cond.methodLinkNest a i x h) ∨ (∃ a i b n d h, w = Cond.fieldLinkNest a i b n d h) := by
  intro w hw
  simp only [nestW, List.mem_cons, List.not_mem_nil, or_false] at hw
  rcases hw with rfl | rfl | rfl | rfl | rfl | rfl | rfl | rfl | rfl | rfl | rfl | rfl | rfl | rfl | rfl | rfl | rfl | rfl | rfl | rfl | rfl | rfl | rfl | rfl | rfl | rfl | rfl | rfl | rfl | rfl <;> first | exact Or.inl ⟨_, _, _, _, rfl⟩ | exact Or.inr ⟨_, _, _, _, _, _, rfl⟩
def kNW (U : State) : Prop := ∀ w ∈ nestW, va_Nw w U
theorem kNW.warm {s U : State} (hW : s.WarmedH U.vm) (h : kNW s) : kNW U := by
  intro w hw
  have h1 := h w hw
  rcases kNW_each w hw with ⟨a, i, x, y, rfl⟩ | ⟨a, i, b, n, d, y, rfl⟩
  · exact va_Nw.warmM hW h1
  · exact va_Nw.warmF hW h1
theorem kNW.same {u U : State} (hv : u.vm = U.vm) (h : kNW u) : kNW U := by
  intro w hw
  have h1 := h w hw
  rcases kNW_each w hw with ⟨a, i, x, y, rfl⟩ | ⟨a, i, b, n, d, y, rfl⟩
  · exact va_Nw.same rfl hv h1
  · exact va_Nw.same rfl hv h1
def kKW (g : kG) (U : State) : Prop := va_K g.1 vwCl (kT g) U ∧ kNW U ∧ va_AO "SmallRooms$Nursery" U ∧ va_AO "SmallRooms$Sheet" U
theorem kKW.warm {g : kG} {s U : State} (hW : s.WarmedH U.vm) (h : kKW g s) : kKW g U := ⟨va_K.moved hW.alike h.1, kNW.warm hW h.2.1, va_AO.moved hW.alike h.2.2.1, va_AO.moved hW.alike h.2.2.2⟩
theorem kKW.calling {g : kG} {U : State} (gg : JFrame) (mk : MethodId) (a : Array Value) (h : kKW g U) : kKW g (U.calling gg mk a) := ⟨va_K.moved (u := U) (U := U.calling gg mk a) (Vm.Alike.refl U.vm) h.1, kNW.same (u := U) (U := U.calling gg mk a) rfl h.2.1, va_AO.moved (u := U) (U := U.calling gg mk a) (Vm.Alike.refl U.vm) h.2.2.1, va_AO.moved (u := U) (U := U.calling gg mk a) (Vm.Alike.refl U.vm) h.2.2.2⟩
def kPre (g : kG) (sz : Nat) (ws : va_W) (U : State) : Prop := U.heap.size = sz ∧ va_P g.1 vwCl ws U.heap ∧ kKW g U ∧ va_D (fun _ => True) ws
theorem kPre.blind (av : List Value) (g : kG) (sz : Nat) (ws : va_W) : FrameBlind (va_Pc av (kPre g sz ws)) := fun a U gg mk q => ⟨q.1, q.2.1, q.2.2.1, kKW.calling gg mk a q.2.2.2.1, q.2.2.2.2⟩
def kPost (g : kG) (A : Nat → Prop) (w : va_W) (t : State) : Prop := va_P g.1 vwCl w t.heap ∧ va_D A w
abbrev kR (lev mc ms : Nat) : Room := { frames := lev, cells := mc, slots := ms, locals := 64 * lev }
theorem k_good : GoodIn wsL_law wsL_law := goodIn_sub (fun _ h => h) (by decide +kernel)
theorem k_goodC {k : Cond} (h : k ∈ wsL_law) : GoodIn wsL_law (k :: wsL_law) := fun w hw => (List.mem_cons.mp hw).elim (fun e => e ▸ k_good k h) (k_good w)
def kMi (l : Launch) (g : kG) (y : MethodName) (cc : ByteArray) (n : Nat) (r : Option FieldType) (lev mc ms : Nat) (av : List Value) (sz : Nat) (ws : va_W) {S : Type} (post : Int32 → S → Prop) (w1 : S → va_W) : Prop :=
  Met l y (Cond.code y cc n r :: wsL_law) (kR lev mc ms) (va_Pc av (kPre g sz ws)) (va_Qi post (fun u t => kPost g (va_A ws sz) (w1 u) t) (va_A ws sz)) mc ms (va_A ws sz)
def kMv (l : Launch) (g : kG) (y : MethodName) (cc : ByteArray) (n : Nat) (r : Option FieldType) (lev mc ms : Nat) (av : List Value) (sz : Nat) (ws : va_W) {S : Type} (post : S → Prop) (w1 : S → va_W) : Prop :=
  Met l y (Cond.code y cc n r :: wsL_law) (kR lev mc ms) (va_Pc av (kPre g sz ws)) (va_Qv post (fun u t => kPost g (va_A ws sz) (w1 u) t) (va_A ws sz)) mc ms (va_A ws sz)
theorem kMi.of {l : Launch} {g : kG} {y : MethodName} {cc : ByteArray} {n : Nat} {r : Option FieldType} {lev mc ms : Nat} {av : List Value} {sz : Nat} {ws : va_W} {S : Type} {post : Int32 → S → Prop} {w1 : S → va_W} (hy : plainName y.cls = true) (hlen : (lg_sl av).length ≤ n)
    (body : ∀ (p : Program) (e : Env) (s : State) (m : MethodId) (below : List Frame) (meth : Method) (c : Code) (A : Nat → Prop), p.tables.exec = Jvm.exec → c.code = cc → meth.sig.returnType = r → c.maxLocals = n → s.vm.findClass y.cls = some m.cls → (∀ w ∈ wsL_law, w.before av.toArray s = true) → meth.locks = false → meth.name = y.name → kKW g s → va_P g.1 vwCl ws s.heap → va_D A ws → va_S A s.heap s.heap [] → (∀ q, s.heap.size ≤ q → A q) → ∀ ls : Array Slot, lv_has ls n (lv_args 0 av) →
      W p l e (kR lev mc ms) s m av.toArray below meth c s.heap [] 0 0 (MQ below (va_Qi post (fun u t => kPost g A (w1 u) t) A) av.toArray s mc ms A) (F0 m 0 ls [])) : kMi l g y cc n r lev mc ms av sz ws post w1 := by
  unfold kMi
  refine Met.ofW (cc := cc) (maxL := n) (ret := r) hy rfl ?_
  intro p e s m args below meth c s₁ B hml hv
  obtain ⟨rfl, hsz, hP, hK, hD0⟩ := hv
  have hts := atoms_spec (ws := Cond.code y cc n r :: wsL_law) B.pre
  have hown : s.vm.findClass y.cls = some m.cls := findClass_of_methodNamed B.named
  have hin : meth.name = y.name := (name_of_methodNamed B.named B.method).1
  subst hsz
  have hD := hD0.self (sz := s.heap.size)
  have hA : ∀ q : Nat, s.heap.size ≤ q → va_A ws s.heap.size q := fun q h => Or.inr h
  have hl := lv_entry av (n := n) hlen
  rw [lg_entry_eq]
  exact body p e s m below meth c _ B.exec B.bytes B.returns hml hown (fun w h => hts w (List.mem_cons_of_mem _ h)) B.notSynchronized hin hK hP hD va_S.rf hA _ hl
theorem kMv.of {l : Launch} {g : kG} {y : MethodName} {cc : ByteArray} {n : Nat} {r : Option FieldType} {lev mc ms : Nat} {av : List Value} {sz : Nat} {ws : va_W} {S : Type} {post : S → Prop} {w1 : S → va_W} (hy : plainName y.cls = true) (hlen : (lg_sl av).length ≤ n)
    (body : ∀ (p : Program) (e : Env) (s : State) (m : MethodId) (below : List Frame) (meth : Method) (c : Code) (A : Nat → Prop), p.tables.exec = Jvm.exec → c.code = cc → meth.sig.returnType = r → c.maxLocals = n → s.vm.findClass y.cls = some m.cls → (∀ w ∈ wsL_law, w.before av.toArray s = true) → meth.locks = false → meth.name = y.name → kKW g s → va_P g.1 vwCl ws s.heap → va_D A ws → va_S A s.heap s.heap [] → (∀ q, s.heap.size ≤ q → A q) → ∀ ls : Array Slot, lv_has ls n (lv_args 0 av) →
      W p l e (kR lev mc ms) s m av.toArray below meth c s.heap [] 0 0 (MQ below (va_Qv post (fun u t => kPost g A (w1 u) t) A) av.toArray s mc ms A) (F0 m 0 ls [])) : kMv l g y cc n r lev mc ms av sz ws post w1 := by
  unfold kMv
  refine Met.ofW (cc := cc) (maxL := n) (ret := r) hy rfl ?_
  intro p e s m args below meth c s₁ B hml hv
  obtain ⟨rfl, hsz, hP, hK, hD0⟩ := hv
  have hts := atoms_spec (ws := Cond.code y cc n r :: wsL_law) B.pre
  have hown : s.vm.findClass y.cls = some m.cls := findClass_of_methodNamed B.named
  have hin : meth.name = y.name := (name_of_methodNamed B.named B.method).1
  subst hsz
  have hD := hD0.self (sz := s.heap.size)
  have hA : ∀ q : Nat, s.heap.size ≤ q → va_A ws s.heap.size q := fun q h => Or.inr h
  have hl := lv_entry av (n := n) hlen
  rw [lg_entry_eq]
  exact body p e s m below meth c _ B.exec B.bytes B.returns hml hown (fun w h => hts w (List.mem_cons_of_mem _ h)) B.notSynchronized hin hK hP hD va_S.rf hA _ hl
section KRows
variable {p : Program} {l : Launch} {e : Env} {R : Room} {s : State} {m : MethodId} {args : Array Value} {below : List Frame} {meth : Method} {c : Code} {H H0 : Heap} {locs : List Loc} {cells slots : Nat} {Q : State → Prop} {A : Nat → Prop} {g : kG} {cc : ByteArray} {pc : Nat} {ls : Array Slot} {rest : List Value} {ws : va_W}
/-- the top of the stack by another name -/
theorem k_top {x y : Int32} (h : x = y) (k : W p l e R s m args below meth c H locs cells slots Q (F0 m pc ls (.int y :: rest))) : W p l e R s m args below meth c H locs cells slots Q (F0 m pc ls (.int x :: rest)) := h ▸ k
theorem k_iret {S : Type} {post : Int32 → S → Prop} {w1 : S → va_W} {v : Int32} {mc ms : Nat} (u : S) (is : List Nat) (hexec : p.tables.exec = Jvm.exec) (hb : c.code = cc) (hr : meth.sig.returnType = some .int) (hlk : meth.locks = false) (hP : va_P g.1 vwCl ws H) (hD : va_D A ws) (hS : va_S A s.heap H locs) (hp : post v u) (hn : va_nd is = true) (h1 : is.filterMap (fun i => ws[i]?) = w1 u) (h2 : is.map (fun i => ws[i]?) = (w1 u).map some) (hc : cells ≤ mc) (hs : slots ≤ ms) (hdg : decode cc pc = .ok (.ireturn, 1)) :
    W p l e R s m args below meth c H locs cells slots (MQ below (va_Qi post (fun u t => kPost g A (w1 u) t) A) args s mc ms A) (F0 m pc ls [.int v]) := by
  refine W.widen hc hs ?_
  exact W.iret hexec hb hr (fun t ht _ => ⟨⟨v, u, rfl, hp, by rw [ht]; exact hP.sub is h1, hD.sub is hn h2⟩, hS.F ht⟩) hS.2.2 hdg hlk
theorem k_zret {S : Type} {post : Int32 → S → Prop} {w1 : S → va_W} {v : Int32} {mc ms : Nat} (u : S) (is : List Nat) (hexec : p.tables.exec = Jvm.exec) (hb : c.code = cc) (hr : meth.sig.returnType = some .boolean) (hlk : meth.locks = false) (hP : va_P g.1 vwCl ws H) (hD : va_D A ws) (hS : va_S A s.heap H locs) (hp : post v u) (hv : narrow .boolean (.int v) = .int v) (hn : va_nd is = true) (h1 : is.filterMap (fun i => ws[i]?) = w1 u) (h2 : is.map (fun i => ws[i]?) = (w1 u).map some) (hc : cells ≤ mc) (hs : slots ≤ ms) (hdg : decode cc pc = .ok (.ireturn, 1)) :
    W p l e R s m args below meth c H locs cells slots (MQ below (va_Qi post (fun u t => kPost g A (w1 u) t) A) args s mc ms A) (F0 m pc ls [.int v]) := by
  refine W.widen hc hs ?_
  exact W.zret hexec hb hr hv (fun t ht _ => ⟨⟨v, u, rfl, hp, by rw [ht]; exact hP.sub is h1, hD.sub is hn h2⟩, hS.F ht⟩) hS.2.2 hdg hlk
theorem k_vret {S : Type} {post : S → Prop} {w1 : S → va_W} {mc ms : Nat} (u : S) (is : List Nat) (hexec : p.tables.exec = Jvm.exec) (hb : c.code = cc) (hr : meth.sig.returnType = none) (hlk : meth.locks = false) (hP : va_P g.1 vwCl ws H) (hD : va_D A ws) (hS : va_S A s.heap H locs) (hp : post u) (hn : va_nd is = true) (h1 : is.filterMap (fun i => ws[i]?) = w1 u) (h2 : is.map (fun i => ws[i]?) = (w1 u).map some) (hc : cells ≤ mc) (hs : slots ≤ ms) (hdg : decode cc pc = .ok (.return_, 1)) :
    W p l e R s m args below meth c H locs cells slots (MQ below (va_Qv post (fun u t => kPost g A (w1 u) t) A) args s mc ms A) (F0 m pc ls []) := by
  refine W.widen hc hs ?_
  exact W.vret hexec hb hr (fun t ht _ => ⟨⟨u, rfl, hp, by rw [ht]; exact hP.sub is h1, hD.sub is hn h2⟩, hS.F ht⟩) hS.2.2 hdg hlk
/-- array classes are one to a type -/
theorem k_oneC {D : va_G} {cl : List vw_C} {tys : List (ClassId × FieldType)} {cA cB : ClassId} {ty : FieldType} (t0 : Nat) (ht : tys[t0]? = some (cB, ty)) (hK : va_K D cl (tys ++ [(cA, ty)]) s) : cA = cB := by
  have h1 := (hK.2 tys.length (cA, ty) (by rw [List.getElem?_append_right (Nat.le_refl _)]; simp)).2
  have h2 := (hK.2 t0 (cB, ty) (by rw [List.getElem?_append_left (List.getElem?_eq_some_iff.mp ht).1]; exact ht)).2
  have key : ∀ c : ClassId, va_RA s c ty → s.vm.findClass ("[" ++ ty.toString) = some c := by
    intro c h
    unfold va_RA at h
    split at h
    · obtain ⟨_, _, _, _, _, h⟩ := h; exact h
    · exact h
  have e1 := key _ h1
  rw [key _ h2] at e1
  exact (Option.some.inj e1).symm
theorem k_newi {n : Int32} {N' : Nat} (hexec : p.tables.exec = Jvm.exec) (hb : c.code = cc) (harr : (Cond.arrayClass .int).before args s = true) (hKW : kKW g s) (hP : va_P g.1 vwCl ws H) (hD : va_D A ws) (hS : va_S A H0 H locs) (hA : ∀ q, H0.size ≤ q → A q) (hn : ¬ n < 0) (hN : n.toNatClampNeg = N') (hbytes : N' * 4 ≤ 536870912) (hcells : cells + 1 ≤ R.cells) (hslots : slots + N' ≤ R.slots) (hdg : decode cc pc = .ok (.newarray .int, 2))
    (kk : ∀ (q : Nat) (H1 : Heap), va_P g.1 vwCl (ws ++ [(q, .inl (gI g, N', .inl (fun _ => 0)))]) H1 → va_D A (ws ++ [(q, .inl (gI g, N', .inl (fun _ => 0)))]) → va_S A H0 H1 locs → W p l e R s m args below meth c H1 locs (cells + 1) (slots + N') Q (F0 m (pc + 2) ls (.ref q :: rest))) : W p l e R s m args below meth c H locs cells slots Q (F0 m pc ls (.int n :: rest)) := by
  refine va_newa (atype := .int) (ty := .int) (a0 := (N', .inl (fun _ => 0))) hexec hb harr rfl hKW.1 hP hD hS hA (fun _ => rfl) hn hN hbytes hcells hslots hdg (fun q cA H1 hK1 hP1 hD1 hS1 => ?_)
  obtain rfl : cA = gI g := k_oneC 0 rfl hK1
  exact kk q H1 hP1 hD1 hS1
theorem k_newl {n : Int32} {N' : Nat} (hexec : p.tables.exec = Jvm.exec) (hb : c.code = cc) (harr : (Cond.arrayClass .long).before args s = true) (hKW : kKW g s) (hP : va_P g.1 vwCl ws H) (hD : va_D A ws) (hS : va_S A H0 H locs) (hA : ∀ q, H0.size ≤ q → A q) (hn : ¬ n < 0) (hN : n.toNatClampNeg = N') (hbytes : N' * 8 ≤ 536870912) (hcells : cells + 1 ≤ R.cells) (hslots : slots + N' ≤ R.slots) (hdg : decode cc pc = .ok (.newarray .long, 2))
    (kk : ∀ (q : Nat) (H1 : Heap), va_P g.1 vwCl (ws ++ [(q, .inl (gJ g, N', .inr (.inl (fun _ => 0))))]) H1 → va_D A (ws ++ [(q, .inl (gJ g, N', .inr (.inl (fun _ => 0))))]) → va_S A H0 H1 locs → W p l e R s m args below meth c H1 locs (cells + 1) (slots + N') Q (F0 m (pc + 2) ls (.ref q :: rest))) : W p l e R s m args below meth c H locs cells slots Q (F0 m pc ls (.int n :: rest)) := by
  refine va_newa (atype := .long) (ty := .long) (a0 := (N', .inr (.inl (fun _ => 0)))) hexec hb harr rfl hKW.1 hP hD hS hA (fun _ => rfl) hn hN hbytes hcells hslots hdg (fun q cA H1 hK1 hP1 hD1 hS1 => ?_)
  obtain rfl : cA = gJ g := k_oneC 1 rfl hK1
  exact kk q H1 hP1 hD1 hS1
theorem k_newz {n : Int32} {N' : Nat} (hexec : p.tables.exec = Jvm.exec) (hb : c.code = cc) (harr : (Cond.arrayClass .boolean).before args s = true) (hKW : kKW g s) (hP : va_P g.1 vwCl ws H) (hD : va_D A ws) (hS : va_S A H0 H locs) (hA : ∀ q, H0.size ≤ q → A q) (hn : ¬ n < 0) (hN : n.toNatClampNeg = N') (hbytes : N' * 1 ≤ 536870912) (hcells : cells + 1 ≤ R.cells) (hslots : slots + N' ≤ R.slots) (hdg : decode cc pc = .ok (.newarray .boolean, 2))
    (kk : ∀ (q : Nat) (H1 : Heap), va_P g.1 vwCl (ws ++ [(q, .inl (gZ g, N', .inl (fun _ => 0)))]) H1 → va_D A (ws ++ [(q, .inl (gZ g, N', .inl (fun _ => 0)))]) → va_S A H0 H1 locs → W p l e R s m args below meth c H1 locs (cells + 1) (slots + N') Q (F0 m (pc + 2) ls (.ref q :: rest))) : W p l e R s m args below meth c H locs cells slots Q (F0 m pc ls (.int n :: rest)) := by
  refine va_newa (atype := .boolean) (ty := .boolean) (a0 := (N', .inl (fun _ => 0))) hexec hb harr rfl hKW.1 hP hD hS hA (fun _ => rfl) hn hN hbytes hcells hslots hdg (fun q cA H1 hK1 hP1 hD1 hS1 => ?_)
  obtain rfl : cA = gZ g := k_oneC 2 rfl hK1
  exact kk q H1 hP1 hD1 hS1
theorem k_newN {own : String} {index : Nat} {n : Int32} {N' : Nat} (hexec : p.tables.exec = Jvm.exec) (hb : c.code = cc) (hown : s.vm.findClass own = some m.cls) (hcl : (Cond.classLink own index "SmallRooms$Nursery").before args s = true) (hKW : kKW g s) (hP : va_P g.1 vwCl ws H) (hD : va_D A ws) (hS : va_S A H0 H locs) (hA : ∀ q, H0.size ≤ q → A q) (hn : ¬ n < 0) (hN : n.toNatClampNeg = N') (hbytes : N' * 4 ≤ 536870912) (hcells : cells + 1 ≤ R.cells) (hslots : slots + N' ≤ R.slots) (hdg : decode cc pc = .ok (.anewarray index, 3))
    (kk : ∀ (q : Nat) (H1 : Heap), va_P g.1 vwCl (ws ++ [(q, .inl (gN g, N', .inr (.inr (.inr (.inr (fun _ => none))))))]) H1 → va_D A (ws ++ [(q, .inl (gN g, N', .inr (.inr (.inr (.inr (fun _ => none))))))]) → va_S A H0 H1 locs → W p l e R s m args below meth c H1 locs (cells + 1) (slots + N') Q (F0 m (pc + 3) ls (.ref q :: rest))) : W p l e R s m args below meth c H locs cells slots Q (F0 m pc ls (.int n :: rest)) := by
  refine va_newq (C := "SmallRooms$Nursery") hexec hb hown hcl hKW.2.2.1 hKW.1 hP hD hS hA hn hN hbytes hcells hslots hdg (fun q cA H1 hK1 hP1 hD1 hS1 => ?_)
  obtain rfl : cA = gN g := k_oneC 3 rfl hK1
  exact kk q H1 hP1 hD1 hS1
theorem k_newS {own : String} {index : Nat} {n : Int32} {N' : Nat} (hexec : p.tables.exec = Jvm.exec) (hb : c.code = cc) (hown : s.vm.findClass own = some m.cls) (hcl : (Cond.classLink own index "SmallRooms$Sheet").before args s = true) (hKW : kKW g s) (hP : va_P g.1 vwCl ws H) (hD : va_D A ws) (hS : va_S A H0 H locs) (hA : ∀ q, H0.size ≤ q → A q) (hn : ¬ n < 0) (hN : n.toNatClampNeg = N') (hbytes : N' * 4 ≤ 536870912) (hcells : cells + 1 ≤ R.cells) (hslots : slots + N' ≤ R.slots) (hdg : decode cc pc = .ok (.anewarray index, 3))
    (kk : ∀ (q : Nat) (H1 : Heap), va_P g.1 vwCl (ws ++ [(q, .inl (gS g, N', .inr (.inr (.inr (.inr (fun _ => none))))))]) H1 → va_D A (ws ++ [(q, .inl (gS g, N', .inr (.inr (.inr (.inr (fun _ => none))))))]) → va_S A H0 H1 locs → W p l e R s m args below meth c H1 locs (cells + 1) (slots + N') Q (F0 m (pc + 3) ls (.ref q :: rest))) : W p l e R s m args below meth c H locs cells slots Q (F0 m pc ls (.int n :: rest)) := by
  refine va_newq (C := "SmallRooms$Sheet") hexec hb hown hcl hKW.2.2.2 hKW.1 hP hD hS hA hn hN hbytes hcells hslots hdg (fun q cA H1 hK1 hP1 hD1 hS1 => ?_)
  obtain rfl : cA = gS g := k_oneC 4 rfl hK1
  exact kk q H1 hP1 hD1 hS1
/-- behind a call: the callee's cells as it left them, the rest as it was -/
theorem k_after {t : State} {H1 : Heap} {wc wr w1 : va_W} (isC isR : List Nat) (hP : va_P g.1 vwCl ws H) (hD : va_D A ws) (hC : isC.map (fun i => ws[i]?) = wc.map some) (hR : isR.map (fun i => ws[i]?) = wr.map some) (hn : va_nd isR = true) (hdis : ∀ i ∈ isR, i ∉ isC) (hF : ∀ q, va_A wc H.size q → A q) (ht : t.heap = H1) (hB : kPost g (va_A wc H.size) w1 t) (hk : ∀ q : Nat, q < H.size → ¬ va_A wc H.size q → H1[q]? = H[q]?) : va_P g.1 vwCl (wr ++ w1) H1 ∧ va_D A (wr ++ w1) := by
  have h1 : va_P g.1 vwCl w1 H1 := by rw [← ht]; exact hB.1
  exact va_join hP hD isC isR hC hR hn hdis hk hF h1 hB.2
variable {own C : String} {index n nn nL maxL lev mc ms : Nat} {y : MethodName} {bytes : ByteArray} {ret : Option FieldType} {As : List Value} {b : Addr} {wc wr : va_W} {S : Type} {w1 : S → va_W}
theorem k_cb (hts : ∀ w ∈ wsL_law, w.before args s = true) (hcode : Cond.code y bytes maxL ret ∈ wsL_law) (hini : Cond.initialized y.cls ∈ wsL_law) (hl : Cond.methodLink own index y ∈ wsL_law) (hd : y.cls ≠ "java/lang/invoke/MethodHandle" ∧ y.cls ≠ "java/lang/invoke/VarHandle" ∧ (parseMethodDescriptor y.desc).map (fun d => d.parameters.length) = some n) (hR : lev + 1 ≤ R.frames ∧ 8 + (maxL + 11) + 64 * lev ≤ R.locals) : CallB R s args own index y bytes maxL ret (Cond.code y bytes maxL ret :: wsL_law) (kR lev mc ms) mc ms n :=
  callB_of n hts (k_goodC hcode) rfl rfl rfl (hts _ hini) (hts _ hl) hd hR
theorem k_pre {av : List Value} (isC : List Nat) (hKW : kKW g s) (hP : va_P g.1 vwCl ws H) (hD : va_D A ws) (hn : va_nd isC = true) (h1 : isC.filterMap (fun i => ws[i]?) = wc) (h2 : isC.map (fun i => ws[i]?) = wc.map some) : ∀ U : State, U.heap = H → s.WarmedH U.vm → va_Pc av (kPre g H.size wc) av.toArray U := fun U hU hW => ⟨rfl, by rw [hU], by rw [hU]; exact hP.sub isC h1, kKW.warm hW hKW, (hD.sub isC hn h2).weaken (fun _ _ _ _ => trivial)⟩
/-- a static call of an int method -/
theorem k_Si {post : Int32 → S → Prop} (isC isR : List Nat) (hexec : p.tables.exec = Jvm.exec) (hb : c.code = cc) (hml : c.maxLocals = nL) (hown : s.vm.findClass own = some m.cls) (hts : ∀ w ∈ wsL_law, w.before args s = true) (hKW : kKW g s) (hP : va_P g.1 vwCl ws H) (hD : va_D A ws) (hS : va_S A H0 H locs) (hA : ∀ q, H0.size ≤ q → A q) (hsz : ls.size = nL)
    (hM : kMi l g y bytes maxL ret lev mc ms As H.size wc post w1)
    (hcode : Cond.code y bytes maxL ret ∈ wsL_law) (hini : Cond.initialized y.cls ∈ wsL_law) (hl : Cond.methodLink own index y ∈ wsL_law) (hst : Cond.static y ∈ wsL_law) (hd : y.cls ≠ "java/lang/invoke/MethodHandle" ∧ y.cls ≠ "java/lang/invoke/VarHandle" ∧ (parseMethodDescriptor y.desc).map (fun d => d.parameters.length) = some As.length) (hR : lev + 1 ≤ R.frames ∧ 8 + (maxL + 11) + 64 * lev ≤ R.locals)
    (hnC : va_nd isC = true) (hC1 : isC.filterMap (fun i => ws[i]?) = wc) (hC2 : isC.map (fun i => ws[i]?) = wc.map some) (hnR : va_nd isR = true) (hR2 : isR.map (fun i => ws[i]?) = wr.map some) (hdis : ∀ i ∈ isR, i ∉ isC)
    {st0 : List Value} (hst0 : st0 = As.reverse ++ rest) (hcat : (rest.map fun v => v.category).sum ≤ 8) (hdg : decode cc pc = .ok (.invokestatic index, 3)) (hf : cells + mc ≤ R.cells ∧ slots + ms ≤ R.slots)
    (kk : ∀ (r : Int32) (u : S) (H1 : Heap) (locs1 : List Loc), post r u → va_P g.1 vwCl (wr ++ w1 u) H1 → va_D A (wr ++ w1 u) → va_S A H0 H1 locs1 → W p l e R s m args below meth c H1 locs1 (cells + mc) (slots + ms) Q (F0 m (pc + 3) ls (.int r :: rest))) :
    W p l e R s m args below meth c H locs cells slots Q (F0 m pc ls st0) := by
  subst hst0
  have hFc := va_free (wc := wc) hD hS hA isC hC2
  refine va_calli (va_runS ⟨hexec, hb, hml, hown, hts⟩ hM ⟨k_cb hts hcode hini hl hd hR, hts _ hst⟩ ⟨kPre.blind _ _ _ _, k_pre isC hKW hP hD hnC hC1 hC2⟩ rfl rfl hsz rfl (lv_room hcat) hdg hf) hS (fun q _ h => hFc q h) hFc (fun r u t H1 locs1 ht hvm hw hB hz1 hk1 hS1 => ?_)
  obtain ⟨hP2, hD2⟩ := k_after isC isR hP hD hC2 hR2 hnR hdis hFc ht hB hk1
  exact kk r u H1 locs1 hw hP2 hD2 hS1
theorem k_Sv {post : S → Prop} (isC isR : List Nat) (hexec : p.tables.exec = Jvm.exec) (hb : c.code = cc) (hml : c.maxLocals = nL) (hown : s.vm.findClass own = some m.cls) (hts : ∀ w ∈ wsL_law, w.before args s = true) (hKW : kKW g s) (hP : va_P g.1 vwCl ws H) (hD : va_D A ws) (hS : va_S A H0 H locs) (hA : ∀ q, H0.size ≤ q → A q) (hsz : ls.size = nL)
    (hM : kMv l g y bytes maxL ret lev mc ms As H.size wc post w1)
    (hcode : Cond.code y bytes maxL ret ∈ wsL_law) (hini : Cond.initialized y.cls ∈ wsL_law) (hl : Cond.methodLink own index y ∈ wsL_law) (hst : Cond.static y ∈ wsL_law) (hd : y.cls ≠ "java/lang/invoke/MethodHandle" ∧ y.cls ≠ "java/lang/invoke/VarHandle" ∧ (parseMethodDescriptor y.desc).map (fun d => d.parameters.length) = some As.length) (hR : lev + 1 ≤ R.frames ∧ 8 + (maxL + 11) + 64 * lev ≤ R.locals)
    (hnC : va_nd isC = true) (hC1 : isC.filterMap (fun i => ws[i]?) = wc) (hC2 : isC.map (fun i => ws[i]?) = wc.map some) (hnR : va_nd isR = true) (hR2 : isR.map (fun i => ws[i]?) = wr.map some) (hdis : ∀ i ∈ isR, i ∉ isC)
    {st0 : List Value} (hst0 : st0 = As.reverse ++ rest) (hcat : (rest.map fun v => v.category).sum ≤ 8) (hdg : decode cc pc = .ok (.invokestatic index, 3)) (hf : cells + mc ≤ R.cells ∧ slots + ms ≤ R.slots)
    (kk : ∀ (u : S) (H1 : Heap) (locs1 : List Loc), post u → va_P g.1 vwCl (wr ++ w1 u) H1 → va_D A (wr ++ w1 u) → va_S A H0 H1 locs1 → W p l e R s m args below meth c H1 locs1 (cells + mc) (slots + ms) Q (F0 m (pc + 3) ls rest)) :
    W p l e R s m args below meth c H locs cells slots Q (F0 m pc ls st0) := by
  subst hst0
  have hFc := va_free (wc := wc) hD hS hA isC hC2
  refine va_callv (va_runS ⟨hexec, hb, hml, hown, hts⟩ hM ⟨k_cb hts hcode hini hl hd hR, hts _ hst⟩ ⟨kPre.blind _ _ _ _, k_pre isC hKW hP hD hnC hC1 hC2⟩ rfl rfl hsz rfl (lv_room hcat) hdg hf) hS (fun q _ h => hFc q h) hFc (fun u t H1 locs1 ht hvm hw hB hz1 hk1 hS1 => ?_)
  obtain ⟨hP2, hD2⟩ := k_after isC isR hP hD hC2 hR2 hnR hdis hFc ht hB hk1
  exact kk u H1 locs1 hw hP2 hD2 hS1
/-- a virtual call of an int method; the receiver is the cell 'rq' of the world -/
theorem k_Vi {post : Int32 → S → Prop} (isC isR : List Nat) (rq ci : Nat) {qc : vw_C} {fs : List Value} (hexec : p.tables.exec = Jvm.exec) (hb : c.code = cc) (hml : c.maxLocals = nL) (hown : s.vm.findClass own = some m.cls) (hts : ∀ w ∈ wsL_law, w.before args s = true) (hKW : kKW g s) (hP : va_P g.1 vwCl ws H) (hD : va_D A ws) (hS : va_S A H0 H locs) (hA : ∀ q, H0.size ≤ q → A q) (hsz : ls.size = nL)
    (hM : kMi l g y bytes maxL ret lev mc ms (.ref b :: As) H.size wc post w1)
    (hrc : vwCl[ci]? = some qc) (hre : ws[rq]? = some (b, .inr (ci, fs))) (hyc : y.cls = qc.1)
    (hcode : Cond.code y bytes maxL ret ∈ wsL_law) (hini : Cond.initialized y.cls ∈ wsL_law) (hl : Cond.methodLink own index y ∈ wsL_law) (hin : Cond.instanceMethod y ∈ wsL_law) (hse : Cond.selects y.cls y y ∈ wsL_law) (hd : y.cls ≠ "java/lang/invoke/MethodHandle" ∧ y.cls ≠ "java/lang/invoke/VarHandle" ∧ (parseMethodDescriptor y.desc).map (fun d => d.parameters.length) = some As.length) (hR : lev + 1 ≤ R.frames ∧ 8 + (maxL + 11) + 64 * lev ≤ R.locals)
    (hnC : va_nd isC = true) (hC1 : isC.filterMap (fun i => ws[i]?) = wc) (hC2 : isC.map (fun i => ws[i]?) = wc.map some) (hnR : va_nd isR = true) (hR2 : isR.map (fun i => ws[i]?) = wr.map some) (hdis : ∀ i ∈ isR, i ∉ isC)
    {st0 : List Value} (hst0 : st0 = As.reverse ++ .ref b :: rest) (hcat : (rest.map fun v => v.category).sum ≤ 8) (hdg : decode cc pc = .ok (.invokevirtual index, 3)) (hf : cells + mc ≤ R.cells ∧ slots + ms ≤ R.slots)
    (kk : ∀ (r : Int32) (u : S) (H1 : Heap) (locs1 : List Loc), post r u → va_P g.1 vwCl (wr ++ w1 u) H1 → va_D A (wr ++ w1 u) → va_S A H0 H1 locs1 → W p l e R s m args below meth c H1 locs1 (cells + mc) (slots + ms) Q (F0 m (pc + 3) ls (.int r :: rest))) :
    W p l e R s m args below meth c H locs cells slots Q (F0 m pc ls st0) := by
  subst hst0
  have hFc := va_free (wc := wc) hD hS hA isC hC2
  refine va_calli (va_runV (C := y.cls) (As := As) ⟨hexec, hb, hml, hown, hts⟩ hM ⟨k_cb hts hcode hini hl hd hR, hts _ hin, hts _ hse⟩ ⟨kPre.blind _ _ _ _, hyc ▸ va_recv hKW.1 hP hrc hre, k_pre isC hKW hP hD hnC hC1 hC2⟩ rfl rfl hsz rfl (lv_room hcat) hdg hf) hS (fun q _ h => hFc q h) hFc (fun r u t H1 locs1 ht hvm hw hB hz1 hk1 hS1 => ?_)
  obtain ⟨hP2, hD2⟩ := k_after isC isR hP hD hC2 hR2 hnR hdis hFc ht hB hk1
  exact kk r u H1 locs1 hw hP2 hD2 hS1
theorem k_Vv {post : S → Prop} (isC isR : List Nat) (rq ci : Nat) {qc : vw_C} {fs : List Value} (hexec : p.tables.exec = Jvm.exec) (hb : c.code = cc) (hml : c.maxLocals = nL) (hown : s.vm.findClass own = some m.cls) (hts : ∀ w ∈ wsL_law, w.before args s = true) (hKW : kKW g s) (hP : va_P g.1 vwCl ws H) (hD : va_D A ws) (hS : va_S A H0 H locs) (hA : ∀ q, H0.size ≤ q → A q) (hsz : ls.size = nL)
    (hM : kMv l g y bytes maxL ret lev mc ms (.ref b :: As) H.size wc post w1)
    (hrc : vwCl[ci]? = some qc) (hre : ws[rq]? = some (b, .inr (ci, fs))) (hyc : y.cls = qc.1)
    (hcode : Cond.code y bytes maxL ret ∈ wsL_law) (hini : Cond.initialized y.cls ∈ wsL_law) (hl : Cond.methodLink own index y ∈ wsL_law) (hin : Cond.instanceMethod y ∈ wsL_law) (hse : Cond.selects y.cls y y ∈ wsL_law) (hd : y.cls ≠ "java/lang/invoke/MethodHandle" ∧ y.cls ≠ "java/lang/invoke/VarHandle" ∧ (parseMethodDescriptor y.desc).map (fun d => d.parameters.length) = some As.length) (hR : lev + 1 ≤ R.frames ∧ 8 + (maxL + 11) + 64 * lev ≤ R.locals)
    (hnC : va_nd isC = true) (hC1 : isC.filterMap (fun i => ws[i]?) = wc) (hC2 : isC.map (fun i => ws[i]?) = wc.map some) (hnR : va_nd isR = true) (hR2 : isR.map (fun i => ws[i]?) = wr.map some) (hdis : ∀ i ∈ isR, i ∉ isC)
    {st0 : List Value} (hst0 : st0 = As.reverse ++ .ref b :: rest) (hcat : (rest.map fun v => v.category).sum ≤ 8) (hdg : decode cc pc = .ok (.invokevirtual index, 3)) (hf : cells + mc ≤ R.cells ∧ slots + ms ≤ R.slots)
    (kk : ∀ (u : S) (H1 : Heap) (locs1 : List Loc), post u → va_P g.1 vwCl (wr ++ w1 u) H1 → va_D A (wr ++ w1 u) → va_S A H0 H1 locs1 → W p l e R s m args below meth c H1 locs1 (cells + mc) (slots + ms) Q (F0 m (pc + 3) ls rest)) :
    W p l e R s m args below meth c H locs cells slots Q (F0 m pc ls st0) := by
  subst hst0
  have hFc := va_free (wc := wc) hD hS hA isC hC2
  refine va_callv (va_runV (C := y.cls) (As := As) ⟨hexec, hb, hml, hown, hts⟩ hM ⟨k_cb hts hcode hini hl hd hR, hts _ hin, hts _ hse⟩ ⟨kPre.blind _ _ _ _, hyc ▸ va_recv hKW.1 hP hrc hre, k_pre isC hKW hP hD hnC hC1 hC2⟩ rfl rfl hsz rfl (lv_room hcat) hdg hf) hS (fun q _ h => hFc q h) hFc (fun u t H1 locs1 ht hvm hw hB hz1 hk1 hS1 => ?_)
  obtain ⟨hP2, hD2⟩ := k_after isC isR hP hD hC2 hR2 hnR hdis hFc ht hB hk1
  exact kk u H1 locs1 hw hP2 hD2 hS1
/-- a constructor, called from outside the nest -/
theorem k_I {post : S → Prop} (isC isR : List Nat) (hexec : p.tables.exec = Jvm.exec) (hb : c.code = cc) (hml : c.maxLocals = nL) (hown : s.vm.findClass own = some m.cls) (hts : ∀ w ∈ wsL_law, w.before args s = true) (hKW : kKW g s) (hP : va_P g.1 vwCl ws H) (hD : va_D A ws) (hS : va_S A H0 H locs) (hA : ∀ q, H0.size ≤ q → A q) (hsz : ls.size = nL)
    (hM : kMv l g y bytes maxL none lev mc ms (.ref b :: As) H.size wc post w1) (hy : y.name = "<init>")
    (hcode : Cond.code y bytes maxL none ∈ wsL_law) (hini : Cond.initialized y.cls ∈ wsL_law) (hl : Cond.methodLink own index y ∈ wsL_law) (hin : Cond.instanceMethod y ∈ wsL_law) (hd : y.cls ≠ "java/lang/invoke/MethodHandle" ∧ y.cls ≠ "java/lang/invoke/VarHandle" ∧ (parseMethodDescriptor y.desc).map (fun d => d.parameters.length) = some As.length) (hR : lev + 1 ≤ R.frames ∧ 8 + (maxL + 11) + 64 * lev ≤ R.locals)
    (hnC : va_nd isC = true) (hC1 : isC.filterMap (fun i => ws[i]?) = wc) (hC2 : isC.map (fun i => ws[i]?) = wc.map some) (hnR : va_nd isR = true) (hR2 : isR.map (fun i => ws[i]?) = wr.map some) (hdis : ∀ i ∈ isR, i ∉ isC)
    {st0 : List Value} (hst0 : st0 = As.reverse ++ .ref b :: rest) (hcat : (rest.map fun v => v.category).sum ≤ 8) (hdg : decode cc pc = .ok (.invokespecial index, 3)) (hf : cells + mc ≤ R.cells ∧ slots + ms ≤ R.slots)
    (kk : ∀ (u : S) (H1 : Heap) (locs1 : List Loc), post u → va_P g.1 vwCl (wr ++ w1 u) H1 → va_D A (wr ++ w1 u) → va_S A H0 H1 locs1 → W p l e R s m args below meth c H1 locs1 (cells + mc) (slots + ms) Q (F0 m (pc + 3) ls rest)) :
    W p l e R s m args below meth c H locs cells slots Q (F0 m pc ls st0) := by
  subst hst0
  have hFc := va_free (wc := wc) hD hS hA isC hC2
  refine va_callv (va_runI (As := As) ⟨hexec, hb, hml, hown, hts⟩ hM ⟨k_cb hts hcode hini hl hd hR, hy, hts _ hin⟩ ⟨kPre.blind _ _ _ _, k_pre isC hKW hP hD hnC hC1 hC2⟩ rfl rfl hsz rfl (lv_room hcat) hdg hf) hS (fun q _ h => hFc q h) hFc (fun u t H1 locs1 ht hvm hw hB hz1 hk1 hS1 => ?_)
  obtain ⟨hP2, hD2⟩ := k_after isC isR hP hD hC2 hR2 hnR hdis hFc ht hB hk1
  exact kk u H1 locs1 hw hP2 hD2 hS1
variable {host : String}
theorem k_cn (hts : ∀ w ∈ wsL_law, w.before args s = true) (hKW : kKW g s) (hcode : Cond.code y bytes maxL ret ∈ wsL_law) (hini : Cond.initialized y.cls ∈ wsL_law) (hl : Cond.methodLinkNest own index y host ∈ nestW) (hd : y.cls ≠ "java/lang/invoke/MethodHandle" ∧ y.cls ≠ "java/lang/invoke/VarHandle" ∧ (parseMethodDescriptor y.desc).map (fun d => d.parameters.length) = some n) (hR : lev + 1 ≤ R.frames ∧ 8 + (maxL + 11) + 64 * lev ≤ R.locals) : va_CN R s args own index y host bytes maxL ret (Cond.code y bytes maxL ret :: wsL_law) (kR lev mc ms) mc ms n :=
  va_cnB n hts (k_goodC hcode) rfl rfl rfl (hKW.2.1 _ hl) (hts _ hini) hd hR
/-- a constructor of a nest mate -/
theorem k_IN {post : S → Prop} (isC isR : List Nat) (hexec : p.tables.exec = Jvm.exec) (hb : c.code = cc) (hml : c.maxLocals = nL) (hown : s.vm.findClass own = some m.cls) (hts : ∀ w ∈ wsL_law, w.before args s = true) (hKW : kKW g s) (hP : va_P g.1 vwCl ws H) (hD : va_D A ws) (hS : va_S A H0 H locs) (hA : ∀ q, H0.size ≤ q → A q) (hsz : ls.size = nL)
    (hM : kMv l g y bytes maxL none lev mc ms (.ref b :: As) H.size wc post w1) (hy : y.name = "<init>")
    (hcode : Cond.code y bytes maxL none ∈ wsL_law) (hini : Cond.initialized y.cls ∈ wsL_law) (hl : Cond.methodLinkNest own index y host ∈ nestW) (hin : Cond.instanceMethod y ∈ wsL_law) (hd : y.cls ≠ "java/lang/invoke/MethodHandle" ∧ y.cls ≠ "java/lang/invoke/VarHandle" ∧ (parseMethodDescriptor y.desc).map (fun d => d.parameters.length) = some As.length) (hR : lev + 1 ≤ R.frames ∧ 8 + (maxL + 11) + 64 * lev ≤ R.locals)
    (hnC : va_nd isC = true) (hC1 : isC.filterMap (fun i => ws[i]?) = wc) (hC2 : isC.map (fun i => ws[i]?) = wc.map some) (hnR : va_nd isR = true) (hR2 : isR.map (fun i => ws[i]?) = wr.map some) (hdis : ∀ i ∈ isR, i ∉ isC)
    {st0 : List Value} (hst0 : st0 = As.reverse ++ .ref b :: rest) (hcat : (rest.map fun v => v.category).sum ≤ 8) (hdg : decode cc pc = .ok (.invokespecial index, 3)) (hf : cells + mc ≤ R.cells ∧ slots + ms ≤ R.slots)
    (kk : ∀ (u : S) (H1 : Heap) (locs1 : List Loc), post u → va_P g.1 vwCl (wr ++ w1 u) H1 → va_D A (wr ++ w1 u) → va_S A H0 H1 locs1 → W p l e R s m args below meth c H1 locs1 (cells + mc) (slots + ms) Q (F0 m (pc + 3) ls rest)) :
    W p l e R s m args below meth c H locs cells slots Q (F0 m pc ls st0) := by
  subst hst0
  have hFc := va_free (wc := wc) hD hS hA isC hC2
  refine va_callv (va_runIN (As := As) ⟨hexec, hb, hml, hown, hts⟩ hM ⟨k_cn hts hKW hcode hini hl hd hR, hy, hts _ hin⟩ ⟨kPre.blind _ _ _ _, k_pre isC hKW hP hD hnC hC1 hC2⟩ rfl rfl hsz rfl (lv_room hcat) hdg hf) hS (fun q _ h => hFc q h) hFc (fun u t H1 locs1 ht hvm hw hB hz1 hk1 hS1 => ?_)
  obtain ⟨hP2, hD2⟩ := k_after isC isR hP hD hC2 hR2 hnR hdis hFc ht hB hk1
  exact kk u H1 locs1 hw hP2 hD2 hS1
/-- a static method of a nest mate -/
theorem k_SNi {post : Int32 → S → Prop} (isC isR : List Nat) (hexec : p.tables.exec = Jvm.exec) (hb : c.code = cc) (hml : c.maxLocals = nL) (hown : s.vm.findClass own = some m.cls) (hts : ∀ w ∈ wsL_law, w.before args s = true) (hKW : kKW g s) (hP : va_P g.1 vwCl ws H) (hD : va_D A ws) (hS : va_S A H0 H locs) (hA : ∀ q, H0.size ≤ q → A q) (hsz : ls.size = nL)
    (hM : kMi l g y bytes maxL ret lev mc ms As H.size wc post w1)
    (hcode : Cond.code y bytes maxL ret ∈ wsL_law) (hini : Cond.initialized y.cls ∈ wsL_law) (hl : Cond.methodLinkNest own index y host ∈ nestW) (hst : Cond.static y ∈ wsL_law) (hd : y.cls ≠ "java/lang/invoke/MethodHandle" ∧ y.cls ≠ "java/lang/invoke/VarHandle" ∧ (parseMethodDescriptor y.desc).map (fun d => d.parameters.length) = some As.length) (hR : lev + 1 ≤ R.frames ∧ 8 + (maxL + 11) + 64 * lev ≤ R.locals)
    (hnC : va_nd isC = true) (hC1 : isC.filterMap (fun i => ws[i]?) = wc) (hC2 : isC.map (fun i => ws[i]?) = wc.map some) (hnR : va_nd isR = true) (hR2 : isR.map (fun i => ws[i]?) = wr.map some) (hdis : ∀ i ∈ isR, i ∉ isC)
    {st0 : List Value} (hst0 : st0 = As.reverse ++ rest) (hcat : (rest.map fun v => v.category).sum ≤ 8) (hdg : decode cc pc = .ok (.invokestatic index, 3)) (hf : cells + mc ≤ R.cells ∧ slots + ms ≤ R.slots)
    (kk : ∀ (r : Int32) (u : S) (H1 : Heap) (locs1 : List Loc), post r u → va_P g.1 vwCl (wr ++ w1 u) H1 → va_D A (wr ++ w1 u) → va_S A H0 H1 locs1 → W p l e R s m args below meth c H1 locs1 (cells + mc) (slots + ms) Q (F0 m (pc + 3) ls (.int r :: rest))) :
    W p l e R s m args below meth c H locs cells slots Q (F0 m pc ls st0) := by
  subst hst0
  have hFc := va_free (wc := wc) hD hS hA isC hC2
  refine va_calli (va_runSN ⟨hexec, hb, hml, hown, hts⟩ hM ⟨k_cn hts hKW hcode hini hl hd hR, hts _ hst, trivial⟩ ⟨kPre.blind _ _ _ _, k_pre isC hKW hP hD hnC hC1 hC2⟩ rfl rfl hsz rfl (lv_room hcat) hdg hf) hS (fun q _ h => hFc q h) hFc (fun r u t H1 locs1 ht hvm hw hB hz1 hk1 hS1 => ?_)
  obtain ⟨hP2, hD2⟩ := k_after isC isR hP hD hC2 hR2 hnR hdis hFc ht hB hk1
  exact kk r u H1 locs1 hw hP2 hD2 hS1
end KRows
