-- rows of my own, the same for every method: one list of words for all contracts, nest words as a premise, one class of arrays a type
abbrev gG : Type := va_G × (Nat → ClassId)
def tysG (g : gG) : List (ClassId × FieldType) := [(g.2 0, .byte), (g.2 1, .int), (g.2 2, .long), (g.2 3, .boolean), (g.2 4, .char)]
theorem good_mw {y : MethodName} {b : ByteArray} {n : Nat} {r : Option FieldType} (h : Cond.code y b n r ∈ gt) : GoodIn gt (mw y b n r) := by
  intro w hw
  rcases List.mem_cons.mp hw with rfl | hw
  · exact ⟨h, good_of_word (List.mem_filter.mp h).2⟩
  · exact ⟨hw, good_of_word (List.mem_filter.mp hw).2⟩
def nw (U : State) : Prop := (∀ q ∈ nestF, va_Nw (.fieldLinkNest q.1 q.2.1 q.2.2.1 q.2.2.2.1 q.2.2.2.2.1 q.2.2.2.2.2) U) ∧ ∀ q ∈ nestM, va_Nw (.methodLinkNest q.1 q.2.1 q.2.2.1 q.2.2.2) U
theorem nw_warm {s U : State} (hW : s.WarmedH U.vm) (h : nw s) : nw U := ⟨fun q hq => va_Nw.warmF hW (h.1 q hq), fun q hq => va_Nw.warmM hW (h.2 q hq)⟩
theorem nw_same {u U : State} (e : u.vm = U.vm) (h : nw u) : nw U := ⟨fun q hq => va_Nw.same rfl e (h.1 q hq), fun q hq => va_Nw.same rfl e (h.2 q hq)⟩
/-- a method's start: the cells of its world, the tables, the nest -/
def Wd (g : gG) (ws : va_W) (sz : Nat) (U : State) : Prop := U.heap.size = sz ∧ va_P g.1 classes ws U.heap ∧ va_K g.1 classes (tysG g) U ∧ va_D (fun _ => True) ws ∧ nw U
/-- its end: the new world -/
def We (g : gG) (A : Nat → Prop) (w : va_W) (t : State) : Prop := va_P g.1 classes w t.heap ∧ va_D A w
theorem Wd_blind {g : gG} {ws : va_W} {sz : Nat} {av : List Value} : FrameBlind (va_Pc av (Wd g ws sz)) := by
  intro a U f mk h
  obtain ⟨q0, q1, qP, qK, qD, qN⟩ := h
  exact ⟨q0, q1, qP, va_K.moved (u := U) (U := U.calling f mk a) (Vm.Alike.refl U.vm) qK, qD, nw_same (u := U) (U := U.calling f mk a) rfl qN⟩
abbrev Cv (l : Launch) (y : MethodName) (b : ByteArray) (n : Nat) (rm : Room) (g : gG) (av : List Value) (ws : va_W) (sz : Nat) (post : va_W → Prop) : Prop :=
  Met l y (mw y b n none) rm (va_Pc av (Wd g ws sz)) (va_Qv (S := va_W) post (We g (va_A ws sz)) (va_A ws sz)) rm.cells rm.slots (va_A ws sz)
abbrev Ci (l : Launch) (y : MethodName) (b : ByteArray) (n : Nat) (rm : Room) (g : gG) (av : List Value) (ws : va_W) (sz : Nat) (post : Int32 → va_W → Prop) : Prop :=
  Met l y (mw y b n (some .int)) rm (va_Pc av (Wd g ws sz)) (va_Qi (S := va_W) post (We g (va_A ws sz)) (va_A ws sz)) rm.cells rm.slots (va_A ws sz)
abbrev Cl (l : Launch) (y : MethodName) (b : ByteArray) (n : Nat) (rm : Room) (g : gG) (av : List Value) (ws : va_W) (sz : Nat) (post : Int64 → va_W → Prop) : Prop :=
  Met l y (mw y b n (some .long)) rm (va_Pc av (Wd g ws sz)) (va_Ql (S := va_W) post (We g (va_A ws sz)) (va_A ws sz)) rm.cells rm.slots (va_A ws sz)
theorem Met_start {l : Launch} {y : MethodName} {b : ByteArray} {n : Nat} {r : Option FieldType} {rm : Room} {g : gG} {av : List Value} {ws : va_W} {sz : Nat} {QA : (Nat → Prop) → Array Value → State → Outcome → State → Prop}
    (hy : plainName y.cls = true) (hn : (lg_sl av).length ≤ n)
    (body : ∀ (p : Program) (e : Env) (s : State) (m : MethodId) (below : List Frame) (meth : Method) (c : Code) (A : Nat → Prop) (ls : Array Slot),
      p.tables.exec = Jvm.exec → c.code = b → meth.sig.returnType = r → c.maxLocals = n → meth.locks = false → meth.name = y.name → s.vm.findClass y.cls = some m.cls →
      (∀ w ∈ gt, w.before av.toArray s = true) → nw s → (∀ q : Nat, s.heap.size ≤ q → A q) →
      va_P g.1 classes ws s.heap → va_K g.1 classes (tysG g) s → va_D A ws → va_S A s.heap s.heap [] → lv_has ls n (lv_args 0 av) →
      W p l e rm s m av.toArray below meth c s.heap [] 0 0 (MQ below (QA A) av.toArray s rm.cells rm.slots A) (F0 m 0 ls [])) :
    Met l y (mw y b n r) rm (va_Pc av (Wd g ws sz)) (QA (va_A ws sz)) rm.cells rm.slots (va_A ws sz) := by
  refine Met.ofW (cc := b) (maxL := n) (ret := r) hy rfl ?_
  intro p e s m args below meth c s₁ B hml hv
  obtain ⟨rfl, hsz, hP, hK, hD0, hN⟩ := hv
  have hts := atoms_spec (ws := mw y b n r) B.pre
  have hl := lv_entry av (n := n) hn
  rw [lg_entry_eq]
  generalize (lg_sl av ++ List.replicate (n - (lg_sl av).length) Slot.unset).toArray = ls at hl ⊢
  subst hsz
  exact body p e s m below meth c (va_A ws s.heap.size) ls B.exec B.bytes B.returns hml B.notSynchronized (name_of_methodNamed B.named B.method).1 (findClass_of_methodNamed B.named) (fun w h => hts w (List.mem_cons_of_mem _ h)) hN (fun q h => Or.inr h) hP hK hD0.self va_S.rf hl
theorem startV {l : Launch} {y : MethodName} {b : ByteArray} {n : Nat} {rm : Room} {g : gG} {av : List Value} {ws : va_W} {sz : Nat} {post : va_W → Prop}
    (hy : plainName y.cls = true) (hn : (lg_sl av).length ≤ n)
    (body : ∀ (p : Program) (e : Env) (s : State) (m : MethodId) (below : List Frame) (meth : Method) (c : Code) (A : Nat → Prop) (ls : Array Slot),
      p.tables.exec = Jvm.exec → c.code = b → meth.sig.returnType = none → c.maxLocals = n → meth.locks = false → meth.name = y.name → s.vm.findClass y.cls = some m.cls →
      (∀ w ∈ gt, w.before av.toArray s = true) → nw s → (∀ q : Nat, s.heap.size ≤ q → A q) →
      va_P g.1 classes ws s.heap → va_K g.1 classes (tysG g) s → va_D A ws → va_S A s.heap s.heap [] → lv_has ls n (lv_args 0 av) →
      W p l e rm s m av.toArray below meth c s.heap [] 0 0 (MQ below (va_Qv (S := va_W) post (We g A) A) av.toArray s rm.cells rm.slots A) (F0 m 0 ls [])) : Cv l y b n rm g av ws sz post :=
  Met_start (QA := fun A => va_Qv (S := va_W) post (We g A) A) hy hn body
theorem startI {l : Launch} {y : MethodName} {b : ByteArray} {n : Nat} {rm : Room} {g : gG} {av : List Value} {ws : va_W} {sz : Nat} {post : Int32 → va_W → Prop}
    (hy : plainName y.cls = true) (hn : (lg_sl av).length ≤ n)
    (body : ∀ (p : Program) (e : Env) (s : State) (m : MethodId) (below : List Frame) (meth : Method) (c : Code) (A : Nat → Prop) (ls : Array Slot),
      p.tables.exec = Jvm.exec → c.code = b → meth.sig.returnType = some .int → c.maxLocals = n → meth.locks = false → meth.name = y.name → s.vm.findClass y.cls = some m.cls →
      (∀ w ∈ gt, w.before av.toArray s = true) → nw s → (∀ q : Nat, s.heap.size ≤ q → A q) →
      va_P g.1 classes ws s.heap → va_K g.1 classes (tysG g) s → va_D A ws → va_S A s.heap s.heap [] → lv_has ls n (lv_args 0 av) →
      W p l e rm s m av.toArray below meth c s.heap [] 0 0 (MQ below (va_Qi (S := va_W) post (We g A) A) av.toArray s rm.cells rm.slots A) (F0 m 0 ls [])) : Ci l y b n rm g av ws sz post :=
  Met_start (QA := fun A => va_Qi (S := va_W) post (We g A) A) hy hn body
theorem startL {l : Launch} {y : MethodName} {b : ByteArray} {n : Nat} {rm : Room} {g : gG} {av : List Value} {ws : va_W} {sz : Nat} {post : Int64 → va_W → Prop}
    (hy : plainName y.cls = true) (hn : (lg_sl av).length ≤ n)
    (body : ∀ (p : Program) (e : Env) (s : State) (m : MethodId) (below : List Frame) (meth : Method) (c : Code) (A : Nat → Prop) (ls : Array Slot),
      p.tables.exec = Jvm.exec → c.code = b → meth.sig.returnType = some .long → c.maxLocals = n → meth.locks = false → meth.name = y.name → s.vm.findClass y.cls = some m.cls →
      (∀ w ∈ gt, w.before av.toArray s = true) → nw s → (∀ q : Nat, s.heap.size ≤ q → A q) →
      va_P g.1 classes ws s.heap → va_K g.1 classes (tysG g) s → va_D A ws → va_S A s.heap s.heap [] → lv_has ls n (lv_args 0 av) →
      W p l e rm s m av.toArray below meth c s.heap [] 0 0 (MQ below (va_Ql (S := va_W) post (We g A) A) av.toArray s rm.cells rm.slots A) (F0 m 0 ls [])) : Cl l y b n rm g av ws sz post :=
  Met_start (QA := fun A => va_Ql (S := va_W) post (We g A) A) hy hn body
theorem va_PsubM {D : va_G} {cl : List vw_C} {ws ws' : va_W} {H : Heap} (h : va_P D cl ws H) (is : List Nat) (hs : is.map (fun i => ws[i]?) = ws'.map some) : va_P D cl ws' H := by
  intro k q hk
  have h1 : (is.map (fun i => ws[i]?))[k]? = some (some q) := by rw [hs, List.getElem?_map, hk]; rfl
  rw [List.getElem?_map] at h1
  cases hi : is[k]? with
  | none => rw [hi] at h1; cases h1
  | some i => rw [hi] at h1; exact h i q (Option.some.inj h1)
theorem gE_left {ws x : va_W} {k : Nat} {q : Nat × va_E} (hk : ws[k]? = some q) : (ws ++ x)[k]? = some q := by
  rw [List.getElem?_append_left (List.getElem?_eq_some_iff.mp hk).1]; exact hk
theorem va_Pleft {D : va_G} {cl : List vw_C} {ws x : va_W} {H : Heap} (h : va_P D cl (ws ++ x) H) : va_P D cl ws H := fun k q hk => h k q (gE_left hk)
theorem va_Dleft {A : Nat → Prop} {ws x : va_W} (h : va_D A (ws ++ x)) : va_D A ws := ⟨fun i j a b hi hj => h.1 i j a b (gE_left hi) (gE_left hj), fun k q hk => h.2 k q (gE_left hk)⟩
theorem ra_uniq {U : State} {a b : ClassId} {ty : FieldType} (hn : ∀ C, ty ≠ .object C) (h1 : va_RA U a ty) (h2 : va_RA U b ty) : a = b := by
  cases ty with
  | object C => exact absurd rfl (hn C)
  | _ => exact Option.some.inj (Eq.trans (Eq.symm h1) h2)
theorem no_byte : ∀ C, (FieldType.byte) ≠ .object C := fun _ h => by cases h
theorem a0_byte (N : Nat) (cA : ClassId) : vp_cell cA (N, .inl (fun _ => 0)) = arrV cA N (fun _ => defaultValue .byte) := rfl
theorem no_int : ∀ C, (FieldType.int) ≠ .object C := fun _ h => by cases h
theorem a0_int (N : Nat) (cA : ClassId) : vp_cell cA (N, .inl (fun _ => 0)) = arrV cA N (fun _ => defaultValue .int) := rfl
theorem no_long : ∀ C, (FieldType.long) ≠ .object C := fun _ h => by cases h
theorem a0_long (N : Nat) (cA : ClassId) : vp_cell cA (N, .inr (.inl (fun _ => 0))) = arrV cA N (fun _ => defaultValue .long) := rfl
theorem no_boolean : ∀ C, (FieldType.boolean) ≠ .object C := fun _ h => by cases h
theorem a0_boolean (N : Nat) (cA : ClassId) : vp_cell cA (N, .inl (fun _ => 0)) = arrV cA N (fun _ => defaultValue .boolean) := rfl
theorem no_char : ∀ C, (FieldType.char) ≠ .object C := fun _ h => by cases h
theorem a0_char (N : Nat) (cA : ClassId) : vp_cell cA (N, .inl (fun _ => 0)) = arrV cA N (fun _ => defaultValue .char) := rfl
section B1
variable {p : Program} {l : Launch} {e : Env} {R : Room} {s : State} {m : MethodId} {args : Array Value} {below : List Frame} {meth : Method} {c : Code} {H : Heap} {locs : List Loc} {cells slots : Nat} {Q : State → Prop}
variable {cc : ByteArray} {pc : Nat} {ls : Array Slot} {rest : List Value} {g : gG} {A : Nat → Prop} {ws : va_W}
theorem toI {x y : Int32} (h : x = y) (k : W p l e R s m args below meth c H locs cells slots Q (F0 m pc ls (.int y :: rest))) : W p l e R s m args below meth c H locs cells slots Q (F0 m pc ls (.int x :: rest)) := h ▸ k
theorem toL {x y : Int64} (h : x = y) (k : W p l e R s m args below meth c H locs cells slots Q (F0 m pc ls (.long y :: rest))) : W p l e R s m args below meth c H locs cells slots Q (F0 m pc ls (.long x :: rest)) := h ▸ k
/-- a new array; its class is the one of its type -/
theorem nea (hx : p.tables.exec = Jvm.exec) (hb : c.code = cc) (htt : ∀ w ∈ gt, w.before args s = true) {atype : ArrayType} {ty : FieldType} (ix : Nat) (hty : newarray.typeOf atype = ty) (hno : ∀ C, ty ≠ .object C) (harr : Cond.arrayClass ty ∈ gt) (hi : (tysG g)[ix]? = some (g.2 ix, ty))
    (hK : va_K g.1 classes (tysG g) s) (hP : va_P g.1 classes ws H) (hD : va_D A ws) (hS : va_S A s.heap H locs) (hA : ∀ q : Nat, s.heap.size ≤ q → A q)
    {n : Int32} {N' : Nat} {a0 : vp_A} (ha : ∀ cA : ClassId, vp_cell cA a0 = arrV cA N' (fun _ => defaultValue ty)) (hn : ¬ n < 0) (hN : n.toNatClampNeg = N') (hbytes : N' * componentBytes ty ≤ 536870912) (hcells : cells + 1 ≤ R.cells) (hslots : slots + N' ≤ R.slots) (hdg : decode cc pc = .ok (.newarray atype, 2))
    (kk : ∀ (q : Nat) (H1 : Heap), va_P g.1 classes (ws ++ [(q, .inl (g.2 ix, a0))]) H1 → va_D A (ws ++ [(q, .inl (g.2 ix, a0))]) → va_S A s.heap H1 locs → W p l e R s m args below meth c H1 locs (cells + 1) (slots + N') Q (F0 m (pc + 2) ls (.ref q :: rest))) :
    W p l e R s m args below meth c H locs cells slots Q (F0 m pc ls (.int n :: rest)) := by
  refine va_newa hx hb (by rw [hty]; exact htt _ harr) hty hK hP hD hS hA ha hn hN hbytes hcells hslots hdg (fun q cA H1 hK1 hP1 hD1 hS1 => ?_)
  have e1 : va_RA s cA ty := (hK1.2 (tysG g).length (cA, ty) (by simp)).2
  have e2 : va_RA s (g.2 ix) ty := (hK.2 ix (g.2 ix, ty) hi).2
  have e3 : cA = g.2 ix := ra_uniq hno e1 e2
  subst e3
  exact kk q H1 hP1 hD1 hS1
/-- the same, the new cell not kept in the world -/
theorem nea0 (hx : p.tables.exec = Jvm.exec) (hb : c.code = cc) (htt : ∀ w ∈ gt, w.before args s = true) {atype : ArrayType} {ty : FieldType} (ix : Nat) (hty : newarray.typeOf atype = ty) (hno : ∀ C, ty ≠ .object C) (harr : Cond.arrayClass ty ∈ gt) (hi : (tysG g)[ix]? = some (g.2 ix, ty))
    (hK : va_K g.1 classes (tysG g) s) (hP : va_P g.1 classes ws H) (hD : va_D A ws) (hS : va_S A s.heap H locs) (hA : ∀ q : Nat, s.heap.size ≤ q → A q)
    {n : Int32} {N' : Nat} {a0 : vp_A} (ha : ∀ cA : ClassId, vp_cell cA a0 = arrV cA N' (fun _ => defaultValue ty)) (hn : ¬ n < 0) (hN : n.toNatClampNeg = N') (hbytes : N' * componentBytes ty ≤ 536870912) (hcells : cells + 1 ≤ R.cells) (hslots : slots + N' ≤ R.slots) (hdg : decode cc pc = .ok (.newarray atype, 2))
    (kk : ∀ (q : Nat) (H1 : Heap), va_P g.1 classes ws H1 → va_D A ws → va_S A s.heap H1 locs → W p l e R s m args below meth c H1 locs (cells + 1) (slots + N') Q (F0 m (pc + 2) ls (.ref q :: rest))) :
    W p l e R s m args below meth c H locs cells slots Q (F0 m pc ls (.int n :: rest)) :=
  nea (g := g) (ws := ws) (A := A) hx hb htt ix hty hno harr hi hK hP hD hS hA ha hn hN hbytes hcells hslots hdg (fun q H1 hP1 hD1 hS1 => kk q H1 (va_Pleft hP1) (va_Dleft hD1) hS1)
theorem preS_of {As : List Value} {wc : va_W} (isC : List Nat) (hC : isC.map (fun i => ws[i]?) = wc.map some) (hnC : va_nd isC = true)
    (hP : va_P g.1 classes ws H) (hK : va_K g.1 classes (tysG g) s) (hD : va_D A ws) (hN : nw s) : PreS s H (va_Pc As (Wd g wc H.size)) As := by
  have hPc := va_PsubM hP isC hC
  have hDc := hD.sub (ws' := wc) isC hnC hC
  exact ⟨Wd_blind, fun U hU hW => ⟨rfl, by rw [hU], by rw [hU]; exact hPc, va_K.moved hW.alike hK, hDc.weaken (fun _ _ _ _ => trivial), nw_warm hW hN⟩⟩
/-- a call that gives nothing: the callee's cells are those at isC, the rest's at isR -/
theorem go_v {wc wr : va_W} {post : va_W → Prop} {As st0 : List Value} {a : Array Value} {mc ms : Nat} (isC isR : List Nat) (hC : isC.map (fun i => ws[i]?) = wc.map some) (hR : isR.map (fun i => ws[i]?) = wr.map some) (hnC : va_nd isC = true) (hnR : va_nd isR = true) (hdis : ∀ i ∈ isR, i ∉ isC)
    (hP : va_P g.1 classes ws H) (hK : va_K g.1 classes (tysG g) s) (hD : va_D A ws) (hS : va_S A s.heap H locs) (hA : ∀ q : Nat, s.heap.size ≤ q → A q) (hN : nw s)
    (hr : PreS s H (va_Pc As (Wd g wc H.size)) As → va_Run p l e R s m args below meth c H locs cells slots mc ms (F0 m pc ls st0) rest (va_Qv (S := va_W) post (We g (va_A wc H.size)) (va_A wc H.size) a) (va_A wc H.size))
    (kk : ∀ (w1 : va_W) (H1 : Heap) (locs1 : List Loc), post w1 → va_P g.1 classes (wr ++ w1) H1 → va_D A (wr ++ w1) → va_S A s.heap H1 locs1 → W p l e R s m args below meth c H1 locs1 (cells + mc) (slots + ms) Q (F0 m (pc + 3) ls rest)) :
    W p l e R s m args below meth c H locs cells slots Q (F0 m pc ls st0) := by
  have hFc := va_free (wc := wc) hD hS hA isC hC
  refine va_callv (hr (preS_of isC hC hnC hP hK hD hN)) hS (fun q _ h => hFc q h) hFc (fun u t H1 locs1 ht hvm hw hB hz1 hk1 hS1 => ?_)
  obtain ⟨hP1, hD1⟩ := hB
  rw [ht] at hP1
  obtain ⟨hP2, hD2⟩ := va_join (wr := wr) (w1 := u) hP hD isC isR hC hR hnR hdis hk1 hFc hP1 hD1
  exact kk u H1 locs1 hw hP2 hD2 hS1
theorem go_i {wc wr : va_W} {post : Int32 → va_W → Prop} {As st0 : List Value} {a : Array Value} {mc ms : Nat} (isC isR : List Nat) (hC : isC.map (fun i => ws[i]?) = wc.map some) (hR : isR.map (fun i => ws[i]?) = wr.map some) (hnC : va_nd isC = true) (hnR : va_nd isR = true) (hdis : ∀ i ∈ isR, i ∉ isC)
    (hP : va_P g.1 classes ws H) (hK : va_K g.1 classes (tysG g) s) (hD : va_D A ws) (hS : va_S A s.heap H locs) (hA : ∀ q : Nat, s.heap.size ≤ q → A q) (hN : nw s)
    (hr : PreS s H (va_Pc As (Wd g wc H.size)) As → va_Run p l e R s m args below meth c H locs cells slots mc ms (F0 m pc ls st0) rest (va_Qi (S := va_W) post (We g (va_A wc H.size)) (va_A wc H.size) a) (va_A wc H.size))
    (kk : ∀ (r : Int32) (w1 : va_W) (H1 : Heap) (locs1 : List Loc), post r w1 → va_P g.1 classes (wr ++ w1) H1 → va_D A (wr ++ w1) → va_S A s.heap H1 locs1 → W p l e R s m args below meth c H1 locs1 (cells + mc) (slots + ms) Q (F0 m (pc + 3) ls (.int r :: rest))) :
    W p l e R s m args below meth c H locs cells slots Q (F0 m pc ls st0) := by
  have hFc := va_free (wc := wc) hD hS hA isC hC
  refine va_calli (hr (preS_of isC hC hnC hP hK hD hN)) hS (fun q _ h => hFc q h) hFc (fun r u t H1 locs1 ht hvm hw hB hz1 hk1 hS1 => ?_)
  obtain ⟨hP1, hD1⟩ := hB
  rw [ht] at hP1
  obtain ⟨hP2, hD2⟩ := va_join (wr := wr) (w1 := u) hP hD isC isR hC hR hnR hdis hk1 hFc hP1 hD1
  exact kk r u H1 locs1 hw hP2 hD2 hS1
theorem go_l {wc wr : va_W} {post : Int64 → va_W → Prop} {As st0 : List Value} {a : Array Value} {mc ms : Nat} (isC isR : List Nat) (hC : isC.map (fun i => ws[i]?) = wc.map some) (hR : isR.map (fun i => ws[i]?) = wr.map some) (hnC : va_nd isC = true) (hnR : va_nd isR = true) (hdis : ∀ i ∈ isR, i ∉ isC)
    (hP : va_P g.1 classes ws H) (hK : va_K g.1 classes (tysG g) s) (hD : va_D A ws) (hS : va_S A s.heap H locs) (hA : ∀ q : Nat, s.heap.size ≤ q → A q) (hN : nw s)
    (hr : PreS s H (va_Pc As (Wd g wc H.size)) As → va_Run p l e R s m args below meth c H locs cells slots mc ms (F0 m pc ls st0) rest (va_Ql (S := va_W) post (We g (va_A wc H.size)) (va_A wc H.size) a) (va_A wc H.size))
    (kk : ∀ (r : Int64) (w1 : va_W) (H1 : Heap) (locs1 : List Loc), post r w1 → va_P g.1 classes (wr ++ w1) H1 → va_D A (wr ++ w1) → va_S A s.heap H1 locs1 → W p l e R s m args below meth c H1 locs1 (cells + mc) (slots + ms) Q (F0 m (pc + 3) ls (.long r :: rest))) :
    W p l e R s m args below meth c H locs cells slots Q (F0 m pc ls st0) := by
  have hFc := va_free (wc := wc) hD hS hA isC hC
  refine va_calll (hr (preS_of isC hC hnC hP hK hD hN)) hS (fun q _ h => hFc q h) hFc (fun r u t H1 locs1 ht hvm hw hB hz1 hk1 hS1 => ?_)
  obtain ⟨hP1, hD1⟩ := hB
  rw [ht] at hP1
  obtain ⟨hP2, hD2⟩ := va_join (wr := wr) (w1 := u) hP hD isC isR hC hR hnR hdis hk1 hFc hP1 hD1
  exact kk r u H1 locs1 hw hP2 hD2 hS1
/-- the words and the room of a call by an ordinary link -/
theorem cb_L {own : String} {index n k : Nat} {y : MethodName} {b : ByteArray} {r : Option FieldType} {rm : Room} (htt : ∀ w ∈ gt, w.before args s = true) (hc : Cond.code y b n r ∈ gt) (hini : Cond.initialized y.cls ∈ gt) (hl : Cond.methodLink own index y ∈ gt)
    (hd : y.cls ≠ "java/lang/invoke/MethodHandle" ∧ y.cls ≠ "java/lang/invoke/VarHandle" ∧ (parseMethodDescriptor y.desc).map (fun d => d.parameters.length) = some k) (hR : rm.frames + 1 ≤ R.frames ∧ 8 + (n + 11) + rm.locals ≤ R.locals) : CallB R s args own index y b n r (mw y b n r) rm rm.cells rm.slots k :=
  callB_of k htt (good_mw hc) rfl rfl rfl (htt _ hini) (htt _ hl) hd hR
/-- the same, of a nest mate's private method -/
theorem cb_N {own host : String} {index n k : Nat} {y : MethodName} {b : ByteArray} {r : Option FieldType} {rm : Room} (htt : ∀ w ∈ gt, w.before args s = true) (hc : Cond.code y b n r ∈ gt) (hini : Cond.initialized y.cls ∈ gt) (hN : nw s) (hl : (own, index, y, host) ∈ nestM)
    (hd : y.cls ≠ "java/lang/invoke/MethodHandle" ∧ y.cls ≠ "java/lang/invoke/VarHandle" ∧ (parseMethodDescriptor y.desc).map (fun d => d.parameters.length) = some k) (hR : rm.frames + 1 ≤ R.frames ∧ 8 + (n + 11) + rm.locals ≤ R.locals) : va_CN R s args own index y host b n r (mw y b n r) rm rm.cells rm.slots k :=
  va_cnB k htt (good_mw hc) rfl rfl rfl (hN.2 _ hl) (htt _ hini) hd hR
/-- ends -/
theorem fin_v {post : va_W → Prop} {rc rs : Nat} (hx : p.tables.exec = Jvm.exec) (hb : c.code = cc) (hr : meth.sig.returnType = none) (hlocks : meth.locks = false) (hc : cells ≤ rc) (hs : slots ≤ rs) (hP : va_P g.1 classes ws H) (hD : va_D A ws) (hS : va_S A s.heap H locs) (hp : post ws) (hdg : decode cc pc = .ok (.return_, 1)) :
    W p l e R s m args below meth c H locs cells slots (MQ below (va_Qv (S := va_W) post (We g A) A) args s rc rs A) (F0 m pc ls []) := by
  refine W.widen (k := rc) (n := rs) hc hs ?_
  exact W.vret hx hb hr (fun t ht hW => ⟨⟨ws, rfl, hp, by rw [ht]; exact hP, hD⟩, hS.F ht⟩) hS.2.2 hdg
theorem fin_i {post : Int32 → va_W → Prop} {rc rs : Nat} {v : Int32} (hx : p.tables.exec = Jvm.exec) (hb : c.code = cc) (hr : meth.sig.returnType = some .int) (hlocks : meth.locks = false) (hc : cells ≤ rc) (hs : slots ≤ rs) (hP : va_P g.1 classes ws H) (hD : va_D A ws) (hS : va_S A s.heap H locs) (hp : post v ws) (hdg : decode cc pc = .ok (.ireturn, 1)) :
    W p l e R s m args below meth c H locs cells slots (MQ below (va_Qi (S := va_W) post (We g A) A) args s rc rs A) (F0 m pc ls [.int v]) := by
  refine W.widen (k := rc) (n := rs) hc hs ?_
  exact W.iret hx hb hr (fun t ht hW => ⟨⟨v, ws, rfl, hp, by rw [ht]; exact hP, hD⟩, hS.F ht⟩) hS.2.2 hdg
theorem fin_l {post : Int64 → va_W → Prop} {rc rs : Nat} {v : Int64} (hx : p.tables.exec = Jvm.exec) (hb : c.code = cc) (hr : meth.sig.returnType = some .long) (hlocks : meth.locks = false) (hc : cells ≤ rc) (hs : slots ≤ rs) (hP : va_P g.1 classes ws H) (hD : va_D A ws) (hS : va_S A s.heap H locs) (hp : post v ws) (hdg : decode cc pc = .ok (.lreturn, 1)) :
    W p l e R s m args below meth c H locs cells slots (MQ below (va_Ql (S := va_W) post (We g A) A) args s rc rs A) (F0 m pc ls [.long v]) := by
  refine W.widen (k := rc) (n := rs) hc hs ?_
  exact W.lret hx hb hr (fun t ht hW => ⟨⟨v, ws, rfl, hp, by rw [ht]; exact hP, hD⟩, hS.F ht⟩) hS.2.2 hdg
end B1
