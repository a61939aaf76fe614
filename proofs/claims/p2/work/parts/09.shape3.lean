-- methods that answer a boolean; System.arraycopy; a whole array replaced
abbrev Cz (l : Launch) (y : MethodName) (b : ByteArray) (n : Nat) (rm : Room) (g : gG) (av : List Value) (ws : va_W) (sz : Nat) (post : Int32 → va_W → Prop) : Prop :=
  Met l y (mw y b n (some .boolean)) rm (va_Pc av (Wd g ws sz)) (va_Qi (S := va_W) post (We g (va_A ws sz)) (va_A ws sz)) rm.cells rm.slots (va_A ws sz)
theorem startZ {l : Launch} {y : MethodName} {b : ByteArray} {n : Nat} {rm : Room} {g : gG} {av : List Value} {ws : va_W} {sz : Nat} {post : Int32 → va_W → Prop}
    (hy : plainName y.cls = true) (hn : (lg_sl av).length ≤ n)
    (body : ∀ (p : Program) (e : Env) (s : State) (m : MethodId) (below : List Frame) (meth : Method) (c : Code) (A : Nat → Prop) (ls : Array Slot),
      p.tables.exec = Jvm.exec → c.code = b → meth.sig.returnType = some .boolean → c.maxLocals = n → meth.locks = false → meth.name = y.name → s.vm.findClass y.cls = some m.cls →
      (∀ w ∈ gt, w.before av.toArray s = true) → nw s → (∀ q : Nat, s.heap.size ≤ q → A q) →
      va_P g.1 classes ws s.heap → va_K g.1 classes (tysG g) s → va_D A ws → va_S A s.heap s.heap [] → lv_has ls n (lv_args 0 av) →
      W p l e rm s m av.toArray below meth c s.heap [] 0 0 (MQ below (va_Qi (S := va_W) post (We g A) A) av.toArray s rm.cells rm.slots A) (F0 m 0 ls [])) : Cz l y b n rm g av ws sz post :=
  Met_start (QA := fun A => va_Qi (S := va_W) post (We g A) A) hy hn body
def setF (S : sS) (a : Nat) (f : Nat → Int32) : sS := (S.1, (fun b => if b = a then f else S.2.1 b), S.2.2)
theorem setF_own {S : sS} {a : Nat} {f : Nat → Int32} : (setF S a f).2.1 a = f := by
  show (if a = a then f else S.2.1 a) = f
  rw [if_pos rfl]
theorem setF_ne {S : sS} {a b : Nat} {f : Nat → Int32} (h : b ≠ a) : (setF S a f).2.1 b = S.2.1 b := by
  show (if b = a then f else S.2.1 b) = S.2.1 b
  rw [if_neg h]
theorem Sw_setF {h : shT} {g : gG} {ad : Nat → Nat} {S : sS} {a ix n : Nat} {f : Nat → Int32} (hx : h.2[a]? = some (ix, n)) (hne : ix ≠ 2) :
    (Sw h g ad S).set (h.1.length + a) (ad (h.1.length + a), .inl (g.2 ix, n, .inl f)) = Sw h g ad (setF S a f) := by
  unfold Sw
  rw [List.set_append_right _ _ (by rw [List.length_mapIdx]; exact Nat.le_add_right _ _), List.length_mapIdx, Nat.add_sub_cancel_left]
  congr 1
  refine mapIdx_setE (fun y hy => ?_) (fun j y hj hy => ?_)
  · rw [hx] at hy
    cases hy
    show _ = (ad (h.1.length + a), Sum.inl (g.2 ix, n, if ix = 2 then _ else Sum.inl ((setF S a f).2.1 a)))
    rw [if_neg hne, setF_own]
  · show (ad (h.1.length + j), Sum.inl (g.2 y.1, y.2, if y.1 = 2 then _ else Sum.inl (S.2.1 j))) = ((ad (h.1.length + j), Sum.inl (g.2 y.1, y.2, if y.1 = 2 then _ else Sum.inl ((setF S a f).2.1 j))) : Nat × va_E)
    rw [setF_ne hj]
    rfl
section SH3
variable {p : Program} {l : Launch} {e : Env} {R : Room} {s : State} {m : MethodId} {args : Array Value} {below : List Frame} {meth : Method} {c : Code} {H : Heap} {locs : List Loc} {cells slots : Nat} {Q : State → Prop}
variable {cc : ByteArray} {pc : Nat} {ls : Array Slot} {rest : List Value} {g : gG} {A : Nat → Prop} {h : shT} {ad : Nat → Nat} {S : sS}
theorem fin_z {post : Int32 → va_W → Prop} {rc rs : Nat} {v : Int32} {ws : va_W} (hx : p.tables.exec = Jvm.exec) (hb : c.code = cc) (hr : meth.sig.returnType = some .boolean) (hlocks : meth.locks = false) (hn : narrow .boolean (.int v) = .int v) (hc : cells ≤ rc) (hs : slots ≤ rs) (hP : va_P g.1 classes ws H) (hD : va_D A ws) (hS : va_S A s.heap H locs) (hp : post v ws) (hdg : decode cc pc = .ok (.ireturn, 1)) :
    W p l e R s m args below meth c H locs cells slots (MQ below (va_Qi (S := va_W) post (We g A) A) args s rc rs A) (F0 m pc ls [.int v]) := by
  refine W.widen (k := rc) (n := rs) hc hs ?_
  exact W.zret hx hb hr hn (fun t ht hW => ⟨⟨v, ws, rfl, hp, by rw [ht]; exact hP, hD⟩, hS.F ht⟩) hS.2.2 hdg
theorem S_copyB (hx : p.tables.exec = Jvm.exec) (hb : c.code = cc) (hml : c.maxLocals = ls.size) (htt : ∀ w ∈ gt, w.before args s = true) {own : String} {index : Nat} (hown : s.vm.findClass own = some m.cls) (hlink : Cond.methodLink own index arraycopyName ∈ gt) (hnat : Cond.native arraycopyName ∈ gt) (hstat : Cond.static arraycopyName ∈ gt) (hini : Cond.initialized "java/lang/System" ∈ gt)
    (hK : va_K g.1 classes (tysG g) s) (hP : va_P g.1 classes (Sw h g ad S) H) (hD : va_D A (Sw h g ad S)) (hS : va_S A s.heap H locs) (x y : Nat) {nx ny : Nat} (ha0 : h.2[x]? = some (0, nx)) (ha1 : h.2[y]? = some (0, ny))
    {sp dp n : Nat} (hb0 : nx < 2 ^ 31) (hb1 : ny < 2 ^ 31) (h4 : sp + n ≤ nx) (h5 : dp + n ≤ ny) (hfit : ∀ i, i < n → fits .byte (.int (S.2.1 x (sp + i))) = true)
    (hframes : 1 ≤ R.frames) (hlocals : (rest.map fun v => v.category).sum + (nativeFrameWords "java/lang/System" "arraycopy" 5 + 11) ≤ R.locals) (hdg : decode cc pc = .ok (.invokestatic index, 3))
    (kk : ∀ (H1 : Heap) (locs1 : List Loc), va_P g.1 classes (Sw h g ad (setF S y (va_cpy (S.2.1 x) (S.2.1 y) sp dp n))) H1 → va_D A (Sw h g ad (setF S y (va_cpy (S.2.1 x) (S.2.1 y) sp dp n))) → va_S A s.heap H1 locs1 → W p l e R s m args below meth c H1 locs1 cells slots Q (F0 m (pc + 3) ls rest)) :
    W p l e R s m args below meth c H locs cells slots Q (F0 m pc ls (.int (nI n) :: .int (nI dp) :: .ref (ad (h.1.length + y)) :: .int (nI sp) :: .ref (ad (h.1.length + x)) :: rest)) := by
  have e1 : (nI sp).toNatClampNeg = sp := nI_clamp (by omega)
  have e2 : (nI dp).toNatClampNeg = dp := nI_clamp (by omega)
  have e3 : (nI n).toNatClampNeg = n := nI_clamp (by omega)
  refine va_copyi hx hb hml hown (htt _ hlink) (htt _ hnat) (htt _ hstat) (htt _ hini) hK hP hD hS (h.1.length + x) (h.1.length + y) 0 0 (ty := .byte) (Sw_a ha0) (Sw_a ha1) rfl rfl rfl (nI_pos (by omega)) (nI_pos (by omega)) (nI_pos (by omega)) (by rw [e1, e3]; exact h4) (by rw [e2, e3]; exact h5) (by rw [e1, e3]; exact hfit) hframes hlocals hdg (fun H1 locs1 hP1 hD1 hS1 => ?_)
  rw [e1, e2, e3] at hP1 hD1
  have e4 := Sw_setF (g := g) (ad := ad) (S := S) (f := va_cpy (S.2.1 x) (S.2.1 y) sp dp n) ha1 (by decide)
  exact kk H1 locs1 (e4 ▸ hP1) (e4 ▸ hD1) hS1
end SH3
