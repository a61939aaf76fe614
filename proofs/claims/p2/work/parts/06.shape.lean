-- worlds of a fixed shape: objects with int fields and fixed references, arrays of fixed types and lengths; a state is three functions
abbrev shO : Type := Nat × List (Option Nat)
abbrev shA : Type := Nat × Nat
abbrev shT : Type := List shO × List shA
abbrev sS : Type := (Nat → Nat → Int32) × (Nat → Nat → Int32) × (Nat → Nat → Int64)
def fv (ad : Nat → Nat) (iv : Nat → Int32) (k : Nat) (t : Option Nat) : Value := match t with
  | none => .int (iv k)
  | some c => .ref (ad c)
def objE (ad : Nat → Nat) (S : sS) (o : Nat) (x : shO) : Nat × va_E := (ad o, .inr (x.1, x.2.mapIdx (fun k t => fv ad (S.1 o) k t)))
def arrC (S : sS) (a : Nat) (x : shA) : vp_A := (x.2, if x.1 = 2 then .inr (.inl (S.2.2 a)) else .inl (S.2.1 a))
def arrE (g : gG) (ad : Nat → Nat) (nO : Nat) (S : sS) (a : Nat) (x : shA) : Nat × va_E := (ad (nO + a), .inl (g.2 x.1, arrC S a x))
def Sw (h : shT) (g : gG) (ad : Nat → Nat) (S : sS) : va_W := h.1.mapIdx (fun o x => objE ad S o x) ++ h.2.mapIdx (fun a x => arrE g ad h.1.length S a x)
theorem Sw_o {h : shT} {g : gG} {ad : Nat → Nat} {S : sS} {o : Nat} {x : shO} (hx : h.1[o]? = some x) : (Sw h g ad S)[o]? = some (objE ad S o x) := by
  have hl : o < h.1.length := (List.getElem?_eq_some_iff.mp hx).1
  unfold Sw
  rw [List.getElem?_append_left (by simpa using hl), List.getElem?_mapIdx, hx]
  rfl
theorem Sw_a {h : shT} {g : gG} {ad : Nat → Nat} {S : sS} {a : Nat} {x : shA} (hx : h.2[a]? = some x) : (Sw h g ad S)[h.1.length + a]? = some (arrE g ad h.1.length S a x) := by
  unfold Sw
  rw [List.getElem?_append_right (by simp), List.length_mapIdx, Nat.add_sub_cancel_left, List.getElem?_mapIdx, hx]
  rfl
def up2 {α : Type} (f : Nat → Nat → α) (a i : Nat) (v : α) : Nat → Nat → α := fun a' i' => if a' = a ∧ i' = i then v else f a' i'
def putI (S : sS) (o k : Nat) (v : Int32) : sS := (up2 S.1 o k v, S.2.1, S.2.2)
def putA (S : sS) (a i : Nat) (v : Int32) : sS := (S.1, up2 S.2.1 a i v, S.2.2)
def putL (S : sS) (a i : Nat) (v : Int64) : sS := (S.1, S.2.1, up2 S.2.2 a i v)
theorem up2_row {α : Type} {f : Nat → Nat → α} {a i : Nat} {v : α} {a' : Nat} (h : a' ≠ a) : up2 f a i v a' = f a' := by
  funext j
  unfold up2
  rw [if_neg (fun z => h z.1)]
theorem up2_own {α : Type} {f : Nat → Nat → α} {a i : Nat} {v : α} {j : Nat} : up2 f a i v a j = if j = i then v else f a j := by
  unfold up2
  by_cases hj : j = i
  · rw [if_pos ⟨rfl, hj⟩, if_pos hj]
  · rw [if_neg (fun z => hj z.2), if_neg hj]
theorem mapIdx_setE {α β : Type} {l : List α} {f f' : Nat → α → β} {o : Nat} {e : β} (he : ∀ x, l[o]? = some x → e = f' o x) (hn : ∀ i x, i ≠ o → l[i]? = some x → f i x = f' i x) : (l.mapIdx f).set o e = l.mapIdx f' := by
  apply List.ext_getElem?
  intro i
  rw [List.getElem?_set, List.getElem?_mapIdx, List.getElem?_mapIdx]
  by_cases hi : o = i
  · subst hi
    rw [if_pos rfl]
    cases hx : l[o]? with
    | none =>
      rw [if_neg]
      · rfl
      · intro hl
        rw [List.length_mapIdx] at hl
        rw [List.getElem?_eq_getElem hl] at hx
        cases hx
    | some x =>
      rw [if_pos (by rw [List.length_mapIdx]; exact (List.getElem?_eq_some_iff.mp hx).1), he x hx]
      rfl
  · rw [if_neg hi]
    cases hx : l[i]? with
    | none => rfl
    | some x =>
      show some (f i x) = some (f' i x)
      rw [hn i x (fun z => hi z.symm) hx]
theorem Sw_putI {h : shT} {g : gG} {ad : Nat → Nat} {S : sS} {o k : Nat} {x : shO} {v : Int32} (hx : h.1[o]? = some x) (hk : x.2[k]? = some none) :
    (Sw h g ad S).set o (ad o, .inr (x.1, (x.2.mapIdx (fun k t => fv ad (S.1 o) k t)).set k (.int v))) = Sw h g ad (putI S o k v) := by
  have hl : o < h.1.length := (List.getElem?_eq_some_iff.mp hx).1
  have e2 : (x.2.mapIdx (fun k t => fv ad (S.1 o) k t)).set k (.int v) = x.2.mapIdx (fun k' t => fv ad ((putI S o k v).1 o) k' t) := by
    refine mapIdx_setE (fun t ht => ?_) (fun i t hi ht => ?_)
    · rw [hk] at ht
      cases ht
      show Value.int v = Value.int (up2 S.1 o k v o k)
      rw [up2_own, if_pos rfl]
    · cases t with
      | none =>
        show Value.int (S.1 o i) = Value.int (up2 S.1 o k v o i)
        rw [up2_own, if_neg hi]
      | some c => rfl
  unfold Sw
  rw [List.set_append_left _ _ (by rw [List.length_mapIdx]; exact hl)]
  congr 1
  refine mapIdx_setE (fun y hy => ?_) (fun i y hi hy => ?_)
  · rw [hx] at hy
    cases hy
    rw [e2]
    rfl
  · show (ad i, Sum.inr (y.1, y.2.mapIdx (fun k t => fv ad (S.1 i) k t))) = ((ad i, Sum.inr (y.1, y.2.mapIdx (fun k' t => fv ad (up2 S.1 o k v i) k' t))) : Nat × va_E)
    rw [up2_row hi]
theorem Sw_putA {h : shT} {g : gG} {ad : Nat → Nat} {S : sS} {a i ix n : Nat} {v : Int32} (hx : h.2[a]? = some (ix, n)) (hne : ix ≠ 2) :
    (Sw h g ad S).set (h.1.length + a) (ad (h.1.length + a), .inl (g.2 ix, n, .inl (upd (S.2.1 a) i v))) = Sw h g ad (putA S a i v) := by
  unfold Sw
  rw [List.set_append_right _ _ (by rw [List.length_mapIdx]; exact Nat.le_add_right _ _), List.length_mapIdx, Nat.add_sub_cancel_left]
  congr 1
  refine mapIdx_setE (fun y hy => ?_) (fun j y hj hy => ?_)
  · rw [hx] at hy
    cases hy
    show _ = (ad (h.1.length + a), Sum.inl (g.2 ix, n, if ix = 2 then _ else _))
    rw [if_neg hne]
    have e : upd (S.2.1 a) i v = up2 S.2.1 a i v a := by
      funext j
      rw [up2_own]
      rfl
    rw [e]
    rfl
  · show (ad (h.1.length + j), Sum.inl (g.2 y.1, y.2, if y.1 = 2 then _ else Sum.inl (S.2.1 j))) = ((ad (h.1.length + j), Sum.inl (g.2 y.1, y.2, if y.1 = 2 then _ else Sum.inl (up2 S.2.1 a i v j))) : Nat × va_E)
    rw [up2_row hj]
    rfl
theorem Sw_putL {h : shT} {g : gG} {ad : Nat → Nat} {S : sS} {a i n : Nat} {v : Int64} (hx : h.2[a]? = some (2, n)) :
    (Sw h g ad S).set (h.1.length + a) (ad (h.1.length + a), .inl (g.2 2, n, .inr (.inl (vp_updL (S.2.2 a) i v)))) = Sw h g ad (putL S a i v) := by
  unfold Sw
  rw [List.set_append_right _ _ (by rw [List.length_mapIdx]; exact Nat.le_add_right _ _), List.length_mapIdx, Nat.add_sub_cancel_left]
  congr 1
  refine mapIdx_setE (fun y hy => ?_) (fun j y hj hy => ?_)
  · rw [hx] at hy
    cases hy
    show _ = (ad (h.1.length + a), Sum.inl (g.2 2, n, if 2 = 2 then _ else _))
    rw [if_pos rfl]
    have e : vp_updL (S.2.2 a) i v = up2 S.2.2 a i v a := by
      funext j
      rw [up2_own]
      rfl
    rw [e]
    rfl
  · show (ad (h.1.length + j), Sum.inl (g.2 y.1, y.2, if y.1 = 2 then Sum.inr (Sum.inl (S.2.2 j)) else _)) = ((ad (h.1.length + j), Sum.inl (g.2 y.1, y.2, if y.1 = 2 then Sum.inr (Sum.inl (up2 S.2.2 a i v j)) else _)) : Nat × va_E)
    rw [up2_row hj]
    rfl
section SH
variable {p : Program} {l : Launch} {e : Env} {R : Room} {s : State} {m : MethodId} {args : Array Value} {below : List Frame} {meth : Method} {c : Code} {H : Heap} {locs : List Loc} {cells slots : Nat} {Q : State → Prop}
variable {cc : ByteArray} {pc : Nat} {ls : Array Slot} {rest : List Value} {g : gG} {A : Nat → Prop} {h : shT} {ad : Nat → Nat} {S : sS}
theorem S_get (hx : p.tables.exec = Jvm.exec) (hb : c.code = cc) (htt : ∀ w ∈ gt, w.before args s = true) {own ref C : String} {T : u_T} {N index : Nat} (hin : ∀ w ∈ u_ws C T N, w ∈ gt) (hown : s.vm.findClass own = some m.cls) (hK : va_K g.1 classes (tysG g) s) (hP : va_P g.1 classes (Sw h g ad S) H) (o k : Nat) {x : shO} (ho : h.1[o]? = some x) {t : Option Nat} (hk : x.2[k]? = some t) (hc : classes[x.1]? = some (C, T, N)) (hkN : k < N)
    (hlink : (Cond.fieldLink own index ref (T k).2.1 (T k).2.2.1).before args s = true) (hsame : ∀ x, s.fieldFound? (T k).1 (T k).2.1 (T k).2.2.1 = some x → s.fieldFound? ref (T k).2.1 (T k).2.2.1 = some x) (hdg : decode cc pc = .ok (.getfield index, 3))
    (kk : W p l e R s m args below meth c H locs cells slots Q (F0 m (pc + 3) ls (fv ad (S.1 o) k t :: rest))) : W p l e R s m args below meth c H locs cells slots Q (F0 m pc ls (.ref (ad o) :: rest)) :=
  va_get (D := g.1) (ci := x.1) (v := fv ad (S.1 o) k t) (C := C) (T := T) (N := N) hx hb htt hin hown hK hP o (Sw_o ho) hc k hkN hlink hsame (by rw [List.getElem?_mapIdx, hk]; rfl) hdg kk
theorem S_put (hx : p.tables.exec = Jvm.exec) (hb : c.code = cc) (htt : ∀ w ∈ gt, w.before args s = true) {own ref C : String} {T : u_T} {N index : Nat} (hin : ∀ w ∈ u_ws C T N, w ∈ gt) (ty0 : Nat → FieldType) (hty : ∀ k, k < N → parseFieldDescriptor (T k).2.2.1 = some (ty0 k)) (hnm : ∀ a, a < N → ∀ b, b < N → a ≠ b → (T a).2.1 ≠ (T b).2.1) (hown : s.vm.findClass own = some m.cls) (hK : va_K g.1 classes (tysG g) s) (hP : va_P g.1 classes (Sw h g ad S) H) (hD : va_D A (Sw h g ad S)) (hS : va_S A s.heap H locs) (o k : Nat) {x : shO} (ho : h.1[o]? = some x) (hk : x.2[k]? = some none) (hc : classes[x.1]? = some (C, T, N)) (hkN : k < N)
    (hlink : (Cond.fieldLink own index ref (T k).2.1 (T k).2.2.1).before args s = true) (hsame : ∀ x, s.fieldFound? (T k).1 (T k).2.1 (T k).2.2.1 = some x → s.fieldFound? ref (T k).2.1 (T k).2.2.1 = some x) (hfin : (T k).2.2.2 = false) {v : Int32} (hn : narrow (ty0 k) (.int v) = .int v) (hfit : fits (ty0 k) (.int v) = true) (hdg : decode cc pc = .ok (.putfield index, 3))
    (kk : ∀ (H1 : Heap) (locs1 : List Loc), va_P g.1 classes (Sw h g ad (putI S o k v)) H1 → va_D A (Sw h g ad (putI S o k v)) → va_S A s.heap H1 locs1 → W p l e R s m args below meth c H1 locs1 cells slots Q (F0 m (pc + 3) ls rest)) : W p l e R s m args below meth c H locs cells slots Q (F0 m pc ls (.int v :: .ref (ad o) :: rest)) := by
  have hkl : k < x.2.length := (List.getElem?_eq_some_iff.mp hk).1
  refine va_put (D := g.1) (ci := x.1) (v := .int v) (ty := ty0 k) (C := C) (T := T) (N := N) hx hb htt hin ty0 hty hnm hown hK hP hD hS o (Sw_o ho) hc k hkN hlink hsame hfin (hty k hkN) hn hfit (by rw [List.length_mapIdx]; exact hkl) hdg (fun H1 locs1 hP1 hD1 hS1 => ?_)
  rw [Sw_putI ho hk] at hP1 hD1
  exact kk H1 locs1 hP1 hD1 hS1
theorem S_iald (hx : p.tables.exec = Jvm.exec) (hb : c.code = cc) (hK : va_K g.1 classes (tysG g) s) (hP : va_P g.1 classes (Sw h g ad S) H) (a : Nat) {n : Nat} (ha : h.2[a]? = some (1, n)) {i : Int32} (hin : vp_in i n) (hdg : decode cc pc = .ok (.iaload, 1))
    (kk : W p l e R s m args below meth c H locs cells slots Q (F0 m (pc + 1) ls (.int (S.2.1 a i.toNatClampNeg) :: rest))) : W p l e R s m args below meth c H locs cells slots Q (F0 m pc ls (.int i :: .ref (ad (h.1.length + a)) :: rest)) :=
  va_iald hx hb hK hP (h.1.length + a) 1 (Sw_a ha) rfl hin hdg kk
theorem S_bald (hx : p.tables.exec = Jvm.exec) (hb : c.code = cc) (hK : va_K g.1 classes (tysG g) s) (hP : va_P g.1 classes (Sw h g ad S) H) (a : Nat) {n : Nat} (ha : h.2[a]? = some (0, n)) {i : Int32} (hin : vp_in i n) (hdg : decode cc pc = .ok (.baload, 1))
    (kk : W p l e R s m args below meth c H locs cells slots Q (F0 m (pc + 1) ls (.int (S.2.1 a i.toNatClampNeg) :: rest))) : W p l e R s m args below meth c H locs cells slots Q (F0 m pc ls (.int i :: .ref (ad (h.1.length + a)) :: rest)) :=
  va_bald hx hb hK hP (h.1.length + a) 0 (Sw_a ha) rfl hin hdg kk
theorem S_zald (hx : p.tables.exec = Jvm.exec) (hb : c.code = cc) (hK : va_K g.1 classes (tysG g) s) (hP : va_P g.1 classes (Sw h g ad S) H) (a : Nat) {n : Nat} (ha : h.2[a]? = some (3, n)) {i : Int32} (hin : vp_in i n) (hdg : decode cc pc = .ok (.baload, 1))
    (kk : W p l e R s m args below meth c H locs cells slots Q (F0 m (pc + 1) ls (.int (S.2.1 a i.toNatClampNeg) :: rest))) : W p l e R s m args below meth c H locs cells slots Q (F0 m pc ls (.int i :: .ref (ad (h.1.length + a)) :: rest)) :=
  va_zald hx hb hK hP (h.1.length + a) 3 (Sw_a ha) rfl hin hdg kk
theorem S_cald (hx : p.tables.exec = Jvm.exec) (hb : c.code = cc) (hK : va_K g.1 classes (tysG g) s) (hP : va_P g.1 classes (Sw h g ad S) H) (a : Nat) {n : Nat} (ha : h.2[a]? = some (4, n)) {i : Int32} (hin : vp_in i n) (hdg : decode cc pc = .ok (.caload, 1))
    (kk : W p l e R s m args below meth c H locs cells slots Q (F0 m (pc + 1) ls (.int (S.2.1 a i.toNatClampNeg) :: rest))) : W p l e R s m args below meth c H locs cells slots Q (F0 m pc ls (.int i :: .ref (ad (h.1.length + a)) :: rest)) :=
  va_cald hx hb hK hP (h.1.length + a) 4 (Sw_a ha) rfl hin hdg kk
theorem S_lald (hx : p.tables.exec = Jvm.exec) (hb : c.code = cc) (hK : va_K g.1 classes (tysG g) s) (hP : va_P g.1 classes (Sw h g ad S) H) (a : Nat) {n : Nat} (ha : h.2[a]? = some (2, n)) {i : Int32} (hin : vp_in i n) (hdg : decode cc pc = .ok (.laload, 1))
    (kk : W p l e R s m args below meth c H locs cells slots Q (F0 m (pc + 1) ls (.long (S.2.2 a i.toNatClampNeg) :: rest))) : W p l e R s m args below meth c H locs cells slots Q (F0 m pc ls (.int i :: .ref (ad (h.1.length + a)) :: rest)) :=
  va_lald hx hb hK hP (h.1.length + a) 2 (Sw_a ha) rfl hin hdg kk
theorem S_alen (hx : p.tables.exec = Jvm.exec) (hb : c.code = cc) (hK : va_K g.1 classes (tysG g) s) (hP : va_P g.1 classes (Sw h g ad S) H) (a : Nat) {x : shA} {ty : FieldType} (ha : h.2[a]? = some x) (ht : (tysG g)[x.1]? = some (g.2 x.1, ty)) {v : Int32} (hv : Int32.ofNat x.2 = v) (hdg : decode cc pc = .ok (.arraylength, 1))
    (kk : W p l e R s m args below meth c H locs cells slots Q (F0 m (pc + 1) ls (.int v :: rest))) : W p l e R s m args below meth c H locs cells slots Q (F0 m pc ls (.ref (ad (h.1.length + a)) :: rest)) :=
  va_alen hx hb hK hP (h.1.length + a) x.1 (Sw_a ha) ht hv hdg kk
theorem S_iast (hx : p.tables.exec = Jvm.exec) (hb : c.code = cc) (hK : va_K g.1 classes (tysG g) s) (hP : va_P g.1 classes (Sw h g ad S) H) (hD : va_D A (Sw h g ad S)) (hS : va_S A s.heap H locs) (a : Nat) {n : Nat} (ha : h.2[a]? = some (1, n)) {i v : Int32} (hin : vp_in i n) (hdg : decode cc pc = .ok (.iastore, 1))
    (kk : ∀ (H1 : Heap) (locs1 : List Loc), va_P g.1 classes (Sw h g ad (putA S a i.toNatClampNeg v)) H1 → va_D A (Sw h g ad (putA S a i.toNatClampNeg v)) → va_S A s.heap H1 locs1 → W p l e R s m args below meth c H1 locs1 cells slots Q (F0 m (pc + 1) ls rest)) : W p l e R s m args below meth c H locs cells slots Q (F0 m pc ls (.int v :: .int i :: .ref (ad (h.1.length + a)) :: rest)) := by
  refine va_iast hx hb hK hP hD hS (h.1.length + a) 1 (Sw_a ha) rfl hin hdg (fun H1 locs1 hP1 hD1 hS1 => ?_)
  rw [Sw_putA ha (by decide)] at hP1 hD1
  exact kk H1 locs1 hP1 hD1 hS1
theorem S_bast (hx : p.tables.exec = Jvm.exec) (hb : c.code = cc) (hK : va_K g.1 classes (tysG g) s) (hP : va_P g.1 classes (Sw h g ad S) H) (hD : va_D A (Sw h g ad S)) (hS : va_S A s.heap H locs) (a : Nat) {n : Nat} (ha : h.2[a]? = some (0, n)) {i v : Int32} (hin : vp_in i n) (hdg : decode cc pc = .ok (.bastore, 1))
    (kk : ∀ (H1 : Heap) (locs1 : List Loc), va_P g.1 classes (Sw h g ad (putA S a i.toNatClampNeg (vp_nar .byte v))) H1 → va_D A (Sw h g ad (putA S a i.toNatClampNeg (vp_nar .byte v))) → va_S A s.heap H1 locs1 → W p l e R s m args below meth c H1 locs1 cells slots Q (F0 m (pc + 1) ls rest)) : W p l e R s m args below meth c H locs cells slots Q (F0 m pc ls (.int v :: .int i :: .ref (ad (h.1.length + a)) :: rest)) := by
  refine va_bast hx hb hK hP hD hS (h.1.length + a) 0 (Sw_a ha) rfl hin hdg (fun H1 locs1 hP1 hD1 hS1 => ?_)
  rw [Sw_putA ha (by decide)] at hP1 hD1
  exact kk H1 locs1 hP1 hD1 hS1
theorem S_zast (hx : p.tables.exec = Jvm.exec) (hb : c.code = cc) (hK : va_K g.1 classes (tysG g) s) (hP : va_P g.1 classes (Sw h g ad S) H) (hD : va_D A (Sw h g ad S)) (hS : va_S A s.heap H locs) (a : Nat) {n : Nat} (ha : h.2[a]? = some (3, n)) {i v : Int32} (hin : vp_in i n) (hdg : decode cc pc = .ok (.bastore, 1))
    (kk : ∀ (H1 : Heap) (locs1 : List Loc), va_P g.1 classes (Sw h g ad (putA S a i.toNatClampNeg (vp_nar .boolean v))) H1 → va_D A (Sw h g ad (putA S a i.toNatClampNeg (vp_nar .boolean v))) → va_S A s.heap H1 locs1 → W p l e R s m args below meth c H1 locs1 cells slots Q (F0 m (pc + 1) ls rest)) : W p l e R s m args below meth c H locs cells slots Q (F0 m pc ls (.int v :: .int i :: .ref (ad (h.1.length + a)) :: rest)) := by
  refine va_zast hx hb hK hP hD hS (h.1.length + a) 3 (Sw_a ha) rfl hin hdg (fun H1 locs1 hP1 hD1 hS1 => ?_)
  rw [Sw_putA ha (by decide)] at hP1 hD1
  exact kk H1 locs1 hP1 hD1 hS1
theorem S_cast (hx : p.tables.exec = Jvm.exec) (hb : c.code = cc) (hK : va_K g.1 classes (tysG g) s) (hP : va_P g.1 classes (Sw h g ad S) H) (hD : va_D A (Sw h g ad S)) (hS : va_S A s.heap H locs) (a : Nat) {n : Nat} (ha : h.2[a]? = some (4, n)) {i v : Int32} (hin : vp_in i n) (hdg : decode cc pc = .ok (.castore, 1))
    (kk : ∀ (H1 : Heap) (locs1 : List Loc), va_P g.1 classes (Sw h g ad (putA S a i.toNatClampNeg (vp_nar .char v))) H1 → va_D A (Sw h g ad (putA S a i.toNatClampNeg (vp_nar .char v))) → va_S A s.heap H1 locs1 → W p l e R s m args below meth c H1 locs1 cells slots Q (F0 m (pc + 1) ls rest)) : W p l e R s m args below meth c H locs cells slots Q (F0 m pc ls (.int v :: .int i :: .ref (ad (h.1.length + a)) :: rest)) := by
  refine va_cast hx hb hK hP hD hS (h.1.length + a) 4 (Sw_a ha) rfl hin hdg (fun H1 locs1 hP1 hD1 hS1 => ?_)
  rw [Sw_putA ha (by decide)] at hP1 hD1
  exact kk H1 locs1 hP1 hD1 hS1
theorem S_last (hx : p.tables.exec = Jvm.exec) (hb : c.code = cc) (hK : va_K g.1 classes (tysG g) s) (hP : va_P g.1 classes (Sw h g ad S) H) (hD : va_D A (Sw h g ad S)) (hS : va_S A s.heap H locs) (a : Nat) {n : Nat} (ha : h.2[a]? = some (2, n)) {i : Int32} {v : Int64} (hin : vp_in i n) (hdg : decode cc pc = .ok (.lastore, 1))
    (kk : ∀ (H1 : Heap) (locs1 : List Loc), va_P g.1 classes (Sw h g ad (putL S a i.toNatClampNeg v)) H1 → va_D A (Sw h g ad (putL S a i.toNatClampNeg v)) → va_S A s.heap H1 locs1 → W p l e R s m args below meth c H1 locs1 cells slots Q (F0 m (pc + 1) ls rest)) : W p l e R s m args below meth c H locs cells slots Q (F0 m pc ls (.long v :: .int i :: .ref (ad (h.1.length + a)) :: rest)) := by
  refine va_last hx hb hK hP hD hS (h.1.length + a) 2 (Sw_a ha) rfl hin hdg (fun H1 locs1 hP1 hD1 hS1 => ?_)
  rw [Sw_putL ha] at hP1 hD1
  exact kk H1 locs1 hP1 hD1 hS1
end SH
