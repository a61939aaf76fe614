-- calls over a world of a fixed shape
theorem nd_of : ∀ {l : List Nat}, l.Nodup → va_nd l = true
  | [], _ => rfl
  | a :: l, h => by
    have h1 := List.nodup_cons.mp h
    simp only [va_nd, Bool.and_eq_true, decide_eq_true_eq]
    exact ⟨h1.1, nd_of h1.2⟩
theorem range_at (ws : va_W) : (List.range ws.length).map (fun i => ws[i]?) = ws.map some := by
  apply List.ext_getElem?
  intro i
  rw [List.getElem?_map, List.getElem?_map]
  by_cases hi : i < ws.length
  · rw [List.getElem?_range hi, List.getElem?_eq_getElem hi]
    simp [hi]
  · rw [List.getElem?_eq_none (by simpa using hi), List.getElem?_eq_none (by simpa using hi)]
    rfl
theorem range_left (w1 w2 : va_W) : (List.range w1.length).map (fun i => (w1 ++ w2)[i]?) = w1.map some := by
  rw [← range_at w1]
  apply List.map_congr_left
  intro i hi
  rw [List.getElem?_append_left (List.mem_range.mp hi)]
theorem range_right (w1 w2 : va_W) : ((List.range w2.length).map (fun i => w1.length + i)).map (fun i => (w1 ++ w2)[i]?) = w2.map some := by
  rw [← range_at w2, List.map_map]
  apply List.map_congr_left
  intro i hi
  show (w1 ++ w2)[w1.length + i]? = w2[i]?
  rw [List.getElem?_append_right (Nat.le_add_right _ _), Nat.add_sub_cancel_left]
theorem nd_range (n : Nat) : va_nd (List.range n) = true := nd_of List.nodup_range
theorem nd_right (n k : Nat) : va_nd ((List.range n).map (fun i => k + i)) = true := by
  exact nd_of (List.pairwise_map.mpr (List.Pairwise.imp (fun h z => h (Nat.add_left_cancel z)) List.nodup_range))
section SH2
variable {p : Program} {l : Launch} {e : Env} {R : Room} {s : State} {m : MethodId} {args : Array Value} {below : List Frame} {meth : Method} {c : Code} {H : Heap} {locs : List Loc} {cells slots : Nat} {Q : State → Prop}
variable {cc : ByteArray} {pc : Nat} {ls : Array Slot} {rest : List Value} {g : gG} {A : Nat → Prop} {h : shT} {ad : Nat → Nat} {S : sS}
theorem S_getI (hx : p.tables.exec = Jvm.exec) (hb : c.code = cc) (htt : ∀ w ∈ gt, w.before args s = true) {own ref C : String} {T : u_T} {N index : Nat} (hin : ∀ w ∈ u_ws C T N, w ∈ gt) (hown : s.vm.findClass own = some m.cls) (hK : va_K g.1 classes (tysG g) s) (hP : va_P g.1 classes (Sw h g ad S) H) (o k : Nat) {x : shO} (ho : h.1[o]? = some x) (hk : x.2[k]? = some none) (hc : classes[x.1]? = some (C, T, N)) (hkN : k < N)
    (hlink : (Cond.fieldLink own index ref (T k).2.1 (T k).2.2.1).before args s = true) (hsame : ∀ x, s.fieldFound? (T k).1 (T k).2.1 (T k).2.2.1 = some x → s.fieldFound? ref (T k).2.1 (T k).2.2.1 = some x) (hdg : decode cc pc = .ok (.getfield index, 3))
    (kk : W p l e R s m args below meth c H locs cells slots Q (F0 m (pc + 3) ls (.int (S.1 o k) :: rest))) : W p l e R s m args below meth c H locs cells slots Q (F0 m pc ls (.ref (ad o) :: rest)) := S_get hx hb htt hin hown hK hP o k ho hk hc hkN hlink hsame hdg kk
theorem S_getR (hx : p.tables.exec = Jvm.exec) (hb : c.code = cc) (htt : ∀ w ∈ gt, w.before args s = true) {own ref C : String} {T : u_T} {N index : Nat} (hin : ∀ w ∈ u_ws C T N, w ∈ gt) (hown : s.vm.findClass own = some m.cls) (hK : va_K g.1 classes (tysG g) s) (hP : va_P g.1 classes (Sw h g ad S) H) (o k : Nat) {x : shO} (ho : h.1[o]? = some x) (d : Nat) (hk : x.2[k]? = some (some d)) (hc : classes[x.1]? = some (C, T, N)) (hkN : k < N)
    (hlink : (Cond.fieldLink own index ref (T k).2.1 (T k).2.2.1).before args s = true) (hsame : ∀ x, s.fieldFound? (T k).1 (T k).2.1 (T k).2.2.1 = some x → s.fieldFound? ref (T k).2.1 (T k).2.2.1 = some x) (hdg : decode cc pc = .ok (.getfield index, 3))
    (kk : W p l e R s m args below meth c H locs cells slots Q (F0 m (pc + 3) ls (.ref (ad d) :: rest))) : W p l e R s m args below meth c H locs cells slots Q (F0 m pc ls (.ref (ad o) :: rest)) := S_get hx hb htt hin hown hK hP o k ho hk hc hkN hlink hsame hdg kk
theorem S_recv (hK : va_K g.1 classes (tysG g) s) (hP : va_P g.1 classes (Sw h g ad S) H) (o : Nat) {x : shO} (ho : h.1[o]? = some x) {q : vw_C} (hc : classes[x.1]? = some q) : ∃ cell : Cell, H[ad o]? = some cell ∧ cell.vm.isStatics = false ∧ s.vm.findClass q.1 = some cell.cls :=
  va_recv hK hP hc (Sw_o ho)
theorem go_vS {post : sS → Prop} {As st0 : List Value} {a : Array Value} {mc ms : Nat}
    (hP : va_P g.1 classes (Sw h g ad S) H) (hK : va_K g.1 classes (tysG g) s) (hD : va_D A (Sw h g ad S)) (hS : va_S A s.heap H locs) (hA : ∀ q : Nat, s.heap.size ≤ q → A q) (hN : nw s)
    (hr : PreS s H (va_Pc As (Wd g (Sw h g ad S) H.size)) As → va_Run p l e R s m args below meth c H locs cells slots mc ms (F0 m pc ls st0) rest (va_Qv (S := va_W) (fun w => ∃ S' : sS, w = Sw h g ad S' ∧ post S') (We g (va_A (Sw h g ad S) H.size)) (va_A (Sw h g ad S) H.size) a) (va_A (Sw h g ad S) H.size))
    (kk : ∀ (S' : sS) (H1 : Heap) (locs1 : List Loc), post S' → va_P g.1 classes (Sw h g ad S') H1 → va_D A (Sw h g ad S') → va_S A s.heap H1 locs1 → W p l e R s m args below meth c H1 locs1 (cells + mc) (slots + ms) Q (F0 m (pc + 3) ls rest)) :
    W p l e R s m args below meth c H locs cells slots Q (F0 m pc ls st0) := by
  refine go_v (wc := Sw h g ad S) (wr := []) (List.range (Sw h g ad S).length) [] (range_at _) rfl (nd_range _) rfl (fun i hi => by cases hi) hP hK hD hS hA hN hr (fun w1 H1 locs1 hw hP1 hD1 hS1 => ?_)
  obtain ⟨S', rfl, hp⟩ := hw
  exact kk S' H1 locs1 hp hP1 hD1 hS1
theorem go_iS {post : Int32 → sS → Prop} {As st0 : List Value} {a : Array Value} {mc ms : Nat}
    (hP : va_P g.1 classes (Sw h g ad S) H) (hK : va_K g.1 classes (tysG g) s) (hD : va_D A (Sw h g ad S)) (hS : va_S A s.heap H locs) (hA : ∀ q : Nat, s.heap.size ≤ q → A q) (hN : nw s)
    (hr : PreS s H (va_Pc As (Wd g (Sw h g ad S) H.size)) As → va_Run p l e R s m args below meth c H locs cells slots mc ms (F0 m pc ls st0) rest (va_Qi (S := va_W) (fun r w => ∃ S' : sS, w = Sw h g ad S' ∧ post r S') (We g (va_A (Sw h g ad S) H.size)) (va_A (Sw h g ad S) H.size) a) (va_A (Sw h g ad S) H.size))
    (kk : ∀ (r : Int32) (S' : sS) (H1 : Heap) (locs1 : List Loc), post r S' → va_P g.1 classes (Sw h g ad S') H1 → va_D A (Sw h g ad S') → va_S A s.heap H1 locs1 → W p l e R s m args below meth c H1 locs1 (cells + mc) (slots + ms) Q (F0 m (pc + 3) ls (.int r :: rest))) :
    W p l e R s m args below meth c H locs cells slots Q (F0 m pc ls st0) := by
  refine go_i (wc := Sw h g ad S) (wr := []) (List.range (Sw h g ad S).length) [] (range_at _) rfl (nd_range _) rfl (fun i hi => by cases hi) hP hK hD hS hA hN hr (fun r w1 H1 locs1 hw hP1 hD1 hS1 => ?_)
  obtain ⟨S', rfl, hp⟩ := hw
  exact kk r S' H1 locs1 hp hP1 hD1 hS1
theorem go_lS {post : Int64 → sS → Prop} {As st0 : List Value} {a : Array Value} {mc ms : Nat}
    (hP : va_P g.1 classes (Sw h g ad S) H) (hK : va_K g.1 classes (tysG g) s) (hD : va_D A (Sw h g ad S)) (hS : va_S A s.heap H locs) (hA : ∀ q : Nat, s.heap.size ≤ q → A q) (hN : nw s)
    (hr : PreS s H (va_Pc As (Wd g (Sw h g ad S) H.size)) As → va_Run p l e R s m args below meth c H locs cells slots mc ms (F0 m pc ls st0) rest (va_Ql (S := va_W) (fun r w => ∃ S' : sS, w = Sw h g ad S' ∧ post r S') (We g (va_A (Sw h g ad S) H.size)) (va_A (Sw h g ad S) H.size) a) (va_A (Sw h g ad S) H.size))
    (kk : ∀ (r : Int64) (S' : sS) (H1 : Heap) (locs1 : List Loc), post r S' → va_P g.1 classes (Sw h g ad S') H1 → va_D A (Sw h g ad S') → va_S A s.heap H1 locs1 → W p l e R s m args below meth c H1 locs1 (cells + mc) (slots + ms) Q (F0 m (pc + 3) ls (.long r :: rest))) :
    W p l e R s m args below meth c H locs cells slots Q (F0 m pc ls st0) := by
  refine go_l (wc := Sw h g ad S) (wr := []) (List.range (Sw h g ad S).length) [] (range_at _) rfl (nd_range _) rfl (fun i hi => by cases hi) hP hK hD hS hA hN hr (fun r w1 H1 locs1 hw hP1 hD1 hS1 => ?_)
  obtain ⟨S', rfl, hp⟩ := hw
  exact kk r S' H1 locs1 hp hP1 hD1 hS1
end SH2
