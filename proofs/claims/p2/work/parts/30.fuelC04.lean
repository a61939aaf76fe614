def f_Lines_setLine : Nat → Nat → sS → (Nat → Int32) → (Nat → Int64) → Option (Int32 × sS)
  | 0, _, _, _, _ => none
  | k + 1, 0, S, L, M => if (S.1 11 11) ≤ (0 : Int32) then (f_Lines_setLine k 1 S L M) else (if okI ((S.1 11 11) - (1 : Int32)) 21 = true then (f_Lines_setLine k 1 (putA S 61 ((S.1 11 11) - (1 : Int32) : Int32).toNatClampNeg ((L 1) - (S.1 11 18))) L M) else none)
  | k + 1, 1, S, L, M => some ((0 : Int32), S)
  | _ + 1, _ + 2, _, _, _ => none
set_option maxHeartbeats 8000000 in
set_option maxRecDepth 100000 in
theorem w_Lines_setLine {p : Program} {l : Launch} {e : Env} {R : Room} {s : State} {m : MethodId} {args : Array Value} {below : List Frame} {meth : Method} {c : Code} {cells slots : Nat} {Q : State → Prop} {g : gG} {A : Nat → Prop} {ad : Nat → Nat} (hx : p.tables.exec = Jvm.exec) (hb : c.code = b_Lines_setLine) (hml : c.maxLocals = 2) (hown : s.vm.findClass "MacroMill$Lines" = some m.cls) (htt : ∀ w ∈ gt, w.before args s = true) (hK : va_K g.1 classes (tysG g) s) (hN : nw s) (hA : ∀ q : Nat, s.heap.size ≤ q → A q) (r : Int32) (S9 : sS)
    (kx_24 : ∀ (ls : Array Slot) (H : Heap) (locs : List Loc), va_P g.1 classes (Sw shC g ad S9) H → va_D A (Sw shC g ad S9) → va_S A s.heap H locs → W p l e R s m args below meth c H locs cells slots Q (F0 m 24 ls [])) :
    ∀ k9 : Nat, (∀ (S : sS) (L : Nat → Int32) (M : Nat → Int64) (ls : Array Slot) (H : Heap) (locs : List Loc), f_Lines_setLine k9 0 S L M = some (r, S9) → lv_has ls 2 [(0, .ref (ad 11)), (1, .int (L 1))] → va_P g.1 classes (Sw shC g ad S) H → va_D A (Sw shC g ad S) → va_S A s.heap H locs → W p l e R s m args below meth c H locs cells slots Q (F0 m 0 ls [])) ∧ (∀ (S : sS) (L : Nat → Int32) (M : Nat → Int64) (ls : Array Slot) (H : Heap) (locs : List Loc), f_Lines_setLine k9 1 S L M = some (r, S9) → lv_has ls 2 [(0, .ref (ad 11)), (1, .int (L 1))] → va_P g.1 classes (Sw shC g ad S) H → va_D A (Sw shC g ad S) → va_S A s.heap H locs → W p l e R s m args below meth c H locs cells slots Q (F0 m 24 ls [])) := by
  intro k9
  induction k9 with
  | zero => exact ⟨(fun _ _ _ _ _ _ h => by simp [f_Lines_setLine] at h), (fun _ _ _ _ _ _ h => by simp [f_Lines_setLine] at h)⟩
  | succ k9 ih =>
    refine ⟨?_, ?_⟩
    · intro S L M ls H locs h hl hP hD hS
      simp only [f_Lines_setLine] at h
      refine lv_aload_n hx hb d_Lines_setLine_0 rfl (lv_at hl 0 rfl) ?_
      refine S_getI (h := shC) (C := "MacroMill$Lines") (T := F_Lines) hx hb htt in_Lines hown hK hP 11 11 rfl rfl rfl (by decide) (htt _ k_770) (fun _ h9 => h9) d_Lines_setLine_1 ?_
      refine lv_if_le (tgt := 24) hx hb d_Lines_setLine_4 (by decide) (fun hc1 => ?_) (fun hc1 => ?_)
      · rw [if_pos hc1] at h
        exact (ih.2) S L M ls H locs h (lv_sub hl [0, 1] rfl) hP hD hS
      · rw [if_neg hc1] at h
        refine lv_aload_n hx hb d_Lines_setLine_7 rfl (lv_at hl 0 rfl) ?_
        refine S_getR (h := shC) (C := "MacroMill$Lines") (T := F_Lines) hx hb htt in_Lines hown hK hP 11 8 rfl 74 rfl rfl (by decide) (htt _ k_767) (fun _ h9 => h9) d_Lines_setLine_8 ?_
        refine lv_aload_n hx hb d_Lines_setLine_11 rfl (lv_at hl 0 rfl) ?_
        refine S_getI (h := shC) (C := "MacroMill$Lines") (T := F_Lines) hx hb htt in_Lines hown hK hP 11 11 rfl rfl rfl (by decide) (htt _ k_770) (fun _ h9 => h9) d_Lines_setLine_12 ?_
        refine lv_iconst (v := 1) hx hb d_Lines_setLine_15 (by decide) ?_
        refine lv_isub hx hb d_Lines_setLine_16 ?_
        refine lv_iload_n hx hb d_Lines_setLine_17 rfl (lv_at hl 1 rfl) ?_
        refine lv_aload_n hx hb d_Lines_setLine_18 rfl (lv_at hl 0 rfl) ?_
        refine S_getI (h := shC) (C := "MacroMill$Lines") (T := F_Lines) hx hb htt in_Lines hown hK hP 11 18 rfl rfl rfl (by decide) (htt _ k_780) (fun _ h9 => h9) d_Lines_setLine_19 ?_
        show W _ _ _ _ _ _ _ _ _ _ _ _ _ _ _ (F0 _ 22 _ _)
        refine lv_isub hx hb d_Lines_setLine_22 ?_
        obtain ⟨hv2, h⟩ := chk h
        refine S_iast (h := shC) (i := (S.1 11 11) - (1 : Int32)) (v := (L 1) - (S.1 11 18)) hx hb hK hP hD hS 61 rfl (okI_in hv2) d_Lines_setLine_23 (fun H locs hP hD hS => ?_)
        exact (ih.2) (putA S 61 ((S.1 11 11) - (1 : Int32) : Int32).toNatClampNeg ((L 1) - (S.1 11 18))) L M ls H locs h (lv_sub hl [0, 1] rfl) hP hD hS
    · intro S L M ls H locs h hl hP hD hS
      simp only [f_Lines_setLine] at h
      cases h
      exact kx_24 ls H locs hP hD hS
abbrev rm_t_Lines_setLine : Room := { frames := 0, cells := 0, slots := 0, locals := 0 }
theorem t_Lines_setLine (l : Launch) (g : gG) (sz : Nat) (ad : Nat → Nat) (S : sS) (v1 : Int32) (k : Nat) (r : Int32) (S9 : sS) (h : f_Lines_setLine k 0 S (upd (fun _ => 0) 1 v1) (fun _ => 0) = some (r, S9)) : Cv l y_Lines_setLine b_Lines_setLine 2 rm_t_Lines_setLine g [.ref (ad 11), .int v1] (Sw shC g ad S) sz (fun w => ∃ S1 : sS, w = Sw shC g ad S1 ∧ S1 = S9) := by
  refine startV (by decide) (Nat.le_of_ble_eq_true rfl) ?_
  intro p e s m below meth c A ls hx hb hr hml hlocks hmn hown htt hN hA hP hK hD hS hl
  exact (w_Lines_setLine hx hb hml hown htt hK hN hA r S9 (fun ls H locs hP hD hS => fin_v (g := g) (ws := Sw shC g ad S9) hx hb hr hlocks (by decide +kernel) (by decide +kernel) hP hD hS ⟨_, rfl, rfl⟩ d_Lines_setLine_24) k).1 S (upd (fun _ => 0) 1 v1) (fun _ => 0) ls _ _ h hl hP hD hS
def f_Lines_toldLine : Nat → Nat → sS → (Nat → Int32) → (Nat → Int64) → Option (Int32 × sS)
  | 0, _, _, _, _ => none
  | k + 1, 0, S, L, M => if (S.1 11 11) ≤ (0 : Int32) then (f_Lines_toldLine k 1 S (upd L 100 (L 1)) M) else (if okI ((S.1 11 11) - (1 : Int32)) 21 = true then (f_Lines_toldLine k 1 S (upd L 100 ((L 1) + (S.2.1 61 ((S.1 11 11) - (1 : Int32) : Int32).toNatClampNeg))) M) else none)
  | k + 1, 1, S, L, M => some (L 100, S)
  | _ + 1, _ + 2, _, _, _ => none
set_option maxHeartbeats 8000000 in
set_option maxRecDepth 100000 in
theorem w_Lines_toldLine {p : Program} {l : Launch} {e : Env} {R : Room} {s : State} {m : MethodId} {args : Array Value} {below : List Frame} {meth : Method} {c : Code} {cells slots : Nat} {Q : State → Prop} {g : gG} {A : Nat → Prop} {ad : Nat → Nat} (hx : p.tables.exec = Jvm.exec) (hb : c.code = b_Lines_toldLine) (hml : c.maxLocals = 2) (hown : s.vm.findClass "MacroMill$Lines" = some m.cls) (htt : ∀ w ∈ gt, w.before args s = true) (hK : va_K g.1 classes (tysG g) s) (hN : nw s) (hA : ∀ q : Nat, s.heap.size ≤ q → A q) (r : Int32) (S9 : sS)
    (kx_24 : ∀ (ls : Array Slot) (H : Heap) (locs : List Loc), va_P g.1 classes (Sw shC g ad S9) H → va_D A (Sw shC g ad S9) → va_S A s.heap H locs → W p l e R s m args below meth c H locs cells slots Q (F0 m 24 ls [.int r])) :
    ∀ k9 : Nat, (∀ (S : sS) (L : Nat → Int32) (M : Nat → Int64) (ls : Array Slot) (H : Heap) (locs : List Loc), f_Lines_toldLine k9 0 S L M = some (r, S9) → lv_has ls 2 [(0, .ref (ad 11)), (1, .int (L 1))] → va_P g.1 classes (Sw shC g ad S) H → va_D A (Sw shC g ad S) → va_S A s.heap H locs → W p l e R s m args below meth c H locs cells slots Q (F0 m 0 ls [])) ∧ (∀ (S : sS) (L : Nat → Int32) (M : Nat → Int64) (ls : Array Slot) (H : Heap) (locs : List Loc), f_Lines_toldLine k9 1 S L M = some (r, S9) → lv_has ls 2 [(0, .ref (ad 11)), (1, .int (L 1))] → va_P g.1 classes (Sw shC g ad S) H → va_D A (Sw shC g ad S) → va_S A s.heap H locs → W p l e R s m args below meth c H locs cells slots Q (F0 m 24 ls [.int (L 100)])) := by
  intro k9
  induction k9 with
  | zero => exact ⟨(fun _ _ _ _ _ _ h => by simp [f_Lines_toldLine] at h), (fun _ _ _ _ _ _ h => by simp [f_Lines_toldLine] at h)⟩
  | succ k9 ih =>
    refine ⟨?_, ?_⟩
    · intro S L M ls H locs h hl hP hD hS
      simp only [f_Lines_toldLine] at h
      refine lv_aload_n hx hb d_Lines_toldLine_0 rfl (lv_at hl 0 rfl) ?_
      refine S_getI (h := shC) (C := "MacroMill$Lines") (T := F_Lines) hx hb htt in_Lines hown hK hP 11 11 rfl rfl rfl (by decide) (htt _ k_770) (fun _ h9 => h9) d_Lines_toldLine_1 ?_
      refine lv_if_le (tgt := 23) hx hb d_Lines_toldLine_4 (by decide) (fun hc1 => ?_) (fun hc1 => ?_)
      · rw [if_pos hc1] at h
        refine lv_iload_n hx hb d_Lines_toldLine_23 rfl (lv_at hl 1 rfl) ?_
        exact (ih.2) S (upd L 100 (L 1)) M ls H locs h (lv_sub hl [0, 1] rfl) hP hD hS
      · rw [if_neg hc1] at h
        refine lv_iload_n hx hb d_Lines_toldLine_7 rfl (lv_at hl 1 rfl) ?_
        refine lv_aload_n hx hb d_Lines_toldLine_8 rfl (lv_at hl 0 rfl) ?_
        refine S_getR (h := shC) (C := "MacroMill$Lines") (T := F_Lines) hx hb htt in_Lines hown hK hP 11 8 rfl 74 rfl rfl (by decide) (htt _ k_767) (fun _ h9 => h9) d_Lines_toldLine_9 ?_
        refine lv_aload_n hx hb d_Lines_toldLine_12 rfl (lv_at hl 0 rfl) ?_
        refine S_getI (h := shC) (C := "MacroMill$Lines") (T := F_Lines) hx hb htt in_Lines hown hK hP 11 11 rfl rfl rfl (by decide) (htt _ k_770) (fun _ h9 => h9) d_Lines_toldLine_13 ?_
        refine lv_iconst (v := 1) hx hb d_Lines_toldLine_16 (by decide) ?_
        refine lv_isub hx hb d_Lines_toldLine_17 ?_
        obtain ⟨hv2, h⟩ := chk h
        refine S_iald (h := shC) (i := (S.1 11 11) - (1 : Int32)) hx hb hK hP 61 rfl (okI_in hv2) d_Lines_toldLine_18 ?_
        refine lv_iadd hx hb d_Lines_toldLine_19 ?_
        show W _ _ _ _ _ _ _ _ _ _ _ _ _ _ _ (F0 _ 20 _ _)
        refine lv_goto (tgt := 24) hx hb d_Lines_toldLine_20 (by decide) ?_
        exact (ih.2) S (upd L 100 ((L 1) + (S.2.1 61 ((S.1 11 11) - (1 : Int32) : Int32).toNatClampNeg))) M ls H locs h (lv_sub hl [0, 1] rfl) hP hD hS
    · intro S L M ls H locs h hl hP hD hS
      simp only [f_Lines_toldLine] at h
      cases h
      exact kx_24 ls H locs hP hD hS
abbrev rm_t_Lines_toldLine : Room := { frames := 0, cells := 0, slots := 0, locals := 0 }
theorem t_Lines_toldLine (l : Launch) (g : gG) (sz : Nat) (ad : Nat → Nat) (S : sS) (v1 : Int32) (k : Nat) (r : Int32) (S9 : sS) (h : f_Lines_toldLine k 0 S (upd (fun _ => 0) 1 v1) (fun _ => 0) = some (r, S9)) : Ci l y_Lines_toldLine b_Lines_toldLine 2 rm_t_Lines_toldLine g [.ref (ad 11), .int v1] (Sw shC g ad S) sz (fun r1 w => ∃ S1 : sS, w = Sw shC g ad S1 ∧ r1 = r ∧ S1 = S9) := by
  refine startI (by decide) (Nat.le_of_ble_eq_true rfl) ?_
  intro p e s m below meth c A ls hx hb hr hml hlocks hmn hown htt hN hA hP hK hD hS hl
  exact (w_Lines_toldLine hx hb hml hown htt hK hN hA r S9 (fun ls H locs hP hD hS => fin_i (g := g) (ws := Sw shC g ad S9) hx hb hr hlocks (by decide +kernel) (by decide +kernel) hP hD hS ⟨_, rfl, rfl, rfl⟩ d_Lines_toldLine_24) k).1 S (upd (fun _ => 0) 1 v1) (fun _ => 0) ls _ _ h hl hP hD hS
def f_Lines_titleByte : Nat → Nat → sS → (Nat → Int32) → (Nat → Int64) → Option (Int32 × sS)
  | 0, _, _, _, _ => none
  | k + 1, 0, S, L, M => if (S.1 11 11) = (0 : Int32) then (f_Lines_titleByte k 1 S L M) else (if okI ((S.1 11 11) - (1 : Int32)) 21 = true then (if (L 1) < (S.2.1 63 ((S.1 11 11) - (1 : Int32) : Int32).toNatClampNeg) then (if okI ((((S.1 11 11) - (1 : Int32)) * (64 : Int32)) + (L 1)) 1344 = true then (some ((S.2.1 62 ((((S.1 11 11) - (1 : Int32)) * (64 : Int32)) + (L 1) : Int32).toNatClampNeg) &&& (255 : Int32), S)) else none) else (f_Lines_titleByte k 1 S L M)) else none)
  | k + 1, 1, S, L, M => some (((-1) : Int32), S)
  | _ + 1, _ + 2, _, _, _ => none
set_option maxHeartbeats 8000000 in
set_option maxRecDepth 100000 in
theorem w_Lines_titleByte {p : Program} {l : Launch} {e : Env} {R : Room} {s : State} {m : MethodId} {args : Array Value} {below : List Frame} {meth : Method} {c : Code} {cells slots : Nat} {Q : State → Prop} {g : gG} {A : Nat → Prop} {ad : Nat → Nat} (hx : p.tables.exec = Jvm.exec) (hb : c.code = b_Lines_titleByte) (hml : c.maxLocals = 2) (hown : s.vm.findClass "MacroMill$Lines" = some m.cls) (htt : ∀ w ∈ gt, w.before args s = true) (hK : va_K g.1 classes (tysG g) s) (hN : nw s) (hA : ∀ q : Nat, s.heap.size ≤ q → A q) (r : Int32) (S9 : sS)
    (kx_23 : ∀ (ls : Array Slot) (H : Heap) (locs : List Loc), va_P g.1 classes (Sw shC g ad S9) H → va_D A (Sw shC g ad S9) → va_S A s.heap H locs → W p l e R s m args below meth c H locs cells slots Q (F0 m 23 ls [.int r]))
    (kx_44 : ∀ (ls : Array Slot) (H : Heap) (locs : List Loc), va_P g.1 classes (Sw shC g ad S9) H → va_D A (Sw shC g ad S9) → va_S A s.heap H locs → W p l e R s m args below meth c H locs cells slots Q (F0 m 44 ls [.int r])) :
    ∀ k9 : Nat, (∀ (S : sS) (L : Nat → Int32) (M : Nat → Int64) (ls : Array Slot) (H : Heap) (locs : List Loc), f_Lines_titleByte k9 0 S L M = some (r, S9) → lv_has ls 2 [(0, .ref (ad 11)), (1, .int (L 1))] → va_P g.1 classes (Sw shC g ad S) H → va_D A (Sw shC g ad S) → va_S A s.heap H locs → W p l e R s m args below meth c H locs cells slots Q (F0 m 0 ls [])) ∧ (∀ (S : sS) (L : Nat → Int32) (M : Nat → Int64) (ls : Array Slot) (H : Heap) (locs : List Loc), f_Lines_titleByte k9 1 S L M = some (r, S9) → lv_has ls 2 [(0, .ref (ad 11)), (1, .int (L 1))] → va_P g.1 classes (Sw shC g ad S) H → va_D A (Sw shC g ad S) → va_S A s.heap H locs → W p l e R s m args below meth c H locs cells slots Q (F0 m 22 ls [])) := by
  intro k9
  induction k9 with
  | zero => exact ⟨(fun _ _ _ _ _ _ h => by simp [f_Lines_titleByte] at h), (fun _ _ _ _ _ _ h => by simp [f_Lines_titleByte] at h)⟩
  | succ k9 ih =>
    refine ⟨?_, ?_⟩
    · intro S L M ls H locs h hl hP hD hS
      simp only [f_Lines_titleByte] at h
      refine lv_aload_n hx hb d_Lines_titleByte_0 rfl (lv_at hl 0 rfl) ?_
      refine S_getI (h := shC) (C := "MacroMill$Lines") (T := F_Lines) hx hb htt in_Lines hown hK hP 11 11 rfl rfl rfl (by decide) (htt _ k_770) (fun _ h9 => h9) d_Lines_titleByte_1 ?_
      refine lv_if_eq (tgt := 22) hx hb d_Lines_titleByte_4 (by decide) (fun hc1 => ?_) (fun hc1 => ?_)
      · rw [if_pos hc1] at h
        exact (ih.2) S L M ls H locs h (lv_sub hl [0, 1] rfl) hP hD hS
      · rw [if_neg hc1] at h
        refine lv_iload_n hx hb d_Lines_titleByte_7 rfl (lv_at hl 1 rfl) ?_
        refine lv_aload_n hx hb d_Lines_titleByte_8 rfl (lv_at hl 0 rfl) ?_
        refine S_getR (h := shC) (C := "MacroMill$Lines") (T := F_Lines) hx hb htt in_Lines hown hK hP 11 10 rfl 76 rfl rfl (by decide) (htt _ k_769) (fun _ h9 => h9) d_Lines_titleByte_9 ?_
        refine lv_aload_n hx hb d_Lines_titleByte_12 rfl (lv_at hl 0 rfl) ?_
        refine S_getI (h := shC) (C := "MacroMill$Lines") (T := F_Lines) hx hb htt in_Lines hown hK hP 11 11 rfl rfl rfl (by decide) (htt _ k_770) (fun _ h9 => h9) d_Lines_titleByte_13 ?_
        refine lv_iconst (v := 1) hx hb d_Lines_titleByte_16 (by decide) ?_
        refine lv_isub hx hb d_Lines_titleByte_17 ?_
        obtain ⟨hv2, h⟩ := chk h
        refine S_iald (h := shC) (i := (S.1 11 11) - (1 : Int32)) hx hb hK hP 63 rfl (okI_in hv2) d_Lines_titleByte_18 ?_
        refine lv_icmp_lt (tgt := 24) hx hb d_Lines_titleByte_19 (by decide) (fun hc3 => ?_) (fun hc3 => ?_)
        · rw [if_pos hc3] at h
          refine lv_aload_n hx hb d_Lines_titleByte_24 rfl (lv_at hl 0 rfl) ?_
          show W _ _ _ _ _ _ _ _ _ _ _ _ _ _ _ (F0 _ 25 _ _)
          refine S_getR (h := shC) (C := "MacroMill$Lines") (T := F_Lines) hx hb htt in_Lines hown hK hP 11 9 rfl 75 rfl rfl (by decide) (htt _ k_768) (fun _ h9 => h9) d_Lines_titleByte_25 ?_
          refine lv_aload_n hx hb d_Lines_titleByte_28 rfl (lv_at hl 0 rfl) ?_
          refine S_getI (h := shC) (C := "MacroMill$Lines") (T := F_Lines) hx hb htt in_Lines hown hK hP 11 11 rfl rfl rfl (by decide) (htt _ k_770) (fun _ h9 => h9) d_Lines_titleByte_29 ?_
          refine lv_iconst (v := 1) hx hb d_Lines_titleByte_32 (by decide) ?_
          refine lv_isub hx hb d_Lines_titleByte_33 ?_
          refine lv_bipush (v := 64) hx hb d_Lines_titleByte_34 (by decide) ?_
          refine lv_imul hx hb d_Lines_titleByte_36 ?_
          refine lv_iload_n hx hb d_Lines_titleByte_37 rfl (lv_at hl 1 rfl) ?_
          refine lv_iadd hx hb d_Lines_titleByte_38 ?_
          obtain ⟨hv4, h⟩ := chk h
          refine S_bald (h := shC) (i := (((S.1 11 11) - (1 : Int32)) * (64 : Int32)) + (L 1)) hx hb hK hP 62 rfl (okI_in hv4) d_Lines_titleByte_39 ?_
          refine lv_sipush (v := 255) hx hb d_Lines_titleByte_40 (by decide) ?_
          refine lv_iand hx hb d_Lines_titleByte_43 ?_
          cases h
          exact kx_44 ls H locs hP hD hS
        · rw [if_neg hc3] at h
          exact (ih.2) S L M ls H locs h (lv_sub hl [0, 1] rfl) hP hD hS
    · intro S L M ls H locs h hl hP hD hS
      simp only [f_Lines_titleByte] at h
      refine lv_iconst (v := (-1)) hx hb d_Lines_titleByte_22 (by decide) ?_
      cases h
      exact kx_23 ls H locs hP hD hS
abbrev rm_t_Lines_titleByte : Room := { frames := 0, cells := 0, slots := 0, locals := 0 }
theorem t_Lines_titleByte (l : Launch) (g : gG) (sz : Nat) (ad : Nat → Nat) (S : sS) (v1 : Int32) (k : Nat) (r : Int32) (S9 : sS) (h : f_Lines_titleByte k 0 S (upd (fun _ => 0) 1 v1) (fun _ => 0) = some (r, S9)) : Ci l y_Lines_titleByte b_Lines_titleByte 2 rm_t_Lines_titleByte g [.ref (ad 11), .int v1] (Sw shC g ad S) sz (fun r1 w => ∃ S1 : sS, w = Sw shC g ad S1 ∧ r1 = r ∧ S1 = S9) := by
  refine startI (by decide) (Nat.le_of_ble_eq_true rfl) ?_
  intro p e s m below meth c A ls hx hb hr hml hlocks hmn hown htt hN hA hP hK hD hS hl
  exact (w_Lines_titleByte hx hb hml hown htt hK hN hA r S9 (fun ls H locs hP hD hS => fin_i (g := g) (ws := Sw shC g ad S9) hx hb hr hlocks (by decide +kernel) (by decide +kernel) hP hD hS ⟨_, rfl, rfl, rfl⟩ d_Lines_titleByte_23) (fun ls H locs hP hD hS => fin_i (g := g) (ws := Sw shC g ad S9) hx hb hr hlocks (by decide +kernel) (by decide +kernel) hP hD hS ⟨_, rfl, rfl, rfl⟩ d_Lines_titleByte_44) k).1 S (upd (fun _ => 0) 1 v1) (fun _ => 0) ls _ _ h hl hP hD hS
def f_Lines_commentEnd : Nat → Nat → sS → (Nat → Int32) → (Nat → Int64) → Option (Int32 × sS)
  | 0, _, _, _, _ => none
  | k + 1, 0, S, L, M => if okI ((L 1) + (1 : Int32)) 125538 = true then (if (S.2.1 37 ((L 1) + (1 : Int32) : Int32).toNatClampNeg) = (47 : Int32) then (f_Lines_commentEnd k 1 S (upd L 100 (1 : Int32)) M) else (f_Lines_commentEnd k 1 S (upd L 100 (0 : Int32)) M)) else none
  | k + 1, 1, S, L, M => f_Lines_commentEnd k 2 S (upd (upd L 4 (L 100)) 5 ((L 1) + (2 : Int32))) M
  | k + 1, 2, S, L, M => if (L 2) ≤ (L 5) then (if (L 4) = (0 : Int32) then ((f_Tokens_lineAt k 0 S (upd (fun _ => 0) 1 (L 1 : Int32)) (fun _ => 0)).bind (fun (r3, T3) => (f_Outcome_fail k 0 T3 (upd (upd (fun _ => 0) 1 (1 : Int32)) 2 (r3 : Int32)) (fun _ => 0)).bind (fun (r4, T4) => f_Lines_commentEnd k 5 T4 L M))) else (f_Lines_commentEnd k 5 S L M)) else (if (L 4) = (0 : Int32) then (f_Lines_commentEnd k 3 S L M) else (if okI (L 5) 125538 = true then (if (S.2.1 37 (L 5 : Int32).toNatClampNeg) = (10 : Int32) then (some (L 5, S)) else (f_Lines_commentEnd k 3 S L M)) else none))
  | k + 1, 3, S, L, M => if (L 4) = (0 : Int32) then (if okI (L 5) 125538 = true then (if (S.2.1 37 (L 5 : Int32).toNatClampNeg) = (42 : Int32) then (if (L 2) ≤ ((L 5) + (1 : Int32)) then (f_Lines_commentEnd k 4 S L M) else (if okI ((L 5) + (1 : Int32)) 125538 = true then (if (S.2.1 37 ((L 5) + (1 : Int32) : Int32).toNatClampNeg) = (47 : Int32) then (some ((L 5) + (2 : Int32), S)) else (f_Lines_commentEnd k 4 S L M)) else none)) else (f_Lines_commentEnd k 4 S L M)) else none) else (f_Lines_commentEnd k 4 S L M)
  | k + 1, 4, S, L, M => f_Lines_commentEnd k 2 S (upd L 5 ((L 5) + 1)) M
  | k + 1, 5, S, L, M => some (L 2, S)
  | _ + 1, _ + 6, _, _, _ => none
set_option maxHeartbeats 8000000 in
set_option maxRecDepth 100000 in
theorem w_Lines_commentEnd {p : Program} {l : Launch} {e : Env} {R : Room} {s : State} {m : MethodId} {args : Array Value} {below : List Frame} {meth : Method} {c : Code} {cells slots : Nat} {Q : State → Prop} {g : gG} {A : Nat → Prop} {ad : Nat → Nat} (hx : p.tables.exec = Jvm.exec) (hb : c.code = b_Lines_commentEnd) (hml : c.maxLocals = 6) (hown : s.vm.findClass "MacroMill$Lines" = some m.cls) (htt : ∀ w ∈ gt, w.before args s = true) (hK : va_K g.1 classes (tysG g) s) (hN : nw s) (hA : ∀ q : Nat, s.heap.size ≤ q → A q) (hRf : 1 ≤ R.frames) (hRl : 22 ≤ R.locals) (hRc : cells ≤ R.cells) (hRs : slots ≤ R.slots) (r : Int32) (S9 : sS)
    (kx_52 : ∀ (ls : Array Slot) (H : Heap) (locs : List Loc), va_P g.1 classes (Sw shC g ad S9) H → va_D A (Sw shC g ad S9) → va_S A s.heap H locs → W p l e R s m args below meth c H locs cells slots Q (F0 m 52 ls [.int r]))
    (kx_90 : ∀ (ls : Array Slot) (H : Heap) (locs : List Loc), va_P g.1 classes (Sw shC g ad S9) H → va_D A (Sw shC g ad S9) → va_S A s.heap H locs → W p l e R s m args below meth c H locs cells slots Q (F0 m 90 ls [.int r]))
    (kx_119 : ∀ (ls : Array Slot) (H : Heap) (locs : List Loc), va_P g.1 classes (Sw shC g ad S9) H → va_D A (Sw shC g ad S9) → va_S A s.heap H locs → W p l e R s m args below meth c H locs cells slots Q (F0 m 119 ls [.int r])) :
    ∀ k9 : Nat, (∀ (S : sS) (L : Nat → Int32) (M : Nat → Int64) (ls : Array Slot) (H : Heap) (locs : List Loc), f_Lines_commentEnd k9 0 S L M = some (r, S9) → lv_has ls 6 [(0, .ref (ad 11)), (1, .int (L 1)), (2, .int (L 2))] → va_P g.1 classes (Sw shC g ad S) H → va_D A (Sw shC g ad S) → va_S A s.heap H locs → W p l e R s m args below meth c H locs cells slots Q (F0 m 0 ls [])) ∧ (∀ (S : sS) (L : Nat → Int32) (M : Nat → Int64) (ls : Array Slot) (H : Heap) (locs : List Loc), f_Lines_commentEnd k9 1 S L M = some (r, S9) → lv_has ls 6 [(0, .ref (ad 11)), (1, .int (L 1)), (2, .int (L 2)), (3, .ref (ad 50))] → va_P g.1 classes (Sw shC g ad S) H → va_D A (Sw shC g ad S) → va_S A s.heap H locs → W p l e R s m args below meth c H locs cells slots Q (F0 m 23 ls [.int (L 100)])) ∧ (∀ (S : sS) (L : Nat → Int32) (M : Nat → Int64) (ls : Array Slot) (H : Heap) (locs : List Loc), f_Lines_commentEnd k9 2 S L M = some (r, S9) → lv_has ls 6 [(0, .ref (ad 11)), (1, .int (L 1)), (2, .int (L 2)), (3, .ref (ad 50)), (4, .int (L 4)), (5, .int (L 5))] → va_P g.1 classes (Sw shC g ad S) H → va_D A (Sw shC g ad S) → va_S A s.heap H locs → W p l e R s m args below meth c H locs cells slots Q (F0 m 30 ls [])) ∧ (∀ (S : sS) (L : Nat → Int32) (M : Nat → Int64) (ls : Array Slot) (H : Heap) (locs : List Loc), f_Lines_commentEnd k9 3 S L M = some (r, S9) → lv_has ls 6 [(0, .ref (ad 11)), (1, .int (L 1)), (2, .int (L 2)), (3, .ref (ad 50)), (4, .int (L 4)), (5, .int (L 5))] → va_P g.1 classes (Sw shC g ad S) H → va_D A (Sw shC g ad S) → va_S A s.heap H locs → W p l e R s m args below meth c H locs cells slots Q (F0 m 53 ls [])) ∧ (∀ (S : sS) (L : Nat → Int32) (M : Nat → Int64) (ls : Array Slot) (H : Heap) (locs : List Loc), f_Lines_commentEnd k9 4 S L M = some (r, S9) → lv_has ls 6 [(0, .ref (ad 11)), (1, .int (L 1)), (2, .int (L 2)), (3, .ref (ad 50)), (4, .int (L 4)), (5, .int (L 5))] → va_P g.1 classes (Sw shC g ad S) H → va_D A (Sw shC g ad S) → va_S A s.heap H locs → W p l e R s m args below meth c H locs cells slots Q (F0 m 91 ls [])) ∧ (∀ (S : sS) (L : Nat → Int32) (M : Nat → Int64) (ls : Array Slot) (H : Heap) (locs : List Loc), f_Lines_commentEnd k9 5 S L M = some (r, S9) → lv_has ls 6 [(0, .ref (ad 11)), (1, .int (L 1)), (2, .int (L 2)), (3, .ref (ad 50)), (4, .int (L 4)), (5, .int (L 5))] → va_P g.1 classes (Sw shC g ad S) H → va_D A (Sw shC g ad S) → va_S A s.heap H locs → W p l e R s m args below meth c H locs cells slots Q (F0 m 118 ls [])) := by
  intro k9
  induction k9 with
  | zero => exact ⟨(fun _ _ _ _ _ _ h => by simp [f_Lines_commentEnd] at h), (fun _ _ _ _ _ _ h => by simp [f_Lines_commentEnd] at h), (fun _ _ _ _ _ _ h => by simp [f_Lines_commentEnd] at h), (fun _ _ _ _ _ _ h => by simp [f_Lines_commentEnd] at h), (fun _ _ _ _ _ _ h => by simp [f_Lines_commentEnd] at h), (fun _ _ _ _ _ _ h => by simp [f_Lines_commentEnd] at h)⟩
  | succ k9 ih =>
    refine ⟨?_, ?_, ?_, ?_, ?_, ?_⟩
    · intro S L M ls H locs h hl hP hD hS
      simp only [f_Lines_commentEnd] at h
      refine lv_aload_n hx hb d_Lines_commentEnd_0 rfl (lv_at hl 0 rfl) ?_
      refine S_getR (h := shC) (C := "MacroMill$Lines") (T := F_Lines) hx hb htt in_Lines hown hK hP 11 1 rfl 9 rfl rfl (by decide) (htt _ k_760) (fun _ h9 => h9) d_Lines_commentEnd_1 ?_
      refine S_getR (h := shC) (C := "MacroMill$Tokens") (T := F_Tokens) hx hb htt in_Tokens hown hK hP 9 0 rfl 50 rfl rfl (by decide) (htt _ k_637) (fun _ h9 => h9) d_Lines_commentEnd_4 ?_
      refine lv_astore_n (lv' := [(3, .ref (ad 50)), (0, .ref (ad 11)), (1, .int (L 1)), (2, .int (L 2))]) hx hb d_Lines_commentEnd_7 rfl hl (by decide) rfl (fun ls hl => ?_)
      refine lv_aload_n hx hb d_Lines_commentEnd_8 rfl (lv_at hl 0 rfl) ?_
      refine lv_iload_n hx hb d_Lines_commentEnd_9 rfl (lv_at hl 2 rfl) ?_
      refine lv_iconst (v := 1) hx hb d_Lines_commentEnd_10 (by decide) ?_
      refine lv_iadd hx hb d_Lines_commentEnd_11 ?_
      obtain ⟨hv1, h⟩ := chk h
      refine S_bald (h := shC) (i := (L 1) + (1 : Int32)) hx hb hK hP 37 rfl (okI_in hv1) d_Lines_commentEnd_12 ?_
      refine lv_bipush (v := 47) hx hb d_Lines_commentEnd_13 (by decide) ?_
      refine lv_icmp_ne (tgt := 22) hx hb d_Lines_commentEnd_15 (by decide) (fun hc2 => ?_) (fun hc2 => ?_)
      · rw [if_neg hc2] at h
        refine lv_iconst (v := 0) hx hb d_Lines_commentEnd_22 (by decide) ?_
        exact (ih.2.1) S (upd L 100 (0 : Int32)) M ls H locs h (lv_sub hl [1, 2, 3, 0] rfl) hP hD hS
      · rw [if_pos hc2] at h
        refine lv_iconst (v := 1) hx hb d_Lines_commentEnd_18 (by decide) ?_
        show W _ _ _ _ _ _ _ _ _ _ _ _ _ _ _ (F0 _ 19 _ _)
        refine lv_goto (tgt := 23) hx hb d_Lines_commentEnd_19 (by decide) ?_
        exact (ih.2.1) S (upd L 100 (1 : Int32)) M ls H locs h (lv_sub hl [1, 2, 3, 0] rfl) hP hD hS
    · intro S L M ls H locs h hl hP hD hS
      simp only [f_Lines_commentEnd] at h
      refine lv_istore (lv' := [(4, .int (L 100)), (0, .ref (ad 11)), (1, .int (L 1)), (2, .int (L 2)), (3, .ref (ad 50))]) hx hb d_Lines_commentEnd_23 hl (by decide) rfl (fun ls hl => ?_)
      refine lv_iload_n hx hb d_Lines_commentEnd_25 rfl (lv_at hl 2 rfl) ?_
      refine lv_iconst (v := 2) hx hb d_Lines_commentEnd_26 (by decide) ?_
      refine lv_iadd hx hb d_Lines_commentEnd_27 ?_
      refine lv_istore (lv' := [(5, .int ((L 1) + (2 : Int32))), (4, .int (L 100)), (0, .ref (ad 11)), (1, .int (L 1)), (2, .int (L 2)), (3, .ref (ad 50))]) hx hb d_Lines_commentEnd_28 hl (by decide) rfl (fun ls hl => ?_)
      exact (ih.2.2.1) S (upd (upd L 4 (L 100)) 5 ((L 1) + (2 : Int32))) M ls H locs h (lv_sub hl [2, 3, 4, 5, 1, 0] rfl) hP hD hS
    · intro S L M ls H locs h hl hP hD hS
      simp only [f_Lines_commentEnd] at h
      refine lv_iload hx hb d_Lines_commentEnd_30 (lv_at hl 5 rfl) ?_
      refine lv_iload_n hx hb d_Lines_commentEnd_32 rfl (lv_at hl 2 rfl) ?_
      refine lv_icmp_ge (tgt := 97) hx hb d_Lines_commentEnd_33 (by decide) (fun hc1 => ?_) (fun hc1 => ?_)
      · rw [if_pos hc1] at h
        refine lv_iload hx hb d_Lines_commentEnd_97 (lv_at hl 4 rfl) ?_
        refine lv_if_ne (tgt := 118) hx hb d_Lines_commentEnd_99 (by decide) (fun hc2 => ?_) (fun hc2 => ?_)
        · rw [if_neg hc2] at h
          exact (ih.2.2.2.2.2) S L M ls H locs h (lv_sub hl [0, 1, 2, 3, 4, 5] rfl) hP hD hS
        · rw [if_pos hc2] at h
          refine lv_aload_n hx hb d_Lines_commentEnd_102 rfl (lv_at hl 0 rfl) ?_
          refine S_getR (h := shC) (C := "MacroMill$Lines") (T := F_Lines) hx hb htt in_Lines hown hK hP 11 2 rfl 2 rfl rfl (by decide) (htt _ k_761) (fun _ h9 => h9) d_Lines_commentEnd_103 ?_
          refine lv_iconst (v := 1) hx hb d_Lines_commentEnd_106 (by decide) ?_
          refine lv_aload_n hx hb d_Lines_commentEnd_107 rfl (lv_at hl 0 rfl) ?_
          refine S_getR (h := shC) (C := "MacroMill$Lines") (T := F_Lines) hx hb htt in_Lines hown hK hP 11 1 rfl 9 rfl rfl (by decide) (htt _ k_760) (fun _ h9 => h9) d_Lines_commentEnd_108 ?_
          refine lv_iload_n hx hb d_Lines_commentEnd_111 rfl (lv_at hl 1 rfl) ?_
          obtain ⟨⟨r3, T3⟩, hq3, h⟩ := Option.bind_eq_some_iff.mp h
          try dsimp only at h
          refine go_iS (As := [.ref (ad 9), .int (L 1)]) (g := g) (A := A) (h := shC) hP hK hD hS hA hN (fun hp => va_runV (As := [.int (L 1)]) (rest := [.int 1, .ref (ad 2)]) ⟨hx, hb, hml, hown, htt⟩ (t_Tokens_lineAt l g _ ad S (L 1 : Int32) k9 r3 T3 hq3) ⟨(cb_L htt k_1595 k_271 k_1592 hd_Tokens_lineAt ⟨(Nat.le_trans (by decide +kernel) hRf), (Nat.le_trans (by decide +kernel) hRl)⟩), htt _ k_1593, htt _ k_1594⟩ ⟨hp.1, S_recv hK hP 9 rfl rfl, hp.2⟩ rfl rfl hl.1 rfl (lv_room (Nat.le_of_ble_eq_true rfl)) d_Lines_commentEnd_112 ⟨hRc, hRs⟩) (fun r0 Sn H locs hw9 hP hD hS => ?_)
          obtain ⟨e9, e8⟩ := hw9
          rw [e8] at hP hD
          refine W.widen (k := cells) (n := slots) (Nat.le_refl _) (Nat.le_refl _) ?_
          refine toI (y := r3) e9 ?_
          obtain ⟨⟨r4, T4⟩, hq4, h⟩ := Option.bind_eq_some_iff.mp h
          try dsimp only at h
          refine go_vS (As := [.ref (ad 2), .int 1, .int r3]) (g := g) (A := A) (h := shC) hP hK hD hS hA hN (fun hp => va_runV (As := [.int 1, .int r3]) (rest := []) ⟨hx, hb, hml, hown, htt⟩ (t_Outcome_fail l g _ ad T3 (1 : Int32) (r3 : Int32) k9 r4 T4 hq4) ⟨(cb_L htt k_1163 k_264 k_1574 hd_Outcome_fail ⟨(Nat.le_trans (by decide +kernel) hRf), (Nat.le_trans (by decide +kernel) hRl)⟩), htt _ k_1161, htt _ k_1162⟩ ⟨hp.1, S_recv hK hP 2 rfl rfl, hp.2⟩ rfl rfl hl.1 rfl (lv_room (Nat.le_of_ble_eq_true rfl)) d_Lines_commentEnd_115 ⟨hRc, hRs⟩) (fun Sn H locs hw9 hP hD hS => ?_)
          have e8 := hw9
          rw [e8] at hP hD
          refine W.widen (k := cells) (n := slots) (Nat.le_refl _) (Nat.le_refl _) ?_
          exact (ih.2.2.2.2.2) T4 L M ls H locs h (lv_sub hl [0, 1, 2, 3, 4, 5] rfl) hP hD hS
      · rw [if_neg hc1] at h
        refine lv_iload hx hb d_Lines_commentEnd_36 (lv_at hl 4 rfl) ?_
        refine lv_if_eq (tgt := 53) hx hb d_Lines_commentEnd_38 (by decide) (fun hc5 => ?_) (fun hc5 => ?_)
        · rw [if_pos hc5] at h
          exact (ih.2.2.2.1) S L M ls H locs h (lv_sub hl [0, 1, 2, 3, 4, 5] rfl) hP hD hS
        · rw [if_neg hc5] at h
          refine lv_aload_n hx hb d_Lines_commentEnd_41 rfl (lv_at hl 3 rfl) ?_
          refine lv_iload hx hb d_Lines_commentEnd_42 (lv_at hl 5 rfl) ?_
          obtain ⟨hv6, h⟩ := chk h
          refine S_bald (h := shC) (i := L 5) hx hb hK hP 37 rfl (okI_in hv6) d_Lines_commentEnd_44 ?_
          refine lv_bipush (v := 10) hx hb d_Lines_commentEnd_45 (by decide) ?_
          refine lv_icmp_ne (tgt := 53) hx hb d_Lines_commentEnd_47 (by decide) (fun hc7 => ?_) (fun hc7 => ?_)
          · rw [if_neg hc7] at h
            exact (ih.2.2.2.1) S L M ls H locs h (lv_sub hl [0, 1, 2, 3, 4, 5] rfl) hP hD hS
          · rw [if_pos hc7] at h
            refine lv_iload hx hb d_Lines_commentEnd_50 (lv_at hl 5 rfl) ?_
            cases h
            exact kx_52 ls H locs hP hD hS
    · intro S L M ls H locs h hl hP hD hS
      simp only [f_Lines_commentEnd] at h
      refine lv_iload hx hb d_Lines_commentEnd_53 (lv_at hl 4 rfl) ?_
      refine lv_if_ne (tgt := 91) hx hb d_Lines_commentEnd_55 (by decide) (fun hc1 => ?_) (fun hc1 => ?_)
      · rw [if_neg hc1] at h
        exact (ih.2.2.2.2.1) S L M ls H locs h (lv_sub hl [0, 1, 2, 3, 4, 5] rfl) hP hD hS
      · rw [if_pos hc1] at h
        refine lv_aload_n hx hb d_Lines_commentEnd_58 rfl (lv_at hl 3 rfl) ?_
        refine lv_iload hx hb d_Lines_commentEnd_59 (lv_at hl 5 rfl) ?_
        obtain ⟨hv2, h⟩ := chk h
        refine S_bald (h := shC) (i := L 5) hx hb hK hP 37 rfl (okI_in hv2) d_Lines_commentEnd_61 ?_
        refine lv_bipush (v := 42) hx hb d_Lines_commentEnd_62 (by decide) ?_
        refine lv_icmp_ne (tgt := 91) hx hb d_Lines_commentEnd_64 (by decide) (fun hc3 => ?_) (fun hc3 => ?_)
        · rw [if_neg hc3] at h
          exact (ih.2.2.2.2.1) S L M ls H locs h (lv_sub hl [0, 1, 2, 3, 4, 5] rfl) hP hD hS
        · rw [if_pos hc3] at h
          refine lv_iload hx hb d_Lines_commentEnd_67 (lv_at hl 5 rfl) ?_
          refine lv_iconst (v := 1) hx hb d_Lines_commentEnd_69 (by decide) ?_
          refine lv_iadd hx hb d_Lines_commentEnd_70 ?_
          refine lv_iload_n hx hb d_Lines_commentEnd_71 rfl (lv_at hl 2 rfl) ?_
          refine lv_icmp_ge (tgt := 91) hx hb d_Lines_commentEnd_72 (by decide) (fun hc4 => ?_) (fun hc4 => ?_)
          · rw [if_pos hc4] at h
            exact (ih.2.2.2.2.1) S L M ls H locs h (lv_sub hl [0, 1, 2, 3, 4, 5] rfl) hP hD hS
          · rw [if_neg hc4] at h
            refine lv_aload_n hx hb d_Lines_commentEnd_75 rfl (lv_at hl 3 rfl) ?_
            refine lv_iload hx hb d_Lines_commentEnd_76 (lv_at hl 5 rfl) ?_
            show W _ _ _ _ _ _ _ _ _ _ _ _ _ _ _ (F0 _ 78 _ _)
            refine lv_iconst (v := 1) hx hb d_Lines_commentEnd_78 (by decide) ?_
            refine lv_iadd hx hb d_Lines_commentEnd_79 ?_
            obtain ⟨hv5, h⟩ := chk h
            refine S_bald (h := shC) (i := (L 5) + (1 : Int32)) hx hb hK hP 37 rfl (okI_in hv5) d_Lines_commentEnd_80 ?_
            refine lv_bipush (v := 47) hx hb d_Lines_commentEnd_81 (by decide) ?_
            refine lv_icmp_ne (tgt := 91) hx hb d_Lines_commentEnd_83 (by decide) (fun hc6 => ?_) (fun hc6 => ?_)
            · rw [if_neg hc6] at h
              exact (ih.2.2.2.2.1) S L M ls H locs h (lv_sub hl [0, 1, 2, 3, 4, 5] rfl) hP hD hS
            · rw [if_pos hc6] at h
              refine lv_iload hx hb d_Lines_commentEnd_86 (lv_at hl 5 rfl) ?_
              refine lv_iconst (v := 2) hx hb d_Lines_commentEnd_88 (by decide) ?_
              refine lv_iadd hx hb d_Lines_commentEnd_89 ?_
              cases h
              exact kx_90 ls H locs hP hD hS
    · intro S L M ls H locs h hl hP hD hS
      simp only [f_Lines_commentEnd] at h
      refine lv_iinc (k := 5) (v := (L 5) + 1) (lv' := [(5, .int ((L 5) + 1)), (0, .ref (ad 11)), (1, .int (L 1)), (2, .int (L 2)), (3, .ref (ad 50)), (4, .int (L 4))]) hx hb d_Lines_commentEnd_91 hl rfl rfl (by decide) rfl (fun ls hl => ?_)
      refine lv_goto (tgt := 30) hx hb d_Lines_commentEnd_94 (by decide) ?_
      exact (ih.2.2.1) S (upd L 5 ((L 5) + 1)) M ls H locs h (lv_sub hl [1, 2, 3, 4, 5, 0] rfl) hP hD hS
    · intro S L M ls H locs h hl hP hD hS
      simp only [f_Lines_commentEnd] at h
      refine lv_iload_n hx hb d_Lines_commentEnd_118 rfl (lv_at hl 2 rfl) ?_
      cases h
      exact kx_119 ls H locs hP hD hS
abbrev rm_t_Lines_commentEnd : Room := { frames := 1, cells := 0, slots := 0, locals := 22 }
theorem t_Lines_commentEnd (l : Launch) (g : gG) (sz : Nat) (ad : Nat → Nat) (S : sS) (v1 : Int32) (v2 : Int32) (k : Nat) (r : Int32) (S9 : sS) (h : f_Lines_commentEnd k 0 S (upd (upd (fun _ => 0) 1 v1) 2 v2) (fun _ => 0) = some (r, S9)) : Ci l y_Lines_commentEnd b_Lines_commentEnd 6 rm_t_Lines_commentEnd g [.ref (ad 11), .int v1, .int v2] (Sw shC g ad S) sz (fun r1 w => ∃ S1 : sS, w = Sw shC g ad S1 ∧ r1 = r ∧ S1 = S9) := by
  refine startI (by decide) (Nat.le_of_ble_eq_true rfl) ?_
  intro p e s m below meth c A ls hx hb hr hml hlocks hmn hown htt hN hA hP hK hD hS hl
  exact (w_Lines_commentEnd hx hb hml hown htt hK hN hA (by decide +kernel) (by decide +kernel) (by decide +kernel) (by decide +kernel) r S9 (fun ls H locs hP hD hS => fin_i (g := g) (ws := Sw shC g ad S9) hx hb hr hlocks (by decide +kernel) (by decide +kernel) hP hD hS ⟨_, rfl, rfl, rfl⟩ d_Lines_commentEnd_52) (fun ls H locs hP hD hS => fin_i (g := g) (ws := Sw shC g ad S9) hx hb hr hlocks (by decide +kernel) (by decide +kernel) hP hD hS ⟨_, rfl, rfl, rfl⟩ d_Lines_commentEnd_90) (fun ls H locs hP hD hS => fin_i (g := g) (ws := Sw shC g ad S9) hx hb hr hlocks (by decide +kernel) (by decide +kernel) hP hD hS ⟨_, rfl, rfl, rfl⟩ d_Lines_commentEnd_119) k).1 S (upd (upd (fun _ => 0) 1 v1) 2 v2) (fun _ => 0) ls _ _ h hl hP hD hS
def f_Replacer_macroAt : Nat → Nat → sS → (Nat → Int32) → (Nat → Int64) → Option (Int32 × sS)
  | 0, _, _, _, _ => none
  | k + 1, 0, S, L, M => if okI (L 1) 120784 = true then ((f_Tokens_kindOf k 0 S (upd (fun _ => 0) 0 (S.2.1 40 (L 1 : Int32).toNatClampNeg : Int32)) (fun _ => 0)).bind (fun (r2, T2) => if r2 = (1 : Int32) then ((f_Tokens_from k 0 T2 (upd (fun _ => 0) 1 (L 1 : Int32)) (fun _ => 0)).bind (fun (r4, T4) => (f_Tokens_length k 0 T4 (upd (fun _ => 0) 1 (L 1 : Int32)) (fun _ => 0)).bind (fun (r5, T5) => (f_Macros_find 37 125538 k 0 T5 (upd (upd (fun _ => 0) 2 (r4 : Int32)) 3 (r5 : Int32)) (fun _ => 0)).bind (fun (r6, T6) => if r6 < (0 : Int32) then (f_Replacer_macroAt k 1 T6 (upd (upd L 3 (S.2.1 40 (L 1 : Int32).toNatClampNeg)) 4 r6) M) else ((f_Macros_isThere k 0 T6 (upd (fun _ => 0) 1 (r6 : Int32)) (fun _ => 0)).bind (fun (r8, T8) => if r8 = (0 : Int32) then (f_Replacer_macroAt k 1 T8 (upd (upd L 3 (S.2.1 40 (L 1 : Int32).toNatClampNeg)) 4 r6) M) else ((f_Tokens_setOf k 0 T8 (upd (fun _ => 0) 0 (S.2.1 40 (L 1 : Int32).toNatClampNeg : Int32)) (fun _ => 0)).bind (fun (r10, T10) => (f_Macros_isHidden k 0 T10 (upd (upd (fun _ => 0) 1 (r10 : Int32)) 2 (r6 : Int32)) (fun _ => 0)).bind (fun (r11, T11) => if r11 = (0 : Int32) then (if okI (L 1) 120784 = true then ((f_Macros_hasParameters k 0 T11 (upd (fun _ => 0) 1 (r6 : Int32)) (fun _ => 0)).bind (fun (r14, T14) => if r14 = (0 : Int32) then (f_Replacer_macroAt k 2 T14 (upd (upd (upd L 3 (S.2.1 40 (L 1 : Int32).toNatClampNeg)) 4 r6) 5 (T11.2.1 41 (L 1 : Int32).toNatClampNeg)) M) else (if (T11.2.1 41 (L 1 : Int32).toNatClampNeg) = (L 2) then (f_Replacer_macroAt k 3 T14 (upd (upd (upd L 3 (S.2.1 40 (L 1 : Int32).toNatClampNeg)) 4 r6) 5 (T11.2.1 41 (L 1 : Int32).toNatClampNeg)) M) else ((f_Tokens_isSign k 0 T14 (upd (upd (fun _ => 0) 1 (T11.2.1 41 (L 1 : Int32).toNatClampNeg : Int32)) 2 (40 : Int32)) (fun _ => 0)).bind (fun (r17, T17) => if r17 = (0 : Int32) then (f_Replacer_macroAt k 3 T17 (upd (upd (upd L 3 (S.2.1 40 (L 1 : Int32).toNatClampNeg)) 4 r6) 5 (T11.2.1 41 (L 1 : Int32).toNatClampNeg)) M) else (f_Replacer_macroAt k 2 T17 (upd (upd (upd L 3 (S.2.1 40 (L 1 : Int32).toNatClampNeg)) 4 r6) 5 (T11.2.1 41 (L 1 : Int32).toNatClampNeg)) M)))))) else none) else (f_Replacer_macroAt k 1 T11 (upd (upd L 3 (S.2.1 40 (L 1 : Int32).toNatClampNeg)) 4 r6) M)))))))))) else (some (((-1) : Int32), T2)))) else none
  | k + 1, 1, S, L, M => some (((-1) : Int32), S)
  | k + 1, 2, S, L, M => f_Replacer_macroAt k 4 S (upd L 100 (1 : Int32)) M
  | k + 1, 3, S, L, M => f_Replacer_macroAt k 4 S (upd L 100 (0 : Int32)) M
  | k + 1, 4, S, L, M => if (L 100) = (0 : Int32) then (f_Replacer_macroAt k 5 S (upd (upd L 6 (L 100)) 100 ((-1) : Int32)) M) else (f_Replacer_macroAt k 5 S (upd (upd L 6 (L 100)) 100 (L 4)) M)
  | k + 1, 5, S, L, M => some (L 100, S)
  | _ + 1, _ + 6, _, _, _ => none
set_option maxHeartbeats 8000000 in
set_option maxRecDepth 100000 in
theorem w_Replacer_macroAt {p : Program} {l : Launch} {e : Env} {R : Room} {s : State} {m : MethodId} {args : Array Value} {below : List Frame} {meth : Method} {c : Code} {cells slots : Nat} {Q : State → Prop} {g : gG} {A : Nat → Prop} {ad : Nat → Nat} (hx : p.tables.exec = Jvm.exec) (hb : c.code = b_Replacer_macroAt) (hml : c.maxLocals = 7) (hown : s.vm.findClass "MacroMill$Replacer" = some m.cls) (htt : ∀ w ∈ gt, w.before args s = true) (hK : va_K g.1 classes (tysG g) s) (hN : nw s) (hA : ∀ q : Nat, s.heap.size ≤ q → A q) (hRf : 2 ≤ R.frames) (hRl : 51 ≤ R.locals) (hRc : cells ≤ R.cells) (hRs : slots ≤ R.slots) (r : Int32) (S9 : sS)
    (kx_19 : ∀ (ls : Array Slot) (H : Heap) (locs : List Loc), va_P g.1 classes (Sw shC g ad S9) H → va_D A (Sw shC g ad S9) → va_S A s.heap H locs → W p l e R s m args below meth c H locs cells slots Q (F0 m 19 ls [.int r]))
    (kx_86 : ∀ (ls : Array Slot) (H : Heap) (locs : List Loc), va_P g.1 classes (Sw shC g ad S9) H → va_D A (Sw shC g ad S9) → va_S A s.heap H locs → W p l e R s m args below meth c H locs cells slots Q (F0 m 86 ls [.int r]))
    (kx_148 : ∀ (ls : Array Slot) (H : Heap) (locs : List Loc), va_P g.1 classes (Sw shC g ad S9) H → va_D A (Sw shC g ad S9) → va_S A s.heap H locs → W p l e R s m args below meth c H locs cells slots Q (F0 m 148 ls [.int r])) :
    ∀ k9 : Nat, (∀ (S : sS) (L : Nat → Int32) (M : Nat → Int64) (ls : Array Slot) (H : Heap) (locs : List Loc), f_Replacer_macroAt k9 0 S L M = some (r, S9) → lv_has ls 7 [(0, .ref (ad 12)), (1, .int (L 1)), (2, .int (L 2))] → va_P g.1 classes (Sw shC g ad S) H → va_D A (Sw shC g ad S) → va_S A s.heap H locs → W p l e R s m args below meth c H locs cells slots Q (F0 m 0 ls [])) ∧ (∀ (S : sS) (L : Nat → Int32) (M : Nat → Int64) (ls : Array Slot) (H : Heap) (locs : List Loc), f_Replacer_macroAt k9 1 S L M = some (r, S9) → lv_has ls 7 [(0, .ref (ad 12)), (1, .int (L 1)), (2, .int (L 2)), (3, .int (L 3)), (4, .int (L 4))] → va_P g.1 classes (Sw shC g ad S) H → va_D A (Sw shC g ad S) → va_S A s.heap H locs → W p l e R s m args below meth c H locs cells slots Q (F0 m 85 ls [])) ∧ (∀ (S : sS) (L : Nat → Int32) (M : Nat → Int64) (ls : Array Slot) (H : Heap) (locs : List Loc), f_Replacer_macroAt k9 2 S L M = some (r, S9) → lv_has ls 7 [(0, .ref (ad 12)), (1, .int (L 1)), (2, .int (L 2)), (3, .int (L 3)), (4, .int (L 4)), (5, .int (L 5))] → va_P g.1 classes (Sw shC g ad S) H → va_D A (Sw shC g ad S) → va_S A s.heap H locs → W p l e R s m args below meth c H locs cells slots Q (F0 m 130 ls [])) ∧ (∀ (S : sS) (L : Nat → Int32) (M : Nat → Int64) (ls : Array Slot) (H : Heap) (locs : List Loc), f_Replacer_macroAt k9 3 S L M = some (r, S9) → lv_has ls 7 [(0, .ref (ad 12)), (1, .int (L 1)), (2, .int (L 2)), (3, .int (L 3)), (4, .int (L 4)), (5, .int (L 5))] → va_P g.1 classes (Sw shC g ad S) H → va_D A (Sw shC g ad S) → va_S A s.heap H locs → W p l e R s m args below meth c H locs cells slots Q (F0 m 134 ls [])) ∧ (∀ (S : sS) (L : Nat → Int32) (M : Nat → Int64) (ls : Array Slot) (H : Heap) (locs : List Loc), f_Replacer_macroAt k9 4 S L M = some (r, S9) → lv_has ls 7 [(0, .ref (ad 12)), (1, .int (L 1)), (2, .int (L 2)), (3, .int (L 3)), (4, .int (L 4)), (5, .int (L 5))] → va_P g.1 classes (Sw shC g ad S) H → va_D A (Sw shC g ad S) → va_S A s.heap H locs → W p l e R s m args below meth c H locs cells slots Q (F0 m 135 ls [.int (L 100)])) ∧ (∀ (S : sS) (L : Nat → Int32) (M : Nat → Int64) (ls : Array Slot) (H : Heap) (locs : List Loc), f_Replacer_macroAt k9 5 S L M = some (r, S9) → lv_has ls 7 [(0, .ref (ad 12)), (1, .int (L 1)), (2, .int (L 2)), (3, .int (L 3)), (4, .int (L 4)), (5, .int (L 5)), (6, .int (L 6))] → va_P g.1 classes (Sw shC g ad S) H → va_D A (Sw shC g ad S) → va_S A s.heap H locs → W p l e R s m args below meth c H locs cells slots Q (F0 m 148 ls [.int (L 100)])) := by
  intro k9
  induction k9 with
  | zero => exact ⟨(fun _ _ _ _ _ _ h => by simp [f_Replacer_macroAt] at h), (fun _ _ _ _ _ _ h => by simp [f_Replacer_macroAt] at h), (fun _ _ _ _ _ _ h => by simp [f_Replacer_macroAt] at h), (fun _ _ _ _ _ _ h => by simp [f_Replacer_macroAt] at h), (fun _ _ _ _ _ _ h => by simp [f_Replacer_macroAt] at h), (fun _ _ _ _ _ _ h => by simp [f_Replacer_macroAt] at h)⟩
  | succ k9 ih =>
    refine ⟨?_, ?_, ?_, ?_, ?_, ?_⟩
    · intro S L M ls H locs h hl hP hD hS
      simp only [f_Replacer_macroAt] at h
      refine lv_aload_n hx hb d_Replacer_macroAt_0 rfl (lv_at hl 0 rfl) ?_
      refine S_getR (h := shC) (C := "MacroMill$Replacer") (T := F_Replacer) hx hb htt in_Replacer hown hK hP 12 0 rfl 9 rfl rfl (by decide) (htt _ k_826) (fun _ h9 => h9) d_Replacer_macroAt_1 ?_
      refine S_getR (h := shC) (C := "MacroMill$Tokens") (T := F_Tokens) hx hb htt in_Tokens hown hK hP 9 6 rfl 53 rfl rfl (by decide) (htt _ k_650) (fun _ h9 => h9) d_Replacer_macroAt_4 ?_
      refine lv_iload_n hx hb d_Replacer_macroAt_7 rfl (lv_at hl 1 rfl) ?_
      obtain ⟨hv1, h⟩ := chk h
      refine S_iald (h := shC) (i := L 1) hx hb hK hP 40 rfl (okI_in hv1) d_Replacer_macroAt_8 ?_
      refine lv_istore_n (lv' := [(3, .int (S.2.1 40 (L 1 : Int32).toNatClampNeg)), (0, .ref (ad 12)), (1, .int (L 1)), (2, .int (L 2))]) hx hb d_Replacer_macroAt_9 rfl hl (by decide) rfl (fun ls hl => ?_)
      refine lv_iload_n hx hb d_Replacer_macroAt_10 rfl (lv_at hl 0 rfl) ?_
      obtain ⟨⟨r2, T2⟩, hq2, h⟩ := Option.bind_eq_some_iff.mp h
      try dsimp only at h
      refine go_iS (As := [.int (S.2.1 40 (L 1 : Int32).toNatClampNeg)]) (g := g) (A := A) (h := shC) hP hK hD hS hA hN (fun hp => va_runS (As := [.int (S.2.1 40 (L 1 : Int32).toNatClampNeg)]) (rest := []) ⟨hx, hb, hml, hown, htt⟩ (t_Tokens_kindOf l g _ ad S (S.2.1 40 (L 1 : Int32).toNatClampNeg : Int32) k9 r2 T2 hq2) ⟨(cb_L htt k_1733 k_271 k_1731 hd_Tokens_kindOf ⟨(Nat.le_trans (by decide +kernel) hRf), (Nat.le_trans (by decide +kernel) hRl)⟩), htt _ k_1732⟩ hp rfl rfl hl.1 rfl (lv_room (Nat.le_of_ble_eq_true rfl)) d_Replacer_macroAt_11 ⟨hRc, hRs⟩) (fun r0 Sn H locs hw9 hP hD hS => ?_)
      obtain ⟨e9, e8⟩ := hw9
      rw [e8] at hP hD
      refine W.widen (k := cells) (n := slots) (Nat.le_refl _) (Nat.le_refl _) ?_
      refine toI (y := r2) e9 ?_
      refine lv_iconst (v := 1) hx hb d_Replacer_macroAt_14 (by decide) ?_
      refine lv_icmp_eq (tgt := 20) hx hb d_Replacer_macroAt_15 (by decide) (fun hc3 => ?_) (fun hc3 => ?_)
      · rw [if_pos hc3] at h
        refine lv_aload_n hx hb d_Replacer_macroAt_20 rfl (lv_at hl 1 rfl) ?_
        refine S_getR (h := shC) (C := "MacroMill$Replacer") (T := F_Replacer) hx hb htt in_Replacer hown hK hP 12 1 rfl 10 rfl rfl (by decide) (htt _ k_827) (fun _ h9 => h9) d_Replacer_macroAt_21 ?_
        refine lv_aload_n hx hb d_Replacer_macroAt_24 rfl (lv_at hl 1 rfl) ?_
        show W _ _ _ _ _ _ _ _ _ _ _ _ _ _ _ (F0 _ 25 _ _)
        refine S_getR (h := shC) (C := "MacroMill$Replacer") (T := F_Replacer) hx hb htt in_Replacer hown hK hP 12 0 rfl 9 rfl rfl (by decide) (htt _ k_826) (fun _ h9 => h9) d_Replacer_macroAt_25 ?_
        refine S_getR (h := shC) (C := "MacroMill$Tokens") (T := F_Tokens) hx hb htt in_Tokens hown hK hP 9 0 rfl 50 rfl rfl (by decide) (htt _ k_635) (fun _ h9 => h9) d_Replacer_macroAt_28 ?_
        refine lv_aload_n hx hb d_Replacer_macroAt_31 rfl (lv_at hl 1 rfl) ?_
        refine S_getR (h := shC) (C := "MacroMill$Replacer") (T := F_Replacer) hx hb htt in_Replacer hown hK hP 12 0 rfl 9 rfl rfl (by decide) (htt _ k_826) (fun _ h9 => h9) d_Replacer_macroAt_32 ?_
        refine lv_iload_n hx hb d_Replacer_macroAt_35 rfl (lv_at hl 2 rfl) ?_
        obtain ⟨⟨r4, T4⟩, hq4, h⟩ := Option.bind_eq_some_iff.mp h
        try dsimp only at h
        refine go_iS (As := [.ref (ad 9), .int (L 1)]) (g := g) (A := A) (h := shC) hP hK hD hS hA hN (fun hp => va_runV (As := [.int (L 1)]) (rest := [.ref (ad 50), .ref (ad 10)]) ⟨hx, hb, hml, hown, htt⟩ (t_Tokens_from l g _ ad T2 (L 1 : Int32) k9 r4 T4 hq4) ⟨(cb_L htt k_1716 k_271 k_1734 hd_Tokens_from ⟨(Nat.le_trans (by decide +kernel) hRf), (Nat.le_trans (by decide +kernel) hRl)⟩), htt _ k_1714, htt _ k_1715⟩ ⟨hp.1, S_recv hK hP 9 rfl rfl, hp.2⟩ rfl rfl hl.1 rfl (lv_room (Nat.le_of_ble_eq_true rfl)) d_Replacer_macroAt_36 ⟨hRc, hRs⟩) (fun r0 Sn H locs hw9 hP hD hS => ?_)
        obtain ⟨e9, e8⟩ := hw9
        rw [e8] at hP hD
        refine W.widen (k := cells) (n := slots) (Nat.le_refl _) (Nat.le_refl _) ?_
        refine toI (y := r4) e9 ?_
        refine lv_aload_n hx hb d_Replacer_macroAt_39 rfl (lv_at hl 1 rfl) ?_
        refine S_getR (h := shC) (C := "MacroMill$Replacer") (T := F_Replacer) hx hb htt in_Replacer hown hK hP 12 0 rfl 9 rfl rfl (by decide) (htt _ k_826) (fun _ h9 => h9) d_Replacer_macroAt_40 ?_
        refine lv_iload_n hx hb d_Replacer_macroAt_43 rfl (lv_at hl 2 rfl) ?_
        obtain ⟨⟨r5, T5⟩, hq5, h⟩ := Option.bind_eq_some_iff.mp h
        try dsimp only at h
        refine go_iS (As := [.ref (ad 9), .int (L 1)]) (g := g) (A := A) (h := shC) hP hK hD hS hA hN (fun hp => va_runV (As := [.int (L 1)]) (rest := [.int r4, .ref (ad 50), .ref (ad 10)]) ⟨hx, hb, hml, hown, htt⟩ (t_Tokens_length l g _ ad T4 (L 1 : Int32) k9 r5 T5 hq5) ⟨(cb_L htt k_1712 k_271 k_1735 hd_Tokens_length ⟨(Nat.le_trans (by decide +kernel) hRf), (Nat.le_trans (by decide +kernel) hRl)⟩), htt _ k_1710, htt _ k_1711⟩ ⟨hp.1, S_recv hK hP 9 rfl rfl, hp.2⟩ rfl rfl hl.1 rfl (lv_room (Nat.le_of_ble_eq_true rfl)) d_Replacer_macroAt_44 ⟨hRc, hRs⟩) (fun r0 Sn H locs hw9 hP hD hS => ?_)
        obtain ⟨e9, e8⟩ := hw9
        rw [e8] at hP hD
        refine W.widen (k := cells) (n := slots) (Nat.le_refl _) (Nat.le_refl _) ?_
        refine toI (y := r5) e9 ?_
        obtain ⟨⟨r6, T6⟩, hq6, h⟩ := Option.bind_eq_some_iff.mp h
        try dsimp only at h
        refine go_iS (As := [.ref (ad 10), .ref (ad 50), .int r4, .int r5]) (g := g) (A := A) (h := shC) hP hK hD hS hA hN (fun hp => va_runV (As := [.ref (ad 50), .int r4, .int r5]) (rest := []) ⟨hx, hb, hml, hown, htt⟩ (t_Macros_find l g _ ad T5 37 125538 (r4 : Int32) (r5 : Int32) rfl k9 r6 T6 hq6) ⟨(cb_L htt k_1739 k_272 k_1736 hd_Macros_find ⟨(Nat.le_trans (by decide +kernel) hRf), (Nat.le_trans (by decide +kernel) hRl)⟩), htt _ k_1737, htt _ k_1738⟩ ⟨hp.1, S_recv hK hP 10 rfl rfl, hp.2⟩ rfl rfl hl.1 rfl (lv_room (Nat.le_of_ble_eq_true rfl)) d_Replacer_macroAt_47 ⟨hRc, hRs⟩) (fun r0 Sn H locs hw9 hP hD hS => ?_)
        obtain ⟨e9, e8⟩ := hw9
        rw [e8] at hP hD
        refine W.widen (k := cells) (n := slots) (Nat.le_refl _) (Nat.le_refl _) ?_
        refine toI (y := r6) e9 ?_
        refine lv_istore (lv' := [(4, .int r6), (3, .int (S.2.1 40 (L 1 : Int32).toNatClampNeg)), (0, .ref (ad 12)), (1, .int (L 1)), (2, .int (L 2))]) hx hb d_Replacer_macroAt_50 hl (by decide) rfl (fun ls hl => ?_)
        refine lv_iload hx hb d_Replacer_macroAt_52 (lv_at hl 0 rfl) ?_
        refine lv_if_lt (tgt := 85) hx hb d_Replacer_macroAt_54 (by decide) (fun hc7 => ?_) (fun hc7 => ?_)
        · rw [if_pos hc7] at h
          exact (ih.2.1) T6 (upd (upd L 3 (S.2.1 40 (L 1 : Int32).toNatClampNeg)) 4 r6) M ls H locs h (lv_sub hl [2, 3, 4, 1, 0] rfl) hP hD hS
        · rw [if_neg hc7] at h
          refine lv_aload_n hx hb d_Replacer_macroAt_57 rfl (lv_at hl 2 rfl) ?_
          refine S_getR (h := shC) (C := "MacroMill$Replacer") (T := F_Replacer) hx hb htt in_Replacer hown hK hP 12 1 rfl 10 rfl rfl (by decide) (htt _ k_827) (fun _ h9 => h9) d_Replacer_macroAt_58 ?_
          show W _ _ _ _ _ _ _ _ _ _ _ _ _ _ _ (F0 _ 61 _ _)
          refine lv_iload hx hb d_Replacer_macroAt_61 (lv_at hl 0 rfl) ?_
          obtain ⟨⟨r8, T8⟩, hq8, h⟩ := Option.bind_eq_some_iff.mp h
          try dsimp only at h
          refine go_iS (As := [.ref (ad 10), .int r6]) (g := g) (A := A) (h := shC) hP hK hD hS hA hN (fun hp => va_runV (As := [.int r6]) (rest := []) ⟨hx, hb, hml, hown, htt⟩ (t_Macros_isThere l g _ ad T6 (r6 : Int32) k9 r8 T8 hq8) ⟨(cb_L htt k_1751 k_272 k_1748 hd_Macros_isThere ⟨(Nat.le_trans (by decide +kernel) hRf), (Nat.le_trans (by decide +kernel) hRl)⟩), htt _ k_1749, htt _ k_1750⟩ ⟨hp.1, S_recv hK hP 10 rfl rfl, hp.2⟩ rfl rfl hl.1 rfl (lv_room (Nat.le_of_ble_eq_true rfl)) d_Replacer_macroAt_63 ⟨hRc, hRs⟩) (fun r0 Sn H locs hw9 hP hD hS => ?_)
          obtain ⟨e9, e8⟩ := hw9
          rw [e8] at hP hD
          refine W.widen (k := cells) (n := slots) (Nat.le_refl _) (Nat.le_refl _) ?_
          refine toI (y := r8) e9 ?_
          refine lv_if_eq (tgt := 85) hx hb d_Replacer_macroAt_66 (by decide) (fun hc9 => ?_) (fun hc9 => ?_)
          · rw [if_pos hc9] at h
            exact (ih.2.1) T8 (upd (upd L 3 (S.2.1 40 (L 1 : Int32).toNatClampNeg)) 4 r6) M ls H locs h (lv_sub hl [2, 3, 4, 1, 0] rfl) hP hD hS
          · rw [if_neg hc9] at h
            refine lv_aload_n hx hb d_Replacer_macroAt_69 rfl (lv_at hl 2 rfl) ?_
            refine S_getR (h := shC) (C := "MacroMill$Replacer") (T := F_Replacer) hx hb htt in_Replacer hown hK hP 12 1 rfl 10 rfl rfl (by decide) (htt _ k_827) (fun _ h9 => h9) d_Replacer_macroAt_70 ?_
            refine lv_iload_n hx hb d_Replacer_macroAt_73 rfl (lv_at hl 1 rfl) ?_
            obtain ⟨⟨r10, T10⟩, hq10, h⟩ := Option.bind_eq_some_iff.mp h
            try dsimp only at h
            refine go_iS (As := [.int (S.2.1 40 (L 1 : Int32).toNatClampNeg)]) (g := g) (A := A) (h := shC) hP hK hD hS hA hN (fun hp => va_runS (As := [.int (S.2.1 40 (L 1 : Int32).toNatClampNeg)]) (rest := [.ref (ad 10)]) ⟨hx, hb, hml, hown, htt⟩ (t_Tokens_setOf l g _ ad T8 (S.2.1 40 (L 1 : Int32).toNatClampNeg : Int32) k9 r10 T10 hq10) ⟨(cb_L htt k_1754 k_271 k_1752 hd_Tokens_setOf ⟨(Nat.le_trans (by decide +kernel) hRf), (Nat.le_trans (by decide +kernel) hRl)⟩), htt _ k_1753⟩ hp rfl rfl hl.1 rfl (lv_room (Nat.le_of_ble_eq_true rfl)) d_Replacer_macroAt_74 ⟨hRc, hRs⟩) (fun r0 Sn H locs hw9 hP hD hS => ?_)
            obtain ⟨e9, e8⟩ := hw9
            rw [e8] at hP hD
            refine W.widen (k := cells) (n := slots) (Nat.le_refl _) (Nat.le_refl _) ?_
            refine toI (y := r10) e9 ?_
            refine lv_iload hx hb d_Replacer_macroAt_77 (lv_at hl 0 rfl) ?_
            obtain ⟨⟨r11, T11⟩, hq11, h⟩ := Option.bind_eq_some_iff.mp h
            try dsimp only at h
            refine go_iS (As := [.ref (ad 10), .int r10, .int r6]) (g := g) (A := A) (h := shC) hP hK hD hS hA hN (fun hp => va_runV (As := [.int r10, .int r6]) (rest := []) ⟨hx, hb, hml, hown, htt⟩ (t_Macros_isHidden l g _ ad T10 (r10 : Int32) (r6 : Int32) k9 r11 T11 hq11) ⟨(cb_L htt k_1758 k_272 k_1755 hd_Macros_isHidden ⟨(Nat.le_trans (by decide +kernel) hRf), (Nat.le_trans (by decide +kernel) hRl)⟩), htt _ k_1756, htt _ k_1757⟩ ⟨hp.1, S_recv hK hP 10 rfl rfl, hp.2⟩ rfl rfl hl.1 rfl (lv_room (Nat.le_of_ble_eq_true rfl)) d_Replacer_macroAt_79 ⟨hRc, hRs⟩) (fun r0 Sn H locs hw9 hP hD hS => ?_)
            obtain ⟨e9, e8⟩ := hw9
            rw [e8] at hP hD
            refine W.widen (k := cells) (n := slots) (Nat.le_refl _) (Nat.le_refl _) ?_
            refine toI (y := r11) e9 ?_
            refine lv_if_eq (tgt := 87) hx hb d_Replacer_macroAt_82 (by decide) (fun hc12 => ?_) (fun hc12 => ?_)
            · rw [if_pos hc12] at h
              refine lv_aload_n hx hb d_Replacer_macroAt_87 rfl (lv_at hl 2 rfl) ?_
              refine S_getR (h := shC) (C := "MacroMill$Replacer") (T := F_Replacer) hx hb htt in_Replacer hown hK hP 12 0 rfl 9 rfl rfl (by decide) (htt _ k_826) (fun _ h9 => h9) d_Replacer_macroAt_88 ?_
              refine S_getR (h := shC) (C := "MacroMill$Tokens") (T := F_Tokens) hx hb htt in_Tokens hown hK hP 9 7 rfl 54 rfl rfl (by decide) (htt _ k_655) (fun _ h9 => h9) d_Replacer_macroAt_91 ?_
              refine lv_iload_n hx hb d_Replacer_macroAt_94 rfl (lv_at hl 3 rfl) ?_
              obtain ⟨hv13, h⟩ := chk h
              refine S_iald (h := shC) (i := L 1) hx hb hK hP 41 rfl (okI_in hv13) d_Replacer_macroAt_95 ?_
              refine lv_istore (lv' := [(5, .int (T11.2.1 41 (L 1 : Int32).toNatClampNeg)), (4, .int r6), (3, .int (S.2.1 40 (L 1 : Int32).toNatClampNeg)), (0, .ref (ad 12)), (1, .int (L 1)), (2, .int (L 2))]) hx hb d_Replacer_macroAt_96 hl (by decide) rfl (fun ls hl => ?_)
              refine lv_aload_n hx hb d_Replacer_macroAt_98 rfl (lv_at hl 3 rfl) ?_
              show W _ _ _ _ _ _ _ _ _ _ _ _ _ _ _ (F0 _ 99 _ _)
              refine S_getR (h := shC) (C := "MacroMill$Replacer") (T := F_Replacer) hx hb htt in_Replacer hown hK hP 12 1 rfl 10 rfl rfl (by decide) (htt _ k_827) (fun _ h9 => h9) d_Replacer_macroAt_99 ?_
              refine lv_iload hx hb d_Replacer_macroAt_102 (lv_at hl 1 rfl) ?_
              obtain ⟨⟨r14, T14⟩, hq14, h⟩ := Option.bind_eq_some_iff.mp h
              try dsimp only at h
              refine go_iS (As := [.ref (ad 10), .int r6]) (g := g) (A := A) (h := shC) hP hK hD hS hA hN (fun hp => va_runV (As := [.int r6]) (rest := []) ⟨hx, hb, hml, hown, htt⟩ (t_Macros_hasParameters l g _ ad T11 (r6 : Int32) k9 r14 T14 hq14) ⟨(cb_L htt k_1762 k_272 k_1759 hd_Macros_hasParameters ⟨(Nat.le_trans (by decide +kernel) hRf), (Nat.le_trans (by decide +kernel) hRl)⟩), htt _ k_1760, htt _ k_1761⟩ ⟨hp.1, S_recv hK hP 10 rfl rfl, hp.2⟩ rfl rfl hl.1 rfl (lv_room (Nat.le_of_ble_eq_true rfl)) d_Replacer_macroAt_104 ⟨hRc, hRs⟩) (fun r0 Sn H locs hw9 hP hD hS => ?_)
              obtain ⟨e9, e8⟩ := hw9
              rw [e8] at hP hD
              refine W.widen (k := cells) (n := slots) (Nat.le_refl _) (Nat.le_refl _) ?_
              refine toI (y := r14) e9 ?_
              refine lv_if_eq (tgt := 130) hx hb d_Replacer_macroAt_107 (by decide) (fun hc15 => ?_) (fun hc15 => ?_)
              · rw [if_pos hc15] at h
                exact (ih.2.2.1) T14 (upd (upd (upd L 3 (S.2.1 40 (L 1 : Int32).toNatClampNeg)) 4 r6) 5 (T11.2.1 41 (L 1 : Int32).toNatClampNeg)) M ls H locs h (lv_sub hl [3, 4, 5, 2, 1, 0] rfl) hP hD hS
              · rw [if_neg hc15] at h
                refine lv_iload hx hb d_Replacer_macroAt_110 (lv_at hl 0 rfl) ?_
                refine lv_iload_n hx hb d_Replacer_macroAt_112 rfl (lv_at hl 5 rfl) ?_
                refine lv_icmp_eq (tgt := 134) hx hb d_Replacer_macroAt_113 (by decide) (fun hc16 => ?_) (fun hc16 => ?_)
                · rw [if_pos hc16] at h
                  exact (ih.2.2.2.1) T14 (upd (upd (upd L 3 (S.2.1 40 (L 1 : Int32).toNatClampNeg)) 4 r6) 5 (T11.2.1 41 (L 1 : Int32).toNatClampNeg)) M ls H locs h (lv_sub hl [3, 4, 5, 2, 1, 0] rfl) hP hD hS
                · rw [if_neg hc16] at h
                  refine lv_aload_n hx hb d_Replacer_macroAt_116 rfl (lv_at hl 3 rfl) ?_
                  refine S_getR (h := shC) (C := "MacroMill$Replacer") (T := F_Replacer) hx hb htt in_Replacer hown hK hP 12 0 rfl 9 rfl rfl (by decide) (htt _ k_826) (fun _ h9 => h9) d_Replacer_macroAt_117 ?_
                  refine lv_iload hx hb d_Replacer_macroAt_120 (lv_at hl 0 rfl) ?_
                  refine lv_bipush (v := 40) hx hb d_Replacer_macroAt_122 (by decide) ?_
                  obtain ⟨⟨r17, T17⟩, hq17, h⟩ := Option.bind_eq_some_iff.mp h
                  try dsimp only at h
                  refine go_iS (As := [.ref (ad 9), .int (T11.2.1 41 (L 1 : Int32).toNatClampNeg), .int 40]) (g := g) (A := A) (h := shC) hP hK hD hS hA hN (fun hp => va_runV (As := [.int (T11.2.1 41 (L 1 : Int32).toNatClampNeg), .int 40]) (rest := []) ⟨hx, hb, hml, hown, htt⟩ (t_Tokens_isSign l g _ ad T14 (T11.2.1 41 (L 1 : Int32).toNatClampNeg : Int32) (40 : Int32) k9 r17 T17 hq17) ⟨(cb_L htt k_1708 k_271 k_1763 hd_Tokens_isSign ⟨(Nat.le_trans (by decide +kernel) hRf), (Nat.le_trans (by decide +kernel) hRl)⟩), htt _ k_1706, htt _ k_1707⟩ ⟨hp.1, S_recv hK hP 9 rfl rfl, hp.2⟩ rfl rfl hl.1 rfl (lv_room (Nat.le_of_ble_eq_true rfl)) d_Replacer_macroAt_124 ⟨hRc, hRs⟩) (fun r0 Sn H locs hw9 hP hD hS => ?_)
                  obtain ⟨e9, e8⟩ := hw9
                  rw [e8] at hP hD
                  refine W.widen (k := cells) (n := slots) (Nat.le_refl _) (Nat.le_refl _) ?_
                  refine toI (y := r17) e9 ?_
                  refine lv_if_eq (tgt := 134) hx hb d_Replacer_macroAt_127 (by decide) (fun hc18 => ?_) (fun hc18 => ?_)
                  · rw [if_pos hc18] at h
                    exact (ih.2.2.2.1) T17 (upd (upd (upd L 3 (S.2.1 40 (L 1 : Int32).toNatClampNeg)) 4 r6) 5 (T11.2.1 41 (L 1 : Int32).toNatClampNeg)) M ls H locs h (lv_sub hl [3, 4, 5, 2, 1, 0] rfl) hP hD hS
                  · rw [if_neg hc18] at h
                    exact (ih.2.2.1) T17 (upd (upd (upd L 3 (S.2.1 40 (L 1 : Int32).toNatClampNeg)) 4 r6) 5 (T11.2.1 41 (L 1 : Int32).toNatClampNeg)) M ls H locs h (lv_sub hl [3, 4, 5, 2, 1, 0] rfl) hP hD hS
            · rw [if_neg hc12] at h
              exact (ih.2.1) T11 (upd (upd L 3 (S.2.1 40 (L 1 : Int32).toNatClampNeg)) 4 r6) M ls H locs h (lv_sub hl [2, 3, 4, 1, 0] rfl) hP hD hS
      · rw [if_neg hc3] at h
        refine lv_iconst (v := (-1)) hx hb d_Replacer_macroAt_18 (by decide) ?_
        cases h
        exact kx_19 ls H locs hP hD hS
    · intro S L M ls H locs h hl hP hD hS
      simp only [f_Replacer_macroAt] at h
      refine lv_iconst (v := (-1)) hx hb d_Replacer_macroAt_85 (by decide) ?_
      cases h
      exact kx_86 ls H locs hP hD hS
    · intro S L M ls H locs h hl hP hD hS
      simp only [f_Replacer_macroAt] at h
      refine lv_iconst (v := 1) hx hb d_Replacer_macroAt_130 (by decide) ?_
      refine lv_goto (tgt := 135) hx hb d_Replacer_macroAt_131 (by decide) ?_
      exact (ih.2.2.2.2.1) S (upd L 100 (1 : Int32)) M ls H locs h (lv_sub hl [0, 1, 2, 3, 4, 5] rfl) hP hD hS
    · intro S L M ls H locs h hl hP hD hS
      simp only [f_Replacer_macroAt] at h
      refine lv_iconst (v := 0) hx hb d_Replacer_macroAt_134 (by decide) ?_
      exact (ih.2.2.2.2.1) S (upd L 100 (0 : Int32)) M ls H locs h (lv_sub hl [0, 1, 2, 3, 4, 5] rfl) hP hD hS
    · intro S L M ls H locs h hl hP hD hS
      simp only [f_Replacer_macroAt] at h
      refine lv_istore (lv' := [(6, .int (L 100)), (0, .ref (ad 12)), (1, .int (L 1)), (2, .int (L 2)), (3, .int (L 3)), (4, .int (L 4)), (5, .int (L 5))]) hx hb d_Replacer_macroAt_135 hl (by decide) rfl (fun ls hl => ?_)
      refine lv_iload hx hb d_Replacer_macroAt_137 (lv_at hl 0 rfl) ?_
      refine lv_if_eq (tgt := 147) hx hb d_Replacer_macroAt_139 (by decide) (fun hc1 => ?_) (fun hc1 => ?_)
      · rw [if_pos hc1] at h
        refine lv_iconst (v := (-1)) hx hb d_Replacer_macroAt_147 (by decide) ?_
        exact (ih.2.2.2.2.2) S (upd (upd L 6 (L 100)) 100 ((-1) : Int32)) M ls H locs h (lv_sub hl [1, 2, 3, 4, 5, 6, 0] rfl) hP hD hS
      · rw [if_neg hc1] at h
        refine lv_iload hx hb d_Replacer_macroAt_142 (lv_at hl 5 rfl) ?_
        refine lv_goto (tgt := 148) hx hb d_Replacer_macroAt_144 (by decide) ?_
        exact (ih.2.2.2.2.2) S (upd (upd L 6 (L 100)) 100 (L 4)) M ls H locs h (lv_sub hl [1, 2, 3, 4, 5, 6, 0] rfl) hP hD hS
    · intro S L M ls H locs h hl hP hD hS
      simp only [f_Replacer_macroAt] at h
      cases h
      exact kx_148 ls H locs hP hD hS
abbrev rm_t_Replacer_macroAt : Room := { frames := 2, cells := 0, slots := 0, locals := 51 }
theorem t_Replacer_macroAt (l : Launch) (g : gG) (sz : Nat) (ad : Nat → Nat) (S : sS) (v1 : Int32) (v2 : Int32) (k : Nat) (r : Int32) (S9 : sS) (h : f_Replacer_macroAt k 0 S (upd (upd (fun _ => 0) 1 v1) 2 v2) (fun _ => 0) = some (r, S9)) : Ci l y_Replacer_macroAt b_Replacer_macroAt 7 rm_t_Replacer_macroAt g [.ref (ad 12), .int v1, .int v2] (Sw shC g ad S) sz (fun r1 w => ∃ S1 : sS, w = Sw shC g ad S1 ∧ r1 = r ∧ S1 = S9) := by
  refine startI (by decide) (Nat.le_of_ble_eq_true rfl) ?_
  intro p e s m below meth c A ls hx hb hr hml hlocks hmn hown htt hN hA hP hK hD hS hl
  exact (w_Replacer_macroAt hx hb hml hown htt hK hN hA (by decide +kernel) (by decide +kernel) (by decide +kernel) (by decide +kernel) r S9 (fun ls H locs hP hD hS => fin_i (g := g) (ws := Sw shC g ad S9) hx hb hr hlocks (by decide +kernel) (by decide +kernel) hP hD hS ⟨_, rfl, rfl, rfl⟩ d_Replacer_macroAt_19) (fun ls H locs hP hD hS => fin_i (g := g) (ws := Sw shC g ad S9) hx hb hr hlocks (by decide +kernel) (by decide +kernel) hP hD hS ⟨_, rfl, rfl, rfl⟩ d_Replacer_macroAt_86) (fun ls H locs hP hD hS => fin_i (g := g) (ws := Sw shC g ad S9) hx hb hr hlocks (by decide +kernel) (by decide +kernel) hP hD hS ⟨_, rfl, rfl, rfl⟩ d_Replacer_macroAt_148) k).1 S (upd (upd (fun _ => 0) 1 v1) 2 v2) (fun _ => 0) ls _ _ h hl hP hD hS
def f_Replacer_spelledSince : Nat → Nat → sS → (Nat → Int32) → (Nat → Int64) → Option (Int64 × sS)
  | 0, _, _, _, _ => none
  | k + 1, 0, S, L, M => (f_Tokens_isOverfull k 0 S (fun _ => 0) (fun _ => 0)).bind (fun (r1, T1) => if r1 = (0 : Int32) then (f_Replacer_spelledSince k 1 T1 L M) else ((f_Outcome_fail k 0 T1 (upd (upd (fun _ => 0) 1 (21 : Int32)) 2 (L 2 : Int32)) (fun _ => 0)).bind (fun (r3, T3) => f_Replacer_spelledSince k 1 T3 L M)))
  | k + 1, 1, S, L, M => (f_Tokens_spelled k 0 S (upd (upd (fun _ => 0) 0 (L 1 : Int32)) 1 ((S.1 9 2) - (L 1) : Int32)) (fun _ => 0)).bind (fun (r1, T1) => some (r1, T1))
  | _ + 1, _ + 2, _, _, _ => none
set_option maxHeartbeats 8000000 in
set_option maxRecDepth 100000 in
theorem w_Replacer_spelledSince {p : Program} {l : Launch} {e : Env} {R : Room} {s : State} {m : MethodId} {args : Array Value} {below : List Frame} {meth : Method} {c : Code} {cells slots : Nat} {Q : State → Prop} {g : gG} {A : Nat → Prop} {ad : Nat → Nat} (hx : p.tables.exec = Jvm.exec) (hb : c.code = b_Replacer_spelledSince) (hml : c.maxLocals = 3) (hown : s.vm.findClass "MacroMill$Replacer" = some m.cls) (htt : ∀ w ∈ gt, w.before args s = true) (hK : va_K g.1 classes (tysG g) s) (hN : nw s) (hA : ∀ q : Nat, s.heap.size ≤ q → A q) (hRf : 1 ≤ R.frames) (hRl : 22 ≤ R.locals) (hRc : cells ≤ R.cells) (hRs : slots ≤ R.slots) (r : Int64) (S9 : sS)
    (kx_33 : ∀ (ls : Array Slot) (H : Heap) (locs : List Loc), va_P g.1 classes (Sw shC g ad S9) H → va_D A (Sw shC g ad S9) → va_S A s.heap H locs → W p l e R s m args below meth c H locs cells slots Q (F0 m 33 ls [.long r])) :
    ∀ k9 : Nat, (∀ (S : sS) (L : Nat → Int32) (M : Nat → Int64) (ls : Array Slot) (H : Heap) (locs : List Loc), f_Replacer_spelledSince k9 0 S L M = some (r, S9) → lv_has ls 3 [(0, .ref (ad 12)), (1, .int (L 1)), (2, .int (L 2))] → va_P g.1 classes (Sw shC g ad S) H → va_D A (Sw shC g ad S) → va_S A s.heap H locs → W p l e R s m args below meth c H locs cells slots Q (F0 m 0 ls [])) ∧ (∀ (S : sS) (L : Nat → Int32) (M : Nat → Int64) (ls : Array Slot) (H : Heap) (locs : List Loc), f_Replacer_spelledSince k9 1 S L M = some (r, S9) → lv_has ls 3 [(0, .ref (ad 12)), (1, .int (L 1)), (2, .int (L 2))] → va_P g.1 classes (Sw shC g ad S) H → va_D A (Sw shC g ad S) → va_S A s.heap H locs → W p l e R s m args below meth c H locs cells slots Q (F0 m 20 ls [])) := by
  intro k9
  induction k9 with
  | zero => exact ⟨(fun _ _ _ _ _ _ h => by simp [f_Replacer_spelledSince] at h), (fun _ _ _ _ _ _ h => by simp [f_Replacer_spelledSince] at h)⟩
  | succ k9 ih =>
    refine ⟨?_, ?_⟩
    · intro S L M ls H locs h hl hP hD hS
      simp only [f_Replacer_spelledSince] at h
      refine lv_aload_n hx hb d_Replacer_spelledSince_0 rfl (lv_at hl 0 rfl) ?_
      refine S_getR (h := shC) (C := "MacroMill$Replacer") (T := F_Replacer) hx hb htt in_Replacer hown hK hP 12 0 rfl 9 rfl rfl (by decide) (htt _ k_826) (fun _ h9 => h9) d_Replacer_spelledSince_1 ?_
      obtain ⟨⟨r1, T1⟩, hq1, h⟩ := Option.bind_eq_some_iff.mp h
      try dsimp only at h
      refine go_iS (As := [.ref (ad 9)]) (g := g) (A := A) (h := shC) hP hK hD hS hA hN (fun hp => va_runV (As := []) (rest := []) ⟨hx, hb, hml, hown, htt⟩ (t_Tokens_isOverfull l g _ ad S k9 r1 T1 hq1) ⟨(cb_L htt k_1812 k_271 k_1809 hd_Tokens_isOverfull ⟨(Nat.le_trans (by decide +kernel) hRf), (Nat.le_trans (by decide +kernel) hRl)⟩), htt _ k_1810, htt _ k_1811⟩ ⟨hp.1, S_recv hK hP 9 rfl rfl, hp.2⟩ rfl rfl hl.1 rfl (lv_room (Nat.le_of_ble_eq_true rfl)) d_Replacer_spelledSince_4 ⟨hRc, hRs⟩) (fun r0 Sn H locs hw9 hP hD hS => ?_)
      obtain ⟨e9, e8⟩ := hw9
      rw [e8] at hP hD
      refine W.widen (k := cells) (n := slots) (Nat.le_refl _) (Nat.le_refl _) ?_
      refine toI (y := r1) e9 ?_
      refine lv_if_eq (tgt := 20) hx hb d_Replacer_spelledSince_7 (by decide) (fun hc2 => ?_) (fun hc2 => ?_)
      · rw [if_pos hc2] at h
        exact (ih.2) T1 L M ls H locs h (lv_sub hl [0, 1, 2] rfl) hP hD hS
      · rw [if_neg hc2] at h
        refine lv_aload_n hx hb d_Replacer_spelledSince_10 rfl (lv_at hl 0 rfl) ?_
        refine S_getR (h := shC) (C := "MacroMill$Replacer") (T := F_Replacer) hx hb htt in_Replacer hown hK hP 12 3 rfl 2 rfl rfl (by decide) (htt _ k_829) (fun _ h9 => h9) d_Replacer_spelledSince_11 ?_
        refine lv_bipush (v := 21) hx hb d_Replacer_spelledSince_14 (by decide) ?_
        refine lv_iload_n hx hb d_Replacer_spelledSince_16 rfl (lv_at hl 2 rfl) ?_
        obtain ⟨⟨r3, T3⟩, hq3, h⟩ := Option.bind_eq_some_iff.mp h
        try dsimp only at h
        refine go_vS (As := [.ref (ad 2), .int 21, .int (L 2)]) (g := g) (A := A) (h := shC) hP hK hD hS hA hN (fun hp => va_runV (As := [.int 21, .int (L 2)]) (rest := []) ⟨hx, hb, hml, hown, htt⟩ (t_Outcome_fail l g _ ad T1 (21 : Int32) (L 2 : Int32) k9 r3 T3 hq3) ⟨(cb_L htt k_1163 k_264 k_1777 hd_Outcome_fail ⟨(Nat.le_trans (by decide +kernel) hRf), (Nat.le_trans (by decide +kernel) hRl)⟩), htt _ k_1161, htt _ k_1162⟩ ⟨hp.1, S_recv hK hP 2 rfl rfl, hp.2⟩ rfl rfl hl.1 rfl (lv_room (Nat.le_of_ble_eq_true rfl)) d_Replacer_spelledSince_17 ⟨hRc, hRs⟩) (fun Sn H locs hw9 hP hD hS => ?_)
        have e8 := hw9
        rw [e8] at hP hD
        refine W.widen (k := cells) (n := slots) (Nat.le_refl _) (Nat.le_refl _) ?_
        exact (ih.2) T3 L M ls H locs h (lv_sub hl [0, 1, 2] rfl) hP hD hS
    · intro S L M ls H locs h hl hP hD hS
      simp only [f_Replacer_spelledSince] at h
      refine lv_iload_n hx hb d_Replacer_spelledSince_20 rfl (lv_at hl 1 rfl) ?_
      refine lv_aload_n hx hb d_Replacer_spelledSince_21 rfl (lv_at hl 0 rfl) ?_
      refine S_getR (h := shC) (C := "MacroMill$Replacer") (T := F_Replacer) hx hb htt in_Replacer hown hK hP 12 0 rfl 9 rfl rfl (by decide) (htt _ k_826) (fun _ h9 => h9) d_Replacer_spelledSince_22 ?_
      refine S_getI (h := shC) (C := "MacroMill$Tokens") (T := F_Tokens) hx hb htt in_Tokens hown hK hP 9 2 rfl rfl rfl (by decide) (htt _ k_640) (fun _ h9 => h9) d_Replacer_spelledSince_25 ?_
      refine lv_iload_n hx hb d_Replacer_spelledSince_28 rfl (lv_at hl 1 rfl) ?_
      refine lv_isub hx hb d_Replacer_spelledSince_29 ?_
      obtain ⟨⟨r1, T1⟩, hq1, h⟩ := Option.bind_eq_some_iff.mp h
      try dsimp only at h
      refine go_lS (As := [.int (L 1), .int ((S.1 9 2) - (L 1))]) (g := g) (A := A) (h := shC) hP hK hD hS hA hN (fun hp => va_runS (As := [.int (L 1), .int ((S.1 9 2) - (L 1))]) (rest := []) ⟨hx, hb, hml, hown, htt⟩ (t_Tokens_spelled l g _ ad S (L 1 : Int32) ((S.1 9 2) - (L 1) : Int32) k9 r1 T1 hq1) ⟨(cb_L htt k_1693 k_271 k_1828 hd_Tokens_spelled ⟨(Nat.le_trans (by decide +kernel) hRf), (Nat.le_trans (by decide +kernel) hRl)⟩), htt _ k_1692⟩ hp rfl rfl hl.1 rfl (lv_room (Nat.le_of_ble_eq_true rfl)) d_Replacer_spelledSince_30 ⟨hRc, hRs⟩) (fun r0 Sn H locs hw9 hP hD hS => ?_)
      obtain ⟨e9, e8⟩ := hw9
      rw [e8] at hP hD
      refine W.widen (k := cells) (n := slots) (Nat.le_refl _) (Nat.le_refl _) ?_
      refine toL (y := r1) e9 ?_
      cases h
      exact kx_33 ls H locs hP hD hS
abbrev rm_t_Replacer_spelledSince : Room := { frames := 1, cells := 0, slots := 0, locals := 22 }
theorem t_Replacer_spelledSince (l : Launch) (g : gG) (sz : Nat) (ad : Nat → Nat) (S : sS) (v1 : Int32) (v2 : Int32) (k : Nat) (r : Int64) (S9 : sS) (h : f_Replacer_spelledSince k 0 S (upd (upd (fun _ => 0) 1 v1) 2 v2) (fun _ => 0) = some (r, S9)) : Cl l y_Replacer_spelledSince b_Replacer_spelledSince 3 rm_t_Replacer_spelledSince g [.ref (ad 12), .int v1, .int v2] (Sw shC g ad S) sz (fun r1 w => ∃ S1 : sS, w = Sw shC g ad S1 ∧ r1 = r ∧ S1 = S9) := by
  refine startL (by decide) (Nat.le_of_ble_eq_true rfl) ?_
  intro p e s m below meth c A ls hx hb hr hml hlocks hmn hown htt hN hA hP hK hD hS hl
  exact (w_Replacer_spelledSince hx hb hml hown htt hK hN hA (by decide +kernel) (by decide +kernel) (by decide +kernel) (by decide +kernel) r S9 (fun ls H locs hP hD hS => fin_l (g := g) (ws := Sw shC g ad S9) hx hb hr hlocks (by decide +kernel) (by decide +kernel) hP hD hS ⟨_, rfl, rfl, rfl⟩ d_Replacer_spelledSince_33) k).1 S (upd (upd (fun _ => 0) 1 v1) 2 v2) (fun _ => 0) ls _ _ h hl hP hD hS
def f_Replacer_clearRow : Nat → Nat → sS → (Nat → Int32) → (Nat → Int64) → Option (Int32 × sS)
  | 0, _, _, _, _ => none
  | k + 1, 0, S, L, M => if okI (L 1) 62 = true then (if okI (L 1) 62 = true then (if okI (L 1) 62 = true then (some ((0 : Int32), (putA (putA (putA S 71 (L 1 : Int32).toNatClampNeg (-1)) 72 (L 1 : Int32).toNatClampNeg (-1)) 73 (L 1 : Int32).toNatClampNeg 0))) else none) else none) else none
  | _ + 1, _ + 1, _, _, _ => none
set_option maxHeartbeats 8000000 in
set_option maxRecDepth 100000 in
theorem w_Replacer_clearRow {p : Program} {l : Launch} {e : Env} {R : Room} {s : State} {m : MethodId} {args : Array Value} {below : List Frame} {meth : Method} {c : Code} {cells slots : Nat} {Q : State → Prop} {g : gG} {A : Nat → Prop} {ad : Nat → Nat} (hx : p.tables.exec = Jvm.exec) (hb : c.code = b_Replacer_clearRow) (hml : c.maxLocals = 2) (hown : s.vm.findClass "MacroMill$Replacer" = some m.cls) (htt : ∀ w ∈ gt, w.before args s = true) (hK : va_K g.1 classes (tysG g) s) (hN : nw s) (hA : ∀ q : Nat, s.heap.size ≤ q → A q) (r : Int32) (S9 : sS)
    (kx_21 : ∀ (ls : Array Slot) (H : Heap) (locs : List Loc), va_P g.1 classes (Sw shC g ad S9) H → va_D A (Sw shC g ad S9) → va_S A s.heap H locs → W p l e R s m args below meth c H locs cells slots Q (F0 m 21 ls [])) :
    ∀ k9 : Nat, (∀ (S : sS) (L : Nat → Int32) (M : Nat → Int64) (ls : Array Slot) (H : Heap) (locs : List Loc), f_Replacer_clearRow k9 0 S L M = some (r, S9) → lv_has ls 2 [(0, .ref (ad 12)), (1, .int (L 1))] → va_P g.1 classes (Sw shC g ad S) H → va_D A (Sw shC g ad S) → va_S A s.heap H locs → W p l e R s m args below meth c H locs cells slots Q (F0 m 0 ls [])) := by
  intro k9
  induction k9 with
  | zero => exact (fun _ _ _ _ _ _ h => by simp [f_Replacer_clearRow] at h)
  | succ k9 ih =>
    · intro S L M ls H locs h hl hP hD hS
      simp only [f_Replacer_clearRow] at h
      refine lv_aload_n hx hb d_Replacer_clearRow_0 rfl (lv_at hl 0 rfl) ?_
      refine S_getR (h := shC) (C := "MacroMill$Replacer") (T := F_Replacer) hx hb htt in_Replacer hown hK hP 12 11 rfl 84 rfl rfl (by decide) (htt _ k_837) (fun _ h9 => h9) d_Replacer_clearRow_1 ?_
      refine lv_iload_n hx hb d_Replacer_clearRow_4 rfl (lv_at hl 1 rfl) ?_
      refine lv_iconst (v := (-1)) hx hb d_Replacer_clearRow_5 (by decide) ?_
      obtain ⟨hv1, h⟩ := chk h
      refine S_iast (h := shC) (i := L 1) (v := (-1)) hx hb hK hP hD hS 71 rfl (okI_in hv1) d_Replacer_clearRow_6 (fun H locs hP hD hS => ?_)
      refine lv_aload_n hx hb d_Replacer_clearRow_7 rfl (lv_at hl 0 rfl) ?_
      refine S_getR (h := shC) (C := "MacroMill$Replacer") (T := F_Replacer) hx hb htt in_Replacer hown hK hP 12 12 rfl 85 rfl rfl (by decide) (htt _ k_838) (fun _ h9 => h9) d_Replacer_clearRow_8 ?_
      refine lv_iload_n hx hb d_Replacer_clearRow_11 rfl (lv_at hl 1 rfl) ?_
      refine lv_iconst (v := (-1)) hx hb d_Replacer_clearRow_12 (by decide) ?_
      obtain ⟨hv2, h⟩ := chk h
      refine S_iast (h := shC) (i := L 1) (v := (-1)) hx hb hK hP hD hS 72 rfl (okI_in hv2) d_Replacer_clearRow_13 (fun H locs hP hD hS => ?_)
      refine lv_aload_n hx hb d_Replacer_clearRow_14 rfl (lv_at hl 0 rfl) ?_
      show W _ _ _ _ _ _ _ _ _ _ _ _ _ _ _ (F0 _ 15 _ _)
      refine S_getR (h := shC) (C := "MacroMill$Replacer") (T := F_Replacer) hx hb htt in_Replacer hown hK hP 12 13 rfl 86 rfl rfl (by decide) (htt _ k_839) (fun _ h9 => h9) d_Replacer_clearRow_15 ?_
      refine lv_iload_n hx hb d_Replacer_clearRow_18 rfl (lv_at hl 1 rfl) ?_
      refine lv_iconst (v := 0) hx hb d_Replacer_clearRow_19 (by decide) ?_
      obtain ⟨hv3, h⟩ := chk h
      refine S_iast (h := shC) (i := L 1) (v := 0) hx hb hK hP hD hS 73 rfl (okI_in hv3) d_Replacer_clearRow_20 (fun H locs hP hD hS => ?_)
      cases h
      exact kx_21 ls H locs hP hD hS
abbrev rm_t_Replacer_clearRow : Room := { frames := 0, cells := 0, slots := 0, locals := 0 }
theorem t_Replacer_clearRow (l : Launch) (g : gG) (sz : Nat) (ad : Nat → Nat) (S : sS) (v1 : Int32) (k : Nat) (r : Int32) (S9 : sS) (h : f_Replacer_clearRow k 0 S (upd (fun _ => 0) 1 v1) (fun _ => 0) = some (r, S9)) : Cv l y_Replacer_clearRow b_Replacer_clearRow 2 rm_t_Replacer_clearRow g [.ref (ad 12), .int v1] (Sw shC g ad S) sz (fun w => ∃ S1 : sS, w = Sw shC g ad S1 ∧ S1 = S9) := by
  refine startV (by decide) (Nat.le_of_ble_eq_true rfl) ?_
  intro p e s m below meth c A ls hx hb hr hml hlocks hmn hown htt hN hA hP hK hD hS hl
  exact (w_Replacer_clearRow hx hb hml hown htt hK hN hA r S9 (fun ls H locs hP hD hS => fin_v (g := g) (ws := Sw shC g ad S9) hx hb hr hlocks (by decide +kernel) (by decide +kernel) hP hD hS ⟨_, rfl, rfl⟩ d_Replacer_clearRow_21) k) S (upd (fun _ => 0) 1 v1) (fun _ => 0) ls _ _ h hl hP hD hS
def f_Replacer_append : Nat → Nat → sS → (Nat → Int32) → (Nat → Int64) → Option (Int32 × sS)
  | 0, _, _, _, _ => none
  | k + 1, 0, S, L, M => (f_Tokens_add k 0 S (upd (fun _ => 0) 3 (L 4 : Int32)) (vp_updL (fun _ => 0) 1 (M 2 : Int64))).bind (fun (r1, T1) => if (0 : Int32) ≤ r1 then (if okI (L 1) 62 = true then (if (T1.2.1 72 (L 1 : Int32).toNatClampNeg) = ((-1) : Int32) then (if okI (L 1) 62 = true then (f_Replacer_append k 1 (putA T1 71 (L 1 : Int32).toNatClampNeg r1) (upd L 5 r1) M) else none) else (if okI (L 1) 62 = true then (if okI (T1.2.1 72 (L 1 : Int32).toNatClampNeg) 120784 = true then (f_Replacer_append k 1 (putA T1 41 (T1.2.1 72 (L 1 : Int32).toNatClampNeg : Int32).toNatClampNeg r1) (upd L 5 r1) M) else none) else none)) else none) else ((f_Tokens_lineOf k 0 T1 (upd (fun _ => 0) 0 (L 4 : Int32)) (fun _ => 0)).bind (fun (r8, T8) => (f_Outcome_fail k 0 T8 (upd (upd (fun _ => 0) 1 (21 : Int32)) 2 (r8 : Int32)) (fun _ => 0)).bind (fun (r9, T9) => some ((0 : Int32), T9)))))
  | k + 1, 1, S, L, M => if okI (L 1) 62 = true then (if okI (L 1) 62 = true then (if okI (L 1) 62 = true then (some ((0 : Int32), (putA (putA S 72 (L 1 : Int32).toNatClampNeg (L 5)) 73 (L 1 : Int32).toNatClampNeg (((putA S 72 (L 1 : Int32).toNatClampNeg (L 5)).2.1 73 (L 1 : Int32).toNatClampNeg) + (1 : Int32))))) else none) else none) else none
  | _ + 1, _ + 2, _, _, _ => none
set_option maxHeartbeats 8000000 in
set_option maxRecDepth 100000 in
theorem w_Replacer_append {p : Program} {l : Launch} {e : Env} {R : Room} {s : State} {m : MethodId} {args : Array Value} {below : List Frame} {meth : Method} {c : Code} {cells slots : Nat} {Q : State → Prop} {g : gG} {A : Nat → Prop} {ad : Nat → Nat} (hx : p.tables.exec = Jvm.exec) (hb : c.code = b_Replacer_append) (hml : c.maxLocals = 6) (hown : s.vm.findClass "MacroMill$Replacer" = some m.cls) (htt : ∀ w ∈ gt, w.before args s = true) (hK : va_K g.1 classes (tysG g) s) (hN : nw s) (hA : ∀ q : Nat, s.heap.size ≤ q → A q) (hRf : 1 ≤ R.frames) (hRl : 23 ≤ R.locals) (hRc : cells ≤ R.cells) (hRs : slots ≤ R.slots) (r : Int32) (S9 : sS)
    (kx_31 : ∀ (ls : Array Slot) (H : Heap) (locs : List Loc), va_P g.1 classes (Sw shC g ad S9) H → va_D A (Sw shC g ad S9) → va_S A s.heap H locs → W p l e R s m args below meth c H locs cells slots Q (F0 m 31 ls []))
    (kx_87 : ∀ (ls : Array Slot) (H : Heap) (locs : List Loc), va_P g.1 classes (Sw shC g ad S9) H → va_D A (Sw shC g ad S9) → va_S A s.heap H locs → W p l e R s m args below meth c H locs cells slots Q (F0 m 87 ls [])) :
    ∀ k9 : Nat, (∀ (S : sS) (L : Nat → Int32) (M : Nat → Int64) (ls : Array Slot) (H : Heap) (locs : List Loc), f_Replacer_append k9 0 S L M = some (r, S9) → lv_has ls 6 [(0, .ref (ad 12)), (1, .int (L 1)), (2, .long (M 2)), (4, .int (L 4))] → va_P g.1 classes (Sw shC g ad S) H → va_D A (Sw shC g ad S) → va_S A s.heap H locs → W p l e R s m args below meth c H locs cells slots Q (F0 m 0 ls [])) ∧ (∀ (S : sS) (L : Nat → Int32) (M : Nat → Int64) (ls : Array Slot) (H : Heap) (locs : List Loc), f_Replacer_append k9 1 S L M = some (r, S9) → lv_has ls 6 [(0, .ref (ad 12)), (1, .int (L 1)), (2, .long (M 2)), (4, .int (L 4)), (5, .int (L 5))] → va_P g.1 classes (Sw shC g ad S) H → va_D A (Sw shC g ad S) → va_S A s.heap H locs → W p l e R s m args below meth c H locs cells slots Q (F0 m 69 ls [])) := by
  intro k9
  induction k9 with
  | zero => exact ⟨(fun _ _ _ _ _ _ h => by simp [f_Replacer_append] at h), (fun _ _ _ _ _ _ h => by simp [f_Replacer_append] at h)⟩
  | succ k9 ih =>
    refine ⟨?_, ?_⟩
    · intro S L M ls H locs h hl hP hD hS
      simp only [f_Replacer_append] at h
      refine lv_aload_n hx hb d_Replacer_append_0 rfl (lv_at hl 0 rfl) ?_
      refine S_getR (h := shC) (C := "MacroMill$Replacer") (T := F_Replacer) hx hb htt in_Replacer hown hK hP 12 0 rfl 9 rfl rfl (by decide) (htt _ k_826) (fun _ h9 => h9) d_Replacer_append_1 ?_
      refine lv_lload_n hx hb d_Replacer_append_4 rfl (lv_at hl 2 rfl) ?_
      refine lv_iload hx hb d_Replacer_append_5 (lv_at hl 3 rfl) ?_
      obtain ⟨⟨r1, T1⟩, hq1, h⟩ := Option.bind_eq_some_iff.mp h
      try dsimp only at h
      refine go_iS (As := [.ref (ad 9), .long (M 2), .int (L 4)]) (g := g) (A := A) (h := shC) hP hK hD hS hA hN (fun hp => va_runV (As := [.long (M 2), .int (L 4)]) (rest := []) ⟨hx, hb, hml, hown, htt⟩ (t_Tokens_add l g _ ad S (M 2 : Int64) (L 4 : Int32) k9 r1 T1 hq1) ⟨(cb_L htt k_1700 k_271 k_1850 hd_Tokens_add ⟨(Nat.le_trans (by decide +kernel) hRf), (Nat.le_trans (by decide +kernel) hRl)⟩), htt _ k_1698, htt _ k_1699⟩ ⟨hp.1, S_recv hK hP 9 rfl rfl, hp.2⟩ rfl rfl hl.1 rfl (lv_room (Nat.le_of_ble_eq_true rfl)) d_Replacer_append_7 ⟨hRc, hRs⟩) (fun r0 Sn H locs hw9 hP hD hS => ?_)
      obtain ⟨e9, e8⟩ := hw9
      rw [e8] at hP hD
      refine W.widen (k := cells) (n := slots) (Nat.le_refl _) (Nat.le_refl _) ?_
      refine toI (y := r1) e9 ?_
      refine lv_istore (lv' := [(5, .int r1), (0, .ref (ad 12)), (1, .int (L 1)), (2, .long (M 2)), (4, .int (L 4))]) hx hb d_Replacer_append_10 hl (by decide) rfl (fun ls hl => ?_)
      refine lv_iload hx hb d_Replacer_append_12 (lv_at hl 0 rfl) ?_
      refine lv_if_ge (tgt := 32) hx hb d_Replacer_append_14 (by decide) (fun hc2 => ?_) (fun hc2 => ?_)
      · rw [if_pos hc2] at h
        refine lv_aload_n hx hb d_Replacer_append_32 rfl (lv_at hl 1 rfl) ?_
        refine S_getR (h := shC) (C := "MacroMill$Replacer") (T := F_Replacer) hx hb htt in_Replacer hown hK hP 12 12 rfl 85 rfl rfl (by decide) (htt _ k_838) (fun _ h9 => h9) d_Replacer_append_33 ?_
        refine lv_iload_n hx hb d_Replacer_append_36 rfl (lv_at hl 2 rfl) ?_
        obtain ⟨hv3, h⟩ := chk h
        refine S_iald (h := shC) (i := L 1) hx hb hK hP 72 rfl (okI_in hv3) d_Replacer_append_37 ?_
        refine lv_iconst (v := (-1)) hx hb d_Replacer_append_38 (by decide) ?_
        refine lv_icmp_ne (tgt := 53) hx hb d_Replacer_append_39 (by decide) (fun hc4 => ?_) (fun hc4 => ?_)
        · rw [if_neg hc4] at h
          show W _ _ _ _ _ _ _ _ _ _ _ _ _ _ _ (F0 _ 53 _ _)
          refine lv_aload_n hx hb d_Replacer_append_53 rfl (lv_at hl 1 rfl) ?_
          refine S_getR (h := shC) (C := "MacroMill$Replacer") (T := F_Replacer) hx hb htt in_Replacer hown hK hP 12 0 rfl 9 rfl rfl (by decide) (htt _ k_826) (fun _ h9 => h9) d_Replacer_append_54 ?_
          refine S_getR (h := shC) (C := "MacroMill$Tokens") (T := F_Tokens) hx hb htt in_Tokens hown hK hP 9 7 rfl 54 rfl rfl (by decide) (htt _ k_655) (fun _ h9 => h9) d_Replacer_append_57 ?_
          refine lv_aload_n hx hb d_Replacer_append_60 rfl (lv_at hl 1 rfl) ?_
          refine S_getR (h := shC) (C := "MacroMill$Replacer") (T := F_Replacer) hx hb htt in_Replacer hown hK hP 12 12 rfl 85 rfl rfl (by decide) (htt _ k_838) (fun _ h9 => h9) d_Replacer_append_61 ?_
          refine lv_iload_n hx hb d_Replacer_append_64 rfl (lv_at hl 2 rfl) ?_
          obtain ⟨hv5, h⟩ := chk h
          refine S_iald (h := shC) (i := L 1) hx hb hK hP 72 rfl (okI_in hv5) d_Replacer_append_65 ?_
          refine lv_iload hx hb d_Replacer_append_66 (lv_at hl 0 rfl) ?_
          obtain ⟨hv6, h⟩ := chk h
          refine S_iast (h := shC) (i := T1.2.1 72 (L 1 : Int32).toNatClampNeg) (v := r1) hx hb hK hP hD hS 41 rfl (okI_in hv6) d_Replacer_append_68 (fun H locs hP hD hS => ?_)
          exact (ih.2) (putA T1 41 (T1.2.1 72 (L 1 : Int32).toNatClampNeg : Int32).toNatClampNeg r1) (upd L 5 r1) M ls H locs h (lv_sub hl [1, 2, 3, 4, 0] rfl) hP hD hS
        · rw [if_pos hc4] at h
          show W _ _ _ _ _ _ _ _ _ _ _ _ _ _ _ (F0 _ 42 _ _)
          refine lv_aload_n hx hb d_Replacer_append_42 rfl (lv_at hl 1 rfl) ?_
          refine S_getR (h := shC) (C := "MacroMill$Replacer") (T := F_Replacer) hx hb htt in_Replacer hown hK hP 12 11 rfl 84 rfl rfl (by decide) (htt _ k_837) (fun _ h9 => h9) d_Replacer_append_43 ?_
          refine lv_iload_n hx hb d_Replacer_append_46 rfl (lv_at hl 2 rfl) ?_
          refine lv_iload hx hb d_Replacer_append_47 (lv_at hl 0 rfl) ?_
          obtain ⟨hv7, h⟩ := chk h
          refine S_iast (h := shC) (i := L 1) (v := r1) hx hb hK hP hD hS 71 rfl (okI_in hv7) d_Replacer_append_49 (fun H locs hP hD hS => ?_)
          refine lv_goto (tgt := 69) hx hb d_Replacer_append_50 (by decide) ?_
          exact (ih.2) (putA T1 71 (L 1 : Int32).toNatClampNeg r1) (upd L 5 r1) M ls H locs h (lv_sub hl [1, 2, 3, 4, 0] rfl) hP hD hS
      · rw [if_neg hc2] at h
        refine lv_aload_n hx hb d_Replacer_append_17 rfl (lv_at hl 1 rfl) ?_
        refine S_getR (h := shC) (C := "MacroMill$Replacer") (T := F_Replacer) hx hb htt in_Replacer hown hK hP 12 3 rfl 2 rfl rfl (by decide) (htt _ k_829) (fun _ h9 => h9) d_Replacer_append_18 ?_
        refine lv_bipush (v := 21) hx hb d_Replacer_append_21 (by decide) ?_
        refine lv_iload hx hb d_Replacer_append_23 (lv_at hl 4 rfl) ?_
        obtain ⟨⟨r8, T8⟩, hq8, h⟩ := Option.bind_eq_some_iff.mp h
        try dsimp only at h
        refine go_iS (As := [.int (L 4)]) (g := g) (A := A) (h := shC) hP hK hD hS hA hN (fun hp => va_runS (As := [.int (L 4)]) (rest := [.int 21, .ref (ad 2)]) ⟨hx, hb, hml, hown, htt⟩ (t_Tokens_lineOf l g _ ad T1 (L 4 : Int32) k9 r8 T8 hq8) ⟨(cb_L htt k_1853 k_271 k_1851 hd_Tokens_lineOf ⟨(Nat.le_trans (by decide +kernel) hRf), (Nat.le_trans (by decide +kernel) hRl)⟩), htt _ k_1852⟩ hp rfl rfl hl.1 rfl (lv_room (Nat.le_of_ble_eq_true rfl)) d_Replacer_append_25 ⟨hRc, hRs⟩) (fun r0 Sn H locs hw9 hP hD hS => ?_)
        obtain ⟨e9, e8⟩ := hw9
        rw [e8] at hP hD
        refine W.widen (k := cells) (n := slots) (Nat.le_refl _) (Nat.le_refl _) ?_
        refine toI (y := r8) e9 ?_
        obtain ⟨⟨r9, T9⟩, hq9, h⟩ := Option.bind_eq_some_iff.mp h
        try dsimp only at h
        refine go_vS (As := [.ref (ad 2), .int 21, .int r8]) (g := g) (A := A) (h := shC) hP hK hD hS hA hN (fun hp => va_runV (As := [.int 21, .int r8]) (rest := []) ⟨hx, hb, hml, hown, htt⟩ (t_Outcome_fail l g _ ad T8 (21 : Int32) (r8 : Int32) k9 r9 T9 hq9) ⟨(cb_L htt k_1163 k_264 k_1777 hd_Outcome_fail ⟨(Nat.le_trans (by decide +kernel) hRf), (Nat.le_trans (by decide +kernel) hRl)⟩), htt _ k_1161, htt _ k_1162⟩ ⟨hp.1, S_recv hK hP 2 rfl rfl, hp.2⟩ rfl rfl hl.1 rfl (lv_room (Nat.le_of_ble_eq_true rfl)) d_Replacer_append_28 ⟨hRc, hRs⟩) (fun Sn H locs hw9 hP hD hS => ?_)
        have e8 := hw9
        rw [e8] at hP hD
        refine W.widen (k := cells) (n := slots) (Nat.le_refl _) (Nat.le_refl _) ?_
        cases h
        exact kx_31 ls H locs hP hD hS
    · intro S L M ls H locs h hl hP hD hS
      simp only [f_Replacer_append] at h
      refine lv_aload_n hx hb d_Replacer_append_69 rfl (lv_at hl 0 rfl) ?_
      refine S_getR (h := shC) (C := "MacroMill$Replacer") (T := F_Replacer) hx hb htt in_Replacer hown hK hP 12 12 rfl 85 rfl rfl (by decide) (htt _ k_838) (fun _ h9 => h9) d_Replacer_append_70 ?_
      refine lv_iload_n hx hb d_Replacer_append_73 rfl (lv_at hl 1 rfl) ?_
      refine lv_iload hx hb d_Replacer_append_74 (lv_at hl 4 rfl) ?_
      obtain ⟨hv1, h⟩ := chk h
      refine S_iast (h := shC) (i := L 1) (v := L 5) hx hb hK hP hD hS 72 rfl (okI_in hv1) d_Replacer_append_76 (fun H locs hP hD hS => ?_)
      refine lv_aload_n hx hb d_Replacer_append_77 rfl (lv_at hl 0 rfl) ?_
      refine S_getR (h := shC) (C := "MacroMill$Replacer") (T := F_Replacer) hx hb htt in_Replacer hown hK hP 12 13 rfl 86 rfl rfl (by decide) (htt _ k_839) (fun _ h9 => h9) d_Replacer_append_78 ?_
      refine lv_iload_n hx hb d_Replacer_append_81 rfl (lv_at hl 1 rfl) ?_
      refine lv_dup2_11 hx hb d_Replacer_append_82 rfl rfl ?_
      obtain ⟨hv2, h⟩ := chk h
      refine S_iald (h := shC) (i := L 1) hx hb hK hP 73 rfl (okI_in hv2) d_Replacer_append_83 ?_
      refine lv_iconst (v := 1) hx hb d_Replacer_append_84 (by decide) ?_
      show W _ _ _ _ _ _ _ _ _ _ _ _ _ _ _ (F0 _ 85 _ _)
      refine lv_iadd hx hb d_Replacer_append_85 ?_
      obtain ⟨hv3, h⟩ := chk h
      refine S_iast (h := shC) (i := L 1) (v := ((putA S 72 (L 1 : Int32).toNatClampNeg (L 5)).2.1 73 (L 1 : Int32).toNatClampNeg) + (1 : Int32)) hx hb hK hP hD hS 73 rfl (okI_in hv3) d_Replacer_append_86 (fun H locs hP hD hS => ?_)
      cases h
      exact kx_87 ls H locs hP hD hS
abbrev rm_t_Replacer_append : Room := { frames := 1, cells := 0, slots := 0, locals := 23 }
theorem t_Replacer_append (l : Launch) (g : gG) (sz : Nat) (ad : Nat → Nat) (S : sS) (v1 : Int32) (v2 : Int64) (v3 : Int32) (k : Nat) (r : Int32) (S9 : sS) (h : f_Replacer_append k 0 S (upd (upd (fun _ => 0) 1 v1) 4 v3) (vp_updL (fun _ => 0) 2 v2) = some (r, S9)) : Cv l y_Replacer_append b_Replacer_append 6 rm_t_Replacer_append g [.ref (ad 12), .int v1, .long v2, .int v3] (Sw shC g ad S) sz (fun w => ∃ S1 : sS, w = Sw shC g ad S1 ∧ S1 = S9) := by
  refine startV (by decide) (Nat.le_of_ble_eq_true rfl) ?_
  intro p e s m below meth c A ls hx hb hr hml hlocks hmn hown htt hN hA hP hK hD hS hl
  exact (w_Replacer_append hx hb hml hown htt hK hN hA (by decide +kernel) (by decide +kernel) (by decide +kernel) (by decide +kernel) r S9 (fun ls H locs hP hD hS => fin_v (g := g) (ws := Sw shC g ad S9) hx hb hr hlocks (by decide +kernel) (by decide +kernel) hP hD hS ⟨_, rfl, rfl⟩ d_Replacer_append_31) (fun ls H locs hP hD hS => fin_v (g := g) (ws := Sw shC g ad S9) hx hb hr hlocks (by decide +kernel) (by decide +kernel) hP hD hS ⟨_, rfl, rfl⟩ d_Replacer_append_87) k).1 S (upd (upd (fun _ => 0) 1 v1) 4 v3) (vp_updL (fun _ => 0) 2 v2) ls _ _ h hl hP hD hS
def f_Replacer_put : Nat → Nat → sS → (Nat → Int32) → (Nat → Int64) → Option (Int32 × sS)
  | 0, _, _, _, _ => none
  | k + 1, 0, S, L, M => if (S.1 2 8) < (40000 : Int32) then ((f_Tokens_moved k 0 (putI S 2 8 ((S.1 2 8) + (1 : Int32))) (upd (fun _ => 0) 0 (L 4 : Int32)) (fun _ => 0)).bind (fun (r2, T2) => (f_Replacer_append k 0 T2 (upd (upd (fun _ => 0) 1 (L 1 : Int32)) 4 (r2 : Int32)) (vp_updL (fun _ => 0) 2 (M 2 : Int64))).bind (fun (r3, T3) => some ((0 : Int32), T3)))) else ((f_Outcome_fail k 0 S (upd (upd (fun _ => 0) 1 (21 : Int32)) 2 (L 5 : Int32)) (fun _ => 0)).bind (fun (r4, T4) => some ((0 : Int32), T4)))
  | _ + 1, _ + 1, _, _, _ => none
set_option maxHeartbeats 8000000 in
set_option maxRecDepth 100000 in
theorem w_Replacer_put {p : Program} {l : Launch} {e : Env} {R : Room} {s : State} {m : MethodId} {args : Array Value} {below : List Frame} {meth : Method} {c : Code} {cells slots : Nat} {Q : State → Prop} {g : gG} {A : Nat → Prop} {ad : Nat → Nat} (hx : p.tables.exec = Jvm.exec) (hb : c.code = b_Replacer_put) (hml : c.maxLocals = 6) (hown : s.vm.findClass "MacroMill$Replacer" = some m.cls) (htt : ∀ w ∈ gt, w.before args s = true) (hK : va_K g.1 classes (tysG g) s) (hN : nw s) (hA : ∀ q : Nat, s.heap.size ≤ q → A q) (hRf : 2 ≤ R.frames) (hRl : 48 ≤ R.locals) (hRc : cells ≤ R.cells) (hRs : slots ≤ R.slots) (r : Int32) (S9 : sS)
    (kx_23 : ∀ (ls : Array Slot) (H : Heap) (locs : List Loc), va_P g.1 classes (Sw shC g ad S9) H → va_D A (Sw shC g ad S9) → va_S A s.heap H locs → W p l e R s m args below meth c H locs cells slots Q (F0 m 23 ls []))
    (kx_48 : ∀ (ls : Array Slot) (H : Heap) (locs : List Loc), va_P g.1 classes (Sw shC g ad S9) H → va_D A (Sw shC g ad S9) → va_S A s.heap H locs → W p l e R s m args below meth c H locs cells slots Q (F0 m 48 ls [])) :
    ∀ k9 : Nat, (∀ (S : sS) (L : Nat → Int32) (M : Nat → Int64) (ls : Array Slot) (H : Heap) (locs : List Loc), f_Replacer_put k9 0 S L M = some (r, S9) → lv_has ls 6 [(0, .ref (ad 12)), (1, .int (L 1)), (2, .long (M 2)), (4, .int (L 4)), (5, .int (L 5))] → va_P g.1 classes (Sw shC g ad S) H → va_D A (Sw shC g ad S) → va_S A s.heap H locs → W p l e R s m args below meth c H locs cells slots Q (F0 m 0 ls [])) := by
  intro k9
  induction k9 with
  | zero => exact (fun _ _ _ _ _ _ h => by simp [f_Replacer_put] at h)
  | succ k9 ih =>
    · intro S L M ls H locs h hl hP hD hS
      simp only [f_Replacer_put] at h
      refine lv_aload_n hx hb d_Replacer_put_0 rfl (lv_at hl 0 rfl) ?_
      refine S_getR (h := shC) (C := "MacroMill$Replacer") (T := F_Replacer) hx hb htt in_Replacer hown hK hP 12 3 rfl 2 rfl rfl (by decide) (htt _ k_829) (fun _ h9 => h9) d_Replacer_put_1 ?_
      refine S_getI (h := shC) (C := "MacroMill$Outcome") (T := F_Outcome) hx hb htt in_Outcome hown hK hP 2 8 rfl rfl rfl (by decide) (htt _ k_360) (fun _ h9 => h9) d_Replacer_put_4 ?_
      refine lv_ldc (v := 40000) hx hb hown (htt _ k_1842) d_Replacer_put_7 ?_
      refine lv_icmp_lt (tgt := 24) hx hb d_Replacer_put_9 (by decide) (fun hc1 => ?_) (fun hc1 => ?_)
      · rw [if_pos hc1] at h
        refine lv_aload_n hx hb d_Replacer_put_24 rfl (lv_at hl 0 rfl) ?_
        refine S_getR (h := shC) (C := "MacroMill$Replacer") (T := F_Replacer) hx hb htt in_Replacer hown hK hP 12 3 rfl 2 rfl rfl (by decide) (htt _ k_829) (fun _ h9 => h9) d_Replacer_put_25 ?_
        refine lv_dup hx hb d_Replacer_put_28 rfl ?_
        refine S_getI (h := shC) (C := "MacroMill$Outcome") (T := F_Outcome) hx hb htt in_Outcome hown hK hP 2 8 rfl rfl rfl (by decide) (htt _ k_360) (fun _ h9 => h9) d_Replacer_put_29 ?_
        refine lv_iconst (v := 1) hx hb d_Replacer_put_32 (by decide) ?_
        refine lv_iadd hx hb d_Replacer_put_33 ?_
        refine S_put (h := shC) (C := "MacroMill$Outcome") (T := F_Outcome) (v := (S.1 2 8) + (1 : Int32)) hx hb htt in_Outcome t_Outcome t_Outcome_ok n_Outcome hown hK hP hD hS 2 8 rfl rfl rfl (by decide) (htt _ k_360) (fun _ h9 => h9) rfl rfl rfl d_Replacer_put_34 (fun H locs hP hD hS => ?_)
        show W _ _ _ _ _ _ _ _ _ _ _ _ _ _ _ (F0 _ 37 _ _)
        refine lv_aload_n hx hb d_Replacer_put_37 rfl (lv_at hl 0 rfl) ?_
        refine lv_iload_n hx hb d_Replacer_put_38 rfl (lv_at hl 1 rfl) ?_
        refine lv_lload_n hx hb d_Replacer_put_39 rfl (lv_at hl 2 rfl) ?_
        refine lv_iload hx hb d_Replacer_put_40 (lv_at hl 3 rfl) ?_
        obtain ⟨⟨r2, T2⟩, hq2, h⟩ := Option.bind_eq_some_iff.mp h
        try dsimp only at h
        refine go_iS (As := [.int (L 4)]) (g := g) (A := A) (h := shC) hP hK hD hS hA hN (fun hp => va_runS (As := [.int (L 4)]) (rest := [.long (M 2), .int (L 1), .ref (ad 12)]) ⟨hx, hb, hml, hown, htt⟩ (t_Tokens_moved l g _ ad (putI S 2 8 ((S.1 2 8) + (1 : Int32))) (L 4 : Int32) k9 r2 T2 hq2) ⟨(cb_L htt k_1845 k_271 k_1843 hd_Tokens_moved ⟨(Nat.le_trans (by decide +kernel) hRf), (Nat.le_trans (by decide +kernel) hRl)⟩), htt _ k_1844⟩ hp rfl rfl hl.1 rfl (lv_room (Nat.le_of_ble_eq_true rfl)) d_Replacer_put_42 ⟨hRc, hRs⟩) (fun r0 Sn H locs hw9 hP hD hS => ?_)
        obtain ⟨e9, e8⟩ := hw9
        rw [e8] at hP hD
        refine W.widen (k := cells) (n := slots) (Nat.le_refl _) (Nat.le_refl _) ?_
        refine toI (y := r2) e9 ?_
        obtain ⟨⟨r3, T3⟩, hq3, h⟩ := Option.bind_eq_some_iff.mp h
        try dsimp only at h
        refine go_vS (As := [.ref (ad 12), .int (L 1), .long (M 2), .int r2]) (g := g) (A := A) (h := shC) hP hK hD hS hA hN (fun hp => va_runV (As := [.int (L 1), .long (M 2), .int r2]) (rest := []) ⟨hx, hb, hml, hown, htt⟩ (t_Replacer_append l g _ ad T2 (L 1 : Int32) (M 2 : Int64) (r2 : Int32) k9 r3 T3 hq3) ⟨(cb_L htt k_1849 k_274 k_1846 hd_Replacer_append ⟨(Nat.le_trans (by decide +kernel) hRf), (Nat.le_trans (by decide +kernel) hRl)⟩), htt _ k_1848, htt _ k_75⟩ ⟨hp.1, S_recv hK hP 12 rfl rfl, hp.2⟩ rfl rfl hl.1 rfl (lv_room (Nat.le_of_ble_eq_true rfl)) d_Replacer_put_45 ⟨hRc, hRs⟩) (fun Sn H locs hw9 hP hD hS => ?_)
        have e8 := hw9
        rw [e8] at hP hD
        refine W.widen (k := cells) (n := slots) (Nat.le_refl _) (Nat.le_refl _) ?_
        cases h
        exact kx_48 ls H locs hP hD hS
      · rw [if_neg hc1] at h
        refine lv_aload_n hx hb d_Replacer_put_12 rfl (lv_at hl 0 rfl) ?_
        refine S_getR (h := shC) (C := "MacroMill$Replacer") (T := F_Replacer) hx hb htt in_Replacer hown hK hP 12 3 rfl 2 rfl rfl (by decide) (htt _ k_829) (fun _ h9 => h9) d_Replacer_put_13 ?_
        refine lv_bipush (v := 21) hx hb d_Replacer_put_16 (by decide) ?_
        refine lv_iload hx hb d_Replacer_put_18 (lv_at hl 4 rfl) ?_
        obtain ⟨⟨r4, T4⟩, hq4, h⟩ := Option.bind_eq_some_iff.mp h
        try dsimp only at h
        refine go_vS (As := [.ref (ad 2), .int 21, .int (L 5)]) (g := g) (A := A) (h := shC) hP hK hD hS hA hN (fun hp => va_runV (As := [.int 21, .int (L 5)]) (rest := []) ⟨hx, hb, hml, hown, htt⟩ (t_Outcome_fail l g _ ad S (21 : Int32) (L 5 : Int32) k9 r4 T4 hq4) ⟨(cb_L htt k_1163 k_264 k_1777 hd_Outcome_fail ⟨(Nat.le_trans (by decide +kernel) hRf), (Nat.le_trans (by decide +kernel) hRl)⟩), htt _ k_1161, htt _ k_1162⟩ ⟨hp.1, S_recv hK hP 2 rfl rfl, hp.2⟩ rfl rfl hl.1 rfl (lv_room (Nat.le_of_ble_eq_true rfl)) d_Replacer_put_20 ⟨hRc, hRs⟩) (fun Sn H locs hw9 hP hD hS => ?_)
        have e8 := hw9
        rw [e8] at hP hD
        refine W.widen (k := cells) (n := slots) (Nat.le_refl _) (Nat.le_refl _) ?_
        cases h
        exact kx_23 ls H locs hP hD hS
abbrev rm_t_Replacer_put : Room := { frames := 2, cells := 0, slots := 0, locals := 48 }
theorem t_Replacer_put (l : Launch) (g : gG) (sz : Nat) (ad : Nat → Nat) (S : sS) (v1 : Int32) (v2 : Int64) (v3 : Int32) (v4 : Int32) (k : Nat) (r : Int32) (S9 : sS) (h : f_Replacer_put k 0 S (upd (upd (upd (fun _ => 0) 1 v1) 4 v3) 5 v4) (vp_updL (fun _ => 0) 2 v2) = some (r, S9)) : Cv l y_Replacer_put b_Replacer_put 6 rm_t_Replacer_put g [.ref (ad 12), .int v1, .long v2, .int v3, .int v4] (Sw shC g ad S) sz (fun w => ∃ S1 : sS, w = Sw shC g ad S1 ∧ S1 = S9) := by
  refine startV (by decide) (Nat.le_of_ble_eq_true rfl) ?_
  intro p e s m below meth c A ls hx hb hr hml hlocks hmn hown htt hN hA hP hK hD hS hl
  exact (w_Replacer_put hx hb hml hown htt hK hN hA (by decide +kernel) (by decide +kernel) (by decide +kernel) (by decide +kernel) r S9 (fun ls H locs hP hD hS => fin_v (g := g) (ws := Sw shC g ad S9) hx hb hr hlocks (by decide +kernel) (by decide +kernel) hP hD hS ⟨_, rfl, rfl⟩ d_Replacer_put_23) (fun ls H locs hP hD hS => fin_v (g := g) (ws := Sw shC g ad S9) hx hb hr hlocks (by decide +kernel) (by decide +kernel) hP hD hS ⟨_, rfl, rfl⟩ d_Replacer_put_48) k) S (upd (upd (upd (fun _ => 0) 1 v1) 4 v3) 5 v4) (vp_updL (fun _ => 0) 2 v2) ls _ _ h hl hP hD hS
def f_Replacer_parameterAt : Nat → Nat → sS → (Nat → Int32) → (Nat → Int64) → Option (Int32 × sS)
  | 0, _, _, _, _ => none
  | k + 1, 0, S, L, M => if (L 2) ≤ (L 1) then (f_Replacer_parameterAt k 1 S (upd L 100 ((-1) : Int32)) M) else (if okI (L 1) 8000 = true then ((f_Tokens_setOf k 0 S (upd (fun _ => 0) 0 (S.2.1 50 (L 1 : Int32).toNatClampNeg : Int32)) (fun _ => 0)).bind (fun (r3, T3) => f_Replacer_parameterAt k 1 T3 (upd L 100 (r3 - (1 : Int32))) M)) else none)
  | k + 1, 1, S, L, M => some (L 100, S)
  | _ + 1, _ + 2, _, _, _ => none
set_option maxHeartbeats 8000000 in
set_option maxRecDepth 100000 in
theorem w_Replacer_parameterAt {p : Program} {l : Launch} {e : Env} {R : Room} {s : State} {m : MethodId} {args : Array Value} {below : List Frame} {meth : Method} {c : Code} {cells slots : Nat} {Q : State → Prop} {g : gG} {A : Nat → Prop} {ad : Nat → Nat} (hx : p.tables.exec = Jvm.exec) (hb : c.code = b_Replacer_parameterAt) (hml : c.maxLocals = 3) (hown : s.vm.findClass "MacroMill$Replacer" = some m.cls) (htt : ∀ w ∈ gt, w.before args s = true) (hK : va_K g.1 classes (tysG g) s) (hN : nw s) (hA : ∀ q : Nat, s.heap.size ≤ q → A q) (hRf : 1 ≤ R.frames) (hRl : 20 ≤ R.locals) (hRc : cells ≤ R.cells) (hRs : slots ≤ R.slots) (r : Int32) (S9 : sS)
    (kx_23 : ∀ (ls : Array Slot) (H : Heap) (locs : List Loc), va_P g.1 classes (Sw shC g ad S9) H → va_D A (Sw shC g ad S9) → va_S A s.heap H locs → W p l e R s m args below meth c H locs cells slots Q (F0 m 23 ls [.int r])) :
    ∀ k9 : Nat, (∀ (S : sS) (L : Nat → Int32) (M : Nat → Int64) (ls : Array Slot) (H : Heap) (locs : List Loc), f_Replacer_parameterAt k9 0 S L M = some (r, S9) → lv_has ls 3 [(0, .ref (ad 12)), (1, .int (L 1)), (2, .int (L 2))] → va_P g.1 classes (Sw shC g ad S) H → va_D A (Sw shC g ad S) → va_S A s.heap H locs → W p l e R s m args below meth c H locs cells slots Q (F0 m 0 ls [])) ∧ (∀ (S : sS) (L : Nat → Int32) (M : Nat → Int64) (ls : Array Slot) (H : Heap) (locs : List Loc), f_Replacer_parameterAt k9 1 S L M = some (r, S9) → lv_has ls 3 [(0, .ref (ad 12)), (1, .int (L 1)), (2, .int (L 2))] → va_P g.1 classes (Sw shC g ad S) H → va_D A (Sw shC g ad S) → va_S A s.heap H locs → W p l e R s m args below meth c H locs cells slots Q (F0 m 23 ls [.int (L 100)])) := by
  intro k9
  induction k9 with
  | zero => exact ⟨(fun _ _ _ _ _ _ h => by simp [f_Replacer_parameterAt] at h), (fun _ _ _ _ _ _ h => by simp [f_Replacer_parameterAt] at h)⟩
  | succ k9 ih =>
    refine ⟨?_, ?_⟩
    · intro S L M ls H locs h hl hP hD hS
      simp only [f_Replacer_parameterAt] at h
      refine lv_iload_n hx hb d_Replacer_parameterAt_0 rfl (lv_at hl 1 rfl) ?_
      refine lv_iload_n hx hb d_Replacer_parameterAt_1 rfl (lv_at hl 2 rfl) ?_
      refine lv_icmp_ge (tgt := 22) hx hb d_Replacer_parameterAt_2 (by decide) (fun hc1 => ?_) (fun hc1 => ?_)
      · rw [if_pos hc1] at h
        refine lv_iconst (v := (-1)) hx hb d_Replacer_parameterAt_22 (by decide) ?_
        exact (ih.2) S (upd L 100 ((-1) : Int32)) M ls H locs h (lv_sub hl [0, 1, 2] rfl) hP hD hS
      · rw [if_neg hc1] at h
        refine lv_aload_n hx hb d_Replacer_parameterAt_5 rfl (lv_at hl 0 rfl) ?_
        refine S_getR (h := shC) (C := "MacroMill$Replacer") (T := F_Replacer) hx hb htt in_Replacer hown hK hP 12 1 rfl 10 rfl rfl (by decide) (htt _ k_827) (fun _ h9 => h9) d_Replacer_parameterAt_6 ?_
        refine S_getR (h := shC) (C := "MacroMill$Macros") (T := F_Macros) hx hb htt in_Macros hown hK hP 10 11 rfl 63 rfl rfl (by decide) (htt _ k_706) (fun _ h9 => h9) d_Replacer_parameterAt_9 ?_
        refine lv_iload_n hx hb d_Replacer_parameterAt_12 rfl (lv_at hl 1 rfl) ?_
        obtain ⟨hv2, h⟩ := chk h
        refine S_iald (h := shC) (i := L 1) hx hb hK hP 50 rfl (okI_in hv2) d_Replacer_parameterAt_13 ?_
        obtain ⟨⟨r3, T3⟩, hq3, h⟩ := Option.bind_eq_some_iff.mp h
        try dsimp only at h
        refine go_iS (As := [.int (S.2.1 50 (L 1 : Int32).toNatClampNeg)]) (g := g) (A := A) (h := shC) hP hK hD hS hA hN (fun hp => va_runS (As := [.int (S.2.1 50 (L 1 : Int32).toNatClampNeg)]) (rest := []) ⟨hx, hb, hml, hown, htt⟩ (t_Tokens_setOf l g _ ad S (S.2.1 50 (L 1 : Int32).toNatClampNeg : Int32) k9 r3 T3 hq3) ⟨(cb_L htt k_1754 k_271 k_1752 hd_Tokens_setOf ⟨(Nat.le_trans (by decide +kernel) hRf), (Nat.le_trans (by decide +kernel) hRl)⟩), htt _ k_1753⟩ hp rfl rfl hl.1 rfl (lv_room (Nat.le_of_ble_eq_true rfl)) d_Replacer_parameterAt_14 ⟨hRc, hRs⟩) (fun r0 Sn H locs hw9 hP hD hS => ?_)
        obtain ⟨e9, e8⟩ := hw9
        rw [e8] at hP hD
        refine W.widen (k := cells) (n := slots) (Nat.le_refl _) (Nat.le_refl _) ?_
        refine toI (y := r3) e9 ?_
        refine lv_iconst (v := 1) hx hb d_Replacer_parameterAt_17 (by decide) ?_
        refine lv_isub hx hb d_Replacer_parameterAt_18 ?_
        refine lv_goto (tgt := 23) hx hb d_Replacer_parameterAt_19 (by decide) ?_
        exact (ih.2) T3 (upd L 100 (r3 - (1 : Int32))) M ls H locs h (lv_sub hl [0, 1, 2] rfl) hP hD hS
    · intro S L M ls H locs h hl hP hD hS
      simp only [f_Replacer_parameterAt] at h
      cases h
      exact kx_23 ls H locs hP hD hS
abbrev rm_t_Replacer_parameterAt : Room := { frames := 1, cells := 0, slots := 0, locals := 20 }
theorem t_Replacer_parameterAt (l : Launch) (g : gG) (sz : Nat) (ad : Nat → Nat) (S : sS) (v1 : Int32) (v2 : Int32) (k : Nat) (r : Int32) (S9 : sS) (h : f_Replacer_parameterAt k 0 S (upd (upd (fun _ => 0) 1 v1) 2 v2) (fun _ => 0) = some (r, S9)) : Ci l y_Replacer_parameterAt b_Replacer_parameterAt 3 rm_t_Replacer_parameterAt g [.ref (ad 12), .int v1, .int v2] (Sw shC g ad S) sz (fun r1 w => ∃ S1 : sS, w = Sw shC g ad S1 ∧ r1 = r ∧ S1 = S9) := by
  refine startI (by decide) (Nat.le_of_ble_eq_true rfl) ?_
  intro p e s m below meth c A ls hx hb hr hml hlocks hmn hown htt hN hA hP hK hD hS hl
  exact (w_Replacer_parameterAt hx hb hml hown htt hK hN hA (by decide +kernel) (by decide +kernel) (by decide +kernel) (by decide +kernel) r S9 (fun ls H locs hP hD hS => fin_i (g := g) (ws := Sw shC g ad S9) hx hb hr hlocks (by decide +kernel) (by decide +kernel) hP hD hS ⟨_, rfl, rfl, rfl⟩ d_Replacer_parameterAt_23) k).1 S (upd (upd (fun _ => 0) 1 v1) 2 v2) (fun _ => 0) ls _ _ h hl hP hD hS
def f_Replacer_isHash : Nat → Nat → sS → (Nat → Int32) → (Nat → Int64) → Option (Int32 × sS)
  | 0, _, _, _, _ => none
  | k + 1, 0, S, L, M => if okI (L 1) 8000 = true then ((f_Tokens_lengthOf k 0 S (fun _ => 0) (vp_updL (fun _ => 0) 0 (S.2.2 49 (L 1 : Int32).toNatClampNeg : Int64))).bind (fun (r2, T2) => if r2 = (1 : Int32) then (if okI (L 1) 8000 = true then ((f_Tokens_fromOf k 0 T2 (fun _ => 0) (vp_updL (fun _ => 0) 0 (T2.2.2 49 (L 1 : Int32).toNatClampNeg : Int64))).bind (fun (r5, T5) => if okI (r5) 125538 = true then (if (T5.2.1 37 (r5 : Int32).toNatClampNeg) = (35 : Int32) then (f_Replacer_isHash k 2 T5 (upd L 100 (1 : Int32)) M) else (f_Replacer_isHash k 1 T5 L M)) else none)) else none) else (f_Replacer_isHash k 1 T2 L M))) else none
  | k + 1, 1, S, L, M => f_Replacer_isHash k 2 S (upd L 100 (0 : Int32)) M
  | k + 1, 2, S, L, M => if bz (L 100) = true then some (L 100, S) else none
  | _ + 1, _ + 3, _, _, _ => none
set_option maxHeartbeats 8000000 in
set_option maxRecDepth 100000 in
theorem w_Replacer_isHash {p : Program} {l : Launch} {e : Env} {R : Room} {s : State} {m : MethodId} {args : Array Value} {below : List Frame} {meth : Method} {c : Code} {cells slots : Nat} {Q : State → Prop} {g : gG} {A : Nat → Prop} {ad : Nat → Nat} (hx : p.tables.exec = Jvm.exec) (hb : c.code = b_Replacer_isHash) (hml : c.maxLocals = 2) (hown : s.vm.findClass "MacroMill$Replacer" = some m.cls) (htt : ∀ w ∈ gt, w.before args s = true) (hK : va_K g.1 classes (tysG g) s) (hN : nw s) (hA : ∀ q : Nat, s.heap.size ≤ q → A q) (hRf : 1 ≤ R.frames) (hRl : 21 ≤ R.locals) (hRc : cells ≤ R.cells) (hRs : slots ≤ R.slots) (r : Int32) (S9 : sS)
    (kx_46 : ∀ (ls : Array Slot) (H : Heap) (locs : List Loc), narrow .boolean (.int r) = .int r → va_P g.1 classes (Sw shC g ad S9) H → va_D A (Sw shC g ad S9) → va_S A s.heap H locs → W p l e R s m args below meth c H locs cells slots Q (F0 m 46 ls [.int r])) :
    ∀ k9 : Nat, (∀ (S : sS) (L : Nat → Int32) (M : Nat → Int64) (ls : Array Slot) (H : Heap) (locs : List Loc), f_Replacer_isHash k9 0 S L M = some (r, S9) → lv_has ls 2 [(0, .ref (ad 12)), (1, .int (L 1))] → va_P g.1 classes (Sw shC g ad S) H → va_D A (Sw shC g ad S) → va_S A s.heap H locs → W p l e R s m args below meth c H locs cells slots Q (F0 m 0 ls [])) ∧ (∀ (S : sS) (L : Nat → Int32) (M : Nat → Int64) (ls : Array Slot) (H : Heap) (locs : List Loc), f_Replacer_isHash k9 1 S L M = some (r, S9) → lv_has ls 2 [(0, .ref (ad 12)), (1, .int (L 1))] → va_P g.1 classes (Sw shC g ad S) H → va_D A (Sw shC g ad S) → va_S A s.heap H locs → W p l e R s m args below meth c H locs cells slots Q (F0 m 45 ls [])) ∧ (∀ (S : sS) (L : Nat → Int32) (M : Nat → Int64) (ls : Array Slot) (H : Heap) (locs : List Loc), f_Replacer_isHash k9 2 S L M = some (r, S9) → lv_has ls 2 [(0, .ref (ad 12)), (1, .int (L 1))] → va_P g.1 classes (Sw shC g ad S) H → va_D A (Sw shC g ad S) → va_S A s.heap H locs → W p l e R s m args below meth c H locs cells slots Q (F0 m 46 ls [.int (L 100)])) := by
  intro k9
  induction k9 with
  | zero => exact ⟨(fun _ _ _ _ _ _ h => by simp [f_Replacer_isHash] at h), (fun _ _ _ _ _ _ h => by simp [f_Replacer_isHash] at h), (fun _ _ _ _ _ _ h => by simp [f_Replacer_isHash] at h)⟩
  | succ k9 ih =>
    refine ⟨?_, ?_, ?_⟩
    · intro S L M ls H locs h hl hP hD hS
      simp only [f_Replacer_isHash] at h
      refine lv_aload_n hx hb d_Replacer_isHash_0 rfl (lv_at hl 0 rfl) ?_
      refine S_getR (h := shC) (C := "MacroMill$Replacer") (T := F_Replacer) hx hb htt in_Replacer hown hK hP 12 1 rfl 10 rfl rfl (by decide) (htt _ k_827) (fun _ h9 => h9) d_Replacer_isHash_1 ?_
      refine S_getR (h := shC) (C := "MacroMill$Macros") (T := F_Macros) hx hb htt in_Macros hown hK hP 10 10 rfl 62 rfl rfl (by decide) (htt _ k_704) (fun _ h9 => h9) d_Replacer_isHash_4 ?_
      refine lv_iload_n hx hb d_Replacer_isHash_7 rfl (lv_at hl 1 rfl) ?_
      obtain ⟨hv1, h⟩ := chk h
      refine S_lald (h := shC) (i := L 1) hx hb hK hP 49 rfl (okI_in hv1) d_Replacer_isHash_8 ?_
      obtain ⟨⟨r2, T2⟩, hq2, h⟩ := Option.bind_eq_some_iff.mp h
      try dsimp only at h
      refine go_iS (As := [.long (S.2.2 49 (L 1 : Int32).toNatClampNeg)]) (g := g) (A := A) (h := shC) hP hK hD hS hA hN (fun hp => va_runS (As := [.long (S.2.2 49 (L 1 : Int32).toNatClampNeg)]) (rest := []) ⟨hx, hb, hml, hown, htt⟩ (t_Tokens_lengthOf l g _ ad S (S.2.2 49 (L 1 : Int32).toNatClampNeg : Int64) k9 r2 T2 hq2) ⟨(cb_L htt k_1746 k_271 k_1799 hd_Tokens_lengthOf ⟨(Nat.le_trans (by decide +kernel) hRf), (Nat.le_trans (by decide +kernel) hRl)⟩), htt _ k_1745⟩ hp rfl rfl hl.1 rfl (lv_room (Nat.le_of_ble_eq_true rfl)) d_Replacer_isHash_9 ⟨hRc, hRs⟩) (fun r0 Sn H locs hw9 hP hD hS => ?_)
      obtain ⟨e9, e8⟩ := hw9
      rw [e8] at hP hD
      refine W.widen (k := cells) (n := slots) (Nat.le_refl _) (Nat.le_refl _) ?_
      refine toI (y := r2) e9 ?_
      refine lv_iconst (v := 1) hx hb d_Replacer_isHash_12 (by decide) ?_
      refine lv_icmp_ne (tgt := 45) hx hb d_Replacer_isHash_13 (by decide) (fun hc3 => ?_) (fun hc3 => ?_)
      · rw [if_neg hc3] at h
        exact (ih.2.1) T2 L M ls H locs h (lv_sub hl [0, 1] rfl) hP hD hS
      · rw [if_pos hc3] at h
        refine lv_aload_n hx hb d_Replacer_isHash_16 rfl (lv_at hl 0 rfl) ?_
        refine S_getR (h := shC) (C := "MacroMill$Replacer") (T := F_Replacer) hx hb htt in_Replacer hown hK hP 12 0 rfl 9 rfl rfl (by decide) (htt _ k_826) (fun _ h9 => h9) d_Replacer_isHash_17 ?_
        refine S_getR (h := shC) (C := "MacroMill$Tokens") (T := F_Tokens) hx hb htt in_Tokens hown hK hP 9 0 rfl 50 rfl rfl (by decide) (htt _ k_635) (fun _ h9 => h9) d_Replacer_isHash_20 ?_
        refine lv_aload_n hx hb d_Replacer_isHash_23 rfl (lv_at hl 0 rfl) ?_
        refine S_getR (h := shC) (C := "MacroMill$Replacer") (T := F_Replacer) hx hb htt in_Replacer hown hK hP 12 1 rfl 10 rfl rfl (by decide) (htt _ k_827) (fun _ h9 => h9) d_Replacer_isHash_24 ?_
        show W _ _ _ _ _ _ _ _ _ _ _ _ _ _ _ (F0 _ 27 _ _)
        refine S_getR (h := shC) (C := "MacroMill$Macros") (T := F_Macros) hx hb htt in_Macros hown hK hP 10 10 rfl 62 rfl rfl (by decide) (htt _ k_704) (fun _ h9 => h9) d_Replacer_isHash_27 ?_
        refine lv_iload_n hx hb d_Replacer_isHash_30 rfl (lv_at hl 1 rfl) ?_
        obtain ⟨hv4, h⟩ := chk h
        refine S_lald (h := shC) (i := L 1) hx hb hK hP 49 rfl (okI_in hv4) d_Replacer_isHash_31 ?_
        obtain ⟨⟨r5, T5⟩, hq5, h⟩ := Option.bind_eq_some_iff.mp h
        try dsimp only at h
        refine go_iS (As := [.long (T2.2.2 49 (L 1 : Int32).toNatClampNeg)]) (g := g) (A := A) (h := shC) hP hK hD hS hA hN (fun hp => va_runS (As := [.long (T2.2.2 49 (L 1 : Int32).toNatClampNeg)]) (rest := [.ref (ad 50)]) ⟨hx, hb, hml, hown, htt⟩ (t_Tokens_fromOf l g _ ad T2 (T2.2.2 49 (L 1 : Int32).toNatClampNeg : Int64) k9 r5 T5 hq5) ⟨(cb_L htt k_1743 k_271 k_1800 hd_Tokens_fromOf ⟨(Nat.le_trans (by decide +kernel) hRf), (Nat.le_trans (by decide +kernel) hRl)⟩), htt _ k_1742⟩ hp rfl rfl hl.1 rfl (lv_room (Nat.le_of_ble_eq_true rfl)) d_Replacer_isHash_32 ⟨hRc, hRs⟩) (fun r0 Sn H locs hw9 hP hD hS => ?_)
        obtain ⟨e9, e8⟩ := hw9
        rw [e8] at hP hD
        refine W.widen (k := cells) (n := slots) (Nat.le_refl _) (Nat.le_refl _) ?_
        refine toI (y := r5) e9 ?_
        obtain ⟨hv6, h⟩ := chk h
        refine S_bald (h := shC) (i := r5) hx hb hK hP 37 rfl (okI_in hv6) d_Replacer_isHash_35 ?_
        refine lv_bipush (v := 35) hx hb d_Replacer_isHash_36 (by decide) ?_
        refine lv_icmp_ne (tgt := 45) hx hb d_Replacer_isHash_38 (by decide) (fun hc7 => ?_) (fun hc7 => ?_)
        · rw [if_neg hc7] at h
          exact (ih.2.1) T5 L M ls H locs h (lv_sub hl [0, 1] rfl) hP hD hS
        · rw [if_pos hc7] at h
          refine lv_iconst (v := 1) hx hb d_Replacer_isHash_41 (by decide) ?_
          refine lv_goto (tgt := 46) hx hb d_Replacer_isHash_42 (by decide) ?_
          exact (ih.2.2) T5 (upd L 100 (1 : Int32)) M ls H locs h (lv_sub hl [0, 1] rfl) hP hD hS
    · intro S L M ls H locs h hl hP hD hS
      simp only [f_Replacer_isHash] at h
      refine lv_iconst (v := 0) hx hb d_Replacer_isHash_45 (by decide) ?_
      exact (ih.2.2) S (upd L 100 (0 : Int32)) M ls H locs h (lv_sub hl [0, 1] rfl) hP hD hS
    · intro S L M ls H locs h hl hP hD hS
      simp only [f_Replacer_isHash] at h
      obtain ⟨hv1, h⟩ := chk h
      cases h
      exact kx_46 ls H locs (bz_n hv1) hP hD hS
abbrev rm_t_Replacer_isHash : Room := { frames := 1, cells := 0, slots := 0, locals := 21 }
theorem t_Replacer_isHash (l : Launch) (g : gG) (sz : Nat) (ad : Nat → Nat) (S : sS) (v1 : Int32) (k : Nat) (r : Int32) (S9 : sS) (h : f_Replacer_isHash k 0 S (upd (fun _ => 0) 1 v1) (fun _ => 0) = some (r, S9)) : Cz l y_Replacer_isHash b_Replacer_isHash 2 rm_t_Replacer_isHash g [.ref (ad 12), .int v1] (Sw shC g ad S) sz (fun r1 w => ∃ S1 : sS, w = Sw shC g ad S1 ∧ r1 = r ∧ S1 = S9) := by
  refine startZ (by decide) (Nat.le_of_ble_eq_true rfl) ?_
  intro p e s m below meth c A ls hx hb hr hml hlocks hmn hown htt hN hA hP hK hD hS hl
  exact (w_Replacer_isHash hx hb hml hown htt hK hN hA (by decide +kernel) (by decide +kernel) (by decide +kernel) (by decide +kernel) r S9 (fun ls H locs hz hP hD hS => fin_z (g := g) (ws := Sw shC g ad S9) hx hb hr hlocks hz (by decide +kernel) (by decide +kernel) hP hD hS ⟨_, rfl, rfl, rfl⟩ d_Replacer_isHash_46) k).1 S (upd (fun _ => 0) 1 v1) (fun _ => 0) ls _ _ h hl hP hD hS
def f_Replacer_isPasting : Nat → Nat → sS → (Nat → Int32) → (Nat → Int64) → Option (Int32 × sS)
  | 0, _, _, _, _ => none
  | k + 1, 0, S, L, M => if (L 2) ≤ ((L 1) + (1 : Int32)) then (f_Replacer_isPasting k 1 S L M) else (if okI (L 1) 8000 = true then ((f_Tokens_lengthOf k 0 S (fun _ => 0) (vp_updL (fun _ => 0) 0 (S.2.2 49 (L 1 : Int32).toNatClampNeg : Int64))).bind (fun (r3, T3) => if r3 = (2 : Int32) then (if okI (L 1) 8000 = true then ((f_Tokens_fromOf k 0 T3 (fun _ => 0) (vp_updL (fun _ => 0) 0 (T3.2.2 49 (L 1 : Int32).toNatClampNeg : Int64))).bind (fun (r6, T6) => if okI (r6) 125538 = true then (if (T6.2.1 37 (r6 : Int32).toNatClampNeg) = (35 : Int32) then (if okI (r6 + (1 : Int32)) 125538 = true then (if (T6.2.1 37 (r6 + (1 : Int32) : Int32).toNatClampNeg) = (35 : Int32) then (f_Replacer_isPasting k 3 T6 (upd (upd L 3 r6) 100 (1 : Int32)) M) else (f_Replacer_isPasting k 2 T6 (upd L 3 r6) M)) else none) else (f_Replacer_isPasting k 2 T6 (upd L 3 r6) M)) else none)) else none) else (f_Replacer_isPasting k 1 T3 L M))) else none)
  | k + 1, 1, S, L, M => some ((0 : Int32), S)
  | k + 1, 2, S, L, M => f_Replacer_isPasting k 3 S (upd L 100 (0 : Int32)) M
  | k + 1, 3, S, L, M => if bz (L 100) = true then some (L 100, S) else none
  | _ + 1, _ + 4, _, _, _ => none
set_option maxHeartbeats 8000000 in
set_option maxRecDepth 100000 in
theorem w_Replacer_isPasting {p : Program} {l : Launch} {e : Env} {R : Room} {s : State} {m : MethodId} {args : Array Value} {below : List Frame} {meth : Method} {c : Code} {cells slots : Nat} {Q : State → Prop} {g : gG} {A : Nat → Prop} {ad : Nat → Nat} (hx : p.tables.exec = Jvm.exec) (hb : c.code = b_Replacer_isPasting) (hml : c.maxLocals = 4) (hown : s.vm.findClass "MacroMill$Replacer" = some m.cls) (htt : ∀ w ∈ gt, w.before args s = true) (hK : va_K g.1 classes (tysG g) s) (hN : nw s) (hA : ∀ q : Nat, s.heap.size ≤ q → A q) (hRf : 1 ≤ R.frames) (hRl : 21 ≤ R.locals) (hRc : cells ≤ R.cells) (hRs : slots ≤ R.slots) (r : Int32) (S9 : sS)
    (kx_24 : ∀ (ls : Array Slot) (H : Heap) (locs : List Loc), narrow .boolean (.int r) = .int r → va_P g.1 classes (Sw shC g ad S9) H → va_D A (Sw shC g ad S9) → va_S A s.heap H locs → W p l e R s m args below meth c H locs cells slots Q (F0 m 24 ls [.int r]))
    (kx_73 : ∀ (ls : Array Slot) (H : Heap) (locs : List Loc), narrow .boolean (.int r) = .int r → va_P g.1 classes (Sw shC g ad S9) H → va_D A (Sw shC g ad S9) → va_S A s.heap H locs → W p l e R s m args below meth c H locs cells slots Q (F0 m 73 ls [.int r])) :
    ∀ k9 : Nat, (∀ (S : sS) (L : Nat → Int32) (M : Nat → Int64) (ls : Array Slot) (H : Heap) (locs : List Loc), f_Replacer_isPasting k9 0 S L M = some (r, S9) → lv_has ls 4 [(0, .ref (ad 12)), (1, .int (L 1)), (2, .int (L 2))] → va_P g.1 classes (Sw shC g ad S) H → va_D A (Sw shC g ad S) → va_S A s.heap H locs → W p l e R s m args below meth c H locs cells slots Q (F0 m 0 ls [])) ∧ (∀ (S : sS) (L : Nat → Int32) (M : Nat → Int64) (ls : Array Slot) (H : Heap) (locs : List Loc), f_Replacer_isPasting k9 1 S L M = some (r, S9) → lv_has ls 4 [(0, .ref (ad 12)), (1, .int (L 1)), (2, .int (L 2))] → va_P g.1 classes (Sw shC g ad S) H → va_D A (Sw shC g ad S) → va_S A s.heap H locs → W p l e R s m args below meth c H locs cells slots Q (F0 m 23 ls [])) ∧ (∀ (S : sS) (L : Nat → Int32) (M : Nat → Int64) (ls : Array Slot) (H : Heap) (locs : List Loc), f_Replacer_isPasting k9 2 S L M = some (r, S9) → lv_has ls 4 [(0, .ref (ad 12)), (1, .int (L 1)), (2, .int (L 2)), (3, .int (L 3))] → va_P g.1 classes (Sw shC g ad S) H → va_D A (Sw shC g ad S) → va_S A s.heap H locs → W p l e R s m args below meth c H locs cells slots Q (F0 m 72 ls [])) ∧ (∀ (S : sS) (L : Nat → Int32) (M : Nat → Int64) (ls : Array Slot) (H : Heap) (locs : List Loc), f_Replacer_isPasting k9 3 S L M = some (r, S9) → lv_has ls 4 [(0, .ref (ad 12)), (1, .int (L 1)), (2, .int (L 2)), (3, .int (L 3))] → va_P g.1 classes (Sw shC g ad S) H → va_D A (Sw shC g ad S) → va_S A s.heap H locs → W p l e R s m args below meth c H locs cells slots Q (F0 m 73 ls [.int (L 100)])) := by
  intro k9
  induction k9 with
  | zero => exact ⟨(fun _ _ _ _ _ _ h => by simp [f_Replacer_isPasting] at h), (fun _ _ _ _ _ _ h => by simp [f_Replacer_isPasting] at h), (fun _ _ _ _ _ _ h => by simp [f_Replacer_isPasting] at h), (fun _ _ _ _ _ _ h => by simp [f_Replacer_isPasting] at h)⟩
  | succ k9 ih =>
    refine ⟨?_, ?_, ?_, ?_⟩
    · intro S L M ls H locs h hl hP hD hS
      simp only [f_Replacer_isPasting] at h
      refine lv_iload_n hx hb d_Replacer_isPasting_0 rfl (lv_at hl 1 rfl) ?_
      refine lv_iconst (v := 1) hx hb d_Replacer_isPasting_1 (by decide) ?_
      refine lv_iadd hx hb d_Replacer_isPasting_2 ?_
      refine lv_iload_n hx hb d_Replacer_isPasting_3 rfl (lv_at hl 2 rfl) ?_
      refine lv_icmp_ge (tgt := 23) hx hb d_Replacer_isPasting_4 (by decide) (fun hc1 => ?_) (fun hc1 => ?_)
      · rw [if_pos hc1] at h
        exact (ih.2.1) S L M ls H locs h (lv_sub hl [0, 1, 2] rfl) hP hD hS
      · rw [if_neg hc1] at h
        refine lv_aload_n hx hb d_Replacer_isPasting_7 rfl (lv_at hl 0 rfl) ?_
        refine S_getR (h := shC) (C := "MacroMill$Replacer") (T := F_Replacer) hx hb htt in_Replacer hown hK hP 12 1 rfl 10 rfl rfl (by decide) (htt _ k_827) (fun _ h9 => h9) d_Replacer_isPasting_8 ?_
        refine S_getR (h := shC) (C := "MacroMill$Macros") (T := F_Macros) hx hb htt in_Macros hown hK hP 10 10 rfl 62 rfl rfl (by decide) (htt _ k_704) (fun _ h9 => h9) d_Replacer_isPasting_11 ?_
        refine lv_iload_n hx hb d_Replacer_isPasting_14 rfl (lv_at hl 1 rfl) ?_
        obtain ⟨hv2, h⟩ := chk h
        refine S_lald (h := shC) (i := L 1) hx hb hK hP 49 rfl (okI_in hv2) d_Replacer_isPasting_15 ?_
        obtain ⟨⟨r3, T3⟩, hq3, h⟩ := Option.bind_eq_some_iff.mp h
        try dsimp only at h
        refine go_iS (As := [.long (S.2.2 49 (L 1 : Int32).toNatClampNeg)]) (g := g) (A := A) (h := shC) hP hK hD hS hA hN (fun hp => va_runS (As := [.long (S.2.2 49 (L 1 : Int32).toNatClampNeg)]) (rest := []) ⟨hx, hb, hml, hown, htt⟩ (t_Tokens_lengthOf l g _ ad S (S.2.2 49 (L 1 : Int32).toNatClampNeg : Int64) k9 r3 T3 hq3) ⟨(cb_L htt k_1746 k_271 k_1799 hd_Tokens_lengthOf ⟨(Nat.le_trans (by decide +kernel) hRf), (Nat.le_trans (by decide +kernel) hRl)⟩), htt _ k_1745⟩ hp rfl rfl hl.1 rfl (lv_room (Nat.le_of_ble_eq_true rfl)) d_Replacer_isPasting_16 ⟨hRc, hRs⟩) (fun r0 Sn H locs hw9 hP hD hS => ?_)
        obtain ⟨e9, e8⟩ := hw9
        rw [e8] at hP hD
        refine W.widen (k := cells) (n := slots) (Nat.le_refl _) (Nat.le_refl _) ?_
        refine toI (y := r3) e9 ?_
        refine lv_iconst (v := 2) hx hb d_Replacer_isPasting_19 (by decide) ?_
        refine lv_icmp_eq (tgt := 25) hx hb d_Replacer_isPasting_20 (by decide) (fun hc4 => ?_) (fun hc4 => ?_)
        · rw [if_pos hc4] at h
          refine lv_aload_n hx hb d_Replacer_isPasting_25 rfl (lv_at hl 0 rfl) ?_
          show W _ _ _ _ _ _ _ _ _ _ _ _ _ _ _ (F0 _ 26 _ _)
          refine S_getR (h := shC) (C := "MacroMill$Replacer") (T := F_Replacer) hx hb htt in_Replacer hown hK hP 12 1 rfl 10 rfl rfl (by decide) (htt _ k_827) (fun _ h9 => h9) d_Replacer_isPasting_26 ?_
          refine S_getR (h := shC) (C := "MacroMill$Macros") (T := F_Macros) hx hb htt in_Macros hown hK hP 10 10 rfl 62 rfl rfl (by decide) (htt _ k_704) (fun _ h9 => h9) d_Replacer_isPasting_29 ?_
          refine lv_iload_n hx hb d_Replacer_isPasting_32 rfl (lv_at hl 1 rfl) ?_
          obtain ⟨hv5, h⟩ := chk h
          refine S_lald (h := shC) (i := L 1) hx hb hK hP 49 rfl (okI_in hv5) d_Replacer_isPasting_33 ?_
          obtain ⟨⟨r6, T6⟩, hq6, h⟩ := Option.bind_eq_some_iff.mp h
          try dsimp only at h
          refine go_iS (As := [.long (T3.2.2 49 (L 1 : Int32).toNatClampNeg)]) (g := g) (A := A) (h := shC) hP hK hD hS hA hN (fun hp => va_runS (As := [.long (T3.2.2 49 (L 1 : Int32).toNatClampNeg)]) (rest := []) ⟨hx, hb, hml, hown, htt⟩ (t_Tokens_fromOf l g _ ad T3 (T3.2.2 49 (L 1 : Int32).toNatClampNeg : Int64) k9 r6 T6 hq6) ⟨(cb_L htt k_1743 k_271 k_1800 hd_Tokens_fromOf ⟨(Nat.le_trans (by decide +kernel) hRf), (Nat.le_trans (by decide +kernel) hRl)⟩), htt _ k_1742⟩ hp rfl rfl hl.1 rfl (lv_room (Nat.le_of_ble_eq_true rfl)) d_Replacer_isPasting_34 ⟨hRc, hRs⟩) (fun r0 Sn H locs hw9 hP hD hS => ?_)
          obtain ⟨e9, e8⟩ := hw9
          rw [e8] at hP hD
          refine W.widen (k := cells) (n := slots) (Nat.le_refl _) (Nat.le_refl _) ?_
          refine toI (y := r6) e9 ?_
          refine lv_istore_n (lv' := [(3, .int r6), (0, .ref (ad 12)), (1, .int (L 1)), (2, .int (L 2))]) hx hb d_Replacer_isPasting_37 rfl hl (by decide) rfl (fun ls hl => ?_)
          refine lv_aload_n hx hb d_Replacer_isPasting_38 rfl (lv_at hl 1 rfl) ?_
          refine S_getR (h := shC) (C := "MacroMill$Replacer") (T := F_Replacer) hx hb htt in_Replacer hown hK hP 12 0 rfl 9 rfl rfl (by decide) (htt _ k_826) (fun _ h9 => h9) d_Replacer_isPasting_39 ?_
          refine S_getR (h := shC) (C := "MacroMill$Tokens") (T := F_Tokens) hx hb htt in_Tokens hown hK hP 9 0 rfl 50 rfl rfl (by decide) (htt _ k_635) (fun _ h9 => h9) d_Replacer_isPasting_42 ?_
          refine lv_iload_n hx hb d_Replacer_isPasting_45 rfl (lv_at hl 0 rfl) ?_
          obtain ⟨hv7, h⟩ := chk h
          refine S_bald (h := shC) (i := r6) hx hb hK hP 37 rfl (okI_in hv7) d_Replacer_isPasting_46 ?_
          refine lv_bipush (v := 35) hx hb d_Replacer_isPasting_47 (by decide) ?_
          refine lv_icmp_ne (tgt := 72) hx hb d_Replacer_isPasting_49 (by decide) (fun hc8 => ?_) (fun hc8 => ?_)
          · rw [if_neg hc8] at h
            exact (ih.2.2.1) T6 (upd L 3 r6) M ls H locs h (lv_sub hl [1, 2, 3, 0] rfl) hP hD hS
          · rw [if_pos hc8] at h
            refine lv_aload_n hx hb d_Replacer_isPasting_52 rfl (lv_at hl 1 rfl) ?_
            show W _ _ _ _ _ _ _ _ _ _ _ _ _ _ _ (F0 _ 53 _ _)
            refine S_getR (h := shC) (C := "MacroMill$Replacer") (T := F_Replacer) hx hb htt in_Replacer hown hK hP 12 0 rfl 9 rfl rfl (by decide) (htt _ k_826) (fun _ h9 => h9) d_Replacer_isPasting_53 ?_
            refine S_getR (h := shC) (C := "MacroMill$Tokens") (T := F_Tokens) hx hb htt in_Tokens hown hK hP 9 0 rfl 50 rfl rfl (by decide) (htt _ k_635) (fun _ h9 => h9) d_Replacer_isPasting_56 ?_
            refine lv_iload_n hx hb d_Replacer_isPasting_59 rfl (lv_at hl 0 rfl) ?_
            refine lv_iconst (v := 1) hx hb d_Replacer_isPasting_60 (by decide) ?_
            refine lv_iadd hx hb d_Replacer_isPasting_61 ?_
            obtain ⟨hv9, h⟩ := chk h
            refine S_bald (h := shC) (i := r6 + (1 : Int32)) hx hb hK hP 37 rfl (okI_in hv9) d_Replacer_isPasting_62 ?_
            refine lv_bipush (v := 35) hx hb d_Replacer_isPasting_63 (by decide) ?_
            refine lv_icmp_ne (tgt := 72) hx hb d_Replacer_isPasting_65 (by decide) (fun hc10 => ?_) (fun hc10 => ?_)
            · rw [if_neg hc10] at h
              exact (ih.2.2.1) T6 (upd L 3 r6) M ls H locs h (lv_sub hl [1, 2, 3, 0] rfl) hP hD hS
            · rw [if_pos hc10] at h
              refine lv_iconst (v := 1) hx hb d_Replacer_isPasting_68 (by decide) ?_
              refine lv_goto (tgt := 73) hx hb d_Replacer_isPasting_69 (by decide) ?_
              exact (ih.2.2.2) T6 (upd (upd L 3 r6) 100 (1 : Int32)) M ls H locs h (lv_sub hl [1, 2, 3, 0] rfl) hP hD hS
        · rw [if_neg hc4] at h
          exact (ih.2.1) T3 L M ls H locs h (lv_sub hl [0, 1, 2] rfl) hP hD hS
    · intro S L M ls H locs h hl hP hD hS
      simp only [f_Replacer_isPasting] at h
      refine lv_iconst (v := 0) hx hb d_Replacer_isPasting_23 (by decide) ?_
      cases h
      exact kx_24 ls H locs rfl hP hD hS
    · intro S L M ls H locs h hl hP hD hS
      simp only [f_Replacer_isPasting] at h
      refine lv_iconst (v := 0) hx hb d_Replacer_isPasting_72 (by decide) ?_
      exact (ih.2.2.2) S (upd L 100 (0 : Int32)) M ls H locs h (lv_sub hl [0, 1, 2, 3] rfl) hP hD hS
    · intro S L M ls H locs h hl hP hD hS
      simp only [f_Replacer_isPasting] at h
      obtain ⟨hv1, h⟩ := chk h
      cases h
      exact kx_73 ls H locs (bz_n hv1) hP hD hS
abbrev rm_t_Replacer_isPasting : Room := { frames := 1, cells := 0, slots := 0, locals := 21 }
theorem t_Replacer_isPasting (l : Launch) (g : gG) (sz : Nat) (ad : Nat → Nat) (S : sS) (v1 : Int32) (v2 : Int32) (k : Nat) (r : Int32) (S9 : sS) (h : f_Replacer_isPasting k 0 S (upd (upd (fun _ => 0) 1 v1) 2 v2) (fun _ => 0) = some (r, S9)) : Cz l y_Replacer_isPasting b_Replacer_isPasting 4 rm_t_Replacer_isPasting g [.ref (ad 12), .int v1, .int v2] (Sw shC g ad S) sz (fun r1 w => ∃ S1 : sS, w = Sw shC g ad S1 ∧ r1 = r ∧ S1 = S9) := by
  refine startZ (by decide) (Nat.le_of_ble_eq_true rfl) ?_
  intro p e s m below meth c A ls hx hb hr hml hlocks hmn hown htt hN hA hP hK hD hS hl
  exact (w_Replacer_isPasting hx hb hml hown htt hK hN hA (by decide +kernel) (by decide +kernel) (by decide +kernel) (by decide +kernel) r S9 (fun ls H locs hz hP hD hS => fin_z (g := g) (ws := Sw shC g ad S9) hx hb hr hlocks hz (by decide +kernel) (by decide +kernel) hP hD hS ⟨_, rfl, rfl, rfl⟩ d_Replacer_isPasting_24) (fun ls H locs hz hP hD hS => fin_z (g := g) (ws := Sw shC g ad S9) hx hb hr hlocks hz (by decide +kernel) (by decide +kernel) hP hD hS ⟨_, rfl, rfl, rfl⟩ d_Replacer_isPasting_73) k).1 S (upd (upd (fun _ => 0) 1 v1) 2 v2) (fun _ => 0) ls _ _ h hl hP hD hS
def f_Replacer_isEmpty : Nat → Nat → sS → (Nat → Int32) → (Nat → Int64) → Option (Int32 × sS)
  | 0, _, _, _, _ => none
  | k + 1, 0, S, L, M => if okI (((L 1) * (30 : Int32)) + (L 2)) 1830 = true then (if okI (((L 1) * (30 : Int32)) + (L 2)) 1830 = true then (if (S.2.1 64 (((L 1) * (30 : Int32)) + (L 2) : Int32).toNatClampNeg) = (S.2.1 65 (((L 1) * (30 : Int32)) + (L 2) : Int32).toNatClampNeg) then (f_Replacer_isEmpty k 1 S (upd (upd L 3 (((L 1) * (30 : Int32)) + (L 2))) 100 (1 : Int32)) M) else (f_Replacer_isEmpty k 1 S (upd (upd L 3 (((L 1) * (30 : Int32)) + (L 2))) 100 (0 : Int32)) M)) else none) else none
  | k + 1, 1, S, L, M => if bz (L 100) = true then some (L 100, S) else none
  | _ + 1, _ + 2, _, _, _ => none
set_option maxHeartbeats 8000000 in
set_option maxRecDepth 100000 in
theorem w_Replacer_isEmpty {p : Program} {l : Launch} {e : Env} {R : Room} {s : State} {m : MethodId} {args : Array Value} {below : List Frame} {meth : Method} {c : Code} {cells slots : Nat} {Q : State → Prop} {g : gG} {A : Nat → Prop} {ad : Nat → Nat} (hx : p.tables.exec = Jvm.exec) (hb : c.code = b_Replacer_isEmpty) (hml : c.maxLocals = 4) (hown : s.vm.findClass "MacroMill$Replacer" = some m.cls) (htt : ∀ w ∈ gt, w.before args s = true) (hK : va_K g.1 classes (tysG g) s) (hN : nw s) (hA : ∀ q : Nat, s.heap.size ≤ q → A q) (r : Int32) (S9 : sS)
    (kx_27 : ∀ (ls : Array Slot) (H : Heap) (locs : List Loc), narrow .boolean (.int r) = .int r → va_P g.1 classes (Sw shC g ad S9) H → va_D A (Sw shC g ad S9) → va_S A s.heap H locs → W p l e R s m args below meth c H locs cells slots Q (F0 m 27 ls [.int r])) :
    ∀ k9 : Nat, (∀ (S : sS) (L : Nat → Int32) (M : Nat → Int64) (ls : Array Slot) (H : Heap) (locs : List Loc), f_Replacer_isEmpty k9 0 S L M = some (r, S9) → lv_has ls 4 [(0, .ref (ad 12)), (1, .int (L 1)), (2, .int (L 2))] → va_P g.1 classes (Sw shC g ad S) H → va_D A (Sw shC g ad S) → va_S A s.heap H locs → W p l e R s m args below meth c H locs cells slots Q (F0 m 0 ls [])) ∧ (∀ (S : sS) (L : Nat → Int32) (M : Nat → Int64) (ls : Array Slot) (H : Heap) (locs : List Loc), f_Replacer_isEmpty k9 1 S L M = some (r, S9) → lv_has ls 4 [(0, .ref (ad 12)), (1, .int (L 1)), (2, .int (L 2)), (3, .int (L 3))] → va_P g.1 classes (Sw shC g ad S) H → va_D A (Sw shC g ad S) → va_S A s.heap H locs → W p l e R s m args below meth c H locs cells slots Q (F0 m 27 ls [.int (L 100)])) := by
  intro k9
  induction k9 with
  | zero => exact ⟨(fun _ _ _ _ _ _ h => by simp [f_Replacer_isEmpty] at h), (fun _ _ _ _ _ _ h => by simp [f_Replacer_isEmpty] at h)⟩
  | succ k9 ih =>
    refine ⟨?_, ?_⟩
    · intro S L M ls H locs h hl hP hD hS
      simp only [f_Replacer_isEmpty] at h
      refine lv_iload_n hx hb d_Replacer_isEmpty_0 rfl (lv_at hl 1 rfl) ?_
      refine lv_bipush (v := 30) hx hb d_Replacer_isEmpty_1 (by decide) ?_
      refine lv_imul hx hb d_Replacer_isEmpty_3 ?_
      refine lv_iload_n hx hb d_Replacer_isEmpty_4 rfl (lv_at hl 2 rfl) ?_
      refine lv_iadd hx hb d_Replacer_isEmpty_5 ?_
      refine lv_istore_n (lv' := [(3, .int (((L 1) * (30 : Int32)) + (L 2))), (0, .ref (ad 12)), (1, .int (L 1)), (2, .int (L 2))]) hx hb d_Replacer_isEmpty_6 rfl hl (by decide) rfl (fun ls hl => ?_)
      refine lv_aload_n hx hb d_Replacer_isEmpty_7 rfl (lv_at hl 1 rfl) ?_
      refine S_getR (h := shC) (C := "MacroMill$Replacer") (T := F_Replacer) hx hb htt in_Replacer hown hK hP 12 4 rfl 77 rfl rfl (by decide) (htt _ k_830) (fun _ h9 => h9) d_Replacer_isEmpty_8 ?_
      refine lv_iload_n hx hb d_Replacer_isEmpty_11 rfl (lv_at hl 0 rfl) ?_
      obtain ⟨hv1, h⟩ := chk h
      refine S_iald (h := shC) (i := ((L 1) * (30 : Int32)) + (L 2)) hx hb hK hP 64 rfl (okI_in hv1) d_Replacer_isEmpty_12 ?_
      refine lv_aload_n hx hb d_Replacer_isEmpty_13 rfl (lv_at hl 1 rfl) ?_
      show W _ _ _ _ _ _ _ _ _ _ _ _ _ _ _ (F0 _ 14 _ _)
      refine S_getR (h := shC) (C := "MacroMill$Replacer") (T := F_Replacer) hx hb htt in_Replacer hown hK hP 12 5 rfl 78 rfl rfl (by decide) (htt _ k_831) (fun _ h9 => h9) d_Replacer_isEmpty_14 ?_
      refine lv_iload_n hx hb d_Replacer_isEmpty_17 rfl (lv_at hl 0 rfl) ?_
      obtain ⟨hv2, h⟩ := chk h
      refine S_iald (h := shC) (i := ((L 1) * (30 : Int32)) + (L 2)) hx hb hK hP 65 rfl (okI_in hv2) d_Replacer_isEmpty_18 ?_
      refine lv_icmp_ne (tgt := 26) hx hb d_Replacer_isEmpty_19 (by decide) (fun hc3 => ?_) (fun hc3 => ?_)
      · rw [if_neg hc3] at h
        refine lv_iconst (v := 0) hx hb d_Replacer_isEmpty_26 (by decide) ?_
        exact (ih.2) S (upd (upd L 3 (((L 1) * (30 : Int32)) + (L 2))) 100 (0 : Int32)) M ls H locs h (lv_sub hl [1, 2, 3, 0] rfl) hP hD hS
      · rw [if_pos hc3] at h
        refine lv_iconst (v := 1) hx hb d_Replacer_isEmpty_22 (by decide) ?_
        refine lv_goto (tgt := 27) hx hb d_Replacer_isEmpty_23 (by decide) ?_
        exact (ih.2) S (upd (upd L 3 (((L 1) * (30 : Int32)) + (L 2))) 100 (1 : Int32)) M ls H locs h (lv_sub hl [1, 2, 3, 0] rfl) hP hD hS
    · intro S L M ls H locs h hl hP hD hS
      simp only [f_Replacer_isEmpty] at h
      obtain ⟨hv1, h⟩ := chk h
      cases h
      exact kx_27 ls H locs (bz_n hv1) hP hD hS
abbrev rm_t_Replacer_isEmpty : Room := { frames := 0, cells := 0, slots := 0, locals := 0 }
theorem t_Replacer_isEmpty (l : Launch) (g : gG) (sz : Nat) (ad : Nat → Nat) (S : sS) (v1 : Int32) (v2 : Int32) (k : Nat) (r : Int32) (S9 : sS) (h : f_Replacer_isEmpty k 0 S (upd (upd (fun _ => 0) 1 v1) 2 v2) (fun _ => 0) = some (r, S9)) : Cz l y_Replacer_isEmpty b_Replacer_isEmpty 4 rm_t_Replacer_isEmpty g [.ref (ad 12), .int v1, .int v2] (Sw shC g ad S) sz (fun r1 w => ∃ S1 : sS, w = Sw shC g ad S1 ∧ r1 = r ∧ S1 = S9) := by
  refine startZ (by decide) (Nat.le_of_ble_eq_true rfl) ?_
  intro p e s m below meth c A ls hx hb hr hml hlocks hmn hown htt hN hA hP hK hD hS hl
  exact (w_Replacer_isEmpty hx hb hml hown htt hK hN hA r S9 (fun ls H locs hz hP hD hS => fin_z (g := g) (ws := Sw shC g ad S9) hx hb hr hlocks hz (by decide +kernel) (by decide +kernel) hP hD hS ⟨_, rfl, rfl, rfl⟩ d_Replacer_isEmpty_27) k).1 S (upd (upd (fun _ => 0) 1 v1) 2 v2) (fun _ => 0) ls _ _ h hl hP hD hS
def f_Replacer_endArgument : Nat → Nat → sS → (Nat → Int32) → (Nat → Int64) → Option (Int32 × sS)
  | 0, _, _, _, _ => none
  | k + 1, 0, S, L, M => if (30 : Int32) ≤ (L 2) then (f_Replacer_endArgument k 1 S L M) else (if okI ((L 1) + (L 2)) 1830 = true then (if okI ((L 1) + (L 2)) 1830 = true then (f_Replacer_endArgument k 1 (putA (putA S 65 ((L 1) + (L 2) : Int32).toNatClampNeg (L 3)) 68 ((L 1) + (L 2) : Int32).toNatClampNeg (-1)) L M) else none) else none)
  | k + 1, 1, S, L, M => if (30 : Int32) ≤ ((L 2) + (1 : Int32)) then (f_Replacer_endArgument k 2 S L M) else (if okI (L 3) 120784 = true then (if okI (((L 1) + (L 2)) + (1 : Int32)) 1830 = true then (f_Replacer_endArgument k 2 (putA S 64 (((L 1) + (L 2)) + (1 : Int32) : Int32).toNatClampNeg (S.2.1 41 (L 3 : Int32).toNatClampNeg)) L M) else none) else none)
  | k + 1, 2, S, L, M => some ((0 : Int32), S)
  | _ + 1, _ + 3, _, _, _ => none
set_option maxHeartbeats 8000000 in
set_option maxRecDepth 100000 in
theorem w_Replacer_endArgument {p : Program} {l : Launch} {e : Env} {R : Room} {s : State} {m : MethodId} {args : Array Value} {below : List Frame} {meth : Method} {c : Code} {cells slots : Nat} {Q : State → Prop} {g : gG} {A : Nat → Prop} {ad : Nat → Nat} (hx : p.tables.exec = Jvm.exec) (hb : c.code = b_Replacer_endArgument) (hml : c.maxLocals = 4) (hown : s.vm.findClass "MacroMill$Replacer" = some m.cls) (htt : ∀ w ∈ gt, w.before args s = true) (hK : va_K g.1 classes (tysG g) s) (hN : nw s) (hA : ∀ q : Nat, s.heap.size ≤ q → A q) (r : Int32) (S9 : sS)
    (kx_51 : ∀ (ls : Array Slot) (H : Heap) (locs : List Loc), va_P g.1 classes (Sw shC g ad S9) H → va_D A (Sw shC g ad S9) → va_S A s.heap H locs → W p l e R s m args below meth c H locs cells slots Q (F0 m 51 ls [])) :
    ∀ k9 : Nat, (∀ (S : sS) (L : Nat → Int32) (M : Nat → Int64) (ls : Array Slot) (H : Heap) (locs : List Loc), f_Replacer_endArgument k9 0 S L M = some (r, S9) → lv_has ls 4 [(0, .ref (ad 12)), (1, .int (L 1)), (2, .int (L 2)), (3, .int (L 3))] → va_P g.1 classes (Sw shC g ad S) H → va_D A (Sw shC g ad S) → va_S A s.heap H locs → W p l e R s m args below meth c H locs cells slots Q (F0 m 0 ls [])) ∧ (∀ (S : sS) (L : Nat → Int32) (M : Nat → Int64) (ls : Array Slot) (H : Heap) (locs : List Loc), f_Replacer_endArgument k9 1 S L M = some (r, S9) → lv_has ls 4 [(0, .ref (ad 12)), (1, .int (L 1)), (2, .int (L 2)), (3, .int (L 3))] → va_P g.1 classes (Sw shC g ad S) H → va_D A (Sw shC g ad S) → va_S A s.heap H locs → W p l e R s m args below meth c H locs cells slots Q (F0 m 24 ls [])) ∧ (∀ (S : sS) (L : Nat → Int32) (M : Nat → Int64) (ls : Array Slot) (H : Heap) (locs : List Loc), f_Replacer_endArgument k9 2 S L M = some (r, S9) → lv_has ls 4 [(0, .ref (ad 12)), (1, .int (L 1)), (2, .int (L 2)), (3, .int (L 3))] → va_P g.1 classes (Sw shC g ad S) H → va_D A (Sw shC g ad S) → va_S A s.heap H locs → W p l e R s m args below meth c H locs cells slots Q (F0 m 51 ls [])) := by
  intro k9
  induction k9 with
  | zero => exact ⟨(fun _ _ _ _ _ _ h => by simp [f_Replacer_endArgument] at h), (fun _ _ _ _ _ _ h => by simp [f_Replacer_endArgument] at h), (fun _ _ _ _ _ _ h => by simp [f_Replacer_endArgument] at h)⟩
  | succ k9 ih =>
    refine ⟨?_, ?_, ?_⟩
    · intro S L M ls H locs h hl hP hD hS
      simp only [f_Replacer_endArgument] at h
      refine lv_iload_n hx hb d_Replacer_endArgument_0 rfl (lv_at hl 2 rfl) ?_
      refine lv_bipush (v := 30) hx hb d_Replacer_endArgument_1 (by decide) ?_
      refine lv_icmp_ge (tgt := 24) hx hb d_Replacer_endArgument_3 (by decide) (fun hc1 => ?_) (fun hc1 => ?_)
      · rw [if_pos hc1] at h
        exact (ih.2.1) S L M ls H locs h (lv_sub hl [0, 1, 2, 3] rfl) hP hD hS
      · rw [if_neg hc1] at h
        refine lv_aload_n hx hb d_Replacer_endArgument_6 rfl (lv_at hl 0 rfl) ?_
        refine S_getR (h := shC) (C := "MacroMill$Replacer") (T := F_Replacer) hx hb htt in_Replacer hown hK hP 12 5 rfl 78 rfl rfl (by decide) (htt _ k_831) (fun _ h9 => h9) d_Replacer_endArgument_7 ?_
        refine lv_iload_n hx hb d_Replacer_endArgument_10 rfl (lv_at hl 1 rfl) ?_
        refine lv_iload_n hx hb d_Replacer_endArgument_11 rfl (lv_at hl 2 rfl) ?_
        refine lv_iadd hx hb d_Replacer_endArgument_12 ?_
        refine lv_iload_n hx hb d_Replacer_endArgument_13 rfl (lv_at hl 3 rfl) ?_
        obtain ⟨hv2, h⟩ := chk h
        refine S_iast (h := shC) (i := (L 1) + (L 2)) (v := L 3) hx hb hK hP hD hS 65 rfl (okI_in hv2) d_Replacer_endArgument_14 (fun H locs hP hD hS => ?_)
        refine lv_aload_n hx hb d_Replacer_endArgument_15 rfl (lv_at hl 0 rfl) ?_
        refine S_getR (h := shC) (C := "MacroMill$Replacer") (T := F_Replacer) hx hb htt in_Replacer hown hK hP 12 8 rfl 81 rfl rfl (by decide) (htt _ k_834) (fun _ h9 => h9) d_Replacer_endArgument_16 ?_
        show W _ _ _ _ _ _ _ _ _ _ _ _ _ _ _ (F0 _ 19 _ _)
        refine lv_iload_n hx hb d_Replacer_endArgument_19 rfl (lv_at hl 1 rfl) ?_
        refine lv_iload_n hx hb d_Replacer_endArgument_20 rfl (lv_at hl 2 rfl) ?_
        refine lv_iadd hx hb d_Replacer_endArgument_21 ?_
        refine lv_iconst (v := (-1)) hx hb d_Replacer_endArgument_22 (by decide) ?_
        obtain ⟨hv3, h⟩ := chk h
        refine S_iast (h := shC) (i := (L 1) + (L 2)) (v := (-1)) hx hb hK hP hD hS 68 rfl (okI_in hv3) d_Replacer_endArgument_23 (fun H locs hP hD hS => ?_)
        exact (ih.2.1) (putA (putA S 65 ((L 1) + (L 2) : Int32).toNatClampNeg (L 3)) 68 ((L 1) + (L 2) : Int32).toNatClampNeg (-1)) L M ls H locs h (lv_sub hl [0, 1, 2, 3] rfl) hP hD hS
    · intro S L M ls H locs h hl hP hD hS
      simp only [f_Replacer_endArgument] at h
      refine lv_iload_n hx hb d_Replacer_endArgument_24 rfl (lv_at hl 2 rfl) ?_
      refine lv_iconst (v := 1) hx hb d_Replacer_endArgument_25 (by decide) ?_
      refine lv_iadd hx hb d_Replacer_endArgument_26 ?_
      refine lv_bipush (v := 30) hx hb d_Replacer_endArgument_27 (by decide) ?_
      refine lv_icmp_ge (tgt := 51) hx hb d_Replacer_endArgument_29 (by decide) (fun hc1 => ?_) (fun hc1 => ?_)
      · rw [if_pos hc1] at h
        exact (ih.2.2) S L M ls H locs h (lv_sub hl [0, 1, 2, 3] rfl) hP hD hS
      · rw [if_neg hc1] at h
        refine lv_aload_n hx hb d_Replacer_endArgument_32 rfl (lv_at hl 0 rfl) ?_
        refine S_getR (h := shC) (C := "MacroMill$Replacer") (T := F_Replacer) hx hb htt in_Replacer hown hK hP 12 4 rfl 77 rfl rfl (by decide) (htt _ k_830) (fun _ h9 => h9) d_Replacer_endArgument_33 ?_
        refine lv_iload_n hx hb d_Replacer_endArgument_36 rfl (lv_at hl 1 rfl) ?_
        refine lv_iload_n hx hb d_Replacer_endArgument_37 rfl (lv_at hl 2 rfl) ?_
        refine lv_iadd hx hb d_Replacer_endArgument_38 ?_
        refine lv_iconst (v := 1) hx hb d_Replacer_endArgument_39 (by decide) ?_
        refine lv_iadd hx hb d_Replacer_endArgument_40 ?_
        show W _ _ _ _ _ _ _ _ _ _ _ _ _ _ _ (F0 _ 41 _ _)
        refine lv_aload_n hx hb d_Replacer_endArgument_41 rfl (lv_at hl 0 rfl) ?_
        refine S_getR (h := shC) (C := "MacroMill$Replacer") (T := F_Replacer) hx hb htt in_Replacer hown hK hP 12 0 rfl 9 rfl rfl (by decide) (htt _ k_826) (fun _ h9 => h9) d_Replacer_endArgument_42 ?_
        refine S_getR (h := shC) (C := "MacroMill$Tokens") (T := F_Tokens) hx hb htt in_Tokens hown hK hP 9 7 rfl 54 rfl rfl (by decide) (htt _ k_655) (fun _ h9 => h9) d_Replacer_endArgument_45 ?_
        refine lv_iload_n hx hb d_Replacer_endArgument_48 rfl (lv_at hl 3 rfl) ?_
        obtain ⟨hv2, h⟩ := chk h
        refine S_iald (h := shC) (i := L 3) hx hb hK hP 41 rfl (okI_in hv2) d_Replacer_endArgument_49 ?_
        obtain ⟨hv3, h⟩ := chk h
        refine S_iast (h := shC) (i := ((L 1) + (L 2)) + (1 : Int32)) (v := S.2.1 41 (L 3 : Int32).toNatClampNeg) hx hb hK hP hD hS 64 rfl (okI_in hv3) d_Replacer_endArgument_50 (fun H locs hP hD hS => ?_)
        exact (ih.2.2) (putA S 64 (((L 1) + (L 2)) + (1 : Int32) : Int32).toNatClampNeg (S.2.1 41 (L 3 : Int32).toNatClampNeg)) L M ls H locs h (lv_sub hl [0, 1, 2, 3] rfl) hP hD hS
    · intro S L M ls H locs h hl hP hD hS
      simp only [f_Replacer_endArgument] at h
      cases h
      exact kx_51 ls H locs hP hD hS
abbrev rm_t_Replacer_endArgument : Room := { frames := 0, cells := 0, slots := 0, locals := 0 }
theorem t_Replacer_endArgument (l : Launch) (g : gG) (sz : Nat) (ad : Nat → Nat) (S : sS) (v1 : Int32) (v2 : Int32) (v3 : Int32) (k : Nat) (r : Int32) (S9 : sS) (h : f_Replacer_endArgument k 0 S (upd (upd (upd (fun _ => 0) 1 v1) 2 v2) 3 v3) (fun _ => 0) = some (r, S9)) : Cv l y_Replacer_endArgument b_Replacer_endArgument 4 rm_t_Replacer_endArgument g [.ref (ad 12), .int v1, .int v2, .int v3] (Sw shC g ad S) sz (fun w => ∃ S1 : sS, w = Sw shC g ad S1 ∧ S1 = S9) := by
  refine startV (by decide) (Nat.le_of_ble_eq_true rfl) ?_
  intro p e s m below meth c A ls hx hb hr hml hlocks hmn hown htt hN hA hP hK hD hS hl
  exact (w_Replacer_endArgument hx hb hml hown htt hK hN hA r S9 (fun ls H locs hP hD hS => fin_v (g := g) (ws := Sw shC g ad S9) hx hb hr hlocks (by decide +kernel) (by decide +kernel) hP hD hS ⟨_, rfl, rfl⟩ d_Replacer_endArgument_51) k).1 S (upd (upd (upd (fun _ => 0) 1 v1) 2 v2) 3 v3) (fun _ => 0) ls _ _ h hl hP hD hS
def f_Replacer_putArgument : Nat → Nat → sS → (Nat → Int32) → (Nat → Int64) → Option (Int32 × sS)
  | 0, _, _, _, _ => none
  | k + 1, 0, S, L, M => if okI (((L 1) * (30 : Int32)) + (L 2)) 1830 = true then (f_Replacer_putArgument k 1 S (upd (upd (upd L 5 (((L 1) * (30 : Int32)) + (L 2))) 6 (S.2.1 64 (((L 1) * (30 : Int32)) + (L 2) : Int32).toNatClampNeg)) 7 (0 : Int32)) M) else none
  | k + 1, 1, S, L, M => if (1000000 : Int32) ≤ (L 7) then (f_Replacer_putArgument k 3 S L M) else (if okI (L 5) 1830 = true then (if (L 6) = (S.2.1 65 (L 5 : Int32).toNatClampNeg) then (f_Replacer_putArgument k 3 S L M) else ((f_Outcome_isFine k 0 S (fun _ => 0) (fun _ => 0)).bind (fun (r4, T4) => if r4 = (0 : Int32) then (f_Replacer_putArgument k 3 T4 L M) else (if (L 7) < (L 3) then (f_Replacer_putArgument k 2 T4 L M) else (if okI (L 6) 120784 = true then (if okI (L 6) 120784 = true then ((f_Replacer_put k 0 T4 (upd (upd (upd (fun _ => 0) 1 (L 1 : Int32)) 4 (T4.2.1 40 (L 6 : Int32).toNatClampNeg : Int32)) 5 (L 4 : Int32)) (vp_updL (fun _ => 0) 2 (T4.2.2 39 (L 6 : Int32).toNatClampNeg : Int64))).bind (fun (r9, T9) => f_Replacer_putArgument k 2 T9 L M)) else none) else none))))) else none)
  | k + 1, 2, S, L, M => if okI (L 6) 120784 = true then (f_Replacer_putArgument k 1 S (upd (upd L 6 (S.2.1 41 (L 6 : Int32).toNatClampNeg)) 7 ((L 7) + 1)) M) else none
  | k + 1, 3, S, L, M => some ((0 : Int32), S)
  | _ + 1, _ + 4, _, _, _ => none
set_option maxHeartbeats 8000000 in
set_option maxRecDepth 100000 in
theorem w_Replacer_putArgument {p : Program} {l : Launch} {e : Env} {R : Room} {s : State} {m : MethodId} {args : Array Value} {below : List Frame} {meth : Method} {c : Code} {cells slots : Nat} {Q : State → Prop} {g : gG} {A : Nat → Prop} {ad : Nat → Nat} (hx : p.tables.exec = Jvm.exec) (hb : c.code = b_Replacer_putArgument) (hml : c.maxLocals = 8) (hown : s.vm.findClass "MacroMill$Replacer" = some m.cls) (htt : ∀ w ∈ gt, w.before args s = true) (hK : va_K g.1 classes (tysG g) s) (hN : nw s) (hA : ∀ q : Nat, s.heap.size ≤ q → A q) (hRf : 3 ≤ R.frames) (hRl : 73 ≤ R.locals) (hRc : cells ≤ R.cells) (hRs : slots ≤ R.slots) (r : Int32) (S9 : sS)
    (kx_100 : ∀ (ls : Array Slot) (H : Heap) (locs : List Loc), va_P g.1 classes (Sw shC g ad S9) H → va_D A (Sw shC g ad S9) → va_S A s.heap H locs → W p l e R s m args below meth c H locs cells slots Q (F0 m 100 ls [])) :
    ∀ k9 : Nat, (∀ (S : sS) (L : Nat → Int32) (M : Nat → Int64) (ls : Array Slot) (H : Heap) (locs : List Loc), f_Replacer_putArgument k9 0 S L M = some (r, S9) → lv_has ls 8 [(0, .ref (ad 12)), (1, .int (L 1)), (2, .int (L 2)), (3, .int (L 3)), (4, .int (L 4))] → va_P g.1 classes (Sw shC g ad S) H → va_D A (Sw shC g ad S) → va_S A s.heap H locs → W p l e R s m args below meth c H locs cells slots Q (F0 m 0 ls [])) ∧ (∀ (S : sS) (L : Nat → Int32) (M : Nat → Int64) (ls : Array Slot) (H : Heap) (locs : List Loc), f_Replacer_putArgument k9 1 S L M = some (r, S9) → lv_has ls 8 [(0, .ref (ad 12)), (1, .int (L 1)), (2, .int (L 2)), (3, .int (L 3)), (4, .int (L 4)), (5, .int (L 5)), (6, .int (L 6)), (7, .int (L 7))] → va_P g.1 classes (Sw shC g ad S) H → va_D A (Sw shC g ad S) → va_S A s.heap H locs → W p l e R s m args below meth c H locs cells slots Q (F0 m 20 ls [])) ∧ (∀ (S : sS) (L : Nat → Int32) (M : Nat → Int64) (ls : Array Slot) (H : Heap) (locs : List Loc), f_Replacer_putArgument k9 2 S L M = some (r, S9) → lv_has ls 8 [(0, .ref (ad 12)), (1, .int (L 1)), (2, .int (L 2)), (3, .int (L 3)), (4, .int (L 4)), (5, .int (L 5)), (6, .int (L 6)), (7, .int (L 7))] → va_P g.1 classes (Sw shC g ad S) H → va_D A (Sw shC g ad S) → va_S A s.heap H locs → W p l e R s m args below meth c H locs cells slots Q (F0 m 82 ls [])) ∧ (∀ (S : sS) (L : Nat → Int32) (M : Nat → Int64) (ls : Array Slot) (H : Heap) (locs : List Loc), f_Replacer_putArgument k9 3 S L M = some (r, S9) → lv_has ls 8 [(0, .ref (ad 12)), (1, .int (L 1)), (2, .int (L 2)), (3, .int (L 3)), (4, .int (L 4)), (5, .int (L 5)), (6, .int (L 6)), (7, .int (L 7))] → va_P g.1 classes (Sw shC g ad S) H → va_D A (Sw shC g ad S) → va_S A s.heap H locs → W p l e R s m args below meth c H locs cells slots Q (F0 m 100 ls [])) := by
  intro k9
  induction k9 with
  | zero => exact ⟨(fun _ _ _ _ _ _ h => by simp [f_Replacer_putArgument] at h), (fun _ _ _ _ _ _ h => by simp [f_Replacer_putArgument] at h), (fun _ _ _ _ _ _ h => by simp [f_Replacer_putArgument] at h), (fun _ _ _ _ _ _ h => by simp [f_Replacer_putArgument] at h)⟩
  | succ k9 ih =>
    refine ⟨?_, ?_, ?_, ?_⟩
    · intro S L M ls H locs h hl hP hD hS
      simp only [f_Replacer_putArgument] at h
      refine lv_iload_n hx hb d_Replacer_putArgument_0 rfl (lv_at hl 1 rfl) ?_
      refine lv_bipush (v := 30) hx hb d_Replacer_putArgument_1 (by decide) ?_
      refine lv_imul hx hb d_Replacer_putArgument_3 ?_
      refine lv_iload_n hx hb d_Replacer_putArgument_4 rfl (lv_at hl 2 rfl) ?_
      refine lv_iadd hx hb d_Replacer_putArgument_5 ?_
      refine lv_istore (lv' := [(5, .int (((L 1) * (30 : Int32)) + (L 2))), (0, .ref (ad 12)), (1, .int (L 1)), (2, .int (L 2)), (3, .int (L 3)), (4, .int (L 4))]) hx hb d_Replacer_putArgument_6 hl (by decide) rfl (fun ls hl => ?_)
      refine lv_aload_n hx hb d_Replacer_putArgument_8 rfl (lv_at hl 1 rfl) ?_
      refine S_getR (h := shC) (C := "MacroMill$Replacer") (T := F_Replacer) hx hb htt in_Replacer hown hK hP 12 4 rfl 77 rfl rfl (by decide) (htt _ k_830) (fun _ h9 => h9) d_Replacer_putArgument_9 ?_
      refine lv_iload hx hb d_Replacer_putArgument_12 (lv_at hl 0 rfl) ?_
      obtain ⟨hv1, h⟩ := chk h
      refine S_iald (h := shC) (i := ((L 1) * (30 : Int32)) + (L 2)) hx hb hK hP 64 rfl (okI_in hv1) d_Replacer_putArgument_14 ?_
      refine lv_istore (lv' := [(6, .int (S.2.1 64 (((L 1) * (30 : Int32)) + (L 2) : Int32).toNatClampNeg)), (5, .int (((L 1) * (30 : Int32)) + (L 2))), (0, .ref (ad 12)), (1, .int (L 1)), (2, .int (L 2)), (3, .int (L 3)), (4, .int (L 4))]) hx hb d_Replacer_putArgument_15 hl (by decide) rfl (fun ls hl => ?_)
      show W _ _ _ _ _ _ _ _ _ _ _ _ _ _ _ (F0 _ 17 _ _)
      refine lv_iconst (v := 0) hx hb d_Replacer_putArgument_17 (by decide) ?_
      refine lv_istore (lv' := [(7, .int 0), (6, .int (S.2.1 64 (((L 1) * (30 : Int32)) + (L 2) : Int32).toNatClampNeg)), (5, .int (((L 1) * (30 : Int32)) + (L 2))), (0, .ref (ad 12)), (1, .int (L 1)), (2, .int (L 2)), (3, .int (L 3)), (4, .int (L 4))]) hx hb d_Replacer_putArgument_18 hl (by decide) rfl (fun ls hl => ?_)
      exact (ih.2.1) S (upd (upd (upd L 5 (((L 1) * (30 : Int32)) + (L 2))) 6 (S.2.1 64 (((L 1) * (30 : Int32)) + (L 2) : Int32).toNatClampNeg)) 7 (0 : Int32)) M ls H locs h (lv_sub hl [3, 4, 5, 6, 7, 2, 1, 0] rfl) hP hD hS
    · intro S L M ls H locs h hl hP hD hS
      simp only [f_Replacer_putArgument] at h
      refine lv_iload hx hb d_Replacer_putArgument_20 (lv_at hl 7 rfl) ?_
      refine lv_ldc (v := 1000000) hx hb hown (htt _ k_1725) d_Replacer_putArgument_22 ?_
      refine lv_icmp_ge (tgt := 100) hx hb d_Replacer_putArgument_24 (by decide) (fun hc1 => ?_) (fun hc1 => ?_)
      · rw [if_pos hc1] at h
        exact (ih.2.2.2) S L M ls H locs h (lv_sub hl [0, 1, 2, 3, 4, 5, 6, 7] rfl) hP hD hS
      · rw [if_neg hc1] at h
        refine lv_iload hx hb d_Replacer_putArgument_27 (lv_at hl 6 rfl) ?_
        refine lv_aload_n hx hb d_Replacer_putArgument_29 rfl (lv_at hl 0 rfl) ?_
        refine S_getR (h := shC) (C := "MacroMill$Replacer") (T := F_Replacer) hx hb htt in_Replacer hown hK hP 12 5 rfl 78 rfl rfl (by decide) (htt _ k_831) (fun _ h9 => h9) d_Replacer_putArgument_30 ?_
        refine lv_iload hx hb d_Replacer_putArgument_33 (lv_at hl 5 rfl) ?_
        obtain ⟨hv2, h⟩ := chk h
        refine S_iald (h := shC) (i := L 5) hx hb hK hP 65 rfl (okI_in hv2) d_Replacer_putArgument_35 ?_
        refine lv_icmp_eq (tgt := 100) hx hb d_Replacer_putArgument_36 (by decide) (fun hc3 => ?_) (fun hc3 => ?_)
        · rw [if_pos hc3] at h
          exact (ih.2.2.2) S L M ls H locs h (lv_sub hl [0, 1, 2, 3, 4, 5, 6, 7] rfl) hP hD hS
        · rw [if_neg hc3] at h
          refine lv_aload_n hx hb d_Replacer_putArgument_39 rfl (lv_at hl 0 rfl) ?_
          refine S_getR (h := shC) (C := "MacroMill$Replacer") (T := F_Replacer) hx hb htt in_Replacer hown hK hP 12 3 rfl 2 rfl rfl (by decide) (htt _ k_829) (fun _ h9 => h9) d_Replacer_putArgument_40 ?_
          obtain ⟨⟨r4, T4⟩, hq4, h⟩ := Option.bind_eq_some_iff.mp h
          try dsimp only at h
          refine go_iS (As := [.ref (ad 2)]) (g := g) (A := A) (h := shC) hP hK hD hS hA hN (fun hp => va_runV (As := []) (rest := []) ⟨hx, hb, hml, hown, htt⟩ (t_Outcome_isFine l g _ ad S k9 r4 T4 hq4) ⟨(cb_L htt k_1181 k_264 k_1726 hd_Outcome_isFine ⟨(Nat.le_trans (by decide +kernel) hRf), (Nat.le_trans (by decide +kernel) hRl)⟩), htt _ k_1179, htt _ k_1180⟩ ⟨hp.1, S_recv hK hP 2 rfl rfl, hp.2⟩ rfl rfl hl.1 rfl (lv_room (Nat.le_of_ble_eq_true rfl)) d_Replacer_putArgument_43 ⟨hRc, hRs⟩) (fun r0 Sn H locs hw9 hP hD hS => ?_)
          obtain ⟨e9, e8⟩ := hw9
          rw [e8] at hP hD
          refine W.widen (k := cells) (n := slots) (Nat.le_refl _) (Nat.le_refl _) ?_
          refine toI (y := r4) e9 ?_
          refine lv_if_eq (tgt := 100) hx hb d_Replacer_putArgument_46 (by decide) (fun hc5 => ?_) (fun hc5 => ?_)
          · rw [if_pos hc5] at h
            exact (ih.2.2.2) T4 L M ls H locs h (lv_sub hl [0, 1, 2, 3, 4, 5, 6, 7] rfl) hP hD hS
          · rw [if_neg hc5] at h
            refine lv_iload hx hb d_Replacer_putArgument_49 (lv_at hl 7 rfl) ?_
            refine lv_iload_n hx hb d_Replacer_putArgument_51 rfl (lv_at hl 3 rfl) ?_
            refine lv_icmp_lt (tgt := 82) hx hb d_Replacer_putArgument_52 (by decide) (fun hc6 => ?_) (fun hc6 => ?_)
            · rw [if_pos hc6] at h
              exact (ih.2.2.1) T4 L M ls H locs h (lv_sub hl [0, 1, 2, 3, 4, 5, 6, 7] rfl) hP hD hS
            · rw [if_neg hc6] at h
              show W _ _ _ _ _ _ _ _ _ _ _ _ _ _ _ (F0 _ 55 _ _)
              refine lv_aload_n hx hb d_Replacer_putArgument_55 rfl (lv_at hl 0 rfl) ?_
              refine lv_iload_n hx hb d_Replacer_putArgument_56 rfl (lv_at hl 1 rfl) ?_
              refine lv_aload_n hx hb d_Replacer_putArgument_57 rfl (lv_at hl 0 rfl) ?_
              refine S_getR (h := shC) (C := "MacroMill$Replacer") (T := F_Replacer) hx hb htt in_Replacer hown hK hP 12 0 rfl 9 rfl rfl (by decide) (htt _ k_826) (fun _ h9 => h9) d_Replacer_putArgument_58 ?_
              refine S_getR (h := shC) (C := "MacroMill$Tokens") (T := F_Tokens) hx hb htt in_Tokens hown hK hP 9 5 rfl 52 rfl rfl (by decide) (htt _ k_646) (fun _ h9 => h9) d_Replacer_putArgument_61 ?_
              refine lv_iload hx hb d_Replacer_putArgument_64 (lv_at hl 6 rfl) ?_
              obtain ⟨hv7, h⟩ := chk h
              refine S_lald (h := shC) (i := L 6) hx hb hK hP 39 rfl (okI_in hv7) d_Replacer_putArgument_66 ?_
              refine lv_aload_n hx hb d_Replacer_putArgument_67 rfl (lv_at hl 0 rfl) ?_
              refine S_getR (h := shC) (C := "MacroMill$Replacer") (T := F_Replacer) hx hb htt in_Replacer hown hK hP 12 0 rfl 9 rfl rfl (by decide) (htt _ k_826) (fun _ h9 => h9) d_Replacer_putArgument_68 ?_
              refine S_getR (h := shC) (C := "MacroMill$Tokens") (T := F_Tokens) hx hb htt in_Tokens hown hK hP 9 6 rfl 53 rfl rfl (by decide) (htt _ k_650) (fun _ h9 => h9) d_Replacer_putArgument_71 ?_
              refine lv_iload hx hb d_Replacer_putArgument_74 (lv_at hl 6 rfl) ?_
              obtain ⟨hv8, h⟩ := chk h
              refine S_iald (h := shC) (i := L 6) hx hb hK hP 40 rfl (okI_in hv8) d_Replacer_putArgument_76 ?_
              show W _ _ _ _ _ _ _ _ _ _ _ _ _ _ _ (F0 _ 77 _ _)
              refine lv_iload hx hb d_Replacer_putArgument_77 (lv_at hl 4 rfl) ?_
              obtain ⟨⟨r9, T9⟩, hq9, h⟩ := Option.bind_eq_some_iff.mp h
              try dsimp only at h
              refine go_vS (As := [.ref (ad 12), .int (L 1), .long (T4.2.2 39 (L 6 : Int32).toNatClampNeg), .int (T4.2.1 40 (L 6 : Int32).toNatClampNeg), .int (L 4)]) (g := g) (A := A) (h := shC) hP hK hD hS hA hN (fun hp => va_runV (As := [.int (L 1), .long (T4.2.2 39 (L 6 : Int32).toNatClampNeg), .int (T4.2.1 40 (L 6 : Int32).toNatClampNeg), .int (L 4)]) (rest := []) ⟨hx, hb, hml, hown, htt⟩ (t_Replacer_put l g _ ad T4 (L 1 : Int32) (T4.2.2 39 (L 6 : Int32).toNatClampNeg : Int64) (T4.2.1 40 (L 6 : Int32).toNatClampNeg : Int32) (L 4 : Int32) k9 r9 T9 hq9) ⟨(cb_L htt k_1841 k_274 k_1838 hd_Replacer_put ⟨(Nat.le_trans (by decide +kernel) hRf), (Nat.le_trans (by decide +kernel) hRl)⟩), htt _ k_1840, htt _ k_74⟩ ⟨hp.1, S_recv hK hP 12 rfl rfl, hp.2⟩ rfl rfl hl.1 rfl (lv_room (Nat.le_of_ble_eq_true rfl)) d_Replacer_putArgument_79 ⟨hRc, hRs⟩) (fun Sn H locs hw9 hP hD hS => ?_)
              have e8 := hw9
              rw [e8] at hP hD
              refine W.widen (k := cells) (n := slots) (Nat.le_refl _) (Nat.le_refl _) ?_
              exact (ih.2.2.1) T9 L M ls H locs h (lv_sub hl [0, 1, 2, 3, 4, 5, 6, 7] rfl) hP hD hS
    · intro S L M ls H locs h hl hP hD hS
      simp only [f_Replacer_putArgument] at h
      refine lv_aload_n hx hb d_Replacer_putArgument_82 rfl (lv_at hl 0 rfl) ?_
      refine S_getR (h := shC) (C := "MacroMill$Replacer") (T := F_Replacer) hx hb htt in_Replacer hown hK hP 12 0 rfl 9 rfl rfl (by decide) (htt _ k_826) (fun _ h9 => h9) d_Replacer_putArgument_83 ?_
      refine S_getR (h := shC) (C := "MacroMill$Tokens") (T := F_Tokens) hx hb htt in_Tokens hown hK hP 9 7 rfl 54 rfl rfl (by decide) (htt _ k_655) (fun _ h9 => h9) d_Replacer_putArgument_86 ?_
      refine lv_iload hx hb d_Replacer_putArgument_89 (lv_at hl 6 rfl) ?_
      obtain ⟨hv1, h⟩ := chk h
      refine S_iald (h := shC) (i := L 6) hx hb hK hP 41 rfl (okI_in hv1) d_Replacer_putArgument_91 ?_
      refine lv_istore (lv' := [(6, .int (S.2.1 41 (L 6 : Int32).toNatClampNeg)), (0, .ref (ad 12)), (1, .int (L 1)), (2, .int (L 2)), (3, .int (L 3)), (4, .int (L 4)), (5, .int (L 5)), (7, .int (L 7))]) hx hb d_Replacer_putArgument_92 hl (by decide) rfl (fun ls hl => ?_)
      refine lv_iinc (k := 7) (v := (L 7) + 1) (lv' := [(7, .int ((L 7) + 1)), (6, .int (S.2.1 41 (L 6 : Int32).toNatClampNeg)), (0, .ref (ad 12)), (1, .int (L 1)), (2, .int (L 2)), (3, .int (L 3)), (4, .int (L 4)), (5, .int (L 5))]) hx hb d_Replacer_putArgument_94 hl rfl rfl (by decide) rfl (fun ls hl => ?_)
      refine lv_goto (tgt := 20) hx hb d_Replacer_putArgument_97 (by decide) ?_
      exact (ih.2.1) S (upd (upd L 6 (S.2.1 41 (L 6 : Int32).toNatClampNeg)) 7 ((L 7) + 1)) M ls H locs h (lv_sub hl [2, 3, 4, 5, 6, 7, 1, 0] rfl) hP hD hS
    · intro S L M ls H locs h hl hP hD hS
      simp only [f_Replacer_putArgument] at h
      cases h
      exact kx_100 ls H locs hP hD hS
abbrev rm_t_Replacer_putArgument : Room := { frames := 3, cells := 0, slots := 0, locals := 73 }
theorem t_Replacer_putArgument (l : Launch) (g : gG) (sz : Nat) (ad : Nat → Nat) (S : sS) (v1 : Int32) (v2 : Int32) (v3 : Int32) (v4 : Int32) (k : Nat) (r : Int32) (S9 : sS) (h : f_Replacer_putArgument k 0 S (upd (upd (upd (upd (fun _ => 0) 1 v1) 2 v2) 3 v3) 4 v4) (fun _ => 0) = some (r, S9)) : Cv l y_Replacer_putArgument b_Replacer_putArgument 8 rm_t_Replacer_putArgument g [.ref (ad 12), .int v1, .int v2, .int v3, .int v4] (Sw shC g ad S) sz (fun w => ∃ S1 : sS, w = Sw shC g ad S1 ∧ S1 = S9) := by
  refine startV (by decide) (Nat.le_of_ble_eq_true rfl) ?_
  intro p e s m below meth c A ls hx hb hr hml hlocks hmn hown htt hN hA hP hK hD hS hl
  exact (w_Replacer_putArgument hx hb hml hown htt hK hN hA (by decide +kernel) (by decide +kernel) (by decide +kernel) (by decide +kernel) r S9 (fun ls H locs hP hD hS => fin_v (g := g) (ws := Sw shC g ad S9) hx hb hr hlocks (by decide +kernel) (by decide +kernel) hP hD hS ⟨_, rfl, rfl⟩ d_Replacer_putArgument_100) k).1 S (upd (upd (upd (upd (fun _ => 0) 1 v1) 2 v2) 3 v3) 4 v4) (fun _ => 0) ls _ _ h hl hP hD hS
def f_Replacer_hasRoomForKept : Nat → Nat → sS → (Nat → Int32) → (Nat → Int64) → Option (Int32 × sS)
  | 0, _, _, _, _ => none
  | k + 1, 0, S, L, M => if okI (L 1) 1830 = true then (if (40000 : Int32) < ((S.1 2 8) + (S.2.1 69 (L 1 : Int32).toNatClampNeg)) then (f_Replacer_hasRoomForKept k 1 S L M) else (if okI (L 1) 1830 = true then (if (60000 : Int32) < ((S.1 9 2) + (S.2.1 70 (L 1 : Int32).toNatClampNeg)) then (f_Replacer_hasRoomForKept k 1 S L M) else (f_Replacer_hasRoomForKept k 2 S (upd L 100 (1 : Int32)) M)) else none)) else none
  | k + 1, 1, S, L, M => f_Replacer_hasRoomForKept k 2 S (upd L 100 (0 : Int32)) M
  | k + 1, 2, S, L, M => if bz (L 100) = true then some (L 100, S) else none
  | _ + 1, _ + 3, _, _, _ => none
set_option maxHeartbeats 8000000 in
set_option maxRecDepth 100000 in
theorem w_Replacer_hasRoomForKept {p : Program} {l : Launch} {e : Env} {R : Room} {s : State} {m : MethodId} {args : Array Value} {below : List Frame} {meth : Method} {c : Code} {cells slots : Nat} {Q : State → Prop} {g : gG} {A : Nat → Prop} {ad : Nat → Nat} (hx : p.tables.exec = Jvm.exec) (hb : c.code = b_Replacer_hasRoomForKept) (hml : c.maxLocals = 2) (hown : s.vm.findClass "MacroMill$Replacer" = some m.cls) (htt : ∀ w ∈ gt, w.before args s = true) (hK : va_K g.1 classes (tysG g) s) (hN : nw s) (hA : ∀ q : Nat, s.heap.size ≤ q → A q) (r : Int32) (S9 : sS)
    (kx_44 : ∀ (ls : Array Slot) (H : Heap) (locs : List Loc), narrow .boolean (.int r) = .int r → va_P g.1 classes (Sw shC g ad S9) H → va_D A (Sw shC g ad S9) → va_S A s.heap H locs → W p l e R s m args below meth c H locs cells slots Q (F0 m 44 ls [.int r])) :
    ∀ k9 : Nat, (∀ (S : sS) (L : Nat → Int32) (M : Nat → Int64) (ls : Array Slot) (H : Heap) (locs : List Loc), f_Replacer_hasRoomForKept k9 0 S L M = some (r, S9) → lv_has ls 2 [(0, .ref (ad 12)), (1, .int (L 1))] → va_P g.1 classes (Sw shC g ad S) H → va_D A (Sw shC g ad S) → va_S A s.heap H locs → W p l e R s m args below meth c H locs cells slots Q (F0 m 0 ls [])) ∧ (∀ (S : sS) (L : Nat → Int32) (M : Nat → Int64) (ls : Array Slot) (H : Heap) (locs : List Loc), f_Replacer_hasRoomForKept k9 1 S L M = some (r, S9) → lv_has ls 2 [(0, .ref (ad 12)), (1, .int (L 1))] → va_P g.1 classes (Sw shC g ad S) H → va_D A (Sw shC g ad S) → va_S A s.heap H locs → W p l e R s m args below meth c H locs cells slots Q (F0 m 43 ls [])) ∧ (∀ (S : sS) (L : Nat → Int32) (M : Nat → Int64) (ls : Array Slot) (H : Heap) (locs : List Loc), f_Replacer_hasRoomForKept k9 2 S L M = some (r, S9) → lv_has ls 2 [(0, .ref (ad 12)), (1, .int (L 1))] → va_P g.1 classes (Sw shC g ad S) H → va_D A (Sw shC g ad S) → va_S A s.heap H locs → W p l e R s m args below meth c H locs cells slots Q (F0 m 44 ls [.int (L 100)])) := by
  intro k9
  induction k9 with
  | zero => exact ⟨(fun _ _ _ _ _ _ h => by simp [f_Replacer_hasRoomForKept] at h), (fun _ _ _ _ _ _ h => by simp [f_Replacer_hasRoomForKept] at h), (fun _ _ _ _ _ _ h => by simp [f_Replacer_hasRoomForKept] at h)⟩
  | succ k9 ih =>
    refine ⟨?_, ?_, ?_⟩
    · intro S L M ls H locs h hl hP hD hS
      simp only [f_Replacer_hasRoomForKept] at h
      refine lv_aload_n hx hb d_Replacer_hasRoomForKept_0 rfl (lv_at hl 0 rfl) ?_
      refine S_getR (h := shC) (C := "MacroMill$Replacer") (T := F_Replacer) hx hb htt in_Replacer hown hK hP 12 3 rfl 2 rfl rfl (by decide) (htt _ k_829) (fun _ h9 => h9) d_Replacer_hasRoomForKept_1 ?_
      refine S_getI (h := shC) (C := "MacroMill$Outcome") (T := F_Outcome) hx hb htt in_Outcome hown hK hP 2 8 rfl rfl rfl (by decide) (htt _ k_360) (fun _ h9 => h9) d_Replacer_hasRoomForKept_4 ?_
      refine lv_aload_n hx hb d_Replacer_hasRoomForKept_7 rfl (lv_at hl 0 rfl) ?_
      refine S_getR (h := shC) (C := "MacroMill$Replacer") (T := F_Replacer) hx hb htt in_Replacer hown hK hP 12 9 rfl 82 rfl rfl (by decide) (htt _ k_835) (fun _ h9 => h9) d_Replacer_hasRoomForKept_8 ?_
      refine lv_iload_n hx hb d_Replacer_hasRoomForKept_11 rfl (lv_at hl 1 rfl) ?_
      obtain ⟨hv1, h⟩ := chk h
      refine S_iald (h := shC) (i := L 1) hx hb hK hP 69 rfl (okI_in hv1) d_Replacer_hasRoomForKept_12 ?_
      refine lv_iadd hx hb d_Replacer_hasRoomForKept_13 ?_
      refine lv_ldc (v := 40000) hx hb hown (htt _ k_1842) d_Replacer_hasRoomForKept_14 ?_
      refine lv_icmp_gt (tgt := 43) hx hb d_Replacer_hasRoomForKept_16 (by decide) (fun hc2 => ?_) (fun hc2 => ?_)
      · rw [if_pos hc2] at h
        exact (ih.2.1) S L M ls H locs h (lv_sub hl [0, 1] rfl) hP hD hS
      · rw [if_neg hc2] at h
        refine lv_aload_n hx hb d_Replacer_hasRoomForKept_19 rfl (lv_at hl 0 rfl) ?_
        refine S_getR (h := shC) (C := "MacroMill$Replacer") (T := F_Replacer) hx hb htt in_Replacer hown hK hP 12 0 rfl 9 rfl rfl (by decide) (htt _ k_826) (fun _ h9 => h9) d_Replacer_hasRoomForKept_20 ?_
        show W _ _ _ _ _ _ _ _ _ _ _ _ _ _ _ (F0 _ 23 _ _)
        refine S_getI (h := shC) (C := "MacroMill$Tokens") (T := F_Tokens) hx hb htt in_Tokens hown hK hP 9 2 rfl rfl rfl (by decide) (htt _ k_640) (fun _ h9 => h9) d_Replacer_hasRoomForKept_23 ?_
        refine lv_aload_n hx hb d_Replacer_hasRoomForKept_26 rfl (lv_at hl 0 rfl) ?_
        refine S_getR (h := shC) (C := "MacroMill$Replacer") (T := F_Replacer) hx hb htt in_Replacer hown hK hP 12 10 rfl 83 rfl rfl (by decide) (htt _ k_836) (fun _ h9 => h9) d_Replacer_hasRoomForKept_27 ?_
        refine lv_iload_n hx hb d_Replacer_hasRoomForKept_30 rfl (lv_at hl 1 rfl) ?_
        obtain ⟨hv3, h⟩ := chk h
        refine S_iald (h := shC) (i := L 1) hx hb hK hP 70 rfl (okI_in hv3) d_Replacer_hasRoomForKept_31 ?_
        refine lv_iadd hx hb d_Replacer_hasRoomForKept_32 ?_
        refine lv_ldcw (v := 60000) hx hb hown (htt _ k_1906) d_Replacer_hasRoomForKept_33 ?_
        refine lv_icmp_gt (tgt := 43) hx hb d_Replacer_hasRoomForKept_36 (by decide) (fun hc4 => ?_) (fun hc4 => ?_)
        · rw [if_pos hc4] at h
          exact (ih.2.1) S L M ls H locs h (lv_sub hl [0, 1] rfl) hP hD hS
        · rw [if_neg hc4] at h
          refine lv_iconst (v := 1) hx hb d_Replacer_hasRoomForKept_39 (by decide) ?_
          refine lv_goto (tgt := 44) hx hb d_Replacer_hasRoomForKept_40 (by decide) ?_
          exact (ih.2.2) S (upd L 100 (1 : Int32)) M ls H locs h (lv_sub hl [0, 1] rfl) hP hD hS
    · intro S L M ls H locs h hl hP hD hS
      simp only [f_Replacer_hasRoomForKept] at h
      refine lv_iconst (v := 0) hx hb d_Replacer_hasRoomForKept_43 (by decide) ?_
      exact (ih.2.2) S (upd L 100 (0 : Int32)) M ls H locs h (lv_sub hl [0, 1] rfl) hP hD hS
    · intro S L M ls H locs h hl hP hD hS
      simp only [f_Replacer_hasRoomForKept] at h
      obtain ⟨hv1, h⟩ := chk h
      cases h
      exact kx_44 ls H locs (bz_n hv1) hP hD hS
abbrev rm_t_Replacer_hasRoomForKept : Room := { frames := 0, cells := 0, slots := 0, locals := 0 }
theorem t_Replacer_hasRoomForKept (l : Launch) (g : gG) (sz : Nat) (ad : Nat → Nat) (S : sS) (v1 : Int32) (k : Nat) (r : Int32) (S9 : sS) (h : f_Replacer_hasRoomForKept k 0 S (upd (fun _ => 0) 1 v1) (fun _ => 0) = some (r, S9)) : Cz l y_Replacer_hasRoomForKept b_Replacer_hasRoomForKept 2 rm_t_Replacer_hasRoomForKept g [.ref (ad 12), .int v1] (Sw shC g ad S) sz (fun r1 w => ∃ S1 : sS, w = Sw shC g ad S1 ∧ r1 = r ∧ S1 = S9) := by
  refine startZ (by decide) (Nat.le_of_ble_eq_true rfl) ?_
  intro p e s m below meth c A ls hx hb hr hml hlocks hmn hown htt hN hA hP hK hD hS hl
  exact (w_Replacer_hasRoomForKept hx hb hml hown htt hK hN hA r S9 (fun ls H locs hz hP hD hS => fin_z (g := g) (ws := Sw shC g ad S9) hx hb hr hlocks hz (by decide +kernel) (by decide +kernel) hP hD hS ⟨_, rfl, rfl, rfl⟩ d_Replacer_hasRoomForKept_44) k).1 S (upd (fun _ => 0) 1 v1) (fun _ => 0) ls _ _ h hl hP hD hS
def f_Replacer_putKept : Nat → Nat → sS → (Nat → Int32) → (Nat → Int64) → Option (Int32 × sS)
  | 0, _, _, _, _ => none
  | k + 1, 0, S, L, M => if okI (L 2) 1830 = true then (if okI (L 2) 1830 = true then (if okI (L 2) 1830 = true then (f_Replacer_putKept k 1 (putI (putI S 2 8 ((S.1 2 8) + (S.2.1 69 (L 2 : Int32).toNatClampNeg))) 9 2 ((S.1 9 2) + ((putI S 2 8 ((S.1 2 8) + (S.2.1 69 (L 2 : Int32).toNatClampNeg))).2.1 70 (L 2 : Int32).toNatClampNeg))) (upd (upd L 4 ((putI (putI S 2 8 ((S.1 2 8) + (S.2.1 69 (L 2 : Int32).toNatClampNeg))) 9 2 ((S.1 9 2) + ((putI S 2 8 ((S.1 2 8) + (S.2.1 69 (L 2 : Int32).toNatClampNeg))).2.1 70 (L 2 : Int32).toNatClampNeg))).2.1 66 (L 2 : Int32).toNatClampNeg)) 5 (0 : Int32)) M) else none) else none) else none
  | k + 1, 1, S, L, M => if okI (L 2) 1830 = true then (if (S.2.1 68 (L 2 : Int32).toNatClampNeg) ≤ (L 5) then (f_Replacer_putKept k 2 S L M) else ((f_Outcome_isFine k 0 S (fun _ => 0) (fun _ => 0)).bind (fun (r3, T3) => if r3 = (0 : Int32) then (f_Replacer_putKept k 2 T3 L M) else (if okI (L 4) 120784 = true then (if okI (L 4) 120784 = true then ((f_Replacer_put k 0 T3 (upd (upd (upd (fun _ => 0) 1 (L 1 : Int32)) 4 (T3.2.1 40 (L 4 : Int32).toNatClampNeg : Int32)) 5 (L 3 : Int32)) (vp_updL (fun _ => 0) 2 (T3.2.2 39 (L 4 : Int32).toNatClampNeg : Int64))).bind (fun (r7, T7) => if okI (L 4) 120784 = true then (f_Replacer_putKept k 1 T7 (upd (upd L 4 (T7.2.1 41 (L 4 : Int32).toNatClampNeg)) 5 ((L 5) + 1)) M) else none)) else none) else none)))) else none
  | k + 1, 2, S, L, M => some ((0 : Int32), S)
  | _ + 1, _ + 3, _, _, _ => none
set_option maxHeartbeats 8000000 in
set_option maxRecDepth 100000 in
theorem w_Replacer_putKept {p : Program} {l : Launch} {e : Env} {R : Room} {s : State} {m : MethodId} {args : Array Value} {below : List Frame} {meth : Method} {c : Code} {cells slots : Nat} {Q : State → Prop} {g : gG} {A : Nat → Prop} {ad : Nat → Nat} (hx : p.tables.exec = Jvm.exec) (hb : c.code = b_Replacer_putKept) (hml : c.maxLocals = 6) (hown : s.vm.findClass "MacroMill$Replacer" = some m.cls) (htt : ∀ w ∈ gt, w.before args s = true) (hK : va_K g.1 classes (tysG g) s) (hN : nw s) (hA : ∀ q : Nat, s.heap.size ≤ q → A q) (hRf : 3 ≤ R.frames) (hRl : 73 ≤ R.locals) (hRc : cells ≤ R.cells) (hRs : slots ≤ R.slots) (r : Int32) (S9 : sS)
    (kx_112 : ∀ (ls : Array Slot) (H : Heap) (locs : List Loc), va_P g.1 classes (Sw shC g ad S9) H → va_D A (Sw shC g ad S9) → va_S A s.heap H locs → W p l e R s m args below meth c H locs cells slots Q (F0 m 112 ls [])) :
    ∀ k9 : Nat, (∀ (S : sS) (L : Nat → Int32) (M : Nat → Int64) (ls : Array Slot) (H : Heap) (locs : List Loc), f_Replacer_putKept k9 0 S L M = some (r, S9) → lv_has ls 6 [(0, .ref (ad 12)), (1, .int (L 1)), (2, .int (L 2)), (3, .int (L 3))] → va_P g.1 classes (Sw shC g ad S) H → va_D A (Sw shC g ad S) → va_S A s.heap H locs → W p l e R s m args below meth c H locs cells slots Q (F0 m 0 ls [])) ∧ (∀ (S : sS) (L : Nat → Int32) (M : Nat → Int64) (ls : Array Slot) (H : Heap) (locs : List Loc), f_Replacer_putKept k9 1 S L M = some (r, S9) → lv_has ls 6 [(0, .ref (ad 12)), (1, .int (L 1)), (2, .int (L 2)), (3, .int (L 3)), (4, .int (L 4)), (5, .int (L 5))] → va_P g.1 classes (Sw shC g ad S) H → va_D A (Sw shC g ad S) → va_S A s.heap H locs → W p l e R s m args below meth c H locs cells slots Q (F0 m 47 ls [])) ∧ (∀ (S : sS) (L : Nat → Int32) (M : Nat → Int64) (ls : Array Slot) (H : Heap) (locs : List Loc), f_Replacer_putKept k9 2 S L M = some (r, S9) → lv_has ls 6 [(0, .ref (ad 12)), (1, .int (L 1)), (2, .int (L 2)), (3, .int (L 3)), (4, .int (L 4)), (5, .int (L 5))] → va_P g.1 classes (Sw shC g ad S) H → va_D A (Sw shC g ad S) → va_S A s.heap H locs → W p l e R s m args below meth c H locs cells slots Q (F0 m 112 ls [])) := by
  intro k9
  induction k9 with
  | zero => exact ⟨(fun _ _ _ _ _ _ h => by simp [f_Replacer_putKept] at h), (fun _ _ _ _ _ _ h => by simp [f_Replacer_putKept] at h), (fun _ _ _ _ _ _ h => by simp [f_Replacer_putKept] at h)⟩
  | succ k9 ih =>
    refine ⟨?_, ?_, ?_⟩
    · intro S L M ls H locs h hl hP hD hS
      simp only [f_Replacer_putKept] at h
      refine lv_aload_n hx hb d_Replacer_putKept_0 rfl (lv_at hl 0 rfl) ?_
      refine S_getR (h := shC) (C := "MacroMill$Replacer") (T := F_Replacer) hx hb htt in_Replacer hown hK hP 12 3 rfl 2 rfl rfl (by decide) (htt _ k_829) (fun _ h9 => h9) d_Replacer_putKept_1 ?_
      refine lv_dup hx hb d_Replacer_putKept_4 rfl ?_
      refine S_getI (h := shC) (C := "MacroMill$Outcome") (T := F_Outcome) hx hb htt in_Outcome hown hK hP 2 8 rfl rfl rfl (by decide) (htt _ k_360) (fun _ h9 => h9) d_Replacer_putKept_5 ?_
      refine lv_aload_n hx hb d_Replacer_putKept_8 rfl (lv_at hl 0 rfl) ?_
      refine S_getR (h := shC) (C := "MacroMill$Replacer") (T := F_Replacer) hx hb htt in_Replacer hown hK hP 12 9 rfl 82 rfl rfl (by decide) (htt _ k_835) (fun _ h9 => h9) d_Replacer_putKept_9 ?_
      refine lv_iload_n hx hb d_Replacer_putKept_12 rfl (lv_at hl 2 rfl) ?_
      obtain ⟨hv1, h⟩ := chk h
      refine S_iald (h := shC) (i := L 2) hx hb hK hP 69 rfl (okI_in hv1) d_Replacer_putKept_13 ?_
      refine lv_iadd hx hb d_Replacer_putKept_14 ?_
      refine S_put (h := shC) (C := "MacroMill$Outcome") (T := F_Outcome) (v := (S.1 2 8) + (S.2.1 69 (L 2 : Int32).toNatClampNeg)) hx hb htt in_Outcome t_Outcome t_Outcome_ok n_Outcome hown hK hP hD hS 2 8 rfl rfl rfl (by decide) (htt _ k_360) (fun _ h9 => h9) rfl rfl rfl d_Replacer_putKept_15 (fun H locs hP hD hS => ?_)
      refine lv_aload_n hx hb d_Replacer_putKept_18 rfl (lv_at hl 0 rfl) ?_
      show W _ _ _ _ _ _ _ _ _ _ _ _ _ _ _ (F0 _ 19 _ _)
      refine S_getR (h := shC) (C := "MacroMill$Replacer") (T := F_Replacer) hx hb htt in_Replacer hown hK hP 12 0 rfl 9 rfl rfl (by decide) (htt _ k_826) (fun _ h9 => h9) d_Replacer_putKept_19 ?_
      refine lv_dup hx hb d_Replacer_putKept_22 rfl ?_
      refine S_getI (h := shC) (C := "MacroMill$Tokens") (T := F_Tokens) hx hb htt in_Tokens hown hK hP 9 2 rfl rfl rfl (by decide) (htt _ k_640) (fun _ h9 => h9) d_Replacer_putKept_23 ?_
      refine toI (y := S.1 9 2) rfl ?_
      refine lv_aload_n hx hb d_Replacer_putKept_26 rfl (lv_at hl 0 rfl) ?_
      refine S_getR (h := shC) (C := "MacroMill$Replacer") (T := F_Replacer) hx hb htt in_Replacer hown hK hP 12 10 rfl 83 rfl rfl (by decide) (htt _ k_836) (fun _ h9 => h9) d_Replacer_putKept_27 ?_
      refine lv_iload_n hx hb d_Replacer_putKept_30 rfl (lv_at hl 2 rfl) ?_
      obtain ⟨hv2, h⟩ := chk h
      refine S_iald (h := shC) (i := L 2) hx hb hK hP 70 rfl (okI_in hv2) d_Replacer_putKept_31 ?_
      refine lv_iadd hx hb d_Replacer_putKept_32 ?_
      refine S_put (h := shC) (C := "MacroMill$Tokens") (T := F_Tokens) (v := (S.1 9 2) + ((putI S 2 8 ((S.1 2 8) + (S.2.1 69 (L 2 : Int32).toNatClampNeg))).2.1 70 (L 2 : Int32).toNatClampNeg)) hx hb htt in_Tokens t_Tokens t_Tokens_ok n_Tokens hown hK hP hD hS 9 2 rfl rfl rfl (by decide) (htt _ k_640) (fun _ h9 => h9) rfl rfl rfl d_Replacer_putKept_33 (fun H locs hP hD hS => ?_)
      refine lv_aload_n hx hb d_Replacer_putKept_36 rfl (lv_at hl 0 rfl) ?_
      refine S_getR (h := shC) (C := "MacroMill$Replacer") (T := F_Replacer) hx hb htt in_Replacer hown hK hP 12 6 rfl 79 rfl rfl (by decide) (htt _ k_832) (fun _ h9 => h9) d_Replacer_putKept_37 ?_
      refine lv_iload_n hx hb d_Replacer_putKept_40 rfl (lv_at hl 2 rfl) ?_
      obtain ⟨hv3, h⟩ := chk h
      show W _ _ _ _ _ _ _ _ _ _ _ _ _ _ _ (F0 _ 41 _ _)
      refine S_iald (h := shC) (i := L 2) hx hb hK hP 66 rfl (okI_in hv3) d_Replacer_putKept_41 ?_
      refine lv_istore (lv' := [(4, .int ((putI (putI S 2 8 ((S.1 2 8) + (S.2.1 69 (L 2 : Int32).toNatClampNeg))) 9 2 ((S.1 9 2) + ((putI S 2 8 ((S.1 2 8) + (S.2.1 69 (L 2 : Int32).toNatClampNeg))).2.1 70 (L 2 : Int32).toNatClampNeg))).2.1 66 (L 2 : Int32).toNatClampNeg)), (0, .ref (ad 12)), (1, .int (L 1)), (2, .int (L 2)), (3, .int (L 3))]) hx hb d_Replacer_putKept_42 hl (by decide) rfl (fun ls hl => ?_)
      refine lv_iconst (v := 0) hx hb d_Replacer_putKept_44 (by decide) ?_
      refine lv_istore (lv' := [(5, .int 0), (4, .int ((putI (putI S 2 8 ((S.1 2 8) + (S.2.1 69 (L 2 : Int32).toNatClampNeg))) 9 2 ((S.1 9 2) + ((putI S 2 8 ((S.1 2 8) + (S.2.1 69 (L 2 : Int32).toNatClampNeg))).2.1 70 (L 2 : Int32).toNatClampNeg))).2.1 66 (L 2 : Int32).toNatClampNeg)), (0, .ref (ad 12)), (1, .int (L 1)), (2, .int (L 2)), (3, .int (L 3))]) hx hb d_Replacer_putKept_45 hl (by decide) rfl (fun ls hl => ?_)
      exact (ih.2.1) (putI (putI S 2 8 ((S.1 2 8) + (S.2.1 69 (L 2 : Int32).toNatClampNeg))) 9 2 ((S.1 9 2) + ((putI S 2 8 ((S.1 2 8) + (S.2.1 69 (L 2 : Int32).toNatClampNeg))).2.1 70 (L 2 : Int32).toNatClampNeg))) (upd (upd L 4 ((putI (putI S 2 8 ((S.1 2 8) + (S.2.1 69 (L 2 : Int32).toNatClampNeg))) 9 2 ((S.1 9 2) + ((putI S 2 8 ((S.1 2 8) + (S.2.1 69 (L 2 : Int32).toNatClampNeg))).2.1 70 (L 2 : Int32).toNatClampNeg))).2.1 66 (L 2 : Int32).toNatClampNeg)) 5 (0 : Int32)) M ls H locs h (lv_sub hl [2, 3, 4, 5, 1, 0] rfl) hP hD hS
    · intro S L M ls H locs h hl hP hD hS
      simp only [f_Replacer_putKept] at h
      refine lv_iload hx hb d_Replacer_putKept_47 (lv_at hl 5 rfl) ?_
      refine lv_aload_n hx hb d_Replacer_putKept_49 rfl (lv_at hl 0 rfl) ?_
      refine S_getR (h := shC) (C := "MacroMill$Replacer") (T := F_Replacer) hx hb htt in_Replacer hown hK hP 12 8 rfl 81 rfl rfl (by decide) (htt _ k_834) (fun _ h9 => h9) d_Replacer_putKept_50 ?_
      refine lv_iload_n hx hb d_Replacer_putKept_53 rfl (lv_at hl 2 rfl) ?_
      obtain ⟨hv1, h⟩ := chk h
      refine S_iald (h := shC) (i := L 2) hx hb hK hP 68 rfl (okI_in hv1) d_Replacer_putKept_54 ?_
      refine lv_icmp_ge (tgt := 112) hx hb d_Replacer_putKept_55 (by decide) (fun hc2 => ?_) (fun hc2 => ?_)
      · rw [if_pos hc2] at h
        exact (ih.2.2) S L M ls H locs h (lv_sub hl [0, 1, 2, 3, 4, 5] rfl) hP hD hS
      · rw [if_neg hc2] at h
        refine lv_aload_n hx hb d_Replacer_putKept_58 rfl (lv_at hl 0 rfl) ?_
        refine S_getR (h := shC) (C := "MacroMill$Replacer") (T := F_Replacer) hx hb htt in_Replacer hown hK hP 12 3 rfl 2 rfl rfl (by decide) (htt _ k_829) (fun _ h9 => h9) d_Replacer_putKept_59 ?_
        obtain ⟨⟨r3, T3⟩, hq3, h⟩ := Option.bind_eq_some_iff.mp h
        try dsimp only at h
        refine go_iS (As := [.ref (ad 2)]) (g := g) (A := A) (h := shC) hP hK hD hS hA hN (fun hp => va_runV (As := []) (rest := []) ⟨hx, hb, hml, hown, htt⟩ (t_Outcome_isFine l g _ ad S k9 r3 T3 hq3) ⟨(cb_L htt k_1181 k_264 k_1726 hd_Outcome_isFine ⟨(Nat.le_trans (by decide +kernel) hRf), (Nat.le_trans (by decide +kernel) hRl)⟩), htt _ k_1179, htt _ k_1180⟩ ⟨hp.1, S_recv hK hP 2 rfl rfl, hp.2⟩ rfl rfl hl.1 rfl (lv_room (Nat.le_of_ble_eq_true rfl)) d_Replacer_putKept_62 ⟨hRc, hRs⟩) (fun r0 Sn H locs hw9 hP hD hS => ?_)
        obtain ⟨e9, e8⟩ := hw9
        rw [e8] at hP hD
        refine W.widen (k := cells) (n := slots) (Nat.le_refl _) (Nat.le_refl _) ?_
        refine toI (y := r3) e9 ?_
        refine lv_if_eq (tgt := 112) hx hb d_Replacer_putKept_65 (by decide) (fun hc4 => ?_) (fun hc4 => ?_)
        · rw [if_pos hc4] at h
          exact (ih.2.2) T3 L M ls H locs h (lv_sub hl [0, 1, 2, 3, 4, 5] rfl) hP hD hS
        · rw [if_neg hc4] at h
          refine lv_aload_n hx hb d_Replacer_putKept_68 rfl (lv_at hl 0 rfl) ?_
          refine lv_iload_n hx hb d_Replacer_putKept_69 rfl (lv_at hl 1 rfl) ?_
          refine lv_aload_n hx hb d_Replacer_putKept_70 rfl (lv_at hl 0 rfl) ?_
          refine S_getR (h := shC) (C := "MacroMill$Replacer") (T := F_Replacer) hx hb htt in_Replacer hown hK hP 12 0 rfl 9 rfl rfl (by decide) (htt _ k_826) (fun _ h9 => h9) d_Replacer_putKept_71 ?_
          show W _ _ _ _ _ _ _ _ _ _ _ _ _ _ _ (F0 _ 74 _ _)
          refine S_getR (h := shC) (C := "MacroMill$Tokens") (T := F_Tokens) hx hb htt in_Tokens hown hK hP 9 5 rfl 52 rfl rfl (by decide) (htt _ k_646) (fun _ h9 => h9) d_Replacer_putKept_74 ?_
          refine lv_iload hx hb d_Replacer_putKept_77 (lv_at hl 4 rfl) ?_
          obtain ⟨hv5, h⟩ := chk h
          refine S_lald (h := shC) (i := L 4) hx hb hK hP 39 rfl (okI_in hv5) d_Replacer_putKept_79 ?_
          refine lv_aload_n hx hb d_Replacer_putKept_80 rfl (lv_at hl 0 rfl) ?_
          refine S_getR (h := shC) (C := "MacroMill$Replacer") (T := F_Replacer) hx hb htt in_Replacer hown hK hP 12 0 rfl 9 rfl rfl (by decide) (htt _ k_826) (fun _ h9 => h9) d_Replacer_putKept_81 ?_
          refine S_getR (h := shC) (C := "MacroMill$Tokens") (T := F_Tokens) hx hb htt in_Tokens hown hK hP 9 6 rfl 53 rfl rfl (by decide) (htt _ k_650) (fun _ h9 => h9) d_Replacer_putKept_84 ?_
          refine lv_iload hx hb d_Replacer_putKept_87 (lv_at hl 4 rfl) ?_
          obtain ⟨hv6, h⟩ := chk h
          refine S_iald (h := shC) (i := L 4) hx hb hK hP 40 rfl (okI_in hv6) d_Replacer_putKept_89 ?_
          refine lv_iload_n hx hb d_Replacer_putKept_90 rfl (lv_at hl 3 rfl) ?_
          obtain ⟨⟨r7, T7⟩, hq7, h⟩ := Option.bind_eq_some_iff.mp h
          try dsimp only at h
          refine go_vS (As := [.ref (ad 12), .int (L 1), .long (T3.2.2 39 (L 4 : Int32).toNatClampNeg), .int (T3.2.1 40 (L 4 : Int32).toNatClampNeg), .int (L 3)]) (g := g) (A := A) (h := shC) hP hK hD hS hA hN (fun hp => va_runV (As := [.int (L 1), .long (T3.2.2 39 (L 4 : Int32).toNatClampNeg), .int (T3.2.1 40 (L 4 : Int32).toNatClampNeg), .int (L 3)]) (rest := []) ⟨hx, hb, hml, hown, htt⟩ (t_Replacer_put l g _ ad T3 (L 1 : Int32) (T3.2.2 39 (L 4 : Int32).toNatClampNeg : Int64) (T3.2.1 40 (L 4 : Int32).toNatClampNeg : Int32) (L 3 : Int32) k9 r7 T7 hq7) ⟨(cb_L htt k_1841 k_274 k_1838 hd_Replacer_put ⟨(Nat.le_trans (by decide +kernel) hRf), (Nat.le_trans (by decide +kernel) hRl)⟩), htt _ k_1840, htt _ k_74⟩ ⟨hp.1, S_recv hK hP 12 rfl rfl, hp.2⟩ rfl rfl hl.1 rfl (lv_room (Nat.le_of_ble_eq_true rfl)) d_Replacer_putKept_91 ⟨hRc, hRs⟩) (fun Sn H locs hw9 hP hD hS => ?_)
          have e8 := hw9
          rw [e8] at hP hD
          refine W.widen (k := cells) (n := slots) (Nat.le_refl _) (Nat.le_refl _) ?_
          refine lv_aload_n hx hb d_Replacer_putKept_94 rfl (lv_at hl 0 rfl) ?_
          refine S_getR (h := shC) (C := "MacroMill$Replacer") (T := F_Replacer) hx hb htt in_Replacer hown hK hP 12 0 rfl 9 rfl rfl (by decide) (htt _ k_826) (fun _ h9 => h9) d_Replacer_putKept_95 ?_
          refine S_getR (h := shC) (C := "MacroMill$Tokens") (T := F_Tokens) hx hb htt in_Tokens hown hK hP 9 7 rfl 54 rfl rfl (by decide) (htt _ k_655) (fun _ h9 => h9) d_Replacer_putKept_98 ?_
          show W _ _ _ _ _ _ _ _ _ _ _ _ _ _ _ (F0 _ 101 _ _)
          refine lv_iload hx hb d_Replacer_putKept_101 (lv_at hl 4 rfl) ?_
          obtain ⟨hv8, h⟩ := chk h
          refine S_iald (h := shC) (i := L 4) hx hb hK hP 41 rfl (okI_in hv8) d_Replacer_putKept_103 ?_
          refine lv_istore (lv' := [(4, .int (T7.2.1 41 (L 4 : Int32).toNatClampNeg)), (0, .ref (ad 12)), (1, .int (L 1)), (2, .int (L 2)), (3, .int (L 3)), (5, .int (L 5))]) hx hb d_Replacer_putKept_104 hl (by decide) rfl (fun ls hl => ?_)
          refine lv_iinc (k := 5) (v := (L 5) + 1) (lv' := [(5, .int ((L 5) + 1)), (4, .int (T7.2.1 41 (L 4 : Int32).toNatClampNeg)), (0, .ref (ad 12)), (1, .int (L 1)), (2, .int (L 2)), (3, .int (L 3))]) hx hb d_Replacer_putKept_106 hl rfl rfl (by decide) rfl (fun ls hl => ?_)
          refine lv_goto (tgt := 47) hx hb d_Replacer_putKept_109 (by decide) ?_
          exact (ih.2.1) T7 (upd (upd L 4 (T7.2.1 41 (L 4 : Int32).toNatClampNeg)) 5 ((L 5) + 1)) M ls H locs h (lv_sub hl [2, 3, 4, 5, 1, 0] rfl) hP hD hS
    · intro S L M ls H locs h hl hP hD hS
      simp only [f_Replacer_putKept] at h
      cases h
      exact kx_112 ls H locs hP hD hS
abbrev rm_t_Replacer_putKept : Room := { frames := 3, cells := 0, slots := 0, locals := 73 }
theorem t_Replacer_putKept (l : Launch) (g : gG) (sz : Nat) (ad : Nat → Nat) (S : sS) (v1 : Int32) (v2 : Int32) (v3 : Int32) (k : Nat) (r : Int32) (S9 : sS) (h : f_Replacer_putKept k 0 S (upd (upd (upd (fun _ => 0) 1 v1) 2 v2) 3 v3) (fun _ => 0) = some (r, S9)) : Cv l y_Replacer_putKept b_Replacer_putKept 6 rm_t_Replacer_putKept g [.ref (ad 12), .int v1, .int v2, .int v3] (Sw shC g ad S) sz (fun w => ∃ S1 : sS, w = Sw shC g ad S1 ∧ S1 = S9) := by
  refine startV (by decide) (Nat.le_of_ble_eq_true rfl) ?_
  intro p e s m below meth c A ls hx hb hr hml hlocks hmn hown htt hN hA hP hK hD hS hl
  exact (w_Replacer_putKept hx hb hml hown htt hK hN hA (by decide +kernel) (by decide +kernel) (by decide +kernel) (by decide +kernel) r S9 (fun ls H locs hP hD hS => fin_v (g := g) (ws := Sw shC g ad S9) hx hb hr hlocks (by decide +kernel) (by decide +kernel) hP hD hS ⟨_, rfl, rfl⟩ d_Replacer_putKept_112) k).1 S (upd (upd (upd (fun _ => 0) 1 v1) 2 v2) 3 v3) (fun _ => 0) ls _ _ h hl hP hD hS
def f_Replacer_spellWithin : Nat → Nat → sS → (Nat → Int32) → (Nat → Int64) → Option (Int32 × sS)
  | 0, _, _, _, _ => none
  | k + 1, 0, S, L, M => (f_Tokens_kind k 0 S (upd (fun _ => 0) 1 (L 1 : Int32)) (fun _ => 0)).bind (fun (r1, T1) => if r1 = (3 : Int32) then (f_Replacer_spellWithin k 1 T1 L M) else ((f_Tokens_kind k 0 T1 (upd (fun _ => 0) 1 (L 1 : Int32)) (fun _ => 0)).bind (fun (r3, T3) => if r3 = (4 : Int32) then (f_Replacer_spellWithin k 1 T3 L M) else (f_Replacer_spellWithin k 2 T3 (upd L 100 (0 : Int32)) M))))
  | k + 1, 1, S, L, M => f_Replacer_spellWithin k 2 S (upd L 100 (1 : Int32)) M
  | k + 1, 2, S, L, M => (f_Tokens_from k 0 S (upd (fun _ => 0) 1 (L 1 : Int32)) (fun _ => 0)).bind (fun (r1, T1) => (f_Tokens_length k 0 T1 (upd (fun _ => 0) 1 (L 1 : Int32)) (fun _ => 0)).bind (fun (r2, T2) => f_Replacer_spellWithin k 3 T2 (upd (upd (upd (upd L 2 (L 100)) 3 r1) 4 (r1 + r2)) 5 r1) M))
  | k + 1, 3, S, L, M => if (L 4) ≤ (L 5) then (f_Replacer_spellWithin k 6 S L M) else ((f_Tokens_isOverfull k 0 S (fun _ => 0) (fun _ => 0)).bind (fun (r2, T2) => if r2 = (0 : Int32) then (if okI (L 5) 125538 = true then (if (L 2) = (0 : Int32) then (f_Replacer_spellWithin k 5 T2 (upd L 6 (T2.2.1 37 (L 5 : Int32).toNatClampNeg)) M) else (if (T2.2.1 37 (L 5 : Int32).toNatClampNeg) = (34 : Int32) then (f_Replacer_spellWithin k 4 T2 (upd L 6 (T2.2.1 37 (L 5 : Int32).toNatClampNeg)) M) else (if (T2.2.1 37 (L 5 : Int32).toNatClampNeg) = (92 : Int32) then (f_Replacer_spellWithin k 4 T2 (upd L 6 (T2.2.1 37 (L 5 : Int32).toNatClampNeg)) M) else (f_Replacer_spellWithin k 5 T2 (upd L 6 (T2.2.1 37 (L 5 : Int32).toNatClampNeg)) M)))) else none) else (f_Replacer_spellWithin k 6 T2 L M)))
  | k + 1, 4, S, L, M => (f_Tokens_make k 0 S (upd (fun _ => 0) 1 (92 : Int32)) (fun _ => 0)).bind (fun (r1, T1) => f_Replacer_spellWithin k 5 T1 L M)
  | k + 1, 5, S, L, M => (f_Tokens_make k 0 S (upd (fun _ => 0) 1 (L 6 : Int32)) (fun _ => 0)).bind (fun (r1, T1) => f_Replacer_spellWithin k 3 T1 (upd L 5 ((L 5) + 1)) M)
  | k + 1, 6, S, L, M => some ((0 : Int32), S)
  | _ + 1, _ + 7, _, _, _ => none
set_option maxHeartbeats 8000000 in
set_option maxRecDepth 100000 in
theorem w_Replacer_spellWithin {p : Program} {l : Launch} {e : Env} {R : Room} {s : State} {m : MethodId} {args : Array Value} {below : List Frame} {meth : Method} {c : Code} {cells slots : Nat} {Q : State → Prop} {g : gG} {A : Nat → Prop} {ad : Nat → Nat} (hx : p.tables.exec = Jvm.exec) (hb : c.code = b_Replacer_spellWithin) (hml : c.maxLocals = 7) (hown : s.vm.findClass "MacroMill$Replacer" = some m.cls) (htt : ∀ w ∈ gt, w.before args s = true) (hK : va_K g.1 classes (tysG g) s) (hN : nw s) (hA : ∀ q : Nat, s.heap.size ≤ q → A q) (hRf : 1 ≤ R.frames) (hRl : 21 ≤ R.locals) (hRc : cells ≤ R.cells) (hRs : slots ≤ R.slots) (r : Int32) (S9 : sS)
    (kx_125 : ∀ (ls : Array Slot) (H : Heap) (locs : List Loc), va_P g.1 classes (Sw shC g ad S9) H → va_D A (Sw shC g ad S9) → va_S A s.heap H locs → W p l e R s m args below meth c H locs cells slots Q (F0 m 125 ls [])) :
    ∀ k9 : Nat, (∀ (S : sS) (L : Nat → Int32) (M : Nat → Int64) (ls : Array Slot) (H : Heap) (locs : List Loc), f_Replacer_spellWithin k9 0 S L M = some (r, S9) → lv_has ls 7 [(0, .ref (ad 12)), (1, .int (L 1))] → va_P g.1 classes (Sw shC g ad S) H → va_D A (Sw shC g ad S) → va_S A s.heap H locs → W p l e R s m args below meth c H locs cells slots Q (F0 m 0 ls [])) ∧ (∀ (S : sS) (L : Nat → Int32) (M : Nat → Int64) (ls : Array Slot) (H : Heap) (locs : List Loc), f_Replacer_spellWithin k9 1 S L M = some (r, S9) → lv_has ls 7 [(0, .ref (ad 12)), (1, .int (L 1))] → va_P g.1 classes (Sw shC g ad S) H → va_D A (Sw shC g ad S) → va_S A s.heap H locs → W p l e R s m args below meth c H locs cells slots Q (F0 m 24 ls [])) ∧ (∀ (S : sS) (L : Nat → Int32) (M : Nat → Int64) (ls : Array Slot) (H : Heap) (locs : List Loc), f_Replacer_spellWithin k9 2 S L M = some (r, S9) → lv_has ls 7 [(0, .ref (ad 12)), (1, .int (L 1))] → va_P g.1 classes (Sw shC g ad S) H → va_D A (Sw shC g ad S) → va_S A s.heap H locs → W p l e R s m args below meth c H locs cells slots Q (F0 m 29 ls [.int (L 100)])) ∧ (∀ (S : sS) (L : Nat → Int32) (M : Nat → Int64) (ls : Array Slot) (H : Heap) (locs : List Loc), f_Replacer_spellWithin k9 3 S L M = some (r, S9) → lv_has ls 7 [(0, .ref (ad 12)), (1, .int (L 1)), (2, .int (L 2)), (3, .int (L 3)), (4, .int (L 4)), (5, .int (L 5))] → va_P g.1 classes (Sw shC g ad S) H → va_D A (Sw shC g ad S) → va_S A s.heap H locs → W p l e R s m args below meth c H locs cells slots Q (F0 m 54 ls [])) ∧ (∀ (S : sS) (L : Nat → Int32) (M : Nat → Int64) (ls : Array Slot) (H : Heap) (locs : List Loc), f_Replacer_spellWithin k9 4 S L M = some (r, S9) → lv_has ls 7 [(0, .ref (ad 12)), (1, .int (L 1)), (2, .int (L 2)), (3, .int (L 3)), (4, .int (L 4)), (5, .int (L 5)), (6, .int (L 6))] → va_P g.1 classes (Sw shC g ad S) H → va_D A (Sw shC g ad S) → va_S A s.heap H locs → W p l e R s m args below meth c H locs cells slots Q (F0 m 101 ls [])) ∧ (∀ (S : sS) (L : Nat → Int32) (M : Nat → Int64) (ls : Array Slot) (H : Heap) (locs : List Loc), f_Replacer_spellWithin k9 5 S L M = some (r, S9) → lv_has ls 7 [(0, .ref (ad 12)), (1, .int (L 1)), (2, .int (L 2)), (3, .int (L 3)), (4, .int (L 4)), (5, .int (L 5)), (6, .int (L 6))] → va_P g.1 classes (Sw shC g ad S) H → va_D A (Sw shC g ad S) → va_S A s.heap H locs → W p l e R s m args below meth c H locs cells slots Q (F0 m 110 ls [])) ∧ (∀ (S : sS) (L : Nat → Int32) (M : Nat → Int64) (ls : Array Slot) (H : Heap) (locs : List Loc), f_Replacer_spellWithin k9 6 S L M = some (r, S9) → lv_has ls 7 [(0, .ref (ad 12)), (1, .int (L 1)), (2, .int (L 2)), (3, .int (L 3)), (4, .int (L 4)), (5, .int (L 5))] → va_P g.1 classes (Sw shC g ad S) H → va_D A (Sw shC g ad S) → va_S A s.heap H locs → W p l e R s m args below meth c H locs cells slots Q (F0 m 125 ls [])) := by
  intro k9
  induction k9 with
  | zero => exact ⟨(fun _ _ _ _ _ _ h => by simp [f_Replacer_spellWithin] at h), (fun _ _ _ _ _ _ h => by simp [f_Replacer_spellWithin] at h), (fun _ _ _ _ _ _ h => by simp [f_Replacer_spellWithin] at h), (fun _ _ _ _ _ _ h => by simp [f_Replacer_spellWithin] at h), (fun _ _ _ _ _ _ h => by simp [f_Replacer_spellWithin] at h), (fun _ _ _ _ _ _ h => by simp [f_Replacer_spellWithin] at h), (fun _ _ _ _ _ _ h => by simp [f_Replacer_spellWithin] at h)⟩
  | succ k9 ih =>
    refine ⟨?_, ?_, ?_, ?_, ?_, ?_, ?_⟩
    · intro S L M ls H locs h hl hP hD hS
      simp only [f_Replacer_spellWithin] at h
      refine lv_aload_n hx hb d_Replacer_spellWithin_0 rfl (lv_at hl 0 rfl) ?_
      refine S_getR (h := shC) (C := "MacroMill$Replacer") (T := F_Replacer) hx hb htt in_Replacer hown hK hP 12 0 rfl 9 rfl rfl (by decide) (htt _ k_826) (fun _ h9 => h9) d_Replacer_spellWithin_1 ?_
      refine lv_iload_n hx hb d_Replacer_spellWithin_4 rfl (lv_at hl 1 rfl) ?_
      obtain ⟨⟨r1, T1⟩, hq1, h⟩ := Option.bind_eq_some_iff.mp h
      try dsimp only at h
      refine go_iS (As := [.ref (ad 9), .int (L 1)]) (g := g) (A := A) (h := shC) hP hK hD hS hA hN (fun hp => va_runV (As := [.int (L 1)]) (rest := []) ⟨hx, hb, hml, hown, htt⟩ (t_Tokens_kind l g _ ad S (L 1 : Int32) k9 r1 T1 hq1) ⟨(cb_L htt k_1823 k_271 k_1820 hd_Tokens_kind ⟨(Nat.le_trans (by decide +kernel) hRf), (Nat.le_trans (by decide +kernel) hRl)⟩), htt _ k_1821, htt _ k_1822⟩ ⟨hp.1, S_recv hK hP 9 rfl rfl, hp.2⟩ rfl rfl hl.1 rfl (lv_room (Nat.le_of_ble_eq_true rfl)) d_Replacer_spellWithin_5 ⟨hRc, hRs⟩) (fun r0 Sn H locs hw9 hP hD hS => ?_)
      obtain ⟨e9, e8⟩ := hw9
      rw [e8] at hP hD
      refine W.widen (k := cells) (n := slots) (Nat.le_refl _) (Nat.le_refl _) ?_
      refine toI (y := r1) e9 ?_
      refine lv_iconst (v := 3) hx hb d_Replacer_spellWithin_8 (by decide) ?_
      refine lv_icmp_eq (tgt := 24) hx hb d_Replacer_spellWithin_9 (by decide) (fun hc2 => ?_) (fun hc2 => ?_)
      · rw [if_pos hc2] at h
        exact (ih.2.1) T1 L M ls H locs h (lv_sub hl [0, 1] rfl) hP hD hS
      · rw [if_neg hc2] at h
        refine lv_aload_n hx hb d_Replacer_spellWithin_12 rfl (lv_at hl 0 rfl) ?_
        refine S_getR (h := shC) (C := "MacroMill$Replacer") (T := F_Replacer) hx hb htt in_Replacer hown hK hP 12 0 rfl 9 rfl rfl (by decide) (htt _ k_826) (fun _ h9 => h9) d_Replacer_spellWithin_13 ?_
        refine lv_iload_n hx hb d_Replacer_spellWithin_16 rfl (lv_at hl 1 rfl) ?_
        obtain ⟨⟨r3, T3⟩, hq3, h⟩ := Option.bind_eq_some_iff.mp h
        try dsimp only at h
        refine go_iS (As := [.ref (ad 9), .int (L 1)]) (g := g) (A := A) (h := shC) hP hK hD hS hA hN (fun hp => va_runV (As := [.int (L 1)]) (rest := []) ⟨hx, hb, hml, hown, htt⟩ (t_Tokens_kind l g _ ad T1 (L 1 : Int32) k9 r3 T3 hq3) ⟨(cb_L htt k_1823 k_271 k_1820 hd_Tokens_kind ⟨(Nat.le_trans (by decide +kernel) hRf), (Nat.le_trans (by decide +kernel) hRl)⟩), htt _ k_1821, htt _ k_1822⟩ ⟨hp.1, S_recv hK hP 9 rfl rfl, hp.2⟩ rfl rfl hl.1 rfl (lv_room (Nat.le_of_ble_eq_true rfl)) d_Replacer_spellWithin_17 ⟨hRc, hRs⟩) (fun r0 Sn H locs hw9 hP hD hS => ?_)
        obtain ⟨e9, e8⟩ := hw9
        rw [e8] at hP hD
        refine W.widen (k := cells) (n := slots) (Nat.le_refl _) (Nat.le_refl _) ?_
        refine toI (y := r3) e9 ?_
        refine lv_iconst (v := 4) hx hb d_Replacer_spellWithin_20 (by decide) ?_
        refine lv_icmp_ne (tgt := 28) hx hb d_Replacer_spellWithin_21 (by decide) (fun hc4 => ?_) (fun hc4 => ?_)
        · rw [if_neg hc4] at h
          refine lv_iconst (v := 0) hx hb d_Replacer_spellWithin_28 (by decide) ?_
          exact (ih.2.2.1) T3 (upd L 100 (0 : Int32)) M ls H locs h (lv_sub hl [0, 1] rfl) hP hD hS
        · rw [if_pos hc4] at h
          exact (ih.2.1) T3 L M ls H locs h (lv_sub hl [0, 1] rfl) hP hD hS
    · intro S L M ls H locs h hl hP hD hS
      simp only [f_Replacer_spellWithin] at h
      refine lv_iconst (v := 1) hx hb d_Replacer_spellWithin_24 (by decide) ?_
      refine lv_goto (tgt := 29) hx hb d_Replacer_spellWithin_25 (by decide) ?_
      exact (ih.2.2.1) S (upd L 100 (1 : Int32)) M ls H locs h (lv_sub hl [0, 1] rfl) hP hD hS
    · intro S L M ls H locs h hl hP hD hS
      simp only [f_Replacer_spellWithin] at h
      refine lv_istore_n (lv' := [(2, .int (L 100)), (0, .ref (ad 12)), (1, .int (L 1))]) hx hb d_Replacer_spellWithin_29 rfl hl (by decide) rfl (fun ls hl => ?_)
      refine lv_aload_n hx hb d_Replacer_spellWithin_30 rfl (lv_at hl 1 rfl) ?_
      refine S_getR (h := shC) (C := "MacroMill$Replacer") (T := F_Replacer) hx hb htt in_Replacer hown hK hP 12 0 rfl 9 rfl rfl (by decide) (htt _ k_826) (fun _ h9 => h9) d_Replacer_spellWithin_31 ?_
      refine lv_iload_n hx hb d_Replacer_spellWithin_34 rfl (lv_at hl 2 rfl) ?_
      obtain ⟨⟨r1, T1⟩, hq1, h⟩ := Option.bind_eq_some_iff.mp h
      try dsimp only at h
      refine go_iS (As := [.ref (ad 9), .int (L 1)]) (g := g) (A := A) (h := shC) hP hK hD hS hA hN (fun hp => va_runV (As := [.int (L 1)]) (rest := []) ⟨hx, hb, hml, hown, htt⟩ (t_Tokens_from l g _ ad S (L 1 : Int32) k9 r1 T1 hq1) ⟨(cb_L htt k_1716 k_271 k_1734 hd_Tokens_from ⟨(Nat.le_trans (by decide +kernel) hRf), (Nat.le_trans (by decide +kernel) hRl)⟩), htt _ k_1714, htt _ k_1715⟩ ⟨hp.1, S_recv hK hP 9 rfl rfl, hp.2⟩ rfl rfl hl.1 rfl (lv_room (Nat.le_of_ble_eq_true rfl)) d_Replacer_spellWithin_35 ⟨hRc, hRs⟩) (fun r0 Sn H locs hw9 hP hD hS => ?_)
      obtain ⟨e9, e8⟩ := hw9
      rw [e8] at hP hD
      refine W.widen (k := cells) (n := slots) (Nat.le_refl _) (Nat.le_refl _) ?_
      refine toI (y := r1) e9 ?_
      refine lv_istore_n (lv' := [(3, .int r1), (2, .int (L 100)), (0, .ref (ad 12)), (1, .int (L 1))]) hx hb d_Replacer_spellWithin_38 rfl hl (by decide) rfl (fun ls hl => ?_)
      refine lv_iload_n hx hb d_Replacer_spellWithin_39 rfl (lv_at hl 0 rfl) ?_
      refine lv_aload_n hx hb d_Replacer_spellWithin_40 rfl (lv_at hl 2 rfl) ?_
      refine S_getR (h := shC) (C := "MacroMill$Replacer") (T := F_Replacer) hx hb htt in_Replacer hown hK hP 12 0 rfl 9 rfl rfl (by decide) (htt _ k_826) (fun _ h9 => h9) d_Replacer_spellWithin_41 ?_
      refine lv_iload_n hx hb d_Replacer_spellWithin_44 rfl (lv_at hl 3 rfl) ?_
      obtain ⟨⟨r2, T2⟩, hq2, h⟩ := Option.bind_eq_some_iff.mp h
      try dsimp only at h
      refine go_iS (As := [.ref (ad 9), .int (L 1)]) (g := g) (A := A) (h := shC) hP hK hD hS hA hN (fun hp => va_runV (As := [.int (L 1)]) (rest := [.int r1]) ⟨hx, hb, hml, hown, htt⟩ (t_Tokens_length l g _ ad T1 (L 1 : Int32) k9 r2 T2 hq2) ⟨(cb_L htt k_1712 k_271 k_1735 hd_Tokens_length ⟨(Nat.le_trans (by decide +kernel) hRf), (Nat.le_trans (by decide +kernel) hRl)⟩), htt _ k_1710, htt _ k_1711⟩ ⟨hp.1, S_recv hK hP 9 rfl rfl, hp.2⟩ rfl rfl hl.1 rfl (lv_room (Nat.le_of_ble_eq_true rfl)) d_Replacer_spellWithin_45 ⟨hRc, hRs⟩) (fun r0 Sn H locs hw9 hP hD hS => ?_)
      obtain ⟨e9, e8⟩ := hw9
      rw [e8] at hP hD
      refine W.widen (k := cells) (n := slots) (Nat.le_refl _) (Nat.le_refl _) ?_
      refine toI (y := r2) e9 ?_
      refine lv_iadd hx hb d_Replacer_spellWithin_48 ?_
      refine lv_istore (lv' := [(4, .int (r1 + r2)), (3, .int r1), (2, .int (L 100)), (0, .ref (ad 12)), (1, .int (L 1))]) hx hb d_Replacer_spellWithin_49 hl (by decide) rfl (fun ls hl => ?_)
      show W _ _ _ _ _ _ _ _ _ _ _ _ _ _ _ (F0 _ 51 _ _)
      refine lv_iload_n hx hb d_Replacer_spellWithin_51 rfl (lv_at hl 1 rfl) ?_
      refine lv_istore (lv' := [(5, .int r1), (4, .int (r1 + r2)), (3, .int r1), (2, .int (L 100)), (0, .ref (ad 12)), (1, .int (L 1))]) hx hb d_Replacer_spellWithin_52 hl (by decide) rfl (fun ls hl => ?_)
      exact (ih.2.2.2.1) T2 (upd (upd (upd (upd L 2 (L 100)) 3 r1) 4 (r1 + r2)) 5 r1) M ls H locs h (lv_sub hl [4, 5, 3, 2, 1, 0] rfl) hP hD hS
    · intro S L M ls H locs h hl hP hD hS
      simp only [f_Replacer_spellWithin] at h
      refine lv_iload hx hb d_Replacer_spellWithin_54 (lv_at hl 5 rfl) ?_
      refine lv_iload hx hb d_Replacer_spellWithin_56 (lv_at hl 4 rfl) ?_
      refine lv_icmp_ge (tgt := 125) hx hb d_Replacer_spellWithin_58 (by decide) (fun hc1 => ?_) (fun hc1 => ?_)
      · rw [if_pos hc1] at h
        exact (ih.2.2.2.2.2.2) S L M ls H locs h (lv_sub hl [0, 1, 2, 3, 4, 5] rfl) hP hD hS
      · rw [if_neg hc1] at h
        refine lv_aload_n hx hb d_Replacer_spellWithin_61 rfl (lv_at hl 0 rfl) ?_
        refine S_getR (h := shC) (C := "MacroMill$Replacer") (T := F_Replacer) hx hb htt in_Replacer hown hK hP 12 0 rfl 9 rfl rfl (by decide) (htt _ k_826) (fun _ h9 => h9) d_Replacer_spellWithin_62 ?_
        obtain ⟨⟨r2, T2⟩, hq2, h⟩ := Option.bind_eq_some_iff.mp h
        try dsimp only at h
        refine go_iS (As := [.ref (ad 9)]) (g := g) (A := A) (h := shC) hP hK hD hS hA hN (fun hp => va_runV (As := []) (rest := []) ⟨hx, hb, hml, hown, htt⟩ (t_Tokens_isOverfull l g _ ad S k9 r2 T2 hq2) ⟨(cb_L htt k_1812 k_271 k_1809 hd_Tokens_isOverfull ⟨(Nat.le_trans (by decide +kernel) hRf), (Nat.le_trans (by decide +kernel) hRl)⟩), htt _ k_1810, htt _ k_1811⟩ ⟨hp.1, S_recv hK hP 9 rfl rfl, hp.2⟩ rfl rfl hl.1 rfl (lv_room (Nat.le_of_ble_eq_true rfl)) d_Replacer_spellWithin_65 ⟨hRc, hRs⟩) (fun r0 Sn H locs hw9 hP hD hS => ?_)
        obtain ⟨e9, e8⟩ := hw9
        rw [e8] at hP hD
        refine W.widen (k := cells) (n := slots) (Nat.le_refl _) (Nat.le_refl _) ?_
        refine toI (y := r2) e9 ?_
        refine lv_if_ne (tgt := 125) hx hb d_Replacer_spellWithin_68 (by decide) (fun hc3 => ?_) (fun hc3 => ?_)
        · rw [if_neg hc3] at h
          exact (ih.2.2.2.2.2.2) T2 L M ls H locs h (lv_sub hl [0, 1, 2, 3, 4, 5] rfl) hP hD hS
        · rw [if_pos hc3] at h
          refine lv_aload_n hx hb d_Replacer_spellWithin_71 rfl (lv_at hl 0 rfl) ?_
          refine S_getR (h := shC) (C := "MacroMill$Replacer") (T := F_Replacer) hx hb htt in_Replacer hown hK hP 12 0 rfl 9 rfl rfl (by decide) (htt _ k_826) (fun _ h9 => h9) d_Replacer_spellWithin_72 ?_
          refine S_getR (h := shC) (C := "MacroMill$Tokens") (T := F_Tokens) hx hb htt in_Tokens hown hK hP 9 0 rfl 50 rfl rfl (by decide) (htt _ k_635) (fun _ h9 => h9) d_Replacer_spellWithin_75 ?_
          refine lv_iload hx hb d_Replacer_spellWithin_78 (lv_at hl 5 rfl) ?_
          obtain ⟨hv4, h⟩ := chk h
          refine S_bald (h := shC) (i := L 5) hx hb hK hP 37 rfl (okI_in hv4) d_Replacer_spellWithin_80 ?_
          refine lv_istore (lv' := [(6, .int (T2.2.1 37 (L 5 : Int32).toNatClampNeg)), (0, .ref (ad 12)), (1, .int (L 1)), (2, .int (L 2)), (3, .int (L 3)), (4, .int (L 4)), (5, .int (L 5))]) hx hb d_Replacer_spellWithin_81 hl (by decide) rfl (fun ls hl => ?_)
          refine lv_iload_n hx hb d_Replacer_spellWithin_83 rfl (lv_at hl 3 rfl) ?_
          refine lv_if_eq (tgt := 110) hx hb d_Replacer_spellWithin_84 (by decide) (fun hc5 => ?_) (fun hc5 => ?_)
          · rw [if_pos hc5] at h
            exact (ih.2.2.2.2.2.1) T2 (upd L 6 (T2.2.1 37 (L 5 : Int32).toNatClampNeg)) M ls H locs h (lv_sub hl [1, 2, 3, 4, 5, 6, 0] rfl) hP hD hS
          · rw [if_neg hc5] at h
            show W _ _ _ _ _ _ _ _ _ _ _ _ _ _ _ (F0 _ 87 _ _)
            refine lv_iload hx hb d_Replacer_spellWithin_87 (lv_at hl 0 rfl) ?_
            refine lv_bipush (v := 34) hx hb d_Replacer_spellWithin_89 (by decide) ?_
            refine lv_icmp_eq (tgt := 101) hx hb d_Replacer_spellWithin_91 (by decide) (fun hc6 => ?_) (fun hc6 => ?_)
            · rw [if_pos hc6] at h
              exact (ih.2.2.2.2.1) T2 (upd L 6 (T2.2.1 37 (L 5 : Int32).toNatClampNeg)) M ls H locs h (lv_sub hl [1, 2, 3, 4, 5, 6, 0] rfl) hP hD hS
            · rw [if_neg hc6] at h
              refine lv_iload hx hb d_Replacer_spellWithin_94 (lv_at hl 0 rfl) ?_
              refine lv_bipush (v := 92) hx hb d_Replacer_spellWithin_96 (by decide) ?_
              refine lv_icmp_ne (tgt := 110) hx hb d_Replacer_spellWithin_98 (by decide) (fun hc7 => ?_) (fun hc7 => ?_)
              · rw [if_neg hc7] at h
                exact (ih.2.2.2.2.2.1) T2 (upd L 6 (T2.2.1 37 (L 5 : Int32).toNatClampNeg)) M ls H locs h (lv_sub hl [1, 2, 3, 4, 5, 6, 0] rfl) hP hD hS
              · rw [if_pos hc7] at h
                exact (ih.2.2.2.2.1) T2 (upd L 6 (T2.2.1 37 (L 5 : Int32).toNatClampNeg)) M ls H locs h (lv_sub hl [1, 2, 3, 4, 5, 6, 0] rfl) hP hD hS
    · intro S L M ls H locs h hl hP hD hS
      simp only [f_Replacer_spellWithin] at h
      refine lv_aload_n hx hb d_Replacer_spellWithin_101 rfl (lv_at hl 0 rfl) ?_
      refine S_getR (h := shC) (C := "MacroMill$Replacer") (T := F_Replacer) hx hb htt in_Replacer hown hK hP 12 0 rfl 9 rfl rfl (by decide) (htt _ k_826) (fun _ h9 => h9) d_Replacer_spellWithin_102 ?_
      refine lv_bipush (v := 92) hx hb d_Replacer_spellWithin_105 (by decide) ?_
      obtain ⟨⟨r1, T1⟩, hq1, h⟩ := Option.bind_eq_some_iff.mp h
      try dsimp only at h
      refine go_vS (As := [.ref (ad 9), .int 92]) (g := g) (A := A) (h := shC) hP hK hD hS hA hN (fun hp => va_runV (As := [.int 92]) (rest := []) ⟨hx, hb, hml, hown, htt⟩ (t_Tokens_make l g _ ad S (92 : Int32) k9 r1 T1 hq1) ⟨(cb_L htt k_1808 k_271 k_1805 hd_Tokens_make ⟨(Nat.le_trans (by decide +kernel) hRf), (Nat.le_trans (by decide +kernel) hRl)⟩), htt _ k_1806, htt _ k_1807⟩ ⟨hp.1, S_recv hK hP 9 rfl rfl, hp.2⟩ rfl rfl hl.1 rfl (lv_room (Nat.le_of_ble_eq_true rfl)) d_Replacer_spellWithin_107 ⟨hRc, hRs⟩) (fun Sn H locs hw9 hP hD hS => ?_)
      have e8 := hw9
      rw [e8] at hP hD
      refine W.widen (k := cells) (n := slots) (Nat.le_refl _) (Nat.le_refl _) ?_
      exact (ih.2.2.2.2.2.1) T1 L M ls H locs h (lv_sub hl [0, 1, 2, 3, 4, 5, 6] rfl) hP hD hS
    · intro S L M ls H locs h hl hP hD hS
      simp only [f_Replacer_spellWithin] at h
      refine lv_aload_n hx hb d_Replacer_spellWithin_110 rfl (lv_at hl 0 rfl) ?_
      refine S_getR (h := shC) (C := "MacroMill$Replacer") (T := F_Replacer) hx hb htt in_Replacer hown hK hP 12 0 rfl 9 rfl rfl (by decide) (htt _ k_826) (fun _ h9 => h9) d_Replacer_spellWithin_111 ?_
      refine lv_iload hx hb d_Replacer_spellWithin_114 (lv_at hl 6 rfl) ?_
      obtain ⟨⟨r1, T1⟩, hq1, h⟩ := Option.bind_eq_some_iff.mp h
      try dsimp only at h
      refine go_vS (As := [.ref (ad 9), .int (L 6)]) (g := g) (A := A) (h := shC) hP hK hD hS hA hN (fun hp => va_runV (As := [.int (L 6)]) (rest := []) ⟨hx, hb, hml, hown, htt⟩ (t_Tokens_make l g _ ad S (L 6 : Int32) k9 r1 T1 hq1) ⟨(cb_L htt k_1808 k_271 k_1805 hd_Tokens_make ⟨(Nat.le_trans (by decide +kernel) hRf), (Nat.le_trans (by decide +kernel) hRl)⟩), htt _ k_1806, htt _ k_1807⟩ ⟨hp.1, S_recv hK hP 9 rfl rfl, hp.2⟩ rfl rfl hl.1 rfl (lv_room (Nat.le_of_ble_eq_true rfl)) d_Replacer_spellWithin_116 ⟨hRc, hRs⟩) (fun Sn H locs hw9 hP hD hS => ?_)
      have e8 := hw9
      rw [e8] at hP hD
      refine W.widen (k := cells) (n := slots) (Nat.le_refl _) (Nat.le_refl _) ?_
      refine lv_iinc (k := 5) (v := (L 5) + 1) (lv' := [(5, .int ((L 5) + 1)), (0, .ref (ad 12)), (1, .int (L 1)), (2, .int (L 2)), (3, .int (L 3)), (4, .int (L 4)), (6, .int (L 6))]) hx hb d_Replacer_spellWithin_119 hl rfl rfl (by decide) rfl (fun ls hl => ?_)
      refine lv_goto (tgt := 54) hx hb d_Replacer_spellWithin_122 (by decide) ?_
      exact (ih.2.2.2.1) T1 (upd L 5 ((L 5) + 1)) M ls H locs h (lv_sub hl [1, 2, 3, 4, 5, 0] rfl) hP hD hS
    · intro S L M ls H locs h hl hP hD hS
      simp only [f_Replacer_spellWithin] at h
      cases h
      exact kx_125 ls H locs hP hD hS
abbrev rm_t_Replacer_spellWithin : Room := { frames := 1, cells := 0, slots := 0, locals := 21 }
theorem t_Replacer_spellWithin (l : Launch) (g : gG) (sz : Nat) (ad : Nat → Nat) (S : sS) (v1 : Int32) (k : Nat) (r : Int32) (S9 : sS) (h : f_Replacer_spellWithin k 0 S (upd (fun _ => 0) 1 v1) (fun _ => 0) = some (r, S9)) : Cv l y_Replacer_spellWithin b_Replacer_spellWithin 7 rm_t_Replacer_spellWithin g [.ref (ad 12), .int v1] (Sw shC g ad S) sz (fun w => ∃ S1 : sS, w = Sw shC g ad S1 ∧ S1 = S9) := by
  refine startV (by decide) (Nat.le_of_ble_eq_true rfl) ?_
  intro p e s m below meth c A ls hx hb hr hml hlocks hmn hown htt hN hA hP hK hD hS hl
  exact (w_Replacer_spellWithin hx hb hml hown htt hK hN hA (by decide +kernel) (by decide +kernel) (by decide +kernel) (by decide +kernel) r S9 (fun ls H locs hP hD hS => fin_v (g := g) (ws := Sw shC g ad S9) hx hb hr hlocks (by decide +kernel) (by decide +kernel) hP hD hS ⟨_, rfl, rfl⟩ d_Replacer_spellWithin_125) k).1 S (upd (fun _ => 0) 1 v1) (fun _ => 0) ls _ _ h hl hP hD hS
def f_Replacer_forgetKept : Nat → Nat → sS → (Nat → Int32) → (Nat → Int64) → Option (Int32 × sS)
  | 0, _, _, _, _ => none
  | k + 1, 0, S, L, M => f_Replacer_forgetKept k 1 S (upd (upd L 3 ((L 1) * (30 : Int32))) 4 (0 : Int32)) M
  | k + 1, 1, S, L, M => if (30 : Int32) ≤ (L 4) then (some ((0 : Int32), S)) else (if okI ((L 3) + (L 4)) 1830 = true then (if (S.2.1 67 ((L 3) + (L 4) : Int32).toNatClampNeg) = (L 2) then (if okI ((L 3) + (L 4)) 1830 = true then (f_Replacer_forgetKept k 2 (putA S 68 ((L 3) + (L 4) : Int32).toNatClampNeg (-1)) L M) else none) else (f_Replacer_forgetKept k 2 S L M)) else none)
  | k + 1, 2, S, L, M => f_Replacer_forgetKept k 1 S (upd L 4 ((L 4) + 1)) M
  | _ + 1, _ + 3, _, _, _ => none
set_option maxHeartbeats 8000000 in
set_option maxRecDepth 100000 in
theorem w_Replacer_forgetKept {p : Program} {l : Launch} {e : Env} {R : Room} {s : State} {m : MethodId} {args : Array Value} {below : List Frame} {meth : Method} {c : Code} {cells slots : Nat} {Q : State → Prop} {g : gG} {A : Nat → Prop} {ad : Nat → Nat} (hx : p.tables.exec = Jvm.exec) (hb : c.code = b_Replacer_forgetKept) (hml : c.maxLocals = 5) (hown : s.vm.findClass "MacroMill$Replacer" = some m.cls) (htt : ∀ w ∈ gt, w.before args s = true) (hK : va_K g.1 classes (tysG g) s) (hN : nw s) (hA : ∀ q : Nat, s.heap.size ≤ q → A q) (r : Int32) (S9 : sS)
    (kx_44 : ∀ (ls : Array Slot) (H : Heap) (locs : List Loc), va_P g.1 classes (Sw shC g ad S9) H → va_D A (Sw shC g ad S9) → va_S A s.heap H locs → W p l e R s m args below meth c H locs cells slots Q (F0 m 44 ls [])) :
    ∀ k9 : Nat, (∀ (S : sS) (L : Nat → Int32) (M : Nat → Int64) (ls : Array Slot) (H : Heap) (locs : List Loc), f_Replacer_forgetKept k9 0 S L M = some (r, S9) → lv_has ls 5 [(0, .ref (ad 12)), (1, .int (L 1)), (2, .int (L 2))] → va_P g.1 classes (Sw shC g ad S) H → va_D A (Sw shC g ad S) → va_S A s.heap H locs → W p l e R s m args below meth c H locs cells slots Q (F0 m 0 ls [])) ∧ (∀ (S : sS) (L : Nat → Int32) (M : Nat → Int64) (ls : Array Slot) (H : Heap) (locs : List Loc), f_Replacer_forgetKept k9 1 S L M = some (r, S9) → lv_has ls 5 [(0, .ref (ad 12)), (1, .int (L 1)), (2, .int (L 2)), (3, .int (L 3)), (4, .int (L 4))] → va_P g.1 classes (Sw shC g ad S) H → va_D A (Sw shC g ad S) → va_S A s.heap H locs → W p l e R s m args below meth c H locs cells slots Q (F0 m 8 ls [])) ∧ (∀ (S : sS) (L : Nat → Int32) (M : Nat → Int64) (ls : Array Slot) (H : Heap) (locs : List Loc), f_Replacer_forgetKept k9 2 S L M = some (r, S9) → lv_has ls 5 [(0, .ref (ad 12)), (1, .int (L 1)), (2, .int (L 2)), (3, .int (L 3)), (4, .int (L 4))] → va_P g.1 classes (Sw shC g ad S) H → va_D A (Sw shC g ad S) → va_S A s.heap H locs → W p l e R s m args below meth c H locs cells slots Q (F0 m 38 ls [])) := by
  intro k9
  induction k9 with
  | zero => exact ⟨(fun _ _ _ _ _ _ h => by simp [f_Replacer_forgetKept] at h), (fun _ _ _ _ _ _ h => by simp [f_Replacer_forgetKept] at h), (fun _ _ _ _ _ _ h => by simp [f_Replacer_forgetKept] at h)⟩
  | succ k9 ih =>
    refine ⟨?_, ?_, ?_⟩
    · intro S L M ls H locs h hl hP hD hS
      simp only [f_Replacer_forgetKept] at h
      refine lv_iload_n hx hb d_Replacer_forgetKept_0 rfl (lv_at hl 1 rfl) ?_
      refine lv_bipush (v := 30) hx hb d_Replacer_forgetKept_1 (by decide) ?_
      refine lv_imul hx hb d_Replacer_forgetKept_3 ?_
      refine lv_istore_n (lv' := [(3, .int ((L 1) * (30 : Int32))), (0, .ref (ad 12)), (1, .int (L 1)), (2, .int (L 2))]) hx hb d_Replacer_forgetKept_4 rfl hl (by decide) rfl (fun ls hl => ?_)
      refine lv_iconst (v := 0) hx hb d_Replacer_forgetKept_5 (by decide) ?_
      refine lv_istore (lv' := [(4, .int 0), (3, .int ((L 1) * (30 : Int32))), (0, .ref (ad 12)), (1, .int (L 1)), (2, .int (L 2))]) hx hb d_Replacer_forgetKept_6 hl (by decide) rfl (fun ls hl => ?_)
      exact (ih.2.1) S (upd (upd L 3 ((L 1) * (30 : Int32))) 4 (0 : Int32)) M ls H locs h (lv_sub hl [2, 3, 4, 1, 0] rfl) hP hD hS
    · intro S L M ls H locs h hl hP hD hS
      simp only [f_Replacer_forgetKept] at h
      refine lv_iload hx hb d_Replacer_forgetKept_8 (lv_at hl 4 rfl) ?_
      refine lv_bipush (v := 30) hx hb d_Replacer_forgetKept_10 (by decide) ?_
      refine lv_icmp_ge (tgt := 44) hx hb d_Replacer_forgetKept_12 (by decide) (fun hc1 => ?_) (fun hc1 => ?_)
      · rw [if_pos hc1] at h
        cases h
        exact kx_44 ls H locs hP hD hS
      · rw [if_neg hc1] at h
        refine lv_aload_n hx hb d_Replacer_forgetKept_15 rfl (lv_at hl 0 rfl) ?_
        refine S_getR (h := shC) (C := "MacroMill$Replacer") (T := F_Replacer) hx hb htt in_Replacer hown hK hP 12 7 rfl 80 rfl rfl (by decide) (htt _ k_833) (fun _ h9 => h9) d_Replacer_forgetKept_16 ?_
        refine lv_iload_n hx hb d_Replacer_forgetKept_19 rfl (lv_at hl 3 rfl) ?_
        refine lv_iload hx hb d_Replacer_forgetKept_20 (lv_at hl 4 rfl) ?_
        refine lv_iadd hx hb d_Replacer_forgetKept_22 ?_
        obtain ⟨hv2, h⟩ := chk h
        refine S_iald (h := shC) (i := (L 3) + (L 4)) hx hb hK hP 67 rfl (okI_in hv2) d_Replacer_forgetKept_23 ?_
        refine lv_iload_n hx hb d_Replacer_forgetKept_24 rfl (lv_at hl 2 rfl) ?_
        refine lv_icmp_ne (tgt := 38) hx hb d_Replacer_forgetKept_25 (by decide) (fun hc3 => ?_) (fun hc3 => ?_)
        · rw [if_neg hc3] at h
          exact (ih.2.2) S L M ls H locs h (lv_sub hl [0, 1, 2, 3, 4] rfl) hP hD hS
        · rw [if_pos hc3] at h
          refine lv_aload_n hx hb d_Replacer_forgetKept_28 rfl (lv_at hl 0 rfl) ?_
          refine S_getR (h := shC) (C := "MacroMill$Replacer") (T := F_Replacer) hx hb htt in_Replacer hown hK hP 12 8 rfl 81 rfl rfl (by decide) (htt _ k_834) (fun _ h9 => h9) d_Replacer_forgetKept_29 ?_
          show W _ _ _ _ _ _ _ _ _ _ _ _ _ _ _ (F0 _ 32 _ _)
          refine lv_iload_n hx hb d_Replacer_forgetKept_32 rfl (lv_at hl 3 rfl) ?_
          refine lv_iload hx hb d_Replacer_forgetKept_33 (lv_at hl 4 rfl) ?_
          refine lv_iadd hx hb d_Replacer_forgetKept_35 ?_
          refine lv_iconst (v := (-1)) hx hb d_Replacer_forgetKept_36 (by decide) ?_
          obtain ⟨hv4, h⟩ := chk h
          refine S_iast (h := shC) (i := (L 3) + (L 4)) (v := (-1)) hx hb hK hP hD hS 68 rfl (okI_in hv4) d_Replacer_forgetKept_37 (fun H locs hP hD hS => ?_)
          exact (ih.2.2) (putA S 68 ((L 3) + (L 4) : Int32).toNatClampNeg (-1)) L M ls H locs h (lv_sub hl [0, 1, 2, 3, 4] rfl) hP hD hS
    · intro S L M ls H locs h hl hP hD hS
      simp only [f_Replacer_forgetKept] at h
      refine lv_iinc (k := 4) (v := (L 4) + 1) (lv' := [(4, .int ((L 4) + 1)), (0, .ref (ad 12)), (1, .int (L 1)), (2, .int (L 2)), (3, .int (L 3))]) hx hb d_Replacer_forgetKept_38 hl rfl rfl (by decide) rfl (fun ls hl => ?_)
      refine lv_goto (tgt := 8) hx hb d_Replacer_forgetKept_41 (by decide) ?_
      exact (ih.2.1) S (upd L 4 ((L 4) + 1)) M ls H locs h (lv_sub hl [1, 2, 3, 4, 0] rfl) hP hD hS
abbrev rm_t_Replacer_forgetKept : Room := { frames := 0, cells := 0, slots := 0, locals := 0 }
theorem t_Replacer_forgetKept (l : Launch) (g : gG) (sz : Nat) (ad : Nat → Nat) (S : sS) (v1 : Int32) (v2 : Int32) (k : Nat) (r : Int32) (S9 : sS) (h : f_Replacer_forgetKept k 0 S (upd (upd (fun _ => 0) 1 v1) 2 v2) (fun _ => 0) = some (r, S9)) : Cv l y_Replacer_forgetKept b_Replacer_forgetKept 5 rm_t_Replacer_forgetKept g [.ref (ad 12), .int v1, .int v2] (Sw shC g ad S) sz (fun w => ∃ S1 : sS, w = Sw shC g ad S1 ∧ S1 = S9) := by
  refine startV (by decide) (Nat.le_of_ble_eq_true rfl) ?_
  intro p e s m below meth c A ls hx hb hr hml hlocks hmn hown htt hN hA hP hK hD hS hl
  exact (w_Replacer_forgetKept hx hb hml hown htt hK hN hA r S9 (fun ls H locs hP hD hS => fin_v (g := g) (ws := Sw shC g ad S9) hx hb hr hlocks (by decide +kernel) (by decide +kernel) hP hD hS ⟨_, rfl, rfl⟩ d_Replacer_forgetKept_44) k).1 S (upd (upd (fun _ => 0) 1 v1) 2 v2) (fun _ => 0) ls _ _ h hl hP hD hS
def f_MM_feed : Nat → Nat → sS → (Nat → Int32) → (Nat → Int64) → Option (Int32 × sS)
  | 0, _, _, _, _ => none
  | k + 1, 0, S, L, M => if ((S.1 0 1) + (20 : Int32)) ≤ (16384 : Int32) then ((f_MM_layNumber k 0 S (upd (fun _ => 0) 1 (L 1 : Int32)) (fun _ => 0)).bind (fun (r2, T2) => (f_MM_layNumber k 0 T2 (upd (fun _ => 0) 1 (L 2 : Int32)) (fun _ => 0)).bind (fun (r3, T3) => (f_MM_layNumber k 0 T3 (upd (fun _ => 0) 1 (L 3 : Int32)) (fun _ => 0)).bind (fun (r4, T4) => (f_MM_layNumber k 0 T4 (upd (fun _ => 0) 1 (L 4 : Int32)) (fun _ => 0)).bind (fun (r5, T5) => (f_MM_layNumber k 0 T5 (upd (fun _ => 0) 1 (L 5 : Int32)) (fun _ => 0)).bind (fun (r6, T6) => some (T6.1 0 1, (putI T6 0 2 1)))))))) else (some (((-4) : Int32), S))
  | _ + 1, _ + 1, _, _, _ => none
set_option maxHeartbeats 8000000 in
set_option maxRecDepth 100000 in
theorem w_MM_feed {p : Program} {l : Launch} {e : Env} {R : Room} {s : State} {m : MethodId} {args : Array Value} {below : List Frame} {meth : Method} {c : Code} {cells slots : Nat} {Q : State → Prop} {g : gG} {A : Nat → Prop} {ad : Nat → Nat} (hx : p.tables.exec = Jvm.exec) (hb : c.code = b_MM_feed) (hml : c.maxLocals = 6) (hown : s.vm.findClass "MacroMill" = some m.cls) (htt : ∀ w ∈ gt, w.before args s = true) (hK : va_K g.1 classes (tysG g) s) (hN : nw s) (hA : ∀ q : Nat, s.heap.size ≤ q → A q) (hRf : 1 ≤ R.frames) (hRl : 22 ≤ R.locals) (hRc : cells ≤ R.cells) (hRs : slots ≤ R.slots) (r : Int32) (S9 : sS)
    (kx_15 : ∀ (ls : Array Slot) (H : Heap) (locs : List Loc), va_P g.1 classes (Sw shC g ad S9) H → va_D A (Sw shC g ad S9) → va_S A s.heap H locs → W p l e R s m args below meth c H locs cells slots Q (F0 m 15 ls [.int r]))
    (kx_52 : ∀ (ls : Array Slot) (H : Heap) (locs : List Loc), va_P g.1 classes (Sw shC g ad S9) H → va_D A (Sw shC g ad S9) → va_S A s.heap H locs → W p l e R s m args below meth c H locs cells slots Q (F0 m 52 ls [.int r])) :
    ∀ k9 : Nat, (∀ (S : sS) (L : Nat → Int32) (M : Nat → Int64) (ls : Array Slot) (H : Heap) (locs : List Loc), f_MM_feed k9 0 S L M = some (r, S9) → lv_has ls 6 [(0, .ref (ad 0)), (1, .int (L 1)), (2, .int (L 2)), (3, .int (L 3)), (4, .int (L 4)), (5, .int (L 5))] → va_P g.1 classes (Sw shC g ad S) H → va_D A (Sw shC g ad S) → va_S A s.heap H locs → W p l e R s m args below meth c H locs cells slots Q (F0 m 0 ls [])) := by
  intro k9
  induction k9 with
  | zero => exact (fun _ _ _ _ _ _ h => by simp [f_MM_feed] at h)
  | succ k9 ih =>
    · intro S L M ls H locs h hl hP hD hS
      simp only [f_MM_feed] at h
      refine lv_aload_n hx hb d_MM_feed_0 rfl (lv_at hl 0 rfl) ?_
      refine S_getI (h := shC) (C := "MacroMill") (T := F_MM) hx hb htt in_MM hown hK hP 0 1 rfl rfl rfl (by decide) (htt _ k_965) (fun _ h9 => h9) d_MM_feed_1 ?_
      refine lv_bipush (v := 20) hx hb d_MM_feed_4 (by decide) ?_
      refine lv_iadd hx hb d_MM_feed_6 ?_
      refine lv_sipush (v := 16384) hx hb d_MM_feed_7 (by decide) ?_
      refine lv_icmp_le (tgt := 16) hx hb d_MM_feed_10 (by decide) (fun hc1 => ?_) (fun hc1 => ?_)
      · rw [if_pos hc1] at h
        refine lv_aload_n hx hb d_MM_feed_16 rfl (lv_at hl 0 rfl) ?_
        refine lv_iload_n hx hb d_MM_feed_17 rfl (lv_at hl 1 rfl) ?_
        obtain ⟨⟨r2, T2⟩, hq2, h⟩ := Option.bind_eq_some_iff.mp h
        try dsimp only at h
        refine go_vS (As := [.ref (ad 0), .int (L 1)]) (g := g) (A := A) (h := shC) hP hK hD hS hA hN (fun hp => va_runV (As := [.int (L 1)]) (rest := []) ⟨hx, hb, hml, hown, htt⟩ (t_MM_layNumber l g _ ad S (L 1 : Int32) k9 r2 T2 hq2) ⟨(cb_L htt k_993 k_262 k_990 hd_MM_layNumber ⟨(Nat.le_trans (by decide +kernel) hRf), (Nat.le_trans (by decide +kernel) hRl)⟩), htt _ k_992, htt _ k_0⟩ ⟨hp.1, S_recv hK hP 0 rfl rfl, hp.2⟩ rfl rfl hl.1 rfl (lv_room (Nat.le_of_ble_eq_true rfl)) d_MM_feed_18 ⟨hRc, hRs⟩) (fun Sn H locs hw9 hP hD hS => ?_)
        have e8 := hw9
        rw [e8] at hP hD
        refine W.widen (k := cells) (n := slots) (Nat.le_refl _) (Nat.le_refl _) ?_
        refine lv_aload_n hx hb d_MM_feed_21 rfl (lv_at hl 0 rfl) ?_
        refine lv_iload_n hx hb d_MM_feed_22 rfl (lv_at hl 2 rfl) ?_
        obtain ⟨⟨r3, T3⟩, hq3, h⟩ := Option.bind_eq_some_iff.mp h
        try dsimp only at h
        refine go_vS (As := [.ref (ad 0), .int (L 2)]) (g := g) (A := A) (h := shC) hP hK hD hS hA hN (fun hp => va_runV (As := [.int (L 2)]) (rest := []) ⟨hx, hb, hml, hown, htt⟩ (t_MM_layNumber l g _ ad T2 (L 2 : Int32) k9 r3 T3 hq3) ⟨(cb_L htt k_993 k_262 k_990 hd_MM_layNumber ⟨(Nat.le_trans (by decide +kernel) hRf), (Nat.le_trans (by decide +kernel) hRl)⟩), htt _ k_992, htt _ k_0⟩ ⟨hp.1, S_recv hK hP 0 rfl rfl, hp.2⟩ rfl rfl hl.1 rfl (lv_room (Nat.le_of_ble_eq_true rfl)) d_MM_feed_23 ⟨hRc, hRs⟩) (fun Sn H locs hw9 hP hD hS => ?_)
        have e8 := hw9
        rw [e8] at hP hD
        refine W.widen (k := cells) (n := slots) (Nat.le_refl _) (Nat.le_refl _) ?_
        refine lv_aload_n hx hb d_MM_feed_26 rfl (lv_at hl 0 rfl) ?_
        refine lv_iload_n hx hb d_MM_feed_27 rfl (lv_at hl 3 rfl) ?_
        obtain ⟨⟨r4, T4⟩, hq4, h⟩ := Option.bind_eq_some_iff.mp h
        try dsimp only at h
        refine go_vS (As := [.ref (ad 0), .int (L 3)]) (g := g) (A := A) (h := shC) hP hK hD hS hA hN (fun hp => va_runV (As := [.int (L 3)]) (rest := []) ⟨hx, hb, hml, hown, htt⟩ (t_MM_layNumber l g _ ad T3 (L 3 : Int32) k9 r4 T4 hq4) ⟨(cb_L htt k_993 k_262 k_990 hd_MM_layNumber ⟨(Nat.le_trans (by decide +kernel) hRf), (Nat.le_trans (by decide +kernel) hRl)⟩), htt _ k_992, htt _ k_0⟩ ⟨hp.1, S_recv hK hP 0 rfl rfl, hp.2⟩ rfl rfl hl.1 rfl (lv_room (Nat.le_of_ble_eq_true rfl)) d_MM_feed_28 ⟨hRc, hRs⟩) (fun Sn H locs hw9 hP hD hS => ?_)
        have e8 := hw9
        rw [e8] at hP hD
        refine W.widen (k := cells) (n := slots) (Nat.le_refl _) (Nat.le_refl _) ?_
        show W _ _ _ _ _ _ _ _ _ _ _ _ _ _ _ (F0 _ 31 _ _)
        refine lv_aload_n hx hb d_MM_feed_31 rfl (lv_at hl 0 rfl) ?_
        refine lv_iload hx hb d_MM_feed_32 (lv_at hl 4 rfl) ?_
        obtain ⟨⟨r5, T5⟩, hq5, h⟩ := Option.bind_eq_some_iff.mp h
        try dsimp only at h
        refine go_vS (As := [.ref (ad 0), .int (L 4)]) (g := g) (A := A) (h := shC) hP hK hD hS hA hN (fun hp => va_runV (As := [.int (L 4)]) (rest := []) ⟨hx, hb, hml, hown, htt⟩ (t_MM_layNumber l g _ ad T4 (L 4 : Int32) k9 r5 T5 hq5) ⟨(cb_L htt k_993 k_262 k_990 hd_MM_layNumber ⟨(Nat.le_trans (by decide +kernel) hRf), (Nat.le_trans (by decide +kernel) hRl)⟩), htt _ k_992, htt _ k_0⟩ ⟨hp.1, S_recv hK hP 0 rfl rfl, hp.2⟩ rfl rfl hl.1 rfl (lv_room (Nat.le_of_ble_eq_true rfl)) d_MM_feed_34 ⟨hRc, hRs⟩) (fun Sn H locs hw9 hP hD hS => ?_)
        have e8 := hw9
        rw [e8] at hP hD
        refine W.widen (k := cells) (n := slots) (Nat.le_refl _) (Nat.le_refl _) ?_
        refine lv_aload_n hx hb d_MM_feed_37 rfl (lv_at hl 0 rfl) ?_
        refine lv_iload hx hb d_MM_feed_38 (lv_at hl 5 rfl) ?_
        obtain ⟨⟨r6, T6⟩, hq6, h⟩ := Option.bind_eq_some_iff.mp h
        try dsimp only at h
        refine go_vS (As := [.ref (ad 0), .int (L 5)]) (g := g) (A := A) (h := shC) hP hK hD hS hA hN (fun hp => va_runV (As := [.int (L 5)]) (rest := []) ⟨hx, hb, hml, hown, htt⟩ (t_MM_layNumber l g _ ad T5 (L 5 : Int32) k9 r6 T6 hq6) ⟨(cb_L htt k_993 k_262 k_990 hd_MM_layNumber ⟨(Nat.le_trans (by decide +kernel) hRf), (Nat.le_trans (by decide +kernel) hRl)⟩), htt _ k_992, htt _ k_0⟩ ⟨hp.1, S_recv hK hP 0 rfl rfl, hp.2⟩ rfl rfl hl.1 rfl (lv_room (Nat.le_of_ble_eq_true rfl)) d_MM_feed_40 ⟨hRc, hRs⟩) (fun Sn H locs hw9 hP hD hS => ?_)
        have e8 := hw9
        rw [e8] at hP hD
        refine W.widen (k := cells) (n := slots) (Nat.le_refl _) (Nat.le_refl _) ?_
        refine lv_aload_n hx hb d_MM_feed_43 rfl (lv_at hl 0 rfl) ?_
        refine lv_iconst (v := 1) hx hb d_MM_feed_44 (by decide) ?_
        refine S_put (h := shC) (C := "MacroMill") (T := F_MM) (v := 1) hx hb htt in_MM t_MM t_MM_ok n_MM hown hK hP hD hS 0 2 rfl rfl rfl (by decide) (htt _ k_966) (fun _ h9 => h9) rfl rfl rfl d_MM_feed_45 (fun H locs hP hD hS => ?_)
        refine lv_aload_n hx hb d_MM_feed_48 rfl (lv_at hl 0 rfl) ?_
        refine S_getI (h := shC) (C := "MacroMill") (T := F_MM) hx hb htt in_MM hown hK hP 0 1 rfl rfl rfl (by decide) (htt _ k_965) (fun _ h9 => h9) d_MM_feed_49 ?_
        refine toI (y := T6.1 0 1) rfl ?_
        cases h
        exact kx_52 ls H locs hP hD hS
      · rw [if_neg hc1] at h
        refine lv_bipush (v := (-4)) hx hb d_MM_feed_13 (by decide) ?_
        cases h
        exact kx_15 ls H locs hP hD hS
abbrev rm_t_MM_feed : Room := { frames := 1, cells := 0, slots := 0, locals := 22 }
theorem t_MM_feed (l : Launch) (g : gG) (sz : Nat) (ad : Nat → Nat) (S : sS) (v1 : Int32) (v2 : Int32) (v3 : Int32) (v4 : Int32) (v5 : Int32) (k : Nat) (r : Int32) (S9 : sS) (h : f_MM_feed k 0 S (upd (upd (upd (upd (upd (fun _ => 0) 1 v1) 2 v2) 3 v3) 4 v4) 5 v5) (fun _ => 0) = some (r, S9)) : Ci l y_MM_feed b_MM_feed 6 rm_t_MM_feed g [.ref (ad 0), .int v1, .int v2, .int v3, .int v4, .int v5] (Sw shC g ad S) sz (fun r1 w => ∃ S1 : sS, w = Sw shC g ad S1 ∧ r1 = r ∧ S1 = S9) := by
  refine startI (by decide) (Nat.le_of_ble_eq_true rfl) ?_
  intro p e s m below meth c A ls hx hb hr hml hlocks hmn hown htt hN hA hP hK hD hS hl
  exact (w_MM_feed hx hb hml hown htt hK hN hA (by decide +kernel) (by decide +kernel) (by decide +kernel) (by decide +kernel) r S9 (fun ls H locs hP hD hS => fin_i (g := g) (ws := Sw shC g ad S9) hx hb hr hlocks (by decide +kernel) (by decide +kernel) hP hD hS ⟨_, rfl, rfl, rfl⟩ d_MM_feed_15) (fun ls H locs hP hD hS => fin_i (g := g) (ws := Sw shC g ad S9) hx hb hr hlocks (by decide +kernel) (by decide +kernel) hP hD hS ⟨_, rfl, rfl, rfl⟩ d_MM_feed_52) k) S (upd (upd (upd (upd (upd (fun _ => 0) 1 v1) 2 v2) 3 v3) 4 v4) 5 v5) (fun _ => 0) ls _ _ h hl hP hD hS
def f_MM_parameters : Nat → Nat → sS → (Nat → Int32) → (Nat → Int64) → Option (Int32 × sS)
  | 0, _, _, _, _ => none
  | k + 1, 0, S, L, M => (f_MM_useTape k 0 S (fun _ => 0) (fun _ => 0)).bind (fun (r1, T1) => (f_Macros_find 0 16384 k 0 T1 (upd (upd (fun _ => 0) 2 (0 : Int32)) 3 (r1 : Int32)) (fun _ => 0)).bind (fun (r2, T2) => if r2 < (0 : Int32) then (f_MM_parameters k 1 T2 (upd (upd L 1 r1) 2 r2) M) else ((f_Macros_isThere k 0 T2 (upd (fun _ => 0) 1 (r2 : Int32)) (fun _ => 0)).bind (fun (r4, T4) => if r4 = (0 : Int32) then (f_MM_parameters k 1 T4 (upd (upd L 1 r1) 2 r2) M) else ((f_Macros_hasParameters k 0 T4 (upd (fun _ => 0) 1 (r2 : Int32)) (fun _ => 0)).bind (fun (r6, T6) => if r6 = (0 : Int32) then (f_MM_parameters k 2 T6 (upd (upd (upd L 1 r1) 2 r2) 100 ((-2) : Int32)) M) else (if okI (r2) 400 = true then (f_MM_parameters k 2 T6 (upd (upd (upd L 1 r1) 2 r2) 100 (T6.2.1 45 (r2 : Int32).toNatClampNeg)) M) else none)))))))
  | k + 1, 1, S, L, M => some (((-1) : Int32), S)
  | k + 1, 2, S, L, M => some (L 100, S)
  | _ + 1, _ + 3, _, _, _ => none
set_option maxHeartbeats 8000000 in
set_option maxRecDepth 100000 in
theorem w_MM_parameters {p : Program} {l : Launch} {e : Env} {R : Room} {s : State} {m : MethodId} {args : Array Value} {below : List Frame} {meth : Method} {c : Code} {cells slots : Nat} {Q : State → Prop} {g : gG} {A : Nat → Prop} {ad : Nat → Nat} (hx : p.tables.exec = Jvm.exec) (hb : c.code = b_MM_parameters) (hml : c.maxLocals = 3) (hown : s.vm.findClass "MacroMill" = some m.cls) (htt : ∀ w ∈ gt, w.before args s = true) (hK : va_K g.1 classes (tysG g) s) (hN : nw s) (hA : ∀ q : Nat, s.heap.size ≤ q → A q) (hRf : 2 ≤ R.frames) (hRl : 51 ≤ R.locals) (hRc : cells ≤ R.cells) (hRs : slots ≤ R.slots) (r : Int32) (S9 : sS)
    (kx_41 : ∀ (ls : Array Slot) (H : Heap) (locs : List Loc), va_P g.1 classes (Sw shC g ad S9) H → va_D A (Sw shC g ad S9) → va_S A s.heap H locs → W p l e R s m args below meth c H locs cells slots Q (F0 m 41 ls [.int r]))
    (kx_73 : ∀ (ls : Array Slot) (H : Heap) (locs : List Loc), va_P g.1 classes (Sw shC g ad S9) H → va_D A (Sw shC g ad S9) → va_S A s.heap H locs → W p l e R s m args below meth c H locs cells slots Q (F0 m 73 ls [.int r])) :
    ∀ k9 : Nat, (∀ (S : sS) (L : Nat → Int32) (M : Nat → Int64) (ls : Array Slot) (H : Heap) (locs : List Loc), f_MM_parameters k9 0 S L M = some (r, S9) → lv_has ls 3 [(0, .ref (ad 0))] → va_P g.1 classes (Sw shC g ad S) H → va_D A (Sw shC g ad S) → va_S A s.heap H locs → W p l e R s m args below meth c H locs cells slots Q (F0 m 0 ls [])) ∧ (∀ (S : sS) (L : Nat → Int32) (M : Nat → Int64) (ls : Array Slot) (H : Heap) (locs : List Loc), f_MM_parameters k9 1 S L M = some (r, S9) → lv_has ls 3 [(0, .ref (ad 0)), (1, .int (L 1)), (2, .int (L 2))] → va_P g.1 classes (Sw shC g ad S) H → va_D A (Sw shC g ad S) → va_S A s.heap H locs → W p l e R s m args below meth c H locs cells slots Q (F0 m 40 ls [])) ∧ (∀ (S : sS) (L : Nat → Int32) (M : Nat → Int64) (ls : Array Slot) (H : Heap) (locs : List Loc), f_MM_parameters k9 2 S L M = some (r, S9) → lv_has ls 3 [(0, .ref (ad 0)), (1, .int (L 1)), (2, .int (L 2))] → va_P g.1 classes (Sw shC g ad S) H → va_D A (Sw shC g ad S) → va_S A s.heap H locs → W p l e R s m args below meth c H locs cells slots Q (F0 m 73 ls [.int (L 100)])) := by
  intro k9
  induction k9 with
  | zero => exact ⟨(fun _ _ _ _ _ _ h => by simp [f_MM_parameters] at h), (fun _ _ _ _ _ _ h => by simp [f_MM_parameters] at h), (fun _ _ _ _ _ _ h => by simp [f_MM_parameters] at h)⟩
  | succ k9 ih =>
    refine ⟨?_, ?_, ?_⟩
    · intro S L M ls H locs h hl hP hD hS
      simp only [f_MM_parameters] at h
      refine lv_aload_n hx hb d_MM_parameters_0 rfl (lv_at hl 0 rfl) ?_
      obtain ⟨⟨r1, T1⟩, hq1, h⟩ := Option.bind_eq_some_iff.mp h
      try dsimp only at h
      refine go_iS (As := [.ref (ad 0)]) (g := g) (A := A) (h := shC) hP hK hD hS hA hN (fun hp => va_runV (As := []) (rest := []) ⟨hx, hb, hml, hown, htt⟩ (t_MM_useTape l g _ ad S k9 r1 T1 hq1) ⟨(cb_L htt k_1005 k_262 k_1002 hd_MM_useTape ⟨(Nat.le_trans (by decide +kernel) hRf), (Nat.le_trans (by decide +kernel) hRl)⟩), htt _ k_1004, htt _ k_1⟩ ⟨hp.1, S_recv hK hP 0 rfl rfl, hp.2⟩ rfl rfl hl.1 rfl (lv_room (Nat.le_of_ble_eq_true rfl)) d_MM_parameters_1 ⟨hRc, hRs⟩) (fun r0 Sn H locs hw9 hP hD hS => ?_)
      obtain ⟨e9, e8⟩ := hw9
      rw [e8] at hP hD
      refine W.widen (k := cells) (n := slots) (Nat.le_refl _) (Nat.le_refl _) ?_
      refine toI (y := r1) e9 ?_
      refine lv_istore_n (lv' := [(1, .int r1), (0, .ref (ad 0))]) hx hb d_MM_parameters_4 rfl hl (by decide) rfl (fun ls hl => ?_)
      refine lv_aload_n hx hb d_MM_parameters_5 rfl (lv_at hl 1 rfl) ?_
      refine S_getR (h := shC) (C := "MacroMill") (T := F_MM) hx hb htt in_MM hown hK hP 0 6 rfl 8 rfl rfl (by decide) (htt _ k_970) (fun _ h9 => h9) d_MM_parameters_6 ?_
      refine S_getR (h := shC) (C := "MacroMill$Second") (T := F_Second) hx hb htt in_Second hown hK hP 8 4 rfl 10 rfl rfl (by decide) (htt _ k_901) (fun _ h9 => h9) d_MM_parameters_9 ?_
      refine lv_aload_n hx hb d_MM_parameters_12 rfl (lv_at hl 1 rfl) ?_
      refine S_getR (h := shC) (C := "MacroMill") (T := F_MM) hx hb htt in_MM hown hK hP 0 0 rfl 13 rfl rfl (by decide) (htt _ k_964) (fun _ h9 => h9) d_MM_parameters_13 ?_
      refine lv_iconst (v := 0) hx hb d_MM_parameters_16 (by decide) ?_
      refine lv_iload_n hx hb d_MM_parameters_17 rfl (lv_at hl 0 rfl) ?_
      obtain ⟨⟨r2, T2⟩, hq2, h⟩ := Option.bind_eq_some_iff.mp h
      try dsimp only at h
      refine go_iS (As := [.ref (ad 10), .ref (ad 13), .int 0, .int r1]) (g := g) (A := A) (h := shC) hP hK hD hS hA hN (fun hp => va_runV (As := [.ref (ad 13), .int 0, .int r1]) (rest := []) ⟨hx, hb, hml, hown, htt⟩ (t_Macros_find l g _ ad T1 0 16384 (0 : Int32) (r1 : Int32) rfl k9 r2 T2 hq2) ⟨(cb_L htt k_1739 k_272 k_2216 hd_Macros_find ⟨(Nat.le_trans (by decide +kernel) hRf), (Nat.le_trans (by decide +kernel) hRl)⟩), htt _ k_1737, htt _ k_1738⟩ ⟨hp.1, S_recv hK hP 10 rfl rfl, hp.2⟩ rfl rfl hl.1 rfl (lv_room (Nat.le_of_ble_eq_true rfl)) d_MM_parameters_18 ⟨hRc, hRs⟩) (fun r0 Sn H locs hw9 hP hD hS => ?_)
      obtain ⟨e9, e8⟩ := hw9
      rw [e8] at hP hD
      refine W.widen (k := cells) (n := slots) (Nat.le_refl _) (Nat.le_refl _) ?_
      refine toI (y := r2) e9 ?_
      refine lv_istore_n (lv' := [(2, .int r2), (1, .int r1), (0, .ref (ad 0))]) hx hb d_MM_parameters_21 rfl hl (by decide) rfl (fun ls hl => ?_)
      refine lv_iload_n hx hb d_MM_parameters_22 rfl (lv_at hl 0 rfl) ?_
      refine lv_if_lt (tgt := 40) hx hb d_MM_parameters_23 (by decide) (fun hc3 => ?_) (fun hc3 => ?_)
      · rw [if_pos hc3] at h
        exact (ih.2.1) T2 (upd (upd L 1 r1) 2 r2) M ls H locs h (lv_sub hl [2, 1, 0] rfl) hP hD hS
      · rw [if_neg hc3] at h
        show W _ _ _ _ _ _ _ _ _ _ _ _ _ _ _ (F0 _ 26 _ _)
        refine lv_aload_n hx hb d_MM_parameters_26 rfl (lv_at hl 2 rfl) ?_
        refine S_getR (h := shC) (C := "MacroMill") (T := F_MM) hx hb htt in_MM hown hK hP 0 6 rfl 8 rfl rfl (by decide) (htt _ k_970) (fun _ h9 => h9) d_MM_parameters_27 ?_
        refine S_getR (h := shC) (C := "MacroMill$Second") (T := F_Second) hx hb htt in_Second hown hK hP 8 4 rfl 10 rfl rfl (by decide) (htt _ k_901) (fun _ h9 => h9) d_MM_parameters_30 ?_
        refine lv_iload_n hx hb d_MM_parameters_33 rfl (lv_at hl 0 rfl) ?_
        obtain ⟨⟨r4, T4⟩, hq4, h⟩ := Option.bind_eq_some_iff.mp h
        try dsimp only at h
        refine go_iS (As := [.ref (ad 10), .int r2]) (g := g) (A := A) (h := shC) hP hK hD hS hA hN (fun hp => va_runV (As := [.int r2]) (rest := []) ⟨hx, hb, hml, hown, htt⟩ (t_Macros_isThere l g _ ad T2 (r2 : Int32) k9 r4 T4 hq4) ⟨(cb_L htt k_1751 k_272 k_2217 hd_Macros_isThere ⟨(Nat.le_trans (by decide +kernel) hRf), (Nat.le_trans (by decide +kernel) hRl)⟩), htt _ k_1749, htt _ k_1750⟩ ⟨hp.1, S_recv hK hP 10 rfl rfl, hp.2⟩ rfl rfl hl.1 rfl (lv_room (Nat.le_of_ble_eq_true rfl)) d_MM_parameters_34 ⟨hRc, hRs⟩) (fun r0 Sn H locs hw9 hP hD hS => ?_)
        obtain ⟨e9, e8⟩ := hw9
        rw [e8] at hP hD
        refine W.widen (k := cells) (n := slots) (Nat.le_refl _) (Nat.le_refl _) ?_
        refine toI (y := r4) e9 ?_
        refine lv_if_ne (tgt := 42) hx hb d_MM_parameters_37 (by decide) (fun hc5 => ?_) (fun hc5 => ?_)
        · rw [if_neg hc5] at h
          refine lv_aload_n hx hb d_MM_parameters_42 rfl (lv_at hl 2 rfl) ?_
          refine S_getR (h := shC) (C := "MacroMill") (T := F_MM) hx hb htt in_MM hown hK hP 0 6 rfl 8 rfl rfl (by decide) (htt _ k_970) (fun _ h9 => h9) d_MM_parameters_43 ?_
          refine S_getR (h := shC) (C := "MacroMill$Second") (T := F_Second) hx hb htt in_Second hown hK hP 8 4 rfl 10 rfl rfl (by decide) (htt _ k_901) (fun _ h9 => h9) d_MM_parameters_46 ?_
          refine lv_iload_n hx hb d_MM_parameters_49 rfl (lv_at hl 0 rfl) ?_
          obtain ⟨⟨r6, T6⟩, hq6, h⟩ := Option.bind_eq_some_iff.mp h
          try dsimp only at h
          refine go_iS (As := [.ref (ad 10), .int r2]) (g := g) (A := A) (h := shC) hP hK hD hS hA hN (fun hp => va_runV (As := [.int r2]) (rest := []) ⟨hx, hb, hml, hown, htt⟩ (t_Macros_hasParameters l g _ ad T4 (r2 : Int32) k9 r6 T6 hq6) ⟨(cb_L htt k_1762 k_272 k_2218 hd_Macros_hasParameters ⟨(Nat.le_trans (by decide +kernel) hRf), (Nat.le_trans (by decide +kernel) hRl)⟩), htt _ k_1760, htt _ k_1761⟩ ⟨hp.1, S_recv hK hP 10 rfl rfl, hp.2⟩ rfl rfl hl.1 rfl (lv_room (Nat.le_of_ble_eq_true rfl)) d_MM_parameters_50 ⟨hRc, hRs⟩) (fun r0 Sn H locs hw9 hP hD hS => ?_)
          obtain ⟨e9, e8⟩ := hw9
          rw [e8] at hP hD
          refine W.widen (k := cells) (n := slots) (Nat.le_refl _) (Nat.le_refl _) ?_
          refine toI (y := r6) e9 ?_
          refine lv_if_eq (tgt := 71) hx hb d_MM_parameters_53 (by decide) (fun hc7 => ?_) (fun hc7 => ?_)
          · rw [if_pos hc7] at h
            refine lv_bipush (v := (-2)) hx hb d_MM_parameters_71 (by decide) ?_
            exact (ih.2.2) T6 (upd (upd (upd L 1 r1) 2 r2) 100 ((-2) : Int32)) M ls H locs h (lv_sub hl [2, 1, 0] rfl) hP hD hS
          · rw [if_neg hc7] at h
            refine lv_aload_n hx hb d_MM_parameters_56 rfl (lv_at hl 2 rfl) ?_
            refine S_getR (h := shC) (C := "MacroMill") (T := F_MM) hx hb htt in_MM hown hK hP 0 6 rfl 8 rfl rfl (by decide) (htt _ k_970) (fun _ h9 => h9) d_MM_parameters_57 ?_
            refine S_getR (h := shC) (C := "MacroMill$Second") (T := F_Second) hx hb htt in_Second hown hK hP 8 4 rfl 10 rfl rfl (by decide) (htt _ k_901) (fun _ h9 => h9) d_MM_parameters_60 ?_
            refine S_getR (h := shC) (C := "MacroMill$Macros") (T := F_Macros) hx hb htt in_Macros hown hK hP 10 6 rfl 58 rfl rfl (by decide) (htt _ k_697) (fun _ h9 => h9) d_MM_parameters_63 ?_
            show W _ _ _ _ _ _ _ _ _ _ _ _ _ _ _ (F0 _ 66 _ _)
            refine lv_iload_n hx hb d_MM_parameters_66 rfl (lv_at hl 0 rfl) ?_
            obtain ⟨hv8, h⟩ := chk h
            refine S_iald (h := shC) (i := r2) hx hb hK hP 45 rfl (okI_in hv8) d_MM_parameters_67 ?_
            refine lv_goto (tgt := 73) hx hb d_MM_parameters_68 (by decide) ?_
            exact (ih.2.2) T6 (upd (upd (upd L 1 r1) 2 r2) 100 (T6.2.1 45 (r2 : Int32).toNatClampNeg)) M ls H locs h (lv_sub hl [2, 1, 0] rfl) hP hD hS
        · rw [if_pos hc5] at h
          exact (ih.2.1) T4 (upd (upd L 1 r1) 2 r2) M ls H locs h (lv_sub hl [2, 1, 0] rfl) hP hD hS
    · intro S L M ls H locs h hl hP hD hS
      simp only [f_MM_parameters] at h
      refine lv_iconst (v := (-1)) hx hb d_MM_parameters_40 (by decide) ?_
      cases h
      exact kx_41 ls H locs hP hD hS
    · intro S L M ls H locs h hl hP hD hS
      simp only [f_MM_parameters] at h
      cases h
      exact kx_73 ls H locs hP hD hS
abbrev rm_t_MM_parameters : Room := { frames := 2, cells := 0, slots := 0, locals := 51 }
theorem t_MM_parameters (l : Launch) (g : gG) (sz : Nat) (ad : Nat → Nat) (S : sS) (k : Nat) (r : Int32) (S9 : sS) (h : f_MM_parameters k 0 S (fun _ => 0) (fun _ => 0) = some (r, S9)) : Ci l y_MM_parameters b_MM_parameters 3 rm_t_MM_parameters g [.ref (ad 0)] (Sw shC g ad S) sz (fun r1 w => ∃ S1 : sS, w = Sw shC g ad S1 ∧ r1 = r ∧ S1 = S9) := by
  refine startI (by decide) (Nat.le_of_ble_eq_true rfl) ?_
  intro p e s m below meth c A ls hx hb hr hml hlocks hmn hown htt hN hA hP hK hD hS hl
  exact (w_MM_parameters hx hb hml hown htt hK hN hA (by decide +kernel) (by decide +kernel) (by decide +kernel) (by decide +kernel) r S9 (fun ls H locs hP hD hS => fin_i (g := g) (ws := Sw shC g ad S9) hx hb hr hlocks (by decide +kernel) (by decide +kernel) hP hD hS ⟨_, rfl, rfl, rfl⟩ d_MM_parameters_41) (fun ls H locs hP hD hS => fin_i (g := g) (ws := Sw shC g ad S9) hx hb hr hlocks (by decide +kernel) (by decide +kernel) hP hD hS ⟨_, rfl, rfl, rfl⟩ d_MM_parameters_73) k).1 S (fun _ => 0) (fun _ => 0) ls _ _ h hl hP hD hS
def f_Reckoner_takeNumber : Nat → Nat → sS → (Nat → Int32) → (Nat → Int64) → Option (Int32 × sS)
  | 0, _, _, _, _ => none
  | k + 1, 0, S, L, M => if (S.1 3 9) = (0 : Int32) then (f_Reckoner_takeNumber k 1 S L M) else (if (S.1 3 2) < (1000 : Int32) then (f_Reckoner_takeNumber k 2 S L M) else (f_Reckoner_takeNumber k 1 S L M))
  | k + 1, 1, S, L, M => f_Reckoner_takeNumber k 2 (putI S 3 11 1) L M
  | k + 1, 2, S, L, M => if (S.1 3 11) = (0 : Int32) then (if okI (S.1 3 2) 1000 = true then (if okI (S.1 3 2) 1000 = true then ((f_Reckoner_endOperand k 0 (putI (putA (putL S 6 (S.1 3 2 : Int32).toNatClampNeg (M 1)) 7 (S.1 3 2 : Int32).toNatClampNeg (vp_nar .boolean (L 3))) 3 2 ((S.1 3 2) + (1 : Int32))) (fun _ => 0) (fun _ => 0)).bind (fun (r4, T4) => some ((0 : Int32), T4))) else none) else none) else (some ((0 : Int32), S))
  | _ + 1, _ + 3, _, _, _ => none
set_option maxHeartbeats 8000000 in
set_option maxRecDepth 100000 in
theorem w_Reckoner_takeNumber {p : Program} {l : Launch} {e : Env} {R : Room} {s : State} {m : MethodId} {args : Array Value} {below : List Frame} {meth : Method} {c : Code} {cells slots : Nat} {Q : State → Prop} {g : gG} {A : Nat → Prop} {ad : Nat → Nat} (hx : p.tables.exec = Jvm.exec) (hb : c.code = b_Reckoner_takeNumber) (hml : c.maxLocals = 4) (hown : s.vm.findClass "MacroMill$Reckoner" = some m.cls) (htt : ∀ w ∈ gt, w.before args s = true) (hK : va_K g.1 classes (tysG g) s) (hN : nw s) (hA : ∀ q : Nat, s.heap.size ≤ q → A q) (hRf : 2 ≤ R.frames) (hRl : 44 ≤ R.locals) (hRc : cells ≤ R.cells) (hRs : slots ≤ R.slots) (r : Int32) (S9 : sS)
    (kx_29 : ∀ (ls : Array Slot) (H : Heap) (locs : List Loc), va_P g.1 classes (Sw shC g ad S9) H → va_D A (Sw shC g ad S9) → va_S A s.heap H locs → W p l e R s m args below meth c H locs cells slots Q (F0 m 29 ls []))
    (kx_64 : ∀ (ls : Array Slot) (H : Heap) (locs : List Loc), va_P g.1 classes (Sw shC g ad S9) H → va_D A (Sw shC g ad S9) → va_S A s.heap H locs → W p l e R s m args below meth c H locs cells slots Q (F0 m 64 ls [])) :
    ∀ k9 : Nat, (∀ (S : sS) (L : Nat → Int32) (M : Nat → Int64) (ls : Array Slot) (H : Heap) (locs : List Loc), f_Reckoner_takeNumber k9 0 S L M = some (r, S9) → lv_has ls 4 [(0, .ref (ad 3)), (1, .long (M 1)), (3, .int (L 3))] → va_P g.1 classes (Sw shC g ad S) H → va_D A (Sw shC g ad S) → va_S A s.heap H locs → W p l e R s m args below meth c H locs cells slots Q (F0 m 0 ls [])) ∧ (∀ (S : sS) (L : Nat → Int32) (M : Nat → Int64) (ls : Array Slot) (H : Heap) (locs : List Loc), f_Reckoner_takeNumber k9 1 S L M = some (r, S9) → lv_has ls 4 [(0, .ref (ad 3)), (1, .long (M 1)), (3, .int (L 3))] → va_P g.1 classes (Sw shC g ad S) H → va_D A (Sw shC g ad S) → va_S A s.heap H locs → W p l e R s m args below meth c H locs cells slots Q (F0 m 17 ls [])) ∧ (∀ (S : sS) (L : Nat → Int32) (M : Nat → Int64) (ls : Array Slot) (H : Heap) (locs : List Loc), f_Reckoner_takeNumber k9 2 S L M = some (r, S9) → lv_has ls 4 [(0, .ref (ad 3)), (1, .long (M 1)), (3, .int (L 3))] → va_P g.1 classes (Sw shC g ad S) H → va_D A (Sw shC g ad S) → va_S A s.heap H locs → W p l e R s m args below meth c H locs cells slots Q (F0 m 22 ls [])) := by
  intro k9
  induction k9 with
  | zero => exact ⟨(fun _ _ _ _ _ _ h => by simp [f_Reckoner_takeNumber] at h), (fun _ _ _ _ _ _ h => by simp [f_Reckoner_takeNumber] at h), (fun _ _ _ _ _ _ h => by simp [f_Reckoner_takeNumber] at h)⟩
  | succ k9 ih =>
    refine ⟨?_, ?_, ?_⟩
    · intro S L M ls H locs h hl hP hD hS
      simp only [f_Reckoner_takeNumber] at h
      refine lv_aload_n hx hb d_Reckoner_takeNumber_0 rfl (lv_at hl 0 rfl) ?_
      refine S_getI (h := shC) (C := "MacroMill$Reckoner") (T := F_Reckoner) hx hb htt in_Reckoner hown hK hP 3 9 rfl rfl rfl (by decide) (htt _ k_400) (fun _ h9 => h9) d_Reckoner_takeNumber_1 ?_
      refine lv_if_eq (tgt := 17) hx hb d_Reckoner_takeNumber_4 (by decide) (fun hc1 => ?_) (fun hc1 => ?_)
      · rw [if_pos hc1] at h
        exact (ih.2.1) S L M ls H locs h (lv_sub hl [0, 1, 2] rfl) hP hD hS
      · rw [if_neg hc1] at h
        refine lv_aload_n hx hb d_Reckoner_takeNumber_7 rfl (lv_at hl 0 rfl) ?_
        refine S_getI (h := shC) (C := "MacroMill$Reckoner") (T := F_Reckoner) hx hb htt in_Reckoner hown hK hP 3 2 rfl rfl rfl (by decide) (htt _ k_393) (fun _ h9 => h9) d_Reckoner_takeNumber_8 ?_
        refine lv_sipush (v := 1000) hx hb d_Reckoner_takeNumber_11 (by decide) ?_
        refine lv_icmp_lt (tgt := 22) hx hb d_Reckoner_takeNumber_14 (by decide) (fun hc2 => ?_) (fun hc2 => ?_)
        · rw [if_pos hc2] at h
          exact (ih.2.2) S L M ls H locs h (lv_sub hl [0, 1, 2] rfl) hP hD hS
        · rw [if_neg hc2] at h
          exact (ih.2.1) S L M ls H locs h (lv_sub hl [0, 1, 2] rfl) hP hD hS
    · intro S L M ls H locs h hl hP hD hS
      simp only [f_Reckoner_takeNumber] at h
      refine lv_aload_n hx hb d_Reckoner_takeNumber_17 rfl (lv_at hl 0 rfl) ?_
      refine lv_iconst (v := 1) hx hb d_Reckoner_takeNumber_18 (by decide) ?_
      refine S_put (h := shC) (C := "MacroMill$Reckoner") (T := F_Reckoner) (v := 1) hx hb htt in_Reckoner t_Reckoner t_Reckoner_ok n_Reckoner hown hK hP hD hS 3 11 rfl rfl rfl (by decide) (htt _ k_402) (fun _ h9 => h9) rfl rfl rfl d_Reckoner_takeNumber_19 (fun H locs hP hD hS => ?_)
      exact (ih.2.2) (putI S 3 11 1) L M ls H locs h (lv_sub hl [0, 1, 2] rfl) hP hD hS
    · intro S L M ls H locs h hl hP hD hS
      simp only [f_Reckoner_takeNumber] at h
      refine lv_aload_n hx hb d_Reckoner_takeNumber_22 rfl (lv_at hl 0 rfl) ?_
      refine S_getI (h := shC) (C := "MacroMill$Reckoner") (T := F_Reckoner) hx hb htt in_Reckoner hown hK hP 3 11 rfl rfl rfl (by decide) (htt _ k_402) (fun _ h9 => h9) d_Reckoner_takeNumber_23 ?_
      refine lv_if_eq (tgt := 30) hx hb d_Reckoner_takeNumber_26 (by decide) (fun hc1 => ?_) (fun hc1 => ?_)
      · rw [if_pos hc1] at h
        refine lv_aload_n hx hb d_Reckoner_takeNumber_30 rfl (lv_at hl 0 rfl) ?_
        refine S_getR (h := shC) (C := "MacroMill$Reckoner") (T := F_Reckoner) hx hb htt in_Reckoner hown hK hP 3 0 rfl 19 rfl rfl (by decide) (htt _ k_391) (fun _ h9 => h9) d_Reckoner_takeNumber_31 ?_
        refine lv_aload_n hx hb d_Reckoner_takeNumber_34 rfl (lv_at hl 0 rfl) ?_
        refine S_getI (h := shC) (C := "MacroMill$Reckoner") (T := F_Reckoner) hx hb htt in_Reckoner hown hK hP 3 2 rfl rfl rfl (by decide) (htt _ k_393) (fun _ h9 => h9) d_Reckoner_takeNumber_35 ?_
        refine lv_lload_n hx hb d_Reckoner_takeNumber_38 rfl (lv_at hl 1 rfl) ?_
        obtain ⟨hv2, h⟩ := chk h
        refine S_last (h := shC) (i := S.1 3 2) (v := M 1) hx hb hK hP hD hS 6 rfl (okI_in hv2) d_Reckoner_takeNumber_39 (fun H locs hP hD hS => ?_)
        refine lv_aload_n hx hb d_Reckoner_takeNumber_40 rfl (lv_at hl 0 rfl) ?_
        refine S_getR (h := shC) (C := "MacroMill$Reckoner") (T := F_Reckoner) hx hb htt in_Reckoner hown hK hP 3 1 rfl 20 rfl rfl (by decide) (htt _ k_392) (fun _ h9 => h9) d_Reckoner_takeNumber_41 ?_
        refine lv_aload_n hx hb d_Reckoner_takeNumber_44 rfl (lv_at hl 0 rfl) ?_
        show W _ _ _ _ _ _ _ _ _ _ _ _ _ _ _ (F0 _ 45 _ _)
        refine S_getI (h := shC) (C := "MacroMill$Reckoner") (T := F_Reckoner) hx hb htt in_Reckoner hown hK hP 3 2 rfl rfl rfl (by decide) (htt _ k_393) (fun _ h9 => h9) d_Reckoner_takeNumber_45 ?_
        refine toI (y := S.1 3 2) rfl ?_
        refine lv_iload_n hx hb d_Reckoner_takeNumber_48 rfl (lv_at hl 2 rfl) ?_
        obtain ⟨hv3, h⟩ := chk h
        refine S_zast (h := shC) (i := S.1 3 2) (v := L 3) hx hb hK hP hD hS 7 rfl (okI_in hv3) d_Reckoner_takeNumber_49 (fun H locs hP hD hS => ?_)
        refine lv_aload_n hx hb d_Reckoner_takeNumber_50 rfl (lv_at hl 0 rfl) ?_
        refine lv_dup hx hb d_Reckoner_takeNumber_51 rfl ?_
        refine S_getI (h := shC) (C := "MacroMill$Reckoner") (T := F_Reckoner) hx hb htt in_Reckoner hown hK hP 3 2 rfl rfl rfl (by decide) (htt _ k_393) (fun _ h9 => h9) d_Reckoner_takeNumber_52 ?_
        refine toI (y := S.1 3 2) rfl ?_
        refine lv_iconst (v := 1) hx hb d_Reckoner_takeNumber_55 (by decide) ?_
        refine lv_iadd hx hb d_Reckoner_takeNumber_56 ?_
        refine S_put (h := shC) (C := "MacroMill$Reckoner") (T := F_Reckoner) (v := (S.1 3 2) + (1 : Int32)) hx hb htt in_Reckoner t_Reckoner t_Reckoner_ok n_Reckoner hown hK hP hD hS 3 2 rfl rfl rfl (by decide) (htt _ k_393) (fun _ h9 => h9) rfl rfl rfl d_Reckoner_takeNumber_57 (fun H locs hP hD hS => ?_)
        refine lv_aload_n hx hb d_Reckoner_takeNumber_60 rfl (lv_at hl 0 rfl) ?_
        obtain ⟨⟨r4, T4⟩, hq4, h⟩ := Option.bind_eq_some_iff.mp h
        try dsimp only at h
        refine go_vS (As := [.ref (ad 3)]) (g := g) (A := A) (h := shC) hP hK hD hS hA hN (fun hp => va_runV (As := []) (rest := []) ⟨hx, hb, hml, hown, htt⟩ (t_Reckoner_endOperand l g _ ad (putI (putA (putL S 6 (S.1 3 2 : Int32).toNatClampNeg (M 1)) 7 (S.1 3 2 : Int32).toNatClampNeg (vp_nar .boolean (L 3))) 3 2 ((S.1 3 2) + (1 : Int32))) k9 r4 T4 hq4) ⟨(cb_L htt k_1373 k_265 k_1370 hd_Reckoner_endOperand ⟨(Nat.le_trans (by decide +kernel) hRf), (Nat.le_trans (by decide +kernel) hRl)⟩), htt _ k_1372, htt _ k_29⟩ ⟨hp.1, S_recv hK hP 3 rfl rfl, hp.2⟩ rfl rfl hl.1 rfl (lv_room (Nat.le_of_ble_eq_true rfl)) d_Reckoner_takeNumber_61 ⟨hRc, hRs⟩) (fun Sn H locs hw9 hP hD hS => ?_)
        have e8 := hw9
        rw [e8] at hP hD
        refine W.widen (k := cells) (n := slots) (Nat.le_refl _) (Nat.le_refl _) ?_
        cases h
        exact kx_64 ls H locs hP hD hS
      · rw [if_neg hc1] at h
        cases h
        exact kx_29 ls H locs hP hD hS
abbrev rm_t_Reckoner_takeNumber : Room := { frames := 2, cells := 0, slots := 0, locals := 44 }
theorem t_Reckoner_takeNumber (l : Launch) (g : gG) (sz : Nat) (ad : Nat → Nat) (S : sS) (v1 : Int64) (v2 : Int32) (k : Nat) (r : Int32) (S9 : sS) (h : f_Reckoner_takeNumber k 0 S (upd (fun _ => 0) 3 v2) (vp_updL (fun _ => 0) 1 v1) = some (r, S9)) : Cv l y_Reckoner_takeNumber b_Reckoner_takeNumber 4 rm_t_Reckoner_takeNumber g [.ref (ad 3), .long v1, .int v2] (Sw shC g ad S) sz (fun w => ∃ S1 : sS, w = Sw shC g ad S1 ∧ S1 = S9) := by
  refine startV (by decide) (Nat.le_of_ble_eq_true rfl) ?_
  intro p e s m below meth c A ls hx hb hr hml hlocks hmn hown htt hN hA hP hK hD hS hl
  exact (w_Reckoner_takeNumber hx hb hml hown htt hK hN hA (by decide +kernel) (by decide +kernel) (by decide +kernel) (by decide +kernel) r S9 (fun ls H locs hP hD hS => fin_v (g := g) (ws := Sw shC g ad S9) hx hb hr hlocks (by decide +kernel) (by decide +kernel) hP hD hS ⟨_, rfl, rfl⟩ d_Reckoner_takeNumber_29) (fun ls H locs hP hD hS => fin_v (g := g) (ws := Sw shC g ad S9) hx hb hr hlocks (by decide +kernel) (by decide +kernel) hP hD hS ⟨_, rfl, rfl⟩ d_Reckoner_takeNumber_64) k).1 S (upd (fun _ => 0) 3 v2) (vp_updL (fun _ => 0) 1 v1) ls _ _ h hl hP hD hS
def f_Reckoner_takeSignInFront : Nat → Nat → sS → (Nat → Int32) → (Nat → Int64) → Option (Int32 × sS)
  | 0, _, _, _, _ => none
  | k + 1, 0, S, L, M => if (L 1) = (40 : Int32) then ((f_Reckoner_push k 0 S (upd (upd (fun _ => 0) 1 (L 1 : Int32)) 2 (0 : Int32)) (fun _ => 0)).bind (fun (r6, T6) => f_Reckoner_takeSignInFront k 2 T6 L M)) else (if (L 1) = (43 : Int32) then (f_Reckoner_takeSignInFront k 1 S L M) else (if (L 1) = (45 : Int32) then (f_Reckoner_takeSignInFront k 1 S L M) else (if (L 1) = (126 : Int32) then (f_Reckoner_takeSignInFront k 1 S L M) else (if (L 1) = (33 : Int32) then (f_Reckoner_takeSignInFront k 1 S L M) else (f_Reckoner_takeSignInFront k 2 (putI S 3 11 1) L M)))))
  | k + 1, 1, S, L, M => (f_Reckoner_push k 0 S (upd (upd (fun _ => 0) 1 (L 1 : Int32)) 2 (20 : Int32)) (fun _ => 0)).bind (fun (r1, T1) => f_Reckoner_takeSignInFront k 2 T1 L M)
  | k + 1, 2, S, L, M => some ((0 : Int32), S)
  | _ + 1, _ + 3, _, _, _ => none
set_option maxHeartbeats 8000000 in
set_option maxRecDepth 100000 in
theorem w_Reckoner_takeSignInFront {p : Program} {l : Launch} {e : Env} {R : Room} {s : State} {m : MethodId} {args : Array Value} {below : List Frame} {meth : Method} {c : Code} {cells slots : Nat} {Q : State → Prop} {g : gG} {A : Nat → Prop} {ad : Nat → Nat} (hx : p.tables.exec = Jvm.exec) (hb : c.code = b_Reckoner_takeSignInFront) (hml : c.maxLocals = 2) (hown : s.vm.findClass "MacroMill$Reckoner" = some m.cls) (htt : ∀ w ∈ gt, w.before args s = true) (hK : va_K g.1 classes (tysG g) s) (hN : nw s) (hA : ∀ q : Nat, s.heap.size ≤ q → A q) (hRf : 1 ≤ R.frames) (hRl : 22 ≤ R.locals) (hRc : cells ≤ R.cells) (hRs : slots ≤ R.slots) (r : Int32) (S9 : sS)
    (kx_54 : ∀ (ls : Array Slot) (H : Heap) (locs : List Loc), va_P g.1 classes (Sw shC g ad S9) H → va_D A (Sw shC g ad S9) → va_S A s.heap H locs → W p l e R s m args below meth c H locs cells slots Q (F0 m 54 ls [])) :
    ∀ k9 : Nat, (∀ (S : sS) (L : Nat → Int32) (M : Nat → Int64) (ls : Array Slot) (H : Heap) (locs : List Loc), f_Reckoner_takeSignInFront k9 0 S L M = some (r, S9) → lv_has ls 2 [(0, .ref (ad 3)), (1, .int (L 1))] → va_P g.1 classes (Sw shC g ad S) H → va_D A (Sw shC g ad S) → va_S A s.heap H locs → W p l e R s m args below meth c H locs cells slots Q (F0 m 0 ls [])) ∧ (∀ (S : sS) (L : Nat → Int32) (M : Nat → Int64) (ls : Array Slot) (H : Heap) (locs : List Loc), f_Reckoner_takeSignInFront k9 1 S L M = some (r, S9) → lv_has ls 2 [(0, .ref (ad 3)), (1, .int (L 1))] → va_P g.1 classes (Sw shC g ad S) H → va_D A (Sw shC g ad S) → va_S A s.heap H locs → W p l e R s m args below meth c H locs cells slots Q (F0 m 39 ls [])) ∧ (∀ (S : sS) (L : Nat → Int32) (M : Nat → Int64) (ls : Array Slot) (H : Heap) (locs : List Loc), f_Reckoner_takeSignInFront k9 2 S L M = some (r, S9) → lv_has ls 2 [(0, .ref (ad 3)), (1, .int (L 1))] → va_P g.1 classes (Sw shC g ad S) H → va_D A (Sw shC g ad S) → va_S A s.heap H locs → W p l e R s m args below meth c H locs cells slots Q (F0 m 54 ls [])) := by
  intro k9
  induction k9 with
  | zero => exact ⟨(fun _ _ _ _ _ _ h => by simp [f_Reckoner_takeSignInFront] at h), (fun _ _ _ _ _ _ h => by simp [f_Reckoner_takeSignInFront] at h), (fun _ _ _ _ _ _ h => by simp [f_Reckoner_takeSignInFront] at h)⟩
  | succ k9 ih =>
    refine ⟨?_, ?_, ?_⟩
    · intro S L M ls H locs h hl hP hD hS
      simp only [f_Reckoner_takeSignInFront] at h
      refine lv_iload_n hx hb d_Reckoner_takeSignInFront_0 rfl (lv_at hl 1 rfl) ?_
      refine lv_bipush (v := 40) hx hb d_Reckoner_takeSignInFront_1 (by decide) ?_
      refine lv_icmp_ne (tgt := 15) hx hb d_Reckoner_takeSignInFront_3 (by decide) (fun hc1 => ?_) (fun hc1 => ?_)
      · rw [if_neg hc1] at h
        refine lv_iload_n hx hb d_Reckoner_takeSignInFront_15 rfl (lv_at hl 1 rfl) ?_
        refine lv_bipush (v := 43) hx hb d_Reckoner_takeSignInFront_16 (by decide) ?_
        refine lv_icmp_eq (tgt := 39) hx hb d_Reckoner_takeSignInFront_18 (by decide) (fun hc2 => ?_) (fun hc2 => ?_)
        · rw [if_pos hc2] at h
          exact (ih.2.1) S L M ls H locs h (lv_sub hl [0, 1] rfl) hP hD hS
        · rw [if_neg hc2] at h
          refine lv_iload_n hx hb d_Reckoner_takeSignInFront_21 rfl (lv_at hl 1 rfl) ?_
          refine lv_bipush (v := 45) hx hb d_Reckoner_takeSignInFront_22 (by decide) ?_
          refine lv_icmp_eq (tgt := 39) hx hb d_Reckoner_takeSignInFront_24 (by decide) (fun hc3 => ?_) (fun hc3 => ?_)
          · rw [if_pos hc3] at h
            exact (ih.2.1) S L M ls H locs h (lv_sub hl [0, 1] rfl) hP hD hS
          · rw [if_neg hc3] at h
            refine lv_iload_n hx hb d_Reckoner_takeSignInFront_27 rfl (lv_at hl 1 rfl) ?_
            refine lv_bipush (v := 126) hx hb d_Reckoner_takeSignInFront_28 (by decide) ?_
            refine lv_icmp_eq (tgt := 39) hx hb d_Reckoner_takeSignInFront_30 (by decide) (fun hc4 => ?_) (fun hc4 => ?_)
            · rw [if_pos hc4] at h
              exact (ih.2.1) S L M ls H locs h (lv_sub hl [0, 1] rfl) hP hD hS
            · rw [if_neg hc4] at h
              refine lv_iload_n hx hb d_Reckoner_takeSignInFront_33 rfl (lv_at hl 1 rfl) ?_
              refine lv_bipush (v := 33) hx hb d_Reckoner_takeSignInFront_34 (by decide) ?_
              refine lv_icmp_ne (tgt := 49) hx hb d_Reckoner_takeSignInFront_36 (by decide) (fun hc5 => ?_) (fun hc5 => ?_)
              · rw [if_neg hc5] at h
                refine lv_aload_n hx hb d_Reckoner_takeSignInFront_49 rfl (lv_at hl 0 rfl) ?_
                show W _ _ _ _ _ _ _ _ _ _ _ _ _ _ _ (F0 _ 50 _ _)
                refine lv_iconst (v := 1) hx hb d_Reckoner_takeSignInFront_50 (by decide) ?_
                refine S_put (h := shC) (C := "MacroMill$Reckoner") (T := F_Reckoner) (v := 1) hx hb htt in_Reckoner t_Reckoner t_Reckoner_ok n_Reckoner hown hK hP hD hS 3 11 rfl rfl rfl (by decide) (htt _ k_402) (fun _ h9 => h9) rfl rfl rfl d_Reckoner_takeSignInFront_51 (fun H locs hP hD hS => ?_)
                exact (ih.2.2) (putI S 3 11 1) L M ls H locs h (lv_sub hl [0, 1] rfl) hP hD hS
              · rw [if_pos hc5] at h
                exact (ih.2.1) S L M ls H locs h (lv_sub hl [0, 1] rfl) hP hD hS
      · rw [if_pos hc1] at h
        refine lv_aload_n hx hb d_Reckoner_takeSignInFront_6 rfl (lv_at hl 0 rfl) ?_
        refine lv_iload_n hx hb d_Reckoner_takeSignInFront_7 rfl (lv_at hl 1 rfl) ?_
        refine lv_iconst (v := 0) hx hb d_Reckoner_takeSignInFront_8 (by decide) ?_
        obtain ⟨⟨r6, T6⟩, hq6, h⟩ := Option.bind_eq_some_iff.mp h
        try dsimp only at h
        refine go_vS (As := [.ref (ad 3), .int (L 1), .int 0]) (g := g) (A := A) (h := shC) hP hK hD hS hA hN (fun hp => va_runV (As := [.int (L 1), .int 0]) (rest := []) ⟨hx, hb, hml, hown, htt⟩ (t_Reckoner_push l g _ ad S (L 1 : Int32) (0 : Int32) k9 r6 T6 hq6) ⟨(cb_L htt k_1393 k_265 k_1390 hd_Reckoner_push ⟨(Nat.le_trans (by decide +kernel) hRf), (Nat.le_trans (by decide +kernel) hRl)⟩), htt _ k_1392, htt _ k_32⟩ ⟨hp.1, S_recv hK hP 3 rfl rfl, hp.2⟩ rfl rfl hl.1 rfl (lv_room (Nat.le_of_ble_eq_true rfl)) d_Reckoner_takeSignInFront_9 ⟨hRc, hRs⟩) (fun Sn H locs hw9 hP hD hS => ?_)
        have e8 := hw9
        rw [e8] at hP hD
        refine W.widen (k := cells) (n := slots) (Nat.le_refl _) (Nat.le_refl _) ?_
        refine lv_goto (tgt := 54) hx hb d_Reckoner_takeSignInFront_12 (by decide) ?_
        exact (ih.2.2) T6 L M ls H locs h (lv_sub hl [0, 1] rfl) hP hD hS
    · intro S L M ls H locs h hl hP hD hS
      simp only [f_Reckoner_takeSignInFront] at h
      refine lv_aload_n hx hb d_Reckoner_takeSignInFront_39 rfl (lv_at hl 0 rfl) ?_
      refine lv_iload_n hx hb d_Reckoner_takeSignInFront_40 rfl (lv_at hl 1 rfl) ?_
      refine lv_bipush (v := 20) hx hb d_Reckoner_takeSignInFront_41 (by decide) ?_
      obtain ⟨⟨r1, T1⟩, hq1, h⟩ := Option.bind_eq_some_iff.mp h
      try dsimp only at h
      refine go_vS (As := [.ref (ad 3), .int (L 1), .int 20]) (g := g) (A := A) (h := shC) hP hK hD hS hA hN (fun hp => va_runV (As := [.int (L 1), .int 20]) (rest := []) ⟨hx, hb, hml, hown, htt⟩ (t_Reckoner_push l g _ ad S (L 1 : Int32) (20 : Int32) k9 r1 T1 hq1) ⟨(cb_L htt k_1393 k_265 k_1390 hd_Reckoner_push ⟨(Nat.le_trans (by decide +kernel) hRf), (Nat.le_trans (by decide +kernel) hRl)⟩), htt _ k_1392, htt _ k_32⟩ ⟨hp.1, S_recv hK hP 3 rfl rfl, hp.2⟩ rfl rfl hl.1 rfl (lv_room (Nat.le_of_ble_eq_true rfl)) d_Reckoner_takeSignInFront_43 ⟨hRc, hRs⟩) (fun Sn H locs hw9 hP hD hS => ?_)
      have e8 := hw9
      rw [e8] at hP hD
      refine W.widen (k := cells) (n := slots) (Nat.le_refl _) (Nat.le_refl _) ?_
      refine lv_goto (tgt := 54) hx hb d_Reckoner_takeSignInFront_46 (by decide) ?_
      exact (ih.2.2) T1 L M ls H locs h (lv_sub hl [0, 1] rfl) hP hD hS
    · intro S L M ls H locs h hl hP hD hS
      simp only [f_Reckoner_takeSignInFront] at h
      cases h
      exact kx_54 ls H locs hP hD hS
abbrev rm_t_Reckoner_takeSignInFront : Room := { frames := 1, cells := 0, slots := 0, locals := 22 }
theorem t_Reckoner_takeSignInFront (l : Launch) (g : gG) (sz : Nat) (ad : Nat → Nat) (S : sS) (v1 : Int32) (k : Nat) (r : Int32) (S9 : sS) (h : f_Reckoner_takeSignInFront k 0 S (upd (fun _ => 0) 1 v1) (fun _ => 0) = some (r, S9)) : Cv l y_Reckoner_takeSignInFront b_Reckoner_takeSignInFront 2 rm_t_Reckoner_takeSignInFront g [.ref (ad 3), .int v1] (Sw shC g ad S) sz (fun w => ∃ S1 : sS, w = Sw shC g ad S1 ∧ S1 = S9) := by
  refine startV (by decide) (Nat.le_of_ble_eq_true rfl) ?_
  intro p e s m below meth c A ls hx hb hr hml hlocks hmn hown htt hN hA hP hK hD hS hl
  exact (w_Reckoner_takeSignInFront hx hb hml hown htt hK hN hA (by decide +kernel) (by decide +kernel) (by decide +kernel) (by decide +kernel) r S9 (fun ls H locs hP hD hS => fin_v (g := g) (ws := Sw shC g ad S9) hx hb hr hlocks (by decide +kernel) (by decide +kernel) hP hD hS ⟨_, rfl, rfl⟩ d_Reckoner_takeSignInFront_54) k).1 S (upd (fun _ => 0) 1 v1) (fun _ => 0) ls _ _ h hl hP hD hS
def f_Reckoner_closeParenthesis : Nat → Nat → sS → (Nat → Int32) → (Nat → Int64) → Option (Int32 × sS)
  | 0, _, _, _, _ => none
  | k + 1, 0, S, L, M => (f_Reckoner_isTop k 0 S (upd (fun _ => 0) 1 (0 : Int32)) (fun _ => 0)).bind (fun (r1, T1) => if r1 = (0 : Int32) then (some ((0 : Int32), (putI T1 3 11 1))) else ((f_Reckoner_endOperand k 0 (putI (putI T1 3 6 ((T1.1 3 6) - (1 : Int32))) 3 7 ((T1.1 3 7) - (1 : Int32))) (fun _ => 0) (fun _ => 0)).bind (fun (r3, T3) => some ((0 : Int32), T3))))
  | _ + 1, _ + 1, _, _, _ => none
set_option maxHeartbeats 8000000 in
set_option maxRecDepth 100000 in
theorem w_Reckoner_closeParenthesis {p : Program} {l : Launch} {e : Env} {R : Room} {s : State} {m : MethodId} {args : Array Value} {below : List Frame} {meth : Method} {c : Code} {cells slots : Nat} {Q : State → Prop} {g : gG} {A : Nat → Prop} {ad : Nat → Nat} (hx : p.tables.exec = Jvm.exec) (hb : c.code = b_Reckoner_closeParenthesis) (hml : c.maxLocals = 1) (hown : s.vm.findClass "MacroMill$Reckoner" = some m.cls) (htt : ∀ w ∈ gt, w.before args s = true) (hK : va_K g.1 classes (tysG g) s) (hN : nw s) (hA : ∀ q : Nat, s.heap.size ≤ q → A q) (hRf : 2 ≤ R.frames) (hRl : 44 ≤ R.locals) (hRc : cells ≤ R.cells) (hRs : slots ≤ R.slots) (r : Int32) (S9 : sS)
    (kx_13 : ∀ (ls : Array Slot) (H : Heap) (locs : List Loc), va_P g.1 classes (Sw shC g ad S9) H → va_D A (Sw shC g ad S9) → va_S A s.heap H locs → W p l e R s m args below meth c H locs cells slots Q (F0 m 13 ls []))
    (kx_38 : ∀ (ls : Array Slot) (H : Heap) (locs : List Loc), va_P g.1 classes (Sw shC g ad S9) H → va_D A (Sw shC g ad S9) → va_S A s.heap H locs → W p l e R s m args below meth c H locs cells slots Q (F0 m 38 ls [])) :
    ∀ k9 : Nat, (∀ (S : sS) (L : Nat → Int32) (M : Nat → Int64) (ls : Array Slot) (H : Heap) (locs : List Loc), f_Reckoner_closeParenthesis k9 0 S L M = some (r, S9) → lv_has ls 1 [(0, .ref (ad 3))] → va_P g.1 classes (Sw shC g ad S) H → va_D A (Sw shC g ad S) → va_S A s.heap H locs → W p l e R s m args below meth c H locs cells slots Q (F0 m 0 ls [])) := by
  intro k9
  induction k9 with
  | zero => exact (fun _ _ _ _ _ _ h => by simp [f_Reckoner_closeParenthesis] at h)
  | succ k9 ih =>
    · intro S L M ls H locs h hl hP hD hS
      simp only [f_Reckoner_closeParenthesis] at h
      refine lv_aload_n hx hb d_Reckoner_closeParenthesis_0 rfl (lv_at hl 0 rfl) ?_
      refine lv_iconst (v := 0) hx hb d_Reckoner_closeParenthesis_1 (by decide) ?_
      obtain ⟨⟨r1, T1⟩, hq1, h⟩ := Option.bind_eq_some_iff.mp h
      try dsimp only at h
      refine go_iS (As := [.ref (ad 3), .int 0]) (g := g) (A := A) (h := shC) hP hK hD hS hA hN (fun hp => va_runV (As := [.int 0]) (rest := []) ⟨hx, hb, hml, hown, htt⟩ (t_Reckoner_isTop l g _ ad S (0 : Int32) k9 r1 T1 hq1) ⟨(cb_L htt k_1377 k_265 k_1374 hd_Reckoner_isTop ⟨(Nat.le_trans (by decide +kernel) hRf), (Nat.le_trans (by decide +kernel) hRl)⟩), htt _ k_1376, htt _ k_30⟩ ⟨hp.1, S_recv hK hP 3 rfl rfl, hp.2⟩ rfl rfl hl.1 rfl (lv_room (Nat.le_of_ble_eq_true rfl)) d_Reckoner_closeParenthesis_2 ⟨hRc, hRs⟩) (fun r0 Sn H locs hw9 hP hD hS => ?_)
      obtain ⟨e9, e8⟩ := hw9
      rw [e8] at hP hD
      refine W.widen (k := cells) (n := slots) (Nat.le_refl _) (Nat.le_refl _) ?_
      refine toI (y := r1) e9 ?_
      refine lv_if_ne (tgt := 14) hx hb d_Reckoner_closeParenthesis_5 (by decide) (fun hc2 => ?_) (fun hc2 => ?_)
      · rw [if_neg hc2] at h
        refine lv_aload_n hx hb d_Reckoner_closeParenthesis_14 rfl (lv_at hl 0 rfl) ?_
        refine lv_dup hx hb d_Reckoner_closeParenthesis_15 rfl ?_
        refine S_getI (h := shC) (C := "MacroMill$Reckoner") (T := F_Reckoner) hx hb htt in_Reckoner hown hK hP 3 6 rfl rfl rfl (by decide) (htt _ k_397) (fun _ h9 => h9) d_Reckoner_closeParenthesis_16 ?_
        refine lv_iconst (v := 1) hx hb d_Reckoner_closeParenthesis_19 (by decide) ?_
        refine lv_isub hx hb d_Reckoner_closeParenthesis_20 ?_
        refine S_put (h := shC) (C := "MacroMill$Reckoner") (T := F_Reckoner) (v := (T1.1 3 6) - (1 : Int32)) hx hb htt in_Reckoner t_Reckoner t_Reckoner_ok n_Reckoner hown hK hP hD hS 3 6 rfl rfl rfl (by decide) (htt _ k_397) (fun _ h9 => h9) rfl rfl rfl d_Reckoner_closeParenthesis_21 (fun H locs hP hD hS => ?_)
        refine lv_aload_n hx hb d_Reckoner_closeParenthesis_24 rfl (lv_at hl 0 rfl) ?_
        refine lv_dup hx hb d_Reckoner_closeParenthesis_25 rfl ?_
        refine S_getI (h := shC) (C := "MacroMill$Reckoner") (T := F_Reckoner) hx hb htt in_Reckoner hown hK hP 3 7 rfl rfl rfl (by decide) (htt _ k_398) (fun _ h9 => h9) d_Reckoner_closeParenthesis_26 ?_
        refine toI (y := T1.1 3 7) rfl ?_
        show W _ _ _ _ _ _ _ _ _ _ _ _ _ _ _ (F0 _ 29 _ _)
        refine lv_iconst (v := 1) hx hb d_Reckoner_closeParenthesis_29 (by decide) ?_
        refine lv_isub hx hb d_Reckoner_closeParenthesis_30 ?_
        refine S_put (h := shC) (C := "MacroMill$Reckoner") (T := F_Reckoner) (v := (T1.1 3 7) - (1 : Int32)) hx hb htt in_Reckoner t_Reckoner t_Reckoner_ok n_Reckoner hown hK hP hD hS 3 7 rfl rfl rfl (by decide) (htt _ k_398) (fun _ h9 => h9) rfl rfl rfl d_Reckoner_closeParenthesis_31 (fun H locs hP hD hS => ?_)
        refine lv_aload_n hx hb d_Reckoner_closeParenthesis_34 rfl (lv_at hl 0 rfl) ?_
        obtain ⟨⟨r3, T3⟩, hq3, h⟩ := Option.bind_eq_some_iff.mp h
        try dsimp only at h
        refine go_vS (As := [.ref (ad 3)]) (g := g) (A := A) (h := shC) hP hK hD hS hA hN (fun hp => va_runV (As := []) (rest := []) ⟨hx, hb, hml, hown, htt⟩ (t_Reckoner_endOperand l g _ ad (putI (putI T1 3 6 ((T1.1 3 6) - (1 : Int32))) 3 7 ((T1.1 3 7) - (1 : Int32))) k9 r3 T3 hq3) ⟨(cb_L htt k_1373 k_265 k_1370 hd_Reckoner_endOperand ⟨(Nat.le_trans (by decide +kernel) hRf), (Nat.le_trans (by decide +kernel) hRl)⟩), htt _ k_1372, htt _ k_29⟩ ⟨hp.1, S_recv hK hP 3 rfl rfl, hp.2⟩ rfl rfl hl.1 rfl (lv_room (Nat.le_of_ble_eq_true rfl)) d_Reckoner_closeParenthesis_35 ⟨hRc, hRs⟩) (fun Sn H locs hw9 hP hD hS => ?_)
        have e8 := hw9
        rw [e8] at hP hD
        refine W.widen (k := cells) (n := slots) (Nat.le_refl _) (Nat.le_refl _) ?_
        cases h
        exact kx_38 ls H locs hP hD hS
      · rw [if_pos hc2] at h
        refine lv_aload_n hx hb d_Reckoner_closeParenthesis_8 rfl (lv_at hl 0 rfl) ?_
        refine lv_iconst (v := 1) hx hb d_Reckoner_closeParenthesis_9 (by decide) ?_
        refine S_put (h := shC) (C := "MacroMill$Reckoner") (T := F_Reckoner) (v := 1) hx hb htt in_Reckoner t_Reckoner t_Reckoner_ok n_Reckoner hown hK hP hD hS 3 11 rfl rfl rfl (by decide) (htt _ k_402) (fun _ h9 => h9) rfl rfl rfl d_Reckoner_closeParenthesis_10 (fun H locs hP hD hS => ?_)
        cases h
        exact kx_13 ls H locs hP hD hS
abbrev rm_t_Reckoner_closeParenthesis : Room := { frames := 2, cells := 0, slots := 0, locals := 44 }
theorem t_Reckoner_closeParenthesis (l : Launch) (g : gG) (sz : Nat) (ad : Nat → Nat) (S : sS) (k : Nat) (r : Int32) (S9 : sS) (h : f_Reckoner_closeParenthesis k 0 S (fun _ => 0) (fun _ => 0) = some (r, S9)) : Cv l y_Reckoner_closeParenthesis b_Reckoner_closeParenthesis 1 rm_t_Reckoner_closeParenthesis g [.ref (ad 3)] (Sw shC g ad S) sz (fun w => ∃ S1 : sS, w = Sw shC g ad S1 ∧ S1 = S9) := by
  refine startV (by decide) (Nat.le_of_ble_eq_true rfl) ?_
  intro p e s m below meth c A ls hx hb hr hml hlocks hmn hown htt hN hA hP hK hD hS hl
  exact (w_Reckoner_closeParenthesis hx hb hml hown htt hK hN hA (by decide +kernel) (by decide +kernel) (by decide +kernel) (by decide +kernel) r S9 (fun ls H locs hP hD hS => fin_v (g := g) (ws := Sw shC g ad S9) hx hb hr hlocks (by decide +kernel) (by decide +kernel) hP hD hS ⟨_, rfl, rfl⟩ d_Reckoner_closeParenthesis_13) (fun ls H locs hP hD hS => fin_v (g := g) (ws := Sw shC g ad S9) hx hb hr hlocks (by decide +kernel) (by decide +kernel) hP hD hS ⟨_, rfl, rfl⟩ d_Reckoner_closeParenthesis_38) k) S (fun _ => 0) (fun _ => 0) ls _ _ h hl hP hD hS
def f_Reckoner_reckon : Nat → Nat → sS → (Nat → Int32) → (Nat → Int64) → Option (Int32 × sS)
  | 0, _, _, _, _ => none
  | k + 1, 0, S, L, M => if okI (((S.1 3 2) - (1 : Int32)) - (1 : Int32)) 1000 = true then (if okI ((((S.1 3 2) - (1 : Int32)) - (1 : Int32)) + (1 : Int32)) 1000 = true then (if (L 1) = (15420 : Int32) then (f_Reckoner_reckon k 1 (putI S 3 2 ((S.1 3 2) - (1 : Int32))) (upd L 2 (((S.1 3 2) - (1 : Int32)) - (1 : Int32))) (vp_updL (vp_updL M 3 ((putI S 3 2 ((S.1 3 2) - (1 : Int32))).2.2 6 (((S.1 3 2) - (1 : Int32)) - (1 : Int32) : Int32).toNatClampNeg)) 5 ((putI S 3 2 ((S.1 3 2) - (1 : Int32))).2.2 6 ((((S.1 3 2) - (1 : Int32)) - (1 : Int32)) + (1 : Int32) : Int32).toNatClampNeg))) else (if (L 1) = (15934 : Int32) then (f_Reckoner_reckon k 1 (putI S 3 2 ((S.1 3 2) - (1 : Int32))) (upd L 2 (((S.1 3 2) - (1 : Int32)) - (1 : Int32))) (vp_updL (vp_updL M 3 ((putI S 3 2 ((S.1 3 2) - (1 : Int32))).2.2 6 (((S.1 3 2) - (1 : Int32)) - (1 : Int32) : Int32).toNatClampNeg)) 5 ((putI S 3 2 ((S.1 3 2) - (1 : Int32))).2.2 6 ((((S.1 3 2) - (1 : Int32)) - (1 : Int32)) + (1 : Int32) : Int32).toNatClampNeg))) else (f_Reckoner_reckon k 2 (putI S 3 2 ((S.1 3 2) - (1 : Int32))) (upd (upd L 2 (((S.1 3 2) - (1 : Int32)) - (1 : Int32))) 100 (0 : Int32)) (vp_updL (vp_updL M 3 ((putI S 3 2 ((S.1 3 2) - (1 : Int32))).2.2 6 (((S.1 3 2) - (1 : Int32)) - (1 : Int32) : Int32).toNatClampNeg)) 5 ((putI S 3 2 ((S.1 3 2) - (1 : Int32))).2.2 6 ((((S.1 3 2) - (1 : Int32)) - (1 : Int32)) + (1 : Int32) : Int32).toNatClampNeg))))) else none) else none
  | k + 1, 1, S, L, M => f_Reckoner_reckon k 2 S (upd L 100 (1 : Int32)) M
  | k + 1, 2, S, L, M => if okI (L 2) 1000 = true then (if (S.2.1 7 (L 2 : Int32).toNatClampNeg) = (0 : Int32) then (if (L 100) = (0 : Int32) then (if okI ((L 2) + (1 : Int32)) 1000 = true then (if (S.2.1 7 ((L 2) + (1 : Int32) : Int32).toNatClampNeg) = (0 : Int32) then (f_Reckoner_reckon k 4 S (upd L 7 (L 100)) M) else (f_Reckoner_reckon k 3 S (upd L 7 (L 100)) M)) else none) else (f_Reckoner_reckon k 4 S (upd L 7 (L 100)) M)) else (f_Reckoner_reckon k 3 S (upd L 7 (L 100)) M)) else none
  | k + 1, 3, S, L, M => f_Reckoner_reckon k 5 S (upd L 100 (1 : Int32)) M
  | k + 1, 4, S, L, M => f_Reckoner_reckon k 5 S (upd L 100 (0 : Int32)) M
  | k + 1, 5, S, L, M => if (S.1 3 8) = (0 : Int32) then (f_Reckoner_reckon k 6 S (upd (upd (upd L 8 (L 100)) 101 (31 : Int32)) 100 ((M 5).toInt32)) M) else (f_Reckoner_reckon k 6 S (upd (upd (upd L 8 (L 100)) 101 (63 : Int32)) 100 ((M 5).toInt32)) M)
  | k + 1, 6, S, L, M => if (L 1) = (38 : Int32) then (f_Reckoner_reckon k 9 S (upd L 9 ((L 100) &&& (L 101))) (vp_updL M 10 ((M 3) &&& (M 5)))) else (if (L 1) = (42 : Int32) then (f_Reckoner_reckon k 9 S (upd L 9 ((L 100) &&& (L 101))) (vp_updL M 10 ((M 3) * (M 5)))) else (if (L 1) = (43 : Int32) then (f_Reckoner_reckon k 9 S (upd L 9 ((L 100) &&& (L 101))) (vp_updL M 10 ((M 3) + (M 5)))) else (if (L 1) = (45 : Int32) then (f_Reckoner_reckon k 9 S (upd L 9 ((L 100) &&& (L 101))) (vp_updL M 10 ((M 3) - (M 5)))) else (if (L 1) = (94 : Int32) then (f_Reckoner_reckon k 9 S (upd L 9 ((L 100) &&& (L 101))) (vp_updL M 10 ((M 3) ^^^ (M 5)))) else (if (L 1) = (124 : Int32) then (f_Reckoner_reckon k 9 S (upd L 9 ((L 100) &&& (L 101))) (vp_updL M 10 ((M 3) ||| (M 5)))) else (if (L 1) = (15420 : Int32) then (f_Reckoner_reckon k 9 S (upd L 9 ((L 100) &&& (L 101))) (vp_updL M 10 ((M 3) <<< (((L 100) &&& (L 101) : Int32).toInt64 &&& 63)))) else (if (L 1) = (15934 : Int32) then (if (L 8) = (0 : Int32) then (f_Reckoner_reckon k 7 S (upd L 9 ((L 100) &&& (L 101))) (vp_updL M 100 ((M 3) >>> (((L 100) &&& (L 101) : Int32).toInt64 &&& 63)))) else (f_Reckoner_reckon k 7 S (upd L 9 ((L 100) &&& (L 101))) (vp_updL M 100 (((M 3).toUInt64 >>> (((L 100) &&& (L 101) : Int32).toInt64.toUInt64 &&& Int64.toUInt64 63)).toInt64)))) else (if (L 1) = (37 : Int32) then (f_Reckoner_reckon k 8 S (upd (upd (upd L 9 ((L 100) &&& (L 101))) 104 (1 : Int32)) 103 (L 8)) (vp_updL (vp_updL M 102 (M 5)) 101 (M 3))) else (f_Reckoner_reckon k 8 S (upd (upd (upd L 9 ((L 100) &&& (L 101))) 104 (0 : Int32)) 103 (L 8)) (vp_updL (vp_updL M 102 (M 5)) 101 (M 3)))))))))))
  | k + 1, 7, S, L, M => f_Reckoner_reckon k 9 S L (vp_updL M 10 (M 100))
  | k + 1, 8, S, L, M => (f_Reckoner_divide k 0 S (upd (upd (fun _ => 0) 5 (L 103 : Int32)) 6 (L 104 : Int32)) (vp_updL (vp_updL (fun _ => 0) 1 (M 101 : Int64)) 3 (M 102 : Int64))).bind (fun (r1, T1) => f_Reckoner_reckon k 9 T1 L (vp_updL M 10 r1))
  | k + 1, 9, S, L, M => if (S.1 3 8) = (0 : Int32) then (f_Reckoner_reckon k 10 S (upd L 101 (L 2)) (vp_updL M 102 (((M 10).toInt32).toInt64))) else (f_Reckoner_reckon k 10 S (upd L 101 (L 2)) (vp_updL M 102 (M 10)))
  | k + 1, 10, S, L, M => if okI (L 101) 1000 = true then (if okI (L 2) 1000 = true then (some ((0 : Int32), (putA (putL S 6 (L 101 : Int32).toNatClampNeg (M 102)) 7 (L 2 : Int32).toNatClampNeg (vp_nar .boolean (L 8))))) else none) else none
  | _ + 1, _ + 11, _, _, _ => none
set_option maxHeartbeats 8000000 in
set_option maxRecDepth 100000 in
theorem w_Reckoner_reckon {p : Program} {l : Launch} {e : Env} {R : Room} {s : State} {m : MethodId} {args : Array Value} {below : List Frame} {meth : Method} {c : Code} {cells slots : Nat} {Q : State → Prop} {g : gG} {A : Nat → Prop} {ad : Nat → Nat} (hx : p.tables.exec = Jvm.exec) (hb : c.code = b_Reckoner_reckon) (hml : c.maxLocals = 12) (hown : s.vm.findClass "MacroMill$Reckoner" = some m.cls) (htt : ∀ w ∈ gt, w.before args s = true) (hK : va_K g.1 classes (tysG g) s) (hN : nw s) (hA : ∀ q : Nat, s.heap.size ≤ q → A q) (hRf : 1 ≤ R.frames) (hRl : 28 ≤ R.locals) (hRc : cells ≤ R.cells) (hRs : slots ≤ R.slots) (r : Int32) (S9 : sS)
    (kx_320 : ∀ (ls : Array Slot) (H : Heap) (locs : List Loc), va_P g.1 classes (Sw shC g ad S9) H → va_D A (Sw shC g ad S9) → va_S A s.heap H locs → W p l e R s m args below meth c H locs cells slots Q (F0 m 320 ls [])) :
    ∀ k9 : Nat, (∀ (S : sS) (L : Nat → Int32) (M : Nat → Int64) (ls : Array Slot) (H : Heap) (locs : List Loc), f_Reckoner_reckon k9 0 S L M = some (r, S9) → lv_has ls 12 [(0, .ref (ad 3)), (1, .int (L 1))] → va_P g.1 classes (Sw shC g ad S) H → va_D A (Sw shC g ad S) → va_S A s.heap H locs → W p l e R s m args below meth c H locs cells slots Q (F0 m 0 ls [])) ∧ (∀ (S : sS) (L : Nat → Int32) (M : Nat → Int64) (ls : Array Slot) (H : Heap) (locs : List Loc), f_Reckoner_reckon k9 1 S L M = some (r, S9) → lv_has ls 12 [(0, .ref (ad 3)), (1, .int (L 1)), (2, .int (L 2)), (3, .long (M 3)), (5, .long (M 5))] → va_P g.1 classes (Sw shC g ad S) H → va_D A (Sw shC g ad S) → va_S A s.heap H locs → W p l e R s m args below meth c H locs cells slots Q (F0 m 48 ls [])) ∧ (∀ (S : sS) (L : Nat → Int32) (M : Nat → Int64) (ls : Array Slot) (H : Heap) (locs : List Loc), f_Reckoner_reckon k9 2 S L M = some (r, S9) → lv_has ls 12 [(0, .ref (ad 3)), (1, .int (L 1)), (2, .int (L 2)), (3, .long (M 3)), (5, .long (M 5))] → va_P g.1 classes (Sw shC g ad S) H → va_D A (Sw shC g ad S) → va_S A s.heap H locs → W p l e R s m args below meth c H locs cells slots Q (F0 m 53 ls [.int (L 100)])) ∧ (∀ (S : sS) (L : Nat → Int32) (M : Nat → Int64) (ls : Array Slot) (H : Heap) (locs : List Loc), f_Reckoner_reckon k9 3 S L M = some (r, S9) → lv_has ls 12 [(0, .ref (ad 3)), (1, .int (L 1)), (2, .int (L 2)), (3, .long (M 3)), (5, .long (M 5)), (7, .int (L 7))] → va_P g.1 classes (Sw shC g ad S) H → va_D A (Sw shC g ad S) → va_S A s.heap H locs → W p l e R s m args below meth c H locs cells slots Q (F0 m 80 ls [])) ∧ (∀ (S : sS) (L : Nat → Int32) (M : Nat → Int64) (ls : Array Slot) (H : Heap) (locs : List Loc), f_Reckoner_reckon k9 4 S L M = some (r, S9) → lv_has ls 12 [(0, .ref (ad 3)), (1, .int (L 1)), (2, .int (L 2)), (3, .long (M 3)), (5, .long (M 5)), (7, .int (L 7))] → va_P g.1 classes (Sw shC g ad S) H → va_D A (Sw shC g ad S) → va_S A s.heap H locs → W p l e R s m args below meth c H locs cells slots Q (F0 m 84 ls [])) ∧ (∀ (S : sS) (L : Nat → Int32) (M : Nat → Int64) (ls : Array Slot) (H : Heap) (locs : List Loc), f_Reckoner_reckon k9 5 S L M = some (r, S9) → lv_has ls 12 [(0, .ref (ad 3)), (1, .int (L 1)), (2, .int (L 2)), (3, .long (M 3)), (5, .long (M 5)), (7, .int (L 7))] → va_P g.1 classes (Sw shC g ad S) H → va_D A (Sw shC g ad S) → va_S A s.heap H locs → W p l e R s m args below meth c H locs cells slots Q (F0 m 85 ls [.int (L 100)])) ∧ (∀ (S : sS) (L : Nat → Int32) (M : Nat → Int64) (ls : Array Slot) (H : Heap) (locs : List Loc), f_Reckoner_reckon k9 6 S L M = some (r, S9) → lv_has ls 12 [(0, .ref (ad 3)), (1, .int (L 1)), (2, .int (L 2)), (3, .long (M 3)), (5, .long (M 5)), (7, .int (L 7)), (8, .int (L 8))] → va_P g.1 classes (Sw shC g ad S) H → va_D A (Sw shC g ad S) → va_S A s.heap H locs → W p l e R s m args below meth c H locs cells slots Q (F0 m 104 ls [.int (L 101), .int (L 100)])) ∧ (∀ (S : sS) (L : Nat → Int32) (M : Nat → Int64) (ls : Array Slot) (H : Heap) (locs : List Loc), f_Reckoner_reckon k9 7 S L M = some (r, S9) → lv_has ls 12 [(0, .ref (ad 3)), (1, .int (L 1)), (2, .int (L 2)), (3, .long (M 3)), (5, .long (M 5)), (7, .int (L 7)), (8, .int (L 8)), (9, .int (L 9))] → va_P g.1 classes (Sw shC g ad S) H → va_D A (Sw shC g ad S) → va_S A s.heap H locs → W p l e R s m args below meth c H locs cells slots Q (F0 m 236 ls [.long (M 100)])) ∧ (∀ (S : sS) (L : Nat → Int32) (M : Nat → Int64) (ls : Array Slot) (H : Heap) (locs : List Loc), f_Reckoner_reckon k9 8 S L M = some (r, S9) → lv_has ls 12 [(0, .ref (ad 3)), (1, .int (L 1)), (2, .int (L 2)), (3, .long (M 3)), (5, .long (M 5)), (7, .int (L 7)), (8, .int (L 8)), (9, .int (L 9))] → va_P g.1 classes (Sw shC g ad S) H → va_D A (Sw shC g ad S) → va_S A s.heap H locs → W p l e R s m args below meth c H locs cells slots Q (F0 m 285 ls [.int (L 104), .int (L 103), .long (M 102), .long (M 101), .ref (ad 3)])) ∧ (∀ (S : sS) (L : Nat → Int32) (M : Nat → Int64) (ls : Array Slot) (H : Heap) (locs : List Loc), f_Reckoner_reckon k9 9 S L M = some (r, S9) → lv_has ls 12 [(0, .ref (ad 3)), (1, .int (L 1)), (2, .int (L 2)), (3, .long (M 3)), (5, .long (M 5)), (7, .int (L 7)), (8, .int (L 8)), (9, .int (L 9)), (10, .long (M 10))] → va_P g.1 classes (Sw shC g ad S) H → va_D A (Sw shC g ad S) → va_S A s.heap H locs → W p l e R s m args below meth c H locs cells slots Q (F0 m 290 ls [])) ∧ (∀ (S : sS) (L : Nat → Int32) (M : Nat → Int64) (ls : Array Slot) (H : Heap) (locs : List Loc), f_Reckoner_reckon k9 10 S L M = some (r, S9) → lv_has ls 12 [(0, .ref (ad 3)), (1, .int (L 1)), (2, .int (L 2)), (3, .long (M 3)), (5, .long (M 5)), (7, .int (L 7)), (8, .int (L 8)), (9, .int (L 9)), (10, .long (M 10))] → va_P g.1 classes (Sw shC g ad S) H → va_D A (Sw shC g ad S) → va_S A s.heap H locs → W p l e R s m args below meth c H locs cells slots Q (F0 m 311 ls [.long (M 102), .int (L 101), .ref (ad 19)])) := by
  intro k9
  induction k9 with
  | zero => exact ⟨(fun _ _ _ _ _ _ h => by simp [f_Reckoner_reckon] at h), (fun _ _ _ _ _ _ h => by simp [f_Reckoner_reckon] at h), (fun _ _ _ _ _ _ h => by simp [f_Reckoner_reckon] at h), (fun _ _ _ _ _ _ h => by simp [f_Reckoner_reckon] at h), (fun _ _ _ _ _ _ h => by simp [f_Reckoner_reckon] at h), (fun _ _ _ _ _ _ h => by simp [f_Reckoner_reckon] at h), (fun _ _ _ _ _ _ h => by simp [f_Reckoner_reckon] at h), (fun _ _ _ _ _ _ h => by simp [f_Reckoner_reckon] at h), (fun _ _ _ _ _ _ h => by simp [f_Reckoner_reckon] at h), (fun _ _ _ _ _ _ h => by simp [f_Reckoner_reckon] at h), (fun _ _ _ _ _ _ h => by simp [f_Reckoner_reckon] at h)⟩
  | succ k9 ih =>
    refine ⟨?_, ?_, ?_, ?_, ?_, ?_, ?_, ?_, ?_, ?_, ?_⟩
    · intro S L M ls H locs h hl hP hD hS
      simp only [f_Reckoner_reckon] at h
      refine lv_aload_n hx hb d_Reckoner_reckon_0 rfl (lv_at hl 0 rfl) ?_
      refine lv_dup hx hb d_Reckoner_reckon_1 rfl ?_
      refine S_getI (h := shC) (C := "MacroMill$Reckoner") (T := F_Reckoner) hx hb htt in_Reckoner hown hK hP 3 2 rfl rfl rfl (by decide) (htt _ k_393) (fun _ h9 => h9) d_Reckoner_reckon_2 ?_
      refine lv_iconst (v := 1) hx hb d_Reckoner_reckon_5 (by decide) ?_
      refine lv_isub hx hb d_Reckoner_reckon_6 ?_
      refine S_put (h := shC) (C := "MacroMill$Reckoner") (T := F_Reckoner) (v := (S.1 3 2) - (1 : Int32)) hx hb htt in_Reckoner t_Reckoner t_Reckoner_ok n_Reckoner hown hK hP hD hS 3 2 rfl rfl rfl (by decide) (htt _ k_393) (fun _ h9 => h9) rfl rfl rfl d_Reckoner_reckon_7 (fun H locs hP hD hS => ?_)
      refine lv_aload_n hx hb d_Reckoner_reckon_10 rfl (lv_at hl 0 rfl) ?_
      refine S_getI (h := shC) (C := "MacroMill$Reckoner") (T := F_Reckoner) hx hb htt in_Reckoner hown hK hP 3 2 rfl rfl rfl (by decide) (htt _ k_393) (fun _ h9 => h9) d_Reckoner_reckon_11 ?_
      refine toI (y := (S.1 3 2) - (1 : Int32)) rfl ?_
      refine lv_iconst (v := 1) hx hb d_Reckoner_reckon_14 (by decide) ?_
      refine lv_isub hx hb d_Reckoner_reckon_15 ?_
      refine lv_istore_n (lv' := [(2, .int (((S.1 3 2) - (1 : Int32)) - (1 : Int32))), (0, .ref (ad 3)), (1, .int (L 1))]) hx hb d_Reckoner_reckon_16 rfl hl (by decide) rfl (fun ls hl => ?_)
      show W _ _ _ _ _ _ _ _ _ _ _ _ _ _ _ (F0 _ 17 _ _)
      refine lv_aload_n hx hb d_Reckoner_reckon_17 rfl (lv_at hl 1 rfl) ?_
      refine S_getR (h := shC) (C := "MacroMill$Reckoner") (T := F_Reckoner) hx hb htt in_Reckoner hown hK hP 3 0 rfl 19 rfl rfl (by decide) (htt _ k_391) (fun _ h9 => h9) d_Reckoner_reckon_18 ?_
      refine lv_iload_n hx hb d_Reckoner_reckon_21 rfl (lv_at hl 0 rfl) ?_
      obtain ⟨hv1, h⟩ := chk h
      refine S_lald (h := shC) (i := ((S.1 3 2) - (1 : Int32)) - (1 : Int32)) hx hb hK hP 6 rfl (okI_in hv1) d_Reckoner_reckon_22 ?_
      refine lv_lstore_n (lv' := [(3, .long ((putI S 3 2 ((S.1 3 2) - (1 : Int32))).2.2 6 (((S.1 3 2) - (1 : Int32)) - (1 : Int32) : Int32).toNatClampNeg)), (2, .int (((S.1 3 2) - (1 : Int32)) - (1 : Int32))), (0, .ref (ad 3)), (1, .int (L 1))]) hx hb d_Reckoner_reckon_23 rfl hl (by decide) rfl (fun ls hl => ?_)
      refine lv_aload_n hx hb d_Reckoner_reckon_24 rfl (lv_at hl 2 rfl) ?_
      refine S_getR (h := shC) (C := "MacroMill$Reckoner") (T := F_Reckoner) hx hb htt in_Reckoner hown hK hP 3 0 rfl 19 rfl rfl (by decide) (htt _ k_391) (fun _ h9 => h9) d_Reckoner_reckon_25 ?_
      refine lv_iload_n hx hb d_Reckoner_reckon_28 rfl (lv_at hl 1 rfl) ?_
      refine lv_iconst (v := 1) hx hb d_Reckoner_reckon_29 (by decide) ?_
      refine lv_iadd hx hb d_Reckoner_reckon_30 ?_
      obtain ⟨hv2, h⟩ := chk h
      refine S_lald (h := shC) (i := (((S.1 3 2) - (1 : Int32)) - (1 : Int32)) + (1 : Int32)) hx hb hK hP 6 rfl (okI_in hv2) d_Reckoner_reckon_31 ?_
      refine lv_lstore (lv' := [(5, .long ((putI S 3 2 ((S.1 3 2) - (1 : Int32))).2.2 6 ((((S.1 3 2) - (1 : Int32)) - (1 : Int32)) + (1 : Int32) : Int32).toNatClampNeg)), (3, .long ((putI S 3 2 ((S.1 3 2) - (1 : Int32))).2.2 6 (((S.1 3 2) - (1 : Int32)) - (1 : Int32) : Int32).toNatClampNeg)), (2, .int (((S.1 3 2) - (1 : Int32)) - (1 : Int32))), (0, .ref (ad 3)), (1, .int (L 1))]) hx hb d_Reckoner_reckon_32 hl (by decide) rfl (fun ls hl => ?_)
      show W _ _ _ _ _ _ _ _ _ _ _ _ _ _ _ (F0 _ 34 _ _)
      refine lv_iload_n hx hb d_Reckoner_reckon_34 rfl (lv_at hl 4 rfl) ?_
      refine lv_sipush (v := 15420) hx hb d_Reckoner_reckon_35 (by decide) ?_
      refine lv_icmp_eq (tgt := 48) hx hb d_Reckoner_reckon_38 (by decide) (fun hc3 => ?_) (fun hc3 => ?_)
      · rw [if_pos hc3] at h
        exact (ih.2.1) (putI S 3 2 ((S.1 3 2) - (1 : Int32))) (upd L 2 (((S.1 3 2) - (1 : Int32)) - (1 : Int32))) (vp_updL (vp_updL M 3 ((putI S 3 2 ((S.1 3 2) - (1 : Int32))).2.2 6 (((S.1 3 2) - (1 : Int32)) - (1 : Int32) : Int32).toNatClampNeg)) 5 ((putI S 3 2 ((S.1 3 2) - (1 : Int32))).2.2 6 ((((S.1 3 2) - (1 : Int32)) - (1 : Int32)) + (1 : Int32) : Int32).toNatClampNeg)) ls H locs h (lv_sub hl [3, 4, 2, 1, 0] rfl) hP hD hS
      · rw [if_neg hc3] at h
        refine lv_iload_n hx hb d_Reckoner_reckon_41 rfl (lv_at hl 4 rfl) ?_
        refine lv_sipush (v := 15934) hx hb d_Reckoner_reckon_42 (by decide) ?_
        refine lv_icmp_ne (tgt := 52) hx hb d_Reckoner_reckon_45 (by decide) (fun hc4 => ?_) (fun hc4 => ?_)
        · rw [if_neg hc4] at h
          refine lv_iconst (v := 0) hx hb d_Reckoner_reckon_52 (by decide) ?_
          exact (ih.2.2.1) (putI S 3 2 ((S.1 3 2) - (1 : Int32))) (upd (upd L 2 (((S.1 3 2) - (1 : Int32)) - (1 : Int32))) 100 (0 : Int32)) (vp_updL (vp_updL M 3 ((putI S 3 2 ((S.1 3 2) - (1 : Int32))).2.2 6 (((S.1 3 2) - (1 : Int32)) - (1 : Int32) : Int32).toNatClampNeg)) 5 ((putI S 3 2 ((S.1 3 2) - (1 : Int32))).2.2 6 ((((S.1 3 2) - (1 : Int32)) - (1 : Int32)) + (1 : Int32) : Int32).toNatClampNeg)) ls H locs h (lv_sub hl [3, 4, 2, 1, 0] rfl) hP hD hS
        · rw [if_pos hc4] at h
          exact (ih.2.1) (putI S 3 2 ((S.1 3 2) - (1 : Int32))) (upd L 2 (((S.1 3 2) - (1 : Int32)) - (1 : Int32))) (vp_updL (vp_updL M 3 ((putI S 3 2 ((S.1 3 2) - (1 : Int32))).2.2 6 (((S.1 3 2) - (1 : Int32)) - (1 : Int32) : Int32).toNatClampNeg)) 5 ((putI S 3 2 ((S.1 3 2) - (1 : Int32))).2.2 6 ((((S.1 3 2) - (1 : Int32)) - (1 : Int32)) + (1 : Int32) : Int32).toNatClampNeg)) ls H locs h (lv_sub hl [3, 4, 2, 1, 0] rfl) hP hD hS
    · intro S L M ls H locs h hl hP hD hS
      simp only [f_Reckoner_reckon] at h
      refine lv_iconst (v := 1) hx hb d_Reckoner_reckon_48 (by decide) ?_
      refine lv_goto (tgt := 53) hx hb d_Reckoner_reckon_49 (by decide) ?_
      exact (ih.2.2.1) S (upd L 100 (1 : Int32)) M ls H locs h (lv_sub hl [0, 1, 2, 3, 4] rfl) hP hD hS
    · intro S L M ls H locs h hl hP hD hS
      simp only [f_Reckoner_reckon] at h
      refine lv_istore (lv' := [(7, .int (L 100)), (0, .ref (ad 3)), (1, .int (L 1)), (2, .int (L 2)), (3, .long (M 3)), (5, .long (M 5))]) hx hb d_Reckoner_reckon_53 hl (by decide) rfl (fun ls hl => ?_)
      refine lv_aload_n hx hb d_Reckoner_reckon_55 rfl (lv_at hl 1 rfl) ?_
      refine S_getR (h := shC) (C := "MacroMill$Reckoner") (T := F_Reckoner) hx hb htt in_Reckoner hown hK hP 3 1 rfl 20 rfl rfl (by decide) (htt _ k_392) (fun _ h9 => h9) d_Reckoner_reckon_56 ?_
      refine lv_iload_n hx hb d_Reckoner_reckon_59 rfl (lv_at hl 3 rfl) ?_
      obtain ⟨hv1, h⟩ := chk h
      refine S_zald (h := shC) (i := L 2) hx hb hK hP 7 rfl (okI_in hv1) d_Reckoner_reckon_60 ?_
      refine lv_if_ne (tgt := 80) hx hb d_Reckoner_reckon_61 (by decide) (fun hc2 => ?_) (fun hc2 => ?_)
      · rw [if_neg hc2] at h
        exact (ih.2.2.2.1) S (upd L 7 (L 100)) M ls H locs h (lv_sub hl [1, 2, 3, 4, 5, 0] rfl) hP hD hS
      · rw [if_pos hc2] at h
        refine lv_iload hx hb d_Reckoner_reckon_64 (lv_at hl 0 rfl) ?_
        refine lv_if_ne (tgt := 84) hx hb d_Reckoner_reckon_66 (by decide) (fun hc3 => ?_) (fun hc3 => ?_)
        · rw [if_neg hc3] at h
          exact (ih.2.2.2.2.1) S (upd L 7 (L 100)) M ls H locs h (lv_sub hl [1, 2, 3, 4, 5, 0] rfl) hP hD hS
        · rw [if_pos hc3] at h
          refine lv_aload_n hx hb d_Reckoner_reckon_69 rfl (lv_at hl 1 rfl) ?_
          refine S_getR (h := shC) (C := "MacroMill$Reckoner") (T := F_Reckoner) hx hb htt in_Reckoner hown hK hP 3 1 rfl 20 rfl rfl (by decide) (htt _ k_392) (fun _ h9 => h9) d_Reckoner_reckon_70 ?_
          refine lv_iload_n hx hb d_Reckoner_reckon_73 rfl (lv_at hl 3 rfl) ?_
          refine lv_iconst (v := 1) hx hb d_Reckoner_reckon_74 (by decide) ?_
          refine lv_iadd hx hb d_Reckoner_reckon_75 ?_
          obtain ⟨hv4, h⟩ := chk h
          show W _ _ _ _ _ _ _ _ _ _ _ _ _ _ _ (F0 _ 76 _ _)
          refine S_zald (h := shC) (i := (L 2) + (1 : Int32)) hx hb hK hP 7 rfl (okI_in hv4) d_Reckoner_reckon_76 ?_
          refine lv_if_eq (tgt := 84) hx hb d_Reckoner_reckon_77 (by decide) (fun hc5 => ?_) (fun hc5 => ?_)
          · rw [if_pos hc5] at h
            exact (ih.2.2.2.2.1) S (upd L 7 (L 100)) M ls H locs h (lv_sub hl [1, 2, 3, 4, 5, 0] rfl) hP hD hS
          · rw [if_neg hc5] at h
            exact (ih.2.2.2.1) S (upd L 7 (L 100)) M ls H locs h (lv_sub hl [1, 2, 3, 4, 5, 0] rfl) hP hD hS
    · intro S L M ls H locs h hl hP hD hS
      simp only [f_Reckoner_reckon] at h
      refine lv_iconst (v := 1) hx hb d_Reckoner_reckon_80 (by decide) ?_
      refine lv_goto (tgt := 85) hx hb d_Reckoner_reckon_81 (by decide) ?_
      exact (ih.2.2.2.2.2.1) S (upd L 100 (1 : Int32)) M ls H locs h (lv_sub hl [0, 1, 2, 3, 4, 5] rfl) hP hD hS
    · intro S L M ls H locs h hl hP hD hS
      simp only [f_Reckoner_reckon] at h
      refine lv_iconst (v := 0) hx hb d_Reckoner_reckon_84 (by decide) ?_
      exact (ih.2.2.2.2.2.1) S (upd L 100 (0 : Int32)) M ls H locs h (lv_sub hl [0, 1, 2, 3, 4, 5] rfl) hP hD hS
    · intro S L M ls H locs h hl hP hD hS
      simp only [f_Reckoner_reckon] at h
      refine lv_istore (lv' := [(8, .int (L 100)), (0, .ref (ad 3)), (1, .int (L 1)), (2, .int (L 2)), (3, .long (M 3)), (5, .long (M 5)), (7, .int (L 7))]) hx hb d_Reckoner_reckon_85 hl (by decide) rfl (fun ls hl => ?_)
      refine lv_lload hx hb d_Reckoner_reckon_87 (lv_at hl 5 rfl) ?_
      refine lv_l2i (v := (M 5).toInt32) hx hb d_Reckoner_reckon_89 rfl ?_
      refine lv_aload_n hx hb d_Reckoner_reckon_90 rfl (lv_at hl 1 rfl) ?_
      refine S_getI (h := shC) (C := "MacroMill$Reckoner") (T := F_Reckoner) hx hb htt in_Reckoner hown hK hP 3 8 rfl rfl rfl (by decide) (htt _ k_399) (fun _ h9 => h9) d_Reckoner_reckon_91 ?_
      refine lv_if_eq (tgt := 102) hx hb d_Reckoner_reckon_94 (by decide) (fun hc1 => ?_) (fun hc1 => ?_)
      · rw [if_pos hc1] at h
        refine lv_bipush (v := 31) hx hb d_Reckoner_reckon_102 (by decide) ?_
        exact (ih.2.2.2.2.2.2.1) S (upd (upd (upd L 8 (L 100)) 101 (31 : Int32)) 100 ((M 5).toInt32)) M ls H locs h (lv_sub hl [1, 2, 3, 4, 5, 6, 0] rfl) hP hD hS
      · rw [if_neg hc1] at h
        refine lv_bipush (v := 63) hx hb d_Reckoner_reckon_97 (by decide) ?_
        refine lv_goto (tgt := 104) hx hb d_Reckoner_reckon_99 (by decide) ?_
        exact (ih.2.2.2.2.2.2.1) S (upd (upd (upd L 8 (L 100)) 101 (63 : Int32)) 100 ((M 5).toInt32)) M ls H locs h (lv_sub hl [1, 2, 3, 4, 5, 6, 0] rfl) hP hD hS
    · intro S L M ls H locs h hl hP hD hS
      simp only [f_Reckoner_reckon] at h
      refine lv_iand hx hb d_Reckoner_reckon_104 ?_
      refine lv_istore (lv' := [(9, .int ((L 100) &&& (L 101))), (0, .ref (ad 3)), (1, .int (L 1)), (2, .int (L 2)), (3, .long (M 3)), (5, .long (M 5)), (7, .int (L 7)), (8, .int (L 8))]) hx hb d_Reckoner_reckon_105 hl (by decide) rfl (fun ls hl => ?_)
      refine lv_iload_n hx hb d_Reckoner_reckon_107 rfl (lv_at hl 2 rfl) ?_
      by_cases hc1_0 : (L 1) = (38 : Int32)
      · rw [if_pos hc1_0] at h
        refine lv_lookup (tgt := 202) (off := 94) hx hb d_Reckoner_reckon_108 (by decide) (by rw [hc1_0]; decide) (by decide) ?_
        refine lv_lload_n hx hb d_Reckoner_reckon_202 rfl (lv_at hl 4 rfl) ?_
        refine lv_lload hx hb d_Reckoner_reckon_203 (lv_at hl 5 rfl) ?_
        refine lv_land hx hb d_Reckoner_reckon_205 ?_
        refine lv_lstore (lv' := [(10, .long ((M 3) &&& (M 5))), (9, .int ((L 100) &&& (L 101))), (0, .ref (ad 3)), (1, .int (L 1)), (2, .int (L 2)), (3, .long (M 3)), (5, .long (M 5)), (7, .int (L 7)), (8, .int (L 8))]) hx hb d_Reckoner_reckon_206 hl (by decide) rfl (fun ls hl => ?_)
        refine lv_goto (tgt := 290) hx hb d_Reckoner_reckon_208 (by decide) ?_
        exact (ih.2.2.2.2.2.2.2.2.2.1) S (upd L 9 ((L 100) &&& (L 101))) (vp_updL M 10 ((M 3) &&& (M 5))) ls H locs h (lv_sub hl [2, 3, 4, 5, 6, 7, 8, 1, 0] rfl) hP hD hS
      rw [if_neg hc1_0] at h
      by_cases hc1_1 : (L 1) = (42 : Int32)
      · rw [if_pos hc1_1] at h
        refine lv_lookup (tgt := 259) (off := 151) hx hb d_Reckoner_reckon_108 (by decide) (by rw [hc1_1]; decide) (by decide) ?_
        refine lv_lload_n hx hb d_Reckoner_reckon_259 rfl (lv_at hl 4 rfl) ?_
        refine lv_lload hx hb d_Reckoner_reckon_260 (lv_at hl 5 rfl) ?_
        refine lv_lmul hx hb d_Reckoner_reckon_262 ?_
        refine lv_lstore (lv' := [(10, .long ((M 3) * (M 5))), (9, .int ((L 100) &&& (L 101))), (0, .ref (ad 3)), (1, .int (L 1)), (2, .int (L 2)), (3, .long (M 3)), (5, .long (M 5)), (7, .int (L 7)), (8, .int (L 8))]) hx hb d_Reckoner_reckon_263 hl (by decide) rfl (fun ls hl => ?_)
        refine lv_goto (tgt := 290) hx hb d_Reckoner_reckon_265 (by decide) ?_
        exact (ih.2.2.2.2.2.2.2.2.2.1) S (upd L 9 ((L 100) &&& (L 101))) (vp_updL M 10 ((M 3) * (M 5))) ls H locs h (lv_sub hl [2, 3, 4, 5, 6, 7, 8, 1, 0] rfl) hP hD hS
      rw [if_neg hc1_1] at h
      by_cases hc1_2 : (L 1) = (43 : Int32)
      · rw [if_pos hc1_2] at h
        refine lv_lookup (tgt := 241) (off := 133) hx hb d_Reckoner_reckon_108 (by decide) (by rw [hc1_2]; decide) (by decide) ?_
        refine lv_lload_n hx hb d_Reckoner_reckon_241 rfl (lv_at hl 4 rfl) ?_
        refine lv_lload hx hb d_Reckoner_reckon_242 (lv_at hl 5 rfl) ?_
        refine lv_ladd hx hb d_Reckoner_reckon_244 ?_
        refine lv_lstore (lv' := [(10, .long ((M 3) + (M 5))), (9, .int ((L 100) &&& (L 101))), (0, .ref (ad 3)), (1, .int (L 1)), (2, .int (L 2)), (3, .long (M 3)), (5, .long (M 5)), (7, .int (L 7)), (8, .int (L 8))]) hx hb d_Reckoner_reckon_245 hl (by decide) rfl (fun ls hl => ?_)
        refine lv_goto (tgt := 290) hx hb d_Reckoner_reckon_247 (by decide) ?_
        exact (ih.2.2.2.2.2.2.2.2.2.1) S (upd L 9 ((L 100) &&& (L 101))) (vp_updL M 10 ((M 3) + (M 5))) ls H locs h (lv_sub hl [2, 3, 4, 5, 6, 7, 8, 1, 0] rfl) hP hD hS
      rw [if_neg hc1_2] at h
      by_cases hc1_3 : (L 1) = (45 : Int32)
      · rw [if_pos hc1_3] at h
        refine lv_lookup (tgt := 250) (off := 142) hx hb d_Reckoner_reckon_108 (by decide) (by rw [hc1_3]; decide) (by decide) ?_
        refine lv_lload_n hx hb d_Reckoner_reckon_250 rfl (lv_at hl 4 rfl) ?_
        refine lv_lload hx hb d_Reckoner_reckon_251 (lv_at hl 5 rfl) ?_
        refine lv_lsub hx hb d_Reckoner_reckon_253 ?_
        refine lv_lstore (lv' := [(10, .long ((M 3) - (M 5))), (9, .int ((L 100) &&& (L 101))), (0, .ref (ad 3)), (1, .int (L 1)), (2, .int (L 2)), (3, .long (M 3)), (5, .long (M 5)), (7, .int (L 7)), (8, .int (L 8))]) hx hb d_Reckoner_reckon_254 hl (by decide) rfl (fun ls hl => ?_)
        refine lv_goto (tgt := 290) hx hb d_Reckoner_reckon_256 (by decide) ?_
        exact (ih.2.2.2.2.2.2.2.2.2.1) S (upd L 9 ((L 100) &&& (L 101))) (vp_updL M 10 ((M 3) - (M 5))) ls H locs h (lv_sub hl [2, 3, 4, 5, 6, 7, 8, 1, 0] rfl) hP hD hS
      rw [if_neg hc1_3] at h
      by_cases hc1_4 : (L 1) = (94 : Int32)
      · rw [if_pos hc1_4] at h
        refine lv_lookup (tgt := 193) (off := 85) hx hb d_Reckoner_reckon_108 (by decide) (by rw [hc1_4]; decide) (by decide) ?_
        refine lv_lload_n hx hb d_Reckoner_reckon_193 rfl (lv_at hl 4 rfl) ?_
        refine lv_lload hx hb d_Reckoner_reckon_194 (lv_at hl 5 rfl) ?_
        refine lv_lxor hx hb d_Reckoner_reckon_196 ?_
        refine lv_lstore (lv' := [(10, .long ((M 3) ^^^ (M 5))), (9, .int ((L 100) &&& (L 101))), (0, .ref (ad 3)), (1, .int (L 1)), (2, .int (L 2)), (3, .long (M 3)), (5, .long (M 5)), (7, .int (L 7)), (8, .int (L 8))]) hx hb d_Reckoner_reckon_197 hl (by decide) rfl (fun ls hl => ?_)
        refine lv_goto (tgt := 290) hx hb d_Reckoner_reckon_199 (by decide) ?_
        exact (ih.2.2.2.2.2.2.2.2.2.1) S (upd L 9 ((L 100) &&& (L 101))) (vp_updL M 10 ((M 3) ^^^ (M 5))) ls H locs h (lv_sub hl [2, 3, 4, 5, 6, 7, 8, 1, 0] rfl) hP hD hS
      rw [if_neg hc1_4] at h
      by_cases hc1_5 : (L 1) = (124 : Int32)
      · rw [if_pos hc1_5] at h
        refine lv_lookup (tgt := 184) (off := 76) hx hb d_Reckoner_reckon_108 (by decide) (by rw [hc1_5]; decide) (by decide) ?_
        refine lv_lload_n hx hb d_Reckoner_reckon_184 rfl (lv_at hl 4 rfl) ?_
        refine lv_lload hx hb d_Reckoner_reckon_185 (lv_at hl 5 rfl) ?_
        refine lv_lor hx hb d_Reckoner_reckon_187 ?_
        refine lv_lstore (lv' := [(10, .long ((M 3) ||| (M 5))), (9, .int ((L 100) &&& (L 101))), (0, .ref (ad 3)), (1, .int (L 1)), (2, .int (L 2)), (3, .long (M 3)), (5, .long (M 5)), (7, .int (L 7)), (8, .int (L 8))]) hx hb d_Reckoner_reckon_188 hl (by decide) rfl (fun ls hl => ?_)
        refine lv_goto (tgt := 290) hx hb d_Reckoner_reckon_190 (by decide) ?_
        exact (ih.2.2.2.2.2.2.2.2.2.1) S (upd L 9 ((L 100) &&& (L 101))) (vp_updL M 10 ((M 3) ||| (M 5))) ls H locs h (lv_sub hl [2, 3, 4, 5, 6, 7, 8, 1, 0] rfl) hP hD hS
      rw [if_neg hc1_5] at h
      by_cases hc1_6 : (L 1) = (15420 : Int32)
      · rw [if_pos hc1_6] at h
        refine lv_lookup (tgt := 211) (off := 103) hx hb d_Reckoner_reckon_108 (by decide) (by rw [hc1_6]; decide) (by decide) ?_
        refine lv_lload_n hx hb d_Reckoner_reckon_211 rfl (lv_at hl 4 rfl) ?_
        refine lv_iload hx hb d_Reckoner_reckon_212 (lv_at hl 0 rfl) ?_
        refine lv_lshl (v := (M 3) <<< (((L 100) &&& (L 101) : Int32).toInt64 &&& 63)) hx hb d_Reckoner_reckon_214 rfl ?_
        refine lv_lstore (lv' := [(10, .long ((M 3) <<< (((L 100) &&& (L 101) : Int32).toInt64 &&& 63))), (9, .int ((L 100) &&& (L 101))), (0, .ref (ad 3)), (1, .int (L 1)), (2, .int (L 2)), (3, .long (M 3)), (5, .long (M 5)), (7, .int (L 7)), (8, .int (L 8))]) hx hb d_Reckoner_reckon_215 hl (by decide) rfl (fun ls hl => ?_)
        refine lv_goto (tgt := 290) hx hb d_Reckoner_reckon_217 (by decide) ?_
        exact (ih.2.2.2.2.2.2.2.2.2.1) S (upd L 9 ((L 100) &&& (L 101))) (vp_updL M 10 ((M 3) <<< (((L 100) &&& (L 101) : Int32).toInt64 &&& 63))) ls H locs h (lv_sub hl [2, 3, 4, 5, 6, 7, 8, 1, 0] rfl) hP hD hS
      rw [if_neg hc1_6] at h
      by_cases hc1_7 : (L 1) = (15934 : Int32)
      · rw [if_pos hc1_7] at h
        refine lv_lookup (tgt := 220) (off := 112) hx hb d_Reckoner_reckon_108 (by decide) (by rw [hc1_7]; decide) (by decide) ?_
        refine lv_iload hx hb d_Reckoner_reckon_220 (lv_at hl 7 rfl) ?_
        refine lv_if_eq (tgt := 232) hx hb d_Reckoner_reckon_222 (by decide) (fun hc2 => ?_) (fun hc2 => ?_)
        · rw [if_pos hc2] at h
          refine lv_lload_n hx hb d_Reckoner_reckon_232 rfl (lv_at hl 4 rfl) ?_
          refine lv_iload hx hb d_Reckoner_reckon_233 (lv_at hl 0 rfl) ?_
          refine lv_lshr (v := (M 3) >>> (((L 100) &&& (L 101) : Int32).toInt64 &&& 63)) hx hb d_Reckoner_reckon_235 rfl ?_
          exact (ih.2.2.2.2.2.2.2.1) S (upd L 9 ((L 100) &&& (L 101))) (vp_updL M 100 ((M 3) >>> (((L 100) &&& (L 101) : Int32).toInt64 &&& 63))) ls H locs h (lv_sub hl [1, 2, 3, 4, 5, 6, 7, 0] rfl) hP hD hS
        · rw [if_neg hc2] at h
          refine lv_lload_n hx hb d_Reckoner_reckon_225 rfl (lv_at hl 4 rfl) ?_
          refine lv_iload hx hb d_Reckoner_reckon_226 (lv_at hl 0 rfl) ?_
          refine lv_lushr (v := ((M 3).toUInt64 >>> (((L 100) &&& (L 101) : Int32).toInt64.toUInt64 &&& Int64.toUInt64 63)).toInt64) hx hb d_Reckoner_reckon_228 rfl ?_
          refine lv_goto (tgt := 236) hx hb d_Reckoner_reckon_229 (by decide) ?_
          exact (ih.2.2.2.2.2.2.2.1) S (upd L 9 ((L 100) &&& (L 101))) (vp_updL M 100 (((M 3).toUInt64 >>> (((L 100) &&& (L 101) : Int32).toInt64.toUInt64 &&& Int64.toUInt64 63)).toInt64)) ls H locs h (lv_sub hl [1, 2, 3, 4, 5, 6, 7, 0] rfl) hP hD hS
      rw [if_neg hc1_7] at h
      refine lv_lookup (tgt := 268) (off := 160) hx hb d_Reckoner_reckon_108 (by decide) (by rw [lv_osw hc1_0 (k := 38) (by decide), lv_osw hc1_1 (k := 42) (by decide), lv_osw hc1_2 (k := 43) (by decide), lv_osw hc1_3 (k := 45) (by decide), lv_osw hc1_4 (k := 94) (by decide), lv_osw hc1_5 (k := 124) (by decide), lv_osw hc1_6 (k := 15420) (by decide), lv_osw hc1_7 (k := 15934) (by decide)]; rfl) (by decide) ?_
      refine lv_aload_n hx hb d_Reckoner_reckon_268 rfl (lv_at hl 1 rfl) ?_
      refine lv_lload_n hx hb d_Reckoner_reckon_269 rfl (lv_at hl 4 rfl) ?_
      refine lv_lload hx hb d_Reckoner_reckon_270 (lv_at hl 5 rfl) ?_
      refine lv_iload hx hb d_Reckoner_reckon_272 (lv_at hl 7 rfl) ?_
      refine lv_iload_n hx hb d_Reckoner_reckon_274 rfl (lv_at hl 2 rfl) ?_
      refine lv_bipush (v := 37) hx hb d_Reckoner_reckon_275 (by decide) ?_
      refine lv_icmp_ne (tgt := 284) hx hb d_Reckoner_reckon_277 (by decide) (fun hc3 => ?_) (fun hc3 => ?_)
      · rw [if_neg hc3] at h
        refine lv_iconst (v := 0) hx hb d_Reckoner_reckon_284 (by decide) ?_
        exact (ih.2.2.2.2.2.2.2.2.1) S (upd (upd (upd L 9 ((L 100) &&& (L 101))) 104 (0 : Int32)) 103 (L 8)) (vp_updL (vp_updL M 102 (M 5)) 101 (M 3)) ls H locs h (lv_sub hl [1, 2, 3, 4, 5, 6, 7, 0] rfl) hP hD hS
      · rw [if_pos hc3] at h
        refine lv_iconst (v := 1) hx hb d_Reckoner_reckon_280 (by decide) ?_
        refine lv_goto (tgt := 285) hx hb d_Reckoner_reckon_281 (by decide) ?_
        exact (ih.2.2.2.2.2.2.2.2.1) S (upd (upd (upd L 9 ((L 100) &&& (L 101))) 104 (1 : Int32)) 103 (L 8)) (vp_updL (vp_updL M 102 (M 5)) 101 (M 3)) ls H locs h (lv_sub hl [1, 2, 3, 4, 5, 6, 7, 0] rfl) hP hD hS
    · intro S L M ls H locs h hl hP hD hS
      simp only [f_Reckoner_reckon] at h
      refine lv_lstore (lv' := [(10, .long (M 100)), (0, .ref (ad 3)), (1, .int (L 1)), (2, .int (L 2)), (3, .long (M 3)), (5, .long (M 5)), (7, .int (L 7)), (8, .int (L 8)), (9, .int (L 9))]) hx hb d_Reckoner_reckon_236 hl (by decide) rfl (fun ls hl => ?_)
      refine lv_goto (tgt := 290) hx hb d_Reckoner_reckon_238 (by decide) ?_
      exact (ih.2.2.2.2.2.2.2.2.2.1) S L (vp_updL M 10 (M 100)) ls H locs h (lv_sub hl [1, 2, 3, 4, 5, 6, 7, 8, 0] rfl) hP hD hS
    · intro S L M ls H locs h hl hP hD hS
      simp only [f_Reckoner_reckon] at h
      obtain ⟨⟨r1, T1⟩, hq1, h⟩ := Option.bind_eq_some_iff.mp h
      try dsimp only at h
      refine go_lS (As := [.ref (ad 3), .long (M 101), .long (M 102), .int (L 103), .int (L 104)]) (g := g) (A := A) (h := shC) hP hK hD hS hA hN (fun hp => va_runV (As := [.long (M 101), .long (M 102), .int (L 103), .int (L 104)]) (rest := []) ⟨hx, hb, hml, hown, htt⟩ (t_Reckoner_divide l g _ ad S (M 101 : Int64) (M 102 : Int64) (L 103 : Int32) (L 104 : Int32) k9 r1 T1 hq1) ⟨(cb_L htt k_1423 k_265 k_1420 hd_Reckoner_divide ⟨(Nat.le_trans (by decide +kernel) hRf), (Nat.le_trans (by decide +kernel) hRl)⟩), htt _ k_1422, htt _ k_37⟩ ⟨hp.1, S_recv hK hP 3 rfl rfl, hp.2⟩ rfl rfl hl.1 rfl (lv_room (Nat.le_of_ble_eq_true rfl)) d_Reckoner_reckon_285 ⟨hRc, hRs⟩) (fun r0 Sn H locs hw9 hP hD hS => ?_)
      obtain ⟨e9, e8⟩ := hw9
      rw [e8] at hP hD
      refine W.widen (k := cells) (n := slots) (Nat.le_refl _) (Nat.le_refl _) ?_
      refine toL (y := r1) e9 ?_
      refine lv_lstore (lv' := [(10, .long r1), (0, .ref (ad 3)), (1, .int (L 1)), (2, .int (L 2)), (3, .long (M 3)), (5, .long (M 5)), (7, .int (L 7)), (8, .int (L 8)), (9, .int (L 9))]) hx hb d_Reckoner_reckon_288 hl (by decide) rfl (fun ls hl => ?_)
      exact (ih.2.2.2.2.2.2.2.2.2.1) T1 L (vp_updL M 10 r1) ls H locs h (lv_sub hl [1, 2, 3, 4, 5, 6, 7, 8, 0] rfl) hP hD hS
    · intro S L M ls H locs h hl hP hD hS
      simp only [f_Reckoner_reckon] at h
      refine lv_aload_n hx hb d_Reckoner_reckon_290 rfl (lv_at hl 0 rfl) ?_
      refine S_getR (h := shC) (C := "MacroMill$Reckoner") (T := F_Reckoner) hx hb htt in_Reckoner hown hK hP 3 0 rfl 19 rfl rfl (by decide) (htt _ k_391) (fun _ h9 => h9) d_Reckoner_reckon_291 ?_
      refine lv_iload_n hx hb d_Reckoner_reckon_294 rfl (lv_at hl 2 rfl) ?_
      refine lv_aload_n hx hb d_Reckoner_reckon_295 rfl (lv_at hl 0 rfl) ?_
      refine S_getI (h := shC) (C := "MacroMill$Reckoner") (T := F_Reckoner) hx hb htt in_Reckoner hown hK hP 3 8 rfl rfl rfl (by decide) (htt _ k_399) (fun _ h9 => h9) d_Reckoner_reckon_296 ?_
      refine lv_if_eq (tgt := 307) hx hb d_Reckoner_reckon_299 (by decide) (fun hc1 => ?_) (fun hc1 => ?_)
      · rw [if_pos hc1] at h
        refine lv_lload hx hb d_Reckoner_reckon_307 (lv_at hl 8 rfl) ?_
        refine lv_l2i (v := (M 10).toInt32) hx hb d_Reckoner_reckon_309 rfl ?_
        refine lv_i2l (v := ((M 10).toInt32).toInt64) hx hb d_Reckoner_reckon_310 rfl ?_
        exact (ih.2.2.2.2.2.2.2.2.2.2) S (upd L 101 (L 2)) (vp_updL M 102 (((M 10).toInt32).toInt64)) ls H locs h (lv_sub hl [0, 1, 2, 3, 4, 5, 6, 7, 8] rfl) hP hD hS
      · rw [if_neg hc1] at h
        refine lv_lload hx hb d_Reckoner_reckon_302 (lv_at hl 8 rfl) ?_
        refine lv_goto (tgt := 311) hx hb d_Reckoner_reckon_304 (by decide) ?_
        exact (ih.2.2.2.2.2.2.2.2.2.2) S (upd L 101 (L 2)) (vp_updL M 102 (M 10)) ls H locs h (lv_sub hl [0, 1, 2, 3, 4, 5, 6, 7, 8] rfl) hP hD hS
    · intro S L M ls H locs h hl hP hD hS
      simp only [f_Reckoner_reckon] at h
      obtain ⟨hv1, h⟩ := chk h
      refine S_last (h := shC) (i := L 101) (v := M 102) hx hb hK hP hD hS 6 rfl (okI_in hv1) d_Reckoner_reckon_311 (fun H locs hP hD hS => ?_)
      refine lv_aload_n hx hb d_Reckoner_reckon_312 rfl (lv_at hl 0 rfl) ?_
      refine S_getR (h := shC) (C := "MacroMill$Reckoner") (T := F_Reckoner) hx hb htt in_Reckoner hown hK hP 3 1 rfl 20 rfl rfl (by decide) (htt _ k_392) (fun _ h9 => h9) d_Reckoner_reckon_313 ?_
      refine lv_iload_n hx hb d_Reckoner_reckon_316 rfl (lv_at hl 2 rfl) ?_
      refine lv_iload hx hb d_Reckoner_reckon_317 (lv_at hl 6 rfl) ?_
      obtain ⟨hv2, h⟩ := chk h
      refine S_zast (h := shC) (i := L 2) (v := L 8) hx hb hK hP hD hS 7 rfl (okI_in hv2) d_Reckoner_reckon_319 (fun H locs hP hD hS => ?_)
      cases h
      exact kx_320 ls H locs hP hD hS
abbrev rm_t_Reckoner_reckon : Room := { frames := 1, cells := 0, slots := 0, locals := 28 }
theorem t_Reckoner_reckon (l : Launch) (g : gG) (sz : Nat) (ad : Nat → Nat) (S : sS) (v1 : Int32) (k : Nat) (r : Int32) (S9 : sS) (h : f_Reckoner_reckon k 0 S (upd (fun _ => 0) 1 v1) (fun _ => 0) = some (r, S9)) : Cv l y_Reckoner_reckon b_Reckoner_reckon 12 rm_t_Reckoner_reckon g [.ref (ad 3), .int v1] (Sw shC g ad S) sz (fun w => ∃ S1 : sS, w = Sw shC g ad S1 ∧ S1 = S9) := by
  refine startV (by decide) (Nat.le_of_ble_eq_true rfl) ?_
  intro p e s m below meth c A ls hx hb hr hml hlocks hmn hown htt hN hA hP hK hD hS hl
  exact (w_Reckoner_reckon hx hb hml hown htt hK hN hA (by decide +kernel) (by decide +kernel) (by decide +kernel) (by decide +kernel) r S9 (fun ls H locs hP hD hS => fin_v (g := g) (ws := Sw shC g ad S9) hx hb hr hlocks (by decide +kernel) (by decide +kernel) hP hD hS ⟨_, rfl, rfl⟩ d_Reckoner_reckon_320) k).1 S (upd (fun _ => 0) 1 v1) (fun _ => 0) ls _ _ h hl hP hD hS
def f_First_finish : Nat → Nat → sS → (Nat → Int32) → (Nat → Int64) → Option (Int32 × sS)
  | 0, _, _, _, _ => none
  | k + 1, 0, S, L, M => if (S.1 6 9) ≤ (0 : Int32) then (f_First_finish k 1 S (upd L 1 (0 : Int32)) M) else ((f_First_fail k 0 S (upd (fun _ => 0) 1 (33 : Int32)) (fun _ => 0)).bind (fun (r2, T2) => some ((0 : Int32), T2)))
  | k + 1, 1, S, L, M => if (9 : Int32) < (L 1) then (some ((0 : Int32), S)) else (if okI (L 1) 10 = true then (f_First_finish k 2 S (upd (upd L 2 (S.2.1 14 (L 1 : Int32).toNatClampNeg)) 3 (0 : Int32)) M) else none)
  | k + 1, 2, S, L, M => if (32768 : Int32) ≤ (L 3) then (f_First_finish k 3 S L M) else (if (L 2) < (0 : Int32) then (f_First_finish k 3 S L M) else (if (65536 : Int32) ≤ (S.1 2 1) then (f_First_finish k 3 S L M) else (if okI (L 2) 32768 = true then (if okI (S.1 2 1) 65536 = true then (if okI (L 2) 32768 = true then (f_First_finish k 2 (putI (putA S 5 (S.1 2 1 : Int32).toNatClampNeg (vp_nar .byte (S.2.1 12 (L 2 : Int32).toNatClampNeg))) 2 1 ((S.1 2 1) + (1 : Int32))) (upd (upd L 2 ((putI (putA S 5 (S.1 2 1 : Int32).toNatClampNeg (vp_nar .byte (S.2.1 12 (L 2 : Int32).toNatClampNeg))) 2 1 ((S.1 2 1) + (1 : Int32))).2.1 13 (L 2 : Int32).toNatClampNeg)) 3 ((L 3) + 1)) M) else none) else none) else none)))
  | k + 1, 3, S, L, M => f_First_finish k 1 S (upd L 1 ((L 1) + 1)) M
  | _ + 1, _ + 4, _, _, _ => none
set_option maxHeartbeats 8000000 in
set_option maxRecDepth 100000 in
theorem w_First_finish {p : Program} {l : Launch} {e : Env} {R : Room} {s : State} {m : MethodId} {args : Array Value} {below : List Frame} {meth : Method} {c : Code} {cells slots : Nat} {Q : State → Prop} {g : gG} {A : Nat → Prop} {ad : Nat → Nat} (hx : p.tables.exec = Jvm.exec) (hb : c.code = b_First_finish) (hml : c.maxLocals = 4) (hown : s.vm.findClass "MacroMill$First" = some m.cls) (htt : ∀ w ∈ gt, w.before args s = true) (hK : va_K g.1 classes (tysG g) s) (hN : nw s) (hA : ∀ q : Nat, s.heap.size ≤ q → A q) (hRf : 2 ≤ R.frames) (hRl : 43 ≤ R.locals) (hRc : cells ≤ R.cells) (hRs : slots ≤ R.slots) (r : Int32) (S9 : sS)
    (kx_16 : ∀ (ls : Array Slot) (H : Heap) (locs : List Loc), va_P g.1 classes (Sw shC g ad S9) H → va_D A (Sw shC g ad S9) → va_S A s.heap H locs → W p l e R s m args below meth c H locs cells slots Q (F0 m 16 ls []))
    (kx_109 : ∀ (ls : Array Slot) (H : Heap) (locs : List Loc), va_P g.1 classes (Sw shC g ad S9) H → va_D A (Sw shC g ad S9) → va_S A s.heap H locs → W p l e R s m args below meth c H locs cells slots Q (F0 m 109 ls [])) :
    ∀ k9 : Nat, (∀ (S : sS) (L : Nat → Int32) (M : Nat → Int64) (ls : Array Slot) (H : Heap) (locs : List Loc), f_First_finish k9 0 S L M = some (r, S9) → lv_has ls 4 [(0, .ref (ad 4))] → va_P g.1 classes (Sw shC g ad S) H → va_D A (Sw shC g ad S) → va_S A s.heap H locs → W p l e R s m args below meth c H locs cells slots Q (F0 m 0 ls [])) ∧ (∀ (S : sS) (L : Nat → Int32) (M : Nat → Int64) (ls : Array Slot) (H : Heap) (locs : List Loc), f_First_finish k9 1 S L M = some (r, S9) → lv_has ls 4 [(0, .ref (ad 4)), (1, .int (L 1))] → va_P g.1 classes (Sw shC g ad S) H → va_D A (Sw shC g ad S) → va_S A s.heap H locs → W p l e R s m args below meth c H locs cells slots Q (F0 m 19 ls [])) ∧ (∀ (S : sS) (L : Nat → Int32) (M : Nat → Int64) (ls : Array Slot) (H : Heap) (locs : List Loc), f_First_finish k9 2 S L M = some (r, S9) → lv_has ls 4 [(0, .ref (ad 4)), (1, .int (L 1)), (2, .int (L 2)), (3, .int (L 3))] → va_P g.1 classes (Sw shC g ad S) H → va_D A (Sw shC g ad S) → va_S A s.heap H locs → W p l e R s m args below meth c H locs cells slots Q (F0 m 34 ls [])) ∧ (∀ (S : sS) (L : Nat → Int32) (M : Nat → Int64) (ls : Array Slot) (H : Heap) (locs : List Loc), f_First_finish k9 3 S L M = some (r, S9) → lv_has ls 4 [(0, .ref (ad 4)), (1, .int (L 1)), (2, .int (L 2)), (3, .int (L 3))] → va_P g.1 classes (Sw shC g ad S) H → va_D A (Sw shC g ad S) → va_S A s.heap H locs → W p l e R s m args below meth c H locs cells slots Q (F0 m 103 ls [])) := by
  intro k9
  induction k9 with
  | zero => exact ⟨(fun _ _ _ _ _ _ h => by simp [f_First_finish] at h), (fun _ _ _ _ _ _ h => by simp [f_First_finish] at h), (fun _ _ _ _ _ _ h => by simp [f_First_finish] at h), (fun _ _ _ _ _ _ h => by simp [f_First_finish] at h)⟩
  | succ k9 ih =>
    refine ⟨?_, ?_, ?_, ?_⟩
    · intro S L M ls H locs h hl hP hD hS
      simp only [f_First_finish] at h
      refine lv_aload_n hx hb d_First_finish_0 rfl (lv_at hl 0 rfl) ?_
      refine S_getR (h := shC) (C := "MacroMill$First") (T := F_First) hx hb htt in_First hown hK hP 4 3 rfl 6 rfl rfl (by decide) (htt _ k_573) (fun _ h9 => h9) d_First_finish_1 ?_
      refine S_getI (h := shC) (C := "MacroMill$Calls") (T := F_Calls) hx hb htt in_Calls hown hK hP 6 9 rfl rfl rfl (by decide) (htt _ k_456) (fun _ h9 => h9) d_First_finish_4 ?_
      refine lv_if_le (tgt := 17) hx hb d_First_finish_7 (by decide) (fun hc1 => ?_) (fun hc1 => ?_)
      · rw [if_pos hc1] at h
        refine lv_iconst (v := 0) hx hb d_First_finish_17 (by decide) ?_
        refine lv_istore_n (lv' := [(1, .int 0), (0, .ref (ad 4))]) hx hb d_First_finish_18 rfl hl (by decide) rfl (fun ls hl => ?_)
        exact (ih.2.1) S (upd L 1 (0 : Int32)) M ls H locs h (lv_sub hl [1, 0] rfl) hP hD hS
      · rw [if_neg hc1] at h
        refine lv_aload_n hx hb d_First_finish_10 rfl (lv_at hl 0 rfl) ?_
        refine lv_bipush (v := 33) hx hb d_First_finish_11 (by decide) ?_
        obtain ⟨⟨r2, T2⟩, hq2, h⟩ := Option.bind_eq_some_iff.mp h
        try dsimp only at h
        refine go_vS (As := [.ref (ad 4), .int 33]) (g := g) (A := A) (h := shC) hP hK hD hS hA hN (fun hp => va_runV (As := [.int 33]) (rest := []) ⟨hx, hb, hml, hown, htt⟩ (t_First_fail l g _ ad S (33 : Int32) k9 r2 T2 hq2) ⟨(cb_L htt k_1189 k_266 k_1186 hd_First_fail ⟨(Nat.le_trans (by decide +kernel) hRf), (Nat.le_trans (by decide +kernel) hRl)⟩), htt _ k_1188, htt _ k_10⟩ ⟨hp.1, S_recv hK hP 4 rfl rfl, hp.2⟩ rfl rfl hl.1 rfl (lv_room (Nat.le_of_ble_eq_true rfl)) d_First_finish_13 ⟨hRc, hRs⟩) (fun Sn H locs hw9 hP hD hS => ?_)
        have e8 := hw9
        rw [e8] at hP hD
        refine W.widen (k := cells) (n := slots) (Nat.le_refl _) (Nat.le_refl _) ?_
        cases h
        exact kx_16 ls H locs hP hD hS
    · intro S L M ls H locs h hl hP hD hS
      simp only [f_First_finish] at h
      refine lv_iload_n hx hb d_First_finish_19 rfl (lv_at hl 1 rfl) ?_
      refine lv_bipush (v := 9) hx hb d_First_finish_20 (by decide) ?_
      refine lv_icmp_gt (tgt := 109) hx hb d_First_finish_22 (by decide) (fun hc1 => ?_) (fun hc1 => ?_)
      · rw [if_pos hc1] at h
        cases h
        exact kx_109 ls H locs hP hD hS
      · rw [if_neg hc1] at h
        refine lv_aload_n hx hb d_First_finish_25 rfl (lv_at hl 0 rfl) ?_
        refine S_getR (h := shC) (C := "MacroMill$First") (T := F_First) hx hb htt in_First hown hK hP 4 9 rfl 27 rfl rfl (by decide) (htt _ k_579) (fun _ h9 => h9) d_First_finish_26 ?_
        refine lv_iload_n hx hb d_First_finish_29 rfl (lv_at hl 1 rfl) ?_
        obtain ⟨hv2, h⟩ := chk h
        refine S_iald (h := shC) (i := L 1) hx hb hK hP 14 rfl (okI_in hv2) d_First_finish_30 ?_
        refine lv_istore_n (lv' := [(2, .int (S.2.1 14 (L 1 : Int32).toNatClampNeg)), (0, .ref (ad 4)), (1, .int (L 1))]) hx hb d_First_finish_31 rfl hl (by decide) rfl (fun ls hl => ?_)
        refine lv_iconst (v := 0) hx hb d_First_finish_32 (by decide) ?_
        refine lv_istore_n (lv' := [(3, .int 0), (2, .int (S.2.1 14 (L 1 : Int32).toNatClampNeg)), (0, .ref (ad 4)), (1, .int (L 1))]) hx hb d_First_finish_33 rfl hl (by decide) rfl (fun ls hl => ?_)
        exact (ih.2.2.1) S (upd (upd L 2 (S.2.1 14 (L 1 : Int32).toNatClampNeg)) 3 (0 : Int32)) M ls H locs h (lv_sub hl [2, 3, 1, 0] rfl) hP hD hS
    · intro S L M ls H locs h hl hP hD hS
      simp only [f_First_finish] at h
      refine lv_iload_n hx hb d_First_finish_34 rfl (lv_at hl 3 rfl) ?_
      refine lv_ldc (v := 32768) hx hb hown (htt _ k_520) d_First_finish_35 ?_
      refine lv_icmp_ge (tgt := 103) hx hb d_First_finish_37 (by decide) (fun hc1 => ?_) (fun hc1 => ?_)
      · rw [if_pos hc1] at h
        exact (ih.2.2.2) S L M ls H locs h (lv_sub hl [0, 1, 2, 3] rfl) hP hD hS
      · rw [if_neg hc1] at h
        refine lv_iload_n hx hb d_First_finish_40 rfl (lv_at hl 2 rfl) ?_
        refine lv_if_lt (tgt := 103) hx hb d_First_finish_41 (by decide) (fun hc2 => ?_) (fun hc2 => ?_)
        · rw [if_pos hc2] at h
          exact (ih.2.2.2) S L M ls H locs h (lv_sub hl [0, 1, 2, 3] rfl) hP hD hS
        · rw [if_neg hc2] at h
          refine lv_aload_n hx hb d_First_finish_44 rfl (lv_at hl 0 rfl) ?_
          refine S_getR (h := shC) (C := "MacroMill$First") (T := F_First) hx hb htt in_First hown hK hP 4 0 rfl 2 rfl rfl (by decide) (htt _ k_570) (fun _ h9 => h9) d_First_finish_45 ?_
          refine S_getI (h := shC) (C := "MacroMill$Outcome") (T := F_Outcome) hx hb htt in_Outcome hown hK hP 2 1 rfl rfl rfl (by decide) (htt _ k_340) (fun _ h9 => h9) d_First_finish_48 ?_
          refine lv_ldc (v := 65536) hx hb hown (htt _ k_1191) d_First_finish_51 ?_
          refine lv_icmp_ge (tgt := 103) hx hb d_First_finish_53 (by decide) (fun hc3 => ?_) (fun hc3 => ?_)
          · rw [if_pos hc3] at h
            exact (ih.2.2.2) S L M ls H locs h (lv_sub hl [0, 1, 2, 3] rfl) hP hD hS
          · rw [if_neg hc3] at h
            refine lv_aload_n hx hb d_First_finish_56 rfl (lv_at hl 0 rfl) ?_
            refine S_getR (h := shC) (C := "MacroMill$First") (T := F_First) hx hb htt in_First hown hK hP 4 0 rfl 2 rfl rfl (by decide) (htt _ k_570) (fun _ h9 => h9) d_First_finish_57 ?_
            refine S_getR (h := shC) (C := "MacroMill$Outcome") (T := F_Outcome) hx hb htt in_Outcome hown hK hP 2 0 rfl 18 rfl rfl (by decide) (htt _ k_335) (fun _ h9 => h9) d_First_finish_60 ?_
            refine lv_aload_n hx hb d_First_finish_63 rfl (lv_at hl 0 rfl) ?_
            show W _ _ _ _ _ _ _ _ _ _ _ _ _ _ _ (F0 _ 64 _ _)
            refine S_getR (h := shC) (C := "MacroMill$First") (T := F_First) hx hb htt in_First hown hK hP 4 0 rfl 2 rfl rfl (by decide) (htt _ k_570) (fun _ h9 => h9) d_First_finish_64 ?_
            refine S_getI (h := shC) (C := "MacroMill$Outcome") (T := F_Outcome) hx hb htt in_Outcome hown hK hP 2 1 rfl rfl rfl (by decide) (htt _ k_340) (fun _ h9 => h9) d_First_finish_67 ?_
            refine lv_aload_n hx hb d_First_finish_70 rfl (lv_at hl 0 rfl) ?_
            refine S_getR (h := shC) (C := "MacroMill$First") (T := F_First) hx hb htt in_First hown hK hP 4 7 rfl 25 rfl rfl (by decide) (htt _ k_577) (fun _ h9 => h9) d_First_finish_71 ?_
            refine lv_iload_n hx hb d_First_finish_74 rfl (lv_at hl 2 rfl) ?_
            obtain ⟨hv4, h⟩ := chk h
            refine S_bald (h := shC) (i := L 2) hx hb hK hP 12 rfl (okI_in hv4) d_First_finish_75 ?_
            obtain ⟨hv5, h⟩ := chk h
            refine S_bast (h := shC) (i := S.1 2 1) (v := S.2.1 12 (L 2 : Int32).toNatClampNeg) hx hb hK hP hD hS 5 rfl (okI_in hv5) d_First_finish_76 (fun H locs hP hD hS => ?_)
            refine lv_aload_n hx hb d_First_finish_77 rfl (lv_at hl 0 rfl) ?_
            refine S_getR (h := shC) (C := "MacroMill$First") (T := F_First) hx hb htt in_First hown hK hP 4 0 rfl 2 rfl rfl (by decide) (htt _ k_570) (fun _ h9 => h9) d_First_finish_78 ?_
            refine lv_dup hx hb d_First_finish_81 rfl ?_
            refine S_getI (h := shC) (C := "MacroMill$Outcome") (T := F_Outcome) hx hb htt in_Outcome hown hK hP 2 1 rfl rfl rfl (by decide) (htt _ k_340) (fun _ h9 => h9) d_First_finish_82 ?_
            refine toI (y := S.1 2 1) rfl ?_
            refine lv_iconst (v := 1) hx hb d_First_finish_85 (by decide) ?_
            show W _ _ _ _ _ _ _ _ _ _ _ _ _ _ _ (F0 _ 86 _ _)
            refine lv_iadd hx hb d_First_finish_86 ?_
            refine S_put (h := shC) (C := "MacroMill$Outcome") (T := F_Outcome) (v := (S.1 2 1) + (1 : Int32)) hx hb htt in_Outcome t_Outcome t_Outcome_ok n_Outcome hown hK hP hD hS 2 1 rfl rfl rfl (by decide) (htt _ k_340) (fun _ h9 => h9) rfl rfl rfl d_First_finish_87 (fun H locs hP hD hS => ?_)
            refine lv_aload_n hx hb d_First_finish_90 rfl (lv_at hl 0 rfl) ?_
            refine S_getR (h := shC) (C := "MacroMill$First") (T := F_First) hx hb htt in_First hown hK hP 4 8 rfl 26 rfl rfl (by decide) (htt _ k_578) (fun _ h9 => h9) d_First_finish_91 ?_
            refine lv_iload_n hx hb d_First_finish_94 rfl (lv_at hl 2 rfl) ?_
            obtain ⟨hv6, h⟩ := chk h
            refine S_iald (h := shC) (i := L 2) hx hb hK hP 13 rfl (okI_in hv6) d_First_finish_95 ?_
            refine lv_istore_n (lv' := [(2, .int ((putI (putA S 5 (S.1 2 1 : Int32).toNatClampNeg (vp_nar .byte (S.2.1 12 (L 2 : Int32).toNatClampNeg))) 2 1 ((S.1 2 1) + (1 : Int32))).2.1 13 (L 2 : Int32).toNatClampNeg)), (0, .ref (ad 4)), (1, .int (L 1)), (3, .int (L 3))]) hx hb d_First_finish_96 rfl hl (by decide) rfl (fun ls hl => ?_)
            refine lv_iinc (k := 3) (v := (L 3) + 1) (lv' := [(3, .int ((L 3) + 1)), (2, .int ((putI (putA S 5 (S.1 2 1 : Int32).toNatClampNeg (vp_nar .byte (S.2.1 12 (L 2 : Int32).toNatClampNeg))) 2 1 ((S.1 2 1) + (1 : Int32))).2.1 13 (L 2 : Int32).toNatClampNeg)), (0, .ref (ad 4)), (1, .int (L 1))]) hx hb d_First_finish_97 hl rfl rfl (by decide) rfl (fun ls hl => ?_)
            refine lv_goto (tgt := 34) hx hb d_First_finish_100 (by decide) ?_
            exact (ih.2.2.1) (putI (putA S 5 (S.1 2 1 : Int32).toNatClampNeg (vp_nar .byte (S.2.1 12 (L 2 : Int32).toNatClampNeg))) 2 1 ((S.1 2 1) + (1 : Int32))) (upd (upd L 2 ((putI (putA S 5 (S.1 2 1 : Int32).toNatClampNeg (vp_nar .byte (S.2.1 12 (L 2 : Int32).toNatClampNeg))) 2 1 ((S.1 2 1) + (1 : Int32))).2.1 13 (L 2 : Int32).toNatClampNeg)) 3 ((L 3) + 1)) M ls H locs h (lv_sub hl [2, 3, 1, 0] rfl) hP hD hS
    · intro S L M ls H locs h hl hP hD hS
      simp only [f_First_finish] at h
      refine lv_iinc (k := 1) (v := (L 1) + 1) (lv' := [(1, .int ((L 1) + 1)), (0, .ref (ad 4)), (2, .int (L 2)), (3, .int (L 3))]) hx hb d_First_finish_103 hl rfl rfl (by decide) rfl (fun ls hl => ?_)
      refine lv_goto (tgt := 19) hx hb d_First_finish_106 (by decide) ?_
      exact (ih.2.1) S (upd L 1 ((L 1) + 1)) M ls H locs h (lv_sub hl [1, 0] rfl) hP hD hS
abbrev rm_t_First_finish : Room := { frames := 2, cells := 0, slots := 0, locals := 43 }
theorem t_First_finish (l : Launch) (g : gG) (sz : Nat) (ad : Nat → Nat) (S : sS) (k : Nat) (r : Int32) (S9 : sS) (h : f_First_finish k 0 S (fun _ => 0) (fun _ => 0) = some (r, S9)) : Cv l y_First_finish b_First_finish 4 rm_t_First_finish g [.ref (ad 4)] (Sw shC g ad S) sz (fun w => ∃ S1 : sS, w = Sw shC g ad S1 ∧ S1 = S9) := by
  refine startV (by decide) (Nat.le_of_ble_eq_true rfl) ?_
  intro p e s m below meth c A ls hx hb hr hml hlocks hmn hown htt hN hA hP hK hD hS hl
  exact (w_First_finish hx hb hml hown htt hK hN hA (by decide +kernel) (by decide +kernel) (by decide +kernel) (by decide +kernel) r S9 (fun ls H locs hP hD hS => fin_v (g := g) (ws := Sw shC g ad S9) hx hb hr hlocks (by decide +kernel) (by decide +kernel) hP hD hS ⟨_, rfl, rfl⟩ d_First_finish_16) (fun ls H locs hP hD hS => fin_v (g := g) (ws := Sw shC g ad S9) hx hb hr hlocks (by decide +kernel) (by decide +kernel) hP hD hS ⟨_, rfl, rfl⟩ d_First_finish_109) k).1 S (fun _ => 0) (fun _ => 0) ls _ _ h hl hP hD hS
def f_First_giveQuote : Nat → Nat → sS → (Nat → Int32) → (Nat → Int64) → Option (Int32 × sS)
  | 0, _, _, _, _ => none
  | k + 1, 0, S, L, M => f_First_giveQuote k 1 S (upd L 2 (0 : Int32)) M
  | k + 1, 1, S, L, M => (f_Input_quoteLength k 0 S (upd (fun _ => 0) 1 (L 1 : Int32)) (fun _ => 0)).bind (fun (r1, T1) => if r1 ≤ (L 2) then (some ((0 : Int32), T1)) else ((f_Input_quoteByte k 0 T1 (upd (upd (fun _ => 0) 1 (L 1 : Int32)) 2 (L 2 : Int32)) (fun _ => 0)).bind (fun (r3, T3) => (f_First_giveByte k 0 T3 (upd (fun _ => 0) 1 (r3 : Int32)) (fun _ => 0)).bind (fun (r4, T4) => f_First_giveQuote k 1 T4 (upd L 2 ((L 2) + 1)) M))))
  | _ + 1, _ + 2, _, _, _ => none
set_option maxHeartbeats 8000000 in
set_option maxRecDepth 100000 in
theorem w_First_giveQuote {p : Program} {l : Launch} {e : Env} {R : Room} {s : State} {m : MethodId} {args : Array Value} {below : List Frame} {meth : Method} {c : Code} {cells slots : Nat} {Q : State → Prop} {g : gG} {A : Nat → Prop} {ad : Nat → Nat} (hx : p.tables.exec = Jvm.exec) (hb : c.code = b_First_giveQuote) (hml : c.maxLocals = 3) (hown : s.vm.findClass "MacroMill$First" = some m.cls) (htt : ∀ w ∈ gt, w.before args s = true) (hK : va_K g.1 classes (tysG g) s) (hN : nw s) (hA : ∀ q : Nat, s.heap.size ≤ q → A q) (hRf : 1 ≤ R.frames) (hRl : 22 ≤ R.locals) (hRc : cells ≤ R.cells) (hRs : slots ≤ R.slots) (r : Int32) (S9 : sS)
    (kx_33 : ∀ (ls : Array Slot) (H : Heap) (locs : List Loc), va_P g.1 classes (Sw shC g ad S9) H → va_D A (Sw shC g ad S9) → va_S A s.heap H locs → W p l e R s m args below meth c H locs cells slots Q (F0 m 33 ls [])) :
    ∀ k9 : Nat, (∀ (S : sS) (L : Nat → Int32) (M : Nat → Int64) (ls : Array Slot) (H : Heap) (locs : List Loc), f_First_giveQuote k9 0 S L M = some (r, S9) → lv_has ls 3 [(0, .ref (ad 4)), (1, .int (L 1))] → va_P g.1 classes (Sw shC g ad S) H → va_D A (Sw shC g ad S) → va_S A s.heap H locs → W p l e R s m args below meth c H locs cells slots Q (F0 m 0 ls [])) ∧ (∀ (S : sS) (L : Nat → Int32) (M : Nat → Int64) (ls : Array Slot) (H : Heap) (locs : List Loc), f_First_giveQuote k9 1 S L M = some (r, S9) → lv_has ls 3 [(0, .ref (ad 4)), (1, .int (L 1)), (2, .int (L 2))] → va_P g.1 classes (Sw shC g ad S) H → va_D A (Sw shC g ad S) → va_S A s.heap H locs → W p l e R s m args below meth c H locs cells slots Q (F0 m 2 ls [])) := by
  intro k9
  induction k9 with
  | zero => exact ⟨(fun _ _ _ _ _ _ h => by simp [f_First_giveQuote] at h), (fun _ _ _ _ _ _ h => by simp [f_First_giveQuote] at h)⟩
  | succ k9 ih =>
    refine ⟨?_, ?_⟩
    · intro S L M ls H locs h hl hP hD hS
      simp only [f_First_giveQuote] at h
      refine lv_iconst (v := 0) hx hb d_First_giveQuote_0 (by decide) ?_
      refine lv_istore_n (lv' := [(2, .int 0), (0, .ref (ad 4)), (1, .int (L 1))]) hx hb d_First_giveQuote_1 rfl hl (by decide) rfl (fun ls hl => ?_)
      exact (ih.2) S (upd L 2 (0 : Int32)) M ls H locs h (lv_sub hl [1, 2, 0] rfl) hP hD hS
    · intro S L M ls H locs h hl hP hD hS
      simp only [f_First_giveQuote] at h
      refine lv_iload_n hx hb d_First_giveQuote_2 rfl (lv_at hl 2 rfl) ?_
      refine lv_aload_n hx hb d_First_giveQuote_3 rfl (lv_at hl 0 rfl) ?_
      refine S_getR (h := shC) (C := "MacroMill$First") (T := F_First) hx hb htt in_First hown hK hP 4 2 rfl 5 rfl rfl (by decide) (htt _ k_572) (fun _ h9 => h9) d_First_giveQuote_4 ?_
      refine lv_iload_n hx hb d_First_giveQuote_7 rfl (lv_at hl 1 rfl) ?_
      obtain ⟨⟨r1, T1⟩, hq1, h⟩ := Option.bind_eq_some_iff.mp h
      try dsimp only at h
      refine go_iS (As := [.ref (ad 5), .int (L 1)]) (g := g) (A := A) (h := shC) hP hK hD hS hA hN (fun hp => va_runV (As := [.int (L 1)]) (rest := [.int (L 2)]) ⟨hx, hb, hml, hown, htt⟩ (t_Input_quoteLength l g _ ad S (L 1 : Int32) k9 r1 T1 hq1) ⟨(cb_L htt k_1146 k_269 k_1345 hd_Input_quoteLength ⟨(Nat.le_trans (by decide +kernel) hRf), (Nat.le_trans (by decide +kernel) hRl)⟩), htt _ k_1144, htt _ k_1145⟩ ⟨hp.1, S_recv hK hP 5 rfl rfl, hp.2⟩ rfl rfl hl.1 rfl (lv_room (Nat.le_of_ble_eq_true rfl)) d_First_giveQuote_8 ⟨hRc, hRs⟩) (fun r0 Sn H locs hw9 hP hD hS => ?_)
      obtain ⟨e9, e8⟩ := hw9
      rw [e8] at hP hD
      refine W.widen (k := cells) (n := slots) (Nat.le_refl _) (Nat.le_refl _) ?_
      refine toI (y := r1) e9 ?_
      refine lv_icmp_ge (tgt := 33) hx hb d_First_giveQuote_11 (by decide) (fun hc2 => ?_) (fun hc2 => ?_)
      · rw [if_pos hc2] at h
        cases h
        exact kx_33 ls H locs hP hD hS
      · rw [if_neg hc2] at h
        refine lv_aload_n hx hb d_First_giveQuote_14 rfl (lv_at hl 0 rfl) ?_
        refine lv_aload_n hx hb d_First_giveQuote_15 rfl (lv_at hl 0 rfl) ?_
        refine S_getR (h := shC) (C := "MacroMill$First") (T := F_First) hx hb htt in_First hown hK hP 4 2 rfl 5 rfl rfl (by decide) (htt _ k_572) (fun _ h9 => h9) d_First_giveQuote_16 ?_
        refine lv_iload_n hx hb d_First_giveQuote_19 rfl (lv_at hl 1 rfl) ?_
        refine lv_iload_n hx hb d_First_giveQuote_20 rfl (lv_at hl 2 rfl) ?_
        obtain ⟨⟨r3, T3⟩, hq3, h⟩ := Option.bind_eq_some_iff.mp h
        try dsimp only at h
        refine go_iS (As := [.ref (ad 5), .int (L 1), .int (L 2)]) (g := g) (A := A) (h := shC) hP hK hD hS hA hN (fun hp => va_runV (As := [.int (L 1), .int (L 2)]) (rest := [.ref (ad 4)]) ⟨hx, hb, hml, hown, htt⟩ (t_Input_quoteByte l g _ ad T1 (L 1 : Int32) (L 2 : Int32) k9 r3 T3 hq3) ⟨(cb_L htt k_1349 k_269 k_1346 hd_Input_quoteByte ⟨(Nat.le_trans (by decide +kernel) hRf), (Nat.le_trans (by decide +kernel) hRl)⟩), htt _ k_1347, htt _ k_1348⟩ ⟨hp.1, S_recv hK hP 5 rfl rfl, hp.2⟩ rfl rfl hl.1 rfl (lv_room (Nat.le_of_ble_eq_true rfl)) d_First_giveQuote_21 ⟨hRc, hRs⟩) (fun r0 Sn H locs hw9 hP hD hS => ?_)
        obtain ⟨e9, e8⟩ := hw9
        rw [e8] at hP hD
        refine W.widen (k := cells) (n := slots) (Nat.le_refl _) (Nat.le_refl _) ?_
        refine toI (y := r3) e9 ?_
        obtain ⟨⟨r4, T4⟩, hq4, h⟩ := Option.bind_eq_some_iff.mp h
        try dsimp only at h
        refine go_vS (As := [.ref (ad 4), .int r3]) (g := g) (A := A) (h := shC) hP hK hD hS hA hN (fun hp => va_runV (As := [.int r3]) (rest := []) ⟨hx, hb, hml, hown, htt⟩ (t_First_giveByte l g _ ad T3 (r3 : Int32) k9 r4 T4 hq4) ⟨(cb_L htt k_1333 k_266 k_1330 hd_First_giveByte ⟨(Nat.le_trans (by decide +kernel) hRf), (Nat.le_trans (by decide +kernel) hRl)⟩), htt _ k_1332, htt _ k_24⟩ ⟨hp.1, S_recv hK hP 4 rfl rfl, hp.2⟩ rfl rfl hl.1 rfl (lv_room (Nat.le_of_ble_eq_true rfl)) d_First_giveQuote_24 ⟨hRc, hRs⟩) (fun Sn H locs hw9 hP hD hS => ?_)
        have e8 := hw9
        rw [e8] at hP hD
        refine W.widen (k := cells) (n := slots) (Nat.le_refl _) (Nat.le_refl _) ?_
        refine lv_iinc (k := 2) (v := (L 2) + 1) (lv' := [(2, .int ((L 2) + 1)), (0, .ref (ad 4)), (1, .int (L 1))]) hx hb d_First_giveQuote_27 hl rfl rfl (by decide) rfl (fun ls hl => ?_)
        refine lv_goto (tgt := 2) hx hb d_First_giveQuote_30 (by decide) ?_
        exact (ih.2) T4 (upd L 2 ((L 2) + 1)) M ls H locs h (lv_sub hl [1, 2, 0] rfl) hP hD hS
abbrev rm_t_First_giveQuote : Room := { frames := 1, cells := 0, slots := 0, locals := 22 }
theorem t_First_giveQuote (l : Launch) (g : gG) (sz : Nat) (ad : Nat → Nat) (S : sS) (v1 : Int32) (k : Nat) (r : Int32) (S9 : sS) (h : f_First_giveQuote k 0 S (upd (fun _ => 0) 1 v1) (fun _ => 0) = some (r, S9)) : Cv l y_First_giveQuote b_First_giveQuote 3 rm_t_First_giveQuote g [.ref (ad 4), .int v1] (Sw shC g ad S) sz (fun w => ∃ S1 : sS, w = Sw shC g ad S1 ∧ S1 = S9) := by
  refine startV (by decide) (Nat.le_of_ble_eq_true rfl) ?_
  intro p e s m below meth c A ls hx hb hr hml hlocks hmn hown htt hN hA hP hK hD hS hl
  exact (w_First_giveQuote hx hb hml hown htt hK hN hA (by decide +kernel) (by decide +kernel) (by decide +kernel) (by decide +kernel) r S9 (fun ls H locs hP hD hS => fin_v (g := g) (ws := Sw shC g ad S9) hx hb hr hlocks (by decide +kernel) (by decide +kernel) hP hD hS ⟨_, rfl, rfl⟩ d_First_giveQuote_33) k).1 S (upd (fun _ => 0) 1 v1) (fun _ => 0) ls _ _ h hl hP hD hS
