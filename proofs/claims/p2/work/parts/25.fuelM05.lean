def f_Mod_size : Nat → Nat → sS → (Nat → Int32) → (Nat → Int64) → Option (Int32 × sS)
  | 0, _, _, _, _ => none
  | k + 1, 0, S, L, M => some (S.1 0 18, S)
  | _ + 1, _ + 1, _, _, _ => none
set_option maxHeartbeats 8000000 in
set_option maxRecDepth 100000 in
theorem w_Mod_size {p : Program} {l : Launch} {e : Env} {R : Room} {s : State} {m : MethodId} {args : Array Value} {below : List Frame} {meth : Method} {c : Code} {cells slots : Nat} {Q : State → Prop} {g : gG} {A : Nat → Prop} {ad : Nat → Nat} (hx : p.tables.exec = Jvm.exec) (hb : c.code = b_Mod_size) (hml : c.maxLocals = 1) (hown : s.vm.findClass "MacroMillModel" = some m.cls) (htt : ∀ w ∈ gt, w.before args s = true) (hK : va_K g.1 classes (tysG g) s) (hN : nw s) (hA : ∀ q : Nat, s.heap.size ≤ q → A q) (r : Int32) (S9 : sS)
    (kx_4 : ∀ (ls : Array Slot) (H : Heap) (locs : List Loc), va_P g.1 classes (Sw shM g ad S9) H → va_D A (Sw shM g ad S9) → va_S A s.heap H locs → W p l e R s m args below meth c H locs cells slots Q (F0 m 4 ls [.int r])) :
    ∀ k9 : Nat, (∀ (S : sS) (L : Nat → Int32) (M : Nat → Int64) (ls : Array Slot) (H : Heap) (locs : List Loc), f_Mod_size k9 0 S L M = some (r, S9) → lv_has ls 1 [(0, .ref (ad 0))] → va_P g.1 classes (Sw shM g ad S) H → va_D A (Sw shM g ad S) → va_S A s.heap H locs → W p l e R s m args below meth c H locs cells slots Q (F0 m 0 ls [])) := by
  intro k9
  induction k9 with
  | zero => exact (fun _ _ _ _ _ _ h => by simp [f_Mod_size] at h)
  | succ k9 ih =>
    · intro S L M ls H locs h hl hP hD hS
      simp only [f_Mod_size] at h
      refine lv_aload_n hx hb d_Mod_size_0 rfl (lv_at hl 0 rfl) ?_
      refine S_getI (h := shM) (C := "MacroMillModel") (T := F_Mod) hx hb htt in_Mod hown hK hP 0 18 rfl rfl rfl (by decide) (htt _ k_2254) (fun _ h9 => h9) d_Mod_size_1 ?_
      cases h
      exact kx_4 ls H locs hP hD hS
abbrev rm_t_Mod_size : Room := { frames := 0, cells := 0, slots := 0, locals := 0 }
theorem t_Mod_size (l : Launch) (g : gG) (sz : Nat) (ad : Nat → Nat) (S : sS) (k : Nat) (r : Int32) (S9 : sS) (h : f_Mod_size k 0 S (fun _ => 0) (fun _ => 0) = some (r, S9)) : Ci l y_Mod_size b_Mod_size 1 rm_t_Mod_size g [.ref (ad 0)] (Sw shM g ad S) sz (fun r1 w => ∃ S1 : sS, w = Sw shM g ad S1 ∧ r1 = r ∧ S1 = S9) := by
  refine startI (by decide) (Nat.le_of_ble_eq_true rfl) ?_
  intro p e s m below meth c A ls hx hb hr hml hlocks hmn hown htt hN hA hP hK hD hS hl
  exact (w_Mod_size hx hb hml hown htt hK hN hA r S9 (fun ls H locs hP hD hS => fin_i (g := g) (ws := Sw shM g ad S9) hx hb hr hlocks (by decide +kernel) (by decide +kernel) hP hD hS ⟨_, rfl, rfl, rfl⟩ d_Mod_size_4) k) S (fun _ => 0) (fun _ => 0) ls _ _ h hl hP hD hS
def f_Mod_word : Nat → Nat → sS → (Nat → Int32) → (Nat → Int64) → Option (Int64 × sS)
  | 0, _, _, _, _ => none
  | k + 1, 0, S, L, M => f_Mod_word k 1 S (upd L 4 (7 : Int32)) (vp_updL M 2 (0 : Int64))
  | k + 1, 1, S, L, M => if (L 4) < (0 : Int32) then (f_Mod_word k 3 S L M) else (if (L 1) < (0 : Int32) then (f_Mod_word k 3 S L M) else (if (8192 : Int32) ≤ (L 1) then (f_Mod_word k 3 S L M) else (if (S.1 0 18) ≤ (((8 : Int32) * (L 1)) + (L 4)) then (f_Mod_word k 2 S (upd L 101 (0 : Int32)) (vp_updL M 100 ((M 2) <<< ((8 : Int32).toInt64 &&& 63)))) else (if okI (((8 : Int32) * (L 1)) + (L 4)) 65537 = true then (f_Mod_word k 2 S (upd L 101 ((S.2.1 6 (((8 : Int32) * (L 1)) + (L 4) : Int32).toNatClampNeg) &&& (255 : Int32))) (vp_updL M 100 ((M 2) <<< ((8 : Int32).toInt64 &&& 63)))) else none))))
  | k + 1, 2, S, L, M => f_Mod_word k 1 S (upd L 4 ((L 4) + (-1))) (vp_updL M 2 ((M 100) ||| ((L 101).toInt64)))
  | k + 1, 3, S, L, M => some (M 2, S)
  | _ + 1, _ + 4, _, _, _ => none
set_option maxHeartbeats 8000000 in
set_option maxRecDepth 100000 in
theorem w_Mod_word {p : Program} {l : Launch} {e : Env} {R : Room} {s : State} {m : MethodId} {args : Array Value} {below : List Frame} {meth : Method} {c : Code} {cells slots : Nat} {Q : State → Prop} {g : gG} {A : Nat → Prop} {ad : Nat → Nat} (hx : p.tables.exec = Jvm.exec) (hb : c.code = b_Mod_word) (hml : c.maxLocals = 5) (hown : s.vm.findClass "MacroMillModel" = some m.cls) (htt : ∀ w ∈ gt, w.before args s = true) (hK : va_K g.1 classes (tysG g) s) (hN : nw s) (hA : ∀ q : Nat, s.heap.size ≤ q → A q) (r : Int64) (S9 : sS)
    (kx_70 : ∀ (ls : Array Slot) (H : Heap) (locs : List Loc), va_P g.1 classes (Sw shM g ad S9) H → va_D A (Sw shM g ad S9) → va_S A s.heap H locs → W p l e R s m args below meth c H locs cells slots Q (F0 m 70 ls [.long r])) :
    ∀ k9 : Nat, (∀ (S : sS) (L : Nat → Int32) (M : Nat → Int64) (ls : Array Slot) (H : Heap) (locs : List Loc), f_Mod_word k9 0 S L M = some (r, S9) → lv_has ls 5 [(0, .ref (ad 0)), (1, .int (L 1))] → va_P g.1 classes (Sw shM g ad S) H → va_D A (Sw shM g ad S) → va_S A s.heap H locs → W p l e R s m args below meth c H locs cells slots Q (F0 m 0 ls [])) ∧ (∀ (S : sS) (L : Nat → Int32) (M : Nat → Int64) (ls : Array Slot) (H : Heap) (locs : List Loc), f_Mod_word k9 1 S L M = some (r, S9) → lv_has ls 5 [(0, .ref (ad 0)), (1, .int (L 1)), (2, .long (M 2)), (4, .int (L 4))] → va_P g.1 classes (Sw shM g ad S) H → va_D A (Sw shM g ad S) → va_S A s.heap H locs → W p l e R s m args below meth c H locs cells slots Q (F0 m 6 ls [])) ∧ (∀ (S : sS) (L : Nat → Int32) (M : Nat → Int64) (ls : Array Slot) (H : Heap) (locs : List Loc), f_Mod_word k9 2 S L M = some (r, S9) → lv_has ls 5 [(0, .ref (ad 0)), (1, .int (L 1)), (2, .long (M 2)), (4, .int (L 4))] → va_P g.1 classes (Sw shM g ad S) H → va_D A (Sw shM g ad S) → va_S A s.heap H locs → W p l e R s m args below meth c H locs cells slots Q (F0 m 60 ls [.int (L 101), .long (M 100)])) ∧ (∀ (S : sS) (L : Nat → Int32) (M : Nat → Int64) (ls : Array Slot) (H : Heap) (locs : List Loc), f_Mod_word k9 3 S L M = some (r, S9) → lv_has ls 5 [(0, .ref (ad 0)), (1, .int (L 1)), (2, .long (M 2)), (4, .int (L 4))] → va_P g.1 classes (Sw shM g ad S) H → va_D A (Sw shM g ad S) → va_S A s.heap H locs → W p l e R s m args below meth c H locs cells slots Q (F0 m 69 ls [])) := by
  intro k9
  induction k9 with
  | zero => exact ⟨(fun _ _ _ _ _ _ h => by simp [f_Mod_word] at h), (fun _ _ _ _ _ _ h => by simp [f_Mod_word] at h), (fun _ _ _ _ _ _ h => by simp [f_Mod_word] at h), (fun _ _ _ _ _ _ h => by simp [f_Mod_word] at h)⟩
  | succ k9 ih =>
    refine ⟨?_, ?_, ?_, ?_⟩
    · intro S L M ls H locs h hl hP hD hS
      simp only [f_Mod_word] at h
      refine lv_lconst (v := 0) hx hb d_Mod_word_0 (by decide) ?_
      refine lv_lstore_n (lv' := [(2, .long 0), (0, .ref (ad 0)), (1, .int (L 1))]) hx hb d_Mod_word_1 rfl hl (by decide) rfl (fun ls hl => ?_)
      refine lv_bipush (v := 7) hx hb d_Mod_word_2 (by decide) ?_
      refine lv_istore (lv' := [(4, .int 7), (2, .long 0), (0, .ref (ad 0)), (1, .int (L 1))]) hx hb d_Mod_word_4 hl (by decide) rfl (fun ls hl => ?_)
      exact (ih.2.1) S (upd L 4 (7 : Int32)) (vp_updL M 2 (0 : Int64)) ls H locs h (lv_sub hl [2, 3, 1, 0] rfl) hP hD hS
    · intro S L M ls H locs h hl hP hD hS
      simp only [f_Mod_word] at h
      refine lv_iload hx hb d_Mod_word_6 (lv_at hl 3 rfl) ?_
      refine lv_if_lt (tgt := 69) hx hb d_Mod_word_8 (by decide) (fun hc1 => ?_) (fun hc1 => ?_)
      · rw [if_pos hc1] at h
        exact (ih.2.2.2) S L M ls H locs h (lv_sub hl [0, 1, 2, 3] rfl) hP hD hS
      · rw [if_neg hc1] at h
        refine lv_iload_n hx hb d_Mod_word_11 rfl (lv_at hl 1 rfl) ?_
        refine lv_if_lt (tgt := 69) hx hb d_Mod_word_12 (by decide) (fun hc2 => ?_) (fun hc2 => ?_)
        · rw [if_pos hc2] at h
          exact (ih.2.2.2) S L M ls H locs h (lv_sub hl [0, 1, 2, 3] rfl) hP hD hS
        · rw [if_neg hc2] at h
          refine lv_iload_n hx hb d_Mod_word_15 rfl (lv_at hl 1 rfl) ?_
          refine lv_sipush (v := 8192) hx hb d_Mod_word_16 (by decide) ?_
          refine lv_icmp_ge (tgt := 69) hx hb d_Mod_word_19 (by decide) (fun hc3 => ?_) (fun hc3 => ?_)
          · rw [if_pos hc3] at h
            exact (ih.2.2.2) S L M ls H locs h (lv_sub hl [0, 1, 2, 3] rfl) hP hD hS
          · rw [if_neg hc3] at h
            refine lv_lload_n hx hb d_Mod_word_22 rfl (lv_at hl 2 rfl) ?_
            refine lv_bipush (v := 8) hx hb d_Mod_word_23 (by decide) ?_
            refine lv_lshl (v := (M 2) <<< ((8 : Int32).toInt64 &&& 63)) hx hb d_Mod_word_25 rfl ?_
            refine lv_bipush (v := 8) hx hb d_Mod_word_26 (by decide) ?_
            refine lv_iload_n hx hb d_Mod_word_28 rfl (lv_at hl 1 rfl) ?_
            refine lv_imul hx hb d_Mod_word_29 ?_
            refine lv_iload hx hb d_Mod_word_30 (lv_at hl 3 rfl) ?_
            show W _ _ _ _ _ _ _ _ _ _ _ _ _ _ _ (F0 _ 32 _ _)
            refine lv_iadd hx hb d_Mod_word_32 ?_
            refine lv_aload_n hx hb d_Mod_word_33 rfl (lv_at hl 0 rfl) ?_
            refine S_getI (h := shM) (C := "MacroMillModel") (T := F_Mod) hx hb htt in_Mod hown hK hP 0 18 rfl rfl rfl (by decide) (htt _ k_2254) (fun _ h9 => h9) d_Mod_word_34 ?_
            refine lv_icmp_ge (tgt := 59) hx hb d_Mod_word_37 (by decide) (fun hc4 => ?_) (fun hc4 => ?_)
            · rw [if_pos hc4] at h
              refine lv_iconst (v := 0) hx hb d_Mod_word_59 (by decide) ?_
              exact (ih.2.2.1) S (upd L 101 (0 : Int32)) (vp_updL M 100 ((M 2) <<< ((8 : Int32).toInt64 &&& 63))) ls H locs h (lv_sub hl [0, 1, 2, 3] rfl) hP hD hS
            · rw [if_neg hc4] at h
              refine lv_aload_n hx hb d_Mod_word_40 rfl (lv_at hl 0 rfl) ?_
              refine S_getR (h := shM) (C := "MacroMillModel") (T := F_Mod) hx hb htt in_Mod hown hK hP 0 17 rfl 7 rfl rfl (by decide) (htt _ k_2253) (fun _ h9 => h9) d_Mod_word_41 ?_
              refine lv_bipush (v := 8) hx hb d_Mod_word_44 (by decide) ?_
              refine lv_iload_n hx hb d_Mod_word_46 rfl (lv_at hl 1 rfl) ?_
              refine lv_imul hx hb d_Mod_word_47 ?_
              refine lv_iload hx hb d_Mod_word_48 (lv_at hl 3 rfl) ?_
              refine lv_iadd hx hb d_Mod_word_50 ?_
              obtain ⟨hv5, h⟩ := chk h
              refine S_bald (h := shM) (i := ((8 : Int32) * (L 1)) + (L 4)) hx hb hK hP 6 rfl (okI_in hv5) d_Mod_word_51 ?_
              refine lv_sipush (v := 255) hx hb d_Mod_word_52 (by decide) ?_
              show W _ _ _ _ _ _ _ _ _ _ _ _ _ _ _ (F0 _ 55 _ _)
              refine lv_iand hx hb d_Mod_word_55 ?_
              refine lv_goto (tgt := 60) hx hb d_Mod_word_56 (by decide) ?_
              exact (ih.2.2.1) S (upd L 101 ((S.2.1 6 (((8 : Int32) * (L 1)) + (L 4) : Int32).toNatClampNeg) &&& (255 : Int32))) (vp_updL M 100 ((M 2) <<< ((8 : Int32).toInt64 &&& 63))) ls H locs h (lv_sub hl [0, 1, 2, 3] rfl) hP hD hS
    · intro S L M ls H locs h hl hP hD hS
      simp only [f_Mod_word] at h
      refine lv_i2l (v := (L 101).toInt64) hx hb d_Mod_word_60 rfl ?_
      refine lv_lor hx hb d_Mod_word_61 ?_
      refine lv_lstore_n (lv' := [(2, .long ((M 100) ||| ((L 101).toInt64))), (0, .ref (ad 0)), (1, .int (L 1)), (4, .int (L 4))]) hx hb d_Mod_word_62 rfl hl (by decide) rfl (fun ls hl => ?_)
      refine lv_iinc (k := 3) (v := (L 4) + (-1)) (lv' := [(4, .int ((L 4) + (-1))), (2, .long ((M 100) ||| ((L 101).toInt64))), (0, .ref (ad 0)), (1, .int (L 1))]) hx hb d_Mod_word_63 hl rfl rfl (by decide) rfl (fun ls hl => ?_)
      refine lv_goto (tgt := 6) hx hb d_Mod_word_66 (by decide) ?_
      exact (ih.2.1) S (upd L 4 ((L 4) + (-1))) (vp_updL M 2 ((M 100) ||| ((L 101).toInt64))) ls H locs h (lv_sub hl [2, 3, 1, 0] rfl) hP hD hS
    · intro S L M ls H locs h hl hP hD hS
      simp only [f_Mod_word] at h
      refine lv_lload_n hx hb d_Mod_word_69 rfl (lv_at hl 2 rfl) ?_
      cases h
      exact kx_70 ls H locs hP hD hS
abbrev rm_t_Mod_word : Room := { frames := 0, cells := 0, slots := 0, locals := 0 }
theorem t_Mod_word (l : Launch) (g : gG) (sz : Nat) (ad : Nat → Nat) (S : sS) (v1 : Int32) (k : Nat) (r : Int64) (S9 : sS) (h : f_Mod_word k 0 S (upd (fun _ => 0) 1 v1) (fun _ => 0) = some (r, S9)) : Cl l y_Mod_word b_Mod_word 5 rm_t_Mod_word g [.ref (ad 0), .int v1] (Sw shM g ad S) sz (fun r1 w => ∃ S1 : sS, w = Sw shM g ad S1 ∧ r1 = r ∧ S1 = S9) := by
  refine startL (by decide) (Nat.le_of_ble_eq_true rfl) ?_
  intro p e s m below meth c A ls hx hb hr hml hlocks hmn hown htt hN hA hP hK hD hS hl
  exact (w_Mod_word hx hb hml hown htt hK hN hA r S9 (fun ls H locs hP hD hS => fin_l (g := g) (ws := Sw shM g ad S9) hx hb hr hlocks (by decide +kernel) (by decide +kernel) hP hD hS ⟨_, rfl, rfl, rfl⟩ d_Mod_word_70) k).1 S (upd (fun _ => 0) 1 v1) (fun _ => 0) ls _ _ h hl hP hD hS
def f_Mod_parameters : Nat → Nat → sS → (Nat → Int32) → (Nat → Int64) → Option (Int32 × sS)
  | 0, _, _, _, _ => none
  | k + 1, 0, S, L, M => (f_Mod_use k 0 S (fun _ => 0) (fun _ => 0)).bind (fun (r1, T1) => f_Mod_parameters k 1 T1 (upd (upd L 1 r1) 2 (0 : Int32)) M)
  | k + 1, 1, S, L, M => if (S.1 0 75) ≤ (L 2) then (some (((-1) : Int32), S)) else (if okI (L 2) 400 = true then (if (S.2.1 36 (L 2 : Int32).toNatClampNeg) = (0 : Int32) then (f_Mod_parameters k 2 S L M) else (if okI (L 2) 400 = true then (if (S.2.1 35 (L 2 : Int32).toNatClampNeg) = (L 1) then (f_Mod_parameters k 3 S (upd L 100 (1 : Int32)) M) else (f_Mod_parameters k 2 S L M)) else none)) else none)
  | k + 1, 2, S, L, M => f_Mod_parameters k 3 S (upd L 100 (0 : Int32)) M
  | k + 1, 3, S, L, M => f_Mod_parameters k 4 S (upd (upd L 3 (L 100)) 4 (0 : Int32)) M
  | k + 1, 4, S, L, M => if (L 1) ≤ (L 4) then (f_Mod_parameters k 6 S L M) else (if (L 3) = (0 : Int32) then (f_Mod_parameters k 6 S L M) else (if okI (L 2) 400 = true then (if okI ((S.2.1 34 (L 2 : Int32).toNatClampNeg) + (L 4)) 125552 = true then (if okI (L 4) 16384 = true then (if (S.2.1 23 ((S.2.1 34 (L 2 : Int32).toNatClampNeg) + (L 4) : Int32).toNatClampNeg) = (S.2.1 0 (L 4 : Int32).toNatClampNeg) then (f_Mod_parameters k 5 S (upd L 100 (1 : Int32)) M) else (f_Mod_parameters k 5 S (upd L 100 (0 : Int32)) M)) else none) else none) else none))
  | k + 1, 5, S, L, M => f_Mod_parameters k 4 S (upd (upd L 3 (L 100)) 4 ((L 4) + 1)) M
  | k + 1, 6, S, L, M => if (L 3) = (0 : Int32) then (f_Mod_parameters k 1 S (upd L 2 ((L 2) + 1)) M) else (if okI (L 2) 400 = true then (if (0 : Int32) ≤ (S.2.1 37 (L 2 : Int32).toNatClampNeg) then (if okI (L 2) 400 = true then (f_Mod_parameters k 7 S (upd L 100 (S.2.1 37 (L 2 : Int32).toNatClampNeg)) M) else none) else (f_Mod_parameters k 7 S (upd L 100 ((-2) : Int32)) M)) else none)
  | k + 1, 7, S, L, M => some (L 100, S)
  | _ + 1, _ + 8, _, _, _ => none
set_option maxHeartbeats 8000000 in
set_option maxRecDepth 100000 in
theorem w_Mod_parameters {p : Program} {l : Launch} {e : Env} {R : Room} {s : State} {m : MethodId} {args : Array Value} {below : List Frame} {meth : Method} {c : Code} {cells slots : Nat} {Q : State → Prop} {g : gG} {A : Nat → Prop} {ad : Nat → Nat} (hx : p.tables.exec = Jvm.exec) (hb : c.code = b_Mod_parameters) (hml : c.maxLocals = 5) (hown : s.vm.findClass "MacroMillModel" = some m.cls) (htt : ∀ w ∈ gt, w.before args s = true) (hK : va_K g.1 classes (tysG g) s) (hN : nw s) (hA : ∀ q : Nat, s.heap.size ≤ q → A q) (hRf : 1 ≤ R.frames) (hRl : 21 ≤ R.locals) (hRc : cells ≤ R.cells) (hRs : slots ≤ R.slots) (r : Int32) (S9 : sS)
    (kx_113 : ∀ (ls : Array Slot) (H : Heap) (locs : List Loc), va_P g.1 classes (Sw shM g ad S9) H → va_D A (Sw shM g ad S9) → va_S A s.heap H locs → W p l e R s m args below meth c H locs cells slots Q (F0 m 113 ls [.int r]))
    (kx_121 : ∀ (ls : Array Slot) (H : Heap) (locs : List Loc), va_P g.1 classes (Sw shM g ad S9) H → va_D A (Sw shM g ad S9) → va_S A s.heap H locs → W p l e R s m args below meth c H locs cells slots Q (F0 m 121 ls [.int r])) :
    ∀ k9 : Nat, (∀ (S : sS) (L : Nat → Int32) (M : Nat → Int64) (ls : Array Slot) (H : Heap) (locs : List Loc), f_Mod_parameters k9 0 S L M = some (r, S9) → lv_has ls 5 [(0, .ref (ad 0))] → va_P g.1 classes (Sw shM g ad S) H → va_D A (Sw shM g ad S) → va_S A s.heap H locs → W p l e R s m args below meth c H locs cells slots Q (F0 m 0 ls [])) ∧ (∀ (S : sS) (L : Nat → Int32) (M : Nat → Int64) (ls : Array Slot) (H : Heap) (locs : List Loc), f_Mod_parameters k9 1 S L M = some (r, S9) → lv_has ls 5 [(0, .ref (ad 0)), (1, .int (L 1)), (2, .int (L 2))] → va_P g.1 classes (Sw shM g ad S) H → va_D A (Sw shM g ad S) → va_S A s.heap H locs → W p l e R s m args below meth c H locs cells slots Q (F0 m 7 ls [])) ∧ (∀ (S : sS) (L : Nat → Int32) (M : Nat → Int64) (ls : Array Slot) (H : Heap) (locs : List Loc), f_Mod_parameters k9 2 S L M = some (r, S9) → lv_has ls 5 [(0, .ref (ad 0)), (1, .int (L 1)), (2, .int (L 2))] → va_P g.1 classes (Sw shM g ad S) H → va_D A (Sw shM g ad S) → va_S A s.heap H locs → W p l e R s m args below meth c H locs cells slots Q (F0 m 38 ls [])) ∧ (∀ (S : sS) (L : Nat → Int32) (M : Nat → Int64) (ls : Array Slot) (H : Heap) (locs : List Loc), f_Mod_parameters k9 3 S L M = some (r, S9) → lv_has ls 5 [(0, .ref (ad 0)), (1, .int (L 1)), (2, .int (L 2))] → va_P g.1 classes (Sw shM g ad S) H → va_D A (Sw shM g ad S) → va_S A s.heap H locs → W p l e R s m args below meth c H locs cells slots Q (F0 m 39 ls [.int (L 100)])) ∧ (∀ (S : sS) (L : Nat → Int32) (M : Nat → Int64) (ls : Array Slot) (H : Heap) (locs : List Loc), f_Mod_parameters k9 4 S L M = some (r, S9) → lv_has ls 5 [(0, .ref (ad 0)), (1, .int (L 1)), (2, .int (L 2)), (3, .int (L 3)), (4, .int (L 4))] → va_P g.1 classes (Sw shM g ad S) H → va_D A (Sw shM g ad S) → va_S A s.heap H locs → W p l e R s m args below meth c H locs cells slots Q (F0 m 43 ls [])) ∧ (∀ (S : sS) (L : Nat → Int32) (M : Nat → Int64) (ls : Array Slot) (H : Heap) (locs : List Loc), f_Mod_parameters k9 5 S L M = some (r, S9) → lv_has ls 5 [(0, .ref (ad 0)), (1, .int (L 1)), (2, .int (L 2)), (3, .int (L 3)), (4, .int (L 4))] → va_P g.1 classes (Sw shM g ad S) H → va_D A (Sw shM g ad S) → va_S A s.heap H locs → W p l e R s m args below meth c H locs cells slots Q (F0 m 82 ls [.int (L 100)])) ∧ (∀ (S : sS) (L : Nat → Int32) (M : Nat → Int64) (ls : Array Slot) (H : Heap) (locs : List Loc), f_Mod_parameters k9 6 S L M = some (r, S9) → lv_has ls 5 [(0, .ref (ad 0)), (1, .int (L 1)), (2, .int (L 2)), (3, .int (L 3)), (4, .int (L 4))] → va_P g.1 classes (Sw shM g ad S) H → va_D A (Sw shM g ad S) → va_S A s.heap H locs → W p l e R s m args below meth c H locs cells slots Q (F0 m 89 ls [])) ∧ (∀ (S : sS) (L : Nat → Int32) (M : Nat → Int64) (ls : Array Slot) (H : Heap) (locs : List Loc), f_Mod_parameters k9 7 S L M = some (r, S9) → lv_has ls 5 [(0, .ref (ad 0)), (1, .int (L 1)), (2, .int (L 2)), (3, .int (L 3)), (4, .int (L 4))] → va_P g.1 classes (Sw shM g ad S) H → va_D A (Sw shM g ad S) → va_S A s.heap H locs → W p l e R s m args below meth c H locs cells slots Q (F0 m 113 ls [.int (L 100)])) := by
  intro k9
  induction k9 with
  | zero => exact ⟨(fun _ _ _ _ _ _ h => by simp [f_Mod_parameters] at h), (fun _ _ _ _ _ _ h => by simp [f_Mod_parameters] at h), (fun _ _ _ _ _ _ h => by simp [f_Mod_parameters] at h), (fun _ _ _ _ _ _ h => by simp [f_Mod_parameters] at h), (fun _ _ _ _ _ _ h => by simp [f_Mod_parameters] at h), (fun _ _ _ _ _ _ h => by simp [f_Mod_parameters] at h), (fun _ _ _ _ _ _ h => by simp [f_Mod_parameters] at h), (fun _ _ _ _ _ _ h => by simp [f_Mod_parameters] at h)⟩
  | succ k9 ih =>
    refine ⟨?_, ?_, ?_, ?_, ?_, ?_, ?_, ?_⟩
    · intro S L M ls H locs h hl hP hD hS
      simp only [f_Mod_parameters] at h
      refine lv_aload_n hx hb d_Mod_parameters_0 rfl (lv_at hl 0 rfl) ?_
      obtain ⟨⟨r1, T1⟩, hq1, h⟩ := Option.bind_eq_some_iff.mp h
      try dsimp only at h
      refine go_iS (As := [.ref (ad 0)]) (g := g) (A := A) (h := shM) hP hK hD hS hA hN (fun hp => va_runV (As := []) (rest := []) ⟨hx, hb, hml, hown, htt⟩ (t_Mod_use l g _ ad S k9 r1 T1 hq1) ⟨(cb_L htt k_2688 k_276 k_2685 hd_Mod_use ⟨(Nat.le_trans (by decide +kernel) hRf), (Nat.le_trans (by decide +kernel) hRl)⟩), htt _ k_2687, htt _ k_127⟩ ⟨hp.1, S_recv hK hP 0 rfl rfl, hp.2⟩ rfl rfl hl.1 rfl (lv_room (Nat.le_of_ble_eq_true rfl)) d_Mod_parameters_1 ⟨hRc, hRs⟩) (fun r0 Sn H locs hw9 hP hD hS => ?_)
      obtain ⟨e9, e8⟩ := hw9
      rw [e8] at hP hD
      refine W.widen (k := cells) (n := slots) (Nat.le_refl _) (Nat.le_refl _) ?_
      refine toI (y := r1) e9 ?_
      refine lv_istore_n (lv' := [(1, .int r1), (0, .ref (ad 0))]) hx hb d_Mod_parameters_4 rfl hl (by decide) rfl (fun ls hl => ?_)
      refine lv_iconst (v := 0) hx hb d_Mod_parameters_5 (by decide) ?_
      refine lv_istore_n (lv' := [(2, .int 0), (1, .int r1), (0, .ref (ad 0))]) hx hb d_Mod_parameters_6 rfl hl (by decide) rfl (fun ls hl => ?_)
      exact (ih.2.1) T1 (upd (upd L 1 r1) 2 (0 : Int32)) M ls H locs h (lv_sub hl [2, 1, 0] rfl) hP hD hS
    · intro S L M ls H locs h hl hP hD hS
      simp only [f_Mod_parameters] at h
      refine lv_iload_n hx hb d_Mod_parameters_7 rfl (lv_at hl 2 rfl) ?_
      refine lv_aload_n hx hb d_Mod_parameters_8 rfl (lv_at hl 0 rfl) ?_
      refine S_getI (h := shM) (C := "MacroMillModel") (T := F_Mod) hx hb htt in_Mod hown hK hP 0 75 rfl rfl rfl (by decide) (htt _ k_2311) (fun _ h9 => h9) d_Mod_parameters_9 ?_
      refine lv_icmp_ge (tgt := 120) hx hb d_Mod_parameters_12 (by decide) (fun hc1 => ?_) (fun hc1 => ?_)
      · rw [if_pos hc1] at h
        refine lv_iconst (v := (-1)) hx hb d_Mod_parameters_120 (by decide) ?_
        cases h
        exact kx_121 ls H locs hP hD hS
      · rw [if_neg hc1] at h
        refine lv_aload_n hx hb d_Mod_parameters_15 rfl (lv_at hl 0 rfl) ?_
        refine S_getR (h := shM) (C := "MacroMillModel") (T := F_Mod) hx hb htt in_Mod hown hK hP 0 78 rfl 37 rfl rfl (by decide) (htt _ k_2314) (fun _ h9 => h9) d_Mod_parameters_16 ?_
        refine lv_iload_n hx hb d_Mod_parameters_19 rfl (lv_at hl 2 rfl) ?_
        obtain ⟨hv2, h⟩ := chk h
        refine S_zald (h := shM) (i := L 2) hx hb hK hP 36 rfl (okI_in hv2) d_Mod_parameters_20 ?_
        refine lv_if_eq (tgt := 38) hx hb d_Mod_parameters_21 (by decide) (fun hc3 => ?_) (fun hc3 => ?_)
        · rw [if_pos hc3] at h
          exact (ih.2.2.1) S L M ls H locs h (lv_sub hl [0, 1, 2] rfl) hP hD hS
        · rw [if_neg hc3] at h
          refine lv_aload_n hx hb d_Mod_parameters_24 rfl (lv_at hl 0 rfl) ?_
          refine S_getR (h := shM) (C := "MacroMillModel") (T := F_Mod) hx hb htt in_Mod hown hK hP 0 77 rfl 36 rfl rfl (by decide) (htt _ k_2313) (fun _ h9 => h9) d_Mod_parameters_25 ?_
          refine lv_iload_n hx hb d_Mod_parameters_28 rfl (lv_at hl 2 rfl) ?_
          obtain ⟨hv4, h⟩ := chk h
          refine S_iald (h := shM) (i := L 2) hx hb hK hP 35 rfl (okI_in hv4) d_Mod_parameters_29 ?_
          show W _ _ _ _ _ _ _ _ _ _ _ _ _ _ _ (F0 _ 30 _ _)
          refine lv_iload_n hx hb d_Mod_parameters_30 rfl (lv_at hl 1 rfl) ?_
          refine lv_icmp_ne (tgt := 38) hx hb d_Mod_parameters_31 (by decide) (fun hc5 => ?_) (fun hc5 => ?_)
          · rw [if_neg hc5] at h
            exact (ih.2.2.1) S L M ls H locs h (lv_sub hl [0, 1, 2] rfl) hP hD hS
          · rw [if_pos hc5] at h
            refine lv_iconst (v := 1) hx hb d_Mod_parameters_34 (by decide) ?_
            refine lv_goto (tgt := 39) hx hb d_Mod_parameters_35 (by decide) ?_
            exact (ih.2.2.2.1) S (upd L 100 (1 : Int32)) M ls H locs h (lv_sub hl [0, 1, 2] rfl) hP hD hS
    · intro S L M ls H locs h hl hP hD hS
      simp only [f_Mod_parameters] at h
      refine lv_iconst (v := 0) hx hb d_Mod_parameters_38 (by decide) ?_
      exact (ih.2.2.2.1) S (upd L 100 (0 : Int32)) M ls H locs h (lv_sub hl [0, 1, 2] rfl) hP hD hS
    · intro S L M ls H locs h hl hP hD hS
      simp only [f_Mod_parameters] at h
      refine lv_istore_n (lv' := [(3, .int (L 100)), (0, .ref (ad 0)), (1, .int (L 1)), (2, .int (L 2))]) hx hb d_Mod_parameters_39 rfl hl (by decide) rfl (fun ls hl => ?_)
      refine lv_iconst (v := 0) hx hb d_Mod_parameters_40 (by decide) ?_
      refine lv_istore (lv' := [(4, .int 0), (3, .int (L 100)), (0, .ref (ad 0)), (1, .int (L 1)), (2, .int (L 2))]) hx hb d_Mod_parameters_41 hl (by decide) rfl (fun ls hl => ?_)
      exact (ih.2.2.2.2.1) S (upd (upd L 3 (L 100)) 4 (0 : Int32)) M ls H locs h (lv_sub hl [2, 3, 4, 1, 0] rfl) hP hD hS
    · intro S L M ls H locs h hl hP hD hS
      simp only [f_Mod_parameters] at h
      refine lv_iload hx hb d_Mod_parameters_43 (lv_at hl 4 rfl) ?_
      refine lv_iload_n hx hb d_Mod_parameters_45 rfl (lv_at hl 1 rfl) ?_
      refine lv_icmp_ge (tgt := 89) hx hb d_Mod_parameters_46 (by decide) (fun hc1 => ?_) (fun hc1 => ?_)
      · rw [if_pos hc1] at h
        exact (ih.2.2.2.2.2.2.1) S L M ls H locs h (lv_sub hl [0, 1, 2, 3, 4] rfl) hP hD hS
      · rw [if_neg hc1] at h
        refine lv_iload_n hx hb d_Mod_parameters_49 rfl (lv_at hl 3 rfl) ?_
        refine lv_if_eq (tgt := 89) hx hb d_Mod_parameters_50 (by decide) (fun hc2 => ?_) (fun hc2 => ?_)
        · rw [if_pos hc2] at h
          exact (ih.2.2.2.2.2.2.1) S L M ls H locs h (lv_sub hl [0, 1, 2, 3, 4] rfl) hP hD hS
        · rw [if_neg hc2] at h
          refine lv_aload_n hx hb d_Mod_parameters_53 rfl (lv_at hl 0 rfl) ?_
          refine S_getR (h := shM) (C := "MacroMillModel") (T := F_Mod) hx hb htt in_Mod hown hK hP 0 60 rfl 24 rfl rfl (by decide) (htt _ k_2296) (fun _ h9 => h9) d_Mod_parameters_54 ?_
          refine lv_aload_n hx hb d_Mod_parameters_57 rfl (lv_at hl 0 rfl) ?_
          refine S_getR (h := shM) (C := "MacroMillModel") (T := F_Mod) hx hb htt in_Mod hown hK hP 0 76 rfl 35 rfl rfl (by decide) (htt _ k_2312) (fun _ h9 => h9) d_Mod_parameters_58 ?_
          refine lv_iload_n hx hb d_Mod_parameters_61 rfl (lv_at hl 2 rfl) ?_
          obtain ⟨hv3, h⟩ := chk h
          refine S_iald (h := shM) (i := L 2) hx hb hK hP 34 rfl (okI_in hv3) d_Mod_parameters_62 ?_
          refine lv_iload hx hb d_Mod_parameters_63 (lv_at hl 4 rfl) ?_
          refine lv_iadd hx hb d_Mod_parameters_65 ?_
          obtain ⟨hv4, h⟩ := chk h
          show W _ _ _ _ _ _ _ _ _ _ _ _ _ _ _ (F0 _ 66 _ _)
          refine S_bald (h := shM) (i := (S.2.1 34 (L 2 : Int32).toNatClampNeg) + (L 4)) hx hb hK hP 23 rfl (okI_in hv4) d_Mod_parameters_66 ?_
          refine lv_aload_n hx hb d_Mod_parameters_67 rfl (lv_at hl 0 rfl) ?_
          refine S_getR (h := shM) (C := "MacroMillModel") (T := F_Mod) hx hb htt in_Mod hown hK hP 0 0 rfl 1 rfl rfl (by decide) (htt _ k_2236) (fun _ h9 => h9) d_Mod_parameters_68 ?_
          refine lv_iload hx hb d_Mod_parameters_71 (lv_at hl 4 rfl) ?_
          obtain ⟨hv5, h⟩ := chk h
          refine S_bald (h := shM) (i := L 4) hx hb hK hP 0 rfl (okI_in hv5) d_Mod_parameters_73 ?_
          refine lv_icmp_ne (tgt := 81) hx hb d_Mod_parameters_74 (by decide) (fun hc6 => ?_) (fun hc6 => ?_)
          · rw [if_neg hc6] at h
            refine lv_iconst (v := 0) hx hb d_Mod_parameters_81 (by decide) ?_
            exact (ih.2.2.2.2.2.1) S (upd L 100 (0 : Int32)) M ls H locs h (lv_sub hl [0, 1, 2, 3, 4] rfl) hP hD hS
          · rw [if_pos hc6] at h
            refine lv_iconst (v := 1) hx hb d_Mod_parameters_77 (by decide) ?_
            refine lv_goto (tgt := 82) hx hb d_Mod_parameters_78 (by decide) ?_
            exact (ih.2.2.2.2.2.1) S (upd L 100 (1 : Int32)) M ls H locs h (lv_sub hl [0, 1, 2, 3, 4] rfl) hP hD hS
    · intro S L M ls H locs h hl hP hD hS
      simp only [f_Mod_parameters] at h
      refine lv_istore_n (lv' := [(3, .int (L 100)), (0, .ref (ad 0)), (1, .int (L 1)), (2, .int (L 2)), (4, .int (L 4))]) hx hb d_Mod_parameters_82 rfl hl (by decide) rfl (fun ls hl => ?_)
      refine lv_iinc (k := 4) (v := (L 4) + 1) (lv' := [(4, .int ((L 4) + 1)), (3, .int (L 100)), (0, .ref (ad 0)), (1, .int (L 1)), (2, .int (L 2))]) hx hb d_Mod_parameters_83 hl rfl rfl (by decide) rfl (fun ls hl => ?_)
      refine lv_goto (tgt := 43) hx hb d_Mod_parameters_86 (by decide) ?_
      exact (ih.2.2.2.2.1) S (upd (upd L 3 (L 100)) 4 ((L 4) + 1)) M ls H locs h (lv_sub hl [2, 3, 4, 1, 0] rfl) hP hD hS
    · intro S L M ls H locs h hl hP hD hS
      simp only [f_Mod_parameters] at h
      refine lv_iload_n hx hb d_Mod_parameters_89 rfl (lv_at hl 3 rfl) ?_
      refine lv_if_eq (tgt := 114) hx hb d_Mod_parameters_90 (by decide) (fun hc1 => ?_) (fun hc1 => ?_)
      · rw [if_pos hc1] at h
        refine lv_iinc (k := 2) (v := (L 2) + 1) (lv' := [(2, .int ((L 2) + 1)), (0, .ref (ad 0)), (1, .int (L 1)), (3, .int (L 3)), (4, .int (L 4))]) hx hb d_Mod_parameters_114 hl rfl rfl (by decide) rfl (fun ls hl => ?_)
        refine lv_goto (tgt := 7) hx hb d_Mod_parameters_117 (by decide) ?_
        exact (ih.2.1) S (upd L 2 ((L 2) + 1)) M ls H locs h (lv_sub hl [1, 2, 0] rfl) hP hD hS
      · rw [if_neg hc1] at h
        refine lv_aload_n hx hb d_Mod_parameters_93 rfl (lv_at hl 0 rfl) ?_
        refine S_getR (h := shM) (C := "MacroMillModel") (T := F_Mod) hx hb htt in_Mod hown hK hP 0 79 rfl 38 rfl rfl (by decide) (htt _ k_2315) (fun _ h9 => h9) d_Mod_parameters_94 ?_
        refine lv_iload_n hx hb d_Mod_parameters_97 rfl (lv_at hl 2 rfl) ?_
        obtain ⟨hv2, h⟩ := chk h
        refine S_iald (h := shM) (i := L 2) hx hb hK hP 37 rfl (okI_in hv2) d_Mod_parameters_98 ?_
        refine lv_if_ge (tgt := 107) hx hb d_Mod_parameters_99 (by decide) (fun hc3 => ?_) (fun hc3 => ?_)
        · rw [if_pos hc3] at h
          refine lv_aload_n hx hb d_Mod_parameters_107 rfl (lv_at hl 0 rfl) ?_
          refine S_getR (h := shM) (C := "MacroMillModel") (T := F_Mod) hx hb htt in_Mod hown hK hP 0 79 rfl 38 rfl rfl (by decide) (htt _ k_2315) (fun _ h9 => h9) d_Mod_parameters_108 ?_
          refine lv_iload_n hx hb d_Mod_parameters_111 rfl (lv_at hl 2 rfl) ?_
          obtain ⟨hv4, h⟩ := chk h
          refine S_iald (h := shM) (i := L 2) hx hb hK hP 37 rfl (okI_in hv4) d_Mod_parameters_112 ?_
          exact (ih.2.2.2.2.2.2.2) S (upd L 100 (S.2.1 37 (L 2 : Int32).toNatClampNeg)) M ls H locs h (lv_sub hl [0, 1, 2, 3, 4] rfl) hP hD hS
        · rw [if_neg hc3] at h
          refine lv_bipush (v := (-2)) hx hb d_Mod_parameters_102 (by decide) ?_
          refine lv_goto (tgt := 113) hx hb d_Mod_parameters_104 (by decide) ?_
          exact (ih.2.2.2.2.2.2.2) S (upd L 100 ((-2) : Int32)) M ls H locs h (lv_sub hl [0, 1, 2, 3, 4] rfl) hP hD hS
    · intro S L M ls H locs h hl hP hD hS
      simp only [f_Mod_parameters] at h
      cases h
      exact kx_113 ls H locs hP hD hS
abbrev rm_t_Mod_parameters : Room := { frames := 1, cells := 0, slots := 0, locals := 21 }
theorem t_Mod_parameters (l : Launch) (g : gG) (sz : Nat) (ad : Nat → Nat) (S : sS) (k : Nat) (r : Int32) (S9 : sS) (h : f_Mod_parameters k 0 S (fun _ => 0) (fun _ => 0) = some (r, S9)) : Ci l y_Mod_parameters b_Mod_parameters 5 rm_t_Mod_parameters g [.ref (ad 0)] (Sw shM g ad S) sz (fun r1 w => ∃ S1 : sS, w = Sw shM g ad S1 ∧ r1 = r ∧ S1 = S9) := by
  refine startI (by decide) (Nat.le_of_ble_eq_true rfl) ?_
  intro p e s m below meth c A ls hx hb hr hml hlocks hmn hown htt hN hA hP hK hD hS hl
  exact (w_Mod_parameters hx hb hml hown htt hK hN hA (by decide +kernel) (by decide +kernel) (by decide +kernel) (by decide +kernel) r S9 (fun ls H locs hP hD hS => fin_i (g := g) (ws := Sw shM g ad S9) hx hb hr hlocks (by decide +kernel) (by decide +kernel) hP hD hS ⟨_, rfl, rfl, rfl⟩ d_Mod_parameters_113) (fun ls H locs hP hD hS => fin_i (g := g) (ws := Sw shM g ad S9) hx hb hr hlocks (by decide +kernel) (by decide +kernel) hP hD hS ⟨_, rfl, rfl, rfl⟩ d_Mod_parameters_121) k).1 S (fun _ => 0) (fun _ => 0) ls _ _ h hl hP hD hS
def f_Mod_astray : Nat → Nat → sS → (Nat → Int32) → (Nat → Int64) → Option (Int32 × sS)
  | 0, _, _, _, _ => none
  | k + 1, 0, S, L, M => some (S.1 0 16, S)
  | _ + 1, _ + 1, _, _, _ => none
set_option maxHeartbeats 8000000 in
set_option maxRecDepth 100000 in
theorem w_Mod_astray {p : Program} {l : Launch} {e : Env} {R : Room} {s : State} {m : MethodId} {args : Array Value} {below : List Frame} {meth : Method} {c : Code} {cells slots : Nat} {Q : State → Prop} {g : gG} {A : Nat → Prop} {ad : Nat → Nat} (hx : p.tables.exec = Jvm.exec) (hb : c.code = b_Mod_astray) (hml : c.maxLocals = 1) (hown : s.vm.findClass "MacroMillModel" = some m.cls) (htt : ∀ w ∈ gt, w.before args s = true) (hK : va_K g.1 classes (tysG g) s) (hN : nw s) (hA : ∀ q : Nat, s.heap.size ≤ q → A q) (r : Int32) (S9 : sS)
    (kx_4 : ∀ (ls : Array Slot) (H : Heap) (locs : List Loc), va_P g.1 classes (Sw shM g ad S9) H → va_D A (Sw shM g ad S9) → va_S A s.heap H locs → W p l e R s m args below meth c H locs cells slots Q (F0 m 4 ls [.int r])) :
    ∀ k9 : Nat, (∀ (S : sS) (L : Nat → Int32) (M : Nat → Int64) (ls : Array Slot) (H : Heap) (locs : List Loc), f_Mod_astray k9 0 S L M = some (r, S9) → lv_has ls 1 [(0, .ref (ad 0))] → va_P g.1 classes (Sw shM g ad S) H → va_D A (Sw shM g ad S) → va_S A s.heap H locs → W p l e R s m args below meth c H locs cells slots Q (F0 m 0 ls [])) := by
  intro k9
  induction k9 with
  | zero => exact (fun _ _ _ _ _ _ h => by simp [f_Mod_astray] at h)
  | succ k9 ih =>
    · intro S L M ls H locs h hl hP hD hS
      simp only [f_Mod_astray] at h
      refine lv_aload_n hx hb d_Mod_astray_0 rfl (lv_at hl 0 rfl) ?_
      refine S_getI (h := shM) (C := "MacroMillModel") (T := F_Mod) hx hb htt in_Mod hown hK hP 0 16 rfl rfl rfl (by decide) (htt _ k_2252) (fun _ h9 => h9) d_Mod_astray_1 ?_
      cases h
      exact kx_4 ls H locs hP hD hS
abbrev rm_t_Mod_astray : Room := { frames := 0, cells := 0, slots := 0, locals := 0 }
theorem t_Mod_astray (l : Launch) (g : gG) (sz : Nat) (ad : Nat → Nat) (S : sS) (k : Nat) (r : Int32) (S9 : sS) (h : f_Mod_astray k 0 S (fun _ => 0) (fun _ => 0) = some (r, S9)) : Ci l y_Mod_astray b_Mod_astray 1 rm_t_Mod_astray g [.ref (ad 0)] (Sw shM g ad S) sz (fun r1 w => ∃ S1 : sS, w = Sw shM g ad S1 ∧ r1 = r ∧ S1 = S9) := by
  refine startI (by decide) (Nat.le_of_ble_eq_true rfl) ?_
  intro p e s m below meth c A ls hx hb hr hml hlocks hmn hown htt hN hA hP hK hD hS hl
  exact (w_Mod_astray hx hb hml hown htt hK hN hA r S9 (fun ls H locs hP hD hS => fin_i (g := g) (ws := Sw shM g ad S9) hx hb hr hlocks (by decide +kernel) (by decide +kernel) hP hD hS ⟨_, rfl, rfl, rfl⟩ d_Mod_astray_4) k) S (fun _ => 0) (fun _ => 0) ls _ _ h hl hP hD hS
def f_Mod_take : Nat → Nat → sS → (Nat → Int32) → (Nat → Int64) → Option (Int32 × sS)
  | 0, _, _, _, _ => none
  | k + 1, 0, S, L, M => if (S.1 0 24) = (0 : Int32) then ((f_Mod_fail1 k 0 S (upd (fun _ => 0) 1 (31 : Int32)) (fun _ => 0)).bind (fun (r5, T5) => some (((-1) : Int32), T5))) else (if okI (S.1 0 20) 32768 = true then (if (S.1 0 21) < ((32768 : Int32) - (S.1 0 20)) then (f_Mod_take k 2 (putI (putI S 0 24 ((S.1 0 24) - (1 : Int32))) 0 13 ((S.1 0 13) + (1 : Int32))) (upd L 1 (((putI (putI S 0 24 ((S.1 0 24) - (1 : Int32))) 0 13 ((S.1 0 13) + (1 : Int32))).2.1 7 (S.1 0 20 : Int32).toNatClampNeg) &&& (255 : Int32))) M) else (if (((putI (putI S 0 24 ((S.1 0 24) - (1 : Int32))) 0 13 ((S.1 0 13) + (1 : Int32))).2.1 7 (S.1 0 20 : Int32).toNatClampNeg) &&& (255 : Int32)) = (10 : Int32) then (f_Mod_take k 1 (putI (putI (putI S 0 24 ((S.1 0 24) - (1 : Int32))) 0 13 ((S.1 0 13) + (1 : Int32))) 0 21 ((S.1 0 21) - (1 : Int32))) (upd (upd L 1 (((putI (putI S 0 24 ((S.1 0 24) - (1 : Int32))) 0 13 ((S.1 0 13) + (1 : Int32))).2.1 7 (S.1 0 20 : Int32).toNatClampNeg) &&& (255 : Int32))) 101 ((S.1 0 23) + (1 : Int32))) M) else (f_Mod_take k 1 (putI (putI (putI S 0 24 ((S.1 0 24) - (1 : Int32))) 0 13 ((S.1 0 13) + (1 : Int32))) 0 21 ((S.1 0 21) - (1 : Int32))) (upd (upd L 1 (((putI (putI S 0 24 ((S.1 0 24) - (1 : Int32))) 0 13 ((S.1 0 13) + (1 : Int32))).2.1 7 (S.1 0 20 : Int32).toNatClampNeg) &&& (255 : Int32))) 101 (S.1 0 23)) M))) else none)
  | k + 1, 1, S, L, M => f_Mod_take k 2 (putI S 0 23 (L 101)) L M
  | k + 1, 2, S, L, M => some (L 1, (putI S 0 20 ((S.1 0 20) + (1 : Int32))))
  | _ + 1, _ + 3, _, _, _ => none
set_option maxHeartbeats 8000000 in
set_option maxRecDepth 100000 in
theorem w_Mod_take {p : Program} {l : Launch} {e : Env} {R : Room} {s : State} {m : MethodId} {args : Array Value} {below : List Frame} {meth : Method} {c : Code} {cells slots : Nat} {Q : State → Prop} {g : gG} {A : Nat → Prop} {ad : Nat → Nat} (hx : p.tables.exec = Jvm.exec) (hb : c.code = b_Mod_take) (hml : c.maxLocals = 2) (hown : s.vm.findClass "MacroMillModel" = some m.cls) (htt : ∀ w ∈ gt, w.before args s = true) (hK : va_K g.1 classes (tysG g) s) (hN : nw s) (hA : ∀ q : Nat, s.heap.size ≤ q → A q) (hRf : 2 ≤ R.frames) (hRl : 44 ≤ R.locals) (hRc : cells ≤ R.cells) (hRs : slots ≤ R.slots) (r : Int32) (S9 : sS)
    (kx_14 : ∀ (ls : Array Slot) (H : Heap) (locs : List Loc), va_P g.1 classes (Sw shM g ad S9) H → va_D A (Sw shM g ad S9) → va_S A s.heap H locs → W p l e R s m args below meth c H locs cells slots Q (F0 m 14 ls [.int r]))
    (kx_107 : ∀ (ls : Array Slot) (H : Heap) (locs : List Loc), va_P g.1 classes (Sw shM g ad S9) H → va_D A (Sw shM g ad S9) → va_S A s.heap H locs → W p l e R s m args below meth c H locs cells slots Q (F0 m 107 ls [.int r])) :
    ∀ k9 : Nat, (∀ (S : sS) (L : Nat → Int32) (M : Nat → Int64) (ls : Array Slot) (H : Heap) (locs : List Loc), f_Mod_take k9 0 S L M = some (r, S9) → lv_has ls 2 [(0, .ref (ad 0))] → va_P g.1 classes (Sw shM g ad S) H → va_D A (Sw shM g ad S) → va_S A s.heap H locs → W p l e R s m args below meth c H locs cells slots Q (F0 m 0 ls [])) ∧ (∀ (S : sS) (L : Nat → Int32) (M : Nat → Int64) (ls : Array Slot) (H : Heap) (locs : List Loc), f_Mod_take k9 1 S L M = some (r, S9) → lv_has ls 2 [(0, .ref (ad 0)), (1, .int (L 1))] → va_P g.1 classes (Sw shM g ad S) H → va_D A (Sw shM g ad S) → va_S A s.heap H locs → W p l e R s m args below meth c H locs cells slots Q (F0 m 93 ls [.int (L 101), .ref (ad 0)])) ∧ (∀ (S : sS) (L : Nat → Int32) (M : Nat → Int64) (ls : Array Slot) (H : Heap) (locs : List Loc), f_Mod_take k9 2 S L M = some (r, S9) → lv_has ls 2 [(0, .ref (ad 0)), (1, .int (L 1))] → va_P g.1 classes (Sw shM g ad S) H → va_D A (Sw shM g ad S) → va_S A s.heap H locs → W p l e R s m args below meth c H locs cells slots Q (F0 m 96 ls [])) := by
  intro k9
  induction k9 with
  | zero => exact ⟨(fun _ _ _ _ _ _ h => by simp [f_Mod_take] at h), (fun _ _ _ _ _ _ h => by simp [f_Mod_take] at h), (fun _ _ _ _ _ _ h => by simp [f_Mod_take] at h)⟩
  | succ k9 ih =>
    refine ⟨?_, ?_, ?_⟩
    · intro S L M ls H locs h hl hP hD hS
      simp only [f_Mod_take] at h
      refine lv_aload_n hx hb d_Mod_take_0 rfl (lv_at hl 0 rfl) ?_
      refine S_getI (h := shM) (C := "MacroMillModel") (T := F_Mod) hx hb htt in_Mod hown hK hP 0 24 rfl rfl rfl (by decide) (htt _ k_2260) (fun _ h9 => h9) d_Mod_take_1 ?_
      refine lv_if_ne (tgt := 15) hx hb d_Mod_take_4 (by decide) (fun hc1 => ?_) (fun hc1 => ?_)
      · rw [if_neg hc1] at h
        refine lv_aload_n hx hb d_Mod_take_15 rfl (lv_at hl 0 rfl) ?_
        refine lv_dup hx hb d_Mod_take_16 rfl ?_
        refine S_getI (h := shM) (C := "MacroMillModel") (T := F_Mod) hx hb htt in_Mod hown hK hP 0 24 rfl rfl rfl (by decide) (htt _ k_2260) (fun _ h9 => h9) d_Mod_take_17 ?_
        refine lv_iconst (v := 1) hx hb d_Mod_take_20 (by decide) ?_
        refine lv_isub hx hb d_Mod_take_21 ?_
        refine S_put (h := shM) (C := "MacroMillModel") (T := F_Mod) (v := (S.1 0 24) - (1 : Int32)) hx hb htt in_Mod t_Mod t_Mod_ok n_Mod hown hK hP hD hS 0 24 rfl rfl rfl (by decide) (htt _ k_2260) (fun _ h9 => h9) rfl rfl rfl d_Mod_take_22 (fun H locs hP hD hS => ?_)
        refine lv_aload_n hx hb d_Mod_take_25 rfl (lv_at hl 0 rfl) ?_
        refine lv_dup hx hb d_Mod_take_26 rfl ?_
        refine S_getI (h := shM) (C := "MacroMillModel") (T := F_Mod) hx hb htt in_Mod hown hK hP 0 13 rfl rfl rfl (by decide) (htt _ k_2249) (fun _ h9 => h9) d_Mod_take_27 ?_
        refine toI (y := S.1 0 13) rfl ?_
        show W _ _ _ _ _ _ _ _ _ _ _ _ _ _ _ (F0 _ 30 _ _)
        refine lv_iconst (v := 1) hx hb d_Mod_take_30 (by decide) ?_
        refine lv_iadd hx hb d_Mod_take_31 ?_
        refine S_put (h := shM) (C := "MacroMillModel") (T := F_Mod) (v := (S.1 0 13) + (1 : Int32)) hx hb htt in_Mod t_Mod t_Mod_ok n_Mod hown hK hP hD hS 0 13 rfl rfl rfl (by decide) (htt _ k_2249) (fun _ h9 => h9) rfl rfl rfl d_Mod_take_32 (fun H locs hP hD hS => ?_)
        refine lv_aload_n hx hb d_Mod_take_35 rfl (lv_at hl 0 rfl) ?_
        refine S_getR (h := shM) (C := "MacroMillModel") (T := F_Mod) hx hb htt in_Mod hown hK hP 0 19 rfl 8 rfl rfl (by decide) (htt _ k_2255) (fun _ h9 => h9) d_Mod_take_36 ?_
        refine lv_aload_n hx hb d_Mod_take_39 rfl (lv_at hl 0 rfl) ?_
        refine S_getI (h := shM) (C := "MacroMillModel") (T := F_Mod) hx hb htt in_Mod hown hK hP 0 20 rfl rfl rfl (by decide) (htt _ k_2256) (fun _ h9 => h9) d_Mod_take_40 ?_
        refine toI (y := S.1 0 20) rfl ?_
        obtain ⟨hv2, h⟩ := chk h
        refine S_bald (h := shM) (i := S.1 0 20) hx hb hK hP 7 rfl (okI_in hv2) d_Mod_take_43 ?_
        refine lv_sipush (v := 255) hx hb d_Mod_take_44 (by decide) ?_
        refine lv_iand hx hb d_Mod_take_47 ?_
        refine lv_istore_n (lv' := [(1, .int (((putI (putI S 0 24 ((S.1 0 24) - (1 : Int32))) 0 13 ((S.1 0 13) + (1 : Int32))).2.1 7 (S.1 0 20 : Int32).toNatClampNeg) &&& (255 : Int32))), (0, .ref (ad 0))]) hx hb d_Mod_take_48 rfl hl (by decide) rfl (fun ls hl => ?_)
        refine lv_ldc (v := 32768) hx hb hown (htt _ k_2229) d_Mod_take_49 ?_
        show W _ _ _ _ _ _ _ _ _ _ _ _ _ _ _ (F0 _ 51 _ _)
        refine lv_aload_n hx hb d_Mod_take_51 rfl (lv_at hl 1 rfl) ?_
        refine S_getI (h := shM) (C := "MacroMillModel") (T := F_Mod) hx hb htt in_Mod hown hK hP 0 20 rfl rfl rfl (by decide) (htt _ k_2256) (fun _ h9 => h9) d_Mod_take_52 ?_
        refine toI (y := S.1 0 20) rfl ?_
        refine lv_isub hx hb d_Mod_take_55 ?_
        refine lv_aload_n hx hb d_Mod_take_56 rfl (lv_at hl 1 rfl) ?_
        refine S_getI (h := shM) (C := "MacroMillModel") (T := F_Mod) hx hb htt in_Mod hown hK hP 0 21 rfl rfl rfl (by decide) (htt _ k_2257) (fun _ h9 => h9) d_Mod_take_57 ?_
        refine toI (y := S.1 0 21) rfl ?_
        refine lv_icmp_gt (tgt := 96) hx hb d_Mod_take_60 (by decide) (fun hc3 => ?_) (fun hc3 => ?_)
        · rw [if_pos hc3] at h
          exact (ih.2.2) (putI (putI S 0 24 ((S.1 0 24) - (1 : Int32))) 0 13 ((S.1 0 13) + (1 : Int32))) (upd L 1 (((putI (putI S 0 24 ((S.1 0 24) - (1 : Int32))) 0 13 ((S.1 0 13) + (1 : Int32))).2.1 7 (S.1 0 20 : Int32).toNatClampNeg) &&& (255 : Int32))) M ls H locs h (lv_sub hl [1, 0] rfl) hP hD hS
        · rw [if_neg hc3] at h
          refine lv_aload_n hx hb d_Mod_take_63 rfl (lv_at hl 1 rfl) ?_
          refine lv_dup hx hb d_Mod_take_64 rfl ?_
          refine S_getI (h := shM) (C := "MacroMillModel") (T := F_Mod) hx hb htt in_Mod hown hK hP 0 21 rfl rfl rfl (by decide) (htt _ k_2257) (fun _ h9 => h9) d_Mod_take_65 ?_
          refine toI (y := S.1 0 21) rfl ?_
          refine lv_iconst (v := 1) hx hb d_Mod_take_68 (by decide) ?_
          refine lv_isub hx hb d_Mod_take_69 ?_
          refine S_put (h := shM) (C := "MacroMillModel") (T := F_Mod) (v := (S.1 0 21) - (1 : Int32)) hx hb htt in_Mod t_Mod t_Mod_ok n_Mod hown hK hP hD hS 0 21 rfl rfl rfl (by decide) (htt _ k_2257) (fun _ h9 => h9) rfl rfl rfl d_Mod_take_70 (fun H locs hP hD hS => ?_)
          refine lv_aload_n hx hb d_Mod_take_73 rfl (lv_at hl 1 rfl) ?_
          show W _ _ _ _ _ _ _ _ _ _ _ _ _ _ _ (F0 _ 74 _ _)
          refine lv_iload_n hx hb d_Mod_take_74 rfl (lv_at hl 0 rfl) ?_
          refine lv_bipush (v := 10) hx hb d_Mod_take_75 (by decide) ?_
          refine lv_icmp_ne (tgt := 89) hx hb d_Mod_take_77 (by decide) (fun hc4 => ?_) (fun hc4 => ?_)
          · rw [if_neg hc4] at h
            refine lv_aload_n hx hb d_Mod_take_89 rfl (lv_at hl 1 rfl) ?_
            refine S_getI (h := shM) (C := "MacroMillModel") (T := F_Mod) hx hb htt in_Mod hown hK hP 0 23 rfl rfl rfl (by decide) (htt _ k_2259) (fun _ h9 => h9) d_Mod_take_90 ?_
            refine toI (y := S.1 0 23) rfl ?_
            exact (ih.2.1) (putI (putI (putI S 0 24 ((S.1 0 24) - (1 : Int32))) 0 13 ((S.1 0 13) + (1 : Int32))) 0 21 ((S.1 0 21) - (1 : Int32))) (upd (upd L 1 (((putI (putI S 0 24 ((S.1 0 24) - (1 : Int32))) 0 13 ((S.1 0 13) + (1 : Int32))).2.1 7 (S.1 0 20 : Int32).toNatClampNeg) &&& (255 : Int32))) 101 (S.1 0 23)) M ls H locs h (lv_sub hl [1, 0] rfl) hP hD hS
          · rw [if_pos hc4] at h
            refine lv_aload_n hx hb d_Mod_take_80 rfl (lv_at hl 1 rfl) ?_
            refine S_getI (h := shM) (C := "MacroMillModel") (T := F_Mod) hx hb htt in_Mod hown hK hP 0 23 rfl rfl rfl (by decide) (htt _ k_2259) (fun _ h9 => h9) d_Mod_take_81 ?_
            refine toI (y := S.1 0 23) rfl ?_
            refine lv_iconst (v := 1) hx hb d_Mod_take_84 (by decide) ?_
            refine lv_iadd hx hb d_Mod_take_85 ?_
            refine lv_goto (tgt := 93) hx hb d_Mod_take_86 (by decide) ?_
            exact (ih.2.1) (putI (putI (putI S 0 24 ((S.1 0 24) - (1 : Int32))) 0 13 ((S.1 0 13) + (1 : Int32))) 0 21 ((S.1 0 21) - (1 : Int32))) (upd (upd L 1 (((putI (putI S 0 24 ((S.1 0 24) - (1 : Int32))) 0 13 ((S.1 0 13) + (1 : Int32))).2.1 7 (S.1 0 20 : Int32).toNatClampNeg) &&& (255 : Int32))) 101 ((S.1 0 23) + (1 : Int32))) M ls H locs h (lv_sub hl [1, 0] rfl) hP hD hS
      · rw [if_pos hc1] at h
        refine lv_aload_n hx hb d_Mod_take_7 rfl (lv_at hl 0 rfl) ?_
        refine lv_bipush (v := 31) hx hb d_Mod_take_8 (by decide) ?_
        obtain ⟨⟨r5, T5⟩, hq5, h⟩ := Option.bind_eq_some_iff.mp h
        try dsimp only at h
        refine go_vS (As := [.ref (ad 0), .int 31]) (g := g) (A := A) (h := shM) hP hK hD hS hA hN (fun hp => va_runV (As := [.int 31]) (rest := []) ⟨hx, hb, hml, hown, htt⟩ (t_Mod_fail1 l g _ ad S (31 : Int32) k9 r5 T5 hq5) ⟨(cb_L htt k_2767 k_276 k_2764 hd_Mod_fail1 ⟨(Nat.le_trans (by decide +kernel) hRf), (Nat.le_trans (by decide +kernel) hRl)⟩), htt _ k_2766, htt _ k_138⟩ ⟨hp.1, S_recv hK hP 0 rfl rfl, hp.2⟩ rfl rfl hl.1 rfl (lv_room (Nat.le_of_ble_eq_true rfl)) d_Mod_take_10 ⟨hRc, hRs⟩) (fun Sn H locs hw9 hP hD hS => ?_)
        have e8 := hw9
        rw [e8] at hP hD
        refine W.widen (k := cells) (n := slots) (Nat.le_refl _) (Nat.le_refl _) ?_
        refine lv_iconst (v := (-1)) hx hb d_Mod_take_13 (by decide) ?_
        cases h
        exact kx_14 ls H locs hP hD hS
    · intro S L M ls H locs h hl hP hD hS
      simp only [f_Mod_take] at h
      refine S_put (h := shM) (C := "MacroMillModel") (T := F_Mod) (v := L 101) hx hb htt in_Mod t_Mod t_Mod_ok n_Mod hown hK hP hD hS 0 23 rfl rfl rfl (by decide) (htt _ k_2259) (fun _ h9 => h9) rfl rfl rfl d_Mod_take_93 (fun H locs hP hD hS => ?_)
      exact (ih.2.2) (putI S 0 23 (L 101)) L M ls H locs h (lv_sub hl [0, 1] rfl) hP hD hS
    · intro S L M ls H locs h hl hP hD hS
      simp only [f_Mod_take] at h
      refine lv_aload_n hx hb d_Mod_take_96 rfl (lv_at hl 0 rfl) ?_
      refine lv_dup hx hb d_Mod_take_97 rfl ?_
      refine S_getI (h := shM) (C := "MacroMillModel") (T := F_Mod) hx hb htt in_Mod hown hK hP 0 20 rfl rfl rfl (by decide) (htt _ k_2256) (fun _ h9 => h9) d_Mod_take_98 ?_
      refine lv_iconst (v := 1) hx hb d_Mod_take_101 (by decide) ?_
      refine lv_iadd hx hb d_Mod_take_102 ?_
      refine S_put (h := shM) (C := "MacroMillModel") (T := F_Mod) (v := (S.1 0 20) + (1 : Int32)) hx hb htt in_Mod t_Mod t_Mod_ok n_Mod hown hK hP hD hS 0 20 rfl rfl rfl (by decide) (htt _ k_2256) (fun _ h9 => h9) rfl rfl rfl d_Mod_take_103 (fun H locs hP hD hS => ?_)
      refine lv_iload_n hx hb d_Mod_take_106 rfl (lv_at hl 1 rfl) ?_
      cases h
      exact kx_107 ls H locs hP hD hS
abbrev rm_t_Mod_take : Room := { frames := 2, cells := 0, slots := 0, locals := 44 }
theorem t_Mod_take (l : Launch) (g : gG) (sz : Nat) (ad : Nat → Nat) (S : sS) (k : Nat) (r : Int32) (S9 : sS) (h : f_Mod_take k 0 S (fun _ => 0) (fun _ => 0) = some (r, S9)) : Ci l y_Mod_take b_Mod_take 2 rm_t_Mod_take g [.ref (ad 0)] (Sw shM g ad S) sz (fun r1 w => ∃ S1 : sS, w = Sw shM g ad S1 ∧ r1 = r ∧ S1 = S9) := by
  refine startI (by decide) (Nat.le_of_ble_eq_true rfl) ?_
  intro p e s m below meth c A ls hx hb hr hml hlocks hmn hown htt hN hA hP hK hD hS hl
  exact (w_Mod_take hx hb hml hown htt hK hN hA (by decide +kernel) (by decide +kernel) (by decide +kernel) (by decide +kernel) r S9 (fun ls H locs hP hD hS => fin_i (g := g) (ws := Sw shM g ad S9) hx hb hr hlocks (by decide +kernel) (by decide +kernel) hP hD hS ⟨_, rfl, rfl, rfl⟩ d_Mod_take_14) (fun ls H locs hP hD hS => fin_i (g := g) (ws := Sw shM g ad S9) hx hb hr hlocks (by decide +kernel) (by decide +kernel) hP hD hS ⟨_, rfl, rfl, rfl⟩ d_Mod_take_107) k).1 S (fun _ => 0) (fun _ => 0) ls _ _ h hl hP hD hS
def f_Mod_pass : Nat → Nat → sS → (Nat → Int32) → (Nat → Int64) → Option (Int32 × sS)
  | 0, _, _, _, _ => none
  | k + 1, 0, S, L, M => f_Mod_pass k 1 S (upd L 3 (0 : Int32)) M
  | k + 1, 1, S, L, M => if (L 1) ≤ (L 3) then (f_Mod_pass k 3 S L M) else (if (S.1 0 10) = (0 : Int32) then ((f_Mod_take k 0 S (fun _ => 0) (fun _ => 0)).bind (fun (r3, T3) => if (L 2) = (0 : Int32) then (f_Mod_pass k 2 T3 (upd L 4 r3) M) else (if (T3.1 0 10) = (0 : Int32) then (if okI (T3.1 0 31) 32768 = true then (f_Mod_pass k 2 (putI (putA T3 10 (T3.1 0 31 : Int32).toNatClampNeg (vp_nar .byte r3.toInt8.toInt32)) 0 31 ((T3.1 0 31) + (1 : Int32))) (upd L 4 r3) M) else none) else (f_Mod_pass k 2 T3 (upd L 4 r3) M)))) else (f_Mod_pass k 3 S L M))
  | k + 1, 2, S, L, M => f_Mod_pass k 1 S (upd L 3 ((L 3) + 1)) M
  | k + 1, 3, S, L, M => some ((0 : Int32), S)
  | _ + 1, _ + 4, _, _, _ => none
set_option maxHeartbeats 8000000 in
set_option maxRecDepth 100000 in
theorem w_Mod_pass {p : Program} {l : Launch} {e : Env} {R : Room} {s : State} {m : MethodId} {args : Array Value} {below : List Frame} {meth : Method} {c : Code} {cells slots : Nat} {Q : State → Prop} {g : gG} {A : Nat → Prop} {ad : Nat → Nat} (hx : p.tables.exec = Jvm.exec) (hb : c.code = b_Mod_pass) (hml : c.maxLocals = 5) (hown : s.vm.findClass "MacroMillModel" = some m.cls) (htt : ∀ w ∈ gt, w.before args s = true) (hK : va_K g.1 classes (tysG g) s) (hN : nw s) (hA : ∀ q : Nat, s.heap.size ≤ q → A q) (hRf : 3 ≤ R.frames) (hRl : 65 ≤ R.locals) (hRc : cells ≤ R.cells) (hRs : slots ≤ R.slots) (r : Int32) (S9 : sS)
    (kx_59 : ∀ (ls : Array Slot) (H : Heap) (locs : List Loc), va_P g.1 classes (Sw shM g ad S9) H → va_D A (Sw shM g ad S9) → va_S A s.heap H locs → W p l e R s m args below meth c H locs cells slots Q (F0 m 59 ls [])) :
    ∀ k9 : Nat, (∀ (S : sS) (L : Nat → Int32) (M : Nat → Int64) (ls : Array Slot) (H : Heap) (locs : List Loc), f_Mod_pass k9 0 S L M = some (r, S9) → lv_has ls 5 [(0, .ref (ad 0)), (1, .int (L 1)), (2, .int (L 2))] → va_P g.1 classes (Sw shM g ad S) H → va_D A (Sw shM g ad S) → va_S A s.heap H locs → W p l e R s m args below meth c H locs cells slots Q (F0 m 0 ls [])) ∧ (∀ (S : sS) (L : Nat → Int32) (M : Nat → Int64) (ls : Array Slot) (H : Heap) (locs : List Loc), f_Mod_pass k9 1 S L M = some (r, S9) → lv_has ls 5 [(0, .ref (ad 0)), (1, .int (L 1)), (2, .int (L 2)), (3, .int (L 3))] → va_P g.1 classes (Sw shM g ad S) H → va_D A (Sw shM g ad S) → va_S A s.heap H locs → W p l e R s m args below meth c H locs cells slots Q (F0 m 2 ls [])) ∧ (∀ (S : sS) (L : Nat → Int32) (M : Nat → Int64) (ls : Array Slot) (H : Heap) (locs : List Loc), f_Mod_pass k9 2 S L M = some (r, S9) → lv_has ls 5 [(0, .ref (ad 0)), (1, .int (L 1)), (2, .int (L 2)), (3, .int (L 3)), (4, .int (L 4))] → va_P g.1 classes (Sw shM g ad S) H → va_D A (Sw shM g ad S) → va_S A s.heap H locs → W p l e R s m args below meth c H locs cells slots Q (F0 m 53 ls [])) ∧ (∀ (S : sS) (L : Nat → Int32) (M : Nat → Int64) (ls : Array Slot) (H : Heap) (locs : List Loc), f_Mod_pass k9 3 S L M = some (r, S9) → lv_has ls 5 [(0, .ref (ad 0)), (1, .int (L 1)), (2, .int (L 2)), (3, .int (L 3))] → va_P g.1 classes (Sw shM g ad S) H → va_D A (Sw shM g ad S) → va_S A s.heap H locs → W p l e R s m args below meth c H locs cells slots Q (F0 m 59 ls [])) := by
  intro k9
  induction k9 with
  | zero => exact ⟨(fun _ _ _ _ _ _ h => by simp [f_Mod_pass] at h), (fun _ _ _ _ _ _ h => by simp [f_Mod_pass] at h), (fun _ _ _ _ _ _ h => by simp [f_Mod_pass] at h), (fun _ _ _ _ _ _ h => by simp [f_Mod_pass] at h)⟩
  | succ k9 ih =>
    refine ⟨?_, ?_, ?_, ?_⟩
    · intro S L M ls H locs h hl hP hD hS
      simp only [f_Mod_pass] at h
      refine lv_iconst (v := 0) hx hb d_Mod_pass_0 (by decide) ?_
      refine lv_istore_n (lv' := [(3, .int 0), (0, .ref (ad 0)), (1, .int (L 1)), (2, .int (L 2))]) hx hb d_Mod_pass_1 rfl hl (by decide) rfl (fun ls hl => ?_)
      exact (ih.2.1) S (upd L 3 (0 : Int32)) M ls H locs h (lv_sub hl [1, 2, 3, 0] rfl) hP hD hS
    · intro S L M ls H locs h hl hP hD hS
      simp only [f_Mod_pass] at h
      refine lv_iload_n hx hb d_Mod_pass_2 rfl (lv_at hl 3 rfl) ?_
      refine lv_iload_n hx hb d_Mod_pass_3 rfl (lv_at hl 1 rfl) ?_
      refine lv_icmp_ge (tgt := 59) hx hb d_Mod_pass_4 (by decide) (fun hc1 => ?_) (fun hc1 => ?_)
      · rw [if_pos hc1] at h
        exact (ih.2.2.2) S L M ls H locs h (lv_sub hl [0, 1, 2, 3] rfl) hP hD hS
      · rw [if_neg hc1] at h
        refine lv_aload_n hx hb d_Mod_pass_7 rfl (lv_at hl 0 rfl) ?_
        refine S_getI (h := shM) (C := "MacroMillModel") (T := F_Mod) hx hb htt in_Mod hown hK hP 0 10 rfl rfl rfl (by decide) (htt _ k_2246) (fun _ h9 => h9) d_Mod_pass_8 ?_
        refine lv_if_ne (tgt := 59) hx hb d_Mod_pass_11 (by decide) (fun hc2 => ?_) (fun hc2 => ?_)
        · rw [if_neg hc2] at h
          exact (ih.2.2.2) S L M ls H locs h (lv_sub hl [0, 1, 2, 3] rfl) hP hD hS
        · rw [if_pos hc2] at h
          refine lv_aload_n hx hb d_Mod_pass_14 rfl (lv_at hl 0 rfl) ?_
          obtain ⟨⟨r3, T3⟩, hq3, h⟩ := Option.bind_eq_some_iff.mp h
          try dsimp only at h
          refine go_iS (As := [.ref (ad 0)]) (g := g) (A := A) (h := shM) hP hK hD hS hA hN (fun hp => va_runV (As := []) (rest := []) ⟨hx, hb, hml, hown, htt⟩ (t_Mod_take l g _ ad S k9 r3 T3 hq3) ⟨(cb_L htt k_2763 k_276 k_2760 hd_Mod_take ⟨(Nat.le_trans (by decide +kernel) hRf), (Nat.le_trans (by decide +kernel) hRl)⟩), htt _ k_2762, htt _ k_137⟩ ⟨hp.1, S_recv hK hP 0 rfl rfl, hp.2⟩ rfl rfl hl.1 rfl (lv_room (Nat.le_of_ble_eq_true rfl)) d_Mod_pass_15 ⟨hRc, hRs⟩) (fun r0 Sn H locs hw9 hP hD hS => ?_)
          obtain ⟨e9, e8⟩ := hw9
          rw [e8] at hP hD
          refine W.widen (k := cells) (n := slots) (Nat.le_refl _) (Nat.le_refl _) ?_
          refine toI (y := r3) e9 ?_
          refine lv_istore (lv' := [(4, .int r3), (0, .ref (ad 0)), (1, .int (L 1)), (2, .int (L 2)), (3, .int (L 3))]) hx hb d_Mod_pass_18 hl (by decide) rfl (fun ls hl => ?_)
          refine lv_iload_n hx hb d_Mod_pass_20 rfl (lv_at hl 3 rfl) ?_
          refine lv_if_eq (tgt := 53) hx hb d_Mod_pass_21 (by decide) (fun hc4 => ?_) (fun hc4 => ?_)
          · rw [if_pos hc4] at h
            exact (ih.2.2.1) T3 (upd L 4 r3) M ls H locs h (lv_sub hl [1, 2, 3, 4, 0] rfl) hP hD hS
          · rw [if_neg hc4] at h
            refine lv_aload_n hx hb d_Mod_pass_24 rfl (lv_at hl 1 rfl) ?_
            refine S_getI (h := shM) (C := "MacroMillModel") (T := F_Mod) hx hb htt in_Mod hown hK hP 0 10 rfl rfl rfl (by decide) (htt _ k_2246) (fun _ h9 => h9) d_Mod_pass_25 ?_
            refine lv_if_ne (tgt := 53) hx hb d_Mod_pass_28 (by decide) (fun hc5 => ?_) (fun hc5 => ?_)
            · rw [if_neg hc5] at h
              exact (ih.2.2.1) T3 (upd L 4 r3) M ls H locs h (lv_sub hl [1, 2, 3, 4, 0] rfl) hP hD hS
            · rw [if_pos hc5] at h
              refine lv_aload_n hx hb d_Mod_pass_31 rfl (lv_at hl 1 rfl) ?_
              refine S_getR (h := shM) (C := "MacroMillModel") (T := F_Mod) hx hb htt in_Mod hown hK hP 0 30 rfl 11 rfl rfl (by decide) (htt _ k_2266) (fun _ h9 => h9) d_Mod_pass_32 ?_
              show W _ _ _ _ _ _ _ _ _ _ _ _ _ _ _ (F0 _ 35 _ _)
              refine lv_aload_n hx hb d_Mod_pass_35 rfl (lv_at hl 1 rfl) ?_
              refine S_getI (h := shM) (C := "MacroMillModel") (T := F_Mod) hx hb htt in_Mod hown hK hP 0 31 rfl rfl rfl (by decide) (htt _ k_2267) (fun _ h9 => h9) d_Mod_pass_36 ?_
              refine lv_iload hx hb d_Mod_pass_39 (lv_at hl 0 rfl) ?_
              refine lv_i2b (v := r3.toInt8.toInt32) hx hb d_Mod_pass_41 rfl ?_
              obtain ⟨hv6, h⟩ := chk h
              refine S_bast (h := shM) (i := T3.1 0 31) (v := r3.toInt8.toInt32) hx hb hK hP hD hS 10 rfl (okI_in hv6) d_Mod_pass_42 (fun H locs hP hD hS => ?_)
              refine lv_aload_n hx hb d_Mod_pass_43 rfl (lv_at hl 1 rfl) ?_
              refine lv_dup hx hb d_Mod_pass_44 rfl ?_
              refine S_getI (h := shM) (C := "MacroMillModel") (T := F_Mod) hx hb htt in_Mod hown hK hP 0 31 rfl rfl rfl (by decide) (htt _ k_2267) (fun _ h9 => h9) d_Mod_pass_45 ?_
              refine toI (y := T3.1 0 31) rfl ?_
              refine lv_iconst (v := 1) hx hb d_Mod_pass_48 (by decide) ?_
              refine lv_iadd hx hb d_Mod_pass_49 ?_
              refine S_put (h := shM) (C := "MacroMillModel") (T := F_Mod) (v := (T3.1 0 31) + (1 : Int32)) hx hb htt in_Mod t_Mod t_Mod_ok n_Mod hown hK hP hD hS 0 31 rfl rfl rfl (by decide) (htt _ k_2267) (fun _ h9 => h9) rfl rfl rfl d_Mod_pass_50 (fun H locs hP hD hS => ?_)
              exact (ih.2.2.1) (putI (putA T3 10 (T3.1 0 31 : Int32).toNatClampNeg (vp_nar .byte r3.toInt8.toInt32)) 0 31 ((T3.1 0 31) + (1 : Int32))) (upd L 4 r3) M ls H locs h (lv_sub hl [1, 2, 3, 4, 0] rfl) hP hD hS
    · intro S L M ls H locs h hl hP hD hS
      simp only [f_Mod_pass] at h
      refine lv_iinc (k := 3) (v := (L 3) + 1) (lv' := [(3, .int ((L 3) + 1)), (0, .ref (ad 0)), (1, .int (L 1)), (2, .int (L 2)), (4, .int (L 4))]) hx hb d_Mod_pass_53 hl rfl rfl (by decide) rfl (fun ls hl => ?_)
      refine lv_goto (tgt := 2) hx hb d_Mod_pass_56 (by decide) ?_
      exact (ih.2.1) S (upd L 3 ((L 3) + 1)) M ls H locs h (lv_sub hl [1, 2, 3, 0] rfl) hP hD hS
    · intro S L M ls H locs h hl hP hD hS
      simp only [f_Mod_pass] at h
      cases h
      exact kx_59 ls H locs hP hD hS
abbrev rm_t_Mod_pass : Room := { frames := 3, cells := 0, slots := 0, locals := 65 }
theorem t_Mod_pass (l : Launch) (g : gG) (sz : Nat) (ad : Nat → Nat) (S : sS) (v1 : Int32) (v2 : Int32) (k : Nat) (r : Int32) (S9 : sS) (h : f_Mod_pass k 0 S (upd (upd (fun _ => 0) 1 v1) 2 v2) (fun _ => 0) = some (r, S9)) : Cv l y_Mod_pass b_Mod_pass 5 rm_t_Mod_pass g [.ref (ad 0), .int v1, .int v2] (Sw shM g ad S) sz (fun w => ∃ S1 : sS, w = Sw shM g ad S1 ∧ S1 = S9) := by
  refine startV (by decide) (Nat.le_of_ble_eq_true rfl) ?_
  intro p e s m below meth c A ls hx hb hr hml hlocks hmn hown htt hN hA hP hK hD hS hl
  exact (w_Mod_pass hx hb hml hown htt hK hN hA (by decide +kernel) (by decide +kernel) (by decide +kernel) (by decide +kernel) r S9 (fun ls H locs hP hD hS => fin_v (g := g) (ws := Sw shM g ad S9) hx hb hr hlocks (by decide +kernel) (by decide +kernel) hP hD hS ⟨_, rfl, rfl⟩ d_Mod_pass_59) k).1 S (upd (upd (fun _ => 0) 1 v1) 2 v2) (fun _ => 0) ls _ _ h hl hP hD hS
def f_Mod_readQuoted : Nat → Nat → sS → (Nat → Int32) → (Nat → Int64) → Option (Int32 × sS)
  | 0, _, _, _, _ => none
  | k + 1, 0, S, L, M => (f_Mod_pass k 0 S (upd (upd (fun _ => 0) 1 (S.1 0 26 : Int32)) 2 (0 : Int32)) (fun _ => 0)).bind (fun (r1, T1) => f_Mod_readQuoted k 1 T1 (upd (upd L 1 (S.1 0 23)) 2 (1 : Int32)) M)
  | k + 1, 1, S, L, M => if (L 2) ≤ (0 : Int32) then (f_Mod_readQuoted k 3 S L M) else (if (S.1 0 10) = (0 : Int32) then ((f_Mod_peek k 0 S (upd (fun _ => 0) 1 (0 : Int32)) (fun _ => 0)).bind (fun (r3, T3) => if (0 : Int32) ≤ r3 then ((f_Mod_isAhead 9 4 k 0 T3 (upd (fun _ => 0) 2 (T3.1 0 28 : Int32)) (fun _ => 0)).bind (fun (r5, T5) => if r5 = (0 : Int32) then ((f_Mod_isAhead 8 4 k 0 T5 (upd (fun _ => 0) 2 (T5.1 0 26 : Int32)) (fun _ => 0)).bind (fun (r7, T7) => if r7 = (0 : Int32) then ((f_Mod_pass k 0 T7 (upd (upd (fun _ => 0) 1 (1 : Int32)) 2 (1 : Int32)) (fun _ => 0)).bind (fun (r9, T9) => f_Mod_readQuoted k 1 T9 L M)) else ((f_Mod_pass k 0 T7 (upd (upd (fun _ => 0) 1 (T7.1 0 26 : Int32)) 2 (1 : Int32)) (fun _ => 0)).bind (fun (r10, T10) => f_Mod_readQuoted k 1 T10 (upd L 2 ((L 2) + 1)) M)))) else (if ((L 2) + (-1)) ≤ (0 : Int32) then (f_Mod_readQuoted k 2 T5 (upd (upd (upd L 2 ((L 2) + (-1))) 102 (0 : Int32)) 101 (T5.1 0 28)) M) else (f_Mod_readQuoted k 2 T5 (upd (upd (upd L 2 ((L 2) + (-1))) 102 (1 : Int32)) 101 (T5.1 0 28)) M)))) else ((f_Mod_fail k 0 T3 (upd (upd (upd (fun _ => 0) 1 (32 : Int32)) 2 (T3.1 0 22 : Int32)) 3 (L 1 : Int32)) (fun _ => 0)).bind (fun (r12, T12) => f_Mod_readQuoted k 1 T12 L M)))) else (f_Mod_readQuoted k 3 S L M))
  | k + 1, 2, S, L, M => (f_Mod_pass k 0 S (upd (upd (fun _ => 0) 1 (L 101 : Int32)) 2 (L 102 : Int32)) (fun _ => 0)).bind (fun (r1, T1) => f_Mod_readQuoted k 1 T1 L M)
  | k + 1, 3, S, L, M => some ((0 : Int32), S)
  | _ + 1, _ + 4, _, _, _ => none
set_option maxHeartbeats 8000000 in
set_option maxRecDepth 100000 in
theorem w_Mod_readQuoted {p : Program} {l : Launch} {e : Env} {R : Room} {s : State} {m : MethodId} {args : Array Value} {below : List Frame} {meth : Method} {c : Code} {cells slots : Nat} {Q : State → Prop} {g : gG} {A : Nat → Prop} {ad : Nat → Nat} (hx : p.tables.exec = Jvm.exec) (hb : c.code = b_Mod_readQuoted) (hml : c.maxLocals = 3) (hown : s.vm.findClass "MacroMillModel" = some m.cls) (htt : ∀ w ∈ gt, w.before args s = true) (hK : va_K g.1 classes (tysG g) s) (hN : nw s) (hA : ∀ q : Nat, s.heap.size ≤ q → A q) (hRf : 4 ≤ R.frames) (hRl : 89 ≤ R.locals) (hRc : cells ≤ R.cells) (hRs : slots ≤ R.slots) (r : Int32) (S9 : sS)
    (kx_126 : ∀ (ls : Array Slot) (H : Heap) (locs : List Loc), va_P g.1 classes (Sw shM g ad S9) H → va_D A (Sw shM g ad S9) → va_S A s.heap H locs → W p l e R s m args below meth c H locs cells slots Q (F0 m 126 ls [])) :
    ∀ k9 : Nat, (∀ (S : sS) (L : Nat → Int32) (M : Nat → Int64) (ls : Array Slot) (H : Heap) (locs : List Loc), f_Mod_readQuoted k9 0 S L M = some (r, S9) → lv_has ls 3 [(0, .ref (ad 0))] → va_P g.1 classes (Sw shM g ad S) H → va_D A (Sw shM g ad S) → va_S A s.heap H locs → W p l e R s m args below meth c H locs cells slots Q (F0 m 0 ls [])) ∧ (∀ (S : sS) (L : Nat → Int32) (M : Nat → Int64) (ls : Array Slot) (H : Heap) (locs : List Loc), f_Mod_readQuoted k9 1 S L M = some (r, S9) → lv_has ls 3 [(0, .ref (ad 0)), (1, .int (L 1)), (2, .int (L 2))] → va_P g.1 classes (Sw shM g ad S) H → va_D A (Sw shM g ad S) → va_S A s.heap H locs → W p l e R s m args below meth c H locs cells slots Q (F0 m 16 ls [])) ∧ (∀ (S : sS) (L : Nat → Int32) (M : Nat → Int64) (ls : Array Slot) (H : Heap) (locs : List Loc), f_Mod_readQuoted k9 2 S L M = some (r, S9) → lv_has ls 3 [(0, .ref (ad 0)), (1, .int (L 1)), (2, .int (L 2))] → va_P g.1 classes (Sw shM g ad S) H → va_D A (Sw shM g ad S) → va_S A s.heap H locs → W p l e R s m args below meth c H locs cells slots Q (F0 m 81 ls [.int (L 102), .int (L 101), .ref (ad 0)])) ∧ (∀ (S : sS) (L : Nat → Int32) (M : Nat → Int64) (ls : Array Slot) (H : Heap) (locs : List Loc), f_Mod_readQuoted k9 3 S L M = some (r, S9) → lv_has ls 3 [(0, .ref (ad 0)), (1, .int (L 1)), (2, .int (L 2))] → va_P g.1 classes (Sw shM g ad S) H → va_D A (Sw shM g ad S) → va_S A s.heap H locs → W p l e R s m args below meth c H locs cells slots Q (F0 m 126 ls [])) := by
  intro k9
  induction k9 with
  | zero => exact ⟨(fun _ _ _ _ _ _ h => by simp [f_Mod_readQuoted] at h), (fun _ _ _ _ _ _ h => by simp [f_Mod_readQuoted] at h), (fun _ _ _ _ _ _ h => by simp [f_Mod_readQuoted] at h), (fun _ _ _ _ _ _ h => by simp [f_Mod_readQuoted] at h)⟩
  | succ k9 ih =>
    refine ⟨?_, ?_, ?_, ?_⟩
    · intro S L M ls H locs h hl hP hD hS
      simp only [f_Mod_readQuoted] at h
      refine lv_aload_n hx hb d_Mod_readQuoted_0 rfl (lv_at hl 0 rfl) ?_
      refine S_getI (h := shM) (C := "MacroMillModel") (T := F_Mod) hx hb htt in_Mod hown hK hP 0 23 rfl rfl rfl (by decide) (htt _ k_2259) (fun _ h9 => h9) d_Mod_readQuoted_1 ?_
      refine lv_istore_n (lv' := [(1, .int (S.1 0 23)), (0, .ref (ad 0))]) hx hb d_Mod_readQuoted_4 rfl hl (by decide) rfl (fun ls hl => ?_)
      refine lv_aload_n hx hb d_Mod_readQuoted_5 rfl (lv_at hl 1 rfl) ?_
      refine lv_aload_n hx hb d_Mod_readQuoted_6 rfl (lv_at hl 1 rfl) ?_
      refine S_getI (h := shM) (C := "MacroMillModel") (T := F_Mod) hx hb htt in_Mod hown hK hP 0 26 rfl rfl rfl (by decide) (htt _ k_2262) (fun _ h9 => h9) d_Mod_readQuoted_7 ?_
      refine lv_iconst (v := 0) hx hb d_Mod_readQuoted_10 (by decide) ?_
      obtain ⟨⟨r1, T1⟩, hq1, h⟩ := Option.bind_eq_some_iff.mp h
      try dsimp only at h
      refine go_vS (As := [.ref (ad 0), .int (S.1 0 26), .int 0]) (g := g) (A := A) (h := shM) hP hK hD hS hA hN (fun hp => va_runV (As := [.int (S.1 0 26), .int 0]) (rest := []) ⟨hx, hb, hml, hown, htt⟩ (t_Mod_pass l g _ ad S (S.1 0 26 : Int32) (0 : Int32) k9 r1 T1 hq1) ⟨(cb_L htt k_2759 k_276 k_2756 hd_Mod_pass ⟨(Nat.le_trans (by decide +kernel) hRf), (Nat.le_trans (by decide +kernel) hRl)⟩), htt _ k_2758, htt _ k_136⟩ ⟨hp.1, S_recv hK hP 0 rfl rfl, hp.2⟩ rfl rfl hl.1 rfl (lv_room (Nat.le_of_ble_eq_true rfl)) d_Mod_readQuoted_11 ⟨hRc, hRs⟩) (fun Sn H locs hw9 hP hD hS => ?_)
      have e8 := hw9
      rw [e8] at hP hD
      refine W.widen (k := cells) (n := slots) (Nat.le_refl _) (Nat.le_refl _) ?_
      refine lv_iconst (v := 1) hx hb d_Mod_readQuoted_14 (by decide) ?_
      refine lv_istore_n (lv' := [(2, .int 1), (1, .int (S.1 0 23)), (0, .ref (ad 0))]) hx hb d_Mod_readQuoted_15 rfl hl (by decide) rfl (fun ls hl => ?_)
      exact (ih.2.1) T1 (upd (upd L 1 (S.1 0 23)) 2 (1 : Int32)) M ls H locs h (lv_sub hl [2, 1, 0] rfl) hP hD hS
    · intro S L M ls H locs h hl hP hD hS
      simp only [f_Mod_readQuoted] at h
      refine lv_iload_n hx hb d_Mod_readQuoted_16 rfl (lv_at hl 2 rfl) ?_
      refine lv_if_le (tgt := 126) hx hb d_Mod_readQuoted_17 (by decide) (fun hc1 => ?_) (fun hc1 => ?_)
      · rw [if_pos hc1] at h
        exact (ih.2.2.2) S L M ls H locs h (lv_sub hl [0, 1, 2] rfl) hP hD hS
      · rw [if_neg hc1] at h
        refine lv_aload_n hx hb d_Mod_readQuoted_20 rfl (lv_at hl 0 rfl) ?_
        refine S_getI (h := shM) (C := "MacroMillModel") (T := F_Mod) hx hb htt in_Mod hown hK hP 0 10 rfl rfl rfl (by decide) (htt _ k_2246) (fun _ h9 => h9) d_Mod_readQuoted_21 ?_
        refine lv_if_ne (tgt := 126) hx hb d_Mod_readQuoted_24 (by decide) (fun hc2 => ?_) (fun hc2 => ?_)
        · rw [if_neg hc2] at h
          exact (ih.2.2.2) S L M ls H locs h (lv_sub hl [0, 1, 2] rfl) hP hD hS
        · rw [if_pos hc2] at h
          refine lv_aload_n hx hb d_Mod_readQuoted_27 rfl (lv_at hl 0 rfl) ?_
          refine lv_iconst (v := 0) hx hb d_Mod_readQuoted_28 (by decide) ?_
          obtain ⟨⟨r3, T3⟩, hq3, h⟩ := Option.bind_eq_some_iff.mp h
          try dsimp only at h
          refine go_iS (As := [.ref (ad 0), .int 0]) (g := g) (A := A) (h := shM) hP hK hD hS hA hN (fun hp => va_runV (As := [.int 0]) (rest := []) ⟨hx, hb, hml, hown, htt⟩ (t_Mod_peek l g _ ad S (0 : Int32) k9 r3 T3 hq3) ⟨(cb_L htt k_2747 k_276 k_2744 hd_Mod_peek ⟨(Nat.le_trans (by decide +kernel) hRf), (Nat.le_trans (by decide +kernel) hRl)⟩), htt _ k_2746, htt _ k_133⟩ ⟨hp.1, S_recv hK hP 0 rfl rfl, hp.2⟩ rfl rfl hl.1 rfl (lv_room (Nat.le_of_ble_eq_true rfl)) d_Mod_readQuoted_29 ⟨hRc, hRs⟩) (fun r0 Sn H locs hw9 hP hD hS => ?_)
          obtain ⟨e9, e8⟩ := hw9
          rw [e8] at hP hD
          refine W.widen (k := cells) (n := slots) (Nat.le_refl _) (Nat.le_refl _) ?_
          refine toI (y := r3) e9 ?_
          refine lv_if_ge (tgt := 49) hx hb d_Mod_readQuoted_32 (by decide) (fun hc4 => ?_) (fun hc4 => ?_)
          · rw [if_pos hc4] at h
            refine lv_aload_n hx hb d_Mod_readQuoted_49 rfl (lv_at hl 0 rfl) ?_
            refine lv_aload_n hx hb d_Mod_readQuoted_50 rfl (lv_at hl 0 rfl) ?_
            refine S_getR (h := shM) (C := "MacroMillModel") (T := F_Mod) hx hb htt in_Mod hown hK hP 0 27 rfl 10 rfl rfl (by decide) (htt _ k_2263) (fun _ h9 => h9) d_Mod_readQuoted_51 ?_
            refine lv_aload_n hx hb d_Mod_readQuoted_54 rfl (lv_at hl 0 rfl) ?_
            refine S_getI (h := shM) (C := "MacroMillModel") (T := F_Mod) hx hb htt in_Mod hown hK hP 0 28 rfl rfl rfl (by decide) (htt _ k_2264) (fun _ h9 => h9) d_Mod_readQuoted_55 ?_
            obtain ⟨⟨r5, T5⟩, hq5, h⟩ := Option.bind_eq_some_iff.mp h
            try dsimp only at h
            refine go_iS (As := [.ref (ad 0), .ref (ad 10), .int (T3.1 0 28)]) (g := g) (A := A) (h := shM) hP hK hD hS hA hN (fun hp => va_runV (As := [.ref (ad 10), .int (T3.1 0 28)]) (rest := []) ⟨hx, hb, hml, hown, htt⟩ (t_Mod_isAhead l g _ ad T3 9 4 (T3.1 0 28 : Int32) rfl k9 r5 T5 hq5) ⟨(cb_L htt k_2751 k_276 k_2748 hd_Mod_isAhead ⟨(Nat.le_trans (by decide +kernel) hRf), (Nat.le_trans (by decide +kernel) hRl)⟩), htt _ k_2750, htt _ k_134⟩ ⟨hp.1, S_recv hK hP 0 rfl rfl, hp.2⟩ rfl rfl hl.1 rfl (lv_room (Nat.le_of_ble_eq_true rfl)) d_Mod_readQuoted_58 ⟨hRc, hRs⟩) (fun r0 Sn H locs hw9 hP hD hS => ?_)
            obtain ⟨e9, e8⟩ := hw9
            rw [e8] at hP hD
            refine W.widen (k := cells) (n := slots) (Nat.le_refl _) (Nat.le_refl _) ?_
            refine toI (y := r5) e9 ?_
            refine lv_if_eq (tgt := 87) hx hb d_Mod_readQuoted_61 (by decide) (fun hc6 => ?_) (fun hc6 => ?_)
            · rw [if_pos hc6] at h
              refine lv_aload_n hx hb d_Mod_readQuoted_87 rfl (lv_at hl 0 rfl) ?_
              show W _ _ _ _ _ _ _ _ _ _ _ _ _ _ _ (F0 _ 88 _ _)
              refine lv_aload_n hx hb d_Mod_readQuoted_88 rfl (lv_at hl 0 rfl) ?_
              refine S_getR (h := shM) (C := "MacroMillModel") (T := F_Mod) hx hb htt in_Mod hown hK hP 0 25 rfl 9 rfl rfl (by decide) (htt _ k_2261) (fun _ h9 => h9) d_Mod_readQuoted_89 ?_
              refine lv_aload_n hx hb d_Mod_readQuoted_92 rfl (lv_at hl 0 rfl) ?_
              refine S_getI (h := shM) (C := "MacroMillModel") (T := F_Mod) hx hb htt in_Mod hown hK hP 0 26 rfl rfl rfl (by decide) (htt _ k_2262) (fun _ h9 => h9) d_Mod_readQuoted_93 ?_
              obtain ⟨⟨r7, T7⟩, hq7, h⟩ := Option.bind_eq_some_iff.mp h
              try dsimp only at h
              refine go_iS (As := [.ref (ad 0), .ref (ad 9), .int (T5.1 0 26)]) (g := g) (A := A) (h := shM) hP hK hD hS hA hN (fun hp => va_runV (As := [.ref (ad 9), .int (T5.1 0 26)]) (rest := []) ⟨hx, hb, hml, hown, htt⟩ (t_Mod_isAhead l g _ ad T5 8 4 (T5.1 0 26 : Int32) rfl k9 r7 T7 hq7) ⟨(cb_L htt k_2751 k_276 k_2748 hd_Mod_isAhead ⟨(Nat.le_trans (by decide +kernel) hRf), (Nat.le_trans (by decide +kernel) hRl)⟩), htt _ k_2750, htt _ k_134⟩ ⟨hp.1, S_recv hK hP 0 rfl rfl, hp.2⟩ rfl rfl hl.1 rfl (lv_room (Nat.le_of_ble_eq_true rfl)) d_Mod_readQuoted_96 ⟨hRc, hRs⟩) (fun r0 Sn H locs hw9 hP hD hS => ?_)
              obtain ⟨e9, e8⟩ := hw9
              rw [e8] at hP hD
              refine W.widen (k := cells) (n := slots) (Nat.le_refl _) (Nat.le_refl _) ?_
              refine toI (y := r7) e9 ?_
              refine lv_if_eq (tgt := 117) hx hb d_Mod_readQuoted_99 (by decide) (fun hc8 => ?_) (fun hc8 => ?_)
              · rw [if_pos hc8] at h
                refine lv_aload_n hx hb d_Mod_readQuoted_117 rfl (lv_at hl 0 rfl) ?_
                refine lv_iconst (v := 1) hx hb d_Mod_readQuoted_118 (by decide) ?_
                refine lv_iconst (v := 1) hx hb d_Mod_readQuoted_119 (by decide) ?_
                obtain ⟨⟨r9, T9⟩, hq9, h⟩ := Option.bind_eq_some_iff.mp h
                try dsimp only at h
                refine go_vS (As := [.ref (ad 0), .int 1, .int 1]) (g := g) (A := A) (h := shM) hP hK hD hS hA hN (fun hp => va_runV (As := [.int 1, .int 1]) (rest := []) ⟨hx, hb, hml, hown, htt⟩ (t_Mod_pass l g _ ad T7 (1 : Int32) (1 : Int32) k9 r9 T9 hq9) ⟨(cb_L htt k_2759 k_276 k_2756 hd_Mod_pass ⟨(Nat.le_trans (by decide +kernel) hRf), (Nat.le_trans (by decide +kernel) hRl)⟩), htt _ k_2758, htt _ k_136⟩ ⟨hp.1, S_recv hK hP 0 rfl rfl, hp.2⟩ rfl rfl hl.1 rfl (lv_room (Nat.le_of_ble_eq_true rfl)) d_Mod_readQuoted_120 ⟨hRc, hRs⟩) (fun Sn H locs hw9 hP hD hS => ?_)
                have e8 := hw9
                rw [e8] at hP hD
                refine W.widen (k := cells) (n := slots) (Nat.le_refl _) (Nat.le_refl _) ?_
                refine lv_goto (tgt := 16) hx hb d_Mod_readQuoted_123 (by decide) ?_
                exact (ih.2.1) T9 L M ls H locs h (lv_sub hl [0, 1, 2] rfl) hP hD hS
              · rw [if_neg hc8] at h
                refine lv_iinc (k := 2) (v := (L 2) + 1) (lv' := [(2, .int ((L 2) + 1)), (0, .ref (ad 0)), (1, .int (L 1))]) hx hb d_Mod_readQuoted_102 hl rfl rfl (by decide) rfl (fun ls hl => ?_)
                refine lv_aload_n hx hb d_Mod_readQuoted_105 rfl (lv_at hl 1 rfl) ?_
                refine lv_aload_n hx hb d_Mod_readQuoted_106 rfl (lv_at hl 1 rfl) ?_
                refine S_getI (h := shM) (C := "MacroMillModel") (T := F_Mod) hx hb htt in_Mod hown hK hP 0 26 rfl rfl rfl (by decide) (htt _ k_2262) (fun _ h9 => h9) d_Mod_readQuoted_107 ?_
                refine lv_iconst (v := 1) hx hb d_Mod_readQuoted_110 (by decide) ?_
                obtain ⟨⟨r10, T10⟩, hq10, h⟩ := Option.bind_eq_some_iff.mp h
                try dsimp only at h
                refine go_vS (As := [.ref (ad 0), .int (T7.1 0 26), .int 1]) (g := g) (A := A) (h := shM) hP hK hD hS hA hN (fun hp => va_runV (As := [.int (T7.1 0 26), .int 1]) (rest := []) ⟨hx, hb, hml, hown, htt⟩ (t_Mod_pass l g _ ad T7 (T7.1 0 26 : Int32) (1 : Int32) k9 r10 T10 hq10) ⟨(cb_L htt k_2759 k_276 k_2756 hd_Mod_pass ⟨(Nat.le_trans (by decide +kernel) hRf), (Nat.le_trans (by decide +kernel) hRl)⟩), htt _ k_2758, htt _ k_136⟩ ⟨hp.1, S_recv hK hP 0 rfl rfl, hp.2⟩ rfl rfl hl.1 rfl (lv_room (Nat.le_of_ble_eq_true rfl)) d_Mod_readQuoted_111 ⟨hRc, hRs⟩) (fun Sn H locs hw9 hP hD hS => ?_)
                have e8 := hw9
                rw [e8] at hP hD
                refine W.widen (k := cells) (n := slots) (Nat.le_refl _) (Nat.le_refl _) ?_
                refine lv_goto (tgt := 16) hx hb d_Mod_readQuoted_114 (by decide) ?_
                exact (ih.2.1) T10 (upd L 2 ((L 2) + 1)) M ls H locs h (lv_sub hl [1, 2, 0] rfl) hP hD hS
            · rw [if_neg hc6] at h
              refine lv_iinc (k := 2) (v := (L 2) + (-1)) (lv' := [(2, .int ((L 2) + (-1))), (0, .ref (ad 0)), (1, .int (L 1))]) hx hb d_Mod_readQuoted_64 hl rfl rfl (by decide) rfl (fun ls hl => ?_)
              show W _ _ _ _ _ _ _ _ _ _ _ _ _ _ _ (F0 _ 67 _ _)
              refine lv_aload_n hx hb d_Mod_readQuoted_67 rfl (lv_at hl 1 rfl) ?_
              refine lv_aload_n hx hb d_Mod_readQuoted_68 rfl (lv_at hl 1 rfl) ?_
              refine S_getI (h := shM) (C := "MacroMillModel") (T := F_Mod) hx hb htt in_Mod hown hK hP 0 28 rfl rfl rfl (by decide) (htt _ k_2264) (fun _ h9 => h9) d_Mod_readQuoted_69 ?_
              refine lv_iload_n hx hb d_Mod_readQuoted_72 rfl (lv_at hl 0 rfl) ?_
              refine lv_if_le (tgt := 80) hx hb d_Mod_readQuoted_73 (by decide) (fun hc11 => ?_) (fun hc11 => ?_)
              · rw [if_pos hc11] at h
                refine lv_iconst (v := 0) hx hb d_Mod_readQuoted_80 (by decide) ?_
                exact (ih.2.2.1) T5 (upd (upd (upd L 2 ((L 2) + (-1))) 102 (0 : Int32)) 101 (T5.1 0 28)) M ls H locs h (lv_sub hl [1, 2, 0] rfl) hP hD hS
              · rw [if_neg hc11] at h
                refine lv_iconst (v := 1) hx hb d_Mod_readQuoted_76 (by decide) ?_
                refine lv_goto (tgt := 81) hx hb d_Mod_readQuoted_77 (by decide) ?_
                exact (ih.2.2.1) T5 (upd (upd (upd L 2 ((L 2) + (-1))) 102 (1 : Int32)) 101 (T5.1 0 28)) M ls H locs h (lv_sub hl [1, 2, 0] rfl) hP hD hS
          · rw [if_neg hc4] at h
            refine lv_aload_n hx hb d_Mod_readQuoted_35 rfl (lv_at hl 0 rfl) ?_
            refine lv_bipush (v := 32) hx hb d_Mod_readQuoted_36 (by decide) ?_
            refine lv_aload_n hx hb d_Mod_readQuoted_38 rfl (lv_at hl 0 rfl) ?_
            refine S_getI (h := shM) (C := "MacroMillModel") (T := F_Mod) hx hb htt in_Mod hown hK hP 0 22 rfl rfl rfl (by decide) (htt _ k_2258) (fun _ h9 => h9) d_Mod_readQuoted_39 ?_
            refine lv_iload_n hx hb d_Mod_readQuoted_42 rfl (lv_at hl 1 rfl) ?_
            obtain ⟨⟨r12, T12⟩, hq12, h⟩ := Option.bind_eq_some_iff.mp h
            try dsimp only at h
            refine go_vS (As := [.ref (ad 0), .int 32, .int (T3.1 0 22), .int (L 1)]) (g := g) (A := A) (h := shM) hP hK hD hS hA hN (fun hp => va_runV (As := [.int 32, .int (T3.1 0 22), .int (L 1)]) (rest := []) ⟨hx, hb, hml, hown, htt⟩ (t_Mod_fail l g _ ad T3 (32 : Int32) (T3.1 0 22 : Int32) (L 1 : Int32) k9 r12 T12 hq12) ⟨(cb_L htt k_2771 k_276 k_2768 hd_Mod_fail ⟨(Nat.le_trans (by decide +kernel) hRf), (Nat.le_trans (by decide +kernel) hRl)⟩), htt _ k_2770, htt _ k_139⟩ ⟨hp.1, S_recv hK hP 0 rfl rfl, hp.2⟩ rfl rfl hl.1 rfl (lv_room (Nat.le_of_ble_eq_true rfl)) d_Mod_readQuoted_43 ⟨hRc, hRs⟩) (fun Sn H locs hw9 hP hD hS => ?_)
            have e8 := hw9
            rw [e8] at hP hD
            refine W.widen (k := cells) (n := slots) (Nat.le_refl _) (Nat.le_refl _) ?_
            refine lv_goto (tgt := 16) hx hb d_Mod_readQuoted_46 (by decide) ?_
            exact (ih.2.1) T12 L M ls H locs h (lv_sub hl [0, 1, 2] rfl) hP hD hS
    · intro S L M ls H locs h hl hP hD hS
      simp only [f_Mod_readQuoted] at h
      obtain ⟨⟨r1, T1⟩, hq1, h⟩ := Option.bind_eq_some_iff.mp h
      try dsimp only at h
      refine go_vS (As := [.ref (ad 0), .int (L 101), .int (L 102)]) (g := g) (A := A) (h := shM) hP hK hD hS hA hN (fun hp => va_runV (As := [.int (L 101), .int (L 102)]) (rest := []) ⟨hx, hb, hml, hown, htt⟩ (t_Mod_pass l g _ ad S (L 101 : Int32) (L 102 : Int32) k9 r1 T1 hq1) ⟨(cb_L htt k_2759 k_276 k_2756 hd_Mod_pass ⟨(Nat.le_trans (by decide +kernel) hRf), (Nat.le_trans (by decide +kernel) hRl)⟩), htt _ k_2758, htt _ k_136⟩ ⟨hp.1, S_recv hK hP 0 rfl rfl, hp.2⟩ rfl rfl hl.1 rfl (lv_room (Nat.le_of_ble_eq_true rfl)) d_Mod_readQuoted_81 ⟨hRc, hRs⟩) (fun Sn H locs hw9 hP hD hS => ?_)
      have e8 := hw9
      rw [e8] at hP hD
      refine W.widen (k := cells) (n := slots) (Nat.le_refl _) (Nat.le_refl _) ?_
      refine lv_goto (tgt := 16) hx hb d_Mod_readQuoted_84 (by decide) ?_
      exact (ih.2.1) T1 L M ls H locs h (lv_sub hl [0, 1, 2] rfl) hP hD hS
    · intro S L M ls H locs h hl hP hD hS
      simp only [f_Mod_readQuoted] at h
      cases h
      exact kx_126 ls H locs hP hD hS
abbrev rm_t_Mod_readQuoted : Room := { frames := 4, cells := 0, slots := 0, locals := 89 }
theorem t_Mod_readQuoted (l : Launch) (g : gG) (sz : Nat) (ad : Nat → Nat) (S : sS) (k : Nat) (r : Int32) (S9 : sS) (h : f_Mod_readQuoted k 0 S (fun _ => 0) (fun _ => 0) = some (r, S9)) : Cv l y_Mod_readQuoted b_Mod_readQuoted 3 rm_t_Mod_readQuoted g [.ref (ad 0)] (Sw shM g ad S) sz (fun w => ∃ S1 : sS, w = Sw shM g ad S1 ∧ S1 = S9) := by
  refine startV (by decide) (Nat.le_of_ble_eq_true rfl) ?_
  intro p e s m below meth c A ls hx hb hr hml hlocks hmn hown htt hN hA hP hK hD hS hl
  exact (w_Mod_readQuoted hx hb hml hown htt hK hN hA (by decide +kernel) (by decide +kernel) (by decide +kernel) (by decide +kernel) r S9 (fun ls H locs hP hD hS => fin_v (g := g) (ws := Sw shM g ad S9) hx hb hr hlocks (by decide +kernel) (by decide +kernel) hP hD hS ⟨_, rfl, rfl⟩ d_Mod_readQuoted_126) k).1 S (fun _ => 0) (fun _ => 0) ls _ _ h hl hP hD hS
def f_Mod_readToken : Nat → Nat → sS → (Nat → Int32) → (Nat → Int64) → Option (Int32 × sS)
  | 0, _, _, _, _ => none
  | k + 1, 0, S, L, M => (f_Mod_peek k 0 (putI (putI S 0 31 0) 0 29 0) (upd (fun _ => 0) 1 (0 : Int32)) (fun _ => 0)).bind (fun (r1, T1) => if (0 : Int32) ≤ r1 then ((f_Mod_isAhead 8 4 k 0 T1 (upd (fun _ => 0) 2 (T1.1 0 26 : Int32)) (fun _ => 0)).bind (fun (r3, T3) => if r3 = (0 : Int32) then ((f_Mod_peek k 0 T3 (upd (fun _ => 0) 1 (0 : Int32)) (fun _ => 0)).bind (fun (r5, T5) => if r5 = (35 : Int32) then (f_Mod_readToken k 1 (putI T5 0 29 2) (upd L 1 (1 : Int32)) M) else ((f_Mod_peek k 0 T5 (upd (fun _ => 0) 1 (0 : Int32)) (fun _ => 0)).bind (fun (r7, T7) => (f_Mod_isLetter k 0 T7 (upd (fun _ => 0) 0 (r7 : Int32)) (fun _ => 0)).bind (fun (r8, T8) => if r8 = (0 : Int32) then ((f_Mod_pass k 0 (putI T8 0 29 4) (upd (upd (fun _ => 0) 1 (1 : Int32)) 2 (1 : Int32)) (fun _ => 0)).bind (fun (r10, T10) => f_Mod_readToken k 6 T10 L M)) else (f_Mod_readToken k 4 (putI T8 0 29 3) L M)))))) else ((f_Mod_readQuoted k 0 (putI T3 0 29 1) (fun _ => 0) (fun _ => 0)).bind (fun (r11, T11) => f_Mod_readToken k 6 T11 L M)))) else (some ((0 : Int32), T1)))
  | k + 1, 1, S, L, M => if (L 1) = (0 : Int32) then (f_Mod_readToken k 3 S L M) else ((f_Mod_peek k 0 S (upd (fun _ => 0) 1 (0 : Int32)) (fun _ => 0)).bind (fun (r2, T2) => if r2 < (0 : Int32) then (f_Mod_readToken k 3 T2 L M) else (if (T2.1 0 10) = (0 : Int32) then ((f_Mod_peek k 0 T2 (upd (fun _ => 0) 1 (0 : Int32)) (fun _ => 0)).bind (fun (r5, T5) => if r5 = (10 : Int32) then (f_Mod_readToken k 2 T5 (upd L 100 (0 : Int32)) M) else (f_Mod_readToken k 2 T5 (upd L 100 (1 : Int32)) M))) else (f_Mod_readToken k 3 T2 L M))))
  | k + 1, 2, S, L, M => (f_Mod_pass k 0 S (upd (upd (fun _ => 0) 1 (1 : Int32)) 2 (1 : Int32)) (fun _ => 0)).bind (fun (r1, T1) => f_Mod_readToken k 1 T1 (upd L 1 (L 100)) M)
  | k + 1, 3, S, L, M => f_Mod_readToken k 6 S L M
  | k + 1, 4, S, L, M => (f_Mod_peek k 0 S (upd (fun _ => 0) 1 (0 : Int32)) (fun _ => 0)).bind (fun (r1, T1) => (f_Mod_isLetter k 0 T1 (upd (fun _ => 0) 0 (r1 : Int32)) (fun _ => 0)).bind (fun (r2, T2) => if r2 = (0 : Int32) then ((f_Mod_peek k 0 T2 (upd (fun _ => 0) 1 (0 : Int32)) (fun _ => 0)).bind (fun (r4, T4) => (f_Mod_isDigit k 0 T4 (upd (fun _ => 0) 0 (r4 : Int32)) (fun _ => 0)).bind (fun (r5, T5) => if r5 = (0 : Int32) then (f_Mod_readToken k 6 T5 L M) else (f_Mod_readToken k 5 T5 L M)))) else (f_Mod_readToken k 5 T2 L M)))
  | k + 1, 5, S, L, M => if (S.1 0 10) = (0 : Int32) then ((f_Mod_pass k 0 S (upd (upd (fun _ => 0) 1 (1 : Int32)) 2 (1 : Int32)) (fun _ => 0)).bind (fun (r2, T2) => f_Mod_readToken k 4 T2 L M)) else (f_Mod_readToken k 6 S L M)
  | k + 1, 6, S, L, M => some ((0 : Int32), S)
  | _ + 1, _ + 7, _, _, _ => none
set_option maxHeartbeats 8000000 in
set_option maxRecDepth 100000 in
theorem w_Mod_readToken {p : Program} {l : Launch} {e : Env} {R : Room} {s : State} {m : MethodId} {args : Array Value} {below : List Frame} {meth : Method} {c : Code} {cells slots : Nat} {Q : State → Prop} {g : gG} {A : Nat → Prop} {ad : Nat → Nat} (hx : p.tables.exec = Jvm.exec) (hb : c.code = b_Mod_readToken) (hml : c.maxLocals = 2) (hown : s.vm.findClass "MacroMillModel" = some m.cls) (htt : ∀ w ∈ gt, w.before args s = true) (hK : va_K g.1 classes (tysG g) s) (hN : nw s) (hA : ∀ q : Nat, s.heap.size ≤ q → A q) (hRf : 5 ≤ R.frames) (hRl : 111 ≤ R.locals) (hRc : cells ≤ R.cells) (hRs : slots ≤ R.slots) (r : Int32) (S9 : sS)
    (kx_18 : ∀ (ls : Array Slot) (H : Heap) (locs : List Loc), va_P g.1 classes (Sw shM g ad S9) H → va_D A (Sw shM g ad S9) → va_S A s.heap H locs → W p l e R s m args below meth c H locs cells slots Q (F0 m 18 ls []))
    (kx_175 : ∀ (ls : Array Slot) (H : Heap) (locs : List Loc), va_P g.1 classes (Sw shM g ad S9) H → va_D A (Sw shM g ad S9) → va_S A s.heap H locs → W p l e R s m args below meth c H locs cells slots Q (F0 m 175 ls [])) :
    ∀ k9 : Nat, (∀ (S : sS) (L : Nat → Int32) (M : Nat → Int64) (ls : Array Slot) (H : Heap) (locs : List Loc), f_Mod_readToken k9 0 S L M = some (r, S9) → lv_has ls 2 [(0, .ref (ad 0))] → va_P g.1 classes (Sw shM g ad S) H → va_D A (Sw shM g ad S) → va_S A s.heap H locs → W p l e R s m args below meth c H locs cells slots Q (F0 m 0 ls [])) ∧ (∀ (S : sS) (L : Nat → Int32) (M : Nat → Int64) (ls : Array Slot) (H : Heap) (locs : List Loc), f_Mod_readToken k9 1 S L M = some (r, S9) → lv_has ls 2 [(0, .ref (ad 0)), (1, .int (L 1))] → va_P g.1 classes (Sw shM g ad S) H → va_D A (Sw shM g ad S) → va_S A s.heap H locs → W p l e R s m args below meth c H locs cells slots Q (F0 m 63 ls [])) ∧ (∀ (S : sS) (L : Nat → Int32) (M : Nat → Int64) (ls : Array Slot) (H : Heap) (locs : List Loc), f_Mod_readToken k9 2 S L M = some (r, S9) → lv_has ls 2 [(0, .ref (ad 0)), (1, .int (L 1))] → va_P g.1 classes (Sw shM g ad S) H → va_D A (Sw shM g ad S) → va_S A s.heap H locs → W p l e R s m args below meth c H locs cells slots Q (F0 m 97 ls [.int (L 100)])) ∧ (∀ (S : sS) (L : Nat → Int32) (M : Nat → Int64) (ls : Array Slot) (H : Heap) (locs : List Loc), f_Mod_readToken k9 3 S L M = some (r, S9) → lv_has ls 2 [(0, .ref (ad 0)), (1, .int (L 1))] → va_P g.1 classes (Sw shM g ad S) H → va_D A (Sw shM g ad S) → va_S A s.heap H locs → W p l e R s m args below meth c H locs cells slots Q (F0 m 107 ls [])) ∧ (∀ (S : sS) (L : Nat → Int32) (M : Nat → Int64) (ls : Array Slot) (H : Heap) (locs : List Loc), f_Mod_readToken k9 4 S L M = some (r, S9) → lv_has ls 2 [(0, .ref (ad 0))] → va_P g.1 classes (Sw shM g ad S) H → va_D A (Sw shM g ad S) → va_S A s.heap H locs → W p l e R s m args below meth c H locs cells slots Q (F0 m 126 ls [])) ∧ (∀ (S : sS) (L : Nat → Int32) (M : Nat → Int64) (ls : Array Slot) (H : Heap) (locs : List Loc), f_Mod_readToken k9 5 S L M = some (r, S9) → lv_has ls 2 [(0, .ref (ad 0))] → va_P g.1 classes (Sw shM g ad S) H → va_D A (Sw shM g ad S) → va_S A s.heap H locs → W p l e R s m args below meth c H locs cells slots Q (F0 m 148 ls [])) ∧ (∀ (S : sS) (L : Nat → Int32) (M : Nat → Int64) (ls : Array Slot) (H : Heap) (locs : List Loc), f_Mod_readToken k9 6 S L M = some (r, S9) → lv_has ls 2 [(0, .ref (ad 0))] → va_P g.1 classes (Sw shM g ad S) H → va_D A (Sw shM g ad S) → va_S A s.heap H locs → W p l e R s m args below meth c H locs cells slots Q (F0 m 175 ls [])) := by
  intro k9
  induction k9 with
  | zero => exact ⟨(fun _ _ _ _ _ _ h => by simp [f_Mod_readToken] at h), (fun _ _ _ _ _ _ h => by simp [f_Mod_readToken] at h), (fun _ _ _ _ _ _ h => by simp [f_Mod_readToken] at h), (fun _ _ _ _ _ _ h => by simp [f_Mod_readToken] at h), (fun _ _ _ _ _ _ h => by simp [f_Mod_readToken] at h), (fun _ _ _ _ _ _ h => by simp [f_Mod_readToken] at h), (fun _ _ _ _ _ _ h => by simp [f_Mod_readToken] at h)⟩
  | succ k9 ih =>
    refine ⟨?_, ?_, ?_, ?_, ?_, ?_, ?_⟩
    · intro S L M ls H locs h hl hP hD hS
      simp only [f_Mod_readToken] at h
      refine lv_aload_n hx hb d_Mod_readToken_0 rfl (lv_at hl 0 rfl) ?_
      refine lv_iconst (v := 0) hx hb d_Mod_readToken_1 (by decide) ?_
      refine S_put (h := shM) (C := "MacroMillModel") (T := F_Mod) (v := 0) hx hb htt in_Mod t_Mod t_Mod_ok n_Mod hown hK hP hD hS 0 31 rfl rfl rfl (by decide) (htt _ k_2267) (fun _ h9 => h9) rfl rfl rfl d_Mod_readToken_2 (fun H locs hP hD hS => ?_)
      refine lv_aload_n hx hb d_Mod_readToken_5 rfl (lv_at hl 0 rfl) ?_
      refine lv_iconst (v := 0) hx hb d_Mod_readToken_6 (by decide) ?_
      refine S_put (h := shM) (C := "MacroMillModel") (T := F_Mod) (v := 0) hx hb htt in_Mod t_Mod t_Mod_ok n_Mod hown hK hP hD hS 0 29 rfl rfl rfl (by decide) (htt _ k_2265) (fun _ h9 => h9) rfl rfl rfl d_Mod_readToken_7 (fun H locs hP hD hS => ?_)
      refine lv_aload_n hx hb d_Mod_readToken_10 rfl (lv_at hl 0 rfl) ?_
      refine lv_iconst (v := 0) hx hb d_Mod_readToken_11 (by decide) ?_
      obtain ⟨⟨r1, T1⟩, hq1, h⟩ := Option.bind_eq_some_iff.mp h
      try dsimp only at h
      refine go_iS (As := [.ref (ad 0), .int 0]) (g := g) (A := A) (h := shM) hP hK hD hS hA hN (fun hp => va_runV (As := [.int 0]) (rest := []) ⟨hx, hb, hml, hown, htt⟩ (t_Mod_peek l g _ ad (putI (putI S 0 31 0) 0 29 0) (0 : Int32) k9 r1 T1 hq1) ⟨(cb_L htt k_2747 k_276 k_2744 hd_Mod_peek ⟨(Nat.le_trans (by decide +kernel) hRf), (Nat.le_trans (by decide +kernel) hRl)⟩), htt _ k_2746, htt _ k_133⟩ ⟨hp.1, S_recv hK hP 0 rfl rfl, hp.2⟩ rfl rfl hl.1 rfl (lv_room (Nat.le_of_ble_eq_true rfl)) d_Mod_readToken_12 ⟨hRc, hRs⟩) (fun r0 Sn H locs hw9 hP hD hS => ?_)
      obtain ⟨e9, e8⟩ := hw9
      rw [e8] at hP hD
      refine W.widen (k := cells) (n := slots) (Nat.le_refl _) (Nat.le_refl _) ?_
      refine toI (y := r1) e9 ?_
      refine lv_if_ge (tgt := 19) hx hb d_Mod_readToken_15 (by decide) (fun hc2 => ?_) (fun hc2 => ?_)
      · rw [if_pos hc2] at h
        refine lv_aload_n hx hb d_Mod_readToken_19 rfl (lv_at hl 0 rfl) ?_
        refine lv_aload_n hx hb d_Mod_readToken_20 rfl (lv_at hl 0 rfl) ?_
        refine S_getR (h := shM) (C := "MacroMillModel") (T := F_Mod) hx hb htt in_Mod hown hK hP 0 25 rfl 9 rfl rfl (by decide) (htt _ k_2261) (fun _ h9 => h9) d_Mod_readToken_21 ?_
        show W _ _ _ _ _ _ _ _ _ _ _ _ _ _ _ (F0 _ 24 _ _)
        refine lv_aload_n hx hb d_Mod_readToken_24 rfl (lv_at hl 0 rfl) ?_
        refine S_getI (h := shM) (C := "MacroMillModel") (T := F_Mod) hx hb htt in_Mod hown hK hP 0 26 rfl rfl rfl (by decide) (htt _ k_2262) (fun _ h9 => h9) d_Mod_readToken_25 ?_
        obtain ⟨⟨r3, T3⟩, hq3, h⟩ := Option.bind_eq_some_iff.mp h
        try dsimp only at h
        refine go_iS (As := [.ref (ad 0), .ref (ad 9), .int (T1.1 0 26)]) (g := g) (A := A) (h := shM) hP hK hD hS hA hN (fun hp => va_runV (As := [.ref (ad 9), .int (T1.1 0 26)]) (rest := []) ⟨hx, hb, hml, hown, htt⟩ (t_Mod_isAhead l g _ ad T1 8 4 (T1.1 0 26 : Int32) rfl k9 r3 T3 hq3) ⟨(cb_L htt k_2751 k_276 k_2748 hd_Mod_isAhead ⟨(Nat.le_trans (by decide +kernel) hRf), (Nat.le_trans (by decide +kernel) hRl)⟩), htt _ k_2750, htt _ k_134⟩ ⟨hp.1, S_recv hK hP 0 rfl rfl, hp.2⟩ rfl rfl hl.1 rfl (lv_room (Nat.le_of_ble_eq_true rfl)) d_Mod_readToken_28 ⟨hRc, hRs⟩) (fun r0 Sn H locs hw9 hP hD hS => ?_)
        obtain ⟨e9, e8⟩ := hw9
        rw [e8] at hP hD
        refine W.widen (k := cells) (n := slots) (Nat.le_refl _) (Nat.le_refl _) ?_
        refine toI (y := r3) e9 ?_
        refine lv_if_eq (tgt := 46) hx hb d_Mod_readToken_31 (by decide) (fun hc4 => ?_) (fun hc4 => ?_)
        · rw [if_pos hc4] at h
          refine lv_aload_n hx hb d_Mod_readToken_46 rfl (lv_at hl 0 rfl) ?_
          refine lv_iconst (v := 0) hx hb d_Mod_readToken_47 (by decide) ?_
          obtain ⟨⟨r5, T5⟩, hq5, h⟩ := Option.bind_eq_some_iff.mp h
          try dsimp only at h
          refine go_iS (As := [.ref (ad 0), .int 0]) (g := g) (A := A) (h := shM) hP hK hD hS hA hN (fun hp => va_runV (As := [.int 0]) (rest := []) ⟨hx, hb, hml, hown, htt⟩ (t_Mod_peek l g _ ad T3 (0 : Int32) k9 r5 T5 hq5) ⟨(cb_L htt k_2747 k_276 k_2744 hd_Mod_peek ⟨(Nat.le_trans (by decide +kernel) hRf), (Nat.le_trans (by decide +kernel) hRl)⟩), htt _ k_2746, htt _ k_133⟩ ⟨hp.1, S_recv hK hP 0 rfl rfl, hp.2⟩ rfl rfl hl.1 rfl (lv_room (Nat.le_of_ble_eq_true rfl)) d_Mod_readToken_48 ⟨hRc, hRs⟩) (fun r0 Sn H locs hw9 hP hD hS => ?_)
          obtain ⟨e9, e8⟩ := hw9
          rw [e8] at hP hD
          refine W.widen (k := cells) (n := slots) (Nat.le_refl _) (Nat.le_refl _) ?_
          refine toI (y := r5) e9 ?_
          refine lv_bipush (v := 35) hx hb d_Mod_readToken_51 (by decide) ?_
          refine lv_icmp_ne (tgt := 110) hx hb d_Mod_readToken_53 (by decide) (fun hc6 => ?_) (fun hc6 => ?_)
          · rw [if_neg hc6] at h
            refine lv_aload_n hx hb d_Mod_readToken_110 rfl (lv_at hl 0 rfl) ?_
            refine lv_iconst (v := 0) hx hb d_Mod_readToken_111 (by decide) ?_
            obtain ⟨⟨r7, T7⟩, hq7, h⟩ := Option.bind_eq_some_iff.mp h
            try dsimp only at h
            refine go_iS (As := [.ref (ad 0), .int 0]) (g := g) (A := A) (h := shM) hP hK hD hS hA hN (fun hp => va_runV (As := [.int 0]) (rest := []) ⟨hx, hb, hml, hown, htt⟩ (t_Mod_peek l g _ ad T5 (0 : Int32) k9 r7 T7 hq7) ⟨(cb_L htt k_2747 k_276 k_2744 hd_Mod_peek ⟨(Nat.le_trans (by decide +kernel) hRf), (Nat.le_trans (by decide +kernel) hRl)⟩), htt _ k_2746, htt _ k_133⟩ ⟨hp.1, S_recv hK hP 0 rfl rfl, hp.2⟩ rfl rfl hl.1 rfl (lv_room (Nat.le_of_ble_eq_true rfl)) d_Mod_readToken_112 ⟨hRc, hRs⟩) (fun r0 Sn H locs hw9 hP hD hS => ?_)
            obtain ⟨e9, e8⟩ := hw9
            rw [e8] at hP hD
            refine W.widen (k := cells) (n := slots) (Nat.le_refl _) (Nat.le_refl _) ?_
            refine toI (y := r7) e9 ?_
            obtain ⟨⟨r8, T8⟩, hq8, h⟩ := Option.bind_eq_some_iff.mp h
            try dsimp only at h
            refine go_iS (As := [.int r7]) (g := g) (A := A) (h := shM) hP hK hD hS hA hN (fun hp => va_runS (As := [.int r7]) (rest := []) ⟨hx, hb, hml, hown, htt⟩ (t_Mod_isLetter l g _ ad T7 (r7 : Int32) k9 r8 T8 hq8) ⟨(cb_L htt k_2774 k_276 k_2772 hd_Mod_isLetter ⟨(Nat.le_trans (by decide +kernel) hRf), (Nat.le_trans (by decide +kernel) hRl)⟩), htt _ k_2773⟩ hp rfl rfl hl.1 rfl (lv_room (Nat.le_of_ble_eq_true rfl)) d_Mod_readToken_115 ⟨hRc, hRs⟩) (fun r0 Sn H locs hw9 hP hD hS => ?_)
            obtain ⟨e9, e8⟩ := hw9
            rw [e8] at hP hD
            refine W.widen (k := cells) (n := slots) (Nat.le_refl _) (Nat.le_refl _) ?_
            refine toI (y := r8) e9 ?_
            refine lv_if_eq (tgt := 164) hx hb d_Mod_readToken_118 (by decide) (fun hc9 => ?_) (fun hc9 => ?_)
            · rw [if_pos hc9] at h
              refine lv_aload_n hx hb d_Mod_readToken_164 rfl (lv_at hl 0 rfl) ?_
              refine lv_iconst (v := 4) hx hb d_Mod_readToken_165 (by decide) ?_
              refine S_put (h := shM) (C := "MacroMillModel") (T := F_Mod) (v := 4) hx hb htt in_Mod t_Mod t_Mod_ok n_Mod hown hK hP hD hS 0 29 rfl rfl rfl (by decide) (htt _ k_2265) (fun _ h9 => h9) rfl rfl rfl d_Mod_readToken_166 (fun H locs hP hD hS => ?_)
              refine lv_aload_n hx hb d_Mod_readToken_169 rfl (lv_at hl 0 rfl) ?_
              refine lv_iconst (v := 1) hx hb d_Mod_readToken_170 (by decide) ?_
              show W _ _ _ _ _ _ _ _ _ _ _ _ _ _ _ (F0 _ 171 _ _)
              refine lv_iconst (v := 1) hx hb d_Mod_readToken_171 (by decide) ?_
              obtain ⟨⟨r10, T10⟩, hq10, h⟩ := Option.bind_eq_some_iff.mp h
              try dsimp only at h
              refine go_vS (As := [.ref (ad 0), .int 1, .int 1]) (g := g) (A := A) (h := shM) hP hK hD hS hA hN (fun hp => va_runV (As := [.int 1, .int 1]) (rest := []) ⟨hx, hb, hml, hown, htt⟩ (t_Mod_pass l g _ ad (putI T8 0 29 4) (1 : Int32) (1 : Int32) k9 r10 T10 hq10) ⟨(cb_L htt k_2759 k_276 k_2756 hd_Mod_pass ⟨(Nat.le_trans (by decide +kernel) hRf), (Nat.le_trans (by decide +kernel) hRl)⟩), htt _ k_2758, htt _ k_136⟩ ⟨hp.1, S_recv hK hP 0 rfl rfl, hp.2⟩ rfl rfl hl.1 rfl (lv_room (Nat.le_of_ble_eq_true rfl)) d_Mod_readToken_172 ⟨hRc, hRs⟩) (fun Sn H locs hw9 hP hD hS => ?_)
              have e8 := hw9
              rw [e8] at hP hD
              refine W.widen (k := cells) (n := slots) (Nat.le_refl _) (Nat.le_refl _) ?_
              exact (ih.2.2.2.2.2.2) T10 L M ls H locs h (lv_sub hl [0] rfl) hP hD hS
            · rw [if_neg hc9] at h
              refine lv_aload_n hx hb d_Mod_readToken_121 rfl (lv_at hl 0 rfl) ?_
              refine lv_iconst (v := 3) hx hb d_Mod_readToken_122 (by decide) ?_
              refine S_put (h := shM) (C := "MacroMillModel") (T := F_Mod) (v := 3) hx hb htt in_Mod t_Mod t_Mod_ok n_Mod hown hK hP hD hS 0 29 rfl rfl rfl (by decide) (htt _ k_2265) (fun _ h9 => h9) rfl rfl rfl d_Mod_readToken_123 (fun H locs hP hD hS => ?_)
              exact (ih.2.2.2.2.1) (putI T8 0 29 3) L M ls H locs h (lv_sub hl [0] rfl) hP hD hS
          · rw [if_pos hc6] at h
            refine lv_aload_n hx hb d_Mod_readToken_56 rfl (lv_at hl 0 rfl) ?_
            refine lv_iconst (v := 2) hx hb d_Mod_readToken_57 (by decide) ?_
            refine S_put (h := shM) (C := "MacroMillModel") (T := F_Mod) (v := 2) hx hb htt in_Mod t_Mod t_Mod_ok n_Mod hown hK hP hD hS 0 29 rfl rfl rfl (by decide) (htt _ k_2265) (fun _ h9 => h9) rfl rfl rfl d_Mod_readToken_58 (fun H locs hP hD hS => ?_)
            refine lv_iconst (v := 1) hx hb d_Mod_readToken_61 (by decide) ?_
            refine lv_istore_n (lv' := [(1, .int 1), (0, .ref (ad 0))]) hx hb d_Mod_readToken_62 rfl hl (by decide) rfl (fun ls hl => ?_)
            exact (ih.2.1) (putI T5 0 29 2) (upd L 1 (1 : Int32)) M ls H locs h (lv_sub hl [1, 0] rfl) hP hD hS
        · rw [if_neg hc4] at h
          refine lv_aload_n hx hb d_Mod_readToken_34 rfl (lv_at hl 0 rfl) ?_
          refine lv_iconst (v := 1) hx hb d_Mod_readToken_35 (by decide) ?_
          refine S_put (h := shM) (C := "MacroMillModel") (T := F_Mod) (v := 1) hx hb htt in_Mod t_Mod t_Mod_ok n_Mod hown hK hP hD hS 0 29 rfl rfl rfl (by decide) (htt _ k_2265) (fun _ h9 => h9) rfl rfl rfl d_Mod_readToken_36 (fun H locs hP hD hS => ?_)
          refine lv_aload_n hx hb d_Mod_readToken_39 rfl (lv_at hl 0 rfl) ?_
          obtain ⟨⟨r11, T11⟩, hq11, h⟩ := Option.bind_eq_some_iff.mp h
          try dsimp only at h
          refine go_vS (As := [.ref (ad 0)]) (g := g) (A := A) (h := shM) hP hK hD hS hA hN (fun hp => va_runV (As := []) (rest := []) ⟨hx, hb, hml, hown, htt⟩ (t_Mod_readQuoted l g _ ad (putI T3 0 29 1) k9 r11 T11 hq11) ⟨(cb_L htt k_2755 k_276 k_2752 hd_Mod_readQuoted ⟨(Nat.le_trans (by decide +kernel) hRf), (Nat.le_trans (by decide +kernel) hRl)⟩), htt _ k_2754, htt _ k_135⟩ ⟨hp.1, S_recv hK hP 0 rfl rfl, hp.2⟩ rfl rfl hl.1 rfl (lv_room (Nat.le_of_ble_eq_true rfl)) d_Mod_readToken_40 ⟨hRc, hRs⟩) (fun Sn H locs hw9 hP hD hS => ?_)
          have e8 := hw9
          rw [e8] at hP hD
          refine W.widen (k := cells) (n := slots) (Nat.le_refl _) (Nat.le_refl _) ?_
          refine lv_goto (tgt := 175) hx hb d_Mod_readToken_43 (by decide) ?_
          exact (ih.2.2.2.2.2.2) T11 L M ls H locs h (lv_sub hl [0] rfl) hP hD hS
      · rw [if_neg hc2] at h
        cases h
        exact kx_18 ls H locs hP hD hS
    · intro S L M ls H locs h hl hP hD hS
      simp only [f_Mod_readToken] at h
      refine lv_iload_n hx hb d_Mod_readToken_63 rfl (lv_at hl 1 rfl) ?_
      refine lv_if_eq (tgt := 107) hx hb d_Mod_readToken_64 (by decide) (fun hc1 => ?_) (fun hc1 => ?_)
      · rw [if_pos hc1] at h
        exact (ih.2.2.2.1) S L M ls H locs h (lv_sub hl [0, 1] rfl) hP hD hS
      · rw [if_neg hc1] at h
        refine lv_aload_n hx hb d_Mod_readToken_67 rfl (lv_at hl 0 rfl) ?_
        refine lv_iconst (v := 0) hx hb d_Mod_readToken_68 (by decide) ?_
        obtain ⟨⟨r2, T2⟩, hq2, h⟩ := Option.bind_eq_some_iff.mp h
        try dsimp only at h
        refine go_iS (As := [.ref (ad 0), .int 0]) (g := g) (A := A) (h := shM) hP hK hD hS hA hN (fun hp => va_runV (As := [.int 0]) (rest := []) ⟨hx, hb, hml, hown, htt⟩ (t_Mod_peek l g _ ad S (0 : Int32) k9 r2 T2 hq2) ⟨(cb_L htt k_2747 k_276 k_2744 hd_Mod_peek ⟨(Nat.le_trans (by decide +kernel) hRf), (Nat.le_trans (by decide +kernel) hRl)⟩), htt _ k_2746, htt _ k_133⟩ ⟨hp.1, S_recv hK hP 0 rfl rfl, hp.2⟩ rfl rfl hl.1 rfl (lv_room (Nat.le_of_ble_eq_true rfl)) d_Mod_readToken_69 ⟨hRc, hRs⟩) (fun r0 Sn H locs hw9 hP hD hS => ?_)
        obtain ⟨e9, e8⟩ := hw9
        rw [e8] at hP hD
        refine W.widen (k := cells) (n := slots) (Nat.le_refl _) (Nat.le_refl _) ?_
        refine toI (y := r2) e9 ?_
        refine lv_if_lt (tgt := 107) hx hb d_Mod_readToken_72 (by decide) (fun hc3 => ?_) (fun hc3 => ?_)
        · rw [if_pos hc3] at h
          exact (ih.2.2.2.1) T2 L M ls H locs h (lv_sub hl [0, 1] rfl) hP hD hS
        · rw [if_neg hc3] at h
          refine lv_aload_n hx hb d_Mod_readToken_75 rfl (lv_at hl 0 rfl) ?_
          refine S_getI (h := shM) (C := "MacroMillModel") (T := F_Mod) hx hb htt in_Mod hown hK hP 0 10 rfl rfl rfl (by decide) (htt _ k_2246) (fun _ h9 => h9) d_Mod_readToken_76 ?_
          refine lv_if_ne (tgt := 107) hx hb d_Mod_readToken_79 (by decide) (fun hc4 => ?_) (fun hc4 => ?_)
          · rw [if_neg hc4] at h
            exact (ih.2.2.2.1) T2 L M ls H locs h (lv_sub hl [0, 1] rfl) hP hD hS
          · rw [if_pos hc4] at h
            refine lv_aload_n hx hb d_Mod_readToken_82 rfl (lv_at hl 0 rfl) ?_
            refine lv_iconst (v := 0) hx hb d_Mod_readToken_83 (by decide) ?_
            obtain ⟨⟨r5, T5⟩, hq5, h⟩ := Option.bind_eq_some_iff.mp h
            try dsimp only at h
            refine go_iS (As := [.ref (ad 0), .int 0]) (g := g) (A := A) (h := shM) hP hK hD hS hA hN (fun hp => va_runV (As := [.int 0]) (rest := []) ⟨hx, hb, hml, hown, htt⟩ (t_Mod_peek l g _ ad T2 (0 : Int32) k9 r5 T5 hq5) ⟨(cb_L htt k_2747 k_276 k_2744 hd_Mod_peek ⟨(Nat.le_trans (by decide +kernel) hRf), (Nat.le_trans (by decide +kernel) hRl)⟩), htt _ k_2746, htt _ k_133⟩ ⟨hp.1, S_recv hK hP 0 rfl rfl, hp.2⟩ rfl rfl hl.1 rfl (lv_room (Nat.le_of_ble_eq_true rfl)) d_Mod_readToken_84 ⟨hRc, hRs⟩) (fun r0 Sn H locs hw9 hP hD hS => ?_)
            obtain ⟨e9, e8⟩ := hw9
            rw [e8] at hP hD
            refine W.widen (k := cells) (n := slots) (Nat.le_refl _) (Nat.le_refl _) ?_
            refine toI (y := r5) e9 ?_
            refine lv_bipush (v := 10) hx hb d_Mod_readToken_87 (by decide) ?_
            refine lv_icmp_eq (tgt := 96) hx hb d_Mod_readToken_89 (by decide) (fun hc6 => ?_) (fun hc6 => ?_)
            · rw [if_pos hc6] at h
              refine lv_iconst (v := 0) hx hb d_Mod_readToken_96 (by decide) ?_
              exact (ih.2.2.1) T5 (upd L 100 (0 : Int32)) M ls H locs h (lv_sub hl [0, 1] rfl) hP hD hS
            · rw [if_neg hc6] at h
              refine lv_iconst (v := 1) hx hb d_Mod_readToken_92 (by decide) ?_
              refine lv_goto (tgt := 97) hx hb d_Mod_readToken_93 (by decide) ?_
              exact (ih.2.2.1) T5 (upd L 100 (1 : Int32)) M ls H locs h (lv_sub hl [0, 1] rfl) hP hD hS
    · intro S L M ls H locs h hl hP hD hS
      simp only [f_Mod_readToken] at h
      refine lv_istore_n (lv' := [(1, .int (L 100)), (0, .ref (ad 0))]) hx hb d_Mod_readToken_97 rfl hl (by decide) rfl (fun ls hl => ?_)
      refine lv_aload_n hx hb d_Mod_readToken_98 rfl (lv_at hl 1 rfl) ?_
      refine lv_iconst (v := 1) hx hb d_Mod_readToken_99 (by decide) ?_
      refine lv_iconst (v := 1) hx hb d_Mod_readToken_100 (by decide) ?_
      obtain ⟨⟨r1, T1⟩, hq1, h⟩ := Option.bind_eq_some_iff.mp h
      try dsimp only at h
      refine go_vS (As := [.ref (ad 0), .int 1, .int 1]) (g := g) (A := A) (h := shM) hP hK hD hS hA hN (fun hp => va_runV (As := [.int 1, .int 1]) (rest := []) ⟨hx, hb, hml, hown, htt⟩ (t_Mod_pass l g _ ad S (1 : Int32) (1 : Int32) k9 r1 T1 hq1) ⟨(cb_L htt k_2759 k_276 k_2756 hd_Mod_pass ⟨(Nat.le_trans (by decide +kernel) hRf), (Nat.le_trans (by decide +kernel) hRl)⟩), htt _ k_2758, htt _ k_136⟩ ⟨hp.1, S_recv hK hP 0 rfl rfl, hp.2⟩ rfl rfl hl.1 rfl (lv_room (Nat.le_of_ble_eq_true rfl)) d_Mod_readToken_101 ⟨hRc, hRs⟩) (fun Sn H locs hw9 hP hD hS => ?_)
      have e8 := hw9
      rw [e8] at hP hD
      refine W.widen (k := cells) (n := slots) (Nat.le_refl _) (Nat.le_refl _) ?_
      refine lv_goto (tgt := 63) hx hb d_Mod_readToken_104 (by decide) ?_
      exact (ih.2.1) T1 (upd L 1 (L 100)) M ls H locs h (lv_sub hl [1, 0] rfl) hP hD hS
    · intro S L M ls H locs h hl hP hD hS
      simp only [f_Mod_readToken] at h
      refine lv_goto (tgt := 175) hx hb d_Mod_readToken_107 (by decide) ?_
      exact (ih.2.2.2.2.2.2) S L M ls H locs h (lv_sub hl [0] rfl) hP hD hS
    · intro S L M ls H locs h hl hP hD hS
      simp only [f_Mod_readToken] at h
      refine lv_aload_n hx hb d_Mod_readToken_126 rfl (lv_at hl 0 rfl) ?_
      refine lv_iconst (v := 0) hx hb d_Mod_readToken_127 (by decide) ?_
      obtain ⟨⟨r1, T1⟩, hq1, h⟩ := Option.bind_eq_some_iff.mp h
      try dsimp only at h
      refine go_iS (As := [.ref (ad 0), .int 0]) (g := g) (A := A) (h := shM) hP hK hD hS hA hN (fun hp => va_runV (As := [.int 0]) (rest := []) ⟨hx, hb, hml, hown, htt⟩ (t_Mod_peek l g _ ad S (0 : Int32) k9 r1 T1 hq1) ⟨(cb_L htt k_2747 k_276 k_2744 hd_Mod_peek ⟨(Nat.le_trans (by decide +kernel) hRf), (Nat.le_trans (by decide +kernel) hRl)⟩), htt _ k_2746, htt _ k_133⟩ ⟨hp.1, S_recv hK hP 0 rfl rfl, hp.2⟩ rfl rfl hl.1 rfl (lv_room (Nat.le_of_ble_eq_true rfl)) d_Mod_readToken_128 ⟨hRc, hRs⟩) (fun r0 Sn H locs hw9 hP hD hS => ?_)
      obtain ⟨e9, e8⟩ := hw9
      rw [e8] at hP hD
      refine W.widen (k := cells) (n := slots) (Nat.le_refl _) (Nat.le_refl _) ?_
      refine toI (y := r1) e9 ?_
      obtain ⟨⟨r2, T2⟩, hq2, h⟩ := Option.bind_eq_some_iff.mp h
      try dsimp only at h
      refine go_iS (As := [.int r1]) (g := g) (A := A) (h := shM) hP hK hD hS hA hN (fun hp => va_runS (As := [.int r1]) (rest := []) ⟨hx, hb, hml, hown, htt⟩ (t_Mod_isLetter l g _ ad T1 (r1 : Int32) k9 r2 T2 hq2) ⟨(cb_L htt k_2774 k_276 k_2772 hd_Mod_isLetter ⟨(Nat.le_trans (by decide +kernel) hRf), (Nat.le_trans (by decide +kernel) hRl)⟩), htt _ k_2773⟩ hp rfl rfl hl.1 rfl (lv_room (Nat.le_of_ble_eq_true rfl)) d_Mod_readToken_131 ⟨hRc, hRs⟩) (fun r0 Sn H locs hw9 hP hD hS => ?_)
      obtain ⟨e9, e8⟩ := hw9
      rw [e8] at hP hD
      refine W.widen (k := cells) (n := slots) (Nat.le_refl _) (Nat.le_refl _) ?_
      refine toI (y := r2) e9 ?_
      refine lv_if_ne (tgt := 148) hx hb d_Mod_readToken_134 (by decide) (fun hc3 => ?_) (fun hc3 => ?_)
      · rw [if_neg hc3] at h
        exact (ih.2.2.2.2.2.1) T2 L M ls H locs h (lv_sub hl [0] rfl) hP hD hS
      · rw [if_pos hc3] at h
        refine lv_aload_n hx hb d_Mod_readToken_137 rfl (lv_at hl 0 rfl) ?_
        refine lv_iconst (v := 0) hx hb d_Mod_readToken_138 (by decide) ?_
        obtain ⟨⟨r4, T4⟩, hq4, h⟩ := Option.bind_eq_some_iff.mp h
        try dsimp only at h
        refine go_iS (As := [.ref (ad 0), .int 0]) (g := g) (A := A) (h := shM) hP hK hD hS hA hN (fun hp => va_runV (As := [.int 0]) (rest := []) ⟨hx, hb, hml, hown, htt⟩ (t_Mod_peek l g _ ad T2 (0 : Int32) k9 r4 T4 hq4) ⟨(cb_L htt k_2747 k_276 k_2744 hd_Mod_peek ⟨(Nat.le_trans (by decide +kernel) hRf), (Nat.le_trans (by decide +kernel) hRl)⟩), htt _ k_2746, htt _ k_133⟩ ⟨hp.1, S_recv hK hP 0 rfl rfl, hp.2⟩ rfl rfl hl.1 rfl (lv_room (Nat.le_of_ble_eq_true rfl)) d_Mod_readToken_139 ⟨hRc, hRs⟩) (fun r0 Sn H locs hw9 hP hD hS => ?_)
        obtain ⟨e9, e8⟩ := hw9
        rw [e8] at hP hD
        refine W.widen (k := cells) (n := slots) (Nat.le_refl _) (Nat.le_refl _) ?_
        refine toI (y := r4) e9 ?_
        obtain ⟨⟨r5, T5⟩, hq5, h⟩ := Option.bind_eq_some_iff.mp h
        try dsimp only at h
        refine go_iS (As := [.int r4]) (g := g) (A := A) (h := shM) hP hK hD hS hA hN (fun hp => va_runS (As := [.int r4]) (rest := []) ⟨hx, hb, hml, hown, htt⟩ (t_Mod_isDigit l g _ ad T4 (r4 : Int32) k9 r5 T5 hq5) ⟨(cb_L htt k_2777 k_276 k_2775 hd_Mod_isDigit ⟨(Nat.le_trans (by decide +kernel) hRf), (Nat.le_trans (by decide +kernel) hRl)⟩), htt _ k_2776⟩ hp rfl rfl hl.1 rfl (lv_room (Nat.le_of_ble_eq_true rfl)) d_Mod_readToken_142 ⟨hRc, hRs⟩) (fun r0 Sn H locs hw9 hP hD hS => ?_)
        obtain ⟨e9, e8⟩ := hw9
        rw [e8] at hP hD
        refine W.widen (k := cells) (n := slots) (Nat.le_refl _) (Nat.le_refl _) ?_
        refine toI (y := r5) e9 ?_
        refine lv_if_eq (tgt := 175) hx hb d_Mod_readToken_145 (by decide) (fun hc6 => ?_) (fun hc6 => ?_)
        · rw [if_pos hc6] at h
          exact (ih.2.2.2.2.2.2) T5 L M ls H locs h (lv_sub hl [0] rfl) hP hD hS
        · rw [if_neg hc6] at h
          exact (ih.2.2.2.2.2.1) T5 L M ls H locs h (lv_sub hl [0] rfl) hP hD hS
    · intro S L M ls H locs h hl hP hD hS
      simp only [f_Mod_readToken] at h
      refine lv_aload_n hx hb d_Mod_readToken_148 rfl (lv_at hl 0 rfl) ?_
      refine S_getI (h := shM) (C := "MacroMillModel") (T := F_Mod) hx hb htt in_Mod hown hK hP 0 10 rfl rfl rfl (by decide) (htt _ k_2246) (fun _ h9 => h9) d_Mod_readToken_149 ?_
      refine lv_if_ne (tgt := 175) hx hb d_Mod_readToken_152 (by decide) (fun hc1 => ?_) (fun hc1 => ?_)
      · rw [if_neg hc1] at h
        exact (ih.2.2.2.2.2.2) S L M ls H locs h (lv_sub hl [0] rfl) hP hD hS
      · rw [if_pos hc1] at h
        refine lv_aload_n hx hb d_Mod_readToken_155 rfl (lv_at hl 0 rfl) ?_
        refine lv_iconst (v := 1) hx hb d_Mod_readToken_156 (by decide) ?_
        refine lv_iconst (v := 1) hx hb d_Mod_readToken_157 (by decide) ?_
        obtain ⟨⟨r2, T2⟩, hq2, h⟩ := Option.bind_eq_some_iff.mp h
        try dsimp only at h
        refine go_vS (As := [.ref (ad 0), .int 1, .int 1]) (g := g) (A := A) (h := shM) hP hK hD hS hA hN (fun hp => va_runV (As := [.int 1, .int 1]) (rest := []) ⟨hx, hb, hml, hown, htt⟩ (t_Mod_pass l g _ ad S (1 : Int32) (1 : Int32) k9 r2 T2 hq2) ⟨(cb_L htt k_2759 k_276 k_2756 hd_Mod_pass ⟨(Nat.le_trans (by decide +kernel) hRf), (Nat.le_trans (by decide +kernel) hRl)⟩), htt _ k_2758, htt _ k_136⟩ ⟨hp.1, S_recv hK hP 0 rfl rfl, hp.2⟩ rfl rfl hl.1 rfl (lv_room (Nat.le_of_ble_eq_true rfl)) d_Mod_readToken_158 ⟨hRc, hRs⟩) (fun Sn H locs hw9 hP hD hS => ?_)
        have e8 := hw9
        rw [e8] at hP hD
        refine W.widen (k := cells) (n := slots) (Nat.le_refl _) (Nat.le_refl _) ?_
        refine lv_goto (tgt := 126) hx hb d_Mod_readToken_161 (by decide) ?_
        exact (ih.2.2.2.2.1) T2 L M ls H locs h (lv_sub hl [0] rfl) hP hD hS
    · intro S L M ls H locs h hl hP hD hS
      simp only [f_Mod_readToken] at h
      cases h
      exact kx_175 ls H locs hP hD hS
abbrev rm_t_Mod_readToken : Room := { frames := 5, cells := 0, slots := 0, locals := 111 }
theorem t_Mod_readToken (l : Launch) (g : gG) (sz : Nat) (ad : Nat → Nat) (S : sS) (k : Nat) (r : Int32) (S9 : sS) (h : f_Mod_readToken k 0 S (fun _ => 0) (fun _ => 0) = some (r, S9)) : Cv l y_Mod_readToken b_Mod_readToken 2 rm_t_Mod_readToken g [.ref (ad 0)] (Sw shM g ad S) sz (fun w => ∃ S1 : sS, w = Sw shM g ad S1 ∧ S1 = S9) := by
  refine startV (by decide) (Nat.le_of_ble_eq_true rfl) ?_
  intro p e s m below meth c A ls hx hb hr hml hlocks hmn hown htt hN hA hP hK hD hS hl
  exact (w_Mod_readToken hx hb hml hown htt hK hN hA (by decide +kernel) (by decide +kernel) (by decide +kernel) (by decide +kernel) r S9 (fun ls H locs hP hD hS => fin_v (g := g) (ws := Sw shM g ad S9) hx hb hr hlocks (by decide +kernel) (by decide +kernel) hP hD hS ⟨_, rfl, rfl⟩ d_Mod_readToken_18) (fun ls H locs hP hD hS => fin_v (g := g) (ws := Sw shM g ad S9) hx hb hr hlocks (by decide +kernel) (by decide +kernel) hP hD hS ⟨_, rfl, rfl⟩ d_Mod_readToken_175) k).1 S (fun _ => 0) (fun _ => 0) ls _ _ h hl hP hD hS
def f_Mod_actOnInput : Nat → Nat → sS → (Nat → Int32) → (Nat → Int64) → Option (Int32 × sS)
  | 0, _, _, _, _ => none
  | k + 1, 0, S, L, M => if (L 1) = (14 : Int32) then (f_Mod_actOnInput k 1 S (upd L 4 (1 : Int32)) M) else (if (L 1) = (15 : Int32) then ((f_Mod_number k 0 S (upd (upd (fun _ => 0) 1 (L 2 : Int32)) 2 (1 : Int32)) (fun _ => 0)).bind (fun (r9, T9) => if (T9.1 0 10) = (0 : Int32) then (if r9 ≤ (9 : Int32) then (f_Mod_actOnInput k 4 T9 (upd L 4 r9) M) else ((f_Mod_fail1 k 0 T9 (upd (fun _ => 0) 1 (36 : Int32)) (fun _ => 0)).bind (fun (r12, T12) => f_Mod_actOnInput k 4 T12 (upd L 4 r9) M))) else (f_Mod_actOnInput k 4 T9 (upd L 4 r9) M))) else (if (L 1) = (16 : Int32) then (if (L 3) = (0 : Int32) then (f_Mod_actOnInput k 6 S L M) else (if (L 3) = (1 : Int32) then ((f_Mod_argumentSize k 0 S (upd (upd (fun _ => 0) 1 (L 2 : Int32)) 2 (1 : Int32)) (fun _ => 0)).bind (fun (r7, T7) => if r7 = (0 : Int32) then (f_Mod_actOnInput k 6 T7 L M) else (f_Mod_actOnInput k 8 T7 L M))) else (f_Mod_actOnInput k 8 S L M))) else ((f_Mod_changeQuotes k 0 S (upd (upd (fun _ => 0) 1 (L 2 : Int32)) 2 (L 3 : Int32)) (fun _ => 0)).bind (fun (r4, T4) => f_Mod_actOnInput k 12 T4 L M))))
  | k + 1, 1, S, L, M => if (L 4) = (0 : Int32) then (f_Mod_actOnInput k 3 S L M) else ((f_Mod_peek k 0 S (upd (fun _ => 0) 1 (0 : Int32)) (fun _ => 0)).bind (fun (r2, T2) => if r2 < (0 : Int32) then (f_Mod_actOnInput k 3 T2 L M) else (if (T2.1 0 10) = (0 : Int32) then ((f_Mod_take k 0 T2 (fun _ => 0) (fun _ => 0)).bind (fun (r5, T5) => if r5 = (10 : Int32) then (f_Mod_actOnInput k 2 T5 (upd L 100 (0 : Int32)) M) else (f_Mod_actOnInput k 2 T5 (upd L 100 (1 : Int32)) M))) else (f_Mod_actOnInput k 3 T2 L M))))
  | k + 1, 2, S, L, M => f_Mod_actOnInput k 1 S (upd L 4 (L 100)) M
  | k + 1, 3, S, L, M => f_Mod_actOnInput k 12 S L M
  | k + 1, 4, S, L, M => if (0 : Int32) ≤ (L 4) then (f_Mod_actOnInput k 5 S (upd L 101 (L 4)) M) else (f_Mod_actOnInput k 5 S (upd L 101 ((-1) : Int32)) M)
  | k + 1, 5, S, L, M => f_Mod_actOnInput k 12 (putI S 0 46 (L 101)) L M
  | k + 1, 6, S, L, M => f_Mod_actOnInput k 7 S (upd L 4 (1 : Int32)) M
  | k + 1, 7, S, L, M => if (10 : Int32) ≤ (L 4) then (f_Mod_actOnInput k 8 S L M) else (if (S.1 0 10) = (0 : Int32) then ((f_Mod_undivert k 0 S (upd (fun _ => 0) 1 (L 4 : Int32)) (fun _ => 0)).bind (fun (r3, T3) => f_Mod_actOnInput k 7 T3 (upd L 4 ((L 4) + 1)) M)) else (f_Mod_actOnInput k 8 S L M))
  | k + 1, 8, S, L, M => f_Mod_actOnInput k 9 S (upd L 4 (1 : Int32)) M
  | k + 1, 9, S, L, M => if (L 3) < (L 4) then (f_Mod_actOnInput k 11 S L M) else (if (S.1 0 10) = (0 : Int32) then ((f_Mod_number k 0 S (upd (upd (fun _ => 0) 1 (L 2 : Int32)) 2 (L 4 : Int32)) (fun _ => 0)).bind (fun (r3, T3) => if (T3.1 0 10) = (0 : Int32) then ((f_Mod_undivert k 0 T3 (upd (fun _ => 0) 1 (r3 : Int32)) (fun _ => 0)).bind (fun (r5, T5) => f_Mod_actOnInput k 10 T5 (upd L 5 r3) M)) else (f_Mod_actOnInput k 10 T3 (upd L 5 r3) M))) else (f_Mod_actOnInput k 11 S L M))
  | k + 1, 10, S, L, M => f_Mod_actOnInput k 9 S (upd L 4 ((L 4) + 1)) M
  | k + 1, 11, S, L, M => f_Mod_actOnInput k 12 S L M
  | k + 1, 12, S, L, M => some ((0 : Int32), S)
  | _ + 1, _ + 13, _, _, _ => none
set_option maxHeartbeats 8000000 in
set_option maxRecDepth 100000 in
theorem w_Mod_actOnInput {p : Program} {l : Launch} {e : Env} {R : Room} {s : State} {m : MethodId} {args : Array Value} {below : List Frame} {meth : Method} {c : Code} {cells slots : Nat} {Q : State → Prop} {g : gG} {A : Nat → Prop} {ad : Nat → Nat} (hx : p.tables.exec = Jvm.exec) (hb : c.code = b_Mod_actOnInput) (hml : c.maxLocals = 6) (hown : s.vm.findClass "MacroMillModel" = some m.cls) (htt : ∀ w ∈ gt, w.before args s = true) (hK : va_K g.1 classes (tysG g) s) (hN : nw s) (hA : ∀ q : Nat, s.heap.size ≤ q → A q) (hRf : 4 ≤ R.frames) (hRl : 89 ≤ R.locals) (hRc : cells ≤ R.cells) (hRs : slots ≤ R.slots) (r : Int32) (S9 : sS)
    (kx_209 : ∀ (ls : Array Slot) (H : Heap) (locs : List Loc), va_P g.1 classes (Sw shM g ad S9) H → va_D A (Sw shM g ad S9) → va_S A s.heap H locs → W p l e R s m args below meth c H locs cells slots Q (F0 m 209 ls [])) :
    ∀ k9 : Nat, (∀ (S : sS) (L : Nat → Int32) (M : Nat → Int64) (ls : Array Slot) (H : Heap) (locs : List Loc), f_Mod_actOnInput k9 0 S L M = some (r, S9) → lv_has ls 6 [(0, .ref (ad 0)), (1, .int (L 1)), (2, .int (L 2)), (3, .int (L 3))] → va_P g.1 classes (Sw shM g ad S) H → va_D A (Sw shM g ad S) → va_S A s.heap H locs → W p l e R s m args below meth c H locs cells slots Q (F0 m 0 ls [])) ∧ (∀ (S : sS) (L : Nat → Int32) (M : Nat → Int64) (ls : Array Slot) (H : Heap) (locs : List Loc), f_Mod_actOnInput k9 1 S L M = some (r, S9) → lv_has ls 6 [(0, .ref (ad 0)), (1, .int (L 1)), (2, .int (L 2)), (3, .int (L 3)), (4, .int (L 4))] → va_P g.1 classes (Sw shM g ad S) H → va_D A (Sw shM g ad S) → va_S A s.heap H locs → W p l e R s m args below meth c H locs cells slots Q (F0 m 9 ls [])) ∧ (∀ (S : sS) (L : Nat → Int32) (M : Nat → Int64) (ls : Array Slot) (H : Heap) (locs : List Loc), f_Mod_actOnInput k9 2 S L M = some (r, S9) → lv_has ls 6 [(0, .ref (ad 0)), (1, .int (L 1)), (2, .int (L 2)), (3, .int (L 3)), (4, .int (L 4))] → va_P g.1 classes (Sw shM g ad S) H → va_D A (Sw shM g ad S) → va_S A s.heap H locs → W p l e R s m args below meth c H locs cells slots Q (F0 m 43 ls [.int (L 100)])) ∧ (∀ (S : sS) (L : Nat → Int32) (M : Nat → Int64) (ls : Array Slot) (H : Heap) (locs : List Loc), f_Mod_actOnInput k9 3 S L M = some (r, S9) → lv_has ls 6 [(0, .ref (ad 0)), (1, .int (L 1)), (2, .int (L 2)), (3, .int (L 3)), (4, .int (L 4))] → va_P g.1 classes (Sw shM g ad S) H → va_D A (Sw shM g ad S) → va_S A s.heap H locs → W p l e R s m args below meth c H locs cells slots Q (F0 m 48 ls [])) ∧ (∀ (S : sS) (L : Nat → Int32) (M : Nat → Int64) (ls : Array Slot) (H : Heap) (locs : List Loc), f_Mod_actOnInput k9 4 S L M = some (r, S9) → lv_has ls 6 [(0, .ref (ad 0)), (1, .int (L 1)), (2, .int (L 2)), (3, .int (L 3)), (4, .int (L 4))] → va_P g.1 classes (Sw shM g ad S) H → va_D A (Sw shM g ad S) → va_S A s.heap H locs → W p l e R s m args below meth c H locs cells slots Q (F0 m 85 ls [])) ∧ (∀ (S : sS) (L : Nat → Int32) (M : Nat → Int64) (ls : Array Slot) (H : Heap) (locs : List Loc), f_Mod_actOnInput k9 5 S L M = some (r, S9) → lv_has ls 6 [(0, .ref (ad 0)), (1, .int (L 1)), (2, .int (L 2)), (3, .int (L 3)), (4, .int (L 4))] → va_P g.1 classes (Sw shM g ad S) H → va_D A (Sw shM g ad S) → va_S A s.heap H locs → W p l e R s m args below meth c H locs cells slots Q (F0 m 97 ls [.int (L 101), .ref (ad 0)])) ∧ (∀ (S : sS) (L : Nat → Int32) (M : Nat → Int64) (ls : Array Slot) (H : Heap) (locs : List Loc), f_Mod_actOnInput k9 6 S L M = some (r, S9) → lv_has ls 6 [(0, .ref (ad 0)), (1, .int (L 1)), (2, .int (L 2)), (3, .int (L 3))] → va_P g.1 classes (Sw shM g ad S) H → va_D A (Sw shM g ad S) → va_S A s.heap H locs → W p l e R s m args below meth c H locs cells slots Q (F0 m 127 ls [])) ∧ (∀ (S : sS) (L : Nat → Int32) (M : Nat → Int64) (ls : Array Slot) (H : Heap) (locs : List Loc), f_Mod_actOnInput k9 7 S L M = some (r, S9) → lv_has ls 6 [(0, .ref (ad 0)), (1, .int (L 1)), (2, .int (L 2)), (3, .int (L 3)), (4, .int (L 4))] → va_P g.1 classes (Sw shM g ad S) H → va_D A (Sw shM g ad S) → va_S A s.heap H locs → W p l e R s m args below meth c H locs cells slots Q (F0 m 130 ls [])) ∧ (∀ (S : sS) (L : Nat → Int32) (M : Nat → Int64) (ls : Array Slot) (H : Heap) (locs : List Loc), f_Mod_actOnInput k9 8 S L M = some (r, S9) → lv_has ls 6 [(0, .ref (ad 0)), (1, .int (L 1)), (2, .int (L 2)), (3, .int (L 3))] → va_P g.1 classes (Sw shM g ad S) H → va_D A (Sw shM g ad S) → va_S A s.heap H locs → W p l e R s m args below meth c H locs cells slots Q (F0 m 156 ls [])) ∧ (∀ (S : sS) (L : Nat → Int32) (M : Nat → Int64) (ls : Array Slot) (H : Heap) (locs : List Loc), f_Mod_actOnInput k9 9 S L M = some (r, S9) → lv_has ls 6 [(0, .ref (ad 0)), (1, .int (L 1)), (2, .int (L 2)), (3, .int (L 3)), (4, .int (L 4))] → va_P g.1 classes (Sw shM g ad S) H → va_D A (Sw shM g ad S) → va_S A s.heap H locs → W p l e R s m args below meth c H locs cells slots Q (F0 m 159 ls [])) ∧ (∀ (S : sS) (L : Nat → Int32) (M : Nat → Int64) (ls : Array Slot) (H : Heap) (locs : List Loc), f_Mod_actOnInput k9 10 S L M = some (r, S9) → lv_has ls 6 [(0, .ref (ad 0)), (1, .int (L 1)), (2, .int (L 2)), (3, .int (L 3)), (4, .int (L 4)), (5, .int (L 5))] → va_P g.1 classes (Sw shM g ad S) H → va_D A (Sw shM g ad S) → va_S A s.heap H locs → W p l e R s m args below meth c H locs cells slots Q (F0 m 194 ls [])) ∧ (∀ (S : sS) (L : Nat → Int32) (M : Nat → Int64) (ls : Array Slot) (H : Heap) (locs : List Loc), f_Mod_actOnInput k9 11 S L M = some (r, S9) → lv_has ls 6 [(0, .ref (ad 0)), (1, .int (L 1)), (2, .int (L 2)), (3, .int (L 3)), (4, .int (L 4))] → va_P g.1 classes (Sw shM g ad S) H → va_D A (Sw shM g ad S) → va_S A s.heap H locs → W p l e R s m args below meth c H locs cells slots Q (F0 m 200 ls [])) ∧ (∀ (S : sS) (L : Nat → Int32) (M : Nat → Int64) (ls : Array Slot) (H : Heap) (locs : List Loc), f_Mod_actOnInput k9 12 S L M = some (r, S9) → lv_has ls 6 [(0, .ref (ad 0)), (1, .int (L 1)), (2, .int (L 2)), (3, .int (L 3))] → va_P g.1 classes (Sw shM g ad S) H → va_D A (Sw shM g ad S) → va_S A s.heap H locs → W p l e R s m args below meth c H locs cells slots Q (F0 m 209 ls [])) := by
  intro k9
  induction k9 with
  | zero => exact ⟨(fun _ _ _ _ _ _ h => by simp [f_Mod_actOnInput] at h), (fun _ _ _ _ _ _ h => by simp [f_Mod_actOnInput] at h), (fun _ _ _ _ _ _ h => by simp [f_Mod_actOnInput] at h), (fun _ _ _ _ _ _ h => by simp [f_Mod_actOnInput] at h), (fun _ _ _ _ _ _ h => by simp [f_Mod_actOnInput] at h), (fun _ _ _ _ _ _ h => by simp [f_Mod_actOnInput] at h), (fun _ _ _ _ _ _ h => by simp [f_Mod_actOnInput] at h), (fun _ _ _ _ _ _ h => by simp [f_Mod_actOnInput] at h), (fun _ _ _ _ _ _ h => by simp [f_Mod_actOnInput] at h), (fun _ _ _ _ _ _ h => by simp [f_Mod_actOnInput] at h), (fun _ _ _ _ _ _ h => by simp [f_Mod_actOnInput] at h), (fun _ _ _ _ _ _ h => by simp [f_Mod_actOnInput] at h), (fun _ _ _ _ _ _ h => by simp [f_Mod_actOnInput] at h)⟩
  | succ k9 ih =>
    refine ⟨?_, ?_, ?_, ?_, ?_, ?_, ?_, ?_, ?_, ?_, ?_, ?_, ?_⟩
    · intro S L M ls H locs h hl hP hD hS
      simp only [f_Mod_actOnInput] at h
      refine lv_iload_n hx hb d_Mod_actOnInput_0 rfl (lv_at hl 1 rfl) ?_
      refine lv_bipush (v := 14) hx hb d_Mod_actOnInput_1 (by decide) ?_
      refine lv_icmp_ne (tgt := 51) hx hb d_Mod_actOnInput_3 (by decide) (fun hc1 => ?_) (fun hc1 => ?_)
      · rw [if_neg hc1] at h
        refine lv_iload_n hx hb d_Mod_actOnInput_51 rfl (lv_at hl 1 rfl) ?_
        refine lv_bipush (v := 15) hx hb d_Mod_actOnInput_52 (by decide) ?_
        refine lv_icmp_ne (tgt := 103) hx hb d_Mod_actOnInput_54 (by decide) (fun hc2 => ?_) (fun hc2 => ?_)
        · rw [if_neg hc2] at h
          refine lv_iload_n hx hb d_Mod_actOnInput_103 rfl (lv_at hl 1 rfl) ?_
          refine lv_bipush (v := 16) hx hb d_Mod_actOnInput_104 (by decide) ?_
          refine lv_icmp_ne (tgt := 203) hx hb d_Mod_actOnInput_106 (by decide) (fun hc3 => ?_) (fun hc3 => ?_)
          · rw [if_neg hc3] at h
            refine lv_aload_n hx hb d_Mod_actOnInput_203 rfl (lv_at hl 0 rfl) ?_
            refine lv_iload_n hx hb d_Mod_actOnInput_204 rfl (lv_at hl 2 rfl) ?_
            refine lv_iload_n hx hb d_Mod_actOnInput_205 rfl (lv_at hl 3 rfl) ?_
            obtain ⟨⟨r4, T4⟩, hq4, h⟩ := Option.bind_eq_some_iff.mp h
            try dsimp only at h
            refine go_vS (As := [.ref (ad 0), .int (L 2), .int (L 3)]) (g := g) (A := A) (h := shM) hP hK hD hS hA hN (fun hp => va_runV (As := [.int (L 2), .int (L 3)]) (rest := []) ⟨hx, hb, hml, hown, htt⟩ (t_Mod_changeQuotes l g _ ad S (L 2 : Int32) (L 3 : Int32) k9 r4 T4 hq4) ⟨(cb_L htt k_2942 k_276 k_2939 hd_Mod_changeQuotes ⟨(Nat.le_trans (by decide +kernel) hRf), (Nat.le_trans (by decide +kernel) hRl)⟩), htt _ k_2941, htt _ k_178⟩ ⟨hp.1, S_recv hK hP 0 rfl rfl, hp.2⟩ rfl rfl hl.1 rfl (lv_room (Nat.le_of_ble_eq_true rfl)) d_Mod_actOnInput_206 ⟨hRc, hRs⟩) (fun Sn H locs hw9 hP hD hS => ?_)
            have e8 := hw9
            rw [e8] at hP hD
            refine W.widen (k := cells) (n := slots) (Nat.le_refl _) (Nat.le_refl _) ?_
            exact (ih.2.2.2.2.2.2.2.2.2.2.2.2) T4 L M ls H locs h (lv_sub hl [0, 1, 2, 3] rfl) hP hD hS
          · rw [if_pos hc3] at h
            refine lv_iload_n hx hb d_Mod_actOnInput_109 rfl (lv_at hl 3 rfl) ?_
            refine lv_if_eq (tgt := 127) hx hb d_Mod_actOnInput_110 (by decide) (fun hc5 => ?_) (fun hc5 => ?_)
            · rw [if_pos hc5] at h
              exact (ih.2.2.2.2.2.2.1) S L M ls H locs h (lv_sub hl [0, 1, 2, 3] rfl) hP hD hS
            · rw [if_neg hc5] at h
              refine lv_iload_n hx hb d_Mod_actOnInput_113 rfl (lv_at hl 3 rfl) ?_
              refine lv_iconst (v := 1) hx hb d_Mod_actOnInput_114 (by decide) ?_
              refine lv_icmp_ne (tgt := 156) hx hb d_Mod_actOnInput_115 (by decide) (fun hc6 => ?_) (fun hc6 => ?_)
              · rw [if_neg hc6] at h
                exact (ih.2.2.2.2.2.2.2.2.1) S L M ls H locs h (lv_sub hl [0, 1, 2, 3] rfl) hP hD hS
              · rw [if_pos hc6] at h
                refine lv_aload_n hx hb d_Mod_actOnInput_118 rfl (lv_at hl 0 rfl) ?_
                refine lv_iload_n hx hb d_Mod_actOnInput_119 rfl (lv_at hl 2 rfl) ?_
                show W _ _ _ _ _ _ _ _ _ _ _ _ _ _ _ (F0 _ 120 _ _)
                refine lv_iconst (v := 1) hx hb d_Mod_actOnInput_120 (by decide) ?_
                obtain ⟨⟨r7, T7⟩, hq7, h⟩ := Option.bind_eq_some_iff.mp h
                try dsimp only at h
                refine go_iS (As := [.ref (ad 0), .int (L 2), .int 1]) (g := g) (A := A) (h := shM) hP hK hD hS hA hN (fun hp => va_runV (As := [.int (L 2), .int 1]) (rest := []) ⟨hx, hb, hml, hown, htt⟩ (t_Mod_argumentSize l g _ ad S (L 2 : Int32) (1 : Int32) k9 r7 T7 hq7) ⟨(cb_L htt k_2840 k_276 k_2837 hd_Mod_argumentSize ⟨(Nat.le_trans (by decide +kernel) hRf), (Nat.le_trans (by decide +kernel) hRl)⟩), htt _ k_2839, htt _ k_154⟩ ⟨hp.1, S_recv hK hP 0 rfl rfl, hp.2⟩ rfl rfl hl.1 rfl (lv_room (Nat.le_of_ble_eq_true rfl)) d_Mod_actOnInput_121 ⟨hRc, hRs⟩) (fun r0 Sn H locs hw9 hP hD hS => ?_)
                obtain ⟨e9, e8⟩ := hw9
                rw [e8] at hP hD
                refine W.widen (k := cells) (n := slots) (Nat.le_refl _) (Nat.le_refl _) ?_
                refine toI (y := r7) e9 ?_
                refine lv_if_ne (tgt := 156) hx hb d_Mod_actOnInput_124 (by decide) (fun hc8 => ?_) (fun hc8 => ?_)
                · rw [if_neg hc8] at h
                  exact (ih.2.2.2.2.2.2.2.2.1) T7 L M ls H locs h (lv_sub hl [0, 1, 2, 3] rfl) hP hD hS
                · rw [if_pos hc8] at h
                  exact (ih.2.2.2.2.2.2.1) T7 L M ls H locs h (lv_sub hl [0, 1, 2, 3] rfl) hP hD hS
        · rw [if_pos hc2] at h
          refine lv_aload_n hx hb d_Mod_actOnInput_57 rfl (lv_at hl 0 rfl) ?_
          refine lv_iload_n hx hb d_Mod_actOnInput_58 rfl (lv_at hl 2 rfl) ?_
          refine lv_iconst (v := 1) hx hb d_Mod_actOnInput_59 (by decide) ?_
          obtain ⟨⟨r9, T9⟩, hq9, h⟩ := Option.bind_eq_some_iff.mp h
          try dsimp only at h
          refine go_iS (As := [.ref (ad 0), .int (L 2), .int 1]) (g := g) (A := A) (h := shM) hP hK hD hS hA hN (fun hp => va_runV (As := [.int (L 2), .int 1]) (rest := []) ⟨hx, hb, hml, hown, htt⟩ (t_Mod_number l g _ ad S (L 2 : Int32) (1 : Int32) k9 r9 T9 hq9) ⟨(cb_L htt k_2918 k_276 k_2915 hd_Mod_number ⟨(Nat.le_trans (by decide +kernel) hRf), (Nat.le_trans (by decide +kernel) hRl)⟩), htt _ k_2917, htt _ k_172⟩ ⟨hp.1, S_recv hK hP 0 rfl rfl, hp.2⟩ rfl rfl hl.1 rfl (lv_room (Nat.le_of_ble_eq_true rfl)) d_Mod_actOnInput_60 ⟨hRc, hRs⟩) (fun r0 Sn H locs hw9 hP hD hS => ?_)
          obtain ⟨e9, e8⟩ := hw9
          rw [e8] at hP hD
          refine W.widen (k := cells) (n := slots) (Nat.le_refl _) (Nat.le_refl _) ?_
          refine toI (y := r9) e9 ?_
          refine lv_istore (lv' := [(4, .int r9), (0, .ref (ad 0)), (1, .int (L 1)), (2, .int (L 2)), (3, .int (L 3))]) hx hb d_Mod_actOnInput_63 hl (by decide) rfl (fun ls hl => ?_)
          refine lv_aload_n hx hb d_Mod_actOnInput_65 rfl (lv_at hl 1 rfl) ?_
          refine S_getI (h := shM) (C := "MacroMillModel") (T := F_Mod) hx hb htt in_Mod hown hK hP 0 10 rfl rfl rfl (by decide) (htt _ k_2246) (fun _ h9 => h9) d_Mod_actOnInput_66 ?_
          refine lv_if_ne (tgt := 85) hx hb d_Mod_actOnInput_69 (by decide) (fun hc10 => ?_) (fun hc10 => ?_)
          · rw [if_neg hc10] at h
            exact (ih.2.2.2.2.1) T9 (upd L 4 r9) M ls H locs h (lv_sub hl [1, 2, 3, 4, 0] rfl) hP hD hS
          · rw [if_pos hc10] at h
            refine lv_iload hx hb d_Mod_actOnInput_72 (lv_at hl 0 rfl) ?_
            show W _ _ _ _ _ _ _ _ _ _ _ _ _ _ _ (F0 _ 74 _ _)
            refine lv_bipush (v := 9) hx hb d_Mod_actOnInput_74 (by decide) ?_
            refine lv_icmp_le (tgt := 85) hx hb d_Mod_actOnInput_76 (by decide) (fun hc11 => ?_) (fun hc11 => ?_)
            · rw [if_pos hc11] at h
              exact (ih.2.2.2.2.1) T9 (upd L 4 r9) M ls H locs h (lv_sub hl [1, 2, 3, 4, 0] rfl) hP hD hS
            · rw [if_neg hc11] at h
              refine lv_aload_n hx hb d_Mod_actOnInput_79 rfl (lv_at hl 1 rfl) ?_
              refine lv_bipush (v := 36) hx hb d_Mod_actOnInput_80 (by decide) ?_
              obtain ⟨⟨r12, T12⟩, hq12, h⟩ := Option.bind_eq_some_iff.mp h
              try dsimp only at h
              refine go_vS (As := [.ref (ad 0), .int 36]) (g := g) (A := A) (h := shM) hP hK hD hS hA hN (fun hp => va_runV (As := [.int 36]) (rest := []) ⟨hx, hb, hml, hown, htt⟩ (t_Mod_fail1 l g _ ad T9 (36 : Int32) k9 r12 T12 hq12) ⟨(cb_L htt k_2767 k_276 k_2764 hd_Mod_fail1 ⟨(Nat.le_trans (by decide +kernel) hRf), (Nat.le_trans (by decide +kernel) hRl)⟩), htt _ k_2766, htt _ k_138⟩ ⟨hp.1, S_recv hK hP 0 rfl rfl, hp.2⟩ rfl rfl hl.1 rfl (lv_room (Nat.le_of_ble_eq_true rfl)) d_Mod_actOnInput_82 ⟨hRc, hRs⟩) (fun Sn H locs hw9 hP hD hS => ?_)
              have e8 := hw9
              rw [e8] at hP hD
              refine W.widen (k := cells) (n := slots) (Nat.le_refl _) (Nat.le_refl _) ?_
              exact (ih.2.2.2.2.1) T12 (upd L 4 r9) M ls H locs h (lv_sub hl [1, 2, 3, 4, 0] rfl) hP hD hS
      · rw [if_pos hc1] at h
        refine lv_iconst (v := 1) hx hb d_Mod_actOnInput_6 (by decide) ?_
        refine lv_istore (lv' := [(4, .int 1), (0, .ref (ad 0)), (1, .int (L 1)), (2, .int (L 2)), (3, .int (L 3))]) hx hb d_Mod_actOnInput_7 hl (by decide) rfl (fun ls hl => ?_)
        exact (ih.2.1) S (upd L 4 (1 : Int32)) M ls H locs h (lv_sub hl [1, 2, 3, 4, 0] rfl) hP hD hS
    · intro S L M ls H locs h hl hP hD hS
      simp only [f_Mod_actOnInput] at h
      refine lv_iload hx hb d_Mod_actOnInput_9 (lv_at hl 4 rfl) ?_
      refine lv_if_eq (tgt := 48) hx hb d_Mod_actOnInput_11 (by decide) (fun hc1 => ?_) (fun hc1 => ?_)
      · rw [if_pos hc1] at h
        exact (ih.2.2.2.1) S L M ls H locs h (lv_sub hl [0, 1, 2, 3, 4] rfl) hP hD hS
      · rw [if_neg hc1] at h
        refine lv_aload_n hx hb d_Mod_actOnInput_14 rfl (lv_at hl 0 rfl) ?_
        refine lv_iconst (v := 0) hx hb d_Mod_actOnInput_15 (by decide) ?_
        obtain ⟨⟨r2, T2⟩, hq2, h⟩ := Option.bind_eq_some_iff.mp h
        try dsimp only at h
        refine go_iS (As := [.ref (ad 0), .int 0]) (g := g) (A := A) (h := shM) hP hK hD hS hA hN (fun hp => va_runV (As := [.int 0]) (rest := []) ⟨hx, hb, hml, hown, htt⟩ (t_Mod_peek l g _ ad S (0 : Int32) k9 r2 T2 hq2) ⟨(cb_L htt k_2747 k_276 k_2744 hd_Mod_peek ⟨(Nat.le_trans (by decide +kernel) hRf), (Nat.le_trans (by decide +kernel) hRl)⟩), htt _ k_2746, htt _ k_133⟩ ⟨hp.1, S_recv hK hP 0 rfl rfl, hp.2⟩ rfl rfl hl.1 rfl (lv_room (Nat.le_of_ble_eq_true rfl)) d_Mod_actOnInput_16 ⟨hRc, hRs⟩) (fun r0 Sn H locs hw9 hP hD hS => ?_)
        obtain ⟨e9, e8⟩ := hw9
        rw [e8] at hP hD
        refine W.widen (k := cells) (n := slots) (Nat.le_refl _) (Nat.le_refl _) ?_
        refine toI (y := r2) e9 ?_
        refine lv_if_lt (tgt := 48) hx hb d_Mod_actOnInput_19 (by decide) (fun hc3 => ?_) (fun hc3 => ?_)
        · rw [if_pos hc3] at h
          exact (ih.2.2.2.1) T2 L M ls H locs h (lv_sub hl [0, 1, 2, 3, 4] rfl) hP hD hS
        · rw [if_neg hc3] at h
          refine lv_aload_n hx hb d_Mod_actOnInput_22 rfl (lv_at hl 0 rfl) ?_
          refine S_getI (h := shM) (C := "MacroMillModel") (T := F_Mod) hx hb htt in_Mod hown hK hP 0 10 rfl rfl rfl (by decide) (htt _ k_2246) (fun _ h9 => h9) d_Mod_actOnInput_23 ?_
          refine lv_if_ne (tgt := 48) hx hb d_Mod_actOnInput_26 (by decide) (fun hc4 => ?_) (fun hc4 => ?_)
          · rw [if_neg hc4] at h
            exact (ih.2.2.2.1) T2 L M ls H locs h (lv_sub hl [0, 1, 2, 3, 4] rfl) hP hD hS
          · rw [if_pos hc4] at h
            refine lv_aload_n hx hb d_Mod_actOnInput_29 rfl (lv_at hl 0 rfl) ?_
            obtain ⟨⟨r5, T5⟩, hq5, h⟩ := Option.bind_eq_some_iff.mp h
            try dsimp only at h
            refine go_iS (As := [.ref (ad 0)]) (g := g) (A := A) (h := shM) hP hK hD hS hA hN (fun hp => va_runV (As := []) (rest := []) ⟨hx, hb, hml, hown, htt⟩ (t_Mod_take l g _ ad T2 k9 r5 T5 hq5) ⟨(cb_L htt k_2763 k_276 k_2760 hd_Mod_take ⟨(Nat.le_trans (by decide +kernel) hRf), (Nat.le_trans (by decide +kernel) hRl)⟩), htt _ k_2762, htt _ k_137⟩ ⟨hp.1, S_recv hK hP 0 rfl rfl, hp.2⟩ rfl rfl hl.1 rfl (lv_room (Nat.le_of_ble_eq_true rfl)) d_Mod_actOnInput_30 ⟨hRc, hRs⟩) (fun r0 Sn H locs hw9 hP hD hS => ?_)
            obtain ⟨e9, e8⟩ := hw9
            rw [e8] at hP hD
            refine W.widen (k := cells) (n := slots) (Nat.le_refl _) (Nat.le_refl _) ?_
            refine toI (y := r5) e9 ?_
            refine lv_bipush (v := 10) hx hb d_Mod_actOnInput_33 (by decide) ?_
            refine lv_icmp_eq (tgt := 42) hx hb d_Mod_actOnInput_35 (by decide) (fun hc6 => ?_) (fun hc6 => ?_)
            · rw [if_pos hc6] at h
              refine lv_iconst (v := 0) hx hb d_Mod_actOnInput_42 (by decide) ?_
              exact (ih.2.2.1) T5 (upd L 100 (0 : Int32)) M ls H locs h (lv_sub hl [0, 1, 2, 3, 4] rfl) hP hD hS
            · rw [if_neg hc6] at h
              refine lv_iconst (v := 1) hx hb d_Mod_actOnInput_38 (by decide) ?_
              refine lv_goto (tgt := 43) hx hb d_Mod_actOnInput_39 (by decide) ?_
              exact (ih.2.2.1) T5 (upd L 100 (1 : Int32)) M ls H locs h (lv_sub hl [0, 1, 2, 3, 4] rfl) hP hD hS
    · intro S L M ls H locs h hl hP hD hS
      simp only [f_Mod_actOnInput] at h
      refine lv_istore (lv' := [(4, .int (L 100)), (0, .ref (ad 0)), (1, .int (L 1)), (2, .int (L 2)), (3, .int (L 3))]) hx hb d_Mod_actOnInput_43 hl (by decide) rfl (fun ls hl => ?_)
      refine lv_goto (tgt := 9) hx hb d_Mod_actOnInput_45 (by decide) ?_
      exact (ih.2.1) S (upd L 4 (L 100)) M ls H locs h (lv_sub hl [1, 2, 3, 4, 0] rfl) hP hD hS
    · intro S L M ls H locs h hl hP hD hS
      simp only [f_Mod_actOnInput] at h
      refine lv_goto (tgt := 209) hx hb d_Mod_actOnInput_48 (by decide) ?_
      exact (ih.2.2.2.2.2.2.2.2.2.2.2.2) S L M ls H locs h (lv_sub hl [0, 1, 2, 3] rfl) hP hD hS
    · intro S L M ls H locs h hl hP hD hS
      simp only [f_Mod_actOnInput] at h
      refine lv_aload_n hx hb d_Mod_actOnInput_85 rfl (lv_at hl 0 rfl) ?_
      refine lv_iload hx hb d_Mod_actOnInput_86 (lv_at hl 4 rfl) ?_
      refine lv_if_ge (tgt := 95) hx hb d_Mod_actOnInput_88 (by decide) (fun hc1 => ?_) (fun hc1 => ?_)
      · rw [if_pos hc1] at h
        refine lv_iload hx hb d_Mod_actOnInput_95 (lv_at hl 4 rfl) ?_
        exact (ih.2.2.2.2.2.1) S (upd L 101 (L 4)) M ls H locs h (lv_sub hl [0, 1, 2, 3, 4] rfl) hP hD hS
      · rw [if_neg hc1] at h
        refine lv_iconst (v := (-1)) hx hb d_Mod_actOnInput_91 (by decide) ?_
        refine lv_goto (tgt := 97) hx hb d_Mod_actOnInput_92 (by decide) ?_
        exact (ih.2.2.2.2.2.1) S (upd L 101 ((-1) : Int32)) M ls H locs h (lv_sub hl [0, 1, 2, 3, 4] rfl) hP hD hS
    · intro S L M ls H locs h hl hP hD hS
      simp only [f_Mod_actOnInput] at h
      refine S_put (h := shM) (C := "MacroMillModel") (T := F_Mod) (v := L 101) hx hb htt in_Mod t_Mod t_Mod_ok n_Mod hown hK hP hD hS 0 46 rfl rfl rfl (by decide) (htt _ k_2282) (fun _ h9 => h9) rfl rfl rfl d_Mod_actOnInput_97 (fun H locs hP hD hS => ?_)
      refine lv_goto (tgt := 209) hx hb d_Mod_actOnInput_100 (by decide) ?_
      exact (ih.2.2.2.2.2.2.2.2.2.2.2.2) (putI S 0 46 (L 101)) L M ls H locs h (lv_sub hl [0, 1, 2, 3] rfl) hP hD hS
    · intro S L M ls H locs h hl hP hD hS
      simp only [f_Mod_actOnInput] at h
      refine lv_iconst (v := 1) hx hb d_Mod_actOnInput_127 (by decide) ?_
      refine lv_istore (lv' := [(4, .int 1), (0, .ref (ad 0)), (1, .int (L 1)), (2, .int (L 2)), (3, .int (L 3))]) hx hb d_Mod_actOnInput_128 hl (by decide) rfl (fun ls hl => ?_)
      exact (ih.2.2.2.2.2.2.2.1) S (upd L 4 (1 : Int32)) M ls H locs h (lv_sub hl [1, 2, 3, 4, 0] rfl) hP hD hS
    · intro S L M ls H locs h hl hP hD hS
      simp only [f_Mod_actOnInput] at h
      refine lv_iload hx hb d_Mod_actOnInput_130 (lv_at hl 4 rfl) ?_
      refine lv_bipush (v := 10) hx hb d_Mod_actOnInput_132 (by decide) ?_
      refine lv_icmp_ge (tgt := 156) hx hb d_Mod_actOnInput_134 (by decide) (fun hc1 => ?_) (fun hc1 => ?_)
      · rw [if_pos hc1] at h
        exact (ih.2.2.2.2.2.2.2.2.1) S L M ls H locs h (lv_sub hl [0, 1, 2, 3] rfl) hP hD hS
      · rw [if_neg hc1] at h
        refine lv_aload_n hx hb d_Mod_actOnInput_137 rfl (lv_at hl 0 rfl) ?_
        refine S_getI (h := shM) (C := "MacroMillModel") (T := F_Mod) hx hb htt in_Mod hown hK hP 0 10 rfl rfl rfl (by decide) (htt _ k_2246) (fun _ h9 => h9) d_Mod_actOnInput_138 ?_
        refine lv_if_ne (tgt := 156) hx hb d_Mod_actOnInput_141 (by decide) (fun hc2 => ?_) (fun hc2 => ?_)
        · rw [if_neg hc2] at h
          exact (ih.2.2.2.2.2.2.2.2.1) S L M ls H locs h (lv_sub hl [0, 1, 2, 3] rfl) hP hD hS
        · rw [if_pos hc2] at h
          refine lv_aload_n hx hb d_Mod_actOnInput_144 rfl (lv_at hl 0 rfl) ?_
          refine lv_iload hx hb d_Mod_actOnInput_145 (lv_at hl 4 rfl) ?_
          obtain ⟨⟨r3, T3⟩, hq3, h⟩ := Option.bind_eq_some_iff.mp h
          try dsimp only at h
          refine go_vS (As := [.ref (ad 0), .int (L 4)]) (g := g) (A := A) (h := shM) hP hK hD hS hA hN (fun hp => va_runV (As := [.int (L 4)]) (rest := []) ⟨hx, hb, hml, hown, htt⟩ (t_Mod_undivert l g _ ad S (L 4 : Int32) k9 r3 T3 hq3) ⟨(cb_L htt k_2938 k_276 k_2935 hd_Mod_undivert ⟨(Nat.le_trans (by decide +kernel) hRf), (Nat.le_trans (by decide +kernel) hRl)⟩), htt _ k_2937, htt _ k_177⟩ ⟨hp.1, S_recv hK hP 0 rfl rfl, hp.2⟩ rfl rfl hl.1 rfl (lv_room (Nat.le_of_ble_eq_true rfl)) d_Mod_actOnInput_147 ⟨hRc, hRs⟩) (fun Sn H locs hw9 hP hD hS => ?_)
          have e8 := hw9
          rw [e8] at hP hD
          refine W.widen (k := cells) (n := slots) (Nat.le_refl _) (Nat.le_refl _) ?_
          refine lv_iinc (k := 4) (v := (L 4) + 1) (lv' := [(4, .int ((L 4) + 1)), (0, .ref (ad 0)), (1, .int (L 1)), (2, .int (L 2)), (3, .int (L 3))]) hx hb d_Mod_actOnInput_150 hl rfl rfl (by decide) rfl (fun ls hl => ?_)
          refine lv_goto (tgt := 130) hx hb d_Mod_actOnInput_153 (by decide) ?_
          exact (ih.2.2.2.2.2.2.2.1) T3 (upd L 4 ((L 4) + 1)) M ls H locs h (lv_sub hl [1, 2, 3, 4, 0] rfl) hP hD hS
    · intro S L M ls H locs h hl hP hD hS
      simp only [f_Mod_actOnInput] at h
      refine lv_iconst (v := 1) hx hb d_Mod_actOnInput_156 (by decide) ?_
      refine lv_istore (lv' := [(4, .int 1), (0, .ref (ad 0)), (1, .int (L 1)), (2, .int (L 2)), (3, .int (L 3))]) hx hb d_Mod_actOnInput_157 hl (by decide) rfl (fun ls hl => ?_)
      exact (ih.2.2.2.2.2.2.2.2.2.1) S (upd L 4 (1 : Int32)) M ls H locs h (lv_sub hl [1, 2, 3, 4, 0] rfl) hP hD hS
    · intro S L M ls H locs h hl hP hD hS
      simp only [f_Mod_actOnInput] at h
      refine lv_iload hx hb d_Mod_actOnInput_159 (lv_at hl 4 rfl) ?_
      refine lv_iload_n hx hb d_Mod_actOnInput_161 rfl (lv_at hl 3 rfl) ?_
      refine lv_icmp_gt (tgt := 200) hx hb d_Mod_actOnInput_162 (by decide) (fun hc1 => ?_) (fun hc1 => ?_)
      · rw [if_pos hc1] at h
        exact (ih.2.2.2.2.2.2.2.2.2.2.2.1) S L M ls H locs h (lv_sub hl [0, 1, 2, 3, 4] rfl) hP hD hS
      · rw [if_neg hc1] at h
        refine lv_aload_n hx hb d_Mod_actOnInput_165 rfl (lv_at hl 0 rfl) ?_
        refine S_getI (h := shM) (C := "MacroMillModel") (T := F_Mod) hx hb htt in_Mod hown hK hP 0 10 rfl rfl rfl (by decide) (htt _ k_2246) (fun _ h9 => h9) d_Mod_actOnInput_166 ?_
        refine lv_if_ne (tgt := 200) hx hb d_Mod_actOnInput_169 (by decide) (fun hc2 => ?_) (fun hc2 => ?_)
        · rw [if_neg hc2] at h
          exact (ih.2.2.2.2.2.2.2.2.2.2.2.1) S L M ls H locs h (lv_sub hl [0, 1, 2, 3, 4] rfl) hP hD hS
        · rw [if_pos hc2] at h
          refine lv_aload_n hx hb d_Mod_actOnInput_172 rfl (lv_at hl 0 rfl) ?_
          refine lv_iload_n hx hb d_Mod_actOnInput_173 rfl (lv_at hl 2 rfl) ?_
          refine lv_iload hx hb d_Mod_actOnInput_174 (lv_at hl 4 rfl) ?_
          obtain ⟨⟨r3, T3⟩, hq3, h⟩ := Option.bind_eq_some_iff.mp h
          try dsimp only at h
          refine go_iS (As := [.ref (ad 0), .int (L 2), .int (L 4)]) (g := g) (A := A) (h := shM) hP hK hD hS hA hN (fun hp => va_runV (As := [.int (L 2), .int (L 4)]) (rest := []) ⟨hx, hb, hml, hown, htt⟩ (t_Mod_number l g _ ad S (L 2 : Int32) (L 4 : Int32) k9 r3 T3 hq3) ⟨(cb_L htt k_2918 k_276 k_2915 hd_Mod_number ⟨(Nat.le_trans (by decide +kernel) hRf), (Nat.le_trans (by decide +kernel) hRl)⟩), htt _ k_2917, htt _ k_172⟩ ⟨hp.1, S_recv hK hP 0 rfl rfl, hp.2⟩ rfl rfl hl.1 rfl (lv_room (Nat.le_of_ble_eq_true rfl)) d_Mod_actOnInput_176 ⟨hRc, hRs⟩) (fun r0 Sn H locs hw9 hP hD hS => ?_)
          obtain ⟨e9, e8⟩ := hw9
          rw [e8] at hP hD
          refine W.widen (k := cells) (n := slots) (Nat.le_refl _) (Nat.le_refl _) ?_
          refine toI (y := r3) e9 ?_
          refine lv_istore (lv' := [(5, .int r3), (0, .ref (ad 0)), (1, .int (L 1)), (2, .int (L 2)), (3, .int (L 3)), (4, .int (L 4))]) hx hb d_Mod_actOnInput_179 hl (by decide) rfl (fun ls hl => ?_)
          refine lv_aload_n hx hb d_Mod_actOnInput_181 rfl (lv_at hl 1 rfl) ?_
          refine S_getI (h := shM) (C := "MacroMillModel") (T := F_Mod) hx hb htt in_Mod hown hK hP 0 10 rfl rfl rfl (by decide) (htt _ k_2246) (fun _ h9 => h9) d_Mod_actOnInput_182 ?_
          refine lv_if_ne (tgt := 194) hx hb d_Mod_actOnInput_185 (by decide) (fun hc4 => ?_) (fun hc4 => ?_)
          · rw [if_neg hc4] at h
            exact (ih.2.2.2.2.2.2.2.2.2.2.1) T3 (upd L 5 r3) M ls H locs h (lv_sub hl [1, 2, 3, 4, 5, 0] rfl) hP hD hS
          · rw [if_pos hc4] at h
            refine lv_aload_n hx hb d_Mod_actOnInput_188 rfl (lv_at hl 1 rfl) ?_
            show W _ _ _ _ _ _ _ _ _ _ _ _ _ _ _ (F0 _ 189 _ _)
            refine lv_iload hx hb d_Mod_actOnInput_189 (lv_at hl 0 rfl) ?_
            obtain ⟨⟨r5, T5⟩, hq5, h⟩ := Option.bind_eq_some_iff.mp h
            try dsimp only at h
            refine go_vS (As := [.ref (ad 0), .int r3]) (g := g) (A := A) (h := shM) hP hK hD hS hA hN (fun hp => va_runV (As := [.int r3]) (rest := []) ⟨hx, hb, hml, hown, htt⟩ (t_Mod_undivert l g _ ad T3 (r3 : Int32) k9 r5 T5 hq5) ⟨(cb_L htt k_2938 k_276 k_2935 hd_Mod_undivert ⟨(Nat.le_trans (by decide +kernel) hRf), (Nat.le_trans (by decide +kernel) hRl)⟩), htt _ k_2937, htt _ k_177⟩ ⟨hp.1, S_recv hK hP 0 rfl rfl, hp.2⟩ rfl rfl hl.1 rfl (lv_room (Nat.le_of_ble_eq_true rfl)) d_Mod_actOnInput_191 ⟨hRc, hRs⟩) (fun Sn H locs hw9 hP hD hS => ?_)
            have e8 := hw9
            rw [e8] at hP hD
            refine W.widen (k := cells) (n := slots) (Nat.le_refl _) (Nat.le_refl _) ?_
            exact (ih.2.2.2.2.2.2.2.2.2.2.1) T5 (upd L 5 r3) M ls H locs h (lv_sub hl [1, 2, 3, 4, 5, 0] rfl) hP hD hS
    · intro S L M ls H locs h hl hP hD hS
      simp only [f_Mod_actOnInput] at h
      refine lv_iinc (k := 4) (v := (L 4) + 1) (lv' := [(4, .int ((L 4) + 1)), (0, .ref (ad 0)), (1, .int (L 1)), (2, .int (L 2)), (3, .int (L 3)), (5, .int (L 5))]) hx hb d_Mod_actOnInput_194 hl rfl rfl (by decide) rfl (fun ls hl => ?_)
      refine lv_goto (tgt := 159) hx hb d_Mod_actOnInput_197 (by decide) ?_
      exact (ih.2.2.2.2.2.2.2.2.2.1) S (upd L 4 ((L 4) + 1)) M ls H locs h (lv_sub hl [1, 2, 3, 4, 0] rfl) hP hD hS
    · intro S L M ls H locs h hl hP hD hS
      simp only [f_Mod_actOnInput] at h
      refine lv_goto (tgt := 209) hx hb d_Mod_actOnInput_200 (by decide) ?_
      exact (ih.2.2.2.2.2.2.2.2.2.2.2.2) S L M ls H locs h (lv_sub hl [0, 1, 2, 3] rfl) hP hD hS
    · intro S L M ls H locs h hl hP hD hS
      simp only [f_Mod_actOnInput] at h
      cases h
      exact kx_209 ls H locs hP hD hS
abbrev rm_t_Mod_actOnInput : Room := { frames := 4, cells := 0, slots := 0, locals := 89 }
theorem t_Mod_actOnInput (l : Launch) (g : gG) (sz : Nat) (ad : Nat → Nat) (S : sS) (v1 : Int32) (v2 : Int32) (v3 : Int32) (k : Nat) (r : Int32) (S9 : sS) (h : f_Mod_actOnInput k 0 S (upd (upd (upd (fun _ => 0) 1 v1) 2 v2) 3 v3) (fun _ => 0) = some (r, S9)) : Cv l y_Mod_actOnInput b_Mod_actOnInput 6 rm_t_Mod_actOnInput g [.ref (ad 0), .int v1, .int v2, .int v3] (Sw shM g ad S) sz (fun w => ∃ S1 : sS, w = Sw shM g ad S1 ∧ S1 = S9) := by
  refine startV (by decide) (Nat.le_of_ble_eq_true rfl) ?_
  intro p e s m below meth c A ls hx hb hr hml hlocks hmn hown htt hN hA hP hK hD hS hl
  exact (w_Mod_actOnInput hx hb hml hown htt hK hN hA (by decide +kernel) (by decide +kernel) (by decide +kernel) (by decide +kernel) r S9 (fun ls H locs hP hD hS => fin_v (g := g) (ws := Sw shM g ad S9) hx hb hr hlocks (by decide +kernel) (by decide +kernel) hP hD hS ⟨_, rfl, rfl⟩ d_Mod_actOnInput_209) k).1 S (upd (upd (upd (fun _ => 0) 1 v1) 2 v2) 3 v3) (fun _ => 0) ls _ _ h hl hP hD hS
def f_Mod_settle_II : Nat → Nat → sS → (Nat → Int32) → (Nat → Int64) → Option (Int32 × sS)
  | 0, _, _, _, _ => none
  | k + 1, 0, S, L, M => if okI ((S.1 0 57) - (1 : Int32)) 400 = true then (if okI ((S.1 0 57) - (1 : Int32)) 400 = true then ((f_Mod_apply k 0 (putI S 0 57 ((S.1 0 57) - (1 : Int32))) (upd (upd (upd (fun _ => 0) 1 ((putI S 0 57 ((S.1 0 57) - (1 : Int32))).2.1 21 ((S.1 0 57) - (1 : Int32) : Int32).toNatClampNeg : Int32)) 2 ((putI S 0 57 ((S.1 0 57) - (1 : Int32))).2.1 22 ((S.1 0 57) - (1 : Int32) : Int32).toNatClampNeg : Int32)) 3 (L 1 : Int32)) (fun _ => 0)).bind (fun (r3, T3) => some (r3, T3))) else none) else none
  | _ + 1, _ + 1, _, _, _ => none
set_option maxHeartbeats 8000000 in
set_option maxRecDepth 100000 in
theorem w_Mod_settle_II {p : Program} {l : Launch} {e : Env} {R : Room} {s : State} {m : MethodId} {args : Array Value} {below : List Frame} {meth : Method} {c : Code} {cells slots : Nat} {Q : State → Prop} {g : gG} {A : Nat → Prop} {ad : Nat → Nat} (hx : p.tables.exec = Jvm.exec) (hb : c.code = b_Mod_settle_II) (hml : c.maxLocals = 2) (hown : s.vm.findClass "MacroMillModel" = some m.cls) (htt : ∀ w ∈ gt, w.before args s = true) (hK : va_K g.1 classes (tysG g) s) (hN : nw s) (hA : ∀ q : Nat, s.heap.size ≤ q → A q) (hRf : 1 ≤ R.frames) (hRl : 23 ≤ R.locals) (hRc : cells ≤ R.cells) (hRs : slots ≤ R.slots) (r : Int32) (S9 : sS)
    (kx_33 : ∀ (ls : Array Slot) (H : Heap) (locs : List Loc), va_P g.1 classes (Sw shM g ad S9) H → va_D A (Sw shM g ad S9) → va_S A s.heap H locs → W p l e R s m args below meth c H locs cells slots Q (F0 m 33 ls [.int r])) :
    ∀ k9 : Nat, (∀ (S : sS) (L : Nat → Int32) (M : Nat → Int64) (ls : Array Slot) (H : Heap) (locs : List Loc), f_Mod_settle_II k9 0 S L M = some (r, S9) → lv_has ls 2 [(0, .ref (ad 0)), (1, .int (L 1))] → va_P g.1 classes (Sw shM g ad S) H → va_D A (Sw shM g ad S) → va_S A s.heap H locs → W p l e R s m args below meth c H locs cells slots Q (F0 m 0 ls [])) := by
  intro k9
  induction k9 with
  | zero => exact (fun _ _ _ _ _ _ h => by simp [f_Mod_settle_II] at h)
  | succ k9 ih =>
    · intro S L M ls H locs h hl hP hD hS
      simp only [f_Mod_settle_II] at h
      refine lv_aload_n hx hb d_Mod_settle_II_0 rfl (lv_at hl 0 rfl) ?_
      refine lv_dup hx hb d_Mod_settle_II_1 rfl ?_
      refine S_getI (h := shM) (C := "MacroMillModel") (T := F_Mod) hx hb htt in_Mod hown hK hP 0 57 rfl rfl rfl (by decide) (htt _ k_2293) (fun _ h9 => h9) d_Mod_settle_II_2 ?_
      refine lv_iconst (v := 1) hx hb d_Mod_settle_II_5 (by decide) ?_
      refine lv_isub hx hb d_Mod_settle_II_6 ?_
      refine S_put (h := shM) (C := "MacroMillModel") (T := F_Mod) (v := (S.1 0 57) - (1 : Int32)) hx hb htt in_Mod t_Mod t_Mod_ok n_Mod hown hK hP hD hS 0 57 rfl rfl rfl (by decide) (htt _ k_2293) (fun _ h9 => h9) rfl rfl rfl d_Mod_settle_II_7 (fun H locs hP hD hS => ?_)
      refine lv_aload_n hx hb d_Mod_settle_II_10 rfl (lv_at hl 0 rfl) ?_
      refine lv_aload_n hx hb d_Mod_settle_II_11 rfl (lv_at hl 0 rfl) ?_
      refine S_getR (h := shM) (C := "MacroMillModel") (T := F_Mod) hx hb htt in_Mod hown hK hP 0 58 rfl 22 rfl rfl (by decide) (htt _ k_2294) (fun _ h9 => h9) d_Mod_settle_II_12 ?_
      refine lv_aload_n hx hb d_Mod_settle_II_15 rfl (lv_at hl 0 rfl) ?_
      refine S_getI (h := shM) (C := "MacroMillModel") (T := F_Mod) hx hb htt in_Mod hown hK hP 0 57 rfl rfl rfl (by decide) (htt _ k_2293) (fun _ h9 => h9) d_Mod_settle_II_16 ?_
      refine toI (y := (S.1 0 57) - (1 : Int32)) rfl ?_
      obtain ⟨hv1, h⟩ := chk h
      show W _ _ _ _ _ _ _ _ _ _ _ _ _ _ _ (F0 _ 19 _ _)
      refine S_iald (h := shM) (i := (S.1 0 57) - (1 : Int32)) hx hb hK hP 21 rfl (okI_in hv1) d_Mod_settle_II_19 ?_
      refine lv_aload_n hx hb d_Mod_settle_II_20 rfl (lv_at hl 0 rfl) ?_
      refine S_getR (h := shM) (C := "MacroMillModel") (T := F_Mod) hx hb htt in_Mod hown hK hP 0 59 rfl 23 rfl rfl (by decide) (htt _ k_2295) (fun _ h9 => h9) d_Mod_settle_II_21 ?_
      refine lv_aload_n hx hb d_Mod_settle_II_24 rfl (lv_at hl 0 rfl) ?_
      refine S_getI (h := shM) (C := "MacroMillModel") (T := F_Mod) hx hb htt in_Mod hown hK hP 0 57 rfl rfl rfl (by decide) (htt _ k_2293) (fun _ h9 => h9) d_Mod_settle_II_25 ?_
      refine toI (y := (S.1 0 57) - (1 : Int32)) rfl ?_
      obtain ⟨hv2, h⟩ := chk h
      refine S_iald (h := shM) (i := (S.1 0 57) - (1 : Int32)) hx hb hK hP 22 rfl (okI_in hv2) d_Mod_settle_II_28 ?_
      refine lv_iload_n hx hb d_Mod_settle_II_29 rfl (lv_at hl 1 rfl) ?_
      obtain ⟨⟨r3, T3⟩, hq3, h⟩ := Option.bind_eq_some_iff.mp h
      try dsimp only at h
      refine go_iS (As := [.ref (ad 0), .int ((putI S 0 57 ((S.1 0 57) - (1 : Int32))).2.1 21 ((S.1 0 57) - (1 : Int32) : Int32).toNatClampNeg), .int ((putI S 0 57 ((S.1 0 57) - (1 : Int32))).2.1 22 ((S.1 0 57) - (1 : Int32) : Int32).toNatClampNeg), .int (L 1)]) (g := g) (A := A) (h := shM) hP hK hD hS hA hN (fun hp => va_runV (As := [.int ((putI S 0 57 ((S.1 0 57) - (1 : Int32))).2.1 21 ((S.1 0 57) - (1 : Int32) : Int32).toNatClampNeg), .int ((putI S 0 57 ((S.1 0 57) - (1 : Int32))).2.1 22 ((S.1 0 57) - (1 : Int32) : Int32).toNatClampNeg), .int (L 1)]) (rest := []) ⟨hx, hb, hml, hown, htt⟩ (t_Mod_apply l g _ ad (putI S 0 57 ((S.1 0 57) - (1 : Int32))) ((putI S 0 57 ((S.1 0 57) - (1 : Int32))).2.1 21 ((S.1 0 57) - (1 : Int32) : Int32).toNatClampNeg : Int32) ((putI S 0 57 ((S.1 0 57) - (1 : Int32))).2.1 22 ((S.1 0 57) - (1 : Int32) : Int32).toNatClampNeg : Int32) (L 1 : Int32) k9 r3 T3 hq3) ⟨(cb_L htt k_2914 k_276 k_2911 hd_Mod_apply ⟨(Nat.le_trans (by decide +kernel) hRf), (Nat.le_trans (by decide +kernel) hRl)⟩), htt _ k_2913, htt _ k_171⟩ ⟨hp.1, S_recv hK hP 0 rfl rfl, hp.2⟩ rfl rfl hl.1 rfl (lv_room (Nat.le_of_ble_eq_true rfl)) d_Mod_settle_II_30 ⟨hRc, hRs⟩) (fun r0 Sn H locs hw9 hP hD hS => ?_)
      obtain ⟨e9, e8⟩ := hw9
      rw [e8] at hP hD
      refine W.widen (k := cells) (n := slots) (Nat.le_refl _) (Nat.le_refl _) ?_
      refine toI (y := r3) e9 ?_
      cases h
      exact kx_33 ls H locs hP hD hS
abbrev rm_t_Mod_settle_II : Room := { frames := 1, cells := 0, slots := 0, locals := 23 }
theorem t_Mod_settle_II (l : Launch) (g : gG) (sz : Nat) (ad : Nat → Nat) (S : sS) (v1 : Int32) (k : Nat) (r : Int32) (S9 : sS) (h : f_Mod_settle_II k 0 S (upd (fun _ => 0) 1 v1) (fun _ => 0) = some (r, S9)) : Ci l y_Mod_settle_II b_Mod_settle_II 2 rm_t_Mod_settle_II g [.ref (ad 0), .int v1] (Sw shM g ad S) sz (fun r1 w => ∃ S1 : sS, w = Sw shM g ad S1 ∧ r1 = r ∧ S1 = S9) := by
  refine startI (by decide) (Nat.le_of_ble_eq_true rfl) ?_
  intro p e s m below meth c A ls hx hb hr hml hlocks hmn hown htt hN hA hP hK hD hS hl
  exact (w_Mod_settle_II hx hb hml hown htt hK hN hA (by decide +kernel) (by decide +kernel) (by decide +kernel) (by decide +kernel) r S9 (fun ls H locs hP hD hS => fin_i (g := g) (ws := Sw shM g ad S9) hx hb hr hlocks (by decide +kernel) (by decide +kernel) hP hD hS ⟨_, rfl, rfl, rfl⟩ d_Mod_settle_II_33) k) S (upd (fun _ => 0) 1 v1) (fun _ => 0) ls _ _ h hl hP hD hS
def f_Mod_setOfSome : Nat → Nat → sS → (Nat → Int32) → (Nat → Int64) → Option (Int32 × sS)
  | 0, _, _, _, _ => none
  | k + 1, 0, S, L, M => f_Mod_setOfSome k 1 S (upd L 2 (0 : Int32)) M
  | k + 1, 1, S, L, M => if (S.1 0 89) < (L 2) then (if (S.1 0 89) = (1000 : Int32) then ((f_Mod_fail2 k 0 S (upd (upd (fun _ => 0) 1 (21 : Int32)) 2 (L 1 : Int32)) (fun _ => 0)).bind (fun (r3, T3) => some ((0 : Int32), T3))) else (f_Mod_setOfSome k 5 (putI S 0 89 ((S.1 0 89) + (1 : Int32))) (upd L 2 (0 : Int32)) M)) else (f_Mod_setOfSome k 2 S (upd (upd L 3 (1 : Int32)) 4 (0 : Int32)) M)
  | k + 1, 2, S, L, M => if (7 : Int32) ≤ (L 4) then (if (L 3) = (0 : Int32) then (f_Mod_setOfSome k 1 S (upd L 2 ((L 2) + 1)) M) else (some (L 2, S))) else (if (L 3) = (0 : Int32) then (f_Mod_setOfSome k 3 S L M) else (if okI (((7 : Int32) * (L 2)) + (L 4)) 7007 = true then (if okI (L 4) 7 = true then (if (lg_cmp (S.2.2 46 (((7 : Int32) * (L 2)) + (L 4) : Int32).toNatClampNeg) (S.2.2 47 (L 4 : Int32).toNatClampNeg)) = (0 : Int32) then (f_Mod_setOfSome k 4 S (upd L 100 (1 : Int32)) M) else (f_Mod_setOfSome k 3 S L M)) else none) else none))
  | k + 1, 3, S, L, M => f_Mod_setOfSome k 4 S (upd L 100 (0 : Int32)) M
  | k + 1, 4, S, L, M => f_Mod_setOfSome k 2 S (upd (upd L 3 (L 100)) 4 ((L 4) + 1)) M
  | k + 1, 5, S, L, M => if (7 : Int32) ≤ (L 2) then (some (S.1 0 89, S)) else (if okI (L 2) 7 = true then (if okI (((7 : Int32) * (S.1 0 89)) + (L 2)) 7007 = true then (f_Mod_setOfSome k 5 (putL S 46 (((7 : Int32) * (S.1 0 89)) + (L 2) : Int32).toNatClampNeg (S.2.2 47 (L 2 : Int32).toNatClampNeg)) (upd L 2 ((L 2) + 1)) M) else none) else none)
  | _ + 1, _ + 6, _, _, _ => none
set_option maxHeartbeats 8000000 in
set_option maxRecDepth 100000 in
theorem w_Mod_setOfSome {p : Program} {l : Launch} {e : Env} {R : Room} {s : State} {m : MethodId} {args : Array Value} {below : List Frame} {meth : Method} {c : Code} {cells slots : Nat} {Q : State → Prop} {g : gG} {A : Nat → Prop} {ad : Nat → Nat} (hx : p.tables.exec = Jvm.exec) (hb : c.code = b_Mod_setOfSome) (hml : c.maxLocals = 5) (hown : s.vm.findClass "MacroMillModel" = some m.cls) (htt : ∀ w ∈ gt, w.before args s = true) (hK : va_K g.1 classes (tysG g) s) (hN : nw s) (hA : ∀ q : Nat, s.heap.size ≤ q → A q) (hRf : 2 ≤ R.frames) (hRl : 45 ≤ R.locals) (hRc : cells ≤ R.cells) (hRs : slots ≤ R.slots) (r : Int32) (S9 : sS)
    (kx_66 : ∀ (ls : Array Slot) (H : Heap) (locs : List Loc), va_P g.1 classes (Sw shM g ad S9) H → va_D A (Sw shM g ad S9) → va_S A s.heap H locs → W p l e R s m args below meth c H locs cells slots Q (F0 m 66 ls [.int r]))
    (kx_91 : ∀ (ls : Array Slot) (H : Heap) (locs : List Loc), va_P g.1 classes (Sw shM g ad S9) H → va_D A (Sw shM g ad S9) → va_S A s.heap H locs → W p l e R s m args below meth c H locs cells slots Q (F0 m 91 ls [.int r]))
    (kx_140 : ∀ (ls : Array Slot) (H : Heap) (locs : List Loc), va_P g.1 classes (Sw shM g ad S9) H → va_D A (Sw shM g ad S9) → va_S A s.heap H locs → W p l e R s m args below meth c H locs cells slots Q (F0 m 140 ls [.int r])) :
    ∀ k9 : Nat, (∀ (S : sS) (L : Nat → Int32) (M : Nat → Int64) (ls : Array Slot) (H : Heap) (locs : List Loc), f_Mod_setOfSome k9 0 S L M = some (r, S9) → lv_has ls 5 [(0, .ref (ad 0)), (1, .int (L 1))] → va_P g.1 classes (Sw shM g ad S) H → va_D A (Sw shM g ad S) → va_S A s.heap H locs → W p l e R s m args below meth c H locs cells slots Q (F0 m 0 ls [])) ∧ (∀ (S : sS) (L : Nat → Int32) (M : Nat → Int64) (ls : Array Slot) (H : Heap) (locs : List Loc), f_Mod_setOfSome k9 1 S L M = some (r, S9) → lv_has ls 5 [(0, .ref (ad 0)), (1, .int (L 1)), (2, .int (L 2))] → va_P g.1 classes (Sw shM g ad S) H → va_D A (Sw shM g ad S) → va_S A s.heap H locs → W p l e R s m args below meth c H locs cells slots Q (F0 m 2 ls [])) ∧ (∀ (S : sS) (L : Nat → Int32) (M : Nat → Int64) (ls : Array Slot) (H : Heap) (locs : List Loc), f_Mod_setOfSome k9 2 S L M = some (r, S9) → lv_has ls 5 [(0, .ref (ad 0)), (1, .int (L 1)), (2, .int (L 2)), (3, .int (L 3)), (4, .int (L 4))] → va_P g.1 classes (Sw shM g ad S) H → va_D A (Sw shM g ad S) → va_S A s.heap H locs → W p l e R s m args below meth c H locs cells slots Q (F0 m 15 ls [])) ∧ (∀ (S : sS) (L : Nat → Int32) (M : Nat → Int64) (ls : Array Slot) (H : Heap) (locs : List Loc), f_Mod_setOfSome k9 3 S L M = some (r, S9) → lv_has ls 5 [(0, .ref (ad 0)), (1, .int (L 1)), (2, .int (L 2)), (3, .int (L 3)), (4, .int (L 4))] → va_P g.1 classes (Sw shM g ad S) H → va_D A (Sw shM g ad S) → va_S A s.heap H locs → W p l e R s m args below meth c H locs cells slots Q (F0 m 53 ls [])) ∧ (∀ (S : sS) (L : Nat → Int32) (M : Nat → Int64) (ls : Array Slot) (H : Heap) (locs : List Loc), f_Mod_setOfSome k9 4 S L M = some (r, S9) → lv_has ls 5 [(0, .ref (ad 0)), (1, .int (L 1)), (2, .int (L 2)), (3, .int (L 3)), (4, .int (L 4))] → va_P g.1 classes (Sw shM g ad S) H → va_D A (Sw shM g ad S) → va_S A s.heap H locs → W p l e R s m args below meth c H locs cells slots Q (F0 m 54 ls [.int (L 100)])) ∧ (∀ (S : sS) (L : Nat → Int32) (M : Nat → Int64) (ls : Array Slot) (H : Heap) (locs : List Loc), f_Mod_setOfSome k9 5 S L M = some (r, S9) → lv_has ls 5 [(0, .ref (ad 0)), (1, .int (L 1)), (2, .int (L 2))] → va_P g.1 classes (Sw shM g ad S) H → va_D A (Sw shM g ad S) → va_S A s.heap H locs → W p l e R s m args below meth c H locs cells slots Q (F0 m 104 ls [])) := by
  intro k9
  induction k9 with
  | zero => exact ⟨(fun _ _ _ _ _ _ h => by simp [f_Mod_setOfSome] at h), (fun _ _ _ _ _ _ h => by simp [f_Mod_setOfSome] at h), (fun _ _ _ _ _ _ h => by simp [f_Mod_setOfSome] at h), (fun _ _ _ _ _ _ h => by simp [f_Mod_setOfSome] at h), (fun _ _ _ _ _ _ h => by simp [f_Mod_setOfSome] at h), (fun _ _ _ _ _ _ h => by simp [f_Mod_setOfSome] at h)⟩
  | succ k9 ih =>
    refine ⟨?_, ?_, ?_, ?_, ?_, ?_⟩
    · intro S L M ls H locs h hl hP hD hS
      simp only [f_Mod_setOfSome] at h
      refine lv_iconst (v := 0) hx hb d_Mod_setOfSome_0 (by decide) ?_
      refine lv_istore_n (lv' := [(2, .int 0), (0, .ref (ad 0)), (1, .int (L 1))]) hx hb d_Mod_setOfSome_1 rfl hl (by decide) rfl (fun ls hl => ?_)
      exact (ih.2.1) S (upd L 2 (0 : Int32)) M ls H locs h (lv_sub hl [1, 2, 0] rfl) hP hD hS
    · intro S L M ls H locs h hl hP hD hS
      simp only [f_Mod_setOfSome] at h
      refine lv_iload_n hx hb d_Mod_setOfSome_2 rfl (lv_at hl 2 rfl) ?_
      refine lv_aload_n hx hb d_Mod_setOfSome_3 rfl (lv_at hl 0 rfl) ?_
      refine S_getI (h := shM) (C := "MacroMillModel") (T := F_Mod) hx hb htt in_Mod hown hK hP 0 89 rfl rfl rfl (by decide) (htt _ k_2325) (fun _ h9 => h9) d_Mod_setOfSome_4 ?_
      refine lv_icmp_gt (tgt := 73) hx hb d_Mod_setOfSome_7 (by decide) (fun hc1 => ?_) (fun hc1 => ?_)
      · rw [if_pos hc1] at h
        refine lv_aload_n hx hb d_Mod_setOfSome_73 rfl (lv_at hl 0 rfl) ?_
        refine S_getI (h := shM) (C := "MacroMillModel") (T := F_Mod) hx hb htt in_Mod hown hK hP 0 89 rfl rfl rfl (by decide) (htt _ k_2325) (fun _ h9 => h9) d_Mod_setOfSome_74 ?_
        refine lv_sipush (v := 1000) hx hb d_Mod_setOfSome_77 (by decide) ?_
        refine lv_icmp_ne (tgt := 92) hx hb d_Mod_setOfSome_80 (by decide) (fun hc2 => ?_) (fun hc2 => ?_)
        · rw [if_neg hc2] at h
          refine lv_aload_n hx hb d_Mod_setOfSome_92 rfl (lv_at hl 0 rfl) ?_
          refine lv_dup hx hb d_Mod_setOfSome_93 rfl ?_
          refine S_getI (h := shM) (C := "MacroMillModel") (T := F_Mod) hx hb htt in_Mod hown hK hP 0 89 rfl rfl rfl (by decide) (htt _ k_2325) (fun _ h9 => h9) d_Mod_setOfSome_94 ?_
          refine lv_iconst (v := 1) hx hb d_Mod_setOfSome_97 (by decide) ?_
          refine lv_iadd hx hb d_Mod_setOfSome_98 ?_
          show W _ _ _ _ _ _ _ _ _ _ _ _ _ _ _ (F0 _ 99 _ _)
          refine S_put (h := shM) (C := "MacroMillModel") (T := F_Mod) (v := (S.1 0 89) + (1 : Int32)) hx hb htt in_Mod t_Mod t_Mod_ok n_Mod hown hK hP hD hS 0 89 rfl rfl rfl (by decide) (htt _ k_2325) (fun _ h9 => h9) rfl rfl rfl d_Mod_setOfSome_99 (fun H locs hP hD hS => ?_)
          refine lv_iconst (v := 0) hx hb d_Mod_setOfSome_102 (by decide) ?_
          refine lv_istore_n (lv' := [(2, .int 0), (0, .ref (ad 0)), (1, .int (L 1))]) hx hb d_Mod_setOfSome_103 rfl hl (by decide) rfl (fun ls hl => ?_)
          exact (ih.2.2.2.2.2) (putI S 0 89 ((S.1 0 89) + (1 : Int32))) (upd L 2 (0 : Int32)) M ls H locs h (lv_sub hl [1, 2, 0] rfl) hP hD hS
        · rw [if_pos hc2] at h
          refine lv_aload_n hx hb d_Mod_setOfSome_83 rfl (lv_at hl 0 rfl) ?_
          refine lv_bipush (v := 21) hx hb d_Mod_setOfSome_84 (by decide) ?_
          refine lv_iload_n hx hb d_Mod_setOfSome_86 rfl (lv_at hl 1 rfl) ?_
          obtain ⟨⟨r3, T3⟩, hq3, h⟩ := Option.bind_eq_some_iff.mp h
          try dsimp only at h
          refine go_vS (As := [.ref (ad 0), .int 21, .int (L 1)]) (g := g) (A := A) (h := shM) hP hK hD hS hA hN (fun hp => va_runV (As := [.int 21, .int (L 1)]) (rest := []) ⟨hx, hb, hml, hown, htt⟩ (t_Mod_fail2 l g _ ad S (21 : Int32) (L 1 : Int32) k9 r3 T3 hq3) ⟨(cb_L htt k_2985 k_276 k_2982 hd_Mod_fail2 ⟨(Nat.le_trans (by decide +kernel) hRf), (Nat.le_trans (by decide +kernel) hRl)⟩), htt _ k_2984, htt _ k_187⟩ ⟨hp.1, S_recv hK hP 0 rfl rfl, hp.2⟩ rfl rfl hl.1 rfl (lv_room (Nat.le_of_ble_eq_true rfl)) d_Mod_setOfSome_87 ⟨hRc, hRs⟩) (fun Sn H locs hw9 hP hD hS => ?_)
          have e8 := hw9
          rw [e8] at hP hD
          refine W.widen (k := cells) (n := slots) (Nat.le_refl _) (Nat.le_refl _) ?_
          refine lv_iconst (v := 0) hx hb d_Mod_setOfSome_90 (by decide) ?_
          cases h
          exact kx_91 ls H locs hP hD hS
      · rw [if_neg hc1] at h
        refine lv_iconst (v := 1) hx hb d_Mod_setOfSome_10 (by decide) ?_
        refine lv_istore_n (lv' := [(3, .int 1), (0, .ref (ad 0)), (1, .int (L 1)), (2, .int (L 2))]) hx hb d_Mod_setOfSome_11 rfl hl (by decide) rfl (fun ls hl => ?_)
        refine lv_iconst (v := 0) hx hb d_Mod_setOfSome_12 (by decide) ?_
        refine lv_istore (lv' := [(4, .int 0), (3, .int 1), (0, .ref (ad 0)), (1, .int (L 1)), (2, .int (L 2))]) hx hb d_Mod_setOfSome_13 hl (by decide) rfl (fun ls hl => ?_)
        exact (ih.2.2.1) S (upd (upd L 3 (1 : Int32)) 4 (0 : Int32)) M ls H locs h (lv_sub hl [2, 3, 4, 1, 0] rfl) hP hD hS
    · intro S L M ls H locs h hl hP hD hS
      simp only [f_Mod_setOfSome] at h
      refine lv_iload hx hb d_Mod_setOfSome_15 (lv_at hl 4 rfl) ?_
      refine lv_bipush (v := 7) hx hb d_Mod_setOfSome_17 (by decide) ?_
      refine lv_icmp_ge (tgt := 61) hx hb d_Mod_setOfSome_19 (by decide) (fun hc1 => ?_) (fun hc1 => ?_)
      · rw [if_pos hc1] at h
        refine lv_iload_n hx hb d_Mod_setOfSome_61 rfl (lv_at hl 3 rfl) ?_
        refine lv_if_eq (tgt := 67) hx hb d_Mod_setOfSome_62 (by decide) (fun hc2 => ?_) (fun hc2 => ?_)
        · rw [if_pos hc2] at h
          refine lv_iinc (k := 2) (v := (L 2) + 1) (lv' := [(2, .int ((L 2) + 1)), (0, .ref (ad 0)), (1, .int (L 1)), (3, .int (L 3)), (4, .int (L 4))]) hx hb d_Mod_setOfSome_67 hl rfl rfl (by decide) rfl (fun ls hl => ?_)
          refine lv_goto (tgt := 2) hx hb d_Mod_setOfSome_70 (by decide) ?_
          exact (ih.2.1) S (upd L 2 ((L 2) + 1)) M ls H locs h (lv_sub hl [1, 2, 0] rfl) hP hD hS
        · rw [if_neg hc2] at h
          refine lv_iload_n hx hb d_Mod_setOfSome_65 rfl (lv_at hl 2 rfl) ?_
          cases h
          exact kx_66 ls H locs hP hD hS
      · rw [if_neg hc1] at h
        refine lv_iload_n hx hb d_Mod_setOfSome_22 rfl (lv_at hl 3 rfl) ?_
        refine lv_if_eq (tgt := 53) hx hb d_Mod_setOfSome_23 (by decide) (fun hc3 => ?_) (fun hc3 => ?_)
        · rw [if_pos hc3] at h
          exact (ih.2.2.2.1) S L M ls H locs h (lv_sub hl [0, 1, 2, 3, 4] rfl) hP hD hS
        · rw [if_neg hc3] at h
          refine lv_aload_n hx hb d_Mod_setOfSome_26 rfl (lv_at hl 0 rfl) ?_
          refine S_getR (h := shM) (C := "MacroMillModel") (T := F_Mod) hx hb htt in_Mod hown hK hP 0 90 rfl 47 rfl rfl (by decide) (htt _ k_2326) (fun _ h9 => h9) d_Mod_setOfSome_27 ?_
          refine lv_bipush (v := 7) hx hb d_Mod_setOfSome_30 (by decide) ?_
          refine lv_iload_n hx hb d_Mod_setOfSome_32 rfl (lv_at hl 2 rfl) ?_
          refine lv_imul hx hb d_Mod_setOfSome_33 ?_
          refine lv_iload hx hb d_Mod_setOfSome_34 (lv_at hl 4 rfl) ?_
          refine lv_iadd hx hb d_Mod_setOfSome_36 ?_
          obtain ⟨hv4, h⟩ := chk h
          refine S_lald (h := shM) (i := ((7 : Int32) * (L 2)) + (L 4)) hx hb hK hP 46 rfl (okI_in hv4) d_Mod_setOfSome_37 ?_
          show W _ _ _ _ _ _ _ _ _ _ _ _ _ _ _ (F0 _ 38 _ _)
          refine lv_aload_n hx hb d_Mod_setOfSome_38 rfl (lv_at hl 0 rfl) ?_
          refine S_getR (h := shM) (C := "MacroMillModel") (T := F_Mod) hx hb htt in_Mod hown hK hP 0 91 rfl 48 rfl rfl (by decide) (htt _ k_2327) (fun _ h9 => h9) d_Mod_setOfSome_39 ?_
          refine lv_iload hx hb d_Mod_setOfSome_42 (lv_at hl 4 rfl) ?_
          obtain ⟨hv5, h⟩ := chk h
          refine S_lald (h := shM) (i := L 4) hx hb hK hP 47 rfl (okI_in hv5) d_Mod_setOfSome_44 ?_
          refine W.lcmp hx hb d_Mod_setOfSome_45 ?_
          refine lv_if_ne (tgt := 53) hx hb d_Mod_setOfSome_46 (by decide) (fun hc6 => ?_) (fun hc6 => ?_)
          · rw [if_neg hc6] at h
            exact (ih.2.2.2.1) S L M ls H locs h (lv_sub hl [0, 1, 2, 3, 4] rfl) hP hD hS
          · rw [if_pos hc6] at h
            refine lv_iconst (v := 1) hx hb d_Mod_setOfSome_49 (by decide) ?_
            refine lv_goto (tgt := 54) hx hb d_Mod_setOfSome_50 (by decide) ?_
            exact (ih.2.2.2.2.1) S (upd L 100 (1 : Int32)) M ls H locs h (lv_sub hl [0, 1, 2, 3, 4] rfl) hP hD hS
    · intro S L M ls H locs h hl hP hD hS
      simp only [f_Mod_setOfSome] at h
      refine lv_iconst (v := 0) hx hb d_Mod_setOfSome_53 (by decide) ?_
      exact (ih.2.2.2.2.1) S (upd L 100 (0 : Int32)) M ls H locs h (lv_sub hl [0, 1, 2, 3, 4] rfl) hP hD hS
    · intro S L M ls H locs h hl hP hD hS
      simp only [f_Mod_setOfSome] at h
      refine lv_istore_n (lv' := [(3, .int (L 100)), (0, .ref (ad 0)), (1, .int (L 1)), (2, .int (L 2)), (4, .int (L 4))]) hx hb d_Mod_setOfSome_54 rfl hl (by decide) rfl (fun ls hl => ?_)
      refine lv_iinc (k := 4) (v := (L 4) + 1) (lv' := [(4, .int ((L 4) + 1)), (3, .int (L 100)), (0, .ref (ad 0)), (1, .int (L 1)), (2, .int (L 2))]) hx hb d_Mod_setOfSome_55 hl rfl rfl (by decide) rfl (fun ls hl => ?_)
      refine lv_goto (tgt := 15) hx hb d_Mod_setOfSome_58 (by decide) ?_
      exact (ih.2.2.1) S (upd (upd L 3 (L 100)) 4 ((L 4) + 1)) M ls H locs h (lv_sub hl [2, 3, 4, 1, 0] rfl) hP hD hS
    · intro S L M ls H locs h hl hP hD hS
      simp only [f_Mod_setOfSome] at h
      refine lv_iload_n hx hb d_Mod_setOfSome_104 rfl (lv_at hl 2 rfl) ?_
      refine lv_bipush (v := 7) hx hb d_Mod_setOfSome_105 (by decide) ?_
      refine lv_icmp_ge (tgt := 136) hx hb d_Mod_setOfSome_107 (by decide) (fun hc1 => ?_) (fun hc1 => ?_)
      · rw [if_pos hc1] at h
        refine lv_aload_n hx hb d_Mod_setOfSome_136 rfl (lv_at hl 0 rfl) ?_
        refine S_getI (h := shM) (C := "MacroMillModel") (T := F_Mod) hx hb htt in_Mod hown hK hP 0 89 rfl rfl rfl (by decide) (htt _ k_2325) (fun _ h9 => h9) d_Mod_setOfSome_137 ?_
        cases h
        exact kx_140 ls H locs hP hD hS
      · rw [if_neg hc1] at h
        refine lv_aload_n hx hb d_Mod_setOfSome_110 rfl (lv_at hl 0 rfl) ?_
        refine S_getR (h := shM) (C := "MacroMillModel") (T := F_Mod) hx hb htt in_Mod hown hK hP 0 90 rfl 47 rfl rfl (by decide) (htt _ k_2326) (fun _ h9 => h9) d_Mod_setOfSome_111 ?_
        refine lv_bipush (v := 7) hx hb d_Mod_setOfSome_114 (by decide) ?_
        refine lv_aload_n hx hb d_Mod_setOfSome_116 rfl (lv_at hl 0 rfl) ?_
        refine S_getI (h := shM) (C := "MacroMillModel") (T := F_Mod) hx hb htt in_Mod hown hK hP 0 89 rfl rfl rfl (by decide) (htt _ k_2325) (fun _ h9 => h9) d_Mod_setOfSome_117 ?_
        refine lv_imul hx hb d_Mod_setOfSome_120 ?_
        refine lv_iload_n hx hb d_Mod_setOfSome_121 rfl (lv_at hl 2 rfl) ?_
        refine lv_iadd hx hb d_Mod_setOfSome_122 ?_
        refine lv_aload_n hx hb d_Mod_setOfSome_123 rfl (lv_at hl 0 rfl) ?_
        show W _ _ _ _ _ _ _ _ _ _ _ _ _ _ _ (F0 _ 124 _ _)
        refine S_getR (h := shM) (C := "MacroMillModel") (T := F_Mod) hx hb htt in_Mod hown hK hP 0 91 rfl 48 rfl rfl (by decide) (htt _ k_2327) (fun _ h9 => h9) d_Mod_setOfSome_124 ?_
        refine lv_iload_n hx hb d_Mod_setOfSome_127 rfl (lv_at hl 2 rfl) ?_
        obtain ⟨hv2, h⟩ := chk h
        refine S_lald (h := shM) (i := L 2) hx hb hK hP 47 rfl (okI_in hv2) d_Mod_setOfSome_128 ?_
        obtain ⟨hv3, h⟩ := chk h
        refine S_last (h := shM) (i := ((7 : Int32) * (S.1 0 89)) + (L 2)) (v := S.2.2 47 (L 2 : Int32).toNatClampNeg) hx hb hK hP hD hS 46 rfl (okI_in hv3) d_Mod_setOfSome_129 (fun H locs hP hD hS => ?_)
        refine lv_iinc (k := 2) (v := (L 2) + 1) (lv' := [(2, .int ((L 2) + 1)), (0, .ref (ad 0)), (1, .int (L 1))]) hx hb d_Mod_setOfSome_130 hl rfl rfl (by decide) rfl (fun ls hl => ?_)
        refine lv_goto (tgt := 104) hx hb d_Mod_setOfSome_133 (by decide) ?_
        exact (ih.2.2.2.2.2) (putL S 46 (((7 : Int32) * (S.1 0 89)) + (L 2) : Int32).toNatClampNeg (S.2.2 47 (L 2 : Int32).toNatClampNeg)) (upd L 2 ((L 2) + 1)) M ls H locs h (lv_sub hl [1, 2, 0] rfl) hP hD hS
abbrev rm_t_Mod_setOfSome : Room := { frames := 2, cells := 0, slots := 0, locals := 45 }
theorem t_Mod_setOfSome (l : Launch) (g : gG) (sz : Nat) (ad : Nat → Nat) (S : sS) (v1 : Int32) (k : Nat) (r : Int32) (S9 : sS) (h : f_Mod_setOfSome k 0 S (upd (fun _ => 0) 1 v1) (fun _ => 0) = some (r, S9)) : Ci l y_Mod_setOfSome b_Mod_setOfSome 5 rm_t_Mod_setOfSome g [.ref (ad 0), .int v1] (Sw shM g ad S) sz (fun r1 w => ∃ S1 : sS, w = Sw shM g ad S1 ∧ r1 = r ∧ S1 = S9) := by
  refine startI (by decide) (Nat.le_of_ble_eq_true rfl) ?_
  intro p e s m below meth c A ls hx hb hr hml hlocks hmn hown htt hN hA hP hK hD hS hl
  exact (w_Mod_setOfSome hx hb hml hown htt hK hN hA (by decide +kernel) (by decide +kernel) (by decide +kernel) (by decide +kernel) r S9 (fun ls H locs hP hD hS => fin_i (g := g) (ws := Sw shM g ad S9) hx hb hr hlocks (by decide +kernel) (by decide +kernel) hP hD hS ⟨_, rfl, rfl, rfl⟩ d_Mod_setOfSome_66) (fun ls H locs hP hD hS => fin_i (g := g) (ws := Sw shM g ad S9) hx hb hr hlocks (by decide +kernel) (by decide +kernel) hP hD hS ⟨_, rfl, rfl, rfl⟩ d_Mod_setOfSome_91) (fun ls H locs hP hD hS => fin_i (g := g) (ws := Sw shM g ad S9) hx hb hr hlocks (by decide +kernel) (by decide +kernel) hP hD hS ⟨_, rfl, rfl, rfl⟩ d_Mod_setOfSome_140) k).1 S (upd (fun _ => 0) 1 v1) (fun _ => 0) ls _ _ h hl hP hD hS
def f_Mod_spelled : Nat → Nat → sS → (Nat → Int32) → (Nat → Int64) → Option (Int32 × sS)
  | 0, _, _, _, _ => none
  | k + 1, 0, S, L, M => f_Mod_spelled k 1 S (upd (upd (upd L 5 ((65536 : Int32) + (S.1 0 65))) 6 (2 : Int32)) 7 (L 1)) M
  | k + 1, 1, S, L, M => if (L 7) = (L 2) then ((f_Mod_spend k 0 S (upd (upd (fun _ => 0) 1 (L 6 : Int32)) 2 (L 3 : Int32)) (fun _ => 0)).bind (fun (r2, T2) => if r2 = (0 : Int32) then (some (((-1) : Int32), T2)) else ((f_Mod_spell k 0 T2 (upd (fun _ => 0) 1 (34 : Int32)) (fun _ => 0)).bind (fun (r4, T4) => f_Mod_spelled k 6 T4 (upd L 7 (L 1)) M)))) else (if okI (L 7) 260000 = true then (if (L 7) = (L 1) then (f_Mod_spelled k 2 S (upd L 100 ((L 6) + (S.2.1 28 (L 7 : Int32).toNatClampNeg))) M) else (if okI (L 7) 260000 = true then (if (S.2.1 32 (L 7 : Int32).toNatClampNeg) = (0 : Int32) then (f_Mod_spelled k 2 S (upd L 100 ((L 6) + (S.2.1 28 (L 7 : Int32).toNatClampNeg))) M) else (f_Mod_spelled k 3 S (upd (upd L 101 (1 : Int32)) 100 ((L 6) + (S.2.1 28 (L 7 : Int32).toNatClampNeg))) M)) else none)) else none)
  | k + 1, 2, S, L, M => f_Mod_spelled k 3 S (upd L 101 (0 : Int32)) M
  | k + 1, 3, S, L, M => f_Mod_spelled k 4 S (upd (upd L 6 ((L 100) + (L 101))) 8 (0 : Int32)) M
  | k + 1, 4, S, L, M => if okI (L 7) 260000 = true then (if (S.2.1 28 (L 7 : Int32).toNatClampNeg) ≤ (L 8) then (if okI (L 7) 260000 = true then (f_Mod_spelled k 1 S (upd L 7 (S.2.1 31 (L 7 : Int32).toNatClampNeg)) M) else none) else ((f_Mod_isMarked k 0 S (upd (upd (fun _ => 0) 1 (L 7 : Int32)) 2 (L 8 : Int32)) (fun _ => 0)).bind (fun (r4, T4) => if r4 = (0 : Int32) then (f_Mod_spelled k 5 T4 (upd (upd L 101 (0 : Int32)) 100 (L 6)) M) else (f_Mod_spelled k 5 T4 (upd (upd L 101 (1 : Int32)) 100 (L 6)) M)))) else none
  | k + 1, 5, S, L, M => f_Mod_spelled k 4 S (upd (upd L 6 ((L 100) + (L 101))) 8 ((L 8) + 1)) M
  | k + 1, 6, S, L, M => if (L 7) = (L 2) then ((f_Mod_spell k 0 S (upd (fun _ => 0) 1 (34 : Int32)) (fun _ => 0)).bind (fun (r2, T2) => (f_Mod_cell k 0 T2 (upd (upd (upd (upd (upd (fun _ => 0) 1 (L 5 : Int32)) 2 (((65536 : Int32) + (T2.1 0 65)) - (L 5) : Int32)) 3 (L 3 : Int32)) 4 (L 4 : Int32)) 5 (0 : Int32)) (fun _ => 0)).bind (fun (r3, T3) => some (r3, T3)))) else (if (L 7) = (L 1) then (f_Mod_spelled k 7 S L M) else (if okI (L 7) 260000 = true then (if (S.2.1 32 (L 7 : Int32).toNatClampNeg) = (0 : Int32) then (f_Mod_spelled k 7 S L M) else ((f_Mod_spell k 0 S (upd (fun _ => 0) 1 (32 : Int32)) (fun _ => 0)).bind (fun (r7, T7) => f_Mod_spelled k 7 T7 L M))) else none))
  | k + 1, 7, S, L, M => f_Mod_spelled k 8 S (upd L 8 (0 : Int32)) M
  | k + 1, 8, S, L, M => if okI (L 7) 260000 = true then (if (S.2.1 28 (L 7 : Int32).toNatClampNeg) ≤ (L 8) then (if okI (L 7) 260000 = true then (f_Mod_spelled k 6 S (upd L 7 (S.2.1 31 (L 7 : Int32).toNatClampNeg)) M) else none) else ((f_Mod_isMarked k 0 S (upd (upd (fun _ => 0) 1 (L 7 : Int32)) 2 (L 8 : Int32)) (fun _ => 0)).bind (fun (r4, T4) => if r4 = (0 : Int32) then (f_Mod_spelled k 9 T4 L M) else ((f_Mod_spell k 0 T4 (upd (fun _ => 0) 1 (92 : Int32)) (fun _ => 0)).bind (fun (r6, T6) => f_Mod_spelled k 9 T6 L M))))) else none
  | k + 1, 9, S, L, M => (f_Mod_byteOf k 0 S (upd (upd (fun _ => 0) 1 (L 7 : Int32)) 2 (L 8 : Int32)) (fun _ => 0)).bind (fun (r1, T1) => (f_Mod_spell k 0 T1 (upd (fun _ => 0) 1 (r1 : Int32)) (fun _ => 0)).bind (fun (r2, T2) => f_Mod_spelled k 8 T2 (upd L 8 ((L 8) + 1)) M))
  | _ + 1, _ + 10, _, _, _ => none
set_option maxHeartbeats 8000000 in
set_option maxRecDepth 100000 in
theorem w_Mod_spelled {p : Program} {l : Launch} {e : Env} {R : Room} {s : State} {m : MethodId} {args : Array Value} {below : List Frame} {meth : Method} {c : Code} {cells slots : Nat} {Q : State → Prop} {g : gG} {A : Nat → Prop} {ad : Nat → Nat} (hx : p.tables.exec = Jvm.exec) (hb : c.code = b_Mod_spelled) (hml : c.maxLocals = 9) (hown : s.vm.findClass "MacroMillModel" = some m.cls) (htt : ∀ w ∈ gt, w.before args s = true) (hK : va_K g.1 classes (tysG g) s) (hN : nw s) (hA : ∀ q : Nat, s.heap.size ≤ q → A q) (hRf : 3 ≤ R.frames) (hRl : 69 ≤ R.locals) (hRc : cells ≤ R.cells) (hRs : slots ≤ R.slots) (r : Int32) (S9 : sS)
    (kx_121 : ∀ (ls : Array Slot) (H : Heap) (locs : List Loc), va_P g.1 classes (Sw shM g ad S9) H → va_D A (Sw shM g ad S9) → va_S A s.heap H locs → W p l e R s m args below meth c H locs cells slots Q (F0 m 121 ls [.int r]))
    (kx_248 : ∀ (ls : Array Slot) (H : Heap) (locs : List Loc), va_P g.1 classes (Sw shM g ad S9) H → va_D A (Sw shM g ad S9) → va_S A s.heap H locs → W p l e R s m args below meth c H locs cells slots Q (F0 m 248 ls [.int r])) :
    ∀ k9 : Nat, (∀ (S : sS) (L : Nat → Int32) (M : Nat → Int64) (ls : Array Slot) (H : Heap) (locs : List Loc), f_Mod_spelled k9 0 S L M = some (r, S9) → lv_has ls 9 [(0, .ref (ad 0)), (1, .int (L 1)), (2, .int (L 2)), (3, .int (L 3)), (4, .int (L 4))] → va_P g.1 classes (Sw shM g ad S) H → va_D A (Sw shM g ad S) → va_S A s.heap H locs → W p l e R s m args below meth c H locs cells slots Q (F0 m 0 ls [])) ∧ (∀ (S : sS) (L : Nat → Int32) (M : Nat → Int64) (ls : Array Slot) (H : Heap) (locs : List Loc), f_Mod_spelled k9 1 S L M = some (r, S9) → lv_has ls 9 [(0, .ref (ad 0)), (1, .int (L 1)), (2, .int (L 2)), (3, .int (L 3)), (4, .int (L 4)), (5, .int (L 5)), (6, .int (L 6)), (7, .int (L 7))] → va_P g.1 classes (Sw shM g ad S) H → va_D A (Sw shM g ad S) → va_S A s.heap H locs → W p l e R s m args below meth c H locs cells slots Q (F0 m 16 ls [])) ∧ (∀ (S : sS) (L : Nat → Int32) (M : Nat → Int64) (ls : Array Slot) (H : Heap) (locs : List Loc), f_Mod_spelled k9 2 S L M = some (r, S9) → lv_has ls 9 [(0, .ref (ad 0)), (1, .int (L 1)), (2, .int (L 2)), (3, .int (L 3)), (4, .int (L 4)), (5, .int (L 5)), (6, .int (L 6)), (7, .int (L 7))] → va_P g.1 classes (Sw shM g ad S) H → va_D A (Sw shM g ad S) → va_S A s.heap H locs → W p l e R s m args below meth c H locs cells slots Q (F0 m 52 ls [.int (L 100)])) ∧ (∀ (S : sS) (L : Nat → Int32) (M : Nat → Int64) (ls : Array Slot) (H : Heap) (locs : List Loc), f_Mod_spelled k9 3 S L M = some (r, S9) → lv_has ls 9 [(0, .ref (ad 0)), (1, .int (L 1)), (2, .int (L 2)), (3, .int (L 3)), (4, .int (L 4)), (5, .int (L 5)), (6, .int (L 6)), (7, .int (L 7))] → va_P g.1 classes (Sw shM g ad S) H → va_D A (Sw shM g ad S) → va_S A s.heap H locs → W p l e R s m args below meth c H locs cells slots Q (F0 m 53 ls [.int (L 101), .int (L 100)])) ∧ (∀ (S : sS) (L : Nat → Int32) (M : Nat → Int64) (ls : Array Slot) (H : Heap) (locs : List Loc), f_Mod_spelled k9 4 S L M = some (r, S9) → lv_has ls 9 [(0, .ref (ad 0)), (1, .int (L 1)), (2, .int (L 2)), (3, .int (L 3)), (4, .int (L 4)), (5, .int (L 5)), (6, .int (L 6)), (7, .int (L 7)), (8, .int (L 8))] → va_P g.1 classes (Sw shM g ad S) H → va_D A (Sw shM g ad S) → va_S A s.heap H locs → W p l e R s m args below meth c H locs cells slots Q (F0 m 59 ls [])) ∧ (∀ (S : sS) (L : Nat → Int32) (M : Nat → Int64) (ls : Array Slot) (H : Heap) (locs : List Loc), f_Mod_spelled k9 5 S L M = some (r, S9) → lv_has ls 9 [(0, .ref (ad 0)), (1, .int (L 1)), (2, .int (L 2)), (3, .int (L 3)), (4, .int (L 4)), (5, .int (L 5)), (6, .int (L 6)), (7, .int (L 7)), (8, .int (L 8))] → va_P g.1 classes (Sw shM g ad S) H → va_D A (Sw shM g ad S) → va_S A s.heap H locs → W p l e R s m args below meth c H locs cells slots Q (F0 m 89 ls [.int (L 101), .int (L 100)])) ∧ (∀ (S : sS) (L : Nat → Int32) (M : Nat → Int64) (ls : Array Slot) (H : Heap) (locs : List Loc), f_Mod_spelled k9 6 S L M = some (r, S9) → lv_has ls 9 [(0, .ref (ad 0)), (1, .int (L 1)), (2, .int (L 2)), (3, .int (L 3)), (4, .int (L 4)), (5, .int (L 5)), (6, .int (L 6)), (7, .int (L 7))] → va_P g.1 classes (Sw shM g ad S) H → va_D A (Sw shM g ad S) → va_S A s.heap H locs → W p l e R s m args below meth c H locs cells slots Q (F0 m 131 ls [])) ∧ (∀ (S : sS) (L : Nat → Int32) (M : Nat → Int64) (ls : Array Slot) (H : Heap) (locs : List Loc), f_Mod_spelled k9 7 S L M = some (r, S9) → lv_has ls 9 [(0, .ref (ad 0)), (1, .int (L 1)), (2, .int (L 2)), (3, .int (L 3)), (4, .int (L 4)), (5, .int (L 5)), (6, .int (L 6)), (7, .int (L 7))] → va_P g.1 classes (Sw shM g ad S) H → va_D A (Sw shM g ad S) → va_S A s.heap H locs → W p l e R s m args below meth c H locs cells slots Q (F0 m 159 ls [])) ∧ (∀ (S : sS) (L : Nat → Int32) (M : Nat → Int64) (ls : Array Slot) (H : Heap) (locs : List Loc), f_Mod_spelled k9 8 S L M = some (r, S9) → lv_has ls 9 [(0, .ref (ad 0)), (1, .int (L 1)), (2, .int (L 2)), (3, .int (L 3)), (4, .int (L 4)), (5, .int (L 5)), (6, .int (L 6)), (7, .int (L 7)), (8, .int (L 8))] → va_P g.1 classes (Sw shM g ad S) H → va_D A (Sw shM g ad S) → va_S A s.heap H locs → W p l e R s m args below meth c H locs cells slots Q (F0 m 162 ls [])) ∧ (∀ (S : sS) (L : Nat → Int32) (M : Nat → Int64) (ls : Array Slot) (H : Heap) (locs : List Loc), f_Mod_spelled k9 9 S L M = some (r, S9) → lv_has ls 9 [(0, .ref (ad 0)), (1, .int (L 1)), (2, .int (L 2)), (3, .int (L 3)), (4, .int (L 4)), (5, .int (L 5)), (6, .int (L 6)), (7, .int (L 7)), (8, .int (L 8))] → va_P g.1 classes (Sw shM g ad S) H → va_D A (Sw shM g ad S) → va_S A s.heap H locs → W p l e R s m args below meth c H locs cells slots Q (F0 m 191 ls [])) := by
  intro k9
  induction k9 with
  | zero => exact ⟨(fun _ _ _ _ _ _ h => by simp [f_Mod_spelled] at h), (fun _ _ _ _ _ _ h => by simp [f_Mod_spelled] at h), (fun _ _ _ _ _ _ h => by simp [f_Mod_spelled] at h), (fun _ _ _ _ _ _ h => by simp [f_Mod_spelled] at h), (fun _ _ _ _ _ _ h => by simp [f_Mod_spelled] at h), (fun _ _ _ _ _ _ h => by simp [f_Mod_spelled] at h), (fun _ _ _ _ _ _ h => by simp [f_Mod_spelled] at h), (fun _ _ _ _ _ _ h => by simp [f_Mod_spelled] at h), (fun _ _ _ _ _ _ h => by simp [f_Mod_spelled] at h), (fun _ _ _ _ _ _ h => by simp [f_Mod_spelled] at h)⟩
  | succ k9 ih =>
    refine ⟨?_, ?_, ?_, ?_, ?_, ?_, ?_, ?_, ?_, ?_⟩
    · intro S L M ls H locs h hl hP hD hS
      simp only [f_Mod_spelled] at h
      refine lv_ldcw (v := 65536) hx hb hown (htt _ k_3055) d_Mod_spelled_0 ?_
      refine lv_aload_n hx hb d_Mod_spelled_3 rfl (lv_at hl 0 rfl) ?_
      refine S_getI (h := shM) (C := "MacroMillModel") (T := F_Mod) hx hb htt in_Mod hown hK hP 0 65 rfl rfl rfl (by decide) (htt _ k_2301) (fun _ h9 => h9) d_Mod_spelled_4 ?_
      refine lv_iadd hx hb d_Mod_spelled_7 ?_
      refine lv_istore (lv' := [(5, .int ((65536 : Int32) + (S.1 0 65))), (0, .ref (ad 0)), (1, .int (L 1)), (2, .int (L 2)), (3, .int (L 3)), (4, .int (L 4))]) hx hb d_Mod_spelled_8 hl (by decide) rfl (fun ls hl => ?_)
      refine lv_iconst (v := 2) hx hb d_Mod_spelled_10 (by decide) ?_
      refine lv_istore (lv' := [(6, .int 2), (5, .int ((65536 : Int32) + (S.1 0 65))), (0, .ref (ad 0)), (1, .int (L 1)), (2, .int (L 2)), (3, .int (L 3)), (4, .int (L 4))]) hx hb d_Mod_spelled_11 hl (by decide) rfl (fun ls hl => ?_)
      refine lv_iload_n hx hb d_Mod_spelled_13 rfl (lv_at hl 3 rfl) ?_
      refine lv_istore (lv' := [(7, .int (L 1)), (6, .int 2), (5, .int ((65536 : Int32) + (S.1 0 65))), (0, .ref (ad 0)), (1, .int (L 1)), (2, .int (L 2)), (3, .int (L 3)), (4, .int (L 4))]) hx hb d_Mod_spelled_14 hl (by decide) rfl (fun ls hl => ?_)
      exact (ih.2.1) S (upd (upd (upd L 5 ((65536 : Int32) + (S.1 0 65))) 6 (2 : Int32)) 7 (L 1)) M ls H locs h (lv_sub hl [3, 4, 5, 6, 7, 2, 1, 0] rfl) hP hD hS
    · intro S L M ls H locs h hl hP hD hS
      simp only [f_Mod_spelled] at h
      refine lv_iload hx hb d_Mod_spelled_16 (lv_at hl 7 rfl) ?_
      refine lv_iload_n hx hb d_Mod_spelled_18 rfl (lv_at hl 2 rfl) ?_
      refine lv_icmp_eq (tgt := 110) hx hb d_Mod_spelled_19 (by decide) (fun hc1 => ?_) (fun hc1 => ?_)
      · rw [if_pos hc1] at h
        refine lv_aload_n hx hb d_Mod_spelled_110 rfl (lv_at hl 0 rfl) ?_
        refine lv_iload hx hb d_Mod_spelled_111 (lv_at hl 6 rfl) ?_
        refine lv_iload_n hx hb d_Mod_spelled_113 rfl (lv_at hl 3 rfl) ?_
        obtain ⟨⟨r2, T2⟩, hq2, h⟩ := Option.bind_eq_some_iff.mp h
        try dsimp only at h
        refine go_iS (As := [.ref (ad 0), .int (L 6), .int (L 3)]) (g := g) (A := A) (h := shM) hP hK hD hS hA hN (fun hp => va_runV (As := [.int (L 6), .int (L 3)]) (rest := []) ⟨hx, hb, hml, hown, htt⟩ (t_Mod_spend l g _ ad S (L 6 : Int32) (L 3 : Int32) k9 r2 T2 hq2) ⟨(cb_L htt k_3063 k_276 k_3060 hd_Mod_spend ⟨(Nat.le_trans (by decide +kernel) hRf), (Nat.le_trans (by decide +kernel) hRl)⟩), htt _ k_3062, htt _ k_204⟩ ⟨hp.1, S_recv hK hP 0 rfl rfl, hp.2⟩ rfl rfl hl.1 rfl (lv_room (Nat.le_of_ble_eq_true rfl)) d_Mod_spelled_114 ⟨hRc, hRs⟩) (fun r0 Sn H locs hw9 hP hD hS => ?_)
        obtain ⟨e9, e8⟩ := hw9
        rw [e8] at hP hD
        refine W.widen (k := cells) (n := slots) (Nat.le_refl _) (Nat.le_refl _) ?_
        refine toI (y := r2) e9 ?_
        refine lv_if_ne (tgt := 122) hx hb d_Mod_spelled_117 (by decide) (fun hc3 => ?_) (fun hc3 => ?_)
        · rw [if_neg hc3] at h
          refine lv_aload_n hx hb d_Mod_spelled_122 rfl (lv_at hl 0 rfl) ?_
          refine lv_bipush (v := 34) hx hb d_Mod_spelled_123 (by decide) ?_
          obtain ⟨⟨r4, T4⟩, hq4, h⟩ := Option.bind_eq_some_iff.mp h
          try dsimp only at h
          refine go_vS (As := [.ref (ad 0), .int 34]) (g := g) (A := A) (h := shM) hP hK hD hS hA hN (fun hp => va_runV (As := [.int 34]) (rest := []) ⟨hx, hb, hml, hown, htt⟩ (t_Mod_spell l g _ ad T2 (34 : Int32) k9 r4 T4 hq4) ⟨(cb_L htt k_3068 k_276 k_3065 hd_Mod_spell ⟨(Nat.le_trans (by decide +kernel) hRf), (Nat.le_trans (by decide +kernel) hRl)⟩), htt _ k_3067, htt _ k_205⟩ ⟨hp.1, S_recv hK hP 0 rfl rfl, hp.2⟩ rfl rfl hl.1 rfl (lv_room (Nat.le_of_ble_eq_true rfl)) d_Mod_spelled_125 ⟨hRc, hRs⟩) (fun Sn H locs hw9 hP hD hS => ?_)
          have e8 := hw9
          rw [e8] at hP hD
          refine W.widen (k := cells) (n := slots) (Nat.le_refl _) (Nat.le_refl _) ?_
          refine lv_iload_n hx hb d_Mod_spelled_128 rfl (lv_at hl 1 rfl) ?_
          refine lv_istore (lv' := [(7, .int (L 1)), (0, .ref (ad 0)), (1, .int (L 1)), (2, .int (L 2)), (3, .int (L 3)), (4, .int (L 4)), (5, .int (L 5)), (6, .int (L 6))]) hx hb d_Mod_spelled_129 hl (by decide) rfl (fun ls hl => ?_)
          exact (ih.2.2.2.2.2.2.1) T4 (upd L 7 (L 1)) M ls H locs h (lv_sub hl [1, 2, 3, 4, 5, 6, 7, 0] rfl) hP hD hS
        · rw [if_pos hc3] at h
          refine lv_iconst (v := (-1)) hx hb d_Mod_spelled_120 (by decide) ?_
          cases h
          exact kx_121 ls H locs hP hD hS
      · rw [if_neg hc1] at h
        refine lv_iload hx hb d_Mod_spelled_22 (lv_at hl 6 rfl) ?_
        refine lv_aload_n hx hb d_Mod_spelled_24 rfl (lv_at hl 0 rfl) ?_
        refine S_getR (h := shM) (C := "MacroMillModel") (T := F_Mod) hx hb htt in_Mod hown hK hP 0 69 rfl 29 rfl rfl (by decide) (htt _ k_2305) (fun _ h9 => h9) d_Mod_spelled_25 ?_
        refine lv_iload hx hb d_Mod_spelled_28 (lv_at hl 7 rfl) ?_
        obtain ⟨hv5, h⟩ := chk h
        refine S_iald (h := shM) (i := L 7) hx hb hK hP 28 rfl (okI_in hv5) d_Mod_spelled_30 ?_
        refine lv_iadd hx hb d_Mod_spelled_31 ?_
        refine lv_iload hx hb d_Mod_spelled_32 (lv_at hl 7 rfl) ?_
        refine lv_iload_n hx hb d_Mod_spelled_34 rfl (lv_at hl 1 rfl) ?_
        refine lv_icmp_eq (tgt := 52) hx hb d_Mod_spelled_35 (by decide) (fun hc6 => ?_) (fun hc6 => ?_)
        · rw [if_pos hc6] at h
          exact (ih.2.2.1) S (upd L 100 ((L 6) + (S.2.1 28 (L 7 : Int32).toNatClampNeg))) M ls H locs h (lv_sub hl [0, 1, 2, 3, 4, 5, 6, 7] rfl) hP hD hS
        · rw [if_neg hc6] at h
          refine lv_aload_n hx hb d_Mod_spelled_38 rfl (lv_at hl 0 rfl) ?_
          show W _ _ _ _ _ _ _ _ _ _ _ _ _ _ _ (F0 _ 39 _ _)
          refine S_getR (h := shM) (C := "MacroMillModel") (T := F_Mod) hx hb htt in_Mod hown hK hP 0 73 rfl 33 rfl rfl (by decide) (htt _ k_2309) (fun _ h9 => h9) d_Mod_spelled_39 ?_
          refine lv_iload hx hb d_Mod_spelled_42 (lv_at hl 7 rfl) ?_
          obtain ⟨hv7, h⟩ := chk h
          refine S_zald (h := shM) (i := L 7) hx hb hK hP 32 rfl (okI_in hv7) d_Mod_spelled_44 ?_
          refine lv_if_eq (tgt := 52) hx hb d_Mod_spelled_45 (by decide) (fun hc8 => ?_) (fun hc8 => ?_)
          · rw [if_pos hc8] at h
            exact (ih.2.2.1) S (upd L 100 ((L 6) + (S.2.1 28 (L 7 : Int32).toNatClampNeg))) M ls H locs h (lv_sub hl [0, 1, 2, 3, 4, 5, 6, 7] rfl) hP hD hS
          · rw [if_neg hc8] at h
            refine lv_iconst (v := 1) hx hb d_Mod_spelled_48 (by decide) ?_
            refine lv_goto (tgt := 53) hx hb d_Mod_spelled_49 (by decide) ?_
            exact (ih.2.2.2.1) S (upd (upd L 101 (1 : Int32)) 100 ((L 6) + (S.2.1 28 (L 7 : Int32).toNatClampNeg))) M ls H locs h (lv_sub hl [0, 1, 2, 3, 4, 5, 6, 7] rfl) hP hD hS
    · intro S L M ls H locs h hl hP hD hS
      simp only [f_Mod_spelled] at h
      refine lv_iconst (v := 0) hx hb d_Mod_spelled_52 (by decide) ?_
      exact (ih.2.2.2.1) S (upd L 101 (0 : Int32)) M ls H locs h (lv_sub hl [0, 1, 2, 3, 4, 5, 6, 7] rfl) hP hD hS
    · intro S L M ls H locs h hl hP hD hS
      simp only [f_Mod_spelled] at h
      refine lv_iadd hx hb d_Mod_spelled_53 ?_
      refine lv_istore (lv' := [(6, .int ((L 100) + (L 101))), (0, .ref (ad 0)), (1, .int (L 1)), (2, .int (L 2)), (3, .int (L 3)), (4, .int (L 4)), (5, .int (L 5)), (7, .int (L 7))]) hx hb d_Mod_spelled_54 hl (by decide) rfl (fun ls hl => ?_)
      refine lv_iconst (v := 0) hx hb d_Mod_spelled_56 (by decide) ?_
      refine lv_istore (lv' := [(8, .int 0), (6, .int ((L 100) + (L 101))), (0, .ref (ad 0)), (1, .int (L 1)), (2, .int (L 2)), (3, .int (L 3)), (4, .int (L 4)), (5, .int (L 5)), (7, .int (L 7))]) hx hb d_Mod_spelled_57 hl (by decide) rfl (fun ls hl => ?_)
      exact (ih.2.2.2.2.1) S (upd (upd L 6 ((L 100) + (L 101))) 8 (0 : Int32)) M ls H locs h (lv_sub hl [2, 3, 4, 5, 6, 7, 1, 8, 0] rfl) hP hD hS
    · intro S L M ls H locs h hl hP hD hS
      simp only [f_Mod_spelled] at h
      refine lv_iload hx hb d_Mod_spelled_59 (lv_at hl 8 rfl) ?_
      refine lv_aload_n hx hb d_Mod_spelled_61 rfl (lv_at hl 0 rfl) ?_
      refine S_getR (h := shM) (C := "MacroMillModel") (T := F_Mod) hx hb htt in_Mod hown hK hP 0 69 rfl 29 rfl rfl (by decide) (htt _ k_2305) (fun _ h9 => h9) d_Mod_spelled_62 ?_
      refine lv_iload hx hb d_Mod_spelled_65 (lv_at hl 7 rfl) ?_
      obtain ⟨hv1, h⟩ := chk h
      refine S_iald (h := shM) (i := L 7) hx hb hK hP 28 rfl (okI_in hv1) d_Mod_spelled_67 ?_
      refine lv_icmp_ge (tgt := 98) hx hb d_Mod_spelled_68 (by decide) (fun hc2 => ?_) (fun hc2 => ?_)
      · rw [if_pos hc2] at h
        refine lv_aload_n hx hb d_Mod_spelled_98 rfl (lv_at hl 0 rfl) ?_
        refine S_getR (h := shM) (C := "MacroMillModel") (T := F_Mod) hx hb htt in_Mod hown hK hP 0 72 rfl 32 rfl rfl (by decide) (htt _ k_2308) (fun _ h9 => h9) d_Mod_spelled_99 ?_
        refine lv_iload hx hb d_Mod_spelled_102 (lv_at hl 7 rfl) ?_
        obtain ⟨hv3, h⟩ := chk h
        refine S_iald (h := shM) (i := L 7) hx hb hK hP 31 rfl (okI_in hv3) d_Mod_spelled_104 ?_
        refine lv_istore (lv' := [(7, .int (S.2.1 31 (L 7 : Int32).toNatClampNeg)), (0, .ref (ad 0)), (1, .int (L 1)), (2, .int (L 2)), (3, .int (L 3)), (4, .int (L 4)), (5, .int (L 5)), (6, .int (L 6)), (8, .int (L 8))]) hx hb d_Mod_spelled_105 hl (by decide) rfl (fun ls hl => ?_)
        refine lv_goto (tgt := 16) hx hb d_Mod_spelled_107 (by decide) ?_
        exact (ih.2.1) S (upd L 7 (S.2.1 31 (L 7 : Int32).toNatClampNeg)) M ls H locs h (lv_sub hl [1, 2, 3, 4, 5, 6, 7, 0] rfl) hP hD hS
      · rw [if_neg hc2] at h
        refine lv_iload hx hb d_Mod_spelled_71 (lv_at hl 6 rfl) ?_
        refine lv_aload_n hx hb d_Mod_spelled_73 rfl (lv_at hl 0 rfl) ?_
        refine lv_iload hx hb d_Mod_spelled_74 (lv_at hl 7 rfl) ?_
        refine lv_iload hx hb d_Mod_spelled_76 (lv_at hl 8 rfl) ?_
        obtain ⟨⟨r4, T4⟩, hq4, h⟩ := Option.bind_eq_some_iff.mp h
        try dsimp only at h
        refine go_iS (As := [.ref (ad 0), .int (L 7), .int (L 8)]) (g := g) (A := A) (h := shM) hP hK hD hS hA hN (fun hp => va_runV (As := [.int (L 7), .int (L 8)]) (rest := [.int (L 6)]) ⟨hx, hb, hml, hown, htt⟩ (t_Mod_isMarked l g _ ad S (L 7 : Int32) (L 8 : Int32) k9 r4 T4 hq4) ⟨(cb_L htt k_3111 k_276 k_3108 hd_Mod_isMarked ⟨(Nat.le_trans (by decide +kernel) hRf), (Nat.le_trans (by decide +kernel) hRl)⟩), htt _ k_3110, htt _ k_215⟩ ⟨hp.1, S_recv hK hP 0 rfl rfl, hp.2⟩ rfl rfl hl.1 rfl (lv_room (Nat.le_of_ble_eq_true rfl)) d_Mod_spelled_78 ⟨hRc, hRs⟩) (fun r0 Sn H locs hw9 hP hD hS => ?_)
        obtain ⟨e9, e8⟩ := hw9
        rw [e8] at hP hD
        refine W.widen (k := cells) (n := slots) (Nat.le_refl _) (Nat.le_refl _) ?_
        refine toI (y := r4) e9 ?_
        refine lv_if_eq (tgt := 88) hx hb d_Mod_spelled_81 (by decide) (fun hc5 => ?_) (fun hc5 => ?_)
        · rw [if_pos hc5] at h
          refine lv_iconst (v := 0) hx hb d_Mod_spelled_88 (by decide) ?_
          exact (ih.2.2.2.2.2.1) T4 (upd (upd L 101 (0 : Int32)) 100 (L 6)) M ls H locs h (lv_sub hl [0, 1, 2, 3, 4, 5, 6, 7, 8] rfl) hP hD hS
        · rw [if_neg hc5] at h
          refine lv_iconst (v := 1) hx hb d_Mod_spelled_84 (by decide) ?_
          refine lv_goto (tgt := 89) hx hb d_Mod_spelled_85 (by decide) ?_
          exact (ih.2.2.2.2.2.1) T4 (upd (upd L 101 (1 : Int32)) 100 (L 6)) M ls H locs h (lv_sub hl [0, 1, 2, 3, 4, 5, 6, 7, 8] rfl) hP hD hS
    · intro S L M ls H locs h hl hP hD hS
      simp only [f_Mod_spelled] at h
      refine lv_iadd hx hb d_Mod_spelled_89 ?_
      refine lv_istore (lv' := [(6, .int ((L 100) + (L 101))), (0, .ref (ad 0)), (1, .int (L 1)), (2, .int (L 2)), (3, .int (L 3)), (4, .int (L 4)), (5, .int (L 5)), (7, .int (L 7)), (8, .int (L 8))]) hx hb d_Mod_spelled_90 hl (by decide) rfl (fun ls hl => ?_)
      refine lv_iinc (k := 8) (v := (L 8) + 1) (lv' := [(8, .int ((L 8) + 1)), (6, .int ((L 100) + (L 101))), (0, .ref (ad 0)), (1, .int (L 1)), (2, .int (L 2)), (3, .int (L 3)), (4, .int (L 4)), (5, .int (L 5)), (7, .int (L 7))]) hx hb d_Mod_spelled_92 hl rfl rfl (by decide) rfl (fun ls hl => ?_)
      refine lv_goto (tgt := 59) hx hb d_Mod_spelled_95 (by decide) ?_
      exact (ih.2.2.2.2.1) S (upd (upd L 6 ((L 100) + (L 101))) 8 ((L 8) + 1)) M ls H locs h (lv_sub hl [2, 3, 4, 5, 6, 7, 1, 8, 0] rfl) hP hD hS
    · intro S L M ls H locs h hl hP hD hS
      simp only [f_Mod_spelled] at h
      refine lv_iload hx hb d_Mod_spelled_131 (lv_at hl 7 rfl) ?_
      refine lv_iload_n hx hb d_Mod_spelled_133 rfl (lv_at hl 2 rfl) ?_
      refine lv_icmp_eq (tgt := 221) hx hb d_Mod_spelled_134 (by decide) (fun hc1 => ?_) (fun hc1 => ?_)
      · rw [if_pos hc1] at h
        refine lv_aload_n hx hb d_Mod_spelled_221 rfl (lv_at hl 0 rfl) ?_
        refine lv_bipush (v := 34) hx hb d_Mod_spelled_222 (by decide) ?_
        obtain ⟨⟨r2, T2⟩, hq2, h⟩ := Option.bind_eq_some_iff.mp h
        try dsimp only at h
        refine go_vS (As := [.ref (ad 0), .int 34]) (g := g) (A := A) (h := shM) hP hK hD hS hA hN (fun hp => va_runV (As := [.int 34]) (rest := []) ⟨hx, hb, hml, hown, htt⟩ (t_Mod_spell l g _ ad S (34 : Int32) k9 r2 T2 hq2) ⟨(cb_L htt k_3068 k_276 k_3065 hd_Mod_spell ⟨(Nat.le_trans (by decide +kernel) hRf), (Nat.le_trans (by decide +kernel) hRl)⟩), htt _ k_3067, htt _ k_205⟩ ⟨hp.1, S_recv hK hP 0 rfl rfl, hp.2⟩ rfl rfl hl.1 rfl (lv_room (Nat.le_of_ble_eq_true rfl)) d_Mod_spelled_224 ⟨hRc, hRs⟩) (fun Sn H locs hw9 hP hD hS => ?_)
        have e8 := hw9
        rw [e8] at hP hD
        refine W.widen (k := cells) (n := slots) (Nat.le_refl _) (Nat.le_refl _) ?_
        refine lv_aload_n hx hb d_Mod_spelled_227 rfl (lv_at hl 0 rfl) ?_
        refine lv_iload hx hb d_Mod_spelled_228 (lv_at hl 5 rfl) ?_
        refine lv_ldcw (v := 65536) hx hb hown (htt _ k_3055) d_Mod_spelled_230 ?_
        refine lv_aload_n hx hb d_Mod_spelled_233 rfl (lv_at hl 0 rfl) ?_
        refine S_getI (h := shM) (C := "MacroMillModel") (T := F_Mod) hx hb htt in_Mod hown hK hP 0 65 rfl rfl rfl (by decide) (htt _ k_2301) (fun _ h9 => h9) d_Mod_spelled_234 ?_
        refine lv_iadd hx hb d_Mod_spelled_237 ?_
        refine lv_iload hx hb d_Mod_spelled_238 (lv_at hl 5 rfl) ?_
        show W _ _ _ _ _ _ _ _ _ _ _ _ _ _ _ (F0 _ 240 _ _)
        refine lv_isub hx hb d_Mod_spelled_240 ?_
        refine lv_iload_n hx hb d_Mod_spelled_241 rfl (lv_at hl 3 rfl) ?_
        refine lv_iload hx hb d_Mod_spelled_242 (lv_at hl 4 rfl) ?_
        refine lv_iconst (v := 0) hx hb d_Mod_spelled_244 (by decide) ?_
        obtain ⟨⟨r3, T3⟩, hq3, h⟩ := Option.bind_eq_some_iff.mp h
        try dsimp only at h
        refine go_iS (As := [.ref (ad 0), .int (L 5), .int (((65536 : Int32) + (T2.1 0 65)) - (L 5)), .int (L 3), .int (L 4), .int 0]) (g := g) (A := A) (h := shM) hP hK hD hS hA hN (fun hp => va_runV (As := [.int (L 5), .int (((65536 : Int32) + (T2.1 0 65)) - (L 5)), .int (L 3), .int (L 4), .int 0]) (rest := []) ⟨hx, hb, hml, hown, htt⟩ (t_Mod_cell l g _ ad T2 (L 5 : Int32) (((65536 : Int32) + (T2.1 0 65)) - (L 5) : Int32) (L 3 : Int32) (L 4 : Int32) (0 : Int32) k9 r3 T3 hq3) ⟨(cb_L htt k_3007 k_276 k_3004 hd_Mod_cell ⟨(Nat.le_trans (by decide +kernel) hRf), (Nat.le_trans (by decide +kernel) hRl)⟩), htt _ k_3006, htt _ k_191⟩ ⟨hp.1, S_recv hK hP 0 rfl rfl, hp.2⟩ rfl rfl hl.1 rfl (lv_room (Nat.le_of_ble_eq_true rfl)) d_Mod_spelled_245 ⟨hRc, hRs⟩) (fun r0 Sn H locs hw9 hP hD hS => ?_)
        obtain ⟨e9, e8⟩ := hw9
        rw [e8] at hP hD
        refine W.widen (k := cells) (n := slots) (Nat.le_refl _) (Nat.le_refl _) ?_
        refine toI (y := r3) e9 ?_
        cases h
        exact kx_248 ls H locs hP hD hS
      · rw [if_neg hc1] at h
        refine lv_iload hx hb d_Mod_spelled_137 (lv_at hl 7 rfl) ?_
        refine lv_iload_n hx hb d_Mod_spelled_139 rfl (lv_at hl 1 rfl) ?_
        refine lv_icmp_eq (tgt := 159) hx hb d_Mod_spelled_140 (by decide) (fun hc4 => ?_) (fun hc4 => ?_)
        · rw [if_pos hc4] at h
          exact (ih.2.2.2.2.2.2.2.1) S L M ls H locs h (lv_sub hl [0, 1, 2, 3, 4, 5, 6, 7] rfl) hP hD hS
        · rw [if_neg hc4] at h
          refine lv_aload_n hx hb d_Mod_spelled_143 rfl (lv_at hl 0 rfl) ?_
          refine S_getR (h := shM) (C := "MacroMillModel") (T := F_Mod) hx hb htt in_Mod hown hK hP 0 73 rfl 33 rfl rfl (by decide) (htt _ k_2309) (fun _ h9 => h9) d_Mod_spelled_144 ?_
          refine lv_iload hx hb d_Mod_spelled_147 (lv_at hl 7 rfl) ?_
          obtain ⟨hv5, h⟩ := chk h
          refine S_zald (h := shM) (i := L 7) hx hb hK hP 32 rfl (okI_in hv5) d_Mod_spelled_149 ?_
          refine lv_if_eq (tgt := 159) hx hb d_Mod_spelled_150 (by decide) (fun hc6 => ?_) (fun hc6 => ?_)
          · rw [if_pos hc6] at h
            exact (ih.2.2.2.2.2.2.2.1) S L M ls H locs h (lv_sub hl [0, 1, 2, 3, 4, 5, 6, 7] rfl) hP hD hS
          · rw [if_neg hc6] at h
            refine lv_aload_n hx hb d_Mod_spelled_153 rfl (lv_at hl 0 rfl) ?_
            refine lv_bipush (v := 32) hx hb d_Mod_spelled_154 (by decide) ?_
            obtain ⟨⟨r7, T7⟩, hq7, h⟩ := Option.bind_eq_some_iff.mp h
            try dsimp only at h
            refine go_vS (As := [.ref (ad 0), .int 32]) (g := g) (A := A) (h := shM) hP hK hD hS hA hN (fun hp => va_runV (As := [.int 32]) (rest := []) ⟨hx, hb, hml, hown, htt⟩ (t_Mod_spell l g _ ad S (32 : Int32) k9 r7 T7 hq7) ⟨(cb_L htt k_3068 k_276 k_3065 hd_Mod_spell ⟨(Nat.le_trans (by decide +kernel) hRf), (Nat.le_trans (by decide +kernel) hRl)⟩), htt _ k_3067, htt _ k_205⟩ ⟨hp.1, S_recv hK hP 0 rfl rfl, hp.2⟩ rfl rfl hl.1 rfl (lv_room (Nat.le_of_ble_eq_true rfl)) d_Mod_spelled_156 ⟨hRc, hRs⟩) (fun Sn H locs hw9 hP hD hS => ?_)
            have e8 := hw9
            rw [e8] at hP hD
            refine W.widen (k := cells) (n := slots) (Nat.le_refl _) (Nat.le_refl _) ?_
            exact (ih.2.2.2.2.2.2.2.1) T7 L M ls H locs h (lv_sub hl [0, 1, 2, 3, 4, 5, 6, 7] rfl) hP hD hS
    · intro S L M ls H locs h hl hP hD hS
      simp only [f_Mod_spelled] at h
      refine lv_iconst (v := 0) hx hb d_Mod_spelled_159 (by decide) ?_
      refine lv_istore (lv' := [(8, .int 0), (0, .ref (ad 0)), (1, .int (L 1)), (2, .int (L 2)), (3, .int (L 3)), (4, .int (L 4)), (5, .int (L 5)), (6, .int (L 6)), (7, .int (L 7))]) hx hb d_Mod_spelled_160 hl (by decide) rfl (fun ls hl => ?_)
      exact (ih.2.2.2.2.2.2.2.2.1) S (upd L 8 (0 : Int32)) M ls H locs h (lv_sub hl [1, 2, 3, 4, 5, 6, 7, 8, 0] rfl) hP hD hS
    · intro S L M ls H locs h hl hP hD hS
      simp only [f_Mod_spelled] at h
      refine lv_iload hx hb d_Mod_spelled_162 (lv_at hl 8 rfl) ?_
      refine lv_aload_n hx hb d_Mod_spelled_164 rfl (lv_at hl 0 rfl) ?_
      refine S_getR (h := shM) (C := "MacroMillModel") (T := F_Mod) hx hb htt in_Mod hown hK hP 0 69 rfl 29 rfl rfl (by decide) (htt _ k_2305) (fun _ h9 => h9) d_Mod_spelled_165 ?_
      refine lv_iload hx hb d_Mod_spelled_168 (lv_at hl 7 rfl) ?_
      obtain ⟨hv1, h⟩ := chk h
      refine S_iald (h := shM) (i := L 7) hx hb hK hP 28 rfl (okI_in hv1) d_Mod_spelled_170 ?_
      refine lv_icmp_ge (tgt := 209) hx hb d_Mod_spelled_171 (by decide) (fun hc2 => ?_) (fun hc2 => ?_)
      · rw [if_pos hc2] at h
        refine lv_aload_n hx hb d_Mod_spelled_209 rfl (lv_at hl 0 rfl) ?_
        refine S_getR (h := shM) (C := "MacroMillModel") (T := F_Mod) hx hb htt in_Mod hown hK hP 0 72 rfl 32 rfl rfl (by decide) (htt _ k_2308) (fun _ h9 => h9) d_Mod_spelled_210 ?_
        refine lv_iload hx hb d_Mod_spelled_213 (lv_at hl 7 rfl) ?_
        obtain ⟨hv3, h⟩ := chk h
        refine S_iald (h := shM) (i := L 7) hx hb hK hP 31 rfl (okI_in hv3) d_Mod_spelled_215 ?_
        refine lv_istore (lv' := [(7, .int (S.2.1 31 (L 7 : Int32).toNatClampNeg)), (0, .ref (ad 0)), (1, .int (L 1)), (2, .int (L 2)), (3, .int (L 3)), (4, .int (L 4)), (5, .int (L 5)), (6, .int (L 6)), (8, .int (L 8))]) hx hb d_Mod_spelled_216 hl (by decide) rfl (fun ls hl => ?_)
        refine lv_goto (tgt := 131) hx hb d_Mod_spelled_218 (by decide) ?_
        exact (ih.2.2.2.2.2.2.1) S (upd L 7 (S.2.1 31 (L 7 : Int32).toNatClampNeg)) M ls H locs h (lv_sub hl [1, 2, 3, 4, 5, 6, 7, 0] rfl) hP hD hS
      · rw [if_neg hc2] at h
        refine lv_aload_n hx hb d_Mod_spelled_174 rfl (lv_at hl 0 rfl) ?_
        refine lv_iload hx hb d_Mod_spelled_175 (lv_at hl 7 rfl) ?_
        refine lv_iload hx hb d_Mod_spelled_177 (lv_at hl 8 rfl) ?_
        obtain ⟨⟨r4, T4⟩, hq4, h⟩ := Option.bind_eq_some_iff.mp h
        try dsimp only at h
        refine go_iS (As := [.ref (ad 0), .int (L 7), .int (L 8)]) (g := g) (A := A) (h := shM) hP hK hD hS hA hN (fun hp => va_runV (As := [.int (L 7), .int (L 8)]) (rest := []) ⟨hx, hb, hml, hown, htt⟩ (t_Mod_isMarked l g _ ad S (L 7 : Int32) (L 8 : Int32) k9 r4 T4 hq4) ⟨(cb_L htt k_3111 k_276 k_3108 hd_Mod_isMarked ⟨(Nat.le_trans (by decide +kernel) hRf), (Nat.le_trans (by decide +kernel) hRl)⟩), htt _ k_3110, htt _ k_215⟩ ⟨hp.1, S_recv hK hP 0 rfl rfl, hp.2⟩ rfl rfl hl.1 rfl (lv_room (Nat.le_of_ble_eq_true rfl)) d_Mod_spelled_179 ⟨hRc, hRs⟩) (fun r0 Sn H locs hw9 hP hD hS => ?_)
        obtain ⟨e9, e8⟩ := hw9
        rw [e8] at hP hD
        refine W.widen (k := cells) (n := slots) (Nat.le_refl _) (Nat.le_refl _) ?_
        refine toI (y := r4) e9 ?_
        refine lv_if_eq (tgt := 191) hx hb d_Mod_spelled_182 (by decide) (fun hc5 => ?_) (fun hc5 => ?_)
        · rw [if_pos hc5] at h
          exact (ih.2.2.2.2.2.2.2.2.2) T4 L M ls H locs h (lv_sub hl [0, 1, 2, 3, 4, 5, 6, 7, 8] rfl) hP hD hS
        · rw [if_neg hc5] at h
          refine lv_aload_n hx hb d_Mod_spelled_185 rfl (lv_at hl 0 rfl) ?_
          refine lv_bipush (v := 92) hx hb d_Mod_spelled_186 (by decide) ?_
          obtain ⟨⟨r6, T6⟩, hq6, h⟩ := Option.bind_eq_some_iff.mp h
          try dsimp only at h
          refine go_vS (As := [.ref (ad 0), .int 92]) (g := g) (A := A) (h := shM) hP hK hD hS hA hN (fun hp => va_runV (As := [.int 92]) (rest := []) ⟨hx, hb, hml, hown, htt⟩ (t_Mod_spell l g _ ad T4 (92 : Int32) k9 r6 T6 hq6) ⟨(cb_L htt k_3068 k_276 k_3065 hd_Mod_spell ⟨(Nat.le_trans (by decide +kernel) hRf), (Nat.le_trans (by decide +kernel) hRl)⟩), htt _ k_3067, htt _ k_205⟩ ⟨hp.1, S_recv hK hP 0 rfl rfl, hp.2⟩ rfl rfl hl.1 rfl (lv_room (Nat.le_of_ble_eq_true rfl)) d_Mod_spelled_188 ⟨hRc, hRs⟩) (fun Sn H locs hw9 hP hD hS => ?_)
          have e8 := hw9
          rw [e8] at hP hD
          refine W.widen (k := cells) (n := slots) (Nat.le_refl _) (Nat.le_refl _) ?_
          exact (ih.2.2.2.2.2.2.2.2.2) T6 L M ls H locs h (lv_sub hl [0, 1, 2, 3, 4, 5, 6, 7, 8] rfl) hP hD hS
    · intro S L M ls H locs h hl hP hD hS
      simp only [f_Mod_spelled] at h
      refine lv_aload_n hx hb d_Mod_spelled_191 rfl (lv_at hl 0 rfl) ?_
      refine lv_aload_n hx hb d_Mod_spelled_192 rfl (lv_at hl 0 rfl) ?_
      refine lv_iload hx hb d_Mod_spelled_193 (lv_at hl 7 rfl) ?_
      refine lv_iload hx hb d_Mod_spelled_195 (lv_at hl 8 rfl) ?_
      obtain ⟨⟨r1, T1⟩, hq1, h⟩ := Option.bind_eq_some_iff.mp h
      try dsimp only at h
      refine go_iS (As := [.ref (ad 0), .int (L 7), .int (L 8)]) (g := g) (A := A) (h := shM) hP hK hD hS hA hN (fun hp => va_runV (As := [.int (L 7), .int (L 8)]) (rest := [.ref (ad 0)]) ⟨hx, hb, hml, hown, htt⟩ (t_Mod_byteOf l g _ ad S (L 7 : Int32) (L 8 : Int32) k9 r1 T1 hq1) ⟨(cb_L htt k_3016 k_276 k_3013 hd_Mod_byteOf ⟨(Nat.le_trans (by decide +kernel) hRf), (Nat.le_trans (by decide +kernel) hRl)⟩), htt _ k_3015, htt _ k_193⟩ ⟨hp.1, S_recv hK hP 0 rfl rfl, hp.2⟩ rfl rfl hl.1 rfl (lv_room (Nat.le_of_ble_eq_true rfl)) d_Mod_spelled_197 ⟨hRc, hRs⟩) (fun r0 Sn H locs hw9 hP hD hS => ?_)
      obtain ⟨e9, e8⟩ := hw9
      rw [e8] at hP hD
      refine W.widen (k := cells) (n := slots) (Nat.le_refl _) (Nat.le_refl _) ?_
      refine toI (y := r1) e9 ?_
      obtain ⟨⟨r2, T2⟩, hq2, h⟩ := Option.bind_eq_some_iff.mp h
      try dsimp only at h
      refine go_vS (As := [.ref (ad 0), .int r1]) (g := g) (A := A) (h := shM) hP hK hD hS hA hN (fun hp => va_runV (As := [.int r1]) (rest := []) ⟨hx, hb, hml, hown, htt⟩ (t_Mod_spell l g _ ad T1 (r1 : Int32) k9 r2 T2 hq2) ⟨(cb_L htt k_3068 k_276 k_3065 hd_Mod_spell ⟨(Nat.le_trans (by decide +kernel) hRf), (Nat.le_trans (by decide +kernel) hRl)⟩), htt _ k_3067, htt _ k_205⟩ ⟨hp.1, S_recv hK hP 0 rfl rfl, hp.2⟩ rfl rfl hl.1 rfl (lv_room (Nat.le_of_ble_eq_true rfl)) d_Mod_spelled_200 ⟨hRc, hRs⟩) (fun Sn H locs hw9 hP hD hS => ?_)
      have e8 := hw9
      rw [e8] at hP hD
      refine W.widen (k := cells) (n := slots) (Nat.le_refl _) (Nat.le_refl _) ?_
      refine lv_iinc (k := 8) (v := (L 8) + 1) (lv' := [(8, .int ((L 8) + 1)), (0, .ref (ad 0)), (1, .int (L 1)), (2, .int (L 2)), (3, .int (L 3)), (4, .int (L 4)), (5, .int (L 5)), (6, .int (L 6)), (7, .int (L 7))]) hx hb d_Mod_spelled_203 hl rfl rfl (by decide) rfl (fun ls hl => ?_)
      refine lv_goto (tgt := 162) hx hb d_Mod_spelled_206 (by decide) ?_
      exact (ih.2.2.2.2.2.2.2.2.1) T2 (upd L 8 ((L 8) + 1)) M ls H locs h (lv_sub hl [1, 2, 3, 4, 5, 6, 7, 8, 0] rfl) hP hD hS
abbrev rm_t_Mod_spelled : Room := { frames := 3, cells := 0, slots := 0, locals := 69 }
theorem t_Mod_spelled (l : Launch) (g : gG) (sz : Nat) (ad : Nat → Nat) (S : sS) (v1 : Int32) (v2 : Int32) (v3 : Int32) (v4 : Int32) (k : Nat) (r : Int32) (S9 : sS) (h : f_Mod_spelled k 0 S (upd (upd (upd (upd (fun _ => 0) 1 v1) 2 v2) 3 v3) 4 v4) (fun _ => 0) = some (r, S9)) : Ci l y_Mod_spelled b_Mod_spelled 9 rm_t_Mod_spelled g [.ref (ad 0), .int v1, .int v2, .int v3, .int v4] (Sw shM g ad S) sz (fun r1 w => ∃ S1 : sS, w = Sw shM g ad S1 ∧ r1 = r ∧ S1 = S9) := by
  refine startI (by decide) (Nat.le_of_ble_eq_true rfl) ?_
  intro p e s m below meth c A ls hx hb hr hml hlocks hmn hown htt hN hA hP hK hD hS hl
  exact (w_Mod_spelled hx hb hml hown htt hK hN hA (by decide +kernel) (by decide +kernel) (by decide +kernel) (by decide +kernel) r S9 (fun ls H locs hP hD hS => fin_i (g := g) (ws := Sw shM g ad S9) hx hb hr hlocks (by decide +kernel) (by decide +kernel) hP hD hS ⟨_, rfl, rfl, rfl⟩ d_Mod_spelled_121) (fun ls H locs hP hD hS => fin_i (g := g) (ws := Sw shM g ad S9) hx hb hr hlocks (by decide +kernel) (by decide +kernel) hP hD hS ⟨_, rfl, rfl, rfl⟩ d_Mod_spelled_248) k).1 S (upd (upd (upd (upd (fun _ => 0) 1 v1) 2 v2) 3 v3) 4 v4) (fun _ => 0) ls _ _ h hl hP hD hS
def f_Mod_finish : Nat → Nat → sS → (Nat → Int32) → (Nat → Int64) → Option (Int32 × sS)
  | 0, _, _, _, _ => none
  | k + 1, 0, S, L, M => if okI (L 3) 62 = true then (f_Mod_finish k 1 S (upd L 5 (S.2.1 57 (L 3 : Int32).toNatClampNeg)) M) else none
  | k + 1, 1, S, L, M => if (L 5) < (0 : Int32) then (f_Mod_finish k 3 S L M) else (if (S.1 0 10) = (0 : Int32) then (f_Mod_finish k 2 S (upd L 6 (0 : Int32)) M) else (f_Mod_finish k 3 S L M))
  | k + 1, 2, S, L, M => if (7 : Int32) ≤ (L 6) then ((f_Mod_setOfSome k 0 S (upd (fun _ => 0) 1 (L 4 : Int32)) (fun _ => 0)).bind (fun (r2, T2) => if okI (L 5) 260000 = true then (if okI (L 5) 260000 = true then (f_Mod_finish k 1 (putA T2 30 (L 5 : Int32).toNatClampNeg r2) (upd L 5 ((putA T2 30 (L 5 : Int32).toNatClampNeg r2).2.1 31 (L 5 : Int32).toNatClampNeg)) M) else none) else none)) else (if okI (L 5) 260000 = true then (if okI (((7 : Int32) * (S.2.1 30 (L 5 : Int32).toNatClampNeg)) + (L 6)) 7007 = true then (if okI (((7 : Int32) * (L 3)) + (L 6)) 434 = true then (if okI (L 6) 7 = true then (f_Mod_finish k 2 (putL S 47 (L 6 : Int32).toNatClampNeg ((S.2.2 46 (((7 : Int32) * (S.2.1 30 (L 5 : Int32).toNatClampNeg)) + (L 6) : Int32).toNatClampNeg) ||| (S.2.2 52 (((7 : Int32) * (L 3)) + (L 6) : Int32).toNatClampNeg))) (upd L 6 ((L 6) + 1)) M) else none) else none) else none) else none)
  | k + 1, 3, S, L, M => if okI (L 3) 62 = true then (if (0 : Int32) ≤ (S.2.1 57 (L 3 : Int32).toNatClampNeg) then (if okI (L 3) 62 = true then (if okI (L 1) 260000 = true then (if okI (S.2.1 57 (L 3 : Int32).toNatClampNeg) 260000 = true then (if okI (L 3) 62 = true then (if okI (L 1) 260000 = true then (if okI ((putA S 32 (S.2.1 57 (L 3 : Int32).toNatClampNeg : Int32).toNatClampNeg (vp_nar .boolean (S.2.1 32 (L 1 : Int32).toNatClampNeg))).2.1 57 (L 3 : Int32).toNatClampNeg) 260000 = true then (if okI (L 3) 62 = true then (if okI ((putA (putA S 32 (S.2.1 57 (L 3 : Int32).toNatClampNeg : Int32).toNatClampNeg (vp_nar .boolean (S.2.1 32 (L 1 : Int32).toNatClampNeg))) 33 ((putA S 32 (S.2.1 57 (L 3 : Int32).toNatClampNeg : Int32).toNatClampNeg (vp_nar .boolean (S.2.1 32 (L 1 : Int32).toNatClampNeg))).2.1 57 (L 3 : Int32).toNatClampNeg : Int32).toNatClampNeg (vp_nar .boolean ((putA S 32 (S.2.1 57 (L 3 : Int32).toNatClampNeg : Int32).toNatClampNeg (vp_nar .boolean (S.2.1 32 (L 1 : Int32).toNatClampNeg))).2.1 33 (L 1 : Int32).toNatClampNeg))).2.1 58 (L 3 : Int32).toNatClampNeg) 260000 = true then (if okI (L 3) 62 = true then (some ((putA (putA (putA S 32 (S.2.1 57 (L 3 : Int32).toNatClampNeg : Int32).toNatClampNeg (vp_nar .boolean (S.2.1 32 (L 1 : Int32).toNatClampNeg))) 33 ((putA S 32 (S.2.1 57 (L 3 : Int32).toNatClampNeg : Int32).toNatClampNeg (vp_nar .boolean (S.2.1 32 (L 1 : Int32).toNatClampNeg))).2.1 57 (L 3 : Int32).toNatClampNeg : Int32).toNatClampNeg (vp_nar .boolean ((putA S 32 (S.2.1 57 (L 3 : Int32).toNatClampNeg : Int32).toNatClampNeg (vp_nar .boolean (S.2.1 32 (L 1 : Int32).toNatClampNeg))).2.1 33 (L 1 : Int32).toNatClampNeg))) 31 ((putA (putA S 32 (S.2.1 57 (L 3 : Int32).toNatClampNeg : Int32).toNatClampNeg (vp_nar .boolean (S.2.1 32 (L 1 : Int32).toNatClampNeg))) 33 ((putA S 32 (S.2.1 57 (L 3 : Int32).toNatClampNeg : Int32).toNatClampNeg (vp_nar .boolean (S.2.1 32 (L 1 : Int32).toNatClampNeg))).2.1 57 (L 3 : Int32).toNatClampNeg : Int32).toNatClampNeg (vp_nar .boolean ((putA S 32 (S.2.1 57 (L 3 : Int32).toNatClampNeg : Int32).toNatClampNeg (vp_nar .boolean (S.2.1 32 (L 1 : Int32).toNatClampNeg))).2.1 33 (L 1 : Int32).toNatClampNeg))).2.1 58 (L 3 : Int32).toNatClampNeg : Int32).toNatClampNeg (L 2)).2.1 57 (L 3 : Int32).toNatClampNeg, (putA (putA (putA S 32 (S.2.1 57 (L 3 : Int32).toNatClampNeg : Int32).toNatClampNeg (vp_nar .boolean (S.2.1 32 (L 1 : Int32).toNatClampNeg))) 33 ((putA S 32 (S.2.1 57 (L 3 : Int32).toNatClampNeg : Int32).toNatClampNeg (vp_nar .boolean (S.2.1 32 (L 1 : Int32).toNatClampNeg))).2.1 57 (L 3 : Int32).toNatClampNeg : Int32).toNatClampNeg (vp_nar .boolean ((putA S 32 (S.2.1 57 (L 3 : Int32).toNatClampNeg : Int32).toNatClampNeg (vp_nar .boolean (S.2.1 32 (L 1 : Int32).toNatClampNeg))).2.1 33 (L 1 : Int32).toNatClampNeg))) 31 ((putA (putA S 32 (S.2.1 57 (L 3 : Int32).toNatClampNeg : Int32).toNatClampNeg (vp_nar .boolean (S.2.1 32 (L 1 : Int32).toNatClampNeg))) 33 ((putA S 32 (S.2.1 57 (L 3 : Int32).toNatClampNeg : Int32).toNatClampNeg (vp_nar .boolean (S.2.1 32 (L 1 : Int32).toNatClampNeg))).2.1 57 (L 3 : Int32).toNatClampNeg : Int32).toNatClampNeg (vp_nar .boolean ((putA S 32 (S.2.1 57 (L 3 : Int32).toNatClampNeg : Int32).toNatClampNeg (vp_nar .boolean (S.2.1 32 (L 1 : Int32).toNatClampNeg))).2.1 33 (L 1 : Int32).toNatClampNeg))).2.1 58 (L 3 : Int32).toNatClampNeg : Int32).toNatClampNeg (L 2)))) else none) else none) else none) else none) else none) else none) else none) else none) else none) else (some (L 2, S))) else none
  | _ + 1, _ + 4, _, _, _ => none
set_option maxHeartbeats 8000000 in
set_option maxRecDepth 100000 in
theorem w_Mod_finish {p : Program} {l : Launch} {e : Env} {R : Room} {s : State} {m : MethodId} {args : Array Value} {below : List Frame} {meth : Method} {c : Code} {cells slots : Nat} {Q : State → Prop} {g : gG} {A : Nat → Prop} {ad : Nat → Nat} (hx : p.tables.exec = Jvm.exec) (hb : c.code = b_Mod_finish) (hml : c.maxLocals = 7) (hown : s.vm.findClass "MacroMillModel" = some m.cls) (htt : ∀ w ∈ gt, w.before args s = true) (hK : va_K g.1 classes (tysG g) s) (hN : nw s) (hA : ∀ q : Nat, s.heap.size ≤ q → A q) (hRf : 3 ≤ R.frames) (hRl : 69 ≤ R.locals) (hRc : cells ≤ R.cells) (hRs : slots ≤ R.slots) (r : Int32) (S9 : sS)
    (kx_109 : ∀ (ls : Array Slot) (H : Heap) (locs : List Loc), va_P g.1 classes (Sw shM g ad S9) H → va_D A (Sw shM g ad S9) → va_S A s.heap H locs → W p l e R s m args below meth c H locs cells slots Q (F0 m 109 ls [.int r]))
    (kx_162 : ∀ (ls : Array Slot) (H : Heap) (locs : List Loc), va_P g.1 classes (Sw shM g ad S9) H → va_D A (Sw shM g ad S9) → va_S A s.heap H locs → W p l e R s m args below meth c H locs cells slots Q (F0 m 162 ls [.int r])) :
    ∀ k9 : Nat, (∀ (S : sS) (L : Nat → Int32) (M : Nat → Int64) (ls : Array Slot) (H : Heap) (locs : List Loc), f_Mod_finish k9 0 S L M = some (r, S9) → lv_has ls 7 [(0, .ref (ad 0)), (1, .int (L 1)), (2, .int (L 2)), (3, .int (L 3)), (4, .int (L 4))] → va_P g.1 classes (Sw shM g ad S) H → va_D A (Sw shM g ad S) → va_S A s.heap H locs → W p l e R s m args below meth c H locs cells slots Q (F0 m 0 ls [])) ∧ (∀ (S : sS) (L : Nat → Int32) (M : Nat → Int64) (ls : Array Slot) (H : Heap) (locs : List Loc), f_Mod_finish k9 1 S L M = some (r, S9) → lv_has ls 7 [(0, .ref (ad 0)), (1, .int (L 1)), (2, .int (L 2)), (3, .int (L 3)), (4, .int (L 4)), (5, .int (L 5))] → va_P g.1 classes (Sw shM g ad S) H → va_D A (Sw shM g ad S) → va_S A s.heap H locs → W p l e R s m args below meth c H locs cells slots Q (F0 m 8 ls [])) ∧ (∀ (S : sS) (L : Nat → Int32) (M : Nat → Int64) (ls : Array Slot) (H : Heap) (locs : List Loc), f_Mod_finish k9 2 S L M = some (r, S9) → lv_has ls 7 [(0, .ref (ad 0)), (1, .int (L 1)), (2, .int (L 2)), (3, .int (L 3)), (4, .int (L 4)), (5, .int (L 5)), (6, .int (L 6))] → va_P g.1 classes (Sw shM g ad S) H → va_D A (Sw shM g ad S) → va_S A s.heap H locs → W p l e R s m args below meth c H locs cells slots Q (F0 m 23 ls [])) ∧ (∀ (S : sS) (L : Nat → Int32) (M : Nat → Int64) (ls : Array Slot) (H : Heap) (locs : List Loc), f_Mod_finish k9 3 S L M = some (r, S9) → lv_has ls 7 [(0, .ref (ad 0)), (1, .int (L 1)), (2, .int (L 2)), (3, .int (L 3)), (4, .int (L 4)), (5, .int (L 5))] → va_P g.1 classes (Sw shM g ad S) H → va_D A (Sw shM g ad S) → va_S A s.heap H locs → W p l e R s m args below meth c H locs cells slots Q (F0 m 99 ls [])) := by
  intro k9
  induction k9 with
  | zero => exact ⟨(fun _ _ _ _ _ _ h => by simp [f_Mod_finish] at h), (fun _ _ _ _ _ _ h => by simp [f_Mod_finish] at h), (fun _ _ _ _ _ _ h => by simp [f_Mod_finish] at h), (fun _ _ _ _ _ _ h => by simp [f_Mod_finish] at h)⟩
  | succ k9 ih =>
    refine ⟨?_, ?_, ?_, ?_⟩
    · intro S L M ls H locs h hl hP hD hS
      simp only [f_Mod_finish] at h
      refine lv_aload_n hx hb d_Mod_finish_0 rfl (lv_at hl 0 rfl) ?_
      refine S_getR (h := shM) (C := "MacroMillModel") (T := F_Mod) hx hb htt in_Mod hown hK hP 0 105 rfl 58 rfl rfl (by decide) (htt _ k_2341) (fun _ h9 => h9) d_Mod_finish_1 ?_
      refine lv_iload_n hx hb d_Mod_finish_4 rfl (lv_at hl 3 rfl) ?_
      obtain ⟨hv1, h⟩ := chk h
      refine S_iald (h := shM) (i := L 3) hx hb hK hP 57 rfl (okI_in hv1) d_Mod_finish_5 ?_
      refine lv_istore (lv' := [(5, .int (S.2.1 57 (L 3 : Int32).toNatClampNeg)), (0, .ref (ad 0)), (1, .int (L 1)), (2, .int (L 2)), (3, .int (L 3)), (4, .int (L 4))]) hx hb d_Mod_finish_6 hl (by decide) rfl (fun ls hl => ?_)
      exact (ih.2.1) S (upd L 5 (S.2.1 57 (L 3 : Int32).toNatClampNeg)) M ls H locs h (lv_sub hl [1, 2, 3, 4, 5, 0] rfl) hP hD hS
    · intro S L M ls H locs h hl hP hD hS
      simp only [f_Mod_finish] at h
      refine lv_iload hx hb d_Mod_finish_8 (lv_at hl 5 rfl) ?_
      refine lv_if_lt (tgt := 99) hx hb d_Mod_finish_10 (by decide) (fun hc1 => ?_) (fun hc1 => ?_)
      · rw [if_pos hc1] at h
        exact (ih.2.2.2) S L M ls H locs h (lv_sub hl [0, 1, 2, 3, 4, 5] rfl) hP hD hS
      · rw [if_neg hc1] at h
        refine lv_aload_n hx hb d_Mod_finish_13 rfl (lv_at hl 0 rfl) ?_
        refine S_getI (h := shM) (C := "MacroMillModel") (T := F_Mod) hx hb htt in_Mod hown hK hP 0 10 rfl rfl rfl (by decide) (htt _ k_2246) (fun _ h9 => h9) d_Mod_finish_14 ?_
        refine lv_if_ne (tgt := 99) hx hb d_Mod_finish_17 (by decide) (fun hc2 => ?_) (fun hc2 => ?_)
        · rw [if_neg hc2] at h
          exact (ih.2.2.2) S L M ls H locs h (lv_sub hl [0, 1, 2, 3, 4, 5] rfl) hP hD hS
        · rw [if_pos hc2] at h
          refine lv_iconst (v := 0) hx hb d_Mod_finish_20 (by decide) ?_
          refine lv_istore (lv' := [(6, .int 0), (0, .ref (ad 0)), (1, .int (L 1)), (2, .int (L 2)), (3, .int (L 3)), (4, .int (L 4)), (5, .int (L 5))]) hx hb d_Mod_finish_21 hl (by decide) rfl (fun ls hl => ?_)
          exact (ih.2.2.1) S (upd L 6 (0 : Int32)) M ls H locs h (lv_sub hl [1, 2, 3, 4, 5, 6, 0] rfl) hP hD hS
    · intro S L M ls H locs h hl hP hD hS
      simp only [f_Mod_finish] at h
      refine lv_iload hx hb d_Mod_finish_23 (lv_at hl 6 rfl) ?_
      refine lv_bipush (v := 7) hx hb d_Mod_finish_25 (by decide) ?_
      refine lv_icmp_ge (tgt := 74) hx hb d_Mod_finish_27 (by decide) (fun hc1 => ?_) (fun hc1 => ?_)
      · rw [if_pos hc1] at h
        refine lv_aload_n hx hb d_Mod_finish_74 rfl (lv_at hl 0 rfl) ?_
        refine S_getR (h := shM) (C := "MacroMillModel") (T := F_Mod) hx hb htt in_Mod hown hK hP 0 71 rfl 31 rfl rfl (by decide) (htt _ k_2307) (fun _ h9 => h9) d_Mod_finish_75 ?_
        refine lv_iload hx hb d_Mod_finish_78 (lv_at hl 5 rfl) ?_
        refine lv_aload_n hx hb d_Mod_finish_80 rfl (lv_at hl 0 rfl) ?_
        refine lv_iload hx hb d_Mod_finish_81 (lv_at hl 4 rfl) ?_
        obtain ⟨⟨r2, T2⟩, hq2, h⟩ := Option.bind_eq_some_iff.mp h
        try dsimp only at h
        refine go_iS (As := [.ref (ad 0), .int (L 4)]) (g := g) (A := A) (h := shM) hP hK hD hS hA hN (fun hp => va_runV (As := [.int (L 4)]) (rest := [.int (L 5), .ref (ad 31)]) ⟨hx, hb, hml, hown, htt⟩ (t_Mod_setOfSome l g _ ad S (L 4 : Int32) k9 r2 T2 hq2) ⟨(cb_L htt k_3132 k_276 k_3129 hd_Mod_setOfSome ⟨(Nat.le_trans (by decide +kernel) hRf), (Nat.le_trans (by decide +kernel) hRl)⟩), htt _ k_3131, htt _ k_220⟩ ⟨hp.1, S_recv hK hP 0 rfl rfl, hp.2⟩ rfl rfl hl.1 rfl (lv_room (Nat.le_of_ble_eq_true rfl)) d_Mod_finish_83 ⟨hRc, hRs⟩) (fun r0 Sn H locs hw9 hP hD hS => ?_)
        obtain ⟨e9, e8⟩ := hw9
        rw [e8] at hP hD
        refine W.widen (k := cells) (n := slots) (Nat.le_refl _) (Nat.le_refl _) ?_
        refine toI (y := r2) e9 ?_
        obtain ⟨hv3, h⟩ := chk h
        refine S_iast (h := shM) (i := L 5) (v := r2) hx hb hK hP hD hS 30 rfl (okI_in hv3) d_Mod_finish_86 (fun H locs hP hD hS => ?_)
        refine lv_aload_n hx hb d_Mod_finish_87 rfl (lv_at hl 0 rfl) ?_
        refine S_getR (h := shM) (C := "MacroMillModel") (T := F_Mod) hx hb htt in_Mod hown hK hP 0 72 rfl 32 rfl rfl (by decide) (htt _ k_2308) (fun _ h9 => h9) d_Mod_finish_88 ?_
        refine lv_iload hx hb d_Mod_finish_91 (lv_at hl 5 rfl) ?_
        obtain ⟨hv4, h⟩ := chk h
        show W _ _ _ _ _ _ _ _ _ _ _ _ _ _ _ (F0 _ 93 _ _)
        refine S_iald (h := shM) (i := L 5) hx hb hK hP 31 rfl (okI_in hv4) d_Mod_finish_93 ?_
        refine lv_istore (lv' := [(5, .int ((putA T2 30 (L 5 : Int32).toNatClampNeg r2).2.1 31 (L 5 : Int32).toNatClampNeg)), (0, .ref (ad 0)), (1, .int (L 1)), (2, .int (L 2)), (3, .int (L 3)), (4, .int (L 4)), (6, .int (L 6))]) hx hb d_Mod_finish_94 hl (by decide) rfl (fun ls hl => ?_)
        refine lv_goto (tgt := 8) hx hb d_Mod_finish_96 (by decide) ?_
        exact (ih.2.1) (putA T2 30 (L 5 : Int32).toNatClampNeg r2) (upd L 5 ((putA T2 30 (L 5 : Int32).toNatClampNeg r2).2.1 31 (L 5 : Int32).toNatClampNeg)) M ls H locs h (lv_sub hl [1, 2, 3, 4, 5, 0] rfl) hP hD hS
      · rw [if_neg hc1] at h
        refine lv_aload_n hx hb d_Mod_finish_30 rfl (lv_at hl 0 rfl) ?_
        refine S_getR (h := shM) (C := "MacroMillModel") (T := F_Mod) hx hb htt in_Mod hown hK hP 0 91 rfl 48 rfl rfl (by decide) (htt _ k_2327) (fun _ h9 => h9) d_Mod_finish_31 ?_
        refine lv_iload hx hb d_Mod_finish_34 (lv_at hl 6 rfl) ?_
        refine lv_aload_n hx hb d_Mod_finish_36 rfl (lv_at hl 0 rfl) ?_
        refine S_getR (h := shM) (C := "MacroMillModel") (T := F_Mod) hx hb htt in_Mod hown hK hP 0 90 rfl 47 rfl rfl (by decide) (htt _ k_2326) (fun _ h9 => h9) d_Mod_finish_37 ?_
        refine lv_bipush (v := 7) hx hb d_Mod_finish_40 (by decide) ?_
        refine lv_aload_n hx hb d_Mod_finish_42 rfl (lv_at hl 0 rfl) ?_
        refine S_getR (h := shM) (C := "MacroMillModel") (T := F_Mod) hx hb htt in_Mod hown hK hP 0 71 rfl 31 rfl rfl (by decide) (htt _ k_2307) (fun _ h9 => h9) d_Mod_finish_43 ?_
        refine lv_iload hx hb d_Mod_finish_46 (lv_at hl 5 rfl) ?_
        obtain ⟨hv5, h⟩ := chk h
        show W _ _ _ _ _ _ _ _ _ _ _ _ _ _ _ (F0 _ 48 _ _)
        refine S_iald (h := shM) (i := L 5) hx hb hK hP 30 rfl (okI_in hv5) d_Mod_finish_48 ?_
        refine lv_imul hx hb d_Mod_finish_49 ?_
        refine lv_iload hx hb d_Mod_finish_50 (lv_at hl 6 rfl) ?_
        refine lv_iadd hx hb d_Mod_finish_52 ?_
        obtain ⟨hv6, h⟩ := chk h
        refine S_lald (h := shM) (i := ((7 : Int32) * (S.2.1 30 (L 5 : Int32).toNatClampNeg)) + (L 6)) hx hb hK hP 46 rfl (okI_in hv6) d_Mod_finish_53 ?_
        refine lv_aload_n hx hb d_Mod_finish_54 rfl (lv_at hl 0 rfl) ?_
        refine S_getR (h := shM) (C := "MacroMillModel") (T := F_Mod) hx hb htt in_Mod hown hK hP 0 99 rfl 53 rfl rfl (by decide) (htt _ k_2335) (fun _ h9 => h9) d_Mod_finish_55 ?_
        refine lv_bipush (v := 7) hx hb d_Mod_finish_58 (by decide) ?_
        refine lv_iload_n hx hb d_Mod_finish_60 rfl (lv_at hl 3 rfl) ?_
        refine lv_imul hx hb d_Mod_finish_61 ?_
        refine lv_iload hx hb d_Mod_finish_62 (lv_at hl 6 rfl) ?_
        refine lv_iadd hx hb d_Mod_finish_64 ?_
        obtain ⟨hv7, h⟩ := chk h
        show W _ _ _ _ _ _ _ _ _ _ _ _ _ _ _ (F0 _ 65 _ _)
        refine S_lald (h := shM) (i := ((7 : Int32) * (L 3)) + (L 6)) hx hb hK hP 52 rfl (okI_in hv7) d_Mod_finish_65 ?_
        refine lv_lor hx hb d_Mod_finish_66 ?_
        obtain ⟨hv8, h⟩ := chk h
        refine S_last (h := shM) (i := L 6) (v := (S.2.2 46 (((7 : Int32) * (S.2.1 30 (L 5 : Int32).toNatClampNeg)) + (L 6) : Int32).toNatClampNeg) ||| (S.2.2 52 (((7 : Int32) * (L 3)) + (L 6) : Int32).toNatClampNeg)) hx hb hK hP hD hS 47 rfl (okI_in hv8) d_Mod_finish_67 (fun H locs hP hD hS => ?_)
        refine lv_iinc (k := 6) (v := (L 6) + 1) (lv' := [(6, .int ((L 6) + 1)), (0, .ref (ad 0)), (1, .int (L 1)), (2, .int (L 2)), (3, .int (L 3)), (4, .int (L 4)), (5, .int (L 5))]) hx hb d_Mod_finish_68 hl rfl rfl (by decide) rfl (fun ls hl => ?_)
        refine lv_goto (tgt := 23) hx hb d_Mod_finish_71 (by decide) ?_
        exact (ih.2.2.1) (putL S 47 (L 6 : Int32).toNatClampNeg ((S.2.2 46 (((7 : Int32) * (S.2.1 30 (L 5 : Int32).toNatClampNeg)) + (L 6) : Int32).toNatClampNeg) ||| (S.2.2 52 (((7 : Int32) * (L 3)) + (L 6) : Int32).toNatClampNeg))) (upd L 6 ((L 6) + 1)) M ls H locs h (lv_sub hl [1, 2, 3, 4, 5, 6, 0] rfl) hP hD hS
    · intro S L M ls H locs h hl hP hD hS
      simp only [f_Mod_finish] at h
      refine lv_aload_n hx hb d_Mod_finish_99 rfl (lv_at hl 0 rfl) ?_
      refine S_getR (h := shM) (C := "MacroMillModel") (T := F_Mod) hx hb htt in_Mod hown hK hP 0 105 rfl 58 rfl rfl (by decide) (htt _ k_2341) (fun _ h9 => h9) d_Mod_finish_100 ?_
      refine lv_iload_n hx hb d_Mod_finish_103 rfl (lv_at hl 3 rfl) ?_
      obtain ⟨hv1, h⟩ := chk h
      refine S_iald (h := shM) (i := L 3) hx hb hK hP 57 rfl (okI_in hv1) d_Mod_finish_104 ?_
      refine lv_if_ge (tgt := 110) hx hb d_Mod_finish_105 (by decide) (fun hc2 => ?_) (fun hc2 => ?_)
      · rw [if_pos hc2] at h
        refine lv_aload_n hx hb d_Mod_finish_110 rfl (lv_at hl 0 rfl) ?_
        refine S_getR (h := shM) (C := "MacroMillModel") (T := F_Mod) hx hb htt in_Mod hown hK hP 0 73 rfl 33 rfl rfl (by decide) (htt _ k_2309) (fun _ h9 => h9) d_Mod_finish_111 ?_
        refine lv_aload_n hx hb d_Mod_finish_114 rfl (lv_at hl 0 rfl) ?_
        refine S_getR (h := shM) (C := "MacroMillModel") (T := F_Mod) hx hb htt in_Mod hown hK hP 0 105 rfl 58 rfl rfl (by decide) (htt _ k_2341) (fun _ h9 => h9) d_Mod_finish_115 ?_
        refine lv_iload_n hx hb d_Mod_finish_118 rfl (lv_at hl 3 rfl) ?_
        obtain ⟨hv3, h⟩ := chk h
        refine S_iald (h := shM) (i := L 3) hx hb hK hP 57 rfl (okI_in hv3) d_Mod_finish_119 ?_
        refine lv_aload_n hx hb d_Mod_finish_120 rfl (lv_at hl 0 rfl) ?_
        show W _ _ _ _ _ _ _ _ _ _ _ _ _ _ _ (F0 _ 121 _ _)
        refine S_getR (h := shM) (C := "MacroMillModel") (T := F_Mod) hx hb htt in_Mod hown hK hP 0 73 rfl 33 rfl rfl (by decide) (htt _ k_2309) (fun _ h9 => h9) d_Mod_finish_121 ?_
        refine lv_iload_n hx hb d_Mod_finish_124 rfl (lv_at hl 1 rfl) ?_
        obtain ⟨hv4, h⟩ := chk h
        refine S_zald (h := shM) (i := L 1) hx hb hK hP 32 rfl (okI_in hv4) d_Mod_finish_125 ?_
        obtain ⟨hv5, h⟩ := chk h
        refine S_zast (h := shM) (i := S.2.1 57 (L 3 : Int32).toNatClampNeg) (v := S.2.1 32 (L 1 : Int32).toNatClampNeg) hx hb hK hP hD hS 32 rfl (okI_in hv5) d_Mod_finish_126 (fun H locs hP hD hS => ?_)
        refine lv_aload_n hx hb d_Mod_finish_127 rfl (lv_at hl 0 rfl) ?_
        refine S_getR (h := shM) (C := "MacroMillModel") (T := F_Mod) hx hb htt in_Mod hown hK hP 0 74 rfl 34 rfl rfl (by decide) (htt _ k_2310) (fun _ h9 => h9) d_Mod_finish_128 ?_
        refine lv_aload_n hx hb d_Mod_finish_131 rfl (lv_at hl 0 rfl) ?_
        refine S_getR (h := shM) (C := "MacroMillModel") (T := F_Mod) hx hb htt in_Mod hown hK hP 0 105 rfl 58 rfl rfl (by decide) (htt _ k_2341) (fun _ h9 => h9) d_Mod_finish_132 ?_
        refine lv_iload_n hx hb d_Mod_finish_135 rfl (lv_at hl 3 rfl) ?_
        obtain ⟨hv6, h⟩ := chk h
        refine S_iald (h := shM) (i := L 3) hx hb hK hP 57 rfl (okI_in hv6) d_Mod_finish_136 ?_
        refine lv_aload_n hx hb d_Mod_finish_137 rfl (lv_at hl 0 rfl) ?_
        refine S_getR (h := shM) (C := "MacroMillModel") (T := F_Mod) hx hb htt in_Mod hown hK hP 0 74 rfl 34 rfl rfl (by decide) (htt _ k_2310) (fun _ h9 => h9) d_Mod_finish_138 ?_
        show W _ _ _ _ _ _ _ _ _ _ _ _ _ _ _ (F0 _ 141 _ _)
        refine lv_iload_n hx hb d_Mod_finish_141 rfl (lv_at hl 1 rfl) ?_
        obtain ⟨hv7, h⟩ := chk h
        refine S_zald (h := shM) (i := L 1) hx hb hK hP 33 rfl (okI_in hv7) d_Mod_finish_142 ?_
        obtain ⟨hv8, h⟩ := chk h
        refine S_zast (h := shM) (i := (putA S 32 (S.2.1 57 (L 3 : Int32).toNatClampNeg : Int32).toNatClampNeg (vp_nar .boolean (S.2.1 32 (L 1 : Int32).toNatClampNeg))).2.1 57 (L 3 : Int32).toNatClampNeg) (v := (putA S 32 (S.2.1 57 (L 3 : Int32).toNatClampNeg : Int32).toNatClampNeg (vp_nar .boolean (S.2.1 32 (L 1 : Int32).toNatClampNeg))).2.1 33 (L 1 : Int32).toNatClampNeg) hx hb hK hP hD hS 33 rfl (okI_in hv8) d_Mod_finish_143 (fun H locs hP hD hS => ?_)
        refine lv_aload_n hx hb d_Mod_finish_144 rfl (lv_at hl 0 rfl) ?_
        refine S_getR (h := shM) (C := "MacroMillModel") (T := F_Mod) hx hb htt in_Mod hown hK hP 0 72 rfl 32 rfl rfl (by decide) (htt _ k_2308) (fun _ h9 => h9) d_Mod_finish_145 ?_
        refine lv_aload_n hx hb d_Mod_finish_148 rfl (lv_at hl 0 rfl) ?_
        refine S_getR (h := shM) (C := "MacroMillModel") (T := F_Mod) hx hb htt in_Mod hown hK hP 0 106 rfl 59 rfl rfl (by decide) (htt _ k_2342) (fun _ h9 => h9) d_Mod_finish_149 ?_
        refine lv_iload_n hx hb d_Mod_finish_152 rfl (lv_at hl 3 rfl) ?_
        obtain ⟨hv9, h⟩ := chk h
        refine S_iald (h := shM) (i := L 3) hx hb hK hP 58 rfl (okI_in hv9) d_Mod_finish_153 ?_
        refine lv_iload_n hx hb d_Mod_finish_154 rfl (lv_at hl 2 rfl) ?_
        obtain ⟨hv10, h⟩ := chk h
        refine S_iast (h := shM) (i := (putA (putA S 32 (S.2.1 57 (L 3 : Int32).toNatClampNeg : Int32).toNatClampNeg (vp_nar .boolean (S.2.1 32 (L 1 : Int32).toNatClampNeg))) 33 ((putA S 32 (S.2.1 57 (L 3 : Int32).toNatClampNeg : Int32).toNatClampNeg (vp_nar .boolean (S.2.1 32 (L 1 : Int32).toNatClampNeg))).2.1 57 (L 3 : Int32).toNatClampNeg : Int32).toNatClampNeg (vp_nar .boolean ((putA S 32 (S.2.1 57 (L 3 : Int32).toNatClampNeg : Int32).toNatClampNeg (vp_nar .boolean (S.2.1 32 (L 1 : Int32).toNatClampNeg))).2.1 33 (L 1 : Int32).toNatClampNeg))).2.1 58 (L 3 : Int32).toNatClampNeg) (v := L 2) hx hb hK hP hD hS 31 rfl (okI_in hv10) d_Mod_finish_155 (fun H locs hP hD hS => ?_)
        refine lv_aload_n hx hb d_Mod_finish_156 rfl (lv_at hl 0 rfl) ?_
        show W _ _ _ _ _ _ _ _ _ _ _ _ _ _ _ (F0 _ 157 _ _)
        refine S_getR (h := shM) (C := "MacroMillModel") (T := F_Mod) hx hb htt in_Mod hown hK hP 0 105 rfl 58 rfl rfl (by decide) (htt _ k_2341) (fun _ h9 => h9) d_Mod_finish_157 ?_
        refine lv_iload_n hx hb d_Mod_finish_160 rfl (lv_at hl 3 rfl) ?_
        obtain ⟨hv11, h⟩ := chk h
        refine S_iald (h := shM) (i := L 3) hx hb hK hP 57 rfl (okI_in hv11) d_Mod_finish_161 ?_
        cases h
        exact kx_162 ls H locs hP hD hS
      · rw [if_neg hc2] at h
        refine lv_iload_n hx hb d_Mod_finish_108 rfl (lv_at hl 2 rfl) ?_
        cases h
        exact kx_109 ls H locs hP hD hS
abbrev rm_t_Mod_finish : Room := { frames := 3, cells := 0, slots := 0, locals := 69 }
theorem t_Mod_finish (l : Launch) (g : gG) (sz : Nat) (ad : Nat → Nat) (S : sS) (v1 : Int32) (v2 : Int32) (v3 : Int32) (v4 : Int32) (k : Nat) (r : Int32) (S9 : sS) (h : f_Mod_finish k 0 S (upd (upd (upd (upd (fun _ => 0) 1 v1) 2 v2) 3 v3) 4 v4) (fun _ => 0) = some (r, S9)) : Ci l y_Mod_finish b_Mod_finish 7 rm_t_Mod_finish g [.ref (ad 0), .int v1, .int v2, .int v3, .int v4] (Sw shM g ad S) sz (fun r1 w => ∃ S1 : sS, w = Sw shM g ad S1 ∧ r1 = r ∧ S1 = S9) := by
  refine startI (by decide) (Nat.le_of_ble_eq_true rfl) ?_
  intro p e s m below meth c A ls hx hb hr hml hlocks hmn hown htt hN hA hP hK hD hS hl
  exact (w_Mod_finish hx hb hml hown htt hK hN hA (by decide +kernel) (by decide +kernel) (by decide +kernel) (by decide +kernel) r S9 (fun ls H locs hP hD hS => fin_i (g := g) (ws := Sw shM g ad S9) hx hb hr hlocks (by decide +kernel) (by decide +kernel) hP hD hS ⟨_, rfl, rfl, rfl⟩ d_Mod_finish_109) (fun ls H locs hP hD hS => fin_i (g := g) (ws := Sw shM g ad S9) hx hb hr hlocks (by decide +kernel) (by decide +kernel) hP hD hS ⟨_, rfl, rfl, rfl⟩ d_Mod_finish_162) k).1 S (upd (upd (upd (upd (fun _ => 0) 1 v1) 2 v2) 3 v3) 4 v4) (fun _ => 0) ls _ _ h hl hP hD hS
def f_Mod_join : Nat → Nat → sS → (Nat → Int32) → (Nat → Int64) → Option (Int64 × sS)
  | 0, _, _, _, _ => none
  | k + 1, 0, S, L, M => if (L 6) = (0 : Int32) then (if (S.1 0 138) = (0 : Int32) then (f_Mod_join k 2 S (upd L 100 (0 : Int32)) M) else (f_Mod_join k 1 S L M)) else (f_Mod_join k 1 S L M)
  | k + 1, 1, S, L, M => f_Mod_join k 2 S (upd L 100 (1 : Int32)) M
  | k + 1, 2, S, L, M => if (L 1) < (2 : Int32) then (f_Mod_join k 3 S (upd (upd L 8 (L 100)) 9 (L 6)) M) else (if (L 1) ≤ (4 : Int32) then (f_Mod_join k 4 S (upd (upd L 8 (L 100)) 9 (L 6)) M) else (if (11 : Int32) ≤ (L 1) then (f_Mod_join k 4 S (upd (upd L 8 (L 100)) 9 (L 6)) M) else (f_Mod_join k 3 S (upd (upd L 8 (L 100)) 9 (L 6)) M)))
  | k + 1, 3, S, L, M => f_Mod_join k 6 S (upd L 101 (0 : Int32)) M
  | k + 1, 4, S, L, M => if (L 1) = (11 : Int32) then (f_Mod_join k 5 S L M) else (if (L 1) = (12 : Int32) then (f_Mod_join k 5 S L M) else (f_Mod_join k 6 S (upd L 101 (L 8)) M))
  | k + 1, 5, S, L, M => f_Mod_join k 6 S (upd L 101 (L 9)) M
  | k + 1, 6, S, L, M => if bz (L 101) = true then (if (L 8) = (0 : Int32) then (if (0 : Int32) ≤ (lg_cmp (M 2) (M 4)) then (f_Mod_join k 7 (putI S 0 138 (L 101)) (upd L 100 (0 : Int32)) M) else (f_Mod_join k 7 (putI S 0 138 (L 101)) (upd L 100 (1 : Int32)) M)) else (if (0 : Int32) ≤ (lg_cmp ((M 2) + ((-9223372036854775808) : Int64)) ((M 4) + ((-9223372036854775808) : Int64))) then (f_Mod_join k 7 (putI S 0 138 (L 101)) (upd L 100 (0 : Int32)) M) else (f_Mod_join k 7 (putI S 0 138 (L 101)) (upd L 100 (1 : Int32)) M))) else none
  | k + 1, 7, S, L, M => if (L 1) = (0 : Int32) then (if (lg_cmp (M 2) (0 : Int64)) = (0 : Int32) then (if (lg_cmp (M 4) (0 : Int64)) = (0 : Int32) then (f_Mod_join k 9 S (upd L 10 (L 100)) (vp_updL M 100 (0 : Int64))) else (f_Mod_join k 8 S (upd L 10 (L 100)) M)) else (f_Mod_join k 8 S (upd L 10 (L 100)) M)) else (if (L 1) = (1 : Int32) then (if (lg_cmp (M 2) (0 : Int64)) = (0 : Int32) then (f_Mod_join k 10 S (upd L 10 (L 100)) M) else (if (lg_cmp (M 4) (0 : Int64)) = (0 : Int32) then (f_Mod_join k 10 S (upd L 10 (L 100)) M) else (f_Mod_join k 11 S (upd L 10 (L 100)) (vp_updL M 100 (1 : Int64))))) else (if (L 1) = (2 : Int32) then (some ((M 2) ||| (M 4), S)) else (if (L 1) = (3 : Int32) then (some ((M 2) ^^^ (M 4), S)) else (if (L 1) = (4 : Int32) then (some ((M 2) &&& (M 4), S)) else (if (L 1) = (5 : Int32) then (if (lg_cmp (M 2) (M 4)) = (0 : Int32) then (f_Mod_join k 12 S (upd L 10 (L 100)) (vp_updL M 100 (1 : Int64))) else (f_Mod_join k 12 S (upd L 10 (L 100)) (vp_updL M 100 (0 : Int64)))) else (if (L 1) = (6 : Int32) then (if (lg_cmp (M 2) (M 4)) = (0 : Int32) then (f_Mod_join k 13 S (upd L 10 (L 100)) (vp_updL M 100 (0 : Int64))) else (f_Mod_join k 13 S (upd L 10 (L 100)) (vp_updL M 100 (1 : Int64)))) else (if (L 1) = (7 : Int32) then (if (L 100) = (0 : Int32) then (f_Mod_join k 14 S (upd L 10 (L 100)) (vp_updL M 100 (0 : Int64))) else (f_Mod_join k 14 S (upd L 10 (L 100)) (vp_updL M 100 (1 : Int64)))) else (if (L 1) = (8 : Int32) then (if (L 100) = (0 : Int32) then (if (lg_cmp (M 2) (M 4)) = (0 : Int32) then (f_Mod_join k 15 S (upd L 10 (L 100)) M) else (f_Mod_join k 16 S (upd L 10 (L 100)) (vp_updL M 100 (1 : Int64)))) else (f_Mod_join k 15 S (upd L 10 (L 100)) M)) else (if (L 1) = (9 : Int32) then (if (L 100) = (0 : Int32) then (if (lg_cmp (M 2) (M 4)) = (0 : Int32) then (f_Mod_join k 17 S (upd L 10 (L 100)) M) else (f_Mod_join k 18 S (upd L 10 (L 100)) (vp_updL M 100 (0 : Int64)))) else (f_Mod_join k 17 S (upd L 10 (L 100)) M)) else (if (L 1) = (10 : Int32) then (if (L 100) = (0 : Int32) then (f_Mod_join k 19 S (upd L 10 (L 100)) (vp_updL M 100 (1 : Int64))) else (f_Mod_join k 19 S (upd L 10 (L 100)) (vp_updL M 100 (0 : Int64)))) else (if (L 1) = (11 : Int32) then (some ((M 2) <<< ((((M 4) &&& (63 : Int64)).toInt32 : Int32).toInt64 &&& 63), S)) else (if (L 1) = (12 : Int32) then (if (L 9) = (0 : Int32) then (f_Mod_join k 20 S (upd L 10 (L 100)) (vp_updL M 100 ((M 2) >>> ((((M 4) &&& (63 : Int64)).toInt32 : Int32).toInt64 &&& 63)))) else (f_Mod_join k 20 S (upd L 10 (L 100)) (vp_updL M 100 (((M 2).toUInt64 >>> ((((M 4) &&& (63 : Int64)).toInt32 : Int32).toInt64.toUInt64 &&& Int64.toUInt64 63)).toInt64)))) else (if (L 1) = (13 : Int32) then (some ((M 2) + (M 4), S)) else (if (L 1) = (14 : Int32) then (some ((M 2) - (M 4), S)) else (if (L 1) = (15 : Int32) then (some ((M 2) * (M 4), S)) else (if (S.1 0 136) = (0 : Int32) then (if (L 7) = (0 : Int32) then (f_Mod_join k 22 S (upd L 10 (L 100)) M) else (if (lg_cmp (M 4) (0 : Int64)) = (0 : Int32) then (f_Mod_join k 21 S (upd L 10 (L 100)) M) else (f_Mod_join k 22 S (upd L 10 (L 100)) M))) else (f_Mod_join k 21 S (upd L 10 (L 100)) M)))))))))))))))))
  | k + 1, 8, S, L, M => f_Mod_join k 9 S L (vp_updL M 100 (1 : Int64))
  | k + 1, 9, S, L, M => some (M 100, S)
  | k + 1, 10, S, L, M => f_Mod_join k 11 S L (vp_updL M 100 (0 : Int64))
  | k + 1, 11, S, L, M => some (M 100, S)
  | k + 1, 12, S, L, M => some (M 100, S)
  | k + 1, 13, S, L, M => some (M 100, S)
  | k + 1, 14, S, L, M => some (M 100, S)
  | k + 1, 15, S, L, M => f_Mod_join k 16 S L (vp_updL M 100 (0 : Int64))
  | k + 1, 16, S, L, M => some (M 100, S)
  | k + 1, 17, S, L, M => f_Mod_join k 18 S L (vp_updL M 100 (1 : Int64))
  | k + 1, 18, S, L, M => some (M 100, S)
  | k + 1, 19, S, L, M => some (M 100, S)
  | k + 1, 20, S, L, M => some (M 100, S)
  | k + 1, 21, S, L, M => f_Mod_join k 23 S (upd L 101 (1 : Int32)) M
  | k + 1, 22, S, L, M => f_Mod_join k 23 S (upd L 101 (0 : Int32)) M
  | k + 1, 23, S, L, M => if bz (L 101) = true then (if (lg_cmp (M 4) (0 : Int64)) = (0 : Int32) then (f_Mod_join k 24 (putI S 0 136 (L 101)) L (vp_updL M 100 (0 : Int64))) else (if (L 1) = (16 : Int32) then ((f_Mod_quotient k 0 (putI S 0 136 (L 101)) (upd (fun _ => 0) 4 (L 8 : Int32)) (vp_updL (vp_updL (fun _ => 0) 0 (M 2 : Int64)) 2 (M 4 : Int64))).bind (fun (r5, T5) => f_Mod_join k 24 T5 L (vp_updL M 100 r5))) else ((f_Mod_quotient k 0 (putI S 0 136 (L 101)) (upd (fun _ => 0) 4 (L 8 : Int32)) (vp_updL (vp_updL (fun _ => 0) 0 (M 2 : Int64)) 2 (M 4 : Int64))).bind (fun (r4, T4) => f_Mod_join k 24 T4 L (vp_updL M 100 ((M 2) - ((M 4) * r4))))))) else none
  | k + 1, 24, S, L, M => some (M 100, S)
  | _ + 1, _ + 25, _, _, _ => none
set_option maxHeartbeats 8000000 in
set_option maxRecDepth 100000 in
theorem w_Mod_join {p : Program} {l : Launch} {e : Env} {R : Room} {s : State} {m : MethodId} {args : Array Value} {below : List Frame} {meth : Method} {c : Code} {cells slots : Nat} {Q : State → Prop} {g : gG} {A : Nat → Prop} {ad : Nat → Nat} (hx : p.tables.exec = Jvm.exec) (hb : c.code = b_Mod_join) (hml : c.maxLocals = 11) (hown : s.vm.findClass "MacroMillModel" = some m.cls) (htt : ∀ w ∈ gt, w.before args s = true) (hK : va_K g.1 classes (tysG g) s) (hN : nw s) (hA : ∀ q : Nat, s.heap.size ≤ q → A q) (hRf : 1 ≤ R.frames) (hRl : 30 ≤ R.locals) (hRc : cells ≤ R.cells) (hRs : slots ≤ R.slots) (r : Int64) (S9 : sS)
    (kx_206 : ∀ (ls : Array Slot) (H : Heap) (locs : List Loc), va_P g.1 classes (Sw shM g ad S9) H → va_D A (Sw shM g ad S9) → va_S A s.heap H locs → W p l e R s m args below meth c H locs cells slots Q (F0 m 206 ls [.long r]))
    (kx_225 : ∀ (ls : Array Slot) (H : Heap) (locs : List Loc), va_P g.1 classes (Sw shM g ad S9) H → va_D A (Sw shM g ad S9) → va_S A s.heap H locs → W p l e R s m args below meth c H locs cells slots Q (F0 m 225 ls [.long r]))
    (kx_230 : ∀ (ls : Array Slot) (H : Heap) (locs : List Loc), va_P g.1 classes (Sw shM g ad S9) H → va_D A (Sw shM g ad S9) → va_S A s.heap H locs → W p l e R s m args below meth c H locs cells slots Q (F0 m 230 ls [.long r]))
    (kx_235 : ∀ (ls : Array Slot) (H : Heap) (locs : List Loc), va_P g.1 classes (Sw shM g ad S9) H → va_D A (Sw shM g ad S9) → va_S A s.heap H locs → W p l e R s m args below meth c H locs cells slots Q (F0 m 235 ls [.long r]))
    (kx_240 : ∀ (ls : Array Slot) (H : Heap) (locs : List Loc), va_P g.1 classes (Sw shM g ad S9) H → va_D A (Sw shM g ad S9) → va_S A s.heap H locs → W p l e R s m args below meth c H locs cells slots Q (F0 m 240 ls [.long r]))
    (kx_253 : ∀ (ls : Array Slot) (H : Heap) (locs : List Loc), va_P g.1 classes (Sw shM g ad S9) H → va_D A (Sw shM g ad S9) → va_S A s.heap H locs → W p l e R s m args below meth c H locs cells slots Q (F0 m 253 ls [.long r]))
    (kx_266 : ∀ (ls : Array Slot) (H : Heap) (locs : List Loc), va_P g.1 classes (Sw shM g ad S9) H → va_D A (Sw shM g ad S9) → va_S A s.heap H locs → W p l e R s m args below meth c H locs cells slots Q (F0 m 266 ls [.long r]))
    (kx_277 : ∀ (ls : Array Slot) (H : Heap) (locs : List Loc), va_P g.1 classes (Sw shM g ad S9) H → va_D A (Sw shM g ad S9) → va_S A s.heap H locs → W p l e R s m args below meth c H locs cells slots Q (F0 m 277 ls [.long r]))
    (kx_295 : ∀ (ls : Array Slot) (H : Heap) (locs : List Loc), va_P g.1 classes (Sw shM g ad S9) H → va_D A (Sw shM g ad S9) → va_S A s.heap H locs → W p l e R s m args below meth c H locs cells slots Q (F0 m 295 ls [.long r]))
    (kx_313 : ∀ (ls : Array Slot) (H : Heap) (locs : List Loc), va_P g.1 classes (Sw shM g ad S9) H → va_D A (Sw shM g ad S9) → va_S A s.heap H locs → W p l e R s m args below meth c H locs cells slots Q (F0 m 313 ls [.long r]))
    (kx_324 : ∀ (ls : Array Slot) (H : Heap) (locs : List Loc), va_P g.1 classes (Sw shM g ad S9) H → va_D A (Sw shM g ad S9) → va_S A s.heap H locs → W p l e R s m args below meth c H locs cells slots Q (F0 m 324 ls [.long r]))
    (kx_334 : ∀ (ls : Array Slot) (H : Heap) (locs : List Loc), va_P g.1 classes (Sw shM g ad S9) H → va_D A (Sw shM g ad S9) → va_S A s.heap H locs → W p l e R s m args below meth c H locs cells slots Q (F0 m 334 ls [.long r]))
    (kx_361 : ∀ (ls : Array Slot) (H : Heap) (locs : List Loc), va_P g.1 classes (Sw shM g ad S9) H → va_D A (Sw shM g ad S9) → va_S A s.heap H locs → W p l e R s m args below meth c H locs cells slots Q (F0 m 361 ls [.long r]))
    (kx_366 : ∀ (ls : Array Slot) (H : Heap) (locs : List Loc), va_P g.1 classes (Sw shM g ad S9) H → va_D A (Sw shM g ad S9) → va_S A s.heap H locs → W p l e R s m args below meth c H locs cells slots Q (F0 m 366 ls [.long r]))
    (kx_371 : ∀ (ls : Array Slot) (H : Heap) (locs : List Loc), va_P g.1 classes (Sw shM g ad S9) H → va_D A (Sw shM g ad S9) → va_S A s.heap H locs → W p l e R s m args below meth c H locs cells slots Q (F0 m 371 ls [.long r]))
    (kx_376 : ∀ (ls : Array Slot) (H : Heap) (locs : List Loc), va_P g.1 classes (Sw shM g ad S9) H → va_D A (Sw shM g ad S9) → va_S A s.heap H locs → W p l e R s m args below meth c H locs cells slots Q (F0 m 376 ls [.long r]))
    (kx_446 : ∀ (ls : Array Slot) (H : Heap) (locs : List Loc), va_P g.1 classes (Sw shM g ad S9) H → va_D A (Sw shM g ad S9) → va_S A s.heap H locs → W p l e R s m args below meth c H locs cells slots Q (F0 m 446 ls [.long r])) :
    ∀ k9 : Nat, (∀ (S : sS) (L : Nat → Int32) (M : Nat → Int64) (ls : Array Slot) (H : Heap) (locs : List Loc), f_Mod_join k9 0 S L M = some (r, S9) → lv_has ls 11 [(0, .ref (ad 0)), (1, .int (L 1)), (2, .long (M 2)), (4, .long (M 4)), (6, .int (L 6)), (7, .int (L 7))] → va_P g.1 classes (Sw shM g ad S) H → va_D A (Sw shM g ad S) → va_S A s.heap H locs → W p l e R s m args below meth c H locs cells slots Q (F0 m 0 ls [])) ∧ (∀ (S : sS) (L : Nat → Int32) (M : Nat → Int64) (ls : Array Slot) (H : Heap) (locs : List Loc), f_Mod_join k9 1 S L M = some (r, S9) → lv_has ls 11 [(0, .ref (ad 0)), (1, .int (L 1)), (2, .long (M 2)), (4, .long (M 4)), (6, .int (L 6)), (7, .int (L 7))] → va_P g.1 classes (Sw shM g ad S) H → va_D A (Sw shM g ad S) → va_S A s.heap H locs → W p l e R s m args below meth c H locs cells slots Q (F0 m 12 ls [])) ∧ (∀ (S : sS) (L : Nat → Int32) (M : Nat → Int64) (ls : Array Slot) (H : Heap) (locs : List Loc), f_Mod_join k9 2 S L M = some (r, S9) → lv_has ls 11 [(0, .ref (ad 0)), (1, .int (L 1)), (2, .long (M 2)), (4, .long (M 4)), (6, .int (L 6)), (7, .int (L 7))] → va_P g.1 classes (Sw shM g ad S) H → va_D A (Sw shM g ad S) → va_S A s.heap H locs → W p l e R s m args below meth c H locs cells slots Q (F0 m 17 ls [.int (L 100)])) ∧ (∀ (S : sS) (L : Nat → Int32) (M : Nat → Int64) (ls : Array Slot) (H : Heap) (locs : List Loc), f_Mod_join k9 3 S L M = some (r, S9) → lv_has ls 11 [(0, .ref (ad 0)), (1, .int (L 1)), (2, .long (M 2)), (4, .long (M 4)), (6, .int (L 6)), (7, .int (L 7)), (8, .int (L 8)), (9, .int (L 9))] → va_P g.1 classes (Sw shM g ad S) H → va_D A (Sw shM g ad S) → va_S A s.heap H locs → W p l e R s m args below meth c H locs cells slots Q (F0 m 40 ls [.ref (ad 0)])) ∧ (∀ (S : sS) (L : Nat → Int32) (M : Nat → Int64) (ls : Array Slot) (H : Heap) (locs : List Loc), f_Mod_join k9 4 S L M = some (r, S9) → lv_has ls 11 [(0, .ref (ad 0)), (1, .int (L 1)), (2, .long (M 2)), (4, .long (M 4)), (6, .int (L 6)), (7, .int (L 7)), (8, .int (L 8)), (9, .int (L 9))] → va_P g.1 classes (Sw shM g ad S) H → va_D A (Sw shM g ad S) → va_S A s.heap H locs → W p l e R s m args below meth c H locs cells slots Q (F0 m 44 ls [.ref (ad 0)])) ∧ (∀ (S : sS) (L : Nat → Int32) (M : Nat → Int64) (ls : Array Slot) (H : Heap) (locs : List Loc), f_Mod_join k9 5 S L M = some (r, S9) → lv_has ls 11 [(0, .ref (ad 0)), (1, .int (L 1)), (2, .long (M 2)), (4, .long (M 4)), (6, .int (L 6)), (7, .int (L 7)), (8, .int (L 8)), (9, .int (L 9))] → va_P g.1 classes (Sw shM g ad S) H → va_D A (Sw shM g ad S) → va_S A s.heap H locs → W p l e R s m args below meth c H locs cells slots Q (F0 m 56 ls [.ref (ad 0)])) ∧ (∀ (S : sS) (L : Nat → Int32) (M : Nat → Int64) (ls : Array Slot) (H : Heap) (locs : List Loc), f_Mod_join k9 6 S L M = some (r, S9) → lv_has ls 11 [(0, .ref (ad 0)), (1, .int (L 1)), (2, .long (M 2)), (4, .long (M 4)), (6, .int (L 6)), (7, .int (L 7)), (8, .int (L 8)), (9, .int (L 9))] → va_P g.1 classes (Sw shM g ad S) H → va_D A (Sw shM g ad S) → va_S A s.heap H locs → W p l e R s m args below meth c H locs cells slots Q (F0 m 63 ls [.int (L 101), .ref (ad 0)])) ∧ (∀ (S : sS) (L : Nat → Int32) (M : Nat → Int64) (ls : Array Slot) (H : Heap) (locs : List Loc), f_Mod_join k9 7 S L M = some (r, S9) → lv_has ls 11 [(0, .ref (ad 0)), (1, .int (L 1)), (2, .long (M 2)), (4, .long (M 4)), (6, .int (L 6)), (7, .int (L 7)), (8, .int (L 8)), (9, .int (L 9))] → va_P g.1 classes (Sw shM g ad S) H → va_D A (Sw shM g ad S) → va_S A s.heap H locs → W p l e R s m args below meth c H locs cells slots Q (F0 m 106 ls [.int (L 100)])) ∧ (∀ (S : sS) (L : Nat → Int32) (M : Nat → Int64) (ls : Array Slot) (H : Heap) (locs : List Loc), f_Mod_join k9 8 S L M = some (r, S9) → lv_has ls 11 [(0, .ref (ad 0)), (1, .int (L 1)), (2, .long (M 2)), (4, .long (M 4)), (6, .int (L 6)), (7, .int (L 7)), (8, .int (L 8)), (9, .int (L 9)), (10, .int (L 10))] → va_P g.1 classes (Sw shM g ad S) H → va_D A (Sw shM g ad S) → va_S A s.heap H locs → W p l e R s m args below meth c H locs cells slots Q (F0 m 201 ls [])) ∧ (∀ (S : sS) (L : Nat → Int32) (M : Nat → Int64) (ls : Array Slot) (H : Heap) (locs : List Loc), f_Mod_join k9 9 S L M = some (r, S9) → lv_has ls 11 [(0, .ref (ad 0)), (1, .int (L 1)), (2, .long (M 2)), (4, .long (M 4)), (6, .int (L 6)), (7, .int (L 7)), (8, .int (L 8)), (9, .int (L 9)), (10, .int (L 10))] → va_P g.1 classes (Sw shM g ad S) H → va_D A (Sw shM g ad S) → va_S A s.heap H locs → W p l e R s m args below meth c H locs cells slots Q (F0 m 206 ls [.long (M 100)])) ∧ (∀ (S : sS) (L : Nat → Int32) (M : Nat → Int64) (ls : Array Slot) (H : Heap) (locs : List Loc), f_Mod_join k9 10 S L M = some (r, S9) → lv_has ls 11 [(0, .ref (ad 0)), (1, .int (L 1)), (2, .long (M 2)), (4, .long (M 4)), (6, .int (L 6)), (7, .int (L 7)), (8, .int (L 8)), (9, .int (L 9)), (10, .int (L 10))] → va_P g.1 classes (Sw shM g ad S) H → va_D A (Sw shM g ad S) → va_S A s.heap H locs → W p l e R s m args below meth c H locs cells slots Q (F0 m 224 ls [])) ∧ (∀ (S : sS) (L : Nat → Int32) (M : Nat → Int64) (ls : Array Slot) (H : Heap) (locs : List Loc), f_Mod_join k9 11 S L M = some (r, S9) → lv_has ls 11 [(0, .ref (ad 0)), (1, .int (L 1)), (2, .long (M 2)), (4, .long (M 4)), (6, .int (L 6)), (7, .int (L 7)), (8, .int (L 8)), (9, .int (L 9)), (10, .int (L 10))] → va_P g.1 classes (Sw shM g ad S) H → va_D A (Sw shM g ad S) → va_S A s.heap H locs → W p l e R s m args below meth c H locs cells slots Q (F0 m 225 ls [.long (M 100)])) ∧ (∀ (S : sS) (L : Nat → Int32) (M : Nat → Int64) (ls : Array Slot) (H : Heap) (locs : List Loc), f_Mod_join k9 12 S L M = some (r, S9) → lv_has ls 11 [(0, .ref (ad 0)), (1, .int (L 1)), (2, .long (M 2)), (4, .long (M 4)), (6, .int (L 6)), (7, .int (L 7)), (8, .int (L 8)), (9, .int (L 9)), (10, .int (L 10))] → va_P g.1 classes (Sw shM g ad S) H → va_D A (Sw shM g ad S) → va_S A s.heap H locs → W p l e R s m args below meth c H locs cells slots Q (F0 m 253 ls [.long (M 100)])) ∧ (∀ (S : sS) (L : Nat → Int32) (M : Nat → Int64) (ls : Array Slot) (H : Heap) (locs : List Loc), f_Mod_join k9 13 S L M = some (r, S9) → lv_has ls 11 [(0, .ref (ad 0)), (1, .int (L 1)), (2, .long (M 2)), (4, .long (M 4)), (6, .int (L 6)), (7, .int (L 7)), (8, .int (L 8)), (9, .int (L 9)), (10, .int (L 10))] → va_P g.1 classes (Sw shM g ad S) H → va_D A (Sw shM g ad S) → va_S A s.heap H locs → W p l e R s m args below meth c H locs cells slots Q (F0 m 266 ls [.long (M 100)])) ∧ (∀ (S : sS) (L : Nat → Int32) (M : Nat → Int64) (ls : Array Slot) (H : Heap) (locs : List Loc), f_Mod_join k9 14 S L M = some (r, S9) → lv_has ls 11 [(0, .ref (ad 0)), (1, .int (L 1)), (2, .long (M 2)), (4, .long (M 4)), (6, .int (L 6)), (7, .int (L 7)), (8, .int (L 8)), (9, .int (L 9)), (10, .int (L 10))] → va_P g.1 classes (Sw shM g ad S) H → va_D A (Sw shM g ad S) → va_S A s.heap H locs → W p l e R s m args below meth c H locs cells slots Q (F0 m 277 ls [.long (M 100)])) ∧ (∀ (S : sS) (L : Nat → Int32) (M : Nat → Int64) (ls : Array Slot) (H : Heap) (locs : List Loc), f_Mod_join k9 15 S L M = some (r, S9) → lv_has ls 11 [(0, .ref (ad 0)), (1, .int (L 1)), (2, .long (M 2)), (4, .long (M 4)), (6, .int (L 6)), (7, .int (L 7)), (8, .int (L 8)), (9, .int (L 9)), (10, .int (L 10))] → va_P g.1 classes (Sw shM g ad S) H → va_D A (Sw shM g ad S) → va_S A s.heap H locs → W p l e R s m args below meth c H locs cells slots Q (F0 m 294 ls [])) ∧ (∀ (S : sS) (L : Nat → Int32) (M : Nat → Int64) (ls : Array Slot) (H : Heap) (locs : List Loc), f_Mod_join k9 16 S L M = some (r, S9) → lv_has ls 11 [(0, .ref (ad 0)), (1, .int (L 1)), (2, .long (M 2)), (4, .long (M 4)), (6, .int (L 6)), (7, .int (L 7)), (8, .int (L 8)), (9, .int (L 9)), (10, .int (L 10))] → va_P g.1 classes (Sw shM g ad S) H → va_D A (Sw shM g ad S) → va_S A s.heap H locs → W p l e R s m args below meth c H locs cells slots Q (F0 m 295 ls [.long (M 100)])) ∧ (∀ (S : sS) (L : Nat → Int32) (M : Nat → Int64) (ls : Array Slot) (H : Heap) (locs : List Loc), f_Mod_join k9 17 S L M = some (r, S9) → lv_has ls 11 [(0, .ref (ad 0)), (1, .int (L 1)), (2, .long (M 2)), (4, .long (M 4)), (6, .int (L 6)), (7, .int (L 7)), (8, .int (L 8)), (9, .int (L 9)), (10, .int (L 10))] → va_P g.1 classes (Sw shM g ad S) H → va_D A (Sw shM g ad S) → va_S A s.heap H locs → W p l e R s m args below meth c H locs cells slots Q (F0 m 308 ls [])) ∧ (∀ (S : sS) (L : Nat → Int32) (M : Nat → Int64) (ls : Array Slot) (H : Heap) (locs : List Loc), f_Mod_join k9 18 S L M = some (r, S9) → lv_has ls 11 [(0, .ref (ad 0)), (1, .int (L 1)), (2, .long (M 2)), (4, .long (M 4)), (6, .int (L 6)), (7, .int (L 7)), (8, .int (L 8)), (9, .int (L 9)), (10, .int (L 10))] → va_P g.1 classes (Sw shM g ad S) H → va_D A (Sw shM g ad S) → va_S A s.heap H locs → W p l e R s m args below meth c H locs cells slots Q (F0 m 313 ls [.long (M 100)])) ∧ (∀ (S : sS) (L : Nat → Int32) (M : Nat → Int64) (ls : Array Slot) (H : Heap) (locs : List Loc), f_Mod_join k9 19 S L M = some (r, S9) → lv_has ls 11 [(0, .ref (ad 0)), (1, .int (L 1)), (2, .long (M 2)), (4, .long (M 4)), (6, .int (L 6)), (7, .int (L 7)), (8, .int (L 8)), (9, .int (L 9)), (10, .int (L 10))] → va_P g.1 classes (Sw shM g ad S) H → va_D A (Sw shM g ad S) → va_S A s.heap H locs → W p l e R s m args below meth c H locs cells slots Q (F0 m 324 ls [.long (M 100)])) ∧ (∀ (S : sS) (L : Nat → Int32) (M : Nat → Int64) (ls : Array Slot) (H : Heap) (locs : List Loc), f_Mod_join k9 20 S L M = some (r, S9) → lv_has ls 11 [(0, .ref (ad 0)), (1, .int (L 1)), (2, .long (M 2)), (4, .long (M 4)), (6, .int (L 6)), (7, .int (L 7)), (8, .int (L 8)), (9, .int (L 9)), (10, .int (L 10))] → va_P g.1 classes (Sw shM g ad S) H → va_D A (Sw shM g ad S) → va_S A s.heap H locs → W p l e R s m args below meth c H locs cells slots Q (F0 m 361 ls [.long (M 100)])) ∧ (∀ (S : sS) (L : Nat → Int32) (M : Nat → Int64) (ls : Array Slot) (H : Heap) (locs : List Loc), f_Mod_join k9 21 S L M = some (r, S9) → lv_has ls 11 [(0, .ref (ad 0)), (1, .int (L 1)), (2, .long (M 2)), (4, .long (M 4)), (6, .int (L 6)), (7, .int (L 7)), (8, .int (L 8)), (9, .int (L 9)), (10, .int (L 10))] → va_P g.1 classes (Sw shM g ad S) H → va_D A (Sw shM g ad S) → va_S A s.heap H locs → W p l e R s m args below meth c H locs cells slots Q (F0 m 397 ls [.ref (ad 0)])) ∧ (∀ (S : sS) (L : Nat → Int32) (M : Nat → Int64) (ls : Array Slot) (H : Heap) (locs : List Loc), f_Mod_join k9 22 S L M = some (r, S9) → lv_has ls 11 [(0, .ref (ad 0)), (1, .int (L 1)), (2, .long (M 2)), (4, .long (M 4)), (6, .int (L 6)), (7, .int (L 7)), (8, .int (L 8)), (9, .int (L 9)), (10, .int (L 10))] → va_P g.1 classes (Sw shM g ad S) H → va_D A (Sw shM g ad S) → va_S A s.heap H locs → W p l e R s m args below meth c H locs cells slots Q (F0 m 401 ls [.ref (ad 0)])) ∧ (∀ (S : sS) (L : Nat → Int32) (M : Nat → Int64) (ls : Array Slot) (H : Heap) (locs : List Loc), f_Mod_join k9 23 S L M = some (r, S9) → lv_has ls 11 [(0, .ref (ad 0)), (1, .int (L 1)), (2, .long (M 2)), (4, .long (M 4)), (6, .int (L 6)), (7, .int (L 7)), (8, .int (L 8)), (9, .int (L 9)), (10, .int (L 10))] → va_P g.1 classes (Sw shM g ad S) H → va_D A (Sw shM g ad S) → va_S A s.heap H locs → W p l e R s m args below meth c H locs cells slots Q (F0 m 402 ls [.int (L 101), .ref (ad 0)])) ∧ (∀ (S : sS) (L : Nat → Int32) (M : Nat → Int64) (ls : Array Slot) (H : Heap) (locs : List Loc), f_Mod_join k9 24 S L M = some (r, S9) → lv_has ls 11 [(0, .ref (ad 0)), (1, .int (L 1)), (2, .long (M 2)), (4, .long (M 4)), (6, .int (L 6)), (7, .int (L 7)), (8, .int (L 8)), (9, .int (L 9)), (10, .int (L 10))] → va_P g.1 classes (Sw shM g ad S) H → va_D A (Sw shM g ad S) → va_S A s.heap H locs → W p l e R s m args below meth c H locs cells slots Q (F0 m 446 ls [.long (M 100)])) := by
  intro k9
  induction k9 with
  | zero => exact ⟨(fun _ _ _ _ _ _ h => by simp [f_Mod_join] at h), (fun _ _ _ _ _ _ h => by simp [f_Mod_join] at h), (fun _ _ _ _ _ _ h => by simp [f_Mod_join] at h), (fun _ _ _ _ _ _ h => by simp [f_Mod_join] at h), (fun _ _ _ _ _ _ h => by simp [f_Mod_join] at h), (fun _ _ _ _ _ _ h => by simp [f_Mod_join] at h), (fun _ _ _ _ _ _ h => by simp [f_Mod_join] at h), (fun _ _ _ _ _ _ h => by simp [f_Mod_join] at h), (fun _ _ _ _ _ _ h => by simp [f_Mod_join] at h), (fun _ _ _ _ _ _ h => by simp [f_Mod_join] at h), (fun _ _ _ _ _ _ h => by simp [f_Mod_join] at h), (fun _ _ _ _ _ _ h => by simp [f_Mod_join] at h), (fun _ _ _ _ _ _ h => by simp [f_Mod_join] at h), (fun _ _ _ _ _ _ h => by simp [f_Mod_join] at h), (fun _ _ _ _ _ _ h => by simp [f_Mod_join] at h), (fun _ _ _ _ _ _ h => by simp [f_Mod_join] at h), (fun _ _ _ _ _ _ h => by simp [f_Mod_join] at h), (fun _ _ _ _ _ _ h => by simp [f_Mod_join] at h), (fun _ _ _ _ _ _ h => by simp [f_Mod_join] at h), (fun _ _ _ _ _ _ h => by simp [f_Mod_join] at h), (fun _ _ _ _ _ _ h => by simp [f_Mod_join] at h), (fun _ _ _ _ _ _ h => by simp [f_Mod_join] at h), (fun _ _ _ _ _ _ h => by simp [f_Mod_join] at h), (fun _ _ _ _ _ _ h => by simp [f_Mod_join] at h), (fun _ _ _ _ _ _ h => by simp [f_Mod_join] at h)⟩
  | succ k9 ih =>
    refine ⟨?_, ?_, ?_, ?_, ?_, ?_, ?_, ?_, ?_, ?_, ?_, ?_, ?_, ?_, ?_, ?_, ?_, ?_, ?_, ?_, ?_, ?_, ?_, ?_, ?_⟩
    · intro S L M ls H locs h hl hP hD hS
      simp only [f_Mod_join] at h
      refine lv_iload hx hb d_Mod_join_0 (lv_at hl 4 rfl) ?_
      refine lv_if_ne (tgt := 12) hx hb d_Mod_join_2 (by decide) (fun hc1 => ?_) (fun hc1 => ?_)
      · rw [if_neg hc1] at h
        exact (ih.2.1) S L M ls H locs h (lv_sub hl [0, 1, 2, 3, 4, 5] rfl) hP hD hS
      · rw [if_pos hc1] at h
        refine lv_aload_n hx hb d_Mod_join_5 rfl (lv_at hl 0 rfl) ?_
        refine S_getI (h := shM) (C := "MacroMillModel") (T := F_Mod) hx hb htt in_Mod hown hK hP 0 138 rfl rfl rfl (by decide) (htt _ k_2374) (fun _ h9 => h9) d_Mod_join_6 ?_
        refine lv_if_eq (tgt := 16) hx hb d_Mod_join_9 (by decide) (fun hc2 => ?_) (fun hc2 => ?_)
        · rw [if_pos hc2] at h
          refine lv_iconst (v := 0) hx hb d_Mod_join_16 (by decide) ?_
          exact (ih.2.2.1) S (upd L 100 (0 : Int32)) M ls H locs h (lv_sub hl [0, 1, 2, 3, 4, 5] rfl) hP hD hS
        · rw [if_neg hc2] at h
          exact (ih.2.1) S L M ls H locs h (lv_sub hl [0, 1, 2, 3, 4, 5] rfl) hP hD hS
    · intro S L M ls H locs h hl hP hD hS
      simp only [f_Mod_join] at h
      refine lv_iconst (v := 1) hx hb d_Mod_join_12 (by decide) ?_
      refine lv_goto (tgt := 17) hx hb d_Mod_join_13 (by decide) ?_
      exact (ih.2.2.1) S (upd L 100 (1 : Int32)) M ls H locs h (lv_sub hl [0, 1, 2, 3, 4, 5] rfl) hP hD hS
    · intro S L M ls H locs h hl hP hD hS
      simp only [f_Mod_join] at h
      refine lv_istore (lv' := [(8, .int (L 100)), (0, .ref (ad 0)), (1, .int (L 1)), (2, .long (M 2)), (4, .long (M 4)), (6, .int (L 6)), (7, .int (L 7))]) hx hb d_Mod_join_17 hl (by decide) rfl (fun ls hl => ?_)
      refine lv_iload hx hb d_Mod_join_19 (lv_at hl 5 rfl) ?_
      refine lv_istore (lv' := [(9, .int (L 6)), (8, .int (L 100)), (0, .ref (ad 0)), (1, .int (L 1)), (2, .long (M 2)), (4, .long (M 4)), (6, .int (L 6)), (7, .int (L 7))]) hx hb d_Mod_join_21 hl (by decide) rfl (fun ls hl => ?_)
      refine lv_aload_n hx hb d_Mod_join_23 rfl (lv_at hl 2 rfl) ?_
      refine lv_iload_n hx hb d_Mod_join_24 rfl (lv_at hl 3 rfl) ?_
      refine lv_iconst (v := 2) hx hb d_Mod_join_25 (by decide) ?_
      refine lv_icmp_lt (tgt := 40) hx hb d_Mod_join_26 (by decide) (fun hc1 => ?_) (fun hc1 => ?_)
      · rw [if_pos hc1] at h
        exact (ih.2.2.2.1) S (upd (upd L 8 (L 100)) 9 (L 6)) M ls H locs h (lv_sub hl [2, 3, 4, 5, 6, 7, 1, 0] rfl) hP hD hS
      · rw [if_neg hc1] at h
        refine lv_iload_n hx hb d_Mod_join_29 rfl (lv_at hl 3 rfl) ?_
        refine lv_iconst (v := 4) hx hb d_Mod_join_30 (by decide) ?_
        refine lv_icmp_le (tgt := 44) hx hb d_Mod_join_31 (by decide) (fun hc2 => ?_) (fun hc2 => ?_)
        · rw [if_pos hc2] at h
          exact (ih.2.2.2.2.1) S (upd (upd L 8 (L 100)) 9 (L 6)) M ls H locs h (lv_sub hl [2, 3, 4, 5, 6, 7, 1, 0] rfl) hP hD hS
        · rw [if_neg hc2] at h
          refine lv_iload_n hx hb d_Mod_join_34 rfl (lv_at hl 3 rfl) ?_
          refine lv_bipush (v := 11) hx hb d_Mod_join_35 (by decide) ?_
          refine lv_icmp_ge (tgt := 44) hx hb d_Mod_join_37 (by decide) (fun hc3 => ?_) (fun hc3 => ?_)
          · rw [if_pos hc3] at h
            exact (ih.2.2.2.2.1) S (upd (upd L 8 (L 100)) 9 (L 6)) M ls H locs h (lv_sub hl [2, 3, 4, 5, 6, 7, 1, 0] rfl) hP hD hS
          · rw [if_neg hc3] at h
            exact (ih.2.2.2.1) S (upd (upd L 8 (L 100)) 9 (L 6)) M ls H locs h (lv_sub hl [2, 3, 4, 5, 6, 7, 1, 0] rfl) hP hD hS
    · intro S L M ls H locs h hl hP hD hS
      simp only [f_Mod_join] at h
      refine lv_iconst (v := 0) hx hb d_Mod_join_40 (by decide) ?_
      refine lv_goto (tgt := 63) hx hb d_Mod_join_41 (by decide) ?_
      exact (ih.2.2.2.2.2.2.1) S (upd L 101 (0 : Int32)) M ls H locs h (lv_sub hl [0, 1, 2, 3, 4, 5, 6, 7] rfl) hP hD hS
    · intro S L M ls H locs h hl hP hD hS
      simp only [f_Mod_join] at h
      refine lv_iload_n hx hb d_Mod_join_44 rfl (lv_at hl 1 rfl) ?_
      refine lv_bipush (v := 11) hx hb d_Mod_join_45 (by decide) ?_
      refine lv_icmp_eq (tgt := 56) hx hb d_Mod_join_47 (by decide) (fun hc1 => ?_) (fun hc1 => ?_)
      · rw [if_pos hc1] at h
        exact (ih.2.2.2.2.2.1) S L M ls H locs h (lv_sub hl [0, 1, 2, 3, 4, 5, 6, 7] rfl) hP hD hS
      · rw [if_neg hc1] at h
        refine lv_iload_n hx hb d_Mod_join_50 rfl (lv_at hl 1 rfl) ?_
        refine lv_bipush (v := 12) hx hb d_Mod_join_51 (by decide) ?_
        refine lv_icmp_ne (tgt := 61) hx hb d_Mod_join_53 (by decide) (fun hc2 => ?_) (fun hc2 => ?_)
        · rw [if_neg hc2] at h
          refine lv_iload hx hb d_Mod_join_61 (lv_at hl 6 rfl) ?_
          exact (ih.2.2.2.2.2.2.1) S (upd L 101 (L 8)) M ls H locs h (lv_sub hl [0, 1, 2, 3, 4, 5, 6, 7] rfl) hP hD hS
        · rw [if_pos hc2] at h
          exact (ih.2.2.2.2.2.1) S L M ls H locs h (lv_sub hl [0, 1, 2, 3, 4, 5, 6, 7] rfl) hP hD hS
    · intro S L M ls H locs h hl hP hD hS
      simp only [f_Mod_join] at h
      refine lv_iload hx hb d_Mod_join_56 (lv_at hl 7 rfl) ?_
      refine lv_goto (tgt := 63) hx hb d_Mod_join_58 (by decide) ?_
      exact (ih.2.2.2.2.2.2.1) S (upd L 101 (L 9)) M ls H locs h (lv_sub hl [0, 1, 2, 3, 4, 5, 6, 7] rfl) hP hD hS
    · intro S L M ls H locs h hl hP hD hS
      simp only [f_Mod_join] at h
      obtain ⟨hv1, h⟩ := chk h
      refine S_put (h := shM) (C := "MacroMillModel") (T := F_Mod) (v := L 101) hx hb htt in_Mod t_Mod t_Mod_ok n_Mod hown hK hP hD hS 0 138 rfl rfl rfl (by decide) (htt _ k_2374) (fun _ h9 => h9) rfl (bz_n hv1) (bz_f hv1) d_Mod_join_63 (fun H locs hP hD hS => ?_)
      refine lv_iload hx hb d_Mod_join_66 (lv_at hl 6 rfl) ?_
      refine lv_if_eq (tgt := 94) hx hb d_Mod_join_68 (by decide) (fun hc2 => ?_) (fun hc2 => ?_)
      · rw [if_pos hc2] at h
        refine lv_lload_n hx hb d_Mod_join_94 rfl (lv_at hl 2 rfl) ?_
        refine lv_lload hx hb d_Mod_join_95 (lv_at hl 3 rfl) ?_
        refine W.lcmp hx hb d_Mod_join_97 ?_
        refine lv_if_ge (tgt := 105) hx hb d_Mod_join_98 (by decide) (fun hc3 => ?_) (fun hc3 => ?_)
        · rw [if_pos hc3] at h
          refine lv_iconst (v := 0) hx hb d_Mod_join_105 (by decide) ?_
          exact (ih.2.2.2.2.2.2.2.1) (putI S 0 138 (L 101)) (upd L 100 (0 : Int32)) M ls H locs h (lv_sub hl [0, 1, 2, 3, 4, 5, 6, 7] rfl) hP hD hS
        · rw [if_neg hc3] at h
          refine lv_iconst (v := 1) hx hb d_Mod_join_101 (by decide) ?_
          refine lv_goto (tgt := 106) hx hb d_Mod_join_102 (by decide) ?_
          exact (ih.2.2.2.2.2.2.2.1) (putI S 0 138 (L 101)) (upd L 100 (1 : Int32)) M ls H locs h (lv_sub hl [0, 1, 2, 3, 4, 5, 6, 7] rfl) hP hD hS
      · rw [if_neg hc2] at h
        refine lv_lload_n hx hb d_Mod_join_71 rfl (lv_at hl 2 rfl) ?_
        refine lv_ldc2 (v := (-9223372036854775808)) hx hb hown (htt _ k_3212) d_Mod_join_72 ?_
        refine lv_ladd hx hb d_Mod_join_75 ?_
        refine lv_lload hx hb d_Mod_join_76 (lv_at hl 3 rfl) ?_
        refine lv_ldc2 (v := (-9223372036854775808)) hx hb hown (htt _ k_3212) d_Mod_join_78 ?_
        refine lv_ladd hx hb d_Mod_join_81 ?_
        refine W.lcmp hx hb d_Mod_join_82 ?_
        refine lv_if_ge (tgt := 90) hx hb d_Mod_join_83 (by decide) (fun hc4 => ?_) (fun hc4 => ?_)
        · rw [if_pos hc4] at h
          refine lv_iconst (v := 0) hx hb d_Mod_join_90 (by decide) ?_
          refine lv_goto (tgt := 106) hx hb d_Mod_join_91 (by decide) ?_
          exact (ih.2.2.2.2.2.2.2.1) (putI S 0 138 (L 101)) (upd L 100 (0 : Int32)) M ls H locs h (lv_sub hl [0, 1, 2, 3, 4, 5, 6, 7] rfl) hP hD hS
        · rw [if_neg hc4] at h
          refine lv_iconst (v := 1) hx hb d_Mod_join_86 (by decide) ?_
          refine lv_goto (tgt := 106) hx hb d_Mod_join_87 (by decide) ?_
          exact (ih.2.2.2.2.2.2.2.1) (putI S 0 138 (L 101)) (upd L 100 (1 : Int32)) M ls H locs h (lv_sub hl [0, 1, 2, 3, 4, 5, 6, 7] rfl) hP hD hS
    · intro S L M ls H locs h hl hP hD hS
      simp only [f_Mod_join] at h
      refine lv_istore (lv' := [(10, .int (L 100)), (0, .ref (ad 0)), (1, .int (L 1)), (2, .long (M 2)), (4, .long (M 4)), (6, .int (L 6)), (7, .int (L 7)), (8, .int (L 8)), (9, .int (L 9))]) hx hb d_Mod_join_106 hl (by decide) rfl (fun ls hl => ?_)
      refine lv_iload_n hx hb d_Mod_join_108 rfl (lv_at hl 2 rfl) ?_
      by_cases hc1_0 : (L 1) = (0 : Int32)
      · rw [if_pos hc1_0] at h
        refine lv_tableIn (tgt := 188) (off := 79) hx hb d_Mod_join_109 (by rw [hc1_0]; decide) (by rw [hc1_0]; decide) (by rw [hc1_0]; decide) (by decide) ?_
        refine lv_lload_n hx hb d_Mod_join_188 rfl (lv_at hl 3 rfl) ?_
        refine lv_lconst (v := 0) hx hb d_Mod_join_189 (by decide) ?_
        refine W.lcmp hx hb d_Mod_join_190 ?_
        refine lv_if_ne (tgt := 201) hx hb d_Mod_join_191 (by decide) (fun hc2 => ?_) (fun hc2 => ?_)
        · rw [if_neg hc2] at h
          exact (ih.2.2.2.2.2.2.2.2.1) S (upd L 10 (L 100)) M ls H locs h (lv_sub hl [1, 2, 3, 4, 5, 6, 7, 8, 0] rfl) hP hD hS
        · rw [if_pos hc2] at h
          refine lv_lload hx hb d_Mod_join_194 (lv_at hl 4 rfl) ?_
          refine lv_lconst (v := 0) hx hb d_Mod_join_196 (by decide) ?_
          refine W.lcmp hx hb d_Mod_join_197 ?_
          refine lv_if_eq (tgt := 205) hx hb d_Mod_join_198 (by decide) (fun hc3 => ?_) (fun hc3 => ?_)
          · rw [if_pos hc3] at h
            refine lv_lconst (v := 0) hx hb d_Mod_join_205 (by decide) ?_
            exact (ih.2.2.2.2.2.2.2.2.2.1) S (upd L 10 (L 100)) (vp_updL M 100 (0 : Int64)) ls H locs h (lv_sub hl [1, 2, 3, 4, 5, 6, 7, 8, 0] rfl) hP hD hS
          · rw [if_neg hc3] at h
            exact (ih.2.2.2.2.2.2.2.2.1) S (upd L 10 (L 100)) M ls H locs h (lv_sub hl [1, 2, 3, 4, 5, 6, 7, 8, 0] rfl) hP hD hS
      rw [if_neg hc1_0] at h
      by_cases hc1_1 : (L 1) = (1 : Int32)
      · rw [if_pos hc1_1] at h
        refine lv_tableIn (tgt := 207) (off := 98) hx hb d_Mod_join_109 (by rw [hc1_1]; decide) (by rw [hc1_1]; decide) (by rw [hc1_1]; decide) (by decide) ?_
        refine lv_lload_n hx hb d_Mod_join_207 rfl (lv_at hl 3 rfl) ?_
        refine lv_lconst (v := 0) hx hb d_Mod_join_208 (by decide) ?_
        refine W.lcmp hx hb d_Mod_join_209 ?_
        refine lv_if_eq (tgt := 224) hx hb d_Mod_join_210 (by decide) (fun hc4 => ?_) (fun hc4 => ?_)
        · rw [if_pos hc4] at h
          exact (ih.2.2.2.2.2.2.2.2.2.2.1) S (upd L 10 (L 100)) M ls H locs h (lv_sub hl [1, 2, 3, 4, 5, 6, 7, 8, 0] rfl) hP hD hS
        · rw [if_neg hc4] at h
          refine lv_lload hx hb d_Mod_join_213 (lv_at hl 4 rfl) ?_
          refine lv_lconst (v := 0) hx hb d_Mod_join_215 (by decide) ?_
          refine W.lcmp hx hb d_Mod_join_216 ?_
          refine lv_if_eq (tgt := 224) hx hb d_Mod_join_217 (by decide) (fun hc5 => ?_) (fun hc5 => ?_)
          · rw [if_pos hc5] at h
            exact (ih.2.2.2.2.2.2.2.2.2.2.1) S (upd L 10 (L 100)) M ls H locs h (lv_sub hl [1, 2, 3, 4, 5, 6, 7, 8, 0] rfl) hP hD hS
          · rw [if_neg hc5] at h
            refine lv_lconst (v := 1) hx hb d_Mod_join_220 (by decide) ?_
            refine lv_goto (tgt := 225) hx hb d_Mod_join_221 (by decide) ?_
            exact (ih.2.2.2.2.2.2.2.2.2.2.2.1) S (upd L 10 (L 100)) (vp_updL M 100 (1 : Int64)) ls H locs h (lv_sub hl [1, 2, 3, 4, 5, 6, 7, 8, 0] rfl) hP hD hS
      rw [if_neg hc1_1] at h
      by_cases hc1_2 : (L 1) = (2 : Int32)
      · rw [if_pos hc1_2] at h
        refine lv_tableIn (tgt := 226) (off := 117) hx hb d_Mod_join_109 (by rw [hc1_2]; decide) (by rw [hc1_2]; decide) (by rw [hc1_2]; decide) (by decide) ?_
        refine lv_lload_n hx hb d_Mod_join_226 rfl (lv_at hl 3 rfl) ?_
        refine lv_lload hx hb d_Mod_join_227 (lv_at hl 4 rfl) ?_
        refine lv_lor hx hb d_Mod_join_229 ?_
        cases h
        exact kx_230 ls H locs hP hD hS
      rw [if_neg hc1_2] at h
      by_cases hc1_3 : (L 1) = (3 : Int32)
      · rw [if_pos hc1_3] at h
        refine lv_tableIn (tgt := 231) (off := 122) hx hb d_Mod_join_109 (by rw [hc1_3]; decide) (by rw [hc1_3]; decide) (by rw [hc1_3]; decide) (by decide) ?_
        refine lv_lload_n hx hb d_Mod_join_231 rfl (lv_at hl 3 rfl) ?_
        refine lv_lload hx hb d_Mod_join_232 (lv_at hl 4 rfl) ?_
        refine lv_lxor hx hb d_Mod_join_234 ?_
        cases h
        exact kx_235 ls H locs hP hD hS
      rw [if_neg hc1_3] at h
      by_cases hc1_4 : (L 1) = (4 : Int32)
      · rw [if_pos hc1_4] at h
        refine lv_tableIn (tgt := 236) (off := 127) hx hb d_Mod_join_109 (by rw [hc1_4]; decide) (by rw [hc1_4]; decide) (by rw [hc1_4]; decide) (by decide) ?_
        refine lv_lload_n hx hb d_Mod_join_236 rfl (lv_at hl 3 rfl) ?_
        refine lv_lload hx hb d_Mod_join_237 (lv_at hl 4 rfl) ?_
        refine lv_land hx hb d_Mod_join_239 ?_
        cases h
        exact kx_240 ls H locs hP hD hS
      rw [if_neg hc1_4] at h
      by_cases hc1_5 : (L 1) = (5 : Int32)
      · rw [if_pos hc1_5] at h
        refine lv_tableIn (tgt := 241) (off := 132) hx hb d_Mod_join_109 (by rw [hc1_5]; decide) (by rw [hc1_5]; decide) (by rw [hc1_5]; decide) (by decide) ?_
        refine lv_lload_n hx hb d_Mod_join_241 rfl (lv_at hl 3 rfl) ?_
        refine lv_lload hx hb d_Mod_join_242 (lv_at hl 4 rfl) ?_
        refine W.lcmp hx hb d_Mod_join_244 ?_
        refine lv_if_ne (tgt := 252) hx hb d_Mod_join_245 (by decide) (fun hc6 => ?_) (fun hc6 => ?_)
        · rw [if_neg hc6] at h
          refine lv_lconst (v := 0) hx hb d_Mod_join_252 (by decide) ?_
          exact (ih.2.2.2.2.2.2.2.2.2.2.2.2.1) S (upd L 10 (L 100)) (vp_updL M 100 (0 : Int64)) ls H locs h (lv_sub hl [1, 2, 3, 4, 5, 6, 7, 8, 0] rfl) hP hD hS
        · rw [if_pos hc6] at h
          refine lv_lconst (v := 1) hx hb d_Mod_join_248 (by decide) ?_
          refine lv_goto (tgt := 253) hx hb d_Mod_join_249 (by decide) ?_
          exact (ih.2.2.2.2.2.2.2.2.2.2.2.2.1) S (upd L 10 (L 100)) (vp_updL M 100 (1 : Int64)) ls H locs h (lv_sub hl [1, 2, 3, 4, 5, 6, 7, 8, 0] rfl) hP hD hS
      rw [if_neg hc1_5] at h
      by_cases hc1_6 : (L 1) = (6 : Int32)
      · rw [if_pos hc1_6] at h
        refine lv_tableIn (tgt := 254) (off := 145) hx hb d_Mod_join_109 (by rw [hc1_6]; decide) (by rw [hc1_6]; decide) (by rw [hc1_6]; decide) (by decide) ?_
        refine lv_lload_n hx hb d_Mod_join_254 rfl (lv_at hl 3 rfl) ?_
        refine lv_lload hx hb d_Mod_join_255 (lv_at hl 4 rfl) ?_
        refine W.lcmp hx hb d_Mod_join_257 ?_
        refine lv_if_eq (tgt := 265) hx hb d_Mod_join_258 (by decide) (fun hc7 => ?_) (fun hc7 => ?_)
        · rw [if_pos hc7] at h
          refine lv_lconst (v := 0) hx hb d_Mod_join_265 (by decide) ?_
          exact (ih.2.2.2.2.2.2.2.2.2.2.2.2.2.1) S (upd L 10 (L 100)) (vp_updL M 100 (0 : Int64)) ls H locs h (lv_sub hl [1, 2, 3, 4, 5, 6, 7, 8, 0] rfl) hP hD hS
        · rw [if_neg hc7] at h
          refine lv_lconst (v := 1) hx hb d_Mod_join_261 (by decide) ?_
          refine lv_goto (tgt := 266) hx hb d_Mod_join_262 (by decide) ?_
          exact (ih.2.2.2.2.2.2.2.2.2.2.2.2.2.1) S (upd L 10 (L 100)) (vp_updL M 100 (1 : Int64)) ls H locs h (lv_sub hl [1, 2, 3, 4, 5, 6, 7, 8, 0] rfl) hP hD hS
      rw [if_neg hc1_6] at h
      by_cases hc1_7 : (L 1) = (7 : Int32)
      · rw [if_pos hc1_7] at h
        refine lv_tableIn (tgt := 267) (off := 158) hx hb d_Mod_join_109 (by rw [hc1_7]; decide) (by rw [hc1_7]; decide) (by rw [hc1_7]; decide) (by decide) ?_
        refine lv_iload hx hb d_Mod_join_267 (lv_at hl 0 rfl) ?_
        refine lv_if_eq (tgt := 276) hx hb d_Mod_join_269 (by decide) (fun hc8 => ?_) (fun hc8 => ?_)
        · rw [if_pos hc8] at h
          refine lv_lconst (v := 0) hx hb d_Mod_join_276 (by decide) ?_
          exact (ih.2.2.2.2.2.2.2.2.2.2.2.2.2.2.1) S (upd L 10 (L 100)) (vp_updL M 100 (0 : Int64)) ls H locs h (lv_sub hl [1, 2, 3, 4, 5, 6, 7, 8, 0] rfl) hP hD hS
        · rw [if_neg hc8] at h
          refine lv_lconst (v := 1) hx hb d_Mod_join_272 (by decide) ?_
          refine lv_goto (tgt := 277) hx hb d_Mod_join_273 (by decide) ?_
          exact (ih.2.2.2.2.2.2.2.2.2.2.2.2.2.2.1) S (upd L 10 (L 100)) (vp_updL M 100 (1 : Int64)) ls H locs h (lv_sub hl [1, 2, 3, 4, 5, 6, 7, 8, 0] rfl) hP hD hS
      rw [if_neg hc1_7] at h
      by_cases hc1_8 : (L 1) = (8 : Int32)
      · rw [if_pos hc1_8] at h
        refine lv_tableIn (tgt := 278) (off := 169) hx hb d_Mod_join_109 (by rw [hc1_8]; decide) (by rw [hc1_8]; decide) (by rw [hc1_8]; decide) (by decide) ?_
        refine lv_iload hx hb d_Mod_join_278 (lv_at hl 0 rfl) ?_
        refine lv_if_ne (tgt := 294) hx hb d_Mod_join_280 (by decide) (fun hc9 => ?_) (fun hc9 => ?_)
        · rw [if_neg hc9] at h
          exact (ih.2.2.2.2.2.2.2.2.2.2.2.2.2.2.2.1) S (upd L 10 (L 100)) M ls H locs h (lv_sub hl [1, 2, 3, 4, 5, 6, 7, 8, 0] rfl) hP hD hS
        · rw [if_pos hc9] at h
          refine lv_lload_n hx hb d_Mod_join_283 rfl (lv_at hl 3 rfl) ?_
          refine lv_lload hx hb d_Mod_join_284 (lv_at hl 4 rfl) ?_
          refine W.lcmp hx hb d_Mod_join_286 ?_
          refine lv_if_eq (tgt := 294) hx hb d_Mod_join_287 (by decide) (fun hc10 => ?_) (fun hc10 => ?_)
          · rw [if_pos hc10] at h
            exact (ih.2.2.2.2.2.2.2.2.2.2.2.2.2.2.2.1) S (upd L 10 (L 100)) M ls H locs h (lv_sub hl [1, 2, 3, 4, 5, 6, 7, 8, 0] rfl) hP hD hS
          · rw [if_neg hc10] at h
            refine lv_lconst (v := 1) hx hb d_Mod_join_290 (by decide) ?_
            refine lv_goto (tgt := 295) hx hb d_Mod_join_291 (by decide) ?_
            exact (ih.2.2.2.2.2.2.2.2.2.2.2.2.2.2.2.2.1) S (upd L 10 (L 100)) (vp_updL M 100 (1 : Int64)) ls H locs h (lv_sub hl [1, 2, 3, 4, 5, 6, 7, 8, 0] rfl) hP hD hS
      rw [if_neg hc1_8] at h
      by_cases hc1_9 : (L 1) = (9 : Int32)
      · rw [if_pos hc1_9] at h
        refine lv_tableIn (tgt := 296) (off := 187) hx hb d_Mod_join_109 (by rw [hc1_9]; decide) (by rw [hc1_9]; decide) (by rw [hc1_9]; decide) (by decide) ?_
        refine lv_iload hx hb d_Mod_join_296 (lv_at hl 0 rfl) ?_
        refine lv_if_ne (tgt := 308) hx hb d_Mod_join_298 (by decide) (fun hc11 => ?_) (fun hc11 => ?_)
        · rw [if_neg hc11] at h
          exact (ih.2.2.2.2.2.2.2.2.2.2.2.2.2.2.2.2.2.1) S (upd L 10 (L 100)) M ls H locs h (lv_sub hl [1, 2, 3, 4, 5, 6, 7, 8, 0] rfl) hP hD hS
        · rw [if_pos hc11] at h
          refine lv_lload_n hx hb d_Mod_join_301 rfl (lv_at hl 3 rfl) ?_
          refine lv_lload hx hb d_Mod_join_302 (lv_at hl 4 rfl) ?_
          refine W.lcmp hx hb d_Mod_join_304 ?_
          refine lv_if_ne (tgt := 312) hx hb d_Mod_join_305 (by decide) (fun hc12 => ?_) (fun hc12 => ?_)
          · rw [if_neg hc12] at h
            refine lv_lconst (v := 0) hx hb d_Mod_join_312 (by decide) ?_
            exact (ih.2.2.2.2.2.2.2.2.2.2.2.2.2.2.2.2.2.2.1) S (upd L 10 (L 100)) (vp_updL M 100 (0 : Int64)) ls H locs h (lv_sub hl [1, 2, 3, 4, 5, 6, 7, 8, 0] rfl) hP hD hS
          · rw [if_pos hc12] at h
            exact (ih.2.2.2.2.2.2.2.2.2.2.2.2.2.2.2.2.2.1) S (upd L 10 (L 100)) M ls H locs h (lv_sub hl [1, 2, 3, 4, 5, 6, 7, 8, 0] rfl) hP hD hS
      rw [if_neg hc1_9] at h
      by_cases hc1_10 : (L 1) = (10 : Int32)
      · rw [if_pos hc1_10] at h
        refine lv_tableIn (tgt := 314) (off := 205) hx hb d_Mod_join_109 (by rw [hc1_10]; decide) (by rw [hc1_10]; decide) (by rw [hc1_10]; decide) (by decide) ?_
        refine lv_iload hx hb d_Mod_join_314 (lv_at hl 0 rfl) ?_
        refine lv_if_eq (tgt := 323) hx hb d_Mod_join_316 (by decide) (fun hc13 => ?_) (fun hc13 => ?_)
        · rw [if_pos hc13] at h
          refine lv_lconst (v := 1) hx hb d_Mod_join_323 (by decide) ?_
          exact (ih.2.2.2.2.2.2.2.2.2.2.2.2.2.2.2.2.2.2.2.1) S (upd L 10 (L 100)) (vp_updL M 100 (1 : Int64)) ls H locs h (lv_sub hl [1, 2, 3, 4, 5, 6, 7, 8, 0] rfl) hP hD hS
        · rw [if_neg hc13] at h
          refine lv_lconst (v := 0) hx hb d_Mod_join_319 (by decide) ?_
          refine lv_goto (tgt := 324) hx hb d_Mod_join_320 (by decide) ?_
          exact (ih.2.2.2.2.2.2.2.2.2.2.2.2.2.2.2.2.2.2.2.1) S (upd L 10 (L 100)) (vp_updL M 100 (0 : Int64)) ls H locs h (lv_sub hl [1, 2, 3, 4, 5, 6, 7, 8, 0] rfl) hP hD hS
      rw [if_neg hc1_10] at h
      by_cases hc1_11 : (L 1) = (11 : Int32)
      · rw [if_pos hc1_11] at h
        refine lv_tableIn (tgt := 325) (off := 216) hx hb d_Mod_join_109 (by rw [hc1_11]; decide) (by rw [hc1_11]; decide) (by rw [hc1_11]; decide) (by decide) ?_
        refine lv_lload_n hx hb d_Mod_join_325 rfl (lv_at hl 3 rfl) ?_
        refine lv_lload hx hb d_Mod_join_326 (lv_at hl 4 rfl) ?_
        refine lv_ldc2 (v := 63) hx hb hown (htt _ k_3310) d_Mod_join_328 ?_
        refine lv_land hx hb d_Mod_join_331 ?_
        refine lv_l2i (v := ((M 4) &&& (63 : Int64)).toInt32) hx hb d_Mod_join_332 rfl ?_
        refine lv_lshl (v := (M 2) <<< ((((M 4) &&& (63 : Int64)).toInt32 : Int32).toInt64 &&& 63)) hx hb d_Mod_join_333 rfl ?_
        cases h
        exact kx_334 ls H locs hP hD hS
      rw [if_neg hc1_11] at h
      by_cases hc1_12 : (L 1) = (12 : Int32)
      · rw [if_pos hc1_12] at h
        refine lv_tableIn (tgt := 335) (off := 226) hx hb d_Mod_join_109 (by rw [hc1_12]; decide) (by rw [hc1_12]; decide) (by rw [hc1_12]; decide) (by decide) ?_
        refine lv_iload hx hb d_Mod_join_335 (lv_at hl 8 rfl) ?_
        refine lv_if_eq (tgt := 352) hx hb d_Mod_join_337 (by decide) (fun hc14 => ?_) (fun hc14 => ?_)
        · rw [if_pos hc14] at h
          refine lv_lload_n hx hb d_Mod_join_352 rfl (lv_at hl 3 rfl) ?_
          refine lv_lload hx hb d_Mod_join_353 (lv_at hl 4 rfl) ?_
          refine lv_ldc2 (v := 63) hx hb hown (htt _ k_3310) d_Mod_join_355 ?_
          refine lv_land hx hb d_Mod_join_358 ?_
          refine lv_l2i (v := ((M 4) &&& (63 : Int64)).toInt32) hx hb d_Mod_join_359 rfl ?_
          refine lv_lshr (v := (M 2) >>> ((((M 4) &&& (63 : Int64)).toInt32 : Int32).toInt64 &&& 63)) hx hb d_Mod_join_360 rfl ?_
          exact (ih.2.2.2.2.2.2.2.2.2.2.2.2.2.2.2.2.2.2.2.2.1) S (upd L 10 (L 100)) (vp_updL M 100 ((M 2) >>> ((((M 4) &&& (63 : Int64)).toInt32 : Int32).toInt64 &&& 63))) ls H locs h (lv_sub hl [1, 2, 3, 4, 5, 6, 7, 8, 0] rfl) hP hD hS
        · rw [if_neg hc14] at h
          refine lv_lload_n hx hb d_Mod_join_340 rfl (lv_at hl 3 rfl) ?_
          refine lv_lload hx hb d_Mod_join_341 (lv_at hl 4 rfl) ?_
          refine lv_ldc2 (v := 63) hx hb hown (htt _ k_3310) d_Mod_join_343 ?_
          refine lv_land hx hb d_Mod_join_346 ?_
          refine lv_l2i (v := ((M 4) &&& (63 : Int64)).toInt32) hx hb d_Mod_join_347 rfl ?_
          refine lv_lushr (v := ((M 2).toUInt64 >>> ((((M 4) &&& (63 : Int64)).toInt32 : Int32).toInt64.toUInt64 &&& Int64.toUInt64 63)).toInt64) hx hb d_Mod_join_348 rfl ?_
          refine lv_goto (tgt := 361) hx hb d_Mod_join_349 (by decide) ?_
          exact (ih.2.2.2.2.2.2.2.2.2.2.2.2.2.2.2.2.2.2.2.2.1) S (upd L 10 (L 100)) (vp_updL M 100 (((M 2).toUInt64 >>> ((((M 4) &&& (63 : Int64)).toInt32 : Int32).toInt64.toUInt64 &&& Int64.toUInt64 63)).toInt64)) ls H locs h (lv_sub hl [1, 2, 3, 4, 5, 6, 7, 8, 0] rfl) hP hD hS
      rw [if_neg hc1_12] at h
      by_cases hc1_13 : (L 1) = (13 : Int32)
      · rw [if_pos hc1_13] at h
        refine lv_tableIn (tgt := 362) (off := 253) hx hb d_Mod_join_109 (by rw [hc1_13]; decide) (by rw [hc1_13]; decide) (by rw [hc1_13]; decide) (by decide) ?_
        refine lv_lload_n hx hb d_Mod_join_362 rfl (lv_at hl 3 rfl) ?_
        refine lv_lload hx hb d_Mod_join_363 (lv_at hl 4 rfl) ?_
        refine lv_ladd hx hb d_Mod_join_365 ?_
        cases h
        exact kx_366 ls H locs hP hD hS
      rw [if_neg hc1_13] at h
      by_cases hc1_14 : (L 1) = (14 : Int32)
      · rw [if_pos hc1_14] at h
        refine lv_tableIn (tgt := 367) (off := 258) hx hb d_Mod_join_109 (by rw [hc1_14]; decide) (by rw [hc1_14]; decide) (by rw [hc1_14]; decide) (by decide) ?_
        refine lv_lload_n hx hb d_Mod_join_367 rfl (lv_at hl 3 rfl) ?_
        refine lv_lload hx hb d_Mod_join_368 (lv_at hl 4 rfl) ?_
        refine lv_lsub hx hb d_Mod_join_370 ?_
        cases h
        exact kx_371 ls H locs hP hD hS
      rw [if_neg hc1_14] at h
      by_cases hc1_15 : (L 1) = (15 : Int32)
      · rw [if_pos hc1_15] at h
        refine lv_tableIn (tgt := 372) (off := 263) hx hb d_Mod_join_109 (by rw [hc1_15]; decide) (by rw [hc1_15]; decide) (by rw [hc1_15]; decide) (by decide) ?_
        refine lv_lload_n hx hb d_Mod_join_372 rfl (lv_at hl 3 rfl) ?_
        refine lv_lload hx hb d_Mod_join_373 (lv_at hl 4 rfl) ?_
        refine lv_lmul hx hb d_Mod_join_375 ?_
        cases h
        exact kx_376 ls H locs hP hD hS
      rw [if_neg hc1_15] at h
      have ho9 : (L 1).toInt < 0 ∨ 15 < (L 1).toInt := by
        by_cases q9 : (L 1).toInt < 0 ∨ 15 < (L 1).toInt
        · exact q9
        · exfalso
          have q8 : (L 1).toInt = 0 ∨ (L 1).toInt = 1 ∨ (L 1).toInt = 2 ∨ (L 1).toInt = 3 ∨ (L 1).toInt = 4 ∨ (L 1).toInt = 5 ∨ (L 1).toInt = 6 ∨ (L 1).toInt = 7 ∨ (L 1).toInt = 8 ∨ (L 1).toInt = 9 ∨ (L 1).toInt = 10 ∨ (L 1).toInt = 11 ∨ (L 1).toInt = 12 ∨ (L 1).toInt = 13 ∨ (L 1).toInt = 14 ∨ (L 1).toInt = 15 := by omega
          rcases q8 with q7 | q7 | q7 | q7 | q7 | q7 | q7 | q7 | q7 | q7 | q7 | q7 | q7 | q7 | q7 | q7
          · exact hc1_0 (Int32.toInt_inj.mp (q7.trans (by decide)))
          · exact hc1_1 (Int32.toInt_inj.mp (q7.trans (by decide)))
          · exact hc1_2 (Int32.toInt_inj.mp (q7.trans (by decide)))
          · exact hc1_3 (Int32.toInt_inj.mp (q7.trans (by decide)))
          · exact hc1_4 (Int32.toInt_inj.mp (q7.trans (by decide)))
          · exact hc1_5 (Int32.toInt_inj.mp (q7.trans (by decide)))
          · exact hc1_6 (Int32.toInt_inj.mp (q7.trans (by decide)))
          · exact hc1_7 (Int32.toInt_inj.mp (q7.trans (by decide)))
          · exact hc1_8 (Int32.toInt_inj.mp (q7.trans (by decide)))
          · exact hc1_9 (Int32.toInt_inj.mp (q7.trans (by decide)))
          · exact hc1_10 (Int32.toInt_inj.mp (q7.trans (by decide)))
          · exact hc1_11 (Int32.toInt_inj.mp (q7.trans (by decide)))
          · exact hc1_12 (Int32.toInt_inj.mp (q7.trans (by decide)))
          · exact hc1_13 (Int32.toInt_inj.mp (q7.trans (by decide)))
          · exact hc1_14 (Int32.toInt_inj.mp (q7.trans (by decide)))
          · exact hc1_15 (Int32.toInt_inj.mp (q7.trans (by decide)))
      refine lv_tableOut (tgt := 377) hx hb d_Mod_join_109 ho9 (by decide) ?_
      refine lv_aload_n hx hb d_Mod_join_377 rfl (lv_at hl 1 rfl) ?_
      refine lv_aload_n hx hb d_Mod_join_378 rfl (lv_at hl 1 rfl) ?_
      refine S_getI (h := shM) (C := "MacroMillModel") (T := F_Mod) hx hb htt in_Mod hown hK hP 0 136 rfl rfl rfl (by decide) (htt _ k_2372) (fun _ h9 => h9) d_Mod_join_379 ?_
      refine lv_if_ne (tgt := 397) hx hb d_Mod_join_382 (by decide) (fun hc15 => ?_) (fun hc15 => ?_)
      · rw [if_neg hc15] at h
        exact (ih.2.2.2.2.2.2.2.2.2.2.2.2.2.2.2.2.2.2.2.2.2.1) S (upd L 10 (L 100)) M ls H locs h (lv_sub hl [1, 2, 3, 4, 5, 6, 7, 8, 0] rfl) hP hD hS
      · rw [if_pos hc15] at h
        refine lv_iload hx hb d_Mod_join_385 (lv_at hl 6 rfl) ?_
        refine lv_if_eq (tgt := 401) hx hb d_Mod_join_387 (by decide) (fun hc16 => ?_) (fun hc16 => ?_)
        · rw [if_pos hc16] at h
          exact (ih.2.2.2.2.2.2.2.2.2.2.2.2.2.2.2.2.2.2.2.2.2.2.1) S (upd L 10 (L 100)) M ls H locs h (lv_sub hl [1, 2, 3, 4, 5, 6, 7, 8, 0] rfl) hP hD hS
        · rw [if_neg hc16] at h
          refine lv_lload hx hb d_Mod_join_390 (lv_at hl 4 rfl) ?_
          refine lv_lconst (v := 0) hx hb d_Mod_join_392 (by decide) ?_
          refine W.lcmp hx hb d_Mod_join_393 ?_
          refine lv_if_ne (tgt := 401) hx hb d_Mod_join_394 (by decide) (fun hc17 => ?_) (fun hc17 => ?_)
          · rw [if_neg hc17] at h
            exact (ih.2.2.2.2.2.2.2.2.2.2.2.2.2.2.2.2.2.2.2.2.2.2.1) S (upd L 10 (L 100)) M ls H locs h (lv_sub hl [1, 2, 3, 4, 5, 6, 7, 8, 0] rfl) hP hD hS
          · rw [if_pos hc17] at h
            exact (ih.2.2.2.2.2.2.2.2.2.2.2.2.2.2.2.2.2.2.2.2.2.1) S (upd L 10 (L 100)) M ls H locs h (lv_sub hl [1, 2, 3, 4, 5, 6, 7, 8, 0] rfl) hP hD hS
    · intro S L M ls H locs h hl hP hD hS
      simp only [f_Mod_join] at h
      refine lv_lconst (v := 1) hx hb d_Mod_join_201 (by decide) ?_
      refine lv_goto (tgt := 206) hx hb d_Mod_join_202 (by decide) ?_
      exact (ih.2.2.2.2.2.2.2.2.2.1) S L (vp_updL M 100 (1 : Int64)) ls H locs h (lv_sub hl [0, 1, 2, 3, 4, 5, 6, 7, 8] rfl) hP hD hS
    · intro S L M ls H locs h hl hP hD hS
      simp only [f_Mod_join] at h
      cases h
      exact kx_206 ls H locs hP hD hS
    · intro S L M ls H locs h hl hP hD hS
      simp only [f_Mod_join] at h
      refine lv_lconst (v := 0) hx hb d_Mod_join_224 (by decide) ?_
      exact (ih.2.2.2.2.2.2.2.2.2.2.2.1) S L (vp_updL M 100 (0 : Int64)) ls H locs h (lv_sub hl [0, 1, 2, 3, 4, 5, 6, 7, 8] rfl) hP hD hS
    · intro S L M ls H locs h hl hP hD hS
      simp only [f_Mod_join] at h
      cases h
      exact kx_225 ls H locs hP hD hS
    · intro S L M ls H locs h hl hP hD hS
      simp only [f_Mod_join] at h
      cases h
      exact kx_253 ls H locs hP hD hS
    · intro S L M ls H locs h hl hP hD hS
      simp only [f_Mod_join] at h
      cases h
      exact kx_266 ls H locs hP hD hS
    · intro S L M ls H locs h hl hP hD hS
      simp only [f_Mod_join] at h
      cases h
      exact kx_277 ls H locs hP hD hS
    · intro S L M ls H locs h hl hP hD hS
      simp only [f_Mod_join] at h
      refine lv_lconst (v := 0) hx hb d_Mod_join_294 (by decide) ?_
      exact (ih.2.2.2.2.2.2.2.2.2.2.2.2.2.2.2.2.1) S L (vp_updL M 100 (0 : Int64)) ls H locs h (lv_sub hl [0, 1, 2, 3, 4, 5, 6, 7, 8] rfl) hP hD hS
    · intro S L M ls H locs h hl hP hD hS
      simp only [f_Mod_join] at h
      cases h
      exact kx_295 ls H locs hP hD hS
    · intro S L M ls H locs h hl hP hD hS
      simp only [f_Mod_join] at h
      refine lv_lconst (v := 1) hx hb d_Mod_join_308 (by decide) ?_
      refine lv_goto (tgt := 313) hx hb d_Mod_join_309 (by decide) ?_
      exact (ih.2.2.2.2.2.2.2.2.2.2.2.2.2.2.2.2.2.2.1) S L (vp_updL M 100 (1 : Int64)) ls H locs h (lv_sub hl [0, 1, 2, 3, 4, 5, 6, 7, 8] rfl) hP hD hS
    · intro S L M ls H locs h hl hP hD hS
      simp only [f_Mod_join] at h
      cases h
      exact kx_313 ls H locs hP hD hS
    · intro S L M ls H locs h hl hP hD hS
      simp only [f_Mod_join] at h
      cases h
      exact kx_324 ls H locs hP hD hS
    · intro S L M ls H locs h hl hP hD hS
      simp only [f_Mod_join] at h
      cases h
      exact kx_361 ls H locs hP hD hS
    · intro S L M ls H locs h hl hP hD hS
      simp only [f_Mod_join] at h
      refine lv_iconst (v := 1) hx hb d_Mod_join_397 (by decide) ?_
      refine lv_goto (tgt := 402) hx hb d_Mod_join_398 (by decide) ?_
      exact (ih.2.2.2.2.2.2.2.2.2.2.2.2.2.2.2.2.2.2.2.2.2.2.2.1) S (upd L 101 (1 : Int32)) M ls H locs h (lv_sub hl [0, 1, 2, 3, 4, 5, 6, 7, 8] rfl) hP hD hS
    · intro S L M ls H locs h hl hP hD hS
      simp only [f_Mod_join] at h
      refine lv_iconst (v := 0) hx hb d_Mod_join_401 (by decide) ?_
      exact (ih.2.2.2.2.2.2.2.2.2.2.2.2.2.2.2.2.2.2.2.2.2.2.2.1) S (upd L 101 (0 : Int32)) M ls H locs h (lv_sub hl [0, 1, 2, 3, 4, 5, 6, 7, 8] rfl) hP hD hS
    · intro S L M ls H locs h hl hP hD hS
      simp only [f_Mod_join] at h
      obtain ⟨hv1, h⟩ := chk h
      refine S_put (h := shM) (C := "MacroMillModel") (T := F_Mod) (v := L 101) hx hb htt in_Mod t_Mod t_Mod_ok n_Mod hown hK hP hD hS 0 136 rfl rfl rfl (by decide) (htt _ k_2372) (fun _ h9 => h9) rfl (bz_n hv1) (bz_f hv1) d_Mod_join_402 (fun H locs hP hD hS => ?_)
      refine lv_lload hx hb d_Mod_join_405 (lv_at hl 3 rfl) ?_
      refine lv_lconst (v := 0) hx hb d_Mod_join_407 (by decide) ?_
      refine W.lcmp hx hb d_Mod_join_408 ?_
      refine lv_if_ne (tgt := 416) hx hb d_Mod_join_409 (by decide) (fun hc2 => ?_) (fun hc2 => ?_)
      · rw [if_neg hc2] at h
        refine lv_iload_n hx hb d_Mod_join_416 rfl (lv_at hl 1 rfl) ?_
        refine lv_bipush (v := 16) hx hb d_Mod_join_417 (by decide) ?_
        refine lv_icmp_ne (tgt := 433) hx hb d_Mod_join_419 (by decide) (fun hc3 => ?_) (fun hc3 => ?_)
        · rw [if_neg hc3] at h
          refine lv_lload_n hx hb d_Mod_join_433 rfl (lv_at hl 2 rfl) ?_
          refine lv_lload hx hb d_Mod_join_434 (lv_at hl 3 rfl) ?_
          refine lv_lload_n hx hb d_Mod_join_436 rfl (lv_at hl 2 rfl) ?_
          refine lv_lload hx hb d_Mod_join_437 (lv_at hl 3 rfl) ?_
          refine lv_iload hx hb d_Mod_join_439 (lv_at hl 6 rfl) ?_
          obtain ⟨⟨r4, T4⟩, hq4, h⟩ := Option.bind_eq_some_iff.mp h
          try dsimp only at h
          refine go_lS (As := [.long (M 2), .long (M 4), .int (L 8)]) (g := g) (A := A) (h := shM) hP hK hD hS hA hN (fun hp => va_runS (As := [.long (M 2), .long (M 4), .int (L 8)]) (rest := [.long (M 4), .long (M 2)]) ⟨hx, hb, hml, hown, htt⟩ (t_Mod_quotient l g _ ad (putI S 0 136 (L 101)) (M 2 : Int64) (M 4 : Int64) (L 8 : Int32) k9 r4 T4 hq4) ⟨(cb_L htt k_3211 k_276 k_3209 hd_Mod_quotient ⟨(Nat.le_trans (by decide +kernel) hRf), (Nat.le_trans (by decide +kernel) hRl)⟩), htt _ k_3210⟩ hp rfl rfl hl.1 rfl (lv_room (Nat.le_of_ble_eq_true rfl)) d_Mod_join_441 ⟨hRc, hRs⟩) (fun r0 Sn H locs hw9 hP hD hS => ?_)
          obtain ⟨e9, e8⟩ := hw9
          rw [e8] at hP hD
          refine W.widen (k := cells) (n := slots) (Nat.le_refl _) (Nat.le_refl _) ?_
          refine toL (y := r4) e9 ?_
          show W _ _ _ _ _ _ _ _ _ _ _ _ _ _ _ (F0 _ 444 _ _)
          refine lv_lmul hx hb d_Mod_join_444 ?_
          refine lv_lsub hx hb d_Mod_join_445 ?_
          exact (ih.2.2.2.2.2.2.2.2.2.2.2.2.2.2.2.2.2.2.2.2.2.2.2.2) T4 L (vp_updL M 100 ((M 2) - ((M 4) * r4))) ls H locs h (lv_sub hl [0, 1, 2, 3, 4, 5, 6, 7, 8] rfl) hP hD hS
        · rw [if_pos hc3] at h
          refine lv_lload_n hx hb d_Mod_join_422 rfl (lv_at hl 2 rfl) ?_
          refine lv_lload hx hb d_Mod_join_423 (lv_at hl 3 rfl) ?_
          refine lv_iload hx hb d_Mod_join_425 (lv_at hl 6 rfl) ?_
          obtain ⟨⟨r5, T5⟩, hq5, h⟩ := Option.bind_eq_some_iff.mp h
          try dsimp only at h
          refine go_lS (As := [.long (M 2), .long (M 4), .int (L 8)]) (g := g) (A := A) (h := shM) hP hK hD hS hA hN (fun hp => va_runS (As := [.long (M 2), .long (M 4), .int (L 8)]) (rest := []) ⟨hx, hb, hml, hown, htt⟩ (t_Mod_quotient l g _ ad (putI S 0 136 (L 101)) (M 2 : Int64) (M 4 : Int64) (L 8 : Int32) k9 r5 T5 hq5) ⟨(cb_L htt k_3211 k_276 k_3209 hd_Mod_quotient ⟨(Nat.le_trans (by decide +kernel) hRf), (Nat.le_trans (by decide +kernel) hRl)⟩), htt _ k_3210⟩ hp rfl rfl hl.1 rfl (lv_room (Nat.le_of_ble_eq_true rfl)) d_Mod_join_427 ⟨hRc, hRs⟩) (fun r0 Sn H locs hw9 hP hD hS => ?_)
          obtain ⟨e9, e8⟩ := hw9
          rw [e8] at hP hD
          refine W.widen (k := cells) (n := slots) (Nat.le_refl _) (Nat.le_refl _) ?_
          refine toL (y := r5) e9 ?_
          refine lv_goto (tgt := 446) hx hb d_Mod_join_430 (by decide) ?_
          exact (ih.2.2.2.2.2.2.2.2.2.2.2.2.2.2.2.2.2.2.2.2.2.2.2.2) T5 L (vp_updL M 100 r5) ls H locs h (lv_sub hl [0, 1, 2, 3, 4, 5, 6, 7, 8] rfl) hP hD hS
      · rw [if_pos hc2] at h
        refine lv_lconst (v := 0) hx hb d_Mod_join_412 (by decide) ?_
        refine lv_goto (tgt := 446) hx hb d_Mod_join_413 (by decide) ?_
        exact (ih.2.2.2.2.2.2.2.2.2.2.2.2.2.2.2.2.2.2.2.2.2.2.2.2) (putI S 0 136 (L 101)) L (vp_updL M 100 (0 : Int64)) ls H locs h (lv_sub hl [0, 1, 2, 3, 4, 5, 6, 7, 8] rfl) hP hD hS
    · intro S L M ls H locs h hl hP hD hS
      simp only [f_Mod_join] at h
      cases h
      exact kx_446 ls H locs hP hD hS
abbrev rm_t_Mod_join : Room := { frames := 1, cells := 0, slots := 0, locals := 30 }
theorem t_Mod_join (l : Launch) (g : gG) (sz : Nat) (ad : Nat → Nat) (S : sS) (v1 : Int32) (v2 : Int64) (v3 : Int64) (v4 : Int32) (v5 : Int32) (k : Nat) (r : Int64) (S9 : sS) (h : f_Mod_join k 0 S (upd (upd (upd (fun _ => 0) 1 v1) 6 v4) 7 v5) (vp_updL (vp_updL (fun _ => 0) 2 v2) 4 v3) = some (r, S9)) : Cl l y_Mod_join b_Mod_join 11 rm_t_Mod_join g [.ref (ad 0), .int v1, .long v2, .long v3, .int v4, .int v5] (Sw shM g ad S) sz (fun r1 w => ∃ S1 : sS, w = Sw shM g ad S1 ∧ r1 = r ∧ S1 = S9) := by
  refine startL (by decide) (Nat.le_of_ble_eq_true rfl) ?_
  intro p e s m below meth c A ls hx hb hr hml hlocks hmn hown htt hN hA hP hK hD hS hl
  exact (w_Mod_join hx hb hml hown htt hK hN hA (by decide +kernel) (by decide +kernel) (by decide +kernel) (by decide +kernel) r S9 (fun ls H locs hP hD hS => fin_l (g := g) (ws := Sw shM g ad S9) hx hb hr hlocks (by decide +kernel) (by decide +kernel) hP hD hS ⟨_, rfl, rfl, rfl⟩ d_Mod_join_206) (fun ls H locs hP hD hS => fin_l (g := g) (ws := Sw shM g ad S9) hx hb hr hlocks (by decide +kernel) (by decide +kernel) hP hD hS ⟨_, rfl, rfl, rfl⟩ d_Mod_join_225) (fun ls H locs hP hD hS => fin_l (g := g) (ws := Sw shM g ad S9) hx hb hr hlocks (by decide +kernel) (by decide +kernel) hP hD hS ⟨_, rfl, rfl, rfl⟩ d_Mod_join_230) (fun ls H locs hP hD hS => fin_l (g := g) (ws := Sw shM g ad S9) hx hb hr hlocks (by decide +kernel) (by decide +kernel) hP hD hS ⟨_, rfl, rfl, rfl⟩ d_Mod_join_235) (fun ls H locs hP hD hS => fin_l (g := g) (ws := Sw shM g ad S9) hx hb hr hlocks (by decide +kernel) (by decide +kernel) hP hD hS ⟨_, rfl, rfl, rfl⟩ d_Mod_join_240) (fun ls H locs hP hD hS => fin_l (g := g) (ws := Sw shM g ad S9) hx hb hr hlocks (by decide +kernel) (by decide +kernel) hP hD hS ⟨_, rfl, rfl, rfl⟩ d_Mod_join_253) (fun ls H locs hP hD hS => fin_l (g := g) (ws := Sw shM g ad S9) hx hb hr hlocks (by decide +kernel) (by decide +kernel) hP hD hS ⟨_, rfl, rfl, rfl⟩ d_Mod_join_266) (fun ls H locs hP hD hS => fin_l (g := g) (ws := Sw shM g ad S9) hx hb hr hlocks (by decide +kernel) (by decide +kernel) hP hD hS ⟨_, rfl, rfl, rfl⟩ d_Mod_join_277) (fun ls H locs hP hD hS => fin_l (g := g) (ws := Sw shM g ad S9) hx hb hr hlocks (by decide +kernel) (by decide +kernel) hP hD hS ⟨_, rfl, rfl, rfl⟩ d_Mod_join_295) (fun ls H locs hP hD hS => fin_l (g := g) (ws := Sw shM g ad S9) hx hb hr hlocks (by decide +kernel) (by decide +kernel) hP hD hS ⟨_, rfl, rfl, rfl⟩ d_Mod_join_313) (fun ls H locs hP hD hS => fin_l (g := g) (ws := Sw shM g ad S9) hx hb hr hlocks (by decide +kernel) (by decide +kernel) hP hD hS ⟨_, rfl, rfl, rfl⟩ d_Mod_join_324) (fun ls H locs hP hD hS => fin_l (g := g) (ws := Sw shM g ad S9) hx hb hr hlocks (by decide +kernel) (by decide +kernel) hP hD hS ⟨_, rfl, rfl, rfl⟩ d_Mod_join_334) (fun ls H locs hP hD hS => fin_l (g := g) (ws := Sw shM g ad S9) hx hb hr hlocks (by decide +kernel) (by decide +kernel) hP hD hS ⟨_, rfl, rfl, rfl⟩ d_Mod_join_361) (fun ls H locs hP hD hS => fin_l (g := g) (ws := Sw shM g ad S9) hx hb hr hlocks (by decide +kernel) (by decide +kernel) hP hD hS ⟨_, rfl, rfl, rfl⟩ d_Mod_join_366) (fun ls H locs hP hD hS => fin_l (g := g) (ws := Sw shM g ad S9) hx hb hr hlocks (by decide +kernel) (by decide +kernel) hP hD hS ⟨_, rfl, rfl, rfl⟩ d_Mod_join_371) (fun ls H locs hP hD hS => fin_l (g := g) (ws := Sw shM g ad S9) hx hb hr hlocks (by decide +kernel) (by decide +kernel) hP hD hS ⟨_, rfl, rfl, rfl⟩ d_Mod_join_376) (fun ls H locs hP hD hS => fin_l (g := g) (ws := Sw shM g ad S9) hx hb hr hlocks (by decide +kernel) (by decide +kernel) hP hD hS ⟨_, rfl, rfl, rfl⟩ d_Mod_join_446) k).1 S (upd (upd (upd (fun _ => 0) 1 v1) 6 v4) 7 v5) (vp_updL (vp_updL (fun _ => 0) 2 v2) 4 v3) ls _ _ h hl hP hD hS
def f_Mod_settle_JIZJ : Nat → Nat → sS → (Nat → Int32) → (Nat → Int64) → Option (Int64 × sS)
  | 0, _, _, _, _ => none
  | k + 1, 0, S, L, M => if okI ((S.1 0 139) - (1 : Int32)) 800 = true then (if okI ((S.1 0 139) - (1 : Int32)) 800 = true then (if okI ((S.1 0 139) - (1 : Int32)) 800 = true then ((f_Mod_isNeeded k 0 (putI S 0 139 ((S.1 0 139) - (1 : Int32))) (upd (upd (fun _ => 0) 1 (L 3 : Int32)) 2 (L 4 : Int32)) (fun _ => 0)).bind (fun (r4, T4) => (f_Mod_join k 0 T4 (upd (upd (upd (fun _ => 0) 1 ((putI S 0 139 ((S.1 0 139) - (1 : Int32))).2.1 68 ((S.1 0 139) - (1 : Int32) : Int32).toNatClampNeg : Int32)) 6 ((putI S 0 139 ((S.1 0 139) - (1 : Int32))).2.1 70 ((S.1 0 139) - (1 : Int32) : Int32).toNatClampNeg : Int32)) 7 (r4 : Int32)) (vp_updL (vp_updL (fun _ => 0) 2 ((putI S 0 139 ((S.1 0 139) - (1 : Int32))).2.2 69 ((S.1 0 139) - (1 : Int32) : Int32).toNatClampNeg : Int64)) 4 (M 1 : Int64))).bind (fun (r5, T5) => some (r5, T5)))) else none) else none) else none
  | _ + 1, _ + 1, _, _, _ => none
set_option maxHeartbeats 8000000 in
set_option maxRecDepth 100000 in
theorem w_Mod_settle_JIZJ {p : Program} {l : Launch} {e : Env} {R : Room} {s : State} {m : MethodId} {args : Array Value} {below : List Frame} {meth : Method} {c : Code} {cells slots : Nat} {Q : State → Prop} {g : gG} {A : Nat → Prop} {ad : Nat → Nat} (hx : p.tables.exec = Jvm.exec) (hb : c.code = b_Mod_settle_JIZJ) (hml : c.maxLocals = 5) (hown : s.vm.findClass "MacroMillModel" = some m.cls) (htt : ∀ w ∈ gt, w.before args s = true) (hK : va_K g.1 classes (tysG g) s) (hN : nw s) (hA : ∀ q : Nat, s.heap.size ≤ q → A q) (hRf : 2 ≤ R.frames) (hRl : 60 ≤ R.locals) (hRc : cells ≤ R.cells) (hRs : slots ≤ R.slots) (r : Int64) (S9 : sS)
    (kx_49 : ∀ (ls : Array Slot) (H : Heap) (locs : List Loc), va_P g.1 classes (Sw shM g ad S9) H → va_D A (Sw shM g ad S9) → va_S A s.heap H locs → W p l e R s m args below meth c H locs cells slots Q (F0 m 49 ls [.long r])) :
    ∀ k9 : Nat, (∀ (S : sS) (L : Nat → Int32) (M : Nat → Int64) (ls : Array Slot) (H : Heap) (locs : List Loc), f_Mod_settle_JIZJ k9 0 S L M = some (r, S9) → lv_has ls 5 [(0, .ref (ad 0)), (1, .long (M 1)), (3, .int (L 3)), (4, .int (L 4))] → va_P g.1 classes (Sw shM g ad S) H → va_D A (Sw shM g ad S) → va_S A s.heap H locs → W p l e R s m args below meth c H locs cells slots Q (F0 m 0 ls [])) := by
  intro k9
  induction k9 with
  | zero => exact (fun _ _ _ _ _ _ h => by simp [f_Mod_settle_JIZJ] at h)
  | succ k9 ih =>
    · intro S L M ls H locs h hl hP hD hS
      simp only [f_Mod_settle_JIZJ] at h
      refine lv_aload_n hx hb d_Mod_settle_JIZJ_0 rfl (lv_at hl 0 rfl) ?_
      refine lv_dup hx hb d_Mod_settle_JIZJ_1 rfl ?_
      refine S_getI (h := shM) (C := "MacroMillModel") (T := F_Mod) hx hb htt in_Mod hown hK hP 0 139 rfl rfl rfl (by decide) (htt _ k_2375) (fun _ h9 => h9) d_Mod_settle_JIZJ_2 ?_
      refine lv_iconst (v := 1) hx hb d_Mod_settle_JIZJ_5 (by decide) ?_
      refine lv_isub hx hb d_Mod_settle_JIZJ_6 ?_
      refine S_put (h := shM) (C := "MacroMillModel") (T := F_Mod) (v := (S.1 0 139) - (1 : Int32)) hx hb htt in_Mod t_Mod t_Mod_ok n_Mod hown hK hP hD hS 0 139 rfl rfl rfl (by decide) (htt _ k_2375) (fun _ h9 => h9) rfl rfl rfl d_Mod_settle_JIZJ_7 (fun H locs hP hD hS => ?_)
      refine lv_aload_n hx hb d_Mod_settle_JIZJ_10 rfl (lv_at hl 0 rfl) ?_
      refine lv_aload_n hx hb d_Mod_settle_JIZJ_11 rfl (lv_at hl 0 rfl) ?_
      refine S_getR (h := shM) (C := "MacroMillModel") (T := F_Mod) hx hb htt in_Mod hown hK hP 0 140 rfl 69 rfl rfl (by decide) (htt _ k_2376) (fun _ h9 => h9) d_Mod_settle_JIZJ_12 ?_
      refine lv_aload_n hx hb d_Mod_settle_JIZJ_15 rfl (lv_at hl 0 rfl) ?_
      refine S_getI (h := shM) (C := "MacroMillModel") (T := F_Mod) hx hb htt in_Mod hown hK hP 0 139 rfl rfl rfl (by decide) (htt _ k_2375) (fun _ h9 => h9) d_Mod_settle_JIZJ_16 ?_
      refine toI (y := (S.1 0 139) - (1 : Int32)) rfl ?_
      obtain ⟨hv1, h⟩ := chk h
      show W _ _ _ _ _ _ _ _ _ _ _ _ _ _ _ (F0 _ 19 _ _)
      refine S_iald (h := shM) (i := (S.1 0 139) - (1 : Int32)) hx hb hK hP 68 rfl (okI_in hv1) d_Mod_settle_JIZJ_19 ?_
      refine lv_aload_n hx hb d_Mod_settle_JIZJ_20 rfl (lv_at hl 0 rfl) ?_
      refine S_getR (h := shM) (C := "MacroMillModel") (T := F_Mod) hx hb htt in_Mod hown hK hP 0 141 rfl 70 rfl rfl (by decide) (htt _ k_2377) (fun _ h9 => h9) d_Mod_settle_JIZJ_21 ?_
      refine lv_aload_n hx hb d_Mod_settle_JIZJ_24 rfl (lv_at hl 0 rfl) ?_
      refine S_getI (h := shM) (C := "MacroMillModel") (T := F_Mod) hx hb htt in_Mod hown hK hP 0 139 rfl rfl rfl (by decide) (htt _ k_2375) (fun _ h9 => h9) d_Mod_settle_JIZJ_25 ?_
      refine toI (y := (S.1 0 139) - (1 : Int32)) rfl ?_
      obtain ⟨hv2, h⟩ := chk h
      refine S_lald (h := shM) (i := (S.1 0 139) - (1 : Int32)) hx hb hK hP 69 rfl (okI_in hv2) d_Mod_settle_JIZJ_28 ?_
      refine lv_lload_n hx hb d_Mod_settle_JIZJ_29 rfl (lv_at hl 1 rfl) ?_
      refine lv_aload_n hx hb d_Mod_settle_JIZJ_30 rfl (lv_at hl 0 rfl) ?_
      refine S_getR (h := shM) (C := "MacroMillModel") (T := F_Mod) hx hb htt in_Mod hown hK hP 0 142 rfl 71 rfl rfl (by decide) (htt _ k_2378) (fun _ h9 => h9) d_Mod_settle_JIZJ_31 ?_
      refine lv_aload_n hx hb d_Mod_settle_JIZJ_34 rfl (lv_at hl 0 rfl) ?_
      refine S_getI (h := shM) (C := "MacroMillModel") (T := F_Mod) hx hb htt in_Mod hown hK hP 0 139 rfl rfl rfl (by decide) (htt _ k_2375) (fun _ h9 => h9) d_Mod_settle_JIZJ_35 ?_
      refine toI (y := (S.1 0 139) - (1 : Int32)) rfl ?_
      obtain ⟨hv3, h⟩ := chk h
      refine S_zald (h := shM) (i := (S.1 0 139) - (1 : Int32)) hx hb hK hP 70 rfl (okI_in hv3) d_Mod_settle_JIZJ_38 ?_
      show W _ _ _ _ _ _ _ _ _ _ _ _ _ _ _ (F0 _ 39 _ _)
      refine lv_aload_n hx hb d_Mod_settle_JIZJ_39 rfl (lv_at hl 0 rfl) ?_
      refine lv_iload_n hx hb d_Mod_settle_JIZJ_40 rfl (lv_at hl 2 rfl) ?_
      refine lv_iload hx hb d_Mod_settle_JIZJ_41 (lv_at hl 3 rfl) ?_
      obtain ⟨⟨r4, T4⟩, hq4, h⟩ := Option.bind_eq_some_iff.mp h
      try dsimp only at h
      refine go_iS (As := [.ref (ad 0), .int (L 3), .int (L 4)]) (g := g) (A := A) (h := shM) hP hK hD hS hA hN (fun hp => va_runV (As := [.int (L 3), .int (L 4)]) (rest := [.int ((putI S 0 139 ((S.1 0 139) - (1 : Int32))).2.1 70 ((S.1 0 139) - (1 : Int32) : Int32).toNatClampNeg), .long (M 1), .long ((putI S 0 139 ((S.1 0 139) - (1 : Int32))).2.2 69 ((S.1 0 139) - (1 : Int32) : Int32).toNatClampNeg), .int ((putI S 0 139 ((S.1 0 139) - (1 : Int32))).2.1 68 ((S.1 0 139) - (1 : Int32) : Int32).toNatClampNeg), .ref (ad 0)]) ⟨hx, hb, hml, hown, htt⟩ (t_Mod_isNeeded l g _ ad (putI S 0 139 ((S.1 0 139) - (1 : Int32))) (L 3 : Int32) (L 4 : Int32) k9 r4 T4 hq4) ⟨(cb_L htt k_3305 k_276 k_3302 hd_Mod_isNeeded ⟨(Nat.le_trans (by decide +kernel) hRf), (Nat.le_trans (by decide +kernel) hRl)⟩), htt _ k_3304, htt _ k_240⟩ ⟨hp.1, S_recv hK hP 0 rfl rfl, hp.2⟩ rfl rfl hl.1 rfl (lv_room (Nat.le_of_ble_eq_true rfl)) d_Mod_settle_JIZJ_43 ⟨hRc, hRs⟩) (fun r0 Sn H locs hw9 hP hD hS => ?_)
      obtain ⟨e9, e8⟩ := hw9
      rw [e8] at hP hD
      refine W.widen (k := cells) (n := slots) (Nat.le_refl _) (Nat.le_refl _) ?_
      refine toI (y := r4) e9 ?_
      obtain ⟨⟨r5, T5⟩, hq5, h⟩ := Option.bind_eq_some_iff.mp h
      try dsimp only at h
      refine go_lS (As := [.ref (ad 0), .int ((putI S 0 139 ((S.1 0 139) - (1 : Int32))).2.1 68 ((S.1 0 139) - (1 : Int32) : Int32).toNatClampNeg), .long ((putI S 0 139 ((S.1 0 139) - (1 : Int32))).2.2 69 ((S.1 0 139) - (1 : Int32) : Int32).toNatClampNeg), .long (M 1), .int ((putI S 0 139 ((S.1 0 139) - (1 : Int32))).2.1 70 ((S.1 0 139) - (1 : Int32) : Int32).toNatClampNeg), .int r4]) (g := g) (A := A) (h := shM) hP hK hD hS hA hN (fun hp => va_runV (As := [.int ((putI S 0 139 ((S.1 0 139) - (1 : Int32))).2.1 68 ((S.1 0 139) - (1 : Int32) : Int32).toNatClampNeg), .long ((putI S 0 139 ((S.1 0 139) - (1 : Int32))).2.2 69 ((S.1 0 139) - (1 : Int32) : Int32).toNatClampNeg), .long (M 1), .int ((putI S 0 139 ((S.1 0 139) - (1 : Int32))).2.1 70 ((S.1 0 139) - (1 : Int32) : Int32).toNatClampNeg), .int r4]) (rest := []) ⟨hx, hb, hml, hown, htt⟩ (t_Mod_join l g _ ad T4 ((putI S 0 139 ((S.1 0 139) - (1 : Int32))).2.1 68 ((S.1 0 139) - (1 : Int32) : Int32).toNatClampNeg : Int32) ((putI S 0 139 ((S.1 0 139) - (1 : Int32))).2.2 69 ((S.1 0 139) - (1 : Int32) : Int32).toNatClampNeg : Int64) (M 1 : Int64) ((putI S 0 139 ((S.1 0 139) - (1 : Int32))).2.1 70 ((S.1 0 139) - (1 : Int32) : Int32).toNatClampNeg : Int32) (r4 : Int32) k9 r5 T5 hq5) ⟨(cb_L htt k_3309 k_276 k_3306 hd_Mod_join ⟨(Nat.le_trans (by decide +kernel) hRf), (Nat.le_trans (by decide +kernel) hRl)⟩), htt _ k_3308, htt _ k_241⟩ ⟨hp.1, S_recv hK hP 0 rfl rfl, hp.2⟩ rfl rfl hl.1 rfl (lv_room (Nat.le_of_ble_eq_true rfl)) d_Mod_settle_JIZJ_46 ⟨hRc, hRs⟩) (fun r0 Sn H locs hw9 hP hD hS => ?_)
      obtain ⟨e9, e8⟩ := hw9
      rw [e8] at hP hD
      refine W.widen (k := cells) (n := slots) (Nat.le_refl _) (Nat.le_refl _) ?_
      refine toL (y := r5) e9 ?_
      cases h
      exact kx_49 ls H locs hP hD hS
abbrev rm_t_Mod_settle_JIZJ : Room := { frames := 2, cells := 0, slots := 0, locals := 60 }
theorem t_Mod_settle_JIZJ (l : Launch) (g : gG) (sz : Nat) (ad : Nat → Nat) (S : sS) (v1 : Int64) (v2 : Int32) (v3 : Int32) (k : Nat) (r : Int64) (S9 : sS) (h : f_Mod_settle_JIZJ k 0 S (upd (upd (fun _ => 0) 3 v2) 4 v3) (vp_updL (fun _ => 0) 1 v1) = some (r, S9)) : Cl l y_Mod_settle_JIZJ b_Mod_settle_JIZJ 5 rm_t_Mod_settle_JIZJ g [.ref (ad 0), .long v1, .int v2, .int v3] (Sw shM g ad S) sz (fun r1 w => ∃ S1 : sS, w = Sw shM g ad S1 ∧ r1 = r ∧ S1 = S9) := by
  refine startL (by decide) (Nat.le_of_ble_eq_true rfl) ?_
  intro p e s m below meth c A ls hx hb hr hml hlocks hmn hown htt hN hA hP hK hD hS hl
  exact (w_Mod_settle_JIZJ hx hb hml hown htt hK hN hA (by decide +kernel) (by decide +kernel) (by decide +kernel) (by decide +kernel) r S9 (fun ls H locs hP hD hS => fin_l (g := g) (ws := Sw shM g ad S9) hx hb hr hlocks (by decide +kernel) (by decide +kernel) hP hD hS ⟨_, rfl, rfl, rfl⟩ d_Mod_settle_JIZJ_49) k) S (upd (upd (fun _ => 0) 3 v2) 4 v3) (vp_updL (fun _ => 0) 1 v1) ls _ _ h hl hP hD hS
