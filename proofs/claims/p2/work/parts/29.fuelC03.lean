def f_Second_digitOf : Nat → Nat → sS → (Nat → Int32) → (Nat → Int64) → Option (Int32 × sS)
  | 0, _, _, _, _ => none
  | k + 1, 0, S, L, M => (f_MM_isDigit k 0 S (upd (fun _ => 0) 0 (L 0 : Int32)) (fun _ => 0)).bind (fun (r1, T1) => if r1 = (0 : Int32) then (if ((L 0) ||| (32 : Int32)) < (97 : Int32) then (f_Second_digitOf k 1 T1 (upd L 1 ((L 0) ||| (32 : Int32))) M) else (if (102 : Int32) < ((L 0) ||| (32 : Int32)) then (f_Second_digitOf k 1 T1 (upd L 1 ((L 0) ||| (32 : Int32))) M) else (f_Second_digitOf k 2 T1 (upd (upd L 1 ((L 0) ||| (32 : Int32))) 100 ((((L 0) ||| (32 : Int32)) - (97 : Int32)) + (10 : Int32))) M))) else (some ((L 0) - (48 : Int32), T1)))
  | k + 1, 1, S, L, M => f_Second_digitOf k 2 S (upd L 100 (99 : Int32)) M
  | k + 1, 2, S, L, M => some (L 100, S)
  | _ + 1, _ + 3, _, _, _ => none
set_option maxHeartbeats 8000000 in
set_option maxRecDepth 100000 in
theorem w_Second_digitOf {p : Program} {l : Launch} {e : Env} {R : Room} {s : State} {m : MethodId} {args : Array Value} {below : List Frame} {meth : Method} {c : Code} {cells slots : Nat} {Q : State → Prop} {g : gG} {A : Nat → Prop} {ad : Nat → Nat} (hx : p.tables.exec = Jvm.exec) (hb : c.code = b_Second_digitOf) (hml : c.maxLocals = 2) (hown : s.vm.findClass "MacroMill$Second" = some m.cls) (htt : ∀ w ∈ gt, w.before args s = true) (hK : va_K g.1 classes (tysG g) s) (hN : nw s) (hA : ∀ q : Nat, s.heap.size ≤ q → A q) (hRf : 1 ≤ R.frames) (hRl : 20 ≤ R.locals) (hRc : cells ≤ R.cells) (hRs : slots ≤ R.slots) (r : Int32) (S9 : sS)
    (kx_11 : ∀ (ls : Array Slot) (H : Heap) (locs : List Loc), va_P g.1 classes (Sw shC g ad S9) H → va_D A (Sw shC g ad S9) → va_S A s.heap H locs → W p l e R s m args below meth c H locs cells slots Q (F0 m 11 ls [.int r]))
    (kx_41 : ∀ (ls : Array Slot) (H : Heap) (locs : List Loc), va_P g.1 classes (Sw shC g ad S9) H → va_D A (Sw shC g ad S9) → va_S A s.heap H locs → W p l e R s m args below meth c H locs cells slots Q (F0 m 41 ls [.int r])) :
    ∀ k9 : Nat, (∀ (S : sS) (L : Nat → Int32) (M : Nat → Int64) (ls : Array Slot) (H : Heap) (locs : List Loc), f_Second_digitOf k9 0 S L M = some (r, S9) → lv_has ls 2 [(0, .int (L 0))] → va_P g.1 classes (Sw shC g ad S) H → va_D A (Sw shC g ad S) → va_S A s.heap H locs → W p l e R s m args below meth c H locs cells slots Q (F0 m 0 ls [])) ∧ (∀ (S : sS) (L : Nat → Int32) (M : Nat → Int64) (ls : Array Slot) (H : Heap) (locs : List Loc), f_Second_digitOf k9 1 S L M = some (r, S9) → lv_has ls 2 [(0, .int (L 0)), (1, .int (L 1))] → va_P g.1 classes (Sw shC g ad S) H → va_D A (Sw shC g ad S) → va_S A s.heap H locs → W p l e R s m args below meth c H locs cells slots Q (F0 m 39 ls [])) ∧ (∀ (S : sS) (L : Nat → Int32) (M : Nat → Int64) (ls : Array Slot) (H : Heap) (locs : List Loc), f_Second_digitOf k9 2 S L M = some (r, S9) → lv_has ls 2 [(0, .int (L 0)), (1, .int (L 1))] → va_P g.1 classes (Sw shC g ad S) H → va_D A (Sw shC g ad S) → va_S A s.heap H locs → W p l e R s m args below meth c H locs cells slots Q (F0 m 41 ls [.int (L 100)])) := by
  intro k9
  induction k9 with
  | zero => exact ⟨(fun _ _ _ _ _ _ h => by simp [f_Second_digitOf] at h), (fun _ _ _ _ _ _ h => by simp [f_Second_digitOf] at h), (fun _ _ _ _ _ _ h => by simp [f_Second_digitOf] at h)⟩
  | succ k9 ih =>
    refine ⟨?_, ?_, ?_⟩
    · intro S L M ls H locs h hl hP hD hS
      simp only [f_Second_digitOf] at h
      refine lv_iload_n hx hb d_Second_digitOf_0 rfl (lv_at hl 0 rfl) ?_
      obtain ⟨⟨r1, T1⟩, hq1, h⟩ := Option.bind_eq_some_iff.mp h
      try dsimp only at h
      refine go_iS (As := [.int (L 0)]) (g := g) (A := A) (h := shC) hP hK hD hS hA hN (fun hp => va_runSN (As := [.int (L 0)]) (rest := []) ⟨hx, hb, hml, hown, htt⟩ (t_MM_isDigit l g _ ad S (L 0 : Int32) k9 r1 T1 hq1) ⟨(cb_N (host := "MacroMill") htt k_1177 k_262 hN nM_24 hd_MM_isDigit ⟨(Nat.le_trans (by decide +kernel) hRf), (Nat.le_trans (by decide +kernel) hRl)⟩), htt _ k_1176, trivial⟩ hp rfl rfl hl.1 rfl (lv_room (Nat.le_of_ble_eq_true rfl)) d_Second_digitOf_1 ⟨hRc, hRs⟩) (fun r0 Sn H locs hw9 hP hD hS => ?_)
      obtain ⟨e9, e8⟩ := hw9
      rw [e8] at hP hD
      refine W.widen (k := cells) (n := slots) (Nat.le_refl _) (Nat.le_refl _) ?_
      refine toI (y := r1) e9 ?_
      refine lv_if_eq (tgt := 12) hx hb d_Second_digitOf_4 (by decide) (fun hc2 => ?_) (fun hc2 => ?_)
      · rw [if_pos hc2] at h
        refine lv_iload_n hx hb d_Second_digitOf_12 rfl (lv_at hl 0 rfl) ?_
        refine lv_bipush (v := 32) hx hb d_Second_digitOf_13 (by decide) ?_
        refine lv_ior hx hb d_Second_digitOf_15 ?_
        refine lv_istore_n (lv' := [(1, .int ((L 0) ||| (32 : Int32))), (0, .int (L 0))]) hx hb d_Second_digitOf_16 rfl hl (by decide) rfl (fun ls hl => ?_)
        refine lv_iload_n hx hb d_Second_digitOf_17 rfl (lv_at hl 0 rfl) ?_
        refine lv_bipush (v := 97) hx hb d_Second_digitOf_18 (by decide) ?_
        refine lv_icmp_lt (tgt := 39) hx hb d_Second_digitOf_20 (by decide) (fun hc3 => ?_) (fun hc3 => ?_)
        · rw [if_pos hc3] at h
          exact (ih.2.1) T1 (upd L 1 ((L 0) ||| (32 : Int32))) M ls H locs h (lv_sub hl [1, 0] rfl) hP hD hS
        · rw [if_neg hc3] at h
          refine lv_iload_n hx hb d_Second_digitOf_23 rfl (lv_at hl 0 rfl) ?_
          refine lv_bipush (v := 102) hx hb d_Second_digitOf_24 (by decide) ?_
          refine lv_icmp_gt (tgt := 39) hx hb d_Second_digitOf_26 (by decide) (fun hc4 => ?_) (fun hc4 => ?_)
          · rw [if_pos hc4] at h
            exact (ih.2.1) T1 (upd L 1 ((L 0) ||| (32 : Int32))) M ls H locs h (lv_sub hl [1, 0] rfl) hP hD hS
          · rw [if_neg hc4] at h
            refine lv_iload_n hx hb d_Second_digitOf_29 rfl (lv_at hl 0 rfl) ?_
            refine lv_bipush (v := 97) hx hb d_Second_digitOf_30 (by decide) ?_
            show W _ _ _ _ _ _ _ _ _ _ _ _ _ _ _ (F0 _ 32 _ _)
            refine lv_isub hx hb d_Second_digitOf_32 ?_
            refine lv_bipush (v := 10) hx hb d_Second_digitOf_33 (by decide) ?_
            refine lv_iadd hx hb d_Second_digitOf_35 ?_
            refine lv_goto (tgt := 41) hx hb d_Second_digitOf_36 (by decide) ?_
            exact (ih.2.2) T1 (upd (upd L 1 ((L 0) ||| (32 : Int32))) 100 ((((L 0) ||| (32 : Int32)) - (97 : Int32)) + (10 : Int32))) M ls H locs h (lv_sub hl [1, 0] rfl) hP hD hS
      · rw [if_neg hc2] at h
        refine lv_iload_n hx hb d_Second_digitOf_7 rfl (lv_at hl 0 rfl) ?_
        refine lv_bipush (v := 48) hx hb d_Second_digitOf_8 (by decide) ?_
        refine lv_isub hx hb d_Second_digitOf_10 ?_
        cases h
        exact kx_11 ls H locs hP hD hS
    · intro S L M ls H locs h hl hP hD hS
      simp only [f_Second_digitOf] at h
      refine lv_bipush (v := 99) hx hb d_Second_digitOf_39 (by decide) ?_
      exact (ih.2.2) S (upd L 100 (99 : Int32)) M ls H locs h (lv_sub hl [0, 1] rfl) hP hD hS
    · intro S L M ls H locs h hl hP hD hS
      simp only [f_Second_digitOf] at h
      cases h
      exact kx_41 ls H locs hP hD hS
abbrev rm_t_Second_digitOf : Room := { frames := 1, cells := 0, slots := 0, locals := 20 }
theorem t_Second_digitOf (l : Launch) (g : gG) (sz : Nat) (ad : Nat → Nat) (S : sS) (v1 : Int32) (k : Nat) (r : Int32) (S9 : sS) (h : f_Second_digitOf k 0 S (upd (fun _ => 0) 0 v1) (fun _ => 0) = some (r, S9)) : Ci l y_Second_digitOf b_Second_digitOf 2 rm_t_Second_digitOf g [.int v1] (Sw shC g ad S) sz (fun r1 w => ∃ S1 : sS, w = Sw shC g ad S1 ∧ r1 = r ∧ S1 = S9) := by
  refine startI (by decide) (Nat.le_of_ble_eq_true rfl) ?_
  intro p e s m below meth c A ls hx hb hr hml hlocks hmn hown htt hN hA hP hK hD hS hl
  exact (w_Second_digitOf hx hb hml hown htt hK hN hA (by decide +kernel) (by decide +kernel) (by decide +kernel) (by decide +kernel) r S9 (fun ls H locs hP hD hS => fin_i (g := g) (ws := Sw shC g ad S9) hx hb hr hlocks (by decide +kernel) (by decide +kernel) hP hD hS ⟨_, rfl, rfl, rfl⟩ d_Second_digitOf_11) (fun ls H locs hP hD hS => fin_i (g := g) (ws := Sw shC g ad S9) hx hb hr hlocks (by decide +kernel) (by decide +kernel) hP hD hS ⟨_, rfl, rfl, rfl⟩ d_Second_digitOf_41) k).1 S (upd (fun _ => 0) 0 v1) (fun _ => 0) ls _ _ h hl hP hD hS
def f_Second_isTooLarge : Nat → Nat → sS → (Nat → Int32) → (Nat → Int64) → Option (Int32 × sS)
  | 0, _, _, _, _ => none
  | k + 1, 0, S, L, M => if (L 2) = (10 : Int32) then (if (lg_cmp (M 0) (0 : Int64)) < (0 : Int32) then (f_Second_isTooLarge k 1 S L (vp_updL M 4 (1844674407370955161 : Int64))) else (if (0 : Int32) < (lg_cmp (M 0) (1844674407370955161 : Int64)) then (f_Second_isTooLarge k 1 S L (vp_updL M 4 (1844674407370955161 : Int64))) else (if (lg_cmp (M 0) (1844674407370955161 : Int64)) = (0 : Int32) then (if (L 3) ≤ (5 : Int32) then (f_Second_isTooLarge k 2 S L (vp_updL M 4 (1844674407370955161 : Int64))) else (f_Second_isTooLarge k 1 S L (vp_updL M 4 (1844674407370955161 : Int64)))) else (f_Second_isTooLarge k 2 S L (vp_updL M 4 (1844674407370955161 : Int64)))))) else (if (L 2) = (16 : Int32) then (f_Second_isTooLarge k 4 S (upd L 101 (60 : Int32)) (vp_updL M 100 (M 0))) else (f_Second_isTooLarge k 4 S (upd L 101 (61 : Int32)) (vp_updL M 100 (M 0))))
  | k + 1, 1, S, L, M => f_Second_isTooLarge k 3 S (upd L 100 (1 : Int32)) M
  | k + 1, 2, S, L, M => f_Second_isTooLarge k 3 S (upd L 100 (0 : Int32)) M
  | k + 1, 3, S, L, M => if bz (L 100) = true then some (L 100, S) else none
  | k + 1, 4, S, L, M => if (lg_cmp (((M 100).toUInt64 >>> ((L 101 : Int32).toInt64.toUInt64 &&& Int64.toUInt64 63)).toInt64) (0 : Int64)) = (0 : Int32) then (f_Second_isTooLarge k 5 S (upd L 100 (0 : Int32)) M) else (f_Second_isTooLarge k 5 S (upd L 100 (1 : Int32)) M)
  | k + 1, 5, S, L, M => if bz (L 100) = true then some (L 100, S) else none
  | _ + 1, _ + 6, _, _, _ => none
set_option maxHeartbeats 8000000 in
set_option maxRecDepth 100000 in
theorem w_Second_isTooLarge {p : Program} {l : Launch} {e : Env} {R : Room} {s : State} {m : MethodId} {args : Array Value} {below : List Frame} {meth : Method} {c : Code} {cells slots : Nat} {Q : State → Prop} {g : gG} {A : Nat → Prop} {ad : Nat → Nat} (hx : p.tables.exec = Jvm.exec) (hb : c.code = b_Second_isTooLarge) (hml : c.maxLocals = 6) (hown : s.vm.findClass "MacroMill$Second" = some m.cls) (htt : ∀ w ∈ gt, w.before args s = true) (hK : va_K g.1 classes (tysG g) s) (hN : nw s) (hA : ∀ q : Nat, s.heap.size ≤ q → A q) (r : Int32) (S9 : sS)
    (kx_41 : ∀ (ls : Array Slot) (H : Heap) (locs : List Loc), narrow .boolean (.int r) = .int r → va_P g.1 classes (Sw shC g ad S9) H → va_D A (Sw shC g ad S9) → va_S A s.heap H locs → W p l e R s m args below meth c H locs cells slots Q (F0 m 41 ls [.int r]))
    (kx_67 : ∀ (ls : Array Slot) (H : Heap) (locs : List Loc), narrow .boolean (.int r) = .int r → va_P g.1 classes (Sw shC g ad S9) H → va_D A (Sw shC g ad S9) → va_S A s.heap H locs → W p l e R s m args below meth c H locs cells slots Q (F0 m 67 ls [.int r])) :
    ∀ k9 : Nat, (∀ (S : sS) (L : Nat → Int32) (M : Nat → Int64) (ls : Array Slot) (H : Heap) (locs : List Loc), f_Second_isTooLarge k9 0 S L M = some (r, S9) → lv_has ls 6 [(0, .long (M 0)), (2, .int (L 2)), (3, .int (L 3))] → va_P g.1 classes (Sw shC g ad S) H → va_D A (Sw shC g ad S) → va_S A s.heap H locs → W p l e R s m args below meth c H locs cells slots Q (F0 m 0 ls [])) ∧ (∀ (S : sS) (L : Nat → Int32) (M : Nat → Int64) (ls : Array Slot) (H : Heap) (locs : List Loc), f_Second_isTooLarge k9 1 S L M = some (r, S9) → lv_has ls 6 [(0, .long (M 0)), (2, .int (L 2)), (3, .int (L 3)), (4, .long (M 4))] → va_P g.1 classes (Sw shC g ad S) H → va_D A (Sw shC g ad S) → va_S A s.heap H locs → W p l e R s m args below meth c H locs cells slots Q (F0 m 36 ls [])) ∧ (∀ (S : sS) (L : Nat → Int32) (M : Nat → Int64) (ls : Array Slot) (H : Heap) (locs : List Loc), f_Second_isTooLarge k9 2 S L M = some (r, S9) → lv_has ls 6 [(0, .long (M 0)), (2, .int (L 2)), (3, .int (L 3)), (4, .long (M 4))] → va_P g.1 classes (Sw shC g ad S) H → va_D A (Sw shC g ad S) → va_S A s.heap H locs → W p l e R s m args below meth c H locs cells slots Q (F0 m 40 ls [])) ∧ (∀ (S : sS) (L : Nat → Int32) (M : Nat → Int64) (ls : Array Slot) (H : Heap) (locs : List Loc), f_Second_isTooLarge k9 3 S L M = some (r, S9) → lv_has ls 6 [(0, .long (M 0)), (2, .int (L 2)), (3, .int (L 3)), (4, .long (M 4))] → va_P g.1 classes (Sw shC g ad S) H → va_D A (Sw shC g ad S) → va_S A s.heap H locs → W p l e R s m args below meth c H locs cells slots Q (F0 m 41 ls [.int (L 100)])) ∧ (∀ (S : sS) (L : Nat → Int32) (M : Nat → Int64) (ls : Array Slot) (H : Heap) (locs : List Loc), f_Second_isTooLarge k9 4 S L M = some (r, S9) → lv_has ls 6 [(0, .long (M 0)), (2, .int (L 2)), (3, .int (L 3))] → va_P g.1 classes (Sw shC g ad S) H → va_D A (Sw shC g ad S) → va_S A s.heap H locs → W p l e R s m args below meth c H locs cells slots Q (F0 m 56 ls [.int (L 101), .long (M 100)])) ∧ (∀ (S : sS) (L : Nat → Int32) (M : Nat → Int64) (ls : Array Slot) (H : Heap) (locs : List Loc), f_Second_isTooLarge k9 5 S L M = some (r, S9) → lv_has ls 6 [(0, .long (M 0)), (2, .int (L 2)), (3, .int (L 3))] → va_P g.1 classes (Sw shC g ad S) H → va_D A (Sw shC g ad S) → va_S A s.heap H locs → W p l e R s m args below meth c H locs cells slots Q (F0 m 67 ls [.int (L 100)])) := by
  intro k9
  induction k9 with
  | zero => exact ⟨(fun _ _ _ _ _ _ h => by simp [f_Second_isTooLarge] at h), (fun _ _ _ _ _ _ h => by simp [f_Second_isTooLarge] at h), (fun _ _ _ _ _ _ h => by simp [f_Second_isTooLarge] at h), (fun _ _ _ _ _ _ h => by simp [f_Second_isTooLarge] at h), (fun _ _ _ _ _ _ h => by simp [f_Second_isTooLarge] at h), (fun _ _ _ _ _ _ h => by simp [f_Second_isTooLarge] at h)⟩
  | succ k9 ih =>
    refine ⟨?_, ?_, ?_, ?_, ?_, ?_⟩
    · intro S L M ls H locs h hl hP hD hS
      simp only [f_Second_isTooLarge] at h
      refine lv_iload_n hx hb d_Second_isTooLarge_0 rfl (lv_at hl 1 rfl) ?_
      refine lv_bipush (v := 10) hx hb d_Second_isTooLarge_1 (by decide) ?_
      refine lv_icmp_ne (tgt := 42) hx hb d_Second_isTooLarge_3 (by decide) (fun hc1 => ?_) (fun hc1 => ?_)
      · rw [if_neg hc1] at h
        refine lv_lload_n hx hb d_Second_isTooLarge_42 rfl (lv_at hl 0 rfl) ?_
        refine lv_iload_n hx hb d_Second_isTooLarge_43 rfl (lv_at hl 1 rfl) ?_
        refine lv_bipush (v := 16) hx hb d_Second_isTooLarge_44 (by decide) ?_
        refine lv_icmp_ne (tgt := 54) hx hb d_Second_isTooLarge_46 (by decide) (fun hc2 => ?_) (fun hc2 => ?_)
        · rw [if_neg hc2] at h
          refine lv_bipush (v := 61) hx hb d_Second_isTooLarge_54 (by decide) ?_
          exact (ih.2.2.2.2.1) S (upd L 101 (61 : Int32)) (vp_updL M 100 (M 0)) ls H locs h (lv_sub hl [0, 1, 2] rfl) hP hD hS
        · rw [if_pos hc2] at h
          refine lv_bipush (v := 60) hx hb d_Second_isTooLarge_49 (by decide) ?_
          refine lv_goto (tgt := 56) hx hb d_Second_isTooLarge_51 (by decide) ?_
          exact (ih.2.2.2.2.1) S (upd L 101 (60 : Int32)) (vp_updL M 100 (M 0)) ls H locs h (lv_sub hl [0, 1, 2] rfl) hP hD hS
      · rw [if_pos hc1] at h
        refine lv_ldc2 (v := 1844674407370955161) hx hb hown (htt _ k_2182) d_Second_isTooLarge_6 ?_
        refine lv_lstore (lv' := [(4, .long 1844674407370955161), (0, .long (M 0)), (2, .int (L 2)), (3, .int (L 3))]) hx hb d_Second_isTooLarge_9 hl (by decide) rfl (fun ls hl => ?_)
        refine lv_lload_n hx hb d_Second_isTooLarge_11 rfl (lv_at hl 1 rfl) ?_
        refine lv_lconst (v := 0) hx hb d_Second_isTooLarge_12 (by decide) ?_
        refine W.lcmp hx hb d_Second_isTooLarge_13 ?_
        refine lv_if_lt (tgt := 36) hx hb d_Second_isTooLarge_14 (by decide) (fun hc3 => ?_) (fun hc3 => ?_)
        · rw [if_pos hc3] at h
          exact (ih.2.1) S L (vp_updL M 4 (1844674407370955161 : Int64)) ls H locs h (lv_sub hl [1, 2, 3, 0] rfl) hP hD hS
        · rw [if_neg hc3] at h
          refine lv_lload_n hx hb d_Second_isTooLarge_17 rfl (lv_at hl 1 rfl) ?_
          refine lv_lload hx hb d_Second_isTooLarge_18 (lv_at hl 0 rfl) ?_
          refine W.lcmp hx hb d_Second_isTooLarge_20 ?_
          refine lv_if_gt (tgt := 36) hx hb d_Second_isTooLarge_21 (by decide) (fun hc4 => ?_) (fun hc4 => ?_)
          · rw [if_pos hc4] at h
            exact (ih.2.1) S L (vp_updL M 4 (1844674407370955161 : Int64)) ls H locs h (lv_sub hl [1, 2, 3, 0] rfl) hP hD hS
          · rw [if_neg hc4] at h
            refine lv_lload_n hx hb d_Second_isTooLarge_24 rfl (lv_at hl 1 rfl) ?_
            show W _ _ _ _ _ _ _ _ _ _ _ _ _ _ _ (F0 _ 25 _ _)
            refine lv_lload hx hb d_Second_isTooLarge_25 (lv_at hl 0 rfl) ?_
            refine W.lcmp hx hb d_Second_isTooLarge_27 ?_
            refine lv_if_ne (tgt := 40) hx hb d_Second_isTooLarge_28 (by decide) (fun hc5 => ?_) (fun hc5 => ?_)
            · rw [if_neg hc5] at h
              exact (ih.2.2.1) S L (vp_updL M 4 (1844674407370955161 : Int64)) ls H locs h (lv_sub hl [1, 2, 3, 0] rfl) hP hD hS
            · rw [if_pos hc5] at h
              refine lv_iload_n hx hb d_Second_isTooLarge_31 rfl (lv_at hl 3 rfl) ?_
              refine lv_iconst (v := 5) hx hb d_Second_isTooLarge_32 (by decide) ?_
              refine lv_icmp_le (tgt := 40) hx hb d_Second_isTooLarge_33 (by decide) (fun hc6 => ?_) (fun hc6 => ?_)
              · rw [if_pos hc6] at h
                exact (ih.2.2.1) S L (vp_updL M 4 (1844674407370955161 : Int64)) ls H locs h (lv_sub hl [1, 2, 3, 0] rfl) hP hD hS
              · rw [if_neg hc6] at h
                exact (ih.2.1) S L (vp_updL M 4 (1844674407370955161 : Int64)) ls H locs h (lv_sub hl [1, 2, 3, 0] rfl) hP hD hS
    · intro S L M ls H locs h hl hP hD hS
      simp only [f_Second_isTooLarge] at h
      refine lv_iconst (v := 1) hx hb d_Second_isTooLarge_36 (by decide) ?_
      refine lv_goto (tgt := 41) hx hb d_Second_isTooLarge_37 (by decide) ?_
      exact (ih.2.2.2.1) S (upd L 100 (1 : Int32)) M ls H locs h (lv_sub hl [0, 1, 2, 3] rfl) hP hD hS
    · intro S L M ls H locs h hl hP hD hS
      simp only [f_Second_isTooLarge] at h
      refine lv_iconst (v := 0) hx hb d_Second_isTooLarge_40 (by decide) ?_
      exact (ih.2.2.2.1) S (upd L 100 (0 : Int32)) M ls H locs h (lv_sub hl [0, 1, 2, 3] rfl) hP hD hS
    · intro S L M ls H locs h hl hP hD hS
      simp only [f_Second_isTooLarge] at h
      obtain ⟨hv1, h⟩ := chk h
      cases h
      exact kx_41 ls H locs (bz_n hv1) hP hD hS
    · intro S L M ls H locs h hl hP hD hS
      simp only [f_Second_isTooLarge] at h
      refine lv_lushr (v := ((M 100).toUInt64 >>> ((L 101 : Int32).toInt64.toUInt64 &&& Int64.toUInt64 63)).toInt64) hx hb d_Second_isTooLarge_56 rfl ?_
      refine lv_lconst (v := 0) hx hb d_Second_isTooLarge_57 (by decide) ?_
      refine W.lcmp hx hb d_Second_isTooLarge_58 ?_
      refine lv_if_eq (tgt := 66) hx hb d_Second_isTooLarge_59 (by decide) (fun hc1 => ?_) (fun hc1 => ?_)
      · rw [if_pos hc1] at h
        refine lv_iconst (v := 0) hx hb d_Second_isTooLarge_66 (by decide) ?_
        exact (ih.2.2.2.2.2) S (upd L 100 (0 : Int32)) M ls H locs h (lv_sub hl [0, 1, 2] rfl) hP hD hS
      · rw [if_neg hc1] at h
        refine lv_iconst (v := 1) hx hb d_Second_isTooLarge_62 (by decide) ?_
        refine lv_goto (tgt := 67) hx hb d_Second_isTooLarge_63 (by decide) ?_
        exact (ih.2.2.2.2.2) S (upd L 100 (1 : Int32)) M ls H locs h (lv_sub hl [0, 1, 2] rfl) hP hD hS
    · intro S L M ls H locs h hl hP hD hS
      simp only [f_Second_isTooLarge] at h
      obtain ⟨hv1, h⟩ := chk h
      cases h
      exact kx_67 ls H locs (bz_n hv1) hP hD hS
abbrev rm_t_Second_isTooLarge : Room := { frames := 0, cells := 0, slots := 0, locals := 0 }
theorem t_Second_isTooLarge (l : Launch) (g : gG) (sz : Nat) (ad : Nat → Nat) (S : sS) (v1 : Int64) (v2 : Int32) (v3 : Int32) (k : Nat) (r : Int32) (S9 : sS) (h : f_Second_isTooLarge k 0 S (upd (upd (fun _ => 0) 2 v2) 3 v3) (vp_updL (fun _ => 0) 0 v1) = some (r, S9)) : Cz l y_Second_isTooLarge b_Second_isTooLarge 6 rm_t_Second_isTooLarge g [.long v1, .int v2, .int v3] (Sw shC g ad S) sz (fun r1 w => ∃ S1 : sS, w = Sw shC g ad S1 ∧ r1 = r ∧ S1 = S9) := by
  refine startZ (by decide) (Nat.le_of_ble_eq_true rfl) ?_
  intro p e s m below meth c A ls hx hb hr hml hlocks hmn hown htt hN hA hP hK hD hS hl
  exact (w_Second_isTooLarge hx hb hml hown htt hK hN hA r S9 (fun ls H locs hz hP hD hS => fin_z (g := g) (ws := Sw shC g ad S9) hx hb hr hlocks hz (by decide +kernel) (by decide +kernel) hP hD hS ⟨_, rfl, rfl, rfl⟩ d_Second_isTooLarge_41) (fun ls H locs hz hP hD hS => fin_z (g := g) (ws := Sw shC g ad S9) hx hb hr hlocks hz (by decide +kernel) (by decide +kernel) hP hD hS ⟨_, rfl, rfl, rfl⟩ d_Second_isTooLarge_67) k).1 S (upd (upd (fun _ => 0) 2 v2) 3 v3) (vp_updL (fun _ => 0) 0 v1) ls _ _ h hl hP hD hS
def f_Second_suffixOf : Nat → Nat → sS → (Nat → Int32) → (Nat → Int64) → Option (Int32 × sS)
  | 0, _, _, _, _ => none
  | k + 1, 0, S, L, M => if (L 2) ≤ (L 1) then (f_Second_suffixOf k 1 S (upd L 4 (L 1)) M) else (if okI (L 1) 125538 = true then (if ((S.2.1 37 (L 1 : Int32).toNatClampNeg) ||| (32 : Int32)) = (117 : Int32) then (f_Second_suffixOf k 2 S (upd (upd L 4 (L 1)) 100 (1 : Int32)) M) else (f_Second_suffixOf k 1 S (upd L 4 (L 1)) M)) else none)
  | k + 1, 1, S, L, M => f_Second_suffixOf k 2 S (upd L 100 (0 : Int32)) M
  | k + 1, 2, S, L, M => if (L 100) = (0 : Int32) then (f_Second_suffixOf k 3 S (upd (upd (upd L 5 (L 100)) 101 (0 : Int32)) 100 (L 4)) M) else (f_Second_suffixOf k 3 S (upd (upd (upd L 5 (L 100)) 101 (1 : Int32)) 100 (L 4)) M)
  | k + 1, 3, S, L, M => if (L 2) ≤ ((L 100) + (L 101)) then (f_Second_suffixOf k 6 S (upd L 4 ((L 100) + (L 101))) M) else (if okI ((L 100) + (L 101)) 125538 = true then (if ((S.2.1 37 ((L 100) + (L 101) : Int32).toNatClampNeg) ||| (32 : Int32)) = (108 : Int32) then (if (L 2) ≤ (((L 100) + (L 101)) + (1 : Int32)) then (f_Second_suffixOf k 4 S (upd (upd L 4 ((L 100) + (L 101))) 100 ((L 100) + (L 101))) M) else (if okI (((L 100) + (L 101)) + (1 : Int32)) 125538 = true then (if okI ((L 100) + (L 101)) 125538 = true then (if (S.2.1 37 (((L 100) + (L 101)) + (1 : Int32) : Int32).toNatClampNeg) = (S.2.1 37 ((L 100) + (L 101) : Int32).toNatClampNeg) then (f_Second_suffixOf k 5 S (upd (upd (upd L 4 ((L 100) + (L 101))) 101 (2 : Int32)) 100 ((L 100) + (L 101))) M) else (f_Second_suffixOf k 4 S (upd (upd L 4 ((L 100) + (L 101))) 100 ((L 100) + (L 101))) M)) else none) else none)) else (f_Second_suffixOf k 6 S (upd L 4 ((L 100) + (L 101))) M)) else none)
  | k + 1, 4, S, L, M => f_Second_suffixOf k 5 S (upd L 101 (1 : Int32)) M
  | k + 1, 5, S, L, M => f_Second_suffixOf k 6 S (upd L 4 ((L 100) + (L 101))) M
  | k + 1, 6, S, L, M => if (L 5) = (0 : Int32) then (if (L 2) ≤ (L 4) then (f_Second_suffixOf k 7 S L M) else (if okI (L 4) 125538 = true then (if ((S.2.1 37 (L 4 : Int32).toNatClampNeg) ||| (32 : Int32)) = (117 : Int32) then (f_Second_suffixOf k 7 S (upd (upd L 4 ((L 4) + 1)) 5 (1 : Int32)) M) else (f_Second_suffixOf k 7 S L M)) else none)) else (f_Second_suffixOf k 7 S L M)
  | k + 1, 7, S, L, M => if (L 2) ≤ (L 4) then (if (L 5) = (0 : Int32) then (f_Second_suffixOf k 8 S (upd L 100 (0 : Int32)) M) else (f_Second_suffixOf k 8 S (upd L 100 (1 : Int32)) M)) else (f_Second_suffixOf k 8 S (upd L 100 ((-1) : Int32)) M)
  | k + 1, 8, S, L, M => some (L 100, S)
  | _ + 1, _ + 9, _, _, _ => none
set_option maxHeartbeats 8000000 in
set_option maxRecDepth 100000 in
theorem w_Second_suffixOf {p : Program} {l : Launch} {e : Env} {R : Room} {s : State} {m : MethodId} {args : Array Value} {below : List Frame} {meth : Method} {c : Code} {cells slots : Nat} {Q : State → Prop} {g : gG} {A : Nat → Prop} {ad : Nat → Nat} (hx : p.tables.exec = Jvm.exec) (hb : c.code = b_Second_suffixOf) (hml : c.maxLocals = 6) (hown : s.vm.findClass "MacroMill$Second" = some m.cls) (htt : ∀ w ∈ gt, w.before args s = true) (hK : va_K g.1 classes (tysG g) s) (hN : nw s) (hA : ∀ q : Nat, s.heap.size ≤ q → A q) (r : Int32) (S9 : sS)
    (kx_149 : ∀ (ls : Array Slot) (H : Heap) (locs : List Loc), va_P g.1 classes (Sw shC g ad S9) H → va_D A (Sw shC g ad S9) → va_S A s.heap H locs → W p l e R s m args below meth c H locs cells slots Q (F0 m 149 ls [.int r])) :
    ∀ k9 : Nat, (∀ (S : sS) (L : Nat → Int32) (M : Nat → Int64) (ls : Array Slot) (H : Heap) (locs : List Loc), f_Second_suffixOf k9 0 S L M = some (r, S9) → lv_has ls 6 [(0, .ref (ad 8)), (1, .int (L 1)), (2, .int (L 2))] → va_P g.1 classes (Sw shC g ad S) H → va_D A (Sw shC g ad S) → va_S A s.heap H locs → W p l e R s m args below meth c H locs cells slots Q (F0 m 0 ls [])) ∧ (∀ (S : sS) (L : Nat → Int32) (M : Nat → Int64) (ls : Array Slot) (H : Heap) (locs : List Loc), f_Second_suffixOf k9 1 S L M = some (r, S9) → lv_has ls 6 [(0, .ref (ad 8)), (1, .int (L 1)), (2, .int (L 2)), (3, .ref (ad 50)), (4, .int (L 4))] → va_P g.1 classes (Sw shC g ad S) H → va_D A (Sw shC g ad S) → va_S A s.heap H locs → W p l e R s m args below meth c H locs cells slots Q (F0 m 33 ls [])) ∧ (∀ (S : sS) (L : Nat → Int32) (M : Nat → Int64) (ls : Array Slot) (H : Heap) (locs : List Loc), f_Second_suffixOf k9 2 S L M = some (r, S9) → lv_has ls 6 [(0, .ref (ad 8)), (1, .int (L 1)), (2, .int (L 2)), (3, .ref (ad 50)), (4, .int (L 4))] → va_P g.1 classes (Sw shC g ad S) H → va_D A (Sw shC g ad S) → va_S A s.heap H locs → W p l e R s m args below meth c H locs cells slots Q (F0 m 34 ls [.int (L 100)])) ∧ (∀ (S : sS) (L : Nat → Int32) (M : Nat → Int64) (ls : Array Slot) (H : Heap) (locs : List Loc), f_Second_suffixOf k9 3 S L M = some (r, S9) → lv_has ls 6 [(0, .ref (ad 8)), (1, .int (L 1)), (2, .int (L 2)), (3, .ref (ad 50)), (4, .int (L 4)), (5, .int (L 5))] → va_P g.1 classes (Sw shC g ad S) H → va_D A (Sw shC g ad S) → va_S A s.heap H locs → W p l e R s m args below meth c H locs cells slots Q (F0 m 48 ls [.int (L 101), .int (L 100)])) ∧ (∀ (S : sS) (L : Nat → Int32) (M : Nat → Int64) (ls : Array Slot) (H : Heap) (locs : List Loc), f_Second_suffixOf k9 4 S L M = some (r, S9) → lv_has ls 6 [(0, .ref (ad 8)), (1, .int (L 1)), (2, .int (L 2)), (3, .ref (ad 50)), (4, .int (L 4)), (5, .int (L 5))] → va_P g.1 classes (Sw shC g ad S) H → va_D A (Sw shC g ad S) → va_S A s.heap H locs → W p l e R s m args below meth c H locs cells slots Q (F0 m 96 ls [.int (L 100)])) ∧ (∀ (S : sS) (L : Nat → Int32) (M : Nat → Int64) (ls : Array Slot) (H : Heap) (locs : List Loc), f_Second_suffixOf k9 5 S L M = some (r, S9) → lv_has ls 6 [(0, .ref (ad 8)), (1, .int (L 1)), (2, .int (L 2)), (3, .ref (ad 50)), (4, .int (L 4)), (5, .int (L 5))] → va_P g.1 classes (Sw shC g ad S) H → va_D A (Sw shC g ad S) → va_S A s.heap H locs → W p l e R s m args below meth c H locs cells slots Q (F0 m 97 ls [.int (L 101), .int (L 100)])) ∧ (∀ (S : sS) (L : Nat → Int32) (M : Nat → Int64) (ls : Array Slot) (H : Heap) (locs : List Loc), f_Second_suffixOf k9 6 S L M = some (r, S9) → lv_has ls 6 [(0, .ref (ad 8)), (1, .int (L 1)), (2, .int (L 2)), (3, .ref (ad 50)), (4, .int (L 4)), (5, .int (L 5))] → va_P g.1 classes (Sw shC g ad S) H → va_D A (Sw shC g ad S) → va_S A s.heap H locs → W p l e R s m args below meth c H locs cells slots Q (F0 m 100 ls [])) ∧ (∀ (S : sS) (L : Nat → Int32) (M : Nat → Int64) (ls : Array Slot) (H : Heap) (locs : List Loc), f_Second_suffixOf k9 7 S L M = some (r, S9) → lv_has ls 6 [(0, .ref (ad 8)), (1, .int (L 1)), (2, .int (L 2)), (3, .ref (ad 50)), (4, .int (L 4)), (5, .int (L 5))] → va_P g.1 classes (Sw shC g ad S) H → va_D A (Sw shC g ad S) → va_S A s.heap H locs → W p l e R s m args below meth c H locs cells slots Q (F0 m 129 ls [])) ∧ (∀ (S : sS) (L : Nat → Int32) (M : Nat → Int64) (ls : Array Slot) (H : Heap) (locs : List Loc), f_Second_suffixOf k9 8 S L M = some (r, S9) → lv_has ls 6 [(0, .ref (ad 8)), (1, .int (L 1)), (2, .int (L 2)), (3, .ref (ad 50)), (4, .int (L 4)), (5, .int (L 5))] → va_P g.1 classes (Sw shC g ad S) H → va_D A (Sw shC g ad S) → va_S A s.heap H locs → W p l e R s m args below meth c H locs cells slots Q (F0 m 149 ls [.int (L 100)])) := by
  intro k9
  induction k9 with
  | zero => exact ⟨(fun _ _ _ _ _ _ h => by simp [f_Second_suffixOf] at h), (fun _ _ _ _ _ _ h => by simp [f_Second_suffixOf] at h), (fun _ _ _ _ _ _ h => by simp [f_Second_suffixOf] at h), (fun _ _ _ _ _ _ h => by simp [f_Second_suffixOf] at h), (fun _ _ _ _ _ _ h => by simp [f_Second_suffixOf] at h), (fun _ _ _ _ _ _ h => by simp [f_Second_suffixOf] at h), (fun _ _ _ _ _ _ h => by simp [f_Second_suffixOf] at h), (fun _ _ _ _ _ _ h => by simp [f_Second_suffixOf] at h), (fun _ _ _ _ _ _ h => by simp [f_Second_suffixOf] at h)⟩
  | succ k9 ih =>
    refine ⟨?_, ?_, ?_, ?_, ?_, ?_, ?_, ?_, ?_⟩
    · intro S L M ls H locs h hl hP hD hS
      simp only [f_Second_suffixOf] at h
      refine lv_aload_n hx hb d_Second_suffixOf_0 rfl (lv_at hl 0 rfl) ?_
      refine S_getR (h := shC) (C := "MacroMill$Second") (T := F_Second) hx hb htt in_Second hown hK hP 8 3 rfl 9 rfl rfl (by decide) (htt _ k_899) (fun _ h9 => h9) d_Second_suffixOf_1 ?_
      refine S_getR (h := shC) (C := "MacroMill$Tokens") (T := F_Tokens) hx hb htt in_Tokens hown hK hP 9 0 rfl 50 rfl rfl (by decide) (htt _ k_636) (fun _ h9 => h9) d_Second_suffixOf_4 ?_
      refine lv_astore_n (lv' := [(3, .ref (ad 50)), (0, .ref (ad 8)), (1, .int (L 1)), (2, .int (L 2))]) hx hb d_Second_suffixOf_7 rfl hl (by decide) rfl (fun ls hl => ?_)
      refine lv_iload_n hx hb d_Second_suffixOf_8 rfl (lv_at hl 2 rfl) ?_
      refine lv_istore (lv' := [(4, .int (L 1)), (3, .ref (ad 50)), (0, .ref (ad 8)), (1, .int (L 1)), (2, .int (L 2))]) hx hb d_Second_suffixOf_9 hl (by decide) rfl (fun ls hl => ?_)
      refine lv_iload hx hb d_Second_suffixOf_11 (lv_at hl 0 rfl) ?_
      refine lv_iload_n hx hb d_Second_suffixOf_13 rfl (lv_at hl 4 rfl) ?_
      refine lv_icmp_ge (tgt := 33) hx hb d_Second_suffixOf_14 (by decide) (fun hc1 => ?_) (fun hc1 => ?_)
      · rw [if_pos hc1] at h
        exact (ih.2.1) S (upd L 4 (L 1)) M ls H locs h (lv_sub hl [2, 3, 4, 1, 0] rfl) hP hD hS
      · rw [if_neg hc1] at h
        refine lv_aload_n hx hb d_Second_suffixOf_17 rfl (lv_at hl 1 rfl) ?_
        refine lv_iload hx hb d_Second_suffixOf_18 (lv_at hl 0 rfl) ?_
        obtain ⟨hv2, h⟩ := chk h
        refine S_bald (h := shC) (i := L 1) hx hb hK hP 37 rfl (okI_in hv2) d_Second_suffixOf_20 ?_
        show W _ _ _ _ _ _ _ _ _ _ _ _ _ _ _ (F0 _ 21 _ _)
        refine lv_bipush (v := 32) hx hb d_Second_suffixOf_21 (by decide) ?_
        refine lv_ior hx hb d_Second_suffixOf_23 ?_
        refine lv_bipush (v := 117) hx hb d_Second_suffixOf_24 (by decide) ?_
        refine lv_icmp_ne (tgt := 33) hx hb d_Second_suffixOf_26 (by decide) (fun hc3 => ?_) (fun hc3 => ?_)
        · rw [if_neg hc3] at h
          exact (ih.2.1) S (upd L 4 (L 1)) M ls H locs h (lv_sub hl [2, 3, 4, 1, 0] rfl) hP hD hS
        · rw [if_pos hc3] at h
          refine lv_iconst (v := 1) hx hb d_Second_suffixOf_29 (by decide) ?_
          refine lv_goto (tgt := 34) hx hb d_Second_suffixOf_30 (by decide) ?_
          exact (ih.2.2.1) S (upd (upd L 4 (L 1)) 100 (1 : Int32)) M ls H locs h (lv_sub hl [2, 3, 4, 1, 0] rfl) hP hD hS
    · intro S L M ls H locs h hl hP hD hS
      simp only [f_Second_suffixOf] at h
      refine lv_iconst (v := 0) hx hb d_Second_suffixOf_33 (by decide) ?_
      exact (ih.2.2.1) S (upd L 100 (0 : Int32)) M ls H locs h (lv_sub hl [0, 1, 2, 3, 4] rfl) hP hD hS
    · intro S L M ls H locs h hl hP hD hS
      simp only [f_Second_suffixOf] at h
      refine lv_istore (lv' := [(5, .int (L 100)), (0, .ref (ad 8)), (1, .int (L 1)), (2, .int (L 2)), (3, .ref (ad 50)), (4, .int (L 4))]) hx hb d_Second_suffixOf_34 hl (by decide) rfl (fun ls hl => ?_)
      refine lv_iload hx hb d_Second_suffixOf_36 (lv_at hl 5 rfl) ?_
      refine lv_iload hx hb d_Second_suffixOf_38 (lv_at hl 0 rfl) ?_
      refine lv_if_eq (tgt := 47) hx hb d_Second_suffixOf_40 (by decide) (fun hc1 => ?_) (fun hc1 => ?_)
      · rw [if_pos hc1] at h
        refine lv_iconst (v := 0) hx hb d_Second_suffixOf_47 (by decide) ?_
        exact (ih.2.2.2.1) S (upd (upd (upd L 5 (L 100)) 101 (0 : Int32)) 100 (L 4)) M ls H locs h (lv_sub hl [1, 2, 3, 4, 5, 0] rfl) hP hD hS
      · rw [if_neg hc1] at h
        refine lv_iconst (v := 1) hx hb d_Second_suffixOf_43 (by decide) ?_
        refine lv_goto (tgt := 48) hx hb d_Second_suffixOf_44 (by decide) ?_
        exact (ih.2.2.2.1) S (upd (upd (upd L 5 (L 100)) 101 (1 : Int32)) 100 (L 4)) M ls H locs h (lv_sub hl [1, 2, 3, 4, 5, 0] rfl) hP hD hS
    · intro S L M ls H locs h hl hP hD hS
      simp only [f_Second_suffixOf] at h
      refine lv_iadd hx hb d_Second_suffixOf_48 ?_
      refine lv_istore (lv' := [(4, .int ((L 100) + (L 101))), (0, .ref (ad 8)), (1, .int (L 1)), (2, .int (L 2)), (3, .ref (ad 50)), (5, .int (L 5))]) hx hb d_Second_suffixOf_49 hl (by decide) rfl (fun ls hl => ?_)
      refine lv_iload hx hb d_Second_suffixOf_51 (lv_at hl 0 rfl) ?_
      refine lv_iload_n hx hb d_Second_suffixOf_53 rfl (lv_at hl 3 rfl) ?_
      refine lv_icmp_ge (tgt := 100) hx hb d_Second_suffixOf_54 (by decide) (fun hc1 => ?_) (fun hc1 => ?_)
      · rw [if_pos hc1] at h
        exact (ih.2.2.2.2.2.2.1) S (upd L 4 ((L 100) + (L 101))) M ls H locs h (lv_sub hl [1, 2, 3, 4, 0, 5] rfl) hP hD hS
      · rw [if_neg hc1] at h
        refine lv_aload_n hx hb d_Second_suffixOf_57 rfl (lv_at hl 4 rfl) ?_
        refine lv_iload hx hb d_Second_suffixOf_58 (lv_at hl 0 rfl) ?_
        obtain ⟨hv2, h⟩ := chk h
        refine S_bald (h := shC) (i := (L 100) + (L 101)) hx hb hK hP 37 rfl (okI_in hv2) d_Second_suffixOf_60 ?_
        refine lv_bipush (v := 32) hx hb d_Second_suffixOf_61 (by decide) ?_
        refine lv_ior hx hb d_Second_suffixOf_63 ?_
        refine lv_bipush (v := 108) hx hb d_Second_suffixOf_64 (by decide) ?_
        refine lv_icmp_ne (tgt := 100) hx hb d_Second_suffixOf_66 (by decide) (fun hc3 => ?_) (fun hc3 => ?_)
        · rw [if_neg hc3] at h
          exact (ih.2.2.2.2.2.2.1) S (upd L 4 ((L 100) + (L 101))) M ls H locs h (lv_sub hl [1, 2, 3, 4, 0, 5] rfl) hP hD hS
        · rw [if_pos hc3] at h
          refine lv_iload hx hb d_Second_suffixOf_69 (lv_at hl 0 rfl) ?_
          show W _ _ _ _ _ _ _ _ _ _ _ _ _ _ _ (F0 _ 71 _ _)
          refine lv_iload hx hb d_Second_suffixOf_71 (lv_at hl 0 rfl) ?_
          refine lv_iconst (v := 1) hx hb d_Second_suffixOf_73 (by decide) ?_
          refine lv_iadd hx hb d_Second_suffixOf_74 ?_
          refine lv_iload_n hx hb d_Second_suffixOf_75 rfl (lv_at hl 3 rfl) ?_
          refine lv_icmp_ge (tgt := 96) hx hb d_Second_suffixOf_76 (by decide) (fun hc4 => ?_) (fun hc4 => ?_)
          · rw [if_pos hc4] at h
            exact (ih.2.2.2.2.1) S (upd (upd L 4 ((L 100) + (L 101))) 100 ((L 100) + (L 101))) M ls H locs h (lv_sub hl [1, 2, 3, 4, 0, 5] rfl) hP hD hS
          · rw [if_neg hc4] at h
            refine lv_aload_n hx hb d_Second_suffixOf_79 rfl (lv_at hl 4 rfl) ?_
            refine lv_iload hx hb d_Second_suffixOf_80 (lv_at hl 0 rfl) ?_
            refine lv_iconst (v := 1) hx hb d_Second_suffixOf_82 (by decide) ?_
            refine lv_iadd hx hb d_Second_suffixOf_83 ?_
            obtain ⟨hv5, h⟩ := chk h
            refine S_bald (h := shC) (i := ((L 100) + (L 101)) + (1 : Int32)) hx hb hK hP 37 rfl (okI_in hv5) d_Second_suffixOf_84 ?_
            refine lv_aload_n hx hb d_Second_suffixOf_85 rfl (lv_at hl 4 rfl) ?_
            refine lv_iload hx hb d_Second_suffixOf_86 (lv_at hl 0 rfl) ?_
            obtain ⟨hv6, h⟩ := chk h
            refine S_bald (h := shC) (i := (L 100) + (L 101)) hx hb hK hP 37 rfl (okI_in hv6) d_Second_suffixOf_88 ?_
            refine lv_icmp_ne (tgt := 96) hx hb d_Second_suffixOf_89 (by decide) (fun hc7 => ?_) (fun hc7 => ?_)
            · rw [if_neg hc7] at h
              exact (ih.2.2.2.2.1) S (upd (upd L 4 ((L 100) + (L 101))) 100 ((L 100) + (L 101))) M ls H locs h (lv_sub hl [1, 2, 3, 4, 0, 5] rfl) hP hD hS
            · rw [if_pos hc7] at h
              show W _ _ _ _ _ _ _ _ _ _ _ _ _ _ _ (F0 _ 92 _ _)
              refine lv_iconst (v := 2) hx hb d_Second_suffixOf_92 (by decide) ?_
              refine lv_goto (tgt := 97) hx hb d_Second_suffixOf_93 (by decide) ?_
              exact (ih.2.2.2.2.2.1) S (upd (upd (upd L 4 ((L 100) + (L 101))) 101 (2 : Int32)) 100 ((L 100) + (L 101))) M ls H locs h (lv_sub hl [1, 2, 3, 4, 0, 5] rfl) hP hD hS
    · intro S L M ls H locs h hl hP hD hS
      simp only [f_Second_suffixOf] at h
      refine lv_iconst (v := 1) hx hb d_Second_suffixOf_96 (by decide) ?_
      exact (ih.2.2.2.2.2.1) S (upd L 101 (1 : Int32)) M ls H locs h (lv_sub hl [0, 1, 2, 3, 4, 5] rfl) hP hD hS
    · intro S L M ls H locs h hl hP hD hS
      simp only [f_Second_suffixOf] at h
      refine lv_iadd hx hb d_Second_suffixOf_97 ?_
      refine lv_istore (lv' := [(4, .int ((L 100) + (L 101))), (0, .ref (ad 8)), (1, .int (L 1)), (2, .int (L 2)), (3, .ref (ad 50)), (5, .int (L 5))]) hx hb d_Second_suffixOf_98 hl (by decide) rfl (fun ls hl => ?_)
      exact (ih.2.2.2.2.2.2.1) S (upd L 4 ((L 100) + (L 101))) M ls H locs h (lv_sub hl [1, 2, 3, 4, 0, 5] rfl) hP hD hS
    · intro S L M ls H locs h hl hP hD hS
      simp only [f_Second_suffixOf] at h
      refine lv_iload hx hb d_Second_suffixOf_100 (lv_at hl 5 rfl) ?_
      refine lv_if_ne (tgt := 129) hx hb d_Second_suffixOf_102 (by decide) (fun hc1 => ?_) (fun hc1 => ?_)
      · rw [if_neg hc1] at h
        exact (ih.2.2.2.2.2.2.2.1) S L M ls H locs h (lv_sub hl [0, 1, 2, 3, 4, 5] rfl) hP hD hS
      · rw [if_pos hc1] at h
        refine lv_iload hx hb d_Second_suffixOf_105 (lv_at hl 4 rfl) ?_
        refine lv_iload_n hx hb d_Second_suffixOf_107 rfl (lv_at hl 2 rfl) ?_
        refine lv_icmp_ge (tgt := 129) hx hb d_Second_suffixOf_108 (by decide) (fun hc2 => ?_) (fun hc2 => ?_)
        · rw [if_pos hc2] at h
          exact (ih.2.2.2.2.2.2.2.1) S L M ls H locs h (lv_sub hl [0, 1, 2, 3, 4, 5] rfl) hP hD hS
        · rw [if_neg hc2] at h
          refine lv_aload_n hx hb d_Second_suffixOf_111 rfl (lv_at hl 3 rfl) ?_
          refine lv_iload hx hb d_Second_suffixOf_112 (lv_at hl 4 rfl) ?_
          obtain ⟨hv3, h⟩ := chk h
          refine S_bald (h := shC) (i := L 4) hx hb hK hP 37 rfl (okI_in hv3) d_Second_suffixOf_114 ?_
          refine lv_bipush (v := 32) hx hb d_Second_suffixOf_115 (by decide) ?_
          refine lv_ior hx hb d_Second_suffixOf_117 ?_
          refine lv_bipush (v := 117) hx hb d_Second_suffixOf_118 (by decide) ?_
          refine lv_icmp_ne (tgt := 129) hx hb d_Second_suffixOf_120 (by decide) (fun hc4 => ?_) (fun hc4 => ?_)
          · rw [if_neg hc4] at h
            exact (ih.2.2.2.2.2.2.2.1) S L M ls H locs h (lv_sub hl [0, 1, 2, 3, 4, 5] rfl) hP hD hS
          · rw [if_pos hc4] at h
            refine lv_iconst (v := 1) hx hb d_Second_suffixOf_123 (by decide) ?_
            refine lv_istore (lv' := [(5, .int 1), (0, .ref (ad 8)), (1, .int (L 1)), (2, .int (L 2)), (3, .ref (ad 50)), (4, .int (L 4))]) hx hb d_Second_suffixOf_124 hl (by decide) rfl (fun ls hl => ?_)
            show W _ _ _ _ _ _ _ _ _ _ _ _ _ _ _ (F0 _ 126 _ _)
            refine lv_iinc (k := 5) (v := (L 4) + 1) (lv' := [(4, .int ((L 4) + 1)), (5, .int 1), (0, .ref (ad 8)), (1, .int (L 1)), (2, .int (L 2)), (3, .ref (ad 50))]) hx hb d_Second_suffixOf_126 hl rfl rfl (by decide) rfl (fun ls hl => ?_)
            exact (ih.2.2.2.2.2.2.2.1) S (upd (upd L 4 ((L 4) + 1)) 5 (1 : Int32)) M ls H locs h (lv_sub hl [2, 3, 4, 5, 0, 1] rfl) hP hD hS
    · intro S L M ls H locs h hl hP hD hS
      simp only [f_Second_suffixOf] at h
      refine lv_iload hx hb d_Second_suffixOf_129 (lv_at hl 4 rfl) ?_
      refine lv_iload_n hx hb d_Second_suffixOf_131 rfl (lv_at hl 2 rfl) ?_
      refine lv_icmp_ge (tgt := 139) hx hb d_Second_suffixOf_132 (by decide) (fun hc1 => ?_) (fun hc1 => ?_)
      · rw [if_pos hc1] at h
        refine lv_iload hx hb d_Second_suffixOf_139 (lv_at hl 5 rfl) ?_
        refine lv_if_eq (tgt := 148) hx hb d_Second_suffixOf_141 (by decide) (fun hc2 => ?_) (fun hc2 => ?_)
        · rw [if_pos hc2] at h
          refine lv_iconst (v := 0) hx hb d_Second_suffixOf_148 (by decide) ?_
          exact (ih.2.2.2.2.2.2.2.2) S (upd L 100 (0 : Int32)) M ls H locs h (lv_sub hl [0, 1, 2, 3, 4, 5] rfl) hP hD hS
        · rw [if_neg hc2] at h
          refine lv_iconst (v := 1) hx hb d_Second_suffixOf_144 (by decide) ?_
          refine lv_goto (tgt := 149) hx hb d_Second_suffixOf_145 (by decide) ?_
          exact (ih.2.2.2.2.2.2.2.2) S (upd L 100 (1 : Int32)) M ls H locs h (lv_sub hl [0, 1, 2, 3, 4, 5] rfl) hP hD hS
      · rw [if_neg hc1] at h
        refine lv_iconst (v := (-1)) hx hb d_Second_suffixOf_135 (by decide) ?_
        refine lv_goto (tgt := 149) hx hb d_Second_suffixOf_136 (by decide) ?_
        exact (ih.2.2.2.2.2.2.2.2) S (upd L 100 ((-1) : Int32)) M ls H locs h (lv_sub hl [0, 1, 2, 3, 4, 5] rfl) hP hD hS
    · intro S L M ls H locs h hl hP hD hS
      simp only [f_Second_suffixOf] at h
      cases h
      exact kx_149 ls H locs hP hD hS
abbrev rm_t_Second_suffixOf : Room := { frames := 0, cells := 0, slots := 0, locals := 0 }
theorem t_Second_suffixOf (l : Launch) (g : gG) (sz : Nat) (ad : Nat → Nat) (S : sS) (v1 : Int32) (v2 : Int32) (k : Nat) (r : Int32) (S9 : sS) (h : f_Second_suffixOf k 0 S (upd (upd (fun _ => 0) 1 v1) 2 v2) (fun _ => 0) = some (r, S9)) : Ci l y_Second_suffixOf b_Second_suffixOf 6 rm_t_Second_suffixOf g [.ref (ad 8), .int v1, .int v2] (Sw shC g ad S) sz (fun r1 w => ∃ S1 : sS, w = Sw shC g ad S1 ∧ r1 = r ∧ S1 = S9) := by
  refine startI (by decide) (Nat.le_of_ble_eq_true rfl) ?_
  intro p e s m below meth c A ls hx hb hr hml hlocks hmn hown htt hN hA hP hK hD hS hl
  exact (w_Second_suffixOf hx hb hml hown htt hK hN hA r S9 (fun ls H locs hP hD hS => fin_i (g := g) (ws := Sw shC g ad S9) hx hb hr hlocks (by decide +kernel) (by decide +kernel) hP hD hS ⟨_, rfl, rfl, rfl⟩ d_Second_suffixOf_149) k).1 S (upd (upd (fun _ => 0) 1 v1) 2 v2) (fun _ => 0) ls _ _ h hl hP hD hS
def f_Second_addBlankToTitle : Nat → Nat → sS → (Nat → Int32) → (Nat → Int64) → Option (Int32 × sS)
  | 0, _, _, _, _ => none
  | k + 1, 0, S, L, M => if (64 : Int32) ≤ (S.1 8 21) then (f_Second_addBlankToTitle k 1 S L M) else (if okI (S.1 8 21) 64 = true then (f_Second_addBlankToTitle k 1 (putA S 36 (S.1 8 21 : Int32).toNatClampNeg (vp_nar .byte 32)) L M) else none)
  | k + 1, 1, S, L, M => some ((0 : Int32), (putI S 8 21 ((S.1 8 21) + (1 : Int32))))
  | _ + 1, _ + 2, _, _, _ => none
set_option maxHeartbeats 8000000 in
set_option maxRecDepth 100000 in
theorem w_Second_addBlankToTitle {p : Program} {l : Launch} {e : Env} {R : Room} {s : State} {m : MethodId} {args : Array Value} {below : List Frame} {meth : Method} {c : Code} {cells slots : Nat} {Q : State → Prop} {g : gG} {A : Nat → Prop} {ad : Nat → Nat} (hx : p.tables.exec = Jvm.exec) (hb : c.code = b_Second_addBlankToTitle) (hml : c.maxLocals = 1) (hown : s.vm.findClass "MacroMill$Second" = some m.cls) (htt : ∀ w ∈ gt, w.before args s = true) (hK : va_K g.1 classes (tysG g) s) (hN : nw s) (hA : ∀ q : Nat, s.heap.size ≤ q → A q) (r : Int32) (S9 : sS)
    (kx_30 : ∀ (ls : Array Slot) (H : Heap) (locs : List Loc), va_P g.1 classes (Sw shC g ad S9) H → va_D A (Sw shC g ad S9) → va_S A s.heap H locs → W p l e R s m args below meth c H locs cells slots Q (F0 m 30 ls [])) :
    ∀ k9 : Nat, (∀ (S : sS) (L : Nat → Int32) (M : Nat → Int64) (ls : Array Slot) (H : Heap) (locs : List Loc), f_Second_addBlankToTitle k9 0 S L M = some (r, S9) → lv_has ls 1 [(0, .ref (ad 8))] → va_P g.1 classes (Sw shC g ad S) H → va_D A (Sw shC g ad S) → va_S A s.heap H locs → W p l e R s m args below meth c H locs cells slots Q (F0 m 0 ls [])) ∧ (∀ (S : sS) (L : Nat → Int32) (M : Nat → Int64) (ls : Array Slot) (H : Heap) (locs : List Loc), f_Second_addBlankToTitle k9 1 S L M = some (r, S9) → lv_has ls 1 [(0, .ref (ad 8))] → va_P g.1 classes (Sw shC g ad S) H → va_D A (Sw shC g ad S) → va_S A s.heap H locs → W p l e R s m args below meth c H locs cells slots Q (F0 m 20 ls [])) := by
  intro k9
  induction k9 with
  | zero => exact ⟨(fun _ _ _ _ _ _ h => by simp [f_Second_addBlankToTitle] at h), (fun _ _ _ _ _ _ h => by simp [f_Second_addBlankToTitle] at h)⟩
  | succ k9 ih =>
    refine ⟨?_, ?_⟩
    · intro S L M ls H locs h hl hP hD hS
      simp only [f_Second_addBlankToTitle] at h
      refine lv_aload_n hx hb d_Second_addBlankToTitle_0 rfl (lv_at hl 0 rfl) ?_
      refine S_getI (h := shC) (C := "MacroMill$Second") (T := F_Second) hx hb htt in_Second hown hK hP 8 21 rfl rfl rfl (by decide) (htt _ k_918) (fun _ h9 => h9) d_Second_addBlankToTitle_1 ?_
      refine lv_bipush (v := 64) hx hb d_Second_addBlankToTitle_4 (by decide) ?_
      refine lv_icmp_ge (tgt := 20) hx hb d_Second_addBlankToTitle_6 (by decide) (fun hc1 => ?_) (fun hc1 => ?_)
      · rw [if_pos hc1] at h
        exact (ih.2) S L M ls H locs h (lv_sub hl [0] rfl) hP hD hS
      · rw [if_neg hc1] at h
        refine lv_aload_n hx hb d_Second_addBlankToTitle_9 rfl (lv_at hl 0 rfl) ?_
        refine S_getR (h := shC) (C := "MacroMill$Second") (T := F_Second) hx hb htt in_Second hown hK hP 8 20 rfl 49 rfl rfl (by decide) (htt _ k_917) (fun _ h9 => h9) d_Second_addBlankToTitle_10 ?_
        refine lv_aload_n hx hb d_Second_addBlankToTitle_13 rfl (lv_at hl 0 rfl) ?_
        refine S_getI (h := shC) (C := "MacroMill$Second") (T := F_Second) hx hb htt in_Second hown hK hP 8 21 rfl rfl rfl (by decide) (htt _ k_918) (fun _ h9 => h9) d_Second_addBlankToTitle_14 ?_
        refine lv_bipush (v := 32) hx hb d_Second_addBlankToTitle_17 (by decide) ?_
        obtain ⟨hv2, h⟩ := chk h
        refine S_bast (h := shC) (i := S.1 8 21) (v := 32) hx hb hK hP hD hS 36 rfl (okI_in hv2) d_Second_addBlankToTitle_19 (fun H locs hP hD hS => ?_)
        exact (ih.2) (putA S 36 (S.1 8 21 : Int32).toNatClampNeg (vp_nar .byte 32)) L M ls H locs h (lv_sub hl [0] rfl) hP hD hS
    · intro S L M ls H locs h hl hP hD hS
      simp only [f_Second_addBlankToTitle] at h
      refine lv_aload_n hx hb d_Second_addBlankToTitle_20 rfl (lv_at hl 0 rfl) ?_
      refine lv_dup hx hb d_Second_addBlankToTitle_21 rfl ?_
      refine S_getI (h := shC) (C := "MacroMill$Second") (T := F_Second) hx hb htt in_Second hown hK hP 8 21 rfl rfl rfl (by decide) (htt _ k_918) (fun _ h9 => h9) d_Second_addBlankToTitle_22 ?_
      refine lv_iconst (v := 1) hx hb d_Second_addBlankToTitle_25 (by decide) ?_
      refine lv_iadd hx hb d_Second_addBlankToTitle_26 ?_
      refine S_put (h := shC) (C := "MacroMill$Second") (T := F_Second) (v := (S.1 8 21) + (1 : Int32)) hx hb htt in_Second t_Second t_Second_ok n_Second hown hK hP hD hS 8 21 rfl rfl rfl (by decide) (htt _ k_918) (fun _ h9 => h9) rfl rfl rfl d_Second_addBlankToTitle_27 (fun H locs hP hD hS => ?_)
      cases h
      exact kx_30 ls H locs hP hD hS
abbrev rm_t_Second_addBlankToTitle : Room := { frames := 0, cells := 0, slots := 0, locals := 0 }
theorem t_Second_addBlankToTitle (l : Launch) (g : gG) (sz : Nat) (ad : Nat → Nat) (S : sS) (k : Nat) (r : Int32) (S9 : sS) (h : f_Second_addBlankToTitle k 0 S (fun _ => 0) (fun _ => 0) = some (r, S9)) : Cv l y_Second_addBlankToTitle b_Second_addBlankToTitle 1 rm_t_Second_addBlankToTitle g [.ref (ad 8)] (Sw shC g ad S) sz (fun w => ∃ S1 : sS, w = Sw shC g ad S1 ∧ S1 = S9) := by
  refine startV (by decide) (Nat.le_of_ble_eq_true rfl) ?_
  intro p e s m below meth c A ls hx hb hr hml hlocks hmn hown htt hN hA hP hK hD hS hl
  exact (w_Second_addBlankToTitle hx hb hml hown htt hK hN hA r S9 (fun ls H locs hP hD hS => fin_v (g := g) (ws := Sw shC g ad S9) hx hb hr hlocks (by decide +kernel) (by decide +kernel) hP hD hS ⟨_, rfl, rfl⟩ d_Second_addBlankToTitle_30) k).1 S (fun _ => 0) (fun _ => 0) ls _ _ h hl hP hD hS
def f_Tokens_clearAll : Nat → Nat → sS → (Nat → Int32) → (Nat → Int64) → Option (Int32 × sS)
  | 0, _, _, _, _ => none
  | k + 1, 0, S, L, M => some ((0 : Int32), (putI (putI (putI (putI S 9 2 0) 9 3 0) 9 4 60002) 9 8 0))
  | _ + 1, _ + 1, _, _, _ => none
set_option maxHeartbeats 8000000 in
set_option maxRecDepth 100000 in
theorem w_Tokens_clearAll {p : Program} {l : Launch} {e : Env} {R : Room} {s : State} {m : MethodId} {args : Array Value} {below : List Frame} {meth : Method} {c : Code} {cells slots : Nat} {Q : State → Prop} {g : gG} {A : Nat → Prop} {ad : Nat → Nat} (hx : p.tables.exec = Jvm.exec) (hb : c.code = b_Tokens_clearAll) (hml : c.maxLocals = 1) (hown : s.vm.findClass "MacroMill$Tokens" = some m.cls) (htt : ∀ w ∈ gt, w.before args s = true) (hK : va_K g.1 classes (tysG g) s) (hN : nw s) (hA : ∀ q : Nat, s.heap.size ≤ q → A q) (r : Int32) (S9 : sS)
    (kx_21 : ∀ (ls : Array Slot) (H : Heap) (locs : List Loc), va_P g.1 classes (Sw shC g ad S9) H → va_D A (Sw shC g ad S9) → va_S A s.heap H locs → W p l e R s m args below meth c H locs cells slots Q (F0 m 21 ls [])) :
    ∀ k9 : Nat, (∀ (S : sS) (L : Nat → Int32) (M : Nat → Int64) (ls : Array Slot) (H : Heap) (locs : List Loc), f_Tokens_clearAll k9 0 S L M = some (r, S9) → lv_has ls 1 [(0, .ref (ad 9))] → va_P g.1 classes (Sw shC g ad S) H → va_D A (Sw shC g ad S) → va_S A s.heap H locs → W p l e R s m args below meth c H locs cells slots Q (F0 m 0 ls [])) := by
  intro k9
  induction k9 with
  | zero => exact (fun _ _ _ _ _ _ h => by simp [f_Tokens_clearAll] at h)
  | succ k9 ih =>
    · intro S L M ls H locs h hl hP hD hS
      simp only [f_Tokens_clearAll] at h
      refine lv_aload_n hx hb d_Tokens_clearAll_0 rfl (lv_at hl 0 rfl) ?_
      refine lv_iconst (v := 0) hx hb d_Tokens_clearAll_1 (by decide) ?_
      refine S_put (h := shC) (C := "MacroMill$Tokens") (T := F_Tokens) (v := 0) hx hb htt in_Tokens t_Tokens t_Tokens_ok n_Tokens hown hK hP hD hS 9 2 rfl rfl rfl (by decide) (htt _ k_639) (fun _ h9 => h9) rfl rfl rfl d_Tokens_clearAll_2 (fun H locs hP hD hS => ?_)
      refine lv_aload_n hx hb d_Tokens_clearAll_5 rfl (lv_at hl 0 rfl) ?_
      refine lv_iconst (v := 0) hx hb d_Tokens_clearAll_6 (by decide) ?_
      refine S_put (h := shC) (C := "MacroMill$Tokens") (T := F_Tokens) (v := 0) hx hb htt in_Tokens t_Tokens t_Tokens_ok n_Tokens hown hK hP hD hS 9 3 rfl rfl rfl (by decide) (htt _ k_642) (fun _ h9 => h9) rfl rfl rfl d_Tokens_clearAll_7 (fun H locs hP hD hS => ?_)
      refine lv_aload_n hx hb d_Tokens_clearAll_10 rfl (lv_at hl 0 rfl) ?_
      refine lv_ldc (v := 60002) hx hb hown (htt _ k_883) d_Tokens_clearAll_11 ?_
      refine S_put (h := shC) (C := "MacroMill$Tokens") (T := F_Tokens) (v := 60002) hx hb htt in_Tokens t_Tokens t_Tokens_ok n_Tokens hown hK hP hD hS 9 4 rfl rfl rfl (by decide) (htt _ k_643) (fun _ h9 => h9) rfl rfl rfl d_Tokens_clearAll_13 (fun H locs hP hD hS => ?_)
      refine lv_aload_n hx hb d_Tokens_clearAll_16 rfl (lv_at hl 0 rfl) ?_
      refine lv_iconst (v := 0) hx hb d_Tokens_clearAll_17 (by decide) ?_
      show W _ _ _ _ _ _ _ _ _ _ _ _ _ _ _ (F0 _ 18 _ _)
      refine S_put (h := shC) (C := "MacroMill$Tokens") (T := F_Tokens) (v := 0) hx hb htt in_Tokens t_Tokens t_Tokens_ok n_Tokens hown hK hP hD hS 9 8 rfl rfl rfl (by decide) (htt _ k_657) (fun _ h9 => h9) rfl rfl rfl d_Tokens_clearAll_18 (fun H locs hP hD hS => ?_)
      cases h
      exact kx_21 ls H locs hP hD hS
abbrev rm_t_Tokens_clearAll : Room := { frames := 0, cells := 0, slots := 0, locals := 0 }
theorem t_Tokens_clearAll (l : Launch) (g : gG) (sz : Nat) (ad : Nat → Nat) (S : sS) (k : Nat) (r : Int32) (S9 : sS) (h : f_Tokens_clearAll k 0 S (fun _ => 0) (fun _ => 0) = some (r, S9)) : Cv l y_Tokens_clearAll b_Tokens_clearAll 1 rm_t_Tokens_clearAll g [.ref (ad 9)] (Sw shC g ad S) sz (fun w => ∃ S1 : sS, w = Sw shC g ad S1 ∧ S1 = S9) := by
  refine startV (by decide) (Nat.le_of_ble_eq_true rfl) ?_
  intro p e s m below meth c A ls hx hb hr hml hlocks hmn hown htt hN hA hP hK hD hS hl
  exact (w_Tokens_clearAll hx hb hml hown htt hK hN hA r S9 (fun ls H locs hP hD hS => fin_v (g := g) (ws := Sw shC g ad S9) hx hb hr hlocks (by decide +kernel) (by decide +kernel) hP hD hS ⟨_, rfl, rfl⟩ d_Tokens_clearAll_21) k) S (fun _ => 0) (fun _ => 0) ls _ _ h hl hP hD hS
def f_Tokens_spelled : Nat → Nat → sS → (Nat → Int32) → (Nat → Int64) → Option (Int64 × sS)
  | 0, _, _, _, _ => none
  | k + 1, 0, S, L, M => some ((((L 0).toInt64) <<< ((32 : Int32).toInt64 &&& 63)) ||| ((L 1).toInt64), S)
  | _ + 1, _ + 1, _, _, _ => none
set_option maxHeartbeats 8000000 in
set_option maxRecDepth 100000 in
theorem w_Tokens_spelled {p : Program} {l : Launch} {e : Env} {R : Room} {s : State} {m : MethodId} {args : Array Value} {below : List Frame} {meth : Method} {c : Code} {cells slots : Nat} {Q : State → Prop} {g : gG} {A : Nat → Prop} {ad : Nat → Nat} (hx : p.tables.exec = Jvm.exec) (hb : c.code = b_Tokens_spelled) (hml : c.maxLocals = 2) (hown : s.vm.findClass "MacroMill$Tokens" = some m.cls) (htt : ∀ w ∈ gt, w.before args s = true) (hK : va_K g.1 classes (tysG g) s) (hN : nw s) (hA : ∀ q : Nat, s.heap.size ≤ q → A q) (r : Int64) (S9 : sS)
    (kx_8 : ∀ (ls : Array Slot) (H : Heap) (locs : List Loc), va_P g.1 classes (Sw shC g ad S9) H → va_D A (Sw shC g ad S9) → va_S A s.heap H locs → W p l e R s m args below meth c H locs cells slots Q (F0 m 8 ls [.long r])) :
    ∀ k9 : Nat, (∀ (S : sS) (L : Nat → Int32) (M : Nat → Int64) (ls : Array Slot) (H : Heap) (locs : List Loc), f_Tokens_spelled k9 0 S L M = some (r, S9) → lv_has ls 2 [(0, .int (L 0)), (1, .int (L 1))] → va_P g.1 classes (Sw shC g ad S) H → va_D A (Sw shC g ad S) → va_S A s.heap H locs → W p l e R s m args below meth c H locs cells slots Q (F0 m 0 ls [])) := by
  intro k9
  induction k9 with
  | zero => exact (fun _ _ _ _ _ _ h => by simp [f_Tokens_spelled] at h)
  | succ k9 ih =>
    · intro S L M ls H locs h hl hP hD hS
      simp only [f_Tokens_spelled] at h
      refine lv_iload_n hx hb d_Tokens_spelled_0 rfl (lv_at hl 0 rfl) ?_
      refine lv_i2l (v := (L 0).toInt64) hx hb d_Tokens_spelled_1 rfl ?_
      refine lv_bipush (v := 32) hx hb d_Tokens_spelled_2 (by decide) ?_
      refine lv_lshl (v := ((L 0).toInt64) <<< ((32 : Int32).toInt64 &&& 63)) hx hb d_Tokens_spelled_4 rfl ?_
      refine lv_iload_n hx hb d_Tokens_spelled_5 rfl (lv_at hl 1 rfl) ?_
      refine lv_i2l (v := (L 1).toInt64) hx hb d_Tokens_spelled_6 rfl ?_
      refine lv_lor hx hb d_Tokens_spelled_7 ?_
      cases h
      exact kx_8 ls H locs hP hD hS
abbrev rm_t_Tokens_spelled : Room := { frames := 0, cells := 0, slots := 0, locals := 0 }
theorem t_Tokens_spelled (l : Launch) (g : gG) (sz : Nat) (ad : Nat → Nat) (S : sS) (v1 : Int32) (v2 : Int32) (k : Nat) (r : Int64) (S9 : sS) (h : f_Tokens_spelled k 0 S (upd (upd (fun _ => 0) 0 v1) 1 v2) (fun _ => 0) = some (r, S9)) : Cl l y_Tokens_spelled b_Tokens_spelled 2 rm_t_Tokens_spelled g [.int v1, .int v2] (Sw shC g ad S) sz (fun r1 w => ∃ S1 : sS, w = Sw shC g ad S1 ∧ r1 = r ∧ S1 = S9) := by
  refine startL (by decide) (Nat.le_of_ble_eq_true rfl) ?_
  intro p e s m below meth c A ls hx hb hr hml hlocks hmn hown htt hN hA hP hK hD hS hl
  exact (w_Tokens_spelled hx hb hml hown htt hK hN hA r S9 (fun ls H locs hP hD hS => fin_l (g := g) (ws := Sw shC g ad S9) hx hb hr hlocks (by decide +kernel) (by decide +kernel) hP hD hS ⟨_, rfl, rfl, rfl⟩ d_Tokens_spelled_8) k) S (upd (upd (fun _ => 0) 0 v1) 1 v2) (fun _ => 0) ls _ _ h hl hP hD hS
def f_Tokens_fromOf : Nat → Nat → sS → (Nat → Int32) → (Nat → Int64) → Option (Int32 × sS)
  | 0, _, _, _, _ => none
  | k + 1, 0, S, L, M => some ((((M 0).toUInt64 >>> ((32 : Int32).toInt64.toUInt64 &&& Int64.toUInt64 63)).toInt64).toInt32, S)
  | _ + 1, _ + 1, _, _, _ => none
set_option maxHeartbeats 8000000 in
set_option maxRecDepth 100000 in
theorem w_Tokens_fromOf {p : Program} {l : Launch} {e : Env} {R : Room} {s : State} {m : MethodId} {args : Array Value} {below : List Frame} {meth : Method} {c : Code} {cells slots : Nat} {Q : State → Prop} {g : gG} {A : Nat → Prop} {ad : Nat → Nat} (hx : p.tables.exec = Jvm.exec) (hb : c.code = b_Tokens_fromOf) (hml : c.maxLocals = 2) (hown : s.vm.findClass "MacroMill$Tokens" = some m.cls) (htt : ∀ w ∈ gt, w.before args s = true) (hK : va_K g.1 classes (tysG g) s) (hN : nw s) (hA : ∀ q : Nat, s.heap.size ≤ q → A q) (r : Int32) (S9 : sS)
    (kx_5 : ∀ (ls : Array Slot) (H : Heap) (locs : List Loc), va_P g.1 classes (Sw shC g ad S9) H → va_D A (Sw shC g ad S9) → va_S A s.heap H locs → W p l e R s m args below meth c H locs cells slots Q (F0 m 5 ls [.int r])) :
    ∀ k9 : Nat, (∀ (S : sS) (L : Nat → Int32) (M : Nat → Int64) (ls : Array Slot) (H : Heap) (locs : List Loc), f_Tokens_fromOf k9 0 S L M = some (r, S9) → lv_has ls 2 [(0, .long (M 0))] → va_P g.1 classes (Sw shC g ad S) H → va_D A (Sw shC g ad S) → va_S A s.heap H locs → W p l e R s m args below meth c H locs cells slots Q (F0 m 0 ls [])) := by
  intro k9
  induction k9 with
  | zero => exact (fun _ _ _ _ _ _ h => by simp [f_Tokens_fromOf] at h)
  | succ k9 ih =>
    · intro S L M ls H locs h hl hP hD hS
      simp only [f_Tokens_fromOf] at h
      refine lv_lload_n hx hb d_Tokens_fromOf_0 rfl (lv_at hl 0 rfl) ?_
      refine lv_bipush (v := 32) hx hb d_Tokens_fromOf_1 (by decide) ?_
      refine lv_lushr (v := ((M 0).toUInt64 >>> ((32 : Int32).toInt64.toUInt64 &&& Int64.toUInt64 63)).toInt64) hx hb d_Tokens_fromOf_3 rfl ?_
      refine lv_l2i (v := (((M 0).toUInt64 >>> ((32 : Int32).toInt64.toUInt64 &&& Int64.toUInt64 63)).toInt64).toInt32) hx hb d_Tokens_fromOf_4 rfl ?_
      cases h
      exact kx_5 ls H locs hP hD hS
abbrev rm_t_Tokens_fromOf : Room := { frames := 0, cells := 0, slots := 0, locals := 0 }
theorem t_Tokens_fromOf (l : Launch) (g : gG) (sz : Nat) (ad : Nat → Nat) (S : sS) (v1 : Int64) (k : Nat) (r : Int32) (S9 : sS) (h : f_Tokens_fromOf k 0 S (fun _ => 0) (vp_updL (fun _ => 0) 0 v1) = some (r, S9)) : Ci l y_Tokens_fromOf b_Tokens_fromOf 2 rm_t_Tokens_fromOf g [.long v1] (Sw shC g ad S) sz (fun r1 w => ∃ S1 : sS, w = Sw shC g ad S1 ∧ r1 = r ∧ S1 = S9) := by
  refine startI (by decide) (Nat.le_of_ble_eq_true rfl) ?_
  intro p e s m below meth c A ls hx hb hr hml hlocks hmn hown htt hN hA hP hK hD hS hl
  exact (w_Tokens_fromOf hx hb hml hown htt hK hN hA r S9 (fun ls H locs hP hD hS => fin_i (g := g) (ws := Sw shC g ad S9) hx hb hr hlocks (by decide +kernel) (by decide +kernel) hP hD hS ⟨_, rfl, rfl, rfl⟩ d_Tokens_fromOf_5) k) S (fun _ => 0) (vp_updL (fun _ => 0) 0 v1) ls _ _ h hl hP hD hS
def f_Tokens_lengthOf : Nat → Nat → sS → (Nat → Int32) → (Nat → Int64) → Option (Int32 × sS)
  | 0, _, _, _, _ => none
  | k + 1, 0, S, L, M => some ((M 0).toInt32, S)
  | _ + 1, _ + 1, _, _, _ => none
set_option maxHeartbeats 8000000 in
set_option maxRecDepth 100000 in
theorem w_Tokens_lengthOf {p : Program} {l : Launch} {e : Env} {R : Room} {s : State} {m : MethodId} {args : Array Value} {below : List Frame} {meth : Method} {c : Code} {cells slots : Nat} {Q : State → Prop} {g : gG} {A : Nat → Prop} {ad : Nat → Nat} (hx : p.tables.exec = Jvm.exec) (hb : c.code = b_Tokens_lengthOf) (hml : c.maxLocals = 2) (hown : s.vm.findClass "MacroMill$Tokens" = some m.cls) (htt : ∀ w ∈ gt, w.before args s = true) (hK : va_K g.1 classes (tysG g) s) (hN : nw s) (hA : ∀ q : Nat, s.heap.size ≤ q → A q) (r : Int32) (S9 : sS)
    (kx_2 : ∀ (ls : Array Slot) (H : Heap) (locs : List Loc), va_P g.1 classes (Sw shC g ad S9) H → va_D A (Sw shC g ad S9) → va_S A s.heap H locs → W p l e R s m args below meth c H locs cells slots Q (F0 m 2 ls [.int r])) :
    ∀ k9 : Nat, (∀ (S : sS) (L : Nat → Int32) (M : Nat → Int64) (ls : Array Slot) (H : Heap) (locs : List Loc), f_Tokens_lengthOf k9 0 S L M = some (r, S9) → lv_has ls 2 [(0, .long (M 0))] → va_P g.1 classes (Sw shC g ad S) H → va_D A (Sw shC g ad S) → va_S A s.heap H locs → W p l e R s m args below meth c H locs cells slots Q (F0 m 0 ls [])) := by
  intro k9
  induction k9 with
  | zero => exact (fun _ _ _ _ _ _ h => by simp [f_Tokens_lengthOf] at h)
  | succ k9 ih =>
    · intro S L M ls H locs h hl hP hD hS
      simp only [f_Tokens_lengthOf] at h
      refine lv_lload_n hx hb d_Tokens_lengthOf_0 rfl (lv_at hl 0 rfl) ?_
      refine lv_l2i (v := (M 0).toInt32) hx hb d_Tokens_lengthOf_1 rfl ?_
      cases h
      exact kx_2 ls H locs hP hD hS
abbrev rm_t_Tokens_lengthOf : Room := { frames := 0, cells := 0, slots := 0, locals := 0 }
theorem t_Tokens_lengthOf (l : Launch) (g : gG) (sz : Nat) (ad : Nat → Nat) (S : sS) (v1 : Int64) (k : Nat) (r : Int32) (S9 : sS) (h : f_Tokens_lengthOf k 0 S (fun _ => 0) (vp_updL (fun _ => 0) 0 v1) = some (r, S9)) : Ci l y_Tokens_lengthOf b_Tokens_lengthOf 2 rm_t_Tokens_lengthOf g [.long v1] (Sw shC g ad S) sz (fun r1 w => ∃ S1 : sS, w = Sw shC g ad S1 ∧ r1 = r ∧ S1 = S9) := by
  refine startI (by decide) (Nat.le_of_ble_eq_true rfl) ?_
  intro p e s m below meth c A ls hx hb hr hml hlocks hmn hown htt hN hA hP hK hD hS hl
  exact (w_Tokens_lengthOf hx hb hml hown htt hK hN hA r S9 (fun ls H locs hP hD hS => fin_i (g := g) (ws := Sw shC g ad S9) hx hb hr hlocks (by decide +kernel) (by decide +kernel) hP hD hS ⟨_, rfl, rfl, rfl⟩ d_Tokens_lengthOf_2) k) S (fun _ => 0) (vp_updL (fun _ => 0) 0 v1) ls _ _ h hl hP hD hS
def f_Tokens_looking : Nat → Nat → sS → (Nat → Int32) → (Nat → Int64) → Option (Int32 × sS)
  | 0, _, _, _, _ => none
  | k + 1, 0, S, L, M => if (L 1) = (0 : Int32) then (f_Tokens_looking k 1 S (upd (upd L 101 (0 : Int32)) 100 (L 0)) M) else (f_Tokens_looking k 1 S (upd (upd L 101 (8 : Int32)) 100 (L 0)) M)
  | k + 1, 1, S, L, M => if (L 2) = (0 : Int32) then (f_Tokens_looking k 2 S (upd (upd L 101 (0 : Int32)) 100 ((L 100) ||| (L 101))) M) else (f_Tokens_looking k 2 S (upd (upd L 101 (16 : Int32)) 100 ((L 100) ||| (L 101))) M)
  | k + 1, 2, S, L, M => some (((L 100) ||| (L 101)) ||| ((L 3) <<< ((15 : Int32) &&& 31)), S)
  | _ + 1, _ + 3, _, _, _ => none
set_option maxHeartbeats 8000000 in
set_option maxRecDepth 100000 in
theorem w_Tokens_looking {p : Program} {l : Launch} {e : Env} {R : Room} {s : State} {m : MethodId} {args : Array Value} {below : List Frame} {meth : Method} {c : Code} {cells slots : Nat} {Q : State → Prop} {g : gG} {A : Nat → Prop} {ad : Nat → Nat} (hx : p.tables.exec = Jvm.exec) (hb : c.code = b_Tokens_looking) (hml : c.maxLocals = 4) (hown : s.vm.findClass "MacroMill$Tokens" = some m.cls) (htt : ∀ w ∈ gt, w.before args s = true) (hK : va_K g.1 classes (tysG g) s) (hN : nw s) (hA : ∀ q : Nat, s.heap.size ≤ q → A q) (r : Int32) (S9 : sS)
    (kx_28 : ∀ (ls : Array Slot) (H : Heap) (locs : List Loc), va_P g.1 classes (Sw shC g ad S9) H → va_D A (Sw shC g ad S9) → va_S A s.heap H locs → W p l e R s m args below meth c H locs cells slots Q (F0 m 28 ls [.int r])) :
    ∀ k9 : Nat, (∀ (S : sS) (L : Nat → Int32) (M : Nat → Int64) (ls : Array Slot) (H : Heap) (locs : List Loc), f_Tokens_looking k9 0 S L M = some (r, S9) → lv_has ls 4 [(0, .int (L 0)), (1, .int (L 1)), (2, .int (L 2)), (3, .int (L 3))] → va_P g.1 classes (Sw shC g ad S) H → va_D A (Sw shC g ad S) → va_S A s.heap H locs → W p l e R s m args below meth c H locs cells slots Q (F0 m 0 ls [])) ∧ (∀ (S : sS) (L : Nat → Int32) (M : Nat → Int64) (ls : Array Slot) (H : Heap) (locs : List Loc), f_Tokens_looking k9 1 S L M = some (r, S9) → lv_has ls 4 [(0, .int (L 0)), (1, .int (L 1)), (2, .int (L 2)), (3, .int (L 3))] → va_P g.1 classes (Sw shC g ad S) H → va_D A (Sw shC g ad S) → va_S A s.heap H locs → W p l e R s m args below meth c H locs cells slots Q (F0 m 11 ls [.int (L 101), .int (L 100)])) ∧ (∀ (S : sS) (L : Nat → Int32) (M : Nat → Int64) (ls : Array Slot) (H : Heap) (locs : List Loc), f_Tokens_looking k9 2 S L M = some (r, S9) → lv_has ls 4 [(0, .int (L 0)), (1, .int (L 1)), (2, .int (L 2)), (3, .int (L 3))] → va_P g.1 classes (Sw shC g ad S) H → va_D A (Sw shC g ad S) → va_S A s.heap H locs → W p l e R s m args below meth c H locs cells slots Q (F0 m 22 ls [.int (L 101), .int (L 100)])) := by
  intro k9
  induction k9 with
  | zero => exact ⟨(fun _ _ _ _ _ _ h => by simp [f_Tokens_looking] at h), (fun _ _ _ _ _ _ h => by simp [f_Tokens_looking] at h), (fun _ _ _ _ _ _ h => by simp [f_Tokens_looking] at h)⟩
  | succ k9 ih =>
    refine ⟨?_, ?_, ?_⟩
    · intro S L M ls H locs h hl hP hD hS
      simp only [f_Tokens_looking] at h
      refine lv_iload_n hx hb d_Tokens_looking_0 rfl (lv_at hl 0 rfl) ?_
      refine lv_iload_n hx hb d_Tokens_looking_1 rfl (lv_at hl 1 rfl) ?_
      refine lv_if_eq (tgt := 10) hx hb d_Tokens_looking_2 (by decide) (fun hc1 => ?_) (fun hc1 => ?_)
      · rw [if_pos hc1] at h
        refine lv_iconst (v := 0) hx hb d_Tokens_looking_10 (by decide) ?_
        exact (ih.2.1) S (upd (upd L 101 (0 : Int32)) 100 (L 0)) M ls H locs h (lv_sub hl [0, 1, 2, 3] rfl) hP hD hS
      · rw [if_neg hc1] at h
        refine lv_bipush (v := 8) hx hb d_Tokens_looking_5 (by decide) ?_
        refine lv_goto (tgt := 11) hx hb d_Tokens_looking_7 (by decide) ?_
        exact (ih.2.1) S (upd (upd L 101 (8 : Int32)) 100 (L 0)) M ls H locs h (lv_sub hl [0, 1, 2, 3] rfl) hP hD hS
    · intro S L M ls H locs h hl hP hD hS
      simp only [f_Tokens_looking] at h
      refine lv_ior hx hb d_Tokens_looking_11 ?_
      refine lv_iload_n hx hb d_Tokens_looking_12 rfl (lv_at hl 2 rfl) ?_
      refine lv_if_eq (tgt := 21) hx hb d_Tokens_looking_13 (by decide) (fun hc1 => ?_) (fun hc1 => ?_)
      · rw [if_pos hc1] at h
        refine lv_iconst (v := 0) hx hb d_Tokens_looking_21 (by decide) ?_
        exact (ih.2.2) S (upd (upd L 101 (0 : Int32)) 100 ((L 100) ||| (L 101))) M ls H locs h (lv_sub hl [0, 1, 2, 3] rfl) hP hD hS
      · rw [if_neg hc1] at h
        refine lv_bipush (v := 16) hx hb d_Tokens_looking_16 (by decide) ?_
        refine lv_goto (tgt := 22) hx hb d_Tokens_looking_18 (by decide) ?_
        exact (ih.2.2) S (upd (upd L 101 (16 : Int32)) 100 ((L 100) ||| (L 101))) M ls H locs h (lv_sub hl [0, 1, 2, 3] rfl) hP hD hS
    · intro S L M ls H locs h hl hP hD hS
      simp only [f_Tokens_looking] at h
      refine lv_ior hx hb d_Tokens_looking_22 ?_
      refine lv_iload_n hx hb d_Tokens_looking_23 rfl (lv_at hl 3 rfl) ?_
      refine lv_bipush (v := 15) hx hb d_Tokens_looking_24 (by decide) ?_
      refine lv_ishl hx hb d_Tokens_looking_26 ?_
      refine lv_ior hx hb d_Tokens_looking_27 ?_
      cases h
      exact kx_28 ls H locs hP hD hS
abbrev rm_t_Tokens_looking : Room := { frames := 0, cells := 0, slots := 0, locals := 0 }
theorem t_Tokens_looking (l : Launch) (g : gG) (sz : Nat) (ad : Nat → Nat) (S : sS) (v1 : Int32) (v2 : Int32) (v3 : Int32) (v4 : Int32) (k : Nat) (r : Int32) (S9 : sS) (h : f_Tokens_looking k 0 S (upd (upd (upd (upd (fun _ => 0) 0 v1) 1 v2) 2 v3) 3 v4) (fun _ => 0) = some (r, S9)) : Ci l y_Tokens_looking b_Tokens_looking 4 rm_t_Tokens_looking g [.int v1, .int v2, .int v3, .int v4] (Sw shC g ad S) sz (fun r1 w => ∃ S1 : sS, w = Sw shC g ad S1 ∧ r1 = r ∧ S1 = S9) := by
  refine startI (by decide) (Nat.le_of_ble_eq_true rfl) ?_
  intro p e s m below meth c A ls hx hb hr hml hlocks hmn hown htt hN hA hP hK hD hS hl
  exact (w_Tokens_looking hx hb hml hown htt hK hN hA r S9 (fun ls H locs hP hD hS => fin_i (g := g) (ws := Sw shC g ad S9) hx hb hr hlocks (by decide +kernel) (by decide +kernel) hP hD hS ⟨_, rfl, rfl, rfl⟩ d_Tokens_looking_28) k).1 S (upd (upd (upd (upd (fun _ => 0) 0 v1) 1 v2) 2 v3) 3 v4) (fun _ => 0) ls _ _ h hl hP hD hS
def f_Tokens_withKind : Nat → Nat → sS → (Nat → Int32) → (Nat → Int64) → Option (Int32 × sS)
  | 0, _, _, _, _ => none
  | k + 1, 0, S, L, M => some (((L 0) &&& ((-8) : Int32)) ||| (L 1), S)
  | _ + 1, _ + 1, _, _, _ => none
set_option maxHeartbeats 8000000 in
set_option maxRecDepth 100000 in
theorem w_Tokens_withKind {p : Program} {l : Launch} {e : Env} {R : Room} {s : State} {m : MethodId} {args : Array Value} {below : List Frame} {meth : Method} {c : Code} {cells slots : Nat} {Q : State → Prop} {g : gG} {A : Nat → Prop} {ad : Nat → Nat} (hx : p.tables.exec = Jvm.exec) (hb : c.code = b_Tokens_withKind) (hml : c.maxLocals = 2) (hown : s.vm.findClass "MacroMill$Tokens" = some m.cls) (htt : ∀ w ∈ gt, w.before args s = true) (hK : va_K g.1 classes (tysG g) s) (hN : nw s) (hA : ∀ q : Nat, s.heap.size ≤ q → A q) (r : Int32) (S9 : sS)
    (kx_6 : ∀ (ls : Array Slot) (H : Heap) (locs : List Loc), va_P g.1 classes (Sw shC g ad S9) H → va_D A (Sw shC g ad S9) → va_S A s.heap H locs → W p l e R s m args below meth c H locs cells slots Q (F0 m 6 ls [.int r])) :
    ∀ k9 : Nat, (∀ (S : sS) (L : Nat → Int32) (M : Nat → Int64) (ls : Array Slot) (H : Heap) (locs : List Loc), f_Tokens_withKind k9 0 S L M = some (r, S9) → lv_has ls 2 [(0, .int (L 0)), (1, .int (L 1))] → va_P g.1 classes (Sw shC g ad S) H → va_D A (Sw shC g ad S) → va_S A s.heap H locs → W p l e R s m args below meth c H locs cells slots Q (F0 m 0 ls [])) := by
  intro k9
  induction k9 with
  | zero => exact (fun _ _ _ _ _ _ h => by simp [f_Tokens_withKind] at h)
  | succ k9 ih =>
    · intro S L M ls H locs h hl hP hD hS
      simp only [f_Tokens_withKind] at h
      refine lv_iload_n hx hb d_Tokens_withKind_0 rfl (lv_at hl 0 rfl) ?_
      refine lv_bipush (v := (-8)) hx hb d_Tokens_withKind_1 (by decide) ?_
      refine lv_iand hx hb d_Tokens_withKind_3 ?_
      refine lv_iload_n hx hb d_Tokens_withKind_4 rfl (lv_at hl 1 rfl) ?_
      refine lv_ior hx hb d_Tokens_withKind_5 ?_
      cases h
      exact kx_6 ls H locs hP hD hS
abbrev rm_t_Tokens_withKind : Room := { frames := 0, cells := 0, slots := 0, locals := 0 }
theorem t_Tokens_withKind (l : Launch) (g : gG) (sz : Nat) (ad : Nat → Nat) (S : sS) (v1 : Int32) (v2 : Int32) (k : Nat) (r : Int32) (S9 : sS) (h : f_Tokens_withKind k 0 S (upd (upd (fun _ => 0) 0 v1) 1 v2) (fun _ => 0) = some (r, S9)) : Ci l y_Tokens_withKind b_Tokens_withKind 2 rm_t_Tokens_withKind g [.int v1, .int v2] (Sw shC g ad S) sz (fun r1 w => ∃ S1 : sS, w = Sw shC g ad S1 ∧ r1 = r ∧ S1 = S9) := by
  refine startI (by decide) (Nat.le_of_ble_eq_true rfl) ?_
  intro p e s m below meth c A ls hx hb hr hml hlocks hmn hown htt hN hA hP hK hD hS hl
  exact (w_Tokens_withKind hx hb hml hown htt hK hN hA r S9 (fun ls H locs hP hD hS => fin_i (g := g) (ws := Sw shC g ad S9) hx hb hr hlocks (by decide +kernel) (by decide +kernel) hP hD hS ⟨_, rfl, rfl, rfl⟩ d_Tokens_withKind_6) k) S (upd (upd (fun _ => 0) 0 v1) 1 v2) (fun _ => 0) ls _ _ h hl hP hD hS
def f_Tokens_withSet : Nat → Nat → sS → (Nat → Int32) → (Nat → Int64) → Option (Int32 × sS)
  | 0, _, _, _, _ => none
  | k + 1, 0, S, L, M => some (((L 0) &&& ((-32737) : Int32)) ||| ((L 1) <<< ((5 : Int32) &&& 31)), S)
  | _ + 1, _ + 1, _, _, _ => none
set_option maxHeartbeats 8000000 in
set_option maxRecDepth 100000 in
theorem w_Tokens_withSet {p : Program} {l : Launch} {e : Env} {R : Room} {s : State} {m : MethodId} {args : Array Value} {below : List Frame} {meth : Method} {c : Code} {cells slots : Nat} {Q : State → Prop} {g : gG} {A : Nat → Prop} {ad : Nat → Nat} (hx : p.tables.exec = Jvm.exec) (hb : c.code = b_Tokens_withSet) (hml : c.maxLocals = 2) (hown : s.vm.findClass "MacroMill$Tokens" = some m.cls) (htt : ∀ w ∈ gt, w.before args s = true) (hK : va_K g.1 classes (tysG g) s) (hN : nw s) (hA : ∀ q : Nat, s.heap.size ≤ q → A q) (r : Int32) (S9 : sS)
    (kx_9 : ∀ (ls : Array Slot) (H : Heap) (locs : List Loc), va_P g.1 classes (Sw shC g ad S9) H → va_D A (Sw shC g ad S9) → va_S A s.heap H locs → W p l e R s m args below meth c H locs cells slots Q (F0 m 9 ls [.int r])) :
    ∀ k9 : Nat, (∀ (S : sS) (L : Nat → Int32) (M : Nat → Int64) (ls : Array Slot) (H : Heap) (locs : List Loc), f_Tokens_withSet k9 0 S L M = some (r, S9) → lv_has ls 2 [(0, .int (L 0)), (1, .int (L 1))] → va_P g.1 classes (Sw shC g ad S) H → va_D A (Sw shC g ad S) → va_S A s.heap H locs → W p l e R s m args below meth c H locs cells slots Q (F0 m 0 ls [])) := by
  intro k9
  induction k9 with
  | zero => exact (fun _ _ _ _ _ _ h => by simp [f_Tokens_withSet] at h)
  | succ k9 ih =>
    · intro S L M ls H locs h hl hP hD hS
      simp only [f_Tokens_withSet] at h
      refine lv_iload_n hx hb d_Tokens_withSet_0 rfl (lv_at hl 0 rfl) ?_
      refine lv_sipush (v := (-32737)) hx hb d_Tokens_withSet_1 (by decide) ?_
      refine lv_iand hx hb d_Tokens_withSet_4 ?_
      refine lv_iload_n hx hb d_Tokens_withSet_5 rfl (lv_at hl 1 rfl) ?_
      refine lv_iconst (v := 5) hx hb d_Tokens_withSet_6 (by decide) ?_
      refine lv_ishl hx hb d_Tokens_withSet_7 ?_
      refine lv_ior hx hb d_Tokens_withSet_8 ?_
      cases h
      exact kx_9 ls H locs hP hD hS
abbrev rm_t_Tokens_withSet : Room := { frames := 0, cells := 0, slots := 0, locals := 0 }
theorem t_Tokens_withSet (l : Launch) (g : gG) (sz : Nat) (ad : Nat → Nat) (S : sS) (v1 : Int32) (v2 : Int32) (k : Nat) (r : Int32) (S9 : sS) (h : f_Tokens_withSet k 0 S (upd (upd (fun _ => 0) 0 v1) 1 v2) (fun _ => 0) = some (r, S9)) : Ci l y_Tokens_withSet b_Tokens_withSet 2 rm_t_Tokens_withSet g [.int v1, .int v2] (Sw shC g ad S) sz (fun r1 w => ∃ S1 : sS, w = Sw shC g ad S1 ∧ r1 = r ∧ S1 = S9) := by
  refine startI (by decide) (Nat.le_of_ble_eq_true rfl) ?_
  intro p e s m below meth c A ls hx hb hr hml hlocks hmn hown htt hN hA hP hK hD hS hl
  exact (w_Tokens_withSet hx hb hml hown htt hK hN hA r S9 (fun ls H locs hP hD hS => fin_i (g := g) (ws := Sw shC g ad S9) hx hb hr hlocks (by decide +kernel) (by decide +kernel) hP hD hS ⟨_, rfl, rfl, rfl⟩ d_Tokens_withSet_9) k) S (upd (upd (fun _ => 0) 0 v1) 1 v2) (fun _ => 0) ls _ _ h hl hP hD hS
def f_Tokens_withLine : Nat → Nat → sS → (Nat → Int32) → (Nat → Int64) → Option (Int32 × sS)
  | 0, _, _, _, _ => none
  | k + 1, 0, S, L, M => some (((L 0) &&& (32767 : Int32)) ||| ((L 1) <<< ((15 : Int32) &&& 31)), S)
  | _ + 1, _ + 1, _, _, _ => none
set_option maxHeartbeats 8000000 in
set_option maxRecDepth 100000 in
theorem w_Tokens_withLine {p : Program} {l : Launch} {e : Env} {R : Room} {s : State} {m : MethodId} {args : Array Value} {below : List Frame} {meth : Method} {c : Code} {cells slots : Nat} {Q : State → Prop} {g : gG} {A : Nat → Prop} {ad : Nat → Nat} (hx : p.tables.exec = Jvm.exec) (hb : c.code = b_Tokens_withLine) (hml : c.maxLocals = 2) (hown : s.vm.findClass "MacroMill$Tokens" = some m.cls) (htt : ∀ w ∈ gt, w.before args s = true) (hK : va_K g.1 classes (tysG g) s) (hN : nw s) (hA : ∀ q : Nat, s.heap.size ≤ q → A q) (r : Int32) (S9 : sS)
    (kx_10 : ∀ (ls : Array Slot) (H : Heap) (locs : List Loc), va_P g.1 classes (Sw shC g ad S9) H → va_D A (Sw shC g ad S9) → va_S A s.heap H locs → W p l e R s m args below meth c H locs cells slots Q (F0 m 10 ls [.int r])) :
    ∀ k9 : Nat, (∀ (S : sS) (L : Nat → Int32) (M : Nat → Int64) (ls : Array Slot) (H : Heap) (locs : List Loc), f_Tokens_withLine k9 0 S L M = some (r, S9) → lv_has ls 2 [(0, .int (L 0)), (1, .int (L 1))] → va_P g.1 classes (Sw shC g ad S) H → va_D A (Sw shC g ad S) → va_S A s.heap H locs → W p l e R s m args below meth c H locs cells slots Q (F0 m 0 ls [])) := by
  intro k9
  induction k9 with
  | zero => exact (fun _ _ _ _ _ _ h => by simp [f_Tokens_withLine] at h)
  | succ k9 ih =>
    · intro S L M ls H locs h hl hP hD hS
      simp only [f_Tokens_withLine] at h
      refine lv_iload_n hx hb d_Tokens_withLine_0 rfl (lv_at hl 0 rfl) ?_
      refine lv_sipush (v := 32767) hx hb d_Tokens_withLine_1 (by decide) ?_
      refine lv_iand hx hb d_Tokens_withLine_4 ?_
      refine lv_iload_n hx hb d_Tokens_withLine_5 rfl (lv_at hl 1 rfl) ?_
      refine lv_bipush (v := 15) hx hb d_Tokens_withLine_6 (by decide) ?_
      refine lv_ishl hx hb d_Tokens_withLine_8 ?_
      refine lv_ior hx hb d_Tokens_withLine_9 ?_
      cases h
      exact kx_10 ls H locs hP hD hS
abbrev rm_t_Tokens_withLine : Room := { frames := 0, cells := 0, slots := 0, locals := 0 }
theorem t_Tokens_withLine (l : Launch) (g : gG) (sz : Nat) (ad : Nat → Nat) (S : sS) (v1 : Int32) (v2 : Int32) (k : Nat) (r : Int32) (S9 : sS) (h : f_Tokens_withLine k 0 S (upd (upd (fun _ => 0) 0 v1) 1 v2) (fun _ => 0) = some (r, S9)) : Ci l y_Tokens_withLine b_Tokens_withLine 2 rm_t_Tokens_withLine g [.int v1, .int v2] (Sw shC g ad S) sz (fun r1 w => ∃ S1 : sS, w = Sw shC g ad S1 ∧ r1 = r ∧ S1 = S9) := by
  refine startI (by decide) (Nat.le_of_ble_eq_true rfl) ?_
  intro p e s m below meth c A ls hx hb hr hml hlocks hmn hown htt hN hA hP hK hD hS hl
  exact (w_Tokens_withLine hx hb hml hown htt hK hN hA r S9 (fun ls H locs hP hD hS => fin_i (g := g) (ws := Sw shC g ad S9) hx hb hr hlocks (by decide +kernel) (by decide +kernel) hP hD hS ⟨_, rfl, rfl, rfl⟩ d_Tokens_withLine_10) k) S (upd (upd (fun _ => 0) 0 v1) 1 v2) (fun _ => 0) ls _ _ h hl hP hD hS
def f_Tokens_moved : Nat → Nat → sS → (Nat → Int32) → (Nat → Int64) → Option (Int32 × sS)
  | 0, _, _, _, _ => none
  | k + 1, 0, S, L, M => some ((L 0) &&& ((-17) : Int32), S)
  | _ + 1, _ + 1, _, _, _ => none
set_option maxHeartbeats 8000000 in
set_option maxRecDepth 100000 in
theorem w_Tokens_moved {p : Program} {l : Launch} {e : Env} {R : Room} {s : State} {m : MethodId} {args : Array Value} {below : List Frame} {meth : Method} {c : Code} {cells slots : Nat} {Q : State → Prop} {g : gG} {A : Nat → Prop} {ad : Nat → Nat} (hx : p.tables.exec = Jvm.exec) (hb : c.code = b_Tokens_moved) (hml : c.maxLocals = 1) (hown : s.vm.findClass "MacroMill$Tokens" = some m.cls) (htt : ∀ w ∈ gt, w.before args s = true) (hK : va_K g.1 classes (tysG g) s) (hN : nw s) (hA : ∀ q : Nat, s.heap.size ≤ q → A q) (r : Int32) (S9 : sS)
    (kx_4 : ∀ (ls : Array Slot) (H : Heap) (locs : List Loc), va_P g.1 classes (Sw shC g ad S9) H → va_D A (Sw shC g ad S9) → va_S A s.heap H locs → W p l e R s m args below meth c H locs cells slots Q (F0 m 4 ls [.int r])) :
    ∀ k9 : Nat, (∀ (S : sS) (L : Nat → Int32) (M : Nat → Int64) (ls : Array Slot) (H : Heap) (locs : List Loc), f_Tokens_moved k9 0 S L M = some (r, S9) → lv_has ls 1 [(0, .int (L 0))] → va_P g.1 classes (Sw shC g ad S) H → va_D A (Sw shC g ad S) → va_S A s.heap H locs → W p l e R s m args below meth c H locs cells slots Q (F0 m 0 ls [])) := by
  intro k9
  induction k9 with
  | zero => exact (fun _ _ _ _ _ _ h => by simp [f_Tokens_moved] at h)
  | succ k9 ih =>
    · intro S L M ls H locs h hl hP hD hS
      simp only [f_Tokens_moved] at h
      refine lv_iload_n hx hb d_Tokens_moved_0 rfl (lv_at hl 0 rfl) ?_
      refine lv_bipush (v := (-17)) hx hb d_Tokens_moved_1 (by decide) ?_
      refine lv_iand hx hb d_Tokens_moved_3 ?_
      cases h
      exact kx_4 ls H locs hP hD hS
abbrev rm_t_Tokens_moved : Room := { frames := 0, cells := 0, slots := 0, locals := 0 }
theorem t_Tokens_moved (l : Launch) (g : gG) (sz : Nat) (ad : Nat → Nat) (S : sS) (v1 : Int32) (k : Nat) (r : Int32) (S9 : sS) (h : f_Tokens_moved k 0 S (upd (fun _ => 0) 0 v1) (fun _ => 0) = some (r, S9)) : Ci l y_Tokens_moved b_Tokens_moved 1 rm_t_Tokens_moved g [.int v1] (Sw shC g ad S) sz (fun r1 w => ∃ S1 : sS, w = Sw shC g ad S1 ∧ r1 = r ∧ S1 = S9) := by
  refine startI (by decide) (Nat.le_of_ble_eq_true rfl) ?_
  intro p e s m below meth c A ls hx hb hr hml hlocks hmn hown htt hN hA hP hK hD hS hl
  exact (w_Tokens_moved hx hb hml hown htt hK hN hA r S9 (fun ls H locs hP hD hS => fin_i (g := g) (ws := Sw shC g ad S9) hx hb hr hlocks (by decide +kernel) (by decide +kernel) hP hD hS ⟨_, rfl, rfl, rfl⟩ d_Tokens_moved_4) k) S (upd (fun _ => 0) 0 v1) (fun _ => 0) ls _ _ h hl hP hD hS
def f_Tokens_placedAs : Nat → Nat → sS → (Nat → Int32) → (Nat → Int64) → Option (Int32 × sS)
  | 0, _, _, _, _ => none
  | k + 1, 0, S, L, M => some (((L 0) &&& ((-25) : Int32)) ||| ((L 1) &&& (24 : Int32)), S)
  | _ + 1, _ + 1, _, _, _ => none
set_option maxHeartbeats 8000000 in
set_option maxRecDepth 100000 in
theorem w_Tokens_placedAs {p : Program} {l : Launch} {e : Env} {R : Room} {s : State} {m : MethodId} {args : Array Value} {below : List Frame} {meth : Method} {c : Code} {cells slots : Nat} {Q : State → Prop} {g : gG} {A : Nat → Prop} {ad : Nat → Nat} (hx : p.tables.exec = Jvm.exec) (hb : c.code = b_Tokens_placedAs) (hml : c.maxLocals = 2) (hown : s.vm.findClass "MacroMill$Tokens" = some m.cls) (htt : ∀ w ∈ gt, w.before args s = true) (hK : va_K g.1 classes (tysG g) s) (hN : nw s) (hA : ∀ q : Nat, s.heap.size ≤ q → A q) (r : Int32) (S9 : sS)
    (kx_9 : ∀ (ls : Array Slot) (H : Heap) (locs : List Loc), va_P g.1 classes (Sw shC g ad S9) H → va_D A (Sw shC g ad S9) → va_S A s.heap H locs → W p l e R s m args below meth c H locs cells slots Q (F0 m 9 ls [.int r])) :
    ∀ k9 : Nat, (∀ (S : sS) (L : Nat → Int32) (M : Nat → Int64) (ls : Array Slot) (H : Heap) (locs : List Loc), f_Tokens_placedAs k9 0 S L M = some (r, S9) → lv_has ls 2 [(0, .int (L 0)), (1, .int (L 1))] → va_P g.1 classes (Sw shC g ad S) H → va_D A (Sw shC g ad S) → va_S A s.heap H locs → W p l e R s m args below meth c H locs cells slots Q (F0 m 0 ls [])) := by
  intro k9
  induction k9 with
  | zero => exact (fun _ _ _ _ _ _ h => by simp [f_Tokens_placedAs] at h)
  | succ k9 ih =>
    · intro S L M ls H locs h hl hP hD hS
      simp only [f_Tokens_placedAs] at h
      refine lv_iload_n hx hb d_Tokens_placedAs_0 rfl (lv_at hl 0 rfl) ?_
      refine lv_bipush (v := (-25)) hx hb d_Tokens_placedAs_1 (by decide) ?_
      refine lv_iand hx hb d_Tokens_placedAs_3 ?_
      refine lv_iload_n hx hb d_Tokens_placedAs_4 rfl (lv_at hl 1 rfl) ?_
      refine lv_bipush (v := 24) hx hb d_Tokens_placedAs_5 (by decide) ?_
      refine lv_iand hx hb d_Tokens_placedAs_7 ?_
      refine lv_ior hx hb d_Tokens_placedAs_8 ?_
      cases h
      exact kx_9 ls H locs hP hD hS
abbrev rm_t_Tokens_placedAs : Room := { frames := 0, cells := 0, slots := 0, locals := 0 }
theorem t_Tokens_placedAs (l : Launch) (g : gG) (sz : Nat) (ad : Nat → Nat) (S : sS) (v1 : Int32) (v2 : Int32) (k : Nat) (r : Int32) (S9 : sS) (h : f_Tokens_placedAs k 0 S (upd (upd (fun _ => 0) 0 v1) 1 v2) (fun _ => 0) = some (r, S9)) : Ci l y_Tokens_placedAs b_Tokens_placedAs 2 rm_t_Tokens_placedAs g [.int v1, .int v2] (Sw shC g ad S) sz (fun r1 w => ∃ S1 : sS, w = Sw shC g ad S1 ∧ r1 = r ∧ S1 = S9) := by
  refine startI (by decide) (Nat.le_of_ble_eq_true rfl) ?_
  intro p e s m below meth c A ls hx hb hr hml hlocks hmn hown htt hN hA hP hK hD hS hl
  exact (w_Tokens_placedAs hx hb hml hown htt hK hN hA r S9 (fun ls H locs hP hD hS => fin_i (g := g) (ws := Sw shC g ad S9) hx hb hr hlocks (by decide +kernel) (by decide +kernel) hP hD hS ⟨_, rfl, rfl, rfl⟩ d_Tokens_placedAs_9) k) S (upd (upd (fun _ => 0) 0 v1) 1 v2) (fun _ => 0) ls _ _ h hl hP hD hS
def f_Tokens_kindOf : Nat → Nat → sS → (Nat → Int32) → (Nat → Int64) → Option (Int32 × sS)
  | 0, _, _, _, _ => none
  | k + 1, 0, S, L, M => some ((L 0) &&& (7 : Int32), S)
  | _ + 1, _ + 1, _, _, _ => none
set_option maxHeartbeats 8000000 in
set_option maxRecDepth 100000 in
theorem w_Tokens_kindOf {p : Program} {l : Launch} {e : Env} {R : Room} {s : State} {m : MethodId} {args : Array Value} {below : List Frame} {meth : Method} {c : Code} {cells slots : Nat} {Q : State → Prop} {g : gG} {A : Nat → Prop} {ad : Nat → Nat} (hx : p.tables.exec = Jvm.exec) (hb : c.code = b_Tokens_kindOf) (hml : c.maxLocals = 1) (hown : s.vm.findClass "MacroMill$Tokens" = some m.cls) (htt : ∀ w ∈ gt, w.before args s = true) (hK : va_K g.1 classes (tysG g) s) (hN : nw s) (hA : ∀ q : Nat, s.heap.size ≤ q → A q) (r : Int32) (S9 : sS)
    (kx_4 : ∀ (ls : Array Slot) (H : Heap) (locs : List Loc), va_P g.1 classes (Sw shC g ad S9) H → va_D A (Sw shC g ad S9) → va_S A s.heap H locs → W p l e R s m args below meth c H locs cells slots Q (F0 m 4 ls [.int r])) :
    ∀ k9 : Nat, (∀ (S : sS) (L : Nat → Int32) (M : Nat → Int64) (ls : Array Slot) (H : Heap) (locs : List Loc), f_Tokens_kindOf k9 0 S L M = some (r, S9) → lv_has ls 1 [(0, .int (L 0))] → va_P g.1 classes (Sw shC g ad S) H → va_D A (Sw shC g ad S) → va_S A s.heap H locs → W p l e R s m args below meth c H locs cells slots Q (F0 m 0 ls [])) := by
  intro k9
  induction k9 with
  | zero => exact (fun _ _ _ _ _ _ h => by simp [f_Tokens_kindOf] at h)
  | succ k9 ih =>
    · intro S L M ls H locs h hl hP hD hS
      simp only [f_Tokens_kindOf] at h
      refine lv_iload_n hx hb d_Tokens_kindOf_0 rfl (lv_at hl 0 rfl) ?_
      refine lv_bipush (v := 7) hx hb d_Tokens_kindOf_1 (by decide) ?_
      refine lv_iand hx hb d_Tokens_kindOf_3 ?_
      cases h
      exact kx_4 ls H locs hP hD hS
abbrev rm_t_Tokens_kindOf : Room := { frames := 0, cells := 0, slots := 0, locals := 0 }
theorem t_Tokens_kindOf (l : Launch) (g : gG) (sz : Nat) (ad : Nat → Nat) (S : sS) (v1 : Int32) (k : Nat) (r : Int32) (S9 : sS) (h : f_Tokens_kindOf k 0 S (upd (fun _ => 0) 0 v1) (fun _ => 0) = some (r, S9)) : Ci l y_Tokens_kindOf b_Tokens_kindOf 1 rm_t_Tokens_kindOf g [.int v1] (Sw shC g ad S) sz (fun r1 w => ∃ S1 : sS, w = Sw shC g ad S1 ∧ r1 = r ∧ S1 = S9) := by
  refine startI (by decide) (Nat.le_of_ble_eq_true rfl) ?_
  intro p e s m below meth c A ls hx hb hr hml hlocks hmn hown htt hN hA hP hK hD hS hl
  exact (w_Tokens_kindOf hx hb hml hown htt hK hN hA r S9 (fun ls H locs hP hD hS => fin_i (g := g) (ws := Sw shC g ad S9) hx hb hr hlocks (by decide +kernel) (by decide +kernel) hP hD hS ⟨_, rfl, rfl, rfl⟩ d_Tokens_kindOf_4) k) S (upd (fun _ => 0) 0 v1) (fun _ => 0) ls _ _ h hl hP hD hS
def f_Tokens_isBehindBlank : Nat → Nat → sS → (Nat → Int32) → (Nat → Int64) → Option (Int32 × sS)
  | 0, _, _, _, _ => none
  | k + 1, 0, S, L, M => if ((L 0) &&& (8 : Int32)) = (0 : Int32) then (f_Tokens_isBehindBlank k 1 S (upd L 100 (0 : Int32)) M) else (f_Tokens_isBehindBlank k 1 S (upd L 100 (1 : Int32)) M)
  | k + 1, 1, S, L, M => if bz (L 100) = true then some (L 100, S) else none
  | _ + 1, _ + 2, _, _, _ => none
set_option maxHeartbeats 8000000 in
set_option maxRecDepth 100000 in
theorem w_Tokens_isBehindBlank {p : Program} {l : Launch} {e : Env} {R : Room} {s : State} {m : MethodId} {args : Array Value} {below : List Frame} {meth : Method} {c : Code} {cells slots : Nat} {Q : State → Prop} {g : gG} {A : Nat → Prop} {ad : Nat → Nat} (hx : p.tables.exec = Jvm.exec) (hb : c.code = b_Tokens_isBehindBlank) (hml : c.maxLocals = 1) (hown : s.vm.findClass "MacroMill$Tokens" = some m.cls) (htt : ∀ w ∈ gt, w.before args s = true) (hK : va_K g.1 classes (tysG g) s) (hN : nw s) (hA : ∀ q : Nat, s.heap.size ≤ q → A q) (r : Int32) (S9 : sS)
    (kx_12 : ∀ (ls : Array Slot) (H : Heap) (locs : List Loc), narrow .boolean (.int r) = .int r → va_P g.1 classes (Sw shC g ad S9) H → va_D A (Sw shC g ad S9) → va_S A s.heap H locs → W p l e R s m args below meth c H locs cells slots Q (F0 m 12 ls [.int r])) :
    ∀ k9 : Nat, (∀ (S : sS) (L : Nat → Int32) (M : Nat → Int64) (ls : Array Slot) (H : Heap) (locs : List Loc), f_Tokens_isBehindBlank k9 0 S L M = some (r, S9) → lv_has ls 1 [(0, .int (L 0))] → va_P g.1 classes (Sw shC g ad S) H → va_D A (Sw shC g ad S) → va_S A s.heap H locs → W p l e R s m args below meth c H locs cells slots Q (F0 m 0 ls [])) ∧ (∀ (S : sS) (L : Nat → Int32) (M : Nat → Int64) (ls : Array Slot) (H : Heap) (locs : List Loc), f_Tokens_isBehindBlank k9 1 S L M = some (r, S9) → lv_has ls 1 [(0, .int (L 0))] → va_P g.1 classes (Sw shC g ad S) H → va_D A (Sw shC g ad S) → va_S A s.heap H locs → W p l e R s m args below meth c H locs cells slots Q (F0 m 12 ls [.int (L 100)])) := by
  intro k9
  induction k9 with
  | zero => exact ⟨(fun _ _ _ _ _ _ h => by simp [f_Tokens_isBehindBlank] at h), (fun _ _ _ _ _ _ h => by simp [f_Tokens_isBehindBlank] at h)⟩
  | succ k9 ih =>
    refine ⟨?_, ?_⟩
    · intro S L M ls H locs h hl hP hD hS
      simp only [f_Tokens_isBehindBlank] at h
      refine lv_iload_n hx hb d_Tokens_isBehindBlank_0 rfl (lv_at hl 0 rfl) ?_
      refine lv_bipush (v := 8) hx hb d_Tokens_isBehindBlank_1 (by decide) ?_
      refine lv_iand hx hb d_Tokens_isBehindBlank_3 ?_
      refine lv_if_eq (tgt := 11) hx hb d_Tokens_isBehindBlank_4 (by decide) (fun hc1 => ?_) (fun hc1 => ?_)
      · rw [if_pos hc1] at h
        refine lv_iconst (v := 0) hx hb d_Tokens_isBehindBlank_11 (by decide) ?_
        exact (ih.2) S (upd L 100 (0 : Int32)) M ls H locs h (lv_sub hl [0] rfl) hP hD hS
      · rw [if_neg hc1] at h
        refine lv_iconst (v := 1) hx hb d_Tokens_isBehindBlank_7 (by decide) ?_
        refine lv_goto (tgt := 12) hx hb d_Tokens_isBehindBlank_8 (by decide) ?_
        exact (ih.2) S (upd L 100 (1 : Int32)) M ls H locs h (lv_sub hl [0] rfl) hP hD hS
    · intro S L M ls H locs h hl hP hD hS
      simp only [f_Tokens_isBehindBlank] at h
      obtain ⟨hv1, h⟩ := chk h
      cases h
      exact kx_12 ls H locs (bz_n hv1) hP hD hS
abbrev rm_t_Tokens_isBehindBlank : Room := { frames := 0, cells := 0, slots := 0, locals := 0 }
theorem t_Tokens_isBehindBlank (l : Launch) (g : gG) (sz : Nat) (ad : Nat → Nat) (S : sS) (v1 : Int32) (k : Nat) (r : Int32) (S9 : sS) (h : f_Tokens_isBehindBlank k 0 S (upd (fun _ => 0) 0 v1) (fun _ => 0) = some (r, S9)) : Cz l y_Tokens_isBehindBlank b_Tokens_isBehindBlank 1 rm_t_Tokens_isBehindBlank g [.int v1] (Sw shC g ad S) sz (fun r1 w => ∃ S1 : sS, w = Sw shC g ad S1 ∧ r1 = r ∧ S1 = S9) := by
  refine startZ (by decide) (Nat.le_of_ble_eq_true rfl) ?_
  intro p e s m below meth c A ls hx hb hr hml hlocks hmn hown htt hN hA hP hK hD hS hl
  exact (w_Tokens_isBehindBlank hx hb hml hown htt hK hN hA r S9 (fun ls H locs hz hP hD hS => fin_z (g := g) (ws := Sw shC g ad S9) hx hb hr hlocks hz (by decide +kernel) (by decide +kernel) hP hD hS ⟨_, rfl, rfl, rfl⟩ d_Tokens_isBehindBlank_12) k).1 S (upd (fun _ => 0) 0 v1) (fun _ => 0) ls _ _ h hl hP hD hS
def f_Tokens_isFirstLook : Nat → Nat → sS → (Nat → Int32) → (Nat → Int64) → Option (Int32 × sS)
  | 0, _, _, _, _ => none
  | k + 1, 0, S, L, M => if ((L 0) &&& (16 : Int32)) = (0 : Int32) then (f_Tokens_isFirstLook k 1 S (upd L 100 (0 : Int32)) M) else (f_Tokens_isFirstLook k 1 S (upd L 100 (1 : Int32)) M)
  | k + 1, 1, S, L, M => if bz (L 100) = true then some (L 100, S) else none
  | _ + 1, _ + 2, _, _, _ => none
set_option maxHeartbeats 8000000 in
set_option maxRecDepth 100000 in
theorem w_Tokens_isFirstLook {p : Program} {l : Launch} {e : Env} {R : Room} {s : State} {m : MethodId} {args : Array Value} {below : List Frame} {meth : Method} {c : Code} {cells slots : Nat} {Q : State → Prop} {g : gG} {A : Nat → Prop} {ad : Nat → Nat} (hx : p.tables.exec = Jvm.exec) (hb : c.code = b_Tokens_isFirstLook) (hml : c.maxLocals = 1) (hown : s.vm.findClass "MacroMill$Tokens" = some m.cls) (htt : ∀ w ∈ gt, w.before args s = true) (hK : va_K g.1 classes (tysG g) s) (hN : nw s) (hA : ∀ q : Nat, s.heap.size ≤ q → A q) (r : Int32) (S9 : sS)
    (kx_12 : ∀ (ls : Array Slot) (H : Heap) (locs : List Loc), narrow .boolean (.int r) = .int r → va_P g.1 classes (Sw shC g ad S9) H → va_D A (Sw shC g ad S9) → va_S A s.heap H locs → W p l e R s m args below meth c H locs cells slots Q (F0 m 12 ls [.int r])) :
    ∀ k9 : Nat, (∀ (S : sS) (L : Nat → Int32) (M : Nat → Int64) (ls : Array Slot) (H : Heap) (locs : List Loc), f_Tokens_isFirstLook k9 0 S L M = some (r, S9) → lv_has ls 1 [(0, .int (L 0))] → va_P g.1 classes (Sw shC g ad S) H → va_D A (Sw shC g ad S) → va_S A s.heap H locs → W p l e R s m args below meth c H locs cells slots Q (F0 m 0 ls [])) ∧ (∀ (S : sS) (L : Nat → Int32) (M : Nat → Int64) (ls : Array Slot) (H : Heap) (locs : List Loc), f_Tokens_isFirstLook k9 1 S L M = some (r, S9) → lv_has ls 1 [(0, .int (L 0))] → va_P g.1 classes (Sw shC g ad S) H → va_D A (Sw shC g ad S) → va_S A s.heap H locs → W p l e R s m args below meth c H locs cells slots Q (F0 m 12 ls [.int (L 100)])) := by
  intro k9
  induction k9 with
  | zero => exact ⟨(fun _ _ _ _ _ _ h => by simp [f_Tokens_isFirstLook] at h), (fun _ _ _ _ _ _ h => by simp [f_Tokens_isFirstLook] at h)⟩
  | succ k9 ih =>
    refine ⟨?_, ?_⟩
    · intro S L M ls H locs h hl hP hD hS
      simp only [f_Tokens_isFirstLook] at h
      refine lv_iload_n hx hb d_Tokens_isFirstLook_0 rfl (lv_at hl 0 rfl) ?_
      refine lv_bipush (v := 16) hx hb d_Tokens_isFirstLook_1 (by decide) ?_
      refine lv_iand hx hb d_Tokens_isFirstLook_3 ?_
      refine lv_if_eq (tgt := 11) hx hb d_Tokens_isFirstLook_4 (by decide) (fun hc1 => ?_) (fun hc1 => ?_)
      · rw [if_pos hc1] at h
        refine lv_iconst (v := 0) hx hb d_Tokens_isFirstLook_11 (by decide) ?_
        exact (ih.2) S (upd L 100 (0 : Int32)) M ls H locs h (lv_sub hl [0] rfl) hP hD hS
      · rw [if_neg hc1] at h
        refine lv_iconst (v := 1) hx hb d_Tokens_isFirstLook_7 (by decide) ?_
        refine lv_goto (tgt := 12) hx hb d_Tokens_isFirstLook_8 (by decide) ?_
        exact (ih.2) S (upd L 100 (1 : Int32)) M ls H locs h (lv_sub hl [0] rfl) hP hD hS
    · intro S L M ls H locs h hl hP hD hS
      simp only [f_Tokens_isFirstLook] at h
      obtain ⟨hv1, h⟩ := chk h
      cases h
      exact kx_12 ls H locs (bz_n hv1) hP hD hS
abbrev rm_t_Tokens_isFirstLook : Room := { frames := 0, cells := 0, slots := 0, locals := 0 }
theorem t_Tokens_isFirstLook (l : Launch) (g : gG) (sz : Nat) (ad : Nat → Nat) (S : sS) (v1 : Int32) (k : Nat) (r : Int32) (S9 : sS) (h : f_Tokens_isFirstLook k 0 S (upd (fun _ => 0) 0 v1) (fun _ => 0) = some (r, S9)) : Cz l y_Tokens_isFirstLook b_Tokens_isFirstLook 1 rm_t_Tokens_isFirstLook g [.int v1] (Sw shC g ad S) sz (fun r1 w => ∃ S1 : sS, w = Sw shC g ad S1 ∧ r1 = r ∧ S1 = S9) := by
  refine startZ (by decide) (Nat.le_of_ble_eq_true rfl) ?_
  intro p e s m below meth c A ls hx hb hr hml hlocks hmn hown htt hN hA hP hK hD hS hl
  exact (w_Tokens_isFirstLook hx hb hml hown htt hK hN hA r S9 (fun ls H locs hz hP hD hS => fin_z (g := g) (ws := Sw shC g ad S9) hx hb hr hlocks hz (by decide +kernel) (by decide +kernel) hP hD hS ⟨_, rfl, rfl, rfl⟩ d_Tokens_isFirstLook_12) k).1 S (upd (fun _ => 0) 0 v1) (fun _ => 0) ls _ _ h hl hP hD hS
def f_Tokens_setOf : Nat → Nat → sS → (Nat → Int32) → (Nat → Int64) → Option (Int32 × sS)
  | 0, _, _, _, _ => none
  | k + 1, 0, S, L, M => some (((L 0) >>> ((5 : Int32) &&& 31)) &&& (1023 : Int32), S)
  | _ + 1, _ + 1, _, _, _ => none
set_option maxHeartbeats 8000000 in
set_option maxRecDepth 100000 in
theorem w_Tokens_setOf {p : Program} {l : Launch} {e : Env} {R : Room} {s : State} {m : MethodId} {args : Array Value} {below : List Frame} {meth : Method} {c : Code} {cells slots : Nat} {Q : State → Prop} {g : gG} {A : Nat → Prop} {ad : Nat → Nat} (hx : p.tables.exec = Jvm.exec) (hb : c.code = b_Tokens_setOf) (hml : c.maxLocals = 1) (hown : s.vm.findClass "MacroMill$Tokens" = some m.cls) (htt : ∀ w ∈ gt, w.before args s = true) (hK : va_K g.1 classes (tysG g) s) (hN : nw s) (hA : ∀ q : Nat, s.heap.size ≤ q → A q) (r : Int32) (S9 : sS)
    (kx_7 : ∀ (ls : Array Slot) (H : Heap) (locs : List Loc), va_P g.1 classes (Sw shC g ad S9) H → va_D A (Sw shC g ad S9) → va_S A s.heap H locs → W p l e R s m args below meth c H locs cells slots Q (F0 m 7 ls [.int r])) :
    ∀ k9 : Nat, (∀ (S : sS) (L : Nat → Int32) (M : Nat → Int64) (ls : Array Slot) (H : Heap) (locs : List Loc), f_Tokens_setOf k9 0 S L M = some (r, S9) → lv_has ls 1 [(0, .int (L 0))] → va_P g.1 classes (Sw shC g ad S) H → va_D A (Sw shC g ad S) → va_S A s.heap H locs → W p l e R s m args below meth c H locs cells slots Q (F0 m 0 ls [])) := by
  intro k9
  induction k9 with
  | zero => exact (fun _ _ _ _ _ _ h => by simp [f_Tokens_setOf] at h)
  | succ k9 ih =>
    · intro S L M ls H locs h hl hP hD hS
      simp only [f_Tokens_setOf] at h
      refine lv_iload_n hx hb d_Tokens_setOf_0 rfl (lv_at hl 0 rfl) ?_
      refine lv_iconst (v := 5) hx hb d_Tokens_setOf_1 (by decide) ?_
      refine lv_ishr hx hb d_Tokens_setOf_2 ?_
      refine lv_sipush (v := 1023) hx hb d_Tokens_setOf_3 (by decide) ?_
      refine lv_iand hx hb d_Tokens_setOf_6 ?_
      cases h
      exact kx_7 ls H locs hP hD hS
abbrev rm_t_Tokens_setOf : Room := { frames := 0, cells := 0, slots := 0, locals := 0 }
theorem t_Tokens_setOf (l : Launch) (g : gG) (sz : Nat) (ad : Nat → Nat) (S : sS) (v1 : Int32) (k : Nat) (r : Int32) (S9 : sS) (h : f_Tokens_setOf k 0 S (upd (fun _ => 0) 0 v1) (fun _ => 0) = some (r, S9)) : Ci l y_Tokens_setOf b_Tokens_setOf 1 rm_t_Tokens_setOf g [.int v1] (Sw shC g ad S) sz (fun r1 w => ∃ S1 : sS, w = Sw shC g ad S1 ∧ r1 = r ∧ S1 = S9) := by
  refine startI (by decide) (Nat.le_of_ble_eq_true rfl) ?_
  intro p e s m below meth c A ls hx hb hr hml hlocks hmn hown htt hN hA hP hK hD hS hl
  exact (w_Tokens_setOf hx hb hml hown htt hK hN hA r S9 (fun ls H locs hP hD hS => fin_i (g := g) (ws := Sw shC g ad S9) hx hb hr hlocks (by decide +kernel) (by decide +kernel) hP hD hS ⟨_, rfl, rfl, rfl⟩ d_Tokens_setOf_7) k) S (upd (fun _ => 0) 0 v1) (fun _ => 0) ls _ _ h hl hP hD hS
def f_Tokens_lineOf : Nat → Nat → sS → (Nat → Int32) → (Nat → Int64) → Option (Int32 × sS)
  | 0, _, _, _, _ => none
  | k + 1, 0, S, L, M => some (((L 0).toUInt32 >>> ((15 : Int32).toUInt32 &&& Int32.toUInt32 31)).toInt32, S)
  | _ + 1, _ + 1, _, _, _ => none
set_option maxHeartbeats 8000000 in
set_option maxRecDepth 100000 in
theorem w_Tokens_lineOf {p : Program} {l : Launch} {e : Env} {R : Room} {s : State} {m : MethodId} {args : Array Value} {below : List Frame} {meth : Method} {c : Code} {cells slots : Nat} {Q : State → Prop} {g : gG} {A : Nat → Prop} {ad : Nat → Nat} (hx : p.tables.exec = Jvm.exec) (hb : c.code = b_Tokens_lineOf) (hml : c.maxLocals = 1) (hown : s.vm.findClass "MacroMill$Tokens" = some m.cls) (htt : ∀ w ∈ gt, w.before args s = true) (hK : va_K g.1 classes (tysG g) s) (hN : nw s) (hA : ∀ q : Nat, s.heap.size ≤ q → A q) (r : Int32) (S9 : sS)
    (kx_4 : ∀ (ls : Array Slot) (H : Heap) (locs : List Loc), va_P g.1 classes (Sw shC g ad S9) H → va_D A (Sw shC g ad S9) → va_S A s.heap H locs → W p l e R s m args below meth c H locs cells slots Q (F0 m 4 ls [.int r])) :
    ∀ k9 : Nat, (∀ (S : sS) (L : Nat → Int32) (M : Nat → Int64) (ls : Array Slot) (H : Heap) (locs : List Loc), f_Tokens_lineOf k9 0 S L M = some (r, S9) → lv_has ls 1 [(0, .int (L 0))] → va_P g.1 classes (Sw shC g ad S) H → va_D A (Sw shC g ad S) → va_S A s.heap H locs → W p l e R s m args below meth c H locs cells slots Q (F0 m 0 ls [])) := by
  intro k9
  induction k9 with
  | zero => exact (fun _ _ _ _ _ _ h => by simp [f_Tokens_lineOf] at h)
  | succ k9 ih =>
    · intro S L M ls H locs h hl hP hD hS
      simp only [f_Tokens_lineOf] at h
      refine lv_iload_n hx hb d_Tokens_lineOf_0 rfl (lv_at hl 0 rfl) ?_
      refine lv_bipush (v := 15) hx hb d_Tokens_lineOf_1 (by decide) ?_
      refine lv_iushr (v := ((L 0).toUInt32 >>> ((15 : Int32).toUInt32 &&& Int32.toUInt32 31)).toInt32) hx hb d_Tokens_lineOf_3 rfl ?_
      cases h
      exact kx_4 ls H locs hP hD hS
abbrev rm_t_Tokens_lineOf : Room := { frames := 0, cells := 0, slots := 0, locals := 0 }
theorem t_Tokens_lineOf (l : Launch) (g : gG) (sz : Nat) (ad : Nat → Nat) (S : sS) (v1 : Int32) (k : Nat) (r : Int32) (S9 : sS) (h : f_Tokens_lineOf k 0 S (upd (fun _ => 0) 0 v1) (fun _ => 0) = some (r, S9)) : Ci l y_Tokens_lineOf b_Tokens_lineOf 1 rm_t_Tokens_lineOf g [.int v1] (Sw shC g ad S) sz (fun r1 w => ∃ S1 : sS, w = Sw shC g ad S1 ∧ r1 = r ∧ S1 = S9) := by
  refine startI (by decide) (Nat.le_of_ble_eq_true rfl) ?_
  intro p e s m below meth c A ls hx hb hr hml hlocks hmn hown htt hN hA hP hK hD hS hl
  exact (w_Tokens_lineOf hx hb hml hown htt hK hN hA r S9 (fun ls H locs hP hD hS => fin_i (g := g) (ws := Sw shC g ad S9) hx hb hr hlocks (by decide +kernel) (by decide +kernel) hP hD hS ⟨_, rfl, rfl, rfl⟩ d_Tokens_lineOf_4) k) S (upd (fun _ => 0) 0 v1) (fun _ => 0) ls _ _ h hl hP hD hS
def f_Tokens_line : Nat → Nat → sS → (Nat → Int32) → (Nat → Int64) → Option (Int32 × sS)
  | 0, _, _, _, _ => none
  | k + 1, 0, S, L, M => if okI (L 1) 120784 = true then (some (((S.2.1 40 (L 1 : Int32).toNatClampNeg).toUInt32 >>> ((15 : Int32).toUInt32 &&& Int32.toUInt32 31)).toInt32, S)) else none
  | _ + 1, _ + 1, _, _, _ => none
set_option maxHeartbeats 8000000 in
set_option maxRecDepth 100000 in
theorem w_Tokens_line {p : Program} {l : Launch} {e : Env} {R : Room} {s : State} {m : MethodId} {args : Array Value} {below : List Frame} {meth : Method} {c : Code} {cells slots : Nat} {Q : State → Prop} {g : gG} {A : Nat → Prop} {ad : Nat → Nat} (hx : p.tables.exec = Jvm.exec) (hb : c.code = b_Tokens_line) (hml : c.maxLocals = 2) (hown : s.vm.findClass "MacroMill$Tokens" = some m.cls) (htt : ∀ w ∈ gt, w.before args s = true) (hK : va_K g.1 classes (tysG g) s) (hN : nw s) (hA : ∀ q : Nat, s.heap.size ≤ q → A q) (r : Int32) (S9 : sS)
    (kx_9 : ∀ (ls : Array Slot) (H : Heap) (locs : List Loc), va_P g.1 classes (Sw shC g ad S9) H → va_D A (Sw shC g ad S9) → va_S A s.heap H locs → W p l e R s m args below meth c H locs cells slots Q (F0 m 9 ls [.int r])) :
    ∀ k9 : Nat, (∀ (S : sS) (L : Nat → Int32) (M : Nat → Int64) (ls : Array Slot) (H : Heap) (locs : List Loc), f_Tokens_line k9 0 S L M = some (r, S9) → lv_has ls 2 [(0, .ref (ad 9)), (1, .int (L 1))] → va_P g.1 classes (Sw shC g ad S) H → va_D A (Sw shC g ad S) → va_S A s.heap H locs → W p l e R s m args below meth c H locs cells slots Q (F0 m 0 ls [])) := by
  intro k9
  induction k9 with
  | zero => exact (fun _ _ _ _ _ _ h => by simp [f_Tokens_line] at h)
  | succ k9 ih =>
    · intro S L M ls H locs h hl hP hD hS
      simp only [f_Tokens_line] at h
      refine lv_aload_n hx hb d_Tokens_line_0 rfl (lv_at hl 0 rfl) ?_
      refine S_getR (h := shC) (C := "MacroMill$Tokens") (T := F_Tokens) hx hb htt in_Tokens hown hK hP 9 6 rfl 53 rfl rfl (by decide) (htt _ k_649) (fun _ h9 => h9) d_Tokens_line_1 ?_
      refine lv_iload_n hx hb d_Tokens_line_4 rfl (lv_at hl 1 rfl) ?_
      obtain ⟨hv1, h⟩ := chk h
      refine S_iald (h := shC) (i := L 1) hx hb hK hP 40 rfl (okI_in hv1) d_Tokens_line_5 ?_
      refine lv_bipush (v := 15) hx hb d_Tokens_line_6 (by decide) ?_
      refine lv_iushr (v := ((S.2.1 40 (L 1 : Int32).toNatClampNeg).toUInt32 >>> ((15 : Int32).toUInt32 &&& Int32.toUInt32 31)).toInt32) hx hb d_Tokens_line_8 rfl ?_
      cases h
      exact kx_9 ls H locs hP hD hS
abbrev rm_t_Tokens_line : Room := { frames := 0, cells := 0, slots := 0, locals := 0 }
theorem t_Tokens_line (l : Launch) (g : gG) (sz : Nat) (ad : Nat → Nat) (S : sS) (v1 : Int32) (k : Nat) (r : Int32) (S9 : sS) (h : f_Tokens_line k 0 S (upd (fun _ => 0) 1 v1) (fun _ => 0) = some (r, S9)) : Ci l y_Tokens_line b_Tokens_line 2 rm_t_Tokens_line g [.ref (ad 9), .int v1] (Sw shC g ad S) sz (fun r1 w => ∃ S1 : sS, w = Sw shC g ad S1 ∧ r1 = r ∧ S1 = S9) := by
  refine startI (by decide) (Nat.le_of_ble_eq_true rfl) ?_
  intro p e s m below meth c A ls hx hb hr hml hlocks hmn hown htt hN hA hP hK hD hS hl
  exact (w_Tokens_line hx hb hml hown htt hK hN hA r S9 (fun ls H locs hP hD hS => fin_i (g := g) (ws := Sw shC g ad S9) hx hb hr hlocks (by decide +kernel) (by decide +kernel) hP hD hS ⟨_, rfl, rfl, rfl⟩ d_Tokens_line_9) k) S (upd (fun _ => 0) 1 v1) (fun _ => 0) ls _ _ h hl hP hD hS
def f_Tokens_kind : Nat → Nat → sS → (Nat → Int32) → (Nat → Int64) → Option (Int32 × sS)
  | 0, _, _, _, _ => none
  | k + 1, 0, S, L, M => if okI (L 1) 120784 = true then (some ((S.2.1 40 (L 1 : Int32).toNatClampNeg) &&& (7 : Int32), S)) else none
  | _ + 1, _ + 1, _, _, _ => none
set_option maxHeartbeats 8000000 in
set_option maxRecDepth 100000 in
theorem w_Tokens_kind {p : Program} {l : Launch} {e : Env} {R : Room} {s : State} {m : MethodId} {args : Array Value} {below : List Frame} {meth : Method} {c : Code} {cells slots : Nat} {Q : State → Prop} {g : gG} {A : Nat → Prop} {ad : Nat → Nat} (hx : p.tables.exec = Jvm.exec) (hb : c.code = b_Tokens_kind) (hml : c.maxLocals = 2) (hown : s.vm.findClass "MacroMill$Tokens" = some m.cls) (htt : ∀ w ∈ gt, w.before args s = true) (hK : va_K g.1 classes (tysG g) s) (hN : nw s) (hA : ∀ q : Nat, s.heap.size ≤ q → A q) (r : Int32) (S9 : sS)
    (kx_9 : ∀ (ls : Array Slot) (H : Heap) (locs : List Loc), va_P g.1 classes (Sw shC g ad S9) H → va_D A (Sw shC g ad S9) → va_S A s.heap H locs → W p l e R s m args below meth c H locs cells slots Q (F0 m 9 ls [.int r])) :
    ∀ k9 : Nat, (∀ (S : sS) (L : Nat → Int32) (M : Nat → Int64) (ls : Array Slot) (H : Heap) (locs : List Loc), f_Tokens_kind k9 0 S L M = some (r, S9) → lv_has ls 2 [(0, .ref (ad 9)), (1, .int (L 1))] → va_P g.1 classes (Sw shC g ad S) H → va_D A (Sw shC g ad S) → va_S A s.heap H locs → W p l e R s m args below meth c H locs cells slots Q (F0 m 0 ls [])) := by
  intro k9
  induction k9 with
  | zero => exact (fun _ _ _ _ _ _ h => by simp [f_Tokens_kind] at h)
  | succ k9 ih =>
    · intro S L M ls H locs h hl hP hD hS
      simp only [f_Tokens_kind] at h
      refine lv_aload_n hx hb d_Tokens_kind_0 rfl (lv_at hl 0 rfl) ?_
      refine S_getR (h := shC) (C := "MacroMill$Tokens") (T := F_Tokens) hx hb htt in_Tokens hown hK hP 9 6 rfl 53 rfl rfl (by decide) (htt _ k_649) (fun _ h9 => h9) d_Tokens_kind_1 ?_
      refine lv_iload_n hx hb d_Tokens_kind_4 rfl (lv_at hl 1 rfl) ?_
      obtain ⟨hv1, h⟩ := chk h
      refine S_iald (h := shC) (i := L 1) hx hb hK hP 40 rfl (okI_in hv1) d_Tokens_kind_5 ?_
      refine lv_bipush (v := 7) hx hb d_Tokens_kind_6 (by decide) ?_
      refine lv_iand hx hb d_Tokens_kind_8 ?_
      cases h
      exact kx_9 ls H locs hP hD hS
abbrev rm_t_Tokens_kind : Room := { frames := 0, cells := 0, slots := 0, locals := 0 }
theorem t_Tokens_kind (l : Launch) (g : gG) (sz : Nat) (ad : Nat → Nat) (S : sS) (v1 : Int32) (k : Nat) (r : Int32) (S9 : sS) (h : f_Tokens_kind k 0 S (upd (fun _ => 0) 1 v1) (fun _ => 0) = some (r, S9)) : Ci l y_Tokens_kind b_Tokens_kind 2 rm_t_Tokens_kind g [.ref (ad 9), .int v1] (Sw shC g ad S) sz (fun r1 w => ∃ S1 : sS, w = Sw shC g ad S1 ∧ r1 = r ∧ S1 = S9) := by
  refine startI (by decide) (Nat.le_of_ble_eq_true rfl) ?_
  intro p e s m below meth c A ls hx hb hr hml hlocks hmn hown htt hN hA hP hK hD hS hl
  exact (w_Tokens_kind hx hb hml hown htt hK hN hA r S9 (fun ls H locs hP hD hS => fin_i (g := g) (ws := Sw shC g ad S9) hx hb hr hlocks (by decide +kernel) (by decide +kernel) hP hD hS ⟨_, rfl, rfl, rfl⟩ d_Tokens_kind_9) k) S (upd (fun _ => 0) 1 v1) (fun _ => 0) ls _ _ h hl hP hD hS
def f_Tokens_from : Nat → Nat → sS → (Nat → Int32) → (Nat → Int64) → Option (Int32 × sS)
  | 0, _, _, _, _ => none
  | k + 1, 0, S, L, M => if okI (L 1) 120784 = true then (some ((((S.2.2 39 (L 1 : Int32).toNatClampNeg).toUInt64 >>> ((32 : Int32).toInt64.toUInt64 &&& Int64.toUInt64 63)).toInt64).toInt32, S)) else none
  | _ + 1, _ + 1, _, _, _ => none
set_option maxHeartbeats 8000000 in
set_option maxRecDepth 100000 in
theorem w_Tokens_from {p : Program} {l : Launch} {e : Env} {R : Room} {s : State} {m : MethodId} {args : Array Value} {below : List Frame} {meth : Method} {c : Code} {cells slots : Nat} {Q : State → Prop} {g : gG} {A : Nat → Prop} {ad : Nat → Nat} (hx : p.tables.exec = Jvm.exec) (hb : c.code = b_Tokens_from) (hml : c.maxLocals = 2) (hown : s.vm.findClass "MacroMill$Tokens" = some m.cls) (htt : ∀ w ∈ gt, w.before args s = true) (hK : va_K g.1 classes (tysG g) s) (hN : nw s) (hA : ∀ q : Nat, s.heap.size ≤ q → A q) (r : Int32) (S9 : sS)
    (kx_10 : ∀ (ls : Array Slot) (H : Heap) (locs : List Loc), va_P g.1 classes (Sw shC g ad S9) H → va_D A (Sw shC g ad S9) → va_S A s.heap H locs → W p l e R s m args below meth c H locs cells slots Q (F0 m 10 ls [.int r])) :
    ∀ k9 : Nat, (∀ (S : sS) (L : Nat → Int32) (M : Nat → Int64) (ls : Array Slot) (H : Heap) (locs : List Loc), f_Tokens_from k9 0 S L M = some (r, S9) → lv_has ls 2 [(0, .ref (ad 9)), (1, .int (L 1))] → va_P g.1 classes (Sw shC g ad S) H → va_D A (Sw shC g ad S) → va_S A s.heap H locs → W p l e R s m args below meth c H locs cells slots Q (F0 m 0 ls [])) := by
  intro k9
  induction k9 with
  | zero => exact (fun _ _ _ _ _ _ h => by simp [f_Tokens_from] at h)
  | succ k9 ih =>
    · intro S L M ls H locs h hl hP hD hS
      simp only [f_Tokens_from] at h
      refine lv_aload_n hx hb d_Tokens_from_0 rfl (lv_at hl 0 rfl) ?_
      refine S_getR (h := shC) (C := "MacroMill$Tokens") (T := F_Tokens) hx hb htt in_Tokens hown hK hP 9 5 rfl 52 rfl rfl (by decide) (htt _ k_645) (fun _ h9 => h9) d_Tokens_from_1 ?_
      refine lv_iload_n hx hb d_Tokens_from_4 rfl (lv_at hl 1 rfl) ?_
      obtain ⟨hv1, h⟩ := chk h
      refine S_lald (h := shC) (i := L 1) hx hb hK hP 39 rfl (okI_in hv1) d_Tokens_from_5 ?_
      refine lv_bipush (v := 32) hx hb d_Tokens_from_6 (by decide) ?_
      refine lv_lushr (v := ((S.2.2 39 (L 1 : Int32).toNatClampNeg).toUInt64 >>> ((32 : Int32).toInt64.toUInt64 &&& Int64.toUInt64 63)).toInt64) hx hb d_Tokens_from_8 rfl ?_
      refine lv_l2i (v := (((S.2.2 39 (L 1 : Int32).toNatClampNeg).toUInt64 >>> ((32 : Int32).toInt64.toUInt64 &&& Int64.toUInt64 63)).toInt64).toInt32) hx hb d_Tokens_from_9 rfl ?_
      cases h
      exact kx_10 ls H locs hP hD hS
abbrev rm_t_Tokens_from : Room := { frames := 0, cells := 0, slots := 0, locals := 0 }
theorem t_Tokens_from (l : Launch) (g : gG) (sz : Nat) (ad : Nat → Nat) (S : sS) (v1 : Int32) (k : Nat) (r : Int32) (S9 : sS) (h : f_Tokens_from k 0 S (upd (fun _ => 0) 1 v1) (fun _ => 0) = some (r, S9)) : Ci l y_Tokens_from b_Tokens_from 2 rm_t_Tokens_from g [.ref (ad 9), .int v1] (Sw shC g ad S) sz (fun r1 w => ∃ S1 : sS, w = Sw shC g ad S1 ∧ r1 = r ∧ S1 = S9) := by
  refine startI (by decide) (Nat.le_of_ble_eq_true rfl) ?_
  intro p e s m below meth c A ls hx hb hr hml hlocks hmn hown htt hN hA hP hK hD hS hl
  exact (w_Tokens_from hx hb hml hown htt hK hN hA r S9 (fun ls H locs hP hD hS => fin_i (g := g) (ws := Sw shC g ad S9) hx hb hr hlocks (by decide +kernel) (by decide +kernel) hP hD hS ⟨_, rfl, rfl, rfl⟩ d_Tokens_from_10) k) S (upd (fun _ => 0) 1 v1) (fun _ => 0) ls _ _ h hl hP hD hS
def f_Tokens_length : Nat → Nat → sS → (Nat → Int32) → (Nat → Int64) → Option (Int32 × sS)
  | 0, _, _, _, _ => none
  | k + 1, 0, S, L, M => if okI (L 1) 120784 = true then (some ((S.2.2 39 (L 1 : Int32).toNatClampNeg).toInt32, S)) else none
  | _ + 1, _ + 1, _, _, _ => none
set_option maxHeartbeats 8000000 in
set_option maxRecDepth 100000 in
theorem w_Tokens_length {p : Program} {l : Launch} {e : Env} {R : Room} {s : State} {m : MethodId} {args : Array Value} {below : List Frame} {meth : Method} {c : Code} {cells slots : Nat} {Q : State → Prop} {g : gG} {A : Nat → Prop} {ad : Nat → Nat} (hx : p.tables.exec = Jvm.exec) (hb : c.code = b_Tokens_length) (hml : c.maxLocals = 2) (hown : s.vm.findClass "MacroMill$Tokens" = some m.cls) (htt : ∀ w ∈ gt, w.before args s = true) (hK : va_K g.1 classes (tysG g) s) (hN : nw s) (hA : ∀ q : Nat, s.heap.size ≤ q → A q) (r : Int32) (S9 : sS)
    (kx_7 : ∀ (ls : Array Slot) (H : Heap) (locs : List Loc), va_P g.1 classes (Sw shC g ad S9) H → va_D A (Sw shC g ad S9) → va_S A s.heap H locs → W p l e R s m args below meth c H locs cells slots Q (F0 m 7 ls [.int r])) :
    ∀ k9 : Nat, (∀ (S : sS) (L : Nat → Int32) (M : Nat → Int64) (ls : Array Slot) (H : Heap) (locs : List Loc), f_Tokens_length k9 0 S L M = some (r, S9) → lv_has ls 2 [(0, .ref (ad 9)), (1, .int (L 1))] → va_P g.1 classes (Sw shC g ad S) H → va_D A (Sw shC g ad S) → va_S A s.heap H locs → W p l e R s m args below meth c H locs cells slots Q (F0 m 0 ls [])) := by
  intro k9
  induction k9 with
  | zero => exact (fun _ _ _ _ _ _ h => by simp [f_Tokens_length] at h)
  | succ k9 ih =>
    · intro S L M ls H locs h hl hP hD hS
      simp only [f_Tokens_length] at h
      refine lv_aload_n hx hb d_Tokens_length_0 rfl (lv_at hl 0 rfl) ?_
      refine S_getR (h := shC) (C := "MacroMill$Tokens") (T := F_Tokens) hx hb htt in_Tokens hown hK hP 9 5 rfl 52 rfl rfl (by decide) (htt _ k_645) (fun _ h9 => h9) d_Tokens_length_1 ?_
      refine lv_iload_n hx hb d_Tokens_length_4 rfl (lv_at hl 1 rfl) ?_
      obtain ⟨hv1, h⟩ := chk h
      refine S_lald (h := shC) (i := L 1) hx hb hK hP 39 rfl (okI_in hv1) d_Tokens_length_5 ?_
      refine lv_l2i (v := (S.2.2 39 (L 1 : Int32).toNatClampNeg).toInt32) hx hb d_Tokens_length_6 rfl ?_
      cases h
      exact kx_7 ls H locs hP hD hS
abbrev rm_t_Tokens_length : Room := { frames := 0, cells := 0, slots := 0, locals := 0 }
theorem t_Tokens_length (l : Launch) (g : gG) (sz : Nat) (ad : Nat → Nat) (S : sS) (v1 : Int32) (k : Nat) (r : Int32) (S9 : sS) (h : f_Tokens_length k 0 S (upd (fun _ => 0) 1 v1) (fun _ => 0) = some (r, S9)) : Ci l y_Tokens_length b_Tokens_length 2 rm_t_Tokens_length g [.ref (ad 9), .int v1] (Sw shC g ad S) sz (fun r1 w => ∃ S1 : sS, w = Sw shC g ad S1 ∧ r1 = r ∧ S1 = S9) := by
  refine startI (by decide) (Nat.le_of_ble_eq_true rfl) ?_
  intro p e s m below meth c A ls hx hb hr hml hlocks hmn hown htt hN hA hP hK hD hS hl
  exact (w_Tokens_length hx hb hml hown htt hK hN hA r S9 (fun ls H locs hP hD hS => fin_i (g := g) (ws := Sw shC g ad S9) hx hb hr hlocks (by decide +kernel) (by decide +kernel) hP hD hS ⟨_, rfl, rfl, rfl⟩ d_Tokens_length_7) k) S (upd (fun _ => 0) 1 v1) (fun _ => 0) ls _ _ h hl hP hD hS
def f_Tokens_isSign : Nat → Nat → sS → (Nat → Int32) → (Nat → Int64) → Option (Int32 × sS)
  | 0, _, _, _, _ => none
  | k + 1, 0, S, L, M => (f_Tokens_length k 0 S (upd (fun _ => 0) 1 (L 1 : Int32)) (fun _ => 0)).bind (fun (r1, T1) => if r1 = (1 : Int32) then ((f_Tokens_from k 0 T1 (upd (fun _ => 0) 1 (L 1 : Int32)) (fun _ => 0)).bind (fun (r3, T3) => if okI (r3) 125538 = true then (if (T3.2.1 37 (r3 : Int32).toNatClampNeg) = (L 2) then (f_Tokens_isSign k 2 T3 (upd L 100 (1 : Int32)) M) else (f_Tokens_isSign k 1 T3 L M)) else none)) else (f_Tokens_isSign k 1 T1 L M))
  | k + 1, 1, S, L, M => f_Tokens_isSign k 2 S (upd L 100 (0 : Int32)) M
  | k + 1, 2, S, L, M => if bz (L 100) = true then some (L 100, S) else none
  | _ + 1, _ + 3, _, _, _ => none
set_option maxHeartbeats 8000000 in
set_option maxRecDepth 100000 in
theorem w_Tokens_isSign {p : Program} {l : Launch} {e : Env} {R : Room} {s : State} {m : MethodId} {args : Array Value} {below : List Frame} {meth : Method} {c : Code} {cells slots : Nat} {Q : State → Prop} {g : gG} {A : Nat → Prop} {ad : Nat → Nat} (hx : p.tables.exec = Jvm.exec) (hb : c.code = b_Tokens_isSign) (hml : c.maxLocals = 3) (hown : s.vm.findClass "MacroMill$Tokens" = some m.cls) (htt : ∀ w ∈ gt, w.before args s = true) (hK : va_K g.1 classes (tysG g) s) (hN : nw s) (hA : ∀ q : Nat, s.heap.size ≤ q → A q) (hRf : 1 ≤ R.frames) (hRl : 21 ≤ R.locals) (hRc : cells ≤ R.cells) (hRs : slots ≤ R.slots) (r : Int32) (S9 : sS)
    (kx_28 : ∀ (ls : Array Slot) (H : Heap) (locs : List Loc), narrow .boolean (.int r) = .int r → va_P g.1 classes (Sw shC g ad S9) H → va_D A (Sw shC g ad S9) → va_S A s.heap H locs → W p l e R s m args below meth c H locs cells slots Q (F0 m 28 ls [.int r])) :
    ∀ k9 : Nat, (∀ (S : sS) (L : Nat → Int32) (M : Nat → Int64) (ls : Array Slot) (H : Heap) (locs : List Loc), f_Tokens_isSign k9 0 S L M = some (r, S9) → lv_has ls 3 [(0, .ref (ad 9)), (1, .int (L 1)), (2, .int (L 2))] → va_P g.1 classes (Sw shC g ad S) H → va_D A (Sw shC g ad S) → va_S A s.heap H locs → W p l e R s m args below meth c H locs cells slots Q (F0 m 0 ls [])) ∧ (∀ (S : sS) (L : Nat → Int32) (M : Nat → Int64) (ls : Array Slot) (H : Heap) (locs : List Loc), f_Tokens_isSign k9 1 S L M = some (r, S9) → lv_has ls 3 [(0, .ref (ad 9)), (1, .int (L 1)), (2, .int (L 2))] → va_P g.1 classes (Sw shC g ad S) H → va_D A (Sw shC g ad S) → va_S A s.heap H locs → W p l e R s m args below meth c H locs cells slots Q (F0 m 27 ls [])) ∧ (∀ (S : sS) (L : Nat → Int32) (M : Nat → Int64) (ls : Array Slot) (H : Heap) (locs : List Loc), f_Tokens_isSign k9 2 S L M = some (r, S9) → lv_has ls 3 [(0, .ref (ad 9)), (1, .int (L 1)), (2, .int (L 2))] → va_P g.1 classes (Sw shC g ad S) H → va_D A (Sw shC g ad S) → va_S A s.heap H locs → W p l e R s m args below meth c H locs cells slots Q (F0 m 28 ls [.int (L 100)])) := by
  intro k9
  induction k9 with
  | zero => exact ⟨(fun _ _ _ _ _ _ h => by simp [f_Tokens_isSign] at h), (fun _ _ _ _ _ _ h => by simp [f_Tokens_isSign] at h), (fun _ _ _ _ _ _ h => by simp [f_Tokens_isSign] at h)⟩
  | succ k9 ih =>
    refine ⟨?_, ?_, ?_⟩
    · intro S L M ls H locs h hl hP hD hS
      simp only [f_Tokens_isSign] at h
      refine lv_aload_n hx hb d_Tokens_isSign_0 rfl (lv_at hl 0 rfl) ?_
      refine lv_iload_n hx hb d_Tokens_isSign_1 rfl (lv_at hl 1 rfl) ?_
      obtain ⟨⟨r1, T1⟩, hq1, h⟩ := Option.bind_eq_some_iff.mp h
      try dsimp only at h
      refine go_iS (As := [.ref (ad 9), .int (L 1)]) (g := g) (A := A) (h := shC) hP hK hD hS hA hN (fun hp => va_runV (As := [.int (L 1)]) (rest := []) ⟨hx, hb, hml, hown, htt⟩ (t_Tokens_length l g _ ad S (L 1 : Int32) k9 r1 T1 hq1) ⟨(cb_L htt k_1712 k_271 k_1709 hd_Tokens_length ⟨(Nat.le_trans (by decide +kernel) hRf), (Nat.le_trans (by decide +kernel) hRl)⟩), htt _ k_1710, htt _ k_1711⟩ ⟨hp.1, S_recv hK hP 9 rfl rfl, hp.2⟩ rfl rfl hl.1 rfl (lv_room (Nat.le_of_ble_eq_true rfl)) d_Tokens_isSign_2 ⟨hRc, hRs⟩) (fun r0 Sn H locs hw9 hP hD hS => ?_)
      obtain ⟨e9, e8⟩ := hw9
      rw [e8] at hP hD
      refine W.widen (k := cells) (n := slots) (Nat.le_refl _) (Nat.le_refl _) ?_
      refine toI (y := r1) e9 ?_
      refine lv_iconst (v := 1) hx hb d_Tokens_isSign_5 (by decide) ?_
      refine lv_icmp_ne (tgt := 27) hx hb d_Tokens_isSign_6 (by decide) (fun hc2 => ?_) (fun hc2 => ?_)
      · rw [if_neg hc2] at h
        exact (ih.2.1) T1 L M ls H locs h (lv_sub hl [0, 1, 2] rfl) hP hD hS
      · rw [if_pos hc2] at h
        refine lv_aload_n hx hb d_Tokens_isSign_9 rfl (lv_at hl 0 rfl) ?_
        refine S_getR (h := shC) (C := "MacroMill$Tokens") (T := F_Tokens) hx hb htt in_Tokens hown hK hP 9 0 rfl 50 rfl rfl (by decide) (htt _ k_633) (fun _ h9 => h9) d_Tokens_isSign_10 ?_
        refine lv_aload_n hx hb d_Tokens_isSign_13 rfl (lv_at hl 0 rfl) ?_
        refine lv_iload_n hx hb d_Tokens_isSign_14 rfl (lv_at hl 1 rfl) ?_
        obtain ⟨⟨r3, T3⟩, hq3, h⟩ := Option.bind_eq_some_iff.mp h
        try dsimp only at h
        refine go_iS (As := [.ref (ad 9), .int (L 1)]) (g := g) (A := A) (h := shC) hP hK hD hS hA hN (fun hp => va_runV (As := [.int (L 1)]) (rest := [.ref (ad 50)]) ⟨hx, hb, hml, hown, htt⟩ (t_Tokens_from l g _ ad T1 (L 1 : Int32) k9 r3 T3 hq3) ⟨(cb_L htt k_1716 k_271 k_1713 hd_Tokens_from ⟨(Nat.le_trans (by decide +kernel) hRf), (Nat.le_trans (by decide +kernel) hRl)⟩), htt _ k_1714, htt _ k_1715⟩ ⟨hp.1, S_recv hK hP 9 rfl rfl, hp.2⟩ rfl rfl hl.1 rfl (lv_room (Nat.le_of_ble_eq_true rfl)) d_Tokens_isSign_15 ⟨hRc, hRs⟩) (fun r0 Sn H locs hw9 hP hD hS => ?_)
        obtain ⟨e9, e8⟩ := hw9
        rw [e8] at hP hD
        refine W.widen (k := cells) (n := slots) (Nat.le_refl _) (Nat.le_refl _) ?_
        refine toI (y := r3) e9 ?_
        obtain ⟨hv4, h⟩ := chk h
        refine S_bald (h := shC) (i := r3) hx hb hK hP 37 rfl (okI_in hv4) d_Tokens_isSign_18 ?_
        refine lv_iload_n hx hb d_Tokens_isSign_19 rfl (lv_at hl 2 rfl) ?_
        refine lv_icmp_ne (tgt := 27) hx hb d_Tokens_isSign_20 (by decide) (fun hc5 => ?_) (fun hc5 => ?_)
        · rw [if_neg hc5] at h
          exact (ih.2.1) T3 L M ls H locs h (lv_sub hl [0, 1, 2] rfl) hP hD hS
        · rw [if_pos hc5] at h
          refine lv_iconst (v := 1) hx hb d_Tokens_isSign_23 (by decide) ?_
          refine lv_goto (tgt := 28) hx hb d_Tokens_isSign_24 (by decide) ?_
          exact (ih.2.2) T3 (upd L 100 (1 : Int32)) M ls H locs h (lv_sub hl [0, 1, 2] rfl) hP hD hS
    · intro S L M ls H locs h hl hP hD hS
      simp only [f_Tokens_isSign] at h
      refine lv_iconst (v := 0) hx hb d_Tokens_isSign_27 (by decide) ?_
      exact (ih.2.2) S (upd L 100 (0 : Int32)) M ls H locs h (lv_sub hl [0, 1, 2] rfl) hP hD hS
    · intro S L M ls H locs h hl hP hD hS
      simp only [f_Tokens_isSign] at h
      obtain ⟨hv1, h⟩ := chk h
      cases h
      exact kx_28 ls H locs (bz_n hv1) hP hD hS
abbrev rm_t_Tokens_isSign : Room := { frames := 1, cells := 0, slots := 0, locals := 21 }
theorem t_Tokens_isSign (l : Launch) (g : gG) (sz : Nat) (ad : Nat → Nat) (S : sS) (v1 : Int32) (v2 : Int32) (k : Nat) (r : Int32) (S9 : sS) (h : f_Tokens_isSign k 0 S (upd (upd (fun _ => 0) 1 v1) 2 v2) (fun _ => 0) = some (r, S9)) : Cz l y_Tokens_isSign b_Tokens_isSign 3 rm_t_Tokens_isSign g [.ref (ad 9), .int v1, .int v2] (Sw shC g ad S) sz (fun r1 w => ∃ S1 : sS, w = Sw shC g ad S1 ∧ r1 = r ∧ S1 = S9) := by
  refine startZ (by decide) (Nat.le_of_ble_eq_true rfl) ?_
  intro p e s m below meth c A ls hx hb hr hml hlocks hmn hown htt hN hA hP hK hD hS hl
  exact (w_Tokens_isSign hx hb hml hown htt hK hN hA (by decide +kernel) (by decide +kernel) (by decide +kernel) (by decide +kernel) r S9 (fun ls H locs hz hP hD hS => fin_z (g := g) (ws := Sw shC g ad S9) hx hb hr hlocks hz (by decide +kernel) (by decide +kernel) hP hD hS ⟨_, rfl, rfl, rfl⟩ d_Tokens_isSign_28) k).1 S (upd (upd (fun _ => 0) 1 v1) 2 v2) (fun _ => 0) ls _ _ h hl hP hD hS
def f_Tokens_areSpelledSame : Nat → Nat → sS → (Nat → Int32) → (Nat → Int64) → Option (Int32 × sS)
  | 0, _, _, _, _ => none
  | k + 1, 0, S, L, M => (f_Tokens_lengthOf k 0 S (fun _ => 0) (vp_updL (fun _ => 0) 0 (M 1 : Int64))).bind (fun (r1, T1) => (f_Tokens_lengthOf k 0 T1 (fun _ => 0) (vp_updL (fun _ => 0) 0 (M 3 : Int64))).bind (fun (r2, T2) => if r1 = r2 then ((f_Tokens_fromOf k 0 T2 (fun _ => 0) (vp_updL (fun _ => 0) 0 (M 1 : Int64))).bind (fun (r4, T4) => (f_Tokens_fromOf k 0 T4 (fun _ => 0) (vp_updL (fun _ => 0) 0 (M 3 : Int64))).bind (fun (r5, T5) => (f_Tokens_lengthOf k 0 T5 (fun _ => 0) (vp_updL (fun _ => 0) 0 (M 1 : Int64))).bind (fun (r6, T6) => (f_MM_areSame 37 125538 37 125538 k 0 T6 (upd (upd (upd (fun _ => 0) 1 (r4 : Int32)) 3 (r5 : Int32)) 4 (r6 : Int32)) (fun _ => 0)).bind (fun (r7, T7) => if r7 = (0 : Int32) then (f_Tokens_areSpelledSame k 1 T7 L M) else (f_Tokens_areSpelledSame k 2 T7 (upd L 100 (1 : Int32)) M)))))) else (f_Tokens_areSpelledSame k 1 T2 L M)))
  | k + 1, 1, S, L, M => f_Tokens_areSpelledSame k 2 S (upd L 100 (0 : Int32)) M
  | k + 1, 2, S, L, M => if bz (L 100) = true then some (L 100, S) else none
  | _ + 1, _ + 3, _, _, _ => none
set_option maxHeartbeats 8000000 in
set_option maxRecDepth 100000 in
theorem w_Tokens_areSpelledSame {p : Program} {l : Launch} {e : Env} {R : Room} {s : State} {m : MethodId} {args : Array Value} {below : List Frame} {meth : Method} {c : Code} {cells slots : Nat} {Q : State → Prop} {g : gG} {A : Nat → Prop} {ad : Nat → Nat} (hx : p.tables.exec = Jvm.exec) (hb : c.code = b_Tokens_areSpelledSame) (hml : c.maxLocals = 5) (hown : s.vm.findClass "MacroMill$Tokens" = some m.cls) (htt : ∀ w ∈ gt, w.before args s = true) (hK : va_K g.1 classes (tysG g) s) (hN : nw s) (hA : ∀ q : Nat, s.heap.size ≤ q → A q) (hRf : 1 ≤ R.frames) (hRl : 25 ≤ R.locals) (hRc : cells ≤ R.cells) (hRs : slots ≤ R.slots) (r : Int32) (S9 : sS)
    (kx_42 : ∀ (ls : Array Slot) (H : Heap) (locs : List Loc), narrow .boolean (.int r) = .int r → va_P g.1 classes (Sw shC g ad S9) H → va_D A (Sw shC g ad S9) → va_S A s.heap H locs → W p l e R s m args below meth c H locs cells slots Q (F0 m 42 ls [.int r])) :
    ∀ k9 : Nat, (∀ (S : sS) (L : Nat → Int32) (M : Nat → Int64) (ls : Array Slot) (H : Heap) (locs : List Loc), f_Tokens_areSpelledSame k9 0 S L M = some (r, S9) → lv_has ls 5 [(0, .ref (ad 9)), (1, .long (M 1)), (3, .long (M 3))] → va_P g.1 classes (Sw shC g ad S) H → va_D A (Sw shC g ad S) → va_S A s.heap H locs → W p l e R s m args below meth c H locs cells slots Q (F0 m 0 ls [])) ∧ (∀ (S : sS) (L : Nat → Int32) (M : Nat → Int64) (ls : Array Slot) (H : Heap) (locs : List Loc), f_Tokens_areSpelledSame k9 1 S L M = some (r, S9) → lv_has ls 5 [(0, .ref (ad 9)), (1, .long (M 1)), (3, .long (M 3))] → va_P g.1 classes (Sw shC g ad S) H → va_D A (Sw shC g ad S) → va_S A s.heap H locs → W p l e R s m args below meth c H locs cells slots Q (F0 m 41 ls [])) ∧ (∀ (S : sS) (L : Nat → Int32) (M : Nat → Int64) (ls : Array Slot) (H : Heap) (locs : List Loc), f_Tokens_areSpelledSame k9 2 S L M = some (r, S9) → lv_has ls 5 [(0, .ref (ad 9)), (1, .long (M 1)), (3, .long (M 3))] → va_P g.1 classes (Sw shC g ad S) H → va_D A (Sw shC g ad S) → va_S A s.heap H locs → W p l e R s m args below meth c H locs cells slots Q (F0 m 42 ls [.int (L 100)])) := by
  intro k9
  induction k9 with
  | zero => exact ⟨(fun _ _ _ _ _ _ h => by simp [f_Tokens_areSpelledSame] at h), (fun _ _ _ _ _ _ h => by simp [f_Tokens_areSpelledSame] at h), (fun _ _ _ _ _ _ h => by simp [f_Tokens_areSpelledSame] at h)⟩
  | succ k9 ih =>
    refine ⟨?_, ?_, ?_⟩
    · intro S L M ls H locs h hl hP hD hS
      simp only [f_Tokens_areSpelledSame] at h
      refine lv_lload_n hx hb d_Tokens_areSpelledSame_0 rfl (lv_at hl 1 rfl) ?_
      obtain ⟨⟨r1, T1⟩, hq1, h⟩ := Option.bind_eq_some_iff.mp h
      try dsimp only at h
      refine go_iS (As := [.long (M 1)]) (g := g) (A := A) (h := shC) hP hK hD hS hA hN (fun hp => va_runS (As := [.long (M 1)]) (rest := []) ⟨hx, hb, hml, hown, htt⟩ (t_Tokens_lengthOf l g _ ad S (M 1 : Int64) k9 r1 T1 hq1) ⟨(cb_L htt k_1746 k_271 k_1866 hd_Tokens_lengthOf ⟨(Nat.le_trans (by decide +kernel) hRf), (Nat.le_trans (by decide +kernel) hRl)⟩), htt _ k_1745⟩ hp rfl rfl hl.1 rfl (lv_room (Nat.le_of_ble_eq_true rfl)) d_Tokens_areSpelledSame_1 ⟨hRc, hRs⟩) (fun r0 Sn H locs hw9 hP hD hS => ?_)
      obtain ⟨e9, e8⟩ := hw9
      rw [e8] at hP hD
      refine W.widen (k := cells) (n := slots) (Nat.le_refl _) (Nat.le_refl _) ?_
      refine toI (y := r1) e9 ?_
      refine lv_lload_n hx hb d_Tokens_areSpelledSame_4 rfl (lv_at hl 2 rfl) ?_
      obtain ⟨⟨r2, T2⟩, hq2, h⟩ := Option.bind_eq_some_iff.mp h
      try dsimp only at h
      refine go_iS (As := [.long (M 3)]) (g := g) (A := A) (h := shC) hP hK hD hS hA hN (fun hp => va_runS (As := [.long (M 3)]) (rest := [.int r1]) ⟨hx, hb, hml, hown, htt⟩ (t_Tokens_lengthOf l g _ ad T1 (M 3 : Int64) k9 r2 T2 hq2) ⟨(cb_L htt k_1746 k_271 k_1866 hd_Tokens_lengthOf ⟨(Nat.le_trans (by decide +kernel) hRf), (Nat.le_trans (by decide +kernel) hRl)⟩), htt _ k_1745⟩ hp rfl rfl hl.1 rfl (lv_room (Nat.le_of_ble_eq_true rfl)) d_Tokens_areSpelledSame_5 ⟨hRc, hRs⟩) (fun r0 Sn H locs hw9 hP hD hS => ?_)
      obtain ⟨e9, e8⟩ := hw9
      rw [e8] at hP hD
      refine W.widen (k := cells) (n := slots) (Nat.le_refl _) (Nat.le_refl _) ?_
      refine toI (y := r2) e9 ?_
      refine lv_icmp_ne (tgt := 41) hx hb d_Tokens_areSpelledSame_8 (by decide) (fun hc3 => ?_) (fun hc3 => ?_)
      · rw [if_neg hc3] at h
        exact (ih.2.1) T2 L M ls H locs h (lv_sub hl [0, 1, 2] rfl) hP hD hS
      · rw [if_pos hc3] at h
        refine lv_aload_n hx hb d_Tokens_areSpelledSame_11 rfl (lv_at hl 0 rfl) ?_
        refine S_getR (h := shC) (C := "MacroMill$Tokens") (T := F_Tokens) hx hb htt in_Tokens hown hK hP 9 0 rfl 50 rfl rfl (by decide) (htt _ k_633) (fun _ h9 => h9) d_Tokens_areSpelledSame_12 ?_
        refine lv_lload_n hx hb d_Tokens_areSpelledSame_15 rfl (lv_at hl 1 rfl) ?_
        obtain ⟨⟨r4, T4⟩, hq4, h⟩ := Option.bind_eq_some_iff.mp h
        try dsimp only at h
        refine go_iS (As := [.long (M 1)]) (g := g) (A := A) (h := shC) hP hK hD hS hA hN (fun hp => va_runS (As := [.long (M 1)]) (rest := [.ref (ad 50)]) ⟨hx, hb, hml, hown, htt⟩ (t_Tokens_fromOf l g _ ad T2 (M 1 : Int64) k9 r4 T4 hq4) ⟨(cb_L htt k_1743 k_271 k_1867 hd_Tokens_fromOf ⟨(Nat.le_trans (by decide +kernel) hRf), (Nat.le_trans (by decide +kernel) hRl)⟩), htt _ k_1742⟩ hp rfl rfl hl.1 rfl (lv_room (Nat.le_of_ble_eq_true rfl)) d_Tokens_areSpelledSame_16 ⟨hRc, hRs⟩) (fun r0 Sn H locs hw9 hP hD hS => ?_)
        obtain ⟨e9, e8⟩ := hw9
        rw [e8] at hP hD
        refine W.widen (k := cells) (n := slots) (Nat.le_refl _) (Nat.le_refl _) ?_
        refine toI (y := r4) e9 ?_
        refine lv_aload_n hx hb d_Tokens_areSpelledSame_19 rfl (lv_at hl 0 rfl) ?_
        refine S_getR (h := shC) (C := "MacroMill$Tokens") (T := F_Tokens) hx hb htt in_Tokens hown hK hP 9 0 rfl 50 rfl rfl (by decide) (htt _ k_633) (fun _ h9 => h9) d_Tokens_areSpelledSame_20 ?_
        refine lv_lload_n hx hb d_Tokens_areSpelledSame_23 rfl (lv_at hl 2 rfl) ?_
        obtain ⟨⟨r5, T5⟩, hq5, h⟩ := Option.bind_eq_some_iff.mp h
        try dsimp only at h
        refine go_iS (As := [.long (M 3)]) (g := g) (A := A) (h := shC) hP hK hD hS hA hN (fun hp => va_runS (As := [.long (M 3)]) (rest := [.ref (ad 50), .int r4, .ref (ad 50)]) ⟨hx, hb, hml, hown, htt⟩ (t_Tokens_fromOf l g _ ad T4 (M 3 : Int64) k9 r5 T5 hq5) ⟨(cb_L htt k_1743 k_271 k_1867 hd_Tokens_fromOf ⟨(Nat.le_trans (by decide +kernel) hRf), (Nat.le_trans (by decide +kernel) hRl)⟩), htt _ k_1742⟩ hp rfl rfl hl.1 rfl (lv_room (Nat.le_of_ble_eq_true rfl)) d_Tokens_areSpelledSame_24 ⟨hRc, hRs⟩) (fun r0 Sn H locs hw9 hP hD hS => ?_)
        obtain ⟨e9, e8⟩ := hw9
        rw [e8] at hP hD
        refine W.widen (k := cells) (n := slots) (Nat.le_refl _) (Nat.le_refl _) ?_
        refine toI (y := r5) e9 ?_
        refine lv_lload_n hx hb d_Tokens_areSpelledSame_27 rfl (lv_at hl 1 rfl) ?_
        obtain ⟨⟨r6, T6⟩, hq6, h⟩ := Option.bind_eq_some_iff.mp h
        try dsimp only at h
        refine go_iS (As := [.long (M 1)]) (g := g) (A := A) (h := shC) hP hK hD hS hA hN (fun hp => va_runS (As := [.long (M 1)]) (rest := [.int r5, .ref (ad 50), .int r4, .ref (ad 50)]) ⟨hx, hb, hml, hown, htt⟩ (t_Tokens_lengthOf l g _ ad T5 (M 1 : Int64) k9 r6 T6 hq6) ⟨(cb_L htt k_1746 k_271 k_1866 hd_Tokens_lengthOf ⟨(Nat.le_trans (by decide +kernel) hRf), (Nat.le_trans (by decide +kernel) hRl)⟩), htt _ k_1745⟩ hp rfl rfl hl.1 rfl (lv_room (Nat.le_of_ble_eq_true rfl)) d_Tokens_areSpelledSame_28 ⟨hRc, hRs⟩) (fun r0 Sn H locs hw9 hP hD hS => ?_)
        obtain ⟨e9, e8⟩ := hw9
        rw [e8] at hP hD
        refine W.widen (k := cells) (n := slots) (Nat.le_refl _) (Nat.le_refl _) ?_
        refine toI (y := r6) e9 ?_
        obtain ⟨⟨r7, T7⟩, hq7, h⟩ := Option.bind_eq_some_iff.mp h
        try dsimp only at h
        refine go_iS (As := [.ref (ad 50), .int r4, .ref (ad 50), .int r5, .int r6]) (g := g) (A := A) (h := shC) hP hK hD hS hA hN (fun hp => va_runSN (As := [.ref (ad 50), .int r4, .ref (ad 50), .int r5, .int r6]) (rest := []) ⟨hx, hb, hml, hown, htt⟩ (t_MM_areSame l g _ ad T6 37 125538 37 125538 (r4 : Int32) (r5 : Int32) (r6 : Int32) rfl rfl k9 r7 T7 hq7) ⟨(cb_N (host := "MacroMill") htt k_1012 k_262 hN nM_23 hd_MM_areSame ⟨(Nat.le_trans (by decide +kernel) hRf), (Nat.le_trans (by decide +kernel) hRl)⟩), htt _ k_1011, trivial⟩ hp rfl rfl hl.1 rfl (lv_room (Nat.le_of_ble_eq_true rfl)) d_Tokens_areSpelledSame_31 ⟨hRc, hRs⟩) (fun r0 Sn H locs hw9 hP hD hS => ?_)
        obtain ⟨e9, e8⟩ := hw9
        rw [e8] at hP hD
        refine W.widen (k := cells) (n := slots) (Nat.le_refl _) (Nat.le_refl _) ?_
        refine toI (y := r7) e9 ?_
        refine lv_if_eq (tgt := 41) hx hb d_Tokens_areSpelledSame_34 (by decide) (fun hc8 => ?_) (fun hc8 => ?_)
        · rw [if_pos hc8] at h
          exact (ih.2.1) T7 L M ls H locs h (lv_sub hl [0, 1, 2] rfl) hP hD hS
        · rw [if_neg hc8] at h
          refine lv_iconst (v := 1) hx hb d_Tokens_areSpelledSame_37 (by decide) ?_
          refine lv_goto (tgt := 42) hx hb d_Tokens_areSpelledSame_38 (by decide) ?_
          exact (ih.2.2) T7 (upd L 100 (1 : Int32)) M ls H locs h (lv_sub hl [0, 1, 2] rfl) hP hD hS
    · intro S L M ls H locs h hl hP hD hS
      simp only [f_Tokens_areSpelledSame] at h
      refine lv_iconst (v := 0) hx hb d_Tokens_areSpelledSame_41 (by decide) ?_
      exact (ih.2.2) S (upd L 100 (0 : Int32)) M ls H locs h (lv_sub hl [0, 1, 2] rfl) hP hD hS
    · intro S L M ls H locs h hl hP hD hS
      simp only [f_Tokens_areSpelledSame] at h
      obtain ⟨hv1, h⟩ := chk h
      cases h
      exact kx_42 ls H locs (bz_n hv1) hP hD hS
abbrev rm_t_Tokens_areSpelledSame : Room := { frames := 1, cells := 0, slots := 0, locals := 25 }
theorem t_Tokens_areSpelledSame (l : Launch) (g : gG) (sz : Nat) (ad : Nat → Nat) (S : sS) (v1 : Int64) (v2 : Int64) (k : Nat) (r : Int32) (S9 : sS) (h : f_Tokens_areSpelledSame k 0 S (fun _ => 0) (vp_updL (vp_updL (fun _ => 0) 1 v1) 3 v2) = some (r, S9)) : Cz l y_Tokens_areSpelledSame b_Tokens_areSpelledSame 5 rm_t_Tokens_areSpelledSame g [.ref (ad 9), .long v1, .long v2] (Sw shC g ad S) sz (fun r1 w => ∃ S1 : sS, w = Sw shC g ad S1 ∧ r1 = r ∧ S1 = S9) := by
  refine startZ (by decide) (Nat.le_of_ble_eq_true rfl) ?_
  intro p e s m below meth c A ls hx hb hr hml hlocks hmn hown htt hN hA hP hK hD hS hl
  exact (w_Tokens_areSpelledSame hx hb hml hown htt hK hN hA (by decide +kernel) (by decide +kernel) (by decide +kernel) (by decide +kernel) r S9 (fun ls H locs hz hP hD hS => fin_z (g := g) (ws := Sw shC g ad S9) hx hb hr hlocks hz (by decide +kernel) (by decide +kernel) hP hD hS ⟨_, rfl, rfl, rfl⟩ d_Tokens_areSpelledSame_42) k).1 S (fun _ => 0) (vp_updL (vp_updL (fun _ => 0) 1 v1) 3 v2) ls _ _ h hl hP hD hS
def f_Tokens_isNarrow : Nat → Nat → sS → (Nat → Int32) → (Nat → Int64) → Option (Int32 × sS)
  | 0, _, _, _, _ => none
  | k + 1, 0, S, L, M => (f_Tokens_kind k 0 S (upd (fun _ => 0) 1 (L 1 : Int32)) (fun _ => 0)).bind (fun (r1, T1) => if r1 = (L 2) then ((f_Tokens_from k 0 T1 (upd (fun _ => 0) 1 (L 1 : Int32)) (fun _ => 0)).bind (fun (r3, T3) => if okI (r3) 125538 = true then (if (T3.2.1 37 (r3 : Int32).toNatClampNeg) = (76 : Int32) then (f_Tokens_isNarrow k 1 T3 L M) else (f_Tokens_isNarrow k 2 T3 (upd L 100 (1 : Int32)) M)) else none)) else (f_Tokens_isNarrow k 1 T1 L M))
  | k + 1, 1, S, L, M => f_Tokens_isNarrow k 2 S (upd L 100 (0 : Int32)) M
  | k + 1, 2, S, L, M => if bz (L 100) = true then some (L 100, S) else none
  | _ + 1, _ + 3, _, _, _ => none
set_option maxHeartbeats 8000000 in
set_option maxRecDepth 100000 in
theorem w_Tokens_isNarrow {p : Program} {l : Launch} {e : Env} {R : Room} {s : State} {m : MethodId} {args : Array Value} {below : List Frame} {meth : Method} {c : Code} {cells slots : Nat} {Q : State → Prop} {g : gG} {A : Nat → Prop} {ad : Nat → Nat} (hx : p.tables.exec = Jvm.exec) (hb : c.code = b_Tokens_isNarrow) (hml : c.maxLocals = 3) (hown : s.vm.findClass "MacroMill$Tokens" = some m.cls) (htt : ∀ w ∈ gt, w.before args s = true) (hK : va_K g.1 classes (tysG g) s) (hN : nw s) (hA : ∀ q : Nat, s.heap.size ≤ q → A q) (hRf : 1 ≤ R.frames) (hRl : 21 ≤ R.locals) (hRc : cells ≤ R.cells) (hRs : slots ≤ R.slots) (r : Int32) (S9 : sS)
    (kx_29 : ∀ (ls : Array Slot) (H : Heap) (locs : List Loc), narrow .boolean (.int r) = .int r → va_P g.1 classes (Sw shC g ad S9) H → va_D A (Sw shC g ad S9) → va_S A s.heap H locs → W p l e R s m args below meth c H locs cells slots Q (F0 m 29 ls [.int r])) :
    ∀ k9 : Nat, (∀ (S : sS) (L : Nat → Int32) (M : Nat → Int64) (ls : Array Slot) (H : Heap) (locs : List Loc), f_Tokens_isNarrow k9 0 S L M = some (r, S9) → lv_has ls 3 [(0, .ref (ad 9)), (1, .int (L 1)), (2, .int (L 2))] → va_P g.1 classes (Sw shC g ad S) H → va_D A (Sw shC g ad S) → va_S A s.heap H locs → W p l e R s m args below meth c H locs cells slots Q (F0 m 0 ls [])) ∧ (∀ (S : sS) (L : Nat → Int32) (M : Nat → Int64) (ls : Array Slot) (H : Heap) (locs : List Loc), f_Tokens_isNarrow k9 1 S L M = some (r, S9) → lv_has ls 3 [(0, .ref (ad 9)), (1, .int (L 1)), (2, .int (L 2))] → va_P g.1 classes (Sw shC g ad S) H → va_D A (Sw shC g ad S) → va_S A s.heap H locs → W p l e R s m args below meth c H locs cells slots Q (F0 m 28 ls [])) ∧ (∀ (S : sS) (L : Nat → Int32) (M : Nat → Int64) (ls : Array Slot) (H : Heap) (locs : List Loc), f_Tokens_isNarrow k9 2 S L M = some (r, S9) → lv_has ls 3 [(0, .ref (ad 9)), (1, .int (L 1)), (2, .int (L 2))] → va_P g.1 classes (Sw shC g ad S) H → va_D A (Sw shC g ad S) → va_S A s.heap H locs → W p l e R s m args below meth c H locs cells slots Q (F0 m 29 ls [.int (L 100)])) := by
  intro k9
  induction k9 with
  | zero => exact ⟨(fun _ _ _ _ _ _ h => by simp [f_Tokens_isNarrow] at h), (fun _ _ _ _ _ _ h => by simp [f_Tokens_isNarrow] at h), (fun _ _ _ _ _ _ h => by simp [f_Tokens_isNarrow] at h)⟩
  | succ k9 ih =>
    refine ⟨?_, ?_, ?_⟩
    · intro S L M ls H locs h hl hP hD hS
      simp only [f_Tokens_isNarrow] at h
      refine lv_aload_n hx hb d_Tokens_isNarrow_0 rfl (lv_at hl 0 rfl) ?_
      refine lv_iload_n hx hb d_Tokens_isNarrow_1 rfl (lv_at hl 1 rfl) ?_
      obtain ⟨⟨r1, T1⟩, hq1, h⟩ := Option.bind_eq_some_iff.mp h
      try dsimp only at h
      refine go_iS (As := [.ref (ad 9), .int (L 1)]) (g := g) (A := A) (h := shC) hP hK hD hS hA hN (fun hp => va_runV (As := [.int (L 1)]) (rest := []) ⟨hx, hb, hml, hown, htt⟩ (t_Tokens_kind l g _ ad S (L 1 : Int32) k9 r1 T1 hq1) ⟨(cb_L htt k_1823 k_271 k_2108 hd_Tokens_kind ⟨(Nat.le_trans (by decide +kernel) hRf), (Nat.le_trans (by decide +kernel) hRl)⟩), htt _ k_1821, htt _ k_1822⟩ ⟨hp.1, S_recv hK hP 9 rfl rfl, hp.2⟩ rfl rfl hl.1 rfl (lv_room (Nat.le_of_ble_eq_true rfl)) d_Tokens_isNarrow_2 ⟨hRc, hRs⟩) (fun r0 Sn H locs hw9 hP hD hS => ?_)
      obtain ⟨e9, e8⟩ := hw9
      rw [e8] at hP hD
      refine W.widen (k := cells) (n := slots) (Nat.le_refl _) (Nat.le_refl _) ?_
      refine toI (y := r1) e9 ?_
      refine lv_iload_n hx hb d_Tokens_isNarrow_5 rfl (lv_at hl 2 rfl) ?_
      refine lv_icmp_ne (tgt := 28) hx hb d_Tokens_isNarrow_6 (by decide) (fun hc2 => ?_) (fun hc2 => ?_)
      · rw [if_neg hc2] at h
        exact (ih.2.1) T1 L M ls H locs h (lv_sub hl [0, 1, 2] rfl) hP hD hS
      · rw [if_pos hc2] at h
        refine lv_aload_n hx hb d_Tokens_isNarrow_9 rfl (lv_at hl 0 rfl) ?_
        refine S_getR (h := shC) (C := "MacroMill$Tokens") (T := F_Tokens) hx hb htt in_Tokens hown hK hP 9 0 rfl 50 rfl rfl (by decide) (htt _ k_633) (fun _ h9 => h9) d_Tokens_isNarrow_10 ?_
        refine lv_aload_n hx hb d_Tokens_isNarrow_13 rfl (lv_at hl 0 rfl) ?_
        refine lv_iload_n hx hb d_Tokens_isNarrow_14 rfl (lv_at hl 1 rfl) ?_
        obtain ⟨⟨r3, T3⟩, hq3, h⟩ := Option.bind_eq_some_iff.mp h
        try dsimp only at h
        refine go_iS (As := [.ref (ad 9), .int (L 1)]) (g := g) (A := A) (h := shC) hP hK hD hS hA hN (fun hp => va_runV (As := [.int (L 1)]) (rest := [.ref (ad 50)]) ⟨hx, hb, hml, hown, htt⟩ (t_Tokens_from l g _ ad T1 (L 1 : Int32) k9 r3 T3 hq3) ⟨(cb_L htt k_1716 k_271 k_1713 hd_Tokens_from ⟨(Nat.le_trans (by decide +kernel) hRf), (Nat.le_trans (by decide +kernel) hRl)⟩), htt _ k_1714, htt _ k_1715⟩ ⟨hp.1, S_recv hK hP 9 rfl rfl, hp.2⟩ rfl rfl hl.1 rfl (lv_room (Nat.le_of_ble_eq_true rfl)) d_Tokens_isNarrow_15 ⟨hRc, hRs⟩) (fun r0 Sn H locs hw9 hP hD hS => ?_)
        obtain ⟨e9, e8⟩ := hw9
        rw [e8] at hP hD
        refine W.widen (k := cells) (n := slots) (Nat.le_refl _) (Nat.le_refl _) ?_
        refine toI (y := r3) e9 ?_
        obtain ⟨hv4, h⟩ := chk h
        refine S_bald (h := shC) (i := r3) hx hb hK hP 37 rfl (okI_in hv4) d_Tokens_isNarrow_18 ?_
        refine lv_bipush (v := 76) hx hb d_Tokens_isNarrow_19 (by decide) ?_
        refine lv_icmp_eq (tgt := 28) hx hb d_Tokens_isNarrow_21 (by decide) (fun hc5 => ?_) (fun hc5 => ?_)
        · rw [if_pos hc5] at h
          exact (ih.2.1) T3 L M ls H locs h (lv_sub hl [0, 1, 2] rfl) hP hD hS
        · rw [if_neg hc5] at h
          refine lv_iconst (v := 1) hx hb d_Tokens_isNarrow_24 (by decide) ?_
          refine lv_goto (tgt := 29) hx hb d_Tokens_isNarrow_25 (by decide) ?_
          exact (ih.2.2) T3 (upd L 100 (1 : Int32)) M ls H locs h (lv_sub hl [0, 1, 2] rfl) hP hD hS
    · intro S L M ls H locs h hl hP hD hS
      simp only [f_Tokens_isNarrow] at h
      refine lv_iconst (v := 0) hx hb d_Tokens_isNarrow_28 (by decide) ?_
      exact (ih.2.2) S (upd L 100 (0 : Int32)) M ls H locs h (lv_sub hl [0, 1, 2] rfl) hP hD hS
    · intro S L M ls H locs h hl hP hD hS
      simp only [f_Tokens_isNarrow] at h
      obtain ⟨hv1, h⟩ := chk h
      cases h
      exact kx_29 ls H locs (bz_n hv1) hP hD hS
abbrev rm_t_Tokens_isNarrow : Room := { frames := 1, cells := 0, slots := 0, locals := 21 }
theorem t_Tokens_isNarrow (l : Launch) (g : gG) (sz : Nat) (ad : Nat → Nat) (S : sS) (v1 : Int32) (v2 : Int32) (k : Nat) (r : Int32) (S9 : sS) (h : f_Tokens_isNarrow k 0 S (upd (upd (fun _ => 0) 1 v1) 2 v2) (fun _ => 0) = some (r, S9)) : Cz l y_Tokens_isNarrow b_Tokens_isNarrow 3 rm_t_Tokens_isNarrow g [.ref (ad 9), .int v1, .int v2] (Sw shC g ad S) sz (fun r1 w => ∃ S1 : sS, w = Sw shC g ad S1 ∧ r1 = r ∧ S1 = S9) := by
  refine startZ (by decide) (Nat.le_of_ble_eq_true rfl) ?_
  intro p e s m below meth c A ls hx hb hr hml hlocks hmn hown htt hN hA hP hK hD hS hl
  exact (w_Tokens_isNarrow hx hb hml hown htt hK hN hA (by decide +kernel) (by decide +kernel) (by decide +kernel) (by decide +kernel) r S9 (fun ls H locs hz hP hD hS => fin_z (g := g) (ws := Sw shC g ad S9) hx hb hr hlocks hz (by decide +kernel) (by decide +kernel) hP hD hS ⟨_, rfl, rfl, rfl⟩ d_Tokens_isNarrow_29) k).1 S (upd (upd (fun _ => 0) 1 v1) 2 v2) (fun _ => 0) ls _ _ h hl hP hD hS
def f_Tokens_add : Nat → Nat → sS → (Nat → Int32) → (Nat → Int64) → Option (Int32 × sS)
  | 0, _, _, _, _ => none
  | k + 1, 0, S, L, M => if (S.1 9 8) < (120784 : Int32) then (if okI (S.1 9 8) 120784 = true then (if okI (S.1 9 8) 120784 = true then (if okI (S.1 9 8) 120784 = true then (some (((S.1 9 8) + (1 : Int32)) - (1 : Int32), (putI (putA (putA (putL S 39 (S.1 9 8 : Int32).toNatClampNeg (M 1)) 40 (S.1 9 8 : Int32).toNatClampNeg (L 3)) 41 (S.1 9 8 : Int32).toNatClampNeg (-1)) 9 8 ((S.1 9 8) + (1 : Int32))))) else none) else none) else none) else (some (((-1) : Int32), S))
  | _ + 1, _ + 1, _, _, _ => none
set_option maxHeartbeats 8000000 in
set_option maxRecDepth 100000 in
theorem w_Tokens_add {p : Program} {l : Launch} {e : Env} {R : Room} {s : State} {m : MethodId} {args : Array Value} {below : List Frame} {meth : Method} {c : Code} {cells slots : Nat} {Q : State → Prop} {g : gG} {A : Nat → Prop} {ad : Nat → Nat} (hx : p.tables.exec = Jvm.exec) (hb : c.code = b_Tokens_add) (hml : c.maxLocals = 4) (hown : s.vm.findClass "MacroMill$Tokens" = some m.cls) (htt : ∀ w ∈ gt, w.before args s = true) (hK : va_K g.1 classes (tysG g) s) (hN : nw s) (hA : ∀ q : Nat, s.heap.size ≤ q → A q) (r : Int32) (S9 : sS)
    (kx_10 : ∀ (ls : Array Slot) (H : Heap) (locs : List Loc), va_P g.1 classes (Sw shC g ad S9) H → va_D A (Sw shC g ad S9) → va_S A s.heap H locs → W p l e R s m args below meth c H locs cells slots Q (F0 m 10 ls [.int r]))
    (kx_57 : ∀ (ls : Array Slot) (H : Heap) (locs : List Loc), va_P g.1 classes (Sw shC g ad S9) H → va_D A (Sw shC g ad S9) → va_S A s.heap H locs → W p l e R s m args below meth c H locs cells slots Q (F0 m 57 ls [.int r])) :
    ∀ k9 : Nat, (∀ (S : sS) (L : Nat → Int32) (M : Nat → Int64) (ls : Array Slot) (H : Heap) (locs : List Loc), f_Tokens_add k9 0 S L M = some (r, S9) → lv_has ls 4 [(0, .ref (ad 9)), (1, .long (M 1)), (3, .int (L 3))] → va_P g.1 classes (Sw shC g ad S) H → va_D A (Sw shC g ad S) → va_S A s.heap H locs → W p l e R s m args below meth c H locs cells slots Q (F0 m 0 ls [])) := by
  intro k9
  induction k9 with
  | zero => exact (fun _ _ _ _ _ _ h => by simp [f_Tokens_add] at h)
  | succ k9 ih =>
    · intro S L M ls H locs h hl hP hD hS
      simp only [f_Tokens_add] at h
      refine lv_aload_n hx hb d_Tokens_add_0 rfl (lv_at hl 0 rfl) ?_
      refine S_getI (h := shC) (C := "MacroMill$Tokens") (T := F_Tokens) hx hb htt in_Tokens hown hK hP 9 8 rfl rfl rfl (by decide) (htt _ k_657) (fun _ h9 => h9) d_Tokens_add_1 ?_
      refine lv_ldc (v := 120784) hx hb hown (htt _ k_630) d_Tokens_add_4 ?_
      refine lv_icmp_lt (tgt := 11) hx hb d_Tokens_add_6 (by decide) (fun hc1 => ?_) (fun hc1 => ?_)
      · rw [if_pos hc1] at h
        refine lv_aload_n hx hb d_Tokens_add_11 rfl (lv_at hl 0 rfl) ?_
        refine S_getR (h := shC) (C := "MacroMill$Tokens") (T := F_Tokens) hx hb htt in_Tokens hown hK hP 9 5 rfl 52 rfl rfl (by decide) (htt _ k_645) (fun _ h9 => h9) d_Tokens_add_12 ?_
        refine lv_aload_n hx hb d_Tokens_add_15 rfl (lv_at hl 0 rfl) ?_
        refine S_getI (h := shC) (C := "MacroMill$Tokens") (T := F_Tokens) hx hb htt in_Tokens hown hK hP 9 8 rfl rfl rfl (by decide) (htt _ k_657) (fun _ h9 => h9) d_Tokens_add_16 ?_
        refine lv_lload_n hx hb d_Tokens_add_19 rfl (lv_at hl 1 rfl) ?_
        obtain ⟨hv2, h⟩ := chk h
        refine S_last (h := shC) (i := S.1 9 8) (v := M 1) hx hb hK hP hD hS 39 rfl (okI_in hv2) d_Tokens_add_20 (fun H locs hP hD hS => ?_)
        refine lv_aload_n hx hb d_Tokens_add_21 rfl (lv_at hl 0 rfl) ?_
        refine S_getR (h := shC) (C := "MacroMill$Tokens") (T := F_Tokens) hx hb htt in_Tokens hown hK hP 9 6 rfl 53 rfl rfl (by decide) (htt _ k_649) (fun _ h9 => h9) d_Tokens_add_22 ?_
        show W _ _ _ _ _ _ _ _ _ _ _ _ _ _ _ (F0 _ 25 _ _)
        refine lv_aload_n hx hb d_Tokens_add_25 rfl (lv_at hl 0 rfl) ?_
        refine S_getI (h := shC) (C := "MacroMill$Tokens") (T := F_Tokens) hx hb htt in_Tokens hown hK hP 9 8 rfl rfl rfl (by decide) (htt _ k_657) (fun _ h9 => h9) d_Tokens_add_26 ?_
        refine toI (y := S.1 9 8) rfl ?_
        refine lv_iload_n hx hb d_Tokens_add_29 rfl (lv_at hl 2 rfl) ?_
        obtain ⟨hv3, h⟩ := chk h
        refine S_iast (h := shC) (i := S.1 9 8) (v := L 3) hx hb hK hP hD hS 40 rfl (okI_in hv3) d_Tokens_add_30 (fun H locs hP hD hS => ?_)
        refine lv_aload_n hx hb d_Tokens_add_31 rfl (lv_at hl 0 rfl) ?_
        refine S_getR (h := shC) (C := "MacroMill$Tokens") (T := F_Tokens) hx hb htt in_Tokens hown hK hP 9 7 rfl 54 rfl rfl (by decide) (htt _ k_653) (fun _ h9 => h9) d_Tokens_add_32 ?_
        refine lv_aload_n hx hb d_Tokens_add_35 rfl (lv_at hl 0 rfl) ?_
        refine S_getI (h := shC) (C := "MacroMill$Tokens") (T := F_Tokens) hx hb htt in_Tokens hown hK hP 9 8 rfl rfl rfl (by decide) (htt _ k_657) (fun _ h9 => h9) d_Tokens_add_36 ?_
        refine toI (y := S.1 9 8) rfl ?_
        refine lv_iconst (v := (-1)) hx hb d_Tokens_add_39 (by decide) ?_
        obtain ⟨hv4, h⟩ := chk h
        refine S_iast (h := shC) (i := S.1 9 8) (v := (-1)) hx hb hK hP hD hS 41 rfl (okI_in hv4) d_Tokens_add_40 (fun H locs hP hD hS => ?_)
        refine lv_aload_n hx hb d_Tokens_add_41 rfl (lv_at hl 0 rfl) ?_
        refine lv_dup hx hb d_Tokens_add_42 rfl ?_
        show W _ _ _ _ _ _ _ _ _ _ _ _ _ _ _ (F0 _ 43 _ _)
        refine S_getI (h := shC) (C := "MacroMill$Tokens") (T := F_Tokens) hx hb htt in_Tokens hown hK hP 9 8 rfl rfl rfl (by decide) (htt _ k_657) (fun _ h9 => h9) d_Tokens_add_43 ?_
        refine toI (y := S.1 9 8) rfl ?_
        refine lv_iconst (v := 1) hx hb d_Tokens_add_46 (by decide) ?_
        refine lv_iadd hx hb d_Tokens_add_47 ?_
        refine S_put (h := shC) (C := "MacroMill$Tokens") (T := F_Tokens) (v := (S.1 9 8) + (1 : Int32)) hx hb htt in_Tokens t_Tokens t_Tokens_ok n_Tokens hown hK hP hD hS 9 8 rfl rfl rfl (by decide) (htt _ k_657) (fun _ h9 => h9) rfl rfl rfl d_Tokens_add_48 (fun H locs hP hD hS => ?_)
        refine lv_aload_n hx hb d_Tokens_add_51 rfl (lv_at hl 0 rfl) ?_
        refine S_getI (h := shC) (C := "MacroMill$Tokens") (T := F_Tokens) hx hb htt in_Tokens hown hK hP 9 8 rfl rfl rfl (by decide) (htt _ k_657) (fun _ h9 => h9) d_Tokens_add_52 ?_
        refine toI (y := (S.1 9 8) + (1 : Int32)) rfl ?_
        refine lv_iconst (v := 1) hx hb d_Tokens_add_55 (by decide) ?_
        refine lv_isub hx hb d_Tokens_add_56 ?_
        cases h
        exact kx_57 ls H locs hP hD hS
      · rw [if_neg hc1] at h
        refine lv_iconst (v := (-1)) hx hb d_Tokens_add_9 (by decide) ?_
        cases h
        exact kx_10 ls H locs hP hD hS
abbrev rm_t_Tokens_add : Room := { frames := 0, cells := 0, slots := 0, locals := 0 }
theorem t_Tokens_add (l : Launch) (g : gG) (sz : Nat) (ad : Nat → Nat) (S : sS) (v1 : Int64) (v2 : Int32) (k : Nat) (r : Int32) (S9 : sS) (h : f_Tokens_add k 0 S (upd (fun _ => 0) 3 v2) (vp_updL (fun _ => 0) 1 v1) = some (r, S9)) : Ci l y_Tokens_add b_Tokens_add 4 rm_t_Tokens_add g [.ref (ad 9), .long v1, .int v2] (Sw shC g ad S) sz (fun r1 w => ∃ S1 : sS, w = Sw shC g ad S1 ∧ r1 = r ∧ S1 = S9) := by
  refine startI (by decide) (Nat.le_of_ble_eq_true rfl) ?_
  intro p e s m below meth c A ls hx hb hr hml hlocks hmn hown htt hN hA hP hK hD hS hl
  exact (w_Tokens_add hx hb hml hown htt hK hN hA r S9 (fun ls H locs hP hD hS => fin_i (g := g) (ws := Sw shC g ad S9) hx hb hr hlocks (by decide +kernel) (by decide +kernel) hP hD hS ⟨_, rfl, rfl, rfl⟩ d_Tokens_add_10) (fun ls H locs hP hD hS => fin_i (g := g) (ws := Sw shC g ad S9) hx hb hr hlocks (by decide +kernel) (by decide +kernel) hP hD hS ⟨_, rfl, rfl, rfl⟩ d_Tokens_add_57) k) S (upd (fun _ => 0) 3 v2) (vp_updL (fun _ => 0) 1 v1) ls _ _ h hl hP hD hS
def f_Tokens_becomeTruth : Nat → Nat → sS → (Nat → Int32) → (Nat → Int64) → Option (Int32 × sS)
  | 0, _, _, _, _ => none
  | k + 1, 0, S, L, M => if (L 2) = (0 : Int32) then (f_Tokens_becomeTruth k 1 S (upd (upd L 102 (60000 : Int32)) 101 (L 1)) M) else (f_Tokens_becomeTruth k 1 S (upd (upd L 102 (60001 : Int32)) 101 (L 1)) M)
  | k + 1, 1, S, L, M => (f_Tokens_spelled k 0 S (upd (upd (fun _ => 0) 0 (L 102 : Int32)) 1 (1 : Int32)) (fun _ => 0)).bind (fun (r1, T1) => if okI (L 101) 120784 = true then (if okI (L 1) 120784 = true then ((f_Tokens_withKind k 0 (putL T1 39 (L 101 : Int32).toNatClampNeg r1) (upd (upd (fun _ => 0) 0 ((putL T1 39 (L 101 : Int32).toNatClampNeg r1).2.1 40 (L 1 : Int32).toNatClampNeg : Int32)) 1 (2 : Int32)) (fun _ => 0)).bind (fun (r4, T4) => if okI (L 1) 120784 = true then (some ((0 : Int32), (putA T4 40 (L 1 : Int32).toNatClampNeg r4))) else none)) else none) else none)
  | _ + 1, _ + 2, _, _, _ => none
set_option maxHeartbeats 8000000 in
set_option maxRecDepth 100000 in
theorem w_Tokens_becomeTruth {p : Program} {l : Launch} {e : Env} {R : Room} {s : State} {m : MethodId} {args : Array Value} {below : List Frame} {meth : Method} {c : Code} {cells slots : Nat} {Q : State → Prop} {g : gG} {A : Nat → Prop} {ad : Nat → Nat} (hx : p.tables.exec = Jvm.exec) (hb : c.code = b_Tokens_becomeTruth) (hml : c.maxLocals = 3) (hown : s.vm.findClass "MacroMill$Tokens" = some m.cls) (htt : ∀ w ∈ gt, w.before args s = true) (hK : va_K g.1 classes (tysG g) s) (hN : nw s) (hA : ∀ q : Nat, s.heap.size ≤ q → A q) (hRf : 1 ≤ R.frames) (hRl : 21 ≤ R.locals) (hRc : cells ≤ R.cells) (hRs : slots ≤ R.slots) (r : Int32) (S9 : sS)
    (kx_37 : ∀ (ls : Array Slot) (H : Heap) (locs : List Loc), va_P g.1 classes (Sw shC g ad S9) H → va_D A (Sw shC g ad S9) → va_S A s.heap H locs → W p l e R s m args below meth c H locs cells slots Q (F0 m 37 ls [])) :
    ∀ k9 : Nat, (∀ (S : sS) (L : Nat → Int32) (M : Nat → Int64) (ls : Array Slot) (H : Heap) (locs : List Loc), f_Tokens_becomeTruth k9 0 S L M = some (r, S9) → lv_has ls 3 [(0, .ref (ad 9)), (1, .int (L 1)), (2, .int (L 2))] → va_P g.1 classes (Sw shC g ad S) H → va_D A (Sw shC g ad S) → va_S A s.heap H locs → W p l e R s m args below meth c H locs cells slots Q (F0 m 0 ls [])) ∧ (∀ (S : sS) (L : Nat → Int32) (M : Nat → Int64) (ls : Array Slot) (H : Heap) (locs : List Loc), f_Tokens_becomeTruth k9 1 S L M = some (r, S9) → lv_has ls 3 [(0, .ref (ad 9)), (1, .int (L 1)), (2, .int (L 2))] → va_P g.1 classes (Sw shC g ad S) H → va_D A (Sw shC g ad S) → va_S A s.heap H locs → W p l e R s m args below meth c H locs cells slots Q (F0 m 16 ls [.int (L 102), .int (L 101), .ref (ad 52)])) := by
  intro k9
  induction k9 with
  | zero => exact ⟨(fun _ _ _ _ _ _ h => by simp [f_Tokens_becomeTruth] at h), (fun _ _ _ _ _ _ h => by simp [f_Tokens_becomeTruth] at h)⟩
  | succ k9 ih =>
    refine ⟨?_, ?_⟩
    · intro S L M ls H locs h hl hP hD hS
      simp only [f_Tokens_becomeTruth] at h
      refine lv_aload_n hx hb d_Tokens_becomeTruth_0 rfl (lv_at hl 0 rfl) ?_
      refine S_getR (h := shC) (C := "MacroMill$Tokens") (T := F_Tokens) hx hb htt in_Tokens hown hK hP 9 5 rfl 52 rfl rfl (by decide) (htt _ k_645) (fun _ h9 => h9) d_Tokens_becomeTruth_1 ?_
      refine lv_iload_n hx hb d_Tokens_becomeTruth_4 rfl (lv_at hl 1 rfl) ?_
      refine lv_iload_n hx hb d_Tokens_becomeTruth_5 rfl (lv_at hl 2 rfl) ?_
      refine lv_if_eq (tgt := 14) hx hb d_Tokens_becomeTruth_6 (by decide) (fun hc1 => ?_) (fun hc1 => ?_)
      · rw [if_pos hc1] at h
        refine lv_ldc (v := 60000) hx hb hown (htt _ k_631) d_Tokens_becomeTruth_14 ?_
        exact (ih.2) S (upd (upd L 102 (60000 : Int32)) 101 (L 1)) M ls H locs h (lv_sub hl [0, 1, 2] rfl) hP hD hS
      · rw [if_neg hc1] at h
        refine lv_ldc (v := 60001) hx hb hown (htt _ k_632) d_Tokens_becomeTruth_9 ?_
        refine lv_goto (tgt := 16) hx hb d_Tokens_becomeTruth_11 (by decide) ?_
        exact (ih.2) S (upd (upd L 102 (60001 : Int32)) 101 (L 1)) M ls H locs h (lv_sub hl [0, 1, 2] rfl) hP hD hS
    · intro S L M ls H locs h hl hP hD hS
      simp only [f_Tokens_becomeTruth] at h
      refine lv_iconst (v := 1) hx hb d_Tokens_becomeTruth_16 (by decide) ?_
      obtain ⟨⟨r1, T1⟩, hq1, h⟩ := Option.bind_eq_some_iff.mp h
      try dsimp only at h
      refine go_lS (As := [.int (L 102), .int 1]) (g := g) (A := A) (h := shC) hP hK hD hS hA hN (fun hp => va_runS (As := [.int (L 102), .int 1]) (rest := [.int (L 101), .ref (ad 52)]) ⟨hx, hb, hml, hown, htt⟩ (t_Tokens_spelled l g _ ad S (L 102 : Int32) (1 : Int32) k9 r1 T1 hq1) ⟨(cb_L htt k_1693 k_271 k_1869 hd_Tokens_spelled ⟨(Nat.le_trans (by decide +kernel) hRf), (Nat.le_trans (by decide +kernel) hRl)⟩), htt _ k_1692⟩ hp rfl rfl hl.1 rfl (lv_room (Nat.le_of_ble_eq_true rfl)) d_Tokens_becomeTruth_17 ⟨hRc, hRs⟩) (fun r0 Sn H locs hw9 hP hD hS => ?_)
      obtain ⟨e9, e8⟩ := hw9
      rw [e8] at hP hD
      refine W.widen (k := cells) (n := slots) (Nat.le_refl _) (Nat.le_refl _) ?_
      refine toL (y := r1) e9 ?_
      obtain ⟨hv2, h⟩ := chk h
      refine S_last (h := shC) (i := L 101) (v := r1) hx hb hK hP hD hS 39 rfl (okI_in hv2) d_Tokens_becomeTruth_20 (fun H locs hP hD hS => ?_)
      refine lv_aload_n hx hb d_Tokens_becomeTruth_21 rfl (lv_at hl 0 rfl) ?_
      refine S_getR (h := shC) (C := "MacroMill$Tokens") (T := F_Tokens) hx hb htt in_Tokens hown hK hP 9 6 rfl 53 rfl rfl (by decide) (htt _ k_649) (fun _ h9 => h9) d_Tokens_becomeTruth_22 ?_
      refine lv_iload_n hx hb d_Tokens_becomeTruth_25 rfl (lv_at hl 1 rfl) ?_
      refine lv_aload_n hx hb d_Tokens_becomeTruth_26 rfl (lv_at hl 0 rfl) ?_
      refine S_getR (h := shC) (C := "MacroMill$Tokens") (T := F_Tokens) hx hb htt in_Tokens hown hK hP 9 6 rfl 53 rfl rfl (by decide) (htt _ k_649) (fun _ h9 => h9) d_Tokens_becomeTruth_27 ?_
      refine lv_iload_n hx hb d_Tokens_becomeTruth_30 rfl (lv_at hl 1 rfl) ?_
      obtain ⟨hv3, h⟩ := chk h
      refine S_iald (h := shC) (i := L 1) hx hb hK hP 40 rfl (okI_in hv3) d_Tokens_becomeTruth_31 ?_
      refine lv_iconst (v := 2) hx hb d_Tokens_becomeTruth_32 (by decide) ?_
      obtain ⟨⟨r4, T4⟩, hq4, h⟩ := Option.bind_eq_some_iff.mp h
      try dsimp only at h
      refine go_iS (As := [.int ((putL T1 39 (L 101 : Int32).toNatClampNeg r1).2.1 40 (L 1 : Int32).toNatClampNeg), .int 2]) (g := g) (A := A) (h := shC) hP hK hD hS hA hN (fun hp => va_runS (As := [.int ((putL T1 39 (L 101 : Int32).toNatClampNeg r1).2.1 40 (L 1 : Int32).toNatClampNeg), .int 2]) (rest := [.int (L 1), .ref (ad 53)]) ⟨hx, hb, hml, hown, htt⟩ (t_Tokens_withKind l g _ ad (putL T1 39 (L 101 : Int32).toNatClampNeg r1) ((putL T1 39 (L 101 : Int32).toNatClampNeg r1).2.1 40 (L 1 : Int32).toNatClampNeg : Int32) (2 : Int32) k9 r4 T4 hq4) ⟨(cb_L htt k_1834 k_271 k_2022 hd_Tokens_withKind ⟨(Nat.le_trans (by decide +kernel) hRf), (Nat.le_trans (by decide +kernel) hRl)⟩), htt _ k_1833⟩ hp rfl rfl hl.1 rfl (lv_room (Nat.le_of_ble_eq_true rfl)) d_Tokens_becomeTruth_33 ⟨hRc, hRs⟩) (fun r0 Sn H locs hw9 hP hD hS => ?_)
      obtain ⟨e9, e8⟩ := hw9
      rw [e8] at hP hD
      refine W.widen (k := cells) (n := slots) (Nat.le_refl _) (Nat.le_refl _) ?_
      refine toI (y := r4) e9 ?_
      obtain ⟨hv5, h⟩ := chk h
      refine S_iast (h := shC) (i := L 1) (v := r4) hx hb hK hP hD hS 40 rfl (okI_in hv5) d_Tokens_becomeTruth_36 (fun H locs hP hD hS => ?_)
      cases h
      exact kx_37 ls H locs hP hD hS
abbrev rm_t_Tokens_becomeTruth : Room := { frames := 1, cells := 0, slots := 0, locals := 21 }
theorem t_Tokens_becomeTruth (l : Launch) (g : gG) (sz : Nat) (ad : Nat → Nat) (S : sS) (v1 : Int32) (v2 : Int32) (k : Nat) (r : Int32) (S9 : sS) (h : f_Tokens_becomeTruth k 0 S (upd (upd (fun _ => 0) 1 v1) 2 v2) (fun _ => 0) = some (r, S9)) : Cv l y_Tokens_becomeTruth b_Tokens_becomeTruth 3 rm_t_Tokens_becomeTruth g [.ref (ad 9), .int v1, .int v2] (Sw shC g ad S) sz (fun w => ∃ S1 : sS, w = Sw shC g ad S1 ∧ S1 = S9) := by
  refine startV (by decide) (Nat.le_of_ble_eq_true rfl) ?_
  intro p e s m below meth c A ls hx hb hr hml hlocks hmn hown htt hN hA hP hK hD hS hl
  exact (w_Tokens_becomeTruth hx hb hml hown htt hK hN hA (by decide +kernel) (by decide +kernel) (by decide +kernel) (by decide +kernel) r S9 (fun ls H locs hP hD hS => fin_v (g := g) (ws := Sw shC g ad S9) hx hb hr hlocks (by decide +kernel) (by decide +kernel) hP hD hS ⟨_, rfl, rfl⟩ d_Tokens_becomeTruth_37) k).1 S (upd (upd (fun _ => 0) 1 v1) 2 v2) (fun _ => 0) ls _ _ h hl hP hD hS
def f_Tokens_make : Nat → Nat → sS → (Nat → Int32) → (Nat → Int64) → Option (Int32 × sS)
  | 0, _, _, _, _ => none
  | k + 1, 0, S, L, M => if (S.1 9 2) < (60000 : Int32) then (if okI (S.1 9 2) 125538 = true then (some ((0 : Int32), (putI (putA S 37 (S.1 9 2 : Int32).toNatClampNeg (vp_nar .byte ((L 1).toInt8.toInt32))) 9 2 ((S.1 9 2) + (1 : Int32))))) else none) else (some ((0 : Int32), (putI S 9 3 1)))
  | _ + 1, _ + 1, _, _, _ => none
set_option maxHeartbeats 8000000 in
set_option maxRecDepth 100000 in
theorem w_Tokens_make {p : Program} {l : Launch} {e : Env} {R : Room} {s : State} {m : MethodId} {args : Array Value} {below : List Frame} {meth : Method} {c : Code} {cells slots : Nat} {Q : State → Prop} {g : gG} {A : Nat → Prop} {ad : Nat → Nat} (hx : p.tables.exec = Jvm.exec) (hb : c.code = b_Tokens_make) (hml : c.maxLocals = 2) (hown : s.vm.findClass "MacroMill$Tokens" = some m.cls) (htt : ∀ w ∈ gt, w.before args s = true) (hK : va_K g.1 classes (tysG g) s) (hN : nw s) (hA : ∀ q : Nat, s.heap.size ≤ q → A q) (r : Int32) (S9 : sS)
    (kx_14 : ∀ (ls : Array Slot) (H : Heap) (locs : List Loc), va_P g.1 classes (Sw shC g ad S9) H → va_D A (Sw shC g ad S9) → va_S A s.heap H locs → W p l e R s m args below meth c H locs cells slots Q (F0 m 14 ls []))
    (kx_36 : ∀ (ls : Array Slot) (H : Heap) (locs : List Loc), va_P g.1 classes (Sw shC g ad S9) H → va_D A (Sw shC g ad S9) → va_S A s.heap H locs → W p l e R s m args below meth c H locs cells slots Q (F0 m 36 ls [])) :
    ∀ k9 : Nat, (∀ (S : sS) (L : Nat → Int32) (M : Nat → Int64) (ls : Array Slot) (H : Heap) (locs : List Loc), f_Tokens_make k9 0 S L M = some (r, S9) → lv_has ls 2 [(0, .ref (ad 9)), (1, .int (L 1))] → va_P g.1 classes (Sw shC g ad S) H → va_D A (Sw shC g ad S) → va_S A s.heap H locs → W p l e R s m args below meth c H locs cells slots Q (F0 m 0 ls [])) := by
  intro k9
  induction k9 with
  | zero => exact (fun _ _ _ _ _ _ h => by simp [f_Tokens_make] at h)
  | succ k9 ih =>
    · intro S L M ls H locs h hl hP hD hS
      simp only [f_Tokens_make] at h
      refine lv_aload_n hx hb d_Tokens_make_0 rfl (lv_at hl 0 rfl) ?_
      refine S_getI (h := shC) (C := "MacroMill$Tokens") (T := F_Tokens) hx hb htt in_Tokens hown hK hP 9 2 rfl rfl rfl (by decide) (htt _ k_639) (fun _ h9 => h9) d_Tokens_make_1 ?_
      refine lv_ldc (v := 60000) hx hb hown (htt _ k_631) d_Tokens_make_4 ?_
      refine lv_icmp_lt (tgt := 15) hx hb d_Tokens_make_6 (by decide) (fun hc1 => ?_) (fun hc1 => ?_)
      · rw [if_pos hc1] at h
        refine lv_aload_n hx hb d_Tokens_make_15 rfl (lv_at hl 0 rfl) ?_
        refine S_getR (h := shC) (C := "MacroMill$Tokens") (T := F_Tokens) hx hb htt in_Tokens hown hK hP 9 0 rfl 50 rfl rfl (by decide) (htt _ k_633) (fun _ h9 => h9) d_Tokens_make_16 ?_
        refine lv_aload_n hx hb d_Tokens_make_19 rfl (lv_at hl 0 rfl) ?_
        refine S_getI (h := shC) (C := "MacroMill$Tokens") (T := F_Tokens) hx hb htt in_Tokens hown hK hP 9 2 rfl rfl rfl (by decide) (htt _ k_639) (fun _ h9 => h9) d_Tokens_make_20 ?_
        refine lv_iload_n hx hb d_Tokens_make_23 rfl (lv_at hl 1 rfl) ?_
        refine lv_i2b (v := (L 1).toInt8.toInt32) hx hb d_Tokens_make_24 rfl ?_
        obtain ⟨hv2, h⟩ := chk h
        refine S_bast (h := shC) (i := S.1 9 2) (v := (L 1).toInt8.toInt32) hx hb hK hP hD hS 37 rfl (okI_in hv2) d_Tokens_make_25 (fun H locs hP hD hS => ?_)
        refine lv_aload_n hx hb d_Tokens_make_26 rfl (lv_at hl 0 rfl) ?_
        show W _ _ _ _ _ _ _ _ _ _ _ _ _ _ _ (F0 _ 27 _ _)
        refine lv_dup hx hb d_Tokens_make_27 rfl ?_
        refine S_getI (h := shC) (C := "MacroMill$Tokens") (T := F_Tokens) hx hb htt in_Tokens hown hK hP 9 2 rfl rfl rfl (by decide) (htt _ k_639) (fun _ h9 => h9) d_Tokens_make_28 ?_
        refine toI (y := S.1 9 2) rfl ?_
        refine lv_iconst (v := 1) hx hb d_Tokens_make_31 (by decide) ?_
        refine lv_iadd hx hb d_Tokens_make_32 ?_
        refine S_put (h := shC) (C := "MacroMill$Tokens") (T := F_Tokens) (v := (S.1 9 2) + (1 : Int32)) hx hb htt in_Tokens t_Tokens t_Tokens_ok n_Tokens hown hK hP hD hS 9 2 rfl rfl rfl (by decide) (htt _ k_639) (fun _ h9 => h9) rfl rfl rfl d_Tokens_make_33 (fun H locs hP hD hS => ?_)
        cases h
        exact kx_36 ls H locs hP hD hS
      · rw [if_neg hc1] at h
        refine lv_aload_n hx hb d_Tokens_make_9 rfl (lv_at hl 0 rfl) ?_
        refine lv_iconst (v := 1) hx hb d_Tokens_make_10 (by decide) ?_
        refine S_put (h := shC) (C := "MacroMill$Tokens") (T := F_Tokens) (v := 1) hx hb htt in_Tokens t_Tokens t_Tokens_ok n_Tokens hown hK hP hD hS 9 3 rfl rfl rfl (by decide) (htt _ k_642) (fun _ h9 => h9) rfl rfl rfl d_Tokens_make_11 (fun H locs hP hD hS => ?_)
        cases h
        exact kx_14 ls H locs hP hD hS
abbrev rm_t_Tokens_make : Room := { frames := 0, cells := 0, slots := 0, locals := 0 }
theorem t_Tokens_make (l : Launch) (g : gG) (sz : Nat) (ad : Nat → Nat) (S : sS) (v1 : Int32) (k : Nat) (r : Int32) (S9 : sS) (h : f_Tokens_make k 0 S (upd (fun _ => 0) 1 v1) (fun _ => 0) = some (r, S9)) : Cv l y_Tokens_make b_Tokens_make 2 rm_t_Tokens_make g [.ref (ad 9), .int v1] (Sw shC g ad S) sz (fun w => ∃ S1 : sS, w = Sw shC g ad S1 ∧ S1 = S9) := by
  refine startV (by decide) (Nat.le_of_ble_eq_true rfl) ?_
  intro p e s m below meth c A ls hx hb hr hml hlocks hmn hown htt hN hA hP hK hD hS hl
  exact (w_Tokens_make hx hb hml hown htt hK hN hA r S9 (fun ls H locs hP hD hS => fin_v (g := g) (ws := Sw shC g ad S9) hx hb hr hlocks (by decide +kernel) (by decide +kernel) hP hD hS ⟨_, rfl, rfl⟩ d_Tokens_make_14) (fun ls H locs hP hD hS => fin_v (g := g) (ws := Sw shC g ad S9) hx hb hr hlocks (by decide +kernel) (by decide +kernel) hP hD hS ⟨_, rfl, rfl⟩ d_Tokens_make_36) k) S (upd (fun _ => 0) 1 v1) (fun _ => 0) ls _ _ h hl hP hD hS
def f_Tokens_makeNumber : Nat → Nat → sS → (Nat → Int32) → (Nat → Int64) → Option (Int32 × sS)
  | 0, _, _, _, _ => none
  | k + 1, 0, S, L, M => f_Tokens_makeNumber k 1 S (upd L 2 (1000000000 : Int32)) M
  | k + 1, 1, S, L, M => if (L 2) ≤ (0 : Int32) then (some ((0 : Int32), S)) else (if (L 2) ≤ (L 1) then (f_Tokens_makeNumber k 2 S L M) else (if (L 2) = (1 : Int32) then (f_Tokens_makeNumber k 2 S L M) else (f_Tokens_makeNumber k 3 S L M)))
  | k + 1, 2, S, L, M => if ¬ (L 2) = 0 then ((f_Tokens_make k 0 S (upd (fun _ => 0) 1 ((48 : Int32) + (((L 1) / (L 2)) - ((L 1) / (L 2)) / (10 : Int32) * (10 : Int32)) : Int32)) (fun _ => 0)).bind (fun (r2, T2) => f_Tokens_makeNumber k 3 T2 L M)) else none
  | k + 1, 3, S, L, M => f_Tokens_makeNumber k 1 S (upd L 2 ((L 2) / (10 : Int32))) M
  | _ + 1, _ + 4, _, _, _ => none
set_option maxHeartbeats 8000000 in
set_option maxRecDepth 100000 in
theorem w_Tokens_makeNumber {p : Program} {l : Launch} {e : Env} {R : Room} {s : State} {m : MethodId} {args : Array Value} {below : List Frame} {meth : Method} {c : Code} {cells slots : Nat} {Q : State → Prop} {g : gG} {A : Nat → Prop} {ad : Nat → Nat} (hx : p.tables.exec = Jvm.exec) (hb : c.code = b_Tokens_makeNumber) (hml : c.maxLocals = 3) (hown : s.vm.findClass "MacroMill$Tokens" = some m.cls) (htt : ∀ w ∈ gt, w.before args s = true) (hK : va_K g.1 classes (tysG g) s) (hN : nw s) (hA : ∀ q : Nat, s.heap.size ≤ q → A q) (hRf : 1 ≤ R.frames) (hRl : 21 ≤ R.locals) (hRc : cells ≤ R.cells) (hRs : slots ≤ R.slots) (r : Int32) (S9 : sS)
    (kx_38 : ∀ (ls : Array Slot) (H : Heap) (locs : List Loc), va_P g.1 classes (Sw shC g ad S9) H → va_D A (Sw shC g ad S9) → va_S A s.heap H locs → W p l e R s m args below meth c H locs cells slots Q (F0 m 38 ls [])) :
    ∀ k9 : Nat, (∀ (S : sS) (L : Nat → Int32) (M : Nat → Int64) (ls : Array Slot) (H : Heap) (locs : List Loc), f_Tokens_makeNumber k9 0 S L M = some (r, S9) → lv_has ls 3 [(0, .ref (ad 9)), (1, .int (L 1))] → va_P g.1 classes (Sw shC g ad S) H → va_D A (Sw shC g ad S) → va_S A s.heap H locs → W p l e R s m args below meth c H locs cells slots Q (F0 m 0 ls [])) ∧ (∀ (S : sS) (L : Nat → Int32) (M : Nat → Int64) (ls : Array Slot) (H : Heap) (locs : List Loc), f_Tokens_makeNumber k9 1 S L M = some (r, S9) → lv_has ls 3 [(0, .ref (ad 9)), (1, .int (L 1)), (2, .int (L 2))] → va_P g.1 classes (Sw shC g ad S) H → va_D A (Sw shC g ad S) → va_S A s.heap H locs → W p l e R s m args below meth c H locs cells slots Q (F0 m 3 ls [])) ∧ (∀ (S : sS) (L : Nat → Int32) (M : Nat → Int64) (ls : Array Slot) (H : Heap) (locs : List Loc), f_Tokens_makeNumber k9 2 S L M = some (r, S9) → lv_has ls 3 [(0, .ref (ad 9)), (1, .int (L 1)), (2, .int (L 2))] → va_P g.1 classes (Sw shC g ad S) H → va_D A (Sw shC g ad S) → va_S A s.heap H locs → W p l e R s m args below meth c H locs cells slots Q (F0 m 17 ls [])) ∧ (∀ (S : sS) (L : Nat → Int32) (M : Nat → Int64) (ls : Array Slot) (H : Heap) (locs : List Loc), f_Tokens_makeNumber k9 3 S L M = some (r, S9) → lv_has ls 3 [(0, .ref (ad 9)), (1, .int (L 1)), (2, .int (L 2))] → va_P g.1 classes (Sw shC g ad S) H → va_D A (Sw shC g ad S) → va_S A s.heap H locs → W p l e R s m args below meth c H locs cells slots Q (F0 m 30 ls [])) := by
  intro k9
  induction k9 with
  | zero => exact ⟨(fun _ _ _ _ _ _ h => by simp [f_Tokens_makeNumber] at h), (fun _ _ _ _ _ _ h => by simp [f_Tokens_makeNumber] at h), (fun _ _ _ _ _ _ h => by simp [f_Tokens_makeNumber] at h), (fun _ _ _ _ _ _ h => by simp [f_Tokens_makeNumber] at h)⟩
  | succ k9 ih =>
    refine ⟨?_, ?_, ?_, ?_⟩
    · intro S L M ls H locs h hl hP hD hS
      simp only [f_Tokens_makeNumber] at h
      refine lv_ldc (v := 1000000000) hx hb hown (htt _ k_1950) d_Tokens_makeNumber_0 ?_
      refine lv_istore_n (lv' := [(2, .int 1000000000), (0, .ref (ad 9)), (1, .int (L 1))]) hx hb d_Tokens_makeNumber_2 rfl hl (by decide) rfl (fun ls hl => ?_)
      exact (ih.2.1) S (upd L 2 (1000000000 : Int32)) M ls H locs h (lv_sub hl [1, 2, 0] rfl) hP hD hS
    · intro S L M ls H locs h hl hP hD hS
      simp only [f_Tokens_makeNumber] at h
      refine lv_iload_n hx hb d_Tokens_makeNumber_3 rfl (lv_at hl 2 rfl) ?_
      refine lv_if_le (tgt := 38) hx hb d_Tokens_makeNumber_4 (by decide) (fun hc1 => ?_) (fun hc1 => ?_)
      · rw [if_pos hc1] at h
        cases h
        exact kx_38 ls H locs hP hD hS
      · rw [if_neg hc1] at h
        refine lv_iload_n hx hb d_Tokens_makeNumber_7 rfl (lv_at hl 1 rfl) ?_
        refine lv_iload_n hx hb d_Tokens_makeNumber_8 rfl (lv_at hl 2 rfl) ?_
        refine lv_icmp_ge (tgt := 17) hx hb d_Tokens_makeNumber_9 (by decide) (fun hc2 => ?_) (fun hc2 => ?_)
        · rw [if_pos hc2] at h
          exact (ih.2.2.1) S L M ls H locs h (lv_sub hl [0, 1, 2] rfl) hP hD hS
        · rw [if_neg hc2] at h
          refine lv_iload_n hx hb d_Tokens_makeNumber_12 rfl (lv_at hl 2 rfl) ?_
          refine lv_iconst (v := 1) hx hb d_Tokens_makeNumber_13 (by decide) ?_
          refine lv_icmp_ne (tgt := 30) hx hb d_Tokens_makeNumber_14 (by decide) (fun hc3 => ?_) (fun hc3 => ?_)
          · rw [if_neg hc3] at h
            exact (ih.2.2.2) S L M ls H locs h (lv_sub hl [0, 1, 2] rfl) hP hD hS
          · rw [if_pos hc3] at h
            exact (ih.2.2.1) S L M ls H locs h (lv_sub hl [0, 1, 2] rfl) hP hD hS
    · intro S L M ls H locs h hl hP hD hS
      simp only [f_Tokens_makeNumber] at h
      refine lv_aload_n hx hb d_Tokens_makeNumber_17 rfl (lv_at hl 0 rfl) ?_
      refine lv_bipush (v := 48) hx hb d_Tokens_makeNumber_18 (by decide) ?_
      refine lv_iload_n hx hb d_Tokens_makeNumber_20 rfl (lv_at hl 1 rfl) ?_
      refine lv_iload_n hx hb d_Tokens_makeNumber_21 rfl (lv_at hl 2 rfl) ?_
      obtain ⟨hv1, h⟩ := chk h
      refine lv_idiv hx hb d_Tokens_makeNumber_22 hv1 ?_
      refine lv_bipush (v := 10) hx hb d_Tokens_makeNumber_23 (by decide) ?_
      refine lv_irem hx hb d_Tokens_makeNumber_25 (by decide) ?_
      refine lv_iadd hx hb d_Tokens_makeNumber_26 ?_
      obtain ⟨⟨r2, T2⟩, hq2, h⟩ := Option.bind_eq_some_iff.mp h
      try dsimp only at h
      refine go_vS (As := [.ref (ad 9), .int ((48 : Int32) + (((L 1) / (L 2)) - ((L 1) / (L 2)) / (10 : Int32) * (10 : Int32)))]) (g := g) (A := A) (h := shC) hP hK hD hS hA hN (fun hp => va_runV (As := [.int ((48 : Int32) + (((L 1) / (L 2)) - ((L 1) / (L 2)) / (10 : Int32) * (10 : Int32)))]) (rest := []) ⟨hx, hb, hml, hown, htt⟩ (t_Tokens_make l g _ ad S ((48 : Int32) + (((L 1) / (L 2)) - ((L 1) / (L 2)) / (10 : Int32) * (10 : Int32)) : Int32) k9 r2 T2 hq2) ⟨(cb_L htt k_1808 k_271 k_1951 hd_Tokens_make ⟨(Nat.le_trans (by decide +kernel) hRf), (Nat.le_trans (by decide +kernel) hRl)⟩), htt _ k_1806, htt _ k_1807⟩ ⟨hp.1, S_recv hK hP 9 rfl rfl, hp.2⟩ rfl rfl hl.1 rfl (lv_room (Nat.le_of_ble_eq_true rfl)) d_Tokens_makeNumber_27 ⟨hRc, hRs⟩) (fun Sn H locs hw9 hP hD hS => ?_)
      have e8 := hw9
      rw [e8] at hP hD
      refine W.widen (k := cells) (n := slots) (Nat.le_refl _) (Nat.le_refl _) ?_
      exact (ih.2.2.2) T2 L M ls H locs h (lv_sub hl [0, 1, 2] rfl) hP hD hS
    · intro S L M ls H locs h hl hP hD hS
      simp only [f_Tokens_makeNumber] at h
      refine lv_iload_n hx hb d_Tokens_makeNumber_30 rfl (lv_at hl 2 rfl) ?_
      refine lv_bipush (v := 10) hx hb d_Tokens_makeNumber_31 (by decide) ?_
      refine lv_idiv hx hb d_Tokens_makeNumber_33 (by decide) ?_
      refine lv_istore_n (lv' := [(2, .int ((L 2) / (10 : Int32))), (0, .ref (ad 9)), (1, .int (L 1))]) hx hb d_Tokens_makeNumber_34 rfl hl (by decide) rfl (fun ls hl => ?_)
      refine lv_goto (tgt := 3) hx hb d_Tokens_makeNumber_35 (by decide) ?_
      exact (ih.2.1) S (upd L 2 ((L 2) / (10 : Int32))) M ls H locs h (lv_sub hl [1, 2, 0] rfl) hP hD hS
abbrev rm_t_Tokens_makeNumber : Room := { frames := 1, cells := 0, slots := 0, locals := 21 }
theorem t_Tokens_makeNumber (l : Launch) (g : gG) (sz : Nat) (ad : Nat → Nat) (S : sS) (v1 : Int32) (k : Nat) (r : Int32) (S9 : sS) (h : f_Tokens_makeNumber k 0 S (upd (fun _ => 0) 1 v1) (fun _ => 0) = some (r, S9)) : Cv l y_Tokens_makeNumber b_Tokens_makeNumber 3 rm_t_Tokens_makeNumber g [.ref (ad 9), .int v1] (Sw shC g ad S) sz (fun w => ∃ S1 : sS, w = Sw shC g ad S1 ∧ S1 = S9) := by
  refine startV (by decide) (Nat.le_of_ble_eq_true rfl) ?_
  intro p e s m below meth c A ls hx hb hr hml hlocks hmn hown htt hN hA hP hK hD hS hl
  exact (w_Tokens_makeNumber hx hb hml hown htt hK hN hA (by decide +kernel) (by decide +kernel) (by decide +kernel) (by decide +kernel) r S9 (fun ls H locs hP hD hS => fin_v (g := g) (ws := Sw shC g ad S9) hx hb hr hlocks (by decide +kernel) (by decide +kernel) hP hD hS ⟨_, rfl, rfl⟩ d_Tokens_makeNumber_38) k).1 S (upd (fun _ => 0) 1 v1) (fun _ => 0) ls _ _ h hl hP hD hS
def f_Tokens_isOverfull : Nat → Nat → sS → (Nat → Int32) → (Nat → Int64) → Option (Int32 × sS)
  | 0, _, _, _, _ => none
  | k + 1, 0, S, L, M => if bz (S.1 9 3) = true then some (S.1 9 3, S) else none
  | _ + 1, _ + 1, _, _, _ => none
set_option maxHeartbeats 8000000 in
set_option maxRecDepth 100000 in
theorem w_Tokens_isOverfull {p : Program} {l : Launch} {e : Env} {R : Room} {s : State} {m : MethodId} {args : Array Value} {below : List Frame} {meth : Method} {c : Code} {cells slots : Nat} {Q : State → Prop} {g : gG} {A : Nat → Prop} {ad : Nat → Nat} (hx : p.tables.exec = Jvm.exec) (hb : c.code = b_Tokens_isOverfull) (hml : c.maxLocals = 1) (hown : s.vm.findClass "MacroMill$Tokens" = some m.cls) (htt : ∀ w ∈ gt, w.before args s = true) (hK : va_K g.1 classes (tysG g) s) (hN : nw s) (hA : ∀ q : Nat, s.heap.size ≤ q → A q) (r : Int32) (S9 : sS)
    (kx_4 : ∀ (ls : Array Slot) (H : Heap) (locs : List Loc), narrow .boolean (.int r) = .int r → va_P g.1 classes (Sw shC g ad S9) H → va_D A (Sw shC g ad S9) → va_S A s.heap H locs → W p l e R s m args below meth c H locs cells slots Q (F0 m 4 ls [.int r])) :
    ∀ k9 : Nat, (∀ (S : sS) (L : Nat → Int32) (M : Nat → Int64) (ls : Array Slot) (H : Heap) (locs : List Loc), f_Tokens_isOverfull k9 0 S L M = some (r, S9) → lv_has ls 1 [(0, .ref (ad 9))] → va_P g.1 classes (Sw shC g ad S) H → va_D A (Sw shC g ad S) → va_S A s.heap H locs → W p l e R s m args below meth c H locs cells slots Q (F0 m 0 ls [])) := by
  intro k9
  induction k9 with
  | zero => exact (fun _ _ _ _ _ _ h => by simp [f_Tokens_isOverfull] at h)
  | succ k9 ih =>
    · intro S L M ls H locs h hl hP hD hS
      simp only [f_Tokens_isOverfull] at h
      refine lv_aload_n hx hb d_Tokens_isOverfull_0 rfl (lv_at hl 0 rfl) ?_
      refine S_getI (h := shC) (C := "MacroMill$Tokens") (T := F_Tokens) hx hb htt in_Tokens hown hK hP 9 3 rfl rfl rfl (by decide) (htt _ k_642) (fun _ h9 => h9) d_Tokens_isOverfull_1 ?_
      obtain ⟨hv1, h⟩ := chk h
      cases h
      exact kx_4 ls H locs (bz_n hv1) hP hD hS
abbrev rm_t_Tokens_isOverfull : Room := { frames := 0, cells := 0, slots := 0, locals := 0 }
theorem t_Tokens_isOverfull (l : Launch) (g : gG) (sz : Nat) (ad : Nat → Nat) (S : sS) (k : Nat) (r : Int32) (S9 : sS) (h : f_Tokens_isOverfull k 0 S (fun _ => 0) (fun _ => 0) = some (r, S9)) : Cz l y_Tokens_isOverfull b_Tokens_isOverfull 1 rm_t_Tokens_isOverfull g [.ref (ad 9)] (Sw shC g ad S) sz (fun r1 w => ∃ S1 : sS, w = Sw shC g ad S1 ∧ r1 = r ∧ S1 = S9) := by
  refine startZ (by decide) (Nat.le_of_ble_eq_true rfl) ?_
  intro p e s m below meth c A ls hx hb hr hml hlocks hmn hown htt hN hA hP hK hD hS hl
  exact (w_Tokens_isOverfull hx hb hml hown htt hK hN hA r S9 (fun ls H locs hz hP hD hS => fin_z (g := g) (ws := Sw shC g ad S9) hx hb hr hlocks hz (by decide +kernel) (by decide +kernel) hP hD hS ⟨_, rfl, rfl, rfl⟩ d_Tokens_isOverfull_4) k) S (fun _ => 0) (fun _ => 0) ls _ _ h hl hP hD hS
def f_Tokens_layText (x1 : Nat) (nx1 : Nat) : Nat → Nat → sS → (Nat → Int32) → (Nat → Int64) → Option (Int32 × sS)
  | 0, _, _, _, _ => none
  | k + 1, 0, S, L, M => f_Tokens_layText x1 nx1 k 1 S (upd (upd (upd L 4 (1 : Int32)) 5 ((L 2) + (L 3))) 6 (L 2)) M
  | k + 1, 1, S, L, M => if (L 5) ≤ (L 6) then (f_Tokens_layText x1 nx1 k 4 S L M) else (if (125538 : Int32) ≤ (S.1 9 4) then (f_Tokens_layText x1 nx1 k 4 S L M) else (if okI (L 6) nx1 = true then (if (S.2.1 x1 (L 6 : Int32).toNatClampNeg) = (92 : Int32) then (if (L 5) ≤ ((L 6) + (1 : Int32)) then (f_Tokens_layText x1 nx1 k 2 S L M) else (if okI ((L 6) + (1 : Int32)) nx1 = true then (if (S.2.1 x1 ((L 6) + (1 : Int32) : Int32).toNatClampNeg) = (10 : Int32) then (f_Tokens_layText x1 nx1 k 3 S (upd (upd L 4 ((L 4) + 1)) 6 ((L 6) + 1)) M) else (f_Tokens_layText x1 nx1 k 2 S L M)) else none)) else (f_Tokens_layText x1 nx1 k 2 S L M)) else none))
  | k + 1, 2, S, L, M => if okI (L 6) nx1 = true then (if okI (S.1 9 4) 125538 = true then (if okI ((S.1 9 4) - (60002 : Int32)) 65536 = true then (if okI (L 6) nx1 = true then (if ((putI (putA (putA S 37 (S.1 9 4 : Int32).toNatClampNeg (vp_nar .byte (S.2.1 x1 (L 6 : Int32).toNatClampNeg))) 38 ((S.1 9 4) - (60002 : Int32) : Int32).toNatClampNeg (vp_nar .char (((L 4).toUInt32 % 65536).toInt32))) 9 4 ((S.1 9 4) + (1 : Int32))).2.1 x1 (L 6 : Int32).toNatClampNeg) = (10 : Int32) then (f_Tokens_layText x1 nx1 k 3 (putI (putA (putA S 37 (S.1 9 4 : Int32).toNatClampNeg (vp_nar .byte (S.2.1 x1 (L 6 : Int32).toNatClampNeg))) 38 ((S.1 9 4) - (60002 : Int32) : Int32).toNatClampNeg (vp_nar .char (((L 4).toUInt32 % 65536).toInt32))) 9 4 ((S.1 9 4) + (1 : Int32))) (upd L 4 ((L 4) + 1)) M) else (f_Tokens_layText x1 nx1 k 3 (putI (putA (putA S 37 (S.1 9 4 : Int32).toNatClampNeg (vp_nar .byte (S.2.1 x1 (L 6 : Int32).toNatClampNeg))) 38 ((S.1 9 4) - (60002 : Int32) : Int32).toNatClampNeg (vp_nar .char (((L 4).toUInt32 % 65536).toInt32))) 9 4 ((S.1 9 4) + (1 : Int32))) L M)) else none) else none) else none) else none
  | k + 1, 3, S, L, M => f_Tokens_layText x1 nx1 k 1 S (upd L 6 ((L 6) + 1)) M
  | k + 1, 4, S, L, M => some ((0 : Int32), S)
  | _ + 1, _ + 5, _, _, _ => none
set_option maxHeartbeats 8000000 in
set_option maxRecDepth 100000 in
theorem w_Tokens_layText {p : Program} {l : Launch} {e : Env} {R : Room} {s : State} {m : MethodId} {args : Array Value} {below : List Frame} {meth : Method} {c : Code} {cells slots : Nat} {Q : State → Prop} {g : gG} {A : Nat → Prop} {ad : Nat → Nat} (hx : p.tables.exec = Jvm.exec) (hb : c.code = b_Tokens_layText) (hml : c.maxLocals = 7) (hown : s.vm.findClass "MacroMill$Tokens" = some m.cls) (htt : ∀ w ∈ gt, w.before args s = true) (hK : va_K g.1 classes (tysG g) s) (hN : nw s) (hA : ∀ q : Nat, s.heap.size ≤ q → A q) (x1 : Nat) (nx1 : Nat) (hx1 : shC.2[x1]? = some (0, nx1)) (r : Int32) (S9 : sS)
    (kx_121 : ∀ (ls : Array Slot) (H : Heap) (locs : List Loc), va_P g.1 classes (Sw shC g ad S9) H → va_D A (Sw shC g ad S9) → va_S A s.heap H locs → W p l e R s m args below meth c H locs cells slots Q (F0 m 121 ls [])) :
    ∀ k9 : Nat, (∀ (S : sS) (L : Nat → Int32) (M : Nat → Int64) (ls : Array Slot) (H : Heap) (locs : List Loc), f_Tokens_layText x1 nx1 k9 0 S L M = some (r, S9) → lv_has ls 7 [(0, .ref (ad 9)), (1, .ref (ad (shC.1.length + x1))), (2, .int (L 2)), (3, .int (L 3))] → va_P g.1 classes (Sw shC g ad S) H → va_D A (Sw shC g ad S) → va_S A s.heap H locs → W p l e R s m args below meth c H locs cells slots Q (F0 m 0 ls [])) ∧ (∀ (S : sS) (L : Nat → Int32) (M : Nat → Int64) (ls : Array Slot) (H : Heap) (locs : List Loc), f_Tokens_layText x1 nx1 k9 1 S L M = some (r, S9) → lv_has ls 7 [(0, .ref (ad 9)), (1, .ref (ad (shC.1.length + x1))), (2, .int (L 2)), (3, .int (L 3)), (4, .int (L 4)), (5, .int (L 5)), (6, .int (L 6))] → va_P g.1 classes (Sw shC g ad S) H → va_D A (Sw shC g ad S) → va_S A s.heap H locs → W p l e R s m args below meth c H locs cells slots Q (F0 m 11 ls [])) ∧ (∀ (S : sS) (L : Nat → Int32) (M : Nat → Int64) (ls : Array Slot) (H : Heap) (locs : List Loc), f_Tokens_layText x1 nx1 k9 2 S L M = some (r, S9) → lv_has ls 7 [(0, .ref (ad 9)), (1, .ref (ad (shC.1.length + x1))), (2, .int (L 2)), (3, .int (L 3)), (4, .int (L 4)), (5, .int (L 5)), (6, .int (L 6))] → va_P g.1 classes (Sw shC g ad S) H → va_D A (Sw shC g ad S) → va_S A s.heap H locs → W p l e R s m args below meth c H locs cells slots Q (F0 m 65 ls [])) ∧ (∀ (S : sS) (L : Nat → Int32) (M : Nat → Int64) (ls : Array Slot) (H : Heap) (locs : List Loc), f_Tokens_layText x1 nx1 k9 3 S L M = some (r, S9) → lv_has ls 7 [(0, .ref (ad 9)), (1, .ref (ad (shC.1.length + x1))), (2, .int (L 2)), (3, .int (L 3)), (4, .int (L 4)), (5, .int (L 5)), (6, .int (L 6))] → va_P g.1 classes (Sw shC g ad S) H → va_D A (Sw shC g ad S) → va_S A s.heap H locs → W p l e R s m args below meth c H locs cells slots Q (F0 m 115 ls [])) ∧ (∀ (S : sS) (L : Nat → Int32) (M : Nat → Int64) (ls : Array Slot) (H : Heap) (locs : List Loc), f_Tokens_layText x1 nx1 k9 4 S L M = some (r, S9) → lv_has ls 7 [(0, .ref (ad 9)), (1, .ref (ad (shC.1.length + x1))), (2, .int (L 2)), (3, .int (L 3)), (4, .int (L 4)), (5, .int (L 5)), (6, .int (L 6))] → va_P g.1 classes (Sw shC g ad S) H → va_D A (Sw shC g ad S) → va_S A s.heap H locs → W p l e R s m args below meth c H locs cells slots Q (F0 m 121 ls [])) := by
  intro k9
  induction k9 with
  | zero => exact ⟨(fun _ _ _ _ _ _ h => by simp [f_Tokens_layText] at h), (fun _ _ _ _ _ _ h => by simp [f_Tokens_layText] at h), (fun _ _ _ _ _ _ h => by simp [f_Tokens_layText] at h), (fun _ _ _ _ _ _ h => by simp [f_Tokens_layText] at h), (fun _ _ _ _ _ _ h => by simp [f_Tokens_layText] at h)⟩
  | succ k9 ih =>
    refine ⟨?_, ?_, ?_, ?_, ?_⟩
    · intro S L M ls H locs h hl hP hD hS
      simp only [f_Tokens_layText] at h
      refine lv_iconst (v := 1) hx hb d_Tokens_layText_0 (by decide) ?_
      refine lv_istore (lv' := [(4, .int 1), (0, .ref (ad 9)), (1, .ref (ad (shC.1.length + x1))), (2, .int (L 2)), (3, .int (L 3))]) hx hb d_Tokens_layText_1 hl (by decide) rfl (fun ls hl => ?_)
      refine lv_iload_n hx hb d_Tokens_layText_3 rfl (lv_at hl 3 rfl) ?_
      refine lv_iload_n hx hb d_Tokens_layText_4 rfl (lv_at hl 4 rfl) ?_
      refine lv_iadd hx hb d_Tokens_layText_5 ?_
      refine lv_istore (lv' := [(5, .int ((L 2) + (L 3))), (4, .int 1), (0, .ref (ad 9)), (1, .ref (ad (shC.1.length + x1))), (2, .int (L 2)), (3, .int (L 3))]) hx hb d_Tokens_layText_6 hl (by decide) rfl (fun ls hl => ?_)
      refine lv_iload_n hx hb d_Tokens_layText_8 rfl (lv_at hl 4 rfl) ?_
      refine lv_istore (lv' := [(6, .int (L 2)), (5, .int ((L 2) + (L 3))), (4, .int 1), (0, .ref (ad 9)), (1, .ref (ad (shC.1.length + x1))), (2, .int (L 2)), (3, .int (L 3))]) hx hb d_Tokens_layText_9 hl (by decide) rfl (fun ls hl => ?_)
      exact (ih.2.1) S (upd (upd (upd L 4 (1 : Int32)) 5 ((L 2) + (L 3))) 6 (L 2)) M ls H locs h (lv_sub hl [3, 4, 5, 6, 2, 1, 0] rfl) hP hD hS
    · intro S L M ls H locs h hl hP hD hS
      simp only [f_Tokens_layText] at h
      refine lv_iload hx hb d_Tokens_layText_11 (lv_at hl 6 rfl) ?_
      refine lv_iload hx hb d_Tokens_layText_13 (lv_at hl 5 rfl) ?_
      refine lv_icmp_ge (tgt := 121) hx hb d_Tokens_layText_15 (by decide) (fun hc1 => ?_) (fun hc1 => ?_)
      · rw [if_pos hc1] at h
        exact (ih.2.2.2.2) S L M ls H locs h (lv_sub hl [0, 1, 2, 3, 4, 5, 6] rfl) hP hD hS
      · rw [if_neg hc1] at h
        refine lv_aload_n hx hb d_Tokens_layText_18 rfl (lv_at hl 0 rfl) ?_
        refine S_getI (h := shC) (C := "MacroMill$Tokens") (T := F_Tokens) hx hb htt in_Tokens hown hK hP 9 4 rfl rfl rfl (by decide) (htt _ k_643) (fun _ h9 => h9) d_Tokens_layText_19 ?_
        refine lv_ldc (v := 125538) hx hb hown (htt _ k_628) d_Tokens_layText_22 ?_
        refine lv_icmp_ge (tgt := 121) hx hb d_Tokens_layText_24 (by decide) (fun hc2 => ?_) (fun hc2 => ?_)
        · rw [if_pos hc2] at h
          exact (ih.2.2.2.2) S L M ls H locs h (lv_sub hl [0, 1, 2, 3, 4, 5, 6] rfl) hP hD hS
        · rw [if_neg hc2] at h
          refine lv_aload_n hx hb d_Tokens_layText_27 rfl (lv_at hl 1 rfl) ?_
          refine lv_iload hx hb d_Tokens_layText_28 (lv_at hl 6 rfl) ?_
          obtain ⟨hv3, h⟩ := chk h
          refine S_bald (h := shC) (i := L 6) hx hb hK hP x1 hx1 (okI_in hv3) d_Tokens_layText_30 ?_
          refine lv_bipush (v := 92) hx hb d_Tokens_layText_31 (by decide) ?_
          refine lv_icmp_ne (tgt := 65) hx hb d_Tokens_layText_33 (by decide) (fun hc4 => ?_) (fun hc4 => ?_)
          · rw [if_neg hc4] at h
            exact (ih.2.2.1) S L M ls H locs h (lv_sub hl [0, 1, 2, 3, 4, 5, 6] rfl) hP hD hS
          · rw [if_pos hc4] at h
            refine lv_iload hx hb d_Tokens_layText_36 (lv_at hl 6 rfl) ?_
            refine lv_iconst (v := 1) hx hb d_Tokens_layText_38 (by decide) ?_
            show W _ _ _ _ _ _ _ _ _ _ _ _ _ _ _ (F0 _ 39 _ _)
            refine lv_iadd hx hb d_Tokens_layText_39 ?_
            refine lv_iload hx hb d_Tokens_layText_40 (lv_at hl 5 rfl) ?_
            refine lv_icmp_ge (tgt := 65) hx hb d_Tokens_layText_42 (by decide) (fun hc5 => ?_) (fun hc5 => ?_)
            · rw [if_pos hc5] at h
              exact (ih.2.2.1) S L M ls H locs h (lv_sub hl [0, 1, 2, 3, 4, 5, 6] rfl) hP hD hS
            · rw [if_neg hc5] at h
              refine lv_aload_n hx hb d_Tokens_layText_45 rfl (lv_at hl 1 rfl) ?_
              refine lv_iload hx hb d_Tokens_layText_46 (lv_at hl 6 rfl) ?_
              refine lv_iconst (v := 1) hx hb d_Tokens_layText_48 (by decide) ?_
              refine lv_iadd hx hb d_Tokens_layText_49 ?_
              obtain ⟨hv6, h⟩ := chk h
              refine S_bald (h := shC) (i := (L 6) + (1 : Int32)) hx hb hK hP x1 hx1 (okI_in hv6) d_Tokens_layText_50 ?_
              refine lv_bipush (v := 10) hx hb d_Tokens_layText_51 (by decide) ?_
              refine lv_icmp_ne (tgt := 65) hx hb d_Tokens_layText_53 (by decide) (fun hc7 => ?_) (fun hc7 => ?_)
              · rw [if_neg hc7] at h
                exact (ih.2.2.1) S L M ls H locs h (lv_sub hl [0, 1, 2, 3, 4, 5, 6] rfl) hP hD hS
              · rw [if_pos hc7] at h
                refine lv_iinc (k := 6) (v := (L 6) + 1) (lv' := [(6, .int ((L 6) + 1)), (0, .ref (ad 9)), (1, .ref (ad (shC.1.length + x1))), (2, .int (L 2)), (3, .int (L 3)), (4, .int (L 4)), (5, .int (L 5))]) hx hb d_Tokens_layText_56 hl rfl rfl (by decide) rfl (fun ls hl => ?_)
                refine lv_iinc (k := 5) (v := (L 4) + 1) (lv' := [(4, .int ((L 4) + 1)), (6, .int ((L 6) + 1)), (0, .ref (ad 9)), (1, .ref (ad (shC.1.length + x1))), (2, .int (L 2)), (3, .int (L 3)), (5, .int (L 5))]) hx hb d_Tokens_layText_59 hl rfl rfl (by decide) rfl (fun ls hl => ?_)
                refine lv_goto (tgt := 115) hx hb d_Tokens_layText_62 (by decide) ?_
                exact (ih.2.2.2.1) S (upd (upd L 4 ((L 4) + 1)) 6 ((L 6) + 1)) M ls H locs h (lv_sub hl [2, 3, 4, 5, 0, 6, 1] rfl) hP hD hS
    · intro S L M ls H locs h hl hP hD hS
      simp only [f_Tokens_layText] at h
      refine lv_aload_n hx hb d_Tokens_layText_65 rfl (lv_at hl 0 rfl) ?_
      refine S_getR (h := shC) (C := "MacroMill$Tokens") (T := F_Tokens) hx hb htt in_Tokens hown hK hP 9 0 rfl 50 rfl rfl (by decide) (htt _ k_633) (fun _ h9 => h9) d_Tokens_layText_66 ?_
      refine lv_aload_n hx hb d_Tokens_layText_69 rfl (lv_at hl 0 rfl) ?_
      refine S_getI (h := shC) (C := "MacroMill$Tokens") (T := F_Tokens) hx hb htt in_Tokens hown hK hP 9 4 rfl rfl rfl (by decide) (htt _ k_643) (fun _ h9 => h9) d_Tokens_layText_70 ?_
      refine lv_aload_n hx hb d_Tokens_layText_73 rfl (lv_at hl 1 rfl) ?_
      refine lv_iload hx hb d_Tokens_layText_74 (lv_at hl 6 rfl) ?_
      obtain ⟨hv1, h⟩ := chk h
      refine S_bald (h := shC) (i := L 6) hx hb hK hP x1 hx1 (okI_in hv1) d_Tokens_layText_76 ?_
      obtain ⟨hv2, h⟩ := chk h
      refine S_bast (h := shC) (i := S.1 9 4) (v := S.2.1 x1 (L 6 : Int32).toNatClampNeg) hx hb hK hP hD hS 37 rfl (okI_in hv2) d_Tokens_layText_77 (fun H locs hP hD hS => ?_)
      refine lv_aload_n hx hb d_Tokens_layText_78 rfl (lv_at hl 0 rfl) ?_
      refine S_getR (h := shC) (C := "MacroMill$Tokens") (T := F_Tokens) hx hb htt in_Tokens hown hK hP 9 1 rfl 51 rfl rfl (by decide) (htt _ k_638) (fun _ h9 => h9) d_Tokens_layText_79 ?_
      refine lv_aload_n hx hb d_Tokens_layText_82 rfl (lv_at hl 0 rfl) ?_
      show W _ _ _ _ _ _ _ _ _ _ _ _ _ _ _ (F0 _ 83 _ _)
      refine S_getI (h := shC) (C := "MacroMill$Tokens") (T := F_Tokens) hx hb htt in_Tokens hown hK hP 9 4 rfl rfl rfl (by decide) (htt _ k_643) (fun _ h9 => h9) d_Tokens_layText_83 ?_
      refine toI (y := S.1 9 4) rfl ?_
      refine lv_ldc (v := 60002) hx hb hown (htt _ k_883) d_Tokens_layText_86 ?_
      refine lv_isub hx hb d_Tokens_layText_88 ?_
      refine lv_iload hx hb d_Tokens_layText_89 (lv_at hl 4 rfl) ?_
      refine lv_i2c (v := ((L 4).toUInt32 % 65536).toInt32) hx hb d_Tokens_layText_91 rfl ?_
      obtain ⟨hv3, h⟩ := chk h
      refine S_cast (h := shC) (i := (S.1 9 4) - (60002 : Int32)) (v := ((L 4).toUInt32 % 65536).toInt32) hx hb hK hP hD hS 38 rfl (okI_in hv3) d_Tokens_layText_92 (fun H locs hP hD hS => ?_)
      refine lv_aload_n hx hb d_Tokens_layText_93 rfl (lv_at hl 0 rfl) ?_
      refine lv_dup hx hb d_Tokens_layText_94 rfl ?_
      refine S_getI (h := shC) (C := "MacroMill$Tokens") (T := F_Tokens) hx hb htt in_Tokens hown hK hP 9 4 rfl rfl rfl (by decide) (htt _ k_643) (fun _ h9 => h9) d_Tokens_layText_95 ?_
      refine toI (y := S.1 9 4) rfl ?_
      refine lv_iconst (v := 1) hx hb d_Tokens_layText_98 (by decide) ?_
      refine lv_iadd hx hb d_Tokens_layText_99 ?_
      refine S_put (h := shC) (C := "MacroMill$Tokens") (T := F_Tokens) (v := (S.1 9 4) + (1 : Int32)) hx hb htt in_Tokens t_Tokens t_Tokens_ok n_Tokens hown hK hP hD hS 9 4 rfl rfl rfl (by decide) (htt _ k_643) (fun _ h9 => h9) rfl rfl rfl d_Tokens_layText_100 (fun H locs hP hD hS => ?_)
      show W _ _ _ _ _ _ _ _ _ _ _ _ _ _ _ (F0 _ 103 _ _)
      refine lv_aload_n hx hb d_Tokens_layText_103 rfl (lv_at hl 1 rfl) ?_
      refine lv_iload hx hb d_Tokens_layText_104 (lv_at hl 6 rfl) ?_
      obtain ⟨hv4, h⟩ := chk h
      refine S_bald (h := shC) (i := L 6) hx hb hK hP x1 hx1 (okI_in hv4) d_Tokens_layText_106 ?_
      refine lv_bipush (v := 10) hx hb d_Tokens_layText_107 (by decide) ?_
      refine lv_icmp_ne (tgt := 115) hx hb d_Tokens_layText_109 (by decide) (fun hc5 => ?_) (fun hc5 => ?_)
      · rw [if_neg hc5] at h
        exact (ih.2.2.2.1) (putI (putA (putA S 37 (S.1 9 4 : Int32).toNatClampNeg (vp_nar .byte (S.2.1 x1 (L 6 : Int32).toNatClampNeg))) 38 ((S.1 9 4) - (60002 : Int32) : Int32).toNatClampNeg (vp_nar .char (((L 4).toUInt32 % 65536).toInt32))) 9 4 ((S.1 9 4) + (1 : Int32))) L M ls H locs h (lv_sub hl [0, 1, 2, 3, 4, 5, 6] rfl) hP hD hS
      · rw [if_pos hc5] at h
        refine lv_iinc (k := 4) (v := (L 4) + 1) (lv' := [(4, .int ((L 4) + 1)), (0, .ref (ad 9)), (1, .ref (ad (shC.1.length + x1))), (2, .int (L 2)), (3, .int (L 3)), (5, .int (L 5)), (6, .int (L 6))]) hx hb d_Tokens_layText_112 hl rfl rfl (by decide) rfl (fun ls hl => ?_)
        exact (ih.2.2.2.1) (putI (putA (putA S 37 (S.1 9 4 : Int32).toNatClampNeg (vp_nar .byte (S.2.1 x1 (L 6 : Int32).toNatClampNeg))) 38 ((S.1 9 4) - (60002 : Int32) : Int32).toNatClampNeg (vp_nar .char (((L 4).toUInt32 % 65536).toInt32))) 9 4 ((S.1 9 4) + (1 : Int32))) (upd L 4 ((L 4) + 1)) M ls H locs h (lv_sub hl [1, 2, 3, 4, 0, 5, 6] rfl) hP hD hS
    · intro S L M ls H locs h hl hP hD hS
      simp only [f_Tokens_layText] at h
      refine lv_iinc (k := 6) (v := (L 6) + 1) (lv' := [(6, .int ((L 6) + 1)), (0, .ref (ad 9)), (1, .ref (ad (shC.1.length + x1))), (2, .int (L 2)), (3, .int (L 3)), (4, .int (L 4)), (5, .int (L 5))]) hx hb d_Tokens_layText_115 hl rfl rfl (by decide) rfl (fun ls hl => ?_)
      refine lv_goto (tgt := 11) hx hb d_Tokens_layText_118 (by decide) ?_
      exact (ih.2.1) S (upd L 6 ((L 6) + 1)) M ls H locs h (lv_sub hl [1, 2, 3, 4, 5, 6, 0] rfl) hP hD hS
    · intro S L M ls H locs h hl hP hD hS
      simp only [f_Tokens_layText] at h
      cases h
      exact kx_121 ls H locs hP hD hS
abbrev rm_t_Tokens_layText : Room := { frames := 0, cells := 0, slots := 0, locals := 0 }
theorem t_Tokens_layText (l : Launch) (g : gG) (sz : Nat) (ad : Nat → Nat) (S : sS) (x1 : Nat) (nx1 : Nat) (v2 : Int32) (v3 : Int32) (hx1 : shC.2[x1]? = some (0, nx1)) (k : Nat) (r : Int32) (S9 : sS) (h : f_Tokens_layText x1 nx1 k 0 S (upd (upd (fun _ => 0) 2 v2) 3 v3) (fun _ => 0) = some (r, S9)) : Cv l y_Tokens_layText b_Tokens_layText 7 rm_t_Tokens_layText g [.ref (ad 9), .ref (ad (shC.1.length + x1)), .int v2, .int v3] (Sw shC g ad S) sz (fun w => ∃ S1 : sS, w = Sw shC g ad S1 ∧ S1 = S9) := by
  refine startV (by decide) (Nat.le_of_ble_eq_true rfl) ?_
  intro p e s m below meth c A ls hx hb hr hml hlocks hmn hown htt hN hA hP hK hD hS hl
  exact (w_Tokens_layText hx hb hml hown htt hK hN hA x1 nx1 hx1 r S9 (fun ls H locs hP hD hS => fin_v (g := g) (ws := Sw shC g ad S9) hx hb hr hlocks (by decide +kernel) (by decide +kernel) hP hD hS ⟨_, rfl, rfl⟩ d_Tokens_layText_121) k).1 S (upd (upd (fun _ => 0) 2 v2) 3 v3) (fun _ => 0) ls _ _ h hl hP hD hS
def f_Tokens_lineAt : Nat → Nat → sS → (Nat → Int32) → (Nat → Int64) → Option (Int32 × sS)
  | 0, _, _, _, _ => none
  | k + 1, 0, S, L, M => if okI ((L 1) - (60002 : Int32)) 65536 = true then (some (S.2.1 38 ((L 1) - (60002 : Int32) : Int32).toNatClampNeg, S)) else none
  | _ + 1, _ + 1, _, _, _ => none
set_option maxHeartbeats 8000000 in
set_option maxRecDepth 100000 in
theorem w_Tokens_lineAt {p : Program} {l : Launch} {e : Env} {R : Room} {s : State} {m : MethodId} {args : Array Value} {below : List Frame} {meth : Method} {c : Code} {cells slots : Nat} {Q : State → Prop} {g : gG} {A : Nat → Prop} {ad : Nat → Nat} (hx : p.tables.exec = Jvm.exec) (hb : c.code = b_Tokens_lineAt) (hml : c.maxLocals = 2) (hown : s.vm.findClass "MacroMill$Tokens" = some m.cls) (htt : ∀ w ∈ gt, w.before args s = true) (hK : va_K g.1 classes (tysG g) s) (hN : nw s) (hA : ∀ q : Nat, s.heap.size ≤ q → A q) (r : Int32) (S9 : sS)
    (kx_9 : ∀ (ls : Array Slot) (H : Heap) (locs : List Loc), va_P g.1 classes (Sw shC g ad S9) H → va_D A (Sw shC g ad S9) → va_S A s.heap H locs → W p l e R s m args below meth c H locs cells slots Q (F0 m 9 ls [.int r])) :
    ∀ k9 : Nat, (∀ (S : sS) (L : Nat → Int32) (M : Nat → Int64) (ls : Array Slot) (H : Heap) (locs : List Loc), f_Tokens_lineAt k9 0 S L M = some (r, S9) → lv_has ls 2 [(0, .ref (ad 9)), (1, .int (L 1))] → va_P g.1 classes (Sw shC g ad S) H → va_D A (Sw shC g ad S) → va_S A s.heap H locs → W p l e R s m args below meth c H locs cells slots Q (F0 m 0 ls [])) := by
  intro k9
  induction k9 with
  | zero => exact (fun _ _ _ _ _ _ h => by simp [f_Tokens_lineAt] at h)
  | succ k9 ih =>
    · intro S L M ls H locs h hl hP hD hS
      simp only [f_Tokens_lineAt] at h
      refine lv_aload_n hx hb d_Tokens_lineAt_0 rfl (lv_at hl 0 rfl) ?_
      refine S_getR (h := shC) (C := "MacroMill$Tokens") (T := F_Tokens) hx hb htt in_Tokens hown hK hP 9 1 rfl 51 rfl rfl (by decide) (htt _ k_638) (fun _ h9 => h9) d_Tokens_lineAt_1 ?_
      refine lv_iload_n hx hb d_Tokens_lineAt_4 rfl (lv_at hl 1 rfl) ?_
      refine lv_ldc (v := 60002) hx hb hown (htt _ k_883) d_Tokens_lineAt_5 ?_
      refine lv_isub hx hb d_Tokens_lineAt_7 ?_
      obtain ⟨hv1, h⟩ := chk h
      refine S_cald (h := shC) (i := (L 1) - (60002 : Int32)) hx hb hK hP 38 rfl (okI_in hv1) d_Tokens_lineAt_8 ?_
      cases h
      exact kx_9 ls H locs hP hD hS
abbrev rm_t_Tokens_lineAt : Room := { frames := 0, cells := 0, slots := 0, locals := 0 }
theorem t_Tokens_lineAt (l : Launch) (g : gG) (sz : Nat) (ad : Nat → Nat) (S : sS) (v1 : Int32) (k : Nat) (r : Int32) (S9 : sS) (h : f_Tokens_lineAt k 0 S (upd (fun _ => 0) 1 v1) (fun _ => 0) = some (r, S9)) : Ci l y_Tokens_lineAt b_Tokens_lineAt 2 rm_t_Tokens_lineAt g [.ref (ad 9), .int v1] (Sw shC g ad S) sz (fun r1 w => ∃ S1 : sS, w = Sw shC g ad S1 ∧ r1 = r ∧ S1 = S9) := by
  refine startI (by decide) (Nat.le_of_ble_eq_true rfl) ?_
  intro p e s m below meth c A ls hx hb hr hml hlocks hmn hown htt hN hA hP hK hD hS hl
  exact (w_Tokens_lineAt hx hb hml hown htt hK hN hA r S9 (fun ls H locs hP hD hS => fin_i (g := g) (ws := Sw shC g ad S9) hx hb hr hlocks (by decide +kernel) (by decide +kernel) hP hD hS ⟨_, rfl, rfl, rfl⟩ d_Tokens_lineAt_9) k) S (upd (fun _ => 0) 1 v1) (fun _ => 0) ls _ _ h hl hP hD hS
def f_Tokens_scannedKind : Nat → Nat → sS → (Nat → Int32) → (Nat → Int64) → Option (Int32 × sS)
  | 0, _, _, _, _ => none
  | k + 1, 0, S, L, M => some (S.1 9 9, S)
  | _ + 1, _ + 1, _, _, _ => none
set_option maxHeartbeats 8000000 in
set_option maxRecDepth 100000 in
theorem w_Tokens_scannedKind {p : Program} {l : Launch} {e : Env} {R : Room} {s : State} {m : MethodId} {args : Array Value} {below : List Frame} {meth : Method} {c : Code} {cells slots : Nat} {Q : State → Prop} {g : gG} {A : Nat → Prop} {ad : Nat → Nat} (hx : p.tables.exec = Jvm.exec) (hb : c.code = b_Tokens_scannedKind) (hml : c.maxLocals = 1) (hown : s.vm.findClass "MacroMill$Tokens" = some m.cls) (htt : ∀ w ∈ gt, w.before args s = true) (hK : va_K g.1 classes (tysG g) s) (hN : nw s) (hA : ∀ q : Nat, s.heap.size ≤ q → A q) (r : Int32) (S9 : sS)
    (kx_4 : ∀ (ls : Array Slot) (H : Heap) (locs : List Loc), va_P g.1 classes (Sw shC g ad S9) H → va_D A (Sw shC g ad S9) → va_S A s.heap H locs → W p l e R s m args below meth c H locs cells slots Q (F0 m 4 ls [.int r])) :
    ∀ k9 : Nat, (∀ (S : sS) (L : Nat → Int32) (M : Nat → Int64) (ls : Array Slot) (H : Heap) (locs : List Loc), f_Tokens_scannedKind k9 0 S L M = some (r, S9) → lv_has ls 1 [(0, .ref (ad 9))] → va_P g.1 classes (Sw shC g ad S) H → va_D A (Sw shC g ad S) → va_S A s.heap H locs → W p l e R s m args below meth c H locs cells slots Q (F0 m 0 ls [])) := by
  intro k9
  induction k9 with
  | zero => exact (fun _ _ _ _ _ _ h => by simp [f_Tokens_scannedKind] at h)
  | succ k9 ih =>
    · intro S L M ls H locs h hl hP hD hS
      simp only [f_Tokens_scannedKind] at h
      refine lv_aload_n hx hb d_Tokens_scannedKind_0 rfl (lv_at hl 0 rfl) ?_
      refine S_getI (h := shC) (C := "MacroMill$Tokens") (T := F_Tokens) hx hb htt in_Tokens hown hK hP 9 9 rfl rfl rfl (by decide) (htt _ k_660) (fun _ h9 => h9) d_Tokens_scannedKind_1 ?_
      cases h
      exact kx_4 ls H locs hP hD hS
abbrev rm_t_Tokens_scannedKind : Room := { frames := 0, cells := 0, slots := 0, locals := 0 }
theorem t_Tokens_scannedKind (l : Launch) (g : gG) (sz : Nat) (ad : Nat → Nat) (S : sS) (k : Nat) (r : Int32) (S9 : sS) (h : f_Tokens_scannedKind k 0 S (fun _ => 0) (fun _ => 0) = some (r, S9)) : Ci l y_Tokens_scannedKind b_Tokens_scannedKind 1 rm_t_Tokens_scannedKind g [.ref (ad 9)] (Sw shC g ad S) sz (fun r1 w => ∃ S1 : sS, w = Sw shC g ad S1 ∧ r1 = r ∧ S1 = S9) := by
  refine startI (by decide) (Nat.le_of_ble_eq_true rfl) ?_
  intro p e s m below meth c A ls hx hb hr hml hlocks hmn hown htt hN hA hP hK hD hS hl
  exact (w_Tokens_scannedKind hx hb hml hown htt hK hN hA r S9 (fun ls H locs hP hD hS => fin_i (g := g) (ws := Sw shC g ad S9) hx hb hr hlocks (by decide +kernel) (by decide +kernel) hP hD hS ⟨_, rfl, rfl, rfl⟩ d_Tokens_scannedKind_4) k) S (fun _ => 0) (fun _ => 0) ls _ _ h hl hP hD hS
def f_Tokens_quoteEnd : Nat → Nat → sS → (Nat → Int32) → (Nat → Int64) → Option (Int32 × sS)
  | 0, _, _, _, _ => none
  | k + 1, 0, S, L, M => f_Tokens_quoteEnd k 1 S (upd L 3 ((L 1) + (1 : Int32))) M
  | k + 1, 1, S, L, M => if (L 2) ≤ (L 3) then (f_Tokens_quoteEnd k 3 S L M) else (if okI (L 3) 125538 = true then (if (S.2.1 37 (L 3 : Int32).toNatClampNeg) = (10 : Int32) then (f_Tokens_quoteEnd k 3 S L M) else (if okI (L 3) 125538 = true then (if okI (L 1) 125538 = true then (if (S.2.1 37 (L 3 : Int32).toNatClampNeg) = (S.2.1 37 (L 1 : Int32).toNatClampNeg) then (some ((L 3) + (1 : Int32), S)) else (if okI (L 3) 125538 = true then (if (S.2.1 37 (L 3 : Int32).toNatClampNeg) = (92 : Int32) then (if (L 2) ≤ ((L 3) + (1 : Int32)) then (f_Tokens_quoteEnd k 2 S L M) else (if okI ((L 3) + (1 : Int32)) 125538 = true then (if (S.2.1 37 ((L 3) + (1 : Int32) : Int32).toNatClampNeg) = (10 : Int32) then (f_Tokens_quoteEnd k 2 S L M) else (f_Tokens_quoteEnd k 2 S (upd L 3 ((L 3) + 1)) M)) else none)) else (f_Tokens_quoteEnd k 2 S L M)) else none)) else none) else none)) else none)
  | k + 1, 2, S, L, M => f_Tokens_quoteEnd k 1 S (upd L 3 ((L 3) + 1)) M
  | k + 1, 3, S, L, M => some ((0 : Int32), S)
  | _ + 1, _ + 4, _, _, _ => none
set_option maxHeartbeats 8000000 in
set_option maxRecDepth 100000 in
theorem w_Tokens_quoteEnd {p : Program} {l : Launch} {e : Env} {R : Room} {s : State} {m : MethodId} {args : Array Value} {below : List Frame} {meth : Method} {c : Code} {cells slots : Nat} {Q : State → Prop} {g : gG} {A : Nat → Prop} {ad : Nat → Nat} (hx : p.tables.exec = Jvm.exec) (hb : c.code = b_Tokens_quoteEnd) (hml : c.maxLocals = 4) (hown : s.vm.findClass "MacroMill$Tokens" = some m.cls) (htt : ∀ w ∈ gt, w.before args s = true) (hK : va_K g.1 classes (tysG g) s) (hN : nw s) (hA : ∀ q : Nat, s.heap.size ≤ q → A q) (r : Int32) (S9 : sS)
    (kx_38 : ∀ (ls : Array Slot) (H : Heap) (locs : List Loc), va_P g.1 classes (Sw shC g ad S9) H → va_D A (Sw shC g ad S9) → va_S A s.heap H locs → W p l e R s m args below meth c H locs cells slots Q (F0 m 38 ls [.int r]))
    (kx_80 : ∀ (ls : Array Slot) (H : Heap) (locs : List Loc), va_P g.1 classes (Sw shC g ad S9) H → va_D A (Sw shC g ad S9) → va_S A s.heap H locs → W p l e R s m args below meth c H locs cells slots Q (F0 m 80 ls [.int r])) :
    ∀ k9 : Nat, (∀ (S : sS) (L : Nat → Int32) (M : Nat → Int64) (ls : Array Slot) (H : Heap) (locs : List Loc), f_Tokens_quoteEnd k9 0 S L M = some (r, S9) → lv_has ls 4 [(0, .ref (ad 9)), (1, .int (L 1)), (2, .int (L 2))] → va_P g.1 classes (Sw shC g ad S) H → va_D A (Sw shC g ad S) → va_S A s.heap H locs → W p l e R s m args below meth c H locs cells slots Q (F0 m 0 ls [])) ∧ (∀ (S : sS) (L : Nat → Int32) (M : Nat → Int64) (ls : Array Slot) (H : Heap) (locs : List Loc), f_Tokens_quoteEnd k9 1 S L M = some (r, S9) → lv_has ls 4 [(0, .ref (ad 9)), (1, .int (L 1)), (2, .int (L 2)), (3, .int (L 3))] → va_P g.1 classes (Sw shC g ad S) H → va_D A (Sw shC g ad S) → va_S A s.heap H locs → W p l e R s m args below meth c H locs cells slots Q (F0 m 4 ls [])) ∧ (∀ (S : sS) (L : Nat → Int32) (M : Nat → Int64) (ls : Array Slot) (H : Heap) (locs : List Loc), f_Tokens_quoteEnd k9 2 S L M = some (r, S9) → lv_has ls 4 [(0, .ref (ad 9)), (1, .int (L 1)), (2, .int (L 2)), (3, .int (L 3))] → va_P g.1 classes (Sw shC g ad S) H → va_D A (Sw shC g ad S) → va_S A s.heap H locs → W p l e R s m args below meth c H locs cells slots Q (F0 m 73 ls [])) ∧ (∀ (S : sS) (L : Nat → Int32) (M : Nat → Int64) (ls : Array Slot) (H : Heap) (locs : List Loc), f_Tokens_quoteEnd k9 3 S L M = some (r, S9) → lv_has ls 4 [(0, .ref (ad 9)), (1, .int (L 1)), (2, .int (L 2)), (3, .int (L 3))] → va_P g.1 classes (Sw shC g ad S) H → va_D A (Sw shC g ad S) → va_S A s.heap H locs → W p l e R s m args below meth c H locs cells slots Q (F0 m 79 ls [])) := by
  intro k9
  induction k9 with
  | zero => exact ⟨(fun _ _ _ _ _ _ h => by simp [f_Tokens_quoteEnd] at h), (fun _ _ _ _ _ _ h => by simp [f_Tokens_quoteEnd] at h), (fun _ _ _ _ _ _ h => by simp [f_Tokens_quoteEnd] at h), (fun _ _ _ _ _ _ h => by simp [f_Tokens_quoteEnd] at h)⟩
  | succ k9 ih =>
    refine ⟨?_, ?_, ?_, ?_⟩
    · intro S L M ls H locs h hl hP hD hS
      simp only [f_Tokens_quoteEnd] at h
      refine lv_iload_n hx hb d_Tokens_quoteEnd_0 rfl (lv_at hl 1 rfl) ?_
      refine lv_iconst (v := 1) hx hb d_Tokens_quoteEnd_1 (by decide) ?_
      refine lv_iadd hx hb d_Tokens_quoteEnd_2 ?_
      refine lv_istore_n (lv' := [(3, .int ((L 1) + (1 : Int32))), (0, .ref (ad 9)), (1, .int (L 1)), (2, .int (L 2))]) hx hb d_Tokens_quoteEnd_3 rfl hl (by decide) rfl (fun ls hl => ?_)
      exact (ih.2.1) S (upd L 3 ((L 1) + (1 : Int32))) M ls H locs h (lv_sub hl [1, 2, 3, 0] rfl) hP hD hS
    · intro S L M ls H locs h hl hP hD hS
      simp only [f_Tokens_quoteEnd] at h
      refine lv_iload_n hx hb d_Tokens_quoteEnd_4 rfl (lv_at hl 3 rfl) ?_
      refine lv_iload_n hx hb d_Tokens_quoteEnd_5 rfl (lv_at hl 2 rfl) ?_
      refine lv_icmp_ge (tgt := 79) hx hb d_Tokens_quoteEnd_6 (by decide) (fun hc1 => ?_) (fun hc1 => ?_)
      · rw [if_pos hc1] at h
        exact (ih.2.2.2) S L M ls H locs h (lv_sub hl [0, 1, 2, 3] rfl) hP hD hS
      · rw [if_neg hc1] at h
        refine lv_aload_n hx hb d_Tokens_quoteEnd_9 rfl (lv_at hl 0 rfl) ?_
        refine S_getR (h := shC) (C := "MacroMill$Tokens") (T := F_Tokens) hx hb htt in_Tokens hown hK hP 9 0 rfl 50 rfl rfl (by decide) (htt _ k_633) (fun _ h9 => h9) d_Tokens_quoteEnd_10 ?_
        refine lv_iload_n hx hb d_Tokens_quoteEnd_13 rfl (lv_at hl 3 rfl) ?_
        obtain ⟨hv2, h⟩ := chk h
        refine S_bald (h := shC) (i := L 3) hx hb hK hP 37 rfl (okI_in hv2) d_Tokens_quoteEnd_14 ?_
        refine lv_bipush (v := 10) hx hb d_Tokens_quoteEnd_15 (by decide) ?_
        refine lv_icmp_eq (tgt := 79) hx hb d_Tokens_quoteEnd_17 (by decide) (fun hc3 => ?_) (fun hc3 => ?_)
        · rw [if_pos hc3] at h
          exact (ih.2.2.2) S L M ls H locs h (lv_sub hl [0, 1, 2, 3] rfl) hP hD hS
        · rw [if_neg hc3] at h
          refine lv_aload_n hx hb d_Tokens_quoteEnd_20 rfl (lv_at hl 0 rfl) ?_
          refine S_getR (h := shC) (C := "MacroMill$Tokens") (T := F_Tokens) hx hb htt in_Tokens hown hK hP 9 0 rfl 50 rfl rfl (by decide) (htt _ k_633) (fun _ h9 => h9) d_Tokens_quoteEnd_21 ?_
          refine lv_iload_n hx hb d_Tokens_quoteEnd_24 rfl (lv_at hl 3 rfl) ?_
          obtain ⟨hv4, h⟩ := chk h
          refine S_bald (h := shC) (i := L 3) hx hb hK hP 37 rfl (okI_in hv4) d_Tokens_quoteEnd_25 ?_
          show W _ _ _ _ _ _ _ _ _ _ _ _ _ _ _ (F0 _ 26 _ _)
          refine lv_aload_n hx hb d_Tokens_quoteEnd_26 rfl (lv_at hl 0 rfl) ?_
          refine S_getR (h := shC) (C := "MacroMill$Tokens") (T := F_Tokens) hx hb htt in_Tokens hown hK hP 9 0 rfl 50 rfl rfl (by decide) (htt _ k_633) (fun _ h9 => h9) d_Tokens_quoteEnd_27 ?_
          refine lv_iload_n hx hb d_Tokens_quoteEnd_30 rfl (lv_at hl 1 rfl) ?_
          obtain ⟨hv5, h⟩ := chk h
          refine S_bald (h := shC) (i := L 1) hx hb hK hP 37 rfl (okI_in hv5) d_Tokens_quoteEnd_31 ?_
          refine lv_icmp_ne (tgt := 39) hx hb d_Tokens_quoteEnd_32 (by decide) (fun hc6 => ?_) (fun hc6 => ?_)
          · rw [if_neg hc6] at h
            refine lv_aload_n hx hb d_Tokens_quoteEnd_39 rfl (lv_at hl 0 rfl) ?_
            refine S_getR (h := shC) (C := "MacroMill$Tokens") (T := F_Tokens) hx hb htt in_Tokens hown hK hP 9 0 rfl 50 rfl rfl (by decide) (htt _ k_633) (fun _ h9 => h9) d_Tokens_quoteEnd_40 ?_
            refine lv_iload_n hx hb d_Tokens_quoteEnd_43 rfl (lv_at hl 3 rfl) ?_
            obtain ⟨hv7, h⟩ := chk h
            refine S_bald (h := shC) (i := L 3) hx hb hK hP 37 rfl (okI_in hv7) d_Tokens_quoteEnd_44 ?_
            refine lv_bipush (v := 92) hx hb d_Tokens_quoteEnd_45 (by decide) ?_
            refine lv_icmp_ne (tgt := 73) hx hb d_Tokens_quoteEnd_47 (by decide) (fun hc8 => ?_) (fun hc8 => ?_)
            · rw [if_neg hc8] at h
              exact (ih.2.2.1) S L M ls H locs h (lv_sub hl [0, 1, 2, 3] rfl) hP hD hS
            · rw [if_pos hc8] at h
              refine lv_iload_n hx hb d_Tokens_quoteEnd_50 rfl (lv_at hl 3 rfl) ?_
              refine lv_iconst (v := 1) hx hb d_Tokens_quoteEnd_51 (by decide) ?_
              refine lv_iadd hx hb d_Tokens_quoteEnd_52 ?_
              show W _ _ _ _ _ _ _ _ _ _ _ _ _ _ _ (F0 _ 53 _ _)
              refine lv_iload_n hx hb d_Tokens_quoteEnd_53 rfl (lv_at hl 2 rfl) ?_
              refine lv_icmp_ge (tgt := 73) hx hb d_Tokens_quoteEnd_54 (by decide) (fun hc9 => ?_) (fun hc9 => ?_)
              · rw [if_pos hc9] at h
                exact (ih.2.2.1) S L M ls H locs h (lv_sub hl [0, 1, 2, 3] rfl) hP hD hS
              · rw [if_neg hc9] at h
                refine lv_aload_n hx hb d_Tokens_quoteEnd_57 rfl (lv_at hl 0 rfl) ?_
                refine S_getR (h := shC) (C := "MacroMill$Tokens") (T := F_Tokens) hx hb htt in_Tokens hown hK hP 9 0 rfl 50 rfl rfl (by decide) (htt _ k_633) (fun _ h9 => h9) d_Tokens_quoteEnd_58 ?_
                refine lv_iload_n hx hb d_Tokens_quoteEnd_61 rfl (lv_at hl 3 rfl) ?_
                refine lv_iconst (v := 1) hx hb d_Tokens_quoteEnd_62 (by decide) ?_
                refine lv_iadd hx hb d_Tokens_quoteEnd_63 ?_
                obtain ⟨hv10, h⟩ := chk h
                refine S_bald (h := shC) (i := (L 3) + (1 : Int32)) hx hb hK hP 37 rfl (okI_in hv10) d_Tokens_quoteEnd_64 ?_
                refine lv_bipush (v := 10) hx hb d_Tokens_quoteEnd_65 (by decide) ?_
                refine lv_icmp_eq (tgt := 73) hx hb d_Tokens_quoteEnd_67 (by decide) (fun hc11 => ?_) (fun hc11 => ?_)
                · rw [if_pos hc11] at h
                  exact (ih.2.2.1) S L M ls H locs h (lv_sub hl [0, 1, 2, 3] rfl) hP hD hS
                · rw [if_neg hc11] at h
                  refine lv_iinc (k := 3) (v := (L 3) + 1) (lv' := [(3, .int ((L 3) + 1)), (0, .ref (ad 9)), (1, .int (L 1)), (2, .int (L 2))]) hx hb d_Tokens_quoteEnd_70 hl rfl rfl (by decide) rfl (fun ls hl => ?_)
                  exact (ih.2.2.1) S (upd L 3 ((L 3) + 1)) M ls H locs h (lv_sub hl [1, 2, 3, 0] rfl) hP hD hS
          · rw [if_pos hc6] at h
            refine lv_iload_n hx hb d_Tokens_quoteEnd_35 rfl (lv_at hl 3 rfl) ?_
            refine lv_iconst (v := 1) hx hb d_Tokens_quoteEnd_36 (by decide) ?_
            refine lv_iadd hx hb d_Tokens_quoteEnd_37 ?_
            cases h
            exact kx_38 ls H locs hP hD hS
    · intro S L M ls H locs h hl hP hD hS
      simp only [f_Tokens_quoteEnd] at h
      refine lv_iinc (k := 3) (v := (L 3) + 1) (lv' := [(3, .int ((L 3) + 1)), (0, .ref (ad 9)), (1, .int (L 1)), (2, .int (L 2))]) hx hb d_Tokens_quoteEnd_73 hl rfl rfl (by decide) rfl (fun ls hl => ?_)
      refine lv_goto (tgt := 4) hx hb d_Tokens_quoteEnd_76 (by decide) ?_
      exact (ih.2.1) S (upd L 3 ((L 3) + 1)) M ls H locs h (lv_sub hl [1, 2, 3, 0] rfl) hP hD hS
    · intro S L M ls H locs h hl hP hD hS
      simp only [f_Tokens_quoteEnd] at h
      refine lv_iconst (v := 0) hx hb d_Tokens_quoteEnd_79 (by decide) ?_
      cases h
      exact kx_80 ls H locs hP hD hS
abbrev rm_t_Tokens_quoteEnd : Room := { frames := 0, cells := 0, slots := 0, locals := 0 }
theorem t_Tokens_quoteEnd (l : Launch) (g : gG) (sz : Nat) (ad : Nat → Nat) (S : sS) (v1 : Int32) (v2 : Int32) (k : Nat) (r : Int32) (S9 : sS) (h : f_Tokens_quoteEnd k 0 S (upd (upd (fun _ => 0) 1 v1) 2 v2) (fun _ => 0) = some (r, S9)) : Ci l y_Tokens_quoteEnd b_Tokens_quoteEnd 4 rm_t_Tokens_quoteEnd g [.ref (ad 9), .int v1, .int v2] (Sw shC g ad S) sz (fun r1 w => ∃ S1 : sS, w = Sw shC g ad S1 ∧ r1 = r ∧ S1 = S9) := by
  refine startI (by decide) (Nat.le_of_ble_eq_true rfl) ?_
  intro p e s m below meth c A ls hx hb hr hml hlocks hmn hown htt hN hA hP hK hD hS hl
  exact (w_Tokens_quoteEnd hx hb hml hown htt hK hN hA r S9 (fun ls H locs hP hD hS => fin_i (g := g) (ws := Sw shC g ad S9) hx hb hr hlocks (by decide +kernel) (by decide +kernel) hP hD hS ⟨_, rfl, rfl, rfl⟩ d_Tokens_quoteEnd_38) (fun ls H locs hP hD hS => fin_i (g := g) (ws := Sw shC g ad S9) hx hb hr hlocks (by decide +kernel) (by decide +kernel) hP hD hS ⟨_, rfl, rfl, rfl⟩ d_Tokens_quoteEnd_80) k).1 S (upd (upd (fun _ => 0) 1 v1) 2 v2) (fun _ => 0) ls _ _ h hl hP hD hS
def f_Tokens_nameEnd : Nat → Nat → sS → (Nat → Int32) → (Nat → Int64) → Option (Int32 × sS)
  | 0, _, _, _, _ => none
  | k + 1, 0, S, L, M => f_Tokens_nameEnd k 1 S (upd L 3 ((L 1) + (1 : Int32))) M
  | k + 1, 1, S, L, M => if (L 2) ≤ (L 3) then (f_Tokens_nameEnd k 3 S L M) else (if okI (L 3) 125538 = true then ((f_MM_isLetter k 0 S (upd (fun _ => 0) 0 (S.2.1 37 (L 3 : Int32).toNatClampNeg : Int32)) (fun _ => 0)).bind (fun (r3, T3) => if r3 = (0 : Int32) then (if okI (L 3) 125538 = true then ((f_MM_isDigit k 0 T3 (upd (fun _ => 0) 0 (T3.2.1 37 (L 3 : Int32).toNatClampNeg : Int32)) (fun _ => 0)).bind (fun (r6, T6) => if r6 = (0 : Int32) then (f_Tokens_nameEnd k 3 T6 L M) else (f_Tokens_nameEnd k 2 T6 L M))) else none) else (f_Tokens_nameEnd k 2 T3 L M))) else none)
  | k + 1, 2, S, L, M => f_Tokens_nameEnd k 1 S (upd L 3 ((L 3) + 1)) M
  | k + 1, 3, S, L, M => some (L 3, S)
  | _ + 1, _ + 4, _, _, _ => none
set_option maxHeartbeats 8000000 in
set_option maxRecDepth 100000 in
theorem w_Tokens_nameEnd {p : Program} {l : Launch} {e : Env} {R : Room} {s : State} {m : MethodId} {args : Array Value} {below : List Frame} {meth : Method} {c : Code} {cells slots : Nat} {Q : State → Prop} {g : gG} {A : Nat → Prop} {ad : Nat → Nat} (hx : p.tables.exec = Jvm.exec) (hb : c.code = b_Tokens_nameEnd) (hml : c.maxLocals = 4) (hown : s.vm.findClass "MacroMill$Tokens" = some m.cls) (htt : ∀ w ∈ gt, w.before args s = true) (hK : va_K g.1 classes (tysG g) s) (hN : nw s) (hA : ∀ q : Nat, s.heap.size ≤ q → A q) (hRf : 1 ≤ R.frames) (hRl : 20 ≤ R.locals) (hRc : cells ≤ R.cells) (hRs : slots ≤ R.slots) (r : Int32) (S9 : sS)
    (kx_40 : ∀ (ls : Array Slot) (H : Heap) (locs : List Loc), va_P g.1 classes (Sw shC g ad S9) H → va_D A (Sw shC g ad S9) → va_S A s.heap H locs → W p l e R s m args below meth c H locs cells slots Q (F0 m 40 ls [.int r])) :
    ∀ k9 : Nat, (∀ (S : sS) (L : Nat → Int32) (M : Nat → Int64) (ls : Array Slot) (H : Heap) (locs : List Loc), f_Tokens_nameEnd k9 0 S L M = some (r, S9) → lv_has ls 4 [(0, .ref (ad 9)), (1, .int (L 1)), (2, .int (L 2))] → va_P g.1 classes (Sw shC g ad S) H → va_D A (Sw shC g ad S) → va_S A s.heap H locs → W p l e R s m args below meth c H locs cells slots Q (F0 m 0 ls [])) ∧ (∀ (S : sS) (L : Nat → Int32) (M : Nat → Int64) (ls : Array Slot) (H : Heap) (locs : List Loc), f_Tokens_nameEnd k9 1 S L M = some (r, S9) → lv_has ls 4 [(0, .ref (ad 9)), (1, .int (L 1)), (2, .int (L 2)), (3, .int (L 3))] → va_P g.1 classes (Sw shC g ad S) H → va_D A (Sw shC g ad S) → va_S A s.heap H locs → W p l e R s m args below meth c H locs cells slots Q (F0 m 4 ls [])) ∧ (∀ (S : sS) (L : Nat → Int32) (M : Nat → Int64) (ls : Array Slot) (H : Heap) (locs : List Loc), f_Tokens_nameEnd k9 2 S L M = some (r, S9) → lv_has ls 4 [(0, .ref (ad 9)), (1, .int (L 1)), (2, .int (L 2)), (3, .int (L 3))] → va_P g.1 classes (Sw shC g ad S) H → va_D A (Sw shC g ad S) → va_S A s.heap H locs → W p l e R s m args below meth c H locs cells slots Q (F0 m 33 ls [])) ∧ (∀ (S : sS) (L : Nat → Int32) (M : Nat → Int64) (ls : Array Slot) (H : Heap) (locs : List Loc), f_Tokens_nameEnd k9 3 S L M = some (r, S9) → lv_has ls 4 [(0, .ref (ad 9)), (1, .int (L 1)), (2, .int (L 2)), (3, .int (L 3))] → va_P g.1 classes (Sw shC g ad S) H → va_D A (Sw shC g ad S) → va_S A s.heap H locs → W p l e R s m args below meth c H locs cells slots Q (F0 m 39 ls [])) := by
  intro k9
  induction k9 with
  | zero => exact ⟨(fun _ _ _ _ _ _ h => by simp [f_Tokens_nameEnd] at h), (fun _ _ _ _ _ _ h => by simp [f_Tokens_nameEnd] at h), (fun _ _ _ _ _ _ h => by simp [f_Tokens_nameEnd] at h), (fun _ _ _ _ _ _ h => by simp [f_Tokens_nameEnd] at h)⟩
  | succ k9 ih =>
    refine ⟨?_, ?_, ?_, ?_⟩
    · intro S L M ls H locs h hl hP hD hS
      simp only [f_Tokens_nameEnd] at h
      refine lv_iload_n hx hb d_Tokens_nameEnd_0 rfl (lv_at hl 1 rfl) ?_
      refine lv_iconst (v := 1) hx hb d_Tokens_nameEnd_1 (by decide) ?_
      refine lv_iadd hx hb d_Tokens_nameEnd_2 ?_
      refine lv_istore_n (lv' := [(3, .int ((L 1) + (1 : Int32))), (0, .ref (ad 9)), (1, .int (L 1)), (2, .int (L 2))]) hx hb d_Tokens_nameEnd_3 rfl hl (by decide) rfl (fun ls hl => ?_)
      exact (ih.2.1) S (upd L 3 ((L 1) + (1 : Int32))) M ls H locs h (lv_sub hl [1, 2, 3, 0] rfl) hP hD hS
    · intro S L M ls H locs h hl hP hD hS
      simp only [f_Tokens_nameEnd] at h
      refine lv_iload_n hx hb d_Tokens_nameEnd_4 rfl (lv_at hl 3 rfl) ?_
      refine lv_iload_n hx hb d_Tokens_nameEnd_5 rfl (lv_at hl 2 rfl) ?_
      refine lv_icmp_ge (tgt := 39) hx hb d_Tokens_nameEnd_6 (by decide) (fun hc1 => ?_) (fun hc1 => ?_)
      · rw [if_pos hc1] at h
        exact (ih.2.2.2) S L M ls H locs h (lv_sub hl [0, 1, 2, 3] rfl) hP hD hS
      · rw [if_neg hc1] at h
        refine lv_aload_n hx hb d_Tokens_nameEnd_9 rfl (lv_at hl 0 rfl) ?_
        refine S_getR (h := shC) (C := "MacroMill$Tokens") (T := F_Tokens) hx hb htt in_Tokens hown hK hP 9 0 rfl 50 rfl rfl (by decide) (htt _ k_633) (fun _ h9 => h9) d_Tokens_nameEnd_10 ?_
        refine lv_iload_n hx hb d_Tokens_nameEnd_13 rfl (lv_at hl 3 rfl) ?_
        obtain ⟨hv2, h⟩ := chk h
        refine S_bald (h := shC) (i := L 3) hx hb hK hP 37 rfl (okI_in hv2) d_Tokens_nameEnd_14 ?_
        obtain ⟨⟨r3, T3⟩, hq3, h⟩ := Option.bind_eq_some_iff.mp h
        try dsimp only at h
        refine go_iS (As := [.int (S.2.1 37 (L 3 : Int32).toNatClampNeg)]) (g := g) (A := A) (h := shC) hP hK hD hS hA hN (fun hp => va_runSN (As := [.int (S.2.1 37 (L 3 : Int32).toNatClampNeg)]) (rest := []) ⟨hx, hb, hml, hown, htt⟩ (t_MM_isLetter l g _ ad S (S.2.1 37 (L 3 : Int32).toNatClampNeg : Int32) k9 r3 T3 hq3) ⟨(cb_N (host := "MacroMill") htt k_1170 k_262 hN nM_19 hd_MM_isLetter ⟨(Nat.le_trans (by decide +kernel) hRf), (Nat.le_trans (by decide +kernel) hRl)⟩), htt _ k_1169, trivial⟩ hp rfl rfl hl.1 rfl (lv_room (Nat.le_of_ble_eq_true rfl)) d_Tokens_nameEnd_15 ⟨hRc, hRs⟩) (fun r0 Sn H locs hw9 hP hD hS => ?_)
        obtain ⟨e9, e8⟩ := hw9
        rw [e8] at hP hD
        refine W.widen (k := cells) (n := slots) (Nat.le_refl _) (Nat.le_refl _) ?_
        refine toI (y := r3) e9 ?_
        refine lv_if_ne (tgt := 33) hx hb d_Tokens_nameEnd_18 (by decide) (fun hc4 => ?_) (fun hc4 => ?_)
        · rw [if_neg hc4] at h
          exact (ih.2.2.1) T3 L M ls H locs h (lv_sub hl [0, 1, 2, 3] rfl) hP hD hS
        · rw [if_pos hc4] at h
          refine lv_aload_n hx hb d_Tokens_nameEnd_21 rfl (lv_at hl 0 rfl) ?_
          refine S_getR (h := shC) (C := "MacroMill$Tokens") (T := F_Tokens) hx hb htt in_Tokens hown hK hP 9 0 rfl 50 rfl rfl (by decide) (htt _ k_633) (fun _ h9 => h9) d_Tokens_nameEnd_22 ?_
          refine lv_iload_n hx hb d_Tokens_nameEnd_25 rfl (lv_at hl 3 rfl) ?_
          obtain ⟨hv5, h⟩ := chk h
          refine S_bald (h := shC) (i := L 3) hx hb hK hP 37 rfl (okI_in hv5) d_Tokens_nameEnd_26 ?_
          obtain ⟨⟨r6, T6⟩, hq6, h⟩ := Option.bind_eq_some_iff.mp h
          try dsimp only at h
          refine go_iS (As := [.int (T3.2.1 37 (L 3 : Int32).toNatClampNeg)]) (g := g) (A := A) (h := shC) hP hK hD hS hA hN (fun hp => va_runSN (As := [.int (T3.2.1 37 (L 3 : Int32).toNatClampNeg)]) (rest := []) ⟨hx, hb, hml, hown, htt⟩ (t_MM_isDigit l g _ ad T3 (T3.2.1 37 (L 3 : Int32).toNatClampNeg : Int32) k9 r6 T6 hq6) ⟨(cb_N (host := "MacroMill") htt k_1177 k_262 hN nM_20 hd_MM_isDigit ⟨(Nat.le_trans (by decide +kernel) hRf), (Nat.le_trans (by decide +kernel) hRl)⟩), htt _ k_1176, trivial⟩ hp rfl rfl hl.1 rfl (lv_room (Nat.le_of_ble_eq_true rfl)) d_Tokens_nameEnd_27 ⟨hRc, hRs⟩) (fun r0 Sn H locs hw9 hP hD hS => ?_)
          obtain ⟨e9, e8⟩ := hw9
          rw [e8] at hP hD
          refine W.widen (k := cells) (n := slots) (Nat.le_refl _) (Nat.le_refl _) ?_
          refine toI (y := r6) e9 ?_
          refine lv_if_eq (tgt := 39) hx hb d_Tokens_nameEnd_30 (by decide) (fun hc7 => ?_) (fun hc7 => ?_)
          · rw [if_pos hc7] at h
            exact (ih.2.2.2) T6 L M ls H locs h (lv_sub hl [0, 1, 2, 3] rfl) hP hD hS
          · rw [if_neg hc7] at h
            exact (ih.2.2.1) T6 L M ls H locs h (lv_sub hl [0, 1, 2, 3] rfl) hP hD hS
    · intro S L M ls H locs h hl hP hD hS
      simp only [f_Tokens_nameEnd] at h
      refine lv_iinc (k := 3) (v := (L 3) + 1) (lv' := [(3, .int ((L 3) + 1)), (0, .ref (ad 9)), (1, .int (L 1)), (2, .int (L 2))]) hx hb d_Tokens_nameEnd_33 hl rfl rfl (by decide) rfl (fun ls hl => ?_)
      refine lv_goto (tgt := 4) hx hb d_Tokens_nameEnd_36 (by decide) ?_
      exact (ih.2.1) S (upd L 3 ((L 3) + 1)) M ls H locs h (lv_sub hl [1, 2, 3, 0] rfl) hP hD hS
    · intro S L M ls H locs h hl hP hD hS
      simp only [f_Tokens_nameEnd] at h
      refine lv_iload_n hx hb d_Tokens_nameEnd_39 rfl (lv_at hl 3 rfl) ?_
      cases h
      exact kx_40 ls H locs hP hD hS
abbrev rm_t_Tokens_nameEnd : Room := { frames := 1, cells := 0, slots := 0, locals := 20 }
theorem t_Tokens_nameEnd (l : Launch) (g : gG) (sz : Nat) (ad : Nat → Nat) (S : sS) (v1 : Int32) (v2 : Int32) (k : Nat) (r : Int32) (S9 : sS) (h : f_Tokens_nameEnd k 0 S (upd (upd (fun _ => 0) 1 v1) 2 v2) (fun _ => 0) = some (r, S9)) : Ci l y_Tokens_nameEnd b_Tokens_nameEnd 4 rm_t_Tokens_nameEnd g [.ref (ad 9), .int v1, .int v2] (Sw shC g ad S) sz (fun r1 w => ∃ S1 : sS, w = Sw shC g ad S1 ∧ r1 = r ∧ S1 = S9) := by
  refine startI (by decide) (Nat.le_of_ble_eq_true rfl) ?_
  intro p e s m below meth c A ls hx hb hr hml hlocks hmn hown htt hN hA hP hK hD hS hl
  exact (w_Tokens_nameEnd hx hb hml hown htt hK hN hA (by decide +kernel) (by decide +kernel) (by decide +kernel) (by decide +kernel) r S9 (fun ls H locs hP hD hS => fin_i (g := g) (ws := Sw shC g ad S9) hx hb hr hlocks (by decide +kernel) (by decide +kernel) hP hD hS ⟨_, rfl, rfl, rfl⟩ d_Tokens_nameEnd_40) k).1 S (upd (upd (fun _ => 0) 1 v1) 2 v2) (fun _ => 0) ls _ _ h hl hP hD hS
def f_Tokens_numberEnd : Nat → Nat → sS → (Nat → Int32) → (Nat → Int64) → Option (Int32 × sS)
  | 0, _, _, _, _ => none
  | k + 1, 0, S, L, M => f_Tokens_numberEnd k 1 S (upd L 3 ((L 1) + (1 : Int32))) M
  | k + 1, 1, S, L, M => if (L 2) ≤ (L 3) then (some (L 3, S)) else (if okI (L 3) 125538 = true then (if okI ((L 3) - (1 : Int32)) 125538 = true then (if (S.2.1 37 (L 3 : Int32).toNatClampNeg) = (43 : Int32) then (f_Tokens_numberEnd k 2 S (upd (upd L 4 (S.2.1 37 (L 3 : Int32).toNatClampNeg)) 5 ((S.2.1 37 ((L 3) - (1 : Int32) : Int32).toNatClampNeg) ||| (32 : Int32))) M) else (if (S.2.1 37 (L 3 : Int32).toNatClampNeg) = (45 : Int32) then (f_Tokens_numberEnd k 2 S (upd (upd L 4 (S.2.1 37 (L 3 : Int32).toNatClampNeg)) 5 ((S.2.1 37 ((L 3) - (1 : Int32) : Int32).toNatClampNeg) ||| (32 : Int32))) M) else (f_Tokens_numberEnd k 4 S (upd (upd L 4 (S.2.1 37 (L 3 : Int32).toNatClampNeg)) 5 ((S.2.1 37 ((L 3) - (1 : Int32) : Int32).toNatClampNeg) ||| (32 : Int32))) M))) else none) else none)
  | k + 1, 2, S, L, M => if (L 5) = (101 : Int32) then (f_Tokens_numberEnd k 3 S L M) else (if (L 5) = (112 : Int32) then (f_Tokens_numberEnd k 3 S L M) else (f_Tokens_numberEnd k 4 S L M))
  | k + 1, 3, S, L, M => f_Tokens_numberEnd k 5 S (upd L 100 (1 : Int32)) M
  | k + 1, 4, S, L, M => f_Tokens_numberEnd k 5 S (upd L 100 (0 : Int32)) M
  | k + 1, 5, S, L, M => if (L 100) = (0 : Int32) then (if (L 4) = (46 : Int32) then (f_Tokens_numberEnd k 6 S (upd L 6 (L 100)) M) else ((f_MM_isLetter k 0 S (upd (fun _ => 0) 0 (L 4 : Int32)) (fun _ => 0)).bind (fun (r3, T3) => if r3 = (0 : Int32) then ((f_MM_isDigit k 0 T3 (upd (fun _ => 0) 0 (L 4 : Int32)) (fun _ => 0)).bind (fun (r5, T5) => if r5 = (0 : Int32) then (some (L 3, T5)) else (f_Tokens_numberEnd k 6 T5 (upd L 6 (L 100)) M))) else (f_Tokens_numberEnd k 6 T3 (upd L 6 (L 100)) M)))) else (f_Tokens_numberEnd k 6 S (upd L 6 (L 100)) M)
  | k + 1, 6, S, L, M => f_Tokens_numberEnd k 1 S (upd L 3 ((L 3) + 1)) M
  | _ + 1, _ + 7, _, _, _ => none
set_option maxHeartbeats 8000000 in
set_option maxRecDepth 100000 in
theorem w_Tokens_numberEnd {p : Program} {l : Launch} {e : Env} {R : Room} {s : State} {m : MethodId} {args : Array Value} {below : List Frame} {meth : Method} {c : Code} {cells slots : Nat} {Q : State → Prop} {g : gG} {A : Nat → Prop} {ad : Nat → Nat} (hx : p.tables.exec = Jvm.exec) (hb : c.code = b_Tokens_numberEnd) (hml : c.maxLocals = 7) (hown : s.vm.findClass "MacroMill$Tokens" = some m.cls) (htt : ∀ w ∈ gt, w.before args s = true) (hK : va_K g.1 classes (tysG g) s) (hN : nw s) (hA : ∀ q : Nat, s.heap.size ≤ q → A q) (hRf : 1 ≤ R.frames) (hRl : 20 ≤ R.locals) (hRc : cells ≤ R.cells) (hRs : slots ≤ R.slots) (r : Int32) (S9 : sS)
    (kx_94 : ∀ (ls : Array Slot) (H : Heap) (locs : List Loc), va_P g.1 classes (Sw shC g ad S9) H → va_D A (Sw shC g ad S9) → va_S A s.heap H locs → W p l e R s m args below meth c H locs cells slots Q (F0 m 94 ls [.int r]))
    (kx_102 : ∀ (ls : Array Slot) (H : Heap) (locs : List Loc), va_P g.1 classes (Sw shC g ad S9) H → va_D A (Sw shC g ad S9) → va_S A s.heap H locs → W p l e R s m args below meth c H locs cells slots Q (F0 m 102 ls [.int r])) :
    ∀ k9 : Nat, (∀ (S : sS) (L : Nat → Int32) (M : Nat → Int64) (ls : Array Slot) (H : Heap) (locs : List Loc), f_Tokens_numberEnd k9 0 S L M = some (r, S9) → lv_has ls 7 [(0, .ref (ad 9)), (1, .int (L 1)), (2, .int (L 2))] → va_P g.1 classes (Sw shC g ad S) H → va_D A (Sw shC g ad S) → va_S A s.heap H locs → W p l e R s m args below meth c H locs cells slots Q (F0 m 0 ls [])) ∧ (∀ (S : sS) (L : Nat → Int32) (M : Nat → Int64) (ls : Array Slot) (H : Heap) (locs : List Loc), f_Tokens_numberEnd k9 1 S L M = some (r, S9) → lv_has ls 7 [(0, .ref (ad 9)), (1, .int (L 1)), (2, .int (L 2)), (3, .int (L 3))] → va_P g.1 classes (Sw shC g ad S) H → va_D A (Sw shC g ad S) → va_S A s.heap H locs → W p l e R s m args below meth c H locs cells slots Q (F0 m 4 ls [])) ∧ (∀ (S : sS) (L : Nat → Int32) (M : Nat → Int64) (ls : Array Slot) (H : Heap) (locs : List Loc), f_Tokens_numberEnd k9 2 S L M = some (r, S9) → lv_has ls 7 [(0, .ref (ad 9)), (1, .int (L 1)), (2, .int (L 2)), (3, .int (L 3)), (4, .int (L 4)), (5, .int (L 5))] → va_P g.1 classes (Sw shC g ad S) H → va_D A (Sw shC g ad S) → va_S A s.heap H locs → W p l e R s m args below meth c H locs cells slots Q (F0 m 44 ls [])) ∧ (∀ (S : sS) (L : Nat → Int32) (M : Nat → Int64) (ls : Array Slot) (H : Heap) (locs : List Loc), f_Tokens_numberEnd k9 3 S L M = some (r, S9) → lv_has ls 7 [(0, .ref (ad 9)), (1, .int (L 1)), (2, .int (L 2)), (3, .int (L 3)), (4, .int (L 4)), (5, .int (L 5))] → va_P g.1 classes (Sw shC g ad S) H → va_D A (Sw shC g ad S) → va_S A s.heap H locs → W p l e R s m args below meth c H locs cells slots Q (F0 m 58 ls [])) ∧ (∀ (S : sS) (L : Nat → Int32) (M : Nat → Int64) (ls : Array Slot) (H : Heap) (locs : List Loc), f_Tokens_numberEnd k9 4 S L M = some (r, S9) → lv_has ls 7 [(0, .ref (ad 9)), (1, .int (L 1)), (2, .int (L 2)), (3, .int (L 3)), (4, .int (L 4)), (5, .int (L 5))] → va_P g.1 classes (Sw shC g ad S) H → va_D A (Sw shC g ad S) → va_S A s.heap H locs → W p l e R s m args below meth c H locs cells slots Q (F0 m 62 ls [])) ∧ (∀ (S : sS) (L : Nat → Int32) (M : Nat → Int64) (ls : Array Slot) (H : Heap) (locs : List Loc), f_Tokens_numberEnd k9 5 S L M = some (r, S9) → lv_has ls 7 [(0, .ref (ad 9)), (1, .int (L 1)), (2, .int (L 2)), (3, .int (L 3)), (4, .int (L 4)), (5, .int (L 5))] → va_P g.1 classes (Sw shC g ad S) H → va_D A (Sw shC g ad S) → va_S A s.heap H locs → W p l e R s m args below meth c H locs cells slots Q (F0 m 63 ls [.int (L 100)])) ∧ (∀ (S : sS) (L : Nat → Int32) (M : Nat → Int64) (ls : Array Slot) (H : Heap) (locs : List Loc), f_Tokens_numberEnd k9 6 S L M = some (r, S9) → lv_has ls 7 [(0, .ref (ad 9)), (1, .int (L 1)), (2, .int (L 2)), (3, .int (L 3)), (4, .int (L 4)), (5, .int (L 5)), (6, .int (L 6))] → va_P g.1 classes (Sw shC g ad S) H → va_D A (Sw shC g ad S) → va_S A s.heap H locs → W p l e R s m args below meth c H locs cells slots Q (F0 m 95 ls [])) := by
  intro k9
  induction k9 with
  | zero => exact ⟨(fun _ _ _ _ _ _ h => by simp [f_Tokens_numberEnd] at h), (fun _ _ _ _ _ _ h => by simp [f_Tokens_numberEnd] at h), (fun _ _ _ _ _ _ h => by simp [f_Tokens_numberEnd] at h), (fun _ _ _ _ _ _ h => by simp [f_Tokens_numberEnd] at h), (fun _ _ _ _ _ _ h => by simp [f_Tokens_numberEnd] at h), (fun _ _ _ _ _ _ h => by simp [f_Tokens_numberEnd] at h), (fun _ _ _ _ _ _ h => by simp [f_Tokens_numberEnd] at h)⟩
  | succ k9 ih =>
    refine ⟨?_, ?_, ?_, ?_, ?_, ?_, ?_⟩
    · intro S L M ls H locs h hl hP hD hS
      simp only [f_Tokens_numberEnd] at h
      refine lv_iload_n hx hb d_Tokens_numberEnd_0 rfl (lv_at hl 1 rfl) ?_
      refine lv_iconst (v := 1) hx hb d_Tokens_numberEnd_1 (by decide) ?_
      refine lv_iadd hx hb d_Tokens_numberEnd_2 ?_
      refine lv_istore_n (lv' := [(3, .int ((L 1) + (1 : Int32))), (0, .ref (ad 9)), (1, .int (L 1)), (2, .int (L 2))]) hx hb d_Tokens_numberEnd_3 rfl hl (by decide) rfl (fun ls hl => ?_)
      exact (ih.2.1) S (upd L 3 ((L 1) + (1 : Int32))) M ls H locs h (lv_sub hl [1, 2, 3, 0] rfl) hP hD hS
    · intro S L M ls H locs h hl hP hD hS
      simp only [f_Tokens_numberEnd] at h
      refine lv_iload_n hx hb d_Tokens_numberEnd_4 rfl (lv_at hl 3 rfl) ?_
      refine lv_iload_n hx hb d_Tokens_numberEnd_5 rfl (lv_at hl 2 rfl) ?_
      refine lv_icmp_ge (tgt := 101) hx hb d_Tokens_numberEnd_6 (by decide) (fun hc1 => ?_) (fun hc1 => ?_)
      · rw [if_pos hc1] at h
        refine lv_iload_n hx hb d_Tokens_numberEnd_101 rfl (lv_at hl 3 rfl) ?_
        cases h
        exact kx_102 ls H locs hP hD hS
      · rw [if_neg hc1] at h
        refine lv_aload_n hx hb d_Tokens_numberEnd_9 rfl (lv_at hl 0 rfl) ?_
        refine S_getR (h := shC) (C := "MacroMill$Tokens") (T := F_Tokens) hx hb htt in_Tokens hown hK hP 9 0 rfl 50 rfl rfl (by decide) (htt _ k_633) (fun _ h9 => h9) d_Tokens_numberEnd_10 ?_
        refine lv_iload_n hx hb d_Tokens_numberEnd_13 rfl (lv_at hl 3 rfl) ?_
        obtain ⟨hv2, h⟩ := chk h
        refine S_bald (h := shC) (i := L 3) hx hb hK hP 37 rfl (okI_in hv2) d_Tokens_numberEnd_14 ?_
        refine lv_istore (lv' := [(4, .int (S.2.1 37 (L 3 : Int32).toNatClampNeg)), (0, .ref (ad 9)), (1, .int (L 1)), (2, .int (L 2)), (3, .int (L 3))]) hx hb d_Tokens_numberEnd_15 hl (by decide) rfl (fun ls hl => ?_)
        refine lv_aload_n hx hb d_Tokens_numberEnd_17 rfl (lv_at hl 1 rfl) ?_
        refine S_getR (h := shC) (C := "MacroMill$Tokens") (T := F_Tokens) hx hb htt in_Tokens hown hK hP 9 0 rfl 50 rfl rfl (by decide) (htt _ k_633) (fun _ h9 => h9) d_Tokens_numberEnd_18 ?_
        refine lv_iload_n hx hb d_Tokens_numberEnd_21 rfl (lv_at hl 4 rfl) ?_
        refine lv_iconst (v := 1) hx hb d_Tokens_numberEnd_22 (by decide) ?_
        show W _ _ _ _ _ _ _ _ _ _ _ _ _ _ _ (F0 _ 23 _ _)
        refine lv_isub hx hb d_Tokens_numberEnd_23 ?_
        obtain ⟨hv3, h⟩ := chk h
        refine S_bald (h := shC) (i := (L 3) - (1 : Int32)) hx hb hK hP 37 rfl (okI_in hv3) d_Tokens_numberEnd_24 ?_
        refine lv_bipush (v := 32) hx hb d_Tokens_numberEnd_25 (by decide) ?_
        refine lv_ior hx hb d_Tokens_numberEnd_27 ?_
        refine lv_istore (lv' := [(5, .int ((S.2.1 37 ((L 3) - (1 : Int32) : Int32).toNatClampNeg) ||| (32 : Int32))), (4, .int (S.2.1 37 (L 3 : Int32).toNatClampNeg)), (0, .ref (ad 9)), (1, .int (L 1)), (2, .int (L 2)), (3, .int (L 3))]) hx hb d_Tokens_numberEnd_28 hl (by decide) rfl (fun ls hl => ?_)
        refine lv_iload hx hb d_Tokens_numberEnd_30 (lv_at hl 1 rfl) ?_
        refine lv_bipush (v := 43) hx hb d_Tokens_numberEnd_32 (by decide) ?_
        refine lv_icmp_eq (tgt := 44) hx hb d_Tokens_numberEnd_34 (by decide) (fun hc4 => ?_) (fun hc4 => ?_)
        · rw [if_pos hc4] at h
          exact (ih.2.2.1) S (upd (upd L 4 (S.2.1 37 (L 3 : Int32).toNatClampNeg)) 5 ((S.2.1 37 ((L 3) - (1 : Int32) : Int32).toNatClampNeg) ||| (32 : Int32))) M ls H locs h (lv_sub hl [2, 3, 4, 5, 1, 0] rfl) hP hD hS
        · rw [if_neg hc4] at h
          refine lv_iload hx hb d_Tokens_numberEnd_37 (lv_at hl 1 rfl) ?_
          refine lv_bipush (v := 45) hx hb d_Tokens_numberEnd_39 (by decide) ?_
          refine lv_icmp_ne (tgt := 62) hx hb d_Tokens_numberEnd_41 (by decide) (fun hc5 => ?_) (fun hc5 => ?_)
          · rw [if_neg hc5] at h
            exact (ih.2.2.2.2.1) S (upd (upd L 4 (S.2.1 37 (L 3 : Int32).toNatClampNeg)) 5 ((S.2.1 37 ((L 3) - (1 : Int32) : Int32).toNatClampNeg) ||| (32 : Int32))) M ls H locs h (lv_sub hl [2, 3, 4, 5, 1, 0] rfl) hP hD hS
          · rw [if_pos hc5] at h
            exact (ih.2.2.1) S (upd (upd L 4 (S.2.1 37 (L 3 : Int32).toNatClampNeg)) 5 ((S.2.1 37 ((L 3) - (1 : Int32) : Int32).toNatClampNeg) ||| (32 : Int32))) M ls H locs h (lv_sub hl [2, 3, 4, 5, 1, 0] rfl) hP hD hS
    · intro S L M ls H locs h hl hP hD hS
      simp only [f_Tokens_numberEnd] at h
      refine lv_iload hx hb d_Tokens_numberEnd_44 (lv_at hl 5 rfl) ?_
      refine lv_bipush (v := 101) hx hb d_Tokens_numberEnd_46 (by decide) ?_
      refine lv_icmp_eq (tgt := 58) hx hb d_Tokens_numberEnd_48 (by decide) (fun hc1 => ?_) (fun hc1 => ?_)
      · rw [if_pos hc1] at h
        exact (ih.2.2.2.1) S L M ls H locs h (lv_sub hl [0, 1, 2, 3, 4, 5] rfl) hP hD hS
      · rw [if_neg hc1] at h
        refine lv_iload hx hb d_Tokens_numberEnd_51 (lv_at hl 5 rfl) ?_
        refine lv_bipush (v := 112) hx hb d_Tokens_numberEnd_53 (by decide) ?_
        refine lv_icmp_ne (tgt := 62) hx hb d_Tokens_numberEnd_55 (by decide) (fun hc2 => ?_) (fun hc2 => ?_)
        · rw [if_neg hc2] at h
          exact (ih.2.2.2.2.1) S L M ls H locs h (lv_sub hl [0, 1, 2, 3, 4, 5] rfl) hP hD hS
        · rw [if_pos hc2] at h
          exact (ih.2.2.2.1) S L M ls H locs h (lv_sub hl [0, 1, 2, 3, 4, 5] rfl) hP hD hS
    · intro S L M ls H locs h hl hP hD hS
      simp only [f_Tokens_numberEnd] at h
      refine lv_iconst (v := 1) hx hb d_Tokens_numberEnd_58 (by decide) ?_
      refine lv_goto (tgt := 63) hx hb d_Tokens_numberEnd_59 (by decide) ?_
      exact (ih.2.2.2.2.2.1) S (upd L 100 (1 : Int32)) M ls H locs h (lv_sub hl [0, 1, 2, 3, 4, 5] rfl) hP hD hS
    · intro S L M ls H locs h hl hP hD hS
      simp only [f_Tokens_numberEnd] at h
      refine lv_iconst (v := 0) hx hb d_Tokens_numberEnd_62 (by decide) ?_
      exact (ih.2.2.2.2.2.1) S (upd L 100 (0 : Int32)) M ls H locs h (lv_sub hl [0, 1, 2, 3, 4, 5] rfl) hP hD hS
    · intro S L M ls H locs h hl hP hD hS
      simp only [f_Tokens_numberEnd] at h
      refine lv_istore (lv' := [(6, .int (L 100)), (0, .ref (ad 9)), (1, .int (L 1)), (2, .int (L 2)), (3, .int (L 3)), (4, .int (L 4)), (5, .int (L 5))]) hx hb d_Tokens_numberEnd_63 hl (by decide) rfl (fun ls hl => ?_)
      refine lv_iload hx hb d_Tokens_numberEnd_65 (lv_at hl 0 rfl) ?_
      refine lv_if_ne (tgt := 95) hx hb d_Tokens_numberEnd_67 (by decide) (fun hc1 => ?_) (fun hc1 => ?_)
      · rw [if_neg hc1] at h
        exact (ih.2.2.2.2.2.2) S (upd L 6 (L 100)) M ls H locs h (lv_sub hl [1, 2, 3, 4, 5, 6, 0] rfl) hP hD hS
      · rw [if_pos hc1] at h
        refine lv_iload hx hb d_Tokens_numberEnd_70 (lv_at hl 5 rfl) ?_
        refine lv_bipush (v := 46) hx hb d_Tokens_numberEnd_72 (by decide) ?_
        refine lv_icmp_eq (tgt := 95) hx hb d_Tokens_numberEnd_74 (by decide) (fun hc2 => ?_) (fun hc2 => ?_)
        · rw [if_pos hc2] at h
          exact (ih.2.2.2.2.2.2) S (upd L 6 (L 100)) M ls H locs h (lv_sub hl [1, 2, 3, 4, 5, 6, 0] rfl) hP hD hS
        · rw [if_neg hc2] at h
          refine lv_iload hx hb d_Tokens_numberEnd_77 (lv_at hl 5 rfl) ?_
          obtain ⟨⟨r3, T3⟩, hq3, h⟩ := Option.bind_eq_some_iff.mp h
          try dsimp only at h
          refine go_iS (As := [.int (L 4)]) (g := g) (A := A) (h := shC) hP hK hD hS hA hN (fun hp => va_runSN (As := [.int (L 4)]) (rest := []) ⟨hx, hb, hml, hown, htt⟩ (t_MM_isLetter l g _ ad S (L 4 : Int32) k9 r3 T3 hq3) ⟨(cb_N (host := "MacroMill") htt k_1170 k_262 hN nM_19 hd_MM_isLetter ⟨(Nat.le_trans (by decide +kernel) hRf), (Nat.le_trans (by decide +kernel) hRl)⟩), htt _ k_1169, trivial⟩ hp rfl rfl hl.1 rfl (lv_room (Nat.le_of_ble_eq_true rfl)) d_Tokens_numberEnd_79 ⟨hRc, hRs⟩) (fun r0 Sn H locs hw9 hP hD hS => ?_)
          obtain ⟨e9, e8⟩ := hw9
          rw [e8] at hP hD
          refine W.widen (k := cells) (n := slots) (Nat.le_refl _) (Nat.le_refl _) ?_
          refine toI (y := r3) e9 ?_
          refine lv_if_ne (tgt := 95) hx hb d_Tokens_numberEnd_82 (by decide) (fun hc4 => ?_) (fun hc4 => ?_)
          · rw [if_neg hc4] at h
            exact (ih.2.2.2.2.2.2) T3 (upd L 6 (L 100)) M ls H locs h (lv_sub hl [1, 2, 3, 4, 5, 6, 0] rfl) hP hD hS
          · rw [if_pos hc4] at h
            refine lv_iload hx hb d_Tokens_numberEnd_85 (lv_at hl 5 rfl) ?_
            obtain ⟨⟨r5, T5⟩, hq5, h⟩ := Option.bind_eq_some_iff.mp h
            try dsimp only at h
            refine go_iS (As := [.int (L 4)]) (g := g) (A := A) (h := shC) hP hK hD hS hA hN (fun hp => va_runSN (As := [.int (L 4)]) (rest := []) ⟨hx, hb, hml, hown, htt⟩ (t_MM_isDigit l g _ ad T3 (L 4 : Int32) k9 r5 T5 hq5) ⟨(cb_N (host := "MacroMill") htt k_1177 k_262 hN nM_20 hd_MM_isDigit ⟨(Nat.le_trans (by decide +kernel) hRf), (Nat.le_trans (by decide +kernel) hRl)⟩), htt _ k_1176, trivial⟩ hp rfl rfl hl.1 rfl (lv_room (Nat.le_of_ble_eq_true rfl)) d_Tokens_numberEnd_87 ⟨hRc, hRs⟩) (fun r0 Sn H locs hw9 hP hD hS => ?_)
            obtain ⟨e9, e8⟩ := hw9
            rw [e8] at hP hD
            refine W.widen (k := cells) (n := slots) (Nat.le_refl _) (Nat.le_refl _) ?_
            refine toI (y := r5) e9 ?_
            refine lv_if_ne (tgt := 95) hx hb d_Tokens_numberEnd_90 (by decide) (fun hc6 => ?_) (fun hc6 => ?_)
            · rw [if_neg hc6] at h
              exact (ih.2.2.2.2.2.2) T5 (upd L 6 (L 100)) M ls H locs h (lv_sub hl [1, 2, 3, 4, 5, 6, 0] rfl) hP hD hS
            · rw [if_pos hc6] at h
              refine lv_iload_n hx hb d_Tokens_numberEnd_93 rfl (lv_at hl 4 rfl) ?_
              cases h
              exact kx_94 ls H locs hP hD hS
    · intro S L M ls H locs h hl hP hD hS
      simp only [f_Tokens_numberEnd] at h
      refine lv_iinc (k := 3) (v := (L 3) + 1) (lv' := [(3, .int ((L 3) + 1)), (0, .ref (ad 9)), (1, .int (L 1)), (2, .int (L 2)), (4, .int (L 4)), (5, .int (L 5)), (6, .int (L 6))]) hx hb d_Tokens_numberEnd_95 hl rfl rfl (by decide) rfl (fun ls hl => ?_)
      refine lv_goto (tgt := 4) hx hb d_Tokens_numberEnd_98 (by decide) ?_
      exact (ih.2.1) S (upd L 3 ((L 3) + 1)) M ls H locs h (lv_sub hl [1, 2, 3, 0] rfl) hP hD hS
abbrev rm_t_Tokens_numberEnd : Room := { frames := 1, cells := 0, slots := 0, locals := 20 }
theorem t_Tokens_numberEnd (l : Launch) (g : gG) (sz : Nat) (ad : Nat → Nat) (S : sS) (v1 : Int32) (v2 : Int32) (k : Nat) (r : Int32) (S9 : sS) (h : f_Tokens_numberEnd k 0 S (upd (upd (fun _ => 0) 1 v1) 2 v2) (fun _ => 0) = some (r, S9)) : Ci l y_Tokens_numberEnd b_Tokens_numberEnd 7 rm_t_Tokens_numberEnd g [.ref (ad 9), .int v1, .int v2] (Sw shC g ad S) sz (fun r1 w => ∃ S1 : sS, w = Sw shC g ad S1 ∧ r1 = r ∧ S1 = S9) := by
  refine startI (by decide) (Nat.le_of_ble_eq_true rfl) ?_
  intro p e s m below meth c A ls hx hb hr hml hlocks hmn hown htt hN hA hP hK hD hS hl
  exact (w_Tokens_numberEnd hx hb hml hown htt hK hN hA (by decide +kernel) (by decide +kernel) (by decide +kernel) (by decide +kernel) r S9 (fun ls H locs hP hD hS => fin_i (g := g) (ws := Sw shC g ad S9) hx hb hr hlocks (by decide +kernel) (by decide +kernel) hP hD hS ⟨_, rfl, rfl, rfl⟩ d_Tokens_numberEnd_94) (fun ls H locs hP hD hS => fin_i (g := g) (ws := Sw shC g ad S9) hx hb hr hlocks (by decide +kernel) (by decide +kernel) hP hD hS ⟨_, rfl, rfl, rfl⟩ d_Tokens_numberEnd_102) k).1 S (upd (upd (fun _ => 0) 1 v1) 2 v2) (fun _ => 0) ls _ _ h hl hP hD hS
def f_Macros_find (x1 : Nat) (nx1 : Nat) : Nat → Nat → sS → (Nat → Int32) → (Nat → Int64) → Option (Int32 × sS)
  | 0, _, _, _, _ => none
  | k + 1, 0, S, L, M => (f_MM_hashOf x1 nx1 k 0 S (upd (upd (fun _ => 0) 1 (L 2 : Int32)) 2 (L 3 : Int32)) (fun _ => 0)).bind (fun (r1, T1) => if okI (r1 &&& (511 : Int32)) 512 = true then (f_Macros_find x1 nx1 k 1 T1 (upd (upd L 4 (T1.2.1 43 (r1 &&& (511 : Int32) : Int32).toNatClampNeg)) 5 (0 : Int32)) M) else none)
  | k + 1, 1, S, L, M => if (400 : Int32) ≤ (L 5) then (f_Macros_find x1 nx1 k 3 S L M) else (if (L 4) < (0 : Int32) then (f_Macros_find x1 nx1 k 3 S L M) else (if okI (L 4) 400 = true then ((f_Tokens_fromOf k 0 S (fun _ => 0) (vp_updL (fun _ => 0) 0 (S.2.2 42 (L 4 : Int32).toNatClampNeg : Int64))).bind (fun (r4, T4) => if okI (L 4) 400 = true then ((f_Tokens_lengthOf k 0 T4 (fun _ => 0) (vp_updL (fun _ => 0) 0 (T4.2.2 42 (L 4 : Int32).toNatClampNeg : Int64))).bind (fun (r6, T6) => if r6 = (L 3) then ((f_MM_areSame 37 125538 x1 nx1 k 0 T6 (upd (upd (upd (fun _ => 0) 1 (r4 : Int32)) 3 (L 2 : Int32)) 4 (L 3 : Int32)) (fun _ => 0)).bind (fun (r8, T8) => if r8 = (0 : Int32) then (f_Macros_find x1 nx1 k 2 T8 (upd L 6 r4) M) else (some (L 4, T8)))) else (f_Macros_find x1 nx1 k 2 T6 (upd L 6 r4) M))) else none)) else none))
  | k + 1, 2, S, L, M => if okI (L 4) 400 = true then (f_Macros_find x1 nx1 k 1 S (upd (upd L 4 (S.2.1 44 (L 4 : Int32).toNatClampNeg)) 5 ((L 5) + 1)) M) else none
  | k + 1, 3, S, L, M => some (((-1) : Int32), S)
  | _ + 1, _ + 4, _, _, _ => none
set_option maxHeartbeats 8000000 in
set_option maxRecDepth 100000 in
theorem w_Macros_find {p : Program} {l : Launch} {e : Env} {R : Room} {s : State} {m : MethodId} {args : Array Value} {below : List Frame} {meth : Method} {c : Code} {cells slots : Nat} {Q : State → Prop} {g : gG} {A : Nat → Prop} {ad : Nat → Nat} (hx : p.tables.exec = Jvm.exec) (hb : c.code = b_Macros_find) (hml : c.maxLocals = 7) (hown : s.vm.findClass "MacroMill$Macros" = some m.cls) (htt : ∀ w ∈ gt, w.before args s = true) (hK : va_K g.1 classes (tysG g) s) (hN : nw s) (hA : ∀ q : Nat, s.heap.size ≤ q → A q) (hRf : 1 ≤ R.frames) (hRl : 25 ≤ R.locals) (hRc : cells ≤ R.cells) (hRs : slots ≤ R.slots) (x1 : Nat) (nx1 : Nat) (hx1 : shC.2[x1]? = some (0, nx1)) (r : Int32) (S9 : sS)
    (kx_79 : ∀ (ls : Array Slot) (H : Heap) (locs : List Loc), va_P g.1 classes (Sw shC g ad S9) H → va_D A (Sw shC g ad S9) → va_S A s.heap H locs → W p l e R s m args below meth c H locs cells slots Q (F0 m 79 ls [.int r]))
    (kx_96 : ∀ (ls : Array Slot) (H : Heap) (locs : List Loc), va_P g.1 classes (Sw shC g ad S9) H → va_D A (Sw shC g ad S9) → va_S A s.heap H locs → W p l e R s m args below meth c H locs cells slots Q (F0 m 96 ls [.int r])) :
    ∀ k9 : Nat, (∀ (S : sS) (L : Nat → Int32) (M : Nat → Int64) (ls : Array Slot) (H : Heap) (locs : List Loc), f_Macros_find x1 nx1 k9 0 S L M = some (r, S9) → lv_has ls 7 [(0, .ref (ad 10)), (1, .ref (ad (shC.1.length + x1))), (2, .int (L 2)), (3, .int (L 3))] → va_P g.1 classes (Sw shC g ad S) H → va_D A (Sw shC g ad S) → va_S A s.heap H locs → W p l e R s m args below meth c H locs cells slots Q (F0 m 0 ls [])) ∧ (∀ (S : sS) (L : Nat → Int32) (M : Nat → Int64) (ls : Array Slot) (H : Heap) (locs : List Loc), f_Macros_find x1 nx1 k9 1 S L M = some (r, S9) → lv_has ls 7 [(0, .ref (ad 10)), (1, .ref (ad (shC.1.length + x1))), (2, .int (L 2)), (3, .int (L 3)), (4, .int (L 4)), (5, .int (L 5))] → va_P g.1 classes (Sw shC g ad S) H → va_D A (Sw shC g ad S) → va_S A s.heap H locs → W p l e R s m args below meth c H locs cells slots Q (F0 m 20 ls [])) ∧ (∀ (S : sS) (L : Nat → Int32) (M : Nat → Int64) (ls : Array Slot) (H : Heap) (locs : List Loc), f_Macros_find x1 nx1 k9 2 S L M = some (r, S9) → lv_has ls 7 [(0, .ref (ad 10)), (1, .ref (ad (shC.1.length + x1))), (2, .int (L 2)), (3, .int (L 3)), (4, .int (L 4)), (5, .int (L 5)), (6, .int (L 6))] → va_P g.1 classes (Sw shC g ad S) H → va_D A (Sw shC g ad S) → va_S A s.heap H locs → W p l e R s m args below meth c H locs cells slots Q (F0 m 80 ls [])) ∧ (∀ (S : sS) (L : Nat → Int32) (M : Nat → Int64) (ls : Array Slot) (H : Heap) (locs : List Loc), f_Macros_find x1 nx1 k9 3 S L M = some (r, S9) → lv_has ls 7 [(0, .ref (ad 10)), (1, .ref (ad (shC.1.length + x1))), (2, .int (L 2)), (3, .int (L 3)), (4, .int (L 4)), (5, .int (L 5))] → va_P g.1 classes (Sw shC g ad S) H → va_D A (Sw shC g ad S) → va_S A s.heap H locs → W p l e R s m args below meth c H locs cells slots Q (F0 m 95 ls [])) := by
  intro k9
  induction k9 with
  | zero => exact ⟨(fun _ _ _ _ _ _ h => by simp [f_Macros_find] at h), (fun _ _ _ _ _ _ h => by simp [f_Macros_find] at h), (fun _ _ _ _ _ _ h => by simp [f_Macros_find] at h), (fun _ _ _ _ _ _ h => by simp [f_Macros_find] at h)⟩
  | succ k9 ih =>
    refine ⟨?_, ?_, ?_, ?_⟩
    · intro S L M ls H locs h hl hP hD hS
      simp only [f_Macros_find] at h
      refine lv_aload_n hx hb d_Macros_find_0 rfl (lv_at hl 0 rfl) ?_
      refine S_getR (h := shC) (C := "MacroMill$Macros") (T := F_Macros) hx hb htt in_Macros hown hK hP 10 2 rfl 56 rfl rfl (by decide) (htt _ k_691) (fun _ h9 => h9) d_Macros_find_1 ?_
      refine lv_aload_n hx hb d_Macros_find_4 rfl (lv_at hl 1 rfl) ?_
      refine lv_iload_n hx hb d_Macros_find_5 rfl (lv_at hl 2 rfl) ?_
      refine lv_iload_n hx hb d_Macros_find_6 rfl (lv_at hl 3 rfl) ?_
      obtain ⟨⟨r1, T1⟩, hq1, h⟩ := Option.bind_eq_some_iff.mp h
      try dsimp only at h
      refine go_iS (As := [.ref (ad (shC.1.length + x1)), .int (L 2), .int (L 3)]) (g := g) (A := A) (h := shC) hP hK hD hS hA hN (fun hp => va_runSN (As := [.ref (ad (shC.1.length + x1)), .int (L 2), .int (L 3)]) (rest := [.ref (ad 56)]) ⟨hx, hb, hml, hown, htt⟩ (t_MM_hashOf l g _ ad S x1 nx1 (L 2 : Int32) (L 3 : Int32) hx1 k9 r1 T1 hq1) ⟨(cb_N (host := "MacroMill") htt k_1124 k_262 hN nM_21 hd_MM_hashOf ⟨(Nat.le_trans (by decide +kernel) hRf), (Nat.le_trans (by decide +kernel) hRl)⟩), htt _ k_1123, trivial⟩ hp rfl rfl hl.1 rfl (lv_room (Nat.le_of_ble_eq_true rfl)) d_Macros_find_7 ⟨hRc, hRs⟩) (fun r0 Sn H locs hw9 hP hD hS => ?_)
      obtain ⟨e9, e8⟩ := hw9
      rw [e8] at hP hD
      refine W.widen (k := cells) (n := slots) (Nat.le_refl _) (Nat.le_refl _) ?_
      refine toI (y := r1) e9 ?_
      refine lv_sipush (v := 511) hx hb d_Macros_find_10 (by decide) ?_
      refine lv_iand hx hb d_Macros_find_13 ?_
      obtain ⟨hv2, h⟩ := chk h
      refine S_iald (h := shC) (i := r1 &&& (511 : Int32)) hx hb hK hP 43 rfl (okI_in hv2) d_Macros_find_14 ?_
      refine lv_istore (lv' := [(4, .int (T1.2.1 43 (r1 &&& (511 : Int32) : Int32).toNatClampNeg)), (0, .ref (ad 10)), (1, .ref (ad (shC.1.length + x1))), (2, .int (L 2)), (3, .int (L 3))]) hx hb d_Macros_find_15 hl (by decide) rfl (fun ls hl => ?_)
      refine lv_iconst (v := 0) hx hb d_Macros_find_17 (by decide) ?_
      refine lv_istore (lv' := [(5, .int 0), (4, .int (T1.2.1 43 (r1 &&& (511 : Int32) : Int32).toNatClampNeg)), (0, .ref (ad 10)), (1, .ref (ad (shC.1.length + x1))), (2, .int (L 2)), (3, .int (L 3))]) hx hb d_Macros_find_18 hl (by decide) rfl (fun ls hl => ?_)
      exact (ih.2.1) T1 (upd (upd L 4 (T1.2.1 43 (r1 &&& (511 : Int32) : Int32).toNatClampNeg)) 5 (0 : Int32)) M ls H locs h (lv_sub hl [2, 3, 4, 5, 1, 0] rfl) hP hD hS
    · intro S L M ls H locs h hl hP hD hS
      simp only [f_Macros_find] at h
      refine lv_iload hx hb d_Macros_find_20 (lv_at hl 5 rfl) ?_
      refine lv_sipush (v := 400) hx hb d_Macros_find_22 (by decide) ?_
      refine lv_icmp_ge (tgt := 95) hx hb d_Macros_find_25 (by decide) (fun hc1 => ?_) (fun hc1 => ?_)
      · rw [if_pos hc1] at h
        exact (ih.2.2.2) S L M ls H locs h (lv_sub hl [0, 1, 2, 3, 4, 5] rfl) hP hD hS
      · rw [if_neg hc1] at h
        refine lv_iload hx hb d_Macros_find_28 (lv_at hl 4 rfl) ?_
        refine lv_if_lt (tgt := 95) hx hb d_Macros_find_30 (by decide) (fun hc2 => ?_) (fun hc2 => ?_)
        · rw [if_pos hc2] at h
          exact (ih.2.2.2) S L M ls H locs h (lv_sub hl [0, 1, 2, 3, 4, 5] rfl) hP hD hS
        · rw [if_neg hc2] at h
          refine lv_aload_n hx hb d_Macros_find_33 rfl (lv_at hl 0 rfl) ?_
          refine S_getR (h := shC) (C := "MacroMill$Macros") (T := F_Macros) hx hb htt in_Macros hown hK hP 10 1 rfl 55 rfl rfl (by decide) (htt _ k_690) (fun _ h9 => h9) d_Macros_find_34 ?_
          refine lv_iload hx hb d_Macros_find_37 (lv_at hl 4 rfl) ?_
          obtain ⟨hv3, h⟩ := chk h
          refine S_lald (h := shC) (i := L 4) hx hb hK hP 42 rfl (okI_in hv3) d_Macros_find_39 ?_
          obtain ⟨⟨r4, T4⟩, hq4, h⟩ := Option.bind_eq_some_iff.mp h
          try dsimp only at h
          refine go_iS (As := [.long (S.2.2 42 (L 4 : Int32).toNatClampNeg)]) (g := g) (A := A) (h := shC) hP hK hD hS hA hN (fun hp => va_runS (As := [.long (S.2.2 42 (L 4 : Int32).toNatClampNeg)]) (rest := []) ⟨hx, hb, hml, hown, htt⟩ (t_Tokens_fromOf l g _ ad S (S.2.2 42 (L 4 : Int32).toNatClampNeg : Int64) k9 r4 T4 hq4) ⟨(cb_L htt k_1743 k_271 k_1741 hd_Tokens_fromOf ⟨(Nat.le_trans (by decide +kernel) hRf), (Nat.le_trans (by decide +kernel) hRl)⟩), htt _ k_1742⟩ hp rfl rfl hl.1 rfl (lv_room (Nat.le_of_ble_eq_true rfl)) d_Macros_find_40 ⟨hRc, hRs⟩) (fun r0 Sn H locs hw9 hP hD hS => ?_)
          obtain ⟨e9, e8⟩ := hw9
          rw [e8] at hP hD
          refine W.widen (k := cells) (n := slots) (Nat.le_refl _) (Nat.le_refl _) ?_
          refine toI (y := r4) e9 ?_
          refine lv_istore (lv' := [(6, .int r4), (0, .ref (ad 10)), (1, .ref (ad (shC.1.length + x1))), (2, .int (L 2)), (3, .int (L 3)), (4, .int (L 4)), (5, .int (L 5))]) hx hb d_Macros_find_43 hl (by decide) rfl (fun ls hl => ?_)
          refine lv_aload_n hx hb d_Macros_find_45 rfl (lv_at hl 1 rfl) ?_
          refine S_getR (h := shC) (C := "MacroMill$Macros") (T := F_Macros) hx hb htt in_Macros hown hK hP 10 1 rfl 55 rfl rfl (by decide) (htt _ k_690) (fun _ h9 => h9) d_Macros_find_46 ?_
          refine lv_iload hx hb d_Macros_find_49 (lv_at hl 5 rfl) ?_
          obtain ⟨hv5, h⟩ := chk h
          show W _ _ _ _ _ _ _ _ _ _ _ _ _ _ _ (F0 _ 51 _ _)
          refine S_lald (h := shC) (i := L 4) hx hb hK hP 42 rfl (okI_in hv5) d_Macros_find_51 ?_
          obtain ⟨⟨r6, T6⟩, hq6, h⟩ := Option.bind_eq_some_iff.mp h
          try dsimp only at h
          refine go_iS (As := [.long (T4.2.2 42 (L 4 : Int32).toNatClampNeg)]) (g := g) (A := A) (h := shC) hP hK hD hS hA hN (fun hp => va_runS (As := [.long (T4.2.2 42 (L 4 : Int32).toNatClampNeg)]) (rest := []) ⟨hx, hb, hml, hown, htt⟩ (t_Tokens_lengthOf l g _ ad T4 (T4.2.2 42 (L 4 : Int32).toNatClampNeg : Int64) k9 r6 T6 hq6) ⟨(cb_L htt k_1746 k_271 k_1744 hd_Tokens_lengthOf ⟨(Nat.le_trans (by decide +kernel) hRf), (Nat.le_trans (by decide +kernel) hRl)⟩), htt _ k_1745⟩ hp rfl rfl hl.1 rfl (lv_room (Nat.le_of_ble_eq_true rfl)) d_Macros_find_52 ⟨hRc, hRs⟩) (fun r0 Sn H locs hw9 hP hD hS => ?_)
          obtain ⟨e9, e8⟩ := hw9
          rw [e8] at hP hD
          refine W.widen (k := cells) (n := slots) (Nat.le_refl _) (Nat.le_refl _) ?_
          refine toI (y := r6) e9 ?_
          refine lv_iload_n hx hb d_Macros_find_55 rfl (lv_at hl 4 rfl) ?_
          refine lv_icmp_ne (tgt := 80) hx hb d_Macros_find_56 (by decide) (fun hc7 => ?_) (fun hc7 => ?_)
          · rw [if_neg hc7] at h
            exact (ih.2.2.1) T6 (upd L 6 r4) M ls H locs h (lv_sub hl [1, 2, 3, 4, 5, 6, 0] rfl) hP hD hS
          · rw [if_pos hc7] at h
            refine lv_aload_n hx hb d_Macros_find_59 rfl (lv_at hl 1 rfl) ?_
            refine S_getR (h := shC) (C := "MacroMill$Macros") (T := F_Macros) hx hb htt in_Macros hown hK hP 10 0 rfl 9 rfl rfl (by decide) (htt _ k_689) (fun _ h9 => h9) d_Macros_find_60 ?_
            refine S_getR (h := shC) (C := "MacroMill$Tokens") (T := F_Tokens) hx hb htt in_Tokens hown hK hP 9 0 rfl 50 rfl rfl (by decide) (htt _ k_634) (fun _ h9 => h9) d_Macros_find_63 ?_
            refine lv_iload hx hb d_Macros_find_66 (lv_at hl 0 rfl) ?_
            refine lv_aload_n hx hb d_Macros_find_68 rfl (lv_at hl 2 rfl) ?_
            refine lv_iload_n hx hb d_Macros_find_69 rfl (lv_at hl 3 rfl) ?_
            refine lv_iload_n hx hb d_Macros_find_70 rfl (lv_at hl 4 rfl) ?_
            obtain ⟨⟨r8, T8⟩, hq8, h⟩ := Option.bind_eq_some_iff.mp h
            try dsimp only at h
            refine go_iS (As := [.ref (ad 50), .int r4, .ref (ad (shC.1.length + x1)), .int (L 2), .int (L 3)]) (g := g) (A := A) (h := shC) hP hK hD hS hA hN (fun hp => va_runSN (As := [.ref (ad 50), .int r4, .ref (ad (shC.1.length + x1)), .int (L 2), .int (L 3)]) (rest := []) ⟨hx, hb, hml, hown, htt⟩ (t_MM_areSame l g _ ad T6 37 125538 x1 nx1 (r4 : Int32) (L 2 : Int32) (L 3 : Int32) rfl hx1 k9 r8 T8 hq8) ⟨(cb_N (host := "MacroMill") htt k_1012 k_262 hN nM_22 hd_MM_areSame ⟨(Nat.le_trans (by decide +kernel) hRf), (Nat.le_trans (by decide +kernel) hRl)⟩), htt _ k_1011, trivial⟩ hp rfl rfl hl.1 rfl (lv_room (Nat.le_of_ble_eq_true rfl)) d_Macros_find_71 ⟨hRc, hRs⟩) (fun r0 Sn H locs hw9 hP hD hS => ?_)
            obtain ⟨e9, e8⟩ := hw9
            rw [e8] at hP hD
            refine W.widen (k := cells) (n := slots) (Nat.le_refl _) (Nat.le_refl _) ?_
            refine toI (y := r8) e9 ?_
            refine lv_if_eq (tgt := 80) hx hb d_Macros_find_74 (by decide) (fun hc9 => ?_) (fun hc9 => ?_)
            · rw [if_pos hc9] at h
              exact (ih.2.2.1) T8 (upd L 6 r4) M ls H locs h (lv_sub hl [1, 2, 3, 4, 5, 6, 0] rfl) hP hD hS
            · rw [if_neg hc9] at h
              refine lv_iload hx hb d_Macros_find_77 (lv_at hl 5 rfl) ?_
              cases h
              exact kx_79 ls H locs hP hD hS
    · intro S L M ls H locs h hl hP hD hS
      simp only [f_Macros_find] at h
      refine lv_aload_n hx hb d_Macros_find_80 rfl (lv_at hl 0 rfl) ?_
      refine S_getR (h := shC) (C := "MacroMill$Macros") (T := F_Macros) hx hb htt in_Macros hown hK hP 10 3 rfl 57 rfl rfl (by decide) (htt _ k_692) (fun _ h9 => h9) d_Macros_find_81 ?_
      refine lv_iload hx hb d_Macros_find_84 (lv_at hl 4 rfl) ?_
      obtain ⟨hv1, h⟩ := chk h
      refine S_iald (h := shC) (i := L 4) hx hb hK hP 44 rfl (okI_in hv1) d_Macros_find_86 ?_
      refine lv_istore (lv' := [(4, .int (S.2.1 44 (L 4 : Int32).toNatClampNeg)), (0, .ref (ad 10)), (1, .ref (ad (shC.1.length + x1))), (2, .int (L 2)), (3, .int (L 3)), (5, .int (L 5)), (6, .int (L 6))]) hx hb d_Macros_find_87 hl (by decide) rfl (fun ls hl => ?_)
      refine lv_iinc (k := 5) (v := (L 5) + 1) (lv' := [(5, .int ((L 5) + 1)), (4, .int (S.2.1 44 (L 4 : Int32).toNatClampNeg)), (0, .ref (ad 10)), (1, .ref (ad (shC.1.length + x1))), (2, .int (L 2)), (3, .int (L 3)), (6, .int (L 6))]) hx hb d_Macros_find_89 hl rfl rfl (by decide) rfl (fun ls hl => ?_)
      refine lv_goto (tgt := 20) hx hb d_Macros_find_92 (by decide) ?_
      exact (ih.2.1) S (upd (upd L 4 (S.2.1 44 (L 4 : Int32).toNatClampNeg)) 5 ((L 5) + 1)) M ls H locs h (lv_sub hl [2, 3, 4, 5, 1, 0] rfl) hP hD hS
    · intro S L M ls H locs h hl hP hD hS
      simp only [f_Macros_find] at h
      refine lv_iconst (v := (-1)) hx hb d_Macros_find_95 (by decide) ?_
      cases h
      exact kx_96 ls H locs hP hD hS
abbrev rm_t_Macros_find : Room := { frames := 1, cells := 0, slots := 0, locals := 25 }
theorem t_Macros_find (l : Launch) (g : gG) (sz : Nat) (ad : Nat → Nat) (S : sS) (x1 : Nat) (nx1 : Nat) (v2 : Int32) (v3 : Int32) (hx1 : shC.2[x1]? = some (0, nx1)) (k : Nat) (r : Int32) (S9 : sS) (h : f_Macros_find x1 nx1 k 0 S (upd (upd (fun _ => 0) 2 v2) 3 v3) (fun _ => 0) = some (r, S9)) : Ci l y_Macros_find b_Macros_find 7 rm_t_Macros_find g [.ref (ad 10), .ref (ad (shC.1.length + x1)), .int v2, .int v3] (Sw shC g ad S) sz (fun r1 w => ∃ S1 : sS, w = Sw shC g ad S1 ∧ r1 = r ∧ S1 = S9) := by
  refine startI (by decide) (Nat.le_of_ble_eq_true rfl) ?_
  intro p e s m below meth c A ls hx hb hr hml hlocks hmn hown htt hN hA hP hK hD hS hl
  exact (w_Macros_find hx hb hml hown htt hK hN hA (by decide +kernel) (by decide +kernel) (by decide +kernel) (by decide +kernel) x1 nx1 hx1 r S9 (fun ls H locs hP hD hS => fin_i (g := g) (ws := Sw shC g ad S9) hx hb hr hlocks (by decide +kernel) (by decide +kernel) hP hD hS ⟨_, rfl, rfl, rfl⟩ d_Macros_find_79) (fun ls H locs hP hD hS => fin_i (g := g) (ws := Sw shC g ad S9) hx hb hr hlocks (by decide +kernel) (by decide +kernel) hP hD hS ⟨_, rfl, rfl, rfl⟩ d_Macros_find_96) k).1 S (upd (upd (fun _ => 0) 2 v2) 3 v3) (fun _ => 0) ls _ _ h hl hP hD hS
def f_Macros_isThere : Nat → Nat → sS → (Nat → Int32) → (Nat → Int64) → Option (Int32 × sS)
  | 0, _, _, _, _ => none
  | k + 1, 0, S, L, M => if okI (L 1) 400 = true then (if (S.2.1 45 (L 1 : Int32).toNatClampNeg) = ((-2) : Int32) then (f_Macros_isThere k 1 S (upd L 100 (0 : Int32)) M) else (f_Macros_isThere k 1 S (upd L 100 (1 : Int32)) M)) else none
  | k + 1, 1, S, L, M => if bz (L 100) = true then some (L 100, S) else none
  | _ + 1, _ + 2, _, _, _ => none
set_option maxHeartbeats 8000000 in
set_option maxRecDepth 100000 in
theorem w_Macros_isThere {p : Program} {l : Launch} {e : Env} {R : Room} {s : State} {m : MethodId} {args : Array Value} {below : List Frame} {meth : Method} {c : Code} {cells slots : Nat} {Q : State → Prop} {g : gG} {A : Nat → Prop} {ad : Nat → Nat} (hx : p.tables.exec = Jvm.exec) (hb : c.code = b_Macros_isThere) (hml : c.maxLocals = 2) (hown : s.vm.findClass "MacroMill$Macros" = some m.cls) (htt : ∀ w ∈ gt, w.before args s = true) (hK : va_K g.1 classes (tysG g) s) (hN : nw s) (hA : ∀ q : Nat, s.heap.size ≤ q → A q) (r : Int32) (S9 : sS)
    (kx_16 : ∀ (ls : Array Slot) (H : Heap) (locs : List Loc), narrow .boolean (.int r) = .int r → va_P g.1 classes (Sw shC g ad S9) H → va_D A (Sw shC g ad S9) → va_S A s.heap H locs → W p l e R s m args below meth c H locs cells slots Q (F0 m 16 ls [.int r])) :
    ∀ k9 : Nat, (∀ (S : sS) (L : Nat → Int32) (M : Nat → Int64) (ls : Array Slot) (H : Heap) (locs : List Loc), f_Macros_isThere k9 0 S L M = some (r, S9) → lv_has ls 2 [(0, .ref (ad 10)), (1, .int (L 1))] → va_P g.1 classes (Sw shC g ad S) H → va_D A (Sw shC g ad S) → va_S A s.heap H locs → W p l e R s m args below meth c H locs cells slots Q (F0 m 0 ls [])) ∧ (∀ (S : sS) (L : Nat → Int32) (M : Nat → Int64) (ls : Array Slot) (H : Heap) (locs : List Loc), f_Macros_isThere k9 1 S L M = some (r, S9) → lv_has ls 2 [(0, .ref (ad 10)), (1, .int (L 1))] → va_P g.1 classes (Sw shC g ad S) H → va_D A (Sw shC g ad S) → va_S A s.heap H locs → W p l e R s m args below meth c H locs cells slots Q (F0 m 16 ls [.int (L 100)])) := by
  intro k9
  induction k9 with
  | zero => exact ⟨(fun _ _ _ _ _ _ h => by simp [f_Macros_isThere] at h), (fun _ _ _ _ _ _ h => by simp [f_Macros_isThere] at h)⟩
  | succ k9 ih =>
    refine ⟨?_, ?_⟩
    · intro S L M ls H locs h hl hP hD hS
      simp only [f_Macros_isThere] at h
      refine lv_aload_n hx hb d_Macros_isThere_0 rfl (lv_at hl 0 rfl) ?_
      refine S_getR (h := shC) (C := "MacroMill$Macros") (T := F_Macros) hx hb htt in_Macros hown hK hP 10 6 rfl 58 rfl rfl (by decide) (htt _ k_696) (fun _ h9 => h9) d_Macros_isThere_1 ?_
      refine lv_iload_n hx hb d_Macros_isThere_4 rfl (lv_at hl 1 rfl) ?_
      obtain ⟨hv1, h⟩ := chk h
      refine S_iald (h := shC) (i := L 1) hx hb hK hP 45 rfl (okI_in hv1) d_Macros_isThere_5 ?_
      refine lv_bipush (v := (-2)) hx hb d_Macros_isThere_6 (by decide) ?_
      refine lv_icmp_eq (tgt := 15) hx hb d_Macros_isThere_8 (by decide) (fun hc2 => ?_) (fun hc2 => ?_)
      · rw [if_pos hc2] at h
        refine lv_iconst (v := 0) hx hb d_Macros_isThere_15 (by decide) ?_
        exact (ih.2) S (upd L 100 (0 : Int32)) M ls H locs h (lv_sub hl [0, 1] rfl) hP hD hS
      · rw [if_neg hc2] at h
        refine lv_iconst (v := 1) hx hb d_Macros_isThere_11 (by decide) ?_
        refine lv_goto (tgt := 16) hx hb d_Macros_isThere_12 (by decide) ?_
        exact (ih.2) S (upd L 100 (1 : Int32)) M ls H locs h (lv_sub hl [0, 1] rfl) hP hD hS
    · intro S L M ls H locs h hl hP hD hS
      simp only [f_Macros_isThere] at h
      obtain ⟨hv1, h⟩ := chk h
      cases h
      exact kx_16 ls H locs (bz_n hv1) hP hD hS
abbrev rm_t_Macros_isThere : Room := { frames := 0, cells := 0, slots := 0, locals := 0 }
theorem t_Macros_isThere (l : Launch) (g : gG) (sz : Nat) (ad : Nat → Nat) (S : sS) (v1 : Int32) (k : Nat) (r : Int32) (S9 : sS) (h : f_Macros_isThere k 0 S (upd (fun _ => 0) 1 v1) (fun _ => 0) = some (r, S9)) : Cz l y_Macros_isThere b_Macros_isThere 2 rm_t_Macros_isThere g [.ref (ad 10), .int v1] (Sw shC g ad S) sz (fun r1 w => ∃ S1 : sS, w = Sw shC g ad S1 ∧ r1 = r ∧ S1 = S9) := by
  refine startZ (by decide) (Nat.le_of_ble_eq_true rfl) ?_
  intro p e s m below meth c A ls hx hb hr hml hlocks hmn hown htt hN hA hP hK hD hS hl
  exact (w_Macros_isThere hx hb hml hown htt hK hN hA r S9 (fun ls H locs hz hP hD hS => fin_z (g := g) (ws := Sw shC g ad S9) hx hb hr hlocks hz (by decide +kernel) (by decide +kernel) hP hD hS ⟨_, rfl, rfl, rfl⟩ d_Macros_isThere_16) k).1 S (upd (fun _ => 0) 1 v1) (fun _ => 0) ls _ _ h hl hP hD hS
def f_Macros_hasParameters : Nat → Nat → sS → (Nat → Int32) → (Nat → Int64) → Option (Int32 × sS)
  | 0, _, _, _, _ => none
  | k + 1, 0, S, L, M => if okI (L 1) 400 = true then (if (S.2.1 45 (L 1 : Int32).toNatClampNeg) < (0 : Int32) then (f_Macros_hasParameters k 1 S (upd L 100 (0 : Int32)) M) else (f_Macros_hasParameters k 1 S (upd L 100 (1 : Int32)) M)) else none
  | k + 1, 1, S, L, M => if bz (L 100) = true then some (L 100, S) else none
  | _ + 1, _ + 2, _, _, _ => none
set_option maxHeartbeats 8000000 in
set_option maxRecDepth 100000 in
theorem w_Macros_hasParameters {p : Program} {l : Launch} {e : Env} {R : Room} {s : State} {m : MethodId} {args : Array Value} {below : List Frame} {meth : Method} {c : Code} {cells slots : Nat} {Q : State → Prop} {g : gG} {A : Nat → Prop} {ad : Nat → Nat} (hx : p.tables.exec = Jvm.exec) (hb : c.code = b_Macros_hasParameters) (hml : c.maxLocals = 2) (hown : s.vm.findClass "MacroMill$Macros" = some m.cls) (htt : ∀ w ∈ gt, w.before args s = true) (hK : va_K g.1 classes (tysG g) s) (hN : nw s) (hA : ∀ q : Nat, s.heap.size ≤ q → A q) (r : Int32) (S9 : sS)
    (kx_14 : ∀ (ls : Array Slot) (H : Heap) (locs : List Loc), narrow .boolean (.int r) = .int r → va_P g.1 classes (Sw shC g ad S9) H → va_D A (Sw shC g ad S9) → va_S A s.heap H locs → W p l e R s m args below meth c H locs cells slots Q (F0 m 14 ls [.int r])) :
    ∀ k9 : Nat, (∀ (S : sS) (L : Nat → Int32) (M : Nat → Int64) (ls : Array Slot) (H : Heap) (locs : List Loc), f_Macros_hasParameters k9 0 S L M = some (r, S9) → lv_has ls 2 [(0, .ref (ad 10)), (1, .int (L 1))] → va_P g.1 classes (Sw shC g ad S) H → va_D A (Sw shC g ad S) → va_S A s.heap H locs → W p l e R s m args below meth c H locs cells slots Q (F0 m 0 ls [])) ∧ (∀ (S : sS) (L : Nat → Int32) (M : Nat → Int64) (ls : Array Slot) (H : Heap) (locs : List Loc), f_Macros_hasParameters k9 1 S L M = some (r, S9) → lv_has ls 2 [(0, .ref (ad 10)), (1, .int (L 1))] → va_P g.1 classes (Sw shC g ad S) H → va_D A (Sw shC g ad S) → va_S A s.heap H locs → W p l e R s m args below meth c H locs cells slots Q (F0 m 14 ls [.int (L 100)])) := by
  intro k9
  induction k9 with
  | zero => exact ⟨(fun _ _ _ _ _ _ h => by simp [f_Macros_hasParameters] at h), (fun _ _ _ _ _ _ h => by simp [f_Macros_hasParameters] at h)⟩
  | succ k9 ih =>
    refine ⟨?_, ?_⟩
    · intro S L M ls H locs h hl hP hD hS
      simp only [f_Macros_hasParameters] at h
      refine lv_aload_n hx hb d_Macros_hasParameters_0 rfl (lv_at hl 0 rfl) ?_
      refine S_getR (h := shC) (C := "MacroMill$Macros") (T := F_Macros) hx hb htt in_Macros hown hK hP 10 6 rfl 58 rfl rfl (by decide) (htt _ k_696) (fun _ h9 => h9) d_Macros_hasParameters_1 ?_
      refine lv_iload_n hx hb d_Macros_hasParameters_4 rfl (lv_at hl 1 rfl) ?_
      obtain ⟨hv1, h⟩ := chk h
      refine S_iald (h := shC) (i := L 1) hx hb hK hP 45 rfl (okI_in hv1) d_Macros_hasParameters_5 ?_
      refine lv_if_lt (tgt := 13) hx hb d_Macros_hasParameters_6 (by decide) (fun hc2 => ?_) (fun hc2 => ?_)
      · rw [if_pos hc2] at h
        refine lv_iconst (v := 0) hx hb d_Macros_hasParameters_13 (by decide) ?_
        exact (ih.2) S (upd L 100 (0 : Int32)) M ls H locs h (lv_sub hl [0, 1] rfl) hP hD hS
      · rw [if_neg hc2] at h
        refine lv_iconst (v := 1) hx hb d_Macros_hasParameters_9 (by decide) ?_
        refine lv_goto (tgt := 14) hx hb d_Macros_hasParameters_10 (by decide) ?_
        exact (ih.2) S (upd L 100 (1 : Int32)) M ls H locs h (lv_sub hl [0, 1] rfl) hP hD hS
    · intro S L M ls H locs h hl hP hD hS
      simp only [f_Macros_hasParameters] at h
      obtain ⟨hv1, h⟩ := chk h
      cases h
      exact kx_14 ls H locs (bz_n hv1) hP hD hS
abbrev rm_t_Macros_hasParameters : Room := { frames := 0, cells := 0, slots := 0, locals := 0 }
theorem t_Macros_hasParameters (l : Launch) (g : gG) (sz : Nat) (ad : Nat → Nat) (S : sS) (v1 : Int32) (k : Nat) (r : Int32) (S9 : sS) (h : f_Macros_hasParameters k 0 S (upd (fun _ => 0) 1 v1) (fun _ => 0) = some (r, S9)) : Cz l y_Macros_hasParameters b_Macros_hasParameters 2 rm_t_Macros_hasParameters g [.ref (ad 10), .int v1] (Sw shC g ad S) sz (fun r1 w => ∃ S1 : sS, w = Sw shC g ad S1 ∧ r1 = r ∧ S1 = S9) := by
  refine startZ (by decide) (Nat.le_of_ble_eq_true rfl) ?_
  intro p e s m below meth c A ls hx hb hr hml hlocks hmn hown htt hN hA hP hK hD hS hl
  exact (w_Macros_hasParameters hx hb hml hown htt hK hN hA r S9 (fun ls H locs hz hP hD hS => fin_z (g := g) (ws := Sw shC g ad S9) hx hb hr hlocks hz (by decide +kernel) (by decide +kernel) hP hD hS ⟨_, rfl, rfl, rfl⟩ d_Macros_hasParameters_14) k).1 S (upd (fun _ => 0) 1 v1) (fun _ => 0) ls _ _ h hl hP hD hS
def f_Macros_bodyEnd : Nat → Nat → sS → (Nat → Int32) → (Nat → Int64) → Option (Int32 × sS)
  | 0, _, _, _, _ => none
  | k + 1, 0, S, L, M => if okI (L 1) 400 = true then (some (S.2.1 48 (L 1 : Int32).toNatClampNeg, S)) else none
  | _ + 1, _ + 1, _, _, _ => none
set_option maxHeartbeats 8000000 in
set_option maxRecDepth 100000 in
theorem w_Macros_bodyEnd {p : Program} {l : Launch} {e : Env} {R : Room} {s : State} {m : MethodId} {args : Array Value} {below : List Frame} {meth : Method} {c : Code} {cells slots : Nat} {Q : State → Prop} {g : gG} {A : Nat → Prop} {ad : Nat → Nat} (hx : p.tables.exec = Jvm.exec) (hb : c.code = b_Macros_bodyEnd) (hml : c.maxLocals = 2) (hown : s.vm.findClass "MacroMill$Macros" = some m.cls) (htt : ∀ w ∈ gt, w.before args s = true) (hK : va_K g.1 classes (tysG g) s) (hN : nw s) (hA : ∀ q : Nat, s.heap.size ≤ q → A q) (r : Int32) (S9 : sS)
    (kx_6 : ∀ (ls : Array Slot) (H : Heap) (locs : List Loc), va_P g.1 classes (Sw shC g ad S9) H → va_D A (Sw shC g ad S9) → va_S A s.heap H locs → W p l e R s m args below meth c H locs cells slots Q (F0 m 6 ls [.int r])) :
    ∀ k9 : Nat, (∀ (S : sS) (L : Nat → Int32) (M : Nat → Int64) (ls : Array Slot) (H : Heap) (locs : List Loc), f_Macros_bodyEnd k9 0 S L M = some (r, S9) → lv_has ls 2 [(0, .ref (ad 10)), (1, .int (L 1))] → va_P g.1 classes (Sw shC g ad S) H → va_D A (Sw shC g ad S) → va_S A s.heap H locs → W p l e R s m args below meth c H locs cells slots Q (F0 m 0 ls [])) := by
  intro k9
  induction k9 with
  | zero => exact (fun _ _ _ _ _ _ h => by simp [f_Macros_bodyEnd] at h)
  | succ k9 ih =>
    · intro S L M ls H locs h hl hP hD hS
      simp only [f_Macros_bodyEnd] at h
      refine lv_aload_n hx hb d_Macros_bodyEnd_0 rfl (lv_at hl 0 rfl) ?_
      refine S_getR (h := shC) (C := "MacroMill$Macros") (T := F_Macros) hx hb htt in_Macros hown hK hP 10 9 rfl 61 rfl rfl (by decide) (htt _ k_702) (fun _ h9 => h9) d_Macros_bodyEnd_1 ?_
      refine lv_iload_n hx hb d_Macros_bodyEnd_4 rfl (lv_at hl 1 rfl) ?_
      obtain ⟨hv1, h⟩ := chk h
      refine S_iald (h := shC) (i := L 1) hx hb hK hP 48 rfl (okI_in hv1) d_Macros_bodyEnd_5 ?_
      cases h
      exact kx_6 ls H locs hP hD hS
abbrev rm_t_Macros_bodyEnd : Room := { frames := 0, cells := 0, slots := 0, locals := 0 }
theorem t_Macros_bodyEnd (l : Launch) (g : gG) (sz : Nat) (ad : Nat → Nat) (S : sS) (v1 : Int32) (k : Nat) (r : Int32) (S9 : sS) (h : f_Macros_bodyEnd k 0 S (upd (fun _ => 0) 1 v1) (fun _ => 0) = some (r, S9)) : Ci l y_Macros_bodyEnd b_Macros_bodyEnd 2 rm_t_Macros_bodyEnd g [.ref (ad 10), .int v1] (Sw shC g ad S) sz (fun r1 w => ∃ S1 : sS, w = Sw shC g ad S1 ∧ r1 = r ∧ S1 = S9) := by
  refine startI (by decide) (Nat.le_of_ble_eq_true rfl) ?_
  intro p e s m below meth c A ls hx hb hr hml hlocks hmn hown htt hN hA hP hK hD hS hl
  exact (w_Macros_bodyEnd hx hb hml hown htt hK hN hA r S9 (fun ls H locs hP hD hS => fin_i (g := g) (ws := Sw shC g ad S9) hx hb hr hlocks (by decide +kernel) (by decide +kernel) hP hD hS ⟨_, rfl, rfl, rfl⟩ d_Macros_bodyEnd_6) k) S (upd (fun _ => 0) 1 v1) (fun _ => 0) ls _ _ h hl hP hD hS
def f_Macros_isHidden : Nat → Nat → sS → (Nat → Int32) → (Nat → Int64) → Option (Int32 × sS)
  | 0, _, _, _, _ => none
  | k + 1, 0, S, L, M => if okI (((L 1) * (7 : Int32)) + ((L 2) >>> ((6 : Int32) &&& 31))) 7007 = true then (if (lg_cmp ((((S.2.2 51 (((L 1) * (7 : Int32)) + ((L 2) >>> ((6 : Int32) &&& 31)) : Int32).toNatClampNeg).toUInt64 >>> (((L 2) &&& (63 : Int32) : Int32).toInt64.toUInt64 &&& Int64.toUInt64 63)).toInt64) &&& (1 : Int64)) (0 : Int64)) = (0 : Int32) then (f_Macros_isHidden k 1 S (upd L 100 (0 : Int32)) M) else (f_Macros_isHidden k 1 S (upd L 100 (1 : Int32)) M)) else none
  | k + 1, 1, S, L, M => if bz (L 100) = true then some (L 100, S) else none
  | _ + 1, _ + 2, _, _, _ => none
set_option maxHeartbeats 8000000 in
set_option maxRecDepth 100000 in
theorem w_Macros_isHidden {p : Program} {l : Launch} {e : Env} {R : Room} {s : State} {m : MethodId} {args : Array Value} {below : List Frame} {meth : Method} {c : Code} {cells slots : Nat} {Q : State → Prop} {g : gG} {A : Nat → Prop} {ad : Nat → Nat} (hx : p.tables.exec = Jvm.exec) (hb : c.code = b_Macros_isHidden) (hml : c.maxLocals = 3) (hown : s.vm.findClass "MacroMill$Macros" = some m.cls) (htt : ∀ w ∈ gt, w.before args s = true) (hK : va_K g.1 classes (tysG g) s) (hN : nw s) (hA : ∀ q : Nat, s.heap.size ≤ q → A q) (r : Int32) (S9 : sS)
    (kx_31 : ∀ (ls : Array Slot) (H : Heap) (locs : List Loc), narrow .boolean (.int r) = .int r → va_P g.1 classes (Sw shC g ad S9) H → va_D A (Sw shC g ad S9) → va_S A s.heap H locs → W p l e R s m args below meth c H locs cells slots Q (F0 m 31 ls [.int r])) :
    ∀ k9 : Nat, (∀ (S : sS) (L : Nat → Int32) (M : Nat → Int64) (ls : Array Slot) (H : Heap) (locs : List Loc), f_Macros_isHidden k9 0 S L M = some (r, S9) → lv_has ls 3 [(0, .ref (ad 10)), (1, .int (L 1)), (2, .int (L 2))] → va_P g.1 classes (Sw shC g ad S) H → va_D A (Sw shC g ad S) → va_S A s.heap H locs → W p l e R s m args below meth c H locs cells slots Q (F0 m 0 ls [])) ∧ (∀ (S : sS) (L : Nat → Int32) (M : Nat → Int64) (ls : Array Slot) (H : Heap) (locs : List Loc), f_Macros_isHidden k9 1 S L M = some (r, S9) → lv_has ls 3 [(0, .ref (ad 10)), (1, .int (L 1)), (2, .int (L 2))] → va_P g.1 classes (Sw shC g ad S) H → va_D A (Sw shC g ad S) → va_S A s.heap H locs → W p l e R s m args below meth c H locs cells slots Q (F0 m 31 ls [.int (L 100)])) := by
  intro k9
  induction k9 with
  | zero => exact ⟨(fun _ _ _ _ _ _ h => by simp [f_Macros_isHidden] at h), (fun _ _ _ _ _ _ h => by simp [f_Macros_isHidden] at h)⟩
  | succ k9 ih =>
    refine ⟨?_, ?_⟩
    · intro S L M ls H locs h hl hP hD hS
      simp only [f_Macros_isHidden] at h
      refine lv_aload_n hx hb d_Macros_isHidden_0 rfl (lv_at hl 0 rfl) ?_
      refine S_getR (h := shC) (C := "MacroMill$Macros") (T := F_Macros) hx hb htt in_Macros hown hK hP 10 13 rfl 64 rfl rfl (by decide) (htt _ k_708) (fun _ h9 => h9) d_Macros_isHidden_1 ?_
      refine lv_iload_n hx hb d_Macros_isHidden_4 rfl (lv_at hl 1 rfl) ?_
      refine lv_bipush (v := 7) hx hb d_Macros_isHidden_5 (by decide) ?_
      refine lv_imul hx hb d_Macros_isHidden_7 ?_
      refine lv_iload_n hx hb d_Macros_isHidden_8 rfl (lv_at hl 2 rfl) ?_
      refine lv_bipush (v := 6) hx hb d_Macros_isHidden_9 (by decide) ?_
      refine lv_ishr hx hb d_Macros_isHidden_11 ?_
      refine lv_iadd hx hb d_Macros_isHidden_12 ?_
      obtain ⟨hv1, h⟩ := chk h
      refine S_lald (h := shC) (i := ((L 1) * (7 : Int32)) + ((L 2) >>> ((6 : Int32) &&& 31))) hx hb hK hP 51 rfl (okI_in hv1) d_Macros_isHidden_13 ?_
      refine lv_iload_n hx hb d_Macros_isHidden_14 rfl (lv_at hl 2 rfl) ?_
      show W _ _ _ _ _ _ _ _ _ _ _ _ _ _ _ (F0 _ 15 _ _)
      refine lv_bipush (v := 63) hx hb d_Macros_isHidden_15 (by decide) ?_
      refine lv_iand hx hb d_Macros_isHidden_17 ?_
      refine lv_lushr (v := ((S.2.2 51 (((L 1) * (7 : Int32)) + ((L 2) >>> ((6 : Int32) &&& 31)) : Int32).toNatClampNeg).toUInt64 >>> (((L 2) &&& (63 : Int32) : Int32).toInt64.toUInt64 &&& Int64.toUInt64 63)).toInt64) hx hb d_Macros_isHidden_18 rfl ?_
      refine lv_lconst (v := 1) hx hb d_Macros_isHidden_19 (by decide) ?_
      refine lv_land hx hb d_Macros_isHidden_20 ?_
      refine lv_lconst (v := 0) hx hb d_Macros_isHidden_21 (by decide) ?_
      refine W.lcmp hx hb d_Macros_isHidden_22 ?_
      refine lv_if_eq (tgt := 30) hx hb d_Macros_isHidden_23 (by decide) (fun hc2 => ?_) (fun hc2 => ?_)
      · rw [if_pos hc2] at h
        refine lv_iconst (v := 0) hx hb d_Macros_isHidden_30 (by decide) ?_
        exact (ih.2) S (upd L 100 (0 : Int32)) M ls H locs h (lv_sub hl [0, 1, 2] rfl) hP hD hS
      · rw [if_neg hc2] at h
        refine lv_iconst (v := 1) hx hb d_Macros_isHidden_26 (by decide) ?_
        refine lv_goto (tgt := 31) hx hb d_Macros_isHidden_27 (by decide) ?_
        exact (ih.2) S (upd L 100 (1 : Int32)) M ls H locs h (lv_sub hl [0, 1, 2] rfl) hP hD hS
    · intro S L M ls H locs h hl hP hD hS
      simp only [f_Macros_isHidden] at h
      obtain ⟨hv1, h⟩ := chk h
      cases h
      exact kx_31 ls H locs (bz_n hv1) hP hD hS
abbrev rm_t_Macros_isHidden : Room := { frames := 0, cells := 0, slots := 0, locals := 0 }
theorem t_Macros_isHidden (l : Launch) (g : gG) (sz : Nat) (ad : Nat → Nat) (S : sS) (v1 : Int32) (v2 : Int32) (k : Nat) (r : Int32) (S9 : sS) (h : f_Macros_isHidden k 0 S (upd (upd (fun _ => 0) 1 v1) 2 v2) (fun _ => 0) = some (r, S9)) : Cz l y_Macros_isHidden b_Macros_isHidden 3 rm_t_Macros_isHidden g [.ref (ad 10), .int v1, .int v2] (Sw shC g ad S) sz (fun r1 w => ∃ S1 : sS, w = Sw shC g ad S1 ∧ r1 = r ∧ S1 = S9) := by
  refine startZ (by decide) (Nat.le_of_ble_eq_true rfl) ?_
  intro p e s m below meth c A ls hx hb hr hml hlocks hmn hown htt hN hA hP hK hD hS hl
  exact (w_Macros_isHidden hx hb hml hown htt hK hN hA r S9 (fun ls H locs hz hP hD hS => fin_z (g := g) (ws := Sw shC g ad S9) hx hb hr hlocks hz (by decide +kernel) (by decide +kernel) hP hD hS ⟨_, rfl, rfl, rfl⟩ d_Macros_isHidden_31) k).1 S (upd (upd (fun _ => 0) 1 v1) 2 v2) (fun _ => 0) ls _ _ h hl hP hD hS
def f_Macros_keepCommon : Nat → Nat → sS → (Nat → Int32) → (Nat → Int64) → Option (Int32 × sS)
  | 0, _, _, _, _ => none
  | k + 1, 0, S, L, M => f_Macros_keepCommon k 1 S (upd L 4 (0 : Int32)) M
  | k + 1, 1, S, L, M => if (7 : Int32) ≤ (L 4) then (if okI ((L 3) >>> ((6 : Int32) &&& 31)) 7 = true then (if okI ((L 3) >>> ((6 : Int32) &&& 31)) 7 = true then (some ((0 : Int32), (putL S 54 ((L 3) >>> ((6 : Int32) &&& 31) : Int32).toNatClampNeg ((S.2.2 54 ((L 3) >>> ((6 : Int32) &&& 31) : Int32).toNatClampNeg) ||| (1 <<< (((L 3) &&& (63 : Int32) : Int32).toInt64 &&& 63)))))) else none) else none) else (if okI (((L 1) * (7 : Int32)) + (L 4)) 7007 = true then (if okI (((L 2) * (7 : Int32)) + (L 4)) 7007 = true then (if okI (L 4) 7 = true then (f_Macros_keepCommon k 1 (putL S 54 (L 4 : Int32).toNatClampNeg ((S.2.2 51 (((L 1) * (7 : Int32)) + (L 4) : Int32).toNatClampNeg) &&& (S.2.2 51 (((L 2) * (7 : Int32)) + (L 4) : Int32).toNatClampNeg))) (upd L 4 ((L 4) + 1)) M) else none) else none) else none)
  | _ + 1, _ + 2, _, _, _ => none
set_option maxHeartbeats 8000000 in
set_option maxRecDepth 100000 in
theorem w_Macros_keepCommon {p : Program} {l : Launch} {e : Env} {R : Room} {s : State} {m : MethodId} {args : Array Value} {below : List Frame} {meth : Method} {c : Code} {cells slots : Nat} {Q : State → Prop} {g : gG} {A : Nat → Prop} {ad : Nat → Nat} (hx : p.tables.exec = Jvm.exec) (hb : c.code = b_Macros_keepCommon) (hml : c.maxLocals = 5) (hown : s.vm.findClass "MacroMill$Macros" = some m.cls) (htt : ∀ w ∈ gt, w.before args s = true) (hK : va_K g.1 classes (tysG g) s) (hN : nw s) (hA : ∀ q : Nat, s.heap.size ≤ q → A q) (r : Int32) (S9 : sS)
    (kx_66 : ∀ (ls : Array Slot) (H : Heap) (locs : List Loc), va_P g.1 classes (Sw shC g ad S9) H → va_D A (Sw shC g ad S9) → va_S A s.heap H locs → W p l e R s m args below meth c H locs cells slots Q (F0 m 66 ls [])) :
    ∀ k9 : Nat, (∀ (S : sS) (L : Nat → Int32) (M : Nat → Int64) (ls : Array Slot) (H : Heap) (locs : List Loc), f_Macros_keepCommon k9 0 S L M = some (r, S9) → lv_has ls 5 [(0, .ref (ad 10)), (1, .int (L 1)), (2, .int (L 2)), (3, .int (L 3))] → va_P g.1 classes (Sw shC g ad S) H → va_D A (Sw shC g ad S) → va_S A s.heap H locs → W p l e R s m args below meth c H locs cells slots Q (F0 m 0 ls [])) ∧ (∀ (S : sS) (L : Nat → Int32) (M : Nat → Int64) (ls : Array Slot) (H : Heap) (locs : List Loc), f_Macros_keepCommon k9 1 S L M = some (r, S9) → lv_has ls 5 [(0, .ref (ad 10)), (1, .int (L 1)), (2, .int (L 2)), (3, .int (L 3)), (4, .int (L 4))] → va_P g.1 classes (Sw shC g ad S) H → va_D A (Sw shC g ad S) → va_S A s.heap H locs → W p l e R s m args below meth c H locs cells slots Q (F0 m 3 ls [])) := by
  intro k9
  induction k9 with
  | zero => exact ⟨(fun _ _ _ _ _ _ h => by simp [f_Macros_keepCommon] at h), (fun _ _ _ _ _ _ h => by simp [f_Macros_keepCommon] at h)⟩
  | succ k9 ih =>
    refine ⟨?_, ?_⟩
    · intro S L M ls H locs h hl hP hD hS
      simp only [f_Macros_keepCommon] at h
      refine lv_iconst (v := 0) hx hb d_Macros_keepCommon_0 (by decide) ?_
      refine lv_istore (lv' := [(4, .int 0), (0, .ref (ad 10)), (1, .int (L 1)), (2, .int (L 2)), (3, .int (L 3))]) hx hb d_Macros_keepCommon_1 hl (by decide) rfl (fun ls hl => ?_)
      exact (ih.2) S (upd L 4 (0 : Int32)) M ls H locs h (lv_sub hl [1, 2, 3, 4, 0] rfl) hP hD hS
    · intro S L M ls H locs h hl hP hD hS
      simp only [f_Macros_keepCommon] at h
      refine lv_iload hx hb d_Macros_keepCommon_3 (lv_at hl 4 rfl) ?_
      refine lv_bipush (v := 7) hx hb d_Macros_keepCommon_5 (by decide) ?_
      refine lv_icmp_ge (tgt := 48) hx hb d_Macros_keepCommon_7 (by decide) (fun hc1 => ?_) (fun hc1 => ?_)
      · rw [if_pos hc1] at h
        refine lv_aload_n hx hb d_Macros_keepCommon_48 rfl (lv_at hl 0 rfl) ?_
        refine S_getR (h := shC) (C := "MacroMill$Macros") (T := F_Macros) hx hb htt in_Macros hown hK hP 10 17 rfl 67 rfl rfl (by decide) (htt _ k_712) (fun _ h9 => h9) d_Macros_keepCommon_49 ?_
        refine lv_iload_n hx hb d_Macros_keepCommon_52 rfl (lv_at hl 3 rfl) ?_
        refine lv_bipush (v := 6) hx hb d_Macros_keepCommon_53 (by decide) ?_
        refine lv_ishr hx hb d_Macros_keepCommon_55 ?_
        refine lv_dup2_11 hx hb d_Macros_keepCommon_56 rfl rfl ?_
        obtain ⟨hv2, h⟩ := chk h
        refine S_lald (h := shC) (i := (L 3) >>> ((6 : Int32) &&& 31)) hx hb hK hP 54 rfl (okI_in hv2) d_Macros_keepCommon_57 ?_
        refine lv_lconst (v := 1) hx hb d_Macros_keepCommon_58 (by decide) ?_
        refine lv_iload_n hx hb d_Macros_keepCommon_59 rfl (lv_at hl 3 rfl) ?_
        show W _ _ _ _ _ _ _ _ _ _ _ _ _ _ _ (F0 _ 60 _ _)
        refine lv_bipush (v := 63) hx hb d_Macros_keepCommon_60 (by decide) ?_
        refine lv_iand hx hb d_Macros_keepCommon_62 ?_
        refine lv_lshl (v := 1 <<< (((L 3) &&& (63 : Int32) : Int32).toInt64 &&& 63)) hx hb d_Macros_keepCommon_63 rfl ?_
        refine lv_lor hx hb d_Macros_keepCommon_64 ?_
        obtain ⟨hv3, h⟩ := chk h
        refine S_last (h := shC) (i := (L 3) >>> ((6 : Int32) &&& 31)) (v := (S.2.2 54 ((L 3) >>> ((6 : Int32) &&& 31) : Int32).toNatClampNeg) ||| (1 <<< (((L 3) &&& (63 : Int32) : Int32).toInt64 &&& 63))) hx hb hK hP hD hS 54 rfl (okI_in hv3) d_Macros_keepCommon_65 (fun H locs hP hD hS => ?_)
        cases h
        exact kx_66 ls H locs hP hD hS
      · rw [if_neg hc1] at h
        refine lv_aload_n hx hb d_Macros_keepCommon_10 rfl (lv_at hl 0 rfl) ?_
        refine S_getR (h := shC) (C := "MacroMill$Macros") (T := F_Macros) hx hb htt in_Macros hown hK hP 10 17 rfl 67 rfl rfl (by decide) (htt _ k_712) (fun _ h9 => h9) d_Macros_keepCommon_11 ?_
        refine lv_iload hx hb d_Macros_keepCommon_14 (lv_at hl 4 rfl) ?_
        refine lv_aload_n hx hb d_Macros_keepCommon_16 rfl (lv_at hl 0 rfl) ?_
        refine S_getR (h := shC) (C := "MacroMill$Macros") (T := F_Macros) hx hb htt in_Macros hown hK hP 10 13 rfl 64 rfl rfl (by decide) (htt _ k_708) (fun _ h9 => h9) d_Macros_keepCommon_17 ?_
        refine lv_iload_n hx hb d_Macros_keepCommon_20 rfl (lv_at hl 1 rfl) ?_
        refine lv_bipush (v := 7) hx hb d_Macros_keepCommon_21 (by decide) ?_
        refine lv_imul hx hb d_Macros_keepCommon_23 ?_
        refine lv_iload hx hb d_Macros_keepCommon_24 (lv_at hl 4 rfl) ?_
        show W _ _ _ _ _ _ _ _ _ _ _ _ _ _ _ (F0 _ 26 _ _)
        refine lv_iadd hx hb d_Macros_keepCommon_26 ?_
        obtain ⟨hv4, h⟩ := chk h
        refine S_lald (h := shC) (i := ((L 1) * (7 : Int32)) + (L 4)) hx hb hK hP 51 rfl (okI_in hv4) d_Macros_keepCommon_27 ?_
        refine lv_aload_n hx hb d_Macros_keepCommon_28 rfl (lv_at hl 0 rfl) ?_
        refine S_getR (h := shC) (C := "MacroMill$Macros") (T := F_Macros) hx hb htt in_Macros hown hK hP 10 13 rfl 64 rfl rfl (by decide) (htt _ k_708) (fun _ h9 => h9) d_Macros_keepCommon_29 ?_
        refine lv_iload_n hx hb d_Macros_keepCommon_32 rfl (lv_at hl 2 rfl) ?_
        refine lv_bipush (v := 7) hx hb d_Macros_keepCommon_33 (by decide) ?_
        refine lv_imul hx hb d_Macros_keepCommon_35 ?_
        refine lv_iload hx hb d_Macros_keepCommon_36 (lv_at hl 4 rfl) ?_
        refine lv_iadd hx hb d_Macros_keepCommon_38 ?_
        obtain ⟨hv5, h⟩ := chk h
        refine S_lald (h := shC) (i := ((L 2) * (7 : Int32)) + (L 4)) hx hb hK hP 51 rfl (okI_in hv5) d_Macros_keepCommon_39 ?_
        refine lv_land hx hb d_Macros_keepCommon_40 ?_
        obtain ⟨hv6, h⟩ := chk h
        refine S_last (h := shC) (i := L 4) (v := (S.2.2 51 (((L 1) * (7 : Int32)) + (L 4) : Int32).toNatClampNeg) &&& (S.2.2 51 (((L 2) * (7 : Int32)) + (L 4) : Int32).toNatClampNeg)) hx hb hK hP hD hS 54 rfl (okI_in hv6) d_Macros_keepCommon_41 (fun H locs hP hD hS => ?_)
        show W _ _ _ _ _ _ _ _ _ _ _ _ _ _ _ (F0 _ 42 _ _)
        refine lv_iinc (k := 4) (v := (L 4) + 1) (lv' := [(4, .int ((L 4) + 1)), (0, .ref (ad 10)), (1, .int (L 1)), (2, .int (L 2)), (3, .int (L 3))]) hx hb d_Macros_keepCommon_42 hl rfl rfl (by decide) rfl (fun ls hl => ?_)
        refine lv_goto (tgt := 3) hx hb d_Macros_keepCommon_45 (by decide) ?_
        exact (ih.2) (putL S 54 (L 4 : Int32).toNatClampNeg ((S.2.2 51 (((L 1) * (7 : Int32)) + (L 4) : Int32).toNatClampNeg) &&& (S.2.2 51 (((L 2) * (7 : Int32)) + (L 4) : Int32).toNatClampNeg))) (upd L 4 ((L 4) + 1)) M ls H locs h (lv_sub hl [1, 2, 3, 4, 0] rfl) hP hD hS
abbrev rm_t_Macros_keepCommon : Room := { frames := 0, cells := 0, slots := 0, locals := 0 }
theorem t_Macros_keepCommon (l : Launch) (g : gG) (sz : Nat) (ad : Nat → Nat) (S : sS) (v1 : Int32) (v2 : Int32) (v3 : Int32) (k : Nat) (r : Int32) (S9 : sS) (h : f_Macros_keepCommon k 0 S (upd (upd (upd (fun _ => 0) 1 v1) 2 v2) 3 v3) (fun _ => 0) = some (r, S9)) : Cv l y_Macros_keepCommon b_Macros_keepCommon 5 rm_t_Macros_keepCommon g [.ref (ad 10), .int v1, .int v2, .int v3] (Sw shC g ad S) sz (fun w => ∃ S1 : sS, w = Sw shC g ad S1 ∧ S1 = S9) := by
  refine startV (by decide) (Nat.le_of_ble_eq_true rfl) ?_
  intro p e s m below meth c A ls hx hb hr hml hlocks hmn hown htt hN hA hP hK hD hS hl
  exact (w_Macros_keepCommon hx hb hml hown htt hK hN hA r S9 (fun ls H locs hP hD hS => fin_v (g := g) (ws := Sw shC g ad S9) hx hb hr hlocks (by decide +kernel) (by decide +kernel) hP hD hS ⟨_, rfl, rfl⟩ d_Macros_keepCommon_66) k).1 S (upd (upd (upd (fun _ => 0) 1 v1) 2 v2) 3 v3) (fun _ => 0) ls _ _ h hl hP hD hS
def f_Macros_isWanted : Nat → Nat → sS → (Nat → Int32) → (Nat → Int64) → Option (Int32 × sS)
  | 0, _, _, _, _ => none
  | k + 1, 0, S, L, M => f_Macros_isWanted k 1 S (upd L 2 (0 : Int32)) M
  | k + 1, 1, S, L, M => if (7 : Int32) ≤ (L 2) then (some ((1 : Int32), S)) else (if okI (((L 1) * (7 : Int32)) + (L 2)) 7007 = true then (if okI (L 2) 7 = true then (if (lg_cmp (S.2.2 51 (((L 1) * (7 : Int32)) + (L 2) : Int32).toNatClampNeg) (S.2.2 55 (L 2 : Int32).toNatClampNeg)) = (0 : Int32) then (f_Macros_isWanted k 1 S (upd L 2 ((L 2) + 1)) M) else (some ((0 : Int32), S))) else none) else none)
  | _ + 1, _ + 2, _, _, _ => none
set_option maxHeartbeats 8000000 in
set_option maxRecDepth 100000 in
theorem w_Macros_isWanted {p : Program} {l : Launch} {e : Env} {R : Room} {s : State} {m : MethodId} {args : Array Value} {below : List Frame} {meth : Method} {c : Code} {cells slots : Nat} {Q : State → Prop} {g : gG} {A : Nat → Prop} {ad : Nat → Nat} (hx : p.tables.exec = Jvm.exec) (hb : c.code = b_Macros_isWanted) (hml : c.maxLocals = 3) (hown : s.vm.findClass "MacroMill$Macros" = some m.cls) (htt : ∀ w ∈ gt, w.before args s = true) (hK : va_K g.1 classes (tysG g) s) (hN : nw s) (hA : ∀ q : Nat, s.heap.size ≤ q → A q) (r : Int32) (S9 : sS)
    (kx_30 : ∀ (ls : Array Slot) (H : Heap) (locs : List Loc), narrow .boolean (.int r) = .int r → va_P g.1 classes (Sw shC g ad S9) H → va_D A (Sw shC g ad S9) → va_S A s.heap H locs → W p l e R s m args below meth c H locs cells slots Q (F0 m 30 ls [.int r]))
    (kx_38 : ∀ (ls : Array Slot) (H : Heap) (locs : List Loc), narrow .boolean (.int r) = .int r → va_P g.1 classes (Sw shC g ad S9) H → va_D A (Sw shC g ad S9) → va_S A s.heap H locs → W p l e R s m args below meth c H locs cells slots Q (F0 m 38 ls [.int r])) :
    ∀ k9 : Nat, (∀ (S : sS) (L : Nat → Int32) (M : Nat → Int64) (ls : Array Slot) (H : Heap) (locs : List Loc), f_Macros_isWanted k9 0 S L M = some (r, S9) → lv_has ls 3 [(0, .ref (ad 10)), (1, .int (L 1))] → va_P g.1 classes (Sw shC g ad S) H → va_D A (Sw shC g ad S) → va_S A s.heap H locs → W p l e R s m args below meth c H locs cells slots Q (F0 m 0 ls [])) ∧ (∀ (S : sS) (L : Nat → Int32) (M : Nat → Int64) (ls : Array Slot) (H : Heap) (locs : List Loc), f_Macros_isWanted k9 1 S L M = some (r, S9) → lv_has ls 3 [(0, .ref (ad 10)), (1, .int (L 1)), (2, .int (L 2))] → va_P g.1 classes (Sw shC g ad S) H → va_D A (Sw shC g ad S) → va_S A s.heap H locs → W p l e R s m args below meth c H locs cells slots Q (F0 m 2 ls [])) := by
  intro k9
  induction k9 with
  | zero => exact ⟨(fun _ _ _ _ _ _ h => by simp [f_Macros_isWanted] at h), (fun _ _ _ _ _ _ h => by simp [f_Macros_isWanted] at h)⟩
  | succ k9 ih =>
    refine ⟨?_, ?_⟩
    · intro S L M ls H locs h hl hP hD hS
      simp only [f_Macros_isWanted] at h
      refine lv_iconst (v := 0) hx hb d_Macros_isWanted_0 (by decide) ?_
      refine lv_istore_n (lv' := [(2, .int 0), (0, .ref (ad 10)), (1, .int (L 1))]) hx hb d_Macros_isWanted_1 rfl hl (by decide) rfl (fun ls hl => ?_)
      exact (ih.2) S (upd L 2 (0 : Int32)) M ls H locs h (lv_sub hl [1, 2, 0] rfl) hP hD hS
    · intro S L M ls H locs h hl hP hD hS
      simp only [f_Macros_isWanted] at h
      refine lv_iload_n hx hb d_Macros_isWanted_2 rfl (lv_at hl 2 rfl) ?_
      refine lv_bipush (v := 7) hx hb d_Macros_isWanted_3 (by decide) ?_
      refine lv_icmp_ge (tgt := 37) hx hb d_Macros_isWanted_5 (by decide) (fun hc1 => ?_) (fun hc1 => ?_)
      · rw [if_pos hc1] at h
        refine lv_iconst (v := 1) hx hb d_Macros_isWanted_37 (by decide) ?_
        cases h
        exact kx_38 ls H locs rfl hP hD hS
      · rw [if_neg hc1] at h
        refine lv_aload_n hx hb d_Macros_isWanted_8 rfl (lv_at hl 0 rfl) ?_
        refine S_getR (h := shC) (C := "MacroMill$Macros") (T := F_Macros) hx hb htt in_Macros hown hK hP 10 13 rfl 64 rfl rfl (by decide) (htt _ k_708) (fun _ h9 => h9) d_Macros_isWanted_9 ?_
        refine lv_iload_n hx hb d_Macros_isWanted_12 rfl (lv_at hl 1 rfl) ?_
        refine lv_bipush (v := 7) hx hb d_Macros_isWanted_13 (by decide) ?_
        refine lv_imul hx hb d_Macros_isWanted_15 ?_
        refine lv_iload_n hx hb d_Macros_isWanted_16 rfl (lv_at hl 2 rfl) ?_
        refine lv_iadd hx hb d_Macros_isWanted_17 ?_
        obtain ⟨hv2, h⟩ := chk h
        refine S_lald (h := shC) (i := ((L 1) * (7 : Int32)) + (L 2)) hx hb hK hP 51 rfl (okI_in hv2) d_Macros_isWanted_18 ?_
        refine lv_aload_n hx hb d_Macros_isWanted_19 rfl (lv_at hl 0 rfl) ?_
        show W _ _ _ _ _ _ _ _ _ _ _ _ _ _ _ (F0 _ 20 _ _)
        refine S_getR (h := shC) (C := "MacroMill$Macros") (T := F_Macros) hx hb htt in_Macros hown hK hP 10 18 rfl 68 rfl rfl (by decide) (htt _ k_713) (fun _ h9 => h9) d_Macros_isWanted_20 ?_
        refine lv_iload_n hx hb d_Macros_isWanted_23 rfl (lv_at hl 2 rfl) ?_
        obtain ⟨hv3, h⟩ := chk h
        refine S_lald (h := shC) (i := L 2) hx hb hK hP 55 rfl (okI_in hv3) d_Macros_isWanted_24 ?_
        refine W.lcmp hx hb d_Macros_isWanted_25 ?_
        refine lv_if_eq (tgt := 31) hx hb d_Macros_isWanted_26 (by decide) (fun hc4 => ?_) (fun hc4 => ?_)
        · rw [if_pos hc4] at h
          refine lv_iinc (k := 2) (v := (L 2) + 1) (lv' := [(2, .int ((L 2) + 1)), (0, .ref (ad 10)), (1, .int (L 1))]) hx hb d_Macros_isWanted_31 hl rfl rfl (by decide) rfl (fun ls hl => ?_)
          refine lv_goto (tgt := 2) hx hb d_Macros_isWanted_34 (by decide) ?_
          exact (ih.2) S (upd L 2 ((L 2) + 1)) M ls H locs h (lv_sub hl [1, 2, 0] rfl) hP hD hS
        · rw [if_neg hc4] at h
          refine lv_iconst (v := 0) hx hb d_Macros_isWanted_29 (by decide) ?_
          cases h
          exact kx_30 ls H locs rfl hP hD hS
abbrev rm_t_Macros_isWanted : Room := { frames := 0, cells := 0, slots := 0, locals := 0 }
theorem t_Macros_isWanted (l : Launch) (g : gG) (sz : Nat) (ad : Nat → Nat) (S : sS) (v1 : Int32) (k : Nat) (r : Int32) (S9 : sS) (h : f_Macros_isWanted k 0 S (upd (fun _ => 0) 1 v1) (fun _ => 0) = some (r, S9)) : Cz l y_Macros_isWanted b_Macros_isWanted 3 rm_t_Macros_isWanted g [.ref (ad 10), .int v1] (Sw shC g ad S) sz (fun r1 w => ∃ S1 : sS, w = Sw shC g ad S1 ∧ r1 = r ∧ S1 = S9) := by
  refine startZ (by decide) (Nat.le_of_ble_eq_true rfl) ?_
  intro p e s m below meth c A ls hx hb hr hml hlocks hmn hown htt hN hA hP hK hD hS hl
  exact (w_Macros_isWanted hx hb hml hown htt hK hN hA r S9 (fun ls H locs hz hP hD hS => fin_z (g := g) (ws := Sw shC g ad S9) hx hb hr hlocks hz (by decide +kernel) (by decide +kernel) hP hD hS ⟨_, rfl, rfl, rfl⟩ d_Macros_isWanted_30) (fun ls H locs hz hP hD hS => fin_z (g := g) (ws := Sw shC g ad S9) hx hb hr hlocks hz (by decide +kernel) (by decide +kernel) hP hD hS ⟨_, rfl, rfl, rfl⟩ d_Macros_isWanted_38) k).1 S (upd (fun _ => 0) 1 v1) (fun _ => 0) ls _ _ h hl hP hD hS
def f_Lines_lay (x2 : Nat) (nx2 : Nat) : Nat → Nat → sS → (Nat → Int32) → (Nat → Int64) → Option (Int32 × sS)
  | 0, _, _, _, _ => none
  | k + 1, 0, S, L, M => if okI (L 1) 32 = true then ((f_Tokens_layText x2 nx2 k 0 (putA S 56 (L 1 : Int32).toNatClampNeg (S.1 9 4)) (upd (upd (fun _ => 0) 2 (L 3 : Int32)) 3 (L 4 : Int32)) (fun _ => 0)).bind (fun (r2, T2) => if okI (L 1) 32 = true then (if okI (L 1) 32 = true then (some ((0 : Int32), (putA (putA T2 57 (L 1 : Int32).toNatClampNeg (T2.1 9 4)) 58 (L 1 : Int32).toNatClampNeg (L 4)))) else none) else none)) else none
  | _ + 1, _ + 1, _, _, _ => none
set_option maxHeartbeats 8000000 in
set_option maxRecDepth 100000 in
theorem w_Lines_lay {p : Program} {l : Launch} {e : Env} {R : Room} {s : State} {m : MethodId} {args : Array Value} {below : List Frame} {meth : Method} {c : Code} {cells slots : Nat} {Q : State → Prop} {g : gG} {A : Nat → Prop} {ad : Nat → Nat} (hx : p.tables.exec = Jvm.exec) (hb : c.code = b_Lines_lay) (hml : c.maxLocals = 5) (hown : s.vm.findClass "MacroMill$Lines" = some m.cls) (htt : ∀ w ∈ gt, w.before args s = true) (hK : va_K g.1 classes (tysG g) s) (hN : nw s) (hA : ∀ q : Nat, s.heap.size ≤ q → A q) (hRf : 1 ≤ R.frames) (hRl : 26 ≤ R.locals) (hRc : cells ≤ R.cells) (hRs : slots ≤ R.slots) (x2 : Nat) (nx2 : Nat) (hx2 : shC.2[x2]? = some (0, nx2)) (r : Int32) (S9 : sS)
    (kx_45 : ∀ (ls : Array Slot) (H : Heap) (locs : List Loc), va_P g.1 classes (Sw shC g ad S9) H → va_D A (Sw shC g ad S9) → va_S A s.heap H locs → W p l e R s m args below meth c H locs cells slots Q (F0 m 45 ls [])) :
    ∀ k9 : Nat, (∀ (S : sS) (L : Nat → Int32) (M : Nat → Int64) (ls : Array Slot) (H : Heap) (locs : List Loc), f_Lines_lay x2 nx2 k9 0 S L M = some (r, S9) → lv_has ls 5 [(0, .ref (ad 11)), (1, .int (L 1)), (2, .ref (ad (shC.1.length + x2))), (3, .int (L 3)), (4, .int (L 4))] → va_P g.1 classes (Sw shC g ad S) H → va_D A (Sw shC g ad S) → va_S A s.heap H locs → W p l e R s m args below meth c H locs cells slots Q (F0 m 0 ls [])) := by
  intro k9
  induction k9 with
  | zero => exact (fun _ _ _ _ _ _ h => by simp [f_Lines_lay] at h)
  | succ k9 ih =>
    · intro S L M ls H locs h hl hP hD hS
      simp only [f_Lines_lay] at h
      refine lv_aload_n hx hb d_Lines_lay_0 rfl (lv_at hl 0 rfl) ?_
      refine S_getR (h := shC) (C := "MacroMill$Lines") (T := F_Lines) hx hb htt in_Lines hown hK hP 11 3 rfl 69 rfl rfl (by decide) (htt _ k_762) (fun _ h9 => h9) d_Lines_lay_1 ?_
      refine lv_iload_n hx hb d_Lines_lay_4 rfl (lv_at hl 1 rfl) ?_
      refine lv_aload_n hx hb d_Lines_lay_5 rfl (lv_at hl 0 rfl) ?_
      refine S_getR (h := shC) (C := "MacroMill$Lines") (T := F_Lines) hx hb htt in_Lines hown hK hP 11 1 rfl 9 rfl rfl (by decide) (htt _ k_760) (fun _ h9 => h9) d_Lines_lay_6 ?_
      refine S_getI (h := shC) (C := "MacroMill$Tokens") (T := F_Tokens) hx hb htt in_Tokens hown hK hP 9 4 rfl rfl rfl (by decide) (htt _ k_644) (fun _ h9 => h9) d_Lines_lay_9 ?_
      obtain ⟨hv1, h⟩ := chk h
      refine S_iast (h := shC) (i := L 1) (v := S.1 9 4) hx hb hK hP hD hS 56 rfl (okI_in hv1) d_Lines_lay_12 (fun H locs hP hD hS => ?_)
      refine lv_aload_n hx hb d_Lines_lay_13 rfl (lv_at hl 0 rfl) ?_
      refine S_getR (h := shC) (C := "MacroMill$Lines") (T := F_Lines) hx hb htt in_Lines hown hK hP 11 1 rfl 9 rfl rfl (by decide) (htt _ k_760) (fun _ h9 => h9) d_Lines_lay_14 ?_
      refine lv_aload_n hx hb d_Lines_lay_17 rfl (lv_at hl 2 rfl) ?_
      refine lv_iload_n hx hb d_Lines_lay_18 rfl (lv_at hl 3 rfl) ?_
      show W _ _ _ _ _ _ _ _ _ _ _ _ _ _ _ (F0 _ 19 _ _)
      refine lv_iload hx hb d_Lines_lay_19 (lv_at hl 4 rfl) ?_
      obtain ⟨⟨r2, T2⟩, hq2, h⟩ := Option.bind_eq_some_iff.mp h
      try dsimp only at h
      refine go_vS (As := [.ref (ad 9), .ref (ad (shC.1.length + x2)), .int (L 3), .int (L 4)]) (g := g) (A := A) (h := shC) hP hK hD hS hA hN (fun hp => va_runV (As := [.ref (ad (shC.1.length + x2)), .int (L 3), .int (L 4)]) (rest := []) ⟨hx, hb, hml, hown, htt⟩ (t_Tokens_layText l g _ ad (putA S 56 (L 1 : Int32).toNatClampNeg (S.1 9 4)) x2 nx2 (L 3 : Int32) (L 4 : Int32) hx2 k9 r2 T2 hq2) ⟨(cb_L htt k_1566 k_271 k_1563 hd_Tokens_layText ⟨(Nat.le_trans (by decide +kernel) hRf), (Nat.le_trans (by decide +kernel) hRl)⟩), htt _ k_1564, htt _ k_1565⟩ ⟨hp.1, S_recv hK hP 9 rfl rfl, hp.2⟩ rfl rfl hl.1 rfl (lv_room (Nat.le_of_ble_eq_true rfl)) d_Lines_lay_21 ⟨hRc, hRs⟩) (fun Sn H locs hw9 hP hD hS => ?_)
      have e8 := hw9
      rw [e8] at hP hD
      refine W.widen (k := cells) (n := slots) (Nat.le_refl _) (Nat.le_refl _) ?_
      refine lv_aload_n hx hb d_Lines_lay_24 rfl (lv_at hl 0 rfl) ?_
      refine S_getR (h := shC) (C := "MacroMill$Lines") (T := F_Lines) hx hb htt in_Lines hown hK hP 11 4 rfl 70 rfl rfl (by decide) (htt _ k_763) (fun _ h9 => h9) d_Lines_lay_25 ?_
      refine lv_iload_n hx hb d_Lines_lay_28 rfl (lv_at hl 1 rfl) ?_
      refine lv_aload_n hx hb d_Lines_lay_29 rfl (lv_at hl 0 rfl) ?_
      refine S_getR (h := shC) (C := "MacroMill$Lines") (T := F_Lines) hx hb htt in_Lines hown hK hP 11 1 rfl 9 rfl rfl (by decide) (htt _ k_760) (fun _ h9 => h9) d_Lines_lay_30 ?_
      refine S_getI (h := shC) (C := "MacroMill$Tokens") (T := F_Tokens) hx hb htt in_Tokens hown hK hP 9 4 rfl rfl rfl (by decide) (htt _ k_644) (fun _ h9 => h9) d_Lines_lay_33 ?_
      obtain ⟨hv3, h⟩ := chk h
      refine S_iast (h := shC) (i := L 1) (v := T2.1 9 4) hx hb hK hP hD hS 57 rfl (okI_in hv3) d_Lines_lay_36 (fun H locs hP hD hS => ?_)
      refine lv_aload_n hx hb d_Lines_lay_37 rfl (lv_at hl 0 rfl) ?_
      refine S_getR (h := shC) (C := "MacroMill$Lines") (T := F_Lines) hx hb htt in_Lines hown hK hP 11 5 rfl 71 rfl rfl (by decide) (htt _ k_764) (fun _ h9 => h9) d_Lines_lay_38 ?_
      refine lv_iload_n hx hb d_Lines_lay_41 rfl (lv_at hl 1 rfl) ?_
      refine lv_iload hx hb d_Lines_lay_42 (lv_at hl 4 rfl) ?_
      obtain ⟨hv4, h⟩ := chk h
      show W _ _ _ _ _ _ _ _ _ _ _ _ _ _ _ (F0 _ 44 _ _)
      refine S_iast (h := shC) (i := L 1) (v := L 4) hx hb hK hP hD hS 58 rfl (okI_in hv4) d_Lines_lay_44 (fun H locs hP hD hS => ?_)
      cases h
      exact kx_45 ls H locs hP hD hS
abbrev rm_t_Lines_lay : Room := { frames := 1, cells := 0, slots := 0, locals := 26 }
theorem t_Lines_lay (l : Launch) (g : gG) (sz : Nat) (ad : Nat → Nat) (S : sS) (x2 : Nat) (nx2 : Nat) (v1 : Int32) (v3 : Int32) (v4 : Int32) (hx2 : shC.2[x2]? = some (0, nx2)) (k : Nat) (r : Int32) (S9 : sS) (h : f_Lines_lay x2 nx2 k 0 S (upd (upd (upd (fun _ => 0) 1 v1) 3 v3) 4 v4) (fun _ => 0) = some (r, S9)) : Cv l y_Lines_lay b_Lines_lay 5 rm_t_Lines_lay g [.ref (ad 11), .int v1, .ref (ad (shC.1.length + x2)), .int v3, .int v4] (Sw shC g ad S) sz (fun w => ∃ S1 : sS, w = Sw shC g ad S1 ∧ S1 = S9) := by
  refine startV (by decide) (Nat.le_of_ble_eq_true rfl) ?_
  intro p e s m below meth c A ls hx hb hr hml hlocks hmn hown htt hN hA hP hK hD hS hl
  exact (w_Lines_lay hx hb hml hown htt hK hN hA (by decide +kernel) (by decide +kernel) (by decide +kernel) (by decide +kernel) x2 nx2 hx2 r S9 (fun ls H locs hP hD hS => fin_v (g := g) (ws := Sw shC g ad S9) hx hb hr hlocks (by decide +kernel) (by decide +kernel) hP hD hS ⟨_, rfl, rfl⟩ d_Lines_lay_45) k) S (upd (upd (upd (fun _ => 0) 1 v1) 3 v3) 4 v4) (fun _ => 0) ls _ _ h hl hP hD hS
def f_Lines_endFile : Nat → Nat → sS → (Nat → Int32) → (Nat → Int64) → Option (Int32 × sS)
  | 0, _, _, _, _ => none
  | k + 1, 0, S, L, M => if (S.1 11 11) ≤ (0 : Int32) then (f_Lines_endFile k 1 S L M) else (f_Lines_endFile k 1 (putI S 11 11 ((S.1 11 11) - (1 : Int32))) L M)
  | k + 1, 1, S, L, M => if (S.1 11 11) ≤ (0 : Int32) then (f_Lines_endFile k 2 S L M) else (if okI ((S.1 11 11) - (1 : Int32)) 21 = true then (f_Lines_endFile k 2 (putI S 2 5 (S.2.1 59 ((S.1 11 11) - (1 : Int32) : Int32).toNatClampNeg)) L M) else none)
  | k + 1, 2, S, L, M => some ((0 : Int32), S)
  | _ + 1, _ + 3, _, _, _ => none
set_option maxHeartbeats 8000000 in
set_option maxRecDepth 100000 in
theorem w_Lines_endFile {p : Program} {l : Launch} {e : Env} {R : Room} {s : State} {m : MethodId} {args : Array Value} {below : List Frame} {meth : Method} {c : Code} {cells slots : Nat} {Q : State → Prop} {g : gG} {A : Nat → Prop} {ad : Nat → Nat} (hx : p.tables.exec = Jvm.exec) (hb : c.code = b_Lines_endFile) (hml : c.maxLocals = 1) (hown : s.vm.findClass "MacroMill$Lines" = some m.cls) (htt : ∀ w ∈ gt, w.before args s = true) (hK : va_K g.1 classes (tysG g) s) (hN : nw s) (hA : ∀ q : Nat, s.heap.size ≤ q → A q) (r : Int32) (S9 : sS)
    (kx_42 : ∀ (ls : Array Slot) (H : Heap) (locs : List Loc), va_P g.1 classes (Sw shC g ad S9) H → va_D A (Sw shC g ad S9) → va_S A s.heap H locs → W p l e R s m args below meth c H locs cells slots Q (F0 m 42 ls [])) :
    ∀ k9 : Nat, (∀ (S : sS) (L : Nat → Int32) (M : Nat → Int64) (ls : Array Slot) (H : Heap) (locs : List Loc), f_Lines_endFile k9 0 S L M = some (r, S9) → lv_has ls 1 [(0, .ref (ad 11))] → va_P g.1 classes (Sw shC g ad S) H → va_D A (Sw shC g ad S) → va_S A s.heap H locs → W p l e R s m args below meth c H locs cells slots Q (F0 m 0 ls [])) ∧ (∀ (S : sS) (L : Nat → Int32) (M : Nat → Int64) (ls : Array Slot) (H : Heap) (locs : List Loc), f_Lines_endFile k9 1 S L M = some (r, S9) → lv_has ls 1 [(0, .ref (ad 11))] → va_P g.1 classes (Sw shC g ad S) H → va_D A (Sw shC g ad S) → va_S A s.heap H locs → W p l e R s m args below meth c H locs cells slots Q (F0 m 17 ls [])) ∧ (∀ (S : sS) (L : Nat → Int32) (M : Nat → Int64) (ls : Array Slot) (H : Heap) (locs : List Loc), f_Lines_endFile k9 2 S L M = some (r, S9) → lv_has ls 1 [(0, .ref (ad 11))] → va_P g.1 classes (Sw shC g ad S) H → va_D A (Sw shC g ad S) → va_S A s.heap H locs → W p l e R s m args below meth c H locs cells slots Q (F0 m 42 ls [])) := by
  intro k9
  induction k9 with
  | zero => exact ⟨(fun _ _ _ _ _ _ h => by simp [f_Lines_endFile] at h), (fun _ _ _ _ _ _ h => by simp [f_Lines_endFile] at h), (fun _ _ _ _ _ _ h => by simp [f_Lines_endFile] at h)⟩
  | succ k9 ih =>
    refine ⟨?_, ?_, ?_⟩
    · intro S L M ls H locs h hl hP hD hS
      simp only [f_Lines_endFile] at h
      refine lv_aload_n hx hb d_Lines_endFile_0 rfl (lv_at hl 0 rfl) ?_
      refine S_getI (h := shC) (C := "MacroMill$Lines") (T := F_Lines) hx hb htt in_Lines hown hK hP 11 11 rfl rfl rfl (by decide) (htt _ k_770) (fun _ h9 => h9) d_Lines_endFile_1 ?_
      refine lv_if_le (tgt := 17) hx hb d_Lines_endFile_4 (by decide) (fun hc1 => ?_) (fun hc1 => ?_)
      · rw [if_pos hc1] at h
        exact (ih.2.1) S L M ls H locs h (lv_sub hl [0] rfl) hP hD hS
      · rw [if_neg hc1] at h
        refine lv_aload_n hx hb d_Lines_endFile_7 rfl (lv_at hl 0 rfl) ?_
        refine lv_dup hx hb d_Lines_endFile_8 rfl ?_
        refine S_getI (h := shC) (C := "MacroMill$Lines") (T := F_Lines) hx hb htt in_Lines hown hK hP 11 11 rfl rfl rfl (by decide) (htt _ k_770) (fun _ h9 => h9) d_Lines_endFile_9 ?_
        refine lv_iconst (v := 1) hx hb d_Lines_endFile_12 (by decide) ?_
        refine lv_isub hx hb d_Lines_endFile_13 ?_
        refine S_put (h := shC) (C := "MacroMill$Lines") (T := F_Lines) (v := (S.1 11 11) - (1 : Int32)) hx hb htt in_Lines t_Lines t_Lines_ok n_Lines hown hK hP hD hS 11 11 rfl rfl rfl (by decide) (htt _ k_770) (fun _ h9 => h9) rfl rfl rfl d_Lines_endFile_14 (fun H locs hP hD hS => ?_)
        exact (ih.2.1) (putI S 11 11 ((S.1 11 11) - (1 : Int32))) L M ls H locs h (lv_sub hl [0] rfl) hP hD hS
    · intro S L M ls H locs h hl hP hD hS
      simp only [f_Lines_endFile] at h
      refine lv_aload_n hx hb d_Lines_endFile_17 rfl (lv_at hl 0 rfl) ?_
      refine S_getI (h := shC) (C := "MacroMill$Lines") (T := F_Lines) hx hb htt in_Lines hown hK hP 11 11 rfl rfl rfl (by decide) (htt _ k_770) (fun _ h9 => h9) d_Lines_endFile_18 ?_
      refine lv_if_le (tgt := 42) hx hb d_Lines_endFile_21 (by decide) (fun hc1 => ?_) (fun hc1 => ?_)
      · rw [if_pos hc1] at h
        exact (ih.2.2) S L M ls H locs h (lv_sub hl [0] rfl) hP hD hS
      · rw [if_neg hc1] at h
        refine lv_aload_n hx hb d_Lines_endFile_24 rfl (lv_at hl 0 rfl) ?_
        refine S_getR (h := shC) (C := "MacroMill$Lines") (T := F_Lines) hx hb htt in_Lines hown hK hP 11 2 rfl 2 rfl rfl (by decide) (htt _ k_761) (fun _ h9 => h9) d_Lines_endFile_25 ?_
        refine lv_aload_n hx hb d_Lines_endFile_28 rfl (lv_at hl 0 rfl) ?_
        refine S_getR (h := shC) (C := "MacroMill$Lines") (T := F_Lines) hx hb htt in_Lines hown hK hP 11 6 rfl 72 rfl rfl (by decide) (htt _ k_765) (fun _ h9 => h9) d_Lines_endFile_29 ?_
        refine lv_aload_n hx hb d_Lines_endFile_32 rfl (lv_at hl 0 rfl) ?_
        refine S_getI (h := shC) (C := "MacroMill$Lines") (T := F_Lines) hx hb htt in_Lines hown hK hP 11 11 rfl rfl rfl (by decide) (htt _ k_770) (fun _ h9 => h9) d_Lines_endFile_33 ?_
        refine lv_iconst (v := 1) hx hb d_Lines_endFile_36 (by decide) ?_
        refine lv_isub hx hb d_Lines_endFile_37 ?_
        obtain ⟨hv2, h⟩ := chk h
        refine S_iald (h := shC) (i := (S.1 11 11) - (1 : Int32)) hx hb hK hP 59 rfl (okI_in hv2) d_Lines_endFile_38 ?_
        show W _ _ _ _ _ _ _ _ _ _ _ _ _ _ _ (F0 _ 39 _ _)
        refine S_put (h := shC) (C := "MacroMill$Outcome") (T := F_Outcome) (v := S.2.1 59 ((S.1 11 11) - (1 : Int32) : Int32).toNatClampNeg) hx hb htt in_Outcome t_Outcome t_Outcome_ok n_Outcome hown hK hP hD hS 2 5 rfl rfl rfl (by decide) (htt _ k_350) (fun _ h9 => h9) rfl rfl rfl d_Lines_endFile_39 (fun H locs hP hD hS => ?_)
        exact (ih.2.2) (putI S 2 5 (S.2.1 59 ((S.1 11 11) - (1 : Int32) : Int32).toNatClampNeg)) L M ls H locs h (lv_sub hl [0] rfl) hP hD hS
    · intro S L M ls H locs h hl hP hD hS
      simp only [f_Lines_endFile] at h
      cases h
      exact kx_42 ls H locs hP hD hS
abbrev rm_t_Lines_endFile : Room := { frames := 0, cells := 0, slots := 0, locals := 0 }
theorem t_Lines_endFile (l : Launch) (g : gG) (sz : Nat) (ad : Nat → Nat) (S : sS) (k : Nat) (r : Int32) (S9 : sS) (h : f_Lines_endFile k 0 S (fun _ => 0) (fun _ => 0) = some (r, S9)) : Cv l y_Lines_endFile b_Lines_endFile 1 rm_t_Lines_endFile g [.ref (ad 11)] (Sw shC g ad S) sz (fun w => ∃ S1 : sS, w = Sw shC g ad S1 ∧ S1 = S9) := by
  refine startV (by decide) (Nat.le_of_ble_eq_true rfl) ?_
  intro p e s m below meth c A ls hx hb hr hml hlocks hmn hown htt hN hA hP hK hD hS hl
  exact (w_Lines_endFile hx hb hml hown htt hK hN hA r S9 (fun ls H locs hP hD hS => fin_v (g := g) (ws := Sw shC g ad S9) hx hb hr hlocks (by decide +kernel) (by decide +kernel) hP hD hS ⟨_, rfl, rfl⟩ d_Lines_endFile_42) k).1 S (fun _ => 0) (fun _ => 0) ls _ _ h hl hP hD hS
