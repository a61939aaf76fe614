def f_MM_end : Nat → Nat → sS → (Nat → Int32) → (Nat → Int64) → Option (Int32 × sS)
  | 0, _, _, _, _ => none
  | k + 1, 0, S, L, M => if (L 1) < (0 : Int32) then (f_MM_end k 1 S L M) else (if (20 : Int32) < (L 1) then (f_MM_end k 1 S L M) else (if (S.1 0 2) = (0 : Int32) then (f_MM_end k 1 S L M) else (some ((S.1 0 1) - ((20 : Int32) - (L 1)), (putI (putI S 0 1 ((S.1 0 1) - ((20 : Int32) - (L 1)))) 0 2 0)))))
  | k + 1, 1, S, L, M => some (((-1) : Int32), S)
  | _ + 1, _ + 2, _, _, _ => none
set_option maxHeartbeats 8000000 in
set_option maxRecDepth 100000 in
theorem w_MM_end {p : Program} {l : Launch} {e : Env} {R : Room} {s : State} {m : MethodId} {args : Array Value} {below : List Frame} {meth : Method} {c : Code} {cells slots : Nat} {Q : State → Prop} {g : gG} {A : Nat → Prop} {ad : Nat → Nat} (hx : p.tables.exec = Jvm.exec) (hb : c.code = b_MM_end) (hml : c.maxLocals = 2) (hown : s.vm.findClass "MacroMill" = some m.cls) (htt : ∀ w ∈ gt, w.before args s = true) (hK : va_K g.1 classes (tysG g) s) (hN : nw s) (hA : ∀ q : Nat, s.heap.size ≤ q → A q) (r : Int32) (S9 : sS)
    (kx_18 : ∀ (ls : Array Slot) (H : Heap) (locs : List Loc), va_P g.1 classes (Sw shC g ad S9) H → va_D A (Sw shC g ad S9) → va_S A s.heap H locs → W p l e R s m args below meth c H locs cells slots Q (F0 m 18 ls [.int r]))
    (kx_41 : ∀ (ls : Array Slot) (H : Heap) (locs : List Loc), va_P g.1 classes (Sw shC g ad S9) H → va_D A (Sw shC g ad S9) → va_S A s.heap H locs → W p l e R s m args below meth c H locs cells slots Q (F0 m 41 ls [.int r])) :
    ∀ k9 : Nat, (∀ (S : sS) (L : Nat → Int32) (M : Nat → Int64) (ls : Array Slot) (H : Heap) (locs : List Loc), f_MM_end k9 0 S L M = some (r, S9) → lv_has ls 2 [(0, .ref (ad 0)), (1, .int (L 1))] → va_P g.1 classes (Sw shC g ad S) H → va_D A (Sw shC g ad S) → va_S A s.heap H locs → W p l e R s m args below meth c H locs cells slots Q (F0 m 0 ls [])) ∧ (∀ (S : sS) (L : Nat → Int32) (M : Nat → Int64) (ls : Array Slot) (H : Heap) (locs : List Loc), f_MM_end k9 1 S L M = some (r, S9) → lv_has ls 2 [(0, .ref (ad 0)), (1, .int (L 1))] → va_P g.1 classes (Sw shC g ad S) H → va_D A (Sw shC g ad S) → va_S A s.heap H locs → W p l e R s m args below meth c H locs cells slots Q (F0 m 17 ls [])) := by
  intro k9
  induction k9 with
  | zero => exact ⟨(fun _ _ _ _ _ _ h => by simp [f_MM_end] at h), (fun _ _ _ _ _ _ h => by simp [f_MM_end] at h)⟩
  | succ k9 ih =>
    refine ⟨?_, ?_⟩
    · intro S L M ls H locs h hl hP hD hS
      simp only [f_MM_end] at h
      refine lv_iload_n hx hb d_MM_end_0 rfl (lv_at hl 1 rfl) ?_
      refine lv_if_lt (tgt := 17) hx hb d_MM_end_1 (by decide) (fun hc1 => ?_) (fun hc1 => ?_)
      · rw [if_pos hc1] at h
        exact (ih.2) S L M ls H locs h (lv_sub hl [0, 1] rfl) hP hD hS
      · rw [if_neg hc1] at h
        refine lv_iload_n hx hb d_MM_end_4 rfl (lv_at hl 1 rfl) ?_
        refine lv_bipush (v := 20) hx hb d_MM_end_5 (by decide) ?_
        refine lv_icmp_gt (tgt := 17) hx hb d_MM_end_7 (by decide) (fun hc2 => ?_) (fun hc2 => ?_)
        · rw [if_pos hc2] at h
          exact (ih.2) S L M ls H locs h (lv_sub hl [0, 1] rfl) hP hD hS
        · rw [if_neg hc2] at h
          refine lv_aload_n hx hb d_MM_end_10 rfl (lv_at hl 0 rfl) ?_
          refine S_getI (h := shC) (C := "MacroMill") (T := F_MM) hx hb htt in_MM hown hK hP 0 2 rfl rfl rfl (by decide) (htt _ k_966) (fun _ h9 => h9) d_MM_end_11 ?_
          refine lv_if_ne (tgt := 19) hx hb d_MM_end_14 (by decide) (fun hc3 => ?_) (fun hc3 => ?_)
          · rw [if_neg hc3] at h
            refine lv_aload_n hx hb d_MM_end_19 rfl (lv_at hl 0 rfl) ?_
            refine lv_dup hx hb d_MM_end_20 rfl ?_
            refine S_getI (h := shC) (C := "MacroMill") (T := F_MM) hx hb htt in_MM hown hK hP 0 1 rfl rfl rfl (by decide) (htt _ k_965) (fun _ h9 => h9) d_MM_end_21 ?_
            refine lv_bipush (v := 20) hx hb d_MM_end_24 (by decide) ?_
            refine lv_iload_n hx hb d_MM_end_26 rfl (lv_at hl 1 rfl) ?_
            refine lv_isub hx hb d_MM_end_27 ?_
            show W _ _ _ _ _ _ _ _ _ _ _ _ _ _ _ (F0 _ 28 _ _)
            refine lv_isub hx hb d_MM_end_28 ?_
            refine S_put (h := shC) (C := "MacroMill") (T := F_MM) (v := (S.1 0 1) - ((20 : Int32) - (L 1))) hx hb htt in_MM t_MM t_MM_ok n_MM hown hK hP hD hS 0 1 rfl rfl rfl (by decide) (htt _ k_965) (fun _ h9 => h9) rfl rfl rfl d_MM_end_29 (fun H locs hP hD hS => ?_)
            refine lv_aload_n hx hb d_MM_end_32 rfl (lv_at hl 0 rfl) ?_
            refine lv_iconst (v := 0) hx hb d_MM_end_33 (by decide) ?_
            refine S_put (h := shC) (C := "MacroMill") (T := F_MM) (v := 0) hx hb htt in_MM t_MM t_MM_ok n_MM hown hK hP hD hS 0 2 rfl rfl rfl (by decide) (htt _ k_966) (fun _ h9 => h9) rfl rfl rfl d_MM_end_34 (fun H locs hP hD hS => ?_)
            refine lv_aload_n hx hb d_MM_end_37 rfl (lv_at hl 0 rfl) ?_
            refine S_getI (h := shC) (C := "MacroMill") (T := F_MM) hx hb htt in_MM hown hK hP 0 1 rfl rfl rfl (by decide) (htt _ k_965) (fun _ h9 => h9) d_MM_end_38 ?_
            refine toI (y := (S.1 0 1) - ((20 : Int32) - (L 1))) rfl ?_
            cases h
            exact kx_41 ls H locs hP hD hS
          · rw [if_pos hc3] at h
            exact (ih.2) S L M ls H locs h (lv_sub hl [0, 1] rfl) hP hD hS
    · intro S L M ls H locs h hl hP hD hS
      simp only [f_MM_end] at h
      refine lv_iconst (v := (-1)) hx hb d_MM_end_17 (by decide) ?_
      cases h
      exact kx_18 ls H locs hP hD hS
abbrev rm_t_MM_end : Room := { frames := 0, cells := 0, slots := 0, locals := 0 }
theorem t_MM_end (l : Launch) (g : gG) (sz : Nat) (ad : Nat → Nat) (S : sS) (v1 : Int32) (k : Nat) (r : Int32) (S9 : sS) (h : f_MM_end k 0 S (upd (fun _ => 0) 1 v1) (fun _ => 0) = some (r, S9)) : Ci l y_MM_end b_MM_end 2 rm_t_MM_end g [.ref (ad 0), .int v1] (Sw shC g ad S) sz (fun r1 w => ∃ S1 : sS, w = Sw shC g ad S1 ∧ r1 = r ∧ S1 = S9) := by
  refine startI (by decide) (Nat.le_of_ble_eq_true rfl) ?_
  intro p e s m below meth c A ls hx hb hr hml hlocks hmn hown htt hN hA hP hK hD hS hl
  exact (w_MM_end hx hb hml hown htt hK hN hA r S9 (fun ls H locs hP hD hS => fin_i (g := g) (ws := Sw shC g ad S9) hx hb hr hlocks (by decide +kernel) (by decide +kernel) hP hD hS ⟨_, rfl, rfl, rfl⟩ d_MM_end_18) (fun ls H locs hP hD hS => fin_i (g := g) (ws := Sw shC g ad S9) hx hb hr hlocks (by decide +kernel) (by decide +kernel) hP hD hS ⟨_, rfl, rfl, rfl⟩ d_MM_end_41) k).1 S (upd (fun _ => 0) 1 v1) (fun _ => 0) ls _ _ h hl hP hD hS
def f_MM_clear : Nat → Nat → sS → (Nat → Int32) → (Nat → Int64) → Option (Int32 × sS)
  | 0, _, _, _, _ => none
  | k + 1, 0, S, L, M => some (S.1 1 4, (putI S 1 4 0))
  | _ + 1, _ + 1, _, _, _ => none
set_option maxHeartbeats 8000000 in
set_option maxRecDepth 100000 in
theorem w_MM_clear {p : Program} {l : Launch} {e : Env} {R : Room} {s : State} {m : MethodId} {args : Array Value} {below : List Frame} {meth : Method} {c : Code} {cells slots : Nat} {Q : State → Prop} {g : gG} {A : Nat → Prop} {ad : Nat → Nat} (hx : p.tables.exec = Jvm.exec) (hb : c.code = b_MM_clear) (hml : c.maxLocals = 2) (hown : s.vm.findClass "MacroMill" = some m.cls) (htt : ∀ w ∈ gt, w.before args s = true) (hK : va_K g.1 classes (tysG g) s) (hN : nw s) (hA : ∀ q : Nat, s.heap.size ≤ q → A q) (r : Int32) (S9 : sS)
    (kx_17 : ∀ (ls : Array Slot) (H : Heap) (locs : List Loc), va_P g.1 classes (Sw shC g ad S9) H → va_D A (Sw shC g ad S9) → va_S A s.heap H locs → W p l e R s m args below meth c H locs cells slots Q (F0 m 17 ls [.int r])) :
    ∀ k9 : Nat, (∀ (S : sS) (L : Nat → Int32) (M : Nat → Int64) (ls : Array Slot) (H : Heap) (locs : List Loc), f_MM_clear k9 0 S L M = some (r, S9) → lv_has ls 2 [(0, .ref (ad 0))] → va_P g.1 classes (Sw shC g ad S) H → va_D A (Sw shC g ad S) → va_S A s.heap H locs → W p l e R s m args below meth c H locs cells slots Q (F0 m 0 ls [])) := by
  intro k9
  induction k9 with
  | zero => exact (fun _ _ _ _ _ _ h => by simp [f_MM_clear] at h)
  | succ k9 ih =>
    · intro S L M ls H locs h hl hP hD hS
      simp only [f_MM_clear] at h
      refine lv_aload_n hx hb d_MM_clear_0 rfl (lv_at hl 0 rfl) ?_
      refine S_getR (h := shC) (C := "MacroMill") (T := F_MM) hx hb htt in_MM hown hK hP 0 3 rfl 1 rfl rfl (by decide) (htt _ k_967) (fun _ h9 => h9) d_MM_clear_1 ?_
      refine S_getI (h := shC) (C := "MacroMill$Files") (T := F_Files) hx hb htt in_Files hown hK hP 1 4 rfl rfl rfl (by decide) (htt _ k_312) (fun _ h9 => h9) d_MM_clear_4 ?_
      refine lv_istore_n (lv' := [(1, .int (S.1 1 4)), (0, .ref (ad 0))]) hx hb d_MM_clear_7 rfl hl (by decide) rfl (fun ls hl => ?_)
      refine lv_aload_n hx hb d_MM_clear_8 rfl (lv_at hl 1 rfl) ?_
      refine S_getR (h := shC) (C := "MacroMill") (T := F_MM) hx hb htt in_MM hown hK hP 0 3 rfl 1 rfl rfl (by decide) (htt _ k_967) (fun _ h9 => h9) d_MM_clear_9 ?_
      refine lv_iconst (v := 0) hx hb d_MM_clear_12 (by decide) ?_
      refine S_put (h := shC) (C := "MacroMill$Files") (T := F_Files) (v := 0) hx hb htt in_Files t_Files t_Files_ok n_Files hown hK hP hD hS 1 4 rfl rfl rfl (by decide) (htt _ k_312) (fun _ h9 => h9) rfl rfl rfl d_MM_clear_13 (fun H locs hP hD hS => ?_)
      refine lv_iload_n hx hb d_MM_clear_16 rfl (lv_at hl 0 rfl) ?_
      cases h
      exact kx_17 ls H locs hP hD hS
abbrev rm_t_MM_clear : Room := { frames := 0, cells := 0, slots := 0, locals := 0 }
theorem t_MM_clear (l : Launch) (g : gG) (sz : Nat) (ad : Nat → Nat) (S : sS) (k : Nat) (r : Int32) (S9 : sS) (h : f_MM_clear k 0 S (fun _ => 0) (fun _ => 0) = some (r, S9)) : Ci l y_MM_clear b_MM_clear 2 rm_t_MM_clear g [.ref (ad 0)] (Sw shC g ad S) sz (fun r1 w => ∃ S1 : sS, w = Sw shC g ad S1 ∧ r1 = r ∧ S1 = S9) := by
  refine startI (by decide) (Nat.le_of_ble_eq_true rfl) ?_
  intro p e s m below meth c A ls hx hb hr hml hlocks hmn hown htt hN hA hP hK hD hS hl
  exact (w_MM_clear hx hb hml hown htt hK hN hA r S9 (fun ls H locs hP hD hS => fin_i (g := g) (ws := Sw shC g ad S9) hx hb hr hlocks (by decide +kernel) (by decide +kernel) hP hD hS ⟨_, rfl, rfl, rfl⟩ d_MM_clear_17) k) S (fun _ => 0) (fun _ => 0) ls _ _ h hl hP hD hS
def f_MM_told : Nat → Nat → sS → (Nat → Int32) → (Nat → Int64) → Option (Int32 × sS)
  | 0, _, _, _, _ => none
  | k + 1, 0, S, L, M => if (L 1) = (0 : Int32) then (some (S.1 2 3, S)) else (if (L 1) = (1 : Int32) then (some (S.1 2 4, S)) else (if (L 1) = (2 : Int32) then (some (S.1 2 6, S)) else (if (L 1) = (3 : Int32) then (some (S.1 2 7, S)) else (if (L 1) = (4 : Int32) then (some (S.1 2 8, S)) else (if (L 1) = (5 : Int32) then (some (S.1 10 5, S)) else (some (((-1) : Int32), S)))))))
  | _ + 1, _ + 1, _, _, _ => none
set_option maxHeartbeats 8000000 in
set_option maxRecDepth 100000 in
theorem w_MM_told {p : Program} {l : Launch} {e : Env} {R : Room} {s : State} {m : MethodId} {args : Array Value} {below : List Frame} {meth : Method} {c : Code} {cells slots : Nat} {Q : State → Prop} {g : gG} {A : Nat → Prop} {ad : Nat → Nat} (hx : p.tables.exec = Jvm.exec) (hb : c.code = b_MM_told) (hml : c.maxLocals = 2) (hown : s.vm.findClass "MacroMill" = some m.cls) (htt : ∀ w ∈ gt, w.before args s = true) (hK : va_K g.1 classes (tysG g) s) (hN : nw s) (hA : ∀ q : Nat, s.heap.size ≤ q → A q) (r : Int32) (S9 : sS)
    (kx_47 : ∀ (ls : Array Slot) (H : Heap) (locs : List Loc), va_P g.1 classes (Sw shC g ad S9) H → va_D A (Sw shC g ad S9) → va_S A s.heap H locs → W p l e R s m args below meth c H locs cells slots Q (F0 m 47 ls [.int r]))
    (kx_55 : ∀ (ls : Array Slot) (H : Heap) (locs : List Loc), va_P g.1 classes (Sw shC g ad S9) H → va_D A (Sw shC g ad S9) → va_S A s.heap H locs → W p l e R s m args below meth c H locs cells slots Q (F0 m 55 ls [.int r]))
    (kx_63 : ∀ (ls : Array Slot) (H : Heap) (locs : List Loc), va_P g.1 classes (Sw shC g ad S9) H → va_D A (Sw shC g ad S9) → va_S A s.heap H locs → W p l e R s m args below meth c H locs cells slots Q (F0 m 63 ls [.int r]))
    (kx_71 : ∀ (ls : Array Slot) (H : Heap) (locs : List Loc), va_P g.1 classes (Sw shC g ad S9) H → va_D A (Sw shC g ad S9) → va_S A s.heap H locs → W p l e R s m args below meth c H locs cells slots Q (F0 m 71 ls [.int r]))
    (kx_79 : ∀ (ls : Array Slot) (H : Heap) (locs : List Loc), va_P g.1 classes (Sw shC g ad S9) H → va_D A (Sw shC g ad S9) → va_S A s.heap H locs → W p l e R s m args below meth c H locs cells slots Q (F0 m 79 ls [.int r]))
    (kx_90 : ∀ (ls : Array Slot) (H : Heap) (locs : List Loc), va_P g.1 classes (Sw shC g ad S9) H → va_D A (Sw shC g ad S9) → va_S A s.heap H locs → W p l e R s m args below meth c H locs cells slots Q (F0 m 90 ls [.int r]))
    (kx_92 : ∀ (ls : Array Slot) (H : Heap) (locs : List Loc), va_P g.1 classes (Sw shC g ad S9) H → va_D A (Sw shC g ad S9) → va_S A s.heap H locs → W p l e R s m args below meth c H locs cells slots Q (F0 m 92 ls [.int r])) :
    ∀ k9 : Nat, (∀ (S : sS) (L : Nat → Int32) (M : Nat → Int64) (ls : Array Slot) (H : Heap) (locs : List Loc), f_MM_told k9 0 S L M = some (r, S9) → lv_has ls 2 [(0, .ref (ad 0)), (1, .int (L 1))] → va_P g.1 classes (Sw shC g ad S) H → va_D A (Sw shC g ad S) → va_S A s.heap H locs → W p l e R s m args below meth c H locs cells slots Q (F0 m 0 ls [])) := by
  intro k9
  induction k9 with
  | zero => exact (fun _ _ _ _ _ _ h => by simp [f_MM_told] at h)
  | succ k9 ih =>
    · intro S L M ls H locs h hl hP hD hS
      simp only [f_MM_told] at h
      refine lv_iload_n hx hb d_MM_told_0 rfl (lv_at hl 1 rfl) ?_
      by_cases hc1_0 : (L 1) = (0 : Int32)
      · rw [if_pos hc1_0] at h
        refine lv_tableIn (tgt := 40) (off := 39) hx hb d_MM_told_1 (by rw [hc1_0]; decide) (by rw [hc1_0]; decide) (by rw [hc1_0]; decide) (by decide) ?_
        refine lv_aload_n hx hb d_MM_told_40 rfl (lv_at hl 0 rfl) ?_
        refine S_getR (h := shC) (C := "MacroMill") (T := F_MM) hx hb htt in_MM hown hK hP 0 4 rfl 2 rfl rfl (by decide) (htt _ k_968) (fun _ h9 => h9) d_MM_told_41 ?_
        refine S_getI (h := shC) (C := "MacroMill$Outcome") (T := F_Outcome) hx hb htt in_Outcome hown hK hP 2 3 rfl rfl rfl (by decide) (htt _ k_346) (fun _ h9 => h9) d_MM_told_44 ?_
        cases h
        exact kx_47 ls H locs hP hD hS
      rw [if_neg hc1_0] at h
      by_cases hc1_1 : (L 1) = (1 : Int32)
      · rw [if_pos hc1_1] at h
        refine lv_tableIn (tgt := 48) (off := 47) hx hb d_MM_told_1 (by rw [hc1_1]; decide) (by rw [hc1_1]; decide) (by rw [hc1_1]; decide) (by decide) ?_
        refine lv_aload_n hx hb d_MM_told_48 rfl (lv_at hl 0 rfl) ?_
        refine S_getR (h := shC) (C := "MacroMill") (T := F_MM) hx hb htt in_MM hown hK hP 0 4 rfl 2 rfl rfl (by decide) (htt _ k_968) (fun _ h9 => h9) d_MM_told_49 ?_
        refine S_getI (h := shC) (C := "MacroMill$Outcome") (T := F_Outcome) hx hb htt in_Outcome hown hK hP 2 4 rfl rfl rfl (by decide) (htt _ k_348) (fun _ h9 => h9) d_MM_told_52 ?_
        cases h
        exact kx_55 ls H locs hP hD hS
      rw [if_neg hc1_1] at h
      by_cases hc1_2 : (L 1) = (2 : Int32)
      · rw [if_pos hc1_2] at h
        refine lv_tableIn (tgt := 56) (off := 55) hx hb d_MM_told_1 (by rw [hc1_2]; decide) (by rw [hc1_2]; decide) (by rw [hc1_2]; decide) (by decide) ?_
        refine lv_aload_n hx hb d_MM_told_56 rfl (lv_at hl 0 rfl) ?_
        refine S_getR (h := shC) (C := "MacroMill") (T := F_MM) hx hb htt in_MM hown hK hP 0 4 rfl 2 rfl rfl (by decide) (htt _ k_968) (fun _ h9 => h9) d_MM_told_57 ?_
        refine S_getI (h := shC) (C := "MacroMill$Outcome") (T := F_Outcome) hx hb htt in_Outcome hown hK hP 2 6 rfl rfl rfl (by decide) (htt _ k_353) (fun _ h9 => h9) d_MM_told_60 ?_
        cases h
        exact kx_63 ls H locs hP hD hS
      rw [if_neg hc1_2] at h
      by_cases hc1_3 : (L 1) = (3 : Int32)
      · rw [if_pos hc1_3] at h
        refine lv_tableIn (tgt := 64) (off := 63) hx hb d_MM_told_1 (by rw [hc1_3]; decide) (by rw [hc1_3]; decide) (by rw [hc1_3]; decide) (by decide) ?_
        refine lv_aload_n hx hb d_MM_told_64 rfl (lv_at hl 0 rfl) ?_
        refine S_getR (h := shC) (C := "MacroMill") (T := F_MM) hx hb htt in_MM hown hK hP 0 4 rfl 2 rfl rfl (by decide) (htt _ k_968) (fun _ h9 => h9) d_MM_told_65 ?_
        refine S_getI (h := shC) (C := "MacroMill$Outcome") (T := F_Outcome) hx hb htt in_Outcome hown hK hP 2 7 rfl rfl rfl (by decide) (htt _ k_356) (fun _ h9 => h9) d_MM_told_68 ?_
        cases h
        exact kx_71 ls H locs hP hD hS
      rw [if_neg hc1_3] at h
      by_cases hc1_4 : (L 1) = (4 : Int32)
      · rw [if_pos hc1_4] at h
        refine lv_tableIn (tgt := 72) (off := 71) hx hb d_MM_told_1 (by rw [hc1_4]; decide) (by rw [hc1_4]; decide) (by rw [hc1_4]; decide) (by decide) ?_
        refine lv_aload_n hx hb d_MM_told_72 rfl (lv_at hl 0 rfl) ?_
        refine S_getR (h := shC) (C := "MacroMill") (T := F_MM) hx hb htt in_MM hown hK hP 0 4 rfl 2 rfl rfl (by decide) (htt _ k_968) (fun _ h9 => h9) d_MM_told_73 ?_
        refine S_getI (h := shC) (C := "MacroMill$Outcome") (T := F_Outcome) hx hb htt in_Outcome hown hK hP 2 8 rfl rfl rfl (by decide) (htt _ k_359) (fun _ h9 => h9) d_MM_told_76 ?_
        cases h
        exact kx_79 ls H locs hP hD hS
      rw [if_neg hc1_4] at h
      by_cases hc1_5 : (L 1) = (5 : Int32)
      · rw [if_pos hc1_5] at h
        refine lv_tableIn (tgt := 80) (off := 79) hx hb d_MM_told_1 (by rw [hc1_5]; decide) (by rw [hc1_5]; decide) (by rw [hc1_5]; decide) (by decide) ?_
        refine lv_aload_n hx hb d_MM_told_80 rfl (lv_at hl 0 rfl) ?_
        refine S_getR (h := shC) (C := "MacroMill") (T := F_MM) hx hb htt in_MM hown hK hP 0 6 rfl 8 rfl rfl (by decide) (htt _ k_970) (fun _ h9 => h9) d_MM_told_81 ?_
        refine S_getR (h := shC) (C := "MacroMill$Second") (T := F_Second) hx hb htt in_Second hown hK hP 8 4 rfl 10 rfl rfl (by decide) (htt _ k_901) (fun _ h9 => h9) d_MM_told_84 ?_
        refine S_getI (h := shC) (C := "MacroMill$Macros") (T := F_Macros) hx hb htt in_Macros hown hK hP 10 5 rfl rfl rfl (by decide) (htt _ k_695) (fun _ h9 => h9) d_MM_told_87 ?_
        cases h
        exact kx_90 ls H locs hP hD hS
      rw [if_neg hc1_5] at h
      have ho9 : (L 1).toInt < 0 ∨ 5 < (L 1).toInt := by
        by_cases q9 : (L 1).toInt < 0 ∨ 5 < (L 1).toInt
        · exact q9
        · exfalso
          have q8 : (L 1).toInt = 0 ∨ (L 1).toInt = 1 ∨ (L 1).toInt = 2 ∨ (L 1).toInt = 3 ∨ (L 1).toInt = 4 ∨ (L 1).toInt = 5 := by omega
          rcases q8 with q7 | q7 | q7 | q7 | q7 | q7
          · exact hc1_0 (Int32.toInt_inj.mp (q7.trans (by decide)))
          · exact hc1_1 (Int32.toInt_inj.mp (q7.trans (by decide)))
          · exact hc1_2 (Int32.toInt_inj.mp (q7.trans (by decide)))
          · exact hc1_3 (Int32.toInt_inj.mp (q7.trans (by decide)))
          · exact hc1_4 (Int32.toInt_inj.mp (q7.trans (by decide)))
          · exact hc1_5 (Int32.toInt_inj.mp (q7.trans (by decide)))
      refine lv_tableOut (tgt := 91) hx hb d_MM_told_1 ho9 (by decide) ?_
      refine lv_iconst (v := (-1)) hx hb d_MM_told_91 (by decide) ?_
      cases h
      exact kx_92 ls H locs hP hD hS
abbrev rm_t_MM_told : Room := { frames := 0, cells := 0, slots := 0, locals := 0 }
theorem t_MM_told (l : Launch) (g : gG) (sz : Nat) (ad : Nat → Nat) (S : sS) (v1 : Int32) (k : Nat) (r : Int32) (S9 : sS) (h : f_MM_told k 0 S (upd (fun _ => 0) 1 v1) (fun _ => 0) = some (r, S9)) : Ci l y_MM_told b_MM_told 2 rm_t_MM_told g [.ref (ad 0), .int v1] (Sw shC g ad S) sz (fun r1 w => ∃ S1 : sS, w = Sw shC g ad S1 ∧ r1 = r ∧ S1 = S9) := by
  refine startI (by decide) (Nat.le_of_ble_eq_true rfl) ?_
  intro p e s m below meth c A ls hx hb hr hml hlocks hmn hown htt hN hA hP hK hD hS hl
  exact (w_MM_told hx hb hml hown htt hK hN hA r S9 (fun ls H locs hP hD hS => fin_i (g := g) (ws := Sw shC g ad S9) hx hb hr hlocks (by decide +kernel) (by decide +kernel) hP hD hS ⟨_, rfl, rfl, rfl⟩ d_MM_told_47) (fun ls H locs hP hD hS => fin_i (g := g) (ws := Sw shC g ad S9) hx hb hr hlocks (by decide +kernel) (by decide +kernel) hP hD hS ⟨_, rfl, rfl, rfl⟩ d_MM_told_55) (fun ls H locs hP hD hS => fin_i (g := g) (ws := Sw shC g ad S9) hx hb hr hlocks (by decide +kernel) (by decide +kernel) hP hD hS ⟨_, rfl, rfl, rfl⟩ d_MM_told_63) (fun ls H locs hP hD hS => fin_i (g := g) (ws := Sw shC g ad S9) hx hb hr hlocks (by decide +kernel) (by decide +kernel) hP hD hS ⟨_, rfl, rfl, rfl⟩ d_MM_told_71) (fun ls H locs hP hD hS => fin_i (g := g) (ws := Sw shC g ad S9) hx hb hr hlocks (by decide +kernel) (by decide +kernel) hP hD hS ⟨_, rfl, rfl, rfl⟩ d_MM_told_79) (fun ls H locs hP hD hS => fin_i (g := g) (ws := Sw shC g ad S9) hx hb hr hlocks (by decide +kernel) (by decide +kernel) hP hD hS ⟨_, rfl, rfl, rfl⟩ d_MM_told_90) (fun ls H locs hP hD hS => fin_i (g := g) (ws := Sw shC g ad S9) hx hb hr hlocks (by decide +kernel) (by decide +kernel) hP hD hS ⟨_, rfl, rfl, rfl⟩ d_MM_told_92) k) S (upd (fun _ => 0) 1 v1) (fun _ => 0) ls _ _ h hl hP hD hS
def f_MM_size : Nat → Nat → sS → (Nat → Int32) → (Nat → Int64) → Option (Int32 × sS)
  | 0, _, _, _, _ => none
  | k + 1, 0, S, L, M => some (S.1 2 1, S)
  | _ + 1, _ + 1, _, _, _ => none
set_option maxHeartbeats 8000000 in
set_option maxRecDepth 100000 in
theorem w_MM_size {p : Program} {l : Launch} {e : Env} {R : Room} {s : State} {m : MethodId} {args : Array Value} {below : List Frame} {meth : Method} {c : Code} {cells slots : Nat} {Q : State → Prop} {g : gG} {A : Nat → Prop} {ad : Nat → Nat} (hx : p.tables.exec = Jvm.exec) (hb : c.code = b_MM_size) (hml : c.maxLocals = 1) (hown : s.vm.findClass "MacroMill" = some m.cls) (htt : ∀ w ∈ gt, w.before args s = true) (hK : va_K g.1 classes (tysG g) s) (hN : nw s) (hA : ∀ q : Nat, s.heap.size ≤ q → A q) (r : Int32) (S9 : sS)
    (kx_7 : ∀ (ls : Array Slot) (H : Heap) (locs : List Loc), va_P g.1 classes (Sw shC g ad S9) H → va_D A (Sw shC g ad S9) → va_S A s.heap H locs → W p l e R s m args below meth c H locs cells slots Q (F0 m 7 ls [.int r])) :
    ∀ k9 : Nat, (∀ (S : sS) (L : Nat → Int32) (M : Nat → Int64) (ls : Array Slot) (H : Heap) (locs : List Loc), f_MM_size k9 0 S L M = some (r, S9) → lv_has ls 1 [(0, .ref (ad 0))] → va_P g.1 classes (Sw shC g ad S) H → va_D A (Sw shC g ad S) → va_S A s.heap H locs → W p l e R s m args below meth c H locs cells slots Q (F0 m 0 ls [])) := by
  intro k9
  induction k9 with
  | zero => exact (fun _ _ _ _ _ _ h => by simp [f_MM_size] at h)
  | succ k9 ih =>
    · intro S L M ls H locs h hl hP hD hS
      simp only [f_MM_size] at h
      refine lv_aload_n hx hb d_MM_size_0 rfl (lv_at hl 0 rfl) ?_
      refine S_getR (h := shC) (C := "MacroMill") (T := F_MM) hx hb htt in_MM hown hK hP 0 4 rfl 2 rfl rfl (by decide) (htt _ k_968) (fun _ h9 => h9) d_MM_size_1 ?_
      refine S_getI (h := shC) (C := "MacroMill$Outcome") (T := F_Outcome) hx hb htt in_Outcome hown hK hP 2 1 rfl rfl rfl (by decide) (htt _ k_341) (fun _ h9 => h9) d_MM_size_4 ?_
      cases h
      exact kx_7 ls H locs hP hD hS
abbrev rm_t_MM_size : Room := { frames := 0, cells := 0, slots := 0, locals := 0 }
theorem t_MM_size (l : Launch) (g : gG) (sz : Nat) (ad : Nat → Nat) (S : sS) (k : Nat) (r : Int32) (S9 : sS) (h : f_MM_size k 0 S (fun _ => 0) (fun _ => 0) = some (r, S9)) : Ci l y_MM_size b_MM_size 1 rm_t_MM_size g [.ref (ad 0)] (Sw shC g ad S) sz (fun r1 w => ∃ S1 : sS, w = Sw shC g ad S1 ∧ r1 = r ∧ S1 = S9) := by
  refine startI (by decide) (Nat.le_of_ble_eq_true rfl) ?_
  intro p e s m below meth c A ls hx hb hr hml hlocks hmn hown htt hN hA hP hK hD hS hl
  exact (w_MM_size hx hb hml hown htt hK hN hA r S9 (fun ls H locs hP hD hS => fin_i (g := g) (ws := Sw shC g ad S9) hx hb hr hlocks (by decide +kernel) (by decide +kernel) hP hD hS ⟨_, rfl, rfl, rfl⟩ d_MM_size_7) k) S (fun _ => 0) (fun _ => 0) ls _ _ h hl hP hD hS
def f_MM_word : Nat → Nat → sS → (Nat → Int32) → (Nat → Int64) → Option (Int64 × sS)
  | 0, _, _, _, _ => none
  | k + 1, 0, S, L, M => if (L 1) < (0 : Int32) then (f_MM_word k 1 S L M) else (if (L 1) ≤ ((S.1 2 1) / (8 : Int32)) then (f_MM_word k 2 S (upd L 4 (7 : Int32)) (vp_updL M 2 (0 : Int64))) else (f_MM_word k 1 S L M))
  | k + 1, 1, S, L, M => some ((0 : Int64), S)
  | k + 1, 2, S, L, M => if (L 4) < (0 : Int32) then (some (M 2, S)) else (if (S.1 2 1) ≤ (((8 : Int32) * (L 1)) + (L 4)) then (f_MM_word k 3 S (upd (upd L 5 (((8 : Int32) * (L 1)) + (L 4))) 101 (0 : Int32)) (vp_updL M 100 ((M 2) <<< ((8 : Int32).toInt64 &&& 63)))) else (if okI (((8 : Int32) * (L 1)) + (L 4)) 65536 = true then (f_MM_word k 3 S (upd (upd L 5 (((8 : Int32) * (L 1)) + (L 4))) 101 ((S.2.1 5 (((8 : Int32) * (L 1)) + (L 4) : Int32).toNatClampNeg) &&& (255 : Int32))) (vp_updL M 100 ((M 2) <<< ((8 : Int32).toInt64 &&& 63)))) else none))
  | k + 1, 3, S, L, M => f_MM_word k 2 S (upd L 4 ((L 4) + (-1))) (vp_updL M 2 ((M 100) ||| ((L 101).toInt64)))
  | _ + 1, _ + 4, _, _, _ => none
set_option maxHeartbeats 8000000 in
set_option maxRecDepth 100000 in
theorem w_MM_word {p : Program} {l : Launch} {e : Env} {R : Room} {s : State} {m : MethodId} {args : Array Value} {below : List Frame} {meth : Method} {c : Code} {cells slots : Nat} {Q : State → Prop} {g : gG} {A : Nat → Prop} {ad : Nat → Nat} (hx : p.tables.exec = Jvm.exec) (hb : c.code = b_MM_word) (hml : c.maxLocals = 6) (hown : s.vm.findClass "MacroMill" = some m.cls) (htt : ∀ w ∈ gt, w.before args s = true) (hK : va_K g.1 classes (tysG g) s) (hN : nw s) (hA : ∀ q : Nat, s.heap.size ≤ q → A q) (r : Int64) (S9 : sS)
    (kx_19 : ∀ (ls : Array Slot) (H : Heap) (locs : List Loc), va_P g.1 classes (Sw shC g ad S9) H → va_D A (Sw shC g ad S9) → va_S A s.heap H locs → W p l e R s m args below meth c H locs cells slots Q (F0 m 19 ls [.long r]))
    (kx_84 : ∀ (ls : Array Slot) (H : Heap) (locs : List Loc), va_P g.1 classes (Sw shC g ad S9) H → va_D A (Sw shC g ad S9) → va_S A s.heap H locs → W p l e R s m args below meth c H locs cells slots Q (F0 m 84 ls [.long r])) :
    ∀ k9 : Nat, (∀ (S : sS) (L : Nat → Int32) (M : Nat → Int64) (ls : Array Slot) (H : Heap) (locs : List Loc), f_MM_word k9 0 S L M = some (r, S9) → lv_has ls 6 [(0, .ref (ad 0)), (1, .int (L 1))] → va_P g.1 classes (Sw shC g ad S) H → va_D A (Sw shC g ad S) → va_S A s.heap H locs → W p l e R s m args below meth c H locs cells slots Q (F0 m 0 ls [])) ∧ (∀ (S : sS) (L : Nat → Int32) (M : Nat → Int64) (ls : Array Slot) (H : Heap) (locs : List Loc), f_MM_word k9 1 S L M = some (r, S9) → lv_has ls 6 [(0, .ref (ad 0)), (1, .int (L 1))] → va_P g.1 classes (Sw shC g ad S) H → va_D A (Sw shC g ad S) → va_S A s.heap H locs → W p l e R s m args below meth c H locs cells slots Q (F0 m 18 ls [])) ∧ (∀ (S : sS) (L : Nat → Int32) (M : Nat → Int64) (ls : Array Slot) (H : Heap) (locs : List Loc), f_MM_word k9 2 S L M = some (r, S9) → lv_has ls 6 [(0, .ref (ad 0)), (1, .int (L 1)), (2, .long (M 2)), (4, .int (L 4))] → va_P g.1 classes (Sw shC g ad S) H → va_D A (Sw shC g ad S) → va_S A s.heap H locs → W p l e R s m args below meth c H locs cells slots Q (F0 m 26 ls [])) ∧ (∀ (S : sS) (L : Nat → Int32) (M : Nat → Int64) (ls : Array Slot) (H : Heap) (locs : List Loc), f_MM_word k9 3 S L M = some (r, S9) → lv_has ls 6 [(0, .ref (ad 0)), (1, .int (L 1)), (2, .long (M 2)), (4, .int (L 4)), (5, .int (L 5))] → va_P g.1 classes (Sw shC g ad S) H → va_D A (Sw shC g ad S) → va_S A s.heap H locs → W p l e R s m args below meth c H locs cells slots Q (F0 m 74 ls [.int (L 101), .long (M 100)])) := by
  intro k9
  induction k9 with
  | zero => exact ⟨(fun _ _ _ _ _ _ h => by simp [f_MM_word] at h), (fun _ _ _ _ _ _ h => by simp [f_MM_word] at h), (fun _ _ _ _ _ _ h => by simp [f_MM_word] at h), (fun _ _ _ _ _ _ h => by simp [f_MM_word] at h)⟩
  | succ k9 ih =>
    refine ⟨?_, ?_, ?_, ?_⟩
    · intro S L M ls H locs h hl hP hD hS
      simp only [f_MM_word] at h
      refine lv_iload_n hx hb d_MM_word_0 rfl (lv_at hl 1 rfl) ?_
      refine lv_if_lt (tgt := 18) hx hb d_MM_word_1 (by decide) (fun hc1 => ?_) (fun hc1 => ?_)
      · rw [if_pos hc1] at h
        exact (ih.2.1) S L M ls H locs h (lv_sub hl [0, 1] rfl) hP hD hS
      · rw [if_neg hc1] at h
        refine lv_iload_n hx hb d_MM_word_4 rfl (lv_at hl 1 rfl) ?_
        refine lv_aload_n hx hb d_MM_word_5 rfl (lv_at hl 0 rfl) ?_
        refine S_getR (h := shC) (C := "MacroMill") (T := F_MM) hx hb htt in_MM hown hK hP 0 4 rfl 2 rfl rfl (by decide) (htt _ k_968) (fun _ h9 => h9) d_MM_word_6 ?_
        refine S_getI (h := shC) (C := "MacroMill$Outcome") (T := F_Outcome) hx hb htt in_Outcome hown hK hP 2 1 rfl rfl rfl (by decide) (htt _ k_341) (fun _ h9 => h9) d_MM_word_9 ?_
        refine lv_bipush (v := 8) hx hb d_MM_word_12 (by decide) ?_
        refine lv_idiv hx hb d_MM_word_14 (by decide) ?_
        refine lv_icmp_le (tgt := 20) hx hb d_MM_word_15 (by decide) (fun hc2 => ?_) (fun hc2 => ?_)
        · rw [if_pos hc2] at h
          refine lv_lconst (v := 0) hx hb d_MM_word_20 (by decide) ?_
          refine lv_lstore_n (lv' := [(2, .long 0), (0, .ref (ad 0)), (1, .int (L 1))]) hx hb d_MM_word_21 rfl hl (by decide) rfl (fun ls hl => ?_)
          refine lv_bipush (v := 7) hx hb d_MM_word_22 (by decide) ?_
          refine lv_istore (lv' := [(4, .int 7), (2, .long 0), (0, .ref (ad 0)), (1, .int (L 1))]) hx hb d_MM_word_24 hl (by decide) rfl (fun ls hl => ?_)
          exact (ih.2.2.1) S (upd L 4 (7 : Int32)) (vp_updL M 2 (0 : Int64)) ls H locs h (lv_sub hl [2, 3, 1, 0] rfl) hP hD hS
        · rw [if_neg hc2] at h
          exact (ih.2.1) S L M ls H locs h (lv_sub hl [0, 1] rfl) hP hD hS
    · intro S L M ls H locs h hl hP hD hS
      simp only [f_MM_word] at h
      refine lv_lconst (v := 0) hx hb d_MM_word_18 (by decide) ?_
      cases h
      exact kx_19 ls H locs hP hD hS
    · intro S L M ls H locs h hl hP hD hS
      simp only [f_MM_word] at h
      refine lv_iload hx hb d_MM_word_26 (lv_at hl 3 rfl) ?_
      refine lv_if_lt (tgt := 83) hx hb d_MM_word_28 (by decide) (fun hc1 => ?_) (fun hc1 => ?_)
      · rw [if_pos hc1] at h
        refine lv_lload_n hx hb d_MM_word_83 rfl (lv_at hl 2 rfl) ?_
        cases h
        exact kx_84 ls H locs hP hD hS
      · rw [if_neg hc1] at h
        refine lv_bipush (v := 8) hx hb d_MM_word_31 (by decide) ?_
        refine lv_iload_n hx hb d_MM_word_33 rfl (lv_at hl 1 rfl) ?_
        refine lv_imul hx hb d_MM_word_34 ?_
        refine lv_iload hx hb d_MM_word_35 (lv_at hl 3 rfl) ?_
        refine lv_iadd hx hb d_MM_word_37 ?_
        refine lv_istore (lv' := [(5, .int (((8 : Int32) * (L 1)) + (L 4))), (0, .ref (ad 0)), (1, .int (L 1)), (2, .long (M 2)), (4, .int (L 4))]) hx hb d_MM_word_38 hl (by decide) rfl (fun ls hl => ?_)
        refine lv_lload_n hx hb d_MM_word_40 rfl (lv_at hl 3 rfl) ?_
        refine lv_bipush (v := 8) hx hb d_MM_word_41 (by decide) ?_
        refine lv_lshl (v := (M 2) <<< ((8 : Int32).toInt64 &&& 63)) hx hb d_MM_word_43 rfl ?_
        refine lv_iload hx hb d_MM_word_44 (lv_at hl 0 rfl) ?_
        show W _ _ _ _ _ _ _ _ _ _ _ _ _ _ _ (F0 _ 46 _ _)
        refine lv_aload_n hx hb d_MM_word_46 rfl (lv_at hl 1 rfl) ?_
        refine S_getR (h := shC) (C := "MacroMill") (T := F_MM) hx hb htt in_MM hown hK hP 0 4 rfl 2 rfl rfl (by decide) (htt _ k_968) (fun _ h9 => h9) d_MM_word_47 ?_
        refine S_getI (h := shC) (C := "MacroMill$Outcome") (T := F_Outcome) hx hb htt in_Outcome hown hK hP 2 1 rfl rfl rfl (by decide) (htt _ k_341) (fun _ h9 => h9) d_MM_word_50 ?_
        refine lv_icmp_ge (tgt := 73) hx hb d_MM_word_53 (by decide) (fun hc2 => ?_) (fun hc2 => ?_)
        · rw [if_pos hc2] at h
          refine lv_iconst (v := 0) hx hb d_MM_word_73 (by decide) ?_
          exact (ih.2.2.2) S (upd (upd L 5 (((8 : Int32) * (L 1)) + (L 4))) 101 (0 : Int32)) (vp_updL M 100 ((M 2) <<< ((8 : Int32).toInt64 &&& 63))) ls H locs h (lv_sub hl [1, 2, 3, 4, 0] rfl) hP hD hS
        · rw [if_neg hc2] at h
          refine lv_aload_n hx hb d_MM_word_56 rfl (lv_at hl 1 rfl) ?_
          refine S_getR (h := shC) (C := "MacroMill") (T := F_MM) hx hb htt in_MM hown hK hP 0 4 rfl 2 rfl rfl (by decide) (htt _ k_968) (fun _ h9 => h9) d_MM_word_57 ?_
          refine S_getR (h := shC) (C := "MacroMill$Outcome") (T := F_Outcome) hx hb htt in_Outcome hown hK hP 2 0 rfl 18 rfl rfl (by decide) (htt _ k_336) (fun _ h9 => h9) d_MM_word_60 ?_
          refine lv_iload hx hb d_MM_word_63 (lv_at hl 0 rfl) ?_
          obtain ⟨hv3, h⟩ := chk h
          refine S_bald (h := shC) (i := ((8 : Int32) * (L 1)) + (L 4)) hx hb hK hP 5 rfl (okI_in hv3) d_MM_word_65 ?_
          refine lv_sipush (v := 255) hx hb d_MM_word_66 (by decide) ?_
          refine lv_iand hx hb d_MM_word_69 ?_
          refine lv_goto (tgt := 74) hx hb d_MM_word_70 (by decide) ?_
          exact (ih.2.2.2) S (upd (upd L 5 (((8 : Int32) * (L 1)) + (L 4))) 101 ((S.2.1 5 (((8 : Int32) * (L 1)) + (L 4) : Int32).toNatClampNeg) &&& (255 : Int32))) (vp_updL M 100 ((M 2) <<< ((8 : Int32).toInt64 &&& 63))) ls H locs h (lv_sub hl [1, 2, 3, 4, 0] rfl) hP hD hS
    · intro S L M ls H locs h hl hP hD hS
      simp only [f_MM_word] at h
      refine lv_i2l (v := (L 101).toInt64) hx hb d_MM_word_74 rfl ?_
      refine lv_lor hx hb d_MM_word_75 ?_
      refine lv_lstore_n (lv' := [(2, .long ((M 100) ||| ((L 101).toInt64))), (0, .ref (ad 0)), (1, .int (L 1)), (4, .int (L 4)), (5, .int (L 5))]) hx hb d_MM_word_76 rfl hl (by decide) rfl (fun ls hl => ?_)
      refine lv_iinc (k := 3) (v := (L 4) + (-1)) (lv' := [(4, .int ((L 4) + (-1))), (2, .long ((M 100) ||| ((L 101).toInt64))), (0, .ref (ad 0)), (1, .int (L 1)), (5, .int (L 5))]) hx hb d_MM_word_77 hl rfl rfl (by decide) rfl (fun ls hl => ?_)
      refine lv_goto (tgt := 26) hx hb d_MM_word_80 (by decide) ?_
      exact (ih.2.2.1) S (upd L 4 ((L 4) + (-1))) (vp_updL M 2 ((M 100) ||| ((L 101).toInt64))) ls H locs h (lv_sub hl [2, 3, 1, 0] rfl) hP hD hS
abbrev rm_t_MM_word : Room := { frames := 0, cells := 0, slots := 0, locals := 0 }
theorem t_MM_word (l : Launch) (g : gG) (sz : Nat) (ad : Nat → Nat) (S : sS) (v1 : Int32) (k : Nat) (r : Int64) (S9 : sS) (h : f_MM_word k 0 S (upd (fun _ => 0) 1 v1) (fun _ => 0) = some (r, S9)) : Cl l y_MM_word b_MM_word 6 rm_t_MM_word g [.ref (ad 0), .int v1] (Sw shC g ad S) sz (fun r1 w => ∃ S1 : sS, w = Sw shC g ad S1 ∧ r1 = r ∧ S1 = S9) := by
  refine startL (by decide) (Nat.le_of_ble_eq_true rfl) ?_
  intro p e s m below meth c A ls hx hb hr hml hlocks hmn hown htt hN hA hP hK hD hS hl
  exact (w_MM_word hx hb hml hown htt hK hN hA r S9 (fun ls H locs hP hD hS => fin_l (g := g) (ws := Sw shC g ad S9) hx hb hr hlocks (by decide +kernel) (by decide +kernel) hP hD hS ⟨_, rfl, rfl, rfl⟩ d_MM_word_19) (fun ls H locs hP hD hS => fin_l (g := g) (ws := Sw shC g ad S9) hx hb hr hlocks (by decide +kernel) (by decide +kernel) hP hD hS ⟨_, rfl, rfl, rfl⟩ d_MM_word_84) k).1 S (upd (fun _ => 0) 1 v1) (fun _ => 0) ls _ _ h hl hP hD hS
def f_MM_astray : Nat → Nat → sS → (Nat → Int32) → (Nat → Int64) → Option (Int32 × sS)
  | 0, _, _, _, _ => none
  | k + 1, 0, S, L, M => some (S.1 2 9, S)
  | _ + 1, _ + 1, _, _, _ => none
set_option maxHeartbeats 8000000 in
set_option maxRecDepth 100000 in
theorem w_MM_astray {p : Program} {l : Launch} {e : Env} {R : Room} {s : State} {m : MethodId} {args : Array Value} {below : List Frame} {meth : Method} {c : Code} {cells slots : Nat} {Q : State → Prop} {g : gG} {A : Nat → Prop} {ad : Nat → Nat} (hx : p.tables.exec = Jvm.exec) (hb : c.code = b_MM_astray) (hml : c.maxLocals = 1) (hown : s.vm.findClass "MacroMill" = some m.cls) (htt : ∀ w ∈ gt, w.before args s = true) (hK : va_K g.1 classes (tysG g) s) (hN : nw s) (hA : ∀ q : Nat, s.heap.size ≤ q → A q) (r : Int32) (S9 : sS)
    (kx_7 : ∀ (ls : Array Slot) (H : Heap) (locs : List Loc), va_P g.1 classes (Sw shC g ad S9) H → va_D A (Sw shC g ad S9) → va_S A s.heap H locs → W p l e R s m args below meth c H locs cells slots Q (F0 m 7 ls [.int r])) :
    ∀ k9 : Nat, (∀ (S : sS) (L : Nat → Int32) (M : Nat → Int64) (ls : Array Slot) (H : Heap) (locs : List Loc), f_MM_astray k9 0 S L M = some (r, S9) → lv_has ls 1 [(0, .ref (ad 0))] → va_P g.1 classes (Sw shC g ad S) H → va_D A (Sw shC g ad S) → va_S A s.heap H locs → W p l e R s m args below meth c H locs cells slots Q (F0 m 0 ls [])) := by
  intro k9
  induction k9 with
  | zero => exact (fun _ _ _ _ _ _ h => by simp [f_MM_astray] at h)
  | succ k9 ih =>
    · intro S L M ls H locs h hl hP hD hS
      simp only [f_MM_astray] at h
      refine lv_aload_n hx hb d_MM_astray_0 rfl (lv_at hl 0 rfl) ?_
      refine S_getR (h := shC) (C := "MacroMill") (T := F_MM) hx hb htt in_MM hown hK hP 0 4 rfl 2 rfl rfl (by decide) (htt _ k_968) (fun _ h9 => h9) d_MM_astray_1 ?_
      refine S_getI (h := shC) (C := "MacroMill$Outcome") (T := F_Outcome) hx hb htt in_Outcome hown hK hP 2 9 rfl rfl rfl (by decide) (htt _ k_363) (fun _ h9 => h9) d_MM_astray_4 ?_
      cases h
      exact kx_7 ls H locs hP hD hS
abbrev rm_t_MM_astray : Room := { frames := 0, cells := 0, slots := 0, locals := 0 }
theorem t_MM_astray (l : Launch) (g : gG) (sz : Nat) (ad : Nat → Nat) (S : sS) (k : Nat) (r : Int32) (S9 : sS) (h : f_MM_astray k 0 S (fun _ => 0) (fun _ => 0) = some (r, S9)) : Ci l y_MM_astray b_MM_astray 1 rm_t_MM_astray g [.ref (ad 0)] (Sw shC g ad S) sz (fun r1 w => ∃ S1 : sS, w = Sw shC g ad S1 ∧ r1 = r ∧ S1 = S9) := by
  refine startI (by decide) (Nat.le_of_ble_eq_true rfl) ?_
  intro p e s m below meth c A ls hx hb hr hml hlocks hmn hown htt hN hA hP hK hD hS hl
  exact (w_MM_astray hx hb hml hown htt hK hN hA r S9 (fun ls H locs hP hD hS => fin_i (g := g) (ws := Sw shC g ad S9) hx hb hr hlocks (by decide +kernel) (by decide +kernel) hP hD hS ⟨_, rfl, rfl, rfl⟩ d_MM_astray_7) k) S (fun _ => 0) (fun _ => 0) ls _ _ h hl hP hD hS
def f_MM_layNumber : Nat → Nat → sS → (Nat → Int32) → (Nat → Int64) → Option (Int32 × sS)
  | 0, _, _, _, _ => none
  | k + 1, 0, S, L, M => f_MM_layNumber k 1 S (upd L 2 (24 : Int32)) M
  | k + 1, 1, S, L, M => if (L 2) < (0 : Int32) then (some ((0 : Int32), S)) else (if okI (S.1 0 1) 16384 = true then (f_MM_layNumber k 1 (putI (putA S 0 (S.1 0 1 : Int32).toNatClampNeg (vp_nar .byte (((L 1) >>> ((L 2) &&& 31)).toInt8.toInt32))) 0 1 ((S.1 0 1) + (1 : Int32))) (upd L 2 ((L 2) + (-8))) M) else none)
  | _ + 1, _ + 2, _, _, _ => none
set_option maxHeartbeats 8000000 in
set_option maxRecDepth 100000 in
theorem w_MM_layNumber {p : Program} {l : Launch} {e : Env} {R : Room} {s : State} {m : MethodId} {args : Array Value} {below : List Frame} {meth : Method} {c : Code} {cells slots : Nat} {Q : State → Prop} {g : gG} {A : Nat → Prop} {ad : Nat → Nat} (hx : p.tables.exec = Jvm.exec) (hb : c.code = b_MM_layNumber) (hml : c.maxLocals = 3) (hown : s.vm.findClass "MacroMill" = some m.cls) (htt : ∀ w ∈ gt, w.before args s = true) (hK : va_K g.1 classes (tysG g) s) (hN : nw s) (hA : ∀ q : Nat, s.heap.size ≤ q → A q) (r : Int32) (S9 : sS)
    (kx_36 : ∀ (ls : Array Slot) (H : Heap) (locs : List Loc), va_P g.1 classes (Sw shC g ad S9) H → va_D A (Sw shC g ad S9) → va_S A s.heap H locs → W p l e R s m args below meth c H locs cells slots Q (F0 m 36 ls [])) :
    ∀ k9 : Nat, (∀ (S : sS) (L : Nat → Int32) (M : Nat → Int64) (ls : Array Slot) (H : Heap) (locs : List Loc), f_MM_layNumber k9 0 S L M = some (r, S9) → lv_has ls 3 [(0, .ref (ad 0)), (1, .int (L 1))] → va_P g.1 classes (Sw shC g ad S) H → va_D A (Sw shC g ad S) → va_S A s.heap H locs → W p l e R s m args below meth c H locs cells slots Q (F0 m 0 ls [])) ∧ (∀ (S : sS) (L : Nat → Int32) (M : Nat → Int64) (ls : Array Slot) (H : Heap) (locs : List Loc), f_MM_layNumber k9 1 S L M = some (r, S9) → lv_has ls 3 [(0, .ref (ad 0)), (1, .int (L 1)), (2, .int (L 2))] → va_P g.1 classes (Sw shC g ad S) H → va_D A (Sw shC g ad S) → va_S A s.heap H locs → W p l e R s m args below meth c H locs cells slots Q (F0 m 3 ls [])) := by
  intro k9
  induction k9 with
  | zero => exact ⟨(fun _ _ _ _ _ _ h => by simp [f_MM_layNumber] at h), (fun _ _ _ _ _ _ h => by simp [f_MM_layNumber] at h)⟩
  | succ k9 ih =>
    refine ⟨?_, ?_⟩
    · intro S L M ls H locs h hl hP hD hS
      simp only [f_MM_layNumber] at h
      refine lv_bipush (v := 24) hx hb d_MM_layNumber_0 (by decide) ?_
      refine lv_istore_n (lv' := [(2, .int 24), (0, .ref (ad 0)), (1, .int (L 1))]) hx hb d_MM_layNumber_2 rfl hl (by decide) rfl (fun ls hl => ?_)
      exact (ih.2) S (upd L 2 (24 : Int32)) M ls H locs h (lv_sub hl [1, 2, 0] rfl) hP hD hS
    · intro S L M ls H locs h hl hP hD hS
      simp only [f_MM_layNumber] at h
      refine lv_iload_n hx hb d_MM_layNumber_3 rfl (lv_at hl 2 rfl) ?_
      refine lv_if_lt (tgt := 36) hx hb d_MM_layNumber_4 (by decide) (fun hc1 => ?_) (fun hc1 => ?_)
      · rw [if_pos hc1] at h
        cases h
        exact kx_36 ls H locs hP hD hS
      · rw [if_neg hc1] at h
        refine lv_aload_n hx hb d_MM_layNumber_7 rfl (lv_at hl 0 rfl) ?_
        refine S_getR (h := shC) (C := "MacroMill") (T := F_MM) hx hb htt in_MM hown hK hP 0 0 rfl 13 rfl rfl (by decide) (htt _ k_964) (fun _ h9 => h9) d_MM_layNumber_8 ?_
        refine lv_aload_n hx hb d_MM_layNumber_11 rfl (lv_at hl 0 rfl) ?_
        refine S_getI (h := shC) (C := "MacroMill") (T := F_MM) hx hb htt in_MM hown hK hP 0 1 rfl rfl rfl (by decide) (htt _ k_965) (fun _ h9 => h9) d_MM_layNumber_12 ?_
        refine lv_iload_n hx hb d_MM_layNumber_15 rfl (lv_at hl 1 rfl) ?_
        refine lv_iload_n hx hb d_MM_layNumber_16 rfl (lv_at hl 2 rfl) ?_
        refine lv_ishr hx hb d_MM_layNumber_17 ?_
        refine lv_i2b (v := ((L 1) >>> ((L 2) &&& 31)).toInt8.toInt32) hx hb d_MM_layNumber_18 rfl ?_
        obtain ⟨hv2, h⟩ := chk h
        refine S_bast (h := shC) (i := S.1 0 1) (v := ((L 1) >>> ((L 2) &&& 31)).toInt8.toInt32) hx hb hK hP hD hS 0 rfl (okI_in hv2) d_MM_layNumber_19 (fun H locs hP hD hS => ?_)
        refine lv_aload_n hx hb d_MM_layNumber_20 rfl (lv_at hl 0 rfl) ?_
        show W _ _ _ _ _ _ _ _ _ _ _ _ _ _ _ (F0 _ 21 _ _)
        refine lv_dup hx hb d_MM_layNumber_21 rfl ?_
        refine S_getI (h := shC) (C := "MacroMill") (T := F_MM) hx hb htt in_MM hown hK hP 0 1 rfl rfl rfl (by decide) (htt _ k_965) (fun _ h9 => h9) d_MM_layNumber_22 ?_
        refine toI (y := S.1 0 1) rfl ?_
        refine lv_iconst (v := 1) hx hb d_MM_layNumber_25 (by decide) ?_
        refine lv_iadd hx hb d_MM_layNumber_26 ?_
        refine S_put (h := shC) (C := "MacroMill") (T := F_MM) (v := (S.1 0 1) + (1 : Int32)) hx hb htt in_MM t_MM t_MM_ok n_MM hown hK hP hD hS 0 1 rfl rfl rfl (by decide) (htt _ k_965) (fun _ h9 => h9) rfl rfl rfl d_MM_layNumber_27 (fun H locs hP hD hS => ?_)
        refine lv_iinc (k := 2) (v := (L 2) + (-8)) (lv' := [(2, .int ((L 2) + (-8))), (0, .ref (ad 0)), (1, .int (L 1))]) hx hb d_MM_layNumber_30 hl rfl rfl (by decide) rfl (fun ls hl => ?_)
        refine lv_goto (tgt := 3) hx hb d_MM_layNumber_33 (by decide) ?_
        exact (ih.2) (putI (putA S 0 (S.1 0 1 : Int32).toNatClampNeg (vp_nar .byte (((L 1) >>> ((L 2) &&& 31)).toInt8.toInt32))) 0 1 ((S.1 0 1) + (1 : Int32))) (upd L 2 ((L 2) + (-8))) M ls H locs h (lv_sub hl [1, 2, 0] rfl) hP hD hS
abbrev rm_t_MM_layNumber : Room := { frames := 0, cells := 0, slots := 0, locals := 0 }
theorem t_MM_layNumber (l : Launch) (g : gG) (sz : Nat) (ad : Nat → Nat) (S : sS) (v1 : Int32) (k : Nat) (r : Int32) (S9 : sS) (h : f_MM_layNumber k 0 S (upd (fun _ => 0) 1 v1) (fun _ => 0) = some (r, S9)) : Cv l y_MM_layNumber b_MM_layNumber 3 rm_t_MM_layNumber g [.ref (ad 0), .int v1] (Sw shC g ad S) sz (fun w => ∃ S1 : sS, w = Sw shC g ad S1 ∧ S1 = S9) := by
  refine startV (by decide) (Nat.le_of_ble_eq_true rfl) ?_
  intro p e s m below meth c A ls hx hb hr hml hlocks hmn hown htt hN hA hP hK hD hS hl
  exact (w_MM_layNumber hx hb hml hown htt hK hN hA r S9 (fun ls H locs hP hD hS => fin_v (g := g) (ws := Sw shC g ad S9) hx hb hr hlocks (by decide +kernel) (by decide +kernel) hP hD hS ⟨_, rfl, rfl⟩ d_MM_layNumber_36) k).1 S (upd (fun _ => 0) 1 v1) (fun _ => 0) ls _ _ h hl hP hD hS
def f_MM_useTape : Nat → Nat → sS → (Nat → Int32) → (Nat → Int64) → Option (Int32 × sS)
  | 0, _, _, _, _ => none
  | k + 1, 0, S, L, M => some (S.1 0 1, (putI (putI S 0 1 0) 0 2 0))
  | _ + 1, _ + 1, _, _, _ => none
set_option maxHeartbeats 8000000 in
set_option maxRecDepth 100000 in
theorem w_MM_useTape {p : Program} {l : Launch} {e : Env} {R : Room} {s : State} {m : MethodId} {args : Array Value} {below : List Frame} {meth : Method} {c : Code} {cells slots : Nat} {Q : State → Prop} {g : gG} {A : Nat → Prop} {ad : Nat → Nat} (hx : p.tables.exec = Jvm.exec) (hb : c.code = b_MM_useTape) (hml : c.maxLocals = 2) (hown : s.vm.findClass "MacroMill" = some m.cls) (htt : ∀ w ∈ gt, w.before args s = true) (hK : va_K g.1 classes (tysG g) s) (hN : nw s) (hA : ∀ q : Nat, s.heap.size ≤ q → A q) (r : Int32) (S9 : sS)
    (kx_16 : ∀ (ls : Array Slot) (H : Heap) (locs : List Loc), va_P g.1 classes (Sw shC g ad S9) H → va_D A (Sw shC g ad S9) → va_S A s.heap H locs → W p l e R s m args below meth c H locs cells slots Q (F0 m 16 ls [.int r])) :
    ∀ k9 : Nat, (∀ (S : sS) (L : Nat → Int32) (M : Nat → Int64) (ls : Array Slot) (H : Heap) (locs : List Loc), f_MM_useTape k9 0 S L M = some (r, S9) → lv_has ls 2 [(0, .ref (ad 0))] → va_P g.1 classes (Sw shC g ad S) H → va_D A (Sw shC g ad S) → va_S A s.heap H locs → W p l e R s m args below meth c H locs cells slots Q (F0 m 0 ls [])) := by
  intro k9
  induction k9 with
  | zero => exact (fun _ _ _ _ _ _ h => by simp [f_MM_useTape] at h)
  | succ k9 ih =>
    · intro S L M ls H locs h hl hP hD hS
      simp only [f_MM_useTape] at h
      refine lv_aload_n hx hb d_MM_useTape_0 rfl (lv_at hl 0 rfl) ?_
      refine S_getI (h := shC) (C := "MacroMill") (T := F_MM) hx hb htt in_MM hown hK hP 0 1 rfl rfl rfl (by decide) (htt _ k_965) (fun _ h9 => h9) d_MM_useTape_1 ?_
      refine lv_istore_n (lv' := [(1, .int (S.1 0 1)), (0, .ref (ad 0))]) hx hb d_MM_useTape_4 rfl hl (by decide) rfl (fun ls hl => ?_)
      refine lv_aload_n hx hb d_MM_useTape_5 rfl (lv_at hl 1 rfl) ?_
      refine lv_iconst (v := 0) hx hb d_MM_useTape_6 (by decide) ?_
      refine S_put (h := shC) (C := "MacroMill") (T := F_MM) (v := 0) hx hb htt in_MM t_MM t_MM_ok n_MM hown hK hP hD hS 0 1 rfl rfl rfl (by decide) (htt _ k_965) (fun _ h9 => h9) rfl rfl rfl d_MM_useTape_7 (fun H locs hP hD hS => ?_)
      refine lv_aload_n hx hb d_MM_useTape_10 rfl (lv_at hl 1 rfl) ?_
      refine lv_iconst (v := 0) hx hb d_MM_useTape_11 (by decide) ?_
      refine S_put (h := shC) (C := "MacroMill") (T := F_MM) (v := 0) hx hb htt in_MM t_MM t_MM_ok n_MM hown hK hP hD hS 0 2 rfl rfl rfl (by decide) (htt _ k_966) (fun _ h9 => h9) rfl rfl rfl d_MM_useTape_12 (fun H locs hP hD hS => ?_)
      refine lv_iload_n hx hb d_MM_useTape_15 rfl (lv_at hl 0 rfl) ?_
      cases h
      exact kx_16 ls H locs hP hD hS
abbrev rm_t_MM_useTape : Room := { frames := 0, cells := 0, slots := 0, locals := 0 }
theorem t_MM_useTape (l : Launch) (g : gG) (sz : Nat) (ad : Nat → Nat) (S : sS) (k : Nat) (r : Int32) (S9 : sS) (h : f_MM_useTape k 0 S (fun _ => 0) (fun _ => 0) = some (r, S9)) : Ci l y_MM_useTape b_MM_useTape 2 rm_t_MM_useTape g [.ref (ad 0)] (Sw shC g ad S) sz (fun r1 w => ∃ S1 : sS, w = Sw shC g ad S1 ∧ r1 = r ∧ S1 = S9) := by
  refine startI (by decide) (Nat.le_of_ble_eq_true rfl) ?_
  intro p e s m below meth c A ls hx hb hr hml hlocks hmn hown htt hN hA hP hK hD hS hl
  exact (w_MM_useTape hx hb hml hown htt hK hN hA r S9 (fun ls H locs hP hD hS => fin_i (g := g) (ws := Sw shC g ad S9) hx hb hr hlocks (by decide +kernel) (by decide +kernel) hP hD hS ⟨_, rfl, rfl, rfl⟩ d_MM_useTape_16) k) S (fun _ => 0) (fun _ => 0) ls _ _ h hl hP hD hS
def f_MM_isLetter : Nat → Nat → sS → (Nat → Int32) → (Nat → Int64) → Option (Int32 × sS)
  | 0, _, _, _, _ => none
  | k + 1, 0, S, L, M => if (L 0) < (65 : Int32) then (f_MM_isLetter k 1 S L M) else (if (L 0) ≤ (90 : Int32) then (f_MM_isLetter k 3 S L M) else (f_MM_isLetter k 1 S L M))
  | k + 1, 1, S, L, M => if (L 0) < (97 : Int32) then (f_MM_isLetter k 2 S L M) else (if (L 0) ≤ (122 : Int32) then (f_MM_isLetter k 3 S L M) else (f_MM_isLetter k 2 S L M))
  | k + 1, 2, S, L, M => if (L 0) = (95 : Int32) then (f_MM_isLetter k 3 S L M) else (f_MM_isLetter k 4 S (upd L 100 (0 : Int32)) M)
  | k + 1, 3, S, L, M => f_MM_isLetter k 4 S (upd L 100 (1 : Int32)) M
  | k + 1, 4, S, L, M => if bz (L 100) = true then some (L 100, S) else none
  | _ + 1, _ + 5, _, _, _ => none
set_option maxHeartbeats 8000000 in
set_option maxRecDepth 100000 in
theorem w_MM_isLetter {p : Program} {l : Launch} {e : Env} {R : Room} {s : State} {m : MethodId} {args : Array Value} {below : List Frame} {meth : Method} {c : Code} {cells slots : Nat} {Q : State → Prop} {g : gG} {A : Nat → Prop} {ad : Nat → Nat} (hx : p.tables.exec = Jvm.exec) (hb : c.code = b_MM_isLetter) (hml : c.maxLocals = 1) (hown : s.vm.findClass "MacroMill" = some m.cls) (htt : ∀ w ∈ gt, w.before args s = true) (hK : va_K g.1 classes (tysG g) s) (hN : nw s) (hA : ∀ q : Nat, s.heap.size ≤ q → A q) (r : Int32) (S9 : sS)
    (kx_35 : ∀ (ls : Array Slot) (H : Heap) (locs : List Loc), narrow .boolean (.int r) = .int r → va_P g.1 classes (Sw shC g ad S9) H → va_D A (Sw shC g ad S9) → va_S A s.heap H locs → W p l e R s m args below meth c H locs cells slots Q (F0 m 35 ls [.int r])) :
    ∀ k9 : Nat, (∀ (S : sS) (L : Nat → Int32) (M : Nat → Int64) (ls : Array Slot) (H : Heap) (locs : List Loc), f_MM_isLetter k9 0 S L M = some (r, S9) → lv_has ls 1 [(0, .int (L 0))] → va_P g.1 classes (Sw shC g ad S) H → va_D A (Sw shC g ad S) → va_S A s.heap H locs → W p l e R s m args below meth c H locs cells slots Q (F0 m 0 ls [])) ∧ (∀ (S : sS) (L : Nat → Int32) (M : Nat → Int64) (ls : Array Slot) (H : Heap) (locs : List Loc), f_MM_isLetter k9 1 S L M = some (r, S9) → lv_has ls 1 [(0, .int (L 0))] → va_P g.1 classes (Sw shC g ad S) H → va_D A (Sw shC g ad S) → va_S A s.heap H locs → W p l e R s m args below meth c H locs cells slots Q (F0 m 12 ls [])) ∧ (∀ (S : sS) (L : Nat → Int32) (M : Nat → Int64) (ls : Array Slot) (H : Heap) (locs : List Loc), f_MM_isLetter k9 2 S L M = some (r, S9) → lv_has ls 1 [(0, .int (L 0))] → va_P g.1 classes (Sw shC g ad S) H → va_D A (Sw shC g ad S) → va_S A s.heap H locs → W p l e R s m args below meth c H locs cells slots Q (F0 m 24 ls [])) ∧ (∀ (S : sS) (L : Nat → Int32) (M : Nat → Int64) (ls : Array Slot) (H : Heap) (locs : List Loc), f_MM_isLetter k9 3 S L M = some (r, S9) → lv_has ls 1 [(0, .int (L 0))] → va_P g.1 classes (Sw shC g ad S) H → va_D A (Sw shC g ad S) → va_S A s.heap H locs → W p l e R s m args below meth c H locs cells slots Q (F0 m 30 ls [])) ∧ (∀ (S : sS) (L : Nat → Int32) (M : Nat → Int64) (ls : Array Slot) (H : Heap) (locs : List Loc), f_MM_isLetter k9 4 S L M = some (r, S9) → lv_has ls 1 [(0, .int (L 0))] → va_P g.1 classes (Sw shC g ad S) H → va_D A (Sw shC g ad S) → va_S A s.heap H locs → W p l e R s m args below meth c H locs cells slots Q (F0 m 35 ls [.int (L 100)])) := by
  intro k9
  induction k9 with
  | zero => exact ⟨(fun _ _ _ _ _ _ h => by simp [f_MM_isLetter] at h), (fun _ _ _ _ _ _ h => by simp [f_MM_isLetter] at h), (fun _ _ _ _ _ _ h => by simp [f_MM_isLetter] at h), (fun _ _ _ _ _ _ h => by simp [f_MM_isLetter] at h), (fun _ _ _ _ _ _ h => by simp [f_MM_isLetter] at h)⟩
  | succ k9 ih =>
    refine ⟨?_, ?_, ?_, ?_, ?_⟩
    · intro S L M ls H locs h hl hP hD hS
      simp only [f_MM_isLetter] at h
      refine lv_iload_n hx hb d_MM_isLetter_0 rfl (lv_at hl 0 rfl) ?_
      refine lv_bipush (v := 65) hx hb d_MM_isLetter_1 (by decide) ?_
      refine lv_icmp_lt (tgt := 12) hx hb d_MM_isLetter_3 (by decide) (fun hc1 => ?_) (fun hc1 => ?_)
      · rw [if_pos hc1] at h
        exact (ih.2.1) S L M ls H locs h (lv_sub hl [0] rfl) hP hD hS
      · rw [if_neg hc1] at h
        refine lv_iload_n hx hb d_MM_isLetter_6 rfl (lv_at hl 0 rfl) ?_
        refine lv_bipush (v := 90) hx hb d_MM_isLetter_7 (by decide) ?_
        refine lv_icmp_le (tgt := 30) hx hb d_MM_isLetter_9 (by decide) (fun hc2 => ?_) (fun hc2 => ?_)
        · rw [if_pos hc2] at h
          exact (ih.2.2.2.1) S L M ls H locs h (lv_sub hl [0] rfl) hP hD hS
        · rw [if_neg hc2] at h
          exact (ih.2.1) S L M ls H locs h (lv_sub hl [0] rfl) hP hD hS
    · intro S L M ls H locs h hl hP hD hS
      simp only [f_MM_isLetter] at h
      refine lv_iload_n hx hb d_MM_isLetter_12 rfl (lv_at hl 0 rfl) ?_
      refine lv_bipush (v := 97) hx hb d_MM_isLetter_13 (by decide) ?_
      refine lv_icmp_lt (tgt := 24) hx hb d_MM_isLetter_15 (by decide) (fun hc1 => ?_) (fun hc1 => ?_)
      · rw [if_pos hc1] at h
        exact (ih.2.2.1) S L M ls H locs h (lv_sub hl [0] rfl) hP hD hS
      · rw [if_neg hc1] at h
        refine lv_iload_n hx hb d_MM_isLetter_18 rfl (lv_at hl 0 rfl) ?_
        refine lv_bipush (v := 122) hx hb d_MM_isLetter_19 (by decide) ?_
        refine lv_icmp_le (tgt := 30) hx hb d_MM_isLetter_21 (by decide) (fun hc2 => ?_) (fun hc2 => ?_)
        · rw [if_pos hc2] at h
          exact (ih.2.2.2.1) S L M ls H locs h (lv_sub hl [0] rfl) hP hD hS
        · rw [if_neg hc2] at h
          exact (ih.2.2.1) S L M ls H locs h (lv_sub hl [0] rfl) hP hD hS
    · intro S L M ls H locs h hl hP hD hS
      simp only [f_MM_isLetter] at h
      refine lv_iload_n hx hb d_MM_isLetter_24 rfl (lv_at hl 0 rfl) ?_
      refine lv_bipush (v := 95) hx hb d_MM_isLetter_25 (by decide) ?_
      refine lv_icmp_ne (tgt := 34) hx hb d_MM_isLetter_27 (by decide) (fun hc1 => ?_) (fun hc1 => ?_)
      · rw [if_neg hc1] at h
        refine lv_iconst (v := 0) hx hb d_MM_isLetter_34 (by decide) ?_
        exact (ih.2.2.2.2) S (upd L 100 (0 : Int32)) M ls H locs h (lv_sub hl [0] rfl) hP hD hS
      · rw [if_pos hc1] at h
        exact (ih.2.2.2.1) S L M ls H locs h (lv_sub hl [0] rfl) hP hD hS
    · intro S L M ls H locs h hl hP hD hS
      simp only [f_MM_isLetter] at h
      refine lv_iconst (v := 1) hx hb d_MM_isLetter_30 (by decide) ?_
      refine lv_goto (tgt := 35) hx hb d_MM_isLetter_31 (by decide) ?_
      exact (ih.2.2.2.2) S (upd L 100 (1 : Int32)) M ls H locs h (lv_sub hl [0] rfl) hP hD hS
    · intro S L M ls H locs h hl hP hD hS
      simp only [f_MM_isLetter] at h
      obtain ⟨hv1, h⟩ := chk h
      cases h
      exact kx_35 ls H locs (bz_n hv1) hP hD hS
abbrev rm_t_MM_isLetter : Room := { frames := 0, cells := 0, slots := 0, locals := 0 }
theorem t_MM_isLetter (l : Launch) (g : gG) (sz : Nat) (ad : Nat → Nat) (S : sS) (v1 : Int32) (k : Nat) (r : Int32) (S9 : sS) (h : f_MM_isLetter k 0 S (upd (fun _ => 0) 0 v1) (fun _ => 0) = some (r, S9)) : Cz l y_MM_isLetter b_MM_isLetter 1 rm_t_MM_isLetter g [.int v1] (Sw shC g ad S) sz (fun r1 w => ∃ S1 : sS, w = Sw shC g ad S1 ∧ r1 = r ∧ S1 = S9) := by
  refine startZ (by decide) (Nat.le_of_ble_eq_true rfl) ?_
  intro p e s m below meth c A ls hx hb hr hml hlocks hmn hown htt hN hA hP hK hD hS hl
  exact (w_MM_isLetter hx hb hml hown htt hK hN hA r S9 (fun ls H locs hz hP hD hS => fin_z (g := g) (ws := Sw shC g ad S9) hx hb hr hlocks hz (by decide +kernel) (by decide +kernel) hP hD hS ⟨_, rfl, rfl, rfl⟩ d_MM_isLetter_35) k).1 S (upd (fun _ => 0) 0 v1) (fun _ => 0) ls _ _ h hl hP hD hS
def f_MM_isDigit : Nat → Nat → sS → (Nat → Int32) → (Nat → Int64) → Option (Int32 × sS)
  | 0, _, _, _, _ => none
  | k + 1, 0, S, L, M => if (L 0) < (48 : Int32) then (f_MM_isDigit k 1 S L M) else (if (57 : Int32) < (L 0) then (f_MM_isDigit k 1 S L M) else (f_MM_isDigit k 2 S (upd L 100 (1 : Int32)) M))
  | k + 1, 1, S, L, M => f_MM_isDigit k 2 S (upd L 100 (0 : Int32)) M
  | k + 1, 2, S, L, M => if bz (L 100) = true then some (L 100, S) else none
  | _ + 1, _ + 3, _, _, _ => none
set_option maxHeartbeats 8000000 in
set_option maxRecDepth 100000 in
theorem w_MM_isDigit {p : Program} {l : Launch} {e : Env} {R : Room} {s : State} {m : MethodId} {args : Array Value} {below : List Frame} {meth : Method} {c : Code} {cells slots : Nat} {Q : State → Prop} {g : gG} {A : Nat → Prop} {ad : Nat → Nat} (hx : p.tables.exec = Jvm.exec) (hb : c.code = b_MM_isDigit) (hml : c.maxLocals = 1) (hown : s.vm.findClass "MacroMill" = some m.cls) (htt : ∀ w ∈ gt, w.before args s = true) (hK : va_K g.1 classes (tysG g) s) (hN : nw s) (hA : ∀ q : Nat, s.heap.size ≤ q → A q) (r : Int32) (S9 : sS)
    (kx_17 : ∀ (ls : Array Slot) (H : Heap) (locs : List Loc), narrow .boolean (.int r) = .int r → va_P g.1 classes (Sw shC g ad S9) H → va_D A (Sw shC g ad S9) → va_S A s.heap H locs → W p l e R s m args below meth c H locs cells slots Q (F0 m 17 ls [.int r])) :
    ∀ k9 : Nat, (∀ (S : sS) (L : Nat → Int32) (M : Nat → Int64) (ls : Array Slot) (H : Heap) (locs : List Loc), f_MM_isDigit k9 0 S L M = some (r, S9) → lv_has ls 1 [(0, .int (L 0))] → va_P g.1 classes (Sw shC g ad S) H → va_D A (Sw shC g ad S) → va_S A s.heap H locs → W p l e R s m args below meth c H locs cells slots Q (F0 m 0 ls [])) ∧ (∀ (S : sS) (L : Nat → Int32) (M : Nat → Int64) (ls : Array Slot) (H : Heap) (locs : List Loc), f_MM_isDigit k9 1 S L M = some (r, S9) → lv_has ls 1 [(0, .int (L 0))] → va_P g.1 classes (Sw shC g ad S) H → va_D A (Sw shC g ad S) → va_S A s.heap H locs → W p l e R s m args below meth c H locs cells slots Q (F0 m 16 ls [])) ∧ (∀ (S : sS) (L : Nat → Int32) (M : Nat → Int64) (ls : Array Slot) (H : Heap) (locs : List Loc), f_MM_isDigit k9 2 S L M = some (r, S9) → lv_has ls 1 [(0, .int (L 0))] → va_P g.1 classes (Sw shC g ad S) H → va_D A (Sw shC g ad S) → va_S A s.heap H locs → W p l e R s m args below meth c H locs cells slots Q (F0 m 17 ls [.int (L 100)])) := by
  intro k9
  induction k9 with
  | zero => exact ⟨(fun _ _ _ _ _ _ h => by simp [f_MM_isDigit] at h), (fun _ _ _ _ _ _ h => by simp [f_MM_isDigit] at h), (fun _ _ _ _ _ _ h => by simp [f_MM_isDigit] at h)⟩
  | succ k9 ih =>
    refine ⟨?_, ?_, ?_⟩
    · intro S L M ls H locs h hl hP hD hS
      simp only [f_MM_isDigit] at h
      refine lv_iload_n hx hb d_MM_isDigit_0 rfl (lv_at hl 0 rfl) ?_
      refine lv_bipush (v := 48) hx hb d_MM_isDigit_1 (by decide) ?_
      refine lv_icmp_lt (tgt := 16) hx hb d_MM_isDigit_3 (by decide) (fun hc1 => ?_) (fun hc1 => ?_)
      · rw [if_pos hc1] at h
        exact (ih.2.1) S L M ls H locs h (lv_sub hl [0] rfl) hP hD hS
      · rw [if_neg hc1] at h
        refine lv_iload_n hx hb d_MM_isDigit_6 rfl (lv_at hl 0 rfl) ?_
        refine lv_bipush (v := 57) hx hb d_MM_isDigit_7 (by decide) ?_
        refine lv_icmp_gt (tgt := 16) hx hb d_MM_isDigit_9 (by decide) (fun hc2 => ?_) (fun hc2 => ?_)
        · rw [if_pos hc2] at h
          exact (ih.2.1) S L M ls H locs h (lv_sub hl [0] rfl) hP hD hS
        · rw [if_neg hc2] at h
          refine lv_iconst (v := 1) hx hb d_MM_isDigit_12 (by decide) ?_
          refine lv_goto (tgt := 17) hx hb d_MM_isDigit_13 (by decide) ?_
          exact (ih.2.2) S (upd L 100 (1 : Int32)) M ls H locs h (lv_sub hl [0] rfl) hP hD hS
    · intro S L M ls H locs h hl hP hD hS
      simp only [f_MM_isDigit] at h
      refine lv_iconst (v := 0) hx hb d_MM_isDigit_16 (by decide) ?_
      exact (ih.2.2) S (upd L 100 (0 : Int32)) M ls H locs h (lv_sub hl [0] rfl) hP hD hS
    · intro S L M ls H locs h hl hP hD hS
      simp only [f_MM_isDigit] at h
      obtain ⟨hv1, h⟩ := chk h
      cases h
      exact kx_17 ls H locs (bz_n hv1) hP hD hS
abbrev rm_t_MM_isDigit : Room := { frames := 0, cells := 0, slots := 0, locals := 0 }
theorem t_MM_isDigit (l : Launch) (g : gG) (sz : Nat) (ad : Nat → Nat) (S : sS) (v1 : Int32) (k : Nat) (r : Int32) (S9 : sS) (h : f_MM_isDigit k 0 S (upd (fun _ => 0) 0 v1) (fun _ => 0) = some (r, S9)) : Cz l y_MM_isDigit b_MM_isDigit 1 rm_t_MM_isDigit g [.int v1] (Sw shC g ad S) sz (fun r1 w => ∃ S1 : sS, w = Sw shC g ad S1 ∧ r1 = r ∧ S1 = S9) := by
  refine startZ (by decide) (Nat.le_of_ble_eq_true rfl) ?_
  intro p e s m below meth c A ls hx hb hr hml hlocks hmn hown htt hN hA hP hK hD hS hl
  exact (w_MM_isDigit hx hb hml hown htt hK hN hA r S9 (fun ls H locs hz hP hD hS => fin_z (g := g) (ws := Sw shC g ad S9) hx hb hr hlocks hz (by decide +kernel) (by decide +kernel) hP hD hS ⟨_, rfl, rfl, rfl⟩ d_MM_isDigit_17) k).1 S (upd (fun _ => 0) 0 v1) (fun _ => 0) ls _ _ h hl hP hD hS
def f_MM_isBlank : Nat → Nat → sS → (Nat → Int32) → (Nat → Int64) → Option (Int32 × sS)
  | 0, _, _, _, _ => none
  | k + 1, 0, S, L, M => if (L 0) = (32 : Int32) then (f_MM_isBlank k 1 S L M) else (if (L 0) = (9 : Int32) then (f_MM_isBlank k 1 S L M) else (if (L 0) < (11 : Int32) then (f_MM_isBlank k 2 S L M) else (if (13 : Int32) < (L 0) then (f_MM_isBlank k 2 S L M) else (f_MM_isBlank k 1 S L M))))
  | k + 1, 1, S, L, M => f_MM_isBlank k 3 S (upd L 100 (1 : Int32)) M
  | k + 1, 2, S, L, M => f_MM_isBlank k 3 S (upd L 100 (0 : Int32)) M
  | k + 1, 3, S, L, M => if bz (L 100) = true then some (L 100, S) else none
  | _ + 1, _ + 4, _, _, _ => none
set_option maxHeartbeats 8000000 in
set_option maxRecDepth 100000 in
theorem w_MM_isBlank {p : Program} {l : Launch} {e : Env} {R : Room} {s : State} {m : MethodId} {args : Array Value} {below : List Frame} {meth : Method} {c : Code} {cells slots : Nat} {Q : State → Prop} {g : gG} {A : Nat → Prop} {ad : Nat → Nat} (hx : p.tables.exec = Jvm.exec) (hb : c.code = b_MM_isBlank) (hml : c.maxLocals = 1) (hown : s.vm.findClass "MacroMill" = some m.cls) (htt : ∀ w ∈ gt, w.before args s = true) (hK : va_K g.1 classes (tysG g) s) (hN : nw s) (hA : ∀ q : Nat, s.heap.size ≤ q → A q) (r : Int32) (S9 : sS)
    (kx_29 : ∀ (ls : Array Slot) (H : Heap) (locs : List Loc), narrow .boolean (.int r) = .int r → va_P g.1 classes (Sw shC g ad S9) H → va_D A (Sw shC g ad S9) → va_S A s.heap H locs → W p l e R s m args below meth c H locs cells slots Q (F0 m 29 ls [.int r])) :
    ∀ k9 : Nat, (∀ (S : sS) (L : Nat → Int32) (M : Nat → Int64) (ls : Array Slot) (H : Heap) (locs : List Loc), f_MM_isBlank k9 0 S L M = some (r, S9) → lv_has ls 1 [(0, .int (L 0))] → va_P g.1 classes (Sw shC g ad S) H → va_D A (Sw shC g ad S) → va_S A s.heap H locs → W p l e R s m args below meth c H locs cells slots Q (F0 m 0 ls [])) ∧ (∀ (S : sS) (L : Nat → Int32) (M : Nat → Int64) (ls : Array Slot) (H : Heap) (locs : List Loc), f_MM_isBlank k9 1 S L M = some (r, S9) → lv_has ls 1 [(0, .int (L 0))] → va_P g.1 classes (Sw shC g ad S) H → va_D A (Sw shC g ad S) → va_S A s.heap H locs → W p l e R s m args below meth c H locs cells slots Q (F0 m 24 ls [])) ∧ (∀ (S : sS) (L : Nat → Int32) (M : Nat → Int64) (ls : Array Slot) (H : Heap) (locs : List Loc), f_MM_isBlank k9 2 S L M = some (r, S9) → lv_has ls 1 [(0, .int (L 0))] → va_P g.1 classes (Sw shC g ad S) H → va_D A (Sw shC g ad S) → va_S A s.heap H locs → W p l e R s m args below meth c H locs cells slots Q (F0 m 28 ls [])) ∧ (∀ (S : sS) (L : Nat → Int32) (M : Nat → Int64) (ls : Array Slot) (H : Heap) (locs : List Loc), f_MM_isBlank k9 3 S L M = some (r, S9) → lv_has ls 1 [(0, .int (L 0))] → va_P g.1 classes (Sw shC g ad S) H → va_D A (Sw shC g ad S) → va_S A s.heap H locs → W p l e R s m args below meth c H locs cells slots Q (F0 m 29 ls [.int (L 100)])) := by
  intro k9
  induction k9 with
  | zero => exact ⟨(fun _ _ _ _ _ _ h => by simp [f_MM_isBlank] at h), (fun _ _ _ _ _ _ h => by simp [f_MM_isBlank] at h), (fun _ _ _ _ _ _ h => by simp [f_MM_isBlank] at h), (fun _ _ _ _ _ _ h => by simp [f_MM_isBlank] at h)⟩
  | succ k9 ih =>
    refine ⟨?_, ?_, ?_, ?_⟩
    · intro S L M ls H locs h hl hP hD hS
      simp only [f_MM_isBlank] at h
      refine lv_iload_n hx hb d_MM_isBlank_0 rfl (lv_at hl 0 rfl) ?_
      refine lv_bipush (v := 32) hx hb d_MM_isBlank_1 (by decide) ?_
      refine lv_icmp_eq (tgt := 24) hx hb d_MM_isBlank_3 (by decide) (fun hc1 => ?_) (fun hc1 => ?_)
      · rw [if_pos hc1] at h
        exact (ih.2.1) S L M ls H locs h (lv_sub hl [0] rfl) hP hD hS
      · rw [if_neg hc1] at h
        refine lv_iload_n hx hb d_MM_isBlank_6 rfl (lv_at hl 0 rfl) ?_
        refine lv_bipush (v := 9) hx hb d_MM_isBlank_7 (by decide) ?_
        refine lv_icmp_eq (tgt := 24) hx hb d_MM_isBlank_9 (by decide) (fun hc2 => ?_) (fun hc2 => ?_)
        · rw [if_pos hc2] at h
          exact (ih.2.1) S L M ls H locs h (lv_sub hl [0] rfl) hP hD hS
        · rw [if_neg hc2] at h
          refine lv_iload_n hx hb d_MM_isBlank_12 rfl (lv_at hl 0 rfl) ?_
          refine lv_bipush (v := 11) hx hb d_MM_isBlank_13 (by decide) ?_
          refine lv_icmp_lt (tgt := 28) hx hb d_MM_isBlank_15 (by decide) (fun hc3 => ?_) (fun hc3 => ?_)
          · rw [if_pos hc3] at h
            exact (ih.2.2.1) S L M ls H locs h (lv_sub hl [0] rfl) hP hD hS
          · rw [if_neg hc3] at h
            refine lv_iload_n hx hb d_MM_isBlank_18 rfl (lv_at hl 0 rfl) ?_
            refine lv_bipush (v := 13) hx hb d_MM_isBlank_19 (by decide) ?_
            refine lv_icmp_gt (tgt := 28) hx hb d_MM_isBlank_21 (by decide) (fun hc4 => ?_) (fun hc4 => ?_)
            · rw [if_pos hc4] at h
              exact (ih.2.2.1) S L M ls H locs h (lv_sub hl [0] rfl) hP hD hS
            · rw [if_neg hc4] at h
              exact (ih.2.1) S L M ls H locs h (lv_sub hl [0] rfl) hP hD hS
    · intro S L M ls H locs h hl hP hD hS
      simp only [f_MM_isBlank] at h
      refine lv_iconst (v := 1) hx hb d_MM_isBlank_24 (by decide) ?_
      refine lv_goto (tgt := 29) hx hb d_MM_isBlank_25 (by decide) ?_
      exact (ih.2.2.2) S (upd L 100 (1 : Int32)) M ls H locs h (lv_sub hl [0] rfl) hP hD hS
    · intro S L M ls H locs h hl hP hD hS
      simp only [f_MM_isBlank] at h
      refine lv_iconst (v := 0) hx hb d_MM_isBlank_28 (by decide) ?_
      exact (ih.2.2.2) S (upd L 100 (0 : Int32)) M ls H locs h (lv_sub hl [0] rfl) hP hD hS
    · intro S L M ls H locs h hl hP hD hS
      simp only [f_MM_isBlank] at h
      obtain ⟨hv1, h⟩ := chk h
      cases h
      exact kx_29 ls H locs (bz_n hv1) hP hD hS
abbrev rm_t_MM_isBlank : Room := { frames := 0, cells := 0, slots := 0, locals := 0 }
theorem t_MM_isBlank (l : Launch) (g : gG) (sz : Nat) (ad : Nat → Nat) (S : sS) (v1 : Int32) (k : Nat) (r : Int32) (S9 : sS) (h : f_MM_isBlank k 0 S (upd (fun _ => 0) 0 v1) (fun _ => 0) = some (r, S9)) : Cz l y_MM_isBlank b_MM_isBlank 1 rm_t_MM_isBlank g [.int v1] (Sw shC g ad S) sz (fun r1 w => ∃ S1 : sS, w = Sw shC g ad S1 ∧ r1 = r ∧ S1 = S9) := by
  refine startZ (by decide) (Nat.le_of_ble_eq_true rfl) ?_
  intro p e s m below meth c A ls hx hb hr hml hlocks hmn hown htt hN hA hP hK hD hS hl
  exact (w_MM_isBlank hx hb hml hown htt hK hN hA r S9 (fun ls H locs hz hP hD hS => fin_z (g := g) (ws := Sw shC g ad S9) hx hb hr hlocks hz (by decide +kernel) (by decide +kernel) hP hD hS ⟨_, rfl, rfl, rfl⟩ d_MM_isBlank_29) k).1 S (upd (fun _ => 0) 0 v1) (fun _ => 0) ls _ _ h hl hP hD hS
def f_MM_areSame (x1 : Nat) (nx1 : Nat) (x3 : Nat) (nx3 : Nat) : Nat → Nat → sS → (Nat → Int32) → (Nat → Int64) → Option (Int32 × sS)
  | 0, _, _, _, _ => none
  | k + 1, 0, S, L, M => f_MM_areSame x1 nx1 x3 nx3 k 1 S (upd L 5 (0 : Int32)) M
  | k + 1, 1, S, L, M => if (L 4) ≤ (L 5) then (some ((1 : Int32), S)) else (if okI ((L 1) + (L 5)) nx1 = true then (if okI ((L 3) + (L 5)) nx3 = true then (if (S.2.1 x1 ((L 1) + (L 5) : Int32).toNatClampNeg) = (S.2.1 x3 ((L 3) + (L 5) : Int32).toNatClampNeg) then (f_MM_areSame x1 nx1 x3 nx3 k 1 S (upd L 5 ((L 5) + 1)) M) else (some ((0 : Int32), S))) else none) else none)
  | _ + 1, _ + 2, _, _, _ => none
set_option maxHeartbeats 8000000 in
set_option maxRecDepth 100000 in
theorem w_MM_areSame {p : Program} {l : Launch} {e : Env} {R : Room} {s : State} {m : MethodId} {args : Array Value} {below : List Frame} {meth : Method} {c : Code} {cells slots : Nat} {Q : State → Prop} {g : gG} {A : Nat → Prop} {ad : Nat → Nat} (hx : p.tables.exec = Jvm.exec) (hb : c.code = b_MM_areSame) (hml : c.maxLocals = 6) (hown : s.vm.findClass "MacroMill" = some m.cls) (htt : ∀ w ∈ gt, w.before args s = true) (hK : va_K g.1 classes (tysG g) s) (hN : nw s) (hA : ∀ q : Nat, s.heap.size ≤ q → A q) (x1 : Nat) (nx1 : Nat) (x3 : Nat) (nx3 : Nat) (hx1 : shC.2[x1]? = some (0, nx1)) (hx3 : shC.2[x3]? = some (0, nx3)) (r : Int32) (S9 : sS)
    (kx_26 : ∀ (ls : Array Slot) (H : Heap) (locs : List Loc), narrow .boolean (.int r) = .int r → va_P g.1 classes (Sw shC g ad S9) H → va_D A (Sw shC g ad S9) → va_S A s.heap H locs → W p l e R s m args below meth c H locs cells slots Q (F0 m 26 ls [.int r]))
    (kx_34 : ∀ (ls : Array Slot) (H : Heap) (locs : List Loc), narrow .boolean (.int r) = .int r → va_P g.1 classes (Sw shC g ad S9) H → va_D A (Sw shC g ad S9) → va_S A s.heap H locs → W p l e R s m args below meth c H locs cells slots Q (F0 m 34 ls [.int r])) :
    ∀ k9 : Nat, (∀ (S : sS) (L : Nat → Int32) (M : Nat → Int64) (ls : Array Slot) (H : Heap) (locs : List Loc), f_MM_areSame x1 nx1 x3 nx3 k9 0 S L M = some (r, S9) → lv_has ls 6 [(0, .ref (ad (shC.1.length + x1))), (1, .int (L 1)), (2, .ref (ad (shC.1.length + x3))), (3, .int (L 3)), (4, .int (L 4))] → va_P g.1 classes (Sw shC g ad S) H → va_D A (Sw shC g ad S) → va_S A s.heap H locs → W p l e R s m args below meth c H locs cells slots Q (F0 m 0 ls [])) ∧ (∀ (S : sS) (L : Nat → Int32) (M : Nat → Int64) (ls : Array Slot) (H : Heap) (locs : List Loc), f_MM_areSame x1 nx1 x3 nx3 k9 1 S L M = some (r, S9) → lv_has ls 6 [(0, .ref (ad (shC.1.length + x1))), (1, .int (L 1)), (2, .ref (ad (shC.1.length + x3))), (3, .int (L 3)), (4, .int (L 4)), (5, .int (L 5))] → va_P g.1 classes (Sw shC g ad S) H → va_D A (Sw shC g ad S) → va_S A s.heap H locs → W p l e R s m args below meth c H locs cells slots Q (F0 m 3 ls [])) := by
  intro k9
  induction k9 with
  | zero => exact ⟨(fun _ _ _ _ _ _ h => by simp [f_MM_areSame] at h), (fun _ _ _ _ _ _ h => by simp [f_MM_areSame] at h)⟩
  | succ k9 ih =>
    refine ⟨?_, ?_⟩
    · intro S L M ls H locs h hl hP hD hS
      simp only [f_MM_areSame] at h
      refine lv_iconst (v := 0) hx hb d_MM_areSame_0 (by decide) ?_
      refine lv_istore (lv' := [(5, .int 0), (0, .ref (ad (shC.1.length + x1))), (1, .int (L 1)), (2, .ref (ad (shC.1.length + x3))), (3, .int (L 3)), (4, .int (L 4))]) hx hb d_MM_areSame_1 hl (by decide) rfl (fun ls hl => ?_)
      exact (ih.2) S (upd L 5 (0 : Int32)) M ls H locs h (lv_sub hl [1, 2, 3, 4, 5, 0] rfl) hP hD hS
    · intro S L M ls H locs h hl hP hD hS
      simp only [f_MM_areSame] at h
      refine lv_iload hx hb d_MM_areSame_3 (lv_at hl 5 rfl) ?_
      refine lv_iload hx hb d_MM_areSame_5 (lv_at hl 4 rfl) ?_
      refine lv_icmp_ge (tgt := 33) hx hb d_MM_areSame_7 (by decide) (fun hc1 => ?_) (fun hc1 => ?_)
      · rw [if_pos hc1] at h
        refine lv_iconst (v := 1) hx hb d_MM_areSame_33 (by decide) ?_
        cases h
        exact kx_34 ls H locs rfl hP hD hS
      · rw [if_neg hc1] at h
        refine lv_aload_n hx hb d_MM_areSame_10 rfl (lv_at hl 0 rfl) ?_
        refine lv_iload_n hx hb d_MM_areSame_11 rfl (lv_at hl 1 rfl) ?_
        refine lv_iload hx hb d_MM_areSame_12 (lv_at hl 5 rfl) ?_
        refine lv_iadd hx hb d_MM_areSame_14 ?_
        obtain ⟨hv2, h⟩ := chk h
        refine S_bald (h := shC) (i := (L 1) + (L 5)) hx hb hK hP x1 hx1 (okI_in hv2) d_MM_areSame_15 ?_
        refine lv_aload_n hx hb d_MM_areSame_16 rfl (lv_at hl 2 rfl) ?_
        refine lv_iload_n hx hb d_MM_areSame_17 rfl (lv_at hl 3 rfl) ?_
        refine lv_iload hx hb d_MM_areSame_18 (lv_at hl 5 rfl) ?_
        refine lv_iadd hx hb d_MM_areSame_20 ?_
        obtain ⟨hv3, h⟩ := chk h
        show W _ _ _ _ _ _ _ _ _ _ _ _ _ _ _ (F0 _ 21 _ _)
        refine S_bald (h := shC) (i := (L 3) + (L 5)) hx hb hK hP x3 hx3 (okI_in hv3) d_MM_areSame_21 ?_
        refine lv_icmp_eq (tgt := 27) hx hb d_MM_areSame_22 (by decide) (fun hc4 => ?_) (fun hc4 => ?_)
        · rw [if_pos hc4] at h
          refine lv_iinc (k := 5) (v := (L 5) + 1) (lv' := [(5, .int ((L 5) + 1)), (0, .ref (ad (shC.1.length + x1))), (1, .int (L 1)), (2, .ref (ad (shC.1.length + x3))), (3, .int (L 3)), (4, .int (L 4))]) hx hb d_MM_areSame_27 hl rfl rfl (by decide) rfl (fun ls hl => ?_)
          refine lv_goto (tgt := 3) hx hb d_MM_areSame_30 (by decide) ?_
          exact (ih.2) S (upd L 5 ((L 5) + 1)) M ls H locs h (lv_sub hl [1, 2, 3, 4, 5, 0] rfl) hP hD hS
        · rw [if_neg hc4] at h
          refine lv_iconst (v := 0) hx hb d_MM_areSame_25 (by decide) ?_
          cases h
          exact kx_26 ls H locs rfl hP hD hS
abbrev rm_t_MM_areSame : Room := { frames := 0, cells := 0, slots := 0, locals := 0 }
theorem t_MM_areSame (l : Launch) (g : gG) (sz : Nat) (ad : Nat → Nat) (S : sS) (x1 : Nat) (nx1 : Nat) (x3 : Nat) (nx3 : Nat) (v2 : Int32) (v4 : Int32) (v5 : Int32) (hx1 : shC.2[x1]? = some (0, nx1)) (hx3 : shC.2[x3]? = some (0, nx3)) (k : Nat) (r : Int32) (S9 : sS) (h : f_MM_areSame x1 nx1 x3 nx3 k 0 S (upd (upd (upd (fun _ => 0) 1 v2) 3 v4) 4 v5) (fun _ => 0) = some (r, S9)) : Cz l y_MM_areSame b_MM_areSame 6 rm_t_MM_areSame g [.ref (ad (shC.1.length + x1)), .int v2, .ref (ad (shC.1.length + x3)), .int v4, .int v5] (Sw shC g ad S) sz (fun r1 w => ∃ S1 : sS, w = Sw shC g ad S1 ∧ r1 = r ∧ S1 = S9) := by
  refine startZ (by decide) (Nat.le_of_ble_eq_true rfl) ?_
  intro p e s m below meth c A ls hx hb hr hml hlocks hmn hown htt hN hA hP hK hD hS hl
  exact (w_MM_areSame hx hb hml hown htt hK hN hA x1 nx1 x3 nx3 hx1 hx3 r S9 (fun ls H locs hz hP hD hS => fin_z (g := g) (ws := Sw shC g ad S9) hx hb hr hlocks hz (by decide +kernel) (by decide +kernel) hP hD hS ⟨_, rfl, rfl, rfl⟩ d_MM_areSame_26) (fun ls H locs hz hP hD hS => fin_z (g := g) (ws := Sw shC g ad S9) hx hb hr hlocks hz (by decide +kernel) (by decide +kernel) hP hD hS ⟨_, rfl, rfl, rfl⟩ d_MM_areSame_34) k).1 S (upd (upd (upd (fun _ => 0) 1 v2) 3 v4) 4 v5) (fun _ => 0) ls _ _ h hl hP hD hS
def f_MM_hashOf (x1 : Nat) (nx1 : Nat) : Nat → Nat → sS → (Nat → Int32) → (Nat → Int64) → Option (Int32 × sS)
  | 0, _, _, _, _ => none
  | k + 1, 0, S, L, M => f_MM_hashOf x1 nx1 k 1 S (upd (upd L 3 (L 2)) 4 (0 : Int32)) M
  | k + 1, 1, S, L, M => if (L 2) ≤ (L 4) then (some ((L 3) ^^^ (((L 3).toUInt32 >>> ((15 : Int32).toUInt32 &&& Int32.toUInt32 31)).toInt32), S)) else (if okI ((L 1) + (L 4)) nx1 = true then (f_MM_hashOf x1 nx1 k 1 S (upd (upd L 3 (((L 3) * (31 : Int32)) + (S.2.1 x1 ((L 1) + (L 4) : Int32).toNatClampNeg))) 4 ((L 4) + 1)) M) else none)
  | _ + 1, _ + 2, _, _, _ => none
set_option maxHeartbeats 8000000 in
set_option maxRecDepth 100000 in
theorem w_MM_hashOf {p : Program} {l : Launch} {e : Env} {R : Room} {s : State} {m : MethodId} {args : Array Value} {below : List Frame} {meth : Method} {c : Code} {cells slots : Nat} {Q : State → Prop} {g : gG} {A : Nat → Prop} {ad : Nat → Nat} (hx : p.tables.exec = Jvm.exec) (hb : c.code = b_MM_hashOf) (hml : c.maxLocals = 5) (hown : s.vm.findClass "MacroMill" = some m.cls) (htt : ∀ w ∈ gt, w.before args s = true) (hK : va_K g.1 classes (tysG g) s) (hN : nw s) (hA : ∀ q : Nat, s.heap.size ≤ q → A q) (x1 : Nat) (nx1 : Nat) (hx1 : shC.2[x1]? = some (0, nx1)) (r : Int32) (S9 : sS)
    (kx_35 : ∀ (ls : Array Slot) (H : Heap) (locs : List Loc), va_P g.1 classes (Sw shC g ad S9) H → va_D A (Sw shC g ad S9) → va_S A s.heap H locs → W p l e R s m args below meth c H locs cells slots Q (F0 m 35 ls [.int r])) :
    ∀ k9 : Nat, (∀ (S : sS) (L : Nat → Int32) (M : Nat → Int64) (ls : Array Slot) (H : Heap) (locs : List Loc), f_MM_hashOf x1 nx1 k9 0 S L M = some (r, S9) → lv_has ls 5 [(0, .ref (ad (shC.1.length + x1))), (1, .int (L 1)), (2, .int (L 2))] → va_P g.1 classes (Sw shC g ad S) H → va_D A (Sw shC g ad S) → va_S A s.heap H locs → W p l e R s m args below meth c H locs cells slots Q (F0 m 0 ls [])) ∧ (∀ (S : sS) (L : Nat → Int32) (M : Nat → Int64) (ls : Array Slot) (H : Heap) (locs : List Loc), f_MM_hashOf x1 nx1 k9 1 S L M = some (r, S9) → lv_has ls 5 [(0, .ref (ad (shC.1.length + x1))), (1, .int (L 1)), (2, .int (L 2)), (3, .int (L 3)), (4, .int (L 4))] → va_P g.1 classes (Sw shC g ad S) H → va_D A (Sw shC g ad S) → va_S A s.heap H locs → W p l e R s m args below meth c H locs cells slots Q (F0 m 5 ls [])) := by
  intro k9
  induction k9 with
  | zero => exact ⟨(fun _ _ _ _ _ _ h => by simp [f_MM_hashOf] at h), (fun _ _ _ _ _ _ h => by simp [f_MM_hashOf] at h)⟩
  | succ k9 ih =>
    refine ⟨?_, ?_⟩
    · intro S L M ls H locs h hl hP hD hS
      simp only [f_MM_hashOf] at h
      refine lv_iload_n hx hb d_MM_hashOf_0 rfl (lv_at hl 2 rfl) ?_
      refine lv_istore_n (lv' := [(3, .int (L 2)), (0, .ref (ad (shC.1.length + x1))), (1, .int (L 1)), (2, .int (L 2))]) hx hb d_MM_hashOf_1 rfl hl (by decide) rfl (fun ls hl => ?_)
      refine lv_iconst (v := 0) hx hb d_MM_hashOf_2 (by decide) ?_
      refine lv_istore (lv' := [(4, .int 0), (3, .int (L 2)), (0, .ref (ad (shC.1.length + x1))), (1, .int (L 1)), (2, .int (L 2))]) hx hb d_MM_hashOf_3 hl (by decide) rfl (fun ls hl => ?_)
      exact (ih.2) S (upd (upd L 3 (L 2)) 4 (0 : Int32)) M ls H locs h (lv_sub hl [2, 3, 4, 1, 0] rfl) hP hD hS
    · intro S L M ls H locs h hl hP hD hS
      simp only [f_MM_hashOf] at h
      refine lv_iload hx hb d_MM_hashOf_5 (lv_at hl 4 rfl) ?_
      refine lv_iload_n hx hb d_MM_hashOf_7 rfl (lv_at hl 2 rfl) ?_
      refine lv_icmp_ge (tgt := 29) hx hb d_MM_hashOf_8 (by decide) (fun hc1 => ?_) (fun hc1 => ?_)
      · rw [if_pos hc1] at h
        refine lv_iload_n hx hb d_MM_hashOf_29 rfl (lv_at hl 3 rfl) ?_
        refine lv_iload_n hx hb d_MM_hashOf_30 rfl (lv_at hl 3 rfl) ?_
        refine lv_bipush (v := 15) hx hb d_MM_hashOf_31 (by decide) ?_
        refine lv_iushr (v := ((L 3).toUInt32 >>> ((15 : Int32).toUInt32 &&& Int32.toUInt32 31)).toInt32) hx hb d_MM_hashOf_33 rfl ?_
        refine lv_ixor hx hb d_MM_hashOf_34 ?_
        cases h
        exact kx_35 ls H locs hP hD hS
      · rw [if_neg hc1] at h
        refine lv_iload_n hx hb d_MM_hashOf_11 rfl (lv_at hl 3 rfl) ?_
        refine lv_bipush (v := 31) hx hb d_MM_hashOf_12 (by decide) ?_
        refine lv_imul hx hb d_MM_hashOf_14 ?_
        refine lv_aload_n hx hb d_MM_hashOf_15 rfl (lv_at hl 0 rfl) ?_
        refine lv_iload_n hx hb d_MM_hashOf_16 rfl (lv_at hl 1 rfl) ?_
        refine lv_iload hx hb d_MM_hashOf_17 (lv_at hl 4 rfl) ?_
        refine lv_iadd hx hb d_MM_hashOf_19 ?_
        obtain ⟨hv2, h⟩ := chk h
        refine S_bald (h := shC) (i := (L 1) + (L 4)) hx hb hK hP x1 hx1 (okI_in hv2) d_MM_hashOf_20 ?_
        refine lv_iadd hx hb d_MM_hashOf_21 ?_
        show W _ _ _ _ _ _ _ _ _ _ _ _ _ _ _ (F0 _ 22 _ _)
        refine lv_istore_n (lv' := [(3, .int (((L 3) * (31 : Int32)) + (S.2.1 x1 ((L 1) + (L 4) : Int32).toNatClampNeg))), (0, .ref (ad (shC.1.length + x1))), (1, .int (L 1)), (2, .int (L 2)), (4, .int (L 4))]) hx hb d_MM_hashOf_22 rfl hl (by decide) rfl (fun ls hl => ?_)
        refine lv_iinc (k := 4) (v := (L 4) + 1) (lv' := [(4, .int ((L 4) + 1)), (3, .int (((L 3) * (31 : Int32)) + (S.2.1 x1 ((L 1) + (L 4) : Int32).toNatClampNeg))), (0, .ref (ad (shC.1.length + x1))), (1, .int (L 1)), (2, .int (L 2))]) hx hb d_MM_hashOf_23 hl rfl rfl (by decide) rfl (fun ls hl => ?_)
        refine lv_goto (tgt := 5) hx hb d_MM_hashOf_26 (by decide) ?_
        exact (ih.2) S (upd (upd L 3 (((L 3) * (31 : Int32)) + (S.2.1 x1 ((L 1) + (L 4) : Int32).toNatClampNeg))) 4 ((L 4) + 1)) M ls H locs h (lv_sub hl [2, 3, 4, 1, 0] rfl) hP hD hS
abbrev rm_t_MM_hashOf : Room := { frames := 0, cells := 0, slots := 0, locals := 0 }
theorem t_MM_hashOf (l : Launch) (g : gG) (sz : Nat) (ad : Nat → Nat) (S : sS) (x1 : Nat) (nx1 : Nat) (v2 : Int32) (v3 : Int32) (hx1 : shC.2[x1]? = some (0, nx1)) (k : Nat) (r : Int32) (S9 : sS) (h : f_MM_hashOf x1 nx1 k 0 S (upd (upd (fun _ => 0) 1 v2) 2 v3) (fun _ => 0) = some (r, S9)) : Ci l y_MM_hashOf b_MM_hashOf 5 rm_t_MM_hashOf g [.ref (ad (shC.1.length + x1)), .int v2, .int v3] (Sw shC g ad S) sz (fun r1 w => ∃ S1 : sS, w = Sw shC g ad S1 ∧ r1 = r ∧ S1 = S9) := by
  refine startI (by decide) (Nat.le_of_ble_eq_true rfl) ?_
  intro p e s m below meth c A ls hx hb hr hml hlocks hmn hown htt hN hA hP hK hD hS hl
  exact (w_MM_hashOf hx hb hml hown htt hK hN hA x1 nx1 hx1 r S9 (fun ls H locs hP hD hS => fin_i (g := g) (ws := Sw shC g ad S9) hx hb hr hlocks (by decide +kernel) (by decide +kernel) hP hD hS ⟨_, rfl, rfl, rfl⟩ d_MM_hashOf_35) k).1 S (upd (upd (fun _ => 0) 1 v2) 2 v3) (fun _ => 0) ls _ _ h hl hP hD hS
def f_Files_lengthOf : Nat → Nat → sS → (Nat → Int32) → (Nat → Int64) → Option (Int32 × sS)
  | 0, _, _, _, _ => none
  | k + 1, 0, S, L, M => if okI ((L 1) + (1 : Int32)) 33 = true then (if okI (L 1) 33 = true then (some ((S.2.1 4 ((L 1) + (1 : Int32) : Int32).toNatClampNeg) - (S.2.1 4 (L 1 : Int32).toNatClampNeg), S)) else none) else none
  | _ + 1, _ + 1, _, _, _ => none
set_option maxHeartbeats 8000000 in
set_option maxRecDepth 100000 in
theorem w_Files_lengthOf {p : Program} {l : Launch} {e : Env} {R : Room} {s : State} {m : MethodId} {args : Array Value} {below : List Frame} {meth : Method} {c : Code} {cells slots : Nat} {Q : State → Prop} {g : gG} {A : Nat → Prop} {ad : Nat → Nat} (hx : p.tables.exec = Jvm.exec) (hb : c.code = b_Files_lengthOf) (hml : c.maxLocals = 2) (hown : s.vm.findClass "MacroMill$Files" = some m.cls) (htt : ∀ w ∈ gt, w.before args s = true) (hK : va_K g.1 classes (tysG g) s) (hN : nw s) (hA : ∀ q : Nat, s.heap.size ≤ q → A q) (r : Int32) (S9 : sS)
    (kx_15 : ∀ (ls : Array Slot) (H : Heap) (locs : List Loc), va_P g.1 classes (Sw shC g ad S9) H → va_D A (Sw shC g ad S9) → va_S A s.heap H locs → W p l e R s m args below meth c H locs cells slots Q (F0 m 15 ls [.int r])) :
    ∀ k9 : Nat, (∀ (S : sS) (L : Nat → Int32) (M : Nat → Int64) (ls : Array Slot) (H : Heap) (locs : List Loc), f_Files_lengthOf k9 0 S L M = some (r, S9) → lv_has ls 2 [(0, .ref (ad 1)), (1, .int (L 1))] → va_P g.1 classes (Sw shC g ad S) H → va_D A (Sw shC g ad S) → va_S A s.heap H locs → W p l e R s m args below meth c H locs cells slots Q (F0 m 0 ls [])) := by
  intro k9
  induction k9 with
  | zero => exact (fun _ _ _ _ _ _ h => by simp [f_Files_lengthOf] at h)
  | succ k9 ih =>
    · intro S L M ls H locs h hl hP hD hS
      simp only [f_Files_lengthOf] at h
      refine lv_aload_n hx hb d_Files_lengthOf_0 rfl (lv_at hl 0 rfl) ?_
      refine S_getR (h := shC) (C := "MacroMill$Files") (T := F_Files) hx hb htt in_Files hown hK hP 1 3 rfl 17 rfl rfl (by decide) (htt _ k_308) (fun _ h9 => h9) d_Files_lengthOf_1 ?_
      refine lv_iload_n hx hb d_Files_lengthOf_4 rfl (lv_at hl 1 rfl) ?_
      refine lv_iconst (v := 1) hx hb d_Files_lengthOf_5 (by decide) ?_
      refine lv_iadd hx hb d_Files_lengthOf_6 ?_
      obtain ⟨hv1, h⟩ := chk h
      refine S_iald (h := shC) (i := (L 1) + (1 : Int32)) hx hb hK hP 4 rfl (okI_in hv1) d_Files_lengthOf_7 ?_
      refine lv_aload_n hx hb d_Files_lengthOf_8 rfl (lv_at hl 0 rfl) ?_
      refine S_getR (h := shC) (C := "MacroMill$Files") (T := F_Files) hx hb htt in_Files hown hK hP 1 3 rfl 17 rfl rfl (by decide) (htt _ k_308) (fun _ h9 => h9) d_Files_lengthOf_9 ?_
      refine lv_iload_n hx hb d_Files_lengthOf_12 rfl (lv_at hl 1 rfl) ?_
      obtain ⟨hv2, h⟩ := chk h
      refine S_iald (h := shC) (i := L 1) hx hb hK hP 4 rfl (okI_in hv2) d_Files_lengthOf_13 ?_
      refine lv_isub hx hb d_Files_lengthOf_14 ?_
      cases h
      exact kx_15 ls H locs hP hD hS
abbrev rm_t_Files_lengthOf : Room := { frames := 0, cells := 0, slots := 0, locals := 0 }
theorem t_Files_lengthOf (l : Launch) (g : gG) (sz : Nat) (ad : Nat → Nat) (S : sS) (v1 : Int32) (k : Nat) (r : Int32) (S9 : sS) (h : f_Files_lengthOf k 0 S (upd (fun _ => 0) 1 v1) (fun _ => 0) = some (r, S9)) : Ci l y_Files_lengthOf b_Files_lengthOf 2 rm_t_Files_lengthOf g [.ref (ad 1), .int v1] (Sw shC g ad S) sz (fun r1 w => ∃ S1 : sS, w = Sw shC g ad S1 ∧ r1 = r ∧ S1 = S9) := by
  refine startI (by decide) (Nat.le_of_ble_eq_true rfl) ?_
  intro p e s m below meth c A ls hx hb hr hml hlocks hmn hown htt hN hA hP hK hD hS hl
  exact (w_Files_lengthOf hx hb hml hown htt hK hN hA r S9 (fun ls H locs hP hD hS => fin_i (g := g) (ws := Sw shC g ad S9) hx hb hr hlocks (by decide +kernel) (by decide +kernel) hP hD hS ⟨_, rfl, rfl, rfl⟩ d_Files_lengthOf_15) k) S (upd (fun _ => 0) 1 v1) (fun _ => 0) ls _ _ h hl hP hD hS
def f_Files_find (x1 : Nat) (nx1 : Nat) : Nat → Nat → sS → (Nat → Int32) → (Nat → Int64) → Option (Int32 × sS)
  | 0, _, _, _, _ => none
  | k + 1, 0, S, L, M => f_Files_find x1 nx1 k 1 S (upd L 3 (0 : Int32)) M
  | k + 1, 1, S, L, M => if (S.1 1 4) ≤ (L 3) then (some (((-1) : Int32), S)) else (if okI (L 3) 32 = true then (if (S.2.1 3 (L 3 : Int32).toNatClampNeg) = (L 2) then ((f_MM_areSame 2 2048 x1 nx1 k 0 S (upd (upd (upd (fun _ => 0) 1 ((L 3) * (64 : Int32) : Int32)) 3 (0 : Int32)) 4 (L 2 : Int32)) (fun _ => 0)).bind (fun (r4, T4) => if r4 = (0 : Int32) then (f_Files_find x1 nx1 k 2 T4 L M) else (some (L 3, T4)))) else (f_Files_find x1 nx1 k 2 S L M)) else none)
  | k + 1, 2, S, L, M => f_Files_find x1 nx1 k 1 S (upd L 3 ((L 3) + 1)) M
  | _ + 1, _ + 3, _, _, _ => none
set_option maxHeartbeats 8000000 in
set_option maxRecDepth 100000 in
theorem w_Files_find {p : Program} {l : Launch} {e : Env} {R : Room} {s : State} {m : MethodId} {args : Array Value} {below : List Frame} {meth : Method} {c : Code} {cells slots : Nat} {Q : State → Prop} {g : gG} {A : Nat → Prop} {ad : Nat → Nat} (hx : p.tables.exec = Jvm.exec) (hb : c.code = b_Files_find) (hml : c.maxLocals = 4) (hown : s.vm.findClass "MacroMill$Files" = some m.cls) (htt : ∀ w ∈ gt, w.before args s = true) (hK : va_K g.1 classes (tysG g) s) (hN : nw s) (hA : ∀ q : Nat, s.heap.size ≤ q → A q) (hRf : 1 ≤ R.frames) (hRl : 25 ≤ R.locals) (hRc : cells ≤ R.cells) (hRs : slots ≤ R.slots) (x1 : Nat) (nx1 : Nat) (hx1 : shC.2[x1]? = some (0, nx1)) (r : Int32) (S9 : sS)
    (kx_38 : ∀ (ls : Array Slot) (H : Heap) (locs : List Loc), va_P g.1 classes (Sw shC g ad S9) H → va_D A (Sw shC g ad S9) → va_S A s.heap H locs → W p l e R s m args below meth c H locs cells slots Q (F0 m 38 ls [.int r]))
    (kx_46 : ∀ (ls : Array Slot) (H : Heap) (locs : List Loc), va_P g.1 classes (Sw shC g ad S9) H → va_D A (Sw shC g ad S9) → va_S A s.heap H locs → W p l e R s m args below meth c H locs cells slots Q (F0 m 46 ls [.int r])) :
    ∀ k9 : Nat, (∀ (S : sS) (L : Nat → Int32) (M : Nat → Int64) (ls : Array Slot) (H : Heap) (locs : List Loc), f_Files_find x1 nx1 k9 0 S L M = some (r, S9) → lv_has ls 4 [(0, .ref (ad 1)), (1, .ref (ad (shC.1.length + x1))), (2, .int (L 2))] → va_P g.1 classes (Sw shC g ad S) H → va_D A (Sw shC g ad S) → va_S A s.heap H locs → W p l e R s m args below meth c H locs cells slots Q (F0 m 0 ls [])) ∧ (∀ (S : sS) (L : Nat → Int32) (M : Nat → Int64) (ls : Array Slot) (H : Heap) (locs : List Loc), f_Files_find x1 nx1 k9 1 S L M = some (r, S9) → lv_has ls 4 [(0, .ref (ad 1)), (1, .ref (ad (shC.1.length + x1))), (2, .int (L 2)), (3, .int (L 3))] → va_P g.1 classes (Sw shC g ad S) H → va_D A (Sw shC g ad S) → va_S A s.heap H locs → W p l e R s m args below meth c H locs cells slots Q (F0 m 2 ls [])) ∧ (∀ (S : sS) (L : Nat → Int32) (M : Nat → Int64) (ls : Array Slot) (H : Heap) (locs : List Loc), f_Files_find x1 nx1 k9 2 S L M = some (r, S9) → lv_has ls 4 [(0, .ref (ad 1)), (1, .ref (ad (shC.1.length + x1))), (2, .int (L 2)), (3, .int (L 3))] → va_P g.1 classes (Sw shC g ad S) H → va_D A (Sw shC g ad S) → va_S A s.heap H locs → W p l e R s m args below meth c H locs cells slots Q (F0 m 39 ls [])) := by
  intro k9
  induction k9 with
  | zero => exact ⟨(fun _ _ _ _ _ _ h => by simp [f_Files_find] at h), (fun _ _ _ _ _ _ h => by simp [f_Files_find] at h), (fun _ _ _ _ _ _ h => by simp [f_Files_find] at h)⟩
  | succ k9 ih =>
    refine ⟨?_, ?_, ?_⟩
    · intro S L M ls H locs h hl hP hD hS
      simp only [f_Files_find] at h
      refine lv_iconst (v := 0) hx hb d_Files_find_0 (by decide) ?_
      refine lv_istore_n (lv' := [(3, .int 0), (0, .ref (ad 1)), (1, .ref (ad (shC.1.length + x1))), (2, .int (L 2))]) hx hb d_Files_find_1 rfl hl (by decide) rfl (fun ls hl => ?_)
      exact (ih.2.1) S (upd L 3 (0 : Int32)) M ls H locs h (lv_sub hl [1, 2, 3, 0] rfl) hP hD hS
    · intro S L M ls H locs h hl hP hD hS
      simp only [f_Files_find] at h
      refine lv_iload_n hx hb d_Files_find_2 rfl (lv_at hl 3 rfl) ?_
      refine lv_aload_n hx hb d_Files_find_3 rfl (lv_at hl 0 rfl) ?_
      refine S_getI (h := shC) (C := "MacroMill$Files") (T := F_Files) hx hb htt in_Files hown hK hP 1 4 rfl rfl rfl (by decide) (htt _ k_311) (fun _ h9 => h9) d_Files_find_4 ?_
      refine lv_icmp_ge (tgt := 45) hx hb d_Files_find_7 (by decide) (fun hc1 => ?_) (fun hc1 => ?_)
      · rw [if_pos hc1] at h
        refine lv_iconst (v := (-1)) hx hb d_Files_find_45 (by decide) ?_
        cases h
        exact kx_46 ls H locs hP hD hS
      · rw [if_neg hc1] at h
        refine lv_aload_n hx hb d_Files_find_10 rfl (lv_at hl 0 rfl) ?_
        refine S_getR (h := shC) (C := "MacroMill$Files") (T := F_Files) hx hb htt in_Files hown hK hP 1 2 rfl 16 rfl rfl (by decide) (htt _ k_306) (fun _ h9 => h9) d_Files_find_11 ?_
        refine lv_iload_n hx hb d_Files_find_14 rfl (lv_at hl 3 rfl) ?_
        obtain ⟨hv2, h⟩ := chk h
        refine S_iald (h := shC) (i := L 3) hx hb hK hP 3 rfl (okI_in hv2) d_Files_find_15 ?_
        refine lv_iload_n hx hb d_Files_find_16 rfl (lv_at hl 2 rfl) ?_
        refine lv_icmp_ne (tgt := 39) hx hb d_Files_find_17 (by decide) (fun hc3 => ?_) (fun hc3 => ?_)
        · rw [if_neg hc3] at h
          exact (ih.2.2) S L M ls H locs h (lv_sub hl [0, 1, 2, 3] rfl) hP hD hS
        · rw [if_pos hc3] at h
          refine lv_aload_n hx hb d_Files_find_20 rfl (lv_at hl 0 rfl) ?_
          refine S_getR (h := shC) (C := "MacroMill$Files") (T := F_Files) hx hb htt in_Files hown hK hP 1 1 rfl 15 rfl rfl (by decide) (htt _ k_304) (fun _ h9 => h9) d_Files_find_21 ?_
          refine lv_iload_n hx hb d_Files_find_24 rfl (lv_at hl 3 rfl) ?_
          show W _ _ _ _ _ _ _ _ _ _ _ _ _ _ _ (F0 _ 25 _ _)
          refine lv_bipush (v := 64) hx hb d_Files_find_25 (by decide) ?_
          refine lv_imul hx hb d_Files_find_27 ?_
          refine lv_aload_n hx hb d_Files_find_28 rfl (lv_at hl 1 rfl) ?_
          refine lv_iconst (v := 0) hx hb d_Files_find_29 (by decide) ?_
          refine lv_iload_n hx hb d_Files_find_30 rfl (lv_at hl 2 rfl) ?_
          obtain ⟨⟨r4, T4⟩, hq4, h⟩ := Option.bind_eq_some_iff.mp h
          try dsimp only at h
          refine go_iS (As := [.ref (ad 15), .int ((L 3) * (64 : Int32)), .ref (ad (shC.1.length + x1)), .int 0, .int (L 2)]) (g := g) (A := A) (h := shC) hP hK hD hS hA hN (fun hp => va_runSN (As := [.ref (ad 15), .int ((L 3) * (64 : Int32)), .ref (ad (shC.1.length + x1)), .int 0, .int (L 2)]) (rest := []) ⟨hx, hb, hml, hown, htt⟩ (t_MM_areSame l g _ ad S 2 2048 x1 nx1 ((L 3) * (64 : Int32) : Int32) (0 : Int32) (L 2 : Int32) rfl hx1 k9 r4 T4 hq4) ⟨(cb_N (host := "MacroMill") htt k_1012 k_262 hN nM_5 hd_MM_areSame ⟨(Nat.le_trans (by decide +kernel) hRf), (Nat.le_trans (by decide +kernel) hRl)⟩), htt _ k_1011, trivial⟩ hp rfl rfl hl.1 rfl (lv_room (Nat.le_of_ble_eq_true rfl)) d_Files_find_31 ⟨hRc, hRs⟩) (fun r0 Sn H locs hw9 hP hD hS => ?_)
          obtain ⟨e9, e8⟩ := hw9
          rw [e8] at hP hD
          refine W.widen (k := cells) (n := slots) (Nat.le_refl _) (Nat.le_refl _) ?_
          refine toI (y := r4) e9 ?_
          refine lv_if_eq (tgt := 39) hx hb d_Files_find_34 (by decide) (fun hc5 => ?_) (fun hc5 => ?_)
          · rw [if_pos hc5] at h
            exact (ih.2.2) T4 L M ls H locs h (lv_sub hl [0, 1, 2, 3] rfl) hP hD hS
          · rw [if_neg hc5] at h
            refine lv_iload_n hx hb d_Files_find_37 rfl (lv_at hl 3 rfl) ?_
            cases h
            exact kx_38 ls H locs hP hD hS
    · intro S L M ls H locs h hl hP hD hS
      simp only [f_Files_find] at h
      refine lv_iinc (k := 3) (v := (L 3) + 1) (lv' := [(3, .int ((L 3) + 1)), (0, .ref (ad 1)), (1, .ref (ad (shC.1.length + x1))), (2, .int (L 2))]) hx hb d_Files_find_39 hl rfl rfl (by decide) rfl (fun ls hl => ?_)
      refine lv_goto (tgt := 2) hx hb d_Files_find_42 (by decide) ?_
      exact (ih.2.1) S (upd L 3 ((L 3) + 1)) M ls H locs h (lv_sub hl [1, 2, 3, 0] rfl) hP hD hS
abbrev rm_t_Files_find : Room := { frames := 1, cells := 0, slots := 0, locals := 25 }
theorem t_Files_find (l : Launch) (g : gG) (sz : Nat) (ad : Nat → Nat) (S : sS) (x1 : Nat) (nx1 : Nat) (v2 : Int32) (hx1 : shC.2[x1]? = some (0, nx1)) (k : Nat) (r : Int32) (S9 : sS) (h : f_Files_find x1 nx1 k 0 S (upd (fun _ => 0) 2 v2) (fun _ => 0) = some (r, S9)) : Ci l y_Files_find b_Files_find 4 rm_t_Files_find g [.ref (ad 1), .ref (ad (shC.1.length + x1)), .int v2] (Sw shC g ad S) sz (fun r1 w => ∃ S1 : sS, w = Sw shC g ad S1 ∧ r1 = r ∧ S1 = S9) := by
  refine startI (by decide) (Nat.le_of_ble_eq_true rfl) ?_
  intro p e s m below meth c A ls hx hb hr hml hlocks hmn hown htt hN hA hP hK hD hS hl
  exact (w_Files_find hx hb hml hown htt hK hN hA (by decide +kernel) (by decide +kernel) (by decide +kernel) (by decide +kernel) x1 nx1 hx1 r S9 (fun ls H locs hP hD hS => fin_i (g := g) (ws := Sw shC g ad S9) hx hb hr hlocks (by decide +kernel) (by decide +kernel) hP hD hS ⟨_, rfl, rfl, rfl⟩ d_Files_find_38) (fun ls H locs hP hD hS => fin_i (g := g) (ws := Sw shC g ad S9) hx hb hr hlocks (by decide +kernel) (by decide +kernel) hP hD hS ⟨_, rfl, rfl, rfl⟩ d_Files_find_46) k).1 S (upd (fun _ => 0) 2 v2) (fun _ => 0) ls _ _ h hl hP hD hS
def f_Outcome_begin : Nat → Nat → sS → (Nat → Int32) → (Nat → Int64) → Option (Int32 × sS)
  | 0, _, _, _, _ => none
  | k + 1, 0, S, L, M => some ((0 : Int32), (putI (putI (putI (putI (putI (putI (putI (putI (putI S 2 1 0) 2 2 0) 2 3 0) 2 4 0) 2 5 (L 1)) 2 6 0) 2 7 0) 2 8 0) 2 9 0))
  | _ + 1, _ + 1, _, _, _ => none
set_option maxHeartbeats 8000000 in
set_option maxRecDepth 100000 in
theorem w_Outcome_begin {p : Program} {l : Launch} {e : Env} {R : Room} {s : State} {m : MethodId} {args : Array Value} {below : List Frame} {meth : Method} {c : Code} {cells slots : Nat} {Q : State → Prop} {g : gG} {A : Nat → Prop} {ad : Nat → Nat} (hx : p.tables.exec = Jvm.exec) (hb : c.code = b_Outcome_begin) (hml : c.maxLocals = 2) (hown : s.vm.findClass "MacroMill$Outcome" = some m.cls) (htt : ∀ w ∈ gt, w.before args s = true) (hK : va_K g.1 classes (tysG g) s) (hN : nw s) (hA : ∀ q : Nat, s.heap.size ≤ q → A q) (r : Int32) (S9 : sS)
    (kx_45 : ∀ (ls : Array Slot) (H : Heap) (locs : List Loc), va_P g.1 classes (Sw shC g ad S9) H → va_D A (Sw shC g ad S9) → va_S A s.heap H locs → W p l e R s m args below meth c H locs cells slots Q (F0 m 45 ls [])) :
    ∀ k9 : Nat, (∀ (S : sS) (L : Nat → Int32) (M : Nat → Int64) (ls : Array Slot) (H : Heap) (locs : List Loc), f_Outcome_begin k9 0 S L M = some (r, S9) → lv_has ls 2 [(0, .ref (ad 2)), (1, .int (L 1))] → va_P g.1 classes (Sw shC g ad S) H → va_D A (Sw shC g ad S) → va_S A s.heap H locs → W p l e R s m args below meth c H locs cells slots Q (F0 m 0 ls [])) := by
  intro k9
  induction k9 with
  | zero => exact (fun _ _ _ _ _ _ h => by simp [f_Outcome_begin] at h)
  | succ k9 ih =>
    · intro S L M ls H locs h hl hP hD hS
      simp only [f_Outcome_begin] at h
      refine lv_aload_n hx hb d_Outcome_begin_0 rfl (lv_at hl 0 rfl) ?_
      refine lv_iconst (v := 0) hx hb d_Outcome_begin_1 (by decide) ?_
      refine S_put (h := shC) (C := "MacroMill$Outcome") (T := F_Outcome) (v := 0) hx hb htt in_Outcome t_Outcome t_Outcome_ok n_Outcome hown hK hP hD hS 2 1 rfl rfl rfl (by decide) (htt _ k_338) (fun _ h9 => h9) rfl rfl rfl d_Outcome_begin_2 (fun H locs hP hD hS => ?_)
      refine lv_aload_n hx hb d_Outcome_begin_5 rfl (lv_at hl 0 rfl) ?_
      refine lv_iconst (v := 0) hx hb d_Outcome_begin_6 (by decide) ?_
      refine S_put (h := shC) (C := "MacroMill$Outcome") (T := F_Outcome) (v := 0) hx hb htt in_Outcome t_Outcome t_Outcome_ok n_Outcome hown hK hP hD hS 2 2 rfl rfl rfl (by decide) (htt _ k_343) (fun _ h9 => h9) rfl rfl rfl d_Outcome_begin_7 (fun H locs hP hD hS => ?_)
      refine lv_aload_n hx hb d_Outcome_begin_10 rfl (lv_at hl 0 rfl) ?_
      refine lv_iconst (v := 0) hx hb d_Outcome_begin_11 (by decide) ?_
      refine S_put (h := shC) (C := "MacroMill$Outcome") (T := F_Outcome) (v := 0) hx hb htt in_Outcome t_Outcome t_Outcome_ok n_Outcome hown hK hP hD hS 2 3 rfl rfl rfl (by decide) (htt _ k_345) (fun _ h9 => h9) rfl rfl rfl d_Outcome_begin_12 (fun H locs hP hD hS => ?_)
      refine lv_aload_n hx hb d_Outcome_begin_15 rfl (lv_at hl 0 rfl) ?_
      refine lv_iconst (v := 0) hx hb d_Outcome_begin_16 (by decide) ?_
      show W _ _ _ _ _ _ _ _ _ _ _ _ _ _ _ (F0 _ 17 _ _)
      refine S_put (h := shC) (C := "MacroMill$Outcome") (T := F_Outcome) (v := 0) hx hb htt in_Outcome t_Outcome t_Outcome_ok n_Outcome hown hK hP hD hS 2 4 rfl rfl rfl (by decide) (htt _ k_347) (fun _ h9 => h9) rfl rfl rfl d_Outcome_begin_17 (fun H locs hP hD hS => ?_)
      refine lv_aload_n hx hb d_Outcome_begin_20 rfl (lv_at hl 0 rfl) ?_
      refine lv_iload_n hx hb d_Outcome_begin_21 rfl (lv_at hl 1 rfl) ?_
      refine S_put (h := shC) (C := "MacroMill$Outcome") (T := F_Outcome) (v := L 1) hx hb htt in_Outcome t_Outcome t_Outcome_ok n_Outcome hown hK hP hD hS 2 5 rfl rfl rfl (by decide) (htt _ k_349) (fun _ h9 => h9) rfl rfl rfl d_Outcome_begin_22 (fun H locs hP hD hS => ?_)
      refine lv_aload_n hx hb d_Outcome_begin_25 rfl (lv_at hl 0 rfl) ?_
      refine lv_iconst (v := 0) hx hb d_Outcome_begin_26 (by decide) ?_
      refine S_put (h := shC) (C := "MacroMill$Outcome") (T := F_Outcome) (v := 0) hx hb htt in_Outcome t_Outcome t_Outcome_ok n_Outcome hown hK hP hD hS 2 6 rfl rfl rfl (by decide) (htt _ k_351) (fun _ h9 => h9) rfl rfl rfl d_Outcome_begin_27 (fun H locs hP hD hS => ?_)
      refine lv_aload_n hx hb d_Outcome_begin_30 rfl (lv_at hl 0 rfl) ?_
      refine lv_iconst (v := 0) hx hb d_Outcome_begin_31 (by decide) ?_
      refine S_put (h := shC) (C := "MacroMill$Outcome") (T := F_Outcome) (v := 0) hx hb htt in_Outcome t_Outcome t_Outcome_ok n_Outcome hown hK hP hD hS 2 7 rfl rfl rfl (by decide) (htt _ k_354) (fun _ h9 => h9) rfl rfl rfl d_Outcome_begin_32 (fun H locs hP hD hS => ?_)
      refine lv_aload_n hx hb d_Outcome_begin_35 rfl (lv_at hl 0 rfl) ?_
      refine lv_iconst (v := 0) hx hb d_Outcome_begin_36 (by decide) ?_
      show W _ _ _ _ _ _ _ _ _ _ _ _ _ _ _ (F0 _ 37 _ _)
      refine S_put (h := shC) (C := "MacroMill$Outcome") (T := F_Outcome) (v := 0) hx hb htt in_Outcome t_Outcome t_Outcome_ok n_Outcome hown hK hP hD hS 2 8 rfl rfl rfl (by decide) (htt _ k_358) (fun _ h9 => h9) rfl rfl rfl d_Outcome_begin_37 (fun H locs hP hD hS => ?_)
      refine lv_aload_n hx hb d_Outcome_begin_40 rfl (lv_at hl 0 rfl) ?_
      refine lv_iconst (v := 0) hx hb d_Outcome_begin_41 (by decide) ?_
      refine S_put (h := shC) (C := "MacroMill$Outcome") (T := F_Outcome) (v := 0) hx hb htt in_Outcome t_Outcome t_Outcome_ok n_Outcome hown hK hP hD hS 2 9 rfl rfl rfl (by decide) (htt _ k_361) (fun _ h9 => h9) rfl rfl rfl d_Outcome_begin_42 (fun H locs hP hD hS => ?_)
      cases h
      exact kx_45 ls H locs hP hD hS
abbrev rm_t_Outcome_begin : Room := { frames := 0, cells := 0, slots := 0, locals := 0 }
theorem t_Outcome_begin (l : Launch) (g : gG) (sz : Nat) (ad : Nat → Nat) (S : sS) (v1 : Int32) (k : Nat) (r : Int32) (S9 : sS) (h : f_Outcome_begin k 0 S (upd (fun _ => 0) 1 v1) (fun _ => 0) = some (r, S9)) : Cv l y_Outcome_begin b_Outcome_begin 2 rm_t_Outcome_begin g [.ref (ad 2), .int v1] (Sw shC g ad S) sz (fun w => ∃ S1 : sS, w = Sw shC g ad S1 ∧ S1 = S9) := by
  refine startV (by decide) (Nat.le_of_ble_eq_true rfl) ?_
  intro p e s m below meth c A ls hx hb hr hml hlocks hmn hown htt hN hA hP hK hD hS hl
  exact (w_Outcome_begin hx hb hml hown htt hK hN hA r S9 (fun ls H locs hP hD hS => fin_v (g := g) (ws := Sw shC g ad S9) hx hb hr hlocks (by decide +kernel) (by decide +kernel) hP hD hS ⟨_, rfl, rfl⟩ d_Outcome_begin_45) k) S (upd (fun _ => 0) 1 v1) (fun _ => 0) ls _ _ h hl hP hD hS
def f_Outcome_isFine : Nat → Nat → sS → (Nat → Int32) → (Nat → Int64) → Option (Int32 × sS)
  | 0, _, _, _, _ => none
  | k + 1, 0, S, L, M => if (S.1 2 2) = (0 : Int32) then (f_Outcome_isFine k 1 S (upd L 100 (1 : Int32)) M) else (f_Outcome_isFine k 1 S (upd L 100 (0 : Int32)) M)
  | k + 1, 1, S, L, M => if bz (L 100) = true then some (L 100, S) else none
  | _ + 1, _ + 2, _, _, _ => none
set_option maxHeartbeats 8000000 in
set_option maxRecDepth 100000 in
theorem w_Outcome_isFine {p : Program} {l : Launch} {e : Env} {R : Room} {s : State} {m : MethodId} {args : Array Value} {below : List Frame} {meth : Method} {c : Code} {cells slots : Nat} {Q : State → Prop} {g : gG} {A : Nat → Prop} {ad : Nat → Nat} (hx : p.tables.exec = Jvm.exec) (hb : c.code = b_Outcome_isFine) (hml : c.maxLocals = 1) (hown : s.vm.findClass "MacroMill$Outcome" = some m.cls) (htt : ∀ w ∈ gt, w.before args s = true) (hK : va_K g.1 classes (tysG g) s) (hN : nw s) (hA : ∀ q : Nat, s.heap.size ≤ q → A q) (r : Int32) (S9 : sS)
    (kx_12 : ∀ (ls : Array Slot) (H : Heap) (locs : List Loc), narrow .boolean (.int r) = .int r → va_P g.1 classes (Sw shC g ad S9) H → va_D A (Sw shC g ad S9) → va_S A s.heap H locs → W p l e R s m args below meth c H locs cells slots Q (F0 m 12 ls [.int r])) :
    ∀ k9 : Nat, (∀ (S : sS) (L : Nat → Int32) (M : Nat → Int64) (ls : Array Slot) (H : Heap) (locs : List Loc), f_Outcome_isFine k9 0 S L M = some (r, S9) → lv_has ls 1 [(0, .ref (ad 2))] → va_P g.1 classes (Sw shC g ad S) H → va_D A (Sw shC g ad S) → va_S A s.heap H locs → W p l e R s m args below meth c H locs cells slots Q (F0 m 0 ls [])) ∧ (∀ (S : sS) (L : Nat → Int32) (M : Nat → Int64) (ls : Array Slot) (H : Heap) (locs : List Loc), f_Outcome_isFine k9 1 S L M = some (r, S9) → lv_has ls 1 [(0, .ref (ad 2))] → va_P g.1 classes (Sw shC g ad S) H → va_D A (Sw shC g ad S) → va_S A s.heap H locs → W p l e R s m args below meth c H locs cells slots Q (F0 m 12 ls [.int (L 100)])) := by
  intro k9
  induction k9 with
  | zero => exact ⟨(fun _ _ _ _ _ _ h => by simp [f_Outcome_isFine] at h), (fun _ _ _ _ _ _ h => by simp [f_Outcome_isFine] at h)⟩
  | succ k9 ih =>
    refine ⟨?_, ?_⟩
    · intro S L M ls H locs h hl hP hD hS
      simp only [f_Outcome_isFine] at h
      refine lv_aload_n hx hb d_Outcome_isFine_0 rfl (lv_at hl 0 rfl) ?_
      refine S_getI (h := shC) (C := "MacroMill$Outcome") (T := F_Outcome) hx hb htt in_Outcome hown hK hP 2 2 rfl rfl rfl (by decide) (htt _ k_343) (fun _ h9 => h9) d_Outcome_isFine_1 ?_
      refine lv_if_ne (tgt := 11) hx hb d_Outcome_isFine_4 (by decide) (fun hc1 => ?_) (fun hc1 => ?_)
      · rw [if_neg hc1] at h
        refine lv_iconst (v := 0) hx hb d_Outcome_isFine_11 (by decide) ?_
        exact (ih.2) S (upd L 100 (0 : Int32)) M ls H locs h (lv_sub hl [0] rfl) hP hD hS
      · rw [if_pos hc1] at h
        refine lv_iconst (v := 1) hx hb d_Outcome_isFine_7 (by decide) ?_
        refine lv_goto (tgt := 12) hx hb d_Outcome_isFine_8 (by decide) ?_
        exact (ih.2) S (upd L 100 (1 : Int32)) M ls H locs h (lv_sub hl [0] rfl) hP hD hS
    · intro S L M ls H locs h hl hP hD hS
      simp only [f_Outcome_isFine] at h
      obtain ⟨hv1, h⟩ := chk h
      cases h
      exact kx_12 ls H locs (bz_n hv1) hP hD hS
abbrev rm_t_Outcome_isFine : Room := { frames := 0, cells := 0, slots := 0, locals := 0 }
theorem t_Outcome_isFine (l : Launch) (g : gG) (sz : Nat) (ad : Nat → Nat) (S : sS) (k : Nat) (r : Int32) (S9 : sS) (h : f_Outcome_isFine k 0 S (fun _ => 0) (fun _ => 0) = some (r, S9)) : Cz l y_Outcome_isFine b_Outcome_isFine 1 rm_t_Outcome_isFine g [.ref (ad 2)] (Sw shC g ad S) sz (fun r1 w => ∃ S1 : sS, w = Sw shC g ad S1 ∧ r1 = r ∧ S1 = S9) := by
  refine startZ (by decide) (Nat.le_of_ble_eq_true rfl) ?_
  intro p e s m below meth c A ls hx hb hr hml hlocks hmn hown htt hN hA hP hK hD hS hl
  exact (w_Outcome_isFine hx hb hml hown htt hK hN hA r S9 (fun ls H locs hz hP hD hS => fin_z (g := g) (ws := Sw shC g ad S9) hx hb hr hlocks hz (by decide +kernel) (by decide +kernel) hP hD hS ⟨_, rfl, rfl, rfl⟩ d_Outcome_isFine_12) k).1 S (fun _ => 0) (fun _ => 0) ls _ _ h hl hP hD hS
def f_Outcome_fail : Nat → Nat → sS → (Nat → Int32) → (Nat → Int64) → Option (Int32 × sS)
  | 0, _, _, _, _ => none
  | k + 1, 0, S, L, M => if (S.1 2 2) = (0 : Int32) then (f_Outcome_fail k 1 (putI (putI (putI S 2 2 (L 1)) 2 3 (S.1 2 5)) 2 4 (L 2)) L M) else (f_Outcome_fail k 1 S L M)
  | k + 1, 1, S, L, M => some ((0 : Int32), S)
  | _ + 1, _ + 2, _, _, _ => none
set_option maxHeartbeats 8000000 in
set_option maxRecDepth 100000 in
theorem w_Outcome_fail {p : Program} {l : Launch} {e : Env} {R : Room} {s : State} {m : MethodId} {args : Array Value} {below : List Frame} {meth : Method} {c : Code} {cells slots : Nat} {Q : State → Prop} {g : gG} {A : Nat → Prop} {ad : Nat → Nat} (hx : p.tables.exec = Jvm.exec) (hb : c.code = b_Outcome_fail) (hml : c.maxLocals = 3) (hown : s.vm.findClass "MacroMill$Outcome" = some m.cls) (htt : ∀ w ∈ gt, w.before args s = true) (hK : va_K g.1 classes (tysG g) s) (hN : nw s) (hA : ∀ q : Nat, s.heap.size ≤ q → A q) (r : Int32) (S9 : sS)
    (kx_25 : ∀ (ls : Array Slot) (H : Heap) (locs : List Loc), va_P g.1 classes (Sw shC g ad S9) H → va_D A (Sw shC g ad S9) → va_S A s.heap H locs → W p l e R s m args below meth c H locs cells slots Q (F0 m 25 ls [])) :
    ∀ k9 : Nat, (∀ (S : sS) (L : Nat → Int32) (M : Nat → Int64) (ls : Array Slot) (H : Heap) (locs : List Loc), f_Outcome_fail k9 0 S L M = some (r, S9) → lv_has ls 3 [(0, .ref (ad 2)), (1, .int (L 1)), (2, .int (L 2))] → va_P g.1 classes (Sw shC g ad S) H → va_D A (Sw shC g ad S) → va_S A s.heap H locs → W p l e R s m args below meth c H locs cells slots Q (F0 m 0 ls [])) ∧ (∀ (S : sS) (L : Nat → Int32) (M : Nat → Int64) (ls : Array Slot) (H : Heap) (locs : List Loc), f_Outcome_fail k9 1 S L M = some (r, S9) → lv_has ls 3 [(0, .ref (ad 2)), (1, .int (L 1)), (2, .int (L 2))] → va_P g.1 classes (Sw shC g ad S) H → va_D A (Sw shC g ad S) → va_S A s.heap H locs → W p l e R s m args below meth c H locs cells slots Q (F0 m 25 ls [])) := by
  intro k9
  induction k9 with
  | zero => exact ⟨(fun _ _ _ _ _ _ h => by simp [f_Outcome_fail] at h), (fun _ _ _ _ _ _ h => by simp [f_Outcome_fail] at h)⟩
  | succ k9 ih =>
    refine ⟨?_, ?_⟩
    · intro S L M ls H locs h hl hP hD hS
      simp only [f_Outcome_fail] at h
      refine lv_aload_n hx hb d_Outcome_fail_0 rfl (lv_at hl 0 rfl) ?_
      refine S_getI (h := shC) (C := "MacroMill$Outcome") (T := F_Outcome) hx hb htt in_Outcome hown hK hP 2 2 rfl rfl rfl (by decide) (htt _ k_343) (fun _ h9 => h9) d_Outcome_fail_1 ?_
      refine lv_if_ne (tgt := 25) hx hb d_Outcome_fail_4 (by decide) (fun hc1 => ?_) (fun hc1 => ?_)
      · rw [if_neg hc1] at h
        exact (ih.2) S L M ls H locs h (lv_sub hl [0, 1, 2] rfl) hP hD hS
      · rw [if_pos hc1] at h
        refine lv_aload_n hx hb d_Outcome_fail_7 rfl (lv_at hl 0 rfl) ?_
        refine lv_iload_n hx hb d_Outcome_fail_8 rfl (lv_at hl 1 rfl) ?_
        refine S_put (h := shC) (C := "MacroMill$Outcome") (T := F_Outcome) (v := L 1) hx hb htt in_Outcome t_Outcome t_Outcome_ok n_Outcome hown hK hP hD hS 2 2 rfl rfl rfl (by decide) (htt _ k_343) (fun _ h9 => h9) rfl rfl rfl d_Outcome_fail_9 (fun H locs hP hD hS => ?_)
        refine lv_aload_n hx hb d_Outcome_fail_12 rfl (lv_at hl 0 rfl) ?_
        refine lv_aload_n hx hb d_Outcome_fail_13 rfl (lv_at hl 0 rfl) ?_
        refine S_getI (h := shC) (C := "MacroMill$Outcome") (T := F_Outcome) hx hb htt in_Outcome hown hK hP 2 5 rfl rfl rfl (by decide) (htt _ k_349) (fun _ h9 => h9) d_Outcome_fail_14 ?_
        refine toI (y := S.1 2 5) rfl ?_
        refine S_put (h := shC) (C := "MacroMill$Outcome") (T := F_Outcome) (v := S.1 2 5) hx hb htt in_Outcome t_Outcome t_Outcome_ok n_Outcome hown hK hP hD hS 2 3 rfl rfl rfl (by decide) (htt _ k_345) (fun _ h9 => h9) rfl rfl rfl d_Outcome_fail_17 (fun H locs hP hD hS => ?_)
        refine lv_aload_n hx hb d_Outcome_fail_20 rfl (lv_at hl 0 rfl) ?_
        refine lv_iload_n hx hb d_Outcome_fail_21 rfl (lv_at hl 2 rfl) ?_
        show W _ _ _ _ _ _ _ _ _ _ _ _ _ _ _ (F0 _ 22 _ _)
        refine S_put (h := shC) (C := "MacroMill$Outcome") (T := F_Outcome) (v := L 2) hx hb htt in_Outcome t_Outcome t_Outcome_ok n_Outcome hown hK hP hD hS 2 4 rfl rfl rfl (by decide) (htt _ k_347) (fun _ h9 => h9) rfl rfl rfl d_Outcome_fail_22 (fun H locs hP hD hS => ?_)
        exact (ih.2) (putI (putI (putI S 2 2 (L 1)) 2 3 (S.1 2 5)) 2 4 (L 2)) L M ls H locs h (lv_sub hl [0, 1, 2] rfl) hP hD hS
    · intro S L M ls H locs h hl hP hD hS
      simp only [f_Outcome_fail] at h
      cases h
      exact kx_25 ls H locs hP hD hS
abbrev rm_t_Outcome_fail : Room := { frames := 0, cells := 0, slots := 0, locals := 0 }
theorem t_Outcome_fail (l : Launch) (g : gG) (sz : Nat) (ad : Nat → Nat) (S : sS) (v1 : Int32) (v2 : Int32) (k : Nat) (r : Int32) (S9 : sS) (h : f_Outcome_fail k 0 S (upd (upd (fun _ => 0) 1 v1) 2 v2) (fun _ => 0) = some (r, S9)) : Cv l y_Outcome_fail b_Outcome_fail 3 rm_t_Outcome_fail g [.ref (ad 2), .int v1, .int v2] (Sw shC g ad S) sz (fun w => ∃ S1 : sS, w = Sw shC g ad S1 ∧ S1 = S9) := by
  refine startV (by decide) (Nat.le_of_ble_eq_true rfl) ?_
  intro p e s m below meth c A ls hx hb hr hml hlocks hmn hown htt hN hA hP hK hD hS hl
  exact (w_Outcome_fail hx hb hml hown htt hK hN hA r S9 (fun ls H locs hP hD hS => fin_v (g := g) (ws := Sw shC g ad S9) hx hb hr hlocks (by decide +kernel) (by decide +kernel) hP hD hS ⟨_, rfl, rfl⟩ d_Outcome_fail_25) k).1 S (upd (upd (fun _ => 0) 1 v1) 2 v2) (fun _ => 0) ls _ _ h hl hP hD hS
def f_Reckoner_begin : Nat → Nat → sS → (Nat → Int32) → (Nat → Int64) → Option (Int32 × sS)
  | 0, _, _, _, _ => none
  | k + 1, 0, S, L, M => if bz (L 1) = true then (some ((0 : Int32), (putI (putI (putI (putI (putI (putI (putI (putI S 3 8 (L 1)) 3 2 0) 3 6 0) 3 7 0) 3 9 1) 3 10 0) 3 11 0) 3 12 0))) else none
  | _ + 1, _ + 1, _, _, _ => none
set_option maxHeartbeats 8000000 in
set_option maxRecDepth 100000 in
theorem w_Reckoner_begin {p : Program} {l : Launch} {e : Env} {R : Room} {s : State} {m : MethodId} {args : Array Value} {below : List Frame} {meth : Method} {c : Code} {cells slots : Nat} {Q : State → Prop} {g : gG} {A : Nat → Prop} {ad : Nat → Nat} (hx : p.tables.exec = Jvm.exec) (hb : c.code = b_Reckoner_begin) (hml : c.maxLocals = 2) (hown : s.vm.findClass "MacroMill$Reckoner" = some m.cls) (htt : ∀ w ∈ gt, w.before args s = true) (hK : va_K g.1 classes (tysG g) s) (hN : nw s) (hA : ∀ q : Nat, s.heap.size ≤ q → A q) (r : Int32) (S9 : sS)
    (kx_40 : ∀ (ls : Array Slot) (H : Heap) (locs : List Loc), va_P g.1 classes (Sw shC g ad S9) H → va_D A (Sw shC g ad S9) → va_S A s.heap H locs → W p l e R s m args below meth c H locs cells slots Q (F0 m 40 ls [])) :
    ∀ k9 : Nat, (∀ (S : sS) (L : Nat → Int32) (M : Nat → Int64) (ls : Array Slot) (H : Heap) (locs : List Loc), f_Reckoner_begin k9 0 S L M = some (r, S9) → lv_has ls 2 [(0, .ref (ad 3)), (1, .int (L 1))] → va_P g.1 classes (Sw shC g ad S) H → va_D A (Sw shC g ad S) → va_S A s.heap H locs → W p l e R s m args below meth c H locs cells slots Q (F0 m 0 ls [])) := by
  intro k9
  induction k9 with
  | zero => exact (fun _ _ _ _ _ _ h => by simp [f_Reckoner_begin] at h)
  | succ k9 ih =>
    · intro S L M ls H locs h hl hP hD hS
      simp only [f_Reckoner_begin] at h
      refine lv_aload_n hx hb d_Reckoner_begin_0 rfl (lv_at hl 0 rfl) ?_
      refine lv_iload_n hx hb d_Reckoner_begin_1 rfl (lv_at hl 1 rfl) ?_
      obtain ⟨hv1, h⟩ := chk h
      refine S_put (h := shC) (C := "MacroMill$Reckoner") (T := F_Reckoner) (v := L 1) hx hb htt in_Reckoner t_Reckoner t_Reckoner_ok n_Reckoner hown hK hP hD hS 3 8 rfl rfl rfl (by decide) (htt _ k_399) (fun _ h9 => h9) rfl (bz_n hv1) (bz_f hv1) d_Reckoner_begin_2 (fun H locs hP hD hS => ?_)
      refine lv_aload_n hx hb d_Reckoner_begin_5 rfl (lv_at hl 0 rfl) ?_
      refine lv_iconst (v := 0) hx hb d_Reckoner_begin_6 (by decide) ?_
      refine S_put (h := shC) (C := "MacroMill$Reckoner") (T := F_Reckoner) (v := 0) hx hb htt in_Reckoner t_Reckoner t_Reckoner_ok n_Reckoner hown hK hP hD hS 3 2 rfl rfl rfl (by decide) (htt _ k_393) (fun _ h9 => h9) rfl rfl rfl d_Reckoner_begin_7 (fun H locs hP hD hS => ?_)
      refine lv_aload_n hx hb d_Reckoner_begin_10 rfl (lv_at hl 0 rfl) ?_
      refine lv_iconst (v := 0) hx hb d_Reckoner_begin_11 (by decide) ?_
      refine S_put (h := shC) (C := "MacroMill$Reckoner") (T := F_Reckoner) (v := 0) hx hb htt in_Reckoner t_Reckoner t_Reckoner_ok n_Reckoner hown hK hP hD hS 3 6 rfl rfl rfl (by decide) (htt _ k_397) (fun _ h9 => h9) rfl rfl rfl d_Reckoner_begin_12 (fun H locs hP hD hS => ?_)
      refine lv_aload_n hx hb d_Reckoner_begin_15 rfl (lv_at hl 0 rfl) ?_
      refine lv_iconst (v := 0) hx hb d_Reckoner_begin_16 (by decide) ?_
      show W _ _ _ _ _ _ _ _ _ _ _ _ _ _ _ (F0 _ 17 _ _)
      refine S_put (h := shC) (C := "MacroMill$Reckoner") (T := F_Reckoner) (v := 0) hx hb htt in_Reckoner t_Reckoner t_Reckoner_ok n_Reckoner hown hK hP hD hS 3 7 rfl rfl rfl (by decide) (htt _ k_398) (fun _ h9 => h9) rfl rfl rfl d_Reckoner_begin_17 (fun H locs hP hD hS => ?_)
      refine lv_aload_n hx hb d_Reckoner_begin_20 rfl (lv_at hl 0 rfl) ?_
      refine lv_iconst (v := 1) hx hb d_Reckoner_begin_21 (by decide) ?_
      refine S_put (h := shC) (C := "MacroMill$Reckoner") (T := F_Reckoner) (v := 1) hx hb htt in_Reckoner t_Reckoner t_Reckoner_ok n_Reckoner hown hK hP hD hS 3 9 rfl rfl rfl (by decide) (htt _ k_400) (fun _ h9 => h9) rfl rfl rfl d_Reckoner_begin_22 (fun H locs hP hD hS => ?_)
      refine lv_aload_n hx hb d_Reckoner_begin_25 rfl (lv_at hl 0 rfl) ?_
      refine lv_iconst (v := 0) hx hb d_Reckoner_begin_26 (by decide) ?_
      refine S_put (h := shC) (C := "MacroMill$Reckoner") (T := F_Reckoner) (v := 0) hx hb htt in_Reckoner t_Reckoner t_Reckoner_ok n_Reckoner hown hK hP hD hS 3 10 rfl rfl rfl (by decide) (htt _ k_401) (fun _ h9 => h9) rfl rfl rfl d_Reckoner_begin_27 (fun H locs hP hD hS => ?_)
      refine lv_aload_n hx hb d_Reckoner_begin_30 rfl (lv_at hl 0 rfl) ?_
      refine lv_iconst (v := 0) hx hb d_Reckoner_begin_31 (by decide) ?_
      refine S_put (h := shC) (C := "MacroMill$Reckoner") (T := F_Reckoner) (v := 0) hx hb htt in_Reckoner t_Reckoner t_Reckoner_ok n_Reckoner hown hK hP hD hS 3 11 rfl rfl rfl (by decide) (htt _ k_402) (fun _ h9 => h9) rfl rfl rfl d_Reckoner_begin_32 (fun H locs hP hD hS => ?_)
      refine lv_aload_n hx hb d_Reckoner_begin_35 rfl (lv_at hl 0 rfl) ?_
      refine lv_iconst (v := 0) hx hb d_Reckoner_begin_36 (by decide) ?_
      show W _ _ _ _ _ _ _ _ _ _ _ _ _ _ _ (F0 _ 37 _ _)
      refine S_put (h := shC) (C := "MacroMill$Reckoner") (T := F_Reckoner) (v := 0) hx hb htt in_Reckoner t_Reckoner t_Reckoner_ok n_Reckoner hown hK hP hD hS 3 12 rfl rfl rfl (by decide) (htt _ k_403) (fun _ h9 => h9) rfl rfl rfl d_Reckoner_begin_37 (fun H locs hP hD hS => ?_)
      cases h
      exact kx_40 ls H locs hP hD hS
abbrev rm_t_Reckoner_begin : Room := { frames := 0, cells := 0, slots := 0, locals := 0 }
theorem t_Reckoner_begin (l : Launch) (g : gG) (sz : Nat) (ad : Nat → Nat) (S : sS) (v1 : Int32) (k : Nat) (r : Int32) (S9 : sS) (h : f_Reckoner_begin k 0 S (upd (fun _ => 0) 1 v1) (fun _ => 0) = some (r, S9)) : Cv l y_Reckoner_begin b_Reckoner_begin 2 rm_t_Reckoner_begin g [.ref (ad 3), .int v1] (Sw shC g ad S) sz (fun w => ∃ S1 : sS, w = Sw shC g ad S1 ∧ S1 = S9) := by
  refine startV (by decide) (Nat.le_of_ble_eq_true rfl) ?_
  intro p e s m below meth c A ls hx hb hr hml hlocks hmn hown htt hN hA hP hK hD hS hl
  exact (w_Reckoner_begin hx hb hml hown htt hK hN hA r S9 (fun ls H locs hP hD hS => fin_v (g := g) (ws := Sw shC g ad S9) hx hb hr hlocks (by decide +kernel) (by decide +kernel) hP hD hS ⟨_, rfl, rfl⟩ d_Reckoner_begin_40) k) S (upd (fun _ => 0) 1 v1) (fun _ => 0) ls _ _ h hl hP hD hS
def f_Reckoner_spoil : Nat → Nat → sS → (Nat → Int32) → (Nat → Int64) → Option (Int32 × sS)
  | 0, _, _, _, _ => none
  | k + 1, 0, S, L, M => some ((0 : Int32), (putI S 3 11 1))
  | _ + 1, _ + 1, _, _, _ => none
set_option maxHeartbeats 8000000 in
set_option maxRecDepth 100000 in
theorem w_Reckoner_spoil {p : Program} {l : Launch} {e : Env} {R : Room} {s : State} {m : MethodId} {args : Array Value} {below : List Frame} {meth : Method} {c : Code} {cells slots : Nat} {Q : State → Prop} {g : gG} {A : Nat → Prop} {ad : Nat → Nat} (hx : p.tables.exec = Jvm.exec) (hb : c.code = b_Reckoner_spoil) (hml : c.maxLocals = 1) (hown : s.vm.findClass "MacroMill$Reckoner" = some m.cls) (htt : ∀ w ∈ gt, w.before args s = true) (hK : va_K g.1 classes (tysG g) s) (hN : nw s) (hA : ∀ q : Nat, s.heap.size ≤ q → A q) (r : Int32) (S9 : sS)
    (kx_5 : ∀ (ls : Array Slot) (H : Heap) (locs : List Loc), va_P g.1 classes (Sw shC g ad S9) H → va_D A (Sw shC g ad S9) → va_S A s.heap H locs → W p l e R s m args below meth c H locs cells slots Q (F0 m 5 ls [])) :
    ∀ k9 : Nat, (∀ (S : sS) (L : Nat → Int32) (M : Nat → Int64) (ls : Array Slot) (H : Heap) (locs : List Loc), f_Reckoner_spoil k9 0 S L M = some (r, S9) → lv_has ls 1 [(0, .ref (ad 3))] → va_P g.1 classes (Sw shC g ad S) H → va_D A (Sw shC g ad S) → va_S A s.heap H locs → W p l e R s m args below meth c H locs cells slots Q (F0 m 0 ls [])) := by
  intro k9
  induction k9 with
  | zero => exact (fun _ _ _ _ _ _ h => by simp [f_Reckoner_spoil] at h)
  | succ k9 ih =>
    · intro S L M ls H locs h hl hP hD hS
      simp only [f_Reckoner_spoil] at h
      refine lv_aload_n hx hb d_Reckoner_spoil_0 rfl (lv_at hl 0 rfl) ?_
      refine lv_iconst (v := 1) hx hb d_Reckoner_spoil_1 (by decide) ?_
      refine S_put (h := shC) (C := "MacroMill$Reckoner") (T := F_Reckoner) (v := 1) hx hb htt in_Reckoner t_Reckoner t_Reckoner_ok n_Reckoner hown hK hP hD hS 3 11 rfl rfl rfl (by decide) (htt _ k_402) (fun _ h9 => h9) rfl rfl rfl d_Reckoner_spoil_2 (fun H locs hP hD hS => ?_)
      cases h
      exact kx_5 ls H locs hP hD hS
abbrev rm_t_Reckoner_spoil : Room := { frames := 0, cells := 0, slots := 0, locals := 0 }
theorem t_Reckoner_spoil (l : Launch) (g : gG) (sz : Nat) (ad : Nat → Nat) (S : sS) (k : Nat) (r : Int32) (S9 : sS) (h : f_Reckoner_spoil k 0 S (fun _ => 0) (fun _ => 0) = some (r, S9)) : Cv l y_Reckoner_spoil b_Reckoner_spoil 1 rm_t_Reckoner_spoil g [.ref (ad 3)] (Sw shC g ad S) sz (fun w => ∃ S1 : sS, w = Sw shC g ad S1 ∧ S1 = S9) := by
  refine startV (by decide) (Nat.le_of_ble_eq_true rfl) ?_
  intro p e s m below meth c A ls hx hb hr hml hlocks hmn hown htt hN hA hP hK hD hS hl
  exact (w_Reckoner_spoil hx hb hml hown htt hK hN hA r S9 (fun ls H locs hP hD hS => fin_v (g := g) (ws := Sw shC g ad S9) hx hb hr hlocks (by decide +kernel) (by decide +kernel) hP hD hS ⟨_, rfl, rfl⟩ d_Reckoner_spoil_5) k) S (fun _ => 0) (fun _ => 0) ls _ _ h hl hP hD hS
def f_Reckoner_hasDividedByZero : Nat → Nat → sS → (Nat → Int32) → (Nat → Int64) → Option (Int32 × sS)
  | 0, _, _, _, _ => none
  | k + 1, 0, S, L, M => if bz (S.1 3 12) = true then some (S.1 3 12, S) else none
  | _ + 1, _ + 1, _, _, _ => none
set_option maxHeartbeats 8000000 in
set_option maxRecDepth 100000 in
theorem w_Reckoner_hasDividedByZero {p : Program} {l : Launch} {e : Env} {R : Room} {s : State} {m : MethodId} {args : Array Value} {below : List Frame} {meth : Method} {c : Code} {cells slots : Nat} {Q : State → Prop} {g : gG} {A : Nat → Prop} {ad : Nat → Nat} (hx : p.tables.exec = Jvm.exec) (hb : c.code = b_Reckoner_hasDividedByZero) (hml : c.maxLocals = 1) (hown : s.vm.findClass "MacroMill$Reckoner" = some m.cls) (htt : ∀ w ∈ gt, w.before args s = true) (hK : va_K g.1 classes (tysG g) s) (hN : nw s) (hA : ∀ q : Nat, s.heap.size ≤ q → A q) (r : Int32) (S9 : sS)
    (kx_4 : ∀ (ls : Array Slot) (H : Heap) (locs : List Loc), narrow .boolean (.int r) = .int r → va_P g.1 classes (Sw shC g ad S9) H → va_D A (Sw shC g ad S9) → va_S A s.heap H locs → W p l e R s m args below meth c H locs cells slots Q (F0 m 4 ls [.int r])) :
    ∀ k9 : Nat, (∀ (S : sS) (L : Nat → Int32) (M : Nat → Int64) (ls : Array Slot) (H : Heap) (locs : List Loc), f_Reckoner_hasDividedByZero k9 0 S L M = some (r, S9) → lv_has ls 1 [(0, .ref (ad 3))] → va_P g.1 classes (Sw shC g ad S) H → va_D A (Sw shC g ad S) → va_S A s.heap H locs → W p l e R s m args below meth c H locs cells slots Q (F0 m 0 ls [])) := by
  intro k9
  induction k9 with
  | zero => exact (fun _ _ _ _ _ _ h => by simp [f_Reckoner_hasDividedByZero] at h)
  | succ k9 ih =>
    · intro S L M ls H locs h hl hP hD hS
      simp only [f_Reckoner_hasDividedByZero] at h
      refine lv_aload_n hx hb d_Reckoner_hasDividedByZero_0 rfl (lv_at hl 0 rfl) ?_
      refine S_getI (h := shC) (C := "MacroMill$Reckoner") (T := F_Reckoner) hx hb htt in_Reckoner hown hK hP 3 12 rfl rfl rfl (by decide) (htt _ k_403) (fun _ h9 => h9) d_Reckoner_hasDividedByZero_1 ?_
      obtain ⟨hv1, h⟩ := chk h
      cases h
      exact kx_4 ls H locs (bz_n hv1) hP hD hS
abbrev rm_t_Reckoner_hasDividedByZero : Room := { frames := 0, cells := 0, slots := 0, locals := 0 }
theorem t_Reckoner_hasDividedByZero (l : Launch) (g : gG) (sz : Nat) (ad : Nat → Nat) (S : sS) (k : Nat) (r : Int32) (S9 : sS) (h : f_Reckoner_hasDividedByZero k 0 S (fun _ => 0) (fun _ => 0) = some (r, S9)) : Cz l y_Reckoner_hasDividedByZero b_Reckoner_hasDividedByZero 1 rm_t_Reckoner_hasDividedByZero g [.ref (ad 3)] (Sw shC g ad S) sz (fun r1 w => ∃ S1 : sS, w = Sw shC g ad S1 ∧ r1 = r ∧ S1 = S9) := by
  refine startZ (by decide) (Nat.le_of_ble_eq_true rfl) ?_
  intro p e s m below meth c A ls hx hb hr hml hlocks hmn hown htt hN hA hP hK hD hS hl
  exact (w_Reckoner_hasDividedByZero hx hb hml hown htt hK hN hA r S9 (fun ls H locs hz hP hD hS => fin_z (g := g) (ws := Sw shC g ad S9) hx hb hr hlocks hz (by decide +kernel) (by decide +kernel) hP hD hS ⟨_, rfl, rfl, rfl⟩ d_Reckoner_hasDividedByZero_4) k) S (fun _ => 0) (fun _ => 0) ls _ _ h hl hP hD hS
def f_Reckoner_value : Nat → Nat → sS → (Nat → Int32) → (Nat → Int64) → Option (Int64 × sS)
  | 0, _, _, _, _ => none
  | k + 1, 0, S, L, M => if (S.1 3 2) = (1 : Int32) then (if okI (0) 1000 = true then (f_Reckoner_value k 1 S L (vp_updL M 100 (S.2.2 6 (0 : Int32).toNatClampNeg))) else none) else (f_Reckoner_value k 1 S L (vp_updL M 100 (0 : Int64)))
  | k + 1, 1, S, L, M => some (M 100, S)
  | _ + 1, _ + 2, _, _, _ => none
set_option maxHeartbeats 8000000 in
set_option maxRecDepth 100000 in
theorem w_Reckoner_value {p : Program} {l : Launch} {e : Env} {R : Room} {s : State} {m : MethodId} {args : Array Value} {below : List Frame} {meth : Method} {c : Code} {cells slots : Nat} {Q : State → Prop} {g : gG} {A : Nat → Prop} {ad : Nat → Nat} (hx : p.tables.exec = Jvm.exec) (hb : c.code = b_Reckoner_value) (hml : c.maxLocals = 1) (hown : s.vm.findClass "MacroMill$Reckoner" = some m.cls) (htt : ∀ w ∈ gt, w.before args s = true) (hK : va_K g.1 classes (tysG g) s) (hN : nw s) (hA : ∀ q : Nat, s.heap.size ≤ q → A q) (r : Int64) (S9 : sS)
    (kx_18 : ∀ (ls : Array Slot) (H : Heap) (locs : List Loc), va_P g.1 classes (Sw shC g ad S9) H → va_D A (Sw shC g ad S9) → va_S A s.heap H locs → W p l e R s m args below meth c H locs cells slots Q (F0 m 18 ls [.long r])) :
    ∀ k9 : Nat, (∀ (S : sS) (L : Nat → Int32) (M : Nat → Int64) (ls : Array Slot) (H : Heap) (locs : List Loc), f_Reckoner_value k9 0 S L M = some (r, S9) → lv_has ls 1 [(0, .ref (ad 3))] → va_P g.1 classes (Sw shC g ad S) H → va_D A (Sw shC g ad S) → va_S A s.heap H locs → W p l e R s m args below meth c H locs cells slots Q (F0 m 0 ls [])) ∧ (∀ (S : sS) (L : Nat → Int32) (M : Nat → Int64) (ls : Array Slot) (H : Heap) (locs : List Loc), f_Reckoner_value k9 1 S L M = some (r, S9) → lv_has ls 1 [(0, .ref (ad 3))] → va_P g.1 classes (Sw shC g ad S) H → va_D A (Sw shC g ad S) → va_S A s.heap H locs → W p l e R s m args below meth c H locs cells slots Q (F0 m 18 ls [.long (M 100)])) := by
  intro k9
  induction k9 with
  | zero => exact ⟨(fun _ _ _ _ _ _ h => by simp [f_Reckoner_value] at h), (fun _ _ _ _ _ _ h => by simp [f_Reckoner_value] at h)⟩
  | succ k9 ih =>
    refine ⟨?_, ?_⟩
    · intro S L M ls H locs h hl hP hD hS
      simp only [f_Reckoner_value] at h
      refine lv_aload_n hx hb d_Reckoner_value_0 rfl (lv_at hl 0 rfl) ?_
      refine S_getI (h := shC) (C := "MacroMill$Reckoner") (T := F_Reckoner) hx hb htt in_Reckoner hown hK hP 3 2 rfl rfl rfl (by decide) (htt _ k_393) (fun _ h9 => h9) d_Reckoner_value_1 ?_
      refine lv_iconst (v := 1) hx hb d_Reckoner_value_4 (by decide) ?_
      refine lv_icmp_ne (tgt := 17) hx hb d_Reckoner_value_5 (by decide) (fun hc1 => ?_) (fun hc1 => ?_)
      · rw [if_neg hc1] at h
        refine lv_lconst (v := 0) hx hb d_Reckoner_value_17 (by decide) ?_
        exact (ih.2) S L (vp_updL M 100 (0 : Int64)) ls H locs h (lv_sub hl [0] rfl) hP hD hS
      · rw [if_pos hc1] at h
        refine lv_aload_n hx hb d_Reckoner_value_8 rfl (lv_at hl 0 rfl) ?_
        refine S_getR (h := shC) (C := "MacroMill$Reckoner") (T := F_Reckoner) hx hb htt in_Reckoner hown hK hP 3 0 rfl 19 rfl rfl (by decide) (htt _ k_391) (fun _ h9 => h9) d_Reckoner_value_9 ?_
        refine lv_iconst (v := 0) hx hb d_Reckoner_value_12 (by decide) ?_
        obtain ⟨hv2, h⟩ := chk h
        refine S_lald (h := shC) (i := 0) hx hb hK hP 6 rfl (okI_in hv2) d_Reckoner_value_13 ?_
        refine lv_goto (tgt := 18) hx hb d_Reckoner_value_14 (by decide) ?_
        exact (ih.2) S L (vp_updL M 100 (S.2.2 6 (0 : Int32).toNatClampNeg)) ls H locs h (lv_sub hl [0] rfl) hP hD hS
    · intro S L M ls H locs h hl hP hD hS
      simp only [f_Reckoner_value] at h
      cases h
      exact kx_18 ls H locs hP hD hS
abbrev rm_t_Reckoner_value : Room := { frames := 0, cells := 0, slots := 0, locals := 0 }
theorem t_Reckoner_value (l : Launch) (g : gG) (sz : Nat) (ad : Nat → Nat) (S : sS) (k : Nat) (r : Int64) (S9 : sS) (h : f_Reckoner_value k 0 S (fun _ => 0) (fun _ => 0) = some (r, S9)) : Cl l y_Reckoner_value b_Reckoner_value 1 rm_t_Reckoner_value g [.ref (ad 3)] (Sw shC g ad S) sz (fun r1 w => ∃ S1 : sS, w = Sw shC g ad S1 ∧ r1 = r ∧ S1 = S9) := by
  refine startL (by decide) (Nat.le_of_ble_eq_true rfl) ?_
  intro p e s m below meth c A ls hx hb hr hml hlocks hmn hown htt hN hA hP hK hD hS hl
  exact (w_Reckoner_value hx hb hml hown htt hK hN hA r S9 (fun ls H locs hP hD hS => fin_l (g := g) (ws := Sw shC g ad S9) hx hb hr hlocks (by decide +kernel) (by decide +kernel) hP hD hS ⟨_, rfl, rfl, rfl⟩ d_Reckoner_value_18) k).1 S (fun _ => 0) (fun _ => 0) ls _ _ h hl hP hD hS
def f_Reckoner_push : Nat → Nat → sS → (Nat → Int32) → (Nat → Int64) → Option (Int32 × sS)
  | 0, _, _, _, _ => none
  | k + 1, 0, S, L, M => if (L 2) = (0 : Int32) then (f_Reckoner_push k 1 S L M) else (if (L 2) = (1 : Int32) then (f_Reckoner_push k 1 S L M) else (if (L 2) = (20 : Int32) then (f_Reckoner_push k 1 S L M) else (f_Reckoner_push k 2 S L M)))
  | k + 1, 1, S, L, M => f_Reckoner_push k 2 (putI S 3 7 ((S.1 3 7) + (1 : Int32))) L M
  | k + 1, 2, S, L, M => if (1000 : Int32) ≤ (S.1 3 6) then (f_Reckoner_push k 4 S L M) else (if (S.1 3 8) = (0 : Int32) then (f_Reckoner_push k 3 S (upd (upd L 101 (30 : Int32)) 100 (S.1 3 7)) M) else (f_Reckoner_push k 3 S (upd (upd L 101 (60 : Int32)) 100 (S.1 3 7)) M))
  | k + 1, 3, S, L, M => if (L 100) ≤ (L 101) then (if okI (S.1 3 6) 1000 = true then (if okI (S.1 3 6) 1000 = true then (if okI (S.1 3 6) 1000 = true then (some ((0 : Int32), (putI (putI (putA (putA (putA S 8 (S.1 3 6 : Int32).toNatClampNeg (L 1)) 9 (S.1 3 6 : Int32).toNatClampNeg (L 2)) 10 (S.1 3 6 : Int32).toNatClampNeg (vp_nar .boolean (S.1 3 10))) 3 6 ((S.1 3 6) + (1 : Int32))) 3 9 1))) else none) else none) else none) else (f_Reckoner_push k 4 S L M)
  | k + 1, 4, S, L, M => some ((0 : Int32), (putI S 3 11 1))
  | _ + 1, _ + 5, _, _, _ => none
set_option maxHeartbeats 8000000 in
set_option maxRecDepth 100000 in
theorem w_Reckoner_push {p : Program} {l : Launch} {e : Env} {R : Room} {s : State} {m : MethodId} {args : Array Value} {below : List Frame} {meth : Method} {c : Code} {cells slots : Nat} {Q : State → Prop} {g : gG} {A : Nat → Prop} {ad : Nat → Nat} (hx : p.tables.exec = Jvm.exec) (hb : c.code = b_Reckoner_push) (hml : c.maxLocals = 3) (hown : s.vm.findClass "MacroMill$Reckoner" = some m.cls) (htt : ∀ w ∈ gt, w.before args s = true) (hK : va_K g.1 classes (tysG g) s) (hN : nw s) (hA : ∀ q : Nat, s.heap.size ≤ q → A q) (r : Int32) (S9 : sS)
    (kx_61 : ∀ (ls : Array Slot) (H : Heap) (locs : List Loc), va_P g.1 classes (Sw shC g ad S9) H → va_D A (Sw shC g ad S9) → va_S A s.heap H locs → W p l e R s m args below meth c H locs cells slots Q (F0 m 61 ls []))
    (kx_110 : ∀ (ls : Array Slot) (H : Heap) (locs : List Loc), va_P g.1 classes (Sw shC g ad S9) H → va_D A (Sw shC g ad S9) → va_S A s.heap H locs → W p l e R s m args below meth c H locs cells slots Q (F0 m 110 ls [])) :
    ∀ k9 : Nat, (∀ (S : sS) (L : Nat → Int32) (M : Nat → Int64) (ls : Array Slot) (H : Heap) (locs : List Loc), f_Reckoner_push k9 0 S L M = some (r, S9) → lv_has ls 3 [(0, .ref (ad 3)), (1, .int (L 1)), (2, .int (L 2))] → va_P g.1 classes (Sw shC g ad S) H → va_D A (Sw shC g ad S) → va_S A s.heap H locs → W p l e R s m args below meth c H locs cells slots Q (F0 m 0 ls [])) ∧ (∀ (S : sS) (L : Nat → Int32) (M : Nat → Int64) (ls : Array Slot) (H : Heap) (locs : List Loc), f_Reckoner_push k9 1 S L M = some (r, S9) → lv_has ls 3 [(0, .ref (ad 3)), (1, .int (L 1)), (2, .int (L 2))] → va_P g.1 classes (Sw shC g ad S) H → va_D A (Sw shC g ad S) → va_S A s.heap H locs → W p l e R s m args below meth c H locs cells slots Q (F0 m 15 ls [])) ∧ (∀ (S : sS) (L : Nat → Int32) (M : Nat → Int64) (ls : Array Slot) (H : Heap) (locs : List Loc), f_Reckoner_push k9 2 S L M = some (r, S9) → lv_has ls 3 [(0, .ref (ad 3)), (1, .int (L 1)), (2, .int (L 2))] → va_P g.1 classes (Sw shC g ad S) H → va_D A (Sw shC g ad S) → va_S A s.heap H locs → W p l e R s m args below meth c H locs cells slots Q (F0 m 25 ls [])) ∧ (∀ (S : sS) (L : Nat → Int32) (M : Nat → Int64) (ls : Array Slot) (H : Heap) (locs : List Loc), f_Reckoner_push k9 3 S L M = some (r, S9) → lv_has ls 3 [(0, .ref (ad 3)), (1, .int (L 1)), (2, .int (L 2))] → va_P g.1 classes (Sw shC g ad S) H → va_D A (Sw shC g ad S) → va_S A s.heap H locs → W p l e R s m args below meth c H locs cells slots Q (F0 m 53 ls [.int (L 101), .int (L 100)])) ∧ (∀ (S : sS) (L : Nat → Int32) (M : Nat → Int64) (ls : Array Slot) (H : Heap) (locs : List Loc), f_Reckoner_push k9 4 S L M = some (r, S9) → lv_has ls 3 [(0, .ref (ad 3)), (1, .int (L 1)), (2, .int (L 2))] → va_P g.1 classes (Sw shC g ad S) H → va_D A (Sw shC g ad S) → va_S A s.heap H locs → W p l e R s m args below meth c H locs cells slots Q (F0 m 56 ls [])) := by
  intro k9
  induction k9 with
  | zero => exact ⟨(fun _ _ _ _ _ _ h => by simp [f_Reckoner_push] at h), (fun _ _ _ _ _ _ h => by simp [f_Reckoner_push] at h), (fun _ _ _ _ _ _ h => by simp [f_Reckoner_push] at h), (fun _ _ _ _ _ _ h => by simp [f_Reckoner_push] at h), (fun _ _ _ _ _ _ h => by simp [f_Reckoner_push] at h)⟩
  | succ k9 ih =>
    refine ⟨?_, ?_, ?_, ?_, ?_⟩
    · intro S L M ls H locs h hl hP hD hS
      simp only [f_Reckoner_push] at h
      refine lv_iload_n hx hb d_Reckoner_push_0 rfl (lv_at hl 2 rfl) ?_
      refine lv_if_eq (tgt := 15) hx hb d_Reckoner_push_1 (by decide) (fun hc1 => ?_) (fun hc1 => ?_)
      · rw [if_pos hc1] at h
        exact (ih.2.1) S L M ls H locs h (lv_sub hl [0, 1, 2] rfl) hP hD hS
      · rw [if_neg hc1] at h
        refine lv_iload_n hx hb d_Reckoner_push_4 rfl (lv_at hl 2 rfl) ?_
        refine lv_iconst (v := 1) hx hb d_Reckoner_push_5 (by decide) ?_
        refine lv_icmp_eq (tgt := 15) hx hb d_Reckoner_push_6 (by decide) (fun hc2 => ?_) (fun hc2 => ?_)
        · rw [if_pos hc2] at h
          exact (ih.2.1) S L M ls H locs h (lv_sub hl [0, 1, 2] rfl) hP hD hS
        · rw [if_neg hc2] at h
          refine lv_iload_n hx hb d_Reckoner_push_9 rfl (lv_at hl 2 rfl) ?_
          refine lv_bipush (v := 20) hx hb d_Reckoner_push_10 (by decide) ?_
          refine lv_icmp_ne (tgt := 25) hx hb d_Reckoner_push_12 (by decide) (fun hc3 => ?_) (fun hc3 => ?_)
          · rw [if_neg hc3] at h
            exact (ih.2.2.1) S L M ls H locs h (lv_sub hl [0, 1, 2] rfl) hP hD hS
          · rw [if_pos hc3] at h
            exact (ih.2.1) S L M ls H locs h (lv_sub hl [0, 1, 2] rfl) hP hD hS
    · intro S L M ls H locs h hl hP hD hS
      simp only [f_Reckoner_push] at h
      refine lv_aload_n hx hb d_Reckoner_push_15 rfl (lv_at hl 0 rfl) ?_
      refine lv_dup hx hb d_Reckoner_push_16 rfl ?_
      refine S_getI (h := shC) (C := "MacroMill$Reckoner") (T := F_Reckoner) hx hb htt in_Reckoner hown hK hP 3 7 rfl rfl rfl (by decide) (htt _ k_398) (fun _ h9 => h9) d_Reckoner_push_17 ?_
      refine lv_iconst (v := 1) hx hb d_Reckoner_push_20 (by decide) ?_
      refine lv_iadd hx hb d_Reckoner_push_21 ?_
      refine S_put (h := shC) (C := "MacroMill$Reckoner") (T := F_Reckoner) (v := (S.1 3 7) + (1 : Int32)) hx hb htt in_Reckoner t_Reckoner t_Reckoner_ok n_Reckoner hown hK hP hD hS 3 7 rfl rfl rfl (by decide) (htt _ k_398) (fun _ h9 => h9) rfl rfl rfl d_Reckoner_push_22 (fun H locs hP hD hS => ?_)
      exact (ih.2.2.1) (putI S 3 7 ((S.1 3 7) + (1 : Int32))) L M ls H locs h (lv_sub hl [0, 1, 2] rfl) hP hD hS
    · intro S L M ls H locs h hl hP hD hS
      simp only [f_Reckoner_push] at h
      refine lv_aload_n hx hb d_Reckoner_push_25 rfl (lv_at hl 0 rfl) ?_
      refine S_getI (h := shC) (C := "MacroMill$Reckoner") (T := F_Reckoner) hx hb htt in_Reckoner hown hK hP 3 6 rfl rfl rfl (by decide) (htt _ k_397) (fun _ h9 => h9) d_Reckoner_push_26 ?_
      refine lv_sipush (v := 1000) hx hb d_Reckoner_push_29 (by decide) ?_
      refine lv_icmp_ge (tgt := 56) hx hb d_Reckoner_push_32 (by decide) (fun hc1 => ?_) (fun hc1 => ?_)
      · rw [if_pos hc1] at h
        exact (ih.2.2.2.2) S L M ls H locs h (lv_sub hl [0, 1, 2] rfl) hP hD hS
      · rw [if_neg hc1] at h
        refine lv_aload_n hx hb d_Reckoner_push_35 rfl (lv_at hl 0 rfl) ?_
        refine S_getI (h := shC) (C := "MacroMill$Reckoner") (T := F_Reckoner) hx hb htt in_Reckoner hown hK hP 3 7 rfl rfl rfl (by decide) (htt _ k_398) (fun _ h9 => h9) d_Reckoner_push_36 ?_
        refine lv_aload_n hx hb d_Reckoner_push_39 rfl (lv_at hl 0 rfl) ?_
        refine S_getI (h := shC) (C := "MacroMill$Reckoner") (T := F_Reckoner) hx hb htt in_Reckoner hown hK hP 3 8 rfl rfl rfl (by decide) (htt _ k_399) (fun _ h9 => h9) d_Reckoner_push_40 ?_
        refine lv_if_eq (tgt := 51) hx hb d_Reckoner_push_43 (by decide) (fun hc2 => ?_) (fun hc2 => ?_)
        · rw [if_pos hc2] at h
          refine lv_bipush (v := 30) hx hb d_Reckoner_push_51 (by decide) ?_
          exact (ih.2.2.2.1) S (upd (upd L 101 (30 : Int32)) 100 (S.1 3 7)) M ls H locs h (lv_sub hl [0, 1, 2] rfl) hP hD hS
        · rw [if_neg hc2] at h
          refine lv_bipush (v := 60) hx hb d_Reckoner_push_46 (by decide) ?_
          refine lv_goto (tgt := 53) hx hb d_Reckoner_push_48 (by decide) ?_
          exact (ih.2.2.2.1) S (upd (upd L 101 (60 : Int32)) 100 (S.1 3 7)) M ls H locs h (lv_sub hl [0, 1, 2] rfl) hP hD hS
    · intro S L M ls H locs h hl hP hD hS
      simp only [f_Reckoner_push] at h
      refine lv_icmp_le (tgt := 62) hx hb d_Reckoner_push_53 (by decide) (fun hc1 => ?_) (fun hc1 => ?_)
      · rw [if_pos hc1] at h
        refine lv_aload_n hx hb d_Reckoner_push_62 rfl (lv_at hl 0 rfl) ?_
        refine S_getR (h := shC) (C := "MacroMill$Reckoner") (T := F_Reckoner) hx hb htt in_Reckoner hown hK hP 3 3 rfl 21 rfl rfl (by decide) (htt _ k_394) (fun _ h9 => h9) d_Reckoner_push_63 ?_
        refine lv_aload_n hx hb d_Reckoner_push_66 rfl (lv_at hl 0 rfl) ?_
        refine S_getI (h := shC) (C := "MacroMill$Reckoner") (T := F_Reckoner) hx hb htt in_Reckoner hown hK hP 3 6 rfl rfl rfl (by decide) (htt _ k_397) (fun _ h9 => h9) d_Reckoner_push_67 ?_
        refine lv_iload_n hx hb d_Reckoner_push_70 rfl (lv_at hl 1 rfl) ?_
        obtain ⟨hv2, h⟩ := chk h
        refine S_iast (h := shC) (i := S.1 3 6) (v := L 1) hx hb hK hP hD hS 8 rfl (okI_in hv2) d_Reckoner_push_71 (fun H locs hP hD hS => ?_)
        refine lv_aload_n hx hb d_Reckoner_push_72 rfl (lv_at hl 0 rfl) ?_
        refine S_getR (h := shC) (C := "MacroMill$Reckoner") (T := F_Reckoner) hx hb htt in_Reckoner hown hK hP 3 4 rfl 22 rfl rfl (by decide) (htt _ k_395) (fun _ h9 => h9) d_Reckoner_push_73 ?_
        refine lv_aload_n hx hb d_Reckoner_push_76 rfl (lv_at hl 0 rfl) ?_
        refine S_getI (h := shC) (C := "MacroMill$Reckoner") (T := F_Reckoner) hx hb htt in_Reckoner hown hK hP 3 6 rfl rfl rfl (by decide) (htt _ k_397) (fun _ h9 => h9) d_Reckoner_push_77 ?_
        refine toI (y := S.1 3 6) rfl ?_
        refine lv_iload_n hx hb d_Reckoner_push_80 rfl (lv_at hl 2 rfl) ?_
        obtain ⟨hv3, h⟩ := chk h
        show W _ _ _ _ _ _ _ _ _ _ _ _ _ _ _ (F0 _ 81 _ _)
        refine S_iast (h := shC) (i := S.1 3 6) (v := L 2) hx hb hK hP hD hS 9 rfl (okI_in hv3) d_Reckoner_push_81 (fun H locs hP hD hS => ?_)
        refine lv_aload_n hx hb d_Reckoner_push_82 rfl (lv_at hl 0 rfl) ?_
        refine S_getR (h := shC) (C := "MacroMill$Reckoner") (T := F_Reckoner) hx hb htt in_Reckoner hown hK hP 3 5 rfl 23 rfl rfl (by decide) (htt _ k_396) (fun _ h9 => h9) d_Reckoner_push_83 ?_
        refine lv_aload_n hx hb d_Reckoner_push_86 rfl (lv_at hl 0 rfl) ?_
        refine S_getI (h := shC) (C := "MacroMill$Reckoner") (T := F_Reckoner) hx hb htt in_Reckoner hown hK hP 3 6 rfl rfl rfl (by decide) (htt _ k_397) (fun _ h9 => h9) d_Reckoner_push_87 ?_
        refine toI (y := S.1 3 6) rfl ?_
        refine lv_aload_n hx hb d_Reckoner_push_90 rfl (lv_at hl 0 rfl) ?_
        refine S_getI (h := shC) (C := "MacroMill$Reckoner") (T := F_Reckoner) hx hb htt in_Reckoner hown hK hP 3 10 rfl rfl rfl (by decide) (htt _ k_401) (fun _ h9 => h9) d_Reckoner_push_91 ?_
        refine toI (y := S.1 3 10) rfl ?_
        obtain ⟨hv4, h⟩ := chk h
        refine S_zast (h := shC) (i := S.1 3 6) (v := S.1 3 10) hx hb hK hP hD hS 10 rfl (okI_in hv4) d_Reckoner_push_94 (fun H locs hP hD hS => ?_)
        refine lv_aload_n hx hb d_Reckoner_push_95 rfl (lv_at hl 0 rfl) ?_
        refine lv_dup hx hb d_Reckoner_push_96 rfl ?_
        refine S_getI (h := shC) (C := "MacroMill$Reckoner") (T := F_Reckoner) hx hb htt in_Reckoner hown hK hP 3 6 rfl rfl rfl (by decide) (htt _ k_397) (fun _ h9 => h9) d_Reckoner_push_97 ?_
        refine toI (y := S.1 3 6) rfl ?_
        refine lv_iconst (v := 1) hx hb d_Reckoner_push_100 (by decide) ?_
        show W _ _ _ _ _ _ _ _ _ _ _ _ _ _ _ (F0 _ 101 _ _)
        refine lv_iadd hx hb d_Reckoner_push_101 ?_
        refine S_put (h := shC) (C := "MacroMill$Reckoner") (T := F_Reckoner) (v := (S.1 3 6) + (1 : Int32)) hx hb htt in_Reckoner t_Reckoner t_Reckoner_ok n_Reckoner hown hK hP hD hS 3 6 rfl rfl rfl (by decide) (htt _ k_397) (fun _ h9 => h9) rfl rfl rfl d_Reckoner_push_102 (fun H locs hP hD hS => ?_)
        refine lv_aload_n hx hb d_Reckoner_push_105 rfl (lv_at hl 0 rfl) ?_
        refine lv_iconst (v := 1) hx hb d_Reckoner_push_106 (by decide) ?_
        refine S_put (h := shC) (C := "MacroMill$Reckoner") (T := F_Reckoner) (v := 1) hx hb htt in_Reckoner t_Reckoner t_Reckoner_ok n_Reckoner hown hK hP hD hS 3 9 rfl rfl rfl (by decide) (htt _ k_400) (fun _ h9 => h9) rfl rfl rfl d_Reckoner_push_107 (fun H locs hP hD hS => ?_)
        cases h
        exact kx_110 ls H locs hP hD hS
      · rw [if_neg hc1] at h
        exact (ih.2.2.2.2) S L M ls H locs h (lv_sub hl [0, 1, 2] rfl) hP hD hS
    · intro S L M ls H locs h hl hP hD hS
      simp only [f_Reckoner_push] at h
      refine lv_aload_n hx hb d_Reckoner_push_56 rfl (lv_at hl 0 rfl) ?_
      refine lv_iconst (v := 1) hx hb d_Reckoner_push_57 (by decide) ?_
      refine S_put (h := shC) (C := "MacroMill$Reckoner") (T := F_Reckoner) (v := 1) hx hb htt in_Reckoner t_Reckoner t_Reckoner_ok n_Reckoner hown hK hP hD hS 3 11 rfl rfl rfl (by decide) (htt _ k_402) (fun _ h9 => h9) rfl rfl rfl d_Reckoner_push_58 (fun H locs hP hD hS => ?_)
      cases h
      exact kx_61 ls H locs hP hD hS
abbrev rm_t_Reckoner_push : Room := { frames := 0, cells := 0, slots := 0, locals := 0 }
theorem t_Reckoner_push (l : Launch) (g : gG) (sz : Nat) (ad : Nat → Nat) (S : sS) (v1 : Int32) (v2 : Int32) (k : Nat) (r : Int32) (S9 : sS) (h : f_Reckoner_push k 0 S (upd (upd (fun _ => 0) 1 v1) 2 v2) (fun _ => 0) = some (r, S9)) : Cv l y_Reckoner_push b_Reckoner_push 3 rm_t_Reckoner_push g [.ref (ad 3), .int v1, .int v2] (Sw shC g ad S) sz (fun w => ∃ S1 : sS, w = Sw shC g ad S1 ∧ S1 = S9) := by
  refine startV (by decide) (Nat.le_of_ble_eq_true rfl) ?_
  intro p e s m below meth c A ls hx hb hr hml hlocks hmn hown htt hN hA hP hK hD hS hl
  exact (w_Reckoner_push hx hb hml hown htt hK hN hA r S9 (fun ls H locs hP hD hS => fin_v (g := g) (ws := Sw shC g ad S9) hx hb hr hlocks (by decide +kernel) (by decide +kernel) hP hD hS ⟨_, rfl, rfl⟩ d_Reckoner_push_61) (fun ls H locs hP hD hS => fin_v (g := g) (ws := Sw shC g ad S9) hx hb hr hlocks (by decide +kernel) (by decide +kernel) hP hD hS ⟨_, rfl, rfl⟩ d_Reckoner_push_110) k).1 S (upd (upd (fun _ => 0) 1 v1) 2 v2) (fun _ => 0) ls _ _ h hl hP hD hS
def f_Reckoner_isTop : Nat → Nat → sS → (Nat → Int32) → (Nat → Int64) → Option (Int32 × sS)
  | 0, _, _, _, _ => none
  | k + 1, 0, S, L, M => if (S.1 3 6) ≤ (0 : Int32) then (f_Reckoner_isTop k 1 S L M) else (if okI ((S.1 3 6) - (1 : Int32)) 1000 = true then (if (S.2.1 9 ((S.1 3 6) - (1 : Int32) : Int32).toNatClampNeg) = (L 1) then (f_Reckoner_isTop k 2 S (upd L 100 (1 : Int32)) M) else (f_Reckoner_isTop k 1 S L M)) else none)
  | k + 1, 1, S, L, M => f_Reckoner_isTop k 2 S (upd L 100 (0 : Int32)) M
  | k + 1, 2, S, L, M => if bz (L 100) = true then some (L 100, S) else none
  | _ + 1, _ + 3, _, _, _ => none
set_option maxHeartbeats 8000000 in
set_option maxRecDepth 100000 in
theorem w_Reckoner_isTop {p : Program} {l : Launch} {e : Env} {R : Room} {s : State} {m : MethodId} {args : Array Value} {below : List Frame} {meth : Method} {c : Code} {cells slots : Nat} {Q : State → Prop} {g : gG} {A : Nat → Prop} {ad : Nat → Nat} (hx : p.tables.exec = Jvm.exec) (hb : c.code = b_Reckoner_isTop) (hml : c.maxLocals = 2) (hown : s.vm.findClass "MacroMill$Reckoner" = some m.cls) (htt : ∀ w ∈ gt, w.before args s = true) (hK : va_K g.1 classes (tysG g) s) (hN : nw s) (hA : ∀ q : Nat, s.heap.size ≤ q → A q) (r : Int32) (S9 : sS)
    (kx_27 : ∀ (ls : Array Slot) (H : Heap) (locs : List Loc), narrow .boolean (.int r) = .int r → va_P g.1 classes (Sw shC g ad S9) H → va_D A (Sw shC g ad S9) → va_S A s.heap H locs → W p l e R s m args below meth c H locs cells slots Q (F0 m 27 ls [.int r])) :
    ∀ k9 : Nat, (∀ (S : sS) (L : Nat → Int32) (M : Nat → Int64) (ls : Array Slot) (H : Heap) (locs : List Loc), f_Reckoner_isTop k9 0 S L M = some (r, S9) → lv_has ls 2 [(0, .ref (ad 3)), (1, .int (L 1))] → va_P g.1 classes (Sw shC g ad S) H → va_D A (Sw shC g ad S) → va_S A s.heap H locs → W p l e R s m args below meth c H locs cells slots Q (F0 m 0 ls [])) ∧ (∀ (S : sS) (L : Nat → Int32) (M : Nat → Int64) (ls : Array Slot) (H : Heap) (locs : List Loc), f_Reckoner_isTop k9 1 S L M = some (r, S9) → lv_has ls 2 [(0, .ref (ad 3)), (1, .int (L 1))] → va_P g.1 classes (Sw shC g ad S) H → va_D A (Sw shC g ad S) → va_S A s.heap H locs → W p l e R s m args below meth c H locs cells slots Q (F0 m 26 ls [])) ∧ (∀ (S : sS) (L : Nat → Int32) (M : Nat → Int64) (ls : Array Slot) (H : Heap) (locs : List Loc), f_Reckoner_isTop k9 2 S L M = some (r, S9) → lv_has ls 2 [(0, .ref (ad 3)), (1, .int (L 1))] → va_P g.1 classes (Sw shC g ad S) H → va_D A (Sw shC g ad S) → va_S A s.heap H locs → W p l e R s m args below meth c H locs cells slots Q (F0 m 27 ls [.int (L 100)])) := by
  intro k9
  induction k9 with
  | zero => exact ⟨(fun _ _ _ _ _ _ h => by simp [f_Reckoner_isTop] at h), (fun _ _ _ _ _ _ h => by simp [f_Reckoner_isTop] at h), (fun _ _ _ _ _ _ h => by simp [f_Reckoner_isTop] at h)⟩
  | succ k9 ih =>
    refine ⟨?_, ?_, ?_⟩
    · intro S L M ls H locs h hl hP hD hS
      simp only [f_Reckoner_isTop] at h
      refine lv_aload_n hx hb d_Reckoner_isTop_0 rfl (lv_at hl 0 rfl) ?_
      refine S_getI (h := shC) (C := "MacroMill$Reckoner") (T := F_Reckoner) hx hb htt in_Reckoner hown hK hP 3 6 rfl rfl rfl (by decide) (htt _ k_397) (fun _ h9 => h9) d_Reckoner_isTop_1 ?_
      refine lv_if_le (tgt := 26) hx hb d_Reckoner_isTop_4 (by decide) (fun hc1 => ?_) (fun hc1 => ?_)
      · rw [if_pos hc1] at h
        exact (ih.2.1) S L M ls H locs h (lv_sub hl [0, 1] rfl) hP hD hS
      · rw [if_neg hc1] at h
        refine lv_aload_n hx hb d_Reckoner_isTop_7 rfl (lv_at hl 0 rfl) ?_
        refine S_getR (h := shC) (C := "MacroMill$Reckoner") (T := F_Reckoner) hx hb htt in_Reckoner hown hK hP 3 4 rfl 22 rfl rfl (by decide) (htt _ k_395) (fun _ h9 => h9) d_Reckoner_isTop_8 ?_
        refine lv_aload_n hx hb d_Reckoner_isTop_11 rfl (lv_at hl 0 rfl) ?_
        refine S_getI (h := shC) (C := "MacroMill$Reckoner") (T := F_Reckoner) hx hb htt in_Reckoner hown hK hP 3 6 rfl rfl rfl (by decide) (htt _ k_397) (fun _ h9 => h9) d_Reckoner_isTop_12 ?_
        refine lv_iconst (v := 1) hx hb d_Reckoner_isTop_15 (by decide) ?_
        refine lv_isub hx hb d_Reckoner_isTop_16 ?_
        obtain ⟨hv2, h⟩ := chk h
        refine S_iald (h := shC) (i := (S.1 3 6) - (1 : Int32)) hx hb hK hP 9 rfl (okI_in hv2) d_Reckoner_isTop_17 ?_
        refine lv_iload_n hx hb d_Reckoner_isTop_18 rfl (lv_at hl 1 rfl) ?_
        refine lv_icmp_ne (tgt := 26) hx hb d_Reckoner_isTop_19 (by decide) (fun hc3 => ?_) (fun hc3 => ?_)
        · rw [if_neg hc3] at h
          exact (ih.2.1) S L M ls H locs h (lv_sub hl [0, 1] rfl) hP hD hS
        · rw [if_pos hc3] at h
          refine lv_iconst (v := 1) hx hb d_Reckoner_isTop_22 (by decide) ?_
          show W _ _ _ _ _ _ _ _ _ _ _ _ _ _ _ (F0 _ 23 _ _)
          refine lv_goto (tgt := 27) hx hb d_Reckoner_isTop_23 (by decide) ?_
          exact (ih.2.2) S (upd L 100 (1 : Int32)) M ls H locs h (lv_sub hl [0, 1] rfl) hP hD hS
    · intro S L M ls H locs h hl hP hD hS
      simp only [f_Reckoner_isTop] at h
      refine lv_iconst (v := 0) hx hb d_Reckoner_isTop_26 (by decide) ?_
      exact (ih.2.2) S (upd L 100 (0 : Int32)) M ls H locs h (lv_sub hl [0, 1] rfl) hP hD hS
    · intro S L M ls H locs h hl hP hD hS
      simp only [f_Reckoner_isTop] at h
      obtain ⟨hv1, h⟩ := chk h
      cases h
      exact kx_27 ls H locs (bz_n hv1) hP hD hS
abbrev rm_t_Reckoner_isTop : Room := { frames := 0, cells := 0, slots := 0, locals := 0 }
theorem t_Reckoner_isTop (l : Launch) (g : gG) (sz : Nat) (ad : Nat → Nat) (S : sS) (v1 : Int32) (k : Nat) (r : Int32) (S9 : sS) (h : f_Reckoner_isTop k 0 S (upd (fun _ => 0) 1 v1) (fun _ => 0) = some (r, S9)) : Cz l y_Reckoner_isTop b_Reckoner_isTop 2 rm_t_Reckoner_isTop g [.ref (ad 3), .int v1] (Sw shC g ad S) sz (fun r1 w => ∃ S1 : sS, w = Sw shC g ad S1 ∧ r1 = r ∧ S1 = S9) := by
  refine startZ (by decide) (Nat.le_of_ble_eq_true rfl) ?_
  intro p e s m below meth c A ls hx hb hr hml hlocks hmn hown htt hN hA hP hK hD hS hl
  exact (w_Reckoner_isTop hx hb hml hown htt hK hN hA r S9 (fun ls H locs hz hP hD hS => fin_z (g := g) (ws := Sw shC g ad S9) hx hb hr hlocks hz (by decide +kernel) (by decide +kernel) hP hD hS ⟨_, rfl, rfl, rfl⟩ d_Reckoner_isTop_27) k).1 S (upd (fun _ => 0) 1 v1) (fun _ => 0) ls _ _ h hl hP hD hS
def f_Reckoner_takeColon : Nat → Nat → sS → (Nat → Int32) → (Nat → Int64) → Option (Int32 × sS)
  | 0, _, _, _, _ => none
  | k + 1, 0, S, L, M => (f_Reckoner_isTop k 0 S (upd (fun _ => 0) 1 (1 : Int32)) (fun _ => 0)).bind (fun (r1, T1) => if r1 = (0 : Int32) then (some ((0 : Int32), (putI T1 3 11 1))) else (if okI ((T1.1 3 6) - (1 : Int32)) 1000 = true then (if okI ((T1.1 3 6) - (1 : Int32)) 1000 = true then (if ((putA T1 9 ((T1.1 3 6) - (1 : Int32) : Int32).toNatClampNeg 2).2.1 10 ((T1.1 3 6) - (1 : Int32) : Int32).toNatClampNeg) = (0 : Int32) then (if okI ((T1.1 3 2) - (2 : Int32)) 1000 = true then (if (lg_cmp ((putA T1 9 ((T1.1 3 6) - (1 : Int32) : Int32).toNatClampNeg 2).2.2 6 ((T1.1 3 2) - (2 : Int32) : Int32).toNatClampNeg) (0 : Int64)) = (0 : Int32) then (f_Reckoner_takeColon k 2 (putA T1 9 ((T1.1 3 6) - (1 : Int32) : Int32).toNatClampNeg 2) (upd L 101 (0 : Int32)) M) else (f_Reckoner_takeColon k 1 (putA T1 9 ((T1.1 3 6) - (1 : Int32) : Int32).toNatClampNeg 2) L M)) else none) else (f_Reckoner_takeColon k 1 (putA T1 9 ((T1.1 3 6) - (1 : Int32) : Int32).toNatClampNeg 2) L M)) else none) else none))
  | k + 1, 1, S, L, M => f_Reckoner_takeColon k 2 S (upd L 101 (1 : Int32)) M
  | k + 1, 2, S, L, M => if bz (L 101) = true then (some ((0 : Int32), (putI (putI S 3 10 (L 101)) 3 9 1))) else none
  | _ + 1, _ + 3, _, _, _ => none
set_option maxHeartbeats 8000000 in
set_option maxRecDepth 100000 in
theorem w_Reckoner_takeColon {p : Program} {l : Launch} {e : Env} {R : Room} {s : State} {m : MethodId} {args : Array Value} {below : List Frame} {meth : Method} {c : Code} {cells slots : Nat} {Q : State → Prop} {g : gG} {A : Nat → Prop} {ad : Nat → Nat} (hx : p.tables.exec = Jvm.exec) (hb : c.code = b_Reckoner_takeColon) (hml : c.maxLocals = 1) (hown : s.vm.findClass "MacroMill$Reckoner" = some m.cls) (htt : ∀ w ∈ gt, w.before args s = true) (hK : va_K g.1 classes (tysG g) s) (hN : nw s) (hA : ∀ q : Nat, s.heap.size ≤ q → A q) (hRf : 1 ≤ R.frames) (hRl : 21 ≤ R.locals) (hRc : cells ≤ R.cells) (hRs : slots ≤ R.slots) (r : Int32) (S9 : sS)
    (kx_13 : ∀ (ls : Array Slot) (H : Heap) (locs : List Loc), va_P g.1 classes (Sw shC g ad S9) H → va_D A (Sw shC g ad S9) → va_S A s.heap H locs → W p l e R s m args below meth c H locs cells slots Q (F0 m 13 ls []))
    (kx_70 : ∀ (ls : Array Slot) (H : Heap) (locs : List Loc), va_P g.1 classes (Sw shC g ad S9) H → va_D A (Sw shC g ad S9) → va_S A s.heap H locs → W p l e R s m args below meth c H locs cells slots Q (F0 m 70 ls [])) :
    ∀ k9 : Nat, (∀ (S : sS) (L : Nat → Int32) (M : Nat → Int64) (ls : Array Slot) (H : Heap) (locs : List Loc), f_Reckoner_takeColon k9 0 S L M = some (r, S9) → lv_has ls 1 [(0, .ref (ad 3))] → va_P g.1 classes (Sw shC g ad S) H → va_D A (Sw shC g ad S) → va_S A s.heap H locs → W p l e R s m args below meth c H locs cells slots Q (F0 m 0 ls [])) ∧ (∀ (S : sS) (L : Nat → Int32) (M : Nat → Int64) (ls : Array Slot) (H : Heap) (locs : List Loc), f_Reckoner_takeColon k9 1 S L M = some (r, S9) → lv_has ls 1 [(0, .ref (ad 3))] → va_P g.1 classes (Sw shC g ad S) H → va_D A (Sw shC g ad S) → va_S A s.heap H locs → W p l e R s m args below meth c H locs cells slots Q (F0 m 57 ls [.ref (ad 3)])) ∧ (∀ (S : sS) (L : Nat → Int32) (M : Nat → Int64) (ls : Array Slot) (H : Heap) (locs : List Loc), f_Reckoner_takeColon k9 2 S L M = some (r, S9) → lv_has ls 1 [(0, .ref (ad 3))] → va_P g.1 classes (Sw shC g ad S) H → va_D A (Sw shC g ad S) → va_S A s.heap H locs → W p l e R s m args below meth c H locs cells slots Q (F0 m 62 ls [.int (L 101), .ref (ad 3)])) := by
  intro k9
  induction k9 with
  | zero => exact ⟨(fun _ _ _ _ _ _ h => by simp [f_Reckoner_takeColon] at h), (fun _ _ _ _ _ _ h => by simp [f_Reckoner_takeColon] at h), (fun _ _ _ _ _ _ h => by simp [f_Reckoner_takeColon] at h)⟩
  | succ k9 ih =>
    refine ⟨?_, ?_, ?_⟩
    · intro S L M ls H locs h hl hP hD hS
      simp only [f_Reckoner_takeColon] at h
      refine lv_aload_n hx hb d_Reckoner_takeColon_0 rfl (lv_at hl 0 rfl) ?_
      refine lv_iconst (v := 1) hx hb d_Reckoner_takeColon_1 (by decide) ?_
      obtain ⟨⟨r1, T1⟩, hq1, h⟩ := Option.bind_eq_some_iff.mp h
      try dsimp only at h
      refine go_iS (As := [.ref (ad 3), .int 1]) (g := g) (A := A) (h := shC) hP hK hD hS hA hN (fun hp => va_runV (As := [.int 1]) (rest := []) ⟨hx, hb, hml, hown, htt⟩ (t_Reckoner_isTop l g _ ad S (1 : Int32) k9 r1 T1 hq1) ⟨(cb_L htt k_1377 k_265 k_1374 hd_Reckoner_isTop ⟨(Nat.le_trans (by decide +kernel) hRf), (Nat.le_trans (by decide +kernel) hRl)⟩), htt _ k_1376, htt _ k_30⟩ ⟨hp.1, S_recv hK hP 3 rfl rfl, hp.2⟩ rfl rfl hl.1 rfl (lv_room (Nat.le_of_ble_eq_true rfl)) d_Reckoner_takeColon_2 ⟨hRc, hRs⟩) (fun r0 Sn H locs hw9 hP hD hS => ?_)
      obtain ⟨e9, e8⟩ := hw9
      rw [e8] at hP hD
      refine W.widen (k := cells) (n := slots) (Nat.le_refl _) (Nat.le_refl _) ?_
      refine toI (y := r1) e9 ?_
      refine lv_if_ne (tgt := 14) hx hb d_Reckoner_takeColon_5 (by decide) (fun hc2 => ?_) (fun hc2 => ?_)
      · rw [if_neg hc2] at h
        refine lv_aload_n hx hb d_Reckoner_takeColon_14 rfl (lv_at hl 0 rfl) ?_
        refine S_getR (h := shC) (C := "MacroMill$Reckoner") (T := F_Reckoner) hx hb htt in_Reckoner hown hK hP 3 4 rfl 22 rfl rfl (by decide) (htt _ k_395) (fun _ h9 => h9) d_Reckoner_takeColon_15 ?_
        refine lv_aload_n hx hb d_Reckoner_takeColon_18 rfl (lv_at hl 0 rfl) ?_
        refine S_getI (h := shC) (C := "MacroMill$Reckoner") (T := F_Reckoner) hx hb htt in_Reckoner hown hK hP 3 6 rfl rfl rfl (by decide) (htt _ k_397) (fun _ h9 => h9) d_Reckoner_takeColon_19 ?_
        refine lv_iconst (v := 1) hx hb d_Reckoner_takeColon_22 (by decide) ?_
        refine lv_isub hx hb d_Reckoner_takeColon_23 ?_
        refine lv_iconst (v := 2) hx hb d_Reckoner_takeColon_24 (by decide) ?_
        obtain ⟨hv3, h⟩ := chk h
        refine S_iast (h := shC) (i := (T1.1 3 6) - (1 : Int32)) (v := 2) hx hb hK hP hD hS 9 rfl (okI_in hv3) d_Reckoner_takeColon_25 (fun H locs hP hD hS => ?_)
        refine lv_aload_n hx hb d_Reckoner_takeColon_26 rfl (lv_at hl 0 rfl) ?_
        show W _ _ _ _ _ _ _ _ _ _ _ _ _ _ _ (F0 _ 27 _ _)
        refine lv_aload_n hx hb d_Reckoner_takeColon_27 rfl (lv_at hl 0 rfl) ?_
        refine S_getR (h := shC) (C := "MacroMill$Reckoner") (T := F_Reckoner) hx hb htt in_Reckoner hown hK hP 3 5 rfl 23 rfl rfl (by decide) (htt _ k_396) (fun _ h9 => h9) d_Reckoner_takeColon_28 ?_
        refine lv_aload_n hx hb d_Reckoner_takeColon_31 rfl (lv_at hl 0 rfl) ?_
        refine S_getI (h := shC) (C := "MacroMill$Reckoner") (T := F_Reckoner) hx hb htt in_Reckoner hown hK hP 3 6 rfl rfl rfl (by decide) (htt _ k_397) (fun _ h9 => h9) d_Reckoner_takeColon_32 ?_
        refine toI (y := T1.1 3 6) rfl ?_
        refine lv_iconst (v := 1) hx hb d_Reckoner_takeColon_35 (by decide) ?_
        refine lv_isub hx hb d_Reckoner_takeColon_36 ?_
        obtain ⟨hv4, h⟩ := chk h
        refine S_zald (h := shC) (i := (T1.1 3 6) - (1 : Int32)) hx hb hK hP 10 rfl (okI_in hv4) d_Reckoner_takeColon_37 ?_
        refine lv_if_ne (tgt := 57) hx hb d_Reckoner_takeColon_38 (by decide) (fun hc5 => ?_) (fun hc5 => ?_)
        · rw [if_neg hc5] at h
          exact (ih.2.1) (putA T1 9 ((T1.1 3 6) - (1 : Int32) : Int32).toNatClampNeg 2) L M ls H locs h (lv_sub hl [0] rfl) hP hD hS
        · rw [if_pos hc5] at h
          refine lv_aload_n hx hb d_Reckoner_takeColon_41 rfl (lv_at hl 0 rfl) ?_
          refine S_getR (h := shC) (C := "MacroMill$Reckoner") (T := F_Reckoner) hx hb htt in_Reckoner hown hK hP 3 0 rfl 19 rfl rfl (by decide) (htt _ k_391) (fun _ h9 => h9) d_Reckoner_takeColon_42 ?_
          refine lv_aload_n hx hb d_Reckoner_takeColon_45 rfl (lv_at hl 0 rfl) ?_
          refine S_getI (h := shC) (C := "MacroMill$Reckoner") (T := F_Reckoner) hx hb htt in_Reckoner hown hK hP 3 2 rfl rfl rfl (by decide) (htt _ k_393) (fun _ h9 => h9) d_Reckoner_takeColon_46 ?_
          refine toI (y := T1.1 3 2) rfl ?_
          refine lv_iconst (v := 2) hx hb d_Reckoner_takeColon_49 (by decide) ?_
          show W _ _ _ _ _ _ _ _ _ _ _ _ _ _ _ (F0 _ 50 _ _)
          refine lv_isub hx hb d_Reckoner_takeColon_50 ?_
          obtain ⟨hv6, h⟩ := chk h
          refine S_lald (h := shC) (i := (T1.1 3 2) - (2 : Int32)) hx hb hK hP 6 rfl (okI_in hv6) d_Reckoner_takeColon_51 ?_
          refine lv_lconst (v := 0) hx hb d_Reckoner_takeColon_52 (by decide) ?_
          refine W.lcmp hx hb d_Reckoner_takeColon_53 ?_
          refine lv_if_eq (tgt := 61) hx hb d_Reckoner_takeColon_54 (by decide) (fun hc7 => ?_) (fun hc7 => ?_)
          · rw [if_pos hc7] at h
            refine lv_iconst (v := 0) hx hb d_Reckoner_takeColon_61 (by decide) ?_
            exact (ih.2.2) (putA T1 9 ((T1.1 3 6) - (1 : Int32) : Int32).toNatClampNeg 2) (upd L 101 (0 : Int32)) M ls H locs h (lv_sub hl [0] rfl) hP hD hS
          · rw [if_neg hc7] at h
            exact (ih.2.1) (putA T1 9 ((T1.1 3 6) - (1 : Int32) : Int32).toNatClampNeg 2) L M ls H locs h (lv_sub hl [0] rfl) hP hD hS
      · rw [if_pos hc2] at h
        refine lv_aload_n hx hb d_Reckoner_takeColon_8 rfl (lv_at hl 0 rfl) ?_
        refine lv_iconst (v := 1) hx hb d_Reckoner_takeColon_9 (by decide) ?_
        refine S_put (h := shC) (C := "MacroMill$Reckoner") (T := F_Reckoner) (v := 1) hx hb htt in_Reckoner t_Reckoner t_Reckoner_ok n_Reckoner hown hK hP hD hS 3 11 rfl rfl rfl (by decide) (htt _ k_402) (fun _ h9 => h9) rfl rfl rfl d_Reckoner_takeColon_10 (fun H locs hP hD hS => ?_)
        cases h
        exact kx_13 ls H locs hP hD hS
    · intro S L M ls H locs h hl hP hD hS
      simp only [f_Reckoner_takeColon] at h
      refine lv_iconst (v := 1) hx hb d_Reckoner_takeColon_57 (by decide) ?_
      refine lv_goto (tgt := 62) hx hb d_Reckoner_takeColon_58 (by decide) ?_
      exact (ih.2.2) S (upd L 101 (1 : Int32)) M ls H locs h (lv_sub hl [0] rfl) hP hD hS
    · intro S L M ls H locs h hl hP hD hS
      simp only [f_Reckoner_takeColon] at h
      obtain ⟨hv1, h⟩ := chk h
      refine S_put (h := shC) (C := "MacroMill$Reckoner") (T := F_Reckoner) (v := L 101) hx hb htt in_Reckoner t_Reckoner t_Reckoner_ok n_Reckoner hown hK hP hD hS 3 10 rfl rfl rfl (by decide) (htt _ k_401) (fun _ h9 => h9) rfl (bz_n hv1) (bz_f hv1) d_Reckoner_takeColon_62 (fun H locs hP hD hS => ?_)
      refine lv_aload_n hx hb d_Reckoner_takeColon_65 rfl (lv_at hl 0 rfl) ?_
      refine lv_iconst (v := 1) hx hb d_Reckoner_takeColon_66 (by decide) ?_
      refine S_put (h := shC) (C := "MacroMill$Reckoner") (T := F_Reckoner) (v := 1) hx hb htt in_Reckoner t_Reckoner t_Reckoner_ok n_Reckoner hown hK hP hD hS 3 9 rfl rfl rfl (by decide) (htt _ k_400) (fun _ h9 => h9) rfl rfl rfl d_Reckoner_takeColon_67 (fun H locs hP hD hS => ?_)
      cases h
      exact kx_70 ls H locs hP hD hS
abbrev rm_t_Reckoner_takeColon : Room := { frames := 1, cells := 0, slots := 0, locals := 21 }
theorem t_Reckoner_takeColon (l : Launch) (g : gG) (sz : Nat) (ad : Nat → Nat) (S : sS) (k : Nat) (r : Int32) (S9 : sS) (h : f_Reckoner_takeColon k 0 S (fun _ => 0) (fun _ => 0) = some (r, S9)) : Cv l y_Reckoner_takeColon b_Reckoner_takeColon 1 rm_t_Reckoner_takeColon g [.ref (ad 3)] (Sw shC g ad S) sz (fun w => ∃ S1 : sS, w = Sw shC g ad S1 ∧ S1 = S9) := by
  refine startV (by decide) (Nat.le_of_ble_eq_true rfl) ?_
  intro p e s m below meth c A ls hx hb hr hml hlocks hmn hown htt hN hA hP hK hD hS hl
  exact (w_Reckoner_takeColon hx hb hml hown htt hK hN hA (by decide +kernel) (by decide +kernel) (by decide +kernel) (by decide +kernel) r S9 (fun ls H locs hP hD hS => fin_v (g := g) (ws := Sw shC g ad S9) hx hb hr hlocks (by decide +kernel) (by decide +kernel) hP hD hS ⟨_, rfl, rfl⟩ d_Reckoner_takeColon_13) (fun ls H locs hP hD hS => fin_v (g := g) (ws := Sw shC g ad S9) hx hb hr hlocks (by decide +kernel) (by decide +kernel) hP hD hS ⟨_, rfl, rfl⟩ d_Reckoner_takeColon_70) k).1 S (fun _ => 0) (fun _ => 0) ls _ _ h hl hP hD hS
def f_Reckoner_beIdleBehind : Nat → Nat → sS → (Nat → Int32) → (Nat → Int64) → Option (Int32 × sS)
  | 0, _, _, _, _ => none
  | k + 1, 0, S, L, M => if okI ((S.1 3 2) - (1 : Int32)) 1000 = true then (if (lg_cmp (S.2.2 6 ((S.1 3 2) - (1 : Int32) : Int32).toNatClampNeg) (0 : Int64)) = (0 : Int32) then (f_Reckoner_beIdleBehind k 1 S (upd L 100 (1 : Int32)) M) else (f_Reckoner_beIdleBehind k 1 S (upd L 100 (0 : Int32)) M)) else none
  | k + 1, 1, S, L, M => if (S.1 3 8) = (0 : Int32) then (f_Reckoner_beIdleBehind k 5 S (upd L 2 (L 100)) M) else (if (L 1) = (9766 : Int32) then (f_Reckoner_beIdleBehind k 2 S (upd L 2 (L 100)) M) else (if (L 1) = (63 : Int32) then (f_Reckoner_beIdleBehind k 2 S (upd L 2 (L 100)) M) else (f_Reckoner_beIdleBehind k 5 S (upd L 2 (L 100)) M)))
  | k + 1, 2, S, L, M => if (S.1 3 10) = (0 : Int32) then (if (L 2) = (0 : Int32) then (f_Reckoner_beIdleBehind k 4 S (upd L 101 (0 : Int32)) M) else (f_Reckoner_beIdleBehind k 3 S L M)) else (f_Reckoner_beIdleBehind k 3 S L M)
  | k + 1, 3, S, L, M => f_Reckoner_beIdleBehind k 4 S (upd L 101 (1 : Int32)) M
  | k + 1, 4, S, L, M => if bz (L 101) = true then (f_Reckoner_beIdleBehind k 8 (putI S 3 10 (L 101)) L M) else none
  | k + 1, 5, S, L, M => if (S.1 3 8) = (0 : Int32) then (f_Reckoner_beIdleBehind k 8 S L M) else (if (L 1) = (31868 : Int32) then (if (S.1 3 10) = (0 : Int32) then (if (L 2) = (0 : Int32) then (f_Reckoner_beIdleBehind k 6 S L M) else (f_Reckoner_beIdleBehind k 7 S (upd L 101 (0 : Int32)) M)) else (f_Reckoner_beIdleBehind k 6 S L M)) else (f_Reckoner_beIdleBehind k 8 S L M))
  | k + 1, 6, S, L, M => f_Reckoner_beIdleBehind k 7 S (upd L 101 (1 : Int32)) M
  | k + 1, 7, S, L, M => if bz (L 101) = true then (f_Reckoner_beIdleBehind k 8 (putI S 3 10 (L 101)) L M) else none
  | k + 1, 8, S, L, M => some ((0 : Int32), S)
  | _ + 1, _ + 9, _, _, _ => none
set_option maxHeartbeats 8000000 in
set_option maxRecDepth 100000 in
theorem w_Reckoner_beIdleBehind {p : Program} {l : Launch} {e : Env} {R : Room} {s : State} {m : MethodId} {args : Array Value} {below : List Frame} {meth : Method} {c : Code} {cells slots : Nat} {Q : State → Prop} {g : gG} {A : Nat → Prop} {ad : Nat → Nat} (hx : p.tables.exec = Jvm.exec) (hb : c.code = b_Reckoner_beIdleBehind) (hml : c.maxLocals = 3) (hown : s.vm.findClass "MacroMill$Reckoner" = some m.cls) (htt : ∀ w ∈ gt, w.before args s = true) (hK : va_K g.1 classes (tysG g) s) (hN : nw s) (hA : ∀ q : Nat, s.heap.size ≤ q → A q) (r : Int32) (S9 : sS)
    (kx_99 : ∀ (ls : Array Slot) (H : Heap) (locs : List Loc), va_P g.1 classes (Sw shC g ad S9) H → va_D A (Sw shC g ad S9) → va_S A s.heap H locs → W p l e R s m args below meth c H locs cells slots Q (F0 m 99 ls [])) :
    ∀ k9 : Nat, (∀ (S : sS) (L : Nat → Int32) (M : Nat → Int64) (ls : Array Slot) (H : Heap) (locs : List Loc), f_Reckoner_beIdleBehind k9 0 S L M = some (r, S9) → lv_has ls 3 [(0, .ref (ad 3)), (1, .int (L 1))] → va_P g.1 classes (Sw shC g ad S) H → va_D A (Sw shC g ad S) → va_S A s.heap H locs → W p l e R s m args below meth c H locs cells slots Q (F0 m 0 ls [])) ∧ (∀ (S : sS) (L : Nat → Int32) (M : Nat → Int64) (ls : Array Slot) (H : Heap) (locs : List Loc), f_Reckoner_beIdleBehind k9 1 S L M = some (r, S9) → lv_has ls 3 [(0, .ref (ad 3)), (1, .int (L 1))] → va_P g.1 classes (Sw shC g ad S) H → va_D A (Sw shC g ad S) → va_S A s.heap H locs → W p l e R s m args below meth c H locs cells slots Q (F0 m 21 ls [.int (L 100)])) ∧ (∀ (S : sS) (L : Nat → Int32) (M : Nat → Int64) (ls : Array Slot) (H : Heap) (locs : List Loc), f_Reckoner_beIdleBehind k9 2 S L M = some (r, S9) → lv_has ls 3 [(0, .ref (ad 3)), (1, .int (L 1)), (2, .int (L 2))] → va_P g.1 classes (Sw shC g ad S) H → va_D A (Sw shC g ad S) → va_S A s.heap H locs → W p l e R s m args below meth c H locs cells slots Q (F0 m 42 ls [])) ∧ (∀ (S : sS) (L : Nat → Int32) (M : Nat → Int64) (ls : Array Slot) (H : Heap) (locs : List Loc), f_Reckoner_beIdleBehind k9 3 S L M = some (r, S9) → lv_has ls 3 [(0, .ref (ad 3)), (1, .int (L 1)), (2, .int (L 2))] → va_P g.1 classes (Sw shC g ad S) H → va_D A (Sw shC g ad S) → va_S A s.heap H locs → W p l e R s m args below meth c H locs cells slots Q (F0 m 54 ls [.ref (ad 3)])) ∧ (∀ (S : sS) (L : Nat → Int32) (M : Nat → Int64) (ls : Array Slot) (H : Heap) (locs : List Loc), f_Reckoner_beIdleBehind k9 4 S L M = some (r, S9) → lv_has ls 3 [(0, .ref (ad 3)), (1, .int (L 1)), (2, .int (L 2))] → va_P g.1 classes (Sw shC g ad S) H → va_D A (Sw shC g ad S) → va_S A s.heap H locs → W p l e R s m args below meth c H locs cells slots Q (F0 m 59 ls [.int (L 101), .ref (ad 3)])) ∧ (∀ (S : sS) (L : Nat → Int32) (M : Nat → Int64) (ls : Array Slot) (H : Heap) (locs : List Loc), f_Reckoner_beIdleBehind k9 5 S L M = some (r, S9) → lv_has ls 3 [(0, .ref (ad 3)), (1, .int (L 1)), (2, .int (L 2))] → va_P g.1 classes (Sw shC g ad S) H → va_D A (Sw shC g ad S) → va_S A s.heap H locs → W p l e R s m args below meth c H locs cells slots Q (F0 m 65 ls [])) ∧ (∀ (S : sS) (L : Nat → Int32) (M : Nat → Int64) (ls : Array Slot) (H : Heap) (locs : List Loc), f_Reckoner_beIdleBehind k9 6 S L M = some (r, S9) → lv_has ls 3 [(0, .ref (ad 3)), (1, .int (L 1)), (2, .int (L 2))] → va_P g.1 classes (Sw shC g ad S) H → va_D A (Sw shC g ad S) → va_S A s.heap H locs → W p l e R s m args below meth c H locs cells slots Q (F0 m 91 ls [.ref (ad 3)])) ∧ (∀ (S : sS) (L : Nat → Int32) (M : Nat → Int64) (ls : Array Slot) (H : Heap) (locs : List Loc), f_Reckoner_beIdleBehind k9 7 S L M = some (r, S9) → lv_has ls 3 [(0, .ref (ad 3)), (1, .int (L 1)), (2, .int (L 2))] → va_P g.1 classes (Sw shC g ad S) H → va_D A (Sw shC g ad S) → va_S A s.heap H locs → W p l e R s m args below meth c H locs cells slots Q (F0 m 96 ls [.int (L 101), .ref (ad 3)])) ∧ (∀ (S : sS) (L : Nat → Int32) (M : Nat → Int64) (ls : Array Slot) (H : Heap) (locs : List Loc), f_Reckoner_beIdleBehind k9 8 S L M = some (r, S9) → lv_has ls 3 [(0, .ref (ad 3)), (1, .int (L 1)), (2, .int (L 2))] → va_P g.1 classes (Sw shC g ad S) H → va_D A (Sw shC g ad S) → va_S A s.heap H locs → W p l e R s m args below meth c H locs cells slots Q (F0 m 99 ls [])) := by
  intro k9
  induction k9 with
  | zero => exact ⟨(fun _ _ _ _ _ _ h => by simp [f_Reckoner_beIdleBehind] at h), (fun _ _ _ _ _ _ h => by simp [f_Reckoner_beIdleBehind] at h), (fun _ _ _ _ _ _ h => by simp [f_Reckoner_beIdleBehind] at h), (fun _ _ _ _ _ _ h => by simp [f_Reckoner_beIdleBehind] at h), (fun _ _ _ _ _ _ h => by simp [f_Reckoner_beIdleBehind] at h), (fun _ _ _ _ _ _ h => by simp [f_Reckoner_beIdleBehind] at h), (fun _ _ _ _ _ _ h => by simp [f_Reckoner_beIdleBehind] at h), (fun _ _ _ _ _ _ h => by simp [f_Reckoner_beIdleBehind] at h), (fun _ _ _ _ _ _ h => by simp [f_Reckoner_beIdleBehind] at h)⟩
  | succ k9 ih =>
    refine ⟨?_, ?_, ?_, ?_, ?_, ?_, ?_, ?_, ?_⟩
    · intro S L M ls H locs h hl hP hD hS
      simp only [f_Reckoner_beIdleBehind] at h
      refine lv_aload_n hx hb d_Reckoner_beIdleBehind_0 rfl (lv_at hl 0 rfl) ?_
      refine S_getR (h := shC) (C := "MacroMill$Reckoner") (T := F_Reckoner) hx hb htt in_Reckoner hown hK hP 3 0 rfl 19 rfl rfl (by decide) (htt _ k_391) (fun _ h9 => h9) d_Reckoner_beIdleBehind_1 ?_
      refine lv_aload_n hx hb d_Reckoner_beIdleBehind_4 rfl (lv_at hl 0 rfl) ?_
      refine S_getI (h := shC) (C := "MacroMill$Reckoner") (T := F_Reckoner) hx hb htt in_Reckoner hown hK hP 3 2 rfl rfl rfl (by decide) (htt _ k_393) (fun _ h9 => h9) d_Reckoner_beIdleBehind_5 ?_
      refine lv_iconst (v := 1) hx hb d_Reckoner_beIdleBehind_8 (by decide) ?_
      refine lv_isub hx hb d_Reckoner_beIdleBehind_9 ?_
      obtain ⟨hv1, h⟩ := chk h
      refine S_lald (h := shC) (i := (S.1 3 2) - (1 : Int32)) hx hb hK hP 6 rfl (okI_in hv1) d_Reckoner_beIdleBehind_10 ?_
      refine lv_lconst (v := 0) hx hb d_Reckoner_beIdleBehind_11 (by decide) ?_
      refine W.lcmp hx hb d_Reckoner_beIdleBehind_12 ?_
      refine lv_if_ne (tgt := 20) hx hb d_Reckoner_beIdleBehind_13 (by decide) (fun hc2 => ?_) (fun hc2 => ?_)
      · rw [if_neg hc2] at h
        refine lv_iconst (v := 0) hx hb d_Reckoner_beIdleBehind_20 (by decide) ?_
        exact (ih.2.1) S (upd L 100 (0 : Int32)) M ls H locs h (lv_sub hl [0, 1] rfl) hP hD hS
      · rw [if_pos hc2] at h
        refine lv_iconst (v := 1) hx hb d_Reckoner_beIdleBehind_16 (by decide) ?_
        refine lv_goto (tgt := 21) hx hb d_Reckoner_beIdleBehind_17 (by decide) ?_
        exact (ih.2.1) S (upd L 100 (1 : Int32)) M ls H locs h (lv_sub hl [0, 1] rfl) hP hD hS
    · intro S L M ls H locs h hl hP hD hS
      simp only [f_Reckoner_beIdleBehind] at h
      refine lv_istore_n (lv' := [(2, .int (L 100)), (0, .ref (ad 3)), (1, .int (L 1))]) hx hb d_Reckoner_beIdleBehind_21 rfl hl (by decide) rfl (fun ls hl => ?_)
      refine lv_aload_n hx hb d_Reckoner_beIdleBehind_22 rfl (lv_at hl 1 rfl) ?_
      refine S_getI (h := shC) (C := "MacroMill$Reckoner") (T := F_Reckoner) hx hb htt in_Reckoner hown hK hP 3 8 rfl rfl rfl (by decide) (htt _ k_399) (fun _ h9 => h9) d_Reckoner_beIdleBehind_23 ?_
      refine lv_if_eq (tgt := 65) hx hb d_Reckoner_beIdleBehind_26 (by decide) (fun hc1 => ?_) (fun hc1 => ?_)
      · rw [if_pos hc1] at h
        exact (ih.2.2.2.2.2.1) S (upd L 2 (L 100)) M ls H locs h (lv_sub hl [1, 2, 0] rfl) hP hD hS
      · rw [if_neg hc1] at h
        refine lv_iload_n hx hb d_Reckoner_beIdleBehind_29 rfl (lv_at hl 2 rfl) ?_
        refine lv_sipush (v := 9766) hx hb d_Reckoner_beIdleBehind_30 (by decide) ?_
        refine lv_icmp_eq (tgt := 42) hx hb d_Reckoner_beIdleBehind_33 (by decide) (fun hc2 => ?_) (fun hc2 => ?_)
        · rw [if_pos hc2] at h
          exact (ih.2.2.1) S (upd L 2 (L 100)) M ls H locs h (lv_sub hl [1, 2, 0] rfl) hP hD hS
        · rw [if_neg hc2] at h
          refine lv_iload_n hx hb d_Reckoner_beIdleBehind_36 rfl (lv_at hl 2 rfl) ?_
          refine lv_bipush (v := 63) hx hb d_Reckoner_beIdleBehind_37 (by decide) ?_
          refine lv_icmp_ne (tgt := 65) hx hb d_Reckoner_beIdleBehind_39 (by decide) (fun hc3 => ?_) (fun hc3 => ?_)
          · rw [if_neg hc3] at h
            exact (ih.2.2.2.2.2.1) S (upd L 2 (L 100)) M ls H locs h (lv_sub hl [1, 2, 0] rfl) hP hD hS
          · rw [if_pos hc3] at h
            exact (ih.2.2.1) S (upd L 2 (L 100)) M ls H locs h (lv_sub hl [1, 2, 0] rfl) hP hD hS
    · intro S L M ls H locs h hl hP hD hS
      simp only [f_Reckoner_beIdleBehind] at h
      refine lv_aload_n hx hb d_Reckoner_beIdleBehind_42 rfl (lv_at hl 0 rfl) ?_
      refine lv_aload_n hx hb d_Reckoner_beIdleBehind_43 rfl (lv_at hl 0 rfl) ?_
      refine S_getI (h := shC) (C := "MacroMill$Reckoner") (T := F_Reckoner) hx hb htt in_Reckoner hown hK hP 3 10 rfl rfl rfl (by decide) (htt _ k_401) (fun _ h9 => h9) d_Reckoner_beIdleBehind_44 ?_
      refine lv_if_ne (tgt := 54) hx hb d_Reckoner_beIdleBehind_47 (by decide) (fun hc1 => ?_) (fun hc1 => ?_)
      · rw [if_neg hc1] at h
        exact (ih.2.2.2.1) S L M ls H locs h (lv_sub hl [0, 1, 2] rfl) hP hD hS
      · rw [if_pos hc1] at h
        refine lv_iload_n hx hb d_Reckoner_beIdleBehind_50 rfl (lv_at hl 2 rfl) ?_
        refine lv_if_eq (tgt := 58) hx hb d_Reckoner_beIdleBehind_51 (by decide) (fun hc2 => ?_) (fun hc2 => ?_)
        · rw [if_pos hc2] at h
          refine lv_iconst (v := 0) hx hb d_Reckoner_beIdleBehind_58 (by decide) ?_
          exact (ih.2.2.2.2.1) S (upd L 101 (0 : Int32)) M ls H locs h (lv_sub hl [0, 1, 2] rfl) hP hD hS
        · rw [if_neg hc2] at h
          exact (ih.2.2.2.1) S L M ls H locs h (lv_sub hl [0, 1, 2] rfl) hP hD hS
    · intro S L M ls H locs h hl hP hD hS
      simp only [f_Reckoner_beIdleBehind] at h
      refine lv_iconst (v := 1) hx hb d_Reckoner_beIdleBehind_54 (by decide) ?_
      refine lv_goto (tgt := 59) hx hb d_Reckoner_beIdleBehind_55 (by decide) ?_
      exact (ih.2.2.2.2.1) S (upd L 101 (1 : Int32)) M ls H locs h (lv_sub hl [0, 1, 2] rfl) hP hD hS
    · intro S L M ls H locs h hl hP hD hS
      simp only [f_Reckoner_beIdleBehind] at h
      obtain ⟨hv1, h⟩ := chk h
      refine S_put (h := shC) (C := "MacroMill$Reckoner") (T := F_Reckoner) (v := L 101) hx hb htt in_Reckoner t_Reckoner t_Reckoner_ok n_Reckoner hown hK hP hD hS 3 10 rfl rfl rfl (by decide) (htt _ k_401) (fun _ h9 => h9) rfl (bz_n hv1) (bz_f hv1) d_Reckoner_beIdleBehind_59 (fun H locs hP hD hS => ?_)
      refine lv_goto (tgt := 99) hx hb d_Reckoner_beIdleBehind_62 (by decide) ?_
      exact (ih.2.2.2.2.2.2.2.2) (putI S 3 10 (L 101)) L M ls H locs h (lv_sub hl [0, 1, 2] rfl) hP hD hS
    · intro S L M ls H locs h hl hP hD hS
      simp only [f_Reckoner_beIdleBehind] at h
      refine lv_aload_n hx hb d_Reckoner_beIdleBehind_65 rfl (lv_at hl 0 rfl) ?_
      refine S_getI (h := shC) (C := "MacroMill$Reckoner") (T := F_Reckoner) hx hb htt in_Reckoner hown hK hP 3 8 rfl rfl rfl (by decide) (htt _ k_399) (fun _ h9 => h9) d_Reckoner_beIdleBehind_66 ?_
      refine lv_if_eq (tgt := 99) hx hb d_Reckoner_beIdleBehind_69 (by decide) (fun hc1 => ?_) (fun hc1 => ?_)
      · rw [if_pos hc1] at h
        exact (ih.2.2.2.2.2.2.2.2) S L M ls H locs h (lv_sub hl [0, 1, 2] rfl) hP hD hS
      · rw [if_neg hc1] at h
        refine lv_iload_n hx hb d_Reckoner_beIdleBehind_72 rfl (lv_at hl 1 rfl) ?_
        refine lv_sipush (v := 31868) hx hb d_Reckoner_beIdleBehind_73 (by decide) ?_
        refine lv_icmp_ne (tgt := 99) hx hb d_Reckoner_beIdleBehind_76 (by decide) (fun hc2 => ?_) (fun hc2 => ?_)
        · rw [if_neg hc2] at h
          exact (ih.2.2.2.2.2.2.2.2) S L M ls H locs h (lv_sub hl [0, 1, 2] rfl) hP hD hS
        · rw [if_pos hc2] at h
          refine lv_aload_n hx hb d_Reckoner_beIdleBehind_79 rfl (lv_at hl 0 rfl) ?_
          refine lv_aload_n hx hb d_Reckoner_beIdleBehind_80 rfl (lv_at hl 0 rfl) ?_
          refine S_getI (h := shC) (C := "MacroMill$Reckoner") (T := F_Reckoner) hx hb htt in_Reckoner hown hK hP 3 10 rfl rfl rfl (by decide) (htt _ k_401) (fun _ h9 => h9) d_Reckoner_beIdleBehind_81 ?_
          refine lv_if_ne (tgt := 91) hx hb d_Reckoner_beIdleBehind_84 (by decide) (fun hc3 => ?_) (fun hc3 => ?_)
          · rw [if_neg hc3] at h
            exact (ih.2.2.2.2.2.2.1) S L M ls H locs h (lv_sub hl [0, 1, 2] rfl) hP hD hS
          · rw [if_pos hc3] at h
            refine lv_iload_n hx hb d_Reckoner_beIdleBehind_87 rfl (lv_at hl 2 rfl) ?_
            refine lv_if_ne (tgt := 95) hx hb d_Reckoner_beIdleBehind_88 (by decide) (fun hc4 => ?_) (fun hc4 => ?_)
            · rw [if_neg hc4] at h
              refine lv_iconst (v := 0) hx hb d_Reckoner_beIdleBehind_95 (by decide) ?_
              exact (ih.2.2.2.2.2.2.2.1) S (upd L 101 (0 : Int32)) M ls H locs h (lv_sub hl [0, 1, 2] rfl) hP hD hS
            · rw [if_pos hc4] at h
              exact (ih.2.2.2.2.2.2.1) S L M ls H locs h (lv_sub hl [0, 1, 2] rfl) hP hD hS
    · intro S L M ls H locs h hl hP hD hS
      simp only [f_Reckoner_beIdleBehind] at h
      refine lv_iconst (v := 1) hx hb d_Reckoner_beIdleBehind_91 (by decide) ?_
      refine lv_goto (tgt := 96) hx hb d_Reckoner_beIdleBehind_92 (by decide) ?_
      exact (ih.2.2.2.2.2.2.2.1) S (upd L 101 (1 : Int32)) M ls H locs h (lv_sub hl [0, 1, 2] rfl) hP hD hS
    · intro S L M ls H locs h hl hP hD hS
      simp only [f_Reckoner_beIdleBehind] at h
      obtain ⟨hv1, h⟩ := chk h
      refine S_put (h := shC) (C := "MacroMill$Reckoner") (T := F_Reckoner) (v := L 101) hx hb htt in_Reckoner t_Reckoner t_Reckoner_ok n_Reckoner hown hK hP hD hS 3 10 rfl rfl rfl (by decide) (htt _ k_401) (fun _ h9 => h9) rfl (bz_n hv1) (bz_f hv1) d_Reckoner_beIdleBehind_96 (fun H locs hP hD hS => ?_)
      exact (ih.2.2.2.2.2.2.2.2) (putI S 3 10 (L 101)) L M ls H locs h (lv_sub hl [0, 1, 2] rfl) hP hD hS
    · intro S L M ls H locs h hl hP hD hS
      simp only [f_Reckoner_beIdleBehind] at h
      cases h
      exact kx_99 ls H locs hP hD hS
abbrev rm_t_Reckoner_beIdleBehind : Room := { frames := 0, cells := 0, slots := 0, locals := 0 }
theorem t_Reckoner_beIdleBehind (l : Launch) (g : gG) (sz : Nat) (ad : Nat → Nat) (S : sS) (v1 : Int32) (k : Nat) (r : Int32) (S9 : sS) (h : f_Reckoner_beIdleBehind k 0 S (upd (fun _ => 0) 1 v1) (fun _ => 0) = some (r, S9)) : Cv l y_Reckoner_beIdleBehind b_Reckoner_beIdleBehind 3 rm_t_Reckoner_beIdleBehind g [.ref (ad 3), .int v1] (Sw shC g ad S) sz (fun w => ∃ S1 : sS, w = Sw shC g ad S1 ∧ S1 = S9) := by
  refine startV (by decide) (Nat.le_of_ble_eq_true rfl) ?_
  intro p e s m below meth c A ls hx hb hr hml hlocks hmn hown htt hN hA hP hK hD hS hl
  exact (w_Reckoner_beIdleBehind hx hb hml hown htt hK hN hA r S9 (fun ls H locs hP hD hS => fin_v (g := g) (ws := Sw shC g ad S9) hx hb hr hlocks (by decide +kernel) (by decide +kernel) hP hD hS ⟨_, rfl, rfl⟩ d_Reckoner_beIdleBehind_99) k).1 S (upd (fun _ => 0) 1 v1) (fun _ => 0) ls _ _ h hl hP hD hS
def f_Reckoner_rankOf : Nat → Nat → sS → (Nat → Int32) → (Nat → Int64) → Option (Int32 × sS)
  | 0, _, _, _, _ => none
  | k + 1, 0, S, L, M => if (L 0) = (37 : Int32) then (some ((12 : Int32), S)) else (if (L 0) = (38 : Int32) then (some ((7 : Int32), S)) else (if (L 0) = (41 : Int32) then (some ((0 : Int32), S)) else (if (L 0) = (42 : Int32) then (some ((12 : Int32), S)) else (if (L 0) = (43 : Int32) then (some ((11 : Int32), S)) else (if (L 0) = (45 : Int32) then (some ((11 : Int32), S)) else (if (L 0) = (47 : Int32) then (some ((12 : Int32), S)) else (if (L 0) = (58 : Int32) then (some ((2 : Int32), S)) else (if (L 0) = (60 : Int32) then (some ((9 : Int32), S)) else (if (L 0) = (62 : Int32) then (some ((9 : Int32), S)) else (if (L 0) = (63 : Int32) then (some ((1 : Int32), S)) else (if (L 0) = (94 : Int32) then (some ((6 : Int32), S)) else (if (L 0) = (124 : Int32) then (some ((5 : Int32), S)) else (if (L 0) = (9766 : Int32) then (some ((4 : Int32), S)) else (if (L 0) = (15420 : Int32) then (some ((10 : Int32), S)) else (if (L 0) = (15649 : Int32) then (some ((8 : Int32), S)) else (if (L 0) = (15676 : Int32) then (some ((9 : Int32), S)) else (if (L 0) = (15677 : Int32) then (some ((8 : Int32), S)) else (if (L 0) = (15678 : Int32) then (some ((9 : Int32), S)) else (if (L 0) = (15934 : Int32) then (some ((10 : Int32), S)) else (if (L 0) = (31868 : Int32) then (some ((3 : Int32), S)) else (some (((-1) : Int32), S))))))))))))))))))))))
  | _ + 1, _ + 1, _, _, _ => none
set_option maxHeartbeats 8000000 in
set_option maxRecDepth 100000 in
theorem w_Reckoner_rankOf {p : Program} {l : Launch} {e : Env} {R : Room} {s : State} {m : MethodId} {args : Array Value} {below : List Frame} {meth : Method} {c : Code} {cells slots : Nat} {Q : State → Prop} {g : gG} {A : Nat → Prop} {ad : Nat → Nat} (hx : p.tables.exec = Jvm.exec) (hb : c.code = b_Reckoner_rankOf) (hml : c.maxLocals = 1) (hown : s.vm.findClass "MacroMill$Reckoner" = some m.cls) (htt : ∀ w ∈ gt, w.before args s = true) (hK : va_K g.1 classes (tysG g) s) (hN : nw s) (hA : ∀ q : Nat, s.heap.size ≤ q → A q) (r : Int32) (S9 : sS)
    (kx_181 : ∀ (ls : Array Slot) (H : Heap) (locs : List Loc), va_P g.1 classes (Sw shC g ad S9) H → va_D A (Sw shC g ad S9) → va_S A s.heap H locs → W p l e R s m args below meth c H locs cells slots Q (F0 m 181 ls [.int r]))
    (kx_183 : ∀ (ls : Array Slot) (H : Heap) (locs : List Loc), va_P g.1 classes (Sw shC g ad S9) H → va_D A (Sw shC g ad S9) → va_S A s.heap H locs → W p l e R s m args below meth c H locs cells slots Q (F0 m 183 ls [.int r]))
    (kx_185 : ∀ (ls : Array Slot) (H : Heap) (locs : List Loc), va_P g.1 classes (Sw shC g ad S9) H → va_D A (Sw shC g ad S9) → va_S A s.heap H locs → W p l e R s m args below meth c H locs cells slots Q (F0 m 185 ls [.int r]))
    (kx_187 : ∀ (ls : Array Slot) (H : Heap) (locs : List Loc), va_P g.1 classes (Sw shC g ad S9) H → va_D A (Sw shC g ad S9) → va_S A s.heap H locs → W p l e R s m args below meth c H locs cells slots Q (F0 m 187 ls [.int r]))
    (kx_189 : ∀ (ls : Array Slot) (H : Heap) (locs : List Loc), va_P g.1 classes (Sw shC g ad S9) H → va_D A (Sw shC g ad S9) → va_S A s.heap H locs → W p l e R s m args below meth c H locs cells slots Q (F0 m 189 ls [.int r]))
    (kx_191 : ∀ (ls : Array Slot) (H : Heap) (locs : List Loc), va_P g.1 classes (Sw shC g ad S9) H → va_D A (Sw shC g ad S9) → va_S A s.heap H locs → W p l e R s m args below meth c H locs cells slots Q (F0 m 191 ls [.int r]))
    (kx_194 : ∀ (ls : Array Slot) (H : Heap) (locs : List Loc), va_P g.1 classes (Sw shC g ad S9) H → va_D A (Sw shC g ad S9) → va_S A s.heap H locs → W p l e R s m args below meth c H locs cells slots Q (F0 m 194 ls [.int r]))
    (kx_197 : ∀ (ls : Array Slot) (H : Heap) (locs : List Loc), va_P g.1 classes (Sw shC g ad S9) H → va_D A (Sw shC g ad S9) → va_S A s.heap H locs → W p l e R s m args below meth c H locs cells slots Q (F0 m 197 ls [.int r]))
    (kx_200 : ∀ (ls : Array Slot) (H : Heap) (locs : List Loc), va_P g.1 classes (Sw shC g ad S9) H → va_D A (Sw shC g ad S9) → va_S A s.heap H locs → W p l e R s m args below meth c H locs cells slots Q (F0 m 200 ls [.int r]))
    (kx_203 : ∀ (ls : Array Slot) (H : Heap) (locs : List Loc), va_P g.1 classes (Sw shC g ad S9) H → va_D A (Sw shC g ad S9) → va_S A s.heap H locs → W p l e R s m args below meth c H locs cells slots Q (F0 m 203 ls [.int r]))
    (kx_206 : ∀ (ls : Array Slot) (H : Heap) (locs : List Loc), va_P g.1 classes (Sw shC g ad S9) H → va_D A (Sw shC g ad S9) → va_S A s.heap H locs → W p l e R s m args below meth c H locs cells slots Q (F0 m 206 ls [.int r]))
    (kx_209 : ∀ (ls : Array Slot) (H : Heap) (locs : List Loc), va_P g.1 classes (Sw shC g ad S9) H → va_D A (Sw shC g ad S9) → va_S A s.heap H locs → W p l e R s m args below meth c H locs cells slots Q (F0 m 209 ls [.int r]))
    (kx_212 : ∀ (ls : Array Slot) (H : Heap) (locs : List Loc), va_P g.1 classes (Sw shC g ad S9) H → va_D A (Sw shC g ad S9) → va_S A s.heap H locs → W p l e R s m args below meth c H locs cells slots Q (F0 m 212 ls [.int r]))
    (kx_214 : ∀ (ls : Array Slot) (H : Heap) (locs : List Loc), va_P g.1 classes (Sw shC g ad S9) H → va_D A (Sw shC g ad S9) → va_S A s.heap H locs → W p l e R s m args below meth c H locs cells slots Q (F0 m 214 ls [.int r])) :
    ∀ k9 : Nat, (∀ (S : sS) (L : Nat → Int32) (M : Nat → Int64) (ls : Array Slot) (H : Heap) (locs : List Loc), f_Reckoner_rankOf k9 0 S L M = some (r, S9) → lv_has ls 1 [(0, .int (L 0))] → va_P g.1 classes (Sw shC g ad S) H → va_D A (Sw shC g ad S) → va_S A s.heap H locs → W p l e R s m args below meth c H locs cells slots Q (F0 m 0 ls [])) := by
  intro k9
  induction k9 with
  | zero => exact (fun _ _ _ _ _ _ h => by simp [f_Reckoner_rankOf] at h)
  | succ k9 ih =>
    · intro S L M ls H locs h hl hP hD hS
      simp only [f_Reckoner_rankOf] at h
      refine lv_iload_n hx hb d_Reckoner_rankOf_0 rfl (lv_at hl 0 rfl) ?_
      by_cases hc1_0 : (L 0) = (37 : Int32)
      · rw [if_pos hc1_0] at h
        refine lv_lookup (tgt := 210) (off := 209) hx hb d_Reckoner_rankOf_1 (by decide) (by rw [hc1_0]; decide) (by decide) ?_
        refine lv_bipush (v := 12) hx hb d_Reckoner_rankOf_210 (by decide) ?_
        cases h
        exact kx_212 ls H locs hP hD hS
      rw [if_neg hc1_0] at h
      by_cases hc1_1 : (L 0) = (38 : Int32)
      · rw [if_pos hc1_1] at h
        refine lv_lookup (tgt := 195) (off := 194) hx hb d_Reckoner_rankOf_1 (by decide) (by rw [hc1_1]; decide) (by decide) ?_
        refine lv_bipush (v := 7) hx hb d_Reckoner_rankOf_195 (by decide) ?_
        cases h
        exact kx_197 ls H locs hP hD hS
      rw [if_neg hc1_1] at h
      by_cases hc1_2 : (L 0) = (41 : Int32)
      · rw [if_pos hc1_2] at h
        refine lv_lookup (tgt := 180) (off := 179) hx hb d_Reckoner_rankOf_1 (by decide) (by rw [hc1_2]; decide) (by decide) ?_
        refine lv_iconst (v := 0) hx hb d_Reckoner_rankOf_180 (by decide) ?_
        cases h
        exact kx_181 ls H locs hP hD hS
      rw [if_neg hc1_2] at h
      by_cases hc1_3 : (L 0) = (42 : Int32)
      · rw [if_pos hc1_3] at h
        refine lv_lookup (tgt := 210) (off := 209) hx hb d_Reckoner_rankOf_1 (by decide) (by rw [hc1_3]; decide) (by decide) ?_
        refine lv_bipush (v := 12) hx hb d_Reckoner_rankOf_210 (by decide) ?_
        cases h
        exact kx_212 ls H locs hP hD hS
      rw [if_neg hc1_3] at h
      by_cases hc1_4 : (L 0) = (43 : Int32)
      · rw [if_pos hc1_4] at h
        refine lv_lookup (tgt := 207) (off := 206) hx hb d_Reckoner_rankOf_1 (by decide) (by rw [hc1_4]; decide) (by decide) ?_
        refine lv_bipush (v := 11) hx hb d_Reckoner_rankOf_207 (by decide) ?_
        cases h
        exact kx_209 ls H locs hP hD hS
      rw [if_neg hc1_4] at h
      by_cases hc1_5 : (L 0) = (45 : Int32)
      · rw [if_pos hc1_5] at h
        refine lv_lookup (tgt := 207) (off := 206) hx hb d_Reckoner_rankOf_1 (by decide) (by rw [hc1_5]; decide) (by decide) ?_
        refine lv_bipush (v := 11) hx hb d_Reckoner_rankOf_207 (by decide) ?_
        cases h
        exact kx_209 ls H locs hP hD hS
      rw [if_neg hc1_5] at h
      by_cases hc1_6 : (L 0) = (47 : Int32)
      · rw [if_pos hc1_6] at h
        refine lv_lookup (tgt := 210) (off := 209) hx hb d_Reckoner_rankOf_1 (by decide) (by rw [hc1_6]; decide) (by decide) ?_
        refine lv_bipush (v := 12) hx hb d_Reckoner_rankOf_210 (by decide) ?_
        cases h
        exact kx_212 ls H locs hP hD hS
      rw [if_neg hc1_6] at h
      by_cases hc1_7 : (L 0) = (58 : Int32)
      · rw [if_pos hc1_7] at h
        refine lv_lookup (tgt := 184) (off := 183) hx hb d_Reckoner_rankOf_1 (by decide) (by rw [hc1_7]; decide) (by decide) ?_
        refine lv_iconst (v := 2) hx hb d_Reckoner_rankOf_184 (by decide) ?_
        cases h
        exact kx_185 ls H locs hP hD hS
      rw [if_neg hc1_7] at h
      by_cases hc1_8 : (L 0) = (60 : Int32)
      · rw [if_pos hc1_8] at h
        refine lv_lookup (tgt := 201) (off := 200) hx hb d_Reckoner_rankOf_1 (by decide) (by rw [hc1_8]; decide) (by decide) ?_
        refine lv_bipush (v := 9) hx hb d_Reckoner_rankOf_201 (by decide) ?_
        cases h
        exact kx_203 ls H locs hP hD hS
      rw [if_neg hc1_8] at h
      by_cases hc1_9 : (L 0) = (62 : Int32)
      · rw [if_pos hc1_9] at h
        refine lv_lookup (tgt := 201) (off := 200) hx hb d_Reckoner_rankOf_1 (by decide) (by rw [hc1_9]; decide) (by decide) ?_
        refine lv_bipush (v := 9) hx hb d_Reckoner_rankOf_201 (by decide) ?_
        cases h
        exact kx_203 ls H locs hP hD hS
      rw [if_neg hc1_9] at h
      by_cases hc1_10 : (L 0) = (63 : Int32)
      · rw [if_pos hc1_10] at h
        refine lv_lookup (tgt := 182) (off := 181) hx hb d_Reckoner_rankOf_1 (by decide) (by rw [hc1_10]; decide) (by decide) ?_
        refine lv_iconst (v := 1) hx hb d_Reckoner_rankOf_182 (by decide) ?_
        cases h
        exact kx_183 ls H locs hP hD hS
      rw [if_neg hc1_10] at h
      by_cases hc1_11 : (L 0) = (94 : Int32)
      · rw [if_pos hc1_11] at h
        refine lv_lookup (tgt := 192) (off := 191) hx hb d_Reckoner_rankOf_1 (by decide) (by rw [hc1_11]; decide) (by decide) ?_
        refine lv_bipush (v := 6) hx hb d_Reckoner_rankOf_192 (by decide) ?_
        cases h
        exact kx_194 ls H locs hP hD hS
      rw [if_neg hc1_11] at h
      by_cases hc1_12 : (L 0) = (124 : Int32)
      · rw [if_pos hc1_12] at h
        refine lv_lookup (tgt := 190) (off := 189) hx hb d_Reckoner_rankOf_1 (by decide) (by rw [hc1_12]; decide) (by decide) ?_
        refine lv_iconst (v := 5) hx hb d_Reckoner_rankOf_190 (by decide) ?_
        cases h
        exact kx_191 ls H locs hP hD hS
      rw [if_neg hc1_12] at h
      by_cases hc1_13 : (L 0) = (9766 : Int32)
      · rw [if_pos hc1_13] at h
        refine lv_lookup (tgt := 188) (off := 187) hx hb d_Reckoner_rankOf_1 (by decide) (by rw [hc1_13]; decide) (by decide) ?_
        refine lv_iconst (v := 4) hx hb d_Reckoner_rankOf_188 (by decide) ?_
        cases h
        exact kx_189 ls H locs hP hD hS
      rw [if_neg hc1_13] at h
      by_cases hc1_14 : (L 0) = (15420 : Int32)
      · rw [if_pos hc1_14] at h
        refine lv_lookup (tgt := 204) (off := 203) hx hb d_Reckoner_rankOf_1 (by decide) (by rw [hc1_14]; decide) (by decide) ?_
        refine lv_bipush (v := 10) hx hb d_Reckoner_rankOf_204 (by decide) ?_
        cases h
        exact kx_206 ls H locs hP hD hS
      rw [if_neg hc1_14] at h
      by_cases hc1_15 : (L 0) = (15649 : Int32)
      · rw [if_pos hc1_15] at h
        refine lv_lookup (tgt := 198) (off := 197) hx hb d_Reckoner_rankOf_1 (by decide) (by rw [hc1_15]; decide) (by decide) ?_
        refine lv_bipush (v := 8) hx hb d_Reckoner_rankOf_198 (by decide) ?_
        cases h
        exact kx_200 ls H locs hP hD hS
      rw [if_neg hc1_15] at h
      by_cases hc1_16 : (L 0) = (15676 : Int32)
      · rw [if_pos hc1_16] at h
        refine lv_lookup (tgt := 201) (off := 200) hx hb d_Reckoner_rankOf_1 (by decide) (by rw [hc1_16]; decide) (by decide) ?_
        refine lv_bipush (v := 9) hx hb d_Reckoner_rankOf_201 (by decide) ?_
        cases h
        exact kx_203 ls H locs hP hD hS
      rw [if_neg hc1_16] at h
      by_cases hc1_17 : (L 0) = (15677 : Int32)
      · rw [if_pos hc1_17] at h
        refine lv_lookup (tgt := 198) (off := 197) hx hb d_Reckoner_rankOf_1 (by decide) (by rw [hc1_17]; decide) (by decide) ?_
        refine lv_bipush (v := 8) hx hb d_Reckoner_rankOf_198 (by decide) ?_
        cases h
        exact kx_200 ls H locs hP hD hS
      rw [if_neg hc1_17] at h
      by_cases hc1_18 : (L 0) = (15678 : Int32)
      · rw [if_pos hc1_18] at h
        refine lv_lookup (tgt := 201) (off := 200) hx hb d_Reckoner_rankOf_1 (by decide) (by rw [hc1_18]; decide) (by decide) ?_
        refine lv_bipush (v := 9) hx hb d_Reckoner_rankOf_201 (by decide) ?_
        cases h
        exact kx_203 ls H locs hP hD hS
      rw [if_neg hc1_18] at h
      by_cases hc1_19 : (L 0) = (15934 : Int32)
      · rw [if_pos hc1_19] at h
        refine lv_lookup (tgt := 204) (off := 203) hx hb d_Reckoner_rankOf_1 (by decide) (by rw [hc1_19]; decide) (by decide) ?_
        refine lv_bipush (v := 10) hx hb d_Reckoner_rankOf_204 (by decide) ?_
        cases h
        exact kx_206 ls H locs hP hD hS
      rw [if_neg hc1_19] at h
      by_cases hc1_20 : (L 0) = (31868 : Int32)
      · rw [if_pos hc1_20] at h
        refine lv_lookup (tgt := 186) (off := 185) hx hb d_Reckoner_rankOf_1 (by decide) (by rw [hc1_20]; decide) (by decide) ?_
        refine lv_iconst (v := 3) hx hb d_Reckoner_rankOf_186 (by decide) ?_
        cases h
        exact kx_187 ls H locs hP hD hS
      rw [if_neg hc1_20] at h
      refine lv_lookup (tgt := 213) (off := 212) hx hb d_Reckoner_rankOf_1 (by decide) (by rw [lv_osw hc1_0 (k := 37) (by decide), lv_osw hc1_1 (k := 38) (by decide), lv_osw hc1_2 (k := 41) (by decide), lv_osw hc1_3 (k := 42) (by decide), lv_osw hc1_4 (k := 43) (by decide), lv_osw hc1_5 (k := 45) (by decide), lv_osw hc1_6 (k := 47) (by decide), lv_osw hc1_7 (k := 58) (by decide), lv_osw hc1_8 (k := 60) (by decide), lv_osw hc1_9 (k := 62) (by decide), lv_osw hc1_10 (k := 63) (by decide), lv_osw hc1_11 (k := 94) (by decide), lv_osw hc1_12 (k := 124) (by decide), lv_osw hc1_13 (k := 9766) (by decide), lv_osw hc1_14 (k := 15420) (by decide), lv_osw hc1_15 (k := 15649) (by decide), lv_osw hc1_16 (k := 15676) (by decide), lv_osw hc1_17 (k := 15677) (by decide), lv_osw hc1_18 (k := 15678) (by decide), lv_osw hc1_19 (k := 15934) (by decide), lv_osw hc1_20 (k := 31868) (by decide)]; rfl) (by decide) ?_
      refine lv_iconst (v := (-1)) hx hb d_Reckoner_rankOf_213 (by decide) ?_
      cases h
      exact kx_214 ls H locs hP hD hS
abbrev rm_t_Reckoner_rankOf : Room := { frames := 0, cells := 0, slots := 0, locals := 0 }
theorem t_Reckoner_rankOf (l : Launch) (g : gG) (sz : Nat) (ad : Nat → Nat) (S : sS) (v1 : Int32) (k : Nat) (r : Int32) (S9 : sS) (h : f_Reckoner_rankOf k 0 S (upd (fun _ => 0) 0 v1) (fun _ => 0) = some (r, S9)) : Ci l y_Reckoner_rankOf b_Reckoner_rankOf 1 rm_t_Reckoner_rankOf g [.int v1] (Sw shC g ad S) sz (fun r1 w => ∃ S1 : sS, w = Sw shC g ad S1 ∧ r1 = r ∧ S1 = S9) := by
  refine startI (by decide) (Nat.le_of_ble_eq_true rfl) ?_
  intro p e s m below meth c A ls hx hb hr hml hlocks hmn hown htt hN hA hP hK hD hS hl
  exact (w_Reckoner_rankOf hx hb hml hown htt hK hN hA r S9 (fun ls H locs hP hD hS => fin_i (g := g) (ws := Sw shC g ad S9) hx hb hr hlocks (by decide +kernel) (by decide +kernel) hP hD hS ⟨_, rfl, rfl, rfl⟩ d_Reckoner_rankOf_181) (fun ls H locs hP hD hS => fin_i (g := g) (ws := Sw shC g ad S9) hx hb hr hlocks (by decide +kernel) (by decide +kernel) hP hD hS ⟨_, rfl, rfl, rfl⟩ d_Reckoner_rankOf_183) (fun ls H locs hP hD hS => fin_i (g := g) (ws := Sw shC g ad S9) hx hb hr hlocks (by decide +kernel) (by decide +kernel) hP hD hS ⟨_, rfl, rfl, rfl⟩ d_Reckoner_rankOf_185) (fun ls H locs hP hD hS => fin_i (g := g) (ws := Sw shC g ad S9) hx hb hr hlocks (by decide +kernel) (by decide +kernel) hP hD hS ⟨_, rfl, rfl, rfl⟩ d_Reckoner_rankOf_187) (fun ls H locs hP hD hS => fin_i (g := g) (ws := Sw shC g ad S9) hx hb hr hlocks (by decide +kernel) (by decide +kernel) hP hD hS ⟨_, rfl, rfl, rfl⟩ d_Reckoner_rankOf_189) (fun ls H locs hP hD hS => fin_i (g := g) (ws := Sw shC g ad S9) hx hb hr hlocks (by decide +kernel) (by decide +kernel) hP hD hS ⟨_, rfl, rfl, rfl⟩ d_Reckoner_rankOf_191) (fun ls H locs hP hD hS => fin_i (g := g) (ws := Sw shC g ad S9) hx hb hr hlocks (by decide +kernel) (by decide +kernel) hP hD hS ⟨_, rfl, rfl, rfl⟩ d_Reckoner_rankOf_194) (fun ls H locs hP hD hS => fin_i (g := g) (ws := Sw shC g ad S9) hx hb hr hlocks (by decide +kernel) (by decide +kernel) hP hD hS ⟨_, rfl, rfl, rfl⟩ d_Reckoner_rankOf_197) (fun ls H locs hP hD hS => fin_i (g := g) (ws := Sw shC g ad S9) hx hb hr hlocks (by decide +kernel) (by decide +kernel) hP hD hS ⟨_, rfl, rfl, rfl⟩ d_Reckoner_rankOf_200) (fun ls H locs hP hD hS => fin_i (g := g) (ws := Sw shC g ad S9) hx hb hr hlocks (by decide +kernel) (by decide +kernel) hP hD hS ⟨_, rfl, rfl, rfl⟩ d_Reckoner_rankOf_203) (fun ls H locs hP hD hS => fin_i (g := g) (ws := Sw shC g ad S9) hx hb hr hlocks (by decide +kernel) (by decide +kernel) hP hD hS ⟨_, rfl, rfl, rfl⟩ d_Reckoner_rankOf_206) (fun ls H locs hP hD hS => fin_i (g := g) (ws := Sw shC g ad S9) hx hb hr hlocks (by decide +kernel) (by decide +kernel) hP hD hS ⟨_, rfl, rfl, rfl⟩ d_Reckoner_rankOf_209) (fun ls H locs hP hD hS => fin_i (g := g) (ws := Sw shC g ad S9) hx hb hr hlocks (by decide +kernel) (by decide +kernel) hP hD hS ⟨_, rfl, rfl, rfl⟩ d_Reckoner_rankOf_212) (fun ls H locs hP hD hS => fin_i (g := g) (ws := Sw shC g ad S9) hx hb hr hlocks (by decide +kernel) (by decide +kernel) hP hD hS ⟨_, rfl, rfl, rfl⟩ d_Reckoner_rankOf_214) k) S (upd (fun _ => 0) 0 v1) (fun _ => 0) ls _ _ h hl hP hD hS
def f_Reckoner_endOperand : Nat → Nat → sS → (Nat → Int32) → (Nat → Int64) → Option (Int32 × sS)
  | 0, _, _, _, _ => none
  | k + 1, 0, S, L, M => f_Reckoner_endOperand k 1 (putI S 3 9 0) (upd L 1 (0 : Int32)) M
  | k + 1, 1, S, L, M => if (1000 : Int32) ≤ (L 1) then (f_Reckoner_endOperand k 5 S L M) else ((f_Reckoner_isTop k 0 S (upd (fun _ => 0) 1 (20 : Int32)) (fun _ => 0)).bind (fun (r2, T2) => if r2 = (0 : Int32) then (f_Reckoner_endOperand k 5 T2 L M) else (if okI ((T2.1 3 6) - (1 : Int32)) 1000 = true then (if ((putI (putI T2 3 6 ((T2.1 3 6) - (1 : Int32))) 3 7 ((T2.1 3 7) - (1 : Int32))).2.1 8 ((T2.1 3 6) - (1 : Int32) : Int32).toNatClampNeg) = (45 : Int32) then (if (T2.1 3 8) = (0 : Int32) then (if okI ((T2.1 3 2) - (1 : Int32)) 1000 = true then (f_Reckoner_endOperand k 2 (putI (putI T2 3 6 ((T2.1 3 6) - (1 : Int32))) 3 7 ((T2.1 3 7) - (1 : Int32))) (upd (upd (upd L 2 ((T2.1 3 2) - (1 : Int32))) 3 ((putI (putI T2 3 6 ((T2.1 3 6) - (1 : Int32))) 3 7 ((T2.1 3 7) - (1 : Int32))).2.1 8 ((T2.1 3 6) - (1 : Int32) : Int32).toNatClampNeg)) 101 ((T2.1 3 2) - (1 : Int32))) (vp_updL M 102 (((-((putI (putI T2 3 6 ((T2.1 3 6) - (1 : Int32))) 3 7 ((T2.1 3 7) - (1 : Int32))).2.2 6 ((T2.1 3 2) - (1 : Int32) : Int32).toNatClampNeg)).toInt32).toInt64))) else none) else (if okI ((T2.1 3 2) - (1 : Int32)) 1000 = true then (f_Reckoner_endOperand k 2 (putI (putI T2 3 6 ((T2.1 3 6) - (1 : Int32))) 3 7 ((T2.1 3 7) - (1 : Int32))) (upd (upd (upd L 2 ((T2.1 3 2) - (1 : Int32))) 3 ((putI (putI T2 3 6 ((T2.1 3 6) - (1 : Int32))) 3 7 ((T2.1 3 7) - (1 : Int32))).2.1 8 ((T2.1 3 6) - (1 : Int32) : Int32).toNatClampNeg)) 101 ((T2.1 3 2) - (1 : Int32))) (vp_updL M 102 (-((putI (putI T2 3 6 ((T2.1 3 6) - (1 : Int32))) 3 7 ((T2.1 3 7) - (1 : Int32))).2.2 6 ((T2.1 3 2) - (1 : Int32) : Int32).toNatClampNeg)))) else none)) else (if ((putI (putI T2 3 6 ((T2.1 3 6) - (1 : Int32))) 3 7 ((T2.1 3 7) - (1 : Int32))).2.1 8 ((T2.1 3 6) - (1 : Int32) : Int32).toNatClampNeg) = (126 : Int32) then (if okI ((T2.1 3 2) - (1 : Int32)) 1000 = true then (if okI ((T2.1 3 2) - (1 : Int32)) 1000 = true then (f_Reckoner_endOperand k 4 (putL (putI (putI T2 3 6 ((T2.1 3 6) - (1 : Int32))) 3 7 ((T2.1 3 7) - (1 : Int32))) 6 ((T2.1 3 2) - (1 : Int32) : Int32).toNatClampNeg (((putI (putI T2 3 6 ((T2.1 3 6) - (1 : Int32))) 3 7 ((T2.1 3 7) - (1 : Int32))).2.2 6 ((T2.1 3 2) - (1 : Int32) : Int32).toNatClampNeg) ^^^ ((-1) : Int64))) (upd (upd L 2 ((T2.1 3 2) - (1 : Int32))) 3 ((putI (putI T2 3 6 ((T2.1 3 6) - (1 : Int32))) 3 7 ((T2.1 3 7) - (1 : Int32))).2.1 8 ((T2.1 3 6) - (1 : Int32) : Int32).toNatClampNeg)) M) else none) else none) else (if ((putI (putI T2 3 6 ((T2.1 3 6) - (1 : Int32))) 3 7 ((T2.1 3 7) - (1 : Int32))).2.1 8 ((T2.1 3 6) - (1 : Int32) : Int32).toNatClampNeg) = (33 : Int32) then (if okI ((T2.1 3 2) - (1 : Int32)) 1000 = true then (if (lg_cmp ((putI (putI T2 3 6 ((T2.1 3 6) - (1 : Int32))) 3 7 ((T2.1 3 7) - (1 : Int32))).2.2 6 ((T2.1 3 2) - (1 : Int32) : Int32).toNatClampNeg) (0 : Int64)) = (0 : Int32) then (f_Reckoner_endOperand k 3 (putI (putI T2 3 6 ((T2.1 3 6) - (1 : Int32))) 3 7 ((T2.1 3 7) - (1 : Int32))) (upd (upd (upd L 2 ((T2.1 3 2) - (1 : Int32))) 3 ((putI (putI T2 3 6 ((T2.1 3 6) - (1 : Int32))) 3 7 ((T2.1 3 7) - (1 : Int32))).2.1 8 ((T2.1 3 6) - (1 : Int32) : Int32).toNatClampNeg)) 101 ((T2.1 3 2) - (1 : Int32))) (vp_updL M 102 (1 : Int64))) else (f_Reckoner_endOperand k 3 (putI (putI T2 3 6 ((T2.1 3 6) - (1 : Int32))) 3 7 ((T2.1 3 7) - (1 : Int32))) (upd (upd (upd L 2 ((T2.1 3 2) - (1 : Int32))) 3 ((putI (putI T2 3 6 ((T2.1 3 6) - (1 : Int32))) 3 7 ((T2.1 3 7) - (1 : Int32))).2.1 8 ((T2.1 3 6) - (1 : Int32) : Int32).toNatClampNeg)) 101 ((T2.1 3 2) - (1 : Int32))) (vp_updL M 102 (0 : Int64)))) else none) else (f_Reckoner_endOperand k 4 (putI (putI T2 3 6 ((T2.1 3 6) - (1 : Int32))) 3 7 ((T2.1 3 7) - (1 : Int32))) (upd (upd L 2 ((T2.1 3 2) - (1 : Int32))) 3 ((putI (putI T2 3 6 ((T2.1 3 6) - (1 : Int32))) 3 7 ((T2.1 3 7) - (1 : Int32))).2.1 8 ((T2.1 3 6) - (1 : Int32) : Int32).toNatClampNeg)) M)))) else none)))
  | k + 1, 2, S, L, M => if okI (L 101) 1000 = true then (f_Reckoner_endOperand k 4 (putL S 6 (L 101 : Int32).toNatClampNeg (M 102)) L M) else none
  | k + 1, 3, S, L, M => if okI (L 101) 1000 = true then (if okI (L 2) 1000 = true then (f_Reckoner_endOperand k 4 (putA (putL S 6 (L 101 : Int32).toNatClampNeg (M 102)) 7 (L 2 : Int32).toNatClampNeg (vp_nar .boolean 0)) L M) else none) else none
  | k + 1, 4, S, L, M => f_Reckoner_endOperand k 1 S (upd L 1 ((L 1) + 1)) M
  | k + 1, 5, S, L, M => some ((0 : Int32), S)
  | _ + 1, _ + 6, _, _, _ => none
set_option maxHeartbeats 8000000 in
set_option maxRecDepth 100000 in
theorem w_Reckoner_endOperand {p : Program} {l : Launch} {e : Env} {R : Room} {s : State} {m : MethodId} {args : Array Value} {below : List Frame} {meth : Method} {c : Code} {cells slots : Nat} {Q : State → Prop} {g : gG} {A : Nat → Prop} {ad : Nat → Nat} (hx : p.tables.exec = Jvm.exec) (hb : c.code = b_Reckoner_endOperand) (hml : c.maxLocals = 4) (hown : s.vm.findClass "MacroMill$Reckoner" = some m.cls) (htt : ∀ w ∈ gt, w.before args s = true) (hK : va_K g.1 classes (tysG g) s) (hN : nw s) (hA : ∀ q : Nat, s.heap.size ≤ q → A q) (hRf : 1 ≤ R.frames) (hRl : 21 ≤ R.locals) (hRc : cells ≤ R.cells) (hRs : slots ≤ R.slots) (r : Int32) (S9 : sS)
    (kx_167 : ∀ (ls : Array Slot) (H : Heap) (locs : List Loc), va_P g.1 classes (Sw shC g ad S9) H → va_D A (Sw shC g ad S9) → va_S A s.heap H locs → W p l e R s m args below meth c H locs cells slots Q (F0 m 167 ls [])) :
    ∀ k9 : Nat, (∀ (S : sS) (L : Nat → Int32) (M : Nat → Int64) (ls : Array Slot) (H : Heap) (locs : List Loc), f_Reckoner_endOperand k9 0 S L M = some (r, S9) → lv_has ls 4 [(0, .ref (ad 3))] → va_P g.1 classes (Sw shC g ad S) H → va_D A (Sw shC g ad S) → va_S A s.heap H locs → W p l e R s m args below meth c H locs cells slots Q (F0 m 0 ls [])) ∧ (∀ (S : sS) (L : Nat → Int32) (M : Nat → Int64) (ls : Array Slot) (H : Heap) (locs : List Loc), f_Reckoner_endOperand k9 1 S L M = some (r, S9) → lv_has ls 4 [(0, .ref (ad 3)), (1, .int (L 1))] → va_P g.1 classes (Sw shC g ad S) H → va_D A (Sw shC g ad S) → va_S A s.heap H locs → W p l e R s m args below meth c H locs cells slots Q (F0 m 7 ls [])) ∧ (∀ (S : sS) (L : Nat → Int32) (M : Nat → Int64) (ls : Array Slot) (H : Heap) (locs : List Loc), f_Reckoner_endOperand k9 2 S L M = some (r, S9) → lv_has ls 4 [(0, .ref (ad 3)), (1, .int (L 1)), (2, .int (L 2)), (3, .int (L 3))] → va_P g.1 classes (Sw shC g ad S) H → va_D A (Sw shC g ad S) → va_S A s.heap H locs → W p l e R s m args below meth c H locs cells slots Q (F0 m 97 ls [.long (M 102), .int (L 101), .ref (ad 19)])) ∧ (∀ (S : sS) (L : Nat → Int32) (M : Nat → Int64) (ls : Array Slot) (H : Heap) (locs : List Loc), f_Reckoner_endOperand k9 3 S L M = some (r, S9) → lv_has ls 4 [(0, .ref (ad 3)), (1, .int (L 1)), (2, .int (L 2)), (3, .int (L 3))] → va_P g.1 classes (Sw shC g ad S) H → va_D A (Sw shC g ad S) → va_S A s.heap H locs → W p l e R s m args below meth c H locs cells slots Q (F0 m 153 ls [.long (M 102), .int (L 101), .ref (ad 19)])) ∧ (∀ (S : sS) (L : Nat → Int32) (M : Nat → Int64) (ls : Array Slot) (H : Heap) (locs : List Loc), f_Reckoner_endOperand k9 4 S L M = some (r, S9) → lv_has ls 4 [(0, .ref (ad 3)), (1, .int (L 1)), (2, .int (L 2)), (3, .int (L 3))] → va_P g.1 classes (Sw shC g ad S) H → va_D A (Sw shC g ad S) → va_S A s.heap H locs → W p l e R s m args below meth c H locs cells slots Q (F0 m 161 ls [])) ∧ (∀ (S : sS) (L : Nat → Int32) (M : Nat → Int64) (ls : Array Slot) (H : Heap) (locs : List Loc), f_Reckoner_endOperand k9 5 S L M = some (r, S9) → lv_has ls 4 [(0, .ref (ad 3)), (1, .int (L 1))] → va_P g.1 classes (Sw shC g ad S) H → va_D A (Sw shC g ad S) → va_S A s.heap H locs → W p l e R s m args below meth c H locs cells slots Q (F0 m 167 ls [])) := by
  intro k9
  induction k9 with
  | zero => exact ⟨(fun _ _ _ _ _ _ h => by simp [f_Reckoner_endOperand] at h), (fun _ _ _ _ _ _ h => by simp [f_Reckoner_endOperand] at h), (fun _ _ _ _ _ _ h => by simp [f_Reckoner_endOperand] at h), (fun _ _ _ _ _ _ h => by simp [f_Reckoner_endOperand] at h), (fun _ _ _ _ _ _ h => by simp [f_Reckoner_endOperand] at h), (fun _ _ _ _ _ _ h => by simp [f_Reckoner_endOperand] at h)⟩
  | succ k9 ih =>
    refine ⟨?_, ?_, ?_, ?_, ?_, ?_⟩
    · intro S L M ls H locs h hl hP hD hS
      simp only [f_Reckoner_endOperand] at h
      refine lv_aload_n hx hb d_Reckoner_endOperand_0 rfl (lv_at hl 0 rfl) ?_
      refine lv_iconst (v := 0) hx hb d_Reckoner_endOperand_1 (by decide) ?_
      refine S_put (h := shC) (C := "MacroMill$Reckoner") (T := F_Reckoner) (v := 0) hx hb htt in_Reckoner t_Reckoner t_Reckoner_ok n_Reckoner hown hK hP hD hS 3 9 rfl rfl rfl (by decide) (htt _ k_400) (fun _ h9 => h9) rfl rfl rfl d_Reckoner_endOperand_2 (fun H locs hP hD hS => ?_)
      refine lv_iconst (v := 0) hx hb d_Reckoner_endOperand_5 (by decide) ?_
      refine lv_istore_n (lv' := [(1, .int 0), (0, .ref (ad 3))]) hx hb d_Reckoner_endOperand_6 rfl hl (by decide) rfl (fun ls hl => ?_)
      exact (ih.2.1) (putI S 3 9 0) (upd L 1 (0 : Int32)) M ls H locs h (lv_sub hl [1, 0] rfl) hP hD hS
    · intro S L M ls H locs h hl hP hD hS
      simp only [f_Reckoner_endOperand] at h
      refine lv_iload_n hx hb d_Reckoner_endOperand_7 rfl (lv_at hl 1 rfl) ?_
      refine lv_sipush (v := 1000) hx hb d_Reckoner_endOperand_8 (by decide) ?_
      refine lv_icmp_ge (tgt := 167) hx hb d_Reckoner_endOperand_11 (by decide) (fun hc1 => ?_) (fun hc1 => ?_)
      · rw [if_pos hc1] at h
        exact (ih.2.2.2.2.2) S L M ls H locs h (lv_sub hl [0, 1] rfl) hP hD hS
      · rw [if_neg hc1] at h
        refine lv_aload_n hx hb d_Reckoner_endOperand_14 rfl (lv_at hl 0 rfl) ?_
        refine lv_bipush (v := 20) hx hb d_Reckoner_endOperand_15 (by decide) ?_
        obtain ⟨⟨r2, T2⟩, hq2, h⟩ := Option.bind_eq_some_iff.mp h
        try dsimp only at h
        refine go_iS (As := [.ref (ad 3), .int 20]) (g := g) (A := A) (h := shC) hP hK hD hS hA hN (fun hp => va_runV (As := [.int 20]) (rest := []) ⟨hx, hb, hml, hown, htt⟩ (t_Reckoner_isTop l g _ ad S (20 : Int32) k9 r2 T2 hq2) ⟨(cb_L htt k_1377 k_265 k_1374 hd_Reckoner_isTop ⟨(Nat.le_trans (by decide +kernel) hRf), (Nat.le_trans (by decide +kernel) hRl)⟩), htt _ k_1376, htt _ k_30⟩ ⟨hp.1, S_recv hK hP 3 rfl rfl, hp.2⟩ rfl rfl hl.1 rfl (lv_room (Nat.le_of_ble_eq_true rfl)) d_Reckoner_endOperand_17 ⟨hRc, hRs⟩) (fun r0 Sn H locs hw9 hP hD hS => ?_)
        obtain ⟨e9, e8⟩ := hw9
        rw [e8] at hP hD
        refine W.widen (k := cells) (n := slots) (Nat.le_refl _) (Nat.le_refl _) ?_
        refine toI (y := r2) e9 ?_
        refine lv_if_eq (tgt := 167) hx hb d_Reckoner_endOperand_20 (by decide) (fun hc3 => ?_) (fun hc3 => ?_)
        · rw [if_pos hc3] at h
          exact (ih.2.2.2.2.2) T2 L M ls H locs h (lv_sub hl [0, 1] rfl) hP hD hS
        · rw [if_neg hc3] at h
          refine lv_aload_n hx hb d_Reckoner_endOperand_23 rfl (lv_at hl 0 rfl) ?_
          refine lv_dup hx hb d_Reckoner_endOperand_24 rfl ?_
          refine S_getI (h := shC) (C := "MacroMill$Reckoner") (T := F_Reckoner) hx hb htt in_Reckoner hown hK hP 3 6 rfl rfl rfl (by decide) (htt _ k_397) (fun _ h9 => h9) d_Reckoner_endOperand_25 ?_
          refine lv_iconst (v := 1) hx hb d_Reckoner_endOperand_28 (by decide) ?_
          refine lv_isub hx hb d_Reckoner_endOperand_29 ?_
          refine S_put (h := shC) (C := "MacroMill$Reckoner") (T := F_Reckoner) (v := (T2.1 3 6) - (1 : Int32)) hx hb htt in_Reckoner t_Reckoner t_Reckoner_ok n_Reckoner hown hK hP hD hS 3 6 rfl rfl rfl (by decide) (htt _ k_397) (fun _ h9 => h9) rfl rfl rfl d_Reckoner_endOperand_30 (fun H locs hP hD hS => ?_)
          refine lv_aload_n hx hb d_Reckoner_endOperand_33 rfl (lv_at hl 0 rfl) ?_
          show W _ _ _ _ _ _ _ _ _ _ _ _ _ _ _ (F0 _ 34 _ _)
          refine lv_dup hx hb d_Reckoner_endOperand_34 rfl ?_
          refine S_getI (h := shC) (C := "MacroMill$Reckoner") (T := F_Reckoner) hx hb htt in_Reckoner hown hK hP 3 7 rfl rfl rfl (by decide) (htt _ k_398) (fun _ h9 => h9) d_Reckoner_endOperand_35 ?_
          refine toI (y := T2.1 3 7) rfl ?_
          refine lv_iconst (v := 1) hx hb d_Reckoner_endOperand_38 (by decide) ?_
          refine lv_isub hx hb d_Reckoner_endOperand_39 ?_
          refine S_put (h := shC) (C := "MacroMill$Reckoner") (T := F_Reckoner) (v := (T2.1 3 7) - (1 : Int32)) hx hb htt in_Reckoner t_Reckoner t_Reckoner_ok n_Reckoner hown hK hP hD hS 3 7 rfl rfl rfl (by decide) (htt _ k_398) (fun _ h9 => h9) rfl rfl rfl d_Reckoner_endOperand_40 (fun H locs hP hD hS => ?_)
          refine lv_aload_n hx hb d_Reckoner_endOperand_43 rfl (lv_at hl 0 rfl) ?_
          refine S_getI (h := shC) (C := "MacroMill$Reckoner") (T := F_Reckoner) hx hb htt in_Reckoner hown hK hP 3 2 rfl rfl rfl (by decide) (htt _ k_393) (fun _ h9 => h9) d_Reckoner_endOperand_44 ?_
          refine toI (y := T2.1 3 2) rfl ?_
          refine lv_iconst (v := 1) hx hb d_Reckoner_endOperand_47 (by decide) ?_
          refine lv_isub hx hb d_Reckoner_endOperand_48 ?_
          refine lv_istore_n (lv' := [(2, .int ((T2.1 3 2) - (1 : Int32))), (0, .ref (ad 3)), (1, .int (L 1))]) hx hb d_Reckoner_endOperand_49 rfl hl (by decide) rfl (fun ls hl => ?_)
          refine lv_aload_n hx hb d_Reckoner_endOperand_50 rfl (lv_at hl 1 rfl) ?_
          refine S_getR (h := shC) (C := "MacroMill$Reckoner") (T := F_Reckoner) hx hb htt in_Reckoner hown hK hP 3 3 rfl 21 rfl rfl (by decide) (htt _ k_394) (fun _ h9 => h9) d_Reckoner_endOperand_51 ?_
          show W _ _ _ _ _ _ _ _ _ _ _ _ _ _ _ (F0 _ 54 _ _)
          refine lv_aload_n hx hb d_Reckoner_endOperand_54 rfl (lv_at hl 1 rfl) ?_
          refine S_getI (h := shC) (C := "MacroMill$Reckoner") (T := F_Reckoner) hx hb htt in_Reckoner hown hK hP 3 6 rfl rfl rfl (by decide) (htt _ k_397) (fun _ h9 => h9) d_Reckoner_endOperand_55 ?_
          refine toI (y := (T2.1 3 6) - (1 : Int32)) rfl ?_
          obtain ⟨hv4, h⟩ := chk h
          refine S_iald (h := shC) (i := (T2.1 3 6) - (1 : Int32)) hx hb hK hP 8 rfl (okI_in hv4) d_Reckoner_endOperand_58 ?_
          refine lv_istore_n (lv' := [(3, .int ((putI (putI T2 3 6 ((T2.1 3 6) - (1 : Int32))) 3 7 ((T2.1 3 7) - (1 : Int32))).2.1 8 ((T2.1 3 6) - (1 : Int32) : Int32).toNatClampNeg)), (2, .int ((T2.1 3 2) - (1 : Int32))), (0, .ref (ad 3)), (1, .int (L 1))]) hx hb d_Reckoner_endOperand_59 rfl hl (by decide) rfl (fun ls hl => ?_)
          refine lv_iload_n hx hb d_Reckoner_endOperand_60 rfl (lv_at hl 0 rfl) ?_
          refine lv_bipush (v := 45) hx hb d_Reckoner_endOperand_61 (by decide) ?_
          refine lv_icmp_ne (tgt := 101) hx hb d_Reckoner_endOperand_63 (by decide) (fun hc5 => ?_) (fun hc5 => ?_)
          · rw [if_neg hc5] at h
            refine lv_iload_n hx hb d_Reckoner_endOperand_101 rfl (lv_at hl 0 rfl) ?_
            refine lv_bipush (v := 126) hx hb d_Reckoner_endOperand_102 (by decide) ?_
            refine lv_icmp_ne (tgt := 126) hx hb d_Reckoner_endOperand_104 (by decide) (fun hc6 => ?_) (fun hc6 => ?_)
            · rw [if_neg hc6] at h
              refine lv_iload_n hx hb d_Reckoner_endOperand_126 rfl (lv_at hl 0 rfl) ?_
              refine lv_bipush (v := 33) hx hb d_Reckoner_endOperand_127 (by decide) ?_
              refine lv_icmp_ne (tgt := 161) hx hb d_Reckoner_endOperand_129 (by decide) (fun hc7 => ?_) (fun hc7 => ?_)
              · rw [if_neg hc7] at h
                exact (ih.2.2.2.2.1) (putI (putI T2 3 6 ((T2.1 3 6) - (1 : Int32))) 3 7 ((T2.1 3 7) - (1 : Int32))) (upd (upd L 2 ((T2.1 3 2) - (1 : Int32))) 3 ((putI (putI T2 3 6 ((T2.1 3 6) - (1 : Int32))) 3 7 ((T2.1 3 7) - (1 : Int32))).2.1 8 ((T2.1 3 6) - (1 : Int32) : Int32).toNatClampNeg)) M ls H locs h (lv_sub hl [2, 3, 1, 0] rfl) hP hD hS
              · rw [if_pos hc7] at h
                refine lv_aload_n hx hb d_Reckoner_endOperand_132 rfl (lv_at hl 2 rfl) ?_
                refine S_getR (h := shC) (C := "MacroMill$Reckoner") (T := F_Reckoner) hx hb htt in_Reckoner hown hK hP 3 0 rfl 19 rfl rfl (by decide) (htt _ k_391) (fun _ h9 => h9) d_Reckoner_endOperand_133 ?_
                show W _ _ _ _ _ _ _ _ _ _ _ _ _ _ _ (F0 _ 136 _ _)
                refine lv_iload_n hx hb d_Reckoner_endOperand_136 rfl (lv_at hl 1 rfl) ?_
                refine lv_aload_n hx hb d_Reckoner_endOperand_137 rfl (lv_at hl 2 rfl) ?_
                refine S_getR (h := shC) (C := "MacroMill$Reckoner") (T := F_Reckoner) hx hb htt in_Reckoner hown hK hP 3 0 rfl 19 rfl rfl (by decide) (htt _ k_391) (fun _ h9 => h9) d_Reckoner_endOperand_138 ?_
                refine lv_iload_n hx hb d_Reckoner_endOperand_141 rfl (lv_at hl 1 rfl) ?_
                obtain ⟨hv8, h⟩ := chk h
                refine S_lald (h := shC) (i := (T2.1 3 2) - (1 : Int32)) hx hb hK hP 6 rfl (okI_in hv8) d_Reckoner_endOperand_142 ?_
                refine lv_lconst (v := 0) hx hb d_Reckoner_endOperand_143 (by decide) ?_
                refine W.lcmp hx hb d_Reckoner_endOperand_144 ?_
                refine lv_if_ne (tgt := 152) hx hb d_Reckoner_endOperand_145 (by decide) (fun hc9 => ?_) (fun hc9 => ?_)
                · rw [if_neg hc9] at h
                  refine lv_lconst (v := 0) hx hb d_Reckoner_endOperand_152 (by decide) ?_
                  exact (ih.2.2.2.1) (putI (putI T2 3 6 ((T2.1 3 6) - (1 : Int32))) 3 7 ((T2.1 3 7) - (1 : Int32))) (upd (upd (upd L 2 ((T2.1 3 2) - (1 : Int32))) 3 ((putI (putI T2 3 6 ((T2.1 3 6) - (1 : Int32))) 3 7 ((T2.1 3 7) - (1 : Int32))).2.1 8 ((T2.1 3 6) - (1 : Int32) : Int32).toNatClampNeg)) 101 ((T2.1 3 2) - (1 : Int32))) (vp_updL M 102 (0 : Int64)) ls H locs h (lv_sub hl [2, 3, 1, 0] rfl) hP hD hS
                · rw [if_pos hc9] at h
                  refine lv_lconst (v := 1) hx hb d_Reckoner_endOperand_148 (by decide) ?_
                  refine lv_goto (tgt := 153) hx hb d_Reckoner_endOperand_149 (by decide) ?_
                  exact (ih.2.2.2.1) (putI (putI T2 3 6 ((T2.1 3 6) - (1 : Int32))) 3 7 ((T2.1 3 7) - (1 : Int32))) (upd (upd (upd L 2 ((T2.1 3 2) - (1 : Int32))) 3 ((putI (putI T2 3 6 ((T2.1 3 6) - (1 : Int32))) 3 7 ((T2.1 3 7) - (1 : Int32))).2.1 8 ((T2.1 3 6) - (1 : Int32) : Int32).toNatClampNeg)) 101 ((T2.1 3 2) - (1 : Int32))) (vp_updL M 102 (1 : Int64)) ls H locs h (lv_sub hl [2, 3, 1, 0] rfl) hP hD hS
            · rw [if_pos hc6] at h
              refine lv_aload_n hx hb d_Reckoner_endOperand_107 rfl (lv_at hl 2 rfl) ?_
              refine S_getR (h := shC) (C := "MacroMill$Reckoner") (T := F_Reckoner) hx hb htt in_Reckoner hown hK hP 3 0 rfl 19 rfl rfl (by decide) (htt _ k_391) (fun _ h9 => h9) d_Reckoner_endOperand_108 ?_
              refine lv_iload_n hx hb d_Reckoner_endOperand_111 rfl (lv_at hl 1 rfl) ?_
              refine lv_aload_n hx hb d_Reckoner_endOperand_112 rfl (lv_at hl 2 rfl) ?_
              show W _ _ _ _ _ _ _ _ _ _ _ _ _ _ _ (F0 _ 113 _ _)
              refine S_getR (h := shC) (C := "MacroMill$Reckoner") (T := F_Reckoner) hx hb htt in_Reckoner hown hK hP 3 0 rfl 19 rfl rfl (by decide) (htt _ k_391) (fun _ h9 => h9) d_Reckoner_endOperand_113 ?_
              refine lv_iload_n hx hb d_Reckoner_endOperand_116 rfl (lv_at hl 1 rfl) ?_
              obtain ⟨hv10, h⟩ := chk h
              refine S_lald (h := shC) (i := (T2.1 3 2) - (1 : Int32)) hx hb hK hP 6 rfl (okI_in hv10) d_Reckoner_endOperand_117 ?_
              refine lv_ldc2 (v := (-1)) hx hb hown (htt _ k_1378) d_Reckoner_endOperand_118 ?_
              refine lv_lxor hx hb d_Reckoner_endOperand_121 ?_
              obtain ⟨hv11, h⟩ := chk h
              refine S_last (h := shC) (i := (T2.1 3 2) - (1 : Int32)) (v := ((putI (putI T2 3 6 ((T2.1 3 6) - (1 : Int32))) 3 7 ((T2.1 3 7) - (1 : Int32))).2.2 6 ((T2.1 3 2) - (1 : Int32) : Int32).toNatClampNeg) ^^^ ((-1) : Int64)) hx hb hK hP hD hS 6 rfl (okI_in hv11) d_Reckoner_endOperand_122 (fun H locs hP hD hS => ?_)
              refine lv_goto (tgt := 161) hx hb d_Reckoner_endOperand_123 (by decide) ?_
              exact (ih.2.2.2.2.1) (putL (putI (putI T2 3 6 ((T2.1 3 6) - (1 : Int32))) 3 7 ((T2.1 3 7) - (1 : Int32))) 6 ((T2.1 3 2) - (1 : Int32) : Int32).toNatClampNeg (((putI (putI T2 3 6 ((T2.1 3 6) - (1 : Int32))) 3 7 ((T2.1 3 7) - (1 : Int32))).2.2 6 ((T2.1 3 2) - (1 : Int32) : Int32).toNatClampNeg) ^^^ ((-1) : Int64))) (upd (upd L 2 ((T2.1 3 2) - (1 : Int32))) 3 ((putI (putI T2 3 6 ((T2.1 3 6) - (1 : Int32))) 3 7 ((T2.1 3 7) - (1 : Int32))).2.1 8 ((T2.1 3 6) - (1 : Int32) : Int32).toNatClampNeg)) M ls H locs h (lv_sub hl [2, 3, 1, 0] rfl) hP hD hS
          · rw [if_pos hc5] at h
            refine lv_aload_n hx hb d_Reckoner_endOperand_66 rfl (lv_at hl 2 rfl) ?_
            refine S_getR (h := shC) (C := "MacroMill$Reckoner") (T := F_Reckoner) hx hb htt in_Reckoner hown hK hP 3 0 rfl 19 rfl rfl (by decide) (htt _ k_391) (fun _ h9 => h9) d_Reckoner_endOperand_67 ?_
            refine lv_iload_n hx hb d_Reckoner_endOperand_70 rfl (lv_at hl 1 rfl) ?_
            refine lv_aload_n hx hb d_Reckoner_endOperand_71 rfl (lv_at hl 2 rfl) ?_
            refine S_getI (h := shC) (C := "MacroMill$Reckoner") (T := F_Reckoner) hx hb htt in_Reckoner hown hK hP 3 8 rfl rfl rfl (by decide) (htt _ k_399) (fun _ h9 => h9) d_Reckoner_endOperand_72 ?_
            refine toI (y := T2.1 3 8) rfl ?_
            refine lv_if_eq (tgt := 88) hx hb d_Reckoner_endOperand_75 (by decide) (fun hc12 => ?_) (fun hc12 => ?_)
            · rw [if_pos hc12] at h
              refine lv_aload_n hx hb d_Reckoner_endOperand_88 rfl (lv_at hl 2 rfl) ?_
              show W _ _ _ _ _ _ _ _ _ _ _ _ _ _ _ (F0 _ 89 _ _)
              refine S_getR (h := shC) (C := "MacroMill$Reckoner") (T := F_Reckoner) hx hb htt in_Reckoner hown hK hP 3 0 rfl 19 rfl rfl (by decide) (htt _ k_391) (fun _ h9 => h9) d_Reckoner_endOperand_89 ?_
              refine lv_iload_n hx hb d_Reckoner_endOperand_92 rfl (lv_at hl 1 rfl) ?_
              obtain ⟨hv13, h⟩ := chk h
              refine S_lald (h := shC) (i := (T2.1 3 2) - (1 : Int32)) hx hb hK hP 6 rfl (okI_in hv13) d_Reckoner_endOperand_93 ?_
              refine lv_lneg hx hb d_Reckoner_endOperand_94 ?_
              refine lv_l2i (v := (-((putI (putI T2 3 6 ((T2.1 3 6) - (1 : Int32))) 3 7 ((T2.1 3 7) - (1 : Int32))).2.2 6 ((T2.1 3 2) - (1 : Int32) : Int32).toNatClampNeg)).toInt32) hx hb d_Reckoner_endOperand_95 rfl ?_
              refine lv_i2l (v := ((-((putI (putI T2 3 6 ((T2.1 3 6) - (1 : Int32))) 3 7 ((T2.1 3 7) - (1 : Int32))).2.2 6 ((T2.1 3 2) - (1 : Int32) : Int32).toNatClampNeg)).toInt32).toInt64) hx hb d_Reckoner_endOperand_96 rfl ?_
              exact (ih.2.2.1) (putI (putI T2 3 6 ((T2.1 3 6) - (1 : Int32))) 3 7 ((T2.1 3 7) - (1 : Int32))) (upd (upd (upd L 2 ((T2.1 3 2) - (1 : Int32))) 3 ((putI (putI T2 3 6 ((T2.1 3 6) - (1 : Int32))) 3 7 ((T2.1 3 7) - (1 : Int32))).2.1 8 ((T2.1 3 6) - (1 : Int32) : Int32).toNatClampNeg)) 101 ((T2.1 3 2) - (1 : Int32))) (vp_updL M 102 (((-((putI (putI T2 3 6 ((T2.1 3 6) - (1 : Int32))) 3 7 ((T2.1 3 7) - (1 : Int32))).2.2 6 ((T2.1 3 2) - (1 : Int32) : Int32).toNatClampNeg)).toInt32).toInt64)) ls H locs h (lv_sub hl [2, 3, 1, 0] rfl) hP hD hS
            · rw [if_neg hc12] at h
              refine lv_aload_n hx hb d_Reckoner_endOperand_78 rfl (lv_at hl 2 rfl) ?_
              show W _ _ _ _ _ _ _ _ _ _ _ _ _ _ _ (F0 _ 79 _ _)
              refine S_getR (h := shC) (C := "MacroMill$Reckoner") (T := F_Reckoner) hx hb htt in_Reckoner hown hK hP 3 0 rfl 19 rfl rfl (by decide) (htt _ k_391) (fun _ h9 => h9) d_Reckoner_endOperand_79 ?_
              refine lv_iload_n hx hb d_Reckoner_endOperand_82 rfl (lv_at hl 1 rfl) ?_
              obtain ⟨hv14, h⟩ := chk h
              refine S_lald (h := shC) (i := (T2.1 3 2) - (1 : Int32)) hx hb hK hP 6 rfl (okI_in hv14) d_Reckoner_endOperand_83 ?_
              refine lv_lneg hx hb d_Reckoner_endOperand_84 ?_
              refine lv_goto (tgt := 97) hx hb d_Reckoner_endOperand_85 (by decide) ?_
              exact (ih.2.2.1) (putI (putI T2 3 6 ((T2.1 3 6) - (1 : Int32))) 3 7 ((T2.1 3 7) - (1 : Int32))) (upd (upd (upd L 2 ((T2.1 3 2) - (1 : Int32))) 3 ((putI (putI T2 3 6 ((T2.1 3 6) - (1 : Int32))) 3 7 ((T2.1 3 7) - (1 : Int32))).2.1 8 ((T2.1 3 6) - (1 : Int32) : Int32).toNatClampNeg)) 101 ((T2.1 3 2) - (1 : Int32))) (vp_updL M 102 (-((putI (putI T2 3 6 ((T2.1 3 6) - (1 : Int32))) 3 7 ((T2.1 3 7) - (1 : Int32))).2.2 6 ((T2.1 3 2) - (1 : Int32) : Int32).toNatClampNeg))) ls H locs h (lv_sub hl [2, 3, 1, 0] rfl) hP hD hS
    · intro S L M ls H locs h hl hP hD hS
      simp only [f_Reckoner_endOperand] at h
      obtain ⟨hv1, h⟩ := chk h
      refine S_last (h := shC) (i := L 101) (v := M 102) hx hb hK hP hD hS 6 rfl (okI_in hv1) d_Reckoner_endOperand_97 (fun H locs hP hD hS => ?_)
      refine lv_goto (tgt := 161) hx hb d_Reckoner_endOperand_98 (by decide) ?_
      exact (ih.2.2.2.2.1) (putL S 6 (L 101 : Int32).toNatClampNeg (M 102)) L M ls H locs h (lv_sub hl [0, 1, 2, 3] rfl) hP hD hS
    · intro S L M ls H locs h hl hP hD hS
      simp only [f_Reckoner_endOperand] at h
      obtain ⟨hv1, h⟩ := chk h
      refine S_last (h := shC) (i := L 101) (v := M 102) hx hb hK hP hD hS 6 rfl (okI_in hv1) d_Reckoner_endOperand_153 (fun H locs hP hD hS => ?_)
      refine lv_aload_n hx hb d_Reckoner_endOperand_154 rfl (lv_at hl 0 rfl) ?_
      refine S_getR (h := shC) (C := "MacroMill$Reckoner") (T := F_Reckoner) hx hb htt in_Reckoner hown hK hP 3 1 rfl 20 rfl rfl (by decide) (htt _ k_392) (fun _ h9 => h9) d_Reckoner_endOperand_155 ?_
      refine lv_iload_n hx hb d_Reckoner_endOperand_158 rfl (lv_at hl 2 rfl) ?_
      refine lv_iconst (v := 0) hx hb d_Reckoner_endOperand_159 (by decide) ?_
      obtain ⟨hv2, h⟩ := chk h
      refine S_zast (h := shC) (i := L 2) (v := 0) hx hb hK hP hD hS 7 rfl (okI_in hv2) d_Reckoner_endOperand_160 (fun H locs hP hD hS => ?_)
      exact (ih.2.2.2.2.1) (putA (putL S 6 (L 101 : Int32).toNatClampNeg (M 102)) 7 (L 2 : Int32).toNatClampNeg (vp_nar .boolean 0)) L M ls H locs h (lv_sub hl [0, 1, 2, 3] rfl) hP hD hS
    · intro S L M ls H locs h hl hP hD hS
      simp only [f_Reckoner_endOperand] at h
      refine lv_iinc (k := 1) (v := (L 1) + 1) (lv' := [(1, .int ((L 1) + 1)), (0, .ref (ad 3)), (2, .int (L 2)), (3, .int (L 3))]) hx hb d_Reckoner_endOperand_161 hl rfl rfl (by decide) rfl (fun ls hl => ?_)
      refine lv_goto (tgt := 7) hx hb d_Reckoner_endOperand_164 (by decide) ?_
      exact (ih.2.1) S (upd L 1 ((L 1) + 1)) M ls H locs h (lv_sub hl [1, 0] rfl) hP hD hS
    · intro S L M ls H locs h hl hP hD hS
      simp only [f_Reckoner_endOperand] at h
      cases h
      exact kx_167 ls H locs hP hD hS
abbrev rm_t_Reckoner_endOperand : Room := { frames := 1, cells := 0, slots := 0, locals := 21 }
theorem t_Reckoner_endOperand (l : Launch) (g : gG) (sz : Nat) (ad : Nat → Nat) (S : sS) (k : Nat) (r : Int32) (S9 : sS) (h : f_Reckoner_endOperand k 0 S (fun _ => 0) (fun _ => 0) = some (r, S9)) : Cv l y_Reckoner_endOperand b_Reckoner_endOperand 4 rm_t_Reckoner_endOperand g [.ref (ad 3)] (Sw shC g ad S) sz (fun w => ∃ S1 : sS, w = Sw shC g ad S1 ∧ S1 = S9) := by
  refine startV (by decide) (Nat.le_of_ble_eq_true rfl) ?_
  intro p e s m below meth c A ls hx hb hr hml hlocks hmn hown htt hN hA hP hK hD hS hl
  exact (w_Reckoner_endOperand hx hb hml hown htt hK hN hA (by decide +kernel) (by decide +kernel) (by decide +kernel) (by decide +kernel) r S9 (fun ls H locs hP hD hS => fin_v (g := g) (ws := Sw shC g ad S9) hx hb hr hlocks (by decide +kernel) (by decide +kernel) hP hD hS ⟨_, rfl, rfl⟩ d_Reckoner_endOperand_167) k).1 S (fun _ => 0) (fun _ => 0) ls _ _ h hl hP hD hS
def f_Reckoner_choose : Nat → Nat → sS → (Nat → Int32) → (Nat → Int64) → Option (Int32 × sS)
  | 0, _, _, _, _ => none
  | k + 1, 0, S, L, M => if okI (((S.1 3 2) - (2 : Int32)) - (1 : Int32)) 1000 = true then (if (lg_cmp ((putI (putI S 3 7 ((S.1 3 7) - (1 : Int32))) 3 2 ((S.1 3 2) - (2 : Int32))).2.2 6 (((S.1 3 2) - (2 : Int32)) - (1 : Int32) : Int32).toNatClampNeg) (0 : Int64)) = (0 : Int32) then (if okI ((((S.1 3 2) - (2 : Int32)) - (1 : Int32)) + (2 : Int32)) 1000 = true then (f_Reckoner_choose k 1 (putI (putI S 3 7 ((S.1 3 7) - (1 : Int32))) 3 2 ((S.1 3 2) - (2 : Int32))) (upd (upd L 1 (((S.1 3 2) - (2 : Int32)) - (1 : Int32))) 101 (((S.1 3 2) - (2 : Int32)) - (1 : Int32))) (vp_updL M 102 ((putI (putI S 3 7 ((S.1 3 7) - (1 : Int32))) 3 2 ((S.1 3 2) - (2 : Int32))).2.2 6 ((((S.1 3 2) - (2 : Int32)) - (1 : Int32)) + (2 : Int32) : Int32).toNatClampNeg))) else none) else (if okI ((((S.1 3 2) - (2 : Int32)) - (1 : Int32)) + (1 : Int32)) 1000 = true then (f_Reckoner_choose k 1 (putI (putI S 3 7 ((S.1 3 7) - (1 : Int32))) 3 2 ((S.1 3 2) - (2 : Int32))) (upd (upd L 1 (((S.1 3 2) - (2 : Int32)) - (1 : Int32))) 101 (((S.1 3 2) - (2 : Int32)) - (1 : Int32))) (vp_updL M 102 ((putI (putI S 3 7 ((S.1 3 7) - (1 : Int32))) 3 2 ((S.1 3 2) - (2 : Int32))).2.2 6 ((((S.1 3 2) - (2 : Int32)) - (1 : Int32)) + (1 : Int32) : Int32).toNatClampNeg))) else none)) else none
  | k + 1, 1, S, L, M => if okI (L 101) 1000 = true then (if okI ((L 1) + (1 : Int32)) 1000 = true then (if ((putL S 6 (L 101 : Int32).toNatClampNeg (M 102)).2.1 7 ((L 1) + (1 : Int32) : Int32).toNatClampNeg) = (0 : Int32) then (if okI ((L 1) + (2 : Int32)) 1000 = true then (if ((putL S 6 (L 101 : Int32).toNatClampNeg (M 102)).2.1 7 ((L 1) + (2 : Int32) : Int32).toNatClampNeg) = (0 : Int32) then (f_Reckoner_choose k 3 (putL S 6 (L 101 : Int32).toNatClampNeg (M 102)) (upd (upd L 102 (0 : Int32)) 101 (L 1)) M) else (f_Reckoner_choose k 2 (putL S 6 (L 101 : Int32).toNatClampNeg (M 102)) (upd L 101 (L 1)) M)) else none) else (f_Reckoner_choose k 2 (putL S 6 (L 101 : Int32).toNatClampNeg (M 102)) (upd L 101 (L 1)) M)) else none) else none
  | k + 1, 2, S, L, M => f_Reckoner_choose k 3 S (upd L 102 (1 : Int32)) M
  | k + 1, 3, S, L, M => if okI (L 101) 1000 = true then (some ((0 : Int32), (putA S 7 (L 101 : Int32).toNatClampNeg (vp_nar .boolean (L 102))))) else none
  | _ + 1, _ + 4, _, _, _ => none
set_option maxHeartbeats 8000000 in
set_option maxRecDepth 100000 in
theorem w_Reckoner_choose {p : Program} {l : Launch} {e : Env} {R : Room} {s : State} {m : MethodId} {args : Array Value} {below : List Frame} {meth : Method} {c : Code} {cells slots : Nat} {Q : State → Prop} {g : gG} {A : Nat → Prop} {ad : Nat → Nat} (hx : p.tables.exec = Jvm.exec) (hb : c.code = b_Reckoner_choose) (hml : c.maxLocals = 2) (hown : s.vm.findClass "MacroMill$Reckoner" = some m.cls) (htt : ∀ w ∈ gt, w.before args s = true) (hK : va_K g.1 classes (tysG g) s) (hN : nw s) (hA : ∀ q : Nat, s.heap.size ≤ q → A q) (r : Int32) (S9 : sS)
    (kx_96 : ∀ (ls : Array Slot) (H : Heap) (locs : List Loc), va_P g.1 classes (Sw shC g ad S9) H → va_D A (Sw shC g ad S9) → va_S A s.heap H locs → W p l e R s m args below meth c H locs cells slots Q (F0 m 96 ls [])) :
    ∀ k9 : Nat, (∀ (S : sS) (L : Nat → Int32) (M : Nat → Int64) (ls : Array Slot) (H : Heap) (locs : List Loc), f_Reckoner_choose k9 0 S L M = some (r, S9) → lv_has ls 2 [(0, .ref (ad 3))] → va_P g.1 classes (Sw shC g ad S) H → va_D A (Sw shC g ad S) → va_S A s.heap H locs → W p l e R s m args below meth c H locs cells slots Q (F0 m 0 ls [])) ∧ (∀ (S : sS) (L : Nat → Int32) (M : Nat → Int64) (ls : Array Slot) (H : Heap) (locs : List Loc), f_Reckoner_choose k9 1 S L M = some (r, S9) → lv_has ls 2 [(0, .ref (ad 3)), (1, .int (L 1))] → va_P g.1 classes (Sw shC g ad S) H → va_D A (Sw shC g ad S) → va_S A s.heap H locs → W p l e R s m args below meth c H locs cells slots Q (F0 m 62 ls [.long (M 102), .int (L 101), .ref (ad 19)])) ∧ (∀ (S : sS) (L : Nat → Int32) (M : Nat → Int64) (ls : Array Slot) (H : Heap) (locs : List Loc), f_Reckoner_choose k9 2 S L M = some (r, S9) → lv_has ls 2 [(0, .ref (ad 3)), (1, .int (L 1))] → va_P g.1 classes (Sw shC g ad S) H → va_D A (Sw shC g ad S) → va_S A s.heap H locs → W p l e R s m args below meth c H locs cells slots Q (F0 m 90 ls [.int (L 101), .ref (ad 20)])) ∧ (∀ (S : sS) (L : Nat → Int32) (M : Nat → Int64) (ls : Array Slot) (H : Heap) (locs : List Loc), f_Reckoner_choose k9 3 S L M = some (r, S9) → lv_has ls 2 [(0, .ref (ad 3)), (1, .int (L 1))] → va_P g.1 classes (Sw shC g ad S) H → va_D A (Sw shC g ad S) → va_S A s.heap H locs → W p l e R s m args below meth c H locs cells slots Q (F0 m 95 ls [.int (L 102), .int (L 101), .ref (ad 20)])) := by
  intro k9
  induction k9 with
  | zero => exact ⟨(fun _ _ _ _ _ _ h => by simp [f_Reckoner_choose] at h), (fun _ _ _ _ _ _ h => by simp [f_Reckoner_choose] at h), (fun _ _ _ _ _ _ h => by simp [f_Reckoner_choose] at h), (fun _ _ _ _ _ _ h => by simp [f_Reckoner_choose] at h)⟩
  | succ k9 ih =>
    refine ⟨?_, ?_, ?_, ?_⟩
    · intro S L M ls H locs h hl hP hD hS
      simp only [f_Reckoner_choose] at h
      refine lv_aload_n hx hb d_Reckoner_choose_0 rfl (lv_at hl 0 rfl) ?_
      refine lv_dup hx hb d_Reckoner_choose_1 rfl ?_
      refine S_getI (h := shC) (C := "MacroMill$Reckoner") (T := F_Reckoner) hx hb htt in_Reckoner hown hK hP 3 7 rfl rfl rfl (by decide) (htt _ k_398) (fun _ h9 => h9) d_Reckoner_choose_2 ?_
      refine lv_iconst (v := 1) hx hb d_Reckoner_choose_5 (by decide) ?_
      refine lv_isub hx hb d_Reckoner_choose_6 ?_
      refine S_put (h := shC) (C := "MacroMill$Reckoner") (T := F_Reckoner) (v := (S.1 3 7) - (1 : Int32)) hx hb htt in_Reckoner t_Reckoner t_Reckoner_ok n_Reckoner hown hK hP hD hS 3 7 rfl rfl rfl (by decide) (htt _ k_398) (fun _ h9 => h9) rfl rfl rfl d_Reckoner_choose_7 (fun H locs hP hD hS => ?_)
      refine lv_aload_n hx hb d_Reckoner_choose_10 rfl (lv_at hl 0 rfl) ?_
      refine lv_dup hx hb d_Reckoner_choose_11 rfl ?_
      refine S_getI (h := shC) (C := "MacroMill$Reckoner") (T := F_Reckoner) hx hb htt in_Reckoner hown hK hP 3 2 rfl rfl rfl (by decide) (htt _ k_393) (fun _ h9 => h9) d_Reckoner_choose_12 ?_
      refine toI (y := S.1 3 2) rfl ?_
      refine lv_iconst (v := 2) hx hb d_Reckoner_choose_15 (by decide) ?_
      refine lv_isub hx hb d_Reckoner_choose_16 ?_
      show W _ _ _ _ _ _ _ _ _ _ _ _ _ _ _ (F0 _ 17 _ _)
      refine S_put (h := shC) (C := "MacroMill$Reckoner") (T := F_Reckoner) (v := (S.1 3 2) - (2 : Int32)) hx hb htt in_Reckoner t_Reckoner t_Reckoner_ok n_Reckoner hown hK hP hD hS 3 2 rfl rfl rfl (by decide) (htt _ k_393) (fun _ h9 => h9) rfl rfl rfl d_Reckoner_choose_17 (fun H locs hP hD hS => ?_)
      refine lv_aload_n hx hb d_Reckoner_choose_20 rfl (lv_at hl 0 rfl) ?_
      refine S_getI (h := shC) (C := "MacroMill$Reckoner") (T := F_Reckoner) hx hb htt in_Reckoner hown hK hP 3 2 rfl rfl rfl (by decide) (htt _ k_393) (fun _ h9 => h9) d_Reckoner_choose_21 ?_
      refine toI (y := (S.1 3 2) - (2 : Int32)) rfl ?_
      refine lv_iconst (v := 1) hx hb d_Reckoner_choose_24 (by decide) ?_
      refine lv_isub hx hb d_Reckoner_choose_25 ?_
      refine lv_istore_n (lv' := [(1, .int (((S.1 3 2) - (2 : Int32)) - (1 : Int32))), (0, .ref (ad 3))]) hx hb d_Reckoner_choose_26 rfl hl (by decide) rfl (fun ls hl => ?_)
      refine lv_aload_n hx hb d_Reckoner_choose_27 rfl (lv_at hl 1 rfl) ?_
      refine S_getR (h := shC) (C := "MacroMill$Reckoner") (T := F_Reckoner) hx hb htt in_Reckoner hown hK hP 3 0 rfl 19 rfl rfl (by decide) (htt _ k_391) (fun _ h9 => h9) d_Reckoner_choose_28 ?_
      refine lv_iload_n hx hb d_Reckoner_choose_31 rfl (lv_at hl 0 rfl) ?_
      refine lv_aload_n hx hb d_Reckoner_choose_32 rfl (lv_at hl 1 rfl) ?_
      refine S_getR (h := shC) (C := "MacroMill$Reckoner") (T := F_Reckoner) hx hb htt in_Reckoner hown hK hP 3 0 rfl 19 rfl rfl (by decide) (htt _ k_391) (fun _ h9 => h9) d_Reckoner_choose_33 ?_
      refine lv_iload_n hx hb d_Reckoner_choose_36 rfl (lv_at hl 0 rfl) ?_
      obtain ⟨hv1, h⟩ := chk h
      show W _ _ _ _ _ _ _ _ _ _ _ _ _ _ _ (F0 _ 37 _ _)
      refine S_lald (h := shC) (i := ((S.1 3 2) - (2 : Int32)) - (1 : Int32)) hx hb hK hP 6 rfl (okI_in hv1) d_Reckoner_choose_37 ?_
      refine lv_lconst (v := 0) hx hb d_Reckoner_choose_38 (by decide) ?_
      refine W.lcmp hx hb d_Reckoner_choose_39 ?_
      refine lv_if_eq (tgt := 54) hx hb d_Reckoner_choose_40 (by decide) (fun hc2 => ?_) (fun hc2 => ?_)
      · rw [if_pos hc2] at h
        refine lv_aload_n hx hb d_Reckoner_choose_54 rfl (lv_at hl 1 rfl) ?_
        refine S_getR (h := shC) (C := "MacroMill$Reckoner") (T := F_Reckoner) hx hb htt in_Reckoner hown hK hP 3 0 rfl 19 rfl rfl (by decide) (htt _ k_391) (fun _ h9 => h9) d_Reckoner_choose_55 ?_
        refine lv_iload_n hx hb d_Reckoner_choose_58 rfl (lv_at hl 0 rfl) ?_
        refine lv_iconst (v := 2) hx hb d_Reckoner_choose_59 (by decide) ?_
        refine lv_iadd hx hb d_Reckoner_choose_60 ?_
        obtain ⟨hv3, h⟩ := chk h
        refine S_lald (h := shC) (i := (((S.1 3 2) - (2 : Int32)) - (1 : Int32)) + (2 : Int32)) hx hb hK hP 6 rfl (okI_in hv3) d_Reckoner_choose_61 ?_
        exact (ih.2.1) (putI (putI S 3 7 ((S.1 3 7) - (1 : Int32))) 3 2 ((S.1 3 2) - (2 : Int32))) (upd (upd L 1 (((S.1 3 2) - (2 : Int32)) - (1 : Int32))) 101 (((S.1 3 2) - (2 : Int32)) - (1 : Int32))) (vp_updL M 102 ((putI (putI S 3 7 ((S.1 3 7) - (1 : Int32))) 3 2 ((S.1 3 2) - (2 : Int32))).2.2 6 ((((S.1 3 2) - (2 : Int32)) - (1 : Int32)) + (2 : Int32) : Int32).toNatClampNeg)) ls H locs h (lv_sub hl [1, 0] rfl) hP hD hS
      · rw [if_neg hc2] at h
        refine lv_aload_n hx hb d_Reckoner_choose_43 rfl (lv_at hl 1 rfl) ?_
        refine S_getR (h := shC) (C := "MacroMill$Reckoner") (T := F_Reckoner) hx hb htt in_Reckoner hown hK hP 3 0 rfl 19 rfl rfl (by decide) (htt _ k_391) (fun _ h9 => h9) d_Reckoner_choose_44 ?_
        refine lv_iload_n hx hb d_Reckoner_choose_47 rfl (lv_at hl 0 rfl) ?_
        refine lv_iconst (v := 1) hx hb d_Reckoner_choose_48 (by decide) ?_
        refine lv_iadd hx hb d_Reckoner_choose_49 ?_
        obtain ⟨hv4, h⟩ := chk h
        refine S_lald (h := shC) (i := (((S.1 3 2) - (2 : Int32)) - (1 : Int32)) + (1 : Int32)) hx hb hK hP 6 rfl (okI_in hv4) d_Reckoner_choose_50 ?_
        refine lv_goto (tgt := 62) hx hb d_Reckoner_choose_51 (by decide) ?_
        exact (ih.2.1) (putI (putI S 3 7 ((S.1 3 7) - (1 : Int32))) 3 2 ((S.1 3 2) - (2 : Int32))) (upd (upd L 1 (((S.1 3 2) - (2 : Int32)) - (1 : Int32))) 101 (((S.1 3 2) - (2 : Int32)) - (1 : Int32))) (vp_updL M 102 ((putI (putI S 3 7 ((S.1 3 7) - (1 : Int32))) 3 2 ((S.1 3 2) - (2 : Int32))).2.2 6 ((((S.1 3 2) - (2 : Int32)) - (1 : Int32)) + (1 : Int32) : Int32).toNatClampNeg)) ls H locs h (lv_sub hl [1, 0] rfl) hP hD hS
    · intro S L M ls H locs h hl hP hD hS
      simp only [f_Reckoner_choose] at h
      obtain ⟨hv1, h⟩ := chk h
      refine S_last (h := shC) (i := L 101) (v := M 102) hx hb hK hP hD hS 6 rfl (okI_in hv1) d_Reckoner_choose_62 (fun H locs hP hD hS => ?_)
      refine lv_aload_n hx hb d_Reckoner_choose_63 rfl (lv_at hl 0 rfl) ?_
      refine S_getR (h := shC) (C := "MacroMill$Reckoner") (T := F_Reckoner) hx hb htt in_Reckoner hown hK hP 3 1 rfl 20 rfl rfl (by decide) (htt _ k_392) (fun _ h9 => h9) d_Reckoner_choose_64 ?_
      refine lv_iload_n hx hb d_Reckoner_choose_67 rfl (lv_at hl 1 rfl) ?_
      refine lv_aload_n hx hb d_Reckoner_choose_68 rfl (lv_at hl 0 rfl) ?_
      refine S_getR (h := shC) (C := "MacroMill$Reckoner") (T := F_Reckoner) hx hb htt in_Reckoner hown hK hP 3 1 rfl 20 rfl rfl (by decide) (htt _ k_392) (fun _ h9 => h9) d_Reckoner_choose_69 ?_
      refine lv_iload_n hx hb d_Reckoner_choose_72 rfl (lv_at hl 1 rfl) ?_
      refine lv_iconst (v := 1) hx hb d_Reckoner_choose_73 (by decide) ?_
      refine lv_iadd hx hb d_Reckoner_choose_74 ?_
      obtain ⟨hv2, h⟩ := chk h
      refine S_zald (h := shC) (i := (L 1) + (1 : Int32)) hx hb hK hP 7 rfl (okI_in hv2) d_Reckoner_choose_75 ?_
      refine lv_if_ne (tgt := 90) hx hb d_Reckoner_choose_76 (by decide) (fun hc3 => ?_) (fun hc3 => ?_)
      · rw [if_neg hc3] at h
        exact (ih.2.2.1) (putL S 6 (L 101 : Int32).toNatClampNeg (M 102)) (upd L 101 (L 1)) M ls H locs h (lv_sub hl [0, 1] rfl) hP hD hS
      · rw [if_pos hc3] at h
        refine lv_aload_n hx hb d_Reckoner_choose_79 rfl (lv_at hl 0 rfl) ?_
        show W _ _ _ _ _ _ _ _ _ _ _ _ _ _ _ (F0 _ 80 _ _)
        refine S_getR (h := shC) (C := "MacroMill$Reckoner") (T := F_Reckoner) hx hb htt in_Reckoner hown hK hP 3 1 rfl 20 rfl rfl (by decide) (htt _ k_392) (fun _ h9 => h9) d_Reckoner_choose_80 ?_
        refine lv_iload_n hx hb d_Reckoner_choose_83 rfl (lv_at hl 1 rfl) ?_
        refine lv_iconst (v := 2) hx hb d_Reckoner_choose_84 (by decide) ?_
        refine lv_iadd hx hb d_Reckoner_choose_85 ?_
        obtain ⟨hv4, h⟩ := chk h
        refine S_zald (h := shC) (i := (L 1) + (2 : Int32)) hx hb hK hP 7 rfl (okI_in hv4) d_Reckoner_choose_86 ?_
        refine lv_if_eq (tgt := 94) hx hb d_Reckoner_choose_87 (by decide) (fun hc5 => ?_) (fun hc5 => ?_)
        · rw [if_pos hc5] at h
          refine lv_iconst (v := 0) hx hb d_Reckoner_choose_94 (by decide) ?_
          exact (ih.2.2.2) (putL S 6 (L 101 : Int32).toNatClampNeg (M 102)) (upd (upd L 102 (0 : Int32)) 101 (L 1)) M ls H locs h (lv_sub hl [0, 1] rfl) hP hD hS
        · rw [if_neg hc5] at h
          exact (ih.2.2.1) (putL S 6 (L 101 : Int32).toNatClampNeg (M 102)) (upd L 101 (L 1)) M ls H locs h (lv_sub hl [0, 1] rfl) hP hD hS
    · intro S L M ls H locs h hl hP hD hS
      simp only [f_Reckoner_choose] at h
      refine lv_iconst (v := 1) hx hb d_Reckoner_choose_90 (by decide) ?_
      refine lv_goto (tgt := 95) hx hb d_Reckoner_choose_91 (by decide) ?_
      exact (ih.2.2.2) S (upd L 102 (1 : Int32)) M ls H locs h (lv_sub hl [0, 1] rfl) hP hD hS
    · intro S L M ls H locs h hl hP hD hS
      simp only [f_Reckoner_choose] at h
      obtain ⟨hv1, h⟩ := chk h
      refine S_zast (h := shC) (i := L 101) (v := L 102) hx hb hK hP hD hS 7 rfl (okI_in hv1) d_Reckoner_choose_95 (fun H locs hP hD hS => ?_)
      cases h
      exact kx_96 ls H locs hP hD hS
abbrev rm_t_Reckoner_choose : Room := { frames := 0, cells := 0, slots := 0, locals := 0 }
theorem t_Reckoner_choose (l : Launch) (g : gG) (sz : Nat) (ad : Nat → Nat) (S : sS) (k : Nat) (r : Int32) (S9 : sS) (h : f_Reckoner_choose k 0 S (fun _ => 0) (fun _ => 0) = some (r, S9)) : Cv l y_Reckoner_choose b_Reckoner_choose 2 rm_t_Reckoner_choose g [.ref (ad 3)] (Sw shC g ad S) sz (fun w => ∃ S1 : sS, w = Sw shC g ad S1 ∧ S1 = S9) := by
  refine startV (by decide) (Nat.le_of_ble_eq_true rfl) ?_
  intro p e s m below meth c A ls hx hb hr hml hlocks hmn hown htt hN hA hP hK hD hS hl
  exact (w_Reckoner_choose hx hb hml hown htt hK hN hA r S9 (fun ls H locs hP hD hS => fin_v (g := g) (ws := Sw shC g ad S9) hx hb hr hlocks (by decide +kernel) (by decide +kernel) hP hD hS ⟨_, rfl, rfl⟩ d_Reckoner_choose_96) k).1 S (fun _ => 0) (fun _ => 0) ls _ _ h hl hP hD hS
def f_Reckoner_divide : Nat → Nat → sS → (Nat → Int32) → (Nat → Int64) → Option (Int64 × sS)
  | 0, _, _, _, _ => none
  | k + 1, 0, S, L, M => if (lg_cmp (M 3) (0 : Int64)) = (0 : Int32) then (if (S.1 3 12) = (0 : Int32) then (if (S.1 3 10) = (0 : Int32) then (f_Reckoner_divide k 1 S L M) else (f_Reckoner_divide k 2 S (upd L 101 (0 : Int32)) M)) else (f_Reckoner_divide k 1 S L M)) else (if ¬ (M 3) = 0 then (if (L 5) = (0 : Int32) then (f_Reckoner_divide k 4 S L (vp_updL M 7 ((M 1) / (M 3)))) else (if (0 : Int32) ≤ (lg_cmp (M 3) (0 : Int64)) then (f_Reckoner_divide k 4 S L (vp_updL M 7 ((M 1) / (M 3)))) else (if (lg_cmp ((M 1) ^^^ ((-9223372036854775808) : Int64)) ((M 3) ^^^ ((-9223372036854775808) : Int64))) < (0 : Int32) then (f_Reckoner_divide k 3 S L (vp_updL (vp_updL M 7 ((M 1) / (M 3))) 100 (0 : Int64))) else (f_Reckoner_divide k 3 S L (vp_updL (vp_updL M 7 ((M 1) / (M 3))) 100 (1 : Int64)))))) else none)
  | k + 1, 1, S, L, M => f_Reckoner_divide k 2 S (upd L 101 (1 : Int32)) M
  | k + 1, 2, S, L, M => if bz (L 101) = true then (some ((0 : Int64), (putI S 3 12 (L 101)))) else none
  | k + 1, 3, S, L, M => f_Reckoner_divide k 5 S L (vp_updL M 7 (M 100))
  | k + 1, 4, S, L, M => if (L 5) = (0 : Int32) then (f_Reckoner_divide k 5 S L M) else (if (0 : Int32) ≤ (lg_cmp (M 1) (0 : Int64)) then (f_Reckoner_divide k 5 S L M) else (if ¬ (M 3) = 0 then (if (lg_cmp (((M 1) - ((((((M 1).toUInt64 >>> ((1 : Int32).toInt64.toUInt64 &&& Int64.toUInt64 63)).toInt64) / (M 3)) <<< ((1 : Int32).toInt64 &&& 63)) * (M 3))) ^^^ ((-9223372036854775808) : Int64)) ((M 3) ^^^ ((-9223372036854775808) : Int64))) < (0 : Int32) then (f_Reckoner_divide k 5 S L (vp_updL M 7 (((((M 1).toUInt64 >>> ((1 : Int32).toInt64.toUInt64 &&& Int64.toUInt64 63)).toInt64) / (M 3)) <<< ((1 : Int32).toInt64 &&& 63)))) else (f_Reckoner_divide k 5 S L (vp_updL M 7 ((((((M 1).toUInt64 >>> ((1 : Int32).toInt64.toUInt64 &&& Int64.toUInt64 63)).toInt64) / (M 3)) <<< ((1 : Int32).toInt64 &&& 63)) + (1 : Int64))))) else none))
  | k + 1, 5, S, L, M => if (L 6) = (0 : Int32) then (f_Reckoner_divide k 6 S L (vp_updL M 100 (M 7))) else (f_Reckoner_divide k 6 S L (vp_updL M 100 ((M 1) - ((M 7) * (M 3)))))
  | k + 1, 6, S, L, M => some (M 100, S)
  | _ + 1, _ + 7, _, _, _ => none
set_option maxHeartbeats 8000000 in
set_option maxRecDepth 100000 in
theorem w_Reckoner_divide {p : Program} {l : Launch} {e : Env} {R : Room} {s : State} {m : MethodId} {args : Array Value} {below : List Frame} {meth : Method} {c : Code} {cells slots : Nat} {Q : State → Prop} {g : gG} {A : Nat → Prop} {ad : Nat → Nat} (hx : p.tables.exec = Jvm.exec) (hb : c.code = b_Reckoner_divide) (hml : c.maxLocals = 9) (hown : s.vm.findClass "MacroMill$Reckoner" = some m.cls) (htt : ∀ w ∈ gt, w.before args s = true) (hK : va_K g.1 classes (tysG g) s) (hN : nw s) (hA : ∀ q : Nat, s.heap.size ≤ q → A q) (r : Int64) (S9 : sS)
    (kx_30 : ∀ (ls : Array Slot) (H : Heap) (locs : List Loc), va_P g.1 classes (Sw shC g ad S9) H → va_D A (Sw shC g ad S9) → va_S A s.heap H locs → W p l e R s m args below meth c H locs cells slots Q (F0 m 30 ls [.long r]))
    (kx_132 : ∀ (ls : Array Slot) (H : Heap) (locs : List Loc), va_P g.1 classes (Sw shC g ad S9) H → va_D A (Sw shC g ad S9) → va_S A s.heap H locs → W p l e R s m args below meth c H locs cells slots Q (F0 m 132 ls [.long r])) :
    ∀ k9 : Nat, (∀ (S : sS) (L : Nat → Int32) (M : Nat → Int64) (ls : Array Slot) (H : Heap) (locs : List Loc), f_Reckoner_divide k9 0 S L M = some (r, S9) → lv_has ls 9 [(0, .ref (ad 3)), (1, .long (M 1)), (3, .long (M 3)), (5, .int (L 5)), (6, .int (L 6))] → va_P g.1 classes (Sw shC g ad S) H → va_D A (Sw shC g ad S) → va_S A s.heap H locs → W p l e R s m args below meth c H locs cells slots Q (F0 m 0 ls [])) ∧ (∀ (S : sS) (L : Nat → Int32) (M : Nat → Int64) (ls : Array Slot) (H : Heap) (locs : List Loc), f_Reckoner_divide k9 1 S L M = some (r, S9) → lv_has ls 9 [(0, .ref (ad 3)), (1, .long (M 1)), (3, .long (M 3)), (5, .int (L 5)), (6, .int (L 6))] → va_P g.1 classes (Sw shC g ad S) H → va_D A (Sw shC g ad S) → va_S A s.heap H locs → W p l e R s m args below meth c H locs cells slots Q (F0 m 21 ls [.ref (ad 3)])) ∧ (∀ (S : sS) (L : Nat → Int32) (M : Nat → Int64) (ls : Array Slot) (H : Heap) (locs : List Loc), f_Reckoner_divide k9 2 S L M = some (r, S9) → lv_has ls 9 [(0, .ref (ad 3)), (1, .long (M 1)), (3, .long (M 3)), (5, .int (L 5)), (6, .int (L 6))] → va_P g.1 classes (Sw shC g ad S) H → va_D A (Sw shC g ad S) → va_S A s.heap H locs → W p l e R s m args below meth c H locs cells slots Q (F0 m 26 ls [.int (L 101), .ref (ad 3)])) ∧ (∀ (S : sS) (L : Nat → Int32) (M : Nat → Int64) (ls : Array Slot) (H : Heap) (locs : List Loc), f_Reckoner_divide k9 3 S L M = some (r, S9) → lv_has ls 9 [(0, .ref (ad 3)), (1, .long (M 1)), (3, .long (M 3)), (5, .int (L 5)), (6, .int (L 6)), (7, .long (M 7))] → va_P g.1 classes (Sw shC g ad S) H → va_D A (Sw shC g ad S) → va_S A s.heap H locs → W p l e R s m args below meth c H locs cells slots Q (F0 m 66 ls [.long (M 100)])) ∧ (∀ (S : sS) (L : Nat → Int32) (M : Nat → Int64) (ls : Array Slot) (H : Heap) (locs : List Loc), f_Reckoner_divide k9 4 S L M = some (r, S9) → lv_has ls 9 [(0, .ref (ad 3)), (1, .long (M 1)), (3, .long (M 3)), (5, .int (L 5)), (6, .int (L 6)), (7, .long (M 7))] → va_P g.1 classes (Sw shC g ad S) H → va_D A (Sw shC g ad S) → va_S A s.heap H locs → W p l e R s m args below meth c H locs cells slots Q (F0 m 71 ls [])) ∧ (∀ (S : sS) (L : Nat → Int32) (M : Nat → Int64) (ls : Array Slot) (H : Heap) (locs : List Loc), f_Reckoner_divide k9 5 S L M = some (r, S9) → lv_has ls 9 [(0, .ref (ad 3)), (1, .long (M 1)), (3, .long (M 3)), (5, .int (L 5)), (6, .int (L 6)), (7, .long (M 7))] → va_P g.1 classes (Sw shC g ad S) H → va_D A (Sw shC g ad S) → va_S A s.heap H locs → W p l e R s m args below meth c H locs cells slots Q (F0 m 116 ls [])) ∧ (∀ (S : sS) (L : Nat → Int32) (M : Nat → Int64) (ls : Array Slot) (H : Heap) (locs : List Loc), f_Reckoner_divide k9 6 S L M = some (r, S9) → lv_has ls 9 [(0, .ref (ad 3)), (1, .long (M 1)), (3, .long (M 3)), (5, .int (L 5)), (6, .int (L 6)), (7, .long (M 7))] → va_P g.1 classes (Sw shC g ad S) H → va_D A (Sw shC g ad S) → va_S A s.heap H locs → W p l e R s m args below meth c H locs cells slots Q (F0 m 132 ls [.long (M 100)])) := by
  intro k9
  induction k9 with
  | zero => exact ⟨(fun _ _ _ _ _ _ h => by simp [f_Reckoner_divide] at h), (fun _ _ _ _ _ _ h => by simp [f_Reckoner_divide] at h), (fun _ _ _ _ _ _ h => by simp [f_Reckoner_divide] at h), (fun _ _ _ _ _ _ h => by simp [f_Reckoner_divide] at h), (fun _ _ _ _ _ _ h => by simp [f_Reckoner_divide] at h), (fun _ _ _ _ _ _ h => by simp [f_Reckoner_divide] at h), (fun _ _ _ _ _ _ h => by simp [f_Reckoner_divide] at h)⟩
  | succ k9 ih =>
    refine ⟨?_, ?_, ?_, ?_, ?_, ?_, ?_⟩
    · intro S L M ls H locs h hl hP hD hS
      simp only [f_Reckoner_divide] at h
      refine lv_lload_n hx hb d_Reckoner_divide_0 rfl (lv_at hl 2 rfl) ?_
      refine lv_lconst (v := 0) hx hb d_Reckoner_divide_1 (by decide) ?_
      refine W.lcmp hx hb d_Reckoner_divide_2 ?_
      refine lv_if_ne (tgt := 31) hx hb d_Reckoner_divide_3 (by decide) (fun hc1 => ?_) (fun hc1 => ?_)
      · rw [if_neg hc1] at h
        refine lv_lload_n hx hb d_Reckoner_divide_31 rfl (lv_at hl 1 rfl) ?_
        refine lv_lload_n hx hb d_Reckoner_divide_32 rfl (lv_at hl 2 rfl) ?_
        obtain ⟨hv2, h⟩ := chk h
        refine lv_ldiv hx hb d_Reckoner_divide_33 hv2 ?_
        refine lv_lstore (lv' := [(7, .long ((M 1) / (M 3))), (0, .ref (ad 3)), (1, .long (M 1)), (3, .long (M 3)), (5, .int (L 5)), (6, .int (L 6))]) hx hb d_Reckoner_divide_34 hl (by decide) rfl (fun ls hl => ?_)
        refine lv_iload hx hb d_Reckoner_divide_36 (lv_at hl 4 rfl) ?_
        refine lv_if_eq (tgt := 71) hx hb d_Reckoner_divide_38 (by decide) (fun hc3 => ?_) (fun hc3 => ?_)
        · rw [if_pos hc3] at h
          exact (ih.2.2.2.2.1) S L (vp_updL M 7 ((M 1) / (M 3))) ls H locs h (lv_sub hl [1, 2, 3, 4, 5, 0] rfl) hP hD hS
        · rw [if_neg hc3] at h
          refine lv_lload_n hx hb d_Reckoner_divide_41 rfl (lv_at hl 3 rfl) ?_
          refine lv_lconst (v := 0) hx hb d_Reckoner_divide_42 (by decide) ?_
          refine W.lcmp hx hb d_Reckoner_divide_43 ?_
          refine lv_if_ge (tgt := 71) hx hb d_Reckoner_divide_44 (by decide) (fun hc4 => ?_) (fun hc4 => ?_)
          · rw [if_pos hc4] at h
            exact (ih.2.2.2.2.1) S L (vp_updL M 7 ((M 1) / (M 3))) ls H locs h (lv_sub hl [1, 2, 3, 4, 5, 0] rfl) hP hD hS
          · rw [if_neg hc4] at h
            refine lv_lload_n hx hb d_Reckoner_divide_47 rfl (lv_at hl 2 rfl) ?_
            show W _ _ _ _ _ _ _ _ _ _ _ _ _ _ _ (F0 _ 48 _ _)
            refine lv_ldc2 (v := (-9223372036854775808)) hx hb hown (htt _ k_1412) d_Reckoner_divide_48 ?_
            refine lv_lxor hx hb d_Reckoner_divide_51 ?_
            refine lv_lload_n hx hb d_Reckoner_divide_52 rfl (lv_at hl 3 rfl) ?_
            refine lv_ldc2 (v := (-9223372036854775808)) hx hb hown (htt _ k_1412) d_Reckoner_divide_53 ?_
            refine lv_lxor hx hb d_Reckoner_divide_56 ?_
            refine W.lcmp hx hb d_Reckoner_divide_57 ?_
            refine lv_if_lt (tgt := 65) hx hb d_Reckoner_divide_58 (by decide) (fun hc5 => ?_) (fun hc5 => ?_)
            · rw [if_pos hc5] at h
              refine lv_lconst (v := 0) hx hb d_Reckoner_divide_65 (by decide) ?_
              exact (ih.2.2.2.1) S L (vp_updL (vp_updL M 7 ((M 1) / (M 3))) 100 (0 : Int64)) ls H locs h (lv_sub hl [1, 2, 3, 4, 5, 0] rfl) hP hD hS
            · rw [if_neg hc5] at h
              refine lv_lconst (v := 1) hx hb d_Reckoner_divide_61 (by decide) ?_
              refine lv_goto (tgt := 66) hx hb d_Reckoner_divide_62 (by decide) ?_
              exact (ih.2.2.2.1) S L (vp_updL (vp_updL M 7 ((M 1) / (M 3))) 100 (1 : Int64)) ls H locs h (lv_sub hl [1, 2, 3, 4, 5, 0] rfl) hP hD hS
      · rw [if_pos hc1] at h
        refine lv_aload_n hx hb d_Reckoner_divide_6 rfl (lv_at hl 0 rfl) ?_
        refine lv_aload_n hx hb d_Reckoner_divide_7 rfl (lv_at hl 0 rfl) ?_
        refine S_getI (h := shC) (C := "MacroMill$Reckoner") (T := F_Reckoner) hx hb htt in_Reckoner hown hK hP 3 12 rfl rfl rfl (by decide) (htt _ k_403) (fun _ h9 => h9) d_Reckoner_divide_8 ?_
        refine lv_if_ne (tgt := 21) hx hb d_Reckoner_divide_11 (by decide) (fun hc6 => ?_) (fun hc6 => ?_)
        · rw [if_neg hc6] at h
          exact (ih.2.1) S L M ls H locs h (lv_sub hl [0, 1, 2, 3, 4] rfl) hP hD hS
        · rw [if_pos hc6] at h
          refine lv_aload_n hx hb d_Reckoner_divide_14 rfl (lv_at hl 0 rfl) ?_
          refine S_getI (h := shC) (C := "MacroMill$Reckoner") (T := F_Reckoner) hx hb htt in_Reckoner hown hK hP 3 10 rfl rfl rfl (by decide) (htt _ k_401) (fun _ h9 => h9) d_Reckoner_divide_15 ?_
          refine lv_if_ne (tgt := 25) hx hb d_Reckoner_divide_18 (by decide) (fun hc7 => ?_) (fun hc7 => ?_)
          · rw [if_neg hc7] at h
            refine lv_iconst (v := 0) hx hb d_Reckoner_divide_25 (by decide) ?_
            exact (ih.2.2.1) S (upd L 101 (0 : Int32)) M ls H locs h (lv_sub hl [0, 1, 2, 3, 4] rfl) hP hD hS
          · rw [if_pos hc7] at h
            exact (ih.2.1) S L M ls H locs h (lv_sub hl [0, 1, 2, 3, 4] rfl) hP hD hS
    · intro S L M ls H locs h hl hP hD hS
      simp only [f_Reckoner_divide] at h
      refine lv_iconst (v := 1) hx hb d_Reckoner_divide_21 (by decide) ?_
      refine lv_goto (tgt := 26) hx hb d_Reckoner_divide_22 (by decide) ?_
      exact (ih.2.2.1) S (upd L 101 (1 : Int32)) M ls H locs h (lv_sub hl [0, 1, 2, 3, 4] rfl) hP hD hS
    · intro S L M ls H locs h hl hP hD hS
      simp only [f_Reckoner_divide] at h
      obtain ⟨hv1, h⟩ := chk h
      refine S_put (h := shC) (C := "MacroMill$Reckoner") (T := F_Reckoner) (v := L 101) hx hb htt in_Reckoner t_Reckoner t_Reckoner_ok n_Reckoner hown hK hP hD hS 3 12 rfl rfl rfl (by decide) (htt _ k_403) (fun _ h9 => h9) rfl (bz_n hv1) (bz_f hv1) d_Reckoner_divide_26 (fun H locs hP hD hS => ?_)
      refine lv_lconst (v := 0) hx hb d_Reckoner_divide_29 (by decide) ?_
      cases h
      exact kx_30 ls H locs hP hD hS
    · intro S L M ls H locs h hl hP hD hS
      simp only [f_Reckoner_divide] at h
      refine lv_lstore (lv' := [(7, .long (M 100)), (0, .ref (ad 3)), (1, .long (M 1)), (3, .long (M 3)), (5, .int (L 5)), (6, .int (L 6))]) hx hb d_Reckoner_divide_66 hl (by decide) rfl (fun ls hl => ?_)
      refine lv_goto (tgt := 116) hx hb d_Reckoner_divide_68 (by decide) ?_
      exact (ih.2.2.2.2.2.1) S L (vp_updL M 7 (M 100)) ls H locs h (lv_sub hl [1, 2, 3, 4, 5, 0] rfl) hP hD hS
    · intro S L M ls H locs h hl hP hD hS
      simp only [f_Reckoner_divide] at h
      refine lv_iload hx hb d_Reckoner_divide_71 (lv_at hl 3 rfl) ?_
      refine lv_if_eq (tgt := 116) hx hb d_Reckoner_divide_73 (by decide) (fun hc1 => ?_) (fun hc1 => ?_)
      · rw [if_pos hc1] at h
        exact (ih.2.2.2.2.2.1) S L M ls H locs h (lv_sub hl [0, 1, 2, 3, 4, 5] rfl) hP hD hS
      · rw [if_neg hc1] at h
        refine lv_lload_n hx hb d_Reckoner_divide_76 rfl (lv_at hl 1 rfl) ?_
        refine lv_lconst (v := 0) hx hb d_Reckoner_divide_77 (by decide) ?_
        refine W.lcmp hx hb d_Reckoner_divide_78 ?_
        refine lv_if_ge (tgt := 116) hx hb d_Reckoner_divide_79 (by decide) (fun hc2 => ?_) (fun hc2 => ?_)
        · rw [if_pos hc2] at h
          exact (ih.2.2.2.2.2.1) S L M ls H locs h (lv_sub hl [0, 1, 2, 3, 4, 5] rfl) hP hD hS
        · rw [if_neg hc2] at h
          refine lv_lload_n hx hb d_Reckoner_divide_82 rfl (lv_at hl 1 rfl) ?_
          refine lv_iconst (v := 1) hx hb d_Reckoner_divide_83 (by decide) ?_
          refine lv_lushr (v := ((M 1).toUInt64 >>> ((1 : Int32).toInt64.toUInt64 &&& Int64.toUInt64 63)).toInt64) hx hb d_Reckoner_divide_84 rfl ?_
          refine lv_lload_n hx hb d_Reckoner_divide_85 rfl (lv_at hl 2 rfl) ?_
          obtain ⟨hv3, h⟩ := chk h
          refine lv_ldiv hx hb d_Reckoner_divide_86 hv3 ?_
          refine lv_iconst (v := 1) hx hb d_Reckoner_divide_87 (by decide) ?_
          refine lv_lshl (v := ((((M 1).toUInt64 >>> ((1 : Int32).toInt64.toUInt64 &&& Int64.toUInt64 63)).toInt64) / (M 3)) <<< ((1 : Int32).toInt64 &&& 63)) hx hb d_Reckoner_divide_88 rfl ?_
          refine lv_lstore (lv' := [(7, .long (((((M 1).toUInt64 >>> ((1 : Int32).toInt64.toUInt64 &&& Int64.toUInt64 63)).toInt64) / (M 3)) <<< ((1 : Int32).toInt64 &&& 63))), (0, .ref (ad 3)), (1, .long (M 1)), (3, .long (M 3)), (5, .int (L 5)), (6, .int (L 6))]) hx hb d_Reckoner_divide_89 hl (by decide) rfl (fun ls hl => ?_)
          show W _ _ _ _ _ _ _ _ _ _ _ _ _ _ _ (F0 _ 91 _ _)
          refine lv_lload_n hx hb d_Reckoner_divide_91 rfl (lv_at hl 2 rfl) ?_
          refine lv_lload hx hb d_Reckoner_divide_92 (lv_at hl 0 rfl) ?_
          refine lv_lload_n hx hb d_Reckoner_divide_94 rfl (lv_at hl 3 rfl) ?_
          refine lv_lmul hx hb d_Reckoner_divide_95 ?_
          refine lv_lsub hx hb d_Reckoner_divide_96 ?_
          refine lv_ldc2 (v := (-9223372036854775808)) hx hb hown (htt _ k_1412) d_Reckoner_divide_97 ?_
          refine lv_lxor hx hb d_Reckoner_divide_100 ?_
          refine lv_lload_n hx hb d_Reckoner_divide_101 rfl (lv_at hl 3 rfl) ?_
          refine lv_ldc2 (v := (-9223372036854775808)) hx hb hown (htt _ k_1412) d_Reckoner_divide_102 ?_
          refine lv_lxor hx hb d_Reckoner_divide_105 ?_
          refine W.lcmp hx hb d_Reckoner_divide_106 ?_
          refine lv_if_lt (tgt := 116) hx hb d_Reckoner_divide_107 (by decide) (fun hc4 => ?_) (fun hc4 => ?_)
          · rw [if_pos hc4] at h
            exact (ih.2.2.2.2.2.1) S L (vp_updL M 7 (((((M 1).toUInt64 >>> ((1 : Int32).toInt64.toUInt64 &&& Int64.toUInt64 63)).toInt64) / (M 3)) <<< ((1 : Int32).toInt64 &&& 63))) ls H locs h (lv_sub hl [1, 2, 3, 4, 5, 0] rfl) hP hD hS
          · rw [if_neg hc4] at h
            refine lv_lload hx hb d_Reckoner_divide_110 (lv_at hl 0 rfl) ?_
            show W _ _ _ _ _ _ _ _ _ _ _ _ _ _ _ (F0 _ 112 _ _)
            refine lv_lconst (v := 1) hx hb d_Reckoner_divide_112 (by decide) ?_
            refine lv_ladd hx hb d_Reckoner_divide_113 ?_
            refine lv_lstore (lv' := [(7, .long ((((((M 1).toUInt64 >>> ((1 : Int32).toInt64.toUInt64 &&& Int64.toUInt64 63)).toInt64) / (M 3)) <<< ((1 : Int32).toInt64 &&& 63)) + (1 : Int64))), (0, .ref (ad 3)), (1, .long (M 1)), (3, .long (M 3)), (5, .int (L 5)), (6, .int (L 6))]) hx hb d_Reckoner_divide_114 hl (by decide) rfl (fun ls hl => ?_)
            exact (ih.2.2.2.2.2.1) S L (vp_updL M 7 ((((((M 1).toUInt64 >>> ((1 : Int32).toInt64.toUInt64 &&& Int64.toUInt64 63)).toInt64) / (M 3)) <<< ((1 : Int32).toInt64 &&& 63)) + (1 : Int64))) ls H locs h (lv_sub hl [1, 2, 3, 4, 5, 0] rfl) hP hD hS
    · intro S L M ls H locs h hl hP hD hS
      simp only [f_Reckoner_divide] at h
      refine lv_iload hx hb d_Reckoner_divide_116 (lv_at hl 4 rfl) ?_
      refine lv_if_eq (tgt := 130) hx hb d_Reckoner_divide_118 (by decide) (fun hc1 => ?_) (fun hc1 => ?_)
      · rw [if_pos hc1] at h
        refine lv_lload hx hb d_Reckoner_divide_130 (lv_at hl 5 rfl) ?_
        exact (ih.2.2.2.2.2.2) S L (vp_updL M 100 (M 7)) ls H locs h (lv_sub hl [0, 1, 2, 3, 4, 5] rfl) hP hD hS
      · rw [if_neg hc1] at h
        refine lv_lload_n hx hb d_Reckoner_divide_121 rfl (lv_at hl 1 rfl) ?_
        refine lv_lload hx hb d_Reckoner_divide_122 (lv_at hl 5 rfl) ?_
        refine lv_lload_n hx hb d_Reckoner_divide_124 rfl (lv_at hl 2 rfl) ?_
        refine lv_lmul hx hb d_Reckoner_divide_125 ?_
        refine lv_lsub hx hb d_Reckoner_divide_126 ?_
        refine lv_goto (tgt := 132) hx hb d_Reckoner_divide_127 (by decide) ?_
        exact (ih.2.2.2.2.2.2) S L (vp_updL M 100 ((M 1) - ((M 7) * (M 3)))) ls H locs h (lv_sub hl [0, 1, 2, 3, 4, 5] rfl) hP hD hS
    · intro S L M ls H locs h hl hP hD hS
      simp only [f_Reckoner_divide] at h
      cases h
      exact kx_132 ls H locs hP hD hS
abbrev rm_t_Reckoner_divide : Room := { frames := 0, cells := 0, slots := 0, locals := 0 }
theorem t_Reckoner_divide (l : Launch) (g : gG) (sz : Nat) (ad : Nat → Nat) (S : sS) (v1 : Int64) (v2 : Int64) (v3 : Int32) (v4 : Int32) (k : Nat) (r : Int64) (S9 : sS) (h : f_Reckoner_divide k 0 S (upd (upd (fun _ => 0) 5 v3) 6 v4) (vp_updL (vp_updL (fun _ => 0) 1 v1) 3 v2) = some (r, S9)) : Cl l y_Reckoner_divide b_Reckoner_divide 9 rm_t_Reckoner_divide g [.ref (ad 3), .long v1, .long v2, .int v3, .int v4] (Sw shC g ad S) sz (fun r1 w => ∃ S1 : sS, w = Sw shC g ad S1 ∧ r1 = r ∧ S1 = S9) := by
  refine startL (by decide) (Nat.le_of_ble_eq_true rfl) ?_
  intro p e s m below meth c A ls hx hb hr hml hlocks hmn hown htt hN hA hP hK hD hS hl
  exact (w_Reckoner_divide hx hb hml hown htt hK hN hA r S9 (fun ls H locs hP hD hS => fin_l (g := g) (ws := Sw shC g ad S9) hx hb hr hlocks (by decide +kernel) (by decide +kernel) hP hD hS ⟨_, rfl, rfl, rfl⟩ d_Reckoner_divide_30) (fun ls H locs hP hD hS => fin_l (g := g) (ws := Sw shC g ad S9) hx hb hr hlocks (by decide +kernel) (by decide +kernel) hP hD hS ⟨_, rfl, rfl, rfl⟩ d_Reckoner_divide_132) k).1 S (upd (upd (fun _ => 0) 5 v3) 6 v4) (vp_updL (vp_updL (fun _ => 0) 1 v1) 3 v2) ls _ _ h hl hP hD hS
def f_First_fail : Nat → Nat → sS → (Nat → Int32) → (Nat → Int64) → Option (Int32 × sS)
  | 0, _, _, _, _ => none
  | k + 1, 0, S, L, M => (f_Outcome_fail k 0 S (upd (upd (fun _ => 0) 1 (L 1 : Int32)) 2 (S.1 5 4 : Int32)) (fun _ => 0)).bind (fun (r1, T1) => some ((0 : Int32), T1))
  | _ + 1, _ + 1, _, _, _ => none
set_option maxHeartbeats 8000000 in
set_option maxRecDepth 100000 in
theorem w_First_fail {p : Program} {l : Launch} {e : Env} {R : Room} {s : State} {m : MethodId} {args : Array Value} {below : List Frame} {meth : Method} {c : Code} {cells slots : Nat} {Q : State → Prop} {g : gG} {A : Nat → Prop} {ad : Nat → Nat} (hx : p.tables.exec = Jvm.exec) (hb : c.code = b_First_fail) (hml : c.maxLocals = 2) (hown : s.vm.findClass "MacroMill$First" = some m.cls) (htt : ∀ w ∈ gt, w.before args s = true) (hK : va_K g.1 classes (tysG g) s) (hN : nw s) (hA : ∀ q : Nat, s.heap.size ≤ q → A q) (hRf : 1 ≤ R.frames) (hRl : 22 ≤ R.locals) (hRc : cells ≤ R.cells) (hRs : slots ≤ R.slots) (r : Int32) (S9 : sS)
    (kx_15 : ∀ (ls : Array Slot) (H : Heap) (locs : List Loc), va_P g.1 classes (Sw shC g ad S9) H → va_D A (Sw shC g ad S9) → va_S A s.heap H locs → W p l e R s m args below meth c H locs cells slots Q (F0 m 15 ls [])) :
    ∀ k9 : Nat, (∀ (S : sS) (L : Nat → Int32) (M : Nat → Int64) (ls : Array Slot) (H : Heap) (locs : List Loc), f_First_fail k9 0 S L M = some (r, S9) → lv_has ls 2 [(0, .ref (ad 4)), (1, .int (L 1))] → va_P g.1 classes (Sw shC g ad S) H → va_D A (Sw shC g ad S) → va_S A s.heap H locs → W p l e R s m args below meth c H locs cells slots Q (F0 m 0 ls [])) := by
  intro k9
  induction k9 with
  | zero => exact (fun _ _ _ _ _ _ h => by simp [f_First_fail] at h)
  | succ k9 ih =>
    · intro S L M ls H locs h hl hP hD hS
      simp only [f_First_fail] at h
      refine lv_aload_n hx hb d_First_fail_0 rfl (lv_at hl 0 rfl) ?_
      refine S_getR (h := shC) (C := "MacroMill$First") (T := F_First) hx hb htt in_First hown hK hP 4 0 rfl 2 rfl rfl (by decide) (htt _ k_570) (fun _ h9 => h9) d_First_fail_1 ?_
      refine lv_iload_n hx hb d_First_fail_4 rfl (lv_at hl 1 rfl) ?_
      refine lv_aload_n hx hb d_First_fail_5 rfl (lv_at hl 0 rfl) ?_
      refine S_getR (h := shC) (C := "MacroMill$First") (T := F_First) hx hb htt in_First hown hK hP 4 2 rfl 5 rfl rfl (by decide) (htt _ k_572) (fun _ h9 => h9) d_First_fail_6 ?_
      refine S_getI (h := shC) (C := "MacroMill$Input") (T := F_Input) hx hb htt in_Input hown hK hP 5 4 rfl rfl rfl (by decide) (htt _ k_534) (fun _ h9 => h9) d_First_fail_9 ?_
      obtain ⟨⟨r1, T1⟩, hq1, h⟩ := Option.bind_eq_some_iff.mp h
      try dsimp only at h
      refine go_vS (As := [.ref (ad 2), .int (L 1), .int (S.1 5 4)]) (g := g) (A := A) (h := shC) hP hK hD hS hA hN (fun hp => va_runV (As := [.int (L 1), .int (S.1 5 4)]) (rest := []) ⟨hx, hb, hml, hown, htt⟩ (t_Outcome_fail l g _ ad S (L 1 : Int32) (S.1 5 4 : Int32) k9 r1 T1 hq1) ⟨(cb_L htt k_1163 k_264 k_1190 hd_Outcome_fail ⟨(Nat.le_trans (by decide +kernel) hRf), (Nat.le_trans (by decide +kernel) hRl)⟩), htt _ k_1161, htt _ k_1162⟩ ⟨hp.1, S_recv hK hP 2 rfl rfl, hp.2⟩ rfl rfl hl.1 rfl (lv_room (Nat.le_of_ble_eq_true rfl)) d_First_fail_12 ⟨hRc, hRs⟩) (fun Sn H locs hw9 hP hD hS => ?_)
      have e8 := hw9
      rw [e8] at hP hD
      refine W.widen (k := cells) (n := slots) (Nat.le_refl _) (Nat.le_refl _) ?_
      cases h
      exact kx_15 ls H locs hP hD hS
abbrev rm_t_First_fail : Room := { frames := 1, cells := 0, slots := 0, locals := 22 }
theorem t_First_fail (l : Launch) (g : gG) (sz : Nat) (ad : Nat → Nat) (S : sS) (v1 : Int32) (k : Nat) (r : Int32) (S9 : sS) (h : f_First_fail k 0 S (upd (fun _ => 0) 1 v1) (fun _ => 0) = some (r, S9)) : Cv l y_First_fail b_First_fail 2 rm_t_First_fail g [.ref (ad 4), .int v1] (Sw shC g ad S) sz (fun w => ∃ S1 : sS, w = Sw shC g ad S1 ∧ S1 = S9) := by
  refine startV (by decide) (Nat.le_of_ble_eq_true rfl) ?_
  intro p e s m below meth c A ls hx hb hr hml hlocks hmn hown htt hN hA hP hK hD hS hl
  exact (w_First_fail hx hb hml hown htt hK hN hA (by decide +kernel) (by decide +kernel) (by decide +kernel) (by decide +kernel) r S9 (fun ls H locs hP hD hS => fin_v (g := g) (ws := Sw shC g ad S9) hx hb hr hlocks (by decide +kernel) (by decide +kernel) hP hD hS ⟨_, rfl, rfl⟩ d_First_fail_15) k) S (upd (fun _ => 0) 1 v1) (fun _ => 0) ls _ _ h hl hP hD hS
def f_First_giveByte : Nat → Nat → sS → (Nat → Int32) → (Nat → Int64) → Option (Int32 × sS)
  | 0, _, _, _, _ => none
  | k + 1, 0, S, L, M => if (32768 : Int32) ≤ (S.1 4 6) then (f_First_giveByte k 1 S L M) else (if okI (S.1 4 6) 32768 = true then (f_First_giveByte k 1 (putA S 11 (S.1 4 6 : Int32).toNatClampNeg (vp_nar .byte ((L 1).toInt8.toInt32))) L M) else none)
  | k + 1, 1, S, L, M => some ((0 : Int32), (putI S 4 6 ((S.1 4 6) + (1 : Int32))))
  | _ + 1, _ + 2, _, _, _ => none
set_option maxHeartbeats 8000000 in
set_option maxRecDepth 100000 in
theorem w_First_giveByte {p : Program} {l : Launch} {e : Env} {R : Room} {s : State} {m : MethodId} {args : Array Value} {below : List Frame} {meth : Method} {c : Code} {cells slots : Nat} {Q : State → Prop} {g : gG} {A : Nat → Prop} {ad : Nat → Nat} (hx : p.tables.exec = Jvm.exec) (hb : c.code = b_First_giveByte) (hml : c.maxLocals = 2) (hown : s.vm.findClass "MacroMill$First" = some m.cls) (htt : ∀ w ∈ gt, w.before args s = true) (hK : va_K g.1 classes (tysG g) s) (hN : nw s) (hA : ∀ q : Nat, s.heap.size ≤ q → A q) (r : Int32) (S9 : sS)
    (kx_30 : ∀ (ls : Array Slot) (H : Heap) (locs : List Loc), va_P g.1 classes (Sw shC g ad S9) H → va_D A (Sw shC g ad S9) → va_S A s.heap H locs → W p l e R s m args below meth c H locs cells slots Q (F0 m 30 ls [])) :
    ∀ k9 : Nat, (∀ (S : sS) (L : Nat → Int32) (M : Nat → Int64) (ls : Array Slot) (H : Heap) (locs : List Loc), f_First_giveByte k9 0 S L M = some (r, S9) → lv_has ls 2 [(0, .ref (ad 4)), (1, .int (L 1))] → va_P g.1 classes (Sw shC g ad S) H → va_D A (Sw shC g ad S) → va_S A s.heap H locs → W p l e R s m args below meth c H locs cells slots Q (F0 m 0 ls [])) ∧ (∀ (S : sS) (L : Nat → Int32) (M : Nat → Int64) (ls : Array Slot) (H : Heap) (locs : List Loc), f_First_giveByte k9 1 S L M = some (r, S9) → lv_has ls 2 [(0, .ref (ad 4)), (1, .int (L 1))] → va_P g.1 classes (Sw shC g ad S) H → va_D A (Sw shC g ad S) → va_S A s.heap H locs → W p l e R s m args below meth c H locs cells slots Q (F0 m 20 ls [])) := by
  intro k9
  induction k9 with
  | zero => exact ⟨(fun _ _ _ _ _ _ h => by simp [f_First_giveByte] at h), (fun _ _ _ _ _ _ h => by simp [f_First_giveByte] at h)⟩
  | succ k9 ih =>
    refine ⟨?_, ?_⟩
    · intro S L M ls H locs h hl hP hD hS
      simp only [f_First_giveByte] at h
      refine lv_aload_n hx hb d_First_giveByte_0 rfl (lv_at hl 0 rfl) ?_
      refine S_getI (h := shC) (C := "MacroMill$First") (T := F_First) hx hb htt in_First hown hK hP 4 6 rfl rfl rfl (by decide) (htt _ k_576) (fun _ h9 => h9) d_First_giveByte_1 ?_
      refine lv_ldc (v := 32768) hx hb hown (htt _ k_520) d_First_giveByte_4 ?_
      refine lv_icmp_ge (tgt := 20) hx hb d_First_giveByte_6 (by decide) (fun hc1 => ?_) (fun hc1 => ?_)
      · rw [if_pos hc1] at h
        exact (ih.2) S L M ls H locs h (lv_sub hl [0, 1] rfl) hP hD hS
      · rw [if_neg hc1] at h
        refine lv_aload_n hx hb d_First_giveByte_9 rfl (lv_at hl 0 rfl) ?_
        refine S_getR (h := shC) (C := "MacroMill$First") (T := F_First) hx hb htt in_First hown hK hP 4 5 rfl 24 rfl rfl (by decide) (htt _ k_575) (fun _ h9 => h9) d_First_giveByte_10 ?_
        refine lv_aload_n hx hb d_First_giveByte_13 rfl (lv_at hl 0 rfl) ?_
        refine S_getI (h := shC) (C := "MacroMill$First") (T := F_First) hx hb htt in_First hown hK hP 4 6 rfl rfl rfl (by decide) (htt _ k_576) (fun _ h9 => h9) d_First_giveByte_14 ?_
        refine lv_iload_n hx hb d_First_giveByte_17 rfl (lv_at hl 1 rfl) ?_
        refine lv_i2b (v := (L 1).toInt8.toInt32) hx hb d_First_giveByte_18 rfl ?_
        obtain ⟨hv2, h⟩ := chk h
        refine S_bast (h := shC) (i := S.1 4 6) (v := (L 1).toInt8.toInt32) hx hb hK hP hD hS 11 rfl (okI_in hv2) d_First_giveByte_19 (fun H locs hP hD hS => ?_)
        exact (ih.2) (putA S 11 (S.1 4 6 : Int32).toNatClampNeg (vp_nar .byte ((L 1).toInt8.toInt32))) L M ls H locs h (lv_sub hl [0, 1] rfl) hP hD hS
    · intro S L M ls H locs h hl hP hD hS
      simp only [f_First_giveByte] at h
      refine lv_aload_n hx hb d_First_giveByte_20 rfl (lv_at hl 0 rfl) ?_
      refine lv_dup hx hb d_First_giveByte_21 rfl ?_
      refine S_getI (h := shC) (C := "MacroMill$First") (T := F_First) hx hb htt in_First hown hK hP 4 6 rfl rfl rfl (by decide) (htt _ k_576) (fun _ h9 => h9) d_First_giveByte_22 ?_
      refine lv_iconst (v := 1) hx hb d_First_giveByte_25 (by decide) ?_
      refine lv_iadd hx hb d_First_giveByte_26 ?_
      refine S_put (h := shC) (C := "MacroMill$First") (T := F_First) (v := (S.1 4 6) + (1 : Int32)) hx hb htt in_First t_First t_First_ok n_First hown hK hP hD hS 4 6 rfl rfl rfl (by decide) (htt _ k_576) (fun _ h9 => h9) rfl rfl rfl d_First_giveByte_27 (fun H locs hP hD hS => ?_)
      cases h
      exact kx_30 ls H locs hP hD hS
abbrev rm_t_First_giveByte : Room := { frames := 0, cells := 0, slots := 0, locals := 0 }
theorem t_First_giveByte (l : Launch) (g : gG) (sz : Nat) (ad : Nat → Nat) (S : sS) (v1 : Int32) (k : Nat) (r : Int32) (S9 : sS) (h : f_First_giveByte k 0 S (upd (fun _ => 0) 1 v1) (fun _ => 0) = some (r, S9)) : Cv l y_First_giveByte b_First_giveByte 2 rm_t_First_giveByte g [.ref (ad 4), .int v1] (Sw shC g ad S) sz (fun w => ∃ S1 : sS, w = Sw shC g ad S1 ∧ S1 = S9) := by
  refine startV (by decide) (Nat.le_of_ble_eq_true rfl) ?_
  intro p e s m below meth c A ls hx hb hr hml hlocks hmn hown htt hN hA hP hK hD hS hl
  exact (w_First_giveByte hx hb hml hown htt hK hN hA r S9 (fun ls H locs hP hD hS => fin_v (g := g) (ws := Sw shC g ad S9) hx hb hr hlocks (by decide +kernel) (by decide +kernel) hP hD hS ⟨_, rfl, rfl⟩ d_First_giveByte_30) k).1 S (upd (fun _ => 0) 1 v1) (fun _ => 0) ls _ _ h hl hP hD hS
def f_First_giveNumber : Nat → Nat → sS → (Nat → Int32) → (Nat → Int64) → Option (Int32 × sS)
  | 0, _, _, _, _ => none
  | k + 1, 0, S, L, M => if (0 : Int32) ≤ (lg_cmp ((L 1).toInt64) (0 : Int64)) then (f_First_giveNumber k 1 S L (vp_updL M 2 ((L 1).toInt64))) else ((f_First_giveByte k 0 S (upd (fun _ => 0) 1 (45 : Int32)) (fun _ => 0)).bind (fun (r2, T2) => f_First_giveNumber k 1 T2 L (vp_updL M 2 (-((L 1).toInt64)))))
  | k + 1, 1, S, L, M => f_First_giveNumber k 2 S L (vp_updL M 4 (1000000000 : Int64))
  | k + 1, 2, S, L, M => if (lg_cmp (M 4) (0 : Int64)) ≤ (0 : Int32) then (some ((0 : Int32), S)) else (if (0 : Int32) ≤ (lg_cmp (M 2) (M 4)) then (f_First_giveNumber k 3 S L M) else (if (lg_cmp (M 4) (1 : Int64)) = (0 : Int32) then (f_First_giveNumber k 3 S L M) else (f_First_giveNumber k 4 S L M)))
  | k + 1, 3, S, L, M => if ¬ (M 4) = 0 then ((f_First_giveByte k 0 S (upd (fun _ => 0) 1 (((48 : Int64) + (((M 2) / (M 4)) - ((M 2) / (M 4)) / (10 : Int64) * (10 : Int64))).toInt32 : Int32)) (fun _ => 0)).bind (fun (r2, T2) => f_First_giveNumber k 4 T2 L M)) else none
  | k + 1, 4, S, L, M => f_First_giveNumber k 2 S L (vp_updL M 4 ((M 4) / (10 : Int64)))
  | _ + 1, _ + 5, _, _, _ => none
set_option maxHeartbeats 8000000 in
set_option maxRecDepth 100000 in
theorem w_First_giveNumber {p : Program} {l : Launch} {e : Env} {R : Room} {s : State} {m : MethodId} {args : Array Value} {below : List Frame} {meth : Method} {c : Code} {cells slots : Nat} {Q : State → Prop} {g : gG} {A : Nat → Prop} {ad : Nat → Nat} (hx : p.tables.exec = Jvm.exec) (hb : c.code = b_First_giveNumber) (hml : c.maxLocals = 6) (hown : s.vm.findClass "MacroMill$First" = some m.cls) (htt : ∀ w ∈ gt, w.before args s = true) (hK : va_K g.1 classes (tysG g) s) (hN : nw s) (hA : ∀ q : Nat, s.heap.size ≤ q → A q) (hRf : 1 ≤ R.frames) (hRl : 21 ≤ R.locals) (hRc : cells ≤ R.cells) (hRs : slots ≤ R.slots) (r : Int32) (S9 : sS)
    (kx_72 : ∀ (ls : Array Slot) (H : Heap) (locs : List Loc), va_P g.1 classes (Sw shC g ad S9) H → va_D A (Sw shC g ad S9) → va_S A s.heap H locs → W p l e R s m args below meth c H locs cells slots Q (F0 m 72 ls [])) :
    ∀ k9 : Nat, (∀ (S : sS) (L : Nat → Int32) (M : Nat → Int64) (ls : Array Slot) (H : Heap) (locs : List Loc), f_First_giveNumber k9 0 S L M = some (r, S9) → lv_has ls 6 [(0, .ref (ad 4)), (1, .int (L 1))] → va_P g.1 classes (Sw shC g ad S) H → va_D A (Sw shC g ad S) → va_S A s.heap H locs → W p l e R s m args below meth c H locs cells slots Q (F0 m 0 ls [])) ∧ (∀ (S : sS) (L : Nat → Int32) (M : Nat → Int64) (ls : Array Slot) (H : Heap) (locs : List Loc), f_First_giveNumber k9 1 S L M = some (r, S9) → lv_has ls 6 [(0, .ref (ad 4)), (1, .int (L 1)), (2, .long (M 2))] → va_P g.1 classes (Sw shC g ad S) H → va_D A (Sw shC g ad S) → va_S A s.heap H locs → W p l e R s m args below meth c H locs cells slots Q (F0 m 18 ls [])) ∧ (∀ (S : sS) (L : Nat → Int32) (M : Nat → Int64) (ls : Array Slot) (H : Heap) (locs : List Loc), f_First_giveNumber k9 2 S L M = some (r, S9) → lv_has ls 6 [(0, .ref (ad 4)), (1, .int (L 1)), (2, .long (M 2)), (4, .long (M 4))] → va_P g.1 classes (Sw shC g ad S) H → va_D A (Sw shC g ad S) → va_S A s.heap H locs → W p l e R s m args below meth c H locs cells slots Q (F0 m 23 ls [])) ∧ (∀ (S : sS) (L : Nat → Int32) (M : Nat → Int64) (ls : Array Slot) (H : Heap) (locs : List Loc), f_First_giveNumber k9 3 S L M = some (r, S9) → lv_has ls 6 [(0, .ref (ad 4)), (1, .int (L 1)), (2, .long (M 2)), (4, .long (M 4))] → va_P g.1 classes (Sw shC g ad S) H → va_D A (Sw shC g ad S) → va_S A s.heap H locs → W p l e R s m args below meth c H locs cells slots Q (F0 m 44 ls [])) ∧ (∀ (S : sS) (L : Nat → Int32) (M : Nat → Int64) (ls : Array Slot) (H : Heap) (locs : List Loc), f_First_giveNumber k9 4 S L M = some (r, S9) → lv_has ls 6 [(0, .ref (ad 4)), (1, .int (L 1)), (2, .long (M 2)), (4, .long (M 4))] → va_P g.1 classes (Sw shC g ad S) H → va_D A (Sw shC g ad S) → va_S A s.heap H locs → W p l e R s m args below meth c H locs cells slots Q (F0 m 61 ls [])) := by
  intro k9
  induction k9 with
  | zero => exact ⟨(fun _ _ _ _ _ _ h => by simp [f_First_giveNumber] at h), (fun _ _ _ _ _ _ h => by simp [f_First_giveNumber] at h), (fun _ _ _ _ _ _ h => by simp [f_First_giveNumber] at h), (fun _ _ _ _ _ _ h => by simp [f_First_giveNumber] at h), (fun _ _ _ _ _ _ h => by simp [f_First_giveNumber] at h)⟩
  | succ k9 ih =>
    refine ⟨?_, ?_, ?_, ?_, ?_⟩
    · intro S L M ls H locs h hl hP hD hS
      simp only [f_First_giveNumber] at h
      refine lv_iload_n hx hb d_First_giveNumber_0 rfl (lv_at hl 1 rfl) ?_
      refine lv_i2l (v := (L 1).toInt64) hx hb d_First_giveNumber_1 rfl ?_
      refine lv_lstore_n (lv' := [(2, .long ((L 1).toInt64)), (0, .ref (ad 4)), (1, .int (L 1))]) hx hb d_First_giveNumber_2 rfl hl (by decide) rfl (fun ls hl => ?_)
      refine lv_lload_n hx hb d_First_giveNumber_3 rfl (lv_at hl 0 rfl) ?_
      refine lv_lconst (v := 0) hx hb d_First_giveNumber_4 (by decide) ?_
      refine W.lcmp hx hb d_First_giveNumber_5 ?_
      refine lv_if_ge (tgt := 18) hx hb d_First_giveNumber_6 (by decide) (fun hc1 => ?_) (fun hc1 => ?_)
      · rw [if_pos hc1] at h
        exact (ih.2.1) S L (vp_updL M 2 ((L 1).toInt64)) ls H locs h (lv_sub hl [1, 2, 0] rfl) hP hD hS
      · rw [if_neg hc1] at h
        refine lv_aload_n hx hb d_First_giveNumber_9 rfl (lv_at hl 1 rfl) ?_
        refine lv_bipush (v := 45) hx hb d_First_giveNumber_10 (by decide) ?_
        obtain ⟨⟨r2, T2⟩, hq2, h⟩ := Option.bind_eq_some_iff.mp h
        try dsimp only at h
        refine go_vS (As := [.ref (ad 4), .int 45]) (g := g) (A := A) (h := shC) hP hK hD hS hA hN (fun hp => va_runV (As := [.int 45]) (rest := []) ⟨hx, hb, hml, hown, htt⟩ (t_First_giveByte l g _ ad S (45 : Int32) k9 r2 T2 hq2) ⟨(cb_L htt k_1333 k_266 k_1330 hd_First_giveByte ⟨(Nat.le_trans (by decide +kernel) hRf), (Nat.le_trans (by decide +kernel) hRl)⟩), htt _ k_1332, htt _ k_24⟩ ⟨hp.1, S_recv hK hP 4 rfl rfl, hp.2⟩ rfl rfl hl.1 rfl (lv_room (Nat.le_of_ble_eq_true rfl)) d_First_giveNumber_12 ⟨hRc, hRs⟩) (fun Sn H locs hw9 hP hD hS => ?_)
        have e8 := hw9
        rw [e8] at hP hD
        refine W.widen (k := cells) (n := slots) (Nat.le_refl _) (Nat.le_refl _) ?_
        refine lv_lload_n hx hb d_First_giveNumber_15 rfl (lv_at hl 0 rfl) ?_
        refine lv_lneg hx hb d_First_giveNumber_16 ?_
        refine lv_lstore_n (lv' := [(2, .long (-((L 1).toInt64))), (0, .ref (ad 4)), (1, .int (L 1))]) hx hb d_First_giveNumber_17 rfl hl (by decide) rfl (fun ls hl => ?_)
        exact (ih.2.1) T2 L (vp_updL M 2 (-((L 1).toInt64))) ls H locs h (lv_sub hl [1, 2, 0] rfl) hP hD hS
    · intro S L M ls H locs h hl hP hD hS
      simp only [f_First_giveNumber] at h
      refine lv_ldc2 (v := 1000000000) hx hb hown (htt _ k_1334) d_First_giveNumber_18 ?_
      refine lv_lstore (lv' := [(4, .long 1000000000), (0, .ref (ad 4)), (1, .int (L 1)), (2, .long (M 2))]) hx hb d_First_giveNumber_21 hl (by decide) rfl (fun ls hl => ?_)
      exact (ih.2.2.1) S L (vp_updL M 4 (1000000000 : Int64)) ls H locs h (lv_sub hl [1, 2, 3, 0] rfl) hP hD hS
    · intro S L M ls H locs h hl hP hD hS
      simp only [f_First_giveNumber] at h
      refine lv_lload hx hb d_First_giveNumber_23 (lv_at hl 3 rfl) ?_
      refine lv_lconst (v := 0) hx hb d_First_giveNumber_25 (by decide) ?_
      refine W.lcmp hx hb d_First_giveNumber_26 ?_
      refine lv_if_le (tgt := 72) hx hb d_First_giveNumber_27 (by decide) (fun hc1 => ?_) (fun hc1 => ?_)
      · rw [if_pos hc1] at h
        cases h
        exact kx_72 ls H locs hP hD hS
      · rw [if_neg hc1] at h
        refine lv_lload_n hx hb d_First_giveNumber_30 rfl (lv_at hl 2 rfl) ?_
        refine lv_lload hx hb d_First_giveNumber_31 (lv_at hl 3 rfl) ?_
        refine W.lcmp hx hb d_First_giveNumber_33 ?_
        refine lv_if_ge (tgt := 44) hx hb d_First_giveNumber_34 (by decide) (fun hc2 => ?_) (fun hc2 => ?_)
        · rw [if_pos hc2] at h
          exact (ih.2.2.2.1) S L M ls H locs h (lv_sub hl [0, 1, 2, 3] rfl) hP hD hS
        · rw [if_neg hc2] at h
          refine lv_lload hx hb d_First_giveNumber_37 (lv_at hl 3 rfl) ?_
          refine lv_lconst (v := 1) hx hb d_First_giveNumber_39 (by decide) ?_
          refine W.lcmp hx hb d_First_giveNumber_40 ?_
          refine lv_if_ne (tgt := 61) hx hb d_First_giveNumber_41 (by decide) (fun hc3 => ?_) (fun hc3 => ?_)
          · rw [if_neg hc3] at h
            exact (ih.2.2.2.2) S L M ls H locs h (lv_sub hl [0, 1, 2, 3] rfl) hP hD hS
          · rw [if_pos hc3] at h
            exact (ih.2.2.2.1) S L M ls H locs h (lv_sub hl [0, 1, 2, 3] rfl) hP hD hS
    · intro S L M ls H locs h hl hP hD hS
      simp only [f_First_giveNumber] at h
      refine lv_aload_n hx hb d_First_giveNumber_44 rfl (lv_at hl 0 rfl) ?_
      refine lv_ldc2 (v := 48) hx hb hown (htt _ k_1335) d_First_giveNumber_45 ?_
      refine lv_lload_n hx hb d_First_giveNumber_48 rfl (lv_at hl 2 rfl) ?_
      refine lv_lload hx hb d_First_giveNumber_49 (lv_at hl 3 rfl) ?_
      obtain ⟨hv1, h⟩ := chk h
      refine lv_ldiv hx hb d_First_giveNumber_51 hv1 ?_
      refine lv_ldc2 (v := 10) hx hb hown (htt _ k_1336) d_First_giveNumber_52 ?_
      refine lv_lrem hx hb d_First_giveNumber_55 (by decide) ?_
      refine lv_ladd hx hb d_First_giveNumber_56 ?_
      refine lv_l2i (v := ((48 : Int64) + (((M 2) / (M 4)) - ((M 2) / (M 4)) / (10 : Int64) * (10 : Int64))).toInt32) hx hb d_First_giveNumber_57 rfl ?_
      obtain ⟨⟨r2, T2⟩, hq2, h⟩ := Option.bind_eq_some_iff.mp h
      try dsimp only at h
      refine go_vS (As := [.ref (ad 4), .int (((48 : Int64) + (((M 2) / (M 4)) - ((M 2) / (M 4)) / (10 : Int64) * (10 : Int64))).toInt32)]) (g := g) (A := A) (h := shC) hP hK hD hS hA hN (fun hp => va_runV (As := [.int (((48 : Int64) + (((M 2) / (M 4)) - ((M 2) / (M 4)) / (10 : Int64) * (10 : Int64))).toInt32)]) (rest := []) ⟨hx, hb, hml, hown, htt⟩ (t_First_giveByte l g _ ad S (((48 : Int64) + (((M 2) / (M 4)) - ((M 2) / (M 4)) / (10 : Int64) * (10 : Int64))).toInt32 : Int32) k9 r2 T2 hq2) ⟨(cb_L htt k_1333 k_266 k_1330 hd_First_giveByte ⟨(Nat.le_trans (by decide +kernel) hRf), (Nat.le_trans (by decide +kernel) hRl)⟩), htt _ k_1332, htt _ k_24⟩ ⟨hp.1, S_recv hK hP 4 rfl rfl, hp.2⟩ rfl rfl hl.1 rfl (lv_room (Nat.le_of_ble_eq_true rfl)) d_First_giveNumber_58 ⟨hRc, hRs⟩) (fun Sn H locs hw9 hP hD hS => ?_)
      have e8 := hw9
      rw [e8] at hP hD
      refine W.widen (k := cells) (n := slots) (Nat.le_refl _) (Nat.le_refl _) ?_
      exact (ih.2.2.2.2) T2 L M ls H locs h (lv_sub hl [0, 1, 2, 3] rfl) hP hD hS
    · intro S L M ls H locs h hl hP hD hS
      simp only [f_First_giveNumber] at h
      refine lv_lload hx hb d_First_giveNumber_61 (lv_at hl 3 rfl) ?_
      refine lv_ldc2 (v := 10) hx hb hown (htt _ k_1336) d_First_giveNumber_63 ?_
      refine lv_ldiv hx hb d_First_giveNumber_66 (by decide) ?_
      refine lv_lstore (lv' := [(4, .long ((M 4) / (10 : Int64))), (0, .ref (ad 4)), (1, .int (L 1)), (2, .long (M 2))]) hx hb d_First_giveNumber_67 hl (by decide) rfl (fun ls hl => ?_)
      refine lv_goto (tgt := 23) hx hb d_First_giveNumber_69 (by decide) ?_
      exact (ih.2.2.1) S L (vp_updL M 4 ((M 4) / (10 : Int64))) ls H locs h (lv_sub hl [1, 2, 3, 0] rfl) hP hD hS
abbrev rm_t_First_giveNumber : Room := { frames := 1, cells := 0, slots := 0, locals := 21 }
theorem t_First_giveNumber (l : Launch) (g : gG) (sz : Nat) (ad : Nat → Nat) (S : sS) (v1 : Int32) (k : Nat) (r : Int32) (S9 : sS) (h : f_First_giveNumber k 0 S (upd (fun _ => 0) 1 v1) (fun _ => 0) = some (r, S9)) : Cv l y_First_giveNumber b_First_giveNumber 6 rm_t_First_giveNumber g [.ref (ad 4), .int v1] (Sw shC g ad S) sz (fun w => ∃ S1 : sS, w = Sw shC g ad S1 ∧ S1 = S9) := by
  refine startV (by decide) (Nat.le_of_ble_eq_true rfl) ?_
  intro p e s m below meth c A ls hx hb hr hml hlocks hmn hown htt hN hA hP hK hD hS hl
  exact (w_First_giveNumber hx hb hml hown htt hK hN hA (by decide +kernel) (by decide +kernel) (by decide +kernel) (by decide +kernel) r S9 (fun ls H locs hP hD hS => fin_v (g := g) (ws := Sw shC g ad S9) hx hb hr hlocks (by decide +kernel) (by decide +kernel) hP hD hS ⟨_, rfl, rfl⟩ d_First_giveNumber_72) k).1 S (upd (fun _ => 0) 1 v1) (fun _ => 0) ls _ _ h hl hP hD hS
def f_First_isOperatorOfTwo : Nat → Nat → sS → (Nat → Int32) → (Nat → Int64) → Option (Int32 × sS)
  | 0, _, _, _, _ => none
  | k + 1, 0, S, L, M => if (L 1) = (61 : Int32) then (if (L 0) = (61 : Int32) then (f_First_isOperatorOfTwo k 1 S L M) else (if (L 0) = (33 : Int32) then (f_First_isOperatorOfTwo k 1 S L M) else (if (L 0) = (60 : Int32) then (f_First_isOperatorOfTwo k 1 S L M) else (if (L 0) = (62 : Int32) then (f_First_isOperatorOfTwo k 1 S L M) else (f_First_isOperatorOfTwo k 2 S (upd L 100 (0 : Int32)) M))))) else (if (L 0) = (L 1) then (if (L 0) = (124 : Int32) then (f_First_isOperatorOfTwo k 3 S L M) else (if (L 0) = (38 : Int32) then (f_First_isOperatorOfTwo k 3 S L M) else (if (L 0) = (60 : Int32) then (f_First_isOperatorOfTwo k 3 S L M) else (if (L 0) = (62 : Int32) then (f_First_isOperatorOfTwo k 3 S L M) else (f_First_isOperatorOfTwo k 4 S L M))))) else (f_First_isOperatorOfTwo k 4 S L M))
  | k + 1, 1, S, L, M => f_First_isOperatorOfTwo k 2 S (upd L 100 (1 : Int32)) M
  | k + 1, 2, S, L, M => if bz (L 100) = true then some (L 100, S) else none
  | k + 1, 3, S, L, M => f_First_isOperatorOfTwo k 5 S (upd L 100 (1 : Int32)) M
  | k + 1, 4, S, L, M => f_First_isOperatorOfTwo k 5 S (upd L 100 (0 : Int32)) M
  | k + 1, 5, S, L, M => if bz (L 100) = true then some (L 100, S) else none
  | _ + 1, _ + 6, _, _, _ => none
set_option maxHeartbeats 8000000 in
set_option maxRecDepth 100000 in
theorem w_First_isOperatorOfTwo {p : Program} {l : Launch} {e : Env} {R : Room} {s : State} {m : MethodId} {args : Array Value} {below : List Frame} {meth : Method} {c : Code} {cells slots : Nat} {Q : State → Prop} {g : gG} {A : Nat → Prop} {ad : Nat → Nat} (hx : p.tables.exec = Jvm.exec) (hb : c.code = b_First_isOperatorOfTwo) (hml : c.maxLocals = 2) (hown : s.vm.findClass "MacroMill$First" = some m.cls) (htt : ∀ w ∈ gt, w.before args s = true) (hK : va_K g.1 classes (tysG g) s) (hN : nw s) (hA : ∀ q : Nat, s.heap.size ≤ q → A q) (r : Int32) (S9 : sS)
    (kx_35 : ∀ (ls : Array Slot) (H : Heap) (locs : List Loc), narrow .boolean (.int r) = .int r → va_P g.1 classes (Sw shC g ad S9) H → va_D A (Sw shC g ad S9) → va_S A s.heap H locs → W p l e R s m args below meth c H locs cells slots Q (F0 m 35 ls [.int r]))
    (kx_70 : ∀ (ls : Array Slot) (H : Heap) (locs : List Loc), narrow .boolean (.int r) = .int r → va_P g.1 classes (Sw shC g ad S9) H → va_D A (Sw shC g ad S9) → va_S A s.heap H locs → W p l e R s m args below meth c H locs cells slots Q (F0 m 70 ls [.int r])) :
    ∀ k9 : Nat, (∀ (S : sS) (L : Nat → Int32) (M : Nat → Int64) (ls : Array Slot) (H : Heap) (locs : List Loc), f_First_isOperatorOfTwo k9 0 S L M = some (r, S9) → lv_has ls 2 [(0, .int (L 0)), (1, .int (L 1))] → va_P g.1 classes (Sw shC g ad S) H → va_D A (Sw shC g ad S) → va_S A s.heap H locs → W p l e R s m args below meth c H locs cells slots Q (F0 m 0 ls [])) ∧ (∀ (S : sS) (L : Nat → Int32) (M : Nat → Int64) (ls : Array Slot) (H : Heap) (locs : List Loc), f_First_isOperatorOfTwo k9 1 S L M = some (r, S9) → lv_has ls 2 [(0, .int (L 0)), (1, .int (L 1))] → va_P g.1 classes (Sw shC g ad S) H → va_D A (Sw shC g ad S) → va_S A s.heap H locs → W p l e R s m args below meth c H locs cells slots Q (F0 m 30 ls [])) ∧ (∀ (S : sS) (L : Nat → Int32) (M : Nat → Int64) (ls : Array Slot) (H : Heap) (locs : List Loc), f_First_isOperatorOfTwo k9 2 S L M = some (r, S9) → lv_has ls 2 [(0, .int (L 0)), (1, .int (L 1))] → va_P g.1 classes (Sw shC g ad S) H → va_D A (Sw shC g ad S) → va_S A s.heap H locs → W p l e R s m args below meth c H locs cells slots Q (F0 m 35 ls [.int (L 100)])) ∧ (∀ (S : sS) (L : Nat → Int32) (M : Nat → Int64) (ls : Array Slot) (H : Heap) (locs : List Loc), f_First_isOperatorOfTwo k9 3 S L M = some (r, S9) → lv_has ls 2 [(0, .int (L 0)), (1, .int (L 1))] → va_P g.1 classes (Sw shC g ad S) H → va_D A (Sw shC g ad S) → va_S A s.heap H locs → W p l e R s m args below meth c H locs cells slots Q (F0 m 65 ls [])) ∧ (∀ (S : sS) (L : Nat → Int32) (M : Nat → Int64) (ls : Array Slot) (H : Heap) (locs : List Loc), f_First_isOperatorOfTwo k9 4 S L M = some (r, S9) → lv_has ls 2 [(0, .int (L 0)), (1, .int (L 1))] → va_P g.1 classes (Sw shC g ad S) H → va_D A (Sw shC g ad S) → va_S A s.heap H locs → W p l e R s m args below meth c H locs cells slots Q (F0 m 69 ls [])) ∧ (∀ (S : sS) (L : Nat → Int32) (M : Nat → Int64) (ls : Array Slot) (H : Heap) (locs : List Loc), f_First_isOperatorOfTwo k9 5 S L M = some (r, S9) → lv_has ls 2 [(0, .int (L 0)), (1, .int (L 1))] → va_P g.1 classes (Sw shC g ad S) H → va_D A (Sw shC g ad S) → va_S A s.heap H locs → W p l e R s m args below meth c H locs cells slots Q (F0 m 70 ls [.int (L 100)])) := by
  intro k9
  induction k9 with
  | zero => exact ⟨(fun _ _ _ _ _ _ h => by simp [f_First_isOperatorOfTwo] at h), (fun _ _ _ _ _ _ h => by simp [f_First_isOperatorOfTwo] at h), (fun _ _ _ _ _ _ h => by simp [f_First_isOperatorOfTwo] at h), (fun _ _ _ _ _ _ h => by simp [f_First_isOperatorOfTwo] at h), (fun _ _ _ _ _ _ h => by simp [f_First_isOperatorOfTwo] at h), (fun _ _ _ _ _ _ h => by simp [f_First_isOperatorOfTwo] at h)⟩
  | succ k9 ih =>
    refine ⟨?_, ?_, ?_, ?_, ?_, ?_⟩
    · intro S L M ls H locs h hl hP hD hS
      simp only [f_First_isOperatorOfTwo] at h
      refine lv_iload_n hx hb d_First_isOperatorOfTwo_0 rfl (lv_at hl 1 rfl) ?_
      refine lv_bipush (v := 61) hx hb d_First_isOperatorOfTwo_1 (by decide) ?_
      refine lv_icmp_ne (tgt := 36) hx hb d_First_isOperatorOfTwo_3 (by decide) (fun hc1 => ?_) (fun hc1 => ?_)
      · rw [if_neg hc1] at h
        refine lv_iload_n hx hb d_First_isOperatorOfTwo_36 rfl (lv_at hl 0 rfl) ?_
        refine lv_iload_n hx hb d_First_isOperatorOfTwo_37 rfl (lv_at hl 1 rfl) ?_
        refine lv_icmp_ne (tgt := 69) hx hb d_First_isOperatorOfTwo_38 (by decide) (fun hc2 => ?_) (fun hc2 => ?_)
        · rw [if_neg hc2] at h
          exact (ih.2.2.2.2.1) S L M ls H locs h (lv_sub hl [0, 1] rfl) hP hD hS
        · rw [if_pos hc2] at h
          refine lv_iload_n hx hb d_First_isOperatorOfTwo_41 rfl (lv_at hl 0 rfl) ?_
          refine lv_bipush (v := 124) hx hb d_First_isOperatorOfTwo_42 (by decide) ?_
          refine lv_icmp_eq (tgt := 65) hx hb d_First_isOperatorOfTwo_44 (by decide) (fun hc3 => ?_) (fun hc3 => ?_)
          · rw [if_pos hc3] at h
            exact (ih.2.2.2.1) S L M ls H locs h (lv_sub hl [0, 1] rfl) hP hD hS
          · rw [if_neg hc3] at h
            refine lv_iload_n hx hb d_First_isOperatorOfTwo_47 rfl (lv_at hl 0 rfl) ?_
            refine lv_bipush (v := 38) hx hb d_First_isOperatorOfTwo_48 (by decide) ?_
            refine lv_icmp_eq (tgt := 65) hx hb d_First_isOperatorOfTwo_50 (by decide) (fun hc4 => ?_) (fun hc4 => ?_)
            · rw [if_pos hc4] at h
              exact (ih.2.2.2.1) S L M ls H locs h (lv_sub hl [0, 1] rfl) hP hD hS
            · rw [if_neg hc4] at h
              refine lv_iload_n hx hb d_First_isOperatorOfTwo_53 rfl (lv_at hl 0 rfl) ?_
              refine lv_bipush (v := 60) hx hb d_First_isOperatorOfTwo_54 (by decide) ?_
              refine lv_icmp_eq (tgt := 65) hx hb d_First_isOperatorOfTwo_56 (by decide) (fun hc5 => ?_) (fun hc5 => ?_)
              · rw [if_pos hc5] at h
                exact (ih.2.2.2.1) S L M ls H locs h (lv_sub hl [0, 1] rfl) hP hD hS
              · rw [if_neg hc5] at h
                refine lv_iload_n hx hb d_First_isOperatorOfTwo_59 rfl (lv_at hl 0 rfl) ?_
                show W _ _ _ _ _ _ _ _ _ _ _ _ _ _ _ (F0 _ 60 _ _)
                refine lv_bipush (v := 62) hx hb d_First_isOperatorOfTwo_60 (by decide) ?_
                refine lv_icmp_ne (tgt := 69) hx hb d_First_isOperatorOfTwo_62 (by decide) (fun hc6 => ?_) (fun hc6 => ?_)
                · rw [if_neg hc6] at h
                  exact (ih.2.2.2.2.1) S L M ls H locs h (lv_sub hl [0, 1] rfl) hP hD hS
                · rw [if_pos hc6] at h
                  exact (ih.2.2.2.1) S L M ls H locs h (lv_sub hl [0, 1] rfl) hP hD hS
      · rw [if_pos hc1] at h
        refine lv_iload_n hx hb d_First_isOperatorOfTwo_6 rfl (lv_at hl 0 rfl) ?_
        refine lv_bipush (v := 61) hx hb d_First_isOperatorOfTwo_7 (by decide) ?_
        refine lv_icmp_eq (tgt := 30) hx hb d_First_isOperatorOfTwo_9 (by decide) (fun hc7 => ?_) (fun hc7 => ?_)
        · rw [if_pos hc7] at h
          exact (ih.2.1) S L M ls H locs h (lv_sub hl [0, 1] rfl) hP hD hS
        · rw [if_neg hc7] at h
          refine lv_iload_n hx hb d_First_isOperatorOfTwo_12 rfl (lv_at hl 0 rfl) ?_
          refine lv_bipush (v := 33) hx hb d_First_isOperatorOfTwo_13 (by decide) ?_
          refine lv_icmp_eq (tgt := 30) hx hb d_First_isOperatorOfTwo_15 (by decide) (fun hc8 => ?_) (fun hc8 => ?_)
          · rw [if_pos hc8] at h
            exact (ih.2.1) S L M ls H locs h (lv_sub hl [0, 1] rfl) hP hD hS
          · rw [if_neg hc8] at h
            refine lv_iload_n hx hb d_First_isOperatorOfTwo_18 rfl (lv_at hl 0 rfl) ?_
            refine lv_bipush (v := 60) hx hb d_First_isOperatorOfTwo_19 (by decide) ?_
            refine lv_icmp_eq (tgt := 30) hx hb d_First_isOperatorOfTwo_21 (by decide) (fun hc9 => ?_) (fun hc9 => ?_)
            · rw [if_pos hc9] at h
              exact (ih.2.1) S L M ls H locs h (lv_sub hl [0, 1] rfl) hP hD hS
            · rw [if_neg hc9] at h
              refine lv_iload_n hx hb d_First_isOperatorOfTwo_24 rfl (lv_at hl 0 rfl) ?_
              refine lv_bipush (v := 62) hx hb d_First_isOperatorOfTwo_25 (by decide) ?_
              refine lv_icmp_ne (tgt := 34) hx hb d_First_isOperatorOfTwo_27 (by decide) (fun hc10 => ?_) (fun hc10 => ?_)
              · rw [if_neg hc10] at h
                refine lv_iconst (v := 0) hx hb d_First_isOperatorOfTwo_34 (by decide) ?_
                exact (ih.2.2.1) S (upd L 100 (0 : Int32)) M ls H locs h (lv_sub hl [0, 1] rfl) hP hD hS
              · rw [if_pos hc10] at h
                exact (ih.2.1) S L M ls H locs h (lv_sub hl [0, 1] rfl) hP hD hS
    · intro S L M ls H locs h hl hP hD hS
      simp only [f_First_isOperatorOfTwo] at h
      refine lv_iconst (v := 1) hx hb d_First_isOperatorOfTwo_30 (by decide) ?_
      refine lv_goto (tgt := 35) hx hb d_First_isOperatorOfTwo_31 (by decide) ?_
      exact (ih.2.2.1) S (upd L 100 (1 : Int32)) M ls H locs h (lv_sub hl [0, 1] rfl) hP hD hS
    · intro S L M ls H locs h hl hP hD hS
      simp only [f_First_isOperatorOfTwo] at h
      obtain ⟨hv1, h⟩ := chk h
      cases h
      exact kx_35 ls H locs (bz_n hv1) hP hD hS
    · intro S L M ls H locs h hl hP hD hS
      simp only [f_First_isOperatorOfTwo] at h
      refine lv_iconst (v := 1) hx hb d_First_isOperatorOfTwo_65 (by decide) ?_
      refine lv_goto (tgt := 70) hx hb d_First_isOperatorOfTwo_66 (by decide) ?_
      exact (ih.2.2.2.2.2) S (upd L 100 (1 : Int32)) M ls H locs h (lv_sub hl [0, 1] rfl) hP hD hS
    · intro S L M ls H locs h hl hP hD hS
      simp only [f_First_isOperatorOfTwo] at h
      refine lv_iconst (v := 0) hx hb d_First_isOperatorOfTwo_69 (by decide) ?_
      exact (ih.2.2.2.2.2) S (upd L 100 (0 : Int32)) M ls H locs h (lv_sub hl [0, 1] rfl) hP hD hS
    · intro S L M ls H locs h hl hP hD hS
      simp only [f_First_isOperatorOfTwo] at h
      obtain ⟨hv1, h⟩ := chk h
      cases h
      exact kx_70 ls H locs (bz_n hv1) hP hD hS
abbrev rm_t_First_isOperatorOfTwo : Room := { frames := 0, cells := 0, slots := 0, locals := 0 }
theorem t_First_isOperatorOfTwo (l : Launch) (g : gG) (sz : Nat) (ad : Nat → Nat) (S : sS) (v1 : Int32) (v2 : Int32) (k : Nat) (r : Int32) (S9 : sS) (h : f_First_isOperatorOfTwo k 0 S (upd (upd (fun _ => 0) 0 v1) 1 v2) (fun _ => 0) = some (r, S9)) : Cz l y_First_isOperatorOfTwo b_First_isOperatorOfTwo 2 rm_t_First_isOperatorOfTwo g [.int v1, .int v2] (Sw shC g ad S) sz (fun r1 w => ∃ S1 : sS, w = Sw shC g ad S1 ∧ r1 = r ∧ S1 = S9) := by
  refine startZ (by decide) (Nat.le_of_ble_eq_true rfl) ?_
  intro p e s m below meth c A ls hx hb hr hml hlocks hmn hown htt hN hA hP hK hD hS hl
  exact (w_First_isOperatorOfTwo hx hb hml hown htt hK hN hA r S9 (fun ls H locs hz hP hD hS => fin_z (g := g) (ws := Sw shC g ad S9) hx hb hr hlocks hz (by decide +kernel) (by decide +kernel) hP hD hS ⟨_, rfl, rfl, rfl⟩ d_First_isOperatorOfTwo_35) (fun ls H locs hz hP hD hS => fin_z (g := g) (ws := Sw shC g ad S9) hx hb hr hlocks hz (by decide +kernel) (by decide +kernel) hP hD hS ⟨_, rfl, rfl, rfl⟩ d_First_isOperatorOfTwo_70) k).1 S (upd (upd (fun _ => 0) 0 v1) 1 v2) (fun _ => 0) ls _ _ h hl hP hD hS
def f_First_setCurrent : Nat → Nat → sS → (Nat → Int32) → (Nat → Int64) → Option (Int32 × sS)
  | 0, _, _, _, _ => none
  | k + 1, 0, S, L, M => if (L 1) ≤ (9 : Int32) then (if (0 : Int32) ≤ (L 1) then (f_First_setCurrent k 1 S (upd L 101 (L 1)) M) else (f_First_setCurrent k 1 S (upd L 101 ((-1) : Int32)) M)) else ((f_First_fail k 0 S (upd (fun _ => 0) 1 (36 : Int32)) (fun _ => 0)).bind (fun (r3, T3) => some ((0 : Int32), T3)))
  | k + 1, 1, S, L, M => some ((0 : Int32), (putI S 4 14 (L 101)))
  | _ + 1, _ + 2, _, _, _ => none
set_option maxHeartbeats 8000000 in
set_option maxRecDepth 100000 in
theorem w_First_setCurrent {p : Program} {l : Launch} {e : Env} {R : Room} {s : State} {m : MethodId} {args : Array Value} {below : List Frame} {meth : Method} {c : Code} {cells slots : Nat} {Q : State → Prop} {g : gG} {A : Nat → Prop} {ad : Nat → Nat} (hx : p.tables.exec = Jvm.exec) (hb : c.code = b_First_setCurrent) (hml : c.maxLocals = 2) (hown : s.vm.findClass "MacroMill$First" = some m.cls) (htt : ∀ w ∈ gt, w.before args s = true) (hK : va_K g.1 classes (tysG g) s) (hN : nw s) (hA : ∀ q : Nat, s.heap.size ≤ q → A q) (hRf : 2 ≤ R.frames) (hRl : 43 ≤ R.locals) (hRc : cells ≤ R.cells) (hRs : slots ≤ R.slots) (r : Int32) (S9 : sS)
    (kx_12 : ∀ (ls : Array Slot) (H : Heap) (locs : List Loc), va_P g.1 classes (Sw shC g ad S9) H → va_D A (Sw shC g ad S9) → va_S A s.heap H locs → W p l e R s m args below meth c H locs cells slots Q (F0 m 12 ls []))
    (kx_26 : ∀ (ls : Array Slot) (H : Heap) (locs : List Loc), va_P g.1 classes (Sw shC g ad S9) H → va_D A (Sw shC g ad S9) → va_S A s.heap H locs → W p l e R s m args below meth c H locs cells slots Q (F0 m 26 ls [])) :
    ∀ k9 : Nat, (∀ (S : sS) (L : Nat → Int32) (M : Nat → Int64) (ls : Array Slot) (H : Heap) (locs : List Loc), f_First_setCurrent k9 0 S L M = some (r, S9) → lv_has ls 2 [(0, .ref (ad 4)), (1, .int (L 1))] → va_P g.1 classes (Sw shC g ad S) H → va_D A (Sw shC g ad S) → va_S A s.heap H locs → W p l e R s m args below meth c H locs cells slots Q (F0 m 0 ls [])) ∧ (∀ (S : sS) (L : Nat → Int32) (M : Nat → Int64) (ls : Array Slot) (H : Heap) (locs : List Loc), f_First_setCurrent k9 1 S L M = some (r, S9) → lv_has ls 2 [(0, .ref (ad 4)), (1, .int (L 1))] → va_P g.1 classes (Sw shC g ad S) H → va_D A (Sw shC g ad S) → va_S A s.heap H locs → W p l e R s m args below meth c H locs cells slots Q (F0 m 23 ls [.int (L 101), .ref (ad 4)])) := by
  intro k9
  induction k9 with
  | zero => exact ⟨(fun _ _ _ _ _ _ h => by simp [f_First_setCurrent] at h), (fun _ _ _ _ _ _ h => by simp [f_First_setCurrent] at h)⟩
  | succ k9 ih =>
    refine ⟨?_, ?_⟩
    · intro S L M ls H locs h hl hP hD hS
      simp only [f_First_setCurrent] at h
      refine lv_iload_n hx hb d_First_setCurrent_0 rfl (lv_at hl 1 rfl) ?_
      refine lv_bipush (v := 9) hx hb d_First_setCurrent_1 (by decide) ?_
      refine lv_icmp_le (tgt := 13) hx hb d_First_setCurrent_3 (by decide) (fun hc1 => ?_) (fun hc1 => ?_)
      · rw [if_pos hc1] at h
        refine lv_aload_n hx hb d_First_setCurrent_13 rfl (lv_at hl 0 rfl) ?_
        refine lv_iload_n hx hb d_First_setCurrent_14 rfl (lv_at hl 1 rfl) ?_
        refine lv_if_ge (tgt := 22) hx hb d_First_setCurrent_15 (by decide) (fun hc2 => ?_) (fun hc2 => ?_)
        · rw [if_pos hc2] at h
          refine lv_iload_n hx hb d_First_setCurrent_22 rfl (lv_at hl 1 rfl) ?_
          exact (ih.2) S (upd L 101 (L 1)) M ls H locs h (lv_sub hl [0, 1] rfl) hP hD hS
        · rw [if_neg hc2] at h
          refine lv_iconst (v := (-1)) hx hb d_First_setCurrent_18 (by decide) ?_
          refine lv_goto (tgt := 23) hx hb d_First_setCurrent_19 (by decide) ?_
          exact (ih.2) S (upd L 101 ((-1) : Int32)) M ls H locs h (lv_sub hl [0, 1] rfl) hP hD hS
      · rw [if_neg hc1] at h
        refine lv_aload_n hx hb d_First_setCurrent_6 rfl (lv_at hl 0 rfl) ?_
        refine lv_bipush (v := 36) hx hb d_First_setCurrent_7 (by decide) ?_
        obtain ⟨⟨r3, T3⟩, hq3, h⟩ := Option.bind_eq_some_iff.mp h
        try dsimp only at h
        refine go_vS (As := [.ref (ad 4), .int 36]) (g := g) (A := A) (h := shC) hP hK hD hS hA hN (fun hp => va_runV (As := [.int 36]) (rest := []) ⟨hx, hb, hml, hown, htt⟩ (t_First_fail l g _ ad S (36 : Int32) k9 r3 T3 hq3) ⟨(cb_L htt k_1189 k_266 k_1186 hd_First_fail ⟨(Nat.le_trans (by decide +kernel) hRf), (Nat.le_trans (by decide +kernel) hRl)⟩), htt _ k_1188, htt _ k_10⟩ ⟨hp.1, S_recv hK hP 4 rfl rfl, hp.2⟩ rfl rfl hl.1 rfl (lv_room (Nat.le_of_ble_eq_true rfl)) d_First_setCurrent_9 ⟨hRc, hRs⟩) (fun Sn H locs hw9 hP hD hS => ?_)
        have e8 := hw9
        rw [e8] at hP hD
        refine W.widen (k := cells) (n := slots) (Nat.le_refl _) (Nat.le_refl _) ?_
        cases h
        exact kx_12 ls H locs hP hD hS
    · intro S L M ls H locs h hl hP hD hS
      simp only [f_First_setCurrent] at h
      refine S_put (h := shC) (C := "MacroMill$First") (T := F_First) (v := L 101) hx hb htt in_First t_First t_First_ok n_First hown hK hP hD hS 4 14 rfl rfl rfl (by decide) (htt _ k_584) (fun _ h9 => h9) rfl rfl rfl d_First_setCurrent_23 (fun H locs hP hD hS => ?_)
      cases h
      exact kx_26 ls H locs hP hD hS
abbrev rm_t_First_setCurrent : Room := { frames := 2, cells := 0, slots := 0, locals := 43 }
theorem t_First_setCurrent (l : Launch) (g : gG) (sz : Nat) (ad : Nat → Nat) (S : sS) (v1 : Int32) (k : Nat) (r : Int32) (S9 : sS) (h : f_First_setCurrent k 0 S (upd (fun _ => 0) 1 v1) (fun _ => 0) = some (r, S9)) : Cv l y_First_setCurrent b_First_setCurrent 2 rm_t_First_setCurrent g [.ref (ad 4), .int v1] (Sw shC g ad S) sz (fun w => ∃ S1 : sS, w = Sw shC g ad S1 ∧ S1 = S9) := by
  refine startV (by decide) (Nat.le_of_ble_eq_true rfl) ?_
  intro p e s m below meth c A ls hx hb hr hml hlocks hmn hown htt hN hA hP hK hD hS hl
  exact (w_First_setCurrent hx hb hml hown htt hK hN hA (by decide +kernel) (by decide +kernel) (by decide +kernel) (by decide +kernel) r S9 (fun ls H locs hP hD hS => fin_v (g := g) (ws := Sw shC g ad S9) hx hb hr hlocks (by decide +kernel) (by decide +kernel) hP hD hS ⟨_, rfl, rfl⟩ d_First_setCurrent_12) (fun ls H locs hP hD hS => fin_v (g := g) (ws := Sw shC g ad S9) hx hb hr hlocks (by decide +kernel) (by decide +kernel) hP hD hS ⟨_, rfl, rfl⟩ d_First_setCurrent_26) k).1 S (upd (fun _ => 0) 1 v1) (fun _ => 0) ls _ _ h hl hP hD hS
def f_First_takePlace : Nat → Nat → sS → (Nat → Int32) → (Nat → Int64) → Option (Int32 × sS)
  | 0, _, _, _, _ => none
  | k + 1, 0, S, L, M => if (S.1 4 11) < (0 : Int32) then (some (((S.1 4 12) + (1 : Int32)) - (1 : Int32), (putI (putI S 4 13 ((S.1 4 13) + (1 : Int32))) 4 12 ((S.1 4 12) + (1 : Int32))))) else (if okI (S.1 4 11) 32768 = true then (some (S.1 4 11, (putI (putI S 4 13 ((S.1 4 13) + (1 : Int32))) 4 11 ((putI S 4 13 ((S.1 4 13) + (1 : Int32))).2.1 13 (S.1 4 11 : Int32).toNatClampNeg)))) else none)
  | _ + 1, _ + 1, _, _, _ => none
set_option maxHeartbeats 8000000 in
set_option maxRecDepth 100000 in
theorem w_First_takePlace {p : Program} {l : Launch} {e : Env} {R : Room} {s : State} {m : MethodId} {args : Array Value} {below : List Frame} {meth : Method} {c : Code} {cells slots : Nat} {Q : State → Prop} {g : gG} {A : Nat → Prop} {ad : Nat → Nat} (hx : p.tables.exec = Jvm.exec) (hb : c.code = b_First_takePlace) (hml : c.maxLocals = 2) (hown : s.vm.findClass "MacroMill$First" = some m.cls) (htt : ∀ w ∈ gt, w.before args s = true) (hK : va_K g.1 classes (tysG g) s) (hN : nw s) (hA : ∀ q : Nat, s.heap.size ≤ q → A q) (r : Int32) (S9 : sS)
    (kx_30 : ∀ (ls : Array Slot) (H : Heap) (locs : List Loc), va_P g.1 classes (Sw shC g ad S9) H → va_D A (Sw shC g ad S9) → va_S A s.heap H locs → W p l e R s m args below meth c H locs cells slots Q (F0 m 30 ls [.int r]))
    (kx_47 : ∀ (ls : Array Slot) (H : Heap) (locs : List Loc), va_P g.1 classes (Sw shC g ad S9) H → va_D A (Sw shC g ad S9) → va_S A s.heap H locs → W p l e R s m args below meth c H locs cells slots Q (F0 m 47 ls [.int r])) :
    ∀ k9 : Nat, (∀ (S : sS) (L : Nat → Int32) (M : Nat → Int64) (ls : Array Slot) (H : Heap) (locs : List Loc), f_First_takePlace k9 0 S L M = some (r, S9) → lv_has ls 2 [(0, .ref (ad 4))] → va_P g.1 classes (Sw shC g ad S) H → va_D A (Sw shC g ad S) → va_S A s.heap H locs → W p l e R s m args below meth c H locs cells slots Q (F0 m 0 ls [])) := by
  intro k9
  induction k9 with
  | zero => exact (fun _ _ _ _ _ _ h => by simp [f_First_takePlace] at h)
  | succ k9 ih =>
    · intro S L M ls H locs h hl hP hD hS
      simp only [f_First_takePlace] at h
      refine lv_aload_n hx hb d_First_takePlace_0 rfl (lv_at hl 0 rfl) ?_
      refine lv_dup hx hb d_First_takePlace_1 rfl ?_
      refine S_getI (h := shC) (C := "MacroMill$First") (T := F_First) hx hb htt in_First hown hK hP 4 13 rfl rfl rfl (by decide) (htt _ k_583) (fun _ h9 => h9) d_First_takePlace_2 ?_
      refine lv_iconst (v := 1) hx hb d_First_takePlace_5 (by decide) ?_
      refine lv_iadd hx hb d_First_takePlace_6 ?_
      refine S_put (h := shC) (C := "MacroMill$First") (T := F_First) (v := (S.1 4 13) + (1 : Int32)) hx hb htt in_First t_First t_First_ok n_First hown hK hP hD hS 4 13 rfl rfl rfl (by decide) (htt _ k_583) (fun _ h9 => h9) rfl rfl rfl d_First_takePlace_7 (fun H locs hP hD hS => ?_)
      refine lv_aload_n hx hb d_First_takePlace_10 rfl (lv_at hl 0 rfl) ?_
      refine S_getI (h := shC) (C := "MacroMill$First") (T := F_First) hx hb htt in_First hown hK hP 4 11 rfl rfl rfl (by decide) (htt _ k_581) (fun _ h9 => h9) d_First_takePlace_11 ?_
      refine toI (y := S.1 4 11) rfl ?_
      refine lv_istore_n (lv' := [(1, .int (S.1 4 11)), (0, .ref (ad 4))]) hx hb d_First_takePlace_14 rfl hl (by decide) rfl (fun ls hl => ?_)
      refine lv_iload_n hx hb d_First_takePlace_15 rfl (lv_at hl 0 rfl) ?_
      refine lv_if_lt (tgt := 31) hx hb d_First_takePlace_16 (by decide) (fun hc1 => ?_) (fun hc1 => ?_)
      · rw [if_pos hc1] at h
        refine lv_aload_n hx hb d_First_takePlace_31 rfl (lv_at hl 1 rfl) ?_
        show W _ _ _ _ _ _ _ _ _ _ _ _ _ _ _ (F0 _ 32 _ _)
        refine lv_dup hx hb d_First_takePlace_32 rfl ?_
        refine S_getI (h := shC) (C := "MacroMill$First") (T := F_First) hx hb htt in_First hown hK hP 4 12 rfl rfl rfl (by decide) (htt _ k_582) (fun _ h9 => h9) d_First_takePlace_33 ?_
        refine toI (y := S.1 4 12) rfl ?_
        refine lv_iconst (v := 1) hx hb d_First_takePlace_36 (by decide) ?_
        refine lv_iadd hx hb d_First_takePlace_37 ?_
        refine S_put (h := shC) (C := "MacroMill$First") (T := F_First) (v := (S.1 4 12) + (1 : Int32)) hx hb htt in_First t_First t_First_ok n_First hown hK hP hD hS 4 12 rfl rfl rfl (by decide) (htt _ k_582) (fun _ h9 => h9) rfl rfl rfl d_First_takePlace_38 (fun H locs hP hD hS => ?_)
        refine lv_aload_n hx hb d_First_takePlace_41 rfl (lv_at hl 1 rfl) ?_
        refine S_getI (h := shC) (C := "MacroMill$First") (T := F_First) hx hb htt in_First hown hK hP 4 12 rfl rfl rfl (by decide) (htt _ k_582) (fun _ h9 => h9) d_First_takePlace_42 ?_
        refine toI (y := (S.1 4 12) + (1 : Int32)) rfl ?_
        refine lv_iconst (v := 1) hx hb d_First_takePlace_45 (by decide) ?_
        refine lv_isub hx hb d_First_takePlace_46 ?_
        cases h
        exact kx_47 ls H locs hP hD hS
      · rw [if_neg hc1] at h
        refine lv_aload_n hx hb d_First_takePlace_19 rfl (lv_at hl 1 rfl) ?_
        show W _ _ _ _ _ _ _ _ _ _ _ _ _ _ _ (F0 _ 20 _ _)
        refine lv_aload_n hx hb d_First_takePlace_20 rfl (lv_at hl 1 rfl) ?_
        refine S_getR (h := shC) (C := "MacroMill$First") (T := F_First) hx hb htt in_First hown hK hP 4 8 rfl 26 rfl rfl (by decide) (htt _ k_578) (fun _ h9 => h9) d_First_takePlace_21 ?_
        refine lv_iload_n hx hb d_First_takePlace_24 rfl (lv_at hl 0 rfl) ?_
        obtain ⟨hv2, h⟩ := chk h
        refine S_iald (h := shC) (i := S.1 4 11) hx hb hK hP 13 rfl (okI_in hv2) d_First_takePlace_25 ?_
        refine S_put (h := shC) (C := "MacroMill$First") (T := F_First) (v := (putI S 4 13 ((S.1 4 13) + (1 : Int32))).2.1 13 (S.1 4 11 : Int32).toNatClampNeg) hx hb htt in_First t_First t_First_ok n_First hown hK hP hD hS 4 11 rfl rfl rfl (by decide) (htt _ k_581) (fun _ h9 => h9) rfl rfl rfl d_First_takePlace_26 (fun H locs hP hD hS => ?_)
        refine lv_iload_n hx hb d_First_takePlace_29 rfl (lv_at hl 0 rfl) ?_
        cases h
        exact kx_30 ls H locs hP hD hS
abbrev rm_t_First_takePlace : Room := { frames := 0, cells := 0, slots := 0, locals := 0 }
theorem t_First_takePlace (l : Launch) (g : gG) (sz : Nat) (ad : Nat → Nat) (S : sS) (k : Nat) (r : Int32) (S9 : sS) (h : f_First_takePlace k 0 S (fun _ => 0) (fun _ => 0) = some (r, S9)) : Ci l y_First_takePlace b_First_takePlace 2 rm_t_First_takePlace g [.ref (ad 4)] (Sw shC g ad S) sz (fun r1 w => ∃ S1 : sS, w = Sw shC g ad S1 ∧ r1 = r ∧ S1 = S9) := by
  refine startI (by decide) (Nat.le_of_ble_eq_true rfl) ?_
  intro p e s m below meth c A ls hx hb hr hml hlocks hmn hown htt hN hA hP hK hD hS hl
  exact (w_First_takePlace hx hb hml hown htt hK hN hA r S9 (fun ls H locs hP hD hS => fin_i (g := g) (ws := Sw shC g ad S9) hx hb hr hlocks (by decide +kernel) (by decide +kernel) hP hD hS ⟨_, rfl, rfl, rfl⟩ d_First_takePlace_30) (fun ls H locs hP hD hS => fin_i (g := g) (ws := Sw shC g ad S9) hx hb hr hlocks (by decide +kernel) (by decide +kernel) hP hD hS ⟨_, rfl, rfl, rfl⟩ d_First_takePlace_47) k) S (fun _ => 0) (fun _ => 0) ls _ _ h hl hP hD hS
