def f_First_join : Nat → Nat → sS → (Nat → Int32) → (Nat → Int64) → Option (Int32 × sS)
  | 0, _, _, _, _ => none
  | k + 1, 0, S, L, M => if okI (L 1) 10 = true then (if (0 : Int32) ≤ (S.2.1 14 (L 1 : Int32).toNatClampNeg) then (if okI (L 1) 10 = true then (if okI (S.2.1 15 (L 1 : Int32).toNatClampNeg) 32768 = true then (f_First_join k 1 (putA S 13 (S.2.1 15 (L 1 : Int32).toNatClampNeg : Int32).toNatClampNeg (L 2)) L M) else none) else none) else (if okI (L 1) 10 = true then (f_First_join k 1 (putA S 14 (L 1 : Int32).toNatClampNeg (L 2)) L M) else none)) else none
  | k + 1, 1, S, L, M => if okI (L 1) 10 = true then (some ((0 : Int32), (putA S 15 (L 1 : Int32).toNatClampNeg (L 3)))) else none
  | _ + 1, _ + 2, _, _, _ => none
set_option maxHeartbeats 8000000 in
set_option maxRecDepth 100000 in
theorem w_First_join {p : Program} {l : Launch} {e : Env} {R : Room} {s : State} {m : MethodId} {args : Array Value} {below : List Frame} {meth : Method} {c : Code} {cells slots : Nat} {Q : State → Prop} {g : gG} {A : Nat → Prop} {ad : Nat → Nat} (hx : p.tables.exec = Jvm.exec) (hb : c.code = b_First_join) (hml : c.maxLocals = 4) (hown : s.vm.findClass "MacroMill$First" = some m.cls) (htt : ∀ w ∈ gt, w.before args s = true) (hK : va_K g.1 classes (tysG g) s) (hN : nw s) (hA : ∀ q : Nat, s.heap.size ≤ q → A q) (r : Int32) (S9 : sS)
    (kx_38 : ∀ (ls : Array Slot) (H : Heap) (locs : List Loc), va_P g.1 classes (Sw shC g ad S9) H → va_D A (Sw shC g ad S9) → va_S A s.heap H locs → W p l e R s m args below meth c H locs cells slots Q (F0 m 38 ls [])) :
    ∀ k9 : Nat, (∀ (S : sS) (L : Nat → Int32) (M : Nat → Int64) (ls : Array Slot) (H : Heap) (locs : List Loc), f_First_join k9 0 S L M = some (r, S9) → lv_has ls 4 [(0, .ref (ad 4)), (1, .int (L 1)), (2, .int (L 2)), (3, .int (L 3))] → va_P g.1 classes (Sw shC g ad S) H → va_D A (Sw shC g ad S) → va_S A s.heap H locs → W p l e R s m args below meth c H locs cells slots Q (F0 m 0 ls [])) ∧ (∀ (S : sS) (L : Nat → Int32) (M : Nat → Int64) (ls : Array Slot) (H : Heap) (locs : List Loc), f_First_join k9 1 S L M = some (r, S9) → lv_has ls 4 [(0, .ref (ad 4)), (1, .int (L 1)), (2, .int (L 2)), (3, .int (L 3))] → va_P g.1 classes (Sw shC g ad S) H → va_D A (Sw shC g ad S) → va_S A s.heap H locs → W p l e R s m args below meth c H locs cells slots Q (F0 m 31 ls [])) := by
  intro k9
  induction k9 with
  | zero => exact ⟨(fun _ _ _ _ _ _ h => by simp [f_First_join] at h), (fun _ _ _ _ _ _ h => by simp [f_First_join] at h)⟩
  | succ k9 ih =>
    refine ⟨?_, ?_⟩
    · intro S L M ls H locs h hl hP hD hS
      simp only [f_First_join] at h
      refine lv_aload_n hx hb d_First_join_0 rfl (lv_at hl 0 rfl) ?_
      refine S_getR (h := shC) (C := "MacroMill$First") (T := F_First) hx hb htt in_First hown hK hP 4 9 rfl 27 rfl rfl (by decide) (htt _ k_579) (fun _ h9 => h9) d_First_join_1 ?_
      refine lv_iload_n hx hb d_First_join_4 rfl (lv_at hl 1 rfl) ?_
      obtain ⟨hv1, h⟩ := chk h
      refine S_iald (h := shC) (i := L 1) hx hb hK hP 14 rfl (okI_in hv1) d_First_join_5 ?_
      refine lv_if_ge (tgt := 19) hx hb d_First_join_6 (by decide) (fun hc2 => ?_) (fun hc2 => ?_)
      · rw [if_pos hc2] at h
        refine lv_aload_n hx hb d_First_join_19 rfl (lv_at hl 0 rfl) ?_
        refine S_getR (h := shC) (C := "MacroMill$First") (T := F_First) hx hb htt in_First hown hK hP 4 8 rfl 26 rfl rfl (by decide) (htt _ k_578) (fun _ h9 => h9) d_First_join_20 ?_
        refine lv_aload_n hx hb d_First_join_23 rfl (lv_at hl 0 rfl) ?_
        refine S_getR (h := shC) (C := "MacroMill$First") (T := F_First) hx hb htt in_First hown hK hP 4 10 rfl 28 rfl rfl (by decide) (htt _ k_580) (fun _ h9 => h9) d_First_join_24 ?_
        refine lv_iload_n hx hb d_First_join_27 rfl (lv_at hl 1 rfl) ?_
        obtain ⟨hv3, h⟩ := chk h
        refine S_iald (h := shC) (i := L 1) hx hb hK hP 15 rfl (okI_in hv3) d_First_join_28 ?_
        refine lv_iload_n hx hb d_First_join_29 rfl (lv_at hl 2 rfl) ?_
        obtain ⟨hv4, h⟩ := chk h
        show W _ _ _ _ _ _ _ _ _ _ _ _ _ _ _ (F0 _ 30 _ _)
        refine S_iast (h := shC) (i := S.2.1 15 (L 1 : Int32).toNatClampNeg) (v := L 2) hx hb hK hP hD hS 13 rfl (okI_in hv4) d_First_join_30 (fun H locs hP hD hS => ?_)
        exact (ih.2) (putA S 13 (S.2.1 15 (L 1 : Int32).toNatClampNeg : Int32).toNatClampNeg (L 2)) L M ls H locs h (lv_sub hl [0, 1, 2, 3] rfl) hP hD hS
      · rw [if_neg hc2] at h
        refine lv_aload_n hx hb d_First_join_9 rfl (lv_at hl 0 rfl) ?_
        refine S_getR (h := shC) (C := "MacroMill$First") (T := F_First) hx hb htt in_First hown hK hP 4 9 rfl 27 rfl rfl (by decide) (htt _ k_579) (fun _ h9 => h9) d_First_join_10 ?_
        refine lv_iload_n hx hb d_First_join_13 rfl (lv_at hl 1 rfl) ?_
        refine lv_iload_n hx hb d_First_join_14 rfl (lv_at hl 2 rfl) ?_
        obtain ⟨hv5, h⟩ := chk h
        refine S_iast (h := shC) (i := L 1) (v := L 2) hx hb hK hP hD hS 14 rfl (okI_in hv5) d_First_join_15 (fun H locs hP hD hS => ?_)
        refine lv_goto (tgt := 31) hx hb d_First_join_16 (by decide) ?_
        exact (ih.2) (putA S 14 (L 1 : Int32).toNatClampNeg (L 2)) L M ls H locs h (lv_sub hl [0, 1, 2, 3] rfl) hP hD hS
    · intro S L M ls H locs h hl hP hD hS
      simp only [f_First_join] at h
      refine lv_aload_n hx hb d_First_join_31 rfl (lv_at hl 0 rfl) ?_
      refine S_getR (h := shC) (C := "MacroMill$First") (T := F_First) hx hb htt in_First hown hK hP 4 10 rfl 28 rfl rfl (by decide) (htt _ k_580) (fun _ h9 => h9) d_First_join_32 ?_
      refine lv_iload_n hx hb d_First_join_35 rfl (lv_at hl 1 rfl) ?_
      refine lv_iload_n hx hb d_First_join_36 rfl (lv_at hl 3 rfl) ?_
      obtain ⟨hv1, h⟩ := chk h
      refine S_iast (h := shC) (i := L 1) (v := L 3) hx hb hK hP hD hS 15 rfl (okI_in hv1) d_First_join_37 (fun H locs hP hD hS => ?_)
      cases h
      exact kx_38 ls H locs hP hD hS
abbrev rm_t_First_join : Room := { frames := 0, cells := 0, slots := 0, locals := 0 }
theorem t_First_join (l : Launch) (g : gG) (sz : Nat) (ad : Nat → Nat) (S : sS) (v1 : Int32) (v2 : Int32) (v3 : Int32) (k : Nat) (r : Int32) (S9 : sS) (h : f_First_join k 0 S (upd (upd (upd (fun _ => 0) 1 v1) 2 v2) 3 v3) (fun _ => 0) = some (r, S9)) : Cv l y_First_join b_First_join 4 rm_t_First_join g [.ref (ad 4), .int v1, .int v2, .int v3] (Sw shC g ad S) sz (fun w => ∃ S1 : sS, w = Sw shC g ad S1 ∧ S1 = S9) := by
  refine startV (by decide) (Nat.le_of_ble_eq_true rfl) ?_
  intro p e s m below meth c A ls hx hb hr hml hlocks hmn hown htt hN hA hP hK hD hS hl
  exact (w_First_join hx hb hml hown htt hK hN hA r S9 (fun ls H locs hP hD hS => fin_v (g := g) (ws := Sw shC g ad S9) hx hb hr hlocks (by decide +kernel) (by decide +kernel) hP hD hS ⟨_, rfl, rfl⟩ d_First_join_38) k).1 S (upd (upd (upd (fun _ => 0) 1 v1) 2 v2) 3 v3) (fun _ => 0) ls _ _ h hl hP hD hS
def f_First_release : Nat → Nat → sS → (Nat → Int32) → (Nat → Int64) → Option (Int32 × sS)
  | 0, _, _, _, _ => none
  | k + 1, 0, S, L, M => if okI (L 1) 10 = true then (f_First_release k 1 S (upd (upd L 2 (S.2.1 14 (L 1 : Int32).toNatClampNeg)) 3 (0 : Int32)) M) else none
  | k + 1, 1, S, L, M => if (32768 : Int32) ≤ (L 3) then (f_First_release k 2 S L M) else (if (L 2) < (0 : Int32) then (f_First_release k 2 S L M) else (if okI (L 2) 32768 = true then (f_First_release k 1 (putI S 4 13 ((S.1 4 13) - (1 : Int32))) (upd (upd L 2 ((putI S 4 13 ((S.1 4 13) - (1 : Int32))).2.1 13 (L 2 : Int32).toNatClampNeg)) 3 ((L 3) + 1)) M) else none))
  | k + 1, 2, S, L, M => if okI (L 1) 10 = true then (if okI (S.2.1 15 (L 1 : Int32).toNatClampNeg) 32768 = true then (if okI (L 1) 10 = true then (some ((0 : Int32), (putI (putA S 13 (S.2.1 15 (L 1 : Int32).toNatClampNeg : Int32).toNatClampNeg (S.1 4 11)) 4 11 ((putA S 13 (S.2.1 15 (L 1 : Int32).toNatClampNeg : Int32).toNatClampNeg (S.1 4 11)).2.1 14 (L 1 : Int32).toNatClampNeg)))) else none) else none) else none
  | _ + 1, _ + 3, _, _, _ => none
set_option maxHeartbeats 8000000 in
set_option maxRecDepth 100000 in
theorem w_First_release {p : Program} {l : Launch} {e : Env} {R : Room} {s : State} {m : MethodId} {args : Array Value} {below : List Frame} {meth : Method} {c : Code} {cells slots : Nat} {Q : State → Prop} {g : gG} {A : Nat → Prop} {ad : Nat → Nat} (hx : p.tables.exec = Jvm.exec) (hb : c.code = b_First_release) (hml : c.maxLocals = 4) (hown : s.vm.findClass "MacroMill$First" = some m.cls) (htt : ∀ w ∈ gt, w.before args s = true) (hK : va_K g.1 classes (tysG g) s) (hN : nw s) (hA : ∀ q : Nat, s.heap.size ≤ q → A q) (r : Int32) (S9 : sS)
    (kx_67 : ∀ (ls : Array Slot) (H : Heap) (locs : List Loc), va_P g.1 classes (Sw shC g ad S9) H → va_D A (Sw shC g ad S9) → va_S A s.heap H locs → W p l e R s m args below meth c H locs cells slots Q (F0 m 67 ls [])) :
    ∀ k9 : Nat, (∀ (S : sS) (L : Nat → Int32) (M : Nat → Int64) (ls : Array Slot) (H : Heap) (locs : List Loc), f_First_release k9 0 S L M = some (r, S9) → lv_has ls 4 [(0, .ref (ad 4)), (1, .int (L 1))] → va_P g.1 classes (Sw shC g ad S) H → va_D A (Sw shC g ad S) → va_S A s.heap H locs → W p l e R s m args below meth c H locs cells slots Q (F0 m 0 ls [])) ∧ (∀ (S : sS) (L : Nat → Int32) (M : Nat → Int64) (ls : Array Slot) (H : Heap) (locs : List Loc), f_First_release k9 1 S L M = some (r, S9) → lv_has ls 4 [(0, .ref (ad 4)), (1, .int (L 1)), (2, .int (L 2)), (3, .int (L 3))] → va_P g.1 classes (Sw shC g ad S) H → va_D A (Sw shC g ad S) → va_S A s.heap H locs → W p l e R s m args below meth c H locs cells slots Q (F0 m 9 ls [])) ∧ (∀ (S : sS) (L : Nat → Int32) (M : Nat → Int64) (ls : Array Slot) (H : Heap) (locs : List Loc), f_First_release k9 2 S L M = some (r, S9) → lv_has ls 4 [(0, .ref (ad 4)), (1, .int (L 1)), (2, .int (L 2)), (3, .int (L 3))] → va_P g.1 classes (Sw shC g ad S) H → va_D A (Sw shC g ad S) → va_S A s.heap H locs → W p l e R s m args below meth c H locs cells slots Q (F0 m 42 ls [])) := by
  intro k9
  induction k9 with
  | zero => exact ⟨(fun _ _ _ _ _ _ h => by simp [f_First_release] at h), (fun _ _ _ _ _ _ h => by simp [f_First_release] at h), (fun _ _ _ _ _ _ h => by simp [f_First_release] at h)⟩
  | succ k9 ih =>
    refine ⟨?_, ?_, ?_⟩
    · intro S L M ls H locs h hl hP hD hS
      simp only [f_First_release] at h
      refine lv_aload_n hx hb d_First_release_0 rfl (lv_at hl 0 rfl) ?_
      refine S_getR (h := shC) (C := "MacroMill$First") (T := F_First) hx hb htt in_First hown hK hP 4 9 rfl 27 rfl rfl (by decide) (htt _ k_579) (fun _ h9 => h9) d_First_release_1 ?_
      refine lv_iload_n hx hb d_First_release_4 rfl (lv_at hl 1 rfl) ?_
      obtain ⟨hv1, h⟩ := chk h
      refine S_iald (h := shC) (i := L 1) hx hb hK hP 14 rfl (okI_in hv1) d_First_release_5 ?_
      refine lv_istore_n (lv' := [(2, .int (S.2.1 14 (L 1 : Int32).toNatClampNeg)), (0, .ref (ad 4)), (1, .int (L 1))]) hx hb d_First_release_6 rfl hl (by decide) rfl (fun ls hl => ?_)
      refine lv_iconst (v := 0) hx hb d_First_release_7 (by decide) ?_
      refine lv_istore_n (lv' := [(3, .int 0), (2, .int (S.2.1 14 (L 1 : Int32).toNatClampNeg)), (0, .ref (ad 4)), (1, .int (L 1))]) hx hb d_First_release_8 rfl hl (by decide) rfl (fun ls hl => ?_)
      exact (ih.2.1) S (upd (upd L 2 (S.2.1 14 (L 1 : Int32).toNatClampNeg)) 3 (0 : Int32)) M ls H locs h (lv_sub hl [2, 3, 1, 0] rfl) hP hD hS
    · intro S L M ls H locs h hl hP hD hS
      simp only [f_First_release] at h
      refine lv_iload_n hx hb d_First_release_9 rfl (lv_at hl 3 rfl) ?_
      refine lv_ldc (v := 32768) hx hb hown (htt _ k_520) d_First_release_10 ?_
      refine lv_icmp_ge (tgt := 42) hx hb d_First_release_12 (by decide) (fun hc1 => ?_) (fun hc1 => ?_)
      · rw [if_pos hc1] at h
        exact (ih.2.2) S L M ls H locs h (lv_sub hl [0, 1, 2, 3] rfl) hP hD hS
      · rw [if_neg hc1] at h
        refine lv_iload_n hx hb d_First_release_15 rfl (lv_at hl 2 rfl) ?_
        refine lv_if_lt (tgt := 42) hx hb d_First_release_16 (by decide) (fun hc2 => ?_) (fun hc2 => ?_)
        · rw [if_pos hc2] at h
          exact (ih.2.2) S L M ls H locs h (lv_sub hl [0, 1, 2, 3] rfl) hP hD hS
        · rw [if_neg hc2] at h
          refine lv_aload_n hx hb d_First_release_19 rfl (lv_at hl 0 rfl) ?_
          refine lv_dup hx hb d_First_release_20 rfl ?_
          refine S_getI (h := shC) (C := "MacroMill$First") (T := F_First) hx hb htt in_First hown hK hP 4 13 rfl rfl rfl (by decide) (htt _ k_583) (fun _ h9 => h9) d_First_release_21 ?_
          refine lv_iconst (v := 1) hx hb d_First_release_24 (by decide) ?_
          refine lv_isub hx hb d_First_release_25 ?_
          refine S_put (h := shC) (C := "MacroMill$First") (T := F_First) (v := (S.1 4 13) - (1 : Int32)) hx hb htt in_First t_First t_First_ok n_First hown hK hP hD hS 4 13 rfl rfl rfl (by decide) (htt _ k_583) (fun _ h9 => h9) rfl rfl rfl d_First_release_26 (fun H locs hP hD hS => ?_)
          refine lv_aload_n hx hb d_First_release_29 rfl (lv_at hl 0 rfl) ?_
          refine S_getR (h := shC) (C := "MacroMill$First") (T := F_First) hx hb htt in_First hown hK hP 4 8 rfl 26 rfl rfl (by decide) (htt _ k_578) (fun _ h9 => h9) d_First_release_30 ?_
          show W _ _ _ _ _ _ _ _ _ _ _ _ _ _ _ (F0 _ 33 _ _)
          refine lv_iload_n hx hb d_First_release_33 rfl (lv_at hl 2 rfl) ?_
          obtain ⟨hv3, h⟩ := chk h
          refine S_iald (h := shC) (i := L 2) hx hb hK hP 13 rfl (okI_in hv3) d_First_release_34 ?_
          refine lv_istore_n (lv' := [(2, .int ((putI S 4 13 ((S.1 4 13) - (1 : Int32))).2.1 13 (L 2 : Int32).toNatClampNeg)), (0, .ref (ad 4)), (1, .int (L 1)), (3, .int (L 3))]) hx hb d_First_release_35 rfl hl (by decide) rfl (fun ls hl => ?_)
          refine lv_iinc (k := 3) (v := (L 3) + 1) (lv' := [(3, .int ((L 3) + 1)), (2, .int ((putI S 4 13 ((S.1 4 13) - (1 : Int32))).2.1 13 (L 2 : Int32).toNatClampNeg)), (0, .ref (ad 4)), (1, .int (L 1))]) hx hb d_First_release_36 hl rfl rfl (by decide) rfl (fun ls hl => ?_)
          refine lv_goto (tgt := 9) hx hb d_First_release_39 (by decide) ?_
          exact (ih.2.1) (putI S 4 13 ((S.1 4 13) - (1 : Int32))) (upd (upd L 2 ((putI S 4 13 ((S.1 4 13) - (1 : Int32))).2.1 13 (L 2 : Int32).toNatClampNeg)) 3 ((L 3) + 1)) M ls H locs h (lv_sub hl [2, 3, 1, 0] rfl) hP hD hS
    · intro S L M ls H locs h hl hP hD hS
      simp only [f_First_release] at h
      refine lv_aload_n hx hb d_First_release_42 rfl (lv_at hl 0 rfl) ?_
      refine S_getR (h := shC) (C := "MacroMill$First") (T := F_First) hx hb htt in_First hown hK hP 4 8 rfl 26 rfl rfl (by decide) (htt _ k_578) (fun _ h9 => h9) d_First_release_43 ?_
      refine lv_aload_n hx hb d_First_release_46 rfl (lv_at hl 0 rfl) ?_
      refine S_getR (h := shC) (C := "MacroMill$First") (T := F_First) hx hb htt in_First hown hK hP 4 10 rfl 28 rfl rfl (by decide) (htt _ k_580) (fun _ h9 => h9) d_First_release_47 ?_
      refine lv_iload_n hx hb d_First_release_50 rfl (lv_at hl 1 rfl) ?_
      obtain ⟨hv1, h⟩ := chk h
      refine S_iald (h := shC) (i := L 1) hx hb hK hP 15 rfl (okI_in hv1) d_First_release_51 ?_
      refine lv_aload_n hx hb d_First_release_52 rfl (lv_at hl 0 rfl) ?_
      refine S_getI (h := shC) (C := "MacroMill$First") (T := F_First) hx hb htt in_First hown hK hP 4 11 rfl rfl rfl (by decide) (htt _ k_581) (fun _ h9 => h9) d_First_release_53 ?_
      obtain ⟨hv2, h⟩ := chk h
      refine S_iast (h := shC) (i := S.2.1 15 (L 1 : Int32).toNatClampNeg) (v := S.1 4 11) hx hb hK hP hD hS 13 rfl (okI_in hv2) d_First_release_56 (fun H locs hP hD hS => ?_)
      refine lv_aload_n hx hb d_First_release_57 rfl (lv_at hl 0 rfl) ?_
      refine lv_aload_n hx hb d_First_release_58 rfl (lv_at hl 0 rfl) ?_
      show W _ _ _ _ _ _ _ _ _ _ _ _ _ _ _ (F0 _ 59 _ _)
      refine S_getR (h := shC) (C := "MacroMill$First") (T := F_First) hx hb htt in_First hown hK hP 4 9 rfl 27 rfl rfl (by decide) (htt _ k_579) (fun _ h9 => h9) d_First_release_59 ?_
      refine lv_iload_n hx hb d_First_release_62 rfl (lv_at hl 1 rfl) ?_
      obtain ⟨hv3, h⟩ := chk h
      refine S_iald (h := shC) (i := L 1) hx hb hK hP 14 rfl (okI_in hv3) d_First_release_63 ?_
      refine S_put (h := shC) (C := "MacroMill$First") (T := F_First) (v := (putA S 13 (S.2.1 15 (L 1 : Int32).toNatClampNeg : Int32).toNatClampNeg (S.1 4 11)).2.1 14 (L 1 : Int32).toNatClampNeg) hx hb htt in_First t_First t_First_ok n_First hown hK hP hD hS 4 11 rfl rfl rfl (by decide) (htt _ k_581) (fun _ h9 => h9) rfl rfl rfl d_First_release_64 (fun H locs hP hD hS => ?_)
      cases h
      exact kx_67 ls H locs hP hD hS
abbrev rm_t_First_release : Room := { frames := 0, cells := 0, slots := 0, locals := 0 }
theorem t_First_release (l : Launch) (g : gG) (sz : Nat) (ad : Nat → Nat) (S : sS) (v1 : Int32) (k : Nat) (r : Int32) (S9 : sS) (h : f_First_release k 0 S (upd (fun _ => 0) 1 v1) (fun _ => 0) = some (r, S9)) : Cv l y_First_release b_First_release 4 rm_t_First_release g [.ref (ad 4), .int v1] (Sw shC g ad S) sz (fun w => ∃ S1 : sS, w = Sw shC g ad S1 ∧ S1 = S9) := by
  refine startV (by decide) (Nat.le_of_ble_eq_true rfl) ?_
  intro p e s m below meth c A ls hx hb hr hml hlocks hmn hown htt hN hA hP hK hD hS hl
  exact (w_First_release hx hb hml hown htt hK hN hA r S9 (fun ls H locs hP hD hS => fin_v (g := g) (ws := Sw shC g ad S9) hx hb hr hlocks (by decide +kernel) (by decide +kernel) hP hD hS ⟨_, rfl, rfl⟩ d_First_release_67) k).1 S (upd (fun _ => 0) 1 v1) (fun _ => 0) ls _ _ h hl hP hD hS
def f_Input_setFirstQuotes : Nat → Nat → sS → (Nat → Int32) → (Nat → Int64) → Option (Int32 × sS)
  | 0, _, _, _, _ => none
  | k + 1, 0, S, L, M => if okI (0) 8 = true then (if okI (4) 8 = true then (some ((0 : Int32), (putI (putI (putA (putA S 17 (0 : Int32).toNatClampNeg (vp_nar .byte 96)) 17 (4 : Int32).toNatClampNeg (vp_nar .byte 39)) 5 7 1) 5 8 1))) else none) else none
  | _ + 1, _ + 1, _, _, _ => none
set_option maxHeartbeats 8000000 in
set_option maxRecDepth 100000 in
theorem w_Input_setFirstQuotes {p : Program} {l : Launch} {e : Env} {R : Room} {s : State} {m : MethodId} {args : Array Value} {below : List Frame} {meth : Method} {c : Code} {cells slots : Nat} {Q : State → Prop} {g : gG} {A : Nat → Prop} {ad : Nat → Nat} (hx : p.tables.exec = Jvm.exec) (hb : c.code = b_Input_setFirstQuotes) (hml : c.maxLocals = 1) (hown : s.vm.findClass "MacroMill$Input" = some m.cls) (htt : ∀ w ∈ gt, w.before args s = true) (hK : va_K g.1 classes (tysG g) s) (hN : nw s) (hA : ∀ q : Nat, s.heap.size ≤ q → A q) (r : Int32) (S9 : sS)
    (kx_26 : ∀ (ls : Array Slot) (H : Heap) (locs : List Loc), va_P g.1 classes (Sw shC g ad S9) H → va_D A (Sw shC g ad S9) → va_S A s.heap H locs → W p l e R s m args below meth c H locs cells slots Q (F0 m 26 ls [])) :
    ∀ k9 : Nat, (∀ (S : sS) (L : Nat → Int32) (M : Nat → Int64) (ls : Array Slot) (H : Heap) (locs : List Loc), f_Input_setFirstQuotes k9 0 S L M = some (r, S9) → lv_has ls 1 [(0, .ref (ad 5))] → va_P g.1 classes (Sw shC g ad S) H → va_D A (Sw shC g ad S) → va_S A s.heap H locs → W p l e R s m args below meth c H locs cells slots Q (F0 m 0 ls [])) := by
  intro k9
  induction k9 with
  | zero => exact (fun _ _ _ _ _ _ h => by simp [f_Input_setFirstQuotes] at h)
  | succ k9 ih =>
    · intro S L M ls H locs h hl hP hD hS
      simp only [f_Input_setFirstQuotes] at h
      refine lv_aload_n hx hb d_Input_setFirstQuotes_0 rfl (lv_at hl 0 rfl) ?_
      refine S_getR (h := shC) (C := "MacroMill$Input") (T := F_Input) hx hb htt in_Input hown hK hP 5 6 rfl 30 rfl rfl (by decide) (htt _ k_536) (fun _ h9 => h9) d_Input_setFirstQuotes_1 ?_
      refine lv_iconst (v := 0) hx hb d_Input_setFirstQuotes_4 (by decide) ?_
      refine lv_bipush (v := 96) hx hb d_Input_setFirstQuotes_5 (by decide) ?_
      obtain ⟨hv1, h⟩ := chk h
      refine S_bast (h := shC) (i := 0) (v := 96) hx hb hK hP hD hS 17 rfl (okI_in hv1) d_Input_setFirstQuotes_7 (fun H locs hP hD hS => ?_)
      refine lv_aload_n hx hb d_Input_setFirstQuotes_8 rfl (lv_at hl 0 rfl) ?_
      refine S_getR (h := shC) (C := "MacroMill$Input") (T := F_Input) hx hb htt in_Input hown hK hP 5 6 rfl 30 rfl rfl (by decide) (htt _ k_536) (fun _ h9 => h9) d_Input_setFirstQuotes_9 ?_
      refine lv_iconst (v := 4) hx hb d_Input_setFirstQuotes_12 (by decide) ?_
      refine lv_bipush (v := 39) hx hb d_Input_setFirstQuotes_13 (by decide) ?_
      obtain ⟨hv2, h⟩ := chk h
      refine S_bast (h := shC) (i := 4) (v := 39) hx hb hK hP hD hS 17 rfl (okI_in hv2) d_Input_setFirstQuotes_15 (fun H locs hP hD hS => ?_)
      refine lv_aload_n hx hb d_Input_setFirstQuotes_16 rfl (lv_at hl 0 rfl) ?_
      show W _ _ _ _ _ _ _ _ _ _ _ _ _ _ _ (F0 _ 17 _ _)
      refine lv_iconst (v := 1) hx hb d_Input_setFirstQuotes_17 (by decide) ?_
      refine S_put (h := shC) (C := "MacroMill$Input") (T := F_Input) (v := 1) hx hb htt in_Input t_Input t_Input_ok n_Input hown hK hP hD hS 5 7 rfl rfl rfl (by decide) (htt _ k_537) (fun _ h9 => h9) rfl rfl rfl d_Input_setFirstQuotes_18 (fun H locs hP hD hS => ?_)
      refine lv_aload_n hx hb d_Input_setFirstQuotes_21 rfl (lv_at hl 0 rfl) ?_
      refine lv_iconst (v := 1) hx hb d_Input_setFirstQuotes_22 (by decide) ?_
      refine S_put (h := shC) (C := "MacroMill$Input") (T := F_Input) (v := 1) hx hb htt in_Input t_Input t_Input_ok n_Input hown hK hP hD hS 5 8 rfl rfl rfl (by decide) (htt _ k_538) (fun _ h9 => h9) rfl rfl rfl d_Input_setFirstQuotes_23 (fun H locs hP hD hS => ?_)
      cases h
      exact kx_26 ls H locs hP hD hS
abbrev rm_t_Input_setFirstQuotes : Room := { frames := 0, cells := 0, slots := 0, locals := 0 }
theorem t_Input_setFirstQuotes (l : Launch) (g : gG) (sz : Nat) (ad : Nat → Nat) (S : sS) (k : Nat) (r : Int32) (S9 : sS) (h : f_Input_setFirstQuotes k 0 S (fun _ => 0) (fun _ => 0) = some (r, S9)) : Cv l y_Input_setFirstQuotes b_Input_setFirstQuotes 1 rm_t_Input_setFirstQuotes g [.ref (ad 5)] (Sw shC g ad S) sz (fun w => ∃ S1 : sS, w = Sw shC g ad S1 ∧ S1 = S9) := by
  refine startV (by decide) (Nat.le_of_ble_eq_true rfl) ?_
  intro p e s m below meth c A ls hx hb hr hml hlocks hmn hown htt hN hA hP hK hD hS hl
  exact (w_Input_setFirstQuotes hx hb hml hown htt hK hN hA r S9 (fun ls H locs hP hD hS => fin_v (g := g) (ws := Sw shC g ad S9) hx hb hr hlocks (by decide +kernel) (by decide +kernel) hP hD hS ⟨_, rfl, rfl⟩ d_Input_setFirstQuotes_26) k) S (fun _ => 0) (fun _ => 0) ls _ _ h hl hP hD hS
def f_Input_quoteLength : Nat → Nat → sS → (Nat → Int32) → (Nat → Int64) → Option (Int32 × sS)
  | 0, _, _, _, _ => none
  | k + 1, 0, S, L, M => if (L 1) = (0 : Int32) then (f_Input_quoteLength k 1 S (upd L 100 (S.1 5 7)) M) else (f_Input_quoteLength k 1 S (upd L 100 (S.1 5 8)) M)
  | k + 1, 1, S, L, M => some (L 100, S)
  | _ + 1, _ + 2, _, _, _ => none
set_option maxHeartbeats 8000000 in
set_option maxRecDepth 100000 in
theorem w_Input_quoteLength {p : Program} {l : Launch} {e : Env} {R : Room} {s : State} {m : MethodId} {args : Array Value} {below : List Frame} {meth : Method} {c : Code} {cells slots : Nat} {Q : State → Prop} {g : gG} {A : Nat → Prop} {ad : Nat → Nat} (hx : p.tables.exec = Jvm.exec) (hb : c.code = b_Input_quoteLength) (hml : c.maxLocals = 2) (hown : s.vm.findClass "MacroMill$Input" = some m.cls) (htt : ∀ w ∈ gt, w.before args s = true) (hK : va_K g.1 classes (tysG g) s) (hN : nw s) (hA : ∀ q : Nat, s.heap.size ≤ q → A q) (r : Int32) (S9 : sS)
    (kx_15 : ∀ (ls : Array Slot) (H : Heap) (locs : List Loc), va_P g.1 classes (Sw shC g ad S9) H → va_D A (Sw shC g ad S9) → va_S A s.heap H locs → W p l e R s m args below meth c H locs cells slots Q (F0 m 15 ls [.int r])) :
    ∀ k9 : Nat, (∀ (S : sS) (L : Nat → Int32) (M : Nat → Int64) (ls : Array Slot) (H : Heap) (locs : List Loc), f_Input_quoteLength k9 0 S L M = some (r, S9) → lv_has ls 2 [(0, .ref (ad 5)), (1, .int (L 1))] → va_P g.1 classes (Sw shC g ad S) H → va_D A (Sw shC g ad S) → va_S A s.heap H locs → W p l e R s m args below meth c H locs cells slots Q (F0 m 0 ls [])) ∧ (∀ (S : sS) (L : Nat → Int32) (M : Nat → Int64) (ls : Array Slot) (H : Heap) (locs : List Loc), f_Input_quoteLength k9 1 S L M = some (r, S9) → lv_has ls 2 [(0, .ref (ad 5)), (1, .int (L 1))] → va_P g.1 classes (Sw shC g ad S) H → va_D A (Sw shC g ad S) → va_S A s.heap H locs → W p l e R s m args below meth c H locs cells slots Q (F0 m 15 ls [.int (L 100)])) := by
  intro k9
  induction k9 with
  | zero => exact ⟨(fun _ _ _ _ _ _ h => by simp [f_Input_quoteLength] at h), (fun _ _ _ _ _ _ h => by simp [f_Input_quoteLength] at h)⟩
  | succ k9 ih =>
    refine ⟨?_, ?_⟩
    · intro S L M ls H locs h hl hP hD hS
      simp only [f_Input_quoteLength] at h
      refine lv_iload_n hx hb d_Input_quoteLength_0 rfl (lv_at hl 1 rfl) ?_
      refine lv_if_eq (tgt := 11) hx hb d_Input_quoteLength_1 (by decide) (fun hc1 => ?_) (fun hc1 => ?_)
      · rw [if_pos hc1] at h
        refine lv_aload_n hx hb d_Input_quoteLength_11 rfl (lv_at hl 0 rfl) ?_
        refine S_getI (h := shC) (C := "MacroMill$Input") (T := F_Input) hx hb htt in_Input hown hK hP 5 7 rfl rfl rfl (by decide) (htt _ k_537) (fun _ h9 => h9) d_Input_quoteLength_12 ?_
        exact (ih.2) S (upd L 100 (S.1 5 7)) M ls H locs h (lv_sub hl [0, 1] rfl) hP hD hS
      · rw [if_neg hc1] at h
        refine lv_aload_n hx hb d_Input_quoteLength_4 rfl (lv_at hl 0 rfl) ?_
        refine S_getI (h := shC) (C := "MacroMill$Input") (T := F_Input) hx hb htt in_Input hown hK hP 5 8 rfl rfl rfl (by decide) (htt _ k_538) (fun _ h9 => h9) d_Input_quoteLength_5 ?_
        refine lv_goto (tgt := 15) hx hb d_Input_quoteLength_8 (by decide) ?_
        exact (ih.2) S (upd L 100 (S.1 5 8)) M ls H locs h (lv_sub hl [0, 1] rfl) hP hD hS
    · intro S L M ls H locs h hl hP hD hS
      simp only [f_Input_quoteLength] at h
      cases h
      exact kx_15 ls H locs hP hD hS
abbrev rm_t_Input_quoteLength : Room := { frames := 0, cells := 0, slots := 0, locals := 0 }
theorem t_Input_quoteLength (l : Launch) (g : gG) (sz : Nat) (ad : Nat → Nat) (S : sS) (v1 : Int32) (k : Nat) (r : Int32) (S9 : sS) (h : f_Input_quoteLength k 0 S (upd (fun _ => 0) 1 v1) (fun _ => 0) = some (r, S9)) : Ci l y_Input_quoteLength b_Input_quoteLength 2 rm_t_Input_quoteLength g [.ref (ad 5), .int v1] (Sw shC g ad S) sz (fun r1 w => ∃ S1 : sS, w = Sw shC g ad S1 ∧ r1 = r ∧ S1 = S9) := by
  refine startI (by decide) (Nat.le_of_ble_eq_true rfl) ?_
  intro p e s m below meth c A ls hx hb hr hml hlocks hmn hown htt hN hA hP hK hD hS hl
  exact (w_Input_quoteLength hx hb hml hown htt hK hN hA r S9 (fun ls H locs hP hD hS => fin_i (g := g) (ws := Sw shC g ad S9) hx hb hr hlocks (by decide +kernel) (by decide +kernel) hP hD hS ⟨_, rfl, rfl, rfl⟩ d_Input_quoteLength_15) k).1 S (upd (fun _ => 0) 1 v1) (fun _ => 0) ls _ _ h hl hP hD hS
def f_Input_quoteByte : Nat → Nat → sS → (Nat → Int32) → (Nat → Int64) → Option (Int32 × sS)
  | 0, _, _, _, _ => none
  | k + 1, 0, S, L, M => if (L 1) = (0 : Int32) then (f_Input_quoteByte k 1 S (upd L 101 (L 2)) M) else (f_Input_quoteByte k 1 S (upd L 101 ((4 : Int32) + (L 2))) M)
  | k + 1, 1, S, L, M => if okI (L 101) 8 = true then (some (S.2.1 17 (L 101 : Int32).toNatClampNeg, S)) else none
  | _ + 1, _ + 2, _, _, _ => none
set_option maxHeartbeats 8000000 in
set_option maxRecDepth 100000 in
theorem w_Input_quoteByte {p : Program} {l : Launch} {e : Env} {R : Room} {s : State} {m : MethodId} {args : Array Value} {below : List Frame} {meth : Method} {c : Code} {cells slots : Nat} {Q : State → Prop} {g : gG} {A : Nat → Prop} {ad : Nat → Nat} (hx : p.tables.exec = Jvm.exec) (hb : c.code = b_Input_quoteByte) (hml : c.maxLocals = 3) (hown : s.vm.findClass "MacroMill$Input" = some m.cls) (htt : ∀ w ∈ gt, w.before args s = true) (hK : va_K g.1 classes (tysG g) s) (hN : nw s) (hA : ∀ q : Nat, s.heap.size ≤ q → A q) (r : Int32) (S9 : sS)
    (kx_16 : ∀ (ls : Array Slot) (H : Heap) (locs : List Loc), va_P g.1 classes (Sw shC g ad S9) H → va_D A (Sw shC g ad S9) → va_S A s.heap H locs → W p l e R s m args below meth c H locs cells slots Q (F0 m 16 ls [.int r])) :
    ∀ k9 : Nat, (∀ (S : sS) (L : Nat → Int32) (M : Nat → Int64) (ls : Array Slot) (H : Heap) (locs : List Loc), f_Input_quoteByte k9 0 S L M = some (r, S9) → lv_has ls 3 [(0, .ref (ad 5)), (1, .int (L 1)), (2, .int (L 2))] → va_P g.1 classes (Sw shC g ad S) H → va_D A (Sw shC g ad S) → va_S A s.heap H locs → W p l e R s m args below meth c H locs cells slots Q (F0 m 0 ls [])) ∧ (∀ (S : sS) (L : Nat → Int32) (M : Nat → Int64) (ls : Array Slot) (H : Heap) (locs : List Loc), f_Input_quoteByte k9 1 S L M = some (r, S9) → lv_has ls 3 [(0, .ref (ad 5)), (1, .int (L 1)), (2, .int (L 2))] → va_P g.1 classes (Sw shC g ad S) H → va_D A (Sw shC g ad S) → va_S A s.heap H locs → W p l e R s m args below meth c H locs cells slots Q (F0 m 15 ls [.int (L 101), .ref (ad 30)])) := by
  intro k9
  induction k9 with
  | zero => exact ⟨(fun _ _ _ _ _ _ h => by simp [f_Input_quoteByte] at h), (fun _ _ _ _ _ _ h => by simp [f_Input_quoteByte] at h)⟩
  | succ k9 ih =>
    refine ⟨?_, ?_⟩
    · intro S L M ls H locs h hl hP hD hS
      simp only [f_Input_quoteByte] at h
      refine lv_aload_n hx hb d_Input_quoteByte_0 rfl (lv_at hl 0 rfl) ?_
      refine S_getR (h := shC) (C := "MacroMill$Input") (T := F_Input) hx hb htt in_Input hown hK hP 5 6 rfl 30 rfl rfl (by decide) (htt _ k_536) (fun _ h9 => h9) d_Input_quoteByte_1 ?_
      refine lv_iload_n hx hb d_Input_quoteByte_4 rfl (lv_at hl 1 rfl) ?_
      refine lv_if_eq (tgt := 14) hx hb d_Input_quoteByte_5 (by decide) (fun hc1 => ?_) (fun hc1 => ?_)
      · rw [if_pos hc1] at h
        refine lv_iload_n hx hb d_Input_quoteByte_14 rfl (lv_at hl 2 rfl) ?_
        exact (ih.2) S (upd L 101 (L 2)) M ls H locs h (lv_sub hl [0, 1, 2] rfl) hP hD hS
      · rw [if_neg hc1] at h
        refine lv_iconst (v := 4) hx hb d_Input_quoteByte_8 (by decide) ?_
        refine lv_iload_n hx hb d_Input_quoteByte_9 rfl (lv_at hl 2 rfl) ?_
        refine lv_iadd hx hb d_Input_quoteByte_10 ?_
        refine lv_goto (tgt := 15) hx hb d_Input_quoteByte_11 (by decide) ?_
        exact (ih.2) S (upd L 101 ((4 : Int32) + (L 2))) M ls H locs h (lv_sub hl [0, 1, 2] rfl) hP hD hS
    · intro S L M ls H locs h hl hP hD hS
      simp only [f_Input_quoteByte] at h
      obtain ⟨hv1, h⟩ := chk h
      refine S_bald (h := shC) (i := L 101) hx hb hK hP 17 rfl (okI_in hv1) d_Input_quoteByte_15 ?_
      cases h
      exact kx_16 ls H locs hP hD hS
abbrev rm_t_Input_quoteByte : Room := { frames := 0, cells := 0, slots := 0, locals := 0 }
theorem t_Input_quoteByte (l : Launch) (g : gG) (sz : Nat) (ad : Nat → Nat) (S : sS) (v1 : Int32) (v2 : Int32) (k : Nat) (r : Int32) (S9 : sS) (h : f_Input_quoteByte k 0 S (upd (upd (fun _ => 0) 1 v1) 2 v2) (fun _ => 0) = some (r, S9)) : Ci l y_Input_quoteByte b_Input_quoteByte 3 rm_t_Input_quoteByte g [.ref (ad 5), .int v1, .int v2] (Sw shC g ad S) sz (fun r1 w => ∃ S1 : sS, w = Sw shC g ad S1 ∧ r1 = r ∧ S1 = S9) := by
  refine startI (by decide) (Nat.le_of_ble_eq_true rfl) ?_
  intro p e s m below meth c A ls hx hb hr hml hlocks hmn hown htt hN hA hP hK hD hS hl
  exact (w_Input_quoteByte hx hb hml hown htt hK hN hA r S9 (fun ls H locs hP hD hS => fin_i (g := g) (ws := Sw shC g ad S9) hx hb hr hlocks (by decide +kernel) (by decide +kernel) hP hD hS ⟨_, rfl, rfl, rfl⟩ d_Input_quoteByte_16) k).1 S (upd (upd (fun _ => 0) 1 v1) 2 v2) (fun _ => 0) ls _ _ h hl hP hD hS
def f_Input_isAtParenthesis : Nat → Nat → sS → (Nat → Int32) → (Nat → Int64) → Option (Int32 × sS)
  | 0, _, _, _, _ => none
  | k + 1, 0, S, L, M => if (32768 : Int32) ≤ (S.1 5 2) then (f_Input_isAtParenthesis k 1 S L M) else (if okI (S.1 5 2) 32768 = true then (if (S.2.1 16 (S.1 5 2 : Int32).toNatClampNeg) = (40 : Int32) then (f_Input_isAtParenthesis k 2 S (upd L 100 (1 : Int32)) M) else (f_Input_isAtParenthesis k 1 S L M)) else none)
  | k + 1, 1, S, L, M => f_Input_isAtParenthesis k 2 S (upd L 100 (0 : Int32)) M
  | k + 1, 2, S, L, M => if bz (L 100) = true then some (L 100, S) else none
  | _ + 1, _ + 3, _, _, _ => none
set_option maxHeartbeats 8000000 in
set_option maxRecDepth 100000 in
theorem w_Input_isAtParenthesis {p : Program} {l : Launch} {e : Env} {R : Room} {s : State} {m : MethodId} {args : Array Value} {below : List Frame} {meth : Method} {c : Code} {cells slots : Nat} {Q : State → Prop} {g : gG} {A : Nat → Prop} {ad : Nat → Nat} (hx : p.tables.exec = Jvm.exec) (hb : c.code = b_Input_isAtParenthesis) (hml : c.maxLocals = 1) (hown : s.vm.findClass "MacroMill$Input" = some m.cls) (htt : ∀ w ∈ gt, w.before args s = true) (hK : va_K g.1 classes (tysG g) s) (hN : nw s) (hA : ∀ q : Nat, s.heap.size ≤ q → A q) (r : Int32) (S9 : sS)
    (kx_28 : ∀ (ls : Array Slot) (H : Heap) (locs : List Loc), narrow .boolean (.int r) = .int r → va_P g.1 classes (Sw shC g ad S9) H → va_D A (Sw shC g ad S9) → va_S A s.heap H locs → W p l e R s m args below meth c H locs cells slots Q (F0 m 28 ls [.int r])) :
    ∀ k9 : Nat, (∀ (S : sS) (L : Nat → Int32) (M : Nat → Int64) (ls : Array Slot) (H : Heap) (locs : List Loc), f_Input_isAtParenthesis k9 0 S L M = some (r, S9) → lv_has ls 1 [(0, .ref (ad 5))] → va_P g.1 classes (Sw shC g ad S) H → va_D A (Sw shC g ad S) → va_S A s.heap H locs → W p l e R s m args below meth c H locs cells slots Q (F0 m 0 ls [])) ∧ (∀ (S : sS) (L : Nat → Int32) (M : Nat → Int64) (ls : Array Slot) (H : Heap) (locs : List Loc), f_Input_isAtParenthesis k9 1 S L M = some (r, S9) → lv_has ls 1 [(0, .ref (ad 5))] → va_P g.1 classes (Sw shC g ad S) H → va_D A (Sw shC g ad S) → va_S A s.heap H locs → W p l e R s m args below meth c H locs cells slots Q (F0 m 27 ls [])) ∧ (∀ (S : sS) (L : Nat → Int32) (M : Nat → Int64) (ls : Array Slot) (H : Heap) (locs : List Loc), f_Input_isAtParenthesis k9 2 S L M = some (r, S9) → lv_has ls 1 [(0, .ref (ad 5))] → va_P g.1 classes (Sw shC g ad S) H → va_D A (Sw shC g ad S) → va_S A s.heap H locs → W p l e R s m args below meth c H locs cells slots Q (F0 m 28 ls [.int (L 100)])) := by
  intro k9
  induction k9 with
  | zero => exact ⟨(fun _ _ _ _ _ _ h => by simp [f_Input_isAtParenthesis] at h), (fun _ _ _ _ _ _ h => by simp [f_Input_isAtParenthesis] at h), (fun _ _ _ _ _ _ h => by simp [f_Input_isAtParenthesis] at h)⟩
  | succ k9 ih =>
    refine ⟨?_, ?_, ?_⟩
    · intro S L M ls H locs h hl hP hD hS
      simp only [f_Input_isAtParenthesis] at h
      refine lv_aload_n hx hb d_Input_isAtParenthesis_0 rfl (lv_at hl 0 rfl) ?_
      refine S_getI (h := shC) (C := "MacroMill$Input") (T := F_Input) hx hb htt in_Input hown hK hP 5 2 rfl rfl rfl (by decide) (htt _ k_531) (fun _ h9 => h9) d_Input_isAtParenthesis_1 ?_
      refine lv_ldc (v := 32768) hx hb hown (htt _ k_527) d_Input_isAtParenthesis_4 ?_
      refine lv_icmp_ge (tgt := 27) hx hb d_Input_isAtParenthesis_6 (by decide) (fun hc1 => ?_) (fun hc1 => ?_)
      · rw [if_pos hc1] at h
        exact (ih.2.1) S L M ls H locs h (lv_sub hl [0] rfl) hP hD hS
      · rw [if_neg hc1] at h
        refine lv_aload_n hx hb d_Input_isAtParenthesis_9 rfl (lv_at hl 0 rfl) ?_
        refine S_getR (h := shC) (C := "MacroMill$Input") (T := F_Input) hx hb htt in_Input hown hK hP 5 0 rfl 29 rfl rfl (by decide) (htt _ k_528) (fun _ h9 => h9) d_Input_isAtParenthesis_10 ?_
        refine lv_aload_n hx hb d_Input_isAtParenthesis_13 rfl (lv_at hl 0 rfl) ?_
        refine S_getI (h := shC) (C := "MacroMill$Input") (T := F_Input) hx hb htt in_Input hown hK hP 5 2 rfl rfl rfl (by decide) (htt _ k_531) (fun _ h9 => h9) d_Input_isAtParenthesis_14 ?_
        obtain ⟨hv2, h⟩ := chk h
        refine S_bald (h := shC) (i := S.1 5 2) hx hb hK hP 16 rfl (okI_in hv2) d_Input_isAtParenthesis_17 ?_
        refine lv_bipush (v := 40) hx hb d_Input_isAtParenthesis_18 (by decide) ?_
        refine lv_icmp_ne (tgt := 27) hx hb d_Input_isAtParenthesis_20 (by decide) (fun hc3 => ?_) (fun hc3 => ?_)
        · rw [if_neg hc3] at h
          exact (ih.2.1) S L M ls H locs h (lv_sub hl [0] rfl) hP hD hS
        · rw [if_pos hc3] at h
          refine lv_iconst (v := 1) hx hb d_Input_isAtParenthesis_23 (by decide) ?_
          refine lv_goto (tgt := 28) hx hb d_Input_isAtParenthesis_24 (by decide) ?_
          exact (ih.2.2) S (upd L 100 (1 : Int32)) M ls H locs h (lv_sub hl [0] rfl) hP hD hS
    · intro S L M ls H locs h hl hP hD hS
      simp only [f_Input_isAtParenthesis] at h
      refine lv_iconst (v := 0) hx hb d_Input_isAtParenthesis_27 (by decide) ?_
      exact (ih.2.2) S (upd L 100 (0 : Int32)) M ls H locs h (lv_sub hl [0] rfl) hP hD hS
    · intro S L M ls H locs h hl hP hD hS
      simp only [f_Input_isAtParenthesis] at h
      obtain ⟨hv1, h⟩ := chk h
      cases h
      exact kx_28 ls H locs (bz_n hv1) hP hD hS
abbrev rm_t_Input_isAtParenthesis : Room := { frames := 0, cells := 0, slots := 0, locals := 0 }
theorem t_Input_isAtParenthesis (l : Launch) (g : gG) (sz : Nat) (ad : Nat → Nat) (S : sS) (k : Nat) (r : Int32) (S9 : sS) (h : f_Input_isAtParenthesis k 0 S (fun _ => 0) (fun _ => 0) = some (r, S9)) : Cz l y_Input_isAtParenthesis b_Input_isAtParenthesis 1 rm_t_Input_isAtParenthesis g [.ref (ad 5)] (Sw shC g ad S) sz (fun r1 w => ∃ S1 : sS, w = Sw shC g ad S1 ∧ r1 = r ∧ S1 = S9) := by
  refine startZ (by decide) (Nat.le_of_ble_eq_true rfl) ?_
  intro p e s m below meth c A ls hx hb hr hml hlocks hmn hown htt hN hA hP hK hD hS hl
  exact (w_Input_isAtParenthesis hx hb hml hown htt hK hN hA r S9 (fun ls H locs hz hP hD hS => fin_z (g := g) (ws := Sw shC g ad S9) hx hb hr hlocks hz (by decide +kernel) (by decide +kernel) hP hD hS ⟨_, rfl, rfl, rfl⟩ d_Input_isAtParenthesis_28) k).1 S (fun _ => 0) (fun _ => 0) ls _ _ h hl hP hD hS
def f_Input_take : Nat → Nat → sS → (Nat → Int32) → (Nat → Int64) → Option (Int32 × sS)
  | 0, _, _, _, _ => none
  | k + 1, 0, S, L, M => if (S.1 5 2) < (32768 : Int32) then (if (S.1 5 5) = (0 : Int32) then ((f_Outcome_fail k 0 S (upd (upd (fun _ => 0) 1 (31 : Int32)) 2 (S.1 5 4 : Int32)) (fun _ => 0)).bind (fun (r6, T6) => some ((0 : Int32), T6))) else (if (S.1 5 2) = (S.1 5 3) then (if okI (S.1 5 2) 32768 = true then (if ((putI (putI (putI S 5 5 ((S.1 5 5) - (1 : Int32))) 2 6 ((S.1 2 6) + (1 : Int32))) 5 3 ((S.1 5 3) + (1 : Int32))).2.1 16 (S.1 5 2 : Int32).toNatClampNeg) = (10 : Int32) then (f_Input_take k 1 (putI (putI (putI (putI S 5 5 ((S.1 5 5) - (1 : Int32))) 2 6 ((S.1 2 6) + (1 : Int32))) 5 3 ((S.1 5 3) + (1 : Int32))) 5 4 ((S.1 5 4) + (1 : Int32))) L M) else (f_Input_take k 1 (putI (putI (putI S 5 5 ((S.1 5 5) - (1 : Int32))) 2 6 ((S.1 2 6) + (1 : Int32))) 5 3 ((S.1 5 3) + (1 : Int32))) L M)) else none) else (f_Input_take k 1 (putI (putI S 5 5 ((S.1 5 5) - (1 : Int32))) 2 6 ((S.1 2 6) + (1 : Int32))) L M))) else (some ((0 : Int32), S))
  | k + 1, 1, S, L, M => some ((1 : Int32), (putI S 5 2 ((S.1 5 2) + (1 : Int32))))
  | _ + 1, _ + 2, _, _, _ => none
set_option maxHeartbeats 8000000 in
set_option maxRecDepth 100000 in
theorem w_Input_take {p : Program} {l : Launch} {e : Env} {R : Room} {s : State} {m : MethodId} {args : Array Value} {below : List Frame} {meth : Method} {c : Code} {cells slots : Nat} {Q : State → Prop} {g : gG} {A : Nat → Prop} {ad : Nat → Nat} (hx : p.tables.exec = Jvm.exec) (hb : c.code = b_Input_take) (hml : c.maxLocals = 1) (hown : s.vm.findClass "MacroMill$Input" = some m.cls) (htt : ∀ w ∈ gt, w.before args s = true) (hK : va_K g.1 classes (tysG g) s) (hN : nw s) (hA : ∀ q : Nat, s.heap.size ≤ q → A q) (hRf : 1 ≤ R.frames) (hRl : 22 ≤ R.locals) (hRc : cells ≤ R.cells) (hRs : slots ≤ R.slots) (r : Int32) (S9 : sS)
    (kx_10 : ∀ (ls : Array Slot) (H : Heap) (locs : List Loc), narrow .boolean (.int r) = .int r → va_P g.1 classes (Sw shC g ad S9) H → va_D A (Sw shC g ad S9) → va_S A s.heap H locs → W p l e R s m args below meth c H locs cells slots Q (F0 m 10 ls [.int r]))
    (kx_32 : ∀ (ls : Array Slot) (H : Heap) (locs : List Loc), narrow .boolean (.int r) = .int r → va_P g.1 classes (Sw shC g ad S9) H → va_D A (Sw shC g ad S9) → va_S A s.heap H locs → W p l e R s m args below meth c H locs cells slots Q (F0 m 32 ls [.int r]))
    (kx_112 : ∀ (ls : Array Slot) (H : Heap) (locs : List Loc), narrow .boolean (.int r) = .int r → va_P g.1 classes (Sw shC g ad S9) H → va_D A (Sw shC g ad S9) → va_S A s.heap H locs → W p l e R s m args below meth c H locs cells slots Q (F0 m 112 ls [.int r])) :
    ∀ k9 : Nat, (∀ (S : sS) (L : Nat → Int32) (M : Nat → Int64) (ls : Array Slot) (H : Heap) (locs : List Loc), f_Input_take k9 0 S L M = some (r, S9) → lv_has ls 1 [(0, .ref (ad 5))] → va_P g.1 classes (Sw shC g ad S) H → va_D A (Sw shC g ad S) → va_S A s.heap H locs → W p l e R s m args below meth c H locs cells slots Q (F0 m 0 ls [])) ∧ (∀ (S : sS) (L : Nat → Int32) (M : Nat → Int64) (ls : Array Slot) (H : Heap) (locs : List Loc), f_Input_take k9 1 S L M = some (r, S9) → lv_has ls 1 [(0, .ref (ad 5))] → va_P g.1 classes (Sw shC g ad S) H → va_D A (Sw shC g ad S) → va_S A s.heap H locs → W p l e R s m args below meth c H locs cells slots Q (F0 m 101 ls [])) := by
  intro k9
  induction k9 with
  | zero => exact ⟨(fun _ _ _ _ _ _ h => by simp [f_Input_take] at h), (fun _ _ _ _ _ _ h => by simp [f_Input_take] at h)⟩
  | succ k9 ih =>
    refine ⟨?_, ?_⟩
    · intro S L M ls H locs h hl hP hD hS
      simp only [f_Input_take] at h
      refine lv_aload_n hx hb d_Input_take_0 rfl (lv_at hl 0 rfl) ?_
      refine S_getI (h := shC) (C := "MacroMill$Input") (T := F_Input) hx hb htt in_Input hown hK hP 5 2 rfl rfl rfl (by decide) (htt _ k_531) (fun _ h9 => h9) d_Input_take_1 ?_
      refine lv_ldc (v := 32768) hx hb hown (htt _ k_527) d_Input_take_4 ?_
      refine lv_icmp_lt (tgt := 11) hx hb d_Input_take_6 (by decide) (fun hc1 => ?_) (fun hc1 => ?_)
      · rw [if_pos hc1] at h
        refine lv_aload_n hx hb d_Input_take_11 rfl (lv_at hl 0 rfl) ?_
        refine S_getI (h := shC) (C := "MacroMill$Input") (T := F_Input) hx hb htt in_Input hown hK hP 5 5 rfl rfl rfl (by decide) (htt _ k_535) (fun _ h9 => h9) d_Input_take_12 ?_
        refine lv_if_ne (tgt := 33) hx hb d_Input_take_15 (by decide) (fun hc2 => ?_) (fun hc2 => ?_)
        · rw [if_neg hc2] at h
          refine lv_aload_n hx hb d_Input_take_33 rfl (lv_at hl 0 rfl) ?_
          refine lv_dup hx hb d_Input_take_34 rfl ?_
          refine S_getI (h := shC) (C := "MacroMill$Input") (T := F_Input) hx hb htt in_Input hown hK hP 5 5 rfl rfl rfl (by decide) (htt _ k_535) (fun _ h9 => h9) d_Input_take_35 ?_
          refine lv_iconst (v := 1) hx hb d_Input_take_38 (by decide) ?_
          refine lv_isub hx hb d_Input_take_39 ?_
          refine S_put (h := shC) (C := "MacroMill$Input") (T := F_Input) (v := (S.1 5 5) - (1 : Int32)) hx hb htt in_Input t_Input t_Input_ok n_Input hown hK hP hD hS 5 5 rfl rfl rfl (by decide) (htt _ k_535) (fun _ h9 => h9) rfl rfl rfl d_Input_take_40 (fun H locs hP hD hS => ?_)
          show W _ _ _ _ _ _ _ _ _ _ _ _ _ _ _ (F0 _ 43 _ _)
          refine lv_aload_n hx hb d_Input_take_43 rfl (lv_at hl 0 rfl) ?_
          refine S_getR (h := shC) (C := "MacroMill$Input") (T := F_Input) hx hb htt in_Input hown hK hP 5 1 rfl 2 rfl rfl (by decide) (htt _ k_530) (fun _ h9 => h9) d_Input_take_44 ?_
          refine lv_dup hx hb d_Input_take_47 rfl ?_
          refine S_getI (h := shC) (C := "MacroMill$Outcome") (T := F_Outcome) hx hb htt in_Outcome hown hK hP 2 6 rfl rfl rfl (by decide) (htt _ k_352) (fun _ h9 => h9) d_Input_take_48 ?_
          refine toI (y := S.1 2 6) rfl ?_
          refine lv_iconst (v := 1) hx hb d_Input_take_51 (by decide) ?_
          refine lv_iadd hx hb d_Input_take_52 ?_
          refine S_put (h := shC) (C := "MacroMill$Outcome") (T := F_Outcome) (v := (S.1 2 6) + (1 : Int32)) hx hb htt in_Outcome t_Outcome t_Outcome_ok n_Outcome hown hK hP hD hS 2 6 rfl rfl rfl (by decide) (htt _ k_352) (fun _ h9 => h9) rfl rfl rfl d_Input_take_53 (fun H locs hP hD hS => ?_)
          refine lv_aload_n hx hb d_Input_take_56 rfl (lv_at hl 0 rfl) ?_
          refine S_getI (h := shC) (C := "MacroMill$Input") (T := F_Input) hx hb htt in_Input hown hK hP 5 2 rfl rfl rfl (by decide) (htt _ k_531) (fun _ h9 => h9) d_Input_take_57 ?_
          refine toI (y := S.1 5 2) rfl ?_
          refine lv_aload_n hx hb d_Input_take_60 rfl (lv_at hl 0 rfl) ?_
          refine S_getI (h := shC) (C := "MacroMill$Input") (T := F_Input) hx hb htt in_Input hown hK hP 5 3 rfl rfl rfl (by decide) (htt _ k_532) (fun _ h9 => h9) d_Input_take_61 ?_
          refine toI (y := S.1 5 3) rfl ?_
          refine lv_icmp_ne (tgt := 101) hx hb d_Input_take_64 (by decide) (fun hc3 => ?_) (fun hc3 => ?_)
          · rw [if_neg hc3] at h
            exact (ih.2) (putI (putI S 5 5 ((S.1 5 5) - (1 : Int32))) 2 6 ((S.1 2 6) + (1 : Int32))) L M ls H locs h (lv_sub hl [0] rfl) hP hD hS
          · rw [if_pos hc3] at h
            refine lv_aload_n hx hb d_Input_take_67 rfl (lv_at hl 0 rfl) ?_
            show W _ _ _ _ _ _ _ _ _ _ _ _ _ _ _ (F0 _ 68 _ _)
            refine lv_dup hx hb d_Input_take_68 rfl ?_
            refine S_getI (h := shC) (C := "MacroMill$Input") (T := F_Input) hx hb htt in_Input hown hK hP 5 3 rfl rfl rfl (by decide) (htt _ k_532) (fun _ h9 => h9) d_Input_take_69 ?_
            refine toI (y := S.1 5 3) rfl ?_
            refine lv_iconst (v := 1) hx hb d_Input_take_72 (by decide) ?_
            refine lv_iadd hx hb d_Input_take_73 ?_
            refine S_put (h := shC) (C := "MacroMill$Input") (T := F_Input) (v := (S.1 5 3) + (1 : Int32)) hx hb htt in_Input t_Input t_Input_ok n_Input hown hK hP hD hS 5 3 rfl rfl rfl (by decide) (htt _ k_532) (fun _ h9 => h9) rfl rfl rfl d_Input_take_74 (fun H locs hP hD hS => ?_)
            refine lv_aload_n hx hb d_Input_take_77 rfl (lv_at hl 0 rfl) ?_
            refine S_getR (h := shC) (C := "MacroMill$Input") (T := F_Input) hx hb htt in_Input hown hK hP 5 0 rfl 29 rfl rfl (by decide) (htt _ k_528) (fun _ h9 => h9) d_Input_take_78 ?_
            refine lv_aload_n hx hb d_Input_take_81 rfl (lv_at hl 0 rfl) ?_
            refine S_getI (h := shC) (C := "MacroMill$Input") (T := F_Input) hx hb htt in_Input hown hK hP 5 2 rfl rfl rfl (by decide) (htt _ k_531) (fun _ h9 => h9) d_Input_take_82 ?_
            refine toI (y := S.1 5 2) rfl ?_
            obtain ⟨hv4, h⟩ := chk h
            refine S_bald (h := shC) (i := S.1 5 2) hx hb hK hP 16 rfl (okI_in hv4) d_Input_take_85 ?_
            refine lv_bipush (v := 10) hx hb d_Input_take_86 (by decide) ?_
            refine lv_icmp_ne (tgt := 101) hx hb d_Input_take_88 (by decide) (fun hc5 => ?_) (fun hc5 => ?_)
            · rw [if_neg hc5] at h
              exact (ih.2) (putI (putI (putI S 5 5 ((S.1 5 5) - (1 : Int32))) 2 6 ((S.1 2 6) + (1 : Int32))) 5 3 ((S.1 5 3) + (1 : Int32))) L M ls H locs h (lv_sub hl [0] rfl) hP hD hS
            · rw [if_pos hc5] at h
              refine lv_aload_n hx hb d_Input_take_91 rfl (lv_at hl 0 rfl) ?_
              show W _ _ _ _ _ _ _ _ _ _ _ _ _ _ _ (F0 _ 92 _ _)
              refine lv_dup hx hb d_Input_take_92 rfl ?_
              refine S_getI (h := shC) (C := "MacroMill$Input") (T := F_Input) hx hb htt in_Input hown hK hP 5 4 rfl rfl rfl (by decide) (htt _ k_533) (fun _ h9 => h9) d_Input_take_93 ?_
              refine toI (y := S.1 5 4) rfl ?_
              refine lv_iconst (v := 1) hx hb d_Input_take_96 (by decide) ?_
              refine lv_iadd hx hb d_Input_take_97 ?_
              refine S_put (h := shC) (C := "MacroMill$Input") (T := F_Input) (v := (S.1 5 4) + (1 : Int32)) hx hb htt in_Input t_Input t_Input_ok n_Input hown hK hP hD hS 5 4 rfl rfl rfl (by decide) (htt _ k_533) (fun _ h9 => h9) rfl rfl rfl d_Input_take_98 (fun H locs hP hD hS => ?_)
              exact (ih.2) (putI (putI (putI (putI S 5 5 ((S.1 5 5) - (1 : Int32))) 2 6 ((S.1 2 6) + (1 : Int32))) 5 3 ((S.1 5 3) + (1 : Int32))) 5 4 ((S.1 5 4) + (1 : Int32))) L M ls H locs h (lv_sub hl [0] rfl) hP hD hS
        · rw [if_pos hc2] at h
          refine lv_aload_n hx hb d_Input_take_18 rfl (lv_at hl 0 rfl) ?_
          refine S_getR (h := shC) (C := "MacroMill$Input") (T := F_Input) hx hb htt in_Input hown hK hP 5 1 rfl 2 rfl rfl (by decide) (htt _ k_530) (fun _ h9 => h9) d_Input_take_19 ?_
          refine lv_bipush (v := 31) hx hb d_Input_take_22 (by decide) ?_
          refine lv_aload_n hx hb d_Input_take_24 rfl (lv_at hl 0 rfl) ?_
          refine S_getI (h := shC) (C := "MacroMill$Input") (T := F_Input) hx hb htt in_Input hown hK hP 5 4 rfl rfl rfl (by decide) (htt _ k_533) (fun _ h9 => h9) d_Input_take_25 ?_
          obtain ⟨⟨r6, T6⟩, hq6, h⟩ := Option.bind_eq_some_iff.mp h
          try dsimp only at h
          refine go_vS (As := [.ref (ad 2), .int 31, .int (S.1 5 4)]) (g := g) (A := A) (h := shC) hP hK hD hS hA hN (fun hp => va_runV (As := [.int 31, .int (S.1 5 4)]) (rest := []) ⟨hx, hb, hml, hown, htt⟩ (t_Outcome_fail l g _ ad S (31 : Int32) (S.1 5 4 : Int32) k9 r6 T6 hq6) ⟨(cb_L htt k_1163 k_264 k_1160 hd_Outcome_fail ⟨(Nat.le_trans (by decide +kernel) hRf), (Nat.le_trans (by decide +kernel) hRl)⟩), htt _ k_1161, htt _ k_1162⟩ ⟨hp.1, S_recv hK hP 2 rfl rfl, hp.2⟩ rfl rfl hl.1 rfl (lv_room (Nat.le_of_ble_eq_true rfl)) d_Input_take_28 ⟨hRc, hRs⟩) (fun Sn H locs hw9 hP hD hS => ?_)
          have e8 := hw9
          rw [e8] at hP hD
          refine W.widen (k := cells) (n := slots) (Nat.le_refl _) (Nat.le_refl _) ?_
          refine lv_iconst (v := 0) hx hb d_Input_take_31 (by decide) ?_
          cases h
          exact kx_32 ls H locs rfl hP hD hS
      · rw [if_neg hc1] at h
        refine lv_iconst (v := 0) hx hb d_Input_take_9 (by decide) ?_
        cases h
        exact kx_10 ls H locs rfl hP hD hS
    · intro S L M ls H locs h hl hP hD hS
      simp only [f_Input_take] at h
      refine lv_aload_n hx hb d_Input_take_101 rfl (lv_at hl 0 rfl) ?_
      refine lv_dup hx hb d_Input_take_102 rfl ?_
      refine S_getI (h := shC) (C := "MacroMill$Input") (T := F_Input) hx hb htt in_Input hown hK hP 5 2 rfl rfl rfl (by decide) (htt _ k_531) (fun _ h9 => h9) d_Input_take_103 ?_
      refine lv_iconst (v := 1) hx hb d_Input_take_106 (by decide) ?_
      refine lv_iadd hx hb d_Input_take_107 ?_
      refine S_put (h := shC) (C := "MacroMill$Input") (T := F_Input) (v := (S.1 5 2) + (1 : Int32)) hx hb htt in_Input t_Input t_Input_ok n_Input hown hK hP hD hS 5 2 rfl rfl rfl (by decide) (htt _ k_531) (fun _ h9 => h9) rfl rfl rfl d_Input_take_108 (fun H locs hP hD hS => ?_)
      refine lv_iconst (v := 1) hx hb d_Input_take_111 (by decide) ?_
      cases h
      exact kx_112 ls H locs rfl hP hD hS
abbrev rm_t_Input_take : Room := { frames := 1, cells := 0, slots := 0, locals := 22 }
theorem t_Input_take (l : Launch) (g : gG) (sz : Nat) (ad : Nat → Nat) (S : sS) (k : Nat) (r : Int32) (S9 : sS) (h : f_Input_take k 0 S (fun _ => 0) (fun _ => 0) = some (r, S9)) : Cz l y_Input_take b_Input_take 1 rm_t_Input_take g [.ref (ad 5)] (Sw shC g ad S) sz (fun r1 w => ∃ S1 : sS, w = Sw shC g ad S1 ∧ r1 = r ∧ S1 = S9) := by
  refine startZ (by decide) (Nat.le_of_ble_eq_true rfl) ?_
  intro p e s m below meth c A ls hx hb hr hml hlocks hmn hown htt hN hA hP hK hD hS hl
  exact (w_Input_take hx hb hml hown htt hK hN hA (by decide +kernel) (by decide +kernel) (by decide +kernel) (by decide +kernel) r S9 (fun ls H locs hz hP hD hS => fin_z (g := g) (ws := Sw shC g ad S9) hx hb hr hlocks hz (by decide +kernel) (by decide +kernel) hP hD hS ⟨_, rfl, rfl, rfl⟩ d_Input_take_10) (fun ls H locs hz hP hD hS => fin_z (g := g) (ws := Sw shC g ad S9) hx hb hr hlocks hz (by decide +kernel) (by decide +kernel) hP hD hS ⟨_, rfl, rfl, rfl⟩ d_Input_take_32) (fun ls H locs hz hP hD hS => fin_z (g := g) (ws := Sw shC g ad S9) hx hb hr hlocks hz (by decide +kernel) (by decide +kernel) hP hD hS ⟨_, rfl, rfl, rfl⟩ d_Input_take_112) k).1 S (fun _ => 0) (fun _ => 0) ls _ _ h hl hP hD hS
def f_Input_takeLine : Nat → Nat → sS → (Nat → Int32) → (Nat → Int64) → Option (Int32 × sS)
  | 0, _, _, _, _ => none
  | k + 1, 0, S, L, M => f_Input_takeLine k 1 S (upd (upd L 1 (0 : Int32)) 2 (0 : Int32)) M
  | k + 1, 1, S, L, M => if (32768 : Int32) ≤ (L 2) then (f_Input_takeLine k 3 S L M) else (if (32768 : Int32) ≤ (S.1 5 2) then (f_Input_takeLine k 3 S L M) else (if (L 1) = (0 : Int32) then (if okI (S.1 5 2) 32768 = true then (if (S.2.1 16 (S.1 5 2 : Int32).toNatClampNeg) = (10 : Int32) then (f_Input_takeLine k 2 S (upd L 100 (1 : Int32)) M) else (f_Input_takeLine k 2 S (upd L 100 (0 : Int32)) M)) else none) else (f_Input_takeLine k 3 S L M)))
  | k + 1, 2, S, L, M => (f_Input_take k 0 S (fun _ => 0) (fun _ => 0)).bind (fun (r1, T1) => if r1 = (0 : Int32) then (some ((0 : Int32), T1)) else (f_Input_takeLine k 1 T1 (upd (upd L 1 (L 100)) 2 ((L 2) + 1)) M))
  | k + 1, 3, S, L, M => some ((0 : Int32), S)
  | _ + 1, _ + 4, _, _, _ => none
set_option maxHeartbeats 8000000 in
set_option maxRecDepth 100000 in
theorem w_Input_takeLine {p : Program} {l : Launch} {e : Env} {R : Room} {s : State} {m : MethodId} {args : Array Value} {below : List Frame} {meth : Method} {c : Code} {cells slots : Nat} {Q : State → Prop} {g : gG} {A : Nat → Prop} {ad : Nat → Nat} (hx : p.tables.exec = Jvm.exec) (hb : c.code = b_Input_takeLine) (hml : c.maxLocals = 3) (hown : s.vm.findClass "MacroMill$Input" = some m.cls) (htt : ∀ w ∈ gt, w.before args s = true) (hK : va_K g.1 classes (tysG g) s) (hN : nw s) (hA : ∀ q : Nat, s.heap.size ≤ q → A q) (hRf : 2 ≤ R.frames) (hRl : 42 ≤ R.locals) (hRc : cells ≤ R.cells) (hRs : slots ≤ R.slots) (r : Int32) (S9 : sS)
    (kx_50 : ∀ (ls : Array Slot) (H : Heap) (locs : List Loc), va_P g.1 classes (Sw shC g ad S9) H → va_D A (Sw shC g ad S9) → va_S A s.heap H locs → W p l e R s m args below meth c H locs cells slots Q (F0 m 50 ls []))
    (kx_57 : ∀ (ls : Array Slot) (H : Heap) (locs : List Loc), va_P g.1 classes (Sw shC g ad S9) H → va_D A (Sw shC g ad S9) → va_S A s.heap H locs → W p l e R s m args below meth c H locs cells slots Q (F0 m 57 ls [])) :
    ∀ k9 : Nat, (∀ (S : sS) (L : Nat → Int32) (M : Nat → Int64) (ls : Array Slot) (H : Heap) (locs : List Loc), f_Input_takeLine k9 0 S L M = some (r, S9) → lv_has ls 3 [(0, .ref (ad 5))] → va_P g.1 classes (Sw shC g ad S) H → va_D A (Sw shC g ad S) → va_S A s.heap H locs → W p l e R s m args below meth c H locs cells slots Q (F0 m 0 ls [])) ∧ (∀ (S : sS) (L : Nat → Int32) (M : Nat → Int64) (ls : Array Slot) (H : Heap) (locs : List Loc), f_Input_takeLine k9 1 S L M = some (r, S9) → lv_has ls 3 [(0, .ref (ad 5)), (1, .int (L 1)), (2, .int (L 2))] → va_P g.1 classes (Sw shC g ad S) H → va_D A (Sw shC g ad S) → va_S A s.heap H locs → W p l e R s m args below meth c H locs cells slots Q (F0 m 4 ls [])) ∧ (∀ (S : sS) (L : Nat → Int32) (M : Nat → Int64) (ls : Array Slot) (H : Heap) (locs : List Loc), f_Input_takeLine k9 2 S L M = some (r, S9) → lv_has ls 3 [(0, .ref (ad 5)), (1, .int (L 1)), (2, .int (L 2))] → va_P g.1 classes (Sw shC g ad S) H → va_D A (Sw shC g ad S) → va_S A s.heap H locs → W p l e R s m args below meth c H locs cells slots Q (F0 m 42 ls [.int (L 100)])) ∧ (∀ (S : sS) (L : Nat → Int32) (M : Nat → Int64) (ls : Array Slot) (H : Heap) (locs : List Loc), f_Input_takeLine k9 3 S L M = some (r, S9) → lv_has ls 3 [(0, .ref (ad 5)), (1, .int (L 1)), (2, .int (L 2))] → va_P g.1 classes (Sw shC g ad S) H → va_D A (Sw shC g ad S) → va_S A s.heap H locs → W p l e R s m args below meth c H locs cells slots Q (F0 m 57 ls [])) := by
  intro k9
  induction k9 with
  | zero => exact ⟨(fun _ _ _ _ _ _ h => by simp [f_Input_takeLine] at h), (fun _ _ _ _ _ _ h => by simp [f_Input_takeLine] at h), (fun _ _ _ _ _ _ h => by simp [f_Input_takeLine] at h), (fun _ _ _ _ _ _ h => by simp [f_Input_takeLine] at h)⟩
  | succ k9 ih =>
    refine ⟨?_, ?_, ?_, ?_⟩
    · intro S L M ls H locs h hl hP hD hS
      simp only [f_Input_takeLine] at h
      refine lv_iconst (v := 0) hx hb d_Input_takeLine_0 (by decide) ?_
      refine lv_istore_n (lv' := [(1, .int 0), (0, .ref (ad 5))]) hx hb d_Input_takeLine_1 rfl hl (by decide) rfl (fun ls hl => ?_)
      refine lv_iconst (v := 0) hx hb d_Input_takeLine_2 (by decide) ?_
      refine lv_istore_n (lv' := [(2, .int 0), (1, .int 0), (0, .ref (ad 5))]) hx hb d_Input_takeLine_3 rfl hl (by decide) rfl (fun ls hl => ?_)
      exact (ih.2.1) S (upd (upd L 1 (0 : Int32)) 2 (0 : Int32)) M ls H locs h (lv_sub hl [2, 1, 0] rfl) hP hD hS
    · intro S L M ls H locs h hl hP hD hS
      simp only [f_Input_takeLine] at h
      refine lv_iload_n hx hb d_Input_takeLine_4 rfl (lv_at hl 2 rfl) ?_
      refine lv_ldc (v := 32768) hx hb hown (htt _ k_527) d_Input_takeLine_5 ?_
      refine lv_icmp_ge (tgt := 57) hx hb d_Input_takeLine_7 (by decide) (fun hc1 => ?_) (fun hc1 => ?_)
      · rw [if_pos hc1] at h
        exact (ih.2.2.2) S L M ls H locs h (lv_sub hl [0, 1, 2] rfl) hP hD hS
      · rw [if_neg hc1] at h
        refine lv_aload_n hx hb d_Input_takeLine_10 rfl (lv_at hl 0 rfl) ?_
        refine S_getI (h := shC) (C := "MacroMill$Input") (T := F_Input) hx hb htt in_Input hown hK hP 5 2 rfl rfl rfl (by decide) (htt _ k_531) (fun _ h9 => h9) d_Input_takeLine_11 ?_
        refine lv_ldc (v := 32768) hx hb hown (htt _ k_527) d_Input_takeLine_14 ?_
        refine lv_icmp_ge (tgt := 57) hx hb d_Input_takeLine_16 (by decide) (fun hc2 => ?_) (fun hc2 => ?_)
        · rw [if_pos hc2] at h
          exact (ih.2.2.2) S L M ls H locs h (lv_sub hl [0, 1, 2] rfl) hP hD hS
        · rw [if_neg hc2] at h
          refine lv_iload_n hx hb d_Input_takeLine_19 rfl (lv_at hl 1 rfl) ?_
          refine lv_if_ne (tgt := 57) hx hb d_Input_takeLine_20 (by decide) (fun hc3 => ?_) (fun hc3 => ?_)
          · rw [if_neg hc3] at h
            exact (ih.2.2.2) S L M ls H locs h (lv_sub hl [0, 1, 2] rfl) hP hD hS
          · rw [if_pos hc3] at h
            refine lv_aload_n hx hb d_Input_takeLine_23 rfl (lv_at hl 0 rfl) ?_
            refine S_getR (h := shC) (C := "MacroMill$Input") (T := F_Input) hx hb htt in_Input hown hK hP 5 0 rfl 29 rfl rfl (by decide) (htt _ k_528) (fun _ h9 => h9) d_Input_takeLine_24 ?_
            refine lv_aload_n hx hb d_Input_takeLine_27 rfl (lv_at hl 0 rfl) ?_
            refine S_getI (h := shC) (C := "MacroMill$Input") (T := F_Input) hx hb htt in_Input hown hK hP 5 2 rfl rfl rfl (by decide) (htt _ k_531) (fun _ h9 => h9) d_Input_takeLine_28 ?_
            obtain ⟨hv4, h⟩ := chk h
            refine S_bald (h := shC) (i := S.1 5 2) hx hb hK hP 16 rfl (okI_in hv4) d_Input_takeLine_31 ?_
            show W _ _ _ _ _ _ _ _ _ _ _ _ _ _ _ (F0 _ 32 _ _)
            refine lv_bipush (v := 10) hx hb d_Input_takeLine_32 (by decide) ?_
            refine lv_icmp_ne (tgt := 41) hx hb d_Input_takeLine_34 (by decide) (fun hc5 => ?_) (fun hc5 => ?_)
            · rw [if_neg hc5] at h
              refine lv_iconst (v := 0) hx hb d_Input_takeLine_41 (by decide) ?_
              exact (ih.2.2.1) S (upd L 100 (0 : Int32)) M ls H locs h (lv_sub hl [0, 1, 2] rfl) hP hD hS
            · rw [if_pos hc5] at h
              refine lv_iconst (v := 1) hx hb d_Input_takeLine_37 (by decide) ?_
              refine lv_goto (tgt := 42) hx hb d_Input_takeLine_38 (by decide) ?_
              exact (ih.2.2.1) S (upd L 100 (1 : Int32)) M ls H locs h (lv_sub hl [0, 1, 2] rfl) hP hD hS
    · intro S L M ls H locs h hl hP hD hS
      simp only [f_Input_takeLine] at h
      refine lv_istore_n (lv' := [(1, .int (L 100)), (0, .ref (ad 5)), (2, .int (L 2))]) hx hb d_Input_takeLine_42 rfl hl (by decide) rfl (fun ls hl => ?_)
      refine lv_aload_n hx hb d_Input_takeLine_43 rfl (lv_at hl 1 rfl) ?_
      obtain ⟨⟨r1, T1⟩, hq1, h⟩ := Option.bind_eq_some_iff.mp h
      try dsimp only at h
      refine go_iS (As := [.ref (ad 5)]) (g := g) (A := A) (h := shC) hP hK hD hS hA hN (fun hp => va_runV (As := []) (rest := []) ⟨hx, hb, hml, hown, htt⟩ (t_Input_take l g _ ad S k9 r1 T1 hq1) ⟨(cb_L htt k_1159 k_269 k_1156 hd_Input_take ⟨(Nat.le_trans (by decide +kernel) hRf), (Nat.le_trans (by decide +kernel) hRl)⟩), htt _ k_1157, htt _ k_1158⟩ ⟨hp.1, S_recv hK hP 5 rfl rfl, hp.2⟩ rfl rfl hl.1 rfl (lv_room (Nat.le_of_ble_eq_true rfl)) d_Input_takeLine_44 ⟨hRc, hRs⟩) (fun r0 Sn H locs hw9 hP hD hS => ?_)
      obtain ⟨e9, e8⟩ := hw9
      rw [e8] at hP hD
      refine W.widen (k := cells) (n := slots) (Nat.le_refl _) (Nat.le_refl _) ?_
      refine toI (y := r1) e9 ?_
      refine lv_if_ne (tgt := 51) hx hb d_Input_takeLine_47 (by decide) (fun hc2 => ?_) (fun hc2 => ?_)
      · rw [if_neg hc2] at h
        refine lv_iinc (k := 2) (v := (L 2) + 1) (lv' := [(2, .int ((L 2) + 1)), (1, .int (L 100)), (0, .ref (ad 5))]) hx hb d_Input_takeLine_51 hl rfl rfl (by decide) rfl (fun ls hl => ?_)
        refine lv_goto (tgt := 4) hx hb d_Input_takeLine_54 (by decide) ?_
        exact (ih.2.1) T1 (upd (upd L 1 (L 100)) 2 ((L 2) + 1)) M ls H locs h (lv_sub hl [2, 1, 0] rfl) hP hD hS
      · rw [if_pos hc2] at h
        cases h
        exact kx_50 ls H locs hP hD hS
    · intro S L M ls H locs h hl hP hD hS
      simp only [f_Input_takeLine] at h
      cases h
      exact kx_57 ls H locs hP hD hS
abbrev rm_t_Input_takeLine : Room := { frames := 2, cells := 0, slots := 0, locals := 42 }
theorem t_Input_takeLine (l : Launch) (g : gG) (sz : Nat) (ad : Nat → Nat) (S : sS) (k : Nat) (r : Int32) (S9 : sS) (h : f_Input_takeLine k 0 S (fun _ => 0) (fun _ => 0) = some (r, S9)) : Cv l y_Input_takeLine b_Input_takeLine 3 rm_t_Input_takeLine g [.ref (ad 5)] (Sw shC g ad S) sz (fun w => ∃ S1 : sS, w = Sw shC g ad S1 ∧ S1 = S9) := by
  refine startV (by decide) (Nat.le_of_ble_eq_true rfl) ?_
  intro p e s m below meth c A ls hx hb hr hml hlocks hmn hown htt hN hA hP hK hD hS hl
  exact (w_Input_takeLine hx hb hml hown htt hK hN hA (by decide +kernel) (by decide +kernel) (by decide +kernel) (by decide +kernel) r S9 (fun ls H locs hP hD hS => fin_v (g := g) (ws := Sw shC g ad S9) hx hb hr hlocks (by decide +kernel) (by decide +kernel) hP hD hS ⟨_, rfl, rfl⟩ d_Input_takeLine_50) (fun ls H locs hP hD hS => fin_v (g := g) (ws := Sw shC g ad S9) hx hb hr hlocks (by decide +kernel) (by decide +kernel) hP hD hS ⟨_, rfl, rfl⟩ d_Input_takeLine_57) k).1 S (fun _ => 0) (fun _ => 0) ls _ _ h hl hP hD hS
def f_Input_readName : Nat → Nat → sS → (Nat → Int32) → (Nat → Int64) → Option (Int32 × sS)
  | 0, _, _, _, _ => none
  | k + 1, 0, S, L, M => f_Input_readName k 1 (putI S 5 9 3) (upd L 1 (0 : Int32)) M
  | k + 1, 1, S, L, M => if (32768 : Int32) ≤ (L 1) then (f_Input_readName k 3 S L M) else (if (32768 : Int32) ≤ (S.1 5 2) then (f_Input_readName k 3 S L M) else (if okI (S.1 5 2) 32768 = true then ((f_MM_isLetter k 0 S (upd (fun _ => 0) 0 (S.2.1 16 (S.1 5 2 : Int32).toNatClampNeg : Int32)) (fun _ => 0)).bind (fun (r4, T4) => if r4 = (0 : Int32) then (if okI (T4.1 5 2) 32768 = true then ((f_MM_isDigit k 0 T4 (upd (fun _ => 0) 0 (T4.2.1 16 (T4.1 5 2 : Int32).toNatClampNeg : Int32)) (fun _ => 0)).bind (fun (r7, T7) => if r7 = (0 : Int32) then (f_Input_readName k 3 T7 L M) else (f_Input_readName k 2 T7 L M))) else none) else (f_Input_readName k 2 T4 L M))) else none))
  | k + 1, 2, S, L, M => (f_Input_take k 0 S (fun _ => 0) (fun _ => 0)).bind (fun (r1, T1) => if r1 = (0 : Int32) then (some ((0 : Int32), T1)) else (f_Input_readName k 1 T1 (upd L 1 ((L 1) + 1)) M))
  | k + 1, 3, S, L, M => some ((0 : Int32), (putI S 5 11 (S.1 5 2)))
  | _ + 1, _ + 4, _, _, _ => none
set_option maxHeartbeats 8000000 in
set_option maxRecDepth 100000 in
theorem w_Input_readName {p : Program} {l : Launch} {e : Env} {R : Room} {s : State} {m : MethodId} {args : Array Value} {below : List Frame} {meth : Method} {c : Code} {cells slots : Nat} {Q : State → Prop} {g : gG} {A : Nat → Prop} {ad : Nat → Nat} (hx : p.tables.exec = Jvm.exec) (hb : c.code = b_Input_readName) (hml : c.maxLocals = 2) (hown : s.vm.findClass "MacroMill$Input" = some m.cls) (htt : ∀ w ∈ gt, w.before args s = true) (hK : va_K g.1 classes (tysG g) s) (hN : nw s) (hA : ∀ q : Nat, s.heap.size ≤ q → A q) (hRf : 2 ≤ R.frames) (hRl : 42 ≤ R.locals) (hRc : cells ≤ R.cells) (hRs : slots ≤ R.slots) (r : Int32) (S9 : sS)
    (kx_59 : ∀ (ls : Array Slot) (H : Heap) (locs : List Loc), va_P g.1 classes (Sw shC g ad S9) H → va_D A (Sw shC g ad S9) → va_S A s.heap H locs → W p l e R s m args below meth c H locs cells slots Q (F0 m 59 ls []))
    (kx_74 : ∀ (ls : Array Slot) (H : Heap) (locs : List Loc), va_P g.1 classes (Sw shC g ad S9) H → va_D A (Sw shC g ad S9) → va_S A s.heap H locs → W p l e R s m args below meth c H locs cells slots Q (F0 m 74 ls [])) :
    ∀ k9 : Nat, (∀ (S : sS) (L : Nat → Int32) (M : Nat → Int64) (ls : Array Slot) (H : Heap) (locs : List Loc), f_Input_readName k9 0 S L M = some (r, S9) → lv_has ls 2 [(0, .ref (ad 5))] → va_P g.1 classes (Sw shC g ad S) H → va_D A (Sw shC g ad S) → va_S A s.heap H locs → W p l e R s m args below meth c H locs cells slots Q (F0 m 0 ls [])) ∧ (∀ (S : sS) (L : Nat → Int32) (M : Nat → Int64) (ls : Array Slot) (H : Heap) (locs : List Loc), f_Input_readName k9 1 S L M = some (r, S9) → lv_has ls 2 [(0, .ref (ad 5)), (1, .int (L 1))] → va_P g.1 classes (Sw shC g ad S) H → va_D A (Sw shC g ad S) → va_S A s.heap H locs → W p l e R s m args below meth c H locs cells slots Q (F0 m 7 ls [])) ∧ (∀ (S : sS) (L : Nat → Int32) (M : Nat → Int64) (ls : Array Slot) (H : Heap) (locs : List Loc), f_Input_readName k9 2 S L M = some (r, S9) → lv_has ls 2 [(0, .ref (ad 5)), (1, .int (L 1))] → va_P g.1 classes (Sw shC g ad S) H → va_D A (Sw shC g ad S) → va_S A s.heap H locs → W p l e R s m args below meth c H locs cells slots Q (F0 m 52 ls [])) ∧ (∀ (S : sS) (L : Nat → Int32) (M : Nat → Int64) (ls : Array Slot) (H : Heap) (locs : List Loc), f_Input_readName k9 3 S L M = some (r, S9) → lv_has ls 2 [(0, .ref (ad 5)), (1, .int (L 1))] → va_P g.1 classes (Sw shC g ad S) H → va_D A (Sw shC g ad S) → va_S A s.heap H locs → W p l e R s m args below meth c H locs cells slots Q (F0 m 66 ls [])) := by
  intro k9
  induction k9 with
  | zero => exact ⟨(fun _ _ _ _ _ _ h => by simp [f_Input_readName] at h), (fun _ _ _ _ _ _ h => by simp [f_Input_readName] at h), (fun _ _ _ _ _ _ h => by simp [f_Input_readName] at h), (fun _ _ _ _ _ _ h => by simp [f_Input_readName] at h)⟩
  | succ k9 ih =>
    refine ⟨?_, ?_, ?_, ?_⟩
    · intro S L M ls H locs h hl hP hD hS
      simp only [f_Input_readName] at h
      refine lv_aload_n hx hb d_Input_readName_0 rfl (lv_at hl 0 rfl) ?_
      refine lv_iconst (v := 3) hx hb d_Input_readName_1 (by decide) ?_
      refine S_put (h := shC) (C := "MacroMill$Input") (T := F_Input) (v := 3) hx hb htt in_Input t_Input t_Input_ok n_Input hown hK hP hD hS 5 9 rfl rfl rfl (by decide) (htt _ k_540) (fun _ h9 => h9) rfl rfl rfl d_Input_readName_2 (fun H locs hP hD hS => ?_)
      refine lv_iconst (v := 0) hx hb d_Input_readName_5 (by decide) ?_
      refine lv_istore_n (lv' := [(1, .int 0), (0, .ref (ad 5))]) hx hb d_Input_readName_6 rfl hl (by decide) rfl (fun ls hl => ?_)
      exact (ih.2.1) (putI S 5 9 3) (upd L 1 (0 : Int32)) M ls H locs h (lv_sub hl [1, 0] rfl) hP hD hS
    · intro S L M ls H locs h hl hP hD hS
      simp only [f_Input_readName] at h
      refine lv_iload_n hx hb d_Input_readName_7 rfl (lv_at hl 1 rfl) ?_
      refine lv_ldc (v := 32768) hx hb hown (htt _ k_527) d_Input_readName_8 ?_
      refine lv_icmp_ge (tgt := 66) hx hb d_Input_readName_10 (by decide) (fun hc1 => ?_) (fun hc1 => ?_)
      · rw [if_pos hc1] at h
        exact (ih.2.2.2) S L M ls H locs h (lv_sub hl [0, 1] rfl) hP hD hS
      · rw [if_neg hc1] at h
        refine lv_aload_n hx hb d_Input_readName_13 rfl (lv_at hl 0 rfl) ?_
        refine S_getI (h := shC) (C := "MacroMill$Input") (T := F_Input) hx hb htt in_Input hown hK hP 5 2 rfl rfl rfl (by decide) (htt _ k_531) (fun _ h9 => h9) d_Input_readName_14 ?_
        refine lv_ldc (v := 32768) hx hb hown (htt _ k_527) d_Input_readName_17 ?_
        refine lv_icmp_ge (tgt := 66) hx hb d_Input_readName_19 (by decide) (fun hc2 => ?_) (fun hc2 => ?_)
        · rw [if_pos hc2] at h
          exact (ih.2.2.2) S L M ls H locs h (lv_sub hl [0, 1] rfl) hP hD hS
        · rw [if_neg hc2] at h
          refine lv_aload_n hx hb d_Input_readName_22 rfl (lv_at hl 0 rfl) ?_
          refine S_getR (h := shC) (C := "MacroMill$Input") (T := F_Input) hx hb htt in_Input hown hK hP 5 0 rfl 29 rfl rfl (by decide) (htt _ k_528) (fun _ h9 => h9) d_Input_readName_23 ?_
          refine lv_aload_n hx hb d_Input_readName_26 rfl (lv_at hl 0 rfl) ?_
          refine S_getI (h := shC) (C := "MacroMill$Input") (T := F_Input) hx hb htt in_Input hown hK hP 5 2 rfl rfl rfl (by decide) (htt _ k_531) (fun _ h9 => h9) d_Input_readName_27 ?_
          obtain ⟨hv3, h⟩ := chk h
          refine S_bald (h := shC) (i := S.1 5 2) hx hb hK hP 16 rfl (okI_in hv3) d_Input_readName_30 ?_
          obtain ⟨⟨r4, T4⟩, hq4, h⟩ := Option.bind_eq_some_iff.mp h
          try dsimp only at h
          refine go_iS (As := [.int (S.2.1 16 (S.1 5 2 : Int32).toNatClampNeg)]) (g := g) (A := A) (h := shC) hP hK hD hS hA hN (fun hp => va_runSN (As := [.int (S.2.1 16 (S.1 5 2 : Int32).toNatClampNeg)]) (rest := []) ⟨hx, hb, hml, hown, htt⟩ (t_MM_isLetter l g _ ad S (S.2.1 16 (S.1 5 2 : Int32).toNatClampNeg : Int32) k9 r4 T4 hq4) ⟨(cb_N (host := "MacroMill") htt k_1170 k_262 hN nM_8 hd_MM_isLetter ⟨(Nat.le_trans (by decide +kernel) hRf), (Nat.le_trans (by decide +kernel) hRl)⟩), htt _ k_1169, trivial⟩ hp rfl rfl hl.1 rfl (lv_room (Nat.le_of_ble_eq_true rfl)) d_Input_readName_31 ⟨hRc, hRs⟩) (fun r0 Sn H locs hw9 hP hD hS => ?_)
          obtain ⟨e9, e8⟩ := hw9
          rw [e8] at hP hD
          refine W.widen (k := cells) (n := slots) (Nat.le_refl _) (Nat.le_refl _) ?_
          refine toI (y := r4) e9 ?_
          refine lv_if_ne (tgt := 52) hx hb d_Input_readName_34 (by decide) (fun hc5 => ?_) (fun hc5 => ?_)
          · rw [if_neg hc5] at h
            exact (ih.2.2.1) T4 L M ls H locs h (lv_sub hl [0, 1] rfl) hP hD hS
          · rw [if_pos hc5] at h
            refine lv_aload_n hx hb d_Input_readName_37 rfl (lv_at hl 0 rfl) ?_
            show W _ _ _ _ _ _ _ _ _ _ _ _ _ _ _ (F0 _ 38 _ _)
            refine S_getR (h := shC) (C := "MacroMill$Input") (T := F_Input) hx hb htt in_Input hown hK hP 5 0 rfl 29 rfl rfl (by decide) (htt _ k_528) (fun _ h9 => h9) d_Input_readName_38 ?_
            refine lv_aload_n hx hb d_Input_readName_41 rfl (lv_at hl 0 rfl) ?_
            refine S_getI (h := shC) (C := "MacroMill$Input") (T := F_Input) hx hb htt in_Input hown hK hP 5 2 rfl rfl rfl (by decide) (htt _ k_531) (fun _ h9 => h9) d_Input_readName_42 ?_
            obtain ⟨hv6, h⟩ := chk h
            refine S_bald (h := shC) (i := T4.1 5 2) hx hb hK hP 16 rfl (okI_in hv6) d_Input_readName_45 ?_
            obtain ⟨⟨r7, T7⟩, hq7, h⟩ := Option.bind_eq_some_iff.mp h
            try dsimp only at h
            refine go_iS (As := [.int (T4.2.1 16 (T4.1 5 2 : Int32).toNatClampNeg)]) (g := g) (A := A) (h := shC) hP hK hD hS hA hN (fun hp => va_runSN (As := [.int (T4.2.1 16 (T4.1 5 2 : Int32).toNatClampNeg)]) (rest := []) ⟨hx, hb, hml, hown, htt⟩ (t_MM_isDigit l g _ ad T4 (T4.2.1 16 (T4.1 5 2 : Int32).toNatClampNeg : Int32) k9 r7 T7 hq7) ⟨(cb_N (host := "MacroMill") htt k_1177 k_262 hN nM_9 hd_MM_isDigit ⟨(Nat.le_trans (by decide +kernel) hRf), (Nat.le_trans (by decide +kernel) hRl)⟩), htt _ k_1176, trivial⟩ hp rfl rfl hl.1 rfl (lv_room (Nat.le_of_ble_eq_true rfl)) d_Input_readName_46 ⟨hRc, hRs⟩) (fun r0 Sn H locs hw9 hP hD hS => ?_)
            obtain ⟨e9, e8⟩ := hw9
            rw [e8] at hP hD
            refine W.widen (k := cells) (n := slots) (Nat.le_refl _) (Nat.le_refl _) ?_
            refine toI (y := r7) e9 ?_
            refine lv_if_eq (tgt := 66) hx hb d_Input_readName_49 (by decide) (fun hc8 => ?_) (fun hc8 => ?_)
            · rw [if_pos hc8] at h
              exact (ih.2.2.2) T7 L M ls H locs h (lv_sub hl [0, 1] rfl) hP hD hS
            · rw [if_neg hc8] at h
              exact (ih.2.2.1) T7 L M ls H locs h (lv_sub hl [0, 1] rfl) hP hD hS
    · intro S L M ls H locs h hl hP hD hS
      simp only [f_Input_readName] at h
      refine lv_aload_n hx hb d_Input_readName_52 rfl (lv_at hl 0 rfl) ?_
      obtain ⟨⟨r1, T1⟩, hq1, h⟩ := Option.bind_eq_some_iff.mp h
      try dsimp only at h
      refine go_iS (As := [.ref (ad 5)]) (g := g) (A := A) (h := shC) hP hK hD hS hA hN (fun hp => va_runV (As := []) (rest := []) ⟨hx, hb, hml, hown, htt⟩ (t_Input_take l g _ ad S k9 r1 T1 hq1) ⟨(cb_L htt k_1159 k_269 k_1156 hd_Input_take ⟨(Nat.le_trans (by decide +kernel) hRf), (Nat.le_trans (by decide +kernel) hRl)⟩), htt _ k_1157, htt _ k_1158⟩ ⟨hp.1, S_recv hK hP 5 rfl rfl, hp.2⟩ rfl rfl hl.1 rfl (lv_room (Nat.le_of_ble_eq_true rfl)) d_Input_readName_53 ⟨hRc, hRs⟩) (fun r0 Sn H locs hw9 hP hD hS => ?_)
      obtain ⟨e9, e8⟩ := hw9
      rw [e8] at hP hD
      refine W.widen (k := cells) (n := slots) (Nat.le_refl _) (Nat.le_refl _) ?_
      refine toI (y := r1) e9 ?_
      refine lv_if_ne (tgt := 60) hx hb d_Input_readName_56 (by decide) (fun hc2 => ?_) (fun hc2 => ?_)
      · rw [if_neg hc2] at h
        refine lv_iinc (k := 1) (v := (L 1) + 1) (lv' := [(1, .int ((L 1) + 1)), (0, .ref (ad 5))]) hx hb d_Input_readName_60 hl rfl rfl (by decide) rfl (fun ls hl => ?_)
        refine lv_goto (tgt := 7) hx hb d_Input_readName_63 (by decide) ?_
        exact (ih.2.1) T1 (upd L 1 ((L 1) + 1)) M ls H locs h (lv_sub hl [1, 0] rfl) hP hD hS
      · rw [if_pos hc2] at h
        cases h
        exact kx_59 ls H locs hP hD hS
    · intro S L M ls H locs h hl hP hD hS
      simp only [f_Input_readName] at h
      refine lv_aload_n hx hb d_Input_readName_66 rfl (lv_at hl 0 rfl) ?_
      refine lv_aload_n hx hb d_Input_readName_67 rfl (lv_at hl 0 rfl) ?_
      refine S_getI (h := shC) (C := "MacroMill$Input") (T := F_Input) hx hb htt in_Input hown hK hP 5 2 rfl rfl rfl (by decide) (htt _ k_531) (fun _ h9 => h9) d_Input_readName_68 ?_
      refine S_put (h := shC) (C := "MacroMill$Input") (T := F_Input) (v := S.1 5 2) hx hb htt in_Input t_Input t_Input_ok n_Input hown hK hP hD hS 5 11 rfl rfl rfl (by decide) (htt _ k_544) (fun _ h9 => h9) rfl rfl rfl d_Input_readName_71 (fun H locs hP hD hS => ?_)
      cases h
      exact kx_74 ls H locs hP hD hS
abbrev rm_t_Input_readName : Room := { frames := 2, cells := 0, slots := 0, locals := 42 }
theorem t_Input_readName (l : Launch) (g : gG) (sz : Nat) (ad : Nat → Nat) (S : sS) (k : Nat) (r : Int32) (S9 : sS) (h : f_Input_readName k 0 S (fun _ => 0) (fun _ => 0) = some (r, S9)) : Cv l y_Input_readName b_Input_readName 2 rm_t_Input_readName g [.ref (ad 5)] (Sw shC g ad S) sz (fun w => ∃ S1 : sS, w = Sw shC g ad S1 ∧ S1 = S9) := by
  refine startV (by decide) (Nat.le_of_ble_eq_true rfl) ?_
  intro p e s m below meth c A ls hx hb hr hml hlocks hmn hown htt hN hA hP hK hD hS hl
  exact (w_Input_readName hx hb hml hown htt hK hN hA (by decide +kernel) (by decide +kernel) (by decide +kernel) (by decide +kernel) r S9 (fun ls H locs hP hD hS => fin_v (g := g) (ws := Sw shC g ad S9) hx hb hr hlocks (by decide +kernel) (by decide +kernel) hP hD hS ⟨_, rfl, rfl⟩ d_Input_readName_59) (fun ls H locs hP hD hS => fin_v (g := g) (ws := Sw shC g ad S9) hx hb hr hlocks (by decide +kernel) (by decide +kernel) hP hD hS ⟨_, rfl, rfl⟩ d_Input_readName_74) k).1 S (fun _ => 0) (fun _ => 0) ls _ _ h hl hP hD hS
def f_Input_isAt : Nat → Nat → sS → (Nat → Int32) → (Nat → Int64) → Option (Int32 × sS)
  | 0, _, _, _, _ => none
  | k + 1, 0, S, L, M => (f_Input_quoteLength k 0 S (upd (fun _ => 0) 1 (L 1 : Int32)) (fun _ => 0)).bind (fun (r1, T1) => if (32768 : Int32) < ((T1.1 5 2) + r1) then (f_Input_isAt k 2 T1 (upd L 2 r1) M) else (if (L 1) = (0 : Int32) then (f_Input_isAt k 1 T1 (upd (upd (upd L 2 r1) 103 (0 : Int32)) 101 (T1.1 5 2)) M) else (f_Input_isAt k 1 T1 (upd (upd (upd L 2 r1) 103 (4 : Int32)) 101 (T1.1 5 2)) M)))
  | k + 1, 1, S, L, M => (f_MM_areSame 16 32768 17 8 k 0 S (upd (upd (upd (fun _ => 0) 1 (L 101 : Int32)) 3 (L 103 : Int32)) 4 (L 2 : Int32)) (fun _ => 0)).bind (fun (r1, T1) => if r1 = (0 : Int32) then (f_Input_isAt k 2 T1 L M) else (f_Input_isAt k 3 T1 (upd L 100 (1 : Int32)) M))
  | k + 1, 2, S, L, M => f_Input_isAt k 3 S (upd L 100 (0 : Int32)) M
  | k + 1, 3, S, L, M => if bz (L 100) = true then some (L 100, S) else none
  | _ + 1, _ + 4, _, _, _ => none
set_option maxHeartbeats 8000000 in
set_option maxRecDepth 100000 in
theorem w_Input_isAt {p : Program} {l : Launch} {e : Env} {R : Room} {s : State} {m : MethodId} {args : Array Value} {below : List Frame} {meth : Method} {c : Code} {cells slots : Nat} {Q : State → Prop} {g : gG} {A : Nat → Prop} {ad : Nat → Nat} (hx : p.tables.exec = Jvm.exec) (hb : c.code = b_Input_isAt) (hml : c.maxLocals = 3) (hown : s.vm.findClass "MacroMill$Input" = some m.cls) (htt : ∀ w ∈ gt, w.before args s = true) (hK : va_K g.1 classes (tysG g) s) (hN : nw s) (hA : ∀ q : Nat, s.heap.size ≤ q → A q) (hRf : 1 ≤ R.frames) (hRl : 25 ≤ R.locals) (hRc : cells ≤ R.cells) (hRs : slots ≤ R.slots) (r : Int32) (S9 : sS)
    (kx_50 : ∀ (ls : Array Slot) (H : Heap) (locs : List Loc), narrow .boolean (.int r) = .int r → va_P g.1 classes (Sw shC g ad S9) H → va_D A (Sw shC g ad S9) → va_S A s.heap H locs → W p l e R s m args below meth c H locs cells slots Q (F0 m 50 ls [.int r])) :
    ∀ k9 : Nat, (∀ (S : sS) (L : Nat → Int32) (M : Nat → Int64) (ls : Array Slot) (H : Heap) (locs : List Loc), f_Input_isAt k9 0 S L M = some (r, S9) → lv_has ls 3 [(0, .ref (ad 5)), (1, .int (L 1))] → va_P g.1 classes (Sw shC g ad S) H → va_D A (Sw shC g ad S) → va_S A s.heap H locs → W p l e R s m args below meth c H locs cells slots Q (F0 m 0 ls [])) ∧ (∀ (S : sS) (L : Nat → Int32) (M : Nat → Int64) (ls : Array Slot) (H : Heap) (locs : List Loc), f_Input_isAt k9 1 S L M = some (r, S9) → lv_has ls 3 [(0, .ref (ad 5)), (1, .int (L 1)), (2, .int (L 2))] → va_P g.1 classes (Sw shC g ad S) H → va_D A (Sw shC g ad S) → va_S A s.heap H locs → W p l e R s m args below meth c H locs cells slots Q (F0 m 38 ls [.int (L 103), .ref (ad 30), .int (L 101), .ref (ad 29)])) ∧ (∀ (S : sS) (L : Nat → Int32) (M : Nat → Int64) (ls : Array Slot) (H : Heap) (locs : List Loc), f_Input_isAt k9 2 S L M = some (r, S9) → lv_has ls 3 [(0, .ref (ad 5)), (1, .int (L 1)), (2, .int (L 2))] → va_P g.1 classes (Sw shC g ad S) H → va_D A (Sw shC g ad S) → va_S A s.heap H locs → W p l e R s m args below meth c H locs cells slots Q (F0 m 49 ls [])) ∧ (∀ (S : sS) (L : Nat → Int32) (M : Nat → Int64) (ls : Array Slot) (H : Heap) (locs : List Loc), f_Input_isAt k9 3 S L M = some (r, S9) → lv_has ls 3 [(0, .ref (ad 5)), (1, .int (L 1)), (2, .int (L 2))] → va_P g.1 classes (Sw shC g ad S) H → va_D A (Sw shC g ad S) → va_S A s.heap H locs → W p l e R s m args below meth c H locs cells slots Q (F0 m 50 ls [.int (L 100)])) := by
  intro k9
  induction k9 with
  | zero => exact ⟨(fun _ _ _ _ _ _ h => by simp [f_Input_isAt] at h), (fun _ _ _ _ _ _ h => by simp [f_Input_isAt] at h), (fun _ _ _ _ _ _ h => by simp [f_Input_isAt] at h), (fun _ _ _ _ _ _ h => by simp [f_Input_isAt] at h)⟩
  | succ k9 ih =>
    refine ⟨?_, ?_, ?_, ?_⟩
    · intro S L M ls H locs h hl hP hD hS
      simp only [f_Input_isAt] at h
      refine lv_aload_n hx hb d_Input_isAt_0 rfl (lv_at hl 0 rfl) ?_
      refine lv_iload_n hx hb d_Input_isAt_1 rfl (lv_at hl 1 rfl) ?_
      obtain ⟨⟨r1, T1⟩, hq1, h⟩ := Option.bind_eq_some_iff.mp h
      try dsimp only at h
      refine go_iS (As := [.ref (ad 5), .int (L 1)]) (g := g) (A := A) (h := shC) hP hK hD hS hA hN (fun hp => va_runV (As := [.int (L 1)]) (rest := []) ⟨hx, hb, hml, hown, htt⟩ (t_Input_quoteLength l g _ ad S (L 1 : Int32) k9 r1 T1 hq1) ⟨(cb_L htt k_1146 k_269 k_1143 hd_Input_quoteLength ⟨(Nat.le_trans (by decide +kernel) hRf), (Nat.le_trans (by decide +kernel) hRl)⟩), htt _ k_1144, htt _ k_1145⟩ ⟨hp.1, S_recv hK hP 5 rfl rfl, hp.2⟩ rfl rfl hl.1 rfl (lv_room (Nat.le_of_ble_eq_true rfl)) d_Input_isAt_2 ⟨hRc, hRs⟩) (fun r0 Sn H locs hw9 hP hD hS => ?_)
      obtain ⟨e9, e8⟩ := hw9
      rw [e8] at hP hD
      refine W.widen (k := cells) (n := slots) (Nat.le_refl _) (Nat.le_refl _) ?_
      refine toI (y := r1) e9 ?_
      refine lv_istore_n (lv' := [(2, .int r1), (0, .ref (ad 5)), (1, .int (L 1))]) hx hb d_Input_isAt_5 rfl hl (by decide) rfl (fun ls hl => ?_)
      refine lv_aload_n hx hb d_Input_isAt_6 rfl (lv_at hl 1 rfl) ?_
      refine S_getI (h := shC) (C := "MacroMill$Input") (T := F_Input) hx hb htt in_Input hown hK hP 5 2 rfl rfl rfl (by decide) (htt _ k_531) (fun _ h9 => h9) d_Input_isAt_7 ?_
      refine lv_iload_n hx hb d_Input_isAt_10 rfl (lv_at hl 0 rfl) ?_
      refine lv_iadd hx hb d_Input_isAt_11 ?_
      refine lv_ldc (v := 32768) hx hb hown (htt _ k_527) d_Input_isAt_12 ?_
      refine lv_icmp_gt (tgt := 49) hx hb d_Input_isAt_14 (by decide) (fun hc2 => ?_) (fun hc2 => ?_)
      · rw [if_pos hc2] at h
        exact (ih.2.2.1) T1 (upd L 2 r1) M ls H locs h (lv_sub hl [1, 2, 0] rfl) hP hD hS
      · rw [if_neg hc2] at h
        refine lv_aload_n hx hb d_Input_isAt_17 rfl (lv_at hl 1 rfl) ?_
        refine S_getR (h := shC) (C := "MacroMill$Input") (T := F_Input) hx hb htt in_Input hown hK hP 5 0 rfl 29 rfl rfl (by decide) (htt _ k_528) (fun _ h9 => h9) d_Input_isAt_18 ?_
        refine lv_aload_n hx hb d_Input_isAt_21 rfl (lv_at hl 1 rfl) ?_
        show W _ _ _ _ _ _ _ _ _ _ _ _ _ _ _ (F0 _ 22 _ _)
        refine S_getI (h := shC) (C := "MacroMill$Input") (T := F_Input) hx hb htt in_Input hown hK hP 5 2 rfl rfl rfl (by decide) (htt _ k_531) (fun _ h9 => h9) d_Input_isAt_22 ?_
        refine lv_aload_n hx hb d_Input_isAt_25 rfl (lv_at hl 1 rfl) ?_
        refine S_getR (h := shC) (C := "MacroMill$Input") (T := F_Input) hx hb htt in_Input hown hK hP 5 6 rfl 30 rfl rfl (by decide) (htt _ k_536) (fun _ h9 => h9) d_Input_isAt_26 ?_
        refine lv_iload_n hx hb d_Input_isAt_29 rfl (lv_at hl 2 rfl) ?_
        refine lv_if_eq (tgt := 37) hx hb d_Input_isAt_30 (by decide) (fun hc3 => ?_) (fun hc3 => ?_)
        · rw [if_pos hc3] at h
          refine lv_iconst (v := 0) hx hb d_Input_isAt_37 (by decide) ?_
          exact (ih.2.1) T1 (upd (upd (upd L 2 r1) 103 (0 : Int32)) 101 (T1.1 5 2)) M ls H locs h (lv_sub hl [1, 2, 0] rfl) hP hD hS
        · rw [if_neg hc3] at h
          refine lv_iconst (v := 4) hx hb d_Input_isAt_33 (by decide) ?_
          refine lv_goto (tgt := 38) hx hb d_Input_isAt_34 (by decide) ?_
          exact (ih.2.1) T1 (upd (upd (upd L 2 r1) 103 (4 : Int32)) 101 (T1.1 5 2)) M ls H locs h (lv_sub hl [1, 2, 0] rfl) hP hD hS
    · intro S L M ls H locs h hl hP hD hS
      simp only [f_Input_isAt] at h
      refine lv_iload_n hx hb d_Input_isAt_38 rfl (lv_at hl 2 rfl) ?_
      obtain ⟨⟨r1, T1⟩, hq1, h⟩ := Option.bind_eq_some_iff.mp h
      try dsimp only at h
      refine go_iS (As := [.ref (ad 29), .int (L 101), .ref (ad 30), .int (L 103), .int (L 2)]) (g := g) (A := A) (h := shC) hP hK hD hS hA hN (fun hp => va_runSN (As := [.ref (ad 29), .int (L 101), .ref (ad 30), .int (L 103), .int (L 2)]) (rest := []) ⟨hx, hb, hml, hown, htt⟩ (t_MM_areSame l g _ ad S 16 32768 17 8 (L 101 : Int32) (L 103 : Int32) (L 2 : Int32) rfl rfl k9 r1 T1 hq1) ⟨(cb_N (host := "MacroMill") htt k_1012 k_262 hN nM_7 hd_MM_areSame ⟨(Nat.le_trans (by decide +kernel) hRf), (Nat.le_trans (by decide +kernel) hRl)⟩), htt _ k_1011, trivial⟩ hp rfl rfl hl.1 rfl (lv_room (Nat.le_of_ble_eq_true rfl)) d_Input_isAt_39 ⟨hRc, hRs⟩) (fun r0 Sn H locs hw9 hP hD hS => ?_)
      obtain ⟨e9, e8⟩ := hw9
      rw [e8] at hP hD
      refine W.widen (k := cells) (n := slots) (Nat.le_refl _) (Nat.le_refl _) ?_
      refine toI (y := r1) e9 ?_
      refine lv_if_eq (tgt := 49) hx hb d_Input_isAt_42 (by decide) (fun hc2 => ?_) (fun hc2 => ?_)
      · rw [if_pos hc2] at h
        exact (ih.2.2.1) T1 L M ls H locs h (lv_sub hl [0, 1, 2] rfl) hP hD hS
      · rw [if_neg hc2] at h
        refine lv_iconst (v := 1) hx hb d_Input_isAt_45 (by decide) ?_
        refine lv_goto (tgt := 50) hx hb d_Input_isAt_46 (by decide) ?_
        exact (ih.2.2.2) T1 (upd L 100 (1 : Int32)) M ls H locs h (lv_sub hl [0, 1, 2] rfl) hP hD hS
    · intro S L M ls H locs h hl hP hD hS
      simp only [f_Input_isAt] at h
      refine lv_iconst (v := 0) hx hb d_Input_isAt_49 (by decide) ?_
      exact (ih.2.2.2) S (upd L 100 (0 : Int32)) M ls H locs h (lv_sub hl [0, 1, 2] rfl) hP hD hS
    · intro S L M ls H locs h hl hP hD hS
      simp only [f_Input_isAt] at h
      obtain ⟨hv1, h⟩ := chk h
      cases h
      exact kx_50 ls H locs (bz_n hv1) hP hD hS
abbrev rm_t_Input_isAt : Room := { frames := 1, cells := 0, slots := 0, locals := 25 }
theorem t_Input_isAt (l : Launch) (g : gG) (sz : Nat) (ad : Nat → Nat) (S : sS) (v1 : Int32) (k : Nat) (r : Int32) (S9 : sS) (h : f_Input_isAt k 0 S (upd (fun _ => 0) 1 v1) (fun _ => 0) = some (r, S9)) : Cz l y_Input_isAt b_Input_isAt 3 rm_t_Input_isAt g [.ref (ad 5), .int v1] (Sw shC g ad S) sz (fun r1 w => ∃ S1 : sS, w = Sw shC g ad S1 ∧ r1 = r ∧ S1 = S9) := by
  refine startZ (by decide) (Nat.le_of_ble_eq_true rfl) ?_
  intro p e s m below meth c A ls hx hb hr hml hlocks hmn hown htt hN hA hP hK hD hS hl
  exact (w_Input_isAt hx hb hml hown htt hK hN hA (by decide +kernel) (by decide +kernel) (by decide +kernel) (by decide +kernel) r S9 (fun ls H locs hz hP hD hS => fin_z (g := g) (ws := Sw shC g ad S9) hx hb hr hlocks hz (by decide +kernel) (by decide +kernel) hP hD hS ⟨_, rfl, rfl, rfl⟩ d_Input_isAt_50) k).1 S (upd (fun _ => 0) 1 v1) (fun _ => 0) ls _ _ h hl hP hD hS
def f_Input_takeQuote : Nat → Nat → sS → (Nat → Int32) → (Nat → Int64) → Option (Int32 × sS)
  | 0, _, _, _, _ => none
  | k + 1, 0, S, L, M => (f_Input_quoteLength k 0 S (upd (fun _ => 0) 1 (L 1 : Int32)) (fun _ => 0)).bind (fun (r1, T1) => f_Input_takeQuote k 1 T1 (upd L 2 r1) M)
  | k + 1, 1, S, L, M => if (L 2) ≤ (0 : Int32) then (some ((1 : Int32), S)) else ((f_Input_take k 0 S (fun _ => 0) (fun _ => 0)).bind (fun (r2, T2) => if r2 = (0 : Int32) then (some ((0 : Int32), T2)) else (f_Input_takeQuote k 1 T2 (upd L 2 ((L 2) + (-1))) M)))
  | _ + 1, _ + 2, _, _, _ => none
set_option maxHeartbeats 8000000 in
set_option maxRecDepth 100000 in
theorem w_Input_takeQuote {p : Program} {l : Launch} {e : Env} {R : Room} {s : State} {m : MethodId} {args : Array Value} {below : List Frame} {meth : Method} {c : Code} {cells slots : Nat} {Q : State → Prop} {g : gG} {A : Nat → Prop} {ad : Nat → Nat} (hx : p.tables.exec = Jvm.exec) (hb : c.code = b_Input_takeQuote) (hml : c.maxLocals = 3) (hown : s.vm.findClass "MacroMill$Input" = some m.cls) (htt : ∀ w ∈ gt, w.before args s = true) (hK : va_K g.1 classes (tysG g) s) (hN : nw s) (hA : ∀ q : Nat, s.heap.size ≤ q → A q) (hRf : 2 ≤ R.frames) (hRl : 42 ≤ R.locals) (hRc : cells ≤ R.cells) (hRs : slots ≤ R.slots) (r : Int32) (S9 : sS)
    (kx_18 : ∀ (ls : Array Slot) (H : Heap) (locs : List Loc), narrow .boolean (.int r) = .int r → va_P g.1 classes (Sw shC g ad S9) H → va_D A (Sw shC g ad S9) → va_S A s.heap H locs → W p l e R s m args below meth c H locs cells slots Q (F0 m 18 ls [.int r]))
    (kx_26 : ∀ (ls : Array Slot) (H : Heap) (locs : List Loc), narrow .boolean (.int r) = .int r → va_P g.1 classes (Sw shC g ad S9) H → va_D A (Sw shC g ad S9) → va_S A s.heap H locs → W p l e R s m args below meth c H locs cells slots Q (F0 m 26 ls [.int r])) :
    ∀ k9 : Nat, (∀ (S : sS) (L : Nat → Int32) (M : Nat → Int64) (ls : Array Slot) (H : Heap) (locs : List Loc), f_Input_takeQuote k9 0 S L M = some (r, S9) → lv_has ls 3 [(0, .ref (ad 5)), (1, .int (L 1))] → va_P g.1 classes (Sw shC g ad S) H → va_D A (Sw shC g ad S) → va_S A s.heap H locs → W p l e R s m args below meth c H locs cells slots Q (F0 m 0 ls [])) ∧ (∀ (S : sS) (L : Nat → Int32) (M : Nat → Int64) (ls : Array Slot) (H : Heap) (locs : List Loc), f_Input_takeQuote k9 1 S L M = some (r, S9) → lv_has ls 3 [(0, .ref (ad 5)), (1, .int (L 1)), (2, .int (L 2))] → va_P g.1 classes (Sw shC g ad S) H → va_D A (Sw shC g ad S) → va_S A s.heap H locs → W p l e R s m args below meth c H locs cells slots Q (F0 m 6 ls [])) := by
  intro k9
  induction k9 with
  | zero => exact ⟨(fun _ _ _ _ _ _ h => by simp [f_Input_takeQuote] at h), (fun _ _ _ _ _ _ h => by simp [f_Input_takeQuote] at h)⟩
  | succ k9 ih =>
    refine ⟨?_, ?_⟩
    · intro S L M ls H locs h hl hP hD hS
      simp only [f_Input_takeQuote] at h
      refine lv_aload_n hx hb d_Input_takeQuote_0 rfl (lv_at hl 0 rfl) ?_
      refine lv_iload_n hx hb d_Input_takeQuote_1 rfl (lv_at hl 1 rfl) ?_
      obtain ⟨⟨r1, T1⟩, hq1, h⟩ := Option.bind_eq_some_iff.mp h
      try dsimp only at h
      refine go_iS (As := [.ref (ad 5), .int (L 1)]) (g := g) (A := A) (h := shC) hP hK hD hS hA hN (fun hp => va_runV (As := [.int (L 1)]) (rest := []) ⟨hx, hb, hml, hown, htt⟩ (t_Input_quoteLength l g _ ad S (L 1 : Int32) k9 r1 T1 hq1) ⟨(cb_L htt k_1146 k_269 k_1143 hd_Input_quoteLength ⟨(Nat.le_trans (by decide +kernel) hRf), (Nat.le_trans (by decide +kernel) hRl)⟩), htt _ k_1144, htt _ k_1145⟩ ⟨hp.1, S_recv hK hP 5 rfl rfl, hp.2⟩ rfl rfl hl.1 rfl (lv_room (Nat.le_of_ble_eq_true rfl)) d_Input_takeQuote_2 ⟨hRc, hRs⟩) (fun r0 Sn H locs hw9 hP hD hS => ?_)
      obtain ⟨e9, e8⟩ := hw9
      rw [e8] at hP hD
      refine W.widen (k := cells) (n := slots) (Nat.le_refl _) (Nat.le_refl _) ?_
      refine toI (y := r1) e9 ?_
      refine lv_istore_n (lv' := [(2, .int r1), (0, .ref (ad 5)), (1, .int (L 1))]) hx hb d_Input_takeQuote_5 rfl hl (by decide) rfl (fun ls hl => ?_)
      exact (ih.2) T1 (upd L 2 r1) M ls H locs h (lv_sub hl [1, 2, 0] rfl) hP hD hS
    · intro S L M ls H locs h hl hP hD hS
      simp only [f_Input_takeQuote] at h
      refine lv_iload_n hx hb d_Input_takeQuote_6 rfl (lv_at hl 2 rfl) ?_
      refine lv_if_le (tgt := 25) hx hb d_Input_takeQuote_7 (by decide) (fun hc1 => ?_) (fun hc1 => ?_)
      · rw [if_pos hc1] at h
        refine lv_iconst (v := 1) hx hb d_Input_takeQuote_25 (by decide) ?_
        cases h
        exact kx_26 ls H locs rfl hP hD hS
      · rw [if_neg hc1] at h
        refine lv_aload_n hx hb d_Input_takeQuote_10 rfl (lv_at hl 0 rfl) ?_
        obtain ⟨⟨r2, T2⟩, hq2, h⟩ := Option.bind_eq_some_iff.mp h
        try dsimp only at h
        refine go_iS (As := [.ref (ad 5)]) (g := g) (A := A) (h := shC) hP hK hD hS hA hN (fun hp => va_runV (As := []) (rest := []) ⟨hx, hb, hml, hown, htt⟩ (t_Input_take l g _ ad S k9 r2 T2 hq2) ⟨(cb_L htt k_1159 k_269 k_1156 hd_Input_take ⟨(Nat.le_trans (by decide +kernel) hRf), (Nat.le_trans (by decide +kernel) hRl)⟩), htt _ k_1157, htt _ k_1158⟩ ⟨hp.1, S_recv hK hP 5 rfl rfl, hp.2⟩ rfl rfl hl.1 rfl (lv_room (Nat.le_of_ble_eq_true rfl)) d_Input_takeQuote_11 ⟨hRc, hRs⟩) (fun r0 Sn H locs hw9 hP hD hS => ?_)
        obtain ⟨e9, e8⟩ := hw9
        rw [e8] at hP hD
        refine W.widen (k := cells) (n := slots) (Nat.le_refl _) (Nat.le_refl _) ?_
        refine toI (y := r2) e9 ?_
        refine lv_if_ne (tgt := 19) hx hb d_Input_takeQuote_14 (by decide) (fun hc3 => ?_) (fun hc3 => ?_)
        · rw [if_neg hc3] at h
          refine lv_iinc (k := 2) (v := (L 2) + (-1)) (lv' := [(2, .int ((L 2) + (-1))), (0, .ref (ad 5)), (1, .int (L 1))]) hx hb d_Input_takeQuote_19 hl rfl rfl (by decide) rfl (fun ls hl => ?_)
          refine lv_goto (tgt := 6) hx hb d_Input_takeQuote_22 (by decide) ?_
          exact (ih.2) T2 (upd L 2 ((L 2) + (-1))) M ls H locs h (lv_sub hl [1, 2, 0] rfl) hP hD hS
        · rw [if_pos hc3] at h
          refine lv_iconst (v := 0) hx hb d_Input_takeQuote_17 (by decide) ?_
          cases h
          exact kx_18 ls H locs rfl hP hD hS
abbrev rm_t_Input_takeQuote : Room := { frames := 2, cells := 0, slots := 0, locals := 42 }
theorem t_Input_takeQuote (l : Launch) (g : gG) (sz : Nat) (ad : Nat → Nat) (S : sS) (v1 : Int32) (k : Nat) (r : Int32) (S9 : sS) (h : f_Input_takeQuote k 0 S (upd (fun _ => 0) 1 v1) (fun _ => 0) = some (r, S9)) : Cz l y_Input_takeQuote b_Input_takeQuote 3 rm_t_Input_takeQuote g [.ref (ad 5), .int v1] (Sw shC g ad S) sz (fun r1 w => ∃ S1 : sS, w = Sw shC g ad S1 ∧ r1 = r ∧ S1 = S9) := by
  refine startZ (by decide) (Nat.le_of_ble_eq_true rfl) ?_
  intro p e s m below meth c A ls hx hb hr hml hlocks hmn hown htt hN hA hP hK hD hS hl
  exact (w_Input_takeQuote hx hb hml hown htt hK hN hA (by decide +kernel) (by decide +kernel) (by decide +kernel) (by decide +kernel) r S9 (fun ls H locs hz hP hD hS => fin_z (g := g) (ws := Sw shC g ad S9) hx hb hr hlocks hz (by decide +kernel) (by decide +kernel) hP hD hS ⟨_, rfl, rfl, rfl⟩ d_Input_takeQuote_18) (fun ls H locs hz hP hD hS => fin_z (g := g) (ws := Sw shC g ad S9) hx hb hr hlocks hz (by decide +kernel) (by decide +kernel) hP hD hS ⟨_, rfl, rfl, rfl⟩ d_Input_takeQuote_26) k).1 S (upd (fun _ => 0) 1 v1) (fun _ => 0) ls _ _ h hl hP hD hS
def f_Calls_clearAll : Nat → Nat → sS → (Nat → Int32) → (Nat → Int64) → Option (Int32 × sS)
  | 0, _, _, _, _ => none
  | k + 1, 0, S, L, M => some ((0 : Int32), (putI (putI (putI S 6 1 0) 6 3 0) 6 9 0))
  | _ + 1, _ + 1, _, _, _ => none
set_option maxHeartbeats 8000000 in
set_option maxRecDepth 100000 in
theorem w_Calls_clearAll {p : Program} {l : Launch} {e : Env} {R : Room} {s : State} {m : MethodId} {args : Array Value} {below : List Frame} {meth : Method} {c : Code} {cells slots : Nat} {Q : State → Prop} {g : gG} {A : Nat → Prop} {ad : Nat → Nat} (hx : p.tables.exec = Jvm.exec) (hb : c.code = b_Calls_clearAll) (hml : c.maxLocals = 1) (hown : s.vm.findClass "MacroMill$Calls" = some m.cls) (htt : ∀ w ∈ gt, w.before args s = true) (hK : va_K g.1 classes (tysG g) s) (hN : nw s) (hA : ∀ q : Nat, s.heap.size ≤ q → A q) (r : Int32) (S9 : sS)
    (kx_15 : ∀ (ls : Array Slot) (H : Heap) (locs : List Loc), va_P g.1 classes (Sw shC g ad S9) H → va_D A (Sw shC g ad S9) → va_S A s.heap H locs → W p l e R s m args below meth c H locs cells slots Q (F0 m 15 ls [])) :
    ∀ k9 : Nat, (∀ (S : sS) (L : Nat → Int32) (M : Nat → Int64) (ls : Array Slot) (H : Heap) (locs : List Loc), f_Calls_clearAll k9 0 S L M = some (r, S9) → lv_has ls 1 [(0, .ref (ad 6))] → va_P g.1 classes (Sw shC g ad S) H → va_D A (Sw shC g ad S) → va_S A s.heap H locs → W p l e R s m args below meth c H locs cells slots Q (F0 m 0 ls [])) := by
  intro k9
  induction k9 with
  | zero => exact (fun _ _ _ _ _ _ h => by simp [f_Calls_clearAll] at h)
  | succ k9 ih =>
    · intro S L M ls H locs h hl hP hD hS
      simp only [f_Calls_clearAll] at h
      refine lv_aload_n hx hb d_Calls_clearAll_0 rfl (lv_at hl 0 rfl) ?_
      refine lv_iconst (v := 0) hx hb d_Calls_clearAll_1 (by decide) ?_
      refine S_put (h := shC) (C := "MacroMill$Calls") (T := F_Calls) (v := 0) hx hb htt in_Calls t_Calls t_Calls_ok n_Calls hown hK hP hD hS 6 1 rfl rfl rfl (by decide) (htt _ k_447) (fun _ h9 => h9) rfl rfl rfl d_Calls_clearAll_2 (fun H locs hP hD hS => ?_)
      refine lv_aload_n hx hb d_Calls_clearAll_5 rfl (lv_at hl 0 rfl) ?_
      refine lv_iconst (v := 0) hx hb d_Calls_clearAll_6 (by decide) ?_
      refine S_put (h := shC) (C := "MacroMill$Calls") (T := F_Calls) (v := 0) hx hb htt in_Calls t_Calls t_Calls_ok n_Calls hown hK hP hD hS 6 3 rfl rfl rfl (by decide) (htt _ k_449) (fun _ h9 => h9) rfl rfl rfl d_Calls_clearAll_7 (fun H locs hP hD hS => ?_)
      refine lv_aload_n hx hb d_Calls_clearAll_10 rfl (lv_at hl 0 rfl) ?_
      refine lv_iconst (v := 0) hx hb d_Calls_clearAll_11 (by decide) ?_
      refine S_put (h := shC) (C := "MacroMill$Calls") (T := F_Calls) (v := 0) hx hb htt in_Calls t_Calls t_Calls_ok n_Calls hown hK hP hD hS 6 9 rfl rfl rfl (by decide) (htt _ k_455) (fun _ h9 => h9) rfl rfl rfl d_Calls_clearAll_12 (fun H locs hP hD hS => ?_)
      cases h
      exact kx_15 ls H locs hP hD hS
abbrev rm_t_Calls_clearAll : Room := { frames := 0, cells := 0, slots := 0, locals := 0 }
theorem t_Calls_clearAll (l : Launch) (g : gG) (sz : Nat) (ad : Nat → Nat) (S : sS) (k : Nat) (r : Int32) (S9 : sS) (h : f_Calls_clearAll k 0 S (fun _ => 0) (fun _ => 0) = some (r, S9)) : Cv l y_Calls_clearAll b_Calls_clearAll 1 rm_t_Calls_clearAll g [.ref (ad 6)] (Sw shC g ad S) sz (fun w => ∃ S1 : sS, w = Sw shC g ad S1 ∧ S1 = S9) := by
  refine startV (by decide) (Nat.le_of_ble_eq_true rfl) ?_
  intro p e s m below meth c A ls hx hb hr hml hlocks hmn hown htt hN hA hP hK hD hS hl
  exact (w_Calls_clearAll hx hb hml hown htt hK hN hA r S9 (fun ls H locs hP hD hS => fin_v (g := g) (ws := Sw shC g ad S9) hx hb hr hlocks (by decide +kernel) (by decide +kernel) hP hD hS ⟨_, rfl, rfl⟩ d_Calls_clearAll_15) k) S (fun _ => 0) (fun _ => 0) ls _ _ h hl hP hD hS
def f_Calls_isFull : Nat → Nat → sS → (Nat → Int32) → (Nat → Int64) → Option (Int32 × sS)
  | 0, _, _, _, _ => none
  | k + 1, 0, S, L, M => if (S.1 6 9) < (50 : Int32) then (f_Calls_isFull k 1 S (upd L 100 (0 : Int32)) M) else (f_Calls_isFull k 1 S (upd L 100 (1 : Int32)) M)
  | k + 1, 1, S, L, M => if bz (L 100) = true then some (L 100, S) else none
  | _ + 1, _ + 2, _, _, _ => none
set_option maxHeartbeats 8000000 in
set_option maxRecDepth 100000 in
theorem w_Calls_isFull {p : Program} {l : Launch} {e : Env} {R : Room} {s : State} {m : MethodId} {args : Array Value} {below : List Frame} {meth : Method} {c : Code} {cells slots : Nat} {Q : State → Prop} {g : gG} {A : Nat → Prop} {ad : Nat → Nat} (hx : p.tables.exec = Jvm.exec) (hb : c.code = b_Calls_isFull) (hml : c.maxLocals = 1) (hown : s.vm.findClass "MacroMill$Calls" = some m.cls) (htt : ∀ w ∈ gt, w.before args s = true) (hK : va_K g.1 classes (tysG g) s) (hN : nw s) (hA : ∀ q : Nat, s.heap.size ≤ q → A q) (r : Int32) (S9 : sS)
    (kx_14 : ∀ (ls : Array Slot) (H : Heap) (locs : List Loc), narrow .boolean (.int r) = .int r → va_P g.1 classes (Sw shC g ad S9) H → va_D A (Sw shC g ad S9) → va_S A s.heap H locs → W p l e R s m args below meth c H locs cells slots Q (F0 m 14 ls [.int r])) :
    ∀ k9 : Nat, (∀ (S : sS) (L : Nat → Int32) (M : Nat → Int64) (ls : Array Slot) (H : Heap) (locs : List Loc), f_Calls_isFull k9 0 S L M = some (r, S9) → lv_has ls 1 [(0, .ref (ad 6))] → va_P g.1 classes (Sw shC g ad S) H → va_D A (Sw shC g ad S) → va_S A s.heap H locs → W p l e R s m args below meth c H locs cells slots Q (F0 m 0 ls [])) ∧ (∀ (S : sS) (L : Nat → Int32) (M : Nat → Int64) (ls : Array Slot) (H : Heap) (locs : List Loc), f_Calls_isFull k9 1 S L M = some (r, S9) → lv_has ls 1 [(0, .ref (ad 6))] → va_P g.1 classes (Sw shC g ad S) H → va_D A (Sw shC g ad S) → va_S A s.heap H locs → W p l e R s m args below meth c H locs cells slots Q (F0 m 14 ls [.int (L 100)])) := by
  intro k9
  induction k9 with
  | zero => exact ⟨(fun _ _ _ _ _ _ h => by simp [f_Calls_isFull] at h), (fun _ _ _ _ _ _ h => by simp [f_Calls_isFull] at h)⟩
  | succ k9 ih =>
    refine ⟨?_, ?_⟩
    · intro S L M ls H locs h hl hP hD hS
      simp only [f_Calls_isFull] at h
      refine lv_aload_n hx hb d_Calls_isFull_0 rfl (lv_at hl 0 rfl) ?_
      refine S_getI (h := shC) (C := "MacroMill$Calls") (T := F_Calls) hx hb htt in_Calls hown hK hP 6 9 rfl rfl rfl (by decide) (htt _ k_455) (fun _ h9 => h9) d_Calls_isFull_1 ?_
      refine lv_bipush (v := 50) hx hb d_Calls_isFull_4 (by decide) ?_
      refine lv_icmp_lt (tgt := 13) hx hb d_Calls_isFull_6 (by decide) (fun hc1 => ?_) (fun hc1 => ?_)
      · rw [if_pos hc1] at h
        refine lv_iconst (v := 0) hx hb d_Calls_isFull_13 (by decide) ?_
        exact (ih.2) S (upd L 100 (0 : Int32)) M ls H locs h (lv_sub hl [0] rfl) hP hD hS
      · rw [if_neg hc1] at h
        refine lv_iconst (v := 1) hx hb d_Calls_isFull_9 (by decide) ?_
        refine lv_goto (tgt := 14) hx hb d_Calls_isFull_10 (by decide) ?_
        exact (ih.2) S (upd L 100 (1 : Int32)) M ls H locs h (lv_sub hl [0] rfl) hP hD hS
    · intro S L M ls H locs h hl hP hD hS
      simp only [f_Calls_isFull] at h
      obtain ⟨hv1, h⟩ := chk h
      cases h
      exact kx_14 ls H locs (bz_n hv1) hP hD hS
abbrev rm_t_Calls_isFull : Room := { frames := 0, cells := 0, slots := 0, locals := 0 }
theorem t_Calls_isFull (l : Launch) (g : gG) (sz : Nat) (ad : Nat → Nat) (S : sS) (k : Nat) (r : Int32) (S9 : sS) (h : f_Calls_isFull k 0 S (fun _ => 0) (fun _ => 0) = some (r, S9)) : Cz l y_Calls_isFull b_Calls_isFull 1 rm_t_Calls_isFull g [.ref (ad 6)] (Sw shC g ad S) sz (fun r1 w => ∃ S1 : sS, w = Sw shC g ad S1 ∧ r1 = r ∧ S1 = S9) := by
  refine startZ (by decide) (Nat.le_of_ble_eq_true rfl) ?_
  intro p e s m below meth c A ls hx hb hr hml hlocks hmn hown htt hN hA hP hK hD hS hl
  exact (w_Calls_isFull hx hb hml hown htt hK hN hA r S9 (fun ls H locs hz hP hD hS => fin_z (g := g) (ws := Sw shC g ad S9) hx hb hr hlocks hz (by decide +kernel) (by decide +kernel) hP hD hS ⟨_, rfl, rfl, rfl⟩ d_Calls_isFull_14) k).1 S (fun _ => 0) (fun _ => 0) ls _ _ h hl hP hD hS
def f_Calls_closeOne : Nat → Nat → sS → (Nat → Int32) → (Nat → Int64) → Option (Int32 × sS)
  | 0, _, _, _, _ => none
  | k + 1, 0, S, L, M => if (S.1 6 9) ≤ (0 : Int32) then (f_Calls_closeOne k 1 S L M) else (if okI ((S.1 6 9) - (1 : Int32)) 50 = true then (if okI ((S.1 6 9) - (1 : Int32)) 50 = true then (f_Calls_closeOne k 1 (putI (putI (putI S 6 9 ((S.1 6 9) - (1 : Int32))) 6 1 ((putI S 6 9 ((S.1 6 9) - (1 : Int32))).2.1 20 ((S.1 6 9) - (1 : Int32) : Int32).toNatClampNeg)) 6 3 ((putI (putI S 6 9 ((S.1 6 9) - (1 : Int32))) 6 1 ((putI S 6 9 ((S.1 6 9) - (1 : Int32))).2.1 20 ((S.1 6 9) - (1 : Int32) : Int32).toNatClampNeg)).2.1 22 ((S.1 6 9) - (1 : Int32) : Int32).toNatClampNeg)) L M) else none) else none)
  | k + 1, 1, S, L, M => some ((0 : Int32), S)
  | _ + 1, _ + 2, _, _, _ => none
set_option maxHeartbeats 8000000 in
set_option maxRecDepth 100000 in
theorem w_Calls_closeOne {p : Program} {l : Launch} {e : Env} {R : Room} {s : State} {m : MethodId} {args : Array Value} {below : List Frame} {meth : Method} {c : Code} {cells slots : Nat} {Q : State → Prop} {g : gG} {A : Nat → Prop} {ad : Nat → Nat} (hx : p.tables.exec = Jvm.exec) (hb : c.code = b_Calls_closeOne) (hml : c.maxLocals = 1) (hown : s.vm.findClass "MacroMill$Calls" = some m.cls) (htt : ∀ w ∈ gt, w.before args s = true) (hK : va_K g.1 classes (tysG g) s) (hN : nw s) (hA : ∀ q : Nat, s.heap.size ≤ q → A q) (r : Int32) (S9 : sS)
    (kx_43 : ∀ (ls : Array Slot) (H : Heap) (locs : List Loc), va_P g.1 classes (Sw shC g ad S9) H → va_D A (Sw shC g ad S9) → va_S A s.heap H locs → W p l e R s m args below meth c H locs cells slots Q (F0 m 43 ls [])) :
    ∀ k9 : Nat, (∀ (S : sS) (L : Nat → Int32) (M : Nat → Int64) (ls : Array Slot) (H : Heap) (locs : List Loc), f_Calls_closeOne k9 0 S L M = some (r, S9) → lv_has ls 1 [(0, .ref (ad 6))] → va_P g.1 classes (Sw shC g ad S) H → va_D A (Sw shC g ad S) → va_S A s.heap H locs → W p l e R s m args below meth c H locs cells slots Q (F0 m 0 ls [])) ∧ (∀ (S : sS) (L : Nat → Int32) (M : Nat → Int64) (ls : Array Slot) (H : Heap) (locs : List Loc), f_Calls_closeOne k9 1 S L M = some (r, S9) → lv_has ls 1 [(0, .ref (ad 6))] → va_P g.1 classes (Sw shC g ad S) H → va_D A (Sw shC g ad S) → va_S A s.heap H locs → W p l e R s m args below meth c H locs cells slots Q (F0 m 43 ls [])) := by
  intro k9
  induction k9 with
  | zero => exact ⟨(fun _ _ _ _ _ _ h => by simp [f_Calls_closeOne] at h), (fun _ _ _ _ _ _ h => by simp [f_Calls_closeOne] at h)⟩
  | succ k9 ih =>
    refine ⟨?_, ?_⟩
    · intro S L M ls H locs h hl hP hD hS
      simp only [f_Calls_closeOne] at h
      refine lv_aload_n hx hb d_Calls_closeOne_0 rfl (lv_at hl 0 rfl) ?_
      refine S_getI (h := shC) (C := "MacroMill$Calls") (T := F_Calls) hx hb htt in_Calls hown hK hP 6 9 rfl rfl rfl (by decide) (htt _ k_455) (fun _ h9 => h9) d_Calls_closeOne_1 ?_
      refine lv_if_le (tgt := 43) hx hb d_Calls_closeOne_4 (by decide) (fun hc1 => ?_) (fun hc1 => ?_)
      · rw [if_pos hc1] at h
        exact (ih.2) S L M ls H locs h (lv_sub hl [0] rfl) hP hD hS
      · rw [if_neg hc1] at h
        refine lv_aload_n hx hb d_Calls_closeOne_7 rfl (lv_at hl 0 rfl) ?_
        refine lv_dup hx hb d_Calls_closeOne_8 rfl ?_
        refine S_getI (h := shC) (C := "MacroMill$Calls") (T := F_Calls) hx hb htt in_Calls hown hK hP 6 9 rfl rfl rfl (by decide) (htt _ k_455) (fun _ h9 => h9) d_Calls_closeOne_9 ?_
        refine lv_iconst (v := 1) hx hb d_Calls_closeOne_12 (by decide) ?_
        refine lv_isub hx hb d_Calls_closeOne_13 ?_
        refine S_put (h := shC) (C := "MacroMill$Calls") (T := F_Calls) (v := (S.1 6 9) - (1 : Int32)) hx hb htt in_Calls t_Calls t_Calls_ok n_Calls hown hK hP hD hS 6 9 rfl rfl rfl (by decide) (htt _ k_455) (fun _ h9 => h9) rfl rfl rfl d_Calls_closeOne_14 (fun H locs hP hD hS => ?_)
        refine lv_aload_n hx hb d_Calls_closeOne_17 rfl (lv_at hl 0 rfl) ?_
        refine lv_aload_n hx hb d_Calls_closeOne_18 rfl (lv_at hl 0 rfl) ?_
        refine S_getR (h := shC) (C := "MacroMill$Calls") (T := F_Calls) hx hb htt in_Calls hown hK hP 6 4 rfl 33 rfl rfl (by decide) (htt _ k_450) (fun _ h9 => h9) d_Calls_closeOne_19 ?_
        show W _ _ _ _ _ _ _ _ _ _ _ _ _ _ _ (F0 _ 22 _ _)
        refine lv_aload_n hx hb d_Calls_closeOne_22 rfl (lv_at hl 0 rfl) ?_
        refine S_getI (h := shC) (C := "MacroMill$Calls") (T := F_Calls) hx hb htt in_Calls hown hK hP 6 9 rfl rfl rfl (by decide) (htt _ k_455) (fun _ h9 => h9) d_Calls_closeOne_23 ?_
        refine toI (y := (S.1 6 9) - (1 : Int32)) rfl ?_
        obtain ⟨hv2, h⟩ := chk h
        refine S_iald (h := shC) (i := (S.1 6 9) - (1 : Int32)) hx hb hK hP 20 rfl (okI_in hv2) d_Calls_closeOne_26 ?_
        refine S_put (h := shC) (C := "MacroMill$Calls") (T := F_Calls) (v := (putI S 6 9 ((S.1 6 9) - (1 : Int32))).2.1 20 ((S.1 6 9) - (1 : Int32) : Int32).toNatClampNeg) hx hb htt in_Calls t_Calls t_Calls_ok n_Calls hown hK hP hD hS 6 1 rfl rfl rfl (by decide) (htt _ k_447) (fun _ h9 => h9) rfl rfl rfl d_Calls_closeOne_27 (fun H locs hP hD hS => ?_)
        refine lv_aload_n hx hb d_Calls_closeOne_30 rfl (lv_at hl 0 rfl) ?_
        refine lv_aload_n hx hb d_Calls_closeOne_31 rfl (lv_at hl 0 rfl) ?_
        refine S_getR (h := shC) (C := "MacroMill$Calls") (T := F_Calls) hx hb htt in_Calls hown hK hP 6 6 rfl 35 rfl rfl (by decide) (htt _ k_452) (fun _ h9 => h9) d_Calls_closeOne_32 ?_
        refine lv_aload_n hx hb d_Calls_closeOne_35 rfl (lv_at hl 0 rfl) ?_
        refine S_getI (h := shC) (C := "MacroMill$Calls") (T := F_Calls) hx hb htt in_Calls hown hK hP 6 9 rfl rfl rfl (by decide) (htt _ k_455) (fun _ h9 => h9) d_Calls_closeOne_36 ?_
        refine toI (y := (S.1 6 9) - (1 : Int32)) rfl ?_
        obtain ⟨hv3, h⟩ := chk h
        refine S_iald (h := shC) (i := (S.1 6 9) - (1 : Int32)) hx hb hK hP 22 rfl (okI_in hv3) d_Calls_closeOne_39 ?_
        refine S_put (h := shC) (C := "MacroMill$Calls") (T := F_Calls) (v := (putI (putI S 6 9 ((S.1 6 9) - (1 : Int32))) 6 1 ((putI S 6 9 ((S.1 6 9) - (1 : Int32))).2.1 20 ((S.1 6 9) - (1 : Int32) : Int32).toNatClampNeg)).2.1 22 ((S.1 6 9) - (1 : Int32) : Int32).toNatClampNeg) hx hb htt in_Calls t_Calls t_Calls_ok n_Calls hown hK hP hD hS 6 3 rfl rfl rfl (by decide) (htt _ k_449) (fun _ h9 => h9) rfl rfl rfl d_Calls_closeOne_40 (fun H locs hP hD hS => ?_)
        exact (ih.2) (putI (putI (putI S 6 9 ((S.1 6 9) - (1 : Int32))) 6 1 ((putI S 6 9 ((S.1 6 9) - (1 : Int32))).2.1 20 ((S.1 6 9) - (1 : Int32) : Int32).toNatClampNeg)) 6 3 ((putI (putI S 6 9 ((S.1 6 9) - (1 : Int32))) 6 1 ((putI S 6 9 ((S.1 6 9) - (1 : Int32))).2.1 20 ((S.1 6 9) - (1 : Int32) : Int32).toNatClampNeg)).2.1 22 ((S.1 6 9) - (1 : Int32) : Int32).toNatClampNeg)) L M ls H locs h (lv_sub hl [0] rfl) hP hD hS
    · intro S L M ls H locs h hl hP hD hS
      simp only [f_Calls_closeOne] at h
      cases h
      exact kx_43 ls H locs hP hD hS
abbrev rm_t_Calls_closeOne : Room := { frames := 0, cells := 0, slots := 0, locals := 0 }
theorem t_Calls_closeOne (l : Launch) (g : gG) (sz : Nat) (ad : Nat → Nat) (S : sS) (k : Nat) (r : Int32) (S9 : sS) (h : f_Calls_closeOne k 0 S (fun _ => 0) (fun _ => 0) = some (r, S9)) : Cv l y_Calls_closeOne b_Calls_closeOne 1 rm_t_Calls_closeOne g [.ref (ad 6)] (Sw shC g ad S) sz (fun w => ∃ S1 : sS, w = Sw shC g ad S1 ∧ S1 = S9) := by
  refine startV (by decide) (Nat.le_of_ble_eq_true rfl) ?_
  intro p e s m below meth c A ls hx hb hr hml hlocks hmn hown htt hN hA hP hK hD hS hl
  exact (w_Calls_closeOne hx hb hml hown htt hK hN hA r S9 (fun ls H locs hP hD hS => fin_v (g := g) (ws := Sw shC g ad S9) hx hb hr hlocks (by decide +kernel) (by decide +kernel) hP hD hS ⟨_, rfl, rfl⟩ d_Calls_closeOne_43) k).1 S (fun _ => 0) (fun _ => 0) ls _ _ h hl hP hD hS
def f_Calls_beginArgument : Nat → Nat → sS → (Nat → Int32) → (Nat → Int64) → Option (Int32 × sS)
  | 0, _, _, _, _ => none
  | k + 1, 0, S, L, M => if (S.1 6 9) = (0 : Int32) then (f_Calls_beginArgument k 1 S L M) else (if (S.1 6 3) < (8192 : Int32) then (if okI (S.1 6 3) 8192 = true then (if okI ((S.1 6 9) - (1 : Int32)) 50 = true then (some ((1 : Int32), (putA (putI (putA S 19 (S.1 6 3 : Int32).toNatClampNeg (S.1 6 1)) 6 3 ((S.1 6 3) + (1 : Int32))) 24 ((S.1 6 9) - (1 : Int32) : Int32).toNatClampNeg (vp_nar .boolean 0)))) else none) else none) else (f_Calls_beginArgument k 1 S L M))
  | k + 1, 1, S, L, M => some ((0 : Int32), S)
  | _ + 1, _ + 2, _, _, _ => none
set_option maxHeartbeats 8000000 in
set_option maxRecDepth 100000 in
theorem w_Calls_beginArgument {p : Program} {l : Launch} {e : Env} {R : Room} {s : State} {m : MethodId} {args : Array Value} {below : List Frame} {meth : Method} {c : Code} {cells slots : Nat} {Q : State → Prop} {g : gG} {A : Nat → Prop} {ad : Nat → Nat} (hx : p.tables.exec = Jvm.exec) (hb : c.code = b_Calls_beginArgument) (hml : c.maxLocals = 1) (hown : s.vm.findClass "MacroMill$Calls" = some m.cls) (htt : ∀ w ∈ gt, w.before args s = true) (hK : va_K g.1 classes (tysG g) s) (hN : nw s) (hA : ∀ q : Nat, s.heap.size ≤ q → A q) (r : Int32) (S9 : sS)
    (kx_18 : ∀ (ls : Array Slot) (H : Heap) (locs : List Loc), narrow .boolean (.int r) = .int r → va_P g.1 classes (Sw shC g ad S9) H → va_D A (Sw shC g ad S9) → va_S A s.heap H locs → W p l e R s m args below meth c H locs cells slots Q (F0 m 18 ls [.int r]))
    (kx_55 : ∀ (ls : Array Slot) (H : Heap) (locs : List Loc), narrow .boolean (.int r) = .int r → va_P g.1 classes (Sw shC g ad S9) H → va_D A (Sw shC g ad S9) → va_S A s.heap H locs → W p l e R s m args below meth c H locs cells slots Q (F0 m 55 ls [.int r])) :
    ∀ k9 : Nat, (∀ (S : sS) (L : Nat → Int32) (M : Nat → Int64) (ls : Array Slot) (H : Heap) (locs : List Loc), f_Calls_beginArgument k9 0 S L M = some (r, S9) → lv_has ls 1 [(0, .ref (ad 6))] → va_P g.1 classes (Sw shC g ad S) H → va_D A (Sw shC g ad S) → va_S A s.heap H locs → W p l e R s m args below meth c H locs cells slots Q (F0 m 0 ls [])) ∧ (∀ (S : sS) (L : Nat → Int32) (M : Nat → Int64) (ls : Array Slot) (H : Heap) (locs : List Loc), f_Calls_beginArgument k9 1 S L M = some (r, S9) → lv_has ls 1 [(0, .ref (ad 6))] → va_P g.1 classes (Sw shC g ad S) H → va_D A (Sw shC g ad S) → va_S A s.heap H locs → W p l e R s m args below meth c H locs cells slots Q (F0 m 17 ls [])) := by
  intro k9
  induction k9 with
  | zero => exact ⟨(fun _ _ _ _ _ _ h => by simp [f_Calls_beginArgument] at h), (fun _ _ _ _ _ _ h => by simp [f_Calls_beginArgument] at h)⟩
  | succ k9 ih =>
    refine ⟨?_, ?_⟩
    · intro S L M ls H locs h hl hP hD hS
      simp only [f_Calls_beginArgument] at h
      refine lv_aload_n hx hb d_Calls_beginArgument_0 rfl (lv_at hl 0 rfl) ?_
      refine S_getI (h := shC) (C := "MacroMill$Calls") (T := F_Calls) hx hb htt in_Calls hown hK hP 6 9 rfl rfl rfl (by decide) (htt _ k_455) (fun _ h9 => h9) d_Calls_beginArgument_1 ?_
      refine lv_if_eq (tgt := 17) hx hb d_Calls_beginArgument_4 (by decide) (fun hc1 => ?_) (fun hc1 => ?_)
      · rw [if_pos hc1] at h
        exact (ih.2) S L M ls H locs h (lv_sub hl [0] rfl) hP hD hS
      · rw [if_neg hc1] at h
        refine lv_aload_n hx hb d_Calls_beginArgument_7 rfl (lv_at hl 0 rfl) ?_
        refine S_getI (h := shC) (C := "MacroMill$Calls") (T := F_Calls) hx hb htt in_Calls hown hK hP 6 3 rfl rfl rfl (by decide) (htt _ k_449) (fun _ h9 => h9) d_Calls_beginArgument_8 ?_
        refine lv_sipush (v := 8192) hx hb d_Calls_beginArgument_11 (by decide) ?_
        refine lv_icmp_lt (tgt := 19) hx hb d_Calls_beginArgument_14 (by decide) (fun hc2 => ?_) (fun hc2 => ?_)
        · rw [if_pos hc2] at h
          refine lv_aload_n hx hb d_Calls_beginArgument_19 rfl (lv_at hl 0 rfl) ?_
          refine S_getR (h := shC) (C := "MacroMill$Calls") (T := F_Calls) hx hb htt in_Calls hown hK hP 6 2 rfl 32 rfl rfl (by decide) (htt _ k_448) (fun _ h9 => h9) d_Calls_beginArgument_20 ?_
          refine lv_aload_n hx hb d_Calls_beginArgument_23 rfl (lv_at hl 0 rfl) ?_
          refine S_getI (h := shC) (C := "MacroMill$Calls") (T := F_Calls) hx hb htt in_Calls hown hK hP 6 3 rfl rfl rfl (by decide) (htt _ k_449) (fun _ h9 => h9) d_Calls_beginArgument_24 ?_
          refine lv_aload_n hx hb d_Calls_beginArgument_27 rfl (lv_at hl 0 rfl) ?_
          refine S_getI (h := shC) (C := "MacroMill$Calls") (T := F_Calls) hx hb htt in_Calls hown hK hP 6 1 rfl rfl rfl (by decide) (htt _ k_447) (fun _ h9 => h9) d_Calls_beginArgument_28 ?_
          obtain ⟨hv3, h⟩ := chk h
          show W _ _ _ _ _ _ _ _ _ _ _ _ _ _ _ (F0 _ 31 _ _)
          refine S_iast (h := shC) (i := S.1 6 3) (v := S.1 6 1) hx hb hK hP hD hS 19 rfl (okI_in hv3) d_Calls_beginArgument_31 (fun H locs hP hD hS => ?_)
          refine lv_aload_n hx hb d_Calls_beginArgument_32 rfl (lv_at hl 0 rfl) ?_
          refine lv_dup hx hb d_Calls_beginArgument_33 rfl ?_
          refine S_getI (h := shC) (C := "MacroMill$Calls") (T := F_Calls) hx hb htt in_Calls hown hK hP 6 3 rfl rfl rfl (by decide) (htt _ k_449) (fun _ h9 => h9) d_Calls_beginArgument_34 ?_
          refine toI (y := S.1 6 3) rfl ?_
          refine lv_iconst (v := 1) hx hb d_Calls_beginArgument_37 (by decide) ?_
          refine lv_iadd hx hb d_Calls_beginArgument_38 ?_
          refine S_put (h := shC) (C := "MacroMill$Calls") (T := F_Calls) (v := (S.1 6 3) + (1 : Int32)) hx hb htt in_Calls t_Calls t_Calls_ok n_Calls hown hK hP hD hS 6 3 rfl rfl rfl (by decide) (htt _ k_449) (fun _ h9 => h9) rfl rfl rfl d_Calls_beginArgument_39 (fun H locs hP hD hS => ?_)
          refine lv_aload_n hx hb d_Calls_beginArgument_42 rfl (lv_at hl 0 rfl) ?_
          refine S_getR (h := shC) (C := "MacroMill$Calls") (T := F_Calls) hx hb htt in_Calls hown hK hP 6 8 rfl 37 rfl rfl (by decide) (htt _ k_454) (fun _ h9 => h9) d_Calls_beginArgument_43 ?_
          refine lv_aload_n hx hb d_Calls_beginArgument_46 rfl (lv_at hl 0 rfl) ?_
          refine S_getI (h := shC) (C := "MacroMill$Calls") (T := F_Calls) hx hb htt in_Calls hown hK hP 6 9 rfl rfl rfl (by decide) (htt _ k_455) (fun _ h9 => h9) d_Calls_beginArgument_47 ?_
          refine toI (y := S.1 6 9) rfl ?_
          refine lv_iconst (v := 1) hx hb d_Calls_beginArgument_50 (by decide) ?_
          show W _ _ _ _ _ _ _ _ _ _ _ _ _ _ _ (F0 _ 51 _ _)
          refine lv_isub hx hb d_Calls_beginArgument_51 ?_
          refine lv_iconst (v := 0) hx hb d_Calls_beginArgument_52 (by decide) ?_
          obtain ⟨hv4, h⟩ := chk h
          refine S_zast (h := shC) (i := (S.1 6 9) - (1 : Int32)) (v := 0) hx hb hK hP hD hS 24 rfl (okI_in hv4) d_Calls_beginArgument_53 (fun H locs hP hD hS => ?_)
          refine lv_iconst (v := 1) hx hb d_Calls_beginArgument_54 (by decide) ?_
          cases h
          exact kx_55 ls H locs rfl hP hD hS
        · rw [if_neg hc2] at h
          exact (ih.2) S L M ls H locs h (lv_sub hl [0] rfl) hP hD hS
    · intro S L M ls H locs h hl hP hD hS
      simp only [f_Calls_beginArgument] at h
      refine lv_iconst (v := 0) hx hb d_Calls_beginArgument_17 (by decide) ?_
      cases h
      exact kx_18 ls H locs rfl hP hD hS
abbrev rm_t_Calls_beginArgument : Room := { frames := 0, cells := 0, slots := 0, locals := 0 }
theorem t_Calls_beginArgument (l : Launch) (g : gG) (sz : Nat) (ad : Nat → Nat) (S : sS) (k : Nat) (r : Int32) (S9 : sS) (h : f_Calls_beginArgument k 0 S (fun _ => 0) (fun _ => 0) = some (r, S9)) : Cz l y_Calls_beginArgument b_Calls_beginArgument 1 rm_t_Calls_beginArgument g [.ref (ad 6)] (Sw shC g ad S) sz (fun r1 w => ∃ S1 : sS, w = Sw shC g ad S1 ∧ r1 = r ∧ S1 = S9) := by
  refine startZ (by decide) (Nat.le_of_ble_eq_true rfl) ?_
  intro p e s m below meth c A ls hx hb hr hml hlocks hmn hown htt hN hA hP hK hD hS hl
  exact (w_Calls_beginArgument hx hb hml hown htt hK hN hA r S9 (fun ls H locs hz hP hD hS => fin_z (g := g) (ws := Sw shC g ad S9) hx hb hr hlocks hz (by decide +kernel) (by decide +kernel) hP hD hS ⟨_, rfl, rfl, rfl⟩ d_Calls_beginArgument_18) (fun ls H locs hz hP hD hS => fin_z (g := g) (ws := Sw shC g ad S9) hx hb hr hlocks hz (by decide +kernel) (by decide +kernel) hP hD hS ⟨_, rfl, rfl, rfl⟩ d_Calls_beginArgument_55) k).1 S (fun _ => 0) (fun _ => 0) ls _ _ h hl hP hD hS
def f_Calls_hasBegun : Nat → Nat → sS → (Nat → Int32) → (Nat → Int64) → Option (Int32 × sS)
  | 0, _, _, _, _ => none
  | k + 1, 0, S, L, M => if (S.1 6 9) ≤ (0 : Int32) then (f_Calls_hasBegun k 1 S L M) else (if okI ((S.1 6 9) - (1 : Int32)) 50 = true then (if (S.2.1 24 ((S.1 6 9) - (1 : Int32) : Int32).toNatClampNeg) = (0 : Int32) then (f_Calls_hasBegun k 1 S L M) else (f_Calls_hasBegun k 2 S (upd L 100 (1 : Int32)) M)) else none)
  | k + 1, 1, S, L, M => f_Calls_hasBegun k 2 S (upd L 100 (0 : Int32)) M
  | k + 1, 2, S, L, M => if bz (L 100) = true then some (L 100, S) else none
  | _ + 1, _ + 3, _, _, _ => none
set_option maxHeartbeats 8000000 in
set_option maxRecDepth 100000 in
theorem w_Calls_hasBegun {p : Program} {l : Launch} {e : Env} {R : Room} {s : State} {m : MethodId} {args : Array Value} {below : List Frame} {meth : Method} {c : Code} {cells slots : Nat} {Q : State → Prop} {g : gG} {A : Nat → Prop} {ad : Nat → Nat} (hx : p.tables.exec = Jvm.exec) (hb : c.code = b_Calls_hasBegun) (hml : c.maxLocals = 1) (hown : s.vm.findClass "MacroMill$Calls" = some m.cls) (htt : ∀ w ∈ gt, w.before args s = true) (hK : va_K g.1 classes (tysG g) s) (hN : nw s) (hA : ∀ q : Nat, s.heap.size ≤ q → A q) (r : Int32) (S9 : sS)
    (kx_26 : ∀ (ls : Array Slot) (H : Heap) (locs : List Loc), narrow .boolean (.int r) = .int r → va_P g.1 classes (Sw shC g ad S9) H → va_D A (Sw shC g ad S9) → va_S A s.heap H locs → W p l e R s m args below meth c H locs cells slots Q (F0 m 26 ls [.int r])) :
    ∀ k9 : Nat, (∀ (S : sS) (L : Nat → Int32) (M : Nat → Int64) (ls : Array Slot) (H : Heap) (locs : List Loc), f_Calls_hasBegun k9 0 S L M = some (r, S9) → lv_has ls 1 [(0, .ref (ad 6))] → va_P g.1 classes (Sw shC g ad S) H → va_D A (Sw shC g ad S) → va_S A s.heap H locs → W p l e R s m args below meth c H locs cells slots Q (F0 m 0 ls [])) ∧ (∀ (S : sS) (L : Nat → Int32) (M : Nat → Int64) (ls : Array Slot) (H : Heap) (locs : List Loc), f_Calls_hasBegun k9 1 S L M = some (r, S9) → lv_has ls 1 [(0, .ref (ad 6))] → va_P g.1 classes (Sw shC g ad S) H → va_D A (Sw shC g ad S) → va_S A s.heap H locs → W p l e R s m args below meth c H locs cells slots Q (F0 m 25 ls [])) ∧ (∀ (S : sS) (L : Nat → Int32) (M : Nat → Int64) (ls : Array Slot) (H : Heap) (locs : List Loc), f_Calls_hasBegun k9 2 S L M = some (r, S9) → lv_has ls 1 [(0, .ref (ad 6))] → va_P g.1 classes (Sw shC g ad S) H → va_D A (Sw shC g ad S) → va_S A s.heap H locs → W p l e R s m args below meth c H locs cells slots Q (F0 m 26 ls [.int (L 100)])) := by
  intro k9
  induction k9 with
  | zero => exact ⟨(fun _ _ _ _ _ _ h => by simp [f_Calls_hasBegun] at h), (fun _ _ _ _ _ _ h => by simp [f_Calls_hasBegun] at h), (fun _ _ _ _ _ _ h => by simp [f_Calls_hasBegun] at h)⟩
  | succ k9 ih =>
    refine ⟨?_, ?_, ?_⟩
    · intro S L M ls H locs h hl hP hD hS
      simp only [f_Calls_hasBegun] at h
      refine lv_aload_n hx hb d_Calls_hasBegun_0 rfl (lv_at hl 0 rfl) ?_
      refine S_getI (h := shC) (C := "MacroMill$Calls") (T := F_Calls) hx hb htt in_Calls hown hK hP 6 9 rfl rfl rfl (by decide) (htt _ k_455) (fun _ h9 => h9) d_Calls_hasBegun_1 ?_
      refine lv_if_le (tgt := 25) hx hb d_Calls_hasBegun_4 (by decide) (fun hc1 => ?_) (fun hc1 => ?_)
      · rw [if_pos hc1] at h
        exact (ih.2.1) S L M ls H locs h (lv_sub hl [0] rfl) hP hD hS
      · rw [if_neg hc1] at h
        refine lv_aload_n hx hb d_Calls_hasBegun_7 rfl (lv_at hl 0 rfl) ?_
        refine S_getR (h := shC) (C := "MacroMill$Calls") (T := F_Calls) hx hb htt in_Calls hown hK hP 6 8 rfl 37 rfl rfl (by decide) (htt _ k_454) (fun _ h9 => h9) d_Calls_hasBegun_8 ?_
        refine lv_aload_n hx hb d_Calls_hasBegun_11 rfl (lv_at hl 0 rfl) ?_
        refine S_getI (h := shC) (C := "MacroMill$Calls") (T := F_Calls) hx hb htt in_Calls hown hK hP 6 9 rfl rfl rfl (by decide) (htt _ k_455) (fun _ h9 => h9) d_Calls_hasBegun_12 ?_
        refine lv_iconst (v := 1) hx hb d_Calls_hasBegun_15 (by decide) ?_
        refine lv_isub hx hb d_Calls_hasBegun_16 ?_
        obtain ⟨hv2, h⟩ := chk h
        refine S_zald (h := shC) (i := (S.1 6 9) - (1 : Int32)) hx hb hK hP 24 rfl (okI_in hv2) d_Calls_hasBegun_17 ?_
        refine lv_if_eq (tgt := 25) hx hb d_Calls_hasBegun_18 (by decide) (fun hc3 => ?_) (fun hc3 => ?_)
        · rw [if_pos hc3] at h
          exact (ih.2.1) S L M ls H locs h (lv_sub hl [0] rfl) hP hD hS
        · rw [if_neg hc3] at h
          refine lv_iconst (v := 1) hx hb d_Calls_hasBegun_21 (by decide) ?_
          refine lv_goto (tgt := 26) hx hb d_Calls_hasBegun_22 (by decide) ?_
          exact (ih.2.2) S (upd L 100 (1 : Int32)) M ls H locs h (lv_sub hl [0] rfl) hP hD hS
    · intro S L M ls H locs h hl hP hD hS
      simp only [f_Calls_hasBegun] at h
      refine lv_iconst (v := 0) hx hb d_Calls_hasBegun_25 (by decide) ?_
      exact (ih.2.2) S (upd L 100 (0 : Int32)) M ls H locs h (lv_sub hl [0] rfl) hP hD hS
    · intro S L M ls H locs h hl hP hD hS
      simp only [f_Calls_hasBegun] at h
      obtain ⟨hv1, h⟩ := chk h
      cases h
      exact kx_26 ls H locs (bz_n hv1) hP hD hS
abbrev rm_t_Calls_hasBegun : Room := { frames := 0, cells := 0, slots := 0, locals := 0 }
theorem t_Calls_hasBegun (l : Launch) (g : gG) (sz : Nat) (ad : Nat → Nat) (S : sS) (k : Nat) (r : Int32) (S9 : sS) (h : f_Calls_hasBegun k 0 S (fun _ => 0) (fun _ => 0) = some (r, S9)) : Cz l y_Calls_hasBegun b_Calls_hasBegun 1 rm_t_Calls_hasBegun g [.ref (ad 6)] (Sw shC g ad S) sz (fun r1 w => ∃ S1 : sS, w = Sw shC g ad S1 ∧ r1 = r ∧ S1 = S9) := by
  refine startZ (by decide) (Nat.le_of_ble_eq_true rfl) ?_
  intro p e s m below meth c A ls hx hb hr hml hlocks hmn hown htt hN hA hP hK hD hS hl
  exact (w_Calls_hasBegun hx hb hml hown htt hK hN hA r S9 (fun ls H locs hz hP hD hS => fin_z (g := g) (ws := Sw shC g ad S9) hx hb hr hlocks hz (by decide +kernel) (by decide +kernel) hP hD hS ⟨_, rfl, rfl, rfl⟩ d_Calls_hasBegun_26) k).1 S (fun _ => 0) (fun _ => 0) ls _ _ h hl hP hD hS
def f_Calls_markBegun : Nat → Nat → sS → (Nat → Int32) → (Nat → Int64) → Option (Int32 × sS)
  | 0, _, _, _, _ => none
  | k + 1, 0, S, L, M => if (S.1 6 9) ≤ (0 : Int32) then (f_Calls_markBegun k 1 S L M) else (if okI ((S.1 6 9) - (1 : Int32)) 50 = true then (f_Calls_markBegun k 1 (putA S 24 ((S.1 6 9) - (1 : Int32) : Int32).toNatClampNeg (vp_nar .boolean 1)) L M) else none)
  | k + 1, 1, S, L, M => some ((0 : Int32), S)
  | _ + 1, _ + 2, _, _, _ => none
set_option maxHeartbeats 8000000 in
set_option maxRecDepth 100000 in
theorem w_Calls_markBegun {p : Program} {l : Launch} {e : Env} {R : Room} {s : State} {m : MethodId} {args : Array Value} {below : List Frame} {meth : Method} {c : Code} {cells slots : Nat} {Q : State → Prop} {g : gG} {A : Nat → Prop} {ad : Nat → Nat} (hx : p.tables.exec = Jvm.exec) (hb : c.code = b_Calls_markBegun) (hml : c.maxLocals = 1) (hown : s.vm.findClass "MacroMill$Calls" = some m.cls) (htt : ∀ w ∈ gt, w.before args s = true) (hK : va_K g.1 classes (tysG g) s) (hN : nw s) (hA : ∀ q : Nat, s.heap.size ≤ q → A q) (r : Int32) (S9 : sS)
    (kx_19 : ∀ (ls : Array Slot) (H : Heap) (locs : List Loc), va_P g.1 classes (Sw shC g ad S9) H → va_D A (Sw shC g ad S9) → va_S A s.heap H locs → W p l e R s m args below meth c H locs cells slots Q (F0 m 19 ls [])) :
    ∀ k9 : Nat, (∀ (S : sS) (L : Nat → Int32) (M : Nat → Int64) (ls : Array Slot) (H : Heap) (locs : List Loc), f_Calls_markBegun k9 0 S L M = some (r, S9) → lv_has ls 1 [(0, .ref (ad 6))] → va_P g.1 classes (Sw shC g ad S) H → va_D A (Sw shC g ad S) → va_S A s.heap H locs → W p l e R s m args below meth c H locs cells slots Q (F0 m 0 ls [])) ∧ (∀ (S : sS) (L : Nat → Int32) (M : Nat → Int64) (ls : Array Slot) (H : Heap) (locs : List Loc), f_Calls_markBegun k9 1 S L M = some (r, S9) → lv_has ls 1 [(0, .ref (ad 6))] → va_P g.1 classes (Sw shC g ad S) H → va_D A (Sw shC g ad S) → va_S A s.heap H locs → W p l e R s m args below meth c H locs cells slots Q (F0 m 19 ls [])) := by
  intro k9
  induction k9 with
  | zero => exact ⟨(fun _ _ _ _ _ _ h => by simp [f_Calls_markBegun] at h), (fun _ _ _ _ _ _ h => by simp [f_Calls_markBegun] at h)⟩
  | succ k9 ih =>
    refine ⟨?_, ?_⟩
    · intro S L M ls H locs h hl hP hD hS
      simp only [f_Calls_markBegun] at h
      refine lv_aload_n hx hb d_Calls_markBegun_0 rfl (lv_at hl 0 rfl) ?_
      refine S_getI (h := shC) (C := "MacroMill$Calls") (T := F_Calls) hx hb htt in_Calls hown hK hP 6 9 rfl rfl rfl (by decide) (htt _ k_455) (fun _ h9 => h9) d_Calls_markBegun_1 ?_
      refine lv_if_le (tgt := 19) hx hb d_Calls_markBegun_4 (by decide) (fun hc1 => ?_) (fun hc1 => ?_)
      · rw [if_pos hc1] at h
        exact (ih.2) S L M ls H locs h (lv_sub hl [0] rfl) hP hD hS
      · rw [if_neg hc1] at h
        refine lv_aload_n hx hb d_Calls_markBegun_7 rfl (lv_at hl 0 rfl) ?_
        refine S_getR (h := shC) (C := "MacroMill$Calls") (T := F_Calls) hx hb htt in_Calls hown hK hP 6 8 rfl 37 rfl rfl (by decide) (htt _ k_454) (fun _ h9 => h9) d_Calls_markBegun_8 ?_
        refine lv_aload_n hx hb d_Calls_markBegun_11 rfl (lv_at hl 0 rfl) ?_
        refine S_getI (h := shC) (C := "MacroMill$Calls") (T := F_Calls) hx hb htt in_Calls hown hK hP 6 9 rfl rfl rfl (by decide) (htt _ k_455) (fun _ h9 => h9) d_Calls_markBegun_12 ?_
        refine lv_iconst (v := 1) hx hb d_Calls_markBegun_15 (by decide) ?_
        refine lv_isub hx hb d_Calls_markBegun_16 ?_
        refine lv_iconst (v := 1) hx hb d_Calls_markBegun_17 (by decide) ?_
        obtain ⟨hv2, h⟩ := chk h
        refine S_zast (h := shC) (i := (S.1 6 9) - (1 : Int32)) (v := 1) hx hb hK hP hD hS 24 rfl (okI_in hv2) d_Calls_markBegun_18 (fun H locs hP hD hS => ?_)
        exact (ih.2) (putA S 24 ((S.1 6 9) - (1 : Int32) : Int32).toNatClampNeg (vp_nar .boolean 1)) L M ls H locs h (lv_sub hl [0] rfl) hP hD hS
    · intro S L M ls H locs h hl hP hD hS
      simp only [f_Calls_markBegun] at h
      cases h
      exact kx_19 ls H locs hP hD hS
abbrev rm_t_Calls_markBegun : Room := { frames := 0, cells := 0, slots := 0, locals := 0 }
theorem t_Calls_markBegun (l : Launch) (g : gG) (sz : Nat) (ad : Nat → Nat) (S : sS) (k : Nat) (r : Int32) (S9 : sS) (h : f_Calls_markBegun k 0 S (fun _ => 0) (fun _ => 0) = some (r, S9)) : Cv l y_Calls_markBegun b_Calls_markBegun 1 rm_t_Calls_markBegun g [.ref (ad 6)] (Sw shC g ad S) sz (fun w => ∃ S1 : sS, w = Sw shC g ad S1 ∧ S1 = S9) := by
  refine startV (by decide) (Nat.le_of_ble_eq_true rfl) ?_
  intro p e s m below meth c A ls hx hb hr hml hlocks hmn hown htt hN hA hP hK hD hS hl
  exact (w_Calls_markBegun hx hb hml hown htt hK hN hA r S9 (fun ls H locs hP hD hS => fin_v (g := g) (ws := Sw shC g ad S9) hx hb hr hlocks (by decide +kernel) (by decide +kernel) hP hD hS ⟨_, rfl, rfl⟩ d_Calls_markBegun_19) k).1 S (fun _ => 0) (fun _ => 0) ls _ _ h hl hP hD hS
def f_Calls_nestingNow : Nat → Nat → sS → (Nat → Int32) → (Nat → Int64) → Option (Int32 × sS)
  | 0, _, _, _, _ => none
  | k + 1, 0, S, L, M => if (S.1 6 9) ≤ (0 : Int32) then (f_Calls_nestingNow k 1 S (upd L 100 (0 : Int32)) M) else (if okI ((S.1 6 9) - (1 : Int32)) 50 = true then (f_Calls_nestingNow k 1 S (upd L 100 (S.2.1 23 ((S.1 6 9) - (1 : Int32) : Int32).toNatClampNeg)) M) else none)
  | k + 1, 1, S, L, M => some (L 100, S)
  | _ + 1, _ + 2, _, _, _ => none
set_option maxHeartbeats 8000000 in
set_option maxRecDepth 100000 in
theorem w_Calls_nestingNow {p : Program} {l : Launch} {e : Env} {R : Room} {s : State} {m : MethodId} {args : Array Value} {below : List Frame} {meth : Method} {c : Code} {cells slots : Nat} {Q : State → Prop} {g : gG} {A : Nat → Prop} {ad : Nat → Nat} (hx : p.tables.exec = Jvm.exec) (hb : c.code = b_Calls_nestingNow) (hml : c.maxLocals = 1) (hown : s.vm.findClass "MacroMill$Calls" = some m.cls) (htt : ∀ w ∈ gt, w.before args s = true) (hK : va_K g.1 classes (tysG g) s) (hN : nw s) (hA : ∀ q : Nat, s.heap.size ≤ q → A q) (r : Int32) (S9 : sS)
    (kx_22 : ∀ (ls : Array Slot) (H : Heap) (locs : List Loc), va_P g.1 classes (Sw shC g ad S9) H → va_D A (Sw shC g ad S9) → va_S A s.heap H locs → W p l e R s m args below meth c H locs cells slots Q (F0 m 22 ls [.int r])) :
    ∀ k9 : Nat, (∀ (S : sS) (L : Nat → Int32) (M : Nat → Int64) (ls : Array Slot) (H : Heap) (locs : List Loc), f_Calls_nestingNow k9 0 S L M = some (r, S9) → lv_has ls 1 [(0, .ref (ad 6))] → va_P g.1 classes (Sw shC g ad S) H → va_D A (Sw shC g ad S) → va_S A s.heap H locs → W p l e R s m args below meth c H locs cells slots Q (F0 m 0 ls [])) ∧ (∀ (S : sS) (L : Nat → Int32) (M : Nat → Int64) (ls : Array Slot) (H : Heap) (locs : List Loc), f_Calls_nestingNow k9 1 S L M = some (r, S9) → lv_has ls 1 [(0, .ref (ad 6))] → va_P g.1 classes (Sw shC g ad S) H → va_D A (Sw shC g ad S) → va_S A s.heap H locs → W p l e R s m args below meth c H locs cells slots Q (F0 m 22 ls [.int (L 100)])) := by
  intro k9
  induction k9 with
  | zero => exact ⟨(fun _ _ _ _ _ _ h => by simp [f_Calls_nestingNow] at h), (fun _ _ _ _ _ _ h => by simp [f_Calls_nestingNow] at h)⟩
  | succ k9 ih =>
    refine ⟨?_, ?_⟩
    · intro S L M ls H locs h hl hP hD hS
      simp only [f_Calls_nestingNow] at h
      refine lv_aload_n hx hb d_Calls_nestingNow_0 rfl (lv_at hl 0 rfl) ?_
      refine S_getI (h := shC) (C := "MacroMill$Calls") (T := F_Calls) hx hb htt in_Calls hown hK hP 6 9 rfl rfl rfl (by decide) (htt _ k_455) (fun _ h9 => h9) d_Calls_nestingNow_1 ?_
      refine lv_if_le (tgt := 21) hx hb d_Calls_nestingNow_4 (by decide) (fun hc1 => ?_) (fun hc1 => ?_)
      · rw [if_pos hc1] at h
        refine lv_iconst (v := 0) hx hb d_Calls_nestingNow_21 (by decide) ?_
        exact (ih.2) S (upd L 100 (0 : Int32)) M ls H locs h (lv_sub hl [0] rfl) hP hD hS
      · rw [if_neg hc1] at h
        refine lv_aload_n hx hb d_Calls_nestingNow_7 rfl (lv_at hl 0 rfl) ?_
        refine S_getR (h := shC) (C := "MacroMill$Calls") (T := F_Calls) hx hb htt in_Calls hown hK hP 6 7 rfl 36 rfl rfl (by decide) (htt _ k_453) (fun _ h9 => h9) d_Calls_nestingNow_8 ?_
        refine lv_aload_n hx hb d_Calls_nestingNow_11 rfl (lv_at hl 0 rfl) ?_
        refine S_getI (h := shC) (C := "MacroMill$Calls") (T := F_Calls) hx hb htt in_Calls hown hK hP 6 9 rfl rfl rfl (by decide) (htt _ k_455) (fun _ h9 => h9) d_Calls_nestingNow_12 ?_
        refine lv_iconst (v := 1) hx hb d_Calls_nestingNow_15 (by decide) ?_
        refine lv_isub hx hb d_Calls_nestingNow_16 ?_
        obtain ⟨hv2, h⟩ := chk h
        refine S_iald (h := shC) (i := (S.1 6 9) - (1 : Int32)) hx hb hK hP 23 rfl (okI_in hv2) d_Calls_nestingNow_17 ?_
        refine lv_goto (tgt := 22) hx hb d_Calls_nestingNow_18 (by decide) ?_
        exact (ih.2) S (upd L 100 (S.2.1 23 ((S.1 6 9) - (1 : Int32) : Int32).toNatClampNeg)) M ls H locs h (lv_sub hl [0] rfl) hP hD hS
    · intro S L M ls H locs h hl hP hD hS
      simp only [f_Calls_nestingNow] at h
      cases h
      exact kx_22 ls H locs hP hD hS
abbrev rm_t_Calls_nestingNow : Room := { frames := 0, cells := 0, slots := 0, locals := 0 }
theorem t_Calls_nestingNow (l : Launch) (g : gG) (sz : Nat) (ad : Nat → Nat) (S : sS) (k : Nat) (r : Int32) (S9 : sS) (h : f_Calls_nestingNow k 0 S (fun _ => 0) (fun _ => 0) = some (r, S9)) : Ci l y_Calls_nestingNow b_Calls_nestingNow 1 rm_t_Calls_nestingNow g [.ref (ad 6)] (Sw shC g ad S) sz (fun r1 w => ∃ S1 : sS, w = Sw shC g ad S1 ∧ r1 = r ∧ S1 = S9) := by
  refine startI (by decide) (Nat.le_of_ble_eq_true rfl) ?_
  intro p e s m below meth c A ls hx hb hr hml hlocks hmn hown htt hN hA hP hK hD hS hl
  exact (w_Calls_nestingNow hx hb hml hown htt hK hN hA r S9 (fun ls H locs hP hD hS => fin_i (g := g) (ws := Sw shC g ad S9) hx hb hr hlocks (by decide +kernel) (by decide +kernel) hP hD hS ⟨_, rfl, rfl, rfl⟩ d_Calls_nestingNow_22) k).1 S (fun _ => 0) (fun _ => 0) ls _ _ h hl hP hD hS
def f_Calls_nestBy : Nat → Nat → sS → (Nat → Int32) → (Nat → Int64) → Option (Int32 × sS)
  | 0, _, _, _, _ => none
  | k + 1, 0, S, L, M => if (S.1 6 9) ≤ (0 : Int32) then (f_Calls_nestBy k 1 S L M) else (if okI ((S.1 6 9) - (1 : Int32)) 50 = true then (if okI ((S.1 6 9) - (1 : Int32)) 50 = true then (f_Calls_nestBy k 1 (putA S 23 ((S.1 6 9) - (1 : Int32) : Int32).toNatClampNeg ((S.2.1 23 ((S.1 6 9) - (1 : Int32) : Int32).toNatClampNeg) + (L 1))) L M) else none) else none)
  | k + 1, 1, S, L, M => some ((0 : Int32), S)
  | _ + 1, _ + 2, _, _, _ => none
set_option maxHeartbeats 8000000 in
set_option maxRecDepth 100000 in
theorem w_Calls_nestBy {p : Program} {l : Launch} {e : Env} {R : Room} {s : State} {m : MethodId} {args : Array Value} {below : List Frame} {meth : Method} {c : Code} {cells slots : Nat} {Q : State → Prop} {g : gG} {A : Nat → Prop} {ad : Nat → Nat} (hx : p.tables.exec = Jvm.exec) (hb : c.code = b_Calls_nestBy) (hml : c.maxLocals = 2) (hown : s.vm.findClass "MacroMill$Calls" = some m.cls) (htt : ∀ w ∈ gt, w.before args s = true) (hK : va_K g.1 classes (tysG g) s) (hN : nw s) (hA : ∀ q : Nat, s.heap.size ≤ q → A q) (r : Int32) (S9 : sS)
    (kx_22 : ∀ (ls : Array Slot) (H : Heap) (locs : List Loc), va_P g.1 classes (Sw shC g ad S9) H → va_D A (Sw shC g ad S9) → va_S A s.heap H locs → W p l e R s m args below meth c H locs cells slots Q (F0 m 22 ls [])) :
    ∀ k9 : Nat, (∀ (S : sS) (L : Nat → Int32) (M : Nat → Int64) (ls : Array Slot) (H : Heap) (locs : List Loc), f_Calls_nestBy k9 0 S L M = some (r, S9) → lv_has ls 2 [(0, .ref (ad 6)), (1, .int (L 1))] → va_P g.1 classes (Sw shC g ad S) H → va_D A (Sw shC g ad S) → va_S A s.heap H locs → W p l e R s m args below meth c H locs cells slots Q (F0 m 0 ls [])) ∧ (∀ (S : sS) (L : Nat → Int32) (M : Nat → Int64) (ls : Array Slot) (H : Heap) (locs : List Loc), f_Calls_nestBy k9 1 S L M = some (r, S9) → lv_has ls 2 [(0, .ref (ad 6)), (1, .int (L 1))] → va_P g.1 classes (Sw shC g ad S) H → va_D A (Sw shC g ad S) → va_S A s.heap H locs → W p l e R s m args below meth c H locs cells slots Q (F0 m 22 ls [])) := by
  intro k9
  induction k9 with
  | zero => exact ⟨(fun _ _ _ _ _ _ h => by simp [f_Calls_nestBy] at h), (fun _ _ _ _ _ _ h => by simp [f_Calls_nestBy] at h)⟩
  | succ k9 ih =>
    refine ⟨?_, ?_⟩
    · intro S L M ls H locs h hl hP hD hS
      simp only [f_Calls_nestBy] at h
      refine lv_aload_n hx hb d_Calls_nestBy_0 rfl (lv_at hl 0 rfl) ?_
      refine S_getI (h := shC) (C := "MacroMill$Calls") (T := F_Calls) hx hb htt in_Calls hown hK hP 6 9 rfl rfl rfl (by decide) (htt _ k_455) (fun _ h9 => h9) d_Calls_nestBy_1 ?_
      refine lv_if_le (tgt := 22) hx hb d_Calls_nestBy_4 (by decide) (fun hc1 => ?_) (fun hc1 => ?_)
      · rw [if_pos hc1] at h
        exact (ih.2) S L M ls H locs h (lv_sub hl [0, 1] rfl) hP hD hS
      · rw [if_neg hc1] at h
        refine lv_aload_n hx hb d_Calls_nestBy_7 rfl (lv_at hl 0 rfl) ?_
        refine S_getR (h := shC) (C := "MacroMill$Calls") (T := F_Calls) hx hb htt in_Calls hown hK hP 6 7 rfl 36 rfl rfl (by decide) (htt _ k_453) (fun _ h9 => h9) d_Calls_nestBy_8 ?_
        refine lv_aload_n hx hb d_Calls_nestBy_11 rfl (lv_at hl 0 rfl) ?_
        refine S_getI (h := shC) (C := "MacroMill$Calls") (T := F_Calls) hx hb htt in_Calls hown hK hP 6 9 rfl rfl rfl (by decide) (htt _ k_455) (fun _ h9 => h9) d_Calls_nestBy_12 ?_
        refine lv_iconst (v := 1) hx hb d_Calls_nestBy_15 (by decide) ?_
        refine lv_isub hx hb d_Calls_nestBy_16 ?_
        refine lv_dup2_11 hx hb d_Calls_nestBy_17 rfl rfl ?_
        obtain ⟨hv2, h⟩ := chk h
        refine S_iald (h := shC) (i := (S.1 6 9) - (1 : Int32)) hx hb hK hP 23 rfl (okI_in hv2) d_Calls_nestBy_18 ?_
        refine lv_iload_n hx hb d_Calls_nestBy_19 rfl (lv_at hl 1 rfl) ?_
        show W _ _ _ _ _ _ _ _ _ _ _ _ _ _ _ (F0 _ 20 _ _)
        refine lv_iadd hx hb d_Calls_nestBy_20 ?_
        obtain ⟨hv3, h⟩ := chk h
        refine S_iast (h := shC) (i := (S.1 6 9) - (1 : Int32)) (v := (S.2.1 23 ((S.1 6 9) - (1 : Int32) : Int32).toNatClampNeg) + (L 1)) hx hb hK hP hD hS 23 rfl (okI_in hv3) d_Calls_nestBy_21 (fun H locs hP hD hS => ?_)
        exact (ih.2) (putA S 23 ((S.1 6 9) - (1 : Int32) : Int32).toNatClampNeg ((S.2.1 23 ((S.1 6 9) - (1 : Int32) : Int32).toNatClampNeg) + (L 1))) L M ls H locs h (lv_sub hl [0, 1] rfl) hP hD hS
    · intro S L M ls H locs h hl hP hD hS
      simp only [f_Calls_nestBy] at h
      cases h
      exact kx_22 ls H locs hP hD hS
abbrev rm_t_Calls_nestBy : Room := { frames := 0, cells := 0, slots := 0, locals := 0 }
theorem t_Calls_nestBy (l : Launch) (g : gG) (sz : Nat) (ad : Nat → Nat) (S : sS) (v1 : Int32) (k : Nat) (r : Int32) (S9 : sS) (h : f_Calls_nestBy k 0 S (upd (fun _ => 0) 1 v1) (fun _ => 0) = some (r, S9)) : Cv l y_Calls_nestBy b_Calls_nestBy 2 rm_t_Calls_nestBy g [.ref (ad 6), .int v1] (Sw shC g ad S) sz (fun w => ∃ S1 : sS, w = Sw shC g ad S1 ∧ S1 = S9) := by
  refine startV (by decide) (Nat.le_of_ble_eq_true rfl) ?_
  intro p e s m below meth c A ls hx hb hr hml hlocks hmn hown htt hN hA hP hK hD hS hl
  exact (w_Calls_nestBy hx hb hml hown htt hK hN hA r S9 (fun ls H locs hP hD hS => fin_v (g := g) (ws := Sw shC g ad S9) hx hb hr hlocks (by decide +kernel) (by decide +kernel) hP hD hS ⟨_, rfl, rfl⟩ d_Calls_nestBy_22) k).1 S (upd (fun _ => 0) 1 v1) (fun _ => 0) ls _ _ h hl hP hD hS
def f_Calls_nameFrom : Nat → Nat → sS → (Nat → Int32) → (Nat → Int64) → Option (Int32 × sS)
  | 0, _, _, _, _ => none
  | k + 1, 0, S, L, M => if (S.1 6 9) ≤ (0 : Int32) then (f_Calls_nameFrom k 1 S (upd L 100 (0 : Int32)) M) else (if okI ((S.1 6 9) - (1 : Int32)) 50 = true then (f_Calls_nameFrom k 1 S (upd L 100 (S.2.1 20 ((S.1 6 9) - (1 : Int32) : Int32).toNatClampNeg)) M) else none)
  | k + 1, 1, S, L, M => some (L 100, S)
  | _ + 1, _ + 2, _, _, _ => none
set_option maxHeartbeats 8000000 in
set_option maxRecDepth 100000 in
theorem w_Calls_nameFrom {p : Program} {l : Launch} {e : Env} {R : Room} {s : State} {m : MethodId} {args : Array Value} {below : List Frame} {meth : Method} {c : Code} {cells slots : Nat} {Q : State → Prop} {g : gG} {A : Nat → Prop} {ad : Nat → Nat} (hx : p.tables.exec = Jvm.exec) (hb : c.code = b_Calls_nameFrom) (hml : c.maxLocals = 1) (hown : s.vm.findClass "MacroMill$Calls" = some m.cls) (htt : ∀ w ∈ gt, w.before args s = true) (hK : va_K g.1 classes (tysG g) s) (hN : nw s) (hA : ∀ q : Nat, s.heap.size ≤ q → A q) (r : Int32) (S9 : sS)
    (kx_22 : ∀ (ls : Array Slot) (H : Heap) (locs : List Loc), va_P g.1 classes (Sw shC g ad S9) H → va_D A (Sw shC g ad S9) → va_S A s.heap H locs → W p l e R s m args below meth c H locs cells slots Q (F0 m 22 ls [.int r])) :
    ∀ k9 : Nat, (∀ (S : sS) (L : Nat → Int32) (M : Nat → Int64) (ls : Array Slot) (H : Heap) (locs : List Loc), f_Calls_nameFrom k9 0 S L M = some (r, S9) → lv_has ls 1 [(0, .ref (ad 6))] → va_P g.1 classes (Sw shC g ad S) H → va_D A (Sw shC g ad S) → va_S A s.heap H locs → W p l e R s m args below meth c H locs cells slots Q (F0 m 0 ls [])) ∧ (∀ (S : sS) (L : Nat → Int32) (M : Nat → Int64) (ls : Array Slot) (H : Heap) (locs : List Loc), f_Calls_nameFrom k9 1 S L M = some (r, S9) → lv_has ls 1 [(0, .ref (ad 6))] → va_P g.1 classes (Sw shC g ad S) H → va_D A (Sw shC g ad S) → va_S A s.heap H locs → W p l e R s m args below meth c H locs cells slots Q (F0 m 22 ls [.int (L 100)])) := by
  intro k9
  induction k9 with
  | zero => exact ⟨(fun _ _ _ _ _ _ h => by simp [f_Calls_nameFrom] at h), (fun _ _ _ _ _ _ h => by simp [f_Calls_nameFrom] at h)⟩
  | succ k9 ih =>
    refine ⟨?_, ?_⟩
    · intro S L M ls H locs h hl hP hD hS
      simp only [f_Calls_nameFrom] at h
      refine lv_aload_n hx hb d_Calls_nameFrom_0 rfl (lv_at hl 0 rfl) ?_
      refine S_getI (h := shC) (C := "MacroMill$Calls") (T := F_Calls) hx hb htt in_Calls hown hK hP 6 9 rfl rfl rfl (by decide) (htt _ k_455) (fun _ h9 => h9) d_Calls_nameFrom_1 ?_
      refine lv_if_le (tgt := 21) hx hb d_Calls_nameFrom_4 (by decide) (fun hc1 => ?_) (fun hc1 => ?_)
      · rw [if_pos hc1] at h
        refine lv_iconst (v := 0) hx hb d_Calls_nameFrom_21 (by decide) ?_
        exact (ih.2) S (upd L 100 (0 : Int32)) M ls H locs h (lv_sub hl [0] rfl) hP hD hS
      · rw [if_neg hc1] at h
        refine lv_aload_n hx hb d_Calls_nameFrom_7 rfl (lv_at hl 0 rfl) ?_
        refine S_getR (h := shC) (C := "MacroMill$Calls") (T := F_Calls) hx hb htt in_Calls hown hK hP 6 4 rfl 33 rfl rfl (by decide) (htt _ k_450) (fun _ h9 => h9) d_Calls_nameFrom_8 ?_
        refine lv_aload_n hx hb d_Calls_nameFrom_11 rfl (lv_at hl 0 rfl) ?_
        refine S_getI (h := shC) (C := "MacroMill$Calls") (T := F_Calls) hx hb htt in_Calls hown hK hP 6 9 rfl rfl rfl (by decide) (htt _ k_455) (fun _ h9 => h9) d_Calls_nameFrom_12 ?_
        refine lv_iconst (v := 1) hx hb d_Calls_nameFrom_15 (by decide) ?_
        refine lv_isub hx hb d_Calls_nameFrom_16 ?_
        obtain ⟨hv2, h⟩ := chk h
        refine S_iald (h := shC) (i := (S.1 6 9) - (1 : Int32)) hx hb hK hP 20 rfl (okI_in hv2) d_Calls_nameFrom_17 ?_
        refine lv_goto (tgt := 22) hx hb d_Calls_nameFrom_18 (by decide) ?_
        exact (ih.2) S (upd L 100 (S.2.1 20 ((S.1 6 9) - (1 : Int32) : Int32).toNatClampNeg)) M ls H locs h (lv_sub hl [0] rfl) hP hD hS
    · intro S L M ls H locs h hl hP hD hS
      simp only [f_Calls_nameFrom] at h
      cases h
      exact kx_22 ls H locs hP hD hS
abbrev rm_t_Calls_nameFrom : Room := { frames := 0, cells := 0, slots := 0, locals := 0 }
theorem t_Calls_nameFrom (l : Launch) (g : gG) (sz : Nat) (ad : Nat → Nat) (S : sS) (k : Nat) (r : Int32) (S9 : sS) (h : f_Calls_nameFrom k 0 S (fun _ => 0) (fun _ => 0) = some (r, S9)) : Ci l y_Calls_nameFrom b_Calls_nameFrom 1 rm_t_Calls_nameFrom g [.ref (ad 6)] (Sw shC g ad S) sz (fun r1 w => ∃ S1 : sS, w = Sw shC g ad S1 ∧ r1 = r ∧ S1 = S9) := by
  refine startI (by decide) (Nat.le_of_ble_eq_true rfl) ?_
  intro p e s m below meth c A ls hx hb hr hml hlocks hmn hown htt hN hA hP hK hD hS hl
  exact (w_Calls_nameFrom hx hb hml hown htt hK hN hA r S9 (fun ls H locs hP hD hS => fin_i (g := g) (ws := Sw shC g ad S9) hx hb hr hlocks (by decide +kernel) (by decide +kernel) hP hD hS ⟨_, rfl, rfl, rfl⟩ d_Calls_nameFrom_22) k).1 S (fun _ => 0) (fun _ => 0) ls _ _ h hl hP hD hS
def f_Calls_nameSize : Nat → Nat → sS → (Nat → Int32) → (Nat → Int64) → Option (Int32 × sS)
  | 0, _, _, _, _ => none
  | k + 1, 0, S, L, M => if (S.1 6 9) ≤ (0 : Int32) then (f_Calls_nameSize k 1 S (upd L 100 (0 : Int32)) M) else (if okI ((S.1 6 9) - (1 : Int32)) 50 = true then (f_Calls_nameSize k 1 S (upd L 100 (S.2.1 21 ((S.1 6 9) - (1 : Int32) : Int32).toNatClampNeg)) M) else none)
  | k + 1, 1, S, L, M => some (L 100, S)
  | _ + 1, _ + 2, _, _, _ => none
set_option maxHeartbeats 8000000 in
set_option maxRecDepth 100000 in
theorem w_Calls_nameSize {p : Program} {l : Launch} {e : Env} {R : Room} {s : State} {m : MethodId} {args : Array Value} {below : List Frame} {meth : Method} {c : Code} {cells slots : Nat} {Q : State → Prop} {g : gG} {A : Nat → Prop} {ad : Nat → Nat} (hx : p.tables.exec = Jvm.exec) (hb : c.code = b_Calls_nameSize) (hml : c.maxLocals = 1) (hown : s.vm.findClass "MacroMill$Calls" = some m.cls) (htt : ∀ w ∈ gt, w.before args s = true) (hK : va_K g.1 classes (tysG g) s) (hN : nw s) (hA : ∀ q : Nat, s.heap.size ≤ q → A q) (r : Int32) (S9 : sS)
    (kx_22 : ∀ (ls : Array Slot) (H : Heap) (locs : List Loc), va_P g.1 classes (Sw shC g ad S9) H → va_D A (Sw shC g ad S9) → va_S A s.heap H locs → W p l e R s m args below meth c H locs cells slots Q (F0 m 22 ls [.int r])) :
    ∀ k9 : Nat, (∀ (S : sS) (L : Nat → Int32) (M : Nat → Int64) (ls : Array Slot) (H : Heap) (locs : List Loc), f_Calls_nameSize k9 0 S L M = some (r, S9) → lv_has ls 1 [(0, .ref (ad 6))] → va_P g.1 classes (Sw shC g ad S) H → va_D A (Sw shC g ad S) → va_S A s.heap H locs → W p l e R s m args below meth c H locs cells slots Q (F0 m 0 ls [])) ∧ (∀ (S : sS) (L : Nat → Int32) (M : Nat → Int64) (ls : Array Slot) (H : Heap) (locs : List Loc), f_Calls_nameSize k9 1 S L M = some (r, S9) → lv_has ls 1 [(0, .ref (ad 6))] → va_P g.1 classes (Sw shC g ad S) H → va_D A (Sw shC g ad S) → va_S A s.heap H locs → W p l e R s m args below meth c H locs cells slots Q (F0 m 22 ls [.int (L 100)])) := by
  intro k9
  induction k9 with
  | zero => exact ⟨(fun _ _ _ _ _ _ h => by simp [f_Calls_nameSize] at h), (fun _ _ _ _ _ _ h => by simp [f_Calls_nameSize] at h)⟩
  | succ k9 ih =>
    refine ⟨?_, ?_⟩
    · intro S L M ls H locs h hl hP hD hS
      simp only [f_Calls_nameSize] at h
      refine lv_aload_n hx hb d_Calls_nameSize_0 rfl (lv_at hl 0 rfl) ?_
      refine S_getI (h := shC) (C := "MacroMill$Calls") (T := F_Calls) hx hb htt in_Calls hown hK hP 6 9 rfl rfl rfl (by decide) (htt _ k_455) (fun _ h9 => h9) d_Calls_nameSize_1 ?_
      refine lv_if_le (tgt := 21) hx hb d_Calls_nameSize_4 (by decide) (fun hc1 => ?_) (fun hc1 => ?_)
      · rw [if_pos hc1] at h
        refine lv_iconst (v := 0) hx hb d_Calls_nameSize_21 (by decide) ?_
        exact (ih.2) S (upd L 100 (0 : Int32)) M ls H locs h (lv_sub hl [0] rfl) hP hD hS
      · rw [if_neg hc1] at h
        refine lv_aload_n hx hb d_Calls_nameSize_7 rfl (lv_at hl 0 rfl) ?_
        refine S_getR (h := shC) (C := "MacroMill$Calls") (T := F_Calls) hx hb htt in_Calls hown hK hP 6 5 rfl 34 rfl rfl (by decide) (htt _ k_451) (fun _ h9 => h9) d_Calls_nameSize_8 ?_
        refine lv_aload_n hx hb d_Calls_nameSize_11 rfl (lv_at hl 0 rfl) ?_
        refine S_getI (h := shC) (C := "MacroMill$Calls") (T := F_Calls) hx hb htt in_Calls hown hK hP 6 9 rfl rfl rfl (by decide) (htt _ k_455) (fun _ h9 => h9) d_Calls_nameSize_12 ?_
        refine lv_iconst (v := 1) hx hb d_Calls_nameSize_15 (by decide) ?_
        refine lv_isub hx hb d_Calls_nameSize_16 ?_
        obtain ⟨hv2, h⟩ := chk h
        refine S_iald (h := shC) (i := (S.1 6 9) - (1 : Int32)) hx hb hK hP 21 rfl (okI_in hv2) d_Calls_nameSize_17 ?_
        refine lv_goto (tgt := 22) hx hb d_Calls_nameSize_18 (by decide) ?_
        exact (ih.2) S (upd L 100 (S.2.1 21 ((S.1 6 9) - (1 : Int32) : Int32).toNatClampNeg)) M ls H locs h (lv_sub hl [0] rfl) hP hD hS
    · intro S L M ls H locs h hl hP hD hS
      simp only [f_Calls_nameSize] at h
      cases h
      exact kx_22 ls H locs hP hD hS
abbrev rm_t_Calls_nameSize : Room := { frames := 0, cells := 0, slots := 0, locals := 0 }
theorem t_Calls_nameSize (l : Launch) (g : gG) (sz : Nat) (ad : Nat → Nat) (S : sS) (k : Nat) (r : Int32) (S9 : sS) (h : f_Calls_nameSize k 0 S (fun _ => 0) (fun _ => 0) = some (r, S9)) : Ci l y_Calls_nameSize b_Calls_nameSize 1 rm_t_Calls_nameSize g [.ref (ad 6)] (Sw shC g ad S) sz (fun r1 w => ∃ S1 : sS, w = Sw shC g ad S1 ∧ r1 = r ∧ S1 = S9) := by
  refine startI (by decide) (Nat.le_of_ble_eq_true rfl) ?_
  intro p e s m below meth c A ls hx hb hr hml hlocks hmn hown htt hN hA hP hK hD hS hl
  exact (w_Calls_nameSize hx hb hml hown htt hK hN hA r S9 (fun ls H locs hP hD hS => fin_i (g := g) (ws := Sw shC g ad S9) hx hb hr hlocks (by decide +kernel) (by decide +kernel) hP hD hS ⟨_, rfl, rfl, rfl⟩ d_Calls_nameSize_22) k).1 S (fun _ => 0) (fun _ => 0) ls _ _ h hl hP hD hS
def f_Calls_arguments : Nat → Nat → sS → (Nat → Int32) → (Nat → Int64) → Option (Int32 × sS)
  | 0, _, _, _, _ => none
  | k + 1, 0, S, L, M => if (S.1 6 9) ≤ (0 : Int32) then (f_Calls_arguments k 1 S (upd L 100 (0 : Int32)) M) else (if okI ((S.1 6 9) - (1 : Int32)) 50 = true then (f_Calls_arguments k 1 S (upd L 100 ((S.1 6 3) - (S.2.1 22 ((S.1 6 9) - (1 : Int32) : Int32).toNatClampNeg))) M) else none)
  | k + 1, 1, S, L, M => some (L 100, S)
  | _ + 1, _ + 2, _, _, _ => none
set_option maxHeartbeats 8000000 in
set_option maxRecDepth 100000 in
theorem w_Calls_arguments {p : Program} {l : Launch} {e : Env} {R : Room} {s : State} {m : MethodId} {args : Array Value} {below : List Frame} {meth : Method} {c : Code} {cells slots : Nat} {Q : State → Prop} {g : gG} {A : Nat → Prop} {ad : Nat → Nat} (hx : p.tables.exec = Jvm.exec) (hb : c.code = b_Calls_arguments) (hml : c.maxLocals = 1) (hown : s.vm.findClass "MacroMill$Calls" = some m.cls) (htt : ∀ w ∈ gt, w.before args s = true) (hK : va_K g.1 classes (tysG g) s) (hN : nw s) (hA : ∀ q : Nat, s.heap.size ≤ q → A q) (r : Int32) (S9 : sS)
    (kx_27 : ∀ (ls : Array Slot) (H : Heap) (locs : List Loc), va_P g.1 classes (Sw shC g ad S9) H → va_D A (Sw shC g ad S9) → va_S A s.heap H locs → W p l e R s m args below meth c H locs cells slots Q (F0 m 27 ls [.int r])) :
    ∀ k9 : Nat, (∀ (S : sS) (L : Nat → Int32) (M : Nat → Int64) (ls : Array Slot) (H : Heap) (locs : List Loc), f_Calls_arguments k9 0 S L M = some (r, S9) → lv_has ls 1 [(0, .ref (ad 6))] → va_P g.1 classes (Sw shC g ad S) H → va_D A (Sw shC g ad S) → va_S A s.heap H locs → W p l e R s m args below meth c H locs cells slots Q (F0 m 0 ls [])) ∧ (∀ (S : sS) (L : Nat → Int32) (M : Nat → Int64) (ls : Array Slot) (H : Heap) (locs : List Loc), f_Calls_arguments k9 1 S L M = some (r, S9) → lv_has ls 1 [(0, .ref (ad 6))] → va_P g.1 classes (Sw shC g ad S) H → va_D A (Sw shC g ad S) → va_S A s.heap H locs → W p l e R s m args below meth c H locs cells slots Q (F0 m 27 ls [.int (L 100)])) := by
  intro k9
  induction k9 with
  | zero => exact ⟨(fun _ _ _ _ _ _ h => by simp [f_Calls_arguments] at h), (fun _ _ _ _ _ _ h => by simp [f_Calls_arguments] at h)⟩
  | succ k9 ih =>
    refine ⟨?_, ?_⟩
    · intro S L M ls H locs h hl hP hD hS
      simp only [f_Calls_arguments] at h
      refine lv_aload_n hx hb d_Calls_arguments_0 rfl (lv_at hl 0 rfl) ?_
      refine S_getI (h := shC) (C := "MacroMill$Calls") (T := F_Calls) hx hb htt in_Calls hown hK hP 6 9 rfl rfl rfl (by decide) (htt _ k_455) (fun _ h9 => h9) d_Calls_arguments_1 ?_
      refine lv_if_le (tgt := 26) hx hb d_Calls_arguments_4 (by decide) (fun hc1 => ?_) (fun hc1 => ?_)
      · rw [if_pos hc1] at h
        refine lv_iconst (v := 0) hx hb d_Calls_arguments_26 (by decide) ?_
        exact (ih.2) S (upd L 100 (0 : Int32)) M ls H locs h (lv_sub hl [0] rfl) hP hD hS
      · rw [if_neg hc1] at h
        refine lv_aload_n hx hb d_Calls_arguments_7 rfl (lv_at hl 0 rfl) ?_
        refine S_getI (h := shC) (C := "MacroMill$Calls") (T := F_Calls) hx hb htt in_Calls hown hK hP 6 3 rfl rfl rfl (by decide) (htt _ k_449) (fun _ h9 => h9) d_Calls_arguments_8 ?_
        refine lv_aload_n hx hb d_Calls_arguments_11 rfl (lv_at hl 0 rfl) ?_
        refine S_getR (h := shC) (C := "MacroMill$Calls") (T := F_Calls) hx hb htt in_Calls hown hK hP 6 6 rfl 35 rfl rfl (by decide) (htt _ k_452) (fun _ h9 => h9) d_Calls_arguments_12 ?_
        refine lv_aload_n hx hb d_Calls_arguments_15 rfl (lv_at hl 0 rfl) ?_
        refine S_getI (h := shC) (C := "MacroMill$Calls") (T := F_Calls) hx hb htt in_Calls hown hK hP 6 9 rfl rfl rfl (by decide) (htt _ k_455) (fun _ h9 => h9) d_Calls_arguments_16 ?_
        refine lv_iconst (v := 1) hx hb d_Calls_arguments_19 (by decide) ?_
        refine lv_isub hx hb d_Calls_arguments_20 ?_
        obtain ⟨hv2, h⟩ := chk h
        refine S_iald (h := shC) (i := (S.1 6 9) - (1 : Int32)) hx hb hK hP 22 rfl (okI_in hv2) d_Calls_arguments_21 ?_
        show W _ _ _ _ _ _ _ _ _ _ _ _ _ _ _ (F0 _ 22 _ _)
        refine lv_isub hx hb d_Calls_arguments_22 ?_
        refine lv_goto (tgt := 27) hx hb d_Calls_arguments_23 (by decide) ?_
        exact (ih.2) S (upd L 100 ((S.1 6 3) - (S.2.1 22 ((S.1 6 9) - (1 : Int32) : Int32).toNatClampNeg))) M ls H locs h (lv_sub hl [0] rfl) hP hD hS
    · intro S L M ls H locs h hl hP hD hS
      simp only [f_Calls_arguments] at h
      cases h
      exact kx_27 ls H locs hP hD hS
abbrev rm_t_Calls_arguments : Room := { frames := 0, cells := 0, slots := 0, locals := 0 }
theorem t_Calls_arguments (l : Launch) (g : gG) (sz : Nat) (ad : Nat → Nat) (S : sS) (k : Nat) (r : Int32) (S9 : sS) (h : f_Calls_arguments k 0 S (fun _ => 0) (fun _ => 0) = some (r, S9)) : Ci l y_Calls_arguments b_Calls_arguments 1 rm_t_Calls_arguments g [.ref (ad 6)] (Sw shC g ad S) sz (fun r1 w => ∃ S1 : sS, w = Sw shC g ad S1 ∧ r1 = r ∧ S1 = S9) := by
  refine startI (by decide) (Nat.le_of_ble_eq_true rfl) ?_
  intro p e s m below meth c A ls hx hb hr hml hlocks hmn hown htt hN hA hP hK hD hS hl
  exact (w_Calls_arguments hx hb hml hown htt hK hN hA r S9 (fun ls H locs hP hD hS => fin_i (g := g) (ws := Sw shC g ad S9) hx hb hr hlocks (by decide +kernel) (by decide +kernel) hP hD hS ⟨_, rfl, rfl, rfl⟩ d_Calls_arguments_27) k).1 S (fun _ => 0) (fun _ => 0) ls _ _ h hl hP hD hS
def f_Calls_argumentFrom : Nat → Nat → sS → (Nat → Int32) → (Nat → Int64) → Option (Int32 × sS)
  | 0, _, _, _, _ => none
  | k + 1, 0, S, L, M => if (S.1 6 9) ≤ (0 : Int32) then (f_Calls_argumentFrom k 1 S (upd L 100 (S.1 6 3)) M) else (if okI ((S.1 6 9) - (1 : Int32)) 50 = true then (f_Calls_argumentFrom k 1 S (upd L 100 ((S.2.1 22 ((S.1 6 9) - (1 : Int32) : Int32).toNatClampNeg) + (L 1))) M) else none)
  | k + 1, 1, S, L, M => if (S.1 6 3) ≤ (L 100) then (f_Calls_argumentFrom k 2 S (upd (upd L 2 (L 100)) 100 (S.1 6 1)) M) else (if okI (L 100) 8192 = true then (f_Calls_argumentFrom k 2 S (upd (upd L 2 (L 100)) 100 (S.2.1 19 (L 100 : Int32).toNatClampNeg)) M) else none)
  | k + 1, 2, S, L, M => some (L 100, S)
  | _ + 1, _ + 3, _, _, _ => none
set_option maxHeartbeats 8000000 in
set_option maxRecDepth 100000 in
theorem w_Calls_argumentFrom {p : Program} {l : Launch} {e : Env} {R : Room} {s : State} {m : MethodId} {args : Array Value} {below : List Frame} {meth : Method} {c : Code} {cells slots : Nat} {Q : State → Prop} {g : gG} {A : Nat → Prop} {ad : Nat → Nat} (hx : p.tables.exec = Jvm.exec) (hb : c.code = b_Calls_argumentFrom) (hml : c.maxLocals = 3) (hown : s.vm.findClass "MacroMill$Calls" = some m.cls) (htt : ∀ w ∈ gt, w.before args s = true) (hK : va_K g.1 classes (tysG g) s) (hN : nw s) (hA : ∀ q : Nat, s.heap.size ≤ q → A q) (r : Int32) (S9 : sS)
    (kx_49 : ∀ (ls : Array Slot) (H : Heap) (locs : List Loc), va_P g.1 classes (Sw shC g ad S9) H → va_D A (Sw shC g ad S9) → va_S A s.heap H locs → W p l e R s m args below meth c H locs cells slots Q (F0 m 49 ls [.int r])) :
    ∀ k9 : Nat, (∀ (S : sS) (L : Nat → Int32) (M : Nat → Int64) (ls : Array Slot) (H : Heap) (locs : List Loc), f_Calls_argumentFrom k9 0 S L M = some (r, S9) → lv_has ls 3 [(0, .ref (ad 6)), (1, .int (L 1))] → va_P g.1 classes (Sw shC g ad S) H → va_D A (Sw shC g ad S) → va_S A s.heap H locs → W p l e R s m args below meth c H locs cells slots Q (F0 m 0 ls [])) ∧ (∀ (S : sS) (L : Nat → Int32) (M : Nat → Int64) (ls : Array Slot) (H : Heap) (locs : List Loc), f_Calls_argumentFrom k9 1 S L M = some (r, S9) → lv_has ls 3 [(0, .ref (ad 6)), (1, .int (L 1))] → va_P g.1 classes (Sw shC g ad S) H → va_D A (Sw shC g ad S) → va_S A s.heap H locs → W p l e R s m args below meth c H locs cells slots Q (F0 m 27 ls [.int (L 100)])) ∧ (∀ (S : sS) (L : Nat → Int32) (M : Nat → Int64) (ls : Array Slot) (H : Heap) (locs : List Loc), f_Calls_argumentFrom k9 2 S L M = some (r, S9) → lv_has ls 3 [(0, .ref (ad 6)), (1, .int (L 1)), (2, .int (L 2))] → va_P g.1 classes (Sw shC g ad S) H → va_D A (Sw shC g ad S) → va_S A s.heap H locs → W p l e R s m args below meth c H locs cells slots Q (F0 m 49 ls [.int (L 100)])) := by
  intro k9
  induction k9 with
  | zero => exact ⟨(fun _ _ _ _ _ _ h => by simp [f_Calls_argumentFrom] at h), (fun _ _ _ _ _ _ h => by simp [f_Calls_argumentFrom] at h), (fun _ _ _ _ _ _ h => by simp [f_Calls_argumentFrom] at h)⟩
  | succ k9 ih =>
    refine ⟨?_, ?_, ?_⟩
    · intro S L M ls H locs h hl hP hD hS
      simp only [f_Calls_argumentFrom] at h
      refine lv_aload_n hx hb d_Calls_argumentFrom_0 rfl (lv_at hl 0 rfl) ?_
      refine S_getI (h := shC) (C := "MacroMill$Calls") (T := F_Calls) hx hb htt in_Calls hown hK hP 6 9 rfl rfl rfl (by decide) (htt _ k_455) (fun _ h9 => h9) d_Calls_argumentFrom_1 ?_
      refine lv_if_le (tgt := 23) hx hb d_Calls_argumentFrom_4 (by decide) (fun hc1 => ?_) (fun hc1 => ?_)
      · rw [if_pos hc1] at h
        refine lv_aload_n hx hb d_Calls_argumentFrom_23 rfl (lv_at hl 0 rfl) ?_
        refine S_getI (h := shC) (C := "MacroMill$Calls") (T := F_Calls) hx hb htt in_Calls hown hK hP 6 3 rfl rfl rfl (by decide) (htt _ k_449) (fun _ h9 => h9) d_Calls_argumentFrom_24 ?_
        exact (ih.2.1) S (upd L 100 (S.1 6 3)) M ls H locs h (lv_sub hl [0, 1] rfl) hP hD hS
      · rw [if_neg hc1] at h
        refine lv_aload_n hx hb d_Calls_argumentFrom_7 rfl (lv_at hl 0 rfl) ?_
        refine S_getR (h := shC) (C := "MacroMill$Calls") (T := F_Calls) hx hb htt in_Calls hown hK hP 6 6 rfl 35 rfl rfl (by decide) (htt _ k_452) (fun _ h9 => h9) d_Calls_argumentFrom_8 ?_
        refine lv_aload_n hx hb d_Calls_argumentFrom_11 rfl (lv_at hl 0 rfl) ?_
        refine S_getI (h := shC) (C := "MacroMill$Calls") (T := F_Calls) hx hb htt in_Calls hown hK hP 6 9 rfl rfl rfl (by decide) (htt _ k_455) (fun _ h9 => h9) d_Calls_argumentFrom_12 ?_
        refine lv_iconst (v := 1) hx hb d_Calls_argumentFrom_15 (by decide) ?_
        refine lv_isub hx hb d_Calls_argumentFrom_16 ?_
        obtain ⟨hv2, h⟩ := chk h
        refine S_iald (h := shC) (i := (S.1 6 9) - (1 : Int32)) hx hb hK hP 22 rfl (okI_in hv2) d_Calls_argumentFrom_17 ?_
        refine lv_iload_n hx hb d_Calls_argumentFrom_18 rfl (lv_at hl 1 rfl) ?_
        refine lv_iadd hx hb d_Calls_argumentFrom_19 ?_
        show W _ _ _ _ _ _ _ _ _ _ _ _ _ _ _ (F0 _ 20 _ _)
        refine lv_goto (tgt := 27) hx hb d_Calls_argumentFrom_20 (by decide) ?_
        exact (ih.2.1) S (upd L 100 ((S.2.1 22 ((S.1 6 9) - (1 : Int32) : Int32).toNatClampNeg) + (L 1))) M ls H locs h (lv_sub hl [0, 1] rfl) hP hD hS
    · intro S L M ls H locs h hl hP hD hS
      simp only [f_Calls_argumentFrom] at h
      refine lv_istore_n (lv' := [(2, .int (L 100)), (0, .ref (ad 6)), (1, .int (L 1))]) hx hb d_Calls_argumentFrom_27 rfl hl (by decide) rfl (fun ls hl => ?_)
      refine lv_iload_n hx hb d_Calls_argumentFrom_28 rfl (lv_at hl 0 rfl) ?_
      refine lv_aload_n hx hb d_Calls_argumentFrom_29 rfl (lv_at hl 1 rfl) ?_
      refine S_getI (h := shC) (C := "MacroMill$Calls") (T := F_Calls) hx hb htt in_Calls hown hK hP 6 3 rfl rfl rfl (by decide) (htt _ k_449) (fun _ h9 => h9) d_Calls_argumentFrom_30 ?_
      refine lv_icmp_ge (tgt := 45) hx hb d_Calls_argumentFrom_33 (by decide) (fun hc1 => ?_) (fun hc1 => ?_)
      · rw [if_pos hc1] at h
        refine lv_aload_n hx hb d_Calls_argumentFrom_45 rfl (lv_at hl 1 rfl) ?_
        refine S_getI (h := shC) (C := "MacroMill$Calls") (T := F_Calls) hx hb htt in_Calls hown hK hP 6 1 rfl rfl rfl (by decide) (htt _ k_447) (fun _ h9 => h9) d_Calls_argumentFrom_46 ?_
        exact (ih.2.2) S (upd (upd L 2 (L 100)) 100 (S.1 6 1)) M ls H locs h (lv_sub hl [1, 2, 0] rfl) hP hD hS
      · rw [if_neg hc1] at h
        refine lv_aload_n hx hb d_Calls_argumentFrom_36 rfl (lv_at hl 1 rfl) ?_
        refine S_getR (h := shC) (C := "MacroMill$Calls") (T := F_Calls) hx hb htt in_Calls hown hK hP 6 2 rfl 32 rfl rfl (by decide) (htt _ k_448) (fun _ h9 => h9) d_Calls_argumentFrom_37 ?_
        refine lv_iload_n hx hb d_Calls_argumentFrom_40 rfl (lv_at hl 0 rfl) ?_
        obtain ⟨hv2, h⟩ := chk h
        refine S_iald (h := shC) (i := L 100) hx hb hK hP 19 rfl (okI_in hv2) d_Calls_argumentFrom_41 ?_
        refine lv_goto (tgt := 49) hx hb d_Calls_argumentFrom_42 (by decide) ?_
        exact (ih.2.2) S (upd (upd L 2 (L 100)) 100 (S.2.1 19 (L 100 : Int32).toNatClampNeg)) M ls H locs h (lv_sub hl [1, 2, 0] rfl) hP hD hS
    · intro S L M ls H locs h hl hP hD hS
      simp only [f_Calls_argumentFrom] at h
      cases h
      exact kx_49 ls H locs hP hD hS
abbrev rm_t_Calls_argumentFrom : Room := { frames := 0, cells := 0, slots := 0, locals := 0 }
theorem t_Calls_argumentFrom (l : Launch) (g : gG) (sz : Nat) (ad : Nat → Nat) (S : sS) (v1 : Int32) (k : Nat) (r : Int32) (S9 : sS) (h : f_Calls_argumentFrom k 0 S (upd (fun _ => 0) 1 v1) (fun _ => 0) = some (r, S9)) : Ci l y_Calls_argumentFrom b_Calls_argumentFrom 3 rm_t_Calls_argumentFrom g [.ref (ad 6), .int v1] (Sw shC g ad S) sz (fun r1 w => ∃ S1 : sS, w = Sw shC g ad S1 ∧ r1 = r ∧ S1 = S9) := by
  refine startI (by decide) (Nat.le_of_ble_eq_true rfl) ?_
  intro p e s m below meth c A ls hx hb hr hml hlocks hmn hown htt hN hA hP hK hD hS hl
  exact (w_Calls_argumentFrom hx hb hml hown htt hK hN hA r S9 (fun ls H locs hP hD hS => fin_i (g := g) (ws := Sw shC g ad S9) hx hb hr hlocks (by decide +kernel) (by decide +kernel) hP hD hS ⟨_, rfl, rfl, rfl⟩ d_Calls_argumentFrom_49) k).1 S (upd (fun _ => 0) 1 v1) (fun _ => 0) ls _ _ h hl hP hD hS
def f_Calls_argumentSize : Nat → Nat → sS → (Nat → Int32) → (Nat → Int64) → Option (Int32 × sS)
  | 0, _, _, _, _ => none
  | k + 1, 0, S, L, M => (f_Calls_argumentFrom k 0 S (upd (fun _ => 0) 1 ((L 1) + (1 : Int32) : Int32)) (fun _ => 0)).bind (fun (r1, T1) => (f_Calls_argumentFrom k 0 T1 (upd (fun _ => 0) 1 (L 1 : Int32)) (fun _ => 0)).bind (fun (r2, T2) => some (r1 - r2, T2)))
  | _ + 1, _ + 1, _, _, _ => none
set_option maxHeartbeats 8000000 in
set_option maxRecDepth 100000 in
theorem w_Calls_argumentSize {p : Program} {l : Launch} {e : Env} {R : Room} {s : State} {m : MethodId} {args : Array Value} {below : List Frame} {meth : Method} {c : Code} {cells slots : Nat} {Q : State → Prop} {g : gG} {A : Nat → Prop} {ad : Nat → Nat} (hx : p.tables.exec = Jvm.exec) (hb : c.code = b_Calls_argumentSize) (hml : c.maxLocals = 2) (hown : s.vm.findClass "MacroMill$Calls" = some m.cls) (htt : ∀ w ∈ gt, w.before args s = true) (hK : va_K g.1 classes (tysG g) s) (hN : nw s) (hA : ∀ q : Nat, s.heap.size ≤ q → A q) (hRf : 1 ≤ R.frames) (hRl : 22 ≤ R.locals) (hRc : cells ≤ R.cells) (hRs : slots ≤ R.slots) (r : Int32) (S9 : sS)
    (kx_13 : ∀ (ls : Array Slot) (H : Heap) (locs : List Loc), va_P g.1 classes (Sw shC g ad S9) H → va_D A (Sw shC g ad S9) → va_S A s.heap H locs → W p l e R s m args below meth c H locs cells slots Q (F0 m 13 ls [.int r])) :
    ∀ k9 : Nat, (∀ (S : sS) (L : Nat → Int32) (M : Nat → Int64) (ls : Array Slot) (H : Heap) (locs : List Loc), f_Calls_argumentSize k9 0 S L M = some (r, S9) → lv_has ls 2 [(0, .ref (ad 6)), (1, .int (L 1))] → va_P g.1 classes (Sw shC g ad S) H → va_D A (Sw shC g ad S) → va_S A s.heap H locs → W p l e R s m args below meth c H locs cells slots Q (F0 m 0 ls [])) := by
  intro k9
  induction k9 with
  | zero => exact (fun _ _ _ _ _ _ h => by simp [f_Calls_argumentSize] at h)
  | succ k9 ih =>
    · intro S L M ls H locs h hl hP hD hS
      simp only [f_Calls_argumentSize] at h
      refine lv_aload_n hx hb d_Calls_argumentSize_0 rfl (lv_at hl 0 rfl) ?_
      refine lv_iload_n hx hb d_Calls_argumentSize_1 rfl (lv_at hl 1 rfl) ?_
      refine lv_iconst (v := 1) hx hb d_Calls_argumentSize_2 (by decide) ?_
      refine lv_iadd hx hb d_Calls_argumentSize_3 ?_
      obtain ⟨⟨r1, T1⟩, hq1, h⟩ := Option.bind_eq_some_iff.mp h
      try dsimp only at h
      refine go_iS (As := [.ref (ad 6), .int ((L 1) + (1 : Int32))]) (g := g) (A := A) (h := shC) hP hK hD hS hA hN (fun hp => va_runV (As := [.int ((L 1) + (1 : Int32))]) (rest := []) ⟨hx, hb, hml, hown, htt⟩ (t_Calls_argumentFrom l g _ ad S ((L 1) + (1 : Int32) : Int32) k9 r1 T1 hq1) ⟨(cb_L htt k_1316 k_267 k_1321 hd_Calls_argumentFrom ⟨(Nat.le_trans (by decide +kernel) hRf), (Nat.le_trans (by decide +kernel) hRl)⟩), htt _ k_1314, htt _ k_1315⟩ ⟨hp.1, S_recv hK hP 6 rfl rfl, hp.2⟩ rfl rfl hl.1 rfl (lv_room (Nat.le_of_ble_eq_true rfl)) d_Calls_argumentSize_4 ⟨hRc, hRs⟩) (fun r0 Sn H locs hw9 hP hD hS => ?_)
      obtain ⟨e9, e8⟩ := hw9
      rw [e8] at hP hD
      refine W.widen (k := cells) (n := slots) (Nat.le_refl _) (Nat.le_refl _) ?_
      refine toI (y := r1) e9 ?_
      refine lv_aload_n hx hb d_Calls_argumentSize_7 rfl (lv_at hl 0 rfl) ?_
      refine lv_iload_n hx hb d_Calls_argumentSize_8 rfl (lv_at hl 1 rfl) ?_
      obtain ⟨⟨r2, T2⟩, hq2, h⟩ := Option.bind_eq_some_iff.mp h
      try dsimp only at h
      refine go_iS (As := [.ref (ad 6), .int (L 1)]) (g := g) (A := A) (h := shC) hP hK hD hS hA hN (fun hp => va_runV (As := [.int (L 1)]) (rest := [.int r1]) ⟨hx, hb, hml, hown, htt⟩ (t_Calls_argumentFrom l g _ ad T1 (L 1 : Int32) k9 r2 T2 hq2) ⟨(cb_L htt k_1316 k_267 k_1321 hd_Calls_argumentFrom ⟨(Nat.le_trans (by decide +kernel) hRf), (Nat.le_trans (by decide +kernel) hRl)⟩), htt _ k_1314, htt _ k_1315⟩ ⟨hp.1, S_recv hK hP 6 rfl rfl, hp.2⟩ rfl rfl hl.1 rfl (lv_room (Nat.le_of_ble_eq_true rfl)) d_Calls_argumentSize_9 ⟨hRc, hRs⟩) (fun r0 Sn H locs hw9 hP hD hS => ?_)
      obtain ⟨e9, e8⟩ := hw9
      rw [e8] at hP hD
      refine W.widen (k := cells) (n := slots) (Nat.le_refl _) (Nat.le_refl _) ?_
      refine toI (y := r2) e9 ?_
      refine lv_isub hx hb d_Calls_argumentSize_12 ?_
      cases h
      exact kx_13 ls H locs hP hD hS
abbrev rm_t_Calls_argumentSize : Room := { frames := 1, cells := 0, slots := 0, locals := 22 }
theorem t_Calls_argumentSize (l : Launch) (g : gG) (sz : Nat) (ad : Nat → Nat) (S : sS) (v1 : Int32) (k : Nat) (r : Int32) (S9 : sS) (h : f_Calls_argumentSize k 0 S (upd (fun _ => 0) 1 v1) (fun _ => 0) = some (r, S9)) : Ci l y_Calls_argumentSize b_Calls_argumentSize 2 rm_t_Calls_argumentSize g [.ref (ad 6), .int v1] (Sw shC g ad S) sz (fun r1 w => ∃ S1 : sS, w = Sw shC g ad S1 ∧ r1 = r ∧ S1 = S9) := by
  refine startI (by decide) (Nat.le_of_ble_eq_true rfl) ?_
  intro p e s m below meth c A ls hx hb hr hml hlocks hmn hown htt hN hA hP hK hD hS hl
  exact (w_Calls_argumentSize hx hb hml hown htt hK hN hA (by decide +kernel) (by decide +kernel) (by decide +kernel) (by decide +kernel) r S9 (fun ls H locs hP hD hS => fin_i (g := g) (ws := Sw shC g ad S9) hx hb hr hlocks (by decide +kernel) (by decide +kernel) hP hD hS ⟨_, rfl, rfl, rfl⟩ d_Calls_argumentSize_13) k) S (upd (fun _ => 0) 1 v1) (fun _ => 0) ls _ _ h hl hP hD hS
def f_Calls_areSameArguments : Nat → Nat → sS → (Nat → Int32) → (Nat → Int64) → Option (Int32 × sS)
  | 0, _, _, _, _ => none
  | k + 1, 0, S, L, M => (f_Calls_argumentSize k 0 S (upd (fun _ => 0) 1 (L 1 : Int32)) (fun _ => 0)).bind (fun (r1, T1) => (f_Calls_argumentSize k 0 T1 (upd (fun _ => 0) 1 (L 2 : Int32)) (fun _ => 0)).bind (fun (r2, T2) => if r1 = r2 then ((f_Calls_argumentFrom k 0 T2 (upd (fun _ => 0) 1 (L 1 : Int32)) (fun _ => 0)).bind (fun (r4, T4) => (f_Calls_argumentFrom k 0 T4 (upd (fun _ => 0) 1 (L 2 : Int32)) (fun _ => 0)).bind (fun (r5, T5) => (f_MM_areSame 18 16384 18 16384 k 0 T5 (upd (upd (upd (fun _ => 0) 1 (r4 : Int32)) 3 (r5 : Int32)) 4 (r1 : Int32)) (fun _ => 0)).bind (fun (r6, T6) => if r6 = (0 : Int32) then (f_Calls_areSameArguments k 1 T6 (upd L 3 r1) M) else (f_Calls_areSameArguments k 2 T6 (upd (upd L 3 r1) 100 (1 : Int32)) M))))) else (f_Calls_areSameArguments k 1 T2 (upd L 3 r1) M)))
  | k + 1, 1, S, L, M => f_Calls_areSameArguments k 2 S (upd L 100 (0 : Int32)) M
  | k + 1, 2, S, L, M => if bz (L 100) = true then some (L 100, S) else none
  | _ + 1, _ + 3, _, _, _ => none
set_option maxHeartbeats 8000000 in
set_option maxRecDepth 100000 in
theorem w_Calls_areSameArguments {p : Program} {l : Launch} {e : Env} {R : Room} {s : State} {m : MethodId} {args : Array Value} {below : List Frame} {meth : Method} {c : Code} {cells slots : Nat} {Q : State → Prop} {g : gG} {A : Nat → Prop} {ad : Nat → Nat} (hx : p.tables.exec = Jvm.exec) (hb : c.code = b_Calls_areSameArguments) (hml : c.maxLocals = 4) (hown : s.vm.findClass "MacroMill$Calls" = some m.cls) (htt : ∀ w ∈ gt, w.before args s = true) (hK : va_K g.1 classes (tysG g) s) (hN : nw s) (hA : ∀ q : Nat, s.heap.size ≤ q → A q) (hRf : 2 ≤ R.frames) (hRl : 43 ≤ R.locals) (hRc : cells ≤ R.cells) (hRs : slots ≤ R.slots) (r : Int32) (S9 : sS)
    (kx_45 : ∀ (ls : Array Slot) (H : Heap) (locs : List Loc), narrow .boolean (.int r) = .int r → va_P g.1 classes (Sw shC g ad S9) H → va_D A (Sw shC g ad S9) → va_S A s.heap H locs → W p l e R s m args below meth c H locs cells slots Q (F0 m 45 ls [.int r])) :
    ∀ k9 : Nat, (∀ (S : sS) (L : Nat → Int32) (M : Nat → Int64) (ls : Array Slot) (H : Heap) (locs : List Loc), f_Calls_areSameArguments k9 0 S L M = some (r, S9) → lv_has ls 4 [(0, .ref (ad 6)), (1, .int (L 1)), (2, .int (L 2))] → va_P g.1 classes (Sw shC g ad S) H → va_D A (Sw shC g ad S) → va_S A s.heap H locs → W p l e R s m args below meth c H locs cells slots Q (F0 m 0 ls [])) ∧ (∀ (S : sS) (L : Nat → Int32) (M : Nat → Int64) (ls : Array Slot) (H : Heap) (locs : List Loc), f_Calls_areSameArguments k9 1 S L M = some (r, S9) → lv_has ls 4 [(0, .ref (ad 6)), (1, .int (L 1)), (2, .int (L 2)), (3, .int (L 3))] → va_P g.1 classes (Sw shC g ad S) H → va_D A (Sw shC g ad S) → va_S A s.heap H locs → W p l e R s m args below meth c H locs cells slots Q (F0 m 44 ls [])) ∧ (∀ (S : sS) (L : Nat → Int32) (M : Nat → Int64) (ls : Array Slot) (H : Heap) (locs : List Loc), f_Calls_areSameArguments k9 2 S L M = some (r, S9) → lv_has ls 4 [(0, .ref (ad 6)), (1, .int (L 1)), (2, .int (L 2)), (3, .int (L 3))] → va_P g.1 classes (Sw shC g ad S) H → va_D A (Sw shC g ad S) → va_S A s.heap H locs → W p l e R s m args below meth c H locs cells slots Q (F0 m 45 ls [.int (L 100)])) := by
  intro k9
  induction k9 with
  | zero => exact ⟨(fun _ _ _ _ _ _ h => by simp [f_Calls_areSameArguments] at h), (fun _ _ _ _ _ _ h => by simp [f_Calls_areSameArguments] at h), (fun _ _ _ _ _ _ h => by simp [f_Calls_areSameArguments] at h)⟩
  | succ k9 ih =>
    refine ⟨?_, ?_, ?_⟩
    · intro S L M ls H locs h hl hP hD hS
      simp only [f_Calls_areSameArguments] at h
      refine lv_aload_n hx hb d_Calls_areSameArguments_0 rfl (lv_at hl 0 rfl) ?_
      refine lv_iload_n hx hb d_Calls_areSameArguments_1 rfl (lv_at hl 1 rfl) ?_
      obtain ⟨⟨r1, T1⟩, hq1, h⟩ := Option.bind_eq_some_iff.mp h
      try dsimp only at h
      refine go_iS (As := [.ref (ad 6), .int (L 1)]) (g := g) (A := A) (h := shC) hP hK hD hS hA hN (fun hp => va_runV (As := [.int (L 1)]) (rest := []) ⟨hx, hb, hml, hown, htt⟩ (t_Calls_argumentSize l g _ ad S (L 1 : Int32) k9 r1 T1 hq1) ⟨(cb_L htt k_1320 k_267 k_1456 hd_Calls_argumentSize ⟨(Nat.le_trans (by decide +kernel) hRf), (Nat.le_trans (by decide +kernel) hRl)⟩), htt _ k_1318, htt _ k_1319⟩ ⟨hp.1, S_recv hK hP 6 rfl rfl, hp.2⟩ rfl rfl hl.1 rfl (lv_room (Nat.le_of_ble_eq_true rfl)) d_Calls_areSameArguments_2 ⟨hRc, hRs⟩) (fun r0 Sn H locs hw9 hP hD hS => ?_)
      obtain ⟨e9, e8⟩ := hw9
      rw [e8] at hP hD
      refine W.widen (k := cells) (n := slots) (Nat.le_refl _) (Nat.le_refl _) ?_
      refine toI (y := r1) e9 ?_
      refine lv_istore_n (lv' := [(3, .int r1), (0, .ref (ad 6)), (1, .int (L 1)), (2, .int (L 2))]) hx hb d_Calls_areSameArguments_5 rfl hl (by decide) rfl (fun ls hl => ?_)
      refine lv_iload_n hx hb d_Calls_areSameArguments_6 rfl (lv_at hl 0 rfl) ?_
      refine lv_aload_n hx hb d_Calls_areSameArguments_7 rfl (lv_at hl 1 rfl) ?_
      refine lv_iload_n hx hb d_Calls_areSameArguments_8 rfl (lv_at hl 3 rfl) ?_
      obtain ⟨⟨r2, T2⟩, hq2, h⟩ := Option.bind_eq_some_iff.mp h
      try dsimp only at h
      refine go_iS (As := [.ref (ad 6), .int (L 2)]) (g := g) (A := A) (h := shC) hP hK hD hS hA hN (fun hp => va_runV (As := [.int (L 2)]) (rest := [.int r1]) ⟨hx, hb, hml, hown, htt⟩ (t_Calls_argumentSize l g _ ad T1 (L 2 : Int32) k9 r2 T2 hq2) ⟨(cb_L htt k_1320 k_267 k_1456 hd_Calls_argumentSize ⟨(Nat.le_trans (by decide +kernel) hRf), (Nat.le_trans (by decide +kernel) hRl)⟩), htt _ k_1318, htt _ k_1319⟩ ⟨hp.1, S_recv hK hP 6 rfl rfl, hp.2⟩ rfl rfl hl.1 rfl (lv_room (Nat.le_of_ble_eq_true rfl)) d_Calls_areSameArguments_9 ⟨hRc, hRs⟩) (fun r0 Sn H locs hw9 hP hD hS => ?_)
      obtain ⟨e9, e8⟩ := hw9
      rw [e8] at hP hD
      refine W.widen (k := cells) (n := slots) (Nat.le_refl _) (Nat.le_refl _) ?_
      refine toI (y := r2) e9 ?_
      refine lv_icmp_ne (tgt := 44) hx hb d_Calls_areSameArguments_12 (by decide) (fun hc3 => ?_) (fun hc3 => ?_)
      · rw [if_neg hc3] at h
        exact (ih.2.1) T2 (upd L 3 r1) M ls H locs h (lv_sub hl [1, 2, 3, 0] rfl) hP hD hS
      · rw [if_pos hc3] at h
        refine lv_aload_n hx hb d_Calls_areSameArguments_15 rfl (lv_at hl 1 rfl) ?_
        refine S_getR (h := shC) (C := "MacroMill$Calls") (T := F_Calls) hx hb htt in_Calls hown hK hP 6 0 rfl 31 rfl rfl (by decide) (htt _ k_445) (fun _ h9 => h9) d_Calls_areSameArguments_16 ?_
        refine lv_aload_n hx hb d_Calls_areSameArguments_19 rfl (lv_at hl 1 rfl) ?_
        refine lv_iload_n hx hb d_Calls_areSameArguments_20 rfl (lv_at hl 2 rfl) ?_
        obtain ⟨⟨r4, T4⟩, hq4, h⟩ := Option.bind_eq_some_iff.mp h
        try dsimp only at h
        refine go_iS (As := [.ref (ad 6), .int (L 1)]) (g := g) (A := A) (h := shC) hP hK hD hS hA hN (fun hp => va_runV (As := [.int (L 1)]) (rest := [.ref (ad 31)]) ⟨hx, hb, hml, hown, htt⟩ (t_Calls_argumentFrom l g _ ad T2 (L 1 : Int32) k9 r4 T4 hq4) ⟨(cb_L htt k_1316 k_267 k_1321 hd_Calls_argumentFrom ⟨(Nat.le_trans (by decide +kernel) hRf), (Nat.le_trans (by decide +kernel) hRl)⟩), htt _ k_1314, htt _ k_1315⟩ ⟨hp.1, S_recv hK hP 6 rfl rfl, hp.2⟩ rfl rfl hl.1 rfl (lv_room (Nat.le_of_ble_eq_true rfl)) d_Calls_areSameArguments_21 ⟨hRc, hRs⟩) (fun r0 Sn H locs hw9 hP hD hS => ?_)
        obtain ⟨e9, e8⟩ := hw9
        rw [e8] at hP hD
        refine W.widen (k := cells) (n := slots) (Nat.le_refl _) (Nat.le_refl _) ?_
        refine toI (y := r4) e9 ?_
        refine lv_aload_n hx hb d_Calls_areSameArguments_24 rfl (lv_at hl 1 rfl) ?_
        show W _ _ _ _ _ _ _ _ _ _ _ _ _ _ _ (F0 _ 25 _ _)
        refine S_getR (h := shC) (C := "MacroMill$Calls") (T := F_Calls) hx hb htt in_Calls hown hK hP 6 0 rfl 31 rfl rfl (by decide) (htt _ k_445) (fun _ h9 => h9) d_Calls_areSameArguments_25 ?_
        refine lv_aload_n hx hb d_Calls_areSameArguments_28 rfl (lv_at hl 1 rfl) ?_
        refine lv_iload_n hx hb d_Calls_areSameArguments_29 rfl (lv_at hl 3 rfl) ?_
        obtain ⟨⟨r5, T5⟩, hq5, h⟩ := Option.bind_eq_some_iff.mp h
        try dsimp only at h
        refine go_iS (As := [.ref (ad 6), .int (L 2)]) (g := g) (A := A) (h := shC) hP hK hD hS hA hN (fun hp => va_runV (As := [.int (L 2)]) (rest := [.ref (ad 31), .int r4, .ref (ad 31)]) ⟨hx, hb, hml, hown, htt⟩ (t_Calls_argumentFrom l g _ ad T4 (L 2 : Int32) k9 r5 T5 hq5) ⟨(cb_L htt k_1316 k_267 k_1321 hd_Calls_argumentFrom ⟨(Nat.le_trans (by decide +kernel) hRf), (Nat.le_trans (by decide +kernel) hRl)⟩), htt _ k_1314, htt _ k_1315⟩ ⟨hp.1, S_recv hK hP 6 rfl rfl, hp.2⟩ rfl rfl hl.1 rfl (lv_room (Nat.le_of_ble_eq_true rfl)) d_Calls_areSameArguments_30 ⟨hRc, hRs⟩) (fun r0 Sn H locs hw9 hP hD hS => ?_)
        obtain ⟨e9, e8⟩ := hw9
        rw [e8] at hP hD
        refine W.widen (k := cells) (n := slots) (Nat.le_refl _) (Nat.le_refl _) ?_
        refine toI (y := r5) e9 ?_
        refine lv_iload_n hx hb d_Calls_areSameArguments_33 rfl (lv_at hl 0 rfl) ?_
        obtain ⟨⟨r6, T6⟩, hq6, h⟩ := Option.bind_eq_some_iff.mp h
        try dsimp only at h
        refine go_iS (As := [.ref (ad 31), .int r4, .ref (ad 31), .int r5, .int r1]) (g := g) (A := A) (h := shC) hP hK hD hS hA hN (fun hp => va_runSN (As := [.ref (ad 31), .int r4, .ref (ad 31), .int r5, .int r1]) (rest := []) ⟨hx, hb, hml, hown, htt⟩ (t_MM_areSame l g _ ad T5 18 16384 18 16384 (r4 : Int32) (r5 : Int32) (r1 : Int32) rfl rfl k9 r6 T6 hq6) ⟨(cb_N (host := "MacroMill") htt k_1012 k_262 hN nM_15 hd_MM_areSame ⟨(Nat.le_trans (by decide +kernel) hRf), (Nat.le_trans (by decide +kernel) hRl)⟩), htt _ k_1011, trivial⟩ hp rfl rfl hl.1 rfl (lv_room (Nat.le_of_ble_eq_true rfl)) d_Calls_areSameArguments_34 ⟨hRc, hRs⟩) (fun r0 Sn H locs hw9 hP hD hS => ?_)
        obtain ⟨e9, e8⟩ := hw9
        rw [e8] at hP hD
        refine W.widen (k := cells) (n := slots) (Nat.le_refl _) (Nat.le_refl _) ?_
        refine toI (y := r6) e9 ?_
        refine lv_if_eq (tgt := 44) hx hb d_Calls_areSameArguments_37 (by decide) (fun hc7 => ?_) (fun hc7 => ?_)
        · rw [if_pos hc7] at h
          exact (ih.2.1) T6 (upd L 3 r1) M ls H locs h (lv_sub hl [1, 2, 3, 0] rfl) hP hD hS
        · rw [if_neg hc7] at h
          refine lv_iconst (v := 1) hx hb d_Calls_areSameArguments_40 (by decide) ?_
          refine lv_goto (tgt := 45) hx hb d_Calls_areSameArguments_41 (by decide) ?_
          exact (ih.2.2) T6 (upd (upd L 3 r1) 100 (1 : Int32)) M ls H locs h (lv_sub hl [1, 2, 3, 0] rfl) hP hD hS
    · intro S L M ls H locs h hl hP hD hS
      simp only [f_Calls_areSameArguments] at h
      refine lv_iconst (v := 0) hx hb d_Calls_areSameArguments_44 (by decide) ?_
      exact (ih.2.2) S (upd L 100 (0 : Int32)) M ls H locs h (lv_sub hl [0, 1, 2, 3] rfl) hP hD hS
    · intro S L M ls H locs h hl hP hD hS
      simp only [f_Calls_areSameArguments] at h
      obtain ⟨hv1, h⟩ := chk h
      cases h
      exact kx_45 ls H locs (bz_n hv1) hP hD hS
abbrev rm_t_Calls_areSameArguments : Room := { frames := 2, cells := 0, slots := 0, locals := 43 }
theorem t_Calls_areSameArguments (l : Launch) (g : gG) (sz : Nat) (ad : Nat → Nat) (S : sS) (v1 : Int32) (v2 : Int32) (k : Nat) (r : Int32) (S9 : sS) (h : f_Calls_areSameArguments k 0 S (upd (upd (fun _ => 0) 1 v1) 2 v2) (fun _ => 0) = some (r, S9)) : Cz l y_Calls_areSameArguments b_Calls_areSameArguments 4 rm_t_Calls_areSameArguments g [.ref (ad 6), .int v1, .int v2] (Sw shC g ad S) sz (fun r1 w => ∃ S1 : sS, w = Sw shC g ad S1 ∧ r1 = r ∧ S1 = S9) := by
  refine startZ (by decide) (Nat.le_of_ble_eq_true rfl) ?_
  intro p e s m below meth c A ls hx hb hr hml hlocks hmn hown htt hN hA hP hK hD hS hl
  exact (w_Calls_areSameArguments hx hb hml hown htt hK hN hA (by decide +kernel) (by decide +kernel) (by decide +kernel) (by decide +kernel) r S9 (fun ls H locs hz hP hD hS => fin_z (g := g) (ws := Sw shC g ad S9) hx hb hr hlocks hz (by decide +kernel) (by decide +kernel) hP hD hS ⟨_, rfl, rfl, rfl⟩ d_Calls_areSameArguments_45) k).1 S (upd (upd (fun _ => 0) 1 v1) 2 v2) (fun _ => 0) ls _ _ h hl hP hD hS
def f_Calls_isName : Nat → Nat → sS → (Nat → Int32) → (Nat → Int64) → Option (Int32 × sS)
  | 0, _, _, _, _ => none
  | k + 1, 0, S, L, M => (f_Calls_argumentFrom k 0 S (upd (fun _ => 0) 1 (L 1 : Int32)) (fun _ => 0)).bind (fun (r1, T1) => (f_Calls_argumentSize k 0 T1 (upd (fun _ => 0) 1 (L 1 : Int32)) (fun _ => 0)).bind (fun (r2, T2) => if r2 = (0 : Int32) then (f_Calls_isName k 1 T2 (upd (upd L 2 r1) 3 r2) M) else (if okI (r1) 16384 = true then ((f_MM_isLetter k 0 T2 (upd (fun _ => 0) 0 (T2.2.1 18 (r1 : Int32).toNatClampNeg : Int32)) (fun _ => 0)).bind (fun (r5, T5) => if r5 = (0 : Int32) then (f_Calls_isName k 1 T5 (upd (upd L 2 r1) 3 r2) M) else (f_Calls_isName k 2 T5 (upd (upd (upd L 2 r1) 3 r2) 4 (1 : Int32)) M))) else none)))
  | k + 1, 1, S, L, M => some ((0 : Int32), S)
  | k + 1, 2, S, L, M => if (L 3) ≤ (L 4) then (some ((1 : Int32), S)) else (if okI ((L 2) + (L 4)) 16384 = true then ((f_MM_isLetter k 0 S (upd (fun _ => 0) 0 (S.2.1 18 ((L 2) + (L 4) : Int32).toNatClampNeg : Int32)) (fun _ => 0)).bind (fun (r3, T3) => if r3 = (0 : Int32) then (if okI ((L 2) + (L 4)) 16384 = true then ((f_MM_isDigit k 0 T3 (upd (fun _ => 0) 0 (T3.2.1 18 ((L 2) + (L 4) : Int32).toNatClampNeg : Int32)) (fun _ => 0)).bind (fun (r6, T6) => if r6 = (0 : Int32) then (some ((0 : Int32), T6)) else (f_Calls_isName k 3 T6 L M))) else none) else (f_Calls_isName k 3 T3 L M))) else none)
  | k + 1, 3, S, L, M => f_Calls_isName k 2 S (upd L 4 ((L 4) + 1)) M
  | _ + 1, _ + 4, _, _, _ => none
set_option maxHeartbeats 8000000 in
set_option maxRecDepth 100000 in
theorem w_Calls_isName {p : Program} {l : Launch} {e : Env} {R : Room} {s : State} {m : MethodId} {args : Array Value} {below : List Frame} {meth : Method} {c : Code} {cells slots : Nat} {Q : State → Prop} {g : gG} {A : Nat → Prop} {ad : Nat → Nat} (hx : p.tables.exec = Jvm.exec) (hb : c.code = b_Calls_isName) (hml : c.maxLocals = 5) (hown : s.vm.findClass "MacroMill$Calls" = some m.cls) (htt : ∀ w ∈ gt, w.before args s = true) (hK : va_K g.1 classes (tysG g) s) (hN : nw s) (hA : ∀ q : Nat, s.heap.size ≤ q → A q) (hRf : 2 ≤ R.frames) (hRl : 43 ≤ R.locals) (hRc : cells ≤ R.cells) (hRs : slots ≤ R.slots) (r : Int32) (S9 : sS)
    (kx_29 : ∀ (ls : Array Slot) (H : Heap) (locs : List Loc), narrow .boolean (.int r) = .int r → va_P g.1 classes (Sw shC g ad S9) H → va_D A (Sw shC g ad S9) → va_S A s.heap H locs → W p l e R s m args below meth c H locs cells slots Q (F0 m 29 ls [.int r]))
    (kx_70 : ∀ (ls : Array Slot) (H : Heap) (locs : List Loc), narrow .boolean (.int r) = .int r → va_P g.1 classes (Sw shC g ad S9) H → va_D A (Sw shC g ad S9) → va_S A s.heap H locs → W p l e R s m args below meth c H locs cells slots Q (F0 m 70 ls [.int r]))
    (kx_78 : ∀ (ls : Array Slot) (H : Heap) (locs : List Loc), narrow .boolean (.int r) = .int r → va_P g.1 classes (Sw shC g ad S9) H → va_D A (Sw shC g ad S9) → va_S A s.heap H locs → W p l e R s m args below meth c H locs cells slots Q (F0 m 78 ls [.int r])) :
    ∀ k9 : Nat, (∀ (S : sS) (L : Nat → Int32) (M : Nat → Int64) (ls : Array Slot) (H : Heap) (locs : List Loc), f_Calls_isName k9 0 S L M = some (r, S9) → lv_has ls 5 [(0, .ref (ad 6)), (1, .int (L 1))] → va_P g.1 classes (Sw shC g ad S) H → va_D A (Sw shC g ad S) → va_S A s.heap H locs → W p l e R s m args below meth c H locs cells slots Q (F0 m 0 ls [])) ∧ (∀ (S : sS) (L : Nat → Int32) (M : Nat → Int64) (ls : Array Slot) (H : Heap) (locs : List Loc), f_Calls_isName k9 1 S L M = some (r, S9) → lv_has ls 5 [(0, .ref (ad 6)), (1, .int (L 1)), (2, .int (L 2)), (3, .int (L 3))] → va_P g.1 classes (Sw shC g ad S) H → va_D A (Sw shC g ad S) → va_S A s.heap H locs → W p l e R s m args below meth c H locs cells slots Q (F0 m 28 ls [])) ∧ (∀ (S : sS) (L : Nat → Int32) (M : Nat → Int64) (ls : Array Slot) (H : Heap) (locs : List Loc), f_Calls_isName k9 2 S L M = some (r, S9) → lv_has ls 5 [(0, .ref (ad 6)), (1, .int (L 1)), (2, .int (L 2)), (3, .int (L 3)), (4, .int (L 4))] → va_P g.1 classes (Sw shC g ad S) H → va_D A (Sw shC g ad S) → va_S A s.heap H locs → W p l e R s m args below meth c H locs cells slots Q (F0 m 33 ls [])) ∧ (∀ (S : sS) (L : Nat → Int32) (M : Nat → Int64) (ls : Array Slot) (H : Heap) (locs : List Loc), f_Calls_isName k9 3 S L M = some (r, S9) → lv_has ls 5 [(0, .ref (ad 6)), (1, .int (L 1)), (2, .int (L 2)), (3, .int (L 3)), (4, .int (L 4))] → va_P g.1 classes (Sw shC g ad S) H → va_D A (Sw shC g ad S) → va_S A s.heap H locs → W p l e R s m args below meth c H locs cells slots Q (F0 m 71 ls [])) := by
  intro k9
  induction k9 with
  | zero => exact ⟨(fun _ _ _ _ _ _ h => by simp [f_Calls_isName] at h), (fun _ _ _ _ _ _ h => by simp [f_Calls_isName] at h), (fun _ _ _ _ _ _ h => by simp [f_Calls_isName] at h), (fun _ _ _ _ _ _ h => by simp [f_Calls_isName] at h)⟩
  | succ k9 ih =>
    refine ⟨?_, ?_, ?_, ?_⟩
    · intro S L M ls H locs h hl hP hD hS
      simp only [f_Calls_isName] at h
      refine lv_aload_n hx hb d_Calls_isName_0 rfl (lv_at hl 0 rfl) ?_
      refine lv_iload_n hx hb d_Calls_isName_1 rfl (lv_at hl 1 rfl) ?_
      obtain ⟨⟨r1, T1⟩, hq1, h⟩ := Option.bind_eq_some_iff.mp h
      try dsimp only at h
      refine go_iS (As := [.ref (ad 6), .int (L 1)]) (g := g) (A := A) (h := shC) hP hK hD hS hA hN (fun hp => va_runV (As := [.int (L 1)]) (rest := []) ⟨hx, hb, hml, hown, htt⟩ (t_Calls_argumentFrom l g _ ad S (L 1 : Int32) k9 r1 T1 hq1) ⟨(cb_L htt k_1316 k_267 k_1321 hd_Calls_argumentFrom ⟨(Nat.le_trans (by decide +kernel) hRf), (Nat.le_trans (by decide +kernel) hRl)⟩), htt _ k_1314, htt _ k_1315⟩ ⟨hp.1, S_recv hK hP 6 rfl rfl, hp.2⟩ rfl rfl hl.1 rfl (lv_room (Nat.le_of_ble_eq_true rfl)) d_Calls_isName_2 ⟨hRc, hRs⟩) (fun r0 Sn H locs hw9 hP hD hS => ?_)
      obtain ⟨e9, e8⟩ := hw9
      rw [e8] at hP hD
      refine W.widen (k := cells) (n := slots) (Nat.le_refl _) (Nat.le_refl _) ?_
      refine toI (y := r1) e9 ?_
      refine lv_istore_n (lv' := [(2, .int r1), (0, .ref (ad 6)), (1, .int (L 1))]) hx hb d_Calls_isName_5 rfl hl (by decide) rfl (fun ls hl => ?_)
      refine lv_aload_n hx hb d_Calls_isName_6 rfl (lv_at hl 1 rfl) ?_
      refine lv_iload_n hx hb d_Calls_isName_7 rfl (lv_at hl 2 rfl) ?_
      obtain ⟨⟨r2, T2⟩, hq2, h⟩ := Option.bind_eq_some_iff.mp h
      try dsimp only at h
      refine go_iS (As := [.ref (ad 6), .int (L 1)]) (g := g) (A := A) (h := shC) hP hK hD hS hA hN (fun hp => va_runV (As := [.int (L 1)]) (rest := []) ⟨hx, hb, hml, hown, htt⟩ (t_Calls_argumentSize l g _ ad T1 (L 1 : Int32) k9 r2 T2 hq2) ⟨(cb_L htt k_1320 k_267 k_1456 hd_Calls_argumentSize ⟨(Nat.le_trans (by decide +kernel) hRf), (Nat.le_trans (by decide +kernel) hRl)⟩), htt _ k_1318, htt _ k_1319⟩ ⟨hp.1, S_recv hK hP 6 rfl rfl, hp.2⟩ rfl rfl hl.1 rfl (lv_room (Nat.le_of_ble_eq_true rfl)) d_Calls_isName_8 ⟨hRc, hRs⟩) (fun r0 Sn H locs hw9 hP hD hS => ?_)
      obtain ⟨e9, e8⟩ := hw9
      rw [e8] at hP hD
      refine W.widen (k := cells) (n := slots) (Nat.le_refl _) (Nat.le_refl _) ?_
      refine toI (y := r2) e9 ?_
      refine lv_istore_n (lv' := [(3, .int r2), (2, .int r1), (0, .ref (ad 6)), (1, .int (L 1))]) hx hb d_Calls_isName_11 rfl hl (by decide) rfl (fun ls hl => ?_)
      refine lv_iload_n hx hb d_Calls_isName_12 rfl (lv_at hl 0 rfl) ?_
      refine lv_if_eq (tgt := 28) hx hb d_Calls_isName_13 (by decide) (fun hc3 => ?_) (fun hc3 => ?_)
      · rw [if_pos hc3] at h
        exact (ih.2.1) T2 (upd (upd L 2 r1) 3 r2) M ls H locs h (lv_sub hl [2, 3, 1, 0] rfl) hP hD hS
      · rw [if_neg hc3] at h
        refine lv_aload_n hx hb d_Calls_isName_16 rfl (lv_at hl 2 rfl) ?_
        refine S_getR (h := shC) (C := "MacroMill$Calls") (T := F_Calls) hx hb htt in_Calls hown hK hP 6 0 rfl 31 rfl rfl (by decide) (htt _ k_445) (fun _ h9 => h9) d_Calls_isName_17 ?_
        refine lv_iload_n hx hb d_Calls_isName_20 rfl (lv_at hl 1 rfl) ?_
        obtain ⟨hv4, h⟩ := chk h
        refine S_bald (h := shC) (i := r1) hx hb hK hP 18 rfl (okI_in hv4) d_Calls_isName_21 ?_
        obtain ⟨⟨r5, T5⟩, hq5, h⟩ := Option.bind_eq_some_iff.mp h
        try dsimp only at h
        refine go_iS (As := [.int (T2.2.1 18 (r1 : Int32).toNatClampNeg)]) (g := g) (A := A) (h := shC) hP hK hD hS hA hN (fun hp => va_runSN (As := [.int (T2.2.1 18 (r1 : Int32).toNatClampNeg)]) (rest := []) ⟨hx, hb, hml, hown, htt⟩ (t_MM_isLetter l g _ ad T2 (T2.2.1 18 (r1 : Int32).toNatClampNeg : Int32) k9 r5 T5 hq5) ⟨(cb_N (host := "MacroMill") htt k_1170 k_262 hN nM_13 hd_MM_isLetter ⟨(Nat.le_trans (by decide +kernel) hRf), (Nat.le_trans (by decide +kernel) hRl)⟩), htt _ k_1169, trivial⟩ hp rfl rfl hl.1 rfl (lv_room (Nat.le_of_ble_eq_true rfl)) d_Calls_isName_22 ⟨hRc, hRs⟩) (fun r0 Sn H locs hw9 hP hD hS => ?_)
        obtain ⟨e9, e8⟩ := hw9
        rw [e8] at hP hD
        refine W.widen (k := cells) (n := slots) (Nat.le_refl _) (Nat.le_refl _) ?_
        refine toI (y := r5) e9 ?_
        refine lv_if_ne (tgt := 30) hx hb d_Calls_isName_25 (by decide) (fun hc6 => ?_) (fun hc6 => ?_)
        · rw [if_neg hc6] at h
          show W _ _ _ _ _ _ _ _ _ _ _ _ _ _ _ (F0 _ 30 _ _)
          refine lv_iconst (v := 1) hx hb d_Calls_isName_30 (by decide) ?_
          refine lv_istore (lv' := [(4, .int 1), (3, .int r2), (2, .int r1), (0, .ref (ad 6)), (1, .int (L 1))]) hx hb d_Calls_isName_31 hl (by decide) rfl (fun ls hl => ?_)
          exact (ih.2.2.1) T5 (upd (upd (upd L 2 r1) 3 r2) 4 (1 : Int32)) M ls H locs h (lv_sub hl [3, 4, 2, 1, 0] rfl) hP hD hS
        · rw [if_pos hc6] at h
          exact (ih.2.1) T5 (upd (upd L 2 r1) 3 r2) M ls H locs h (lv_sub hl [2, 3, 1, 0] rfl) hP hD hS
    · intro S L M ls H locs h hl hP hD hS
      simp only [f_Calls_isName] at h
      refine lv_iconst (v := 0) hx hb d_Calls_isName_28 (by decide) ?_
      cases h
      exact kx_29 ls H locs rfl hP hD hS
    · intro S L M ls H locs h hl hP hD hS
      simp only [f_Calls_isName] at h
      refine lv_iload hx hb d_Calls_isName_33 (lv_at hl 4 rfl) ?_
      refine lv_iload_n hx hb d_Calls_isName_35 rfl (lv_at hl 3 rfl) ?_
      refine lv_icmp_ge (tgt := 77) hx hb d_Calls_isName_36 (by decide) (fun hc1 => ?_) (fun hc1 => ?_)
      · rw [if_pos hc1] at h
        refine lv_iconst (v := 1) hx hb d_Calls_isName_77 (by decide) ?_
        cases h
        exact kx_78 ls H locs rfl hP hD hS
      · rw [if_neg hc1] at h
        refine lv_aload_n hx hb d_Calls_isName_39 rfl (lv_at hl 0 rfl) ?_
        refine S_getR (h := shC) (C := "MacroMill$Calls") (T := F_Calls) hx hb htt in_Calls hown hK hP 6 0 rfl 31 rfl rfl (by decide) (htt _ k_445) (fun _ h9 => h9) d_Calls_isName_40 ?_
        refine lv_iload_n hx hb d_Calls_isName_43 rfl (lv_at hl 2 rfl) ?_
        refine lv_iload hx hb d_Calls_isName_44 (lv_at hl 4 rfl) ?_
        refine lv_iadd hx hb d_Calls_isName_46 ?_
        obtain ⟨hv2, h⟩ := chk h
        refine S_bald (h := shC) (i := (L 2) + (L 4)) hx hb hK hP 18 rfl (okI_in hv2) d_Calls_isName_47 ?_
        obtain ⟨⟨r3, T3⟩, hq3, h⟩ := Option.bind_eq_some_iff.mp h
        try dsimp only at h
        refine go_iS (As := [.int (S.2.1 18 ((L 2) + (L 4) : Int32).toNatClampNeg)]) (g := g) (A := A) (h := shC) hP hK hD hS hA hN (fun hp => va_runSN (As := [.int (S.2.1 18 ((L 2) + (L 4) : Int32).toNatClampNeg)]) (rest := []) ⟨hx, hb, hml, hown, htt⟩ (t_MM_isLetter l g _ ad S (S.2.1 18 ((L 2) + (L 4) : Int32).toNatClampNeg : Int32) k9 r3 T3 hq3) ⟨(cb_N (host := "MacroMill") htt k_1170 k_262 hN nM_13 hd_MM_isLetter ⟨(Nat.le_trans (by decide +kernel) hRf), (Nat.le_trans (by decide +kernel) hRl)⟩), htt _ k_1169, trivial⟩ hp rfl rfl hl.1 rfl (lv_room (Nat.le_of_ble_eq_true rfl)) d_Calls_isName_48 ⟨hRc, hRs⟩) (fun r0 Sn H locs hw9 hP hD hS => ?_)
        obtain ⟨e9, e8⟩ := hw9
        rw [e8] at hP hD
        refine W.widen (k := cells) (n := slots) (Nat.le_refl _) (Nat.le_refl _) ?_
        refine toI (y := r3) e9 ?_
        refine lv_if_ne (tgt := 71) hx hb d_Calls_isName_51 (by decide) (fun hc4 => ?_) (fun hc4 => ?_)
        · rw [if_neg hc4] at h
          exact (ih.2.2.2) T3 L M ls H locs h (lv_sub hl [0, 1, 2, 3, 4] rfl) hP hD hS
        · rw [if_pos hc4] at h
          refine lv_aload_n hx hb d_Calls_isName_54 rfl (lv_at hl 0 rfl) ?_
          refine S_getR (h := shC) (C := "MacroMill$Calls") (T := F_Calls) hx hb htt in_Calls hown hK hP 6 0 rfl 31 rfl rfl (by decide) (htt _ k_445) (fun _ h9 => h9) d_Calls_isName_55 ?_
          refine lv_iload_n hx hb d_Calls_isName_58 rfl (lv_at hl 2 rfl) ?_
          show W _ _ _ _ _ _ _ _ _ _ _ _ _ _ _ (F0 _ 59 _ _)
          refine lv_iload hx hb d_Calls_isName_59 (lv_at hl 4 rfl) ?_
          refine lv_iadd hx hb d_Calls_isName_61 ?_
          obtain ⟨hv5, h⟩ := chk h
          refine S_bald (h := shC) (i := (L 2) + (L 4)) hx hb hK hP 18 rfl (okI_in hv5) d_Calls_isName_62 ?_
          obtain ⟨⟨r6, T6⟩, hq6, h⟩ := Option.bind_eq_some_iff.mp h
          try dsimp only at h
          refine go_iS (As := [.int (T3.2.1 18 ((L 2) + (L 4) : Int32).toNatClampNeg)]) (g := g) (A := A) (h := shC) hP hK hD hS hA hN (fun hp => va_runSN (As := [.int (T3.2.1 18 ((L 2) + (L 4) : Int32).toNatClampNeg)]) (rest := []) ⟨hx, hb, hml, hown, htt⟩ (t_MM_isDigit l g _ ad T3 (T3.2.1 18 ((L 2) + (L 4) : Int32).toNatClampNeg : Int32) k9 r6 T6 hq6) ⟨(cb_N (host := "MacroMill") htt k_1177 k_262 hN nM_14 hd_MM_isDigit ⟨(Nat.le_trans (by decide +kernel) hRf), (Nat.le_trans (by decide +kernel) hRl)⟩), htt _ k_1176, trivial⟩ hp rfl rfl hl.1 rfl (lv_room (Nat.le_of_ble_eq_true rfl)) d_Calls_isName_63 ⟨hRc, hRs⟩) (fun r0 Sn H locs hw9 hP hD hS => ?_)
          obtain ⟨e9, e8⟩ := hw9
          rw [e8] at hP hD
          refine W.widen (k := cells) (n := slots) (Nat.le_refl _) (Nat.le_refl _) ?_
          refine toI (y := r6) e9 ?_
          refine lv_if_ne (tgt := 71) hx hb d_Calls_isName_66 (by decide) (fun hc7 => ?_) (fun hc7 => ?_)
          · rw [if_neg hc7] at h
            exact (ih.2.2.2) T6 L M ls H locs h (lv_sub hl [0, 1, 2, 3, 4] rfl) hP hD hS
          · rw [if_pos hc7] at h
            refine lv_iconst (v := 0) hx hb d_Calls_isName_69 (by decide) ?_
            cases h
            exact kx_70 ls H locs rfl hP hD hS
    · intro S L M ls H locs h hl hP hD hS
      simp only [f_Calls_isName] at h
      refine lv_iinc (k := 4) (v := (L 4) + 1) (lv' := [(4, .int ((L 4) + 1)), (0, .ref (ad 6)), (1, .int (L 1)), (2, .int (L 2)), (3, .int (L 3))]) hx hb d_Calls_isName_71 hl rfl rfl (by decide) rfl (fun ls hl => ?_)
      refine lv_goto (tgt := 33) hx hb d_Calls_isName_74 (by decide) ?_
      exact (ih.2.2.1) S (upd L 4 ((L 4) + 1)) M ls H locs h (lv_sub hl [1, 2, 3, 4, 0] rfl) hP hD hS
abbrev rm_t_Calls_isName : Room := { frames := 2, cells := 0, slots := 0, locals := 43 }
theorem t_Calls_isName (l : Launch) (g : gG) (sz : Nat) (ad : Nat → Nat) (S : sS) (v1 : Int32) (k : Nat) (r : Int32) (S9 : sS) (h : f_Calls_isName k 0 S (upd (fun _ => 0) 1 v1) (fun _ => 0) = some (r, S9)) : Cz l y_Calls_isName b_Calls_isName 5 rm_t_Calls_isName g [.ref (ad 6), .int v1] (Sw shC g ad S) sz (fun r1 w => ∃ S1 : sS, w = Sw shC g ad S1 ∧ r1 = r ∧ S1 = S9) := by
  refine startZ (by decide) (Nat.le_of_ble_eq_true rfl) ?_
  intro p e s m below meth c A ls hx hb hr hml hlocks hmn hown htt hN hA hP hK hD hS hl
  exact (w_Calls_isName hx hb hml hown htt hK hN hA (by decide +kernel) (by decide +kernel) (by decide +kernel) (by decide +kernel) r S9 (fun ls H locs hz hP hD hS => fin_z (g := g) (ws := Sw shC g ad S9) hx hb hr hlocks hz (by decide +kernel) (by decide +kernel) hP hD hS ⟨_, rfl, rfl, rfl⟩ d_Calls_isName_29) (fun ls H locs hz hP hD hS => fin_z (g := g) (ws := Sw shC g ad S9) hx hb hr hlocks hz (by decide +kernel) (by decide +kernel) hP hD hS ⟨_, rfl, rfl, rfl⟩ d_Calls_isName_70) (fun ls H locs hz hP hD hS => fin_z (g := g) (ws := Sw shC g ad S9) hx hb hr hlocks hz (by decide +kernel) (by decide +kernel) hP hD hS ⟨_, rfl, rfl, rfl⟩ d_Calls_isName_78) k).1 S (upd (fun _ => 0) 1 v1) (fun _ => 0) ls _ _ h hl hP hD hS
def f_Calls_isQuote : Nat → Nat → sS → (Nat → Int32) → (Nat → Int64) → Option (Int32 × sS)
  | 0, _, _, _, _ => none
  | k + 1, 0, S, L, M => (f_Calls_argumentFrom k 0 S (upd (fun _ => 0) 1 (L 1 : Int32)) (fun _ => 0)).bind (fun (r1, T1) => (f_Calls_argumentSize k 0 T1 (upd (fun _ => 0) 1 (L 1 : Int32)) (fun _ => 0)).bind (fun (r2, T2) => (f_Calls_arguments k 0 T2 (fun _ => 0) (fun _ => 0)).bind (fun (r3, T3) => if r3 ≤ (L 1) then (f_Calls_isQuote k 1 T3 (upd (upd L 2 r1) 3 r2) M) else (if r2 < (1 : Int32) then (f_Calls_isQuote k 1 T3 (upd (upd L 2 r1) 3 r2) M) else (if r2 ≤ (4 : Int32) then (f_Calls_isQuote k 2 T3 (upd (upd (upd L 2 r1) 3 r2) 4 r1) M) else (f_Calls_isQuote k 1 T3 (upd (upd L 2 r1) 3 r2) M))))))
  | k + 1, 1, S, L, M => some ((0 : Int32), S)
  | k + 1, 2, S, L, M => if ((L 2) + (L 3)) ≤ (L 4) then (some ((1 : Int32), S)) else (if okI (L 4) 16384 = true then ((f_MM_isLetter k 0 S (upd (fun _ => 0) 0 (S.2.1 18 (L 4 : Int32).toNatClampNeg : Int32)) (fun _ => 0)).bind (fun (r3, T3) => if r3 = (0 : Int32) then ((f_MM_isDigit k 0 T3 (upd (fun _ => 0) 0 (S.2.1 18 (L 4 : Int32).toNatClampNeg : Int32)) (fun _ => 0)).bind (fun (r5, T5) => if r5 = (0 : Int32) then ((f_MM_isBlank k 0 T5 (upd (fun _ => 0) 0 (S.2.1 18 (L 4 : Int32).toNatClampNeg : Int32)) (fun _ => 0)).bind (fun (r7, T7) => if r7 = (0 : Int32) then (if (S.2.1 18 (L 4 : Int32).toNatClampNeg) = (10 : Int32) then (f_Calls_isQuote k 3 T7 (upd L 5 (S.2.1 18 (L 4 : Int32).toNatClampNeg)) M) else (if (S.2.1 18 (L 4 : Int32).toNatClampNeg) = (35 : Int32) then (f_Calls_isQuote k 3 T7 (upd L 5 (S.2.1 18 (L 4 : Int32).toNatClampNeg)) M) else (if (S.2.1 18 (L 4 : Int32).toNatClampNeg) = (40 : Int32) then (f_Calls_isQuote k 3 T7 (upd L 5 (S.2.1 18 (L 4 : Int32).toNatClampNeg)) M) else (if (S.2.1 18 (L 4 : Int32).toNatClampNeg) = (41 : Int32) then (f_Calls_isQuote k 3 T7 (upd L 5 (S.2.1 18 (L 4 : Int32).toNatClampNeg)) M) else (if (S.2.1 18 (L 4 : Int32).toNatClampNeg) = (44 : Int32) then (f_Calls_isQuote k 3 T7 (upd L 5 (S.2.1 18 (L 4 : Int32).toNatClampNeg)) M) else (f_Calls_isQuote k 2 T7 (upd L 4 ((L 4) + 1)) M)))))) else (f_Calls_isQuote k 3 T7 (upd L 5 (S.2.1 18 (L 4 : Int32).toNatClampNeg)) M))) else (f_Calls_isQuote k 3 T5 (upd L 5 (S.2.1 18 (L 4 : Int32).toNatClampNeg)) M))) else (f_Calls_isQuote k 3 T3 (upd L 5 (S.2.1 18 (L 4 : Int32).toNatClampNeg)) M))) else none)
  | k + 1, 3, S, L, M => some ((0 : Int32), S)
  | _ + 1, _ + 4, _, _, _ => none
set_option maxHeartbeats 8000000 in
set_option maxRecDepth 100000 in
theorem w_Calls_isQuote {p : Program} {l : Launch} {e : Env} {R : Room} {s : State} {m : MethodId} {args : Array Value} {below : List Frame} {meth : Method} {c : Code} {cells slots : Nat} {Q : State → Prop} {g : gG} {A : Nat → Prop} {ad : Nat → Nat} (hx : p.tables.exec = Jvm.exec) (hb : c.code = b_Calls_isQuote) (hml : c.maxLocals = 6) (hown : s.vm.findClass "MacroMill$Calls" = some m.cls) (htt : ∀ w ∈ gt, w.before args s = true) (hK : va_K g.1 classes (tysG g) s) (hN : nw s) (hA : ∀ q : Nat, s.heap.size ≤ q → A q) (hRf : 2 ≤ R.frames) (hRl : 43 ≤ R.locals) (hRc : cells ≤ R.cells) (hRs : slots ≤ R.slots) (r : Int32) (S9 : sS)
    (kx_31 : ∀ (ls : Array Slot) (H : Heap) (locs : List Loc), narrow .boolean (.int r) = .int r → va_P g.1 classes (Sw shC g ad S9) H → va_D A (Sw shC g ad S9) → va_S A s.heap H locs → W p l e R s m args below meth c H locs cells slots Q (F0 m 31 ls [.int r]))
    (kx_112 : ∀ (ls : Array Slot) (H : Heap) (locs : List Loc), narrow .boolean (.int r) = .int r → va_P g.1 classes (Sw shC g ad S9) H → va_D A (Sw shC g ad S9) → va_S A s.heap H locs → W p l e R s m args below meth c H locs cells slots Q (F0 m 112 ls [.int r]))
    (kx_120 : ∀ (ls : Array Slot) (H : Heap) (locs : List Loc), narrow .boolean (.int r) = .int r → va_P g.1 classes (Sw shC g ad S9) H → va_D A (Sw shC g ad S9) → va_S A s.heap H locs → W p l e R s m args below meth c H locs cells slots Q (F0 m 120 ls [.int r])) :
    ∀ k9 : Nat, (∀ (S : sS) (L : Nat → Int32) (M : Nat → Int64) (ls : Array Slot) (H : Heap) (locs : List Loc), f_Calls_isQuote k9 0 S L M = some (r, S9) → lv_has ls 6 [(0, .ref (ad 6)), (1, .int (L 1))] → va_P g.1 classes (Sw shC g ad S) H → va_D A (Sw shC g ad S) → va_S A s.heap H locs → W p l e R s m args below meth c H locs cells slots Q (F0 m 0 ls [])) ∧ (∀ (S : sS) (L : Nat → Int32) (M : Nat → Int64) (ls : Array Slot) (H : Heap) (locs : List Loc), f_Calls_isQuote k9 1 S L M = some (r, S9) → lv_has ls 6 [(0, .ref (ad 6)), (1, .int (L 1)), (2, .int (L 2)), (3, .int (L 3))] → va_P g.1 classes (Sw shC g ad S) H → va_D A (Sw shC g ad S) → va_S A s.heap H locs → W p l e R s m args below meth c H locs cells slots Q (F0 m 30 ls [])) ∧ (∀ (S : sS) (L : Nat → Int32) (M : Nat → Int64) (ls : Array Slot) (H : Heap) (locs : List Loc), f_Calls_isQuote k9 2 S L M = some (r, S9) → lv_has ls 6 [(0, .ref (ad 6)), (1, .int (L 1)), (2, .int (L 2)), (3, .int (L 3)), (4, .int (L 4))] → va_P g.1 classes (Sw shC g ad S) H → va_D A (Sw shC g ad S) → va_S A s.heap H locs → W p l e R s m args below meth c H locs cells slots Q (F0 m 35 ls [])) ∧ (∀ (S : sS) (L : Nat → Int32) (M : Nat → Int64) (ls : Array Slot) (H : Heap) (locs : List Loc), f_Calls_isQuote k9 3 S L M = some (r, S9) → lv_has ls 6 [(0, .ref (ad 6)), (1, .int (L 1)), (2, .int (L 2)), (3, .int (L 3)), (4, .int (L 4)), (5, .int (L 5))] → va_P g.1 classes (Sw shC g ad S) H → va_D A (Sw shC g ad S) → va_S A s.heap H locs → W p l e R s m args below meth c H locs cells slots Q (F0 m 111 ls [])) := by
  intro k9
  induction k9 with
  | zero => exact ⟨(fun _ _ _ _ _ _ h => by simp [f_Calls_isQuote] at h), (fun _ _ _ _ _ _ h => by simp [f_Calls_isQuote] at h), (fun _ _ _ _ _ _ h => by simp [f_Calls_isQuote] at h), (fun _ _ _ _ _ _ h => by simp [f_Calls_isQuote] at h)⟩
  | succ k9 ih =>
    refine ⟨?_, ?_, ?_, ?_⟩
    · intro S L M ls H locs h hl hP hD hS
      simp only [f_Calls_isQuote] at h
      refine lv_aload_n hx hb d_Calls_isQuote_0 rfl (lv_at hl 0 rfl) ?_
      refine lv_iload_n hx hb d_Calls_isQuote_1 rfl (lv_at hl 1 rfl) ?_
      obtain ⟨⟨r1, T1⟩, hq1, h⟩ := Option.bind_eq_some_iff.mp h
      try dsimp only at h
      refine go_iS (As := [.ref (ad 6), .int (L 1)]) (g := g) (A := A) (h := shC) hP hK hD hS hA hN (fun hp => va_runV (As := [.int (L 1)]) (rest := []) ⟨hx, hb, hml, hown, htt⟩ (t_Calls_argumentFrom l g _ ad S (L 1 : Int32) k9 r1 T1 hq1) ⟨(cb_L htt k_1316 k_267 k_1321 hd_Calls_argumentFrom ⟨(Nat.le_trans (by decide +kernel) hRf), (Nat.le_trans (by decide +kernel) hRl)⟩), htt _ k_1314, htt _ k_1315⟩ ⟨hp.1, S_recv hK hP 6 rfl rfl, hp.2⟩ rfl rfl hl.1 rfl (lv_room (Nat.le_of_ble_eq_true rfl)) d_Calls_isQuote_2 ⟨hRc, hRs⟩) (fun r0 Sn H locs hw9 hP hD hS => ?_)
      obtain ⟨e9, e8⟩ := hw9
      rw [e8] at hP hD
      refine W.widen (k := cells) (n := slots) (Nat.le_refl _) (Nat.le_refl _) ?_
      refine toI (y := r1) e9 ?_
      refine lv_istore_n (lv' := [(2, .int r1), (0, .ref (ad 6)), (1, .int (L 1))]) hx hb d_Calls_isQuote_5 rfl hl (by decide) rfl (fun ls hl => ?_)
      refine lv_aload_n hx hb d_Calls_isQuote_6 rfl (lv_at hl 1 rfl) ?_
      refine lv_iload_n hx hb d_Calls_isQuote_7 rfl (lv_at hl 2 rfl) ?_
      obtain ⟨⟨r2, T2⟩, hq2, h⟩ := Option.bind_eq_some_iff.mp h
      try dsimp only at h
      refine go_iS (As := [.ref (ad 6), .int (L 1)]) (g := g) (A := A) (h := shC) hP hK hD hS hA hN (fun hp => va_runV (As := [.int (L 1)]) (rest := []) ⟨hx, hb, hml, hown, htt⟩ (t_Calls_argumentSize l g _ ad T1 (L 1 : Int32) k9 r2 T2 hq2) ⟨(cb_L htt k_1320 k_267 k_1456 hd_Calls_argumentSize ⟨(Nat.le_trans (by decide +kernel) hRf), (Nat.le_trans (by decide +kernel) hRl)⟩), htt _ k_1318, htt _ k_1319⟩ ⟨hp.1, S_recv hK hP 6 rfl rfl, hp.2⟩ rfl rfl hl.1 rfl (lv_room (Nat.le_of_ble_eq_true rfl)) d_Calls_isQuote_8 ⟨hRc, hRs⟩) (fun r0 Sn H locs hw9 hP hD hS => ?_)
      obtain ⟨e9, e8⟩ := hw9
      rw [e8] at hP hD
      refine W.widen (k := cells) (n := slots) (Nat.le_refl _) (Nat.le_refl _) ?_
      refine toI (y := r2) e9 ?_
      refine lv_istore_n (lv' := [(3, .int r2), (2, .int r1), (0, .ref (ad 6)), (1, .int (L 1))]) hx hb d_Calls_isQuote_11 rfl hl (by decide) rfl (fun ls hl => ?_)
      refine lv_iload_n hx hb d_Calls_isQuote_12 rfl (lv_at hl 3 rfl) ?_
      refine lv_aload_n hx hb d_Calls_isQuote_13 rfl (lv_at hl 2 rfl) ?_
      obtain ⟨⟨r3, T3⟩, hq3, h⟩ := Option.bind_eq_some_iff.mp h
      try dsimp only at h
      refine go_iS (As := [.ref (ad 6)]) (g := g) (A := A) (h := shC) hP hK hD hS hA hN (fun hp => va_runV (As := []) (rest := [.int (L 1)]) ⟨hx, hb, hml, hown, htt⟩ (t_Calls_arguments l g _ ad T2 k9 r3 T3 hq3) ⟨(cb_L htt k_1325 k_267 k_1540 hd_Calls_arguments ⟨(Nat.le_trans (by decide +kernel) hRf), (Nat.le_trans (by decide +kernel) hRl)⟩), htt _ k_1323, htt _ k_1324⟩ ⟨hp.1, S_recv hK hP 6 rfl rfl, hp.2⟩ rfl rfl hl.1 rfl (lv_room (Nat.le_of_ble_eq_true rfl)) d_Calls_isQuote_14 ⟨hRc, hRs⟩) (fun r0 Sn H locs hw9 hP hD hS => ?_)
      obtain ⟨e9, e8⟩ := hw9
      rw [e8] at hP hD
      refine W.widen (k := cells) (n := slots) (Nat.le_refl _) (Nat.le_refl _) ?_
      refine toI (y := r3) e9 ?_
      refine lv_icmp_ge (tgt := 30) hx hb d_Calls_isQuote_17 (by decide) (fun hc4 => ?_) (fun hc4 => ?_)
      · rw [if_pos hc4] at h
        exact (ih.2.1) T3 (upd (upd L 2 r1) 3 r2) M ls H locs h (lv_sub hl [2, 3, 1, 0] rfl) hP hD hS
      · rw [if_neg hc4] at h
        refine lv_iload_n hx hb d_Calls_isQuote_20 rfl (lv_at hl 0 rfl) ?_
        refine lv_iconst (v := 1) hx hb d_Calls_isQuote_21 (by decide) ?_
        refine lv_icmp_lt (tgt := 30) hx hb d_Calls_isQuote_22 (by decide) (fun hc5 => ?_) (fun hc5 => ?_)
        · rw [if_pos hc5] at h
          exact (ih.2.1) T3 (upd (upd L 2 r1) 3 r2) M ls H locs h (lv_sub hl [2, 3, 1, 0] rfl) hP hD hS
        · rw [if_neg hc5] at h
          refine lv_iload_n hx hb d_Calls_isQuote_25 rfl (lv_at hl 0 rfl) ?_
          show W _ _ _ _ _ _ _ _ _ _ _ _ _ _ _ (F0 _ 26 _ _)
          refine lv_iconst (v := 4) hx hb d_Calls_isQuote_26 (by decide) ?_
          refine lv_icmp_le (tgt := 32) hx hb d_Calls_isQuote_27 (by decide) (fun hc6 => ?_) (fun hc6 => ?_)
          · rw [if_pos hc6] at h
            refine lv_iload_n hx hb d_Calls_isQuote_32 rfl (lv_at hl 1 rfl) ?_
            refine lv_istore (lv' := [(4, .int r1), (3, .int r2), (2, .int r1), (0, .ref (ad 6)), (1, .int (L 1))]) hx hb d_Calls_isQuote_33 hl (by decide) rfl (fun ls hl => ?_)
            exact (ih.2.2.1) T3 (upd (upd (upd L 2 r1) 3 r2) 4 r1) M ls H locs h (lv_sub hl [3, 4, 2, 1, 0] rfl) hP hD hS
          · rw [if_neg hc6] at h
            exact (ih.2.1) T3 (upd (upd L 2 r1) 3 r2) M ls H locs h (lv_sub hl [2, 3, 1, 0] rfl) hP hD hS
    · intro S L M ls H locs h hl hP hD hS
      simp only [f_Calls_isQuote] at h
      refine lv_iconst (v := 0) hx hb d_Calls_isQuote_30 (by decide) ?_
      cases h
      exact kx_31 ls H locs rfl hP hD hS
    · intro S L M ls H locs h hl hP hD hS
      simp only [f_Calls_isQuote] at h
      refine lv_iload hx hb d_Calls_isQuote_35 (lv_at hl 4 rfl) ?_
      refine lv_iload_n hx hb d_Calls_isQuote_37 rfl (lv_at hl 2 rfl) ?_
      refine lv_iload_n hx hb d_Calls_isQuote_38 rfl (lv_at hl 3 rfl) ?_
      refine lv_iadd hx hb d_Calls_isQuote_39 ?_
      refine lv_icmp_ge (tgt := 119) hx hb d_Calls_isQuote_40 (by decide) (fun hc1 => ?_) (fun hc1 => ?_)
      · rw [if_pos hc1] at h
        refine lv_iconst (v := 1) hx hb d_Calls_isQuote_119 (by decide) ?_
        cases h
        exact kx_120 ls H locs rfl hP hD hS
      · rw [if_neg hc1] at h
        refine lv_aload_n hx hb d_Calls_isQuote_43 rfl (lv_at hl 0 rfl) ?_
        refine S_getR (h := shC) (C := "MacroMill$Calls") (T := F_Calls) hx hb htt in_Calls hown hK hP 6 0 rfl 31 rfl rfl (by decide) (htt _ k_445) (fun _ h9 => h9) d_Calls_isQuote_44 ?_
        refine lv_iload hx hb d_Calls_isQuote_47 (lv_at hl 4 rfl) ?_
        obtain ⟨hv2, h⟩ := chk h
        refine S_bald (h := shC) (i := L 4) hx hb hK hP 18 rfl (okI_in hv2) d_Calls_isQuote_49 ?_
        refine lv_istore (lv' := [(5, .int (S.2.1 18 (L 4 : Int32).toNatClampNeg)), (0, .ref (ad 6)), (1, .int (L 1)), (2, .int (L 2)), (3, .int (L 3)), (4, .int (L 4))]) hx hb d_Calls_isQuote_50 hl (by decide) rfl (fun ls hl => ?_)
        refine lv_iload hx hb d_Calls_isQuote_52 (lv_at hl 0 rfl) ?_
        obtain ⟨⟨r3, T3⟩, hq3, h⟩ := Option.bind_eq_some_iff.mp h
        try dsimp only at h
        refine go_iS (As := [.int (S.2.1 18 (L 4 : Int32).toNatClampNeg)]) (g := g) (A := A) (h := shC) hP hK hD hS hA hN (fun hp => va_runSN (As := [.int (S.2.1 18 (L 4 : Int32).toNatClampNeg)]) (rest := []) ⟨hx, hb, hml, hown, htt⟩ (t_MM_isLetter l g _ ad S (S.2.1 18 (L 4 : Int32).toNatClampNeg : Int32) k9 r3 T3 hq3) ⟨(cb_N (host := "MacroMill") htt k_1170 k_262 hN nM_13 hd_MM_isLetter ⟨(Nat.le_trans (by decide +kernel) hRf), (Nat.le_trans (by decide +kernel) hRl)⟩), htt _ k_1169, trivial⟩ hp rfl rfl hl.1 rfl (lv_room (Nat.le_of_ble_eq_true rfl)) d_Calls_isQuote_54 ⟨hRc, hRs⟩) (fun r0 Sn H locs hw9 hP hD hS => ?_)
        obtain ⟨e9, e8⟩ := hw9
        rw [e8] at hP hD
        refine W.widen (k := cells) (n := slots) (Nat.le_refl _) (Nat.le_refl _) ?_
        refine toI (y := r3) e9 ?_
        refine lv_if_ne (tgt := 111) hx hb d_Calls_isQuote_57 (by decide) (fun hc4 => ?_) (fun hc4 => ?_)
        · rw [if_neg hc4] at h
          exact (ih.2.2.2) T3 (upd L 5 (S.2.1 18 (L 4 : Int32).toNatClampNeg)) M ls H locs h (lv_sub hl [1, 2, 3, 4, 5, 0] rfl) hP hD hS
        · rw [if_pos hc4] at h
          refine lv_iload hx hb d_Calls_isQuote_60 (lv_at hl 0 rfl) ?_
          obtain ⟨⟨r5, T5⟩, hq5, h⟩ := Option.bind_eq_some_iff.mp h
          try dsimp only at h
          refine go_iS (As := [.int (S.2.1 18 (L 4 : Int32).toNatClampNeg)]) (g := g) (A := A) (h := shC) hP hK hD hS hA hN (fun hp => va_runSN (As := [.int (S.2.1 18 (L 4 : Int32).toNatClampNeg)]) (rest := []) ⟨hx, hb, hml, hown, htt⟩ (t_MM_isDigit l g _ ad T3 (S.2.1 18 (L 4 : Int32).toNatClampNeg : Int32) k9 r5 T5 hq5) ⟨(cb_N (host := "MacroMill") htt k_1177 k_262 hN nM_14 hd_MM_isDigit ⟨(Nat.le_trans (by decide +kernel) hRf), (Nat.le_trans (by decide +kernel) hRl)⟩), htt _ k_1176, trivial⟩ hp rfl rfl hl.1 rfl (lv_room (Nat.le_of_ble_eq_true rfl)) d_Calls_isQuote_62 ⟨hRc, hRs⟩) (fun r0 Sn H locs hw9 hP hD hS => ?_)
          obtain ⟨e9, e8⟩ := hw9
          rw [e8] at hP hD
          refine W.widen (k := cells) (n := slots) (Nat.le_refl _) (Nat.le_refl _) ?_
          refine toI (y := r5) e9 ?_
          refine lv_if_ne (tgt := 111) hx hb d_Calls_isQuote_65 (by decide) (fun hc6 => ?_) (fun hc6 => ?_)
          · rw [if_neg hc6] at h
            exact (ih.2.2.2) T5 (upd L 5 (S.2.1 18 (L 4 : Int32).toNatClampNeg)) M ls H locs h (lv_sub hl [1, 2, 3, 4, 5, 0] rfl) hP hD hS
          · rw [if_pos hc6] at h
            show W _ _ _ _ _ _ _ _ _ _ _ _ _ _ _ (F0 _ 68 _ _)
            refine lv_iload hx hb d_Calls_isQuote_68 (lv_at hl 0 rfl) ?_
            obtain ⟨⟨r7, T7⟩, hq7, h⟩ := Option.bind_eq_some_iff.mp h
            try dsimp only at h
            refine go_iS (As := [.int (S.2.1 18 (L 4 : Int32).toNatClampNeg)]) (g := g) (A := A) (h := shC) hP hK hD hS hA hN (fun hp => va_runSN (As := [.int (S.2.1 18 (L 4 : Int32).toNatClampNeg)]) (rest := []) ⟨hx, hb, hml, hown, htt⟩ (t_MM_isBlank l g _ ad T5 (S.2.1 18 (L 4 : Int32).toNatClampNeg : Int32) k9 r7 T7 hq7) ⟨(cb_N (host := "MacroMill") htt k_1257 k_262 hN nM_17 hd_MM_isBlank ⟨(Nat.le_trans (by decide +kernel) hRf), (Nat.le_trans (by decide +kernel) hRl)⟩), htt _ k_1256, trivial⟩ hp rfl rfl hl.1 rfl (lv_room (Nat.le_of_ble_eq_true rfl)) d_Calls_isQuote_70 ⟨hRc, hRs⟩) (fun r0 Sn H locs hw9 hP hD hS => ?_)
            obtain ⟨e9, e8⟩ := hw9
            rw [e8] at hP hD
            refine W.widen (k := cells) (n := slots) (Nat.le_refl _) (Nat.le_refl _) ?_
            refine toI (y := r7) e9 ?_
            refine lv_if_ne (tgt := 111) hx hb d_Calls_isQuote_73 (by decide) (fun hc8 => ?_) (fun hc8 => ?_)
            · rw [if_neg hc8] at h
              exact (ih.2.2.2) T7 (upd L 5 (S.2.1 18 (L 4 : Int32).toNatClampNeg)) M ls H locs h (lv_sub hl [1, 2, 3, 4, 5, 0] rfl) hP hD hS
            · rw [if_pos hc8] at h
              refine lv_iload hx hb d_Calls_isQuote_76 (lv_at hl 0 rfl) ?_
              refine lv_bipush (v := 10) hx hb d_Calls_isQuote_78 (by decide) ?_
              refine lv_icmp_eq (tgt := 111) hx hb d_Calls_isQuote_80 (by decide) (fun hc9 => ?_) (fun hc9 => ?_)
              · rw [if_pos hc9] at h
                exact (ih.2.2.2) T7 (upd L 5 (S.2.1 18 (L 4 : Int32).toNatClampNeg)) M ls H locs h (lv_sub hl [1, 2, 3, 4, 5, 0] rfl) hP hD hS
              · rw [if_neg hc9] at h
                refine lv_iload hx hb d_Calls_isQuote_83 (lv_at hl 0 rfl) ?_
                refine lv_bipush (v := 35) hx hb d_Calls_isQuote_85 (by decide) ?_
                refine lv_icmp_eq (tgt := 111) hx hb d_Calls_isQuote_87 (by decide) (fun hc10 => ?_) (fun hc10 => ?_)
                · rw [if_pos hc10] at h
                  exact (ih.2.2.2) T7 (upd L 5 (S.2.1 18 (L 4 : Int32).toNatClampNeg)) M ls H locs h (lv_sub hl [1, 2, 3, 4, 5, 0] rfl) hP hD hS
                · rw [if_neg hc10] at h
                  refine lv_iload hx hb d_Calls_isQuote_90 (lv_at hl 0 rfl) ?_
                  refine lv_bipush (v := 40) hx hb d_Calls_isQuote_92 (by decide) ?_
                  refine lv_icmp_eq (tgt := 111) hx hb d_Calls_isQuote_94 (by decide) (fun hc11 => ?_) (fun hc11 => ?_)
                  · rw [if_pos hc11] at h
                    exact (ih.2.2.2) T7 (upd L 5 (S.2.1 18 (L 4 : Int32).toNatClampNeg)) M ls H locs h (lv_sub hl [1, 2, 3, 4, 5, 0] rfl) hP hD hS
                  · rw [if_neg hc11] at h
                    refine lv_iload hx hb d_Calls_isQuote_97 (lv_at hl 0 rfl) ?_
                    refine lv_bipush (v := 41) hx hb d_Calls_isQuote_99 (by decide) ?_
                    refine lv_icmp_eq (tgt := 111) hx hb d_Calls_isQuote_101 (by decide) (fun hc12 => ?_) (fun hc12 => ?_)
                    · rw [if_pos hc12] at h
                      exact (ih.2.2.2) T7 (upd L 5 (S.2.1 18 (L 4 : Int32).toNatClampNeg)) M ls H locs h (lv_sub hl [1, 2, 3, 4, 5, 0] rfl) hP hD hS
                    · rw [if_neg hc12] at h
                      refine lv_iload hx hb d_Calls_isQuote_104 (lv_at hl 0 rfl) ?_
                      refine lv_bipush (v := 44) hx hb d_Calls_isQuote_106 (by decide) ?_
                      refine lv_icmp_ne (tgt := 113) hx hb d_Calls_isQuote_108 (by decide) (fun hc13 => ?_) (fun hc13 => ?_)
                      · rw [if_neg hc13] at h
                        refine lv_iinc (k := 5) (v := (L 4) + 1) (lv' := [(4, .int ((L 4) + 1)), (5, .int (S.2.1 18 (L 4 : Int32).toNatClampNeg)), (0, .ref (ad 6)), (1, .int (L 1)), (2, .int (L 2)), (3, .int (L 3))]) hx hb d_Calls_isQuote_113 hl rfl rfl (by decide) rfl (fun ls hl => ?_)
                        show W _ _ _ _ _ _ _ _ _ _ _ _ _ _ _ (F0 _ 116 _ _)
                        refine lv_goto (tgt := 35) hx hb d_Calls_isQuote_116 (by decide) ?_
                        exact (ih.2.2.1) T7 (upd L 4 ((L 4) + 1)) M ls H locs h (lv_sub hl [2, 3, 4, 5, 0] rfl) hP hD hS
                      · rw [if_pos hc13] at h
                        exact (ih.2.2.2) T7 (upd L 5 (S.2.1 18 (L 4 : Int32).toNatClampNeg)) M ls H locs h (lv_sub hl [1, 2, 3, 4, 5, 0] rfl) hP hD hS
    · intro S L M ls H locs h hl hP hD hS
      simp only [f_Calls_isQuote] at h
      refine lv_iconst (v := 0) hx hb d_Calls_isQuote_111 (by decide) ?_
      cases h
      exact kx_112 ls H locs rfl hP hD hS
abbrev rm_t_Calls_isQuote : Room := { frames := 2, cells := 0, slots := 0, locals := 43 }
theorem t_Calls_isQuote (l : Launch) (g : gG) (sz : Nat) (ad : Nat → Nat) (S : sS) (v1 : Int32) (k : Nat) (r : Int32) (S9 : sS) (h : f_Calls_isQuote k 0 S (upd (fun _ => 0) 1 v1) (fun _ => 0) = some (r, S9)) : Cz l y_Calls_isQuote b_Calls_isQuote 6 rm_t_Calls_isQuote g [.ref (ad 6), .int v1] (Sw shC g ad S) sz (fun r1 w => ∃ S1 : sS, w = Sw shC g ad S1 ∧ r1 = r ∧ S1 = S9) := by
  refine startZ (by decide) (Nat.le_of_ble_eq_true rfl) ?_
  intro p e s m below meth c A ls hx hb hr hml hlocks hmn hown htt hN hA hP hK hD hS hl
  exact (w_Calls_isQuote hx hb hml hown htt hK hN hA (by decide +kernel) (by decide +kernel) (by decide +kernel) (by decide +kernel) r S9 (fun ls H locs hz hP hD hS => fin_z (g := g) (ws := Sw shC g ad S9) hx hb hr hlocks hz (by decide +kernel) (by decide +kernel) hP hD hS ⟨_, rfl, rfl, rfl⟩ d_Calls_isQuote_31) (fun ls H locs hz hP hD hS => fin_z (g := g) (ws := Sw shC g ad S9) hx hb hr hlocks hz (by decide +kernel) (by decide +kernel) hP hD hS ⟨_, rfl, rfl, rfl⟩ d_Calls_isQuote_112) (fun ls H locs hz hP hD hS => fin_z (g := g) (ws := Sw shC g ad S9) hx hb hr hlocks hz (by decide +kernel) (by decide +kernel) hP hD hS ⟨_, rfl, rfl, rfl⟩ d_Calls_isQuote_120) k).1 S (upd (fun _ => 0) 1 v1) (fun _ => 0) ls _ _ h hl hP hD hS
def f_Meanings_kindOf : Nat → Nat → sS → (Nat → Int32) → (Nat → Int64) → Option (Int32 × sS)
  | 0, _, _, _, _ => none
  | k + 1, 0, S, L, M => if okI (L 1) 317 = true then (some (S.2.1 31 (L 1 : Int32).toNatClampNeg, S)) else none
  | _ + 1, _ + 1, _, _, _ => none
set_option maxHeartbeats 8000000 in
set_option maxRecDepth 100000 in
theorem w_Meanings_kindOf {p : Program} {l : Launch} {e : Env} {R : Room} {s : State} {m : MethodId} {args : Array Value} {below : List Frame} {meth : Method} {c : Code} {cells slots : Nat} {Q : State → Prop} {g : gG} {A : Nat → Prop} {ad : Nat → Nat} (hx : p.tables.exec = Jvm.exec) (hb : c.code = b_Meanings_kindOf) (hml : c.maxLocals = 2) (hown : s.vm.findClass "MacroMill$Meanings" = some m.cls) (htt : ∀ w ∈ gt, w.before args s = true) (hK : va_K g.1 classes (tysG g) s) (hN : nw s) (hA : ∀ q : Nat, s.heap.size ≤ q → A q) (r : Int32) (S9 : sS)
    (kx_6 : ∀ (ls : Array Slot) (H : Heap) (locs : List Loc), va_P g.1 classes (Sw shC g ad S9) H → va_D A (Sw shC g ad S9) → va_S A s.heap H locs → W p l e R s m args below meth c H locs cells slots Q (F0 m 6 ls [.int r])) :
    ∀ k9 : Nat, (∀ (S : sS) (L : Nat → Int32) (M : Nat → Int64) (ls : Array Slot) (H : Heap) (locs : List Loc), f_Meanings_kindOf k9 0 S L M = some (r, S9) → lv_has ls 2 [(0, .ref (ad 7)), (1, .int (L 1))] → va_P g.1 classes (Sw shC g ad S) H → va_D A (Sw shC g ad S) → va_S A s.heap H locs → W p l e R s m args below meth c H locs cells slots Q (F0 m 0 ls [])) := by
  intro k9
  induction k9 with
  | zero => exact (fun _ _ _ _ _ _ h => by simp [f_Meanings_kindOf] at h)
  | succ k9 ih =>
    · intro S L M ls H locs h hl hP hD hS
      simp only [f_Meanings_kindOf] at h
      refine lv_aload_n hx hb d_Meanings_kindOf_0 rfl (lv_at hl 0 rfl) ?_
      refine S_getR (h := shC) (C := "MacroMill$Meanings") (T := F_Meanings) hx hb htt in_Meanings hown hK hP 7 8 rfl 44 rfl rfl (by decide) (htt _ k_494) (fun _ h9 => h9) d_Meanings_kindOf_1 ?_
      refine lv_iload_n hx hb d_Meanings_kindOf_4 rfl (lv_at hl 1 rfl) ?_
      obtain ⟨hv1, h⟩ := chk h
      refine S_iald (h := shC) (i := L 1) hx hb hK hP 31 rfl (okI_in hv1) d_Meanings_kindOf_5 ?_
      cases h
      exact kx_6 ls H locs hP hD hS
abbrev rm_t_Meanings_kindOf : Room := { frames := 0, cells := 0, slots := 0, locals := 0 }
theorem t_Meanings_kindOf (l : Launch) (g : gG) (sz : Nat) (ad : Nat → Nat) (S : sS) (v1 : Int32) (k : Nat) (r : Int32) (S9 : sS) (h : f_Meanings_kindOf k 0 S (upd (fun _ => 0) 1 v1) (fun _ => 0) = some (r, S9)) : Ci l y_Meanings_kindOf b_Meanings_kindOf 2 rm_t_Meanings_kindOf g [.ref (ad 7), .int v1] (Sw shC g ad S) sz (fun r1 w => ∃ S1 : sS, w = Sw shC g ad S1 ∧ r1 = r ∧ S1 = S9) := by
  refine startI (by decide) (Nat.le_of_ble_eq_true rfl) ?_
  intro p e s m below meth c A ls hx hb hr hml hlocks hmn hown htt hN hA hP hK hD hS hl
  exact (w_Meanings_kindOf hx hb hml hown htt hK hN hA r S9 (fun ls H locs hP hD hS => fin_i (g := g) (ws := Sw shC g ad S9) hx hb hr hlocks (by decide +kernel) (by decide +kernel) hP hD hS ⟨_, rfl, rfl, rfl⟩ d_Meanings_kindOf_6) k) S (upd (fun _ => 0) 1 v1) (fun _ => 0) ls _ _ h hl hP hD hS
def f_Meanings_wantsParenthesis : Nat → Nat → sS → (Nat → Int32) → (Nat → Int64) → Option (Int32 × sS)
  | 0, _, _, _, _ => none
  | k + 1, 0, S, L, M => if okI (L 1) 317 = true then (if (S.2.1 31 (L 1 : Int32).toNatClampNeg) < (1 : Int32) then (f_Meanings_wantsParenthesis k 1 S L M) else (if okI (L 1) 317 = true then (if (13 : Int32) < (S.2.1 31 (L 1 : Int32).toNatClampNeg) then (f_Meanings_wantsParenthesis k 1 S L M) else (f_Meanings_wantsParenthesis k 2 S (upd L 100 (1 : Int32)) M)) else none)) else none
  | k + 1, 1, S, L, M => f_Meanings_wantsParenthesis k 2 S (upd L 100 (0 : Int32)) M
  | k + 1, 2, S, L, M => if bz (L 100) = true then some (L 100, S) else none
  | _ + 1, _ + 3, _, _, _ => none
set_option maxHeartbeats 8000000 in
set_option maxRecDepth 100000 in
theorem w_Meanings_wantsParenthesis {p : Program} {l : Launch} {e : Env} {R : Room} {s : State} {m : MethodId} {args : Array Value} {below : List Frame} {meth : Method} {c : Code} {cells slots : Nat} {Q : State → Prop} {g : gG} {A : Nat → Prop} {ad : Nat → Nat} (hx : p.tables.exec = Jvm.exec) (hb : c.code = b_Meanings_wantsParenthesis) (hml : c.maxLocals = 2) (hown : s.vm.findClass "MacroMill$Meanings" = some m.cls) (htt : ∀ w ∈ gt, w.before args s = true) (hK : va_K g.1 classes (tysG g) s) (hN : nw s) (hA : ∀ q : Nat, s.heap.size ≤ q → A q) (r : Int32) (S9 : sS)
    (kx_26 : ∀ (ls : Array Slot) (H : Heap) (locs : List Loc), narrow .boolean (.int r) = .int r → va_P g.1 classes (Sw shC g ad S9) H → va_D A (Sw shC g ad S9) → va_S A s.heap H locs → W p l e R s m args below meth c H locs cells slots Q (F0 m 26 ls [.int r])) :
    ∀ k9 : Nat, (∀ (S : sS) (L : Nat → Int32) (M : Nat → Int64) (ls : Array Slot) (H : Heap) (locs : List Loc), f_Meanings_wantsParenthesis k9 0 S L M = some (r, S9) → lv_has ls 2 [(0, .ref (ad 7)), (1, .int (L 1))] → va_P g.1 classes (Sw shC g ad S) H → va_D A (Sw shC g ad S) → va_S A s.heap H locs → W p l e R s m args below meth c H locs cells slots Q (F0 m 0 ls [])) ∧ (∀ (S : sS) (L : Nat → Int32) (M : Nat → Int64) (ls : Array Slot) (H : Heap) (locs : List Loc), f_Meanings_wantsParenthesis k9 1 S L M = some (r, S9) → lv_has ls 2 [(0, .ref (ad 7)), (1, .int (L 1))] → va_P g.1 classes (Sw shC g ad S) H → va_D A (Sw shC g ad S) → va_S A s.heap H locs → W p l e R s m args below meth c H locs cells slots Q (F0 m 25 ls [])) ∧ (∀ (S : sS) (L : Nat → Int32) (M : Nat → Int64) (ls : Array Slot) (H : Heap) (locs : List Loc), f_Meanings_wantsParenthesis k9 2 S L M = some (r, S9) → lv_has ls 2 [(0, .ref (ad 7)), (1, .int (L 1))] → va_P g.1 classes (Sw shC g ad S) H → va_D A (Sw shC g ad S) → va_S A s.heap H locs → W p l e R s m args below meth c H locs cells slots Q (F0 m 26 ls [.int (L 100)])) := by
  intro k9
  induction k9 with
  | zero => exact ⟨(fun _ _ _ _ _ _ h => by simp [f_Meanings_wantsParenthesis] at h), (fun _ _ _ _ _ _ h => by simp [f_Meanings_wantsParenthesis] at h), (fun _ _ _ _ _ _ h => by simp [f_Meanings_wantsParenthesis] at h)⟩
  | succ k9 ih =>
    refine ⟨?_, ?_, ?_⟩
    · intro S L M ls H locs h hl hP hD hS
      simp only [f_Meanings_wantsParenthesis] at h
      refine lv_aload_n hx hb d_Meanings_wantsParenthesis_0 rfl (lv_at hl 0 rfl) ?_
      refine S_getR (h := shC) (C := "MacroMill$Meanings") (T := F_Meanings) hx hb htt in_Meanings hown hK hP 7 8 rfl 44 rfl rfl (by decide) (htt _ k_494) (fun _ h9 => h9) d_Meanings_wantsParenthesis_1 ?_
      refine lv_iload_n hx hb d_Meanings_wantsParenthesis_4 rfl (lv_at hl 1 rfl) ?_
      obtain ⟨hv1, h⟩ := chk h
      refine S_iald (h := shC) (i := L 1) hx hb hK hP 31 rfl (okI_in hv1) d_Meanings_wantsParenthesis_5 ?_
      refine lv_iconst (v := 1) hx hb d_Meanings_wantsParenthesis_6 (by decide) ?_
      refine lv_icmp_lt (tgt := 25) hx hb d_Meanings_wantsParenthesis_7 (by decide) (fun hc2 => ?_) (fun hc2 => ?_)
      · rw [if_pos hc2] at h
        exact (ih.2.1) S L M ls H locs h (lv_sub hl [0, 1] rfl) hP hD hS
      · rw [if_neg hc2] at h
        refine lv_aload_n hx hb d_Meanings_wantsParenthesis_10 rfl (lv_at hl 0 rfl) ?_
        refine S_getR (h := shC) (C := "MacroMill$Meanings") (T := F_Meanings) hx hb htt in_Meanings hown hK hP 7 8 rfl 44 rfl rfl (by decide) (htt _ k_494) (fun _ h9 => h9) d_Meanings_wantsParenthesis_11 ?_
        refine lv_iload_n hx hb d_Meanings_wantsParenthesis_14 rfl (lv_at hl 1 rfl) ?_
        obtain ⟨hv3, h⟩ := chk h
        refine S_iald (h := shC) (i := L 1) hx hb hK hP 31 rfl (okI_in hv3) d_Meanings_wantsParenthesis_15 ?_
        refine lv_bipush (v := 13) hx hb d_Meanings_wantsParenthesis_16 (by decide) ?_
        refine lv_icmp_gt (tgt := 25) hx hb d_Meanings_wantsParenthesis_18 (by decide) (fun hc4 => ?_) (fun hc4 => ?_)
        · rw [if_pos hc4] at h
          exact (ih.2.1) S L M ls H locs h (lv_sub hl [0, 1] rfl) hP hD hS
        · rw [if_neg hc4] at h
          refine lv_iconst (v := 1) hx hb d_Meanings_wantsParenthesis_21 (by decide) ?_
          show W _ _ _ _ _ _ _ _ _ _ _ _ _ _ _ (F0 _ 22 _ _)
          refine lv_goto (tgt := 26) hx hb d_Meanings_wantsParenthesis_22 (by decide) ?_
          exact (ih.2.2) S (upd L 100 (1 : Int32)) M ls H locs h (lv_sub hl [0, 1] rfl) hP hD hS
    · intro S L M ls H locs h hl hP hD hS
      simp only [f_Meanings_wantsParenthesis] at h
      refine lv_iconst (v := 0) hx hb d_Meanings_wantsParenthesis_25 (by decide) ?_
      exact (ih.2.2) S (upd L 100 (0 : Int32)) M ls H locs h (lv_sub hl [0, 1] rfl) hP hD hS
    · intro S L M ls H locs h hl hP hD hS
      simp only [f_Meanings_wantsParenthesis] at h
      obtain ⟨hv1, h⟩ := chk h
      cases h
      exact kx_26 ls H locs (bz_n hv1) hP hD hS
abbrev rm_t_Meanings_wantsParenthesis : Room := { frames := 0, cells := 0, slots := 0, locals := 0 }
theorem t_Meanings_wantsParenthesis (l : Launch) (g : gG) (sz : Nat) (ad : Nat → Nat) (S : sS) (v1 : Int32) (k : Nat) (r : Int32) (S9 : sS) (h : f_Meanings_wantsParenthesis k 0 S (upd (fun _ => 0) 1 v1) (fun _ => 0) = some (r, S9)) : Cz l y_Meanings_wantsParenthesis b_Meanings_wantsParenthesis 2 rm_t_Meanings_wantsParenthesis g [.ref (ad 7), .int v1] (Sw shC g ad S) sz (fun r1 w => ∃ S1 : sS, w = Sw shC g ad S1 ∧ r1 = r ∧ S1 = S9) := by
  refine startZ (by decide) (Nat.le_of_ble_eq_true rfl) ?_
  intro p e s m below meth c A ls hx hb hr hml hlocks hmn hown htt hN hA hP hK hD hS hl
  exact (w_Meanings_wantsParenthesis hx hb hml hown htt hK hN hA r S9 (fun ls H locs hz hP hD hS => fin_z (g := g) (ws := Sw shC g ad S9) hx hb hr hlocks hz (by decide +kernel) (by decide +kernel) hP hD hS ⟨_, rfl, rfl, rfl⟩ d_Meanings_wantsParenthesis_26) k).1 S (upd (fun _ => 0) 1 v1) (fun _ => 0) ls _ _ h hl hP hD hS
def f_Meanings_textFrom : Nat → Nat → sS → (Nat → Int32) → (Nat → Int64) → Option (Int32 × sS)
  | 0, _, _, _, _ => none
  | k + 1, 0, S, L, M => if okI (L 1) 317 = true then (if okI (L 1) 317 = true then (some ((S.2.1 28 (L 1 : Int32).toNatClampNeg) + (S.2.1 29 (L 1 : Int32).toNatClampNeg), S)) else none) else none
  | _ + 1, _ + 1, _, _, _ => none
set_option maxHeartbeats 8000000 in
set_option maxRecDepth 100000 in
theorem w_Meanings_textFrom {p : Program} {l : Launch} {e : Env} {R : Room} {s : State} {m : MethodId} {args : Array Value} {below : List Frame} {meth : Method} {c : Code} {cells slots : Nat} {Q : State → Prop} {g : gG} {A : Nat → Prop} {ad : Nat → Nat} (hx : p.tables.exec = Jvm.exec) (hb : c.code = b_Meanings_textFrom) (hml : c.maxLocals = 2) (hown : s.vm.findClass "MacroMill$Meanings" = some m.cls) (htt : ∀ w ∈ gt, w.before args s = true) (hK : va_K g.1 classes (tysG g) s) (hN : nw s) (hA : ∀ q : Nat, s.heap.size ≤ q → A q) (r : Int32) (S9 : sS)
    (kx_13 : ∀ (ls : Array Slot) (H : Heap) (locs : List Loc), va_P g.1 classes (Sw shC g ad S9) H → va_D A (Sw shC g ad S9) → va_S A s.heap H locs → W p l e R s m args below meth c H locs cells slots Q (F0 m 13 ls [.int r])) :
    ∀ k9 : Nat, (∀ (S : sS) (L : Nat → Int32) (M : Nat → Int64) (ls : Array Slot) (H : Heap) (locs : List Loc), f_Meanings_textFrom k9 0 S L M = some (r, S9) → lv_has ls 2 [(0, .ref (ad 7)), (1, .int (L 1))] → va_P g.1 classes (Sw shC g ad S) H → va_D A (Sw shC g ad S) → va_S A s.heap H locs → W p l e R s m args below meth c H locs cells slots Q (F0 m 0 ls [])) := by
  intro k9
  induction k9 with
  | zero => exact (fun _ _ _ _ _ _ h => by simp [f_Meanings_textFrom] at h)
  | succ k9 ih =>
    · intro S L M ls H locs h hl hP hD hS
      simp only [f_Meanings_textFrom] at h
      refine lv_aload_n hx hb d_Meanings_textFrom_0 rfl (lv_at hl 0 rfl) ?_
      refine S_getR (h := shC) (C := "MacroMill$Meanings") (T := F_Meanings) hx hb htt in_Meanings hown hK hP 7 5 rfl 41 rfl rfl (by decide) (htt _ k_491) (fun _ h9 => h9) d_Meanings_textFrom_1 ?_
      refine lv_iload_n hx hb d_Meanings_textFrom_4 rfl (lv_at hl 1 rfl) ?_
      obtain ⟨hv1, h⟩ := chk h
      refine S_iald (h := shC) (i := L 1) hx hb hK hP 28 rfl (okI_in hv1) d_Meanings_textFrom_5 ?_
      refine lv_aload_n hx hb d_Meanings_textFrom_6 rfl (lv_at hl 0 rfl) ?_
      refine S_getR (h := shC) (C := "MacroMill$Meanings") (T := F_Meanings) hx hb htt in_Meanings hown hK hP 7 6 rfl 42 rfl rfl (by decide) (htt _ k_492) (fun _ h9 => h9) d_Meanings_textFrom_7 ?_
      refine lv_iload_n hx hb d_Meanings_textFrom_10 rfl (lv_at hl 1 rfl) ?_
      obtain ⟨hv2, h⟩ := chk h
      refine S_iald (h := shC) (i := L 1) hx hb hK hP 29 rfl (okI_in hv2) d_Meanings_textFrom_11 ?_
      refine lv_iadd hx hb d_Meanings_textFrom_12 ?_
      cases h
      exact kx_13 ls H locs hP hD hS
abbrev rm_t_Meanings_textFrom : Room := { frames := 0, cells := 0, slots := 0, locals := 0 }
theorem t_Meanings_textFrom (l : Launch) (g : gG) (sz : Nat) (ad : Nat → Nat) (S : sS) (v1 : Int32) (k : Nat) (r : Int32) (S9 : sS) (h : f_Meanings_textFrom k 0 S (upd (fun _ => 0) 1 v1) (fun _ => 0) = some (r, S9)) : Ci l y_Meanings_textFrom b_Meanings_textFrom 2 rm_t_Meanings_textFrom g [.ref (ad 7), .int v1] (Sw shC g ad S) sz (fun r1 w => ∃ S1 : sS, w = Sw shC g ad S1 ∧ r1 = r ∧ S1 = S9) := by
  refine startI (by decide) (Nat.le_of_ble_eq_true rfl) ?_
  intro p e s m below meth c A ls hx hb hr hml hlocks hmn hown htt hN hA hP hK hD hS hl
  exact (w_Meanings_textFrom hx hb hml hown htt hK hN hA r S9 (fun ls H locs hP hD hS => fin_i (g := g) (ws := Sw shC g ad S9) hx hb hr hlocks (by decide +kernel) (by decide +kernel) hP hD hS ⟨_, rfl, rfl, rfl⟩ d_Meanings_textFrom_13) k) S (upd (fun _ => 0) 1 v1) (fun _ => 0) ls _ _ h hl hP hD hS
def f_Meanings_textSize : Nat → Nat → sS → (Nat → Int32) → (Nat → Int64) → Option (Int32 × sS)
  | 0, _, _, _, _ => none
  | k + 1, 0, S, L, M => if okI (L 1) 317 = true then (some (S.2.1 30 (L 1 : Int32).toNatClampNeg, S)) else none
  | _ + 1, _ + 1, _, _, _ => none
set_option maxHeartbeats 8000000 in
set_option maxRecDepth 100000 in
theorem w_Meanings_textSize {p : Program} {l : Launch} {e : Env} {R : Room} {s : State} {m : MethodId} {args : Array Value} {below : List Frame} {meth : Method} {c : Code} {cells slots : Nat} {Q : State → Prop} {g : gG} {A : Nat → Prop} {ad : Nat → Nat} (hx : p.tables.exec = Jvm.exec) (hb : c.code = b_Meanings_textSize) (hml : c.maxLocals = 2) (hown : s.vm.findClass "MacroMill$Meanings" = some m.cls) (htt : ∀ w ∈ gt, w.before args s = true) (hK : va_K g.1 classes (tysG g) s) (hN : nw s) (hA : ∀ q : Nat, s.heap.size ≤ q → A q) (r : Int32) (S9 : sS)
    (kx_6 : ∀ (ls : Array Slot) (H : Heap) (locs : List Loc), va_P g.1 classes (Sw shC g ad S9) H → va_D A (Sw shC g ad S9) → va_S A s.heap H locs → W p l e R s m args below meth c H locs cells slots Q (F0 m 6 ls [.int r])) :
    ∀ k9 : Nat, (∀ (S : sS) (L : Nat → Int32) (M : Nat → Int64) (ls : Array Slot) (H : Heap) (locs : List Loc), f_Meanings_textSize k9 0 S L M = some (r, S9) → lv_has ls 2 [(0, .ref (ad 7)), (1, .int (L 1))] → va_P g.1 classes (Sw shC g ad S) H → va_D A (Sw shC g ad S) → va_S A s.heap H locs → W p l e R s m args below meth c H locs cells slots Q (F0 m 0 ls [])) := by
  intro k9
  induction k9 with
  | zero => exact (fun _ _ _ _ _ _ h => by simp [f_Meanings_textSize] at h)
  | succ k9 ih =>
    · intro S L M ls H locs h hl hP hD hS
      simp only [f_Meanings_textSize] at h
      refine lv_aload_n hx hb d_Meanings_textSize_0 rfl (lv_at hl 0 rfl) ?_
      refine S_getR (h := shC) (C := "MacroMill$Meanings") (T := F_Meanings) hx hb htt in_Meanings hown hK hP 7 7 rfl 43 rfl rfl (by decide) (htt _ k_493) (fun _ h9 => h9) d_Meanings_textSize_1 ?_
      refine lv_iload_n hx hb d_Meanings_textSize_4 rfl (lv_at hl 1 rfl) ?_
      obtain ⟨hv1, h⟩ := chk h
      refine S_iald (h := shC) (i := L 1) hx hb hK hP 30 rfl (okI_in hv1) d_Meanings_textSize_5 ?_
      cases h
      exact kx_6 ls H locs hP hD hS
abbrev rm_t_Meanings_textSize : Room := { frames := 0, cells := 0, slots := 0, locals := 0 }
theorem t_Meanings_textSize (l : Launch) (g : gG) (sz : Nat) (ad : Nat → Nat) (S : sS) (v1 : Int32) (k : Nat) (r : Int32) (S9 : sS) (h : f_Meanings_textSize k 0 S (upd (fun _ => 0) 1 v1) (fun _ => 0) = some (r, S9)) : Ci l y_Meanings_textSize b_Meanings_textSize 2 rm_t_Meanings_textSize g [.ref (ad 7), .int v1] (Sw shC g ad S) sz (fun r1 w => ∃ S1 : sS, w = Sw shC g ad S1 ∧ r1 = r ∧ S1 = S9) := by
  refine startI (by decide) (Nat.le_of_ble_eq_true rfl) ?_
  intro p e s m below meth c A ls hx hb hr hml hlocks hmn hown htt hN hA hP hK hD hS hl
  exact (w_Meanings_textSize hx hb hml hown htt hK hN hA r S9 (fun ls H locs hP hD hS => fin_i (g := g) (ws := Sw shC g ad S9) hx hb hr hlocks (by decide +kernel) (by decide +kernel) hP hD hS ⟨_, rfl, rfl, rfl⟩ d_Meanings_textSize_6) k) S (upd (fun _ => 0) 1 v1) (fun _ => 0) ls _ _ h hl hP hD hS
def f_Meanings_isNamed (x2 : Nat) (nx2 : Nat) : Nat → Nat → sS → (Nat → Int32) → (Nat → Int64) → Option (Int32 × sS)
  | 0, _, _, _, _ => none
  | k + 1, 0, S, L, M => if okI (L 1) 317 = true then (if (S.2.1 29 (L 1 : Int32).toNatClampNeg) = (L 4) then (if okI (L 1) 317 = true then ((f_MM_areSame 25 33280 x2 nx2 k 0 S (upd (upd (upd (fun _ => 0) 1 (S.2.1 28 (L 1 : Int32).toNatClampNeg : Int32)) 3 (L 3 : Int32)) 4 (L 4 : Int32)) (fun _ => 0)).bind (fun (r4, T4) => if r4 = (0 : Int32) then (f_Meanings_isNamed x2 nx2 k 1 T4 L M) else (f_Meanings_isNamed x2 nx2 k 2 T4 (upd L 100 (1 : Int32)) M))) else none) else (f_Meanings_isNamed x2 nx2 k 1 S L M)) else none
  | k + 1, 1, S, L, M => f_Meanings_isNamed x2 nx2 k 2 S (upd L 100 (0 : Int32)) M
  | k + 1, 2, S, L, M => if bz (L 100) = true then some (L 100, S) else none
  | _ + 1, _ + 3, _, _, _ => none
set_option maxHeartbeats 8000000 in
set_option maxRecDepth 100000 in
theorem w_Meanings_isNamed {p : Program} {l : Launch} {e : Env} {R : Room} {s : State} {m : MethodId} {args : Array Value} {below : List Frame} {meth : Method} {c : Code} {cells slots : Nat} {Q : State → Prop} {g : gG} {A : Nat → Prop} {ad : Nat → Nat} (hx : p.tables.exec = Jvm.exec) (hb : c.code = b_Meanings_isNamed) (hml : c.maxLocals = 5) (hown : s.vm.findClass "MacroMill$Meanings" = some m.cls) (htt : ∀ w ∈ gt, w.before args s = true) (hK : va_K g.1 classes (tysG g) s) (hN : nw s) (hA : ∀ q : Nat, s.heap.size ≤ q → A q) (hRf : 1 ≤ R.frames) (hRl : 25 ≤ R.locals) (hRc : cells ≤ R.cells) (hRs : slots ≤ R.slots) (x2 : Nat) (nx2 : Nat) (hx2 : shC.2[x2]? = some (0, nx2)) (r : Int32) (S9 : sS)
    (kx_36 : ∀ (ls : Array Slot) (H : Heap) (locs : List Loc), narrow .boolean (.int r) = .int r → va_P g.1 classes (Sw shC g ad S9) H → va_D A (Sw shC g ad S9) → va_S A s.heap H locs → W p l e R s m args below meth c H locs cells slots Q (F0 m 36 ls [.int r])) :
    ∀ k9 : Nat, (∀ (S : sS) (L : Nat → Int32) (M : Nat → Int64) (ls : Array Slot) (H : Heap) (locs : List Loc), f_Meanings_isNamed x2 nx2 k9 0 S L M = some (r, S9) → lv_has ls 5 [(0, .ref (ad 7)), (1, .int (L 1)), (2, .ref (ad (shC.1.length + x2))), (3, .int (L 3)), (4, .int (L 4))] → va_P g.1 classes (Sw shC g ad S) H → va_D A (Sw shC g ad S) → va_S A s.heap H locs → W p l e R s m args below meth c H locs cells slots Q (F0 m 0 ls [])) ∧ (∀ (S : sS) (L : Nat → Int32) (M : Nat → Int64) (ls : Array Slot) (H : Heap) (locs : List Loc), f_Meanings_isNamed x2 nx2 k9 1 S L M = some (r, S9) → lv_has ls 5 [(0, .ref (ad 7)), (1, .int (L 1)), (2, .ref (ad (shC.1.length + x2))), (3, .int (L 3)), (4, .int (L 4))] → va_P g.1 classes (Sw shC g ad S) H → va_D A (Sw shC g ad S) → va_S A s.heap H locs → W p l e R s m args below meth c H locs cells slots Q (F0 m 35 ls [])) ∧ (∀ (S : sS) (L : Nat → Int32) (M : Nat → Int64) (ls : Array Slot) (H : Heap) (locs : List Loc), f_Meanings_isNamed x2 nx2 k9 2 S L M = some (r, S9) → lv_has ls 5 [(0, .ref (ad 7)), (1, .int (L 1)), (2, .ref (ad (shC.1.length + x2))), (3, .int (L 3)), (4, .int (L 4))] → va_P g.1 classes (Sw shC g ad S) H → va_D A (Sw shC g ad S) → va_S A s.heap H locs → W p l e R s m args below meth c H locs cells slots Q (F0 m 36 ls [.int (L 100)])) := by
  intro k9
  induction k9 with
  | zero => exact ⟨(fun _ _ _ _ _ _ h => by simp [f_Meanings_isNamed] at h), (fun _ _ _ _ _ _ h => by simp [f_Meanings_isNamed] at h), (fun _ _ _ _ _ _ h => by simp [f_Meanings_isNamed] at h)⟩
  | succ k9 ih =>
    refine ⟨?_, ?_, ?_⟩
    · intro S L M ls H locs h hl hP hD hS
      simp only [f_Meanings_isNamed] at h
      refine lv_aload_n hx hb d_Meanings_isNamed_0 rfl (lv_at hl 0 rfl) ?_
      refine S_getR (h := shC) (C := "MacroMill$Meanings") (T := F_Meanings) hx hb htt in_Meanings hown hK hP 7 6 rfl 42 rfl rfl (by decide) (htt _ k_492) (fun _ h9 => h9) d_Meanings_isNamed_1 ?_
      refine lv_iload_n hx hb d_Meanings_isNamed_4 rfl (lv_at hl 1 rfl) ?_
      obtain ⟨hv1, h⟩ := chk h
      refine S_iald (h := shC) (i := L 1) hx hb hK hP 29 rfl (okI_in hv1) d_Meanings_isNamed_5 ?_
      refine lv_iload hx hb d_Meanings_isNamed_6 (lv_at hl 4 rfl) ?_
      refine lv_icmp_ne (tgt := 35) hx hb d_Meanings_isNamed_8 (by decide) (fun hc2 => ?_) (fun hc2 => ?_)
      · rw [if_neg hc2] at h
        exact (ih.2.1) S L M ls H locs h (lv_sub hl [0, 1, 2, 3, 4] rfl) hP hD hS
      · rw [if_pos hc2] at h
        refine lv_aload_n hx hb d_Meanings_isNamed_11 rfl (lv_at hl 0 rfl) ?_
        refine S_getR (h := shC) (C := "MacroMill$Meanings") (T := F_Meanings) hx hb htt in_Meanings hown hK hP 7 0 rfl 38 rfl rfl (by decide) (htt _ k_485) (fun _ h9 => h9) d_Meanings_isNamed_12 ?_
        refine lv_aload_n hx hb d_Meanings_isNamed_15 rfl (lv_at hl 0 rfl) ?_
        refine S_getR (h := shC) (C := "MacroMill$Meanings") (T := F_Meanings) hx hb htt in_Meanings hown hK hP 7 5 rfl 41 rfl rfl (by decide) (htt _ k_491) (fun _ h9 => h9) d_Meanings_isNamed_16 ?_
        refine lv_iload_n hx hb d_Meanings_isNamed_19 rfl (lv_at hl 1 rfl) ?_
        obtain ⟨hv3, h⟩ := chk h
        refine S_iald (h := shC) (i := L 1) hx hb hK hP 28 rfl (okI_in hv3) d_Meanings_isNamed_20 ?_
        show W _ _ _ _ _ _ _ _ _ _ _ _ _ _ _ (F0 _ 21 _ _)
        refine lv_aload_n hx hb d_Meanings_isNamed_21 rfl (lv_at hl 2 rfl) ?_
        refine lv_iload_n hx hb d_Meanings_isNamed_22 rfl (lv_at hl 3 rfl) ?_
        refine lv_iload hx hb d_Meanings_isNamed_23 (lv_at hl 4 rfl) ?_
        obtain ⟨⟨r4, T4⟩, hq4, h⟩ := Option.bind_eq_some_iff.mp h
        try dsimp only at h
        refine go_iS (As := [.ref (ad 38), .int (S.2.1 28 (L 1 : Int32).toNatClampNeg), .ref (ad (shC.1.length + x2)), .int (L 3), .int (L 4)]) (g := g) (A := A) (h := shC) hP hK hD hS hA hN (fun hp => va_runSN (As := [.ref (ad 38), .int (S.2.1 28 (L 1 : Int32).toNatClampNeg), .ref (ad (shC.1.length + x2)), .int (L 3), .int (L 4)]) (rest := []) ⟨hx, hb, hml, hown, htt⟩ (t_MM_areSame l g _ ad S 25 33280 x2 nx2 (S.2.1 28 (L 1 : Int32).toNatClampNeg : Int32) (L 3 : Int32) (L 4 : Int32) rfl hx2 k9 r4 T4 hq4) ⟨(cb_N (host := "MacroMill") htt k_1012 k_262 hN nM_10 hd_MM_areSame ⟨(Nat.le_trans (by decide +kernel) hRf), (Nat.le_trans (by decide +kernel) hRl)⟩), htt _ k_1011, trivial⟩ hp rfl rfl hl.1 rfl (lv_room (Nat.le_of_ble_eq_true rfl)) d_Meanings_isNamed_25 ⟨hRc, hRs⟩) (fun r0 Sn H locs hw9 hP hD hS => ?_)
        obtain ⟨e9, e8⟩ := hw9
        rw [e8] at hP hD
        refine W.widen (k := cells) (n := slots) (Nat.le_refl _) (Nat.le_refl _) ?_
        refine toI (y := r4) e9 ?_
        refine lv_if_eq (tgt := 35) hx hb d_Meanings_isNamed_28 (by decide) (fun hc5 => ?_) (fun hc5 => ?_)
        · rw [if_pos hc5] at h
          exact (ih.2.1) T4 L M ls H locs h (lv_sub hl [0, 1, 2, 3, 4] rfl) hP hD hS
        · rw [if_neg hc5] at h
          refine lv_iconst (v := 1) hx hb d_Meanings_isNamed_31 (by decide) ?_
          refine lv_goto (tgt := 36) hx hb d_Meanings_isNamed_32 (by decide) ?_
          exact (ih.2.2) T4 (upd L 100 (1 : Int32)) M ls H locs h (lv_sub hl [0, 1, 2, 3, 4] rfl) hP hD hS
    · intro S L M ls H locs h hl hP hD hS
      simp only [f_Meanings_isNamed] at h
      refine lv_iconst (v := 0) hx hb d_Meanings_isNamed_35 (by decide) ?_
      exact (ih.2.2) S (upd L 100 (0 : Int32)) M ls H locs h (lv_sub hl [0, 1, 2, 3, 4] rfl) hP hD hS
    · intro S L M ls H locs h hl hP hD hS
      simp only [f_Meanings_isNamed] at h
      obtain ⟨hv1, h⟩ := chk h
      cases h
      exact kx_36 ls H locs (bz_n hv1) hP hD hS
abbrev rm_t_Meanings_isNamed : Room := { frames := 1, cells := 0, slots := 0, locals := 25 }
theorem t_Meanings_isNamed (l : Launch) (g : gG) (sz : Nat) (ad : Nat → Nat) (S : sS) (x2 : Nat) (nx2 : Nat) (v1 : Int32) (v3 : Int32) (v4 : Int32) (hx2 : shC.2[x2]? = some (0, nx2)) (k : Nat) (r : Int32) (S9 : sS) (h : f_Meanings_isNamed x2 nx2 k 0 S (upd (upd (upd (fun _ => 0) 1 v1) 3 v3) 4 v4) (fun _ => 0) = some (r, S9)) : Cz l y_Meanings_isNamed b_Meanings_isNamed 5 rm_t_Meanings_isNamed g [.ref (ad 7), .int v1, .ref (ad (shC.1.length + x2)), .int v3, .int v4] (Sw shC g ad S) sz (fun r1 w => ∃ S1 : sS, w = Sw shC g ad S1 ∧ r1 = r ∧ S1 = S9) := by
  refine startZ (by decide) (Nat.le_of_ble_eq_true rfl) ?_
  intro p e s m below meth c A ls hx hb hr hml hlocks hmn hown htt hN hA hP hK hD hS hl
  exact (w_Meanings_isNamed hx hb hml hown htt hK hN hA (by decide +kernel) (by decide +kernel) (by decide +kernel) (by decide +kernel) x2 nx2 hx2 r S9 (fun ls H locs hz hP hD hS => fin_z (g := g) (ws := Sw shC g ad S9) hx hb hr hlocks hz (by decide +kernel) (by decide +kernel) hP hD hS ⟨_, rfl, rfl, rfl⟩ d_Meanings_isNamed_36) k).1 S (upd (upd (upd (fun _ => 0) 1 v1) 3 v3) 4 v4) (fun _ => 0) ls _ _ h hl hP hD hS
def f_Meanings_takeNode : Nat → Nat → sS → (Nat → Int32) → (Nat → Int64) → Option (Int32 × sS)
  | 0, _, _, _, _ => none
  | k + 1, 0, S, L, M => if okI (S.1 7 4) 317 = true then (if okI (L 1) 256 = true then (if okI (S.1 7 4) 317 = true then (if okI (L 1) 256 = true then (some (S.1 7 4, (putA (putA (putI S 7 4 (S.2.1 27 (S.1 7 4 : Int32).toNatClampNeg)) 27 (S.1 7 4 : Int32).toNatClampNeg ((putI S 7 4 (S.2.1 27 (S.1 7 4 : Int32).toNatClampNeg)).2.1 26 (L 1 : Int32).toNatClampNeg)) 26 (L 1 : Int32).toNatClampNeg (S.1 7 4)))) else none) else none) else none) else none
  | _ + 1, _ + 1, _, _, _ => none
set_option maxHeartbeats 8000000 in
set_option maxRecDepth 100000 in
theorem w_Meanings_takeNode {p : Program} {l : Launch} {e : Env} {R : Room} {s : State} {m : MethodId} {args : Array Value} {below : List Frame} {meth : Method} {c : Code} {cells slots : Nat} {Q : State → Prop} {g : gG} {A : Nat → Prop} {ad : Nat → Nat} (hx : p.tables.exec = Jvm.exec) (hb : c.code = b_Meanings_takeNode) (hml : c.maxLocals = 3) (hown : s.vm.findClass "MacroMill$Meanings" = some m.cls) (htt : ∀ w ∈ gt, w.before args s = true) (hK : va_K g.1 classes (tysG g) s) (hN : nw s) (hA : ∀ q : Nat, s.heap.size ≤ q → A q) (r : Int32) (S9 : sS)
    (kx_35 : ∀ (ls : Array Slot) (H : Heap) (locs : List Loc), va_P g.1 classes (Sw shC g ad S9) H → va_D A (Sw shC g ad S9) → va_S A s.heap H locs → W p l e R s m args below meth c H locs cells slots Q (F0 m 35 ls [.int r])) :
    ∀ k9 : Nat, (∀ (S : sS) (L : Nat → Int32) (M : Nat → Int64) (ls : Array Slot) (H : Heap) (locs : List Loc), f_Meanings_takeNode k9 0 S L M = some (r, S9) → lv_has ls 3 [(0, .ref (ad 7)), (1, .int (L 1))] → va_P g.1 classes (Sw shC g ad S) H → va_D A (Sw shC g ad S) → va_S A s.heap H locs → W p l e R s m args below meth c H locs cells slots Q (F0 m 0 ls [])) := by
  intro k9
  induction k9 with
  | zero => exact (fun _ _ _ _ _ _ h => by simp [f_Meanings_takeNode] at h)
  | succ k9 ih =>
    · intro S L M ls H locs h hl hP hD hS
      simp only [f_Meanings_takeNode] at h
      refine lv_aload_n hx hb d_Meanings_takeNode_0 rfl (lv_at hl 0 rfl) ?_
      refine S_getI (h := shC) (C := "MacroMill$Meanings") (T := F_Meanings) hx hb htt in_Meanings hown hK hP 7 4 rfl rfl rfl (by decide) (htt _ k_490) (fun _ h9 => h9) d_Meanings_takeNode_1 ?_
      refine lv_istore_n (lv' := [(2, .int (S.1 7 4)), (0, .ref (ad 7)), (1, .int (L 1))]) hx hb d_Meanings_takeNode_4 rfl hl (by decide) rfl (fun ls hl => ?_)
      refine lv_aload_n hx hb d_Meanings_takeNode_5 rfl (lv_at hl 1 rfl) ?_
      refine lv_aload_n hx hb d_Meanings_takeNode_6 rfl (lv_at hl 1 rfl) ?_
      refine S_getR (h := shC) (C := "MacroMill$Meanings") (T := F_Meanings) hx hb htt in_Meanings hown hK hP 7 3 rfl 40 rfl rfl (by decide) (htt _ k_489) (fun _ h9 => h9) d_Meanings_takeNode_7 ?_
      refine lv_iload_n hx hb d_Meanings_takeNode_10 rfl (lv_at hl 0 rfl) ?_
      obtain ⟨hv1, h⟩ := chk h
      refine S_iald (h := shC) (i := S.1 7 4) hx hb hK hP 27 rfl (okI_in hv1) d_Meanings_takeNode_11 ?_
      refine S_put (h := shC) (C := "MacroMill$Meanings") (T := F_Meanings) (v := S.2.1 27 (S.1 7 4 : Int32).toNatClampNeg) hx hb htt in_Meanings t_Meanings t_Meanings_ok n_Meanings hown hK hP hD hS 7 4 rfl rfl rfl (by decide) (htt _ k_490) (fun _ h9 => h9) rfl rfl rfl d_Meanings_takeNode_12 (fun H locs hP hD hS => ?_)
      refine lv_aload_n hx hb d_Meanings_takeNode_15 rfl (lv_at hl 1 rfl) ?_
      refine S_getR (h := shC) (C := "MacroMill$Meanings") (T := F_Meanings) hx hb htt in_Meanings hown hK hP 7 3 rfl 40 rfl rfl (by decide) (htt _ k_489) (fun _ h9 => h9) d_Meanings_takeNode_16 ?_
      show W _ _ _ _ _ _ _ _ _ _ _ _ _ _ _ (F0 _ 19 _ _)
      refine lv_iload_n hx hb d_Meanings_takeNode_19 rfl (lv_at hl 0 rfl) ?_
      refine lv_aload_n hx hb d_Meanings_takeNode_20 rfl (lv_at hl 1 rfl) ?_
      refine S_getR (h := shC) (C := "MacroMill$Meanings") (T := F_Meanings) hx hb htt in_Meanings hown hK hP 7 2 rfl 39 rfl rfl (by decide) (htt _ k_488) (fun _ h9 => h9) d_Meanings_takeNode_21 ?_
      refine lv_iload_n hx hb d_Meanings_takeNode_24 rfl (lv_at hl 2 rfl) ?_
      obtain ⟨hv2, h⟩ := chk h
      refine S_iald (h := shC) (i := L 1) hx hb hK hP 26 rfl (okI_in hv2) d_Meanings_takeNode_25 ?_
      obtain ⟨hv3, h⟩ := chk h
      refine S_iast (h := shC) (i := S.1 7 4) (v := (putI S 7 4 (S.2.1 27 (S.1 7 4 : Int32).toNatClampNeg)).2.1 26 (L 1 : Int32).toNatClampNeg) hx hb hK hP hD hS 27 rfl (okI_in hv3) d_Meanings_takeNode_26 (fun H locs hP hD hS => ?_)
      refine lv_aload_n hx hb d_Meanings_takeNode_27 rfl (lv_at hl 1 rfl) ?_
      refine S_getR (h := shC) (C := "MacroMill$Meanings") (T := F_Meanings) hx hb htt in_Meanings hown hK hP 7 2 rfl 39 rfl rfl (by decide) (htt _ k_488) (fun _ h9 => h9) d_Meanings_takeNode_28 ?_
      refine lv_iload_n hx hb d_Meanings_takeNode_31 rfl (lv_at hl 2 rfl) ?_
      refine lv_iload_n hx hb d_Meanings_takeNode_32 rfl (lv_at hl 0 rfl) ?_
      obtain ⟨hv4, h⟩ := chk h
      refine S_iast (h := shC) (i := L 1) (v := S.1 7 4) hx hb hK hP hD hS 26 rfl (okI_in hv4) d_Meanings_takeNode_33 (fun H locs hP hD hS => ?_)
      refine lv_iload_n hx hb d_Meanings_takeNode_34 rfl (lv_at hl 0 rfl) ?_
      cases h
      exact kx_35 ls H locs hP hD hS
abbrev rm_t_Meanings_takeNode : Room := { frames := 0, cells := 0, slots := 0, locals := 0 }
theorem t_Meanings_takeNode (l : Launch) (g : gG) (sz : Nat) (ad : Nat → Nat) (S : sS) (v1 : Int32) (k : Nat) (r : Int32) (S9 : sS) (h : f_Meanings_takeNode k 0 S (upd (fun _ => 0) 1 v1) (fun _ => 0) = some (r, S9)) : Ci l y_Meanings_takeNode b_Meanings_takeNode 3 rm_t_Meanings_takeNode g [.ref (ad 7), .int v1] (Sw shC g ad S) sz (fun r1 w => ∃ S1 : sS, w = Sw shC g ad S1 ∧ r1 = r ∧ S1 = S9) := by
  refine startI (by decide) (Nat.le_of_ble_eq_true rfl) ?_
  intro p e s m below meth c A ls hx hb hr hml hlocks hmn hown htt hN hA hP hK hD hS hl
  exact (w_Meanings_takeNode hx hb hml hown htt hK hN hA r S9 (fun ls H locs hP hD hS => fin_i (g := g) (ws := Sw shC g ad S9) hx hb hr hlocks (by decide +kernel) (by decide +kernel) hP hD hS ⟨_, rfl, rfl, rfl⟩ d_Meanings_takeNode_35) k) S (upd (fun _ => 0) 1 v1) (fun _ => 0) ls _ _ h hl hP hD hS
def f_Meanings_release : Nat → Nat → sS → (Nat → Int32) → (Nat → Int64) → Option (Int32 × sS)
  | 0, _, _, _, _ => none
  | k + 1, 0, S, L, M => if okI (L 1) 317 = true then (if (S.2.1 31 (L 1 : Int32).toNatClampNeg) = (0 : Int32) then (if okI (L 1) 317 = true then (if okI (L 1) 317 = true then (f_Meanings_release k 1 (putI (putI S 7 9 ((S.1 7 9) - (1 : Int32))) 7 10 ((S.1 7 10) - (((putI S 7 9 ((S.1 7 9) - (1 : Int32))).2.1 29 (L 1 : Int32).toNatClampNeg) + ((putI S 7 9 ((S.1 7 9) - (1 : Int32))).2.1 30 (L 1 : Int32).toNatClampNeg)))) L M) else none) else none) else (f_Meanings_release k 1 S L M)) else none
  | k + 1, 1, S, L, M => if okI (L 1) 317 = true then (if okI (L 1) 317 = true then (some ((0 : Int32), (putI (putA (putA S 28 (L 1 : Int32).toNatClampNeg (-1)) 27 (L 1 : Int32).toNatClampNeg (S.1 7 4)) 7 4 (L 1)))) else none) else none
  | _ + 1, _ + 2, _, _, _ => none
set_option maxHeartbeats 8000000 in
set_option maxRecDepth 100000 in
theorem w_Meanings_release {p : Program} {l : Launch} {e : Env} {R : Room} {s : State} {m : MethodId} {args : Array Value} {below : List Frame} {meth : Method} {c : Code} {cells slots : Nat} {Q : State → Prop} {g : gG} {A : Nat → Prop} {ad : Nat → Nat} (hx : p.tables.exec = Jvm.exec) (hb : c.code = b_Meanings_release) (hml : c.maxLocals = 2) (hown : s.vm.findClass "MacroMill$Meanings" = some m.cls) (htt : ∀ w ∈ gt, w.before args s = true) (hK : va_K g.1 classes (tysG g) s) (hN : nw s) (hA : ∀ q : Nat, s.heap.size ≤ q → A q) (r : Int32) (S9 : sS)
    (kx_63 : ∀ (ls : Array Slot) (H : Heap) (locs : List Loc), va_P g.1 classes (Sw shC g ad S9) H → va_D A (Sw shC g ad S9) → va_S A s.heap H locs → W p l e R s m args below meth c H locs cells slots Q (F0 m 63 ls [])) :
    ∀ k9 : Nat, (∀ (S : sS) (L : Nat → Int32) (M : Nat → Int64) (ls : Array Slot) (H : Heap) (locs : List Loc), f_Meanings_release k9 0 S L M = some (r, S9) → lv_has ls 2 [(0, .ref (ad 7)), (1, .int (L 1))] → va_P g.1 classes (Sw shC g ad S) H → va_D A (Sw shC g ad S) → va_S A s.heap H locs → W p l e R s m args below meth c H locs cells slots Q (F0 m 0 ls [])) ∧ (∀ (S : sS) (L : Nat → Int32) (M : Nat → Int64) (ls : Array Slot) (H : Heap) (locs : List Loc), f_Meanings_release k9 1 S L M = some (r, S9) → lv_has ls 2 [(0, .ref (ad 7)), (1, .int (L 1))] → va_P g.1 classes (Sw shC g ad S) H → va_D A (Sw shC g ad S) → va_S A s.heap H locs → W p l e R s m args below meth c H locs cells slots Q (F0 m 41 ls [])) := by
  intro k9
  induction k9 with
  | zero => exact ⟨(fun _ _ _ _ _ _ h => by simp [f_Meanings_release] at h), (fun _ _ _ _ _ _ h => by simp [f_Meanings_release] at h)⟩
  | succ k9 ih =>
    refine ⟨?_, ?_⟩
    · intro S L M ls H locs h hl hP hD hS
      simp only [f_Meanings_release] at h
      refine lv_aload_n hx hb d_Meanings_release_0 rfl (lv_at hl 0 rfl) ?_
      refine S_getR (h := shC) (C := "MacroMill$Meanings") (T := F_Meanings) hx hb htt in_Meanings hown hK hP 7 8 rfl 44 rfl rfl (by decide) (htt _ k_494) (fun _ h9 => h9) d_Meanings_release_1 ?_
      refine lv_iload_n hx hb d_Meanings_release_4 rfl (lv_at hl 1 rfl) ?_
      obtain ⟨hv1, h⟩ := chk h
      refine S_iald (h := shC) (i := L 1) hx hb hK hP 31 rfl (okI_in hv1) d_Meanings_release_5 ?_
      refine lv_if_ne (tgt := 41) hx hb d_Meanings_release_6 (by decide) (fun hc2 => ?_) (fun hc2 => ?_)
      · rw [if_neg hc2] at h
        exact (ih.2) S L M ls H locs h (lv_sub hl [0, 1] rfl) hP hD hS
      · rw [if_pos hc2] at h
        refine lv_aload_n hx hb d_Meanings_release_9 rfl (lv_at hl 0 rfl) ?_
        refine lv_dup hx hb d_Meanings_release_10 rfl ?_
        refine S_getI (h := shC) (C := "MacroMill$Meanings") (T := F_Meanings) hx hb htt in_Meanings hown hK hP 7 9 rfl rfl rfl (by decide) (htt _ k_495) (fun _ h9 => h9) d_Meanings_release_11 ?_
        refine lv_iconst (v := 1) hx hb d_Meanings_release_14 (by decide) ?_
        refine lv_isub hx hb d_Meanings_release_15 ?_
        refine S_put (h := shC) (C := "MacroMill$Meanings") (T := F_Meanings) (v := (S.1 7 9) - (1 : Int32)) hx hb htt in_Meanings t_Meanings t_Meanings_ok n_Meanings hown hK hP hD hS 7 9 rfl rfl rfl (by decide) (htt _ k_495) (fun _ h9 => h9) rfl rfl rfl d_Meanings_release_16 (fun H locs hP hD hS => ?_)
        refine lv_aload_n hx hb d_Meanings_release_19 rfl (lv_at hl 0 rfl) ?_
        show W _ _ _ _ _ _ _ _ _ _ _ _ _ _ _ (F0 _ 20 _ _)
        refine lv_dup hx hb d_Meanings_release_20 rfl ?_
        refine S_getI (h := shC) (C := "MacroMill$Meanings") (T := F_Meanings) hx hb htt in_Meanings hown hK hP 7 10 rfl rfl rfl (by decide) (htt _ k_496) (fun _ h9 => h9) d_Meanings_release_21 ?_
        refine toI (y := S.1 7 10) rfl ?_
        refine lv_aload_n hx hb d_Meanings_release_24 rfl (lv_at hl 0 rfl) ?_
        refine S_getR (h := shC) (C := "MacroMill$Meanings") (T := F_Meanings) hx hb htt in_Meanings hown hK hP 7 6 rfl 42 rfl rfl (by decide) (htt _ k_492) (fun _ h9 => h9) d_Meanings_release_25 ?_
        refine lv_iload_n hx hb d_Meanings_release_28 rfl (lv_at hl 1 rfl) ?_
        obtain ⟨hv3, h⟩ := chk h
        refine S_iald (h := shC) (i := L 1) hx hb hK hP 29 rfl (okI_in hv3) d_Meanings_release_29 ?_
        refine lv_aload_n hx hb d_Meanings_release_30 rfl (lv_at hl 0 rfl) ?_
        refine S_getR (h := shC) (C := "MacroMill$Meanings") (T := F_Meanings) hx hb htt in_Meanings hown hK hP 7 7 rfl 43 rfl rfl (by decide) (htt _ k_493) (fun _ h9 => h9) d_Meanings_release_31 ?_
        refine lv_iload_n hx hb d_Meanings_release_34 rfl (lv_at hl 1 rfl) ?_
        obtain ⟨hv4, h⟩ := chk h
        refine S_iald (h := shC) (i := L 1) hx hb hK hP 30 rfl (okI_in hv4) d_Meanings_release_35 ?_
        refine lv_iadd hx hb d_Meanings_release_36 ?_
        refine lv_isub hx hb d_Meanings_release_37 ?_
        show W _ _ _ _ _ _ _ _ _ _ _ _ _ _ _ (F0 _ 38 _ _)
        refine S_put (h := shC) (C := "MacroMill$Meanings") (T := F_Meanings) (v := (S.1 7 10) - (((putI S 7 9 ((S.1 7 9) - (1 : Int32))).2.1 29 (L 1 : Int32).toNatClampNeg) + ((putI S 7 9 ((S.1 7 9) - (1 : Int32))).2.1 30 (L 1 : Int32).toNatClampNeg))) hx hb htt in_Meanings t_Meanings t_Meanings_ok n_Meanings hown hK hP hD hS 7 10 rfl rfl rfl (by decide) (htt _ k_496) (fun _ h9 => h9) rfl rfl rfl d_Meanings_release_38 (fun H locs hP hD hS => ?_)
        exact (ih.2) (putI (putI S 7 9 ((S.1 7 9) - (1 : Int32))) 7 10 ((S.1 7 10) - (((putI S 7 9 ((S.1 7 9) - (1 : Int32))).2.1 29 (L 1 : Int32).toNatClampNeg) + ((putI S 7 9 ((S.1 7 9) - (1 : Int32))).2.1 30 (L 1 : Int32).toNatClampNeg)))) L M ls H locs h (lv_sub hl [0, 1] rfl) hP hD hS
    · intro S L M ls H locs h hl hP hD hS
      simp only [f_Meanings_release] at h
      refine lv_aload_n hx hb d_Meanings_release_41 rfl (lv_at hl 0 rfl) ?_
      refine S_getR (h := shC) (C := "MacroMill$Meanings") (T := F_Meanings) hx hb htt in_Meanings hown hK hP 7 5 rfl 41 rfl rfl (by decide) (htt _ k_491) (fun _ h9 => h9) d_Meanings_release_42 ?_
      refine lv_iload_n hx hb d_Meanings_release_45 rfl (lv_at hl 1 rfl) ?_
      refine lv_iconst (v := (-1)) hx hb d_Meanings_release_46 (by decide) ?_
      obtain ⟨hv1, h⟩ := chk h
      refine S_iast (h := shC) (i := L 1) (v := (-1)) hx hb hK hP hD hS 28 rfl (okI_in hv1) d_Meanings_release_47 (fun H locs hP hD hS => ?_)
      refine lv_aload_n hx hb d_Meanings_release_48 rfl (lv_at hl 0 rfl) ?_
      refine S_getR (h := shC) (C := "MacroMill$Meanings") (T := F_Meanings) hx hb htt in_Meanings hown hK hP 7 3 rfl 40 rfl rfl (by decide) (htt _ k_489) (fun _ h9 => h9) d_Meanings_release_49 ?_
      refine lv_iload_n hx hb d_Meanings_release_52 rfl (lv_at hl 1 rfl) ?_
      refine lv_aload_n hx hb d_Meanings_release_53 rfl (lv_at hl 0 rfl) ?_
      refine S_getI (h := shC) (C := "MacroMill$Meanings") (T := F_Meanings) hx hb htt in_Meanings hown hK hP 7 4 rfl rfl rfl (by decide) (htt _ k_490) (fun _ h9 => h9) d_Meanings_release_54 ?_
      refine toI (y := S.1 7 4) rfl ?_
      obtain ⟨hv2, h⟩ := chk h
      refine S_iast (h := shC) (i := L 1) (v := S.1 7 4) hx hb hK hP hD hS 27 rfl (okI_in hv2) d_Meanings_release_57 (fun H locs hP hD hS => ?_)
      show W _ _ _ _ _ _ _ _ _ _ _ _ _ _ _ (F0 _ 58 _ _)
      refine lv_aload_n hx hb d_Meanings_release_58 rfl (lv_at hl 0 rfl) ?_
      refine lv_iload_n hx hb d_Meanings_release_59 rfl (lv_at hl 1 rfl) ?_
      refine S_put (h := shC) (C := "MacroMill$Meanings") (T := F_Meanings) (v := L 1) hx hb htt in_Meanings t_Meanings t_Meanings_ok n_Meanings hown hK hP hD hS 7 4 rfl rfl rfl (by decide) (htt _ k_490) (fun _ h9 => h9) rfl rfl rfl d_Meanings_release_60 (fun H locs hP hD hS => ?_)
      cases h
      exact kx_63 ls H locs hP hD hS
abbrev rm_t_Meanings_release : Room := { frames := 0, cells := 0, slots := 0, locals := 0 }
theorem t_Meanings_release (l : Launch) (g : gG) (sz : Nat) (ad : Nat → Nat) (S : sS) (v1 : Int32) (k : Nat) (r : Int32) (S9 : sS) (h : f_Meanings_release k 0 S (upd (fun _ => 0) 1 v1) (fun _ => 0) = some (r, S9)) : Cv l y_Meanings_release b_Meanings_release 2 rm_t_Meanings_release g [.ref (ad 7), .int v1] (Sw shC g ad S) sz (fun w => ∃ S1 : sS, w = Sw shC g ad S1 ∧ S1 = S9) := by
  refine startV (by decide) (Nat.le_of_ble_eq_true rfl) ?_
  intro p e s m below meth c A ls hx hb hr hml hlocks hmn hown htt hN hA hP hK hD hS hl
  exact (w_Meanings_release hx hb hml hown htt hK hN hA r S9 (fun ls H locs hP hD hS => fin_v (g := g) (ws := Sw shC g ad S9) hx hb hr hlocks (by decide +kernel) (by decide +kernel) hP hD hS ⟨_, rfl, rfl⟩ d_Meanings_release_63) k).1 S (upd (fun _ => 0) 1 v1) (fun _ => 0) ls _ _ h hl hP hD hS
def f_Second_fail : Nat → Nat → sS → (Nat → Int32) → (Nat → Int64) → Option (Int32 × sS)
  | 0, _, _, _, _ => none
  | k + 1, 0, S, L, M => (f_Outcome_fail k 0 S (upd (upd (fun _ => 0) 1 (L 1 : Int32)) 2 (S.1 8 14 : Int32)) (fun _ => 0)).bind (fun (r1, T1) => some ((0 : Int32), T1))
  | _ + 1, _ + 1, _, _, _ => none
set_option maxHeartbeats 8000000 in
set_option maxRecDepth 100000 in
theorem w_Second_fail {p : Program} {l : Launch} {e : Env} {R : Room} {s : State} {m : MethodId} {args : Array Value} {below : List Frame} {meth : Method} {c : Code} {cells slots : Nat} {Q : State → Prop} {g : gG} {A : Nat → Prop} {ad : Nat → Nat} (hx : p.tables.exec = Jvm.exec) (hb : c.code = b_Second_fail) (hml : c.maxLocals = 2) (hown : s.vm.findClass "MacroMill$Second" = some m.cls) (htt : ∀ w ∈ gt, w.before args s = true) (hK : va_K g.1 classes (tysG g) s) (hN : nw s) (hA : ∀ q : Nat, s.heap.size ≤ q → A q) (hRf : 1 ≤ R.frames) (hRl : 22 ≤ R.locals) (hRc : cells ≤ R.cells) (hRs : slots ≤ R.slots) (r : Int32) (S9 : sS)
    (kx_12 : ∀ (ls : Array Slot) (H : Heap) (locs : List Loc), va_P g.1 classes (Sw shC g ad S9) H → va_D A (Sw shC g ad S9) → va_S A s.heap H locs → W p l e R s m args below meth c H locs cells slots Q (F0 m 12 ls [])) :
    ∀ k9 : Nat, (∀ (S : sS) (L : Nat → Int32) (M : Nat → Int64) (ls : Array Slot) (H : Heap) (locs : List Loc), f_Second_fail k9 0 S L M = some (r, S9) → lv_has ls 2 [(0, .ref (ad 8)), (1, .int (L 1))] → va_P g.1 classes (Sw shC g ad S) H → va_D A (Sw shC g ad S) → va_S A s.heap H locs → W p l e R s m args below meth c H locs cells slots Q (F0 m 0 ls [])) := by
  intro k9
  induction k9 with
  | zero => exact (fun _ _ _ _ _ _ h => by simp [f_Second_fail] at h)
  | succ k9 ih =>
    · intro S L M ls H locs h hl hP hD hS
      simp only [f_Second_fail] at h
      refine lv_aload_n hx hb d_Second_fail_0 rfl (lv_at hl 0 rfl) ?_
      refine S_getR (h := shC) (C := "MacroMill$Second") (T := F_Second) hx hb htt in_Second hown hK hP 8 1 rfl 2 rfl rfl (by decide) (htt _ k_897) (fun _ h9 => h9) d_Second_fail_1 ?_
      refine lv_iload_n hx hb d_Second_fail_4 rfl (lv_at hl 1 rfl) ?_
      refine lv_aload_n hx hb d_Second_fail_5 rfl (lv_at hl 0 rfl) ?_
      refine S_getI (h := shC) (C := "MacroMill$Second") (T := F_Second) hx hb htt in_Second hown hK hP 8 14 rfl rfl rfl (by decide) (htt _ k_911) (fun _ h9 => h9) d_Second_fail_6 ?_
      obtain ⟨⟨r1, T1⟩, hq1, h⟩ := Option.bind_eq_some_iff.mp h
      try dsimp only at h
      refine go_vS (As := [.ref (ad 2), .int (L 1), .int (S.1 8 14)]) (g := g) (A := A) (h := shC) hP hK hD hS hA hN (fun hp => va_runV (As := [.int (L 1), .int (S.1 8 14)]) (rest := []) ⟨hx, hb, hml, hown, htt⟩ (t_Outcome_fail l g _ ad S (L 1 : Int32) (S.1 8 14 : Int32) k9 r1 T1 hq1) ⟨(cb_L htt k_1163 k_264 k_2001 hd_Outcome_fail ⟨(Nat.le_trans (by decide +kernel) hRf), (Nat.le_trans (by decide +kernel) hRl)⟩), htt _ k_1161, htt _ k_1162⟩ ⟨hp.1, S_recv hK hP 2 rfl rfl, hp.2⟩ rfl rfl hl.1 rfl (lv_room (Nat.le_of_ble_eq_true rfl)) d_Second_fail_9 ⟨hRc, hRs⟩) (fun Sn H locs hw9 hP hD hS => ?_)
      have e8 := hw9
      rw [e8] at hP hD
      refine W.widen (k := cells) (n := slots) (Nat.le_refl _) (Nat.le_refl _) ?_
      cases h
      exact kx_12 ls H locs hP hD hS
abbrev rm_t_Second_fail : Room := { frames := 1, cells := 0, slots := 0, locals := 22 }
theorem t_Second_fail (l : Launch) (g : gG) (sz : Nat) (ad : Nat → Nat) (S : sS) (v1 : Int32) (k : Nat) (r : Int32) (S9 : sS) (h : f_Second_fail k 0 S (upd (fun _ => 0) 1 v1) (fun _ => 0) = some (r, S9)) : Cv l y_Second_fail b_Second_fail 2 rm_t_Second_fail g [.ref (ad 8), .int v1] (Sw shC g ad S) sz (fun w => ∃ S1 : sS, w = Sw shC g ad S1 ∧ S1 = S9) := by
  refine startV (by decide) (Nat.le_of_ble_eq_true rfl) ?_
  intro p e s m below meth c A ls hx hb hr hml hlocks hmn hown htt hN hA hP hK hD hS hl
  exact (w_Second_fail hx hb hml hown htt hK hN hA (by decide +kernel) (by decide +kernel) (by decide +kernel) (by decide +kernel) r S9 (fun ls H locs hP hD hS => fin_v (g := g) (ws := Sw shC g ad S9) hx hb hr hlocks (by decide +kernel) (by decide +kernel) hP hD hS ⟨_, rfl, rfl⟩ d_Second_fail_12) k) S (upd (fun _ => 0) 1 v1) (fun _ => 0) ls _ _ h hl hP hD hS
def f_Second_isCounting : Nat → Nat → sS → (Nat → Int32) → (Nat → Int64) → Option (Int32 × sS)
  | 0, _, _, _, _ => none
  | k + 1, 0, S, L, M => if (S.1 8 9) = (0 : Int32) then (f_Second_isCounting k 1 S L M) else (if okI ((S.1 8 9) - (1 : Int32)) 100 = true then (if ((S.2.1 33 ((S.1 8 9) - (1 : Int32) : Int32).toNatClampNeg) &&& (1 : Int32)) = (0 : Int32) then (f_Second_isCounting k 2 S (upd L 100 (0 : Int32)) M) else (f_Second_isCounting k 1 S L M)) else none)
  | k + 1, 1, S, L, M => f_Second_isCounting k 2 S (upd L 100 (1 : Int32)) M
  | k + 1, 2, S, L, M => if bz (L 100) = true then some (L 100, S) else none
  | _ + 1, _ + 3, _, _, _ => none
set_option maxHeartbeats 8000000 in
set_option maxRecDepth 100000 in
theorem w_Second_isCounting {p : Program} {l : Launch} {e : Env} {R : Room} {s : State} {m : MethodId} {args : Array Value} {below : List Frame} {meth : Method} {c : Code} {cells slots : Nat} {Q : State → Prop} {g : gG} {A : Nat → Prop} {ad : Nat → Nat} (hx : p.tables.exec = Jvm.exec) (hb : c.code = b_Second_isCounting) (hml : c.maxLocals = 1) (hown : s.vm.findClass "MacroMill$Second" = some m.cls) (htt : ∀ w ∈ gt, w.before args s = true) (hK : va_K g.1 classes (tysG g) s) (hN : nw s) (hA : ∀ q : Nat, s.heap.size ≤ q → A q) (r : Int32) (S9 : sS)
    (kx_28 : ∀ (ls : Array Slot) (H : Heap) (locs : List Loc), narrow .boolean (.int r) = .int r → va_P g.1 classes (Sw shC g ad S9) H → va_D A (Sw shC g ad S9) → va_S A s.heap H locs → W p l e R s m args below meth c H locs cells slots Q (F0 m 28 ls [.int r])) :
    ∀ k9 : Nat, (∀ (S : sS) (L : Nat → Int32) (M : Nat → Int64) (ls : Array Slot) (H : Heap) (locs : List Loc), f_Second_isCounting k9 0 S L M = some (r, S9) → lv_has ls 1 [(0, .ref (ad 8))] → va_P g.1 classes (Sw shC g ad S) H → va_D A (Sw shC g ad S) → va_S A s.heap H locs → W p l e R s m args below meth c H locs cells slots Q (F0 m 0 ls [])) ∧ (∀ (S : sS) (L : Nat → Int32) (M : Nat → Int64) (ls : Array Slot) (H : Heap) (locs : List Loc), f_Second_isCounting k9 1 S L M = some (r, S9) → lv_has ls 1 [(0, .ref (ad 8))] → va_P g.1 classes (Sw shC g ad S) H → va_D A (Sw shC g ad S) → va_S A s.heap H locs → W p l e R s m args below meth c H locs cells slots Q (F0 m 23 ls [])) ∧ (∀ (S : sS) (L : Nat → Int32) (M : Nat → Int64) (ls : Array Slot) (H : Heap) (locs : List Loc), f_Second_isCounting k9 2 S L M = some (r, S9) → lv_has ls 1 [(0, .ref (ad 8))] → va_P g.1 classes (Sw shC g ad S) H → va_D A (Sw shC g ad S) → va_S A s.heap H locs → W p l e R s m args below meth c H locs cells slots Q (F0 m 28 ls [.int (L 100)])) := by
  intro k9
  induction k9 with
  | zero => exact ⟨(fun _ _ _ _ _ _ h => by simp [f_Second_isCounting] at h), (fun _ _ _ _ _ _ h => by simp [f_Second_isCounting] at h), (fun _ _ _ _ _ _ h => by simp [f_Second_isCounting] at h)⟩
  | succ k9 ih =>
    refine ⟨?_, ?_, ?_⟩
    · intro S L M ls H locs h hl hP hD hS
      simp only [f_Second_isCounting] at h
      refine lv_aload_n hx hb d_Second_isCounting_0 rfl (lv_at hl 0 rfl) ?_
      refine S_getI (h := shC) (C := "MacroMill$Second") (T := F_Second) hx hb htt in_Second hown hK hP 8 9 rfl rfl rfl (by decide) (htt _ k_906) (fun _ h9 => h9) d_Second_isCounting_1 ?_
      refine lv_if_eq (tgt := 23) hx hb d_Second_isCounting_4 (by decide) (fun hc1 => ?_) (fun hc1 => ?_)
      · rw [if_pos hc1] at h
        exact (ih.2.1) S L M ls H locs h (lv_sub hl [0] rfl) hP hD hS
      · rw [if_neg hc1] at h
        refine lv_aload_n hx hb d_Second_isCounting_7 rfl (lv_at hl 0 rfl) ?_
        refine S_getR (h := shC) (C := "MacroMill$Second") (T := F_Second) hx hb htt in_Second hown hK hP 8 8 rfl 46 rfl rfl (by decide) (htt _ k_905) (fun _ h9 => h9) d_Second_isCounting_8 ?_
        refine lv_aload_n hx hb d_Second_isCounting_11 rfl (lv_at hl 0 rfl) ?_
        refine S_getI (h := shC) (C := "MacroMill$Second") (T := F_Second) hx hb htt in_Second hown hK hP 8 9 rfl rfl rfl (by decide) (htt _ k_906) (fun _ h9 => h9) d_Second_isCounting_12 ?_
        refine lv_iconst (v := 1) hx hb d_Second_isCounting_15 (by decide) ?_
        refine lv_isub hx hb d_Second_isCounting_16 ?_
        obtain ⟨hv2, h⟩ := chk h
        refine S_iald (h := shC) (i := (S.1 8 9) - (1 : Int32)) hx hb hK hP 33 rfl (okI_in hv2) d_Second_isCounting_17 ?_
        refine lv_iconst (v := 1) hx hb d_Second_isCounting_18 (by decide) ?_
        refine lv_iand hx hb d_Second_isCounting_19 ?_
        refine lv_if_eq (tgt := 27) hx hb d_Second_isCounting_20 (by decide) (fun hc3 => ?_) (fun hc3 => ?_)
        · rw [if_pos hc3] at h
          show W _ _ _ _ _ _ _ _ _ _ _ _ _ _ _ (F0 _ 27 _ _)
          refine lv_iconst (v := 0) hx hb d_Second_isCounting_27 (by decide) ?_
          exact (ih.2.2) S (upd L 100 (0 : Int32)) M ls H locs h (lv_sub hl [0] rfl) hP hD hS
        · rw [if_neg hc3] at h
          exact (ih.2.1) S L M ls H locs h (lv_sub hl [0] rfl) hP hD hS
    · intro S L M ls H locs h hl hP hD hS
      simp only [f_Second_isCounting] at h
      refine lv_iconst (v := 1) hx hb d_Second_isCounting_23 (by decide) ?_
      refine lv_goto (tgt := 28) hx hb d_Second_isCounting_24 (by decide) ?_
      exact (ih.2.2) S (upd L 100 (1 : Int32)) M ls H locs h (lv_sub hl [0] rfl) hP hD hS
    · intro S L M ls H locs h hl hP hD hS
      simp only [f_Second_isCounting] at h
      obtain ⟨hv1, h⟩ := chk h
      cases h
      exact kx_28 ls H locs (bz_n hv1) hP hD hS
abbrev rm_t_Second_isCounting : Room := { frames := 0, cells := 0, slots := 0, locals := 0 }
theorem t_Second_isCounting (l : Launch) (g : gG) (sz : Nat) (ad : Nat → Nat) (S : sS) (k : Nat) (r : Int32) (S9 : sS) (h : f_Second_isCounting k 0 S (fun _ => 0) (fun _ => 0) = some (r, S9)) : Cz l y_Second_isCounting b_Second_isCounting 1 rm_t_Second_isCounting g [.ref (ad 8)] (Sw shC g ad S) sz (fun r1 w => ∃ S1 : sS, w = Sw shC g ad S1 ∧ r1 = r ∧ S1 = S9) := by
  refine startZ (by decide) (Nat.le_of_ble_eq_true rfl) ?_
  intro p e s m below meth c A ls hx hb hr hml hlocks hmn hown htt hN hA hP hK hD hS hl
  exact (w_Second_isCounting hx hb hml hown htt hK hN hA r S9 (fun ls H locs hz hP hD hS => fin_z (g := g) (ws := Sw shC g ad S9) hx hb hr hlocks hz (by decide +kernel) (by decide +kernel) hP hD hS ⟨_, rfl, rfl, rfl⟩ d_Second_isCounting_28) k).1 S (fun _ => 0) (fun _ => 0) ls _ _ h hl hP hD hS
def f_Second_failIfTooLong : Nat → Nat → sS → (Nat → Int32) → (Nat → Int64) → Option (Int32 × sS)
  | 0, _, _, _, _ => none
  | k + 1, 0, S, L, M => if ((S.1 8 13) - (S.1 8 12)) ≤ (8000 : Int32) then (f_Second_failIfTooLong k 1 S L M) else ((f_Second_fail k 0 S (upd (fun _ => 0) 1 (21 : Int32)) (fun _ => 0)).bind (fun (r2, T2) => f_Second_failIfTooLong k 1 T2 L M))
  | k + 1, 1, S, L, M => some ((0 : Int32), S)
  | _ + 1, _ + 2, _, _, _ => none
set_option maxHeartbeats 8000000 in
set_option maxRecDepth 100000 in
theorem w_Second_failIfTooLong {p : Program} {l : Launch} {e : Env} {R : Room} {s : State} {m : MethodId} {args : Array Value} {below : List Frame} {meth : Method} {c : Code} {cells slots : Nat} {Q : State → Prop} {g : gG} {A : Nat → Prop} {ad : Nat → Nat} (hx : p.tables.exec = Jvm.exec) (hb : c.code = b_Second_failIfTooLong) (hml : c.maxLocals = 1) (hown : s.vm.findClass "MacroMill$Second" = some m.cls) (htt : ∀ w ∈ gt, w.before args s = true) (hK : va_K g.1 classes (tysG g) s) (hN : nw s) (hA : ∀ q : Nat, s.heap.size ≤ q → A q) (hRf : 2 ≤ R.frames) (hRl : 43 ≤ R.locals) (hRc : cells ≤ R.cells) (hRs : slots ≤ R.slots) (r : Int32) (S9 : sS)
    (kx_21 : ∀ (ls : Array Slot) (H : Heap) (locs : List Loc), va_P g.1 classes (Sw shC g ad S9) H → va_D A (Sw shC g ad S9) → va_S A s.heap H locs → W p l e R s m args below meth c H locs cells slots Q (F0 m 21 ls [])) :
    ∀ k9 : Nat, (∀ (S : sS) (L : Nat → Int32) (M : Nat → Int64) (ls : Array Slot) (H : Heap) (locs : List Loc), f_Second_failIfTooLong k9 0 S L M = some (r, S9) → lv_has ls 1 [(0, .ref (ad 8))] → va_P g.1 classes (Sw shC g ad S) H → va_D A (Sw shC g ad S) → va_S A s.heap H locs → W p l e R s m args below meth c H locs cells slots Q (F0 m 0 ls [])) ∧ (∀ (S : sS) (L : Nat → Int32) (M : Nat → Int64) (ls : Array Slot) (H : Heap) (locs : List Loc), f_Second_failIfTooLong k9 1 S L M = some (r, S9) → lv_has ls 1 [(0, .ref (ad 8))] → va_P g.1 classes (Sw shC g ad S) H → va_D A (Sw shC g ad S) → va_S A s.heap H locs → W p l e R s m args below meth c H locs cells slots Q (F0 m 21 ls [])) := by
  intro k9
  induction k9 with
  | zero => exact ⟨(fun _ _ _ _ _ _ h => by simp [f_Second_failIfTooLong] at h), (fun _ _ _ _ _ _ h => by simp [f_Second_failIfTooLong] at h)⟩
  | succ k9 ih =>
    refine ⟨?_, ?_⟩
    · intro S L M ls H locs h hl hP hD hS
      simp only [f_Second_failIfTooLong] at h
      refine lv_aload_n hx hb d_Second_failIfTooLong_0 rfl (lv_at hl 0 rfl) ?_
      refine S_getI (h := shC) (C := "MacroMill$Second") (T := F_Second) hx hb htt in_Second hown hK hP 8 13 rfl rfl rfl (by decide) (htt _ k_910) (fun _ h9 => h9) d_Second_failIfTooLong_1 ?_
      refine lv_aload_n hx hb d_Second_failIfTooLong_4 rfl (lv_at hl 0 rfl) ?_
      refine S_getI (h := shC) (C := "MacroMill$Second") (T := F_Second) hx hb htt in_Second hown hK hP 8 12 rfl rfl rfl (by decide) (htt _ k_909) (fun _ h9 => h9) d_Second_failIfTooLong_5 ?_
      refine lv_isub hx hb d_Second_failIfTooLong_8 ?_
      refine lv_sipush (v := 8000) hx hb d_Second_failIfTooLong_9 (by decide) ?_
      refine lv_icmp_le (tgt := 21) hx hb d_Second_failIfTooLong_12 (by decide) (fun hc1 => ?_) (fun hc1 => ?_)
      · rw [if_pos hc1] at h
        exact (ih.2) S L M ls H locs h (lv_sub hl [0] rfl) hP hD hS
      · rw [if_neg hc1] at h
        refine lv_aload_n hx hb d_Second_failIfTooLong_15 rfl (lv_at hl 0 rfl) ?_
        refine lv_bipush (v := 21) hx hb d_Second_failIfTooLong_16 (by decide) ?_
        obtain ⟨⟨r2, T2⟩, hq2, h⟩ := Option.bind_eq_some_iff.mp h
        try dsimp only at h
        refine go_vS (As := [.ref (ad 8), .int 21]) (g := g) (A := A) (h := shC) hP hK hD hS hA hN (fun hp => va_runV (As := [.int 21]) (rest := []) ⟨hx, hb, hml, hown, htt⟩ (t_Second_fail l g _ ad S (21 : Int32) k9 r2 T2 hq2) ⟨(cb_L htt k_2000 k_270 k_1997 hd_Second_fail ⟨(Nat.le_trans (by decide +kernel) hRf), (Nat.le_trans (by decide +kernel) hRl)⟩), htt _ k_1999, htt _ k_96⟩ ⟨hp.1, S_recv hK hP 8 rfl rfl, hp.2⟩ rfl rfl hl.1 rfl (lv_room (Nat.le_of_ble_eq_true rfl)) d_Second_failIfTooLong_18 ⟨hRc, hRs⟩) (fun Sn H locs hw9 hP hD hS => ?_)
        have e8 := hw9
        rw [e8] at hP hD
        refine W.widen (k := cells) (n := slots) (Nat.le_refl _) (Nat.le_refl _) ?_
        exact (ih.2) T2 L M ls H locs h (lv_sub hl [0] rfl) hP hD hS
    · intro S L M ls H locs h hl hP hD hS
      simp only [f_Second_failIfTooLong] at h
      cases h
      exact kx_21 ls H locs hP hD hS
abbrev rm_t_Second_failIfTooLong : Room := { frames := 2, cells := 0, slots := 0, locals := 43 }
theorem t_Second_failIfTooLong (l : Launch) (g : gG) (sz : Nat) (ad : Nat → Nat) (S : sS) (k : Nat) (r : Int32) (S9 : sS) (h : f_Second_failIfTooLong k 0 S (fun _ => 0) (fun _ => 0) = some (r, S9)) : Cv l y_Second_failIfTooLong b_Second_failIfTooLong 1 rm_t_Second_failIfTooLong g [.ref (ad 8)] (Sw shC g ad S) sz (fun w => ∃ S1 : sS, w = Sw shC g ad S1 ∧ S1 = S9) := by
  refine startV (by decide) (Nat.le_of_ble_eq_true rfl) ?_
  intro p e s m below meth c A ls hx hb hr hml hlocks hmn hown htt hN hA hP hK hD hS hl
  exact (w_Second_failIfTooLong hx hb hml hown htt hK hN hA (by decide +kernel) (by decide +kernel) (by decide +kernel) (by decide +kernel) r S9 (fun ls H locs hP hD hS => fin_v (g := g) (ws := Sw shC g ad S9) hx hb hr hlocks (by decide +kernel) (by decide +kernel) hP hD hS ⟨_, rfl, rfl⟩ d_Second_failIfTooLong_21) k).1 S (fun _ => 0) (fun _ => 0) ls _ _ h hl hP hD hS
def f_Second_waitForTokens : Nat → Nat → sS → (Nat → Int32) → (Nat → Int64) → Option (Int32 × sS)
  | 0, _, _, _, _ => none
  | k + 1, 0, S, L, M => (f_Second_failIfTooLong k 0 S (fun _ => 0) (fun _ => 0)).bind (fun (r1, T1) => if (T1.1 8 13) ≤ ((T1.1 8 12) + (2 : Int32)) then (f_Second_waitForTokens k 1 T1 (upd L 101 ((-1) : Int32)) M) else (f_Second_waitForTokens k 1 T1 (upd L 101 ((T1.1 8 12) + (2 : Int32))) M))
  | k + 1, 1, S, L, M => if okI ((S.1 8 13) - (1 : Int32)) 120784 = true then (some ((0 : Int32), (putI (putA (putI S 8 16 (L 101)) 41 ((S.1 8 13) - (1 : Int32) : Int32).toNatClampNeg (-1)) 8 15 (L 1)))) else none
  | _ + 1, _ + 2, _, _, _ => none
set_option maxHeartbeats 8000000 in
set_option maxRecDepth 100000 in
theorem w_Second_waitForTokens {p : Program} {l : Launch} {e : Env} {R : Room} {s : State} {m : MethodId} {args : Array Value} {below : List Frame} {meth : Method} {c : Code} {cells slots : Nat} {Q : State → Prop} {g : gG} {A : Nat → Prop} {ad : Nat → Nat} (hx : p.tables.exec = Jvm.exec) (hb : c.code = b_Second_waitForTokens) (hml : c.maxLocals = 2) (hown : s.vm.findClass "MacroMill$Second" = some m.cls) (htt : ∀ w ∈ gt, w.before args s = true) (hK : va_K g.1 classes (tysG g) s) (hN : nw s) (hA : ∀ q : Nat, s.heap.size ≤ q → A q) (hRf : 3 ≤ R.frames) (hRl : 63 ≤ R.locals) (hRc : cells ≤ R.cells) (hRs : slots ≤ R.slots) (r : Int32) (S9 : sS)
    (kx_51 : ∀ (ls : Array Slot) (H : Heap) (locs : List Loc), va_P g.1 classes (Sw shC g ad S9) H → va_D A (Sw shC g ad S9) → va_S A s.heap H locs → W p l e R s m args below meth c H locs cells slots Q (F0 m 51 ls [])) :
    ∀ k9 : Nat, (∀ (S : sS) (L : Nat → Int32) (M : Nat → Int64) (ls : Array Slot) (H : Heap) (locs : List Loc), f_Second_waitForTokens k9 0 S L M = some (r, S9) → lv_has ls 2 [(0, .ref (ad 8)), (1, .int (L 1))] → va_P g.1 classes (Sw shC g ad S) H → va_D A (Sw shC g ad S) → va_S A s.heap H locs → W p l e R s m args below meth c H locs cells slots Q (F0 m 0 ls [])) ∧ (∀ (S : sS) (L : Nat → Int32) (M : Nat → Int64) (ls : Array Slot) (H : Heap) (locs : List Loc), f_Second_waitForTokens k9 1 S L M = some (r, S9) → lv_has ls 2 [(0, .ref (ad 8)), (1, .int (L 1))] → va_P g.1 classes (Sw shC g ad S) H → va_D A (Sw shC g ad S) → va_S A s.heap H locs → W p l e R s m args below meth c H locs cells slots Q (F0 m 28 ls [.int (L 101), .ref (ad 8)])) := by
  intro k9
  induction k9 with
  | zero => exact ⟨(fun _ _ _ _ _ _ h => by simp [f_Second_waitForTokens] at h), (fun _ _ _ _ _ _ h => by simp [f_Second_waitForTokens] at h)⟩
  | succ k9 ih =>
    refine ⟨?_, ?_⟩
    · intro S L M ls H locs h hl hP hD hS
      simp only [f_Second_waitForTokens] at h
      refine lv_aload_n hx hb d_Second_waitForTokens_0 rfl (lv_at hl 0 rfl) ?_
      obtain ⟨⟨r1, T1⟩, hq1, h⟩ := Option.bind_eq_some_iff.mp h
      try dsimp only at h
      refine go_vS (As := [.ref (ad 8)]) (g := g) (A := A) (h := shC) hP hK hD hS hA hN (fun hp => va_runV (As := []) (rest := []) ⟨hx, hb, hml, hown, htt⟩ (t_Second_failIfTooLong l g _ ad S k9 r1 T1 hq1) ⟨(cb_L htt k_2026 k_270 k_2023 hd_Second_failIfTooLong ⟨(Nat.le_trans (by decide +kernel) hRf), (Nat.le_trans (by decide +kernel) hRl)⟩), htt _ k_2025, htt _ k_100⟩ ⟨hp.1, S_recv hK hP 8 rfl rfl, hp.2⟩ rfl rfl hl.1 rfl (lv_room (Nat.le_of_ble_eq_true rfl)) d_Second_waitForTokens_1 ⟨hRc, hRs⟩) (fun Sn H locs hw9 hP hD hS => ?_)
      have e8 := hw9
      rw [e8] at hP hD
      refine W.widen (k := cells) (n := slots) (Nat.le_refl _) (Nat.le_refl _) ?_
      refine lv_aload_n hx hb d_Second_waitForTokens_4 rfl (lv_at hl 0 rfl) ?_
      refine lv_aload_n hx hb d_Second_waitForTokens_5 rfl (lv_at hl 0 rfl) ?_
      refine S_getI (h := shC) (C := "MacroMill$Second") (T := F_Second) hx hb htt in_Second hown hK hP 8 12 rfl rfl rfl (by decide) (htt _ k_909) (fun _ h9 => h9) d_Second_waitForTokens_6 ?_
      refine lv_iconst (v := 2) hx hb d_Second_waitForTokens_9 (by decide) ?_
      refine lv_iadd hx hb d_Second_waitForTokens_10 ?_
      refine lv_aload_n hx hb d_Second_waitForTokens_11 rfl (lv_at hl 0 rfl) ?_
      refine S_getI (h := shC) (C := "MacroMill$Second") (T := F_Second) hx hb htt in_Second hown hK hP 8 13 rfl rfl rfl (by decide) (htt _ k_910) (fun _ h9 => h9) d_Second_waitForTokens_12 ?_
      refine lv_icmp_ge (tgt := 27) hx hb d_Second_waitForTokens_15 (by decide) (fun hc2 => ?_) (fun hc2 => ?_)
      · rw [if_pos hc2] at h
        refine lv_iconst (v := (-1)) hx hb d_Second_waitForTokens_27 (by decide) ?_
        exact (ih.2) T1 (upd L 101 ((-1) : Int32)) M ls H locs h (lv_sub hl [0, 1] rfl) hP hD hS
      · rw [if_neg hc2] at h
        refine lv_aload_n hx hb d_Second_waitForTokens_18 rfl (lv_at hl 0 rfl) ?_
        refine S_getI (h := shC) (C := "MacroMill$Second") (T := F_Second) hx hb htt in_Second hown hK hP 8 12 rfl rfl rfl (by decide) (htt _ k_909) (fun _ h9 => h9) d_Second_waitForTokens_19 ?_
        refine lv_iconst (v := 2) hx hb d_Second_waitForTokens_22 (by decide) ?_
        show W _ _ _ _ _ _ _ _ _ _ _ _ _ _ _ (F0 _ 23 _ _)
        refine lv_iadd hx hb d_Second_waitForTokens_23 ?_
        refine lv_goto (tgt := 28) hx hb d_Second_waitForTokens_24 (by decide) ?_
        exact (ih.2) T1 (upd L 101 ((T1.1 8 12) + (2 : Int32))) M ls H locs h (lv_sub hl [0, 1] rfl) hP hD hS
    · intro S L M ls H locs h hl hP hD hS
      simp only [f_Second_waitForTokens] at h
      refine S_put (h := shC) (C := "MacroMill$Second") (T := F_Second) (v := L 101) hx hb htt in_Second t_Second t_Second_ok n_Second hown hK hP hD hS 8 16 rfl rfl rfl (by decide) (htt _ k_913) (fun _ h9 => h9) rfl rfl rfl d_Second_waitForTokens_28 (fun H locs hP hD hS => ?_)
      refine lv_aload_n hx hb d_Second_waitForTokens_31 rfl (lv_at hl 0 rfl) ?_
      refine S_getR (h := shC) (C := "MacroMill$Second") (T := F_Second) hx hb htt in_Second hown hK hP 8 3 rfl 9 rfl rfl (by decide) (htt _ k_899) (fun _ h9 => h9) d_Second_waitForTokens_32 ?_
      refine S_getR (h := shC) (C := "MacroMill$Tokens") (T := F_Tokens) hx hb htt in_Tokens hown hK hP 9 7 rfl 54 rfl rfl (by decide) (htt _ k_654) (fun _ h9 => h9) d_Second_waitForTokens_35 ?_
      refine lv_aload_n hx hb d_Second_waitForTokens_38 rfl (lv_at hl 0 rfl) ?_
      refine S_getI (h := shC) (C := "MacroMill$Second") (T := F_Second) hx hb htt in_Second hown hK hP 8 13 rfl rfl rfl (by decide) (htt _ k_910) (fun _ h9 => h9) d_Second_waitForTokens_39 ?_
      refine toI (y := S.1 8 13) rfl ?_
      refine lv_iconst (v := 1) hx hb d_Second_waitForTokens_42 (by decide) ?_
      refine lv_isub hx hb d_Second_waitForTokens_43 ?_
      refine lv_iconst (v := (-1)) hx hb d_Second_waitForTokens_44 (by decide) ?_
      obtain ⟨hv1, h⟩ := chk h
      refine S_iast (h := shC) (i := (S.1 8 13) - (1 : Int32)) (v := (-1)) hx hb hK hP hD hS 41 rfl (okI_in hv1) d_Second_waitForTokens_45 (fun H locs hP hD hS => ?_)
      refine lv_aload_n hx hb d_Second_waitForTokens_46 rfl (lv_at hl 0 rfl) ?_
      show W _ _ _ _ _ _ _ _ _ _ _ _ _ _ _ (F0 _ 47 _ _)
      refine lv_iload_n hx hb d_Second_waitForTokens_47 rfl (lv_at hl 1 rfl) ?_
      refine S_put (h := shC) (C := "MacroMill$Second") (T := F_Second) (v := L 1) hx hb htt in_Second t_Second t_Second_ok n_Second hown hK hP hD hS 8 15 rfl rfl rfl (by decide) (htt _ k_912) (fun _ h9 => h9) rfl rfl rfl d_Second_waitForTokens_48 (fun H locs hP hD hS => ?_)
      cases h
      exact kx_51 ls H locs hP hD hS
abbrev rm_t_Second_waitForTokens : Room := { frames := 3, cells := 0, slots := 0, locals := 63 }
theorem t_Second_waitForTokens (l : Launch) (g : gG) (sz : Nat) (ad : Nat → Nat) (S : sS) (v1 : Int32) (k : Nat) (r : Int32) (S9 : sS) (h : f_Second_waitForTokens k 0 S (upd (fun _ => 0) 1 v1) (fun _ => 0) = some (r, S9)) : Cv l y_Second_waitForTokens b_Second_waitForTokens 2 rm_t_Second_waitForTokens g [.ref (ad 8), .int v1] (Sw shC g ad S) sz (fun w => ∃ S1 : sS, w = Sw shC g ad S1 ∧ S1 = S9) := by
  refine startV (by decide) (Nat.le_of_ble_eq_true rfl) ?_
  intro p e s m below meth c A ls hx hb hr hml hlocks hmn hown htt hN hA hP hK hD hS hl
  exact (w_Second_waitForTokens hx hb hml hown htt hK hN hA (by decide +kernel) (by decide +kernel) (by decide +kernel) (by decide +kernel) r S9 (fun ls H locs hP hD hS => fin_v (g := g) (ws := Sw shC g ad S9) hx hb hr hlocks (by decide +kernel) (by decide +kernel) hP hD hS ⟨_, rfl, rfl⟩ d_Second_waitForTokens_51) k).1 S (upd (fun _ => 0) 1 v1) (fun _ => 0) ls _ _ h hl hP hD hS
def f_Second_openCondition : Nat → Nat → sS → (Nat → Int32) → (Nat → Int64) → Option (Int32 × sS)
  | 0, _, _, _, _ => none
  | k + 1, 0, S, L, M => if (S.1 8 9) < (100 : Int32) then (if okI (S.1 8 9) 100 = true then (if okI (S.1 8 9) 100 = true then (some ((0 : Int32), (putI (putA (putA S 33 (S.1 8 9 : Int32).toNatClampNeg (L 1)) 32 (S.1 8 9 : Int32).toNatClampNeg (S.1 8 14)) 8 9 ((S.1 8 9) + (1 : Int32))))) else none) else none) else ((f_Second_fail k 0 S (upd (fun _ => 0) 1 (21 : Int32)) (fun _ => 0)).bind (fun (r4, T4) => some ((0 : Int32), T4)))
  | _ + 1, _ + 1, _, _, _ => none
set_option maxHeartbeats 8000000 in
set_option maxRecDepth 100000 in
theorem w_Second_openCondition {p : Program} {l : Launch} {e : Env} {R : Room} {s : State} {m : MethodId} {args : Array Value} {below : List Frame} {meth : Method} {c : Code} {cells slots : Nat} {Q : State → Prop} {g : gG} {A : Nat → Prop} {ad : Nat → Nat} (hx : p.tables.exec = Jvm.exec) (hb : c.code = b_Second_openCondition) (hml : c.maxLocals = 2) (hown : s.vm.findClass "MacroMill$Second" = some m.cls) (htt : ∀ w ∈ gt, w.before args s = true) (hK : va_K g.1 classes (tysG g) s) (hN : nw s) (hA : ∀ q : Nat, s.heap.size ≤ q → A q) (hRf : 2 ≤ R.frames) (hRl : 43 ≤ R.locals) (hRc : cells ≤ R.cells) (hRs : slots ≤ R.slots) (r : Int32) (S9 : sS)
    (kx_15 : ∀ (ls : Array Slot) (H : Heap) (locs : List Loc), va_P g.1 classes (Sw shC g ad S9) H → va_D A (Sw shC g ad S9) → va_S A s.heap H locs → W p l e R s m args below meth c H locs cells slots Q (F0 m 15 ls []))
    (kx_49 : ∀ (ls : Array Slot) (H : Heap) (locs : List Loc), va_P g.1 classes (Sw shC g ad S9) H → va_D A (Sw shC g ad S9) → va_S A s.heap H locs → W p l e R s m args below meth c H locs cells slots Q (F0 m 49 ls [])) :
    ∀ k9 : Nat, (∀ (S : sS) (L : Nat → Int32) (M : Nat → Int64) (ls : Array Slot) (H : Heap) (locs : List Loc), f_Second_openCondition k9 0 S L M = some (r, S9) → lv_has ls 2 [(0, .ref (ad 8)), (1, .int (L 1))] → va_P g.1 classes (Sw shC g ad S) H → va_D A (Sw shC g ad S) → va_S A s.heap H locs → W p l e R s m args below meth c H locs cells slots Q (F0 m 0 ls [])) := by
  intro k9
  induction k9 with
  | zero => exact (fun _ _ _ _ _ _ h => by simp [f_Second_openCondition] at h)
  | succ k9 ih =>
    · intro S L M ls H locs h hl hP hD hS
      simp only [f_Second_openCondition] at h
      refine lv_aload_n hx hb d_Second_openCondition_0 rfl (lv_at hl 0 rfl) ?_
      refine S_getI (h := shC) (C := "MacroMill$Second") (T := F_Second) hx hb htt in_Second hown hK hP 8 9 rfl rfl rfl (by decide) (htt _ k_906) (fun _ h9 => h9) d_Second_openCondition_1 ?_
      refine lv_bipush (v := 100) hx hb d_Second_openCondition_4 (by decide) ?_
      refine lv_icmp_lt (tgt := 16) hx hb d_Second_openCondition_6 (by decide) (fun hc1 => ?_) (fun hc1 => ?_)
      · rw [if_pos hc1] at h
        refine lv_aload_n hx hb d_Second_openCondition_16 rfl (lv_at hl 0 rfl) ?_
        refine S_getR (h := shC) (C := "MacroMill$Second") (T := F_Second) hx hb htt in_Second hown hK hP 8 8 rfl 46 rfl rfl (by decide) (htt _ k_905) (fun _ h9 => h9) d_Second_openCondition_17 ?_
        refine lv_aload_n hx hb d_Second_openCondition_20 rfl (lv_at hl 0 rfl) ?_
        refine S_getI (h := shC) (C := "MacroMill$Second") (T := F_Second) hx hb htt in_Second hown hK hP 8 9 rfl rfl rfl (by decide) (htt _ k_906) (fun _ h9 => h9) d_Second_openCondition_21 ?_
        refine lv_iload_n hx hb d_Second_openCondition_24 rfl (lv_at hl 1 rfl) ?_
        obtain ⟨hv2, h⟩ := chk h
        refine S_iast (h := shC) (i := S.1 8 9) (v := L 1) hx hb hK hP hD hS 33 rfl (okI_in hv2) d_Second_openCondition_25 (fun H locs hP hD hS => ?_)
        refine lv_aload_n hx hb d_Second_openCondition_26 rfl (lv_at hl 0 rfl) ?_
        refine S_getR (h := shC) (C := "MacroMill$Second") (T := F_Second) hx hb htt in_Second hown hK hP 8 7 rfl 45 rfl rfl (by decide) (htt _ k_904) (fun _ h9 => h9) d_Second_openCondition_27 ?_
        show W _ _ _ _ _ _ _ _ _ _ _ _ _ _ _ (F0 _ 30 _ _)
        refine lv_aload_n hx hb d_Second_openCondition_30 rfl (lv_at hl 0 rfl) ?_
        refine S_getI (h := shC) (C := "MacroMill$Second") (T := F_Second) hx hb htt in_Second hown hK hP 8 9 rfl rfl rfl (by decide) (htt _ k_906) (fun _ h9 => h9) d_Second_openCondition_31 ?_
        refine toI (y := S.1 8 9) rfl ?_
        refine lv_aload_n hx hb d_Second_openCondition_34 rfl (lv_at hl 0 rfl) ?_
        refine S_getI (h := shC) (C := "MacroMill$Second") (T := F_Second) hx hb htt in_Second hown hK hP 8 14 rfl rfl rfl (by decide) (htt _ k_911) (fun _ h9 => h9) d_Second_openCondition_35 ?_
        refine toI (y := S.1 8 14) rfl ?_
        obtain ⟨hv3, h⟩ := chk h
        refine S_iast (h := shC) (i := S.1 8 9) (v := S.1 8 14) hx hb hK hP hD hS 32 rfl (okI_in hv3) d_Second_openCondition_38 (fun H locs hP hD hS => ?_)
        refine lv_aload_n hx hb d_Second_openCondition_39 rfl (lv_at hl 0 rfl) ?_
        refine lv_dup hx hb d_Second_openCondition_40 rfl ?_
        refine S_getI (h := shC) (C := "MacroMill$Second") (T := F_Second) hx hb htt in_Second hown hK hP 8 9 rfl rfl rfl (by decide) (htt _ k_906) (fun _ h9 => h9) d_Second_openCondition_41 ?_
        refine toI (y := S.1 8 9) rfl ?_
        refine lv_iconst (v := 1) hx hb d_Second_openCondition_44 (by decide) ?_
        refine lv_iadd hx hb d_Second_openCondition_45 ?_
        refine S_put (h := shC) (C := "MacroMill$Second") (T := F_Second) (v := (S.1 8 9) + (1 : Int32)) hx hb htt in_Second t_Second t_Second_ok n_Second hown hK hP hD hS 8 9 rfl rfl rfl (by decide) (htt _ k_906) (fun _ h9 => h9) rfl rfl rfl d_Second_openCondition_46 (fun H locs hP hD hS => ?_)
        cases h
        exact kx_49 ls H locs hP hD hS
      · rw [if_neg hc1] at h
        refine lv_aload_n hx hb d_Second_openCondition_9 rfl (lv_at hl 0 rfl) ?_
        refine lv_bipush (v := 21) hx hb d_Second_openCondition_10 (by decide) ?_
        obtain ⟨⟨r4, T4⟩, hq4, h⟩ := Option.bind_eq_some_iff.mp h
        try dsimp only at h
        refine go_vS (As := [.ref (ad 8), .int 21]) (g := g) (A := A) (h := shC) hP hK hD hS hA hN (fun hp => va_runV (As := [.int 21]) (rest := []) ⟨hx, hb, hml, hown, htt⟩ (t_Second_fail l g _ ad S (21 : Int32) k9 r4 T4 hq4) ⟨(cb_L htt k_2000 k_270 k_1997 hd_Second_fail ⟨(Nat.le_trans (by decide +kernel) hRf), (Nat.le_trans (by decide +kernel) hRl)⟩), htt _ k_1999, htt _ k_96⟩ ⟨hp.1, S_recv hK hP 8 rfl rfl, hp.2⟩ rfl rfl hl.1 rfl (lv_room (Nat.le_of_ble_eq_true rfl)) d_Second_openCondition_12 ⟨hRc, hRs⟩) (fun Sn H locs hw9 hP hD hS => ?_)
        have e8 := hw9
        rw [e8] at hP hD
        refine W.widen (k := cells) (n := slots) (Nat.le_refl _) (Nat.le_refl _) ?_
        cases h
        exact kx_15 ls H locs hP hD hS
abbrev rm_t_Second_openCondition : Room := { frames := 2, cells := 0, slots := 0, locals := 43 }
theorem t_Second_openCondition (l : Launch) (g : gG) (sz : Nat) (ad : Nat → Nat) (S : sS) (v1 : Int32) (k : Nat) (r : Int32) (S9 : sS) (h : f_Second_openCondition k 0 S (upd (fun _ => 0) 1 v1) (fun _ => 0) = some (r, S9)) : Cv l y_Second_openCondition b_Second_openCondition 2 rm_t_Second_openCondition g [.ref (ad 8), .int v1] (Sw shC g ad S) sz (fun w => ∃ S1 : sS, w = Sw shC g ad S1 ∧ S1 = S9) := by
  refine startV (by decide) (Nat.le_of_ble_eq_true rfl) ?_
  intro p e s m below meth c A ls hx hb hr hml hlocks hmn hown htt hN hA hP hK hD hS hl
  exact (w_Second_openCondition hx hb hml hown htt hK hN hA (by decide +kernel) (by decide +kernel) (by decide +kernel) (by decide +kernel) r S9 (fun ls H locs hP hD hS => fin_v (g := g) (ws := Sw shC g ad S9) hx hb hr hlocks (by decide +kernel) (by decide +kernel) hP hD hS ⟨_, rfl, rfl⟩ d_Second_openCondition_15) (fun ls H locs hP hD hS => fin_v (g := g) (ws := Sw shC g ad S9) hx hb hr hlocks (by decide +kernel) (by decide +kernel) hP hD hS ⟨_, rfl, rfl⟩ d_Second_openCondition_49) k) S (upd (fun _ => 0) 1 v1) (fun _ => 0) ls _ _ h hl hP hD hS
def f_Second_continueCondition : Nat → Nat → sS → (Nat → Int32) → (Nat → Int64) → Option (Int32 × sS)
  | 0, _, _, _, _ => none
  | k + 1, 0, S, L, M => if okI ((S.1 11 11) - (1 : Int32)) 22 = true then (if (S.1 8 9) ≤ (S.2.1 34 ((S.1 11 11) - (1 : Int32) : Int32).toNatClampNeg) then (f_Second_continueCondition k 1 S (upd L 100 (0 : Int32)) M) else (f_Second_continueCondition k 1 S (upd L 100 (1 : Int32)) M)) else none
  | k + 1, 1, S, L, M => if (L 100) = (0 : Int32) then (f_Second_continueCondition k 2 S (upd (upd L 2 (L 100)) 100 (0 : Int32)) M) else (if okI ((S.1 8 9) - (1 : Int32)) 100 = true then (f_Second_continueCondition k 2 S (upd (upd L 2 (L 100)) 100 (S.2.1 33 ((S.1 8 9) - (1 : Int32) : Int32).toNatClampNeg)) M) else none)
  | k + 1, 2, S, L, M => if ((L 100) &&& (2 : Int32)) = (0 : Int32) then (f_Second_continueCondition k 3 S (upd (upd L 3 (L 100)) 100 (0 : Int32)) M) else (f_Second_continueCondition k 3 S (upd (upd L 3 (L 100)) 100 (1 : Int32)) M)
  | k + 1, 3, S, L, M => if ((L 3) &&& (8 : Int32)) = (0 : Int32) then (if (L 1) = (7 : Int32) then (f_Second_continueCondition k 5 S (upd L 4 (L 100)) M) else (if ((S.1 8 13) - (S.1 8 12)) ≤ (2 : Int32) then (f_Second_continueCondition k 5 S (upd L 4 (L 100)) M) else ((f_Second_fail k 0 S (upd (fun _ => 0) 1 (7 : Int32)) (fun _ => 0)).bind (fun (r4, T4) => f_Second_continueCondition k 9 T4 (upd L 4 (L 100)) M)))) else (if (L 1) = (9 : Int32) then (f_Second_continueCondition k 4 S (upd (upd (upd L 4 (L 100)) 102 (1 : Int32)) 101 (S.1 8 9)) M) else (f_Second_continueCondition k 4 S (upd (upd (upd L 4 (L 100)) 102 (0 : Int32)) 101 (S.1 8 9)) M))
  | k + 1, 4, S, L, M => f_Second_continueCondition k 9 (putI S 8 9 ((L 101) - (L 102))) L M
  | k + 1, 5, S, L, M => if (L 2) = (0 : Int32) then (f_Second_continueCondition k 6 S L M) else (if (L 1) = (9 : Int32) then (f_Second_continueCondition k 7 S L M) else (if ((L 3) &&& (4 : Int32)) = (0 : Int32) then (f_Second_continueCondition k 7 S L M) else (f_Second_continueCondition k 6 S L M)))
  | k + 1, 6, S, L, M => (f_Second_fail k 0 S (upd (fun _ => 0) 1 (13 : Int32)) (fun _ => 0)).bind (fun (r1, T1) => f_Second_continueCondition k 9 T1 L M)
  | k + 1, 7, S, L, M => if (L 1) = (9 : Int32) then (f_Second_continueCondition k 9 (putI S 8 9 ((S.1 8 9) - (1 : Int32))) L M) else (if (L 1) = (8 : Int32) then (if (L 4) = (0 : Int32) then (f_Second_continueCondition k 8 S (upd (upd (upd L 103 (1 : Int32)) 102 (6 : Int32)) 101 ((S.1 8 9) - (1 : Int32))) M) else (f_Second_continueCondition k 8 S (upd (upd (upd L 103 (0 : Int32)) 102 (6 : Int32)) 101 ((S.1 8 9) - (1 : Int32))) M)) else (if (L 4) = (0 : Int32) then (some ((1 : Int32), S)) else (if okI ((S.1 8 9) - (1 : Int32)) 100 = true then (f_Second_continueCondition k 9 (putA S 33 ((S.1 8 9) - (1 : Int32) : Int32).toNatClampNeg 2) L M) else none)))
  | k + 1, 8, S, L, M => if okI (L 101) 100 = true then (f_Second_continueCondition k 9 (putA S 33 (L 101 : Int32).toNatClampNeg ((L 102) ||| (L 103))) L M) else none
  | k + 1, 9, S, L, M => some ((0 : Int32), S)
  | _ + 1, _ + 10, _, _, _ => none
set_option maxHeartbeats 8000000 in
set_option maxRecDepth 100000 in
theorem w_Second_continueCondition {p : Program} {l : Launch} {e : Env} {R : Room} {s : State} {m : MethodId} {args : Array Value} {below : List Frame} {meth : Method} {c : Code} {cells slots : Nat} {Q : State → Prop} {g : gG} {A : Nat → Prop} {ad : Nat → Nat} (hx : p.tables.exec = Jvm.exec) (hb : c.code = b_Second_continueCondition) (hml : c.maxLocals = 5) (hown : s.vm.findClass "MacroMill$Second" = some m.cls) (htt : ∀ w ∈ gt, w.before args s = true) (hK : va_K g.1 classes (tysG g) s) (hN : nw s) (hA : ∀ q : Nat, s.heap.size ≤ q → A q) (hRf : 2 ≤ R.frames) (hRl : 43 ≤ R.locals) (hRc : cells ≤ R.cells) (hRs : slots ≤ R.slots) (r : Int32) (S9 : sS)
    (kx_216 : ∀ (ls : Array Slot) (H : Heap) (locs : List Loc), narrow .boolean (.int r) = .int r → va_P g.1 classes (Sw shC g ad S9) H → va_D A (Sw shC g ad S9) → va_S A s.heap H locs → W p l e R s m args below meth c H locs cells slots Q (F0 m 216 ls [.int r]))
    (kx_218 : ∀ (ls : Array Slot) (H : Heap) (locs : List Loc), narrow .boolean (.int r) = .int r → va_P g.1 classes (Sw shC g ad S9) H → va_D A (Sw shC g ad S9) → va_S A s.heap H locs → W p l e R s m args below meth c H locs cells slots Q (F0 m 218 ls [.int r])) :
    ∀ k9 : Nat, (∀ (S : sS) (L : Nat → Int32) (M : Nat → Int64) (ls : Array Slot) (H : Heap) (locs : List Loc), f_Second_continueCondition k9 0 S L M = some (r, S9) → lv_has ls 5 [(0, .ref (ad 8)), (1, .int (L 1))] → va_P g.1 classes (Sw shC g ad S) H → va_D A (Sw shC g ad S) → va_S A s.heap H locs → W p l e R s m args below meth c H locs cells slots Q (F0 m 0 ls [])) ∧ (∀ (S : sS) (L : Nat → Int32) (M : Nat → Int64) (ls : Array Slot) (H : Heap) (locs : List Loc), f_Second_continueCondition k9 1 S L M = some (r, S9) → lv_has ls 5 [(0, .ref (ad 8)), (1, .int (L 1))] → va_P g.1 classes (Sw shC g ad S) H → va_D A (Sw shC g ad S) → va_S A s.heap H locs → W p l e R s m args below meth c H locs cells slots Q (F0 m 26 ls [.int (L 100)])) ∧ (∀ (S : sS) (L : Nat → Int32) (M : Nat → Int64) (ls : Array Slot) (H : Heap) (locs : List Loc), f_Second_continueCondition k9 2 S L M = some (r, S9) → lv_has ls 5 [(0, .ref (ad 8)), (1, .int (L 1)), (2, .int (L 2))] → va_P g.1 classes (Sw shC g ad S) H → va_D A (Sw shC g ad S) → va_S A s.heap H locs → W p l e R s m args below meth c H locs cells slots Q (F0 m 46 ls [.int (L 100)])) ∧ (∀ (S : sS) (L : Nat → Int32) (M : Nat → Int64) (ls : Array Slot) (H : Heap) (locs : List Loc), f_Second_continueCondition k9 3 S L M = some (r, S9) → lv_has ls 5 [(0, .ref (ad 8)), (1, .int (L 1)), (2, .int (L 2)), (3, .int (L 3))] → va_P g.1 classes (Sw shC g ad S) H → va_D A (Sw shC g ad S) → va_S A s.heap H locs → W p l e R s m args below meth c H locs cells slots Q (F0 m 58 ls [.int (L 100)])) ∧ (∀ (S : sS) (L : Nat → Int32) (M : Nat → Int64) (ls : Array Slot) (H : Heap) (locs : List Loc), f_Second_continueCondition k9 4 S L M = some (r, S9) → lv_has ls 5 [(0, .ref (ad 8)), (1, .int (L 1)), (2, .int (L 2)), (3, .int (L 3)), (4, .int (L 4))] → va_P g.1 classes (Sw shC g ad S) H → va_D A (Sw shC g ad S) → va_S A s.heap H locs → W p l e R s m args below meth c H locs cells slots Q (F0 m 83 ls [.int (L 102), .int (L 101), .ref (ad 8)])) ∧ (∀ (S : sS) (L : Nat → Int32) (M : Nat → Int64) (ls : Array Slot) (H : Heap) (locs : List Loc), f_Second_continueCondition k9 5 S L M = some (r, S9) → lv_has ls 5 [(0, .ref (ad 8)), (1, .int (L 1)), (2, .int (L 2)), (3, .int (L 3)), (4, .int (L 4))] → va_P g.1 classes (Sw shC g ad S) H → va_D A (Sw shC g ad S) → va_S A s.heap H locs → W p l e R s m args below meth c H locs cells slots Q (F0 m 118 ls [])) ∧ (∀ (S : sS) (L : Nat → Int32) (M : Nat → Int64) (ls : Array Slot) (H : Heap) (locs : List Loc), f_Second_continueCondition k9 6 S L M = some (r, S9) → lv_has ls 5 [(0, .ref (ad 8)), (1, .int (L 1)), (2, .int (L 2)), (3, .int (L 3)), (4, .int (L 4))] → va_P g.1 classes (Sw shC g ad S) H → va_D A (Sw shC g ad S) → va_S A s.heap H locs → W p l e R s m args below meth c H locs cells slots Q (F0 m 134 ls [])) ∧ (∀ (S : sS) (L : Nat → Int32) (M : Nat → Int64) (ls : Array Slot) (H : Heap) (locs : List Loc), f_Second_continueCondition k9 7 S L M = some (r, S9) → lv_has ls 5 [(0, .ref (ad 8)), (1, .int (L 1)), (2, .int (L 2)), (3, .int (L 3)), (4, .int (L 4))] → va_P g.1 classes (Sw shC g ad S) H → va_D A (Sw shC g ad S) → va_S A s.heap H locs → W p l e R s m args below meth c H locs cells slots Q (F0 m 143 ls [])) ∧ (∀ (S : sS) (L : Nat → Int32) (M : Nat → Int64) (ls : Array Slot) (H : Heap) (locs : List Loc), f_Second_continueCondition k9 8 S L M = some (r, S9) → lv_has ls 5 [(0, .ref (ad 8)), (1, .int (L 1)), (2, .int (L 2)), (3, .int (L 3)), (4, .int (L 4))] → va_P g.1 classes (Sw shC g ad S) H → va_D A (Sw shC g ad S) → va_S A s.heap H locs → W p l e R s m args below meth c H locs cells slots Q (F0 m 190 ls [.int (L 103), .int (L 102), .int (L 101), .ref (ad 46)])) ∧ (∀ (S : sS) (L : Nat → Int32) (M : Nat → Int64) (ls : Array Slot) (H : Heap) (locs : List Loc), f_Second_continueCondition k9 9 S L M = some (r, S9) → lv_has ls 5 [(0, .ref (ad 8)), (1, .int (L 1)), (2, .int (L 2)), (3, .int (L 3)), (4, .int (L 4))] → va_P g.1 classes (Sw shC g ad S) H → va_D A (Sw shC g ad S) → va_S A s.heap H locs → W p l e R s m args below meth c H locs cells slots Q (F0 m 217 ls [])) := by
  intro k9
  induction k9 with
  | zero => exact ⟨(fun _ _ _ _ _ _ h => by simp [f_Second_continueCondition] at h), (fun _ _ _ _ _ _ h => by simp [f_Second_continueCondition] at h), (fun _ _ _ _ _ _ h => by simp [f_Second_continueCondition] at h), (fun _ _ _ _ _ _ h => by simp [f_Second_continueCondition] at h), (fun _ _ _ _ _ _ h => by simp [f_Second_continueCondition] at h), (fun _ _ _ _ _ _ h => by simp [f_Second_continueCondition] at h), (fun _ _ _ _ _ _ h => by simp [f_Second_continueCondition] at h), (fun _ _ _ _ _ _ h => by simp [f_Second_continueCondition] at h), (fun _ _ _ _ _ _ h => by simp [f_Second_continueCondition] at h), (fun _ _ _ _ _ _ h => by simp [f_Second_continueCondition] at h)⟩
  | succ k9 ih =>
    refine ⟨?_, ?_, ?_, ?_, ?_, ?_, ?_, ?_, ?_, ?_⟩
    · intro S L M ls H locs h hl hP hD hS
      simp only [f_Second_continueCondition] at h
      refine lv_aload_n hx hb d_Second_continueCondition_0 rfl (lv_at hl 0 rfl) ?_
      refine S_getI (h := shC) (C := "MacroMill$Second") (T := F_Second) hx hb htt in_Second hown hK hP 8 9 rfl rfl rfl (by decide) (htt _ k_906) (fun _ h9 => h9) d_Second_continueCondition_1 ?_
      refine lv_aload_n hx hb d_Second_continueCondition_4 rfl (lv_at hl 0 rfl) ?_
      refine S_getR (h := shC) (C := "MacroMill$Second") (T := F_Second) hx hb htt in_Second hown hK hP 8 10 rfl 47 rfl rfl (by decide) (htt _ k_907) (fun _ h9 => h9) d_Second_continueCondition_5 ?_
      refine lv_aload_n hx hb d_Second_continueCondition_8 rfl (lv_at hl 0 rfl) ?_
      refine S_getR (h := shC) (C := "MacroMill$Second") (T := F_Second) hx hb htt in_Second hown hK hP 8 5 rfl 11 rfl rfl (by decide) (htt _ k_902) (fun _ h9 => h9) d_Second_continueCondition_9 ?_
      refine S_getI (h := shC) (C := "MacroMill$Lines") (T := F_Lines) hx hb htt in_Lines hown hK hP 11 11 rfl rfl rfl (by decide) (htt _ k_771) (fun _ h9 => h9) d_Second_continueCondition_12 ?_
      refine lv_iconst (v := 1) hx hb d_Second_continueCondition_15 (by decide) ?_
      refine lv_isub hx hb d_Second_continueCondition_16 ?_
      obtain ⟨hv1, h⟩ := chk h
      refine S_iald (h := shC) (i := (S.1 11 11) - (1 : Int32)) hx hb hK hP 34 rfl (okI_in hv1) d_Second_continueCondition_17 ?_
      refine lv_icmp_le (tgt := 25) hx hb d_Second_continueCondition_18 (by decide) (fun hc2 => ?_) (fun hc2 => ?_)
      · rw [if_pos hc2] at h
        refine lv_iconst (v := 0) hx hb d_Second_continueCondition_25 (by decide) ?_
        exact (ih.2.1) S (upd L 100 (0 : Int32)) M ls H locs h (lv_sub hl [0, 1] rfl) hP hD hS
      · rw [if_neg hc2] at h
        refine lv_iconst (v := 1) hx hb d_Second_continueCondition_21 (by decide) ?_
        show W _ _ _ _ _ _ _ _ _ _ _ _ _ _ _ (F0 _ 22 _ _)
        refine lv_goto (tgt := 26) hx hb d_Second_continueCondition_22 (by decide) ?_
        exact (ih.2.1) S (upd L 100 (1 : Int32)) M ls H locs h (lv_sub hl [0, 1] rfl) hP hD hS
    · intro S L M ls H locs h hl hP hD hS
      simp only [f_Second_continueCondition] at h
      refine lv_istore_n (lv' := [(2, .int (L 100)), (0, .ref (ad 8)), (1, .int (L 1))]) hx hb d_Second_continueCondition_26 rfl hl (by decide) rfl (fun ls hl => ?_)
      refine lv_iload_n hx hb d_Second_continueCondition_27 rfl (lv_at hl 0 rfl) ?_
      refine lv_if_eq (tgt := 45) hx hb d_Second_continueCondition_28 (by decide) (fun hc1 => ?_) (fun hc1 => ?_)
      · rw [if_pos hc1] at h
        refine lv_iconst (v := 0) hx hb d_Second_continueCondition_45 (by decide) ?_
        exact (ih.2.2.1) S (upd (upd L 2 (L 100)) 100 (0 : Int32)) M ls H locs h (lv_sub hl [1, 2, 0] rfl) hP hD hS
      · rw [if_neg hc1] at h
        refine lv_aload_n hx hb d_Second_continueCondition_31 rfl (lv_at hl 1 rfl) ?_
        refine S_getR (h := shC) (C := "MacroMill$Second") (T := F_Second) hx hb htt in_Second hown hK hP 8 8 rfl 46 rfl rfl (by decide) (htt _ k_905) (fun _ h9 => h9) d_Second_continueCondition_32 ?_
        refine lv_aload_n hx hb d_Second_continueCondition_35 rfl (lv_at hl 1 rfl) ?_
        refine S_getI (h := shC) (C := "MacroMill$Second") (T := F_Second) hx hb htt in_Second hown hK hP 8 9 rfl rfl rfl (by decide) (htt _ k_906) (fun _ h9 => h9) d_Second_continueCondition_36 ?_
        refine lv_iconst (v := 1) hx hb d_Second_continueCondition_39 (by decide) ?_
        refine lv_isub hx hb d_Second_continueCondition_40 ?_
        obtain ⟨hv2, h⟩ := chk h
        refine S_iald (h := shC) (i := (S.1 8 9) - (1 : Int32)) hx hb hK hP 33 rfl (okI_in hv2) d_Second_continueCondition_41 ?_
        refine lv_goto (tgt := 46) hx hb d_Second_continueCondition_42 (by decide) ?_
        exact (ih.2.2.1) S (upd (upd L 2 (L 100)) 100 (S.2.1 33 ((S.1 8 9) - (1 : Int32) : Int32).toNatClampNeg)) M ls H locs h (lv_sub hl [1, 2, 0] rfl) hP hD hS
    · intro S L M ls H locs h hl hP hD hS
      simp only [f_Second_continueCondition] at h
      refine lv_istore_n (lv' := [(3, .int (L 100)), (0, .ref (ad 8)), (1, .int (L 1)), (2, .int (L 2))]) hx hb d_Second_continueCondition_46 rfl hl (by decide) rfl (fun ls hl => ?_)
      refine lv_iload_n hx hb d_Second_continueCondition_47 rfl (lv_at hl 0 rfl) ?_
      refine lv_iconst (v := 2) hx hb d_Second_continueCondition_48 (by decide) ?_
      refine lv_iand hx hb d_Second_continueCondition_49 ?_
      refine lv_if_eq (tgt := 57) hx hb d_Second_continueCondition_50 (by decide) (fun hc1 => ?_) (fun hc1 => ?_)
      · rw [if_pos hc1] at h
        refine lv_iconst (v := 0) hx hb d_Second_continueCondition_57 (by decide) ?_
        exact (ih.2.2.2.1) S (upd (upd L 3 (L 100)) 100 (0 : Int32)) M ls H locs h (lv_sub hl [1, 2, 3, 0] rfl) hP hD hS
      · rw [if_neg hc1] at h
        refine lv_iconst (v := 1) hx hb d_Second_continueCondition_53 (by decide) ?_
        refine lv_goto (tgt := 58) hx hb d_Second_continueCondition_54 (by decide) ?_
        exact (ih.2.2.2.1) S (upd (upd L 3 (L 100)) 100 (1 : Int32)) M ls H locs h (lv_sub hl [1, 2, 3, 0] rfl) hP hD hS
    · intro S L M ls H locs h hl hP hD hS
      simp only [f_Second_continueCondition] at h
      refine lv_istore (lv' := [(4, .int (L 100)), (0, .ref (ad 8)), (1, .int (L 1)), (2, .int (L 2)), (3, .int (L 3))]) hx hb d_Second_continueCondition_58 hl (by decide) rfl (fun ls hl => ?_)
      refine lv_iload_n hx hb d_Second_continueCondition_60 rfl (lv_at hl 4 rfl) ?_
      refine lv_bipush (v := 8) hx hb d_Second_continueCondition_61 (by decide) ?_
      refine lv_iand hx hb d_Second_continueCondition_63 ?_
      refine lv_if_eq (tgt := 90) hx hb d_Second_continueCondition_64 (by decide) (fun hc1 => ?_) (fun hc1 => ?_)
      · rw [if_pos hc1] at h
        refine lv_iload_n hx hb d_Second_continueCondition_90 rfl (lv_at hl 2 rfl) ?_
        refine lv_bipush (v := 7) hx hb d_Second_continueCondition_91 (by decide) ?_
        refine lv_icmp_eq (tgt := 118) hx hb d_Second_continueCondition_93 (by decide) (fun hc2 => ?_) (fun hc2 => ?_)
        · rw [if_pos hc2] at h
          exact (ih.2.2.2.2.2.1) S (upd L 4 (L 100)) M ls H locs h (lv_sub hl [1, 2, 3, 4, 0] rfl) hP hD hS
        · rw [if_neg hc2] at h
          refine lv_aload_n hx hb d_Second_continueCondition_96 rfl (lv_at hl 1 rfl) ?_
          refine S_getI (h := shC) (C := "MacroMill$Second") (T := F_Second) hx hb htt in_Second hown hK hP 8 13 rfl rfl rfl (by decide) (htt _ k_910) (fun _ h9 => h9) d_Second_continueCondition_97 ?_
          refine lv_aload_n hx hb d_Second_continueCondition_100 rfl (lv_at hl 1 rfl) ?_
          refine S_getI (h := shC) (C := "MacroMill$Second") (T := F_Second) hx hb htt in_Second hown hK hP 8 12 rfl rfl rfl (by decide) (htt _ k_909) (fun _ h9 => h9) d_Second_continueCondition_101 ?_
          refine lv_isub hx hb d_Second_continueCondition_104 ?_
          show W _ _ _ _ _ _ _ _ _ _ _ _ _ _ _ (F0 _ 105 _ _)
          refine lv_iconst (v := 2) hx hb d_Second_continueCondition_105 (by decide) ?_
          refine lv_icmp_le (tgt := 118) hx hb d_Second_continueCondition_106 (by decide) (fun hc3 => ?_) (fun hc3 => ?_)
          · rw [if_pos hc3] at h
            exact (ih.2.2.2.2.2.1) S (upd L 4 (L 100)) M ls H locs h (lv_sub hl [1, 2, 3, 4, 0] rfl) hP hD hS
          · rw [if_neg hc3] at h
            refine lv_aload_n hx hb d_Second_continueCondition_109 rfl (lv_at hl 1 rfl) ?_
            refine lv_bipush (v := 7) hx hb d_Second_continueCondition_110 (by decide) ?_
            obtain ⟨⟨r4, T4⟩, hq4, h⟩ := Option.bind_eq_some_iff.mp h
            try dsimp only at h
            refine go_vS (As := [.ref (ad 8), .int 7]) (g := g) (A := A) (h := shC) hP hK hD hS hA hN (fun hp => va_runV (As := [.int 7]) (rest := []) ⟨hx, hb, hml, hown, htt⟩ (t_Second_fail l g _ ad S (7 : Int32) k9 r4 T4 hq4) ⟨(cb_L htt k_2000 k_270 k_1997 hd_Second_fail ⟨(Nat.le_trans (by decide +kernel) hRf), (Nat.le_trans (by decide +kernel) hRl)⟩), htt _ k_1999, htt _ k_96⟩ ⟨hp.1, S_recv hK hP 8 rfl rfl, hp.2⟩ rfl rfl hl.1 rfl (lv_room (Nat.le_of_ble_eq_true rfl)) d_Second_continueCondition_112 ⟨hRc, hRs⟩) (fun Sn H locs hw9 hP hD hS => ?_)
            have e8 := hw9
            rw [e8] at hP hD
            refine W.widen (k := cells) (n := slots) (Nat.le_refl _) (Nat.le_refl _) ?_
            refine lv_goto (tgt := 217) hx hb d_Second_continueCondition_115 (by decide) ?_
            exact (ih.2.2.2.2.2.2.2.2.2) T4 (upd L 4 (L 100)) M ls H locs h (lv_sub hl [1, 2, 3, 4, 0] rfl) hP hD hS
      · rw [if_neg hc1] at h
        refine lv_aload_n hx hb d_Second_continueCondition_67 rfl (lv_at hl 1 rfl) ?_
        refine lv_dup hx hb d_Second_continueCondition_68 rfl ?_
        refine S_getI (h := shC) (C := "MacroMill$Second") (T := F_Second) hx hb htt in_Second hown hK hP 8 9 rfl rfl rfl (by decide) (htt _ k_906) (fun _ h9 => h9) d_Second_continueCondition_69 ?_
        refine lv_iload_n hx hb d_Second_continueCondition_72 rfl (lv_at hl 2 rfl) ?_
        refine lv_bipush (v := 9) hx hb d_Second_continueCondition_73 (by decide) ?_
        refine lv_icmp_ne (tgt := 82) hx hb d_Second_continueCondition_75 (by decide) (fun hc5 => ?_) (fun hc5 => ?_)
        · rw [if_neg hc5] at h
          refine lv_iconst (v := 0) hx hb d_Second_continueCondition_82 (by decide) ?_
          exact (ih.2.2.2.2.1) S (upd (upd (upd L 4 (L 100)) 102 (0 : Int32)) 101 (S.1 8 9)) M ls H locs h (lv_sub hl [1, 2, 3, 4, 0] rfl) hP hD hS
        · rw [if_pos hc5] at h
          refine lv_iconst (v := 1) hx hb d_Second_continueCondition_78 (by decide) ?_
          refine lv_goto (tgt := 83) hx hb d_Second_continueCondition_79 (by decide) ?_
          exact (ih.2.2.2.2.1) S (upd (upd (upd L 4 (L 100)) 102 (1 : Int32)) 101 (S.1 8 9)) M ls H locs h (lv_sub hl [1, 2, 3, 4, 0] rfl) hP hD hS
    · intro S L M ls H locs h hl hP hD hS
      simp only [f_Second_continueCondition] at h
      refine lv_isub hx hb d_Second_continueCondition_83 ?_
      refine S_put (h := shC) (C := "MacroMill$Second") (T := F_Second) (v := (L 101) - (L 102)) hx hb htt in_Second t_Second t_Second_ok n_Second hown hK hP hD hS 8 9 rfl rfl rfl (by decide) (htt _ k_906) (fun _ h9 => h9) rfl rfl rfl d_Second_continueCondition_84 (fun H locs hP hD hS => ?_)
      refine lv_goto (tgt := 217) hx hb d_Second_continueCondition_87 (by decide) ?_
      exact (ih.2.2.2.2.2.2.2.2.2) (putI S 8 9 ((L 101) - (L 102))) L M ls H locs h (lv_sub hl [0, 1, 2, 3, 4] rfl) hP hD hS
    · intro S L M ls H locs h hl hP hD hS
      simp only [f_Second_continueCondition] at h
      refine lv_iload_n hx hb d_Second_continueCondition_118 rfl (lv_at hl 2 rfl) ?_
      refine lv_if_eq (tgt := 134) hx hb d_Second_continueCondition_119 (by decide) (fun hc1 => ?_) (fun hc1 => ?_)
      · rw [if_pos hc1] at h
        exact (ih.2.2.2.2.2.2.1) S L M ls H locs h (lv_sub hl [0, 1, 2, 3, 4] rfl) hP hD hS
      · rw [if_neg hc1] at h
        refine lv_iload_n hx hb d_Second_continueCondition_122 rfl (lv_at hl 1 rfl) ?_
        refine lv_bipush (v := 9) hx hb d_Second_continueCondition_123 (by decide) ?_
        refine lv_icmp_eq (tgt := 143) hx hb d_Second_continueCondition_125 (by decide) (fun hc2 => ?_) (fun hc2 => ?_)
        · rw [if_pos hc2] at h
          exact (ih.2.2.2.2.2.2.2.1) S L M ls H locs h (lv_sub hl [0, 1, 2, 3, 4] rfl) hP hD hS
        · rw [if_neg hc2] at h
          refine lv_iload_n hx hb d_Second_continueCondition_128 rfl (lv_at hl 3 rfl) ?_
          refine lv_iconst (v := 4) hx hb d_Second_continueCondition_129 (by decide) ?_
          refine lv_iand hx hb d_Second_continueCondition_130 ?_
          refine lv_if_eq (tgt := 143) hx hb d_Second_continueCondition_131 (by decide) (fun hc3 => ?_) (fun hc3 => ?_)
          · rw [if_pos hc3] at h
            exact (ih.2.2.2.2.2.2.2.1) S L M ls H locs h (lv_sub hl [0, 1, 2, 3, 4] rfl) hP hD hS
          · rw [if_neg hc3] at h
            exact (ih.2.2.2.2.2.2.1) S L M ls H locs h (lv_sub hl [0, 1, 2, 3, 4] rfl) hP hD hS
    · intro S L M ls H locs h hl hP hD hS
      simp only [f_Second_continueCondition] at h
      refine lv_aload_n hx hb d_Second_continueCondition_134 rfl (lv_at hl 0 rfl) ?_
      refine lv_bipush (v := 13) hx hb d_Second_continueCondition_135 (by decide) ?_
      obtain ⟨⟨r1, T1⟩, hq1, h⟩ := Option.bind_eq_some_iff.mp h
      try dsimp only at h
      refine go_vS (As := [.ref (ad 8), .int 13]) (g := g) (A := A) (h := shC) hP hK hD hS hA hN (fun hp => va_runV (As := [.int 13]) (rest := []) ⟨hx, hb, hml, hown, htt⟩ (t_Second_fail l g _ ad S (13 : Int32) k9 r1 T1 hq1) ⟨(cb_L htt k_2000 k_270 k_1997 hd_Second_fail ⟨(Nat.le_trans (by decide +kernel) hRf), (Nat.le_trans (by decide +kernel) hRl)⟩), htt _ k_1999, htt _ k_96⟩ ⟨hp.1, S_recv hK hP 8 rfl rfl, hp.2⟩ rfl rfl hl.1 rfl (lv_room (Nat.le_of_ble_eq_true rfl)) d_Second_continueCondition_137 ⟨hRc, hRs⟩) (fun Sn H locs hw9 hP hD hS => ?_)
      have e8 := hw9
      rw [e8] at hP hD
      refine W.widen (k := cells) (n := slots) (Nat.le_refl _) (Nat.le_refl _) ?_
      refine lv_goto (tgt := 217) hx hb d_Second_continueCondition_140 (by decide) ?_
      exact (ih.2.2.2.2.2.2.2.2.2) T1 L M ls H locs h (lv_sub hl [0, 1, 2, 3, 4] rfl) hP hD hS
    · intro S L M ls H locs h hl hP hD hS
      simp only [f_Second_continueCondition] at h
      refine lv_iload_n hx hb d_Second_continueCondition_143 rfl (lv_at hl 1 rfl) ?_
      refine lv_bipush (v := 9) hx hb d_Second_continueCondition_144 (by decide) ?_
      refine lv_icmp_ne (tgt := 162) hx hb d_Second_continueCondition_146 (by decide) (fun hc1 => ?_) (fun hc1 => ?_)
      · rw [if_neg hc1] at h
        refine lv_iload_n hx hb d_Second_continueCondition_162 rfl (lv_at hl 1 rfl) ?_
        refine lv_bipush (v := 8) hx hb d_Second_continueCondition_163 (by decide) ?_
        refine lv_icmp_ne (tgt := 195) hx hb d_Second_continueCondition_165 (by decide) (fun hc2 => ?_) (fun hc2 => ?_)
        · rw [if_neg hc2] at h
          refine lv_iload hx hb d_Second_continueCondition_195 (lv_at hl 4 rfl) ?_
          refine lv_if_eq (tgt := 215) hx hb d_Second_continueCondition_197 (by decide) (fun hc3 => ?_) (fun hc3 => ?_)
          · rw [if_pos hc3] at h
            refine lv_iconst (v := 1) hx hb d_Second_continueCondition_215 (by decide) ?_
            cases h
            exact kx_216 ls H locs rfl hP hD hS
          · rw [if_neg hc3] at h
            refine lv_aload_n hx hb d_Second_continueCondition_200 rfl (lv_at hl 0 rfl) ?_
            refine S_getR (h := shC) (C := "MacroMill$Second") (T := F_Second) hx hb htt in_Second hown hK hP 8 8 rfl 46 rfl rfl (by decide) (htt _ k_905) (fun _ h9 => h9) d_Second_continueCondition_201 ?_
            refine lv_aload_n hx hb d_Second_continueCondition_204 rfl (lv_at hl 0 rfl) ?_
            refine S_getI (h := shC) (C := "MacroMill$Second") (T := F_Second) hx hb htt in_Second hown hK hP 8 9 rfl rfl rfl (by decide) (htt _ k_906) (fun _ h9 => h9) d_Second_continueCondition_205 ?_
            refine lv_iconst (v := 1) hx hb d_Second_continueCondition_208 (by decide) ?_
            refine lv_isub hx hb d_Second_continueCondition_209 ?_
            show W _ _ _ _ _ _ _ _ _ _ _ _ _ _ _ (F0 _ 210 _ _)
            refine lv_iconst (v := 2) hx hb d_Second_continueCondition_210 (by decide) ?_
            obtain ⟨hv4, h⟩ := chk h
            refine S_iast (h := shC) (i := (S.1 8 9) - (1 : Int32)) (v := 2) hx hb hK hP hD hS 33 rfl (okI_in hv4) d_Second_continueCondition_211 (fun H locs hP hD hS => ?_)
            refine lv_goto (tgt := 217) hx hb d_Second_continueCondition_212 (by decide) ?_
            exact (ih.2.2.2.2.2.2.2.2.2) (putA S 33 ((S.1 8 9) - (1 : Int32) : Int32).toNatClampNeg 2) L M ls H locs h (lv_sub hl [0, 1, 2, 3, 4] rfl) hP hD hS
        · rw [if_pos hc2] at h
          refine lv_aload_n hx hb d_Second_continueCondition_168 rfl (lv_at hl 0 rfl) ?_
          refine S_getR (h := shC) (C := "MacroMill$Second") (T := F_Second) hx hb htt in_Second hown hK hP 8 8 rfl 46 rfl rfl (by decide) (htt _ k_905) (fun _ h9 => h9) d_Second_continueCondition_169 ?_
          refine lv_aload_n hx hb d_Second_continueCondition_172 rfl (lv_at hl 0 rfl) ?_
          refine S_getI (h := shC) (C := "MacroMill$Second") (T := F_Second) hx hb htt in_Second hown hK hP 8 9 rfl rfl rfl (by decide) (htt _ k_906) (fun _ h9 => h9) d_Second_continueCondition_173 ?_
          refine lv_iconst (v := 1) hx hb d_Second_continueCondition_176 (by decide) ?_
          refine lv_isub hx hb d_Second_continueCondition_177 ?_
          refine lv_bipush (v := 6) hx hb d_Second_continueCondition_178 (by decide) ?_
          show W _ _ _ _ _ _ _ _ _ _ _ _ _ _ _ (F0 _ 180 _ _)
          refine lv_iload hx hb d_Second_continueCondition_180 (lv_at hl 4 rfl) ?_
          refine lv_if_eq (tgt := 189) hx hb d_Second_continueCondition_182 (by decide) (fun hc5 => ?_) (fun hc5 => ?_)
          · rw [if_pos hc5] at h
            refine lv_iconst (v := 1) hx hb d_Second_continueCondition_189 (by decide) ?_
            exact (ih.2.2.2.2.2.2.2.2.1) S (upd (upd (upd L 103 (1 : Int32)) 102 (6 : Int32)) 101 ((S.1 8 9) - (1 : Int32))) M ls H locs h (lv_sub hl [0, 1, 2, 3, 4] rfl) hP hD hS
          · rw [if_neg hc5] at h
            refine lv_iconst (v := 0) hx hb d_Second_continueCondition_185 (by decide) ?_
            refine lv_goto (tgt := 190) hx hb d_Second_continueCondition_186 (by decide) ?_
            exact (ih.2.2.2.2.2.2.2.2.1) S (upd (upd (upd L 103 (0 : Int32)) 102 (6 : Int32)) 101 ((S.1 8 9) - (1 : Int32))) M ls H locs h (lv_sub hl [0, 1, 2, 3, 4] rfl) hP hD hS
      · rw [if_pos hc1] at h
        refine lv_aload_n hx hb d_Second_continueCondition_149 rfl (lv_at hl 0 rfl) ?_
        refine lv_dup hx hb d_Second_continueCondition_150 rfl ?_
        refine S_getI (h := shC) (C := "MacroMill$Second") (T := F_Second) hx hb htt in_Second hown hK hP 8 9 rfl rfl rfl (by decide) (htt _ k_906) (fun _ h9 => h9) d_Second_continueCondition_151 ?_
        refine lv_iconst (v := 1) hx hb d_Second_continueCondition_154 (by decide) ?_
        refine lv_isub hx hb d_Second_continueCondition_155 ?_
        refine S_put (h := shC) (C := "MacroMill$Second") (T := F_Second) (v := (S.1 8 9) - (1 : Int32)) hx hb htt in_Second t_Second t_Second_ok n_Second hown hK hP hD hS 8 9 rfl rfl rfl (by decide) (htt _ k_906) (fun _ h9 => h9) rfl rfl rfl d_Second_continueCondition_156 (fun H locs hP hD hS => ?_)
        refine lv_goto (tgt := 217) hx hb d_Second_continueCondition_159 (by decide) ?_
        exact (ih.2.2.2.2.2.2.2.2.2) (putI S 8 9 ((S.1 8 9) - (1 : Int32))) L M ls H locs h (lv_sub hl [0, 1, 2, 3, 4] rfl) hP hD hS
    · intro S L M ls H locs h hl hP hD hS
      simp only [f_Second_continueCondition] at h
      refine lv_ior hx hb d_Second_continueCondition_190 ?_
      obtain ⟨hv1, h⟩ := chk h
      refine S_iast (h := shC) (i := L 101) (v := (L 102) ||| (L 103)) hx hb hK hP hD hS 33 rfl (okI_in hv1) d_Second_continueCondition_191 (fun H locs hP hD hS => ?_)
      refine lv_goto (tgt := 217) hx hb d_Second_continueCondition_192 (by decide) ?_
      exact (ih.2.2.2.2.2.2.2.2.2) (putA S 33 (L 101 : Int32).toNatClampNeg ((L 102) ||| (L 103))) L M ls H locs h (lv_sub hl [0, 1, 2, 3, 4] rfl) hP hD hS
    · intro S L M ls H locs h hl hP hD hS
      simp only [f_Second_continueCondition] at h
      refine lv_iconst (v := 0) hx hb d_Second_continueCondition_217 (by decide) ?_
      cases h
      exact kx_218 ls H locs rfl hP hD hS
abbrev rm_t_Second_continueCondition : Room := { frames := 2, cells := 0, slots := 0, locals := 43 }
theorem t_Second_continueCondition (l : Launch) (g : gG) (sz : Nat) (ad : Nat → Nat) (S : sS) (v1 : Int32) (k : Nat) (r : Int32) (S9 : sS) (h : f_Second_continueCondition k 0 S (upd (fun _ => 0) 1 v1) (fun _ => 0) = some (r, S9)) : Cz l y_Second_continueCondition b_Second_continueCondition 5 rm_t_Second_continueCondition g [.ref (ad 8), .int v1] (Sw shC g ad S) sz (fun r1 w => ∃ S1 : sS, w = Sw shC g ad S1 ∧ r1 = r ∧ S1 = S9) := by
  refine startZ (by decide) (Nat.le_of_ble_eq_true rfl) ?_
  intro p e s m below meth c A ls hx hb hr hml hlocks hmn hown htt hN hA hP hK hD hS hl
  exact (w_Second_continueCondition hx hb hml hown htt hK hN hA (by decide +kernel) (by decide +kernel) (by decide +kernel) (by decide +kernel) r S9 (fun ls H locs hz hP hD hS => fin_z (g := g) (ws := Sw shC g ad S9) hx hb hr hlocks hz (by decide +kernel) (by decide +kernel) hP hD hS ⟨_, rfl, rfl, rfl⟩ d_Second_continueCondition_216) (fun ls H locs hz hP hD hS => fin_z (g := g) (ws := Sw shC g ad S9) hx hb hr hlocks hz (by decide +kernel) (by decide +kernel) hP hD hS ⟨_, rfl, rfl, rfl⟩ d_Second_continueCondition_218) k).1 S (upd (fun _ => 0) 1 v1) (fun _ => 0) ls _ _ h hl hP hD hS
