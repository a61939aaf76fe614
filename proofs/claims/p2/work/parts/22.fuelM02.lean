def f_Mod_giveText : Nat → Nat → sS → (Nat → Int32) → (Nat → Int64) → Option (Int32 × sS)
  | 0, _, _, _, _ => none
  | k + 1, 0, S, L, M => if okI (L 1) 340 = true then (if okI (L 1) 340 = true then (f_Mod_giveText k 1 S (upd (upd (upd L 5 ((S.2.1 12 (L 1 : Int32).toNatClampNeg) + (S.2.1 13 (L 1 : Int32).toNatClampNeg))) 6 ((S.1 0 50) - (L 4))) 7 (0 : Int32)) M) else none) else none
  | k + 1, 1, S, L, M => if okI (L 1) 340 = true then (if (S.2.1 14 (L 1 : Int32).toNatClampNeg) ≤ (L 7) then (f_Mod_giveText k 12 S L M) else (if (S.1 0 10) = (0 : Int32) then (if okI ((L 5) + (L 7)) 16684 = true then (if ((S.2.1 16 ((L 5) + (L 7) : Int32).toNatClampNeg) &&& (255 : Int32)) = (36 : Int32) then (if okI (L 1) 340 = true then (if (S.2.1 14 (L 1 : Int32).toNatClampNeg) ≤ ((L 7) + (1 : Int32)) then (f_Mod_giveText k 2 S (upd L 8 ((S.2.1 16 ((L 5) + (L 7) : Int32).toNatClampNeg) &&& (255 : Int32))) M) else (if okI (((L 5) + (L 7)) + (1 : Int32)) 16684 = true then (f_Mod_giveText k 3 S (upd (upd L 8 ((S.2.1 16 ((L 5) + (L 7) : Int32).toNatClampNeg) &&& (255 : Int32))) 100 ((S.2.1 16 (((L 5) + (L 7)) + (1 : Int32) : Int32).toNatClampNeg) &&& (255 : Int32))) M) else none)) else none) else (f_Mod_giveText k 2 S (upd L 8 ((S.2.1 16 ((L 5) + (L 7) : Int32).toNatClampNeg) &&& (255 : Int32))) M)) else none) else (f_Mod_giveText k 12 S L M))) else none
  | k + 1, 2, S, L, M => f_Mod_giveText k 3 S (upd L 100 ((-1) : Int32)) M
  | k + 1, 3, S, L, M => if (L 100) = (48 : Int32) then (f_Mod_giveText k 4 S (upd (upd L 9 (L 100)) 10 (0 : Int32)) M) else ((f_Mod_isDigit k 0 S (upd (fun _ => 0) 0 (L 100 : Int32)) (fun _ => 0)).bind (fun (r2, T2) => if r2 = (0 : Int32) then (if (L 100) = (35 : Int32) then ((f_Mod_giveNumber k 0 T2 (fun _ => 0) (vp_updL (fun _ => 0) 1 ((L 6).toInt64 : Int64))).bind (fun (r8, T8) => f_Mod_giveText k 9 T8 (upd L 9 (L 100)) M)) else (if (L 100) = (42 : Int32) then (f_Mod_giveText k 5 T2 (upd L 9 (L 100)) M) else (if (L 100) = (64 : Int32) then (f_Mod_giveText k 5 T2 (upd L 9 (L 100)) M) else ((f_Mod_give k 0 T2 (upd (fun _ => 0) 1 (L 8 : Int32)) (fun _ => 0)).bind (fun (r7, T7) => f_Mod_giveText k 9 T7 (upd L 9 (L 100)) M))))) else ((f_Mod_giveArgument k 0 T2 (upd (upd (fun _ => 0) 1 (L 4 : Int32)) 2 ((L 100) - (48 : Int32) : Int32)) (fun _ => 0)).bind (fun (r9, T9) => f_Mod_giveText k 9 T9 (upd L 9 (L 100)) M))))
  | k + 1, 4, S, L, M => if (L 3) ≤ (L 10) then (f_Mod_giveText k 9 S L M) else (if okI ((L 2) + (L 10)) 16385 = true then ((f_Mod_give k 0 S (upd (fun _ => 0) 1 (S.2.1 19 ((L 2) + (L 10) : Int32).toNatClampNeg : Int32)) (fun _ => 0)).bind (fun (r3, T3) => f_Mod_giveText k 4 T3 (upd L 10 ((L 10) + 1)) M)) else none)
  | k + 1, 5, S, L, M => f_Mod_giveText k 6 S (upd L 10 (1 : Int32)) M
  | k + 1, 6, S, L, M => if (L 6) < (L 10) then (f_Mod_giveText k 9 S L M) else (if (L 10) ≤ (1 : Int32) then (f_Mod_giveText k 7 S L M) else ((f_Mod_give k 0 S (upd (fun _ => 0) 1 (44 : Int32)) (fun _ => 0)).bind (fun (r3, T3) => f_Mod_giveText k 7 T3 L M)))
  | k + 1, 7, S, L, M => if (L 9) = (42 : Int32) then ((f_Mod_giveArgument k 0 S (upd (upd (fun _ => 0) 1 (L 4 : Int32)) 2 (L 10 : Int32)) (fun _ => 0)).bind (fun (r3, T3) => f_Mod_giveText k 8 T3 L M)) else ((f_Mod_giveQuotedArgument k 0 S (upd (upd (fun _ => 0) 1 (L 4 : Int32)) 2 (L 10 : Int32)) (fun _ => 0)).bind (fun (r2, T2) => f_Mod_giveText k 8 T2 L M))
  | k + 1, 8, S, L, M => f_Mod_giveText k 6 S (upd L 10 ((L 10) + 1)) M
  | k + 1, 9, S, L, M => (f_Mod_isDigit k 0 S (upd (fun _ => 0) 0 (L 9 : Int32)) (fun _ => 0)).bind (fun (r1, T1) => if r1 = (0 : Int32) then (if (L 9) = (35 : Int32) then (f_Mod_giveText k 10 T1 L M) else (if (L 9) = (42 : Int32) then (f_Mod_giveText k 10 T1 L M) else (if (L 9) = (64 : Int32) then (f_Mod_giveText k 10 T1 L M) else (f_Mod_giveText k 11 T1 (upd L 100 (L 7)) M)))) else (f_Mod_giveText k 10 T1 L M))
  | k + 1, 10, S, L, M => f_Mod_giveText k 11 S (upd L 100 ((L 7) + (1 : Int32))) M
  | k + 1, 11, S, L, M => f_Mod_giveText k 1 S (upd L 7 ((L 100) + 1)) M
  | k + 1, 12, S, L, M => some ((0 : Int32), S)
  | _ + 1, _ + 13, _, _, _ => none
set_option maxHeartbeats 8000000 in
set_option maxRecDepth 100000 in
theorem w_Mod_giveText {p : Program} {l : Launch} {e : Env} {R : Room} {s : State} {m : MethodId} {args : Array Value} {below : List Frame} {meth : Method} {c : Code} {cells slots : Nat} {Q : State → Prop} {g : gG} {A : Nat → Prop} {ad : Nat → Nat} (hx : p.tables.exec = Jvm.exec) (hb : c.code = b_Mod_giveText) (hml : c.maxLocals = 11) (hown : s.vm.findClass "MacroMillModel" = some m.cls) (htt : ∀ w ∈ gt, w.before args s = true) (hK : va_K g.1 classes (tysG g) s) (hN : nw s) (hA : ∀ q : Nat, s.heap.size ≤ q → A q) (hRf : 5 ≤ R.frames) (hRl : 112 ≤ R.locals) (hRc : cells ≤ R.cells) (hRs : slots ≤ R.slots) (r : Int32) (S9 : sS)
    (kx_303 : ∀ (ls : Array Slot) (H : Heap) (locs : List Loc), va_P g.1 classes (Sw shM g ad S9) H → va_D A (Sw shM g ad S9) → va_S A s.heap H locs → W p l e R s m args below meth c H locs cells slots Q (F0 m 303 ls [])) :
    ∀ k9 : Nat, (∀ (S : sS) (L : Nat → Int32) (M : Nat → Int64) (ls : Array Slot) (H : Heap) (locs : List Loc), f_Mod_giveText k9 0 S L M = some (r, S9) → lv_has ls 11 [(0, .ref (ad 0)), (1, .int (L 1)), (2, .int (L 2)), (3, .int (L 3)), (4, .int (L 4))] → va_P g.1 classes (Sw shM g ad S) H → va_D A (Sw shM g ad S) → va_S A s.heap H locs → W p l e R s m args below meth c H locs cells slots Q (F0 m 0 ls [])) ∧ (∀ (S : sS) (L : Nat → Int32) (M : Nat → Int64) (ls : Array Slot) (H : Heap) (locs : List Loc), f_Mod_giveText k9 1 S L M = some (r, S9) → lv_has ls 11 [(0, .ref (ad 0)), (1, .int (L 1)), (2, .int (L 2)), (3, .int (L 3)), (4, .int (L 4)), (5, .int (L 5)), (6, .int (L 6)), (7, .int (L 7))] → va_P g.1 classes (Sw shM g ad S) H → va_D A (Sw shM g ad S) → va_S A s.heap H locs → W p l e R s m args below meth c H locs cells slots Q (F0 m 27 ls [])) ∧ (∀ (S : sS) (L : Nat → Int32) (M : Nat → Int64) (ls : Array Slot) (H : Heap) (locs : List Loc), f_Mod_giveText k9 2 S L M = some (r, S9) → lv_has ls 11 [(0, .ref (ad 0)), (1, .int (L 1)), (2, .int (L 2)), (3, .int (L 3)), (4, .int (L 4)), (5, .int (L 5)), (6, .int (L 6)), (7, .int (L 7)), (8, .int (L 8))] → va_P g.1 classes (Sw shM g ad S) H → va_D A (Sw shM g ad S) → va_S A s.heap H locs → W p l e R s m args below meth c H locs cells slots Q (F0 m 100 ls [])) ∧ (∀ (S : sS) (L : Nat → Int32) (M : Nat → Int64) (ls : Array Slot) (H : Heap) (locs : List Loc), f_Mod_giveText k9 3 S L M = some (r, S9) → lv_has ls 11 [(0, .ref (ad 0)), (1, .int (L 1)), (2, .int (L 2)), (3, .int (L 3)), (4, .int (L 4)), (5, .int (L 5)), (6, .int (L 6)), (7, .int (L 7)), (8, .int (L 8))] → va_P g.1 classes (Sw shM g ad S) H → va_D A (Sw shM g ad S) → va_S A s.heap H locs → W p l e R s m args below meth c H locs cells slots Q (F0 m 101 ls [.int (L 100)])) ∧ (∀ (S : sS) (L : Nat → Int32) (M : Nat → Int64) (ls : Array Slot) (H : Heap) (locs : List Loc), f_Mod_giveText k9 4 S L M = some (r, S9) → lv_has ls 11 [(0, .ref (ad 0)), (1, .int (L 1)), (2, .int (L 2)), (3, .int (L 3)), (4, .int (L 4)), (5, .int (L 5)), (6, .int (L 6)), (7, .int (L 7)), (8, .int (L 8)), (9, .int (L 9)), (10, .int (L 10))] → va_P g.1 classes (Sw shM g ad S) H → va_D A (Sw shM g ad S) → va_S A s.heap H locs → W p l e R s m args below meth c H locs cells slots Q (F0 m 113 ls [])) ∧ (∀ (S : sS) (L : Nat → Int32) (M : Nat → Int64) (ls : Array Slot) (H : Heap) (locs : List Loc), f_Mod_giveText k9 5 S L M = some (r, S9) → lv_has ls 11 [(0, .ref (ad 0)), (1, .int (L 1)), (2, .int (L 2)), (3, .int (L 3)), (4, .int (L 4)), (5, .int (L 5)), (6, .int (L 6)), (7, .int (L 7)), (8, .int (L 8)), (9, .int (L 9))] → va_P g.1 classes (Sw shM g ad S) H → va_D A (Sw shM g ad S) → va_S A s.heap H locs → W p l e R s m args below meth c H locs cells slots Q (F0 m 194 ls [])) ∧ (∀ (S : sS) (L : Nat → Int32) (M : Nat → Int64) (ls : Array Slot) (H : Heap) (locs : List Loc), f_Mod_giveText k9 6 S L M = some (r, S9) → lv_has ls 11 [(0, .ref (ad 0)), (1, .int (L 1)), (2, .int (L 2)), (3, .int (L 3)), (4, .int (L 4)), (5, .int (L 5)), (6, .int (L 6)), (7, .int (L 7)), (8, .int (L 8)), (9, .int (L 9)), (10, .int (L 10))] → va_P g.1 classes (Sw shM g ad S) H → va_D A (Sw shM g ad S) → va_S A s.heap H locs → W p l e R s m args below meth c H locs cells slots Q (F0 m 197 ls [])) ∧ (∀ (S : sS) (L : Nat → Int32) (M : Nat → Int64) (ls : Array Slot) (H : Heap) (locs : List Loc), f_Mod_giveText k9 7 S L M = some (r, S9) → lv_has ls 11 [(0, .ref (ad 0)), (1, .int (L 1)), (2, .int (L 2)), (3, .int (L 3)), (4, .int (L 4)), (5, .int (L 5)), (6, .int (L 6)), (7, .int (L 7)), (8, .int (L 8)), (9, .int (L 9)), (10, .int (L 10))] → va_P g.1 classes (Sw shM g ad S) H → va_D A (Sw shM g ad S) → va_S A s.heap H locs → W p l e R s m args below meth c H locs cells slots Q (F0 m 216 ls [])) ∧ (∀ (S : sS) (L : Nat → Int32) (M : Nat → Int64) (ls : Array Slot) (H : Heap) (locs : List Loc), f_Mod_giveText k9 8 S L M = some (r, S9) → lv_has ls 11 [(0, .ref (ad 0)), (1, .int (L 1)), (2, .int (L 2)), (3, .int (L 3)), (4, .int (L 4)), (5, .int (L 5)), (6, .int (L 6)), (7, .int (L 7)), (8, .int (L 8)), (9, .int (L 9)), (10, .int (L 10))] → va_P g.1 classes (Sw shM g ad S) H → va_D A (Sw shM g ad S) → va_S A s.heap H locs → W p l e R s m args below meth c H locs cells slots Q (F0 m 242 ls [])) ∧ (∀ (S : sS) (L : Nat → Int32) (M : Nat → Int64) (ls : Array Slot) (H : Heap) (locs : List Loc), f_Mod_giveText k9 9 S L M = some (r, S9) → lv_has ls 11 [(0, .ref (ad 0)), (1, .int (L 1)), (2, .int (L 2)), (3, .int (L 3)), (4, .int (L 4)), (5, .int (L 5)), (6, .int (L 6)), (7, .int (L 7)), (8, .int (L 8)), (9, .int (L 9))] → va_P g.1 classes (Sw shM g ad S) H → va_D A (Sw shM g ad S) → va_S A s.heap H locs → W p l e R s m args below meth c H locs cells slots Q (F0 m 257 ls [])) ∧ (∀ (S : sS) (L : Nat → Int32) (M : Nat → Int64) (ls : Array Slot) (H : Heap) (locs : List Loc), f_Mod_giveText k9 10 S L M = some (r, S9) → lv_has ls 11 [(0, .ref (ad 0)), (1, .int (L 1)), (2, .int (L 2)), (3, .int (L 3)), (4, .int (L 4)), (5, .int (L 5)), (6, .int (L 6)), (7, .int (L 7)), (8, .int (L 8)), (9, .int (L 9))] → va_P g.1 classes (Sw shM g ad S) H → va_D A (Sw shM g ad S) → va_S A s.heap H locs → W p l e R s m args below meth c H locs cells slots Q (F0 m 286 ls [])) ∧ (∀ (S : sS) (L : Nat → Int32) (M : Nat → Int64) (ls : Array Slot) (H : Heap) (locs : List Loc), f_Mod_giveText k9 11 S L M = some (r, S9) → lv_has ls 11 [(0, .ref (ad 0)), (1, .int (L 1)), (2, .int (L 2)), (3, .int (L 3)), (4, .int (L 4)), (5, .int (L 5)), (6, .int (L 6)), (7, .int (L 7)), (8, .int (L 8)), (9, .int (L 9))] → va_P g.1 classes (Sw shM g ad S) H → va_D A (Sw shM g ad S) → va_S A s.heap H locs → W p l e R s m args below meth c H locs cells slots Q (F0 m 295 ls [.int (L 100)])) ∧ (∀ (S : sS) (L : Nat → Int32) (M : Nat → Int64) (ls : Array Slot) (H : Heap) (locs : List Loc), f_Mod_giveText k9 12 S L M = some (r, S9) → lv_has ls 11 [(0, .ref (ad 0)), (1, .int (L 1)), (2, .int (L 2)), (3, .int (L 3)), (4, .int (L 4)), (5, .int (L 5)), (6, .int (L 6)), (7, .int (L 7))] → va_P g.1 classes (Sw shM g ad S) H → va_D A (Sw shM g ad S) → va_S A s.heap H locs → W p l e R s m args below meth c H locs cells slots Q (F0 m 303 ls [])) := by
  intro k9
  induction k9 with
  | zero => exact ⟨(fun _ _ _ _ _ _ h => by simp [f_Mod_giveText] at h), (fun _ _ _ _ _ _ h => by simp [f_Mod_giveText] at h), (fun _ _ _ _ _ _ h => by simp [f_Mod_giveText] at h), (fun _ _ _ _ _ _ h => by simp [f_Mod_giveText] at h), (fun _ _ _ _ _ _ h => by simp [f_Mod_giveText] at h), (fun _ _ _ _ _ _ h => by simp [f_Mod_giveText] at h), (fun _ _ _ _ _ _ h => by simp [f_Mod_giveText] at h), (fun _ _ _ _ _ _ h => by simp [f_Mod_giveText] at h), (fun _ _ _ _ _ _ h => by simp [f_Mod_giveText] at h), (fun _ _ _ _ _ _ h => by simp [f_Mod_giveText] at h), (fun _ _ _ _ _ _ h => by simp [f_Mod_giveText] at h), (fun _ _ _ _ _ _ h => by simp [f_Mod_giveText] at h), (fun _ _ _ _ _ _ h => by simp [f_Mod_giveText] at h)⟩
  | succ k9 ih =>
    refine ⟨?_, ?_, ?_, ?_, ?_, ?_, ?_, ?_, ?_, ?_, ?_, ?_, ?_⟩
    · intro S L M ls H locs h hl hP hD hS
      simp only [f_Mod_giveText] at h
      refine lv_aload_n hx hb d_Mod_giveText_0 rfl (lv_at hl 0 rfl) ?_
      refine S_getR (h := shM) (C := "MacroMillModel") (T := F_Mod) hx hb htt in_Mod hown hK hP 0 35 rfl 13 rfl rfl (by decide) (htt _ k_2271) (fun _ h9 => h9) d_Mod_giveText_1 ?_
      refine lv_iload_n hx hb d_Mod_giveText_4 rfl (lv_at hl 1 rfl) ?_
      obtain ⟨hv1, h⟩ := chk h
      refine S_iald (h := shM) (i := L 1) hx hb hK hP 12 rfl (okI_in hv1) d_Mod_giveText_5 ?_
      refine lv_aload_n hx hb d_Mod_giveText_6 rfl (lv_at hl 0 rfl) ?_
      refine S_getR (h := shM) (C := "MacroMillModel") (T := F_Mod) hx hb htt in_Mod hown hK hP 0 36 rfl 14 rfl rfl (by decide) (htt _ k_2272) (fun _ h9 => h9) d_Mod_giveText_7 ?_
      refine lv_iload_n hx hb d_Mod_giveText_10 rfl (lv_at hl 1 rfl) ?_
      obtain ⟨hv2, h⟩ := chk h
      refine S_iald (h := shM) (i := L 1) hx hb hK hP 13 rfl (okI_in hv2) d_Mod_giveText_11 ?_
      refine lv_iadd hx hb d_Mod_giveText_12 ?_
      refine lv_istore (lv' := [(5, .int ((S.2.1 12 (L 1 : Int32).toNatClampNeg) + (S.2.1 13 (L 1 : Int32).toNatClampNeg))), (0, .ref (ad 0)), (1, .int (L 1)), (2, .int (L 2)), (3, .int (L 3)), (4, .int (L 4))]) hx hb d_Mod_giveText_13 hl (by decide) rfl (fun ls hl => ?_)
      refine lv_aload_n hx hb d_Mod_giveText_15 rfl (lv_at hl 1 rfl) ?_
      show W _ _ _ _ _ _ _ _ _ _ _ _ _ _ _ (F0 _ 16 _ _)
      refine S_getI (h := shM) (C := "MacroMillModel") (T := F_Mod) hx hb htt in_Mod hown hK hP 0 50 rfl rfl rfl (by decide) (htt _ k_2286) (fun _ h9 => h9) d_Mod_giveText_16 ?_
      refine lv_iload hx hb d_Mod_giveText_19 (lv_at hl 5 rfl) ?_
      refine lv_isub hx hb d_Mod_giveText_21 ?_
      refine lv_istore (lv' := [(6, .int ((S.1 0 50) - (L 4))), (5, .int ((S.2.1 12 (L 1 : Int32).toNatClampNeg) + (S.2.1 13 (L 1 : Int32).toNatClampNeg))), (0, .ref (ad 0)), (1, .int (L 1)), (2, .int (L 2)), (3, .int (L 3)), (4, .int (L 4))]) hx hb d_Mod_giveText_22 hl (by decide) rfl (fun ls hl => ?_)
      refine lv_iconst (v := 0) hx hb d_Mod_giveText_24 (by decide) ?_
      refine lv_istore (lv' := [(7, .int 0), (6, .int ((S.1 0 50) - (L 4))), (5, .int ((S.2.1 12 (L 1 : Int32).toNatClampNeg) + (S.2.1 13 (L 1 : Int32).toNatClampNeg))), (0, .ref (ad 0)), (1, .int (L 1)), (2, .int (L 2)), (3, .int (L 3)), (4, .int (L 4))]) hx hb d_Mod_giveText_25 hl (by decide) rfl (fun ls hl => ?_)
      exact (ih.2.1) S (upd (upd (upd L 5 ((S.2.1 12 (L 1 : Int32).toNatClampNeg) + (S.2.1 13 (L 1 : Int32).toNatClampNeg))) 6 ((S.1 0 50) - (L 4))) 7 (0 : Int32)) M ls H locs h (lv_sub hl [3, 4, 5, 6, 7, 2, 1, 0] rfl) hP hD hS
    · intro S L M ls H locs h hl hP hD hS
      simp only [f_Mod_giveText] at h
      refine lv_iload hx hb d_Mod_giveText_27 (lv_at hl 7 rfl) ?_
      refine lv_aload_n hx hb d_Mod_giveText_29 rfl (lv_at hl 0 rfl) ?_
      refine S_getR (h := shM) (C := "MacroMillModel") (T := F_Mod) hx hb htt in_Mod hown hK hP 0 37 rfl 15 rfl rfl (by decide) (htt _ k_2273) (fun _ h9 => h9) d_Mod_giveText_30 ?_
      refine lv_iload_n hx hb d_Mod_giveText_33 rfl (lv_at hl 1 rfl) ?_
      obtain ⟨hv1, h⟩ := chk h
      refine S_iald (h := shM) (i := L 1) hx hb hK hP 14 rfl (okI_in hv1) d_Mod_giveText_34 ?_
      refine lv_icmp_ge (tgt := 303) hx hb d_Mod_giveText_35 (by decide) (fun hc2 => ?_) (fun hc2 => ?_)
      · rw [if_pos hc2] at h
        exact (ih.2.2.2.2.2.2.2.2.2.2.2.2) S L M ls H locs h (lv_sub hl [0, 1, 2, 3, 4, 5, 6, 7] rfl) hP hD hS
      · rw [if_neg hc2] at h
        refine lv_aload_n hx hb d_Mod_giveText_38 rfl (lv_at hl 0 rfl) ?_
        refine S_getI (h := shM) (C := "MacroMillModel") (T := F_Mod) hx hb htt in_Mod hown hK hP 0 10 rfl rfl rfl (by decide) (htt _ k_2246) (fun _ h9 => h9) d_Mod_giveText_39 ?_
        refine lv_if_ne (tgt := 303) hx hb d_Mod_giveText_42 (by decide) (fun hc3 => ?_) (fun hc3 => ?_)
        · rw [if_neg hc3] at h
          exact (ih.2.2.2.2.2.2.2.2.2.2.2.2) S L M ls H locs h (lv_sub hl [0, 1, 2, 3, 4, 5, 6, 7] rfl) hP hD hS
        · rw [if_pos hc3] at h
          refine lv_aload_n hx hb d_Mod_giveText_45 rfl (lv_at hl 0 rfl) ?_
          refine S_getR (h := shM) (C := "MacroMillModel") (T := F_Mod) hx hb htt in_Mod hown hK hP 0 39 rfl 17 rfl rfl (by decide) (htt _ k_2275) (fun _ h9 => h9) d_Mod_giveText_46 ?_
          refine lv_iload hx hb d_Mod_giveText_49 (lv_at hl 5 rfl) ?_
          refine lv_iload hx hb d_Mod_giveText_51 (lv_at hl 7 rfl) ?_
          show W _ _ _ _ _ _ _ _ _ _ _ _ _ _ _ (F0 _ 53 _ _)
          refine lv_iadd hx hb d_Mod_giveText_53 ?_
          obtain ⟨hv4, h⟩ := chk h
          refine S_bald (h := shM) (i := (L 5) + (L 7)) hx hb hK hP 16 rfl (okI_in hv4) d_Mod_giveText_54 ?_
          refine lv_sipush (v := 255) hx hb d_Mod_giveText_55 (by decide) ?_
          refine lv_iand hx hb d_Mod_giveText_58 ?_
          refine lv_istore (lv' := [(8, .int ((S.2.1 16 ((L 5) + (L 7) : Int32).toNatClampNeg) &&& (255 : Int32))), (0, .ref (ad 0)), (1, .int (L 1)), (2, .int (L 2)), (3, .int (L 3)), (4, .int (L 4)), (5, .int (L 5)), (6, .int (L 6)), (7, .int (L 7))]) hx hb d_Mod_giveText_59 hl (by decide) rfl (fun ls hl => ?_)
          refine lv_iload hx hb d_Mod_giveText_61 (lv_at hl 0 rfl) ?_
          refine lv_bipush (v := 36) hx hb d_Mod_giveText_63 (by decide) ?_
          refine lv_icmp_ne (tgt := 100) hx hb d_Mod_giveText_65 (by decide) (fun hc5 => ?_) (fun hc5 => ?_)
          · rw [if_neg hc5] at h
            exact (ih.2.2.1) S (upd L 8 ((S.2.1 16 ((L 5) + (L 7) : Int32).toNatClampNeg) &&& (255 : Int32))) M ls H locs h (lv_sub hl [1, 2, 3, 4, 5, 6, 7, 8, 0] rfl) hP hD hS
          · rw [if_pos hc5] at h
            refine lv_iload hx hb d_Mod_giveText_68 (lv_at hl 8 rfl) ?_
            refine lv_iconst (v := 1) hx hb d_Mod_giveText_70 (by decide) ?_
            refine lv_iadd hx hb d_Mod_giveText_71 ?_
            refine lv_aload_n hx hb d_Mod_giveText_72 rfl (lv_at hl 1 rfl) ?_
            refine S_getR (h := shM) (C := "MacroMillModel") (T := F_Mod) hx hb htt in_Mod hown hK hP 0 37 rfl 15 rfl rfl (by decide) (htt _ k_2273) (fun _ h9 => h9) d_Mod_giveText_73 ?_
            show W _ _ _ _ _ _ _ _ _ _ _ _ _ _ _ (F0 _ 76 _ _)
            refine lv_iload_n hx hb d_Mod_giveText_76 rfl (lv_at hl 2 rfl) ?_
            obtain ⟨hv6, h⟩ := chk h
            refine S_iald (h := shM) (i := L 1) hx hb hK hP 14 rfl (okI_in hv6) d_Mod_giveText_77 ?_
            refine lv_icmp_ge (tgt := 100) hx hb d_Mod_giveText_78 (by decide) (fun hc7 => ?_) (fun hc7 => ?_)
            · rw [if_pos hc7] at h
              exact (ih.2.2.1) S (upd L 8 ((S.2.1 16 ((L 5) + (L 7) : Int32).toNatClampNeg) &&& (255 : Int32))) M ls H locs h (lv_sub hl [1, 2, 3, 4, 5, 6, 7, 8, 0] rfl) hP hD hS
            · rw [if_neg hc7] at h
              refine lv_aload_n hx hb d_Mod_giveText_81 rfl (lv_at hl 1 rfl) ?_
              refine S_getR (h := shM) (C := "MacroMillModel") (T := F_Mod) hx hb htt in_Mod hown hK hP 0 39 rfl 17 rfl rfl (by decide) (htt _ k_2275) (fun _ h9 => h9) d_Mod_giveText_82 ?_
              refine lv_iload hx hb d_Mod_giveText_85 (lv_at hl 6 rfl) ?_
              refine lv_iload hx hb d_Mod_giveText_87 (lv_at hl 8 rfl) ?_
              refine lv_iadd hx hb d_Mod_giveText_89 ?_
              refine lv_iconst (v := 1) hx hb d_Mod_giveText_90 (by decide) ?_
              refine lv_iadd hx hb d_Mod_giveText_91 ?_
              obtain ⟨hv8, h⟩ := chk h
              refine S_bald (h := shM) (i := ((L 5) + (L 7)) + (1 : Int32)) hx hb hK hP 16 rfl (okI_in hv8) d_Mod_giveText_92 ?_
              refine lv_sipush (v := 255) hx hb d_Mod_giveText_93 (by decide) ?_
              refine lv_iand hx hb d_Mod_giveText_96 ?_
              show W _ _ _ _ _ _ _ _ _ _ _ _ _ _ _ (F0 _ 97 _ _)
              refine lv_goto (tgt := 101) hx hb d_Mod_giveText_97 (by decide) ?_
              exact (ih.2.2.2.1) S (upd (upd L 8 ((S.2.1 16 ((L 5) + (L 7) : Int32).toNatClampNeg) &&& (255 : Int32))) 100 ((S.2.1 16 (((L 5) + (L 7)) + (1 : Int32) : Int32).toNatClampNeg) &&& (255 : Int32))) M ls H locs h (lv_sub hl [1, 2, 3, 4, 5, 6, 7, 8, 0] rfl) hP hD hS
    · intro S L M ls H locs h hl hP hD hS
      simp only [f_Mod_giveText] at h
      refine lv_iconst (v := (-1)) hx hb d_Mod_giveText_100 (by decide) ?_
      exact (ih.2.2.2.1) S (upd L 100 ((-1) : Int32)) M ls H locs h (lv_sub hl [0, 1, 2, 3, 4, 5, 6, 7, 8] rfl) hP hD hS
    · intro S L M ls H locs h hl hP hD hS
      simp only [f_Mod_giveText] at h
      refine lv_istore (lv' := [(9, .int (L 100)), (0, .ref (ad 0)), (1, .int (L 1)), (2, .int (L 2)), (3, .int (L 3)), (4, .int (L 4)), (5, .int (L 5)), (6, .int (L 6)), (7, .int (L 7)), (8, .int (L 8))]) hx hb d_Mod_giveText_101 hl (by decide) rfl (fun ls hl => ?_)
      refine lv_iload hx hb d_Mod_giveText_103 (lv_at hl 0 rfl) ?_
      refine lv_bipush (v := 48) hx hb d_Mod_giveText_105 (by decide) ?_
      refine lv_icmp_ne (tgt := 141) hx hb d_Mod_giveText_107 (by decide) (fun hc1 => ?_) (fun hc1 => ?_)
      · rw [if_neg hc1] at h
        refine lv_iload hx hb d_Mod_giveText_141 (lv_at hl 0 rfl) ?_
        obtain ⟨⟨r2, T2⟩, hq2, h⟩ := Option.bind_eq_some_iff.mp h
        try dsimp only at h
        refine go_iS (As := [.int (L 100)]) (g := g) (A := A) (h := shM) hP hK hD hS hA hN (fun hp => va_runS (As := [.int (L 100)]) (rest := []) ⟨hx, hb, hml, hown, htt⟩ (t_Mod_isDigit l g _ ad S (L 100 : Int32) k9 r2 T2 hq2) ⟨(cb_L htt k_2777 k_276 k_2775 hd_Mod_isDigit ⟨(Nat.le_trans (by decide +kernel) hRf), (Nat.le_trans (by decide +kernel) hRl)⟩), htt _ k_2776⟩ hp rfl rfl hl.1 rfl (lv_room (Nat.le_of_ble_eq_true rfl)) d_Mod_giveText_143 ⟨hRc, hRs⟩) (fun r0 Sn H locs hw9 hP hD hS => ?_)
        obtain ⟨e9, e8⟩ := hw9
        rw [e8] at hP hD
        refine W.widen (k := cells) (n := slots) (Nat.le_refl _) (Nat.le_refl _) ?_
        refine toI (y := r2) e9 ?_
        refine lv_if_eq (tgt := 163) hx hb d_Mod_giveText_146 (by decide) (fun hc3 => ?_) (fun hc3 => ?_)
        · rw [if_pos hc3] at h
          refine lv_iload hx hb d_Mod_giveText_163 (lv_at hl 0 rfl) ?_
          refine lv_bipush (v := 35) hx hb d_Mod_giveText_165 (by decide) ?_
          refine lv_icmp_ne (tgt := 180) hx hb d_Mod_giveText_167 (by decide) (fun hc4 => ?_) (fun hc4 => ?_)
          · rw [if_neg hc4] at h
            refine lv_iload hx hb d_Mod_giveText_180 (lv_at hl 0 rfl) ?_
            refine lv_bipush (v := 42) hx hb d_Mod_giveText_182 (by decide) ?_
            refine lv_icmp_eq (tgt := 194) hx hb d_Mod_giveText_184 (by decide) (fun hc5 => ?_) (fun hc5 => ?_)
            · rw [if_pos hc5] at h
              exact (ih.2.2.2.2.2.1) T2 (upd L 9 (L 100)) M ls H locs h (lv_sub hl [1, 2, 3, 4, 5, 6, 7, 8, 9, 0] rfl) hP hD hS
            · rw [if_neg hc5] at h
              refine lv_iload hx hb d_Mod_giveText_187 (lv_at hl 0 rfl) ?_
              refine lv_bipush (v := 64) hx hb d_Mod_giveText_189 (by decide) ?_
              refine lv_icmp_ne (tgt := 251) hx hb d_Mod_giveText_191 (by decide) (fun hc6 => ?_) (fun hc6 => ?_)
              · rw [if_neg hc6] at h
                refine lv_aload_n hx hb d_Mod_giveText_251 rfl (lv_at hl 1 rfl) ?_
                show W _ _ _ _ _ _ _ _ _ _ _ _ _ _ _ (F0 _ 252 _ _)
                refine lv_iload hx hb d_Mod_giveText_252 (lv_at hl 9 rfl) ?_
                obtain ⟨⟨r7, T7⟩, hq7, h⟩ := Option.bind_eq_some_iff.mp h
                try dsimp only at h
                refine go_vS (As := [.ref (ad 0), .int (L 8)]) (g := g) (A := A) (h := shM) hP hK hD hS hA hN (fun hp => va_runV (As := [.int (L 8)]) (rest := []) ⟨hx, hb, hml, hown, htt⟩ (t_Mod_give l g _ ad T2 (L 8 : Int32) k9 r7 T7 hq7) ⟨(cb_L htt k_2824 k_276 k_2821 hd_Mod_give ⟨(Nat.le_trans (by decide +kernel) hRf), (Nat.le_trans (by decide +kernel) hRl)⟩), htt _ k_2823, htt _ k_150⟩ ⟨hp.1, S_recv hK hP 0 rfl rfl, hp.2⟩ rfl rfl hl.1 rfl (lv_room (Nat.le_of_ble_eq_true rfl)) d_Mod_giveText_254 ⟨hRc, hRs⟩) (fun Sn H locs hw9 hP hD hS => ?_)
                have e8 := hw9
                rw [e8] at hP hD
                refine W.widen (k := cells) (n := slots) (Nat.le_refl _) (Nat.le_refl _) ?_
                exact (ih.2.2.2.2.2.2.2.2.2.1) T7 (upd L 9 (L 100)) M ls H locs h (lv_sub hl [1, 2, 3, 4, 5, 6, 7, 8, 9, 0] rfl) hP hD hS
              · rw [if_pos hc6] at h
                exact (ih.2.2.2.2.2.1) T2 (upd L 9 (L 100)) M ls H locs h (lv_sub hl [1, 2, 3, 4, 5, 6, 7, 8, 9, 0] rfl) hP hD hS
          · rw [if_pos hc4] at h
            refine lv_aload_n hx hb d_Mod_giveText_170 rfl (lv_at hl 1 rfl) ?_
            refine lv_iload hx hb d_Mod_giveText_171 (lv_at hl 7 rfl) ?_
            refine lv_i2l (v := (L 6).toInt64) hx hb d_Mod_giveText_173 rfl ?_
            obtain ⟨⟨r8, T8⟩, hq8, h⟩ := Option.bind_eq_some_iff.mp h
            try dsimp only at h
            refine go_vS (As := [.ref (ad 0), .long ((L 6).toInt64)]) (g := g) (A := A) (h := shM) hP hK hD hS hA hN (fun hp => va_runV (As := [.long ((L 6).toInt64)]) (rest := []) ⟨hx, hb, hml, hown, htt⟩ (t_Mod_giveNumber l g _ ad T2 ((L 6).toInt64 : Int64) k9 r8 T8 hq8) ⟨(cb_L htt k_2844 k_276 k_2841 hd_Mod_giveNumber ⟨(Nat.le_trans (by decide +kernel) hRf), (Nat.le_trans (by decide +kernel) hRl)⟩), htt _ k_2843, htt _ k_155⟩ ⟨hp.1, S_recv hK hP 0 rfl rfl, hp.2⟩ rfl rfl hl.1 rfl (lv_room (Nat.le_of_ble_eq_true rfl)) d_Mod_giveText_174 ⟨hRc, hRs⟩) (fun Sn H locs hw9 hP hD hS => ?_)
            have e8 := hw9
            rw [e8] at hP hD
            refine W.widen (k := cells) (n := slots) (Nat.le_refl _) (Nat.le_refl _) ?_
            refine lv_goto (tgt := 257) hx hb d_Mod_giveText_177 (by decide) ?_
            exact (ih.2.2.2.2.2.2.2.2.2.1) T8 (upd L 9 (L 100)) M ls H locs h (lv_sub hl [1, 2, 3, 4, 5, 6, 7, 8, 9, 0] rfl) hP hD hS
        · rw [if_neg hc3] at h
          refine lv_aload_n hx hb d_Mod_giveText_149 rfl (lv_at hl 1 rfl) ?_
          refine lv_iload hx hb d_Mod_giveText_150 (lv_at hl 5 rfl) ?_
          refine lv_iload hx hb d_Mod_giveText_152 (lv_at hl 0 rfl) ?_
          refine lv_bipush (v := 48) hx hb d_Mod_giveText_154 (by decide) ?_
          refine lv_isub hx hb d_Mod_giveText_156 ?_
          obtain ⟨⟨r9, T9⟩, hq9, h⟩ := Option.bind_eq_some_iff.mp h
          try dsimp only at h
          refine go_vS (As := [.ref (ad 0), .int (L 4), .int ((L 100) - (48 : Int32))]) (g := g) (A := A) (h := shM) hP hK hD hS hA hN (fun hp => va_runV (As := [.int (L 4), .int ((L 100) - (48 : Int32))]) (rest := []) ⟨hx, hb, hml, hown, htt⟩ (t_Mod_giveArgument l g _ ad T2 (L 4 : Int32) ((L 100) - (48 : Int32) : Int32) k9 r9 T9 hq9) ⟨(cb_L htt k_2832 k_276 k_2829 hd_Mod_giveArgument ⟨(Nat.le_trans (by decide +kernel) hRf), (Nat.le_trans (by decide +kernel) hRl)⟩), htt _ k_2831, htt _ k_152⟩ ⟨hp.1, S_recv hK hP 0 rfl rfl, hp.2⟩ rfl rfl hl.1 rfl (lv_room (Nat.le_of_ble_eq_true rfl)) d_Mod_giveText_157 ⟨hRc, hRs⟩) (fun Sn H locs hw9 hP hD hS => ?_)
          have e8 := hw9
          rw [e8] at hP hD
          refine W.widen (k := cells) (n := slots) (Nat.le_refl _) (Nat.le_refl _) ?_
          refine lv_goto (tgt := 257) hx hb d_Mod_giveText_160 (by decide) ?_
          exact (ih.2.2.2.2.2.2.2.2.2.1) T9 (upd L 9 (L 100)) M ls H locs h (lv_sub hl [1, 2, 3, 4, 5, 6, 7, 8, 9, 0] rfl) hP hD hS
      · rw [if_pos hc1] at h
        refine lv_iconst (v := 0) hx hb d_Mod_giveText_110 (by decide) ?_
        refine lv_istore (lv' := [(10, .int 0), (9, .int (L 100)), (0, .ref (ad 0)), (1, .int (L 1)), (2, .int (L 2)), (3, .int (L 3)), (4, .int (L 4)), (5, .int (L 5)), (6, .int (L 6)), (7, .int (L 7)), (8, .int (L 8))]) hx hb d_Mod_giveText_111 hl (by decide) rfl (fun ls hl => ?_)
        exact (ih.2.2.2.2.1) S (upd (upd L 9 (L 100)) 10 (0 : Int32)) M ls H locs h (lv_sub hl [2, 3, 4, 5, 6, 7, 8, 9, 10, 1, 0] rfl) hP hD hS
    · intro S L M ls H locs h hl hP hD hS
      simp only [f_Mod_giveText] at h
      refine lv_iload hx hb d_Mod_giveText_113 (lv_at hl 10 rfl) ?_
      refine lv_iload_n hx hb d_Mod_giveText_115 rfl (lv_at hl 3 rfl) ?_
      refine lv_icmp_ge (tgt := 138) hx hb d_Mod_giveText_116 (by decide) (fun hc1 => ?_) (fun hc1 => ?_)
      · rw [if_pos hc1] at h
        refine lv_goto (tgt := 257) hx hb d_Mod_giveText_138 (by decide) ?_
        exact (ih.2.2.2.2.2.2.2.2.2.1) S L M ls H locs h (lv_sub hl [0, 1, 2, 3, 4, 5, 6, 7, 8, 9] rfl) hP hD hS
      · rw [if_neg hc1] at h
        refine lv_aload_n hx hb d_Mod_giveText_119 rfl (lv_at hl 0 rfl) ?_
        refine lv_aload_n hx hb d_Mod_giveText_120 rfl (lv_at hl 0 rfl) ?_
        refine S_getR (h := shM) (C := "MacroMillModel") (T := F_Mod) hx hb htt in_Mod hown hK hP 0 48 rfl 20 rfl rfl (by decide) (htt _ k_2284) (fun _ h9 => h9) d_Mod_giveText_121 ?_
        refine lv_iload_n hx hb d_Mod_giveText_124 rfl (lv_at hl 2 rfl) ?_
        refine lv_iload hx hb d_Mod_giveText_125 (lv_at hl 10 rfl) ?_
        refine lv_iadd hx hb d_Mod_giveText_127 ?_
        obtain ⟨hv2, h⟩ := chk h
        refine S_bald (h := shM) (i := (L 2) + (L 10)) hx hb hK hP 19 rfl (okI_in hv2) d_Mod_giveText_128 ?_
        obtain ⟨⟨r3, T3⟩, hq3, h⟩ := Option.bind_eq_some_iff.mp h
        try dsimp only at h
        refine go_vS (As := [.ref (ad 0), .int (S.2.1 19 ((L 2) + (L 10) : Int32).toNatClampNeg)]) (g := g) (A := A) (h := shM) hP hK hD hS hA hN (fun hp => va_runV (As := [.int (S.2.1 19 ((L 2) + (L 10) : Int32).toNatClampNeg)]) (rest := []) ⟨hx, hb, hml, hown, htt⟩ (t_Mod_give l g _ ad S (S.2.1 19 ((L 2) + (L 10) : Int32).toNatClampNeg : Int32) k9 r3 T3 hq3) ⟨(cb_L htt k_2824 k_276 k_2821 hd_Mod_give ⟨(Nat.le_trans (by decide +kernel) hRf), (Nat.le_trans (by decide +kernel) hRl)⟩), htt _ k_2823, htt _ k_150⟩ ⟨hp.1, S_recv hK hP 0 rfl rfl, hp.2⟩ rfl rfl hl.1 rfl (lv_room (Nat.le_of_ble_eq_true rfl)) d_Mod_giveText_129 ⟨hRc, hRs⟩) (fun Sn H locs hw9 hP hD hS => ?_)
        have e8 := hw9
        rw [e8] at hP hD
        refine W.widen (k := cells) (n := slots) (Nat.le_refl _) (Nat.le_refl _) ?_
        refine lv_iinc (k := 10) (v := (L 10) + 1) (lv' := [(10, .int ((L 10) + 1)), (0, .ref (ad 0)), (1, .int (L 1)), (2, .int (L 2)), (3, .int (L 3)), (4, .int (L 4)), (5, .int (L 5)), (6, .int (L 6)), (7, .int (L 7)), (8, .int (L 8)), (9, .int (L 9))]) hx hb d_Mod_giveText_132 hl rfl rfl (by decide) rfl (fun ls hl => ?_)
        refine lv_goto (tgt := 113) hx hb d_Mod_giveText_135 (by decide) ?_
        exact (ih.2.2.2.2.1) T3 (upd L 10 ((L 10) + 1)) M ls H locs h (lv_sub hl [1, 2, 3, 4, 5, 6, 7, 8, 9, 10, 0] rfl) hP hD hS
    · intro S L M ls H locs h hl hP hD hS
      simp only [f_Mod_giveText] at h
      refine lv_iconst (v := 1) hx hb d_Mod_giveText_194 (by decide) ?_
      refine lv_istore (lv' := [(10, .int 1), (0, .ref (ad 0)), (1, .int (L 1)), (2, .int (L 2)), (3, .int (L 3)), (4, .int (L 4)), (5, .int (L 5)), (6, .int (L 6)), (7, .int (L 7)), (8, .int (L 8)), (9, .int (L 9))]) hx hb d_Mod_giveText_195 hl (by decide) rfl (fun ls hl => ?_)
      exact (ih.2.2.2.2.2.2.1) S (upd L 10 (1 : Int32)) M ls H locs h (lv_sub hl [1, 2, 3, 4, 5, 6, 7, 8, 9, 10, 0] rfl) hP hD hS
    · intro S L M ls H locs h hl hP hD hS
      simp only [f_Mod_giveText] at h
      refine lv_iload hx hb d_Mod_giveText_197 (lv_at hl 10 rfl) ?_
      refine lv_iload hx hb d_Mod_giveText_199 (lv_at hl 6 rfl) ?_
      refine lv_icmp_gt (tgt := 248) hx hb d_Mod_giveText_201 (by decide) (fun hc1 => ?_) (fun hc1 => ?_)
      · rw [if_pos hc1] at h
        refine lv_goto (tgt := 257) hx hb d_Mod_giveText_248 (by decide) ?_
        exact (ih.2.2.2.2.2.2.2.2.2.1) S L M ls H locs h (lv_sub hl [0, 1, 2, 3, 4, 5, 6, 7, 8, 9] rfl) hP hD hS
      · rw [if_neg hc1] at h
        refine lv_iload hx hb d_Mod_giveText_204 (lv_at hl 10 rfl) ?_
        refine lv_iconst (v := 1) hx hb d_Mod_giveText_206 (by decide) ?_
        refine lv_icmp_le (tgt := 216) hx hb d_Mod_giveText_207 (by decide) (fun hc2 => ?_) (fun hc2 => ?_)
        · rw [if_pos hc2] at h
          exact (ih.2.2.2.2.2.2.2.1) S L M ls H locs h (lv_sub hl [0, 1, 2, 3, 4, 5, 6, 7, 8, 9, 10] rfl) hP hD hS
        · rw [if_neg hc2] at h
          refine lv_aload_n hx hb d_Mod_giveText_210 rfl (lv_at hl 0 rfl) ?_
          refine lv_bipush (v := 44) hx hb d_Mod_giveText_211 (by decide) ?_
          obtain ⟨⟨r3, T3⟩, hq3, h⟩ := Option.bind_eq_some_iff.mp h
          try dsimp only at h
          refine go_vS (As := [.ref (ad 0), .int 44]) (g := g) (A := A) (h := shM) hP hK hD hS hA hN (fun hp => va_runV (As := [.int 44]) (rest := []) ⟨hx, hb, hml, hown, htt⟩ (t_Mod_give l g _ ad S (44 : Int32) k9 r3 T3 hq3) ⟨(cb_L htt k_2824 k_276 k_2821 hd_Mod_give ⟨(Nat.le_trans (by decide +kernel) hRf), (Nat.le_trans (by decide +kernel) hRl)⟩), htt _ k_2823, htt _ k_150⟩ ⟨hp.1, S_recv hK hP 0 rfl rfl, hp.2⟩ rfl rfl hl.1 rfl (lv_room (Nat.le_of_ble_eq_true rfl)) d_Mod_giveText_213 ⟨hRc, hRs⟩) (fun Sn H locs hw9 hP hD hS => ?_)
          have e8 := hw9
          rw [e8] at hP hD
          refine W.widen (k := cells) (n := slots) (Nat.le_refl _) (Nat.le_refl _) ?_
          exact (ih.2.2.2.2.2.2.2.1) T3 L M ls H locs h (lv_sub hl [0, 1, 2, 3, 4, 5, 6, 7, 8, 9, 10] rfl) hP hD hS
    · intro S L M ls H locs h hl hP hD hS
      simp only [f_Mod_giveText] at h
      refine lv_iload hx hb d_Mod_giveText_216 (lv_at hl 9 rfl) ?_
      refine lv_bipush (v := 42) hx hb d_Mod_giveText_218 (by decide) ?_
      refine lv_icmp_ne (tgt := 234) hx hb d_Mod_giveText_220 (by decide) (fun hc1 => ?_) (fun hc1 => ?_)
      · rw [if_neg hc1] at h
        refine lv_aload_n hx hb d_Mod_giveText_234 rfl (lv_at hl 0 rfl) ?_
        refine lv_iload hx hb d_Mod_giveText_235 (lv_at hl 4 rfl) ?_
        refine lv_iload hx hb d_Mod_giveText_237 (lv_at hl 10 rfl) ?_
        obtain ⟨⟨r2, T2⟩, hq2, h⟩ := Option.bind_eq_some_iff.mp h
        try dsimp only at h
        refine go_vS (As := [.ref (ad 0), .int (L 4), .int (L 10)]) (g := g) (A := A) (h := shM) hP hK hD hS hA hN (fun hp => va_runV (As := [.int (L 4), .int (L 10)]) (rest := []) ⟨hx, hb, hml, hown, htt⟩ (t_Mod_giveQuotedArgument l g _ ad S (L 4 : Int32) (L 10 : Int32) k9 r2 T2 hq2) ⟨(cb_L htt k_2851 k_276 k_2848 hd_Mod_giveQuotedArgument ⟨(Nat.le_trans (by decide +kernel) hRf), (Nat.le_trans (by decide +kernel) hRl)⟩), htt _ k_2850, htt _ k_156⟩ ⟨hp.1, S_recv hK hP 0 rfl rfl, hp.2⟩ rfl rfl hl.1 rfl (lv_room (Nat.le_of_ble_eq_true rfl)) d_Mod_giveText_239 ⟨hRc, hRs⟩) (fun Sn H locs hw9 hP hD hS => ?_)
        have e8 := hw9
        rw [e8] at hP hD
        refine W.widen (k := cells) (n := slots) (Nat.le_refl _) (Nat.le_refl _) ?_
        exact (ih.2.2.2.2.2.2.2.2.1) T2 L M ls H locs h (lv_sub hl [0, 1, 2, 3, 4, 5, 6, 7, 8, 9, 10] rfl) hP hD hS
      · rw [if_pos hc1] at h
        refine lv_aload_n hx hb d_Mod_giveText_223 rfl (lv_at hl 0 rfl) ?_
        refine lv_iload hx hb d_Mod_giveText_224 (lv_at hl 4 rfl) ?_
        refine lv_iload hx hb d_Mod_giveText_226 (lv_at hl 10 rfl) ?_
        obtain ⟨⟨r3, T3⟩, hq3, h⟩ := Option.bind_eq_some_iff.mp h
        try dsimp only at h
        refine go_vS (As := [.ref (ad 0), .int (L 4), .int (L 10)]) (g := g) (A := A) (h := shM) hP hK hD hS hA hN (fun hp => va_runV (As := [.int (L 4), .int (L 10)]) (rest := []) ⟨hx, hb, hml, hown, htt⟩ (t_Mod_giveArgument l g _ ad S (L 4 : Int32) (L 10 : Int32) k9 r3 T3 hq3) ⟨(cb_L htt k_2832 k_276 k_2829 hd_Mod_giveArgument ⟨(Nat.le_trans (by decide +kernel) hRf), (Nat.le_trans (by decide +kernel) hRl)⟩), htt _ k_2831, htt _ k_152⟩ ⟨hp.1, S_recv hK hP 0 rfl rfl, hp.2⟩ rfl rfl hl.1 rfl (lv_room (Nat.le_of_ble_eq_true rfl)) d_Mod_giveText_228 ⟨hRc, hRs⟩) (fun Sn H locs hw9 hP hD hS => ?_)
        have e8 := hw9
        rw [e8] at hP hD
        refine W.widen (k := cells) (n := slots) (Nat.le_refl _) (Nat.le_refl _) ?_
        refine lv_goto (tgt := 242) hx hb d_Mod_giveText_231 (by decide) ?_
        exact (ih.2.2.2.2.2.2.2.2.1) T3 L M ls H locs h (lv_sub hl [0, 1, 2, 3, 4, 5, 6, 7, 8, 9, 10] rfl) hP hD hS
    · intro S L M ls H locs h hl hP hD hS
      simp only [f_Mod_giveText] at h
      refine lv_iinc (k := 10) (v := (L 10) + 1) (lv' := [(10, .int ((L 10) + 1)), (0, .ref (ad 0)), (1, .int (L 1)), (2, .int (L 2)), (3, .int (L 3)), (4, .int (L 4)), (5, .int (L 5)), (6, .int (L 6)), (7, .int (L 7)), (8, .int (L 8)), (9, .int (L 9))]) hx hb d_Mod_giveText_242 hl rfl rfl (by decide) rfl (fun ls hl => ?_)
      refine lv_goto (tgt := 197) hx hb d_Mod_giveText_245 (by decide) ?_
      exact (ih.2.2.2.2.2.2.1) S (upd L 10 ((L 10) + 1)) M ls H locs h (lv_sub hl [1, 2, 3, 4, 5, 6, 7, 8, 9, 10, 0] rfl) hP hD hS
    · intro S L M ls H locs h hl hP hD hS
      simp only [f_Mod_giveText] at h
      refine lv_iload hx hb d_Mod_giveText_257 (lv_at hl 9 rfl) ?_
      obtain ⟨⟨r1, T1⟩, hq1, h⟩ := Option.bind_eq_some_iff.mp h
      try dsimp only at h
      refine go_iS (As := [.int (L 9)]) (g := g) (A := A) (h := shM) hP hK hD hS hA hN (fun hp => va_runS (As := [.int (L 9)]) (rest := []) ⟨hx, hb, hml, hown, htt⟩ (t_Mod_isDigit l g _ ad S (L 9 : Int32) k9 r1 T1 hq1) ⟨(cb_L htt k_2777 k_276 k_2775 hd_Mod_isDigit ⟨(Nat.le_trans (by decide +kernel) hRf), (Nat.le_trans (by decide +kernel) hRl)⟩), htt _ k_2776⟩ hp rfl rfl hl.1 rfl (lv_room (Nat.le_of_ble_eq_true rfl)) d_Mod_giveText_259 ⟨hRc, hRs⟩) (fun r0 Sn H locs hw9 hP hD hS => ?_)
      obtain ⟨e9, e8⟩ := hw9
      rw [e8] at hP hD
      refine W.widen (k := cells) (n := slots) (Nat.le_refl _) (Nat.le_refl _) ?_
      refine toI (y := r1) e9 ?_
      refine lv_if_ne (tgt := 286) hx hb d_Mod_giveText_262 (by decide) (fun hc2 => ?_) (fun hc2 => ?_)
      · rw [if_neg hc2] at h
        exact (ih.2.2.2.2.2.2.2.2.2.2.1) T1 L M ls H locs h (lv_sub hl [0, 1, 2, 3, 4, 5, 6, 7, 8, 9] rfl) hP hD hS
      · rw [if_pos hc2] at h
        refine lv_iload hx hb d_Mod_giveText_265 (lv_at hl 9 rfl) ?_
        refine lv_bipush (v := 35) hx hb d_Mod_giveText_267 (by decide) ?_
        refine lv_icmp_eq (tgt := 286) hx hb d_Mod_giveText_269 (by decide) (fun hc3 => ?_) (fun hc3 => ?_)
        · rw [if_pos hc3] at h
          exact (ih.2.2.2.2.2.2.2.2.2.2.1) T1 L M ls H locs h (lv_sub hl [0, 1, 2, 3, 4, 5, 6, 7, 8, 9] rfl) hP hD hS
        · rw [if_neg hc3] at h
          refine lv_iload hx hb d_Mod_giveText_272 (lv_at hl 9 rfl) ?_
          refine lv_bipush (v := 42) hx hb d_Mod_giveText_274 (by decide) ?_
          refine lv_icmp_eq (tgt := 286) hx hb d_Mod_giveText_276 (by decide) (fun hc4 => ?_) (fun hc4 => ?_)
          · rw [if_pos hc4] at h
            exact (ih.2.2.2.2.2.2.2.2.2.2.1) T1 L M ls H locs h (lv_sub hl [0, 1, 2, 3, 4, 5, 6, 7, 8, 9] rfl) hP hD hS
          · rw [if_neg hc4] at h
            refine lv_iload hx hb d_Mod_giveText_279 (lv_at hl 9 rfl) ?_
            refine lv_bipush (v := 64) hx hb d_Mod_giveText_281 (by decide) ?_
            refine lv_icmp_ne (tgt := 293) hx hb d_Mod_giveText_283 (by decide) (fun hc5 => ?_) (fun hc5 => ?_)
            · rw [if_neg hc5] at h
              refine lv_iload hx hb d_Mod_giveText_293 (lv_at hl 7 rfl) ?_
              exact (ih.2.2.2.2.2.2.2.2.2.2.2.1) T1 (upd L 100 (L 7)) M ls H locs h (lv_sub hl [0, 1, 2, 3, 4, 5, 6, 7, 8, 9] rfl) hP hD hS
            · rw [if_pos hc5] at h
              exact (ih.2.2.2.2.2.2.2.2.2.2.1) T1 L M ls H locs h (lv_sub hl [0, 1, 2, 3, 4, 5, 6, 7, 8, 9] rfl) hP hD hS
    · intro S L M ls H locs h hl hP hD hS
      simp only [f_Mod_giveText] at h
      refine lv_iload hx hb d_Mod_giveText_286 (lv_at hl 7 rfl) ?_
      refine lv_iconst (v := 1) hx hb d_Mod_giveText_288 (by decide) ?_
      refine lv_iadd hx hb d_Mod_giveText_289 ?_
      refine lv_goto (tgt := 295) hx hb d_Mod_giveText_290 (by decide) ?_
      exact (ih.2.2.2.2.2.2.2.2.2.2.2.1) S (upd L 100 ((L 7) + (1 : Int32))) M ls H locs h (lv_sub hl [0, 1, 2, 3, 4, 5, 6, 7, 8, 9] rfl) hP hD hS
    · intro S L M ls H locs h hl hP hD hS
      simp only [f_Mod_giveText] at h
      refine lv_istore (lv' := [(7, .int (L 100)), (0, .ref (ad 0)), (1, .int (L 1)), (2, .int (L 2)), (3, .int (L 3)), (4, .int (L 4)), (5, .int (L 5)), (6, .int (L 6)), (8, .int (L 8)), (9, .int (L 9))]) hx hb d_Mod_giveText_295 hl (by decide) rfl (fun ls hl => ?_)
      refine lv_iinc (k := 0) (v := (L 100) + 1) (lv' := [(7, .int ((L 100) + 1)), (0, .ref (ad 0)), (1, .int (L 1)), (2, .int (L 2)), (3, .int (L 3)), (4, .int (L 4)), (5, .int (L 5)), (6, .int (L 6)), (8, .int (L 8)), (9, .int (L 9))]) hx hb d_Mod_giveText_297 hl rfl rfl (by decide) rfl (fun ls hl => ?_)
      refine lv_goto (tgt := 27) hx hb d_Mod_giveText_300 (by decide) ?_
      exact (ih.2.1) S (upd L 7 ((L 100) + 1)) M ls H locs h (lv_sub hl [1, 2, 3, 4, 5, 6, 7, 0] rfl) hP hD hS
    · intro S L M ls H locs h hl hP hD hS
      simp only [f_Mod_giveText] at h
      cases h
      exact kx_303 ls H locs hP hD hS
abbrev rm_t_Mod_giveText : Room := { frames := 5, cells := 0, slots := 0, locals := 112 }
theorem t_Mod_giveText (l : Launch) (g : gG) (sz : Nat) (ad : Nat → Nat) (S : sS) (v1 : Int32) (v2 : Int32) (v3 : Int32) (v4 : Int32) (k : Nat) (r : Int32) (S9 : sS) (h : f_Mod_giveText k 0 S (upd (upd (upd (upd (fun _ => 0) 1 v1) 2 v2) 3 v3) 4 v4) (fun _ => 0) = some (r, S9)) : Cv l y_Mod_giveText b_Mod_giveText 11 rm_t_Mod_giveText g [.ref (ad 0), .int v1, .int v2, .int v3, .int v4] (Sw shM g ad S) sz (fun w => ∃ S1 : sS, w = Sw shM g ad S1 ∧ S1 = S9) := by
  refine startV (by decide) (Nat.le_of_ble_eq_true rfl) ?_
  intro p e s m below meth c A ls hx hb hr hml hlocks hmn hown htt hN hA hP hK hD hS hl
  exact (w_Mod_giveText hx hb hml hown htt hK hN hA (by decide +kernel) (by decide +kernel) (by decide +kernel) (by decide +kernel) r S9 (fun ls H locs hP hD hS => fin_v (g := g) (ws := Sw shM g ad S9) hx hb hr hlocks (by decide +kernel) (by decide +kernel) hP hD hS ⟨_, rfl, rfl⟩ d_Mod_giveText_303) k).1 S (upd (upd (upd (upd (fun _ => 0) 1 v1) 2 v2) 3 v3) 4 v4) (fun _ => 0) ls _ _ h hl hP hD hS
def f_Mod_isNameArgument : Nat → Nat → sS → (Nat → Int32) → (Nat → Int64) → Option (Int32 × sS)
  | 0, _, _, _, _ => none
  | k + 1, 0, S, L, M => (f_Mod_argumentSize k 0 S (upd (upd (fun _ => 0) 1 (L 1 : Int32)) 2 (1 : Int32)) (fun _ => 0)).bind (fun (r1, T1) => (f_Mod_argumentAt k 0 T1 (upd (upd (fun _ => 0) 1 (L 1 : Int32)) 2 (1 : Int32)) (fun _ => 0)).bind (fun (r2, T2) => if r1 ≤ (0 : Int32) then (f_Mod_isNameArgument k 1 T2 (upd (upd L 2 r1) 3 r2) M) else (if okI (r2) 16385 = true then ((f_Mod_isLetter k 0 T2 (upd (fun _ => 0) 0 ((T2.2.1 19 (r2 : Int32).toNatClampNeg) &&& (255 : Int32) : Int32)) (fun _ => 0)).bind (fun (r5, T5) => if r5 = (0 : Int32) then (f_Mod_isNameArgument k 1 T5 (upd (upd L 2 r1) 3 r2) M) else (f_Mod_isNameArgument k 2 T5 (upd (upd (upd L 2 r1) 3 r2) 100 (1 : Int32)) M))) else none)))
  | k + 1, 1, S, L, M => f_Mod_isNameArgument k 2 S (upd L 100 (0 : Int32)) M
  | k + 1, 2, S, L, M => f_Mod_isNameArgument k 3 S (upd (upd L 4 (L 100)) 5 (1 : Int32)) M
  | k + 1, 3, S, L, M => if (L 2) ≤ (L 5) then (f_Mod_isNameArgument k 6 S L M) else (if (L 4) = (0 : Int32) then (f_Mod_isNameArgument k 6 S L M) else (if okI ((L 3) + (L 5)) 16385 = true then ((f_Mod_isLetter k 0 S (upd (fun _ => 0) 0 ((S.2.1 19 ((L 3) + (L 5) : Int32).toNatClampNeg) &&& (255 : Int32) : Int32)) (fun _ => 0)).bind (fun (r4, T4) => if r4 = (0 : Int32) then (if okI ((L 3) + (L 5)) 16385 = true then ((f_Mod_isDigit k 0 T4 (upd (fun _ => 0) 0 ((T4.2.1 19 ((L 3) + (L 5) : Int32).toNatClampNeg) &&& (255 : Int32) : Int32)) (fun _ => 0)).bind (fun (r7, T7) => if r7 = (0 : Int32) then (f_Mod_isNameArgument k 5 T7 (upd L 100 (0 : Int32)) M) else (f_Mod_isNameArgument k 4 T7 L M))) else none) else (f_Mod_isNameArgument k 4 T4 L M))) else none))
  | k + 1, 4, S, L, M => f_Mod_isNameArgument k 5 S (upd L 100 (1 : Int32)) M
  | k + 1, 5, S, L, M => f_Mod_isNameArgument k 3 S (upd (upd L 4 (L 100)) 5 ((L 5) + 1)) M
  | k + 1, 6, S, L, M => if bz (L 4) = true then some (L 4, S) else none
  | _ + 1, _ + 7, _, _, _ => none
set_option maxHeartbeats 8000000 in
set_option maxRecDepth 100000 in
theorem w_Mod_isNameArgument {p : Program} {l : Launch} {e : Env} {R : Room} {s : State} {m : MethodId} {args : Array Value} {below : List Frame} {meth : Method} {c : Code} {cells slots : Nat} {Q : State → Prop} {g : gG} {A : Nat → Prop} {ad : Nat → Nat} (hx : p.tables.exec = Jvm.exec) (hb : c.code = b_Mod_isNameArgument) (hml : c.maxLocals = 6) (hown : s.vm.findClass "MacroMillModel" = some m.cls) (htt : ∀ w ∈ gt, w.before args s = true) (hK : va_K g.1 classes (tysG g) s) (hN : nw s) (hA : ∀ q : Nat, s.heap.size ≤ q → A q) (hRf : 1 ≤ R.frames) (hRl : 22 ≤ R.locals) (hRc : cells ≤ R.cells) (hRs : slots ≤ R.slots) (r : Int32) (S9 : sS)
    (kx_108 : ∀ (ls : Array Slot) (H : Heap) (locs : List Loc), narrow .boolean (.int r) = .int r → va_P g.1 classes (Sw shM g ad S9) H → va_D A (Sw shM g ad S9) → va_S A s.heap H locs → W p l e R s m args below meth c H locs cells slots Q (F0 m 108 ls [.int r])) :
    ∀ k9 : Nat, (∀ (S : sS) (L : Nat → Int32) (M : Nat → Int64) (ls : Array Slot) (H : Heap) (locs : List Loc), f_Mod_isNameArgument k9 0 S L M = some (r, S9) → lv_has ls 6 [(0, .ref (ad 0)), (1, .int (L 1))] → va_P g.1 classes (Sw shM g ad S) H → va_D A (Sw shM g ad S) → va_S A s.heap H locs → W p l e R s m args below meth c H locs cells slots Q (F0 m 0 ls [])) ∧ (∀ (S : sS) (L : Nat → Int32) (M : Nat → Int64) (ls : Array Slot) (H : Heap) (locs : List Loc), f_Mod_isNameArgument k9 1 S L M = some (r, S9) → lv_has ls 6 [(0, .ref (ad 0)), (1, .int (L 1)), (2, .int (L 2)), (3, .int (L 3))] → va_P g.1 classes (Sw shM g ad S) H → va_D A (Sw shM g ad S) → va_S A s.heap H locs → W p l e R s m args below meth c H locs cells slots Q (F0 m 38 ls [])) ∧ (∀ (S : sS) (L : Nat → Int32) (M : Nat → Int64) (ls : Array Slot) (H : Heap) (locs : List Loc), f_Mod_isNameArgument k9 2 S L M = some (r, S9) → lv_has ls 6 [(0, .ref (ad 0)), (1, .int (L 1)), (2, .int (L 2)), (3, .int (L 3))] → va_P g.1 classes (Sw shM g ad S) H → va_D A (Sw shM g ad S) → va_S A s.heap H locs → W p l e R s m args below meth c H locs cells slots Q (F0 m 39 ls [.int (L 100)])) ∧ (∀ (S : sS) (L : Nat → Int32) (M : Nat → Int64) (ls : Array Slot) (H : Heap) (locs : List Loc), f_Mod_isNameArgument k9 3 S L M = some (r, S9) → lv_has ls 6 [(0, .ref (ad 0)), (1, .int (L 1)), (2, .int (L 2)), (3, .int (L 3)), (4, .int (L 4)), (5, .int (L 5))] → va_P g.1 classes (Sw shM g ad S) H → va_D A (Sw shM g ad S) → va_S A s.heap H locs → W p l e R s m args below meth c H locs cells slots Q (F0 m 44 ls [])) ∧ (∀ (S : sS) (L : Nat → Int32) (M : Nat → Int64) (ls : Array Slot) (H : Heap) (locs : List Loc), f_Mod_isNameArgument k9 4 S L M = some (r, S9) → lv_has ls 6 [(0, .ref (ad 0)), (1, .int (L 1)), (2, .int (L 2)), (3, .int (L 3)), (4, .int (L 4)), (5, .int (L 5))] → va_P g.1 classes (Sw shM g ad S) H → va_D A (Sw shM g ad S) → va_S A s.heap H locs → W p l e R s m args below meth c H locs cells slots Q (F0 m 93 ls [])) ∧ (∀ (S : sS) (L : Nat → Int32) (M : Nat → Int64) (ls : Array Slot) (H : Heap) (locs : List Loc), f_Mod_isNameArgument k9 5 S L M = some (r, S9) → lv_has ls 6 [(0, .ref (ad 0)), (1, .int (L 1)), (2, .int (L 2)), (3, .int (L 3)), (4, .int (L 4)), (5, .int (L 5))] → va_P g.1 classes (Sw shM g ad S) H → va_D A (Sw shM g ad S) → va_S A s.heap H locs → W p l e R s m args below meth c H locs cells slots Q (F0 m 98 ls [.int (L 100)])) ∧ (∀ (S : sS) (L : Nat → Int32) (M : Nat → Int64) (ls : Array Slot) (H : Heap) (locs : List Loc), f_Mod_isNameArgument k9 6 S L M = some (r, S9) → lv_has ls 6 [(0, .ref (ad 0)), (1, .int (L 1)), (2, .int (L 2)), (3, .int (L 3)), (4, .int (L 4)), (5, .int (L 5))] → va_P g.1 classes (Sw shM g ad S) H → va_D A (Sw shM g ad S) → va_S A s.heap H locs → W p l e R s m args below meth c H locs cells slots Q (F0 m 106 ls [])) := by
  intro k9
  induction k9 with
  | zero => exact ⟨(fun _ _ _ _ _ _ h => by simp [f_Mod_isNameArgument] at h), (fun _ _ _ _ _ _ h => by simp [f_Mod_isNameArgument] at h), (fun _ _ _ _ _ _ h => by simp [f_Mod_isNameArgument] at h), (fun _ _ _ _ _ _ h => by simp [f_Mod_isNameArgument] at h), (fun _ _ _ _ _ _ h => by simp [f_Mod_isNameArgument] at h), (fun _ _ _ _ _ _ h => by simp [f_Mod_isNameArgument] at h), (fun _ _ _ _ _ _ h => by simp [f_Mod_isNameArgument] at h)⟩
  | succ k9 ih =>
    refine ⟨?_, ?_, ?_, ?_, ?_, ?_, ?_⟩
    · intro S L M ls H locs h hl hP hD hS
      simp only [f_Mod_isNameArgument] at h
      refine lv_aload_n hx hb d_Mod_isNameArgument_0 rfl (lv_at hl 0 rfl) ?_
      refine lv_iload_n hx hb d_Mod_isNameArgument_1 rfl (lv_at hl 1 rfl) ?_
      refine lv_iconst (v := 1) hx hb d_Mod_isNameArgument_2 (by decide) ?_
      obtain ⟨⟨r1, T1⟩, hq1, h⟩ := Option.bind_eq_some_iff.mp h
      try dsimp only at h
      refine go_iS (As := [.ref (ad 0), .int (L 1), .int 1]) (g := g) (A := A) (h := shM) hP hK hD hS hA hN (fun hp => va_runV (As := [.int (L 1), .int 1]) (rest := []) ⟨hx, hb, hml, hown, htt⟩ (t_Mod_argumentSize l g _ ad S (L 1 : Int32) (1 : Int32) k9 r1 T1 hq1) ⟨(cb_L htt k_2840 k_276 k_2837 hd_Mod_argumentSize ⟨(Nat.le_trans (by decide +kernel) hRf), (Nat.le_trans (by decide +kernel) hRl)⟩), htt _ k_2839, htt _ k_154⟩ ⟨hp.1, S_recv hK hP 0 rfl rfl, hp.2⟩ rfl rfl hl.1 rfl (lv_room (Nat.le_of_ble_eq_true rfl)) d_Mod_isNameArgument_3 ⟨hRc, hRs⟩) (fun r0 Sn H locs hw9 hP hD hS => ?_)
      obtain ⟨e9, e8⟩ := hw9
      rw [e8] at hP hD
      refine W.widen (k := cells) (n := slots) (Nat.le_refl _) (Nat.le_refl _) ?_
      refine toI (y := r1) e9 ?_
      refine lv_istore_n (lv' := [(2, .int r1), (0, .ref (ad 0)), (1, .int (L 1))]) hx hb d_Mod_isNameArgument_6 rfl hl (by decide) rfl (fun ls hl => ?_)
      refine lv_aload_n hx hb d_Mod_isNameArgument_7 rfl (lv_at hl 1 rfl) ?_
      refine lv_iload_n hx hb d_Mod_isNameArgument_8 rfl (lv_at hl 2 rfl) ?_
      refine lv_iconst (v := 1) hx hb d_Mod_isNameArgument_9 (by decide) ?_
      obtain ⟨⟨r2, T2⟩, hq2, h⟩ := Option.bind_eq_some_iff.mp h
      try dsimp only at h
      refine go_iS (As := [.ref (ad 0), .int (L 1), .int 1]) (g := g) (A := A) (h := shM) hP hK hD hS hA hN (fun hp => va_runV (As := [.int (L 1), .int 1]) (rest := []) ⟨hx, hb, hml, hown, htt⟩ (t_Mod_argumentAt l g _ ad T1 (L 1 : Int32) (1 : Int32) k9 r2 T2 hq2) ⟨(cb_L htt k_2836 k_276 k_2833 hd_Mod_argumentAt ⟨(Nat.le_trans (by decide +kernel) hRf), (Nat.le_trans (by decide +kernel) hRl)⟩), htt _ k_2835, htt _ k_153⟩ ⟨hp.1, S_recv hK hP 0 rfl rfl, hp.2⟩ rfl rfl hl.1 rfl (lv_room (Nat.le_of_ble_eq_true rfl)) d_Mod_isNameArgument_10 ⟨hRc, hRs⟩) (fun r0 Sn H locs hw9 hP hD hS => ?_)
      obtain ⟨e9, e8⟩ := hw9
      rw [e8] at hP hD
      refine W.widen (k := cells) (n := slots) (Nat.le_refl _) (Nat.le_refl _) ?_
      refine toI (y := r2) e9 ?_
      refine lv_istore_n (lv' := [(3, .int r2), (2, .int r1), (0, .ref (ad 0)), (1, .int (L 1))]) hx hb d_Mod_isNameArgument_13 rfl hl (by decide) rfl (fun ls hl => ?_)
      refine lv_iload_n hx hb d_Mod_isNameArgument_14 rfl (lv_at hl 1 rfl) ?_
      refine lv_if_le (tgt := 38) hx hb d_Mod_isNameArgument_15 (by decide) (fun hc3 => ?_) (fun hc3 => ?_)
      · rw [if_pos hc3] at h
        exact (ih.2.1) T2 (upd (upd L 2 r1) 3 r2) M ls H locs h (lv_sub hl [2, 3, 1, 0] rfl) hP hD hS
      · rw [if_neg hc3] at h
        refine lv_aload_n hx hb d_Mod_isNameArgument_18 rfl (lv_at hl 2 rfl) ?_
        refine S_getR (h := shM) (C := "MacroMillModel") (T := F_Mod) hx hb htt in_Mod hown hK hP 0 48 rfl 20 rfl rfl (by decide) (htt _ k_2284) (fun _ h9 => h9) d_Mod_isNameArgument_19 ?_
        show W _ _ _ _ _ _ _ _ _ _ _ _ _ _ _ (F0 _ 22 _ _)
        refine lv_iload_n hx hb d_Mod_isNameArgument_22 rfl (lv_at hl 0 rfl) ?_
        obtain ⟨hv4, h⟩ := chk h
        refine S_bald (h := shM) (i := r2) hx hb hK hP 19 rfl (okI_in hv4) d_Mod_isNameArgument_23 ?_
        refine lv_sipush (v := 255) hx hb d_Mod_isNameArgument_24 (by decide) ?_
        refine lv_iand hx hb d_Mod_isNameArgument_27 ?_
        obtain ⟨⟨r5, T5⟩, hq5, h⟩ := Option.bind_eq_some_iff.mp h
        try dsimp only at h
        refine go_iS (As := [.int ((T2.2.1 19 (r2 : Int32).toNatClampNeg) &&& (255 : Int32))]) (g := g) (A := A) (h := shM) hP hK hD hS hA hN (fun hp => va_runS (As := [.int ((T2.2.1 19 (r2 : Int32).toNatClampNeg) &&& (255 : Int32))]) (rest := []) ⟨hx, hb, hml, hown, htt⟩ (t_Mod_isLetter l g _ ad T2 ((T2.2.1 19 (r2 : Int32).toNatClampNeg) &&& (255 : Int32) : Int32) k9 r5 T5 hq5) ⟨(cb_L htt k_2774 k_276 k_2772 hd_Mod_isLetter ⟨(Nat.le_trans (by decide +kernel) hRf), (Nat.le_trans (by decide +kernel) hRl)⟩), htt _ k_2773⟩ hp rfl rfl hl.1 rfl (lv_room (Nat.le_of_ble_eq_true rfl)) d_Mod_isNameArgument_28 ⟨hRc, hRs⟩) (fun r0 Sn H locs hw9 hP hD hS => ?_)
        obtain ⟨e9, e8⟩ := hw9
        rw [e8] at hP hD
        refine W.widen (k := cells) (n := slots) (Nat.le_refl _) (Nat.le_refl _) ?_
        refine toI (y := r5) e9 ?_
        refine lv_if_eq (tgt := 38) hx hb d_Mod_isNameArgument_31 (by decide) (fun hc6 => ?_) (fun hc6 => ?_)
        · rw [if_pos hc6] at h
          exact (ih.2.1) T5 (upd (upd L 2 r1) 3 r2) M ls H locs h (lv_sub hl [2, 3, 1, 0] rfl) hP hD hS
        · rw [if_neg hc6] at h
          refine lv_iconst (v := 1) hx hb d_Mod_isNameArgument_34 (by decide) ?_
          refine lv_goto (tgt := 39) hx hb d_Mod_isNameArgument_35 (by decide) ?_
          exact (ih.2.2.1) T5 (upd (upd (upd L 2 r1) 3 r2) 100 (1 : Int32)) M ls H locs h (lv_sub hl [2, 3, 1, 0] rfl) hP hD hS
    · intro S L M ls H locs h hl hP hD hS
      simp only [f_Mod_isNameArgument] at h
      refine lv_iconst (v := 0) hx hb d_Mod_isNameArgument_38 (by decide) ?_
      exact (ih.2.2.1) S (upd L 100 (0 : Int32)) M ls H locs h (lv_sub hl [0, 1, 2, 3] rfl) hP hD hS
    · intro S L M ls H locs h hl hP hD hS
      simp only [f_Mod_isNameArgument] at h
      refine lv_istore (lv' := [(4, .int (L 100)), (0, .ref (ad 0)), (1, .int (L 1)), (2, .int (L 2)), (3, .int (L 3))]) hx hb d_Mod_isNameArgument_39 hl (by decide) rfl (fun ls hl => ?_)
      refine lv_iconst (v := 1) hx hb d_Mod_isNameArgument_41 (by decide) ?_
      refine lv_istore (lv' := [(5, .int 1), (4, .int (L 100)), (0, .ref (ad 0)), (1, .int (L 1)), (2, .int (L 2)), (3, .int (L 3))]) hx hb d_Mod_isNameArgument_42 hl (by decide) rfl (fun ls hl => ?_)
      exact (ih.2.2.2.1) S (upd (upd L 4 (L 100)) 5 (1 : Int32)) M ls H locs h (lv_sub hl [2, 3, 4, 5, 1, 0] rfl) hP hD hS
    · intro S L M ls H locs h hl hP hD hS
      simp only [f_Mod_isNameArgument] at h
      refine lv_iload hx hb d_Mod_isNameArgument_44 (lv_at hl 5 rfl) ?_
      refine lv_iload_n hx hb d_Mod_isNameArgument_46 rfl (lv_at hl 2 rfl) ?_
      refine lv_icmp_ge (tgt := 106) hx hb d_Mod_isNameArgument_47 (by decide) (fun hc1 => ?_) (fun hc1 => ?_)
      · rw [if_pos hc1] at h
        exact (ih.2.2.2.2.2.2) S L M ls H locs h (lv_sub hl [0, 1, 2, 3, 4, 5] rfl) hP hD hS
      · rw [if_neg hc1] at h
        refine lv_iload hx hb d_Mod_isNameArgument_50 (lv_at hl 4 rfl) ?_
        refine lv_if_eq (tgt := 106) hx hb d_Mod_isNameArgument_52 (by decide) (fun hc2 => ?_) (fun hc2 => ?_)
        · rw [if_pos hc2] at h
          exact (ih.2.2.2.2.2.2) S L M ls H locs h (lv_sub hl [0, 1, 2, 3, 4, 5] rfl) hP hD hS
        · rw [if_neg hc2] at h
          refine lv_aload_n hx hb d_Mod_isNameArgument_55 rfl (lv_at hl 0 rfl) ?_
          refine S_getR (h := shM) (C := "MacroMillModel") (T := F_Mod) hx hb htt in_Mod hown hK hP 0 48 rfl 20 rfl rfl (by decide) (htt _ k_2284) (fun _ h9 => h9) d_Mod_isNameArgument_56 ?_
          refine lv_iload_n hx hb d_Mod_isNameArgument_59 rfl (lv_at hl 3 rfl) ?_
          refine lv_iload hx hb d_Mod_isNameArgument_60 (lv_at hl 5 rfl) ?_
          refine lv_iadd hx hb d_Mod_isNameArgument_62 ?_
          obtain ⟨hv3, h⟩ := chk h
          refine S_bald (h := shM) (i := (L 3) + (L 5)) hx hb hK hP 19 rfl (okI_in hv3) d_Mod_isNameArgument_63 ?_
          refine lv_sipush (v := 255) hx hb d_Mod_isNameArgument_64 (by decide) ?_
          refine lv_iand hx hb d_Mod_isNameArgument_67 ?_
          obtain ⟨⟨r4, T4⟩, hq4, h⟩ := Option.bind_eq_some_iff.mp h
          try dsimp only at h
          refine go_iS (As := [.int ((S.2.1 19 ((L 3) + (L 5) : Int32).toNatClampNeg) &&& (255 : Int32))]) (g := g) (A := A) (h := shM) hP hK hD hS hA hN (fun hp => va_runS (As := [.int ((S.2.1 19 ((L 3) + (L 5) : Int32).toNatClampNeg) &&& (255 : Int32))]) (rest := []) ⟨hx, hb, hml, hown, htt⟩ (t_Mod_isLetter l g _ ad S ((S.2.1 19 ((L 3) + (L 5) : Int32).toNatClampNeg) &&& (255 : Int32) : Int32) k9 r4 T4 hq4) ⟨(cb_L htt k_2774 k_276 k_2772 hd_Mod_isLetter ⟨(Nat.le_trans (by decide +kernel) hRf), (Nat.le_trans (by decide +kernel) hRl)⟩), htt _ k_2773⟩ hp rfl rfl hl.1 rfl (lv_room (Nat.le_of_ble_eq_true rfl)) d_Mod_isNameArgument_68 ⟨hRc, hRs⟩) (fun r0 Sn H locs hw9 hP hD hS => ?_)
          obtain ⟨e9, e8⟩ := hw9
          rw [e8] at hP hD
          refine W.widen (k := cells) (n := slots) (Nat.le_refl _) (Nat.le_refl _) ?_
          refine toI (y := r4) e9 ?_
          refine lv_if_ne (tgt := 93) hx hb d_Mod_isNameArgument_71 (by decide) (fun hc5 => ?_) (fun hc5 => ?_)
          · rw [if_neg hc5] at h
            exact (ih.2.2.2.2.1) T4 L M ls H locs h (lv_sub hl [0, 1, 2, 3, 4, 5] rfl) hP hD hS
          · rw [if_pos hc5] at h
            show W _ _ _ _ _ _ _ _ _ _ _ _ _ _ _ (F0 _ 74 _ _)
            refine lv_aload_n hx hb d_Mod_isNameArgument_74 rfl (lv_at hl 0 rfl) ?_
            refine S_getR (h := shM) (C := "MacroMillModel") (T := F_Mod) hx hb htt in_Mod hown hK hP 0 48 rfl 20 rfl rfl (by decide) (htt _ k_2284) (fun _ h9 => h9) d_Mod_isNameArgument_75 ?_
            refine lv_iload_n hx hb d_Mod_isNameArgument_78 rfl (lv_at hl 3 rfl) ?_
            refine lv_iload hx hb d_Mod_isNameArgument_79 (lv_at hl 5 rfl) ?_
            refine lv_iadd hx hb d_Mod_isNameArgument_81 ?_
            obtain ⟨hv6, h⟩ := chk h
            refine S_bald (h := shM) (i := (L 3) + (L 5)) hx hb hK hP 19 rfl (okI_in hv6) d_Mod_isNameArgument_82 ?_
            refine lv_sipush (v := 255) hx hb d_Mod_isNameArgument_83 (by decide) ?_
            refine lv_iand hx hb d_Mod_isNameArgument_86 ?_
            obtain ⟨⟨r7, T7⟩, hq7, h⟩ := Option.bind_eq_some_iff.mp h
            try dsimp only at h
            refine go_iS (As := [.int ((T4.2.1 19 ((L 3) + (L 5) : Int32).toNatClampNeg) &&& (255 : Int32))]) (g := g) (A := A) (h := shM) hP hK hD hS hA hN (fun hp => va_runS (As := [.int ((T4.2.1 19 ((L 3) + (L 5) : Int32).toNatClampNeg) &&& (255 : Int32))]) (rest := []) ⟨hx, hb, hml, hown, htt⟩ (t_Mod_isDigit l g _ ad T4 ((T4.2.1 19 ((L 3) + (L 5) : Int32).toNatClampNeg) &&& (255 : Int32) : Int32) k9 r7 T7 hq7) ⟨(cb_L htt k_2777 k_276 k_2775 hd_Mod_isDigit ⟨(Nat.le_trans (by decide +kernel) hRf), (Nat.le_trans (by decide +kernel) hRl)⟩), htt _ k_2776⟩ hp rfl rfl hl.1 rfl (lv_room (Nat.le_of_ble_eq_true rfl)) d_Mod_isNameArgument_87 ⟨hRc, hRs⟩) (fun r0 Sn H locs hw9 hP hD hS => ?_)
            obtain ⟨e9, e8⟩ := hw9
            rw [e8] at hP hD
            refine W.widen (k := cells) (n := slots) (Nat.le_refl _) (Nat.le_refl _) ?_
            refine toI (y := r7) e9 ?_
            refine lv_if_eq (tgt := 97) hx hb d_Mod_isNameArgument_90 (by decide) (fun hc8 => ?_) (fun hc8 => ?_)
            · rw [if_pos hc8] at h
              refine lv_iconst (v := 0) hx hb d_Mod_isNameArgument_97 (by decide) ?_
              exact (ih.2.2.2.2.2.1) T7 (upd L 100 (0 : Int32)) M ls H locs h (lv_sub hl [0, 1, 2, 3, 4, 5] rfl) hP hD hS
            · rw [if_neg hc8] at h
              exact (ih.2.2.2.2.1) T7 L M ls H locs h (lv_sub hl [0, 1, 2, 3, 4, 5] rfl) hP hD hS
    · intro S L M ls H locs h hl hP hD hS
      simp only [f_Mod_isNameArgument] at h
      refine lv_iconst (v := 1) hx hb d_Mod_isNameArgument_93 (by decide) ?_
      refine lv_goto (tgt := 98) hx hb d_Mod_isNameArgument_94 (by decide) ?_
      exact (ih.2.2.2.2.2.1) S (upd L 100 (1 : Int32)) M ls H locs h (lv_sub hl [0, 1, 2, 3, 4, 5] rfl) hP hD hS
    · intro S L M ls H locs h hl hP hD hS
      simp only [f_Mod_isNameArgument] at h
      refine lv_istore (lv' := [(4, .int (L 100)), (0, .ref (ad 0)), (1, .int (L 1)), (2, .int (L 2)), (3, .int (L 3)), (5, .int (L 5))]) hx hb d_Mod_isNameArgument_98 hl (by decide) rfl (fun ls hl => ?_)
      refine lv_iinc (k := 5) (v := (L 5) + 1) (lv' := [(5, .int ((L 5) + 1)), (4, .int (L 100)), (0, .ref (ad 0)), (1, .int (L 1)), (2, .int (L 2)), (3, .int (L 3))]) hx hb d_Mod_isNameArgument_100 hl rfl rfl (by decide) rfl (fun ls hl => ?_)
      refine lv_goto (tgt := 44) hx hb d_Mod_isNameArgument_103 (by decide) ?_
      exact (ih.2.2.2.1) S (upd (upd L 4 (L 100)) 5 ((L 5) + 1)) M ls H locs h (lv_sub hl [2, 3, 4, 5, 1, 0] rfl) hP hD hS
    · intro S L M ls H locs h hl hP hD hS
      simp only [f_Mod_isNameArgument] at h
      refine lv_iload hx hb d_Mod_isNameArgument_106 (lv_at hl 4 rfl) ?_
      obtain ⟨hv1, h⟩ := chk h
      cases h
      exact kx_108 ls H locs (bz_n hv1) hP hD hS
abbrev rm_t_Mod_isNameArgument : Room := { frames := 1, cells := 0, slots := 0, locals := 22 }
theorem t_Mod_isNameArgument (l : Launch) (g : gG) (sz : Nat) (ad : Nat → Nat) (S : sS) (v1 : Int32) (k : Nat) (r : Int32) (S9 : sS) (h : f_Mod_isNameArgument k 0 S (upd (fun _ => 0) 1 v1) (fun _ => 0) = some (r, S9)) : Cz l y_Mod_isNameArgument b_Mod_isNameArgument 6 rm_t_Mod_isNameArgument g [.ref (ad 0), .int v1] (Sw shM g ad S) sz (fun r1 w => ∃ S1 : sS, w = Sw shM g ad S1 ∧ r1 = r ∧ S1 = S9) := by
  refine startZ (by decide) (Nat.le_of_ble_eq_true rfl) ?_
  intro p e s m below meth c A ls hx hb hr hml hlocks hmn hown htt hN hA hP hK hD hS hl
  exact (w_Mod_isNameArgument hx hb hml hown htt hK hN hA (by decide +kernel) (by decide +kernel) (by decide +kernel) (by decide +kernel) r S9 (fun ls H locs hz hP hD hS => fin_z (g := g) (ws := Sw shM g ad S9) hx hb hr hlocks hz (by decide +kernel) (by decide +kernel) hP hD hS ⟨_, rfl, rfl, rfl⟩ d_Mod_isNameArgument_108) k).1 S (upd (fun _ => 0) 1 v1) (fun _ => 0) ls _ _ h hl hP hD hS
def f_Mod_same : Nat → Nat → sS → (Nat → Int32) → (Nat → Int64) → Option (Int32 × sS)
  | 0, _, _, _, _ => none
  | k + 1, 0, S, L, M => (f_Mod_argumentSize k 0 S (upd (upd (fun _ => 0) 1 (L 1 : Int32)) 2 (L 2 : Int32)) (fun _ => 0)).bind (fun (r1, T1) => (f_Mod_argumentSize k 0 T1 (upd (upd (fun _ => 0) 1 (L 1 : Int32)) 2 (L 3 : Int32)) (fun _ => 0)).bind (fun (r2, T2) => if r1 = r2 then (f_Mod_same k 1 T2 (upd L 100 (1 : Int32)) M) else (f_Mod_same k 1 T2 (upd L 100 (0 : Int32)) M)))
  | k + 1, 1, S, L, M => f_Mod_same k 2 S (upd (upd L 4 (L 100)) 5 (0 : Int32)) M
  | k + 1, 2, S, L, M => (f_Mod_argumentSize k 0 S (upd (upd (fun _ => 0) 1 (L 1 : Int32)) 2 (L 2 : Int32)) (fun _ => 0)).bind (fun (r1, T1) => if r1 ≤ (L 5) then (f_Mod_same k 4 T1 L M) else (if (L 4) = (0 : Int32) then (f_Mod_same k 4 T1 L M) else ((f_Mod_argumentAt k 0 T1 (upd (upd (fun _ => 0) 1 (L 1 : Int32)) 2 (L 2 : Int32)) (fun _ => 0)).bind (fun (r4, T4) => if okI (r4 + (L 5)) 16385 = true then ((f_Mod_argumentAt k 0 T4 (upd (upd (fun _ => 0) 1 (L 1 : Int32)) 2 (L 3 : Int32)) (fun _ => 0)).bind (fun (r6, T6) => if okI (r6 + (L 5)) 16385 = true then (if (T4.2.1 19 (r4 + (L 5) : Int32).toNatClampNeg) = (T6.2.1 19 (r6 + (L 5) : Int32).toNatClampNeg) then (f_Mod_same k 3 T6 (upd L 100 (1 : Int32)) M) else (f_Mod_same k 3 T6 (upd L 100 (0 : Int32)) M)) else none)) else none))))
  | k + 1, 3, S, L, M => f_Mod_same k 2 S (upd (upd L 4 (L 100)) 5 ((L 5) + 1)) M
  | k + 1, 4, S, L, M => if bz (L 4) = true then some (L 4, S) else none
  | _ + 1, _ + 5, _, _, _ => none
set_option maxHeartbeats 8000000 in
set_option maxRecDepth 100000 in
theorem w_Mod_same {p : Program} {l : Launch} {e : Env} {R : Room} {s : State} {m : MethodId} {args : Array Value} {below : List Frame} {meth : Method} {c : Code} {cells slots : Nat} {Q : State → Prop} {g : gG} {A : Nat → Prop} {ad : Nat → Nat} (hx : p.tables.exec = Jvm.exec) (hb : c.code = b_Mod_same) (hml : c.maxLocals = 6) (hown : s.vm.findClass "MacroMillModel" = some m.cls) (htt : ∀ w ∈ gt, w.before args s = true) (hK : va_K g.1 classes (tysG g) s) (hN : nw s) (hA : ∀ q : Nat, s.heap.size ≤ q → A q) (hRf : 1 ≤ R.frames) (hRl : 22 ≤ R.locals) (hRc : cells ≤ R.cells) (hRs : slots ≤ R.slots) (r : Int32) (S9 : sS)
    (kx_87 : ∀ (ls : Array Slot) (H : Heap) (locs : List Loc), narrow .boolean (.int r) = .int r → va_P g.1 classes (Sw shM g ad S9) H → va_D A (Sw shM g ad S9) → va_S A s.heap H locs → W p l e R s m args below meth c H locs cells slots Q (F0 m 87 ls [.int r])) :
    ∀ k9 : Nat, (∀ (S : sS) (L : Nat → Int32) (M : Nat → Int64) (ls : Array Slot) (H : Heap) (locs : List Loc), f_Mod_same k9 0 S L M = some (r, S9) → lv_has ls 6 [(0, .ref (ad 0)), (1, .int (L 1)), (2, .int (L 2)), (3, .int (L 3))] → va_P g.1 classes (Sw shM g ad S) H → va_D A (Sw shM g ad S) → va_S A s.heap H locs → W p l e R s m args below meth c H locs cells slots Q (F0 m 0 ls [])) ∧ (∀ (S : sS) (L : Nat → Int32) (M : Nat → Int64) (ls : Array Slot) (H : Heap) (locs : List Loc), f_Mod_same k9 1 S L M = some (r, S9) → lv_has ls 6 [(0, .ref (ad 0)), (1, .int (L 1)), (2, .int (L 2)), (3, .int (L 3))] → va_P g.1 classes (Sw shM g ad S) H → va_D A (Sw shM g ad S) → va_S A s.heap H locs → W p l e R s m args below meth c H locs cells slots Q (F0 m 20 ls [.int (L 100)])) ∧ (∀ (S : sS) (L : Nat → Int32) (M : Nat → Int64) (ls : Array Slot) (H : Heap) (locs : List Loc), f_Mod_same k9 2 S L M = some (r, S9) → lv_has ls 6 [(0, .ref (ad 0)), (1, .int (L 1)), (2, .int (L 2)), (3, .int (L 3)), (4, .int (L 4)), (5, .int (L 5))] → va_P g.1 classes (Sw shM g ad S) H → va_D A (Sw shM g ad S) → va_S A s.heap H locs → W p l e R s m args below meth c H locs cells slots Q (F0 m 25 ls [])) ∧ (∀ (S : sS) (L : Nat → Int32) (M : Nat → Int64) (ls : Array Slot) (H : Heap) (locs : List Loc), f_Mod_same k9 3 S L M = some (r, S9) → lv_has ls 6 [(0, .ref (ad 0)), (1, .int (L 1)), (2, .int (L 2)), (3, .int (L 3)), (4, .int (L 4)), (5, .int (L 5))] → va_P g.1 classes (Sw shM g ad S) H → va_D A (Sw shM g ad S) → va_S A s.heap H locs → W p l e R s m args below meth c H locs cells slots Q (F0 m 77 ls [.int (L 100)])) ∧ (∀ (S : sS) (L : Nat → Int32) (M : Nat → Int64) (ls : Array Slot) (H : Heap) (locs : List Loc), f_Mod_same k9 4 S L M = some (r, S9) → lv_has ls 6 [(0, .ref (ad 0)), (1, .int (L 1)), (2, .int (L 2)), (3, .int (L 3)), (4, .int (L 4)), (5, .int (L 5))] → va_P g.1 classes (Sw shM g ad S) H → va_D A (Sw shM g ad S) → va_S A s.heap H locs → W p l e R s m args below meth c H locs cells slots Q (F0 m 85 ls [])) := by
  intro k9
  induction k9 with
  | zero => exact ⟨(fun _ _ _ _ _ _ h => by simp [f_Mod_same] at h), (fun _ _ _ _ _ _ h => by simp [f_Mod_same] at h), (fun _ _ _ _ _ _ h => by simp [f_Mod_same] at h), (fun _ _ _ _ _ _ h => by simp [f_Mod_same] at h), (fun _ _ _ _ _ _ h => by simp [f_Mod_same] at h)⟩
  | succ k9 ih =>
    refine ⟨?_, ?_, ?_, ?_, ?_⟩
    · intro S L M ls H locs h hl hP hD hS
      simp only [f_Mod_same] at h
      refine lv_aload_n hx hb d_Mod_same_0 rfl (lv_at hl 0 rfl) ?_
      refine lv_iload_n hx hb d_Mod_same_1 rfl (lv_at hl 1 rfl) ?_
      refine lv_iload_n hx hb d_Mod_same_2 rfl (lv_at hl 2 rfl) ?_
      obtain ⟨⟨r1, T1⟩, hq1, h⟩ := Option.bind_eq_some_iff.mp h
      try dsimp only at h
      refine go_iS (As := [.ref (ad 0), .int (L 1), .int (L 2)]) (g := g) (A := A) (h := shM) hP hK hD hS hA hN (fun hp => va_runV (As := [.int (L 1), .int (L 2)]) (rest := []) ⟨hx, hb, hml, hown, htt⟩ (t_Mod_argumentSize l g _ ad S (L 1 : Int32) (L 2 : Int32) k9 r1 T1 hq1) ⟨(cb_L htt k_2840 k_276 k_2837 hd_Mod_argumentSize ⟨(Nat.le_trans (by decide +kernel) hRf), (Nat.le_trans (by decide +kernel) hRl)⟩), htt _ k_2839, htt _ k_154⟩ ⟨hp.1, S_recv hK hP 0 rfl rfl, hp.2⟩ rfl rfl hl.1 rfl (lv_room (Nat.le_of_ble_eq_true rfl)) d_Mod_same_3 ⟨hRc, hRs⟩) (fun r0 Sn H locs hw9 hP hD hS => ?_)
      obtain ⟨e9, e8⟩ := hw9
      rw [e8] at hP hD
      refine W.widen (k := cells) (n := slots) (Nat.le_refl _) (Nat.le_refl _) ?_
      refine toI (y := r1) e9 ?_
      refine lv_aload_n hx hb d_Mod_same_6 rfl (lv_at hl 0 rfl) ?_
      refine lv_iload_n hx hb d_Mod_same_7 rfl (lv_at hl 1 rfl) ?_
      refine lv_iload_n hx hb d_Mod_same_8 rfl (lv_at hl 3 rfl) ?_
      obtain ⟨⟨r2, T2⟩, hq2, h⟩ := Option.bind_eq_some_iff.mp h
      try dsimp only at h
      refine go_iS (As := [.ref (ad 0), .int (L 1), .int (L 3)]) (g := g) (A := A) (h := shM) hP hK hD hS hA hN (fun hp => va_runV (As := [.int (L 1), .int (L 3)]) (rest := [.int r1]) ⟨hx, hb, hml, hown, htt⟩ (t_Mod_argumentSize l g _ ad T1 (L 1 : Int32) (L 3 : Int32) k9 r2 T2 hq2) ⟨(cb_L htt k_2840 k_276 k_2837 hd_Mod_argumentSize ⟨(Nat.le_trans (by decide +kernel) hRf), (Nat.le_trans (by decide +kernel) hRl)⟩), htt _ k_2839, htt _ k_154⟩ ⟨hp.1, S_recv hK hP 0 rfl rfl, hp.2⟩ rfl rfl hl.1 rfl (lv_room (Nat.le_of_ble_eq_true rfl)) d_Mod_same_9 ⟨hRc, hRs⟩) (fun r0 Sn H locs hw9 hP hD hS => ?_)
      obtain ⟨e9, e8⟩ := hw9
      rw [e8] at hP hD
      refine W.widen (k := cells) (n := slots) (Nat.le_refl _) (Nat.le_refl _) ?_
      refine toI (y := r2) e9 ?_
      refine lv_icmp_ne (tgt := 19) hx hb d_Mod_same_12 (by decide) (fun hc3 => ?_) (fun hc3 => ?_)
      · rw [if_neg hc3] at h
        refine lv_iconst (v := 0) hx hb d_Mod_same_19 (by decide) ?_
        exact (ih.2.1) T2 (upd L 100 (0 : Int32)) M ls H locs h (lv_sub hl [0, 1, 2, 3] rfl) hP hD hS
      · rw [if_pos hc3] at h
        refine lv_iconst (v := 1) hx hb d_Mod_same_15 (by decide) ?_
        refine lv_goto (tgt := 20) hx hb d_Mod_same_16 (by decide) ?_
        exact (ih.2.1) T2 (upd L 100 (1 : Int32)) M ls H locs h (lv_sub hl [0, 1, 2, 3] rfl) hP hD hS
    · intro S L M ls H locs h hl hP hD hS
      simp only [f_Mod_same] at h
      refine lv_istore (lv' := [(4, .int (L 100)), (0, .ref (ad 0)), (1, .int (L 1)), (2, .int (L 2)), (3, .int (L 3))]) hx hb d_Mod_same_20 hl (by decide) rfl (fun ls hl => ?_)
      refine lv_iconst (v := 0) hx hb d_Mod_same_22 (by decide) ?_
      refine lv_istore (lv' := [(5, .int 0), (4, .int (L 100)), (0, .ref (ad 0)), (1, .int (L 1)), (2, .int (L 2)), (3, .int (L 3))]) hx hb d_Mod_same_23 hl (by decide) rfl (fun ls hl => ?_)
      exact (ih.2.2.1) S (upd (upd L 4 (L 100)) 5 (0 : Int32)) M ls H locs h (lv_sub hl [2, 3, 4, 5, 1, 0] rfl) hP hD hS
    · intro S L M ls H locs h hl hP hD hS
      simp only [f_Mod_same] at h
      refine lv_iload hx hb d_Mod_same_25 (lv_at hl 5 rfl) ?_
      refine lv_aload_n hx hb d_Mod_same_27 rfl (lv_at hl 0 rfl) ?_
      refine lv_iload_n hx hb d_Mod_same_28 rfl (lv_at hl 1 rfl) ?_
      refine lv_iload_n hx hb d_Mod_same_29 rfl (lv_at hl 2 rfl) ?_
      obtain ⟨⟨r1, T1⟩, hq1, h⟩ := Option.bind_eq_some_iff.mp h
      try dsimp only at h
      refine go_iS (As := [.ref (ad 0), .int (L 1), .int (L 2)]) (g := g) (A := A) (h := shM) hP hK hD hS hA hN (fun hp => va_runV (As := [.int (L 1), .int (L 2)]) (rest := [.int (L 5)]) ⟨hx, hb, hml, hown, htt⟩ (t_Mod_argumentSize l g _ ad S (L 1 : Int32) (L 2 : Int32) k9 r1 T1 hq1) ⟨(cb_L htt k_2840 k_276 k_2837 hd_Mod_argumentSize ⟨(Nat.le_trans (by decide +kernel) hRf), (Nat.le_trans (by decide +kernel) hRl)⟩), htt _ k_2839, htt _ k_154⟩ ⟨hp.1, S_recv hK hP 0 rfl rfl, hp.2⟩ rfl rfl hl.1 rfl (lv_room (Nat.le_of_ble_eq_true rfl)) d_Mod_same_30 ⟨hRc, hRs⟩) (fun r0 Sn H locs hw9 hP hD hS => ?_)
      obtain ⟨e9, e8⟩ := hw9
      rw [e8] at hP hD
      refine W.widen (k := cells) (n := slots) (Nat.le_refl _) (Nat.le_refl _) ?_
      refine toI (y := r1) e9 ?_
      refine lv_icmp_ge (tgt := 85) hx hb d_Mod_same_33 (by decide) (fun hc2 => ?_) (fun hc2 => ?_)
      · rw [if_pos hc2] at h
        exact (ih.2.2.2.2) T1 L M ls H locs h (lv_sub hl [0, 1, 2, 3, 4, 5] rfl) hP hD hS
      · rw [if_neg hc2] at h
        refine lv_iload hx hb d_Mod_same_36 (lv_at hl 4 rfl) ?_
        refine lv_if_eq (tgt := 85) hx hb d_Mod_same_38 (by decide) (fun hc3 => ?_) (fun hc3 => ?_)
        · rw [if_pos hc3] at h
          exact (ih.2.2.2.2) T1 L M ls H locs h (lv_sub hl [0, 1, 2, 3, 4, 5] rfl) hP hD hS
        · rw [if_neg hc3] at h
          refine lv_aload_n hx hb d_Mod_same_41 rfl (lv_at hl 0 rfl) ?_
          refine S_getR (h := shM) (C := "MacroMillModel") (T := F_Mod) hx hb htt in_Mod hown hK hP 0 48 rfl 20 rfl rfl (by decide) (htt _ k_2284) (fun _ h9 => h9) d_Mod_same_42 ?_
          refine lv_aload_n hx hb d_Mod_same_45 rfl (lv_at hl 0 rfl) ?_
          refine lv_iload_n hx hb d_Mod_same_46 rfl (lv_at hl 1 rfl) ?_
          refine lv_iload_n hx hb d_Mod_same_47 rfl (lv_at hl 2 rfl) ?_
          obtain ⟨⟨r4, T4⟩, hq4, h⟩ := Option.bind_eq_some_iff.mp h
          try dsimp only at h
          refine go_iS (As := [.ref (ad 0), .int (L 1), .int (L 2)]) (g := g) (A := A) (h := shM) hP hK hD hS hA hN (fun hp => va_runV (As := [.int (L 1), .int (L 2)]) (rest := [.ref (ad 20)]) ⟨hx, hb, hml, hown, htt⟩ (t_Mod_argumentAt l g _ ad T1 (L 1 : Int32) (L 2 : Int32) k9 r4 T4 hq4) ⟨(cb_L htt k_2836 k_276 k_2833 hd_Mod_argumentAt ⟨(Nat.le_trans (by decide +kernel) hRf), (Nat.le_trans (by decide +kernel) hRl)⟩), htt _ k_2835, htt _ k_153⟩ ⟨hp.1, S_recv hK hP 0 rfl rfl, hp.2⟩ rfl rfl hl.1 rfl (lv_room (Nat.le_of_ble_eq_true rfl)) d_Mod_same_48 ⟨hRc, hRs⟩) (fun r0 Sn H locs hw9 hP hD hS => ?_)
          obtain ⟨e9, e8⟩ := hw9
          rw [e8] at hP hD
          refine W.widen (k := cells) (n := slots) (Nat.le_refl _) (Nat.le_refl _) ?_
          refine toI (y := r4) e9 ?_
          refine lv_iload hx hb d_Mod_same_51 (lv_at hl 5 rfl) ?_
          show W _ _ _ _ _ _ _ _ _ _ _ _ _ _ _ (F0 _ 53 _ _)
          refine lv_iadd hx hb d_Mod_same_53 ?_
          obtain ⟨hv5, h⟩ := chk h
          refine S_bald (h := shM) (i := r4 + (L 5)) hx hb hK hP 19 rfl (okI_in hv5) d_Mod_same_54 ?_
          refine lv_aload_n hx hb d_Mod_same_55 rfl (lv_at hl 0 rfl) ?_
          refine S_getR (h := shM) (C := "MacroMillModel") (T := F_Mod) hx hb htt in_Mod hown hK hP 0 48 rfl 20 rfl rfl (by decide) (htt _ k_2284) (fun _ h9 => h9) d_Mod_same_56 ?_
          refine lv_aload_n hx hb d_Mod_same_59 rfl (lv_at hl 0 rfl) ?_
          refine lv_iload_n hx hb d_Mod_same_60 rfl (lv_at hl 1 rfl) ?_
          refine lv_iload_n hx hb d_Mod_same_61 rfl (lv_at hl 3 rfl) ?_
          obtain ⟨⟨r6, T6⟩, hq6, h⟩ := Option.bind_eq_some_iff.mp h
          try dsimp only at h
          refine go_iS (As := [.ref (ad 0), .int (L 1), .int (L 3)]) (g := g) (A := A) (h := shM) hP hK hD hS hA hN (fun hp => va_runV (As := [.int (L 1), .int (L 3)]) (rest := [.ref (ad 20), .int (T4.2.1 19 (r4 + (L 5) : Int32).toNatClampNeg)]) ⟨hx, hb, hml, hown, htt⟩ (t_Mod_argumentAt l g _ ad T4 (L 1 : Int32) (L 3 : Int32) k9 r6 T6 hq6) ⟨(cb_L htt k_2836 k_276 k_2833 hd_Mod_argumentAt ⟨(Nat.le_trans (by decide +kernel) hRf), (Nat.le_trans (by decide +kernel) hRl)⟩), htt _ k_2835, htt _ k_153⟩ ⟨hp.1, S_recv hK hP 0 rfl rfl, hp.2⟩ rfl rfl hl.1 rfl (lv_room (Nat.le_of_ble_eq_true rfl)) d_Mod_same_62 ⟨hRc, hRs⟩) (fun r0 Sn H locs hw9 hP hD hS => ?_)
          obtain ⟨e9, e8⟩ := hw9
          rw [e8] at hP hD
          refine W.widen (k := cells) (n := slots) (Nat.le_refl _) (Nat.le_refl _) ?_
          refine toI (y := r6) e9 ?_
          refine lv_iload hx hb d_Mod_same_65 (lv_at hl 5 rfl) ?_
          refine lv_iadd hx hb d_Mod_same_67 ?_
          obtain ⟨hv7, h⟩ := chk h
          refine S_bald (h := shM) (i := r6 + (L 5)) hx hb hK hP 19 rfl (okI_in hv7) d_Mod_same_68 ?_
          refine lv_icmp_ne (tgt := 76) hx hb d_Mod_same_69 (by decide) (fun hc8 => ?_) (fun hc8 => ?_)
          · rw [if_neg hc8] at h
            refine lv_iconst (v := 0) hx hb d_Mod_same_76 (by decide) ?_
            exact (ih.2.2.2.1) T6 (upd L 100 (0 : Int32)) M ls H locs h (lv_sub hl [0, 1, 2, 3, 4, 5] rfl) hP hD hS
          · rw [if_pos hc8] at h
            refine lv_iconst (v := 1) hx hb d_Mod_same_72 (by decide) ?_
            refine lv_goto (tgt := 77) hx hb d_Mod_same_73 (by decide) ?_
            exact (ih.2.2.2.1) T6 (upd L 100 (1 : Int32)) M ls H locs h (lv_sub hl [0, 1, 2, 3, 4, 5] rfl) hP hD hS
    · intro S L M ls H locs h hl hP hD hS
      simp only [f_Mod_same] at h
      refine lv_istore (lv' := [(4, .int (L 100)), (0, .ref (ad 0)), (1, .int (L 1)), (2, .int (L 2)), (3, .int (L 3)), (5, .int (L 5))]) hx hb d_Mod_same_77 hl (by decide) rfl (fun ls hl => ?_)
      refine lv_iinc (k := 5) (v := (L 5) + 1) (lv' := [(5, .int ((L 5) + 1)), (4, .int (L 100)), (0, .ref (ad 0)), (1, .int (L 1)), (2, .int (L 2)), (3, .int (L 3))]) hx hb d_Mod_same_79 hl rfl rfl (by decide) rfl (fun ls hl => ?_)
      refine lv_goto (tgt := 25) hx hb d_Mod_same_82 (by decide) ?_
      exact (ih.2.2.1) S (upd (upd L 4 (L 100)) 5 ((L 5) + 1)) M ls H locs h (lv_sub hl [2, 3, 4, 5, 1, 0] rfl) hP hD hS
    · intro S L M ls H locs h hl hP hD hS
      simp only [f_Mod_same] at h
      refine lv_iload hx hb d_Mod_same_85 (lv_at hl 4 rfl) ?_
      obtain ⟨hv1, h⟩ := chk h
      cases h
      exact kx_87 ls H locs (bz_n hv1) hP hD hS
abbrev rm_t_Mod_same : Room := { frames := 1, cells := 0, slots := 0, locals := 22 }
theorem t_Mod_same (l : Launch) (g : gG) (sz : Nat) (ad : Nat → Nat) (S : sS) (v1 : Int32) (v2 : Int32) (v3 : Int32) (k : Nat) (r : Int32) (S9 : sS) (h : f_Mod_same k 0 S (upd (upd (upd (fun _ => 0) 1 v1) 2 v2) 3 v3) (fun _ => 0) = some (r, S9)) : Cz l y_Mod_same b_Mod_same 6 rm_t_Mod_same g [.ref (ad 0), .int v1, .int v2, .int v3] (Sw shM g ad S) sz (fun r1 w => ∃ S1 : sS, w = Sw shM g ad S1 ∧ r1 = r ∧ S1 = S9) := by
  refine startZ (by decide) (Nat.le_of_ble_eq_true rfl) ?_
  intro p e s m below meth c A ls hx hb hr hml hlocks hmn hown htt hN hA hP hK hD hS hl
  exact (w_Mod_same hx hb hml hown htt hK hN hA (by decide +kernel) (by decide +kernel) (by decide +kernel) (by decide +kernel) r S9 (fun ls H locs hz hP hD hS => fin_z (g := g) (ws := Sw shM g ad S9) hx hb hr hlocks hz (by decide +kernel) (by decide +kernel) hP hD hS ⟨_, rfl, rfl, rfl⟩ d_Mod_same_87) k).1 S (upd (upd (upd (fun _ => 0) 1 v1) 2 v2) 3 v3) (fun _ => 0) ls _ _ h hl hP hD hS
def f_Mod_number : Nat → Nat → sS → (Nat → Int32) → (Nat → Int64) → Option (Int32 × sS)
  | 0, _, _, _, _ => none
  | k + 1, 0, S, L, M => (f_Mod_argumentSize k 0 S (upd (upd (fun _ => 0) 1 (L 1 : Int32)) 2 (L 2 : Int32)) (fun _ => 0)).bind (fun (r1, T1) => (f_Mod_argumentAt k 0 T1 (upd (upd (fun _ => 0) 1 (L 1 : Int32)) 2 (L 2 : Int32)) (fun _ => 0)).bind (fun (r2, T2) => if r1 ≤ (0 : Int32) then (f_Mod_number k 1 T2 (upd (upd L 3 r1) 4 r2) M) else (if okI (r2) 16385 = true then (if (T2.2.1 19 (r2 : Int32).toNatClampNeg) = (45 : Int32) then (f_Mod_number k 2 T2 (upd (upd (upd L 3 r1) 4 r2) 100 (1 : Int32)) M) else (f_Mod_number k 1 T2 (upd (upd L 3 r1) 4 r2) M)) else none)))
  | k + 1, 1, S, L, M => f_Mod_number k 2 S (upd L 100 (0 : Int32)) M
  | k + 1, 2, S, L, M => if (L 100) = (0 : Int32) then (f_Mod_number k 3 S (upd (upd L 5 (L 100)) 100 (L 3)) M) else (f_Mod_number k 3 S (upd (upd L 5 (L 100)) 100 ((L 3) - (1 : Int32))) M)
  | k + 1, 3, S, L, M => if (L 3) = (0 : Int32) then (f_Mod_number k 4 S (upd L 6 (L 100)) M) else (if (L 100) ≤ (0 : Int32) then (f_Mod_number k 5 S (upd L 6 (L 100)) M) else (if (10 : Int32) ≤ (L 100) then (f_Mod_number k 5 S (upd L 6 (L 100)) M) else (f_Mod_number k 4 S (upd L 6 (L 100)) M)))
  | k + 1, 4, S, L, M => f_Mod_number k 6 S (upd L 100 (1 : Int32)) M
  | k + 1, 5, S, L, M => f_Mod_number k 6 S (upd L 100 (0 : Int32)) M
  | k + 1, 6, S, L, M => if (L 5) = (0 : Int32) then (f_Mod_number k 7 S (upd (upd (upd L 7 (L 100)) 8 (0 : Int32)) 100 (0 : Int32)) M) else (f_Mod_number k 7 S (upd (upd (upd L 7 (L 100)) 8 (0 : Int32)) 100 (1 : Int32)) M)
  | k + 1, 7, S, L, M => f_Mod_number k 8 S (upd L 9 (L 100)) M
  | k + 1, 8, S, L, M => if (L 3) ≤ (L 9) then (f_Mod_number k 9 S L M) else (if (L 7) = (0 : Int32) then (f_Mod_number k 9 S L M) else (if okI ((L 4) + (L 9)) 16385 = true then ((f_Mod_isDigit k 0 S (upd (fun _ => 0) 0 ((S.2.1 19 ((L 4) + (L 9) : Int32).toNatClampNeg) &&& (255 : Int32) : Int32)) (fun _ => 0)).bind (fun (r4, T4) => if okI ((L 4) + (L 9)) 16385 = true then (f_Mod_number k 8 T4 (upd (upd (upd L 7 r4) 8 ((((10 : Int32) * (L 8)) + (T4.2.1 19 ((L 4) + (L 9) : Int32).toNatClampNeg)) - (48 : Int32))) 9 ((L 9) + 1)) M) else none)) else none))
  | k + 1, 9, S, L, M => if (L 7) = (0 : Int32) then ((f_Mod_fail1 k 0 S (upd (fun _ => 0) 1 (36 : Int32)) (fun _ => 0)).bind (fun (r2, T2) => f_Mod_number k 10 T2 L M)) else (f_Mod_number k 10 S L M)
  | k + 1, 10, S, L, M => if (L 5) = (0 : Int32) then (f_Mod_number k 11 S (upd L 100 (L 8)) M) else (f_Mod_number k 11 S (upd L 100 (-(L 8))) M)
  | k + 1, 11, S, L, M => some (L 100, S)
  | _ + 1, _ + 12, _, _, _ => none
set_option maxHeartbeats 8000000 in
set_option maxRecDepth 100000 in
theorem w_Mod_number {p : Program} {l : Launch} {e : Env} {R : Room} {s : State} {m : MethodId} {args : Array Value} {below : List Frame} {meth : Method} {c : Code} {cells slots : Nat} {Q : State → Prop} {g : gG} {A : Nat → Prop} {ad : Nat → Nat} (hx : p.tables.exec = Jvm.exec) (hb : c.code = b_Mod_number) (hml : c.maxLocals = 10) (hown : s.vm.findClass "MacroMillModel" = some m.cls) (htt : ∀ w ∈ gt, w.before args s = true) (hK : va_K g.1 classes (tysG g) s) (hN : nw s) (hA : ∀ q : Nat, s.heap.size ≤ q → A q) (hRf : 2 ≤ R.frames) (hRl : 44 ≤ R.locals) (hRc : cells ≤ R.cells) (hRs : slots ≤ R.slots) (r : Int32) (S9 : sS)
    (kx_171 : ∀ (ls : Array Slot) (H : Heap) (locs : List Loc), va_P g.1 classes (Sw shM g ad S9) H → va_D A (Sw shM g ad S9) → va_S A s.heap H locs → W p l e R s m args below meth c H locs cells slots Q (F0 m 171 ls [.int r])) :
    ∀ k9 : Nat, (∀ (S : sS) (L : Nat → Int32) (M : Nat → Int64) (ls : Array Slot) (H : Heap) (locs : List Loc), f_Mod_number k9 0 S L M = some (r, S9) → lv_has ls 10 [(0, .ref (ad 0)), (1, .int (L 1)), (2, .int (L 2))] → va_P g.1 classes (Sw shM g ad S) H → va_D A (Sw shM g ad S) → va_S A s.heap H locs → W p l e R s m args below meth c H locs cells slots Q (F0 m 0 ls [])) ∧ (∀ (S : sS) (L : Nat → Int32) (M : Nat → Int64) (ls : Array Slot) (H : Heap) (locs : List Loc), f_Mod_number k9 1 S L M = some (r, S9) → lv_has ls 10 [(0, .ref (ad 0)), (1, .int (L 1)), (2, .int (L 2)), (3, .int (L 3)), (4, .int (L 4))] → va_P g.1 classes (Sw shM g ad S) H → va_D A (Sw shM g ad S) → va_S A s.heap H locs → W p l e R s m args below meth c H locs cells slots Q (F0 m 35 ls [])) ∧ (∀ (S : sS) (L : Nat → Int32) (M : Nat → Int64) (ls : Array Slot) (H : Heap) (locs : List Loc), f_Mod_number k9 2 S L M = some (r, S9) → lv_has ls 10 [(0, .ref (ad 0)), (1, .int (L 1)), (2, .int (L 2)), (3, .int (L 3)), (4, .int (L 4))] → va_P g.1 classes (Sw shM g ad S) H → va_D A (Sw shM g ad S) → va_S A s.heap H locs → W p l e R s m args below meth c H locs cells slots Q (F0 m 36 ls [.int (L 100)])) ∧ (∀ (S : sS) (L : Nat → Int32) (M : Nat → Int64) (ls : Array Slot) (H : Heap) (locs : List Loc), f_Mod_number k9 3 S L M = some (r, S9) → lv_has ls 10 [(0, .ref (ad 0)), (1, .int (L 1)), (2, .int (L 2)), (3, .int (L 3)), (4, .int (L 4)), (5, .int (L 5))] → va_P g.1 classes (Sw shM g ad S) H → va_D A (Sw shM g ad S) → va_S A s.heap H locs → W p l e R s m args below meth c H locs cells slots Q (F0 m 50 ls [.int (L 100)])) ∧ (∀ (S : sS) (L : Nat → Int32) (M : Nat → Int64) (ls : Array Slot) (H : Heap) (locs : List Loc), f_Mod_number k9 4 S L M = some (r, S9) → lv_has ls 10 [(0, .ref (ad 0)), (1, .int (L 1)), (2, .int (L 2)), (3, .int (L 3)), (4, .int (L 4)), (5, .int (L 5)), (6, .int (L 6))] → va_P g.1 classes (Sw shM g ad S) H → va_D A (Sw shM g ad S) → va_S A s.heap H locs → W p l e R s m args below meth c H locs cells slots Q (F0 m 68 ls [])) ∧ (∀ (S : sS) (L : Nat → Int32) (M : Nat → Int64) (ls : Array Slot) (H : Heap) (locs : List Loc), f_Mod_number k9 5 S L M = some (r, S9) → lv_has ls 10 [(0, .ref (ad 0)), (1, .int (L 1)), (2, .int (L 2)), (3, .int (L 3)), (4, .int (L 4)), (5, .int (L 5)), (6, .int (L 6))] → va_P g.1 classes (Sw shM g ad S) H → va_D A (Sw shM g ad S) → va_S A s.heap H locs → W p l e R s m args below meth c H locs cells slots Q (F0 m 72 ls [])) ∧ (∀ (S : sS) (L : Nat → Int32) (M : Nat → Int64) (ls : Array Slot) (H : Heap) (locs : List Loc), f_Mod_number k9 6 S L M = some (r, S9) → lv_has ls 10 [(0, .ref (ad 0)), (1, .int (L 1)), (2, .int (L 2)), (3, .int (L 3)), (4, .int (L 4)), (5, .int (L 5)), (6, .int (L 6))] → va_P g.1 classes (Sw shM g ad S) H → va_D A (Sw shM g ad S) → va_S A s.heap H locs → W p l e R s m args below meth c H locs cells slots Q (F0 m 73 ls [.int (L 100)])) ∧ (∀ (S : sS) (L : Nat → Int32) (M : Nat → Int64) (ls : Array Slot) (H : Heap) (locs : List Loc), f_Mod_number k9 7 S L M = some (r, S9) → lv_has ls 10 [(0, .ref (ad 0)), (1, .int (L 1)), (2, .int (L 2)), (3, .int (L 3)), (4, .int (L 4)), (5, .int (L 5)), (6, .int (L 6)), (7, .int (L 7)), (8, .int (L 8))] → va_P g.1 classes (Sw shM g ad S) H → va_D A (Sw shM g ad S) → va_S A s.heap H locs → W p l e R s m args below meth c H locs cells slots Q (F0 m 88 ls [.int (L 100)])) ∧ (∀ (S : sS) (L : Nat → Int32) (M : Nat → Int64) (ls : Array Slot) (H : Heap) (locs : List Loc), f_Mod_number k9 8 S L M = some (r, S9) → lv_has ls 10 [(0, .ref (ad 0)), (1, .int (L 1)), (2, .int (L 2)), (3, .int (L 3)), (4, .int (L 4)), (5, .int (L 5)), (6, .int (L 6)), (7, .int (L 7)), (8, .int (L 8)), (9, .int (L 9))] → va_P g.1 classes (Sw shM g ad S) H → va_D A (Sw shM g ad S) → va_S A s.heap H locs → W p l e R s m args below meth c H locs cells slots Q (F0 m 90 ls [])) ∧ (∀ (S : sS) (L : Nat → Int32) (M : Nat → Int64) (ls : Array Slot) (H : Heap) (locs : List Loc), f_Mod_number k9 9 S L M = some (r, S9) → lv_has ls 10 [(0, .ref (ad 0)), (1, .int (L 1)), (2, .int (L 2)), (3, .int (L 3)), (4, .int (L 4)), (5, .int (L 5)), (6, .int (L 6)), (7, .int (L 7)), (8, .int (L 8)), (9, .int (L 9))] → va_P g.1 classes (Sw shM g ad S) H → va_D A (Sw shM g ad S) → va_S A s.heap H locs → W p l e R s m args below meth c H locs cells slots Q (F0 m 147 ls [])) ∧ (∀ (S : sS) (L : Nat → Int32) (M : Nat → Int64) (ls : Array Slot) (H : Heap) (locs : List Loc), f_Mod_number k9 10 S L M = some (r, S9) → lv_has ls 10 [(0, .ref (ad 0)), (1, .int (L 1)), (2, .int (L 2)), (3, .int (L 3)), (4, .int (L 4)), (5, .int (L 5)), (6, .int (L 6)), (7, .int (L 7)), (8, .int (L 8)), (9, .int (L 9))] → va_P g.1 classes (Sw shM g ad S) H → va_D A (Sw shM g ad S) → va_S A s.heap H locs → W p l e R s m args below meth c H locs cells slots Q (F0 m 158 ls [])) ∧ (∀ (S : sS) (L : Nat → Int32) (M : Nat → Int64) (ls : Array Slot) (H : Heap) (locs : List Loc), f_Mod_number k9 11 S L M = some (r, S9) → lv_has ls 10 [(0, .ref (ad 0)), (1, .int (L 1)), (2, .int (L 2)), (3, .int (L 3)), (4, .int (L 4)), (5, .int (L 5)), (6, .int (L 6)), (7, .int (L 7)), (8, .int (L 8)), (9, .int (L 9))] → va_P g.1 classes (Sw shM g ad S) H → va_D A (Sw shM g ad S) → va_S A s.heap H locs → W p l e R s m args below meth c H locs cells slots Q (F0 m 171 ls [.int (L 100)])) := by
  intro k9
  induction k9 with
  | zero => exact ⟨(fun _ _ _ _ _ _ h => by simp [f_Mod_number] at h), (fun _ _ _ _ _ _ h => by simp [f_Mod_number] at h), (fun _ _ _ _ _ _ h => by simp [f_Mod_number] at h), (fun _ _ _ _ _ _ h => by simp [f_Mod_number] at h), (fun _ _ _ _ _ _ h => by simp [f_Mod_number] at h), (fun _ _ _ _ _ _ h => by simp [f_Mod_number] at h), (fun _ _ _ _ _ _ h => by simp [f_Mod_number] at h), (fun _ _ _ _ _ _ h => by simp [f_Mod_number] at h), (fun _ _ _ _ _ _ h => by simp [f_Mod_number] at h), (fun _ _ _ _ _ _ h => by simp [f_Mod_number] at h), (fun _ _ _ _ _ _ h => by simp [f_Mod_number] at h), (fun _ _ _ _ _ _ h => by simp [f_Mod_number] at h)⟩
  | succ k9 ih =>
    refine ⟨?_, ?_, ?_, ?_, ?_, ?_, ?_, ?_, ?_, ?_, ?_, ?_⟩
    · intro S L M ls H locs h hl hP hD hS
      simp only [f_Mod_number] at h
      refine lv_aload_n hx hb d_Mod_number_0 rfl (lv_at hl 0 rfl) ?_
      refine lv_iload_n hx hb d_Mod_number_1 rfl (lv_at hl 1 rfl) ?_
      refine lv_iload_n hx hb d_Mod_number_2 rfl (lv_at hl 2 rfl) ?_
      obtain ⟨⟨r1, T1⟩, hq1, h⟩ := Option.bind_eq_some_iff.mp h
      try dsimp only at h
      refine go_iS (As := [.ref (ad 0), .int (L 1), .int (L 2)]) (g := g) (A := A) (h := shM) hP hK hD hS hA hN (fun hp => va_runV (As := [.int (L 1), .int (L 2)]) (rest := []) ⟨hx, hb, hml, hown, htt⟩ (t_Mod_argumentSize l g _ ad S (L 1 : Int32) (L 2 : Int32) k9 r1 T1 hq1) ⟨(cb_L htt k_2840 k_276 k_2837 hd_Mod_argumentSize ⟨(Nat.le_trans (by decide +kernel) hRf), (Nat.le_trans (by decide +kernel) hRl)⟩), htt _ k_2839, htt _ k_154⟩ ⟨hp.1, S_recv hK hP 0 rfl rfl, hp.2⟩ rfl rfl hl.1 rfl (lv_room (Nat.le_of_ble_eq_true rfl)) d_Mod_number_3 ⟨hRc, hRs⟩) (fun r0 Sn H locs hw9 hP hD hS => ?_)
      obtain ⟨e9, e8⟩ := hw9
      rw [e8] at hP hD
      refine W.widen (k := cells) (n := slots) (Nat.le_refl _) (Nat.le_refl _) ?_
      refine toI (y := r1) e9 ?_
      refine lv_istore_n (lv' := [(3, .int r1), (0, .ref (ad 0)), (1, .int (L 1)), (2, .int (L 2))]) hx hb d_Mod_number_6 rfl hl (by decide) rfl (fun ls hl => ?_)
      refine lv_aload_n hx hb d_Mod_number_7 rfl (lv_at hl 1 rfl) ?_
      refine lv_iload_n hx hb d_Mod_number_8 rfl (lv_at hl 2 rfl) ?_
      refine lv_iload_n hx hb d_Mod_number_9 rfl (lv_at hl 3 rfl) ?_
      obtain ⟨⟨r2, T2⟩, hq2, h⟩ := Option.bind_eq_some_iff.mp h
      try dsimp only at h
      refine go_iS (As := [.ref (ad 0), .int (L 1), .int (L 2)]) (g := g) (A := A) (h := shM) hP hK hD hS hA hN (fun hp => va_runV (As := [.int (L 1), .int (L 2)]) (rest := []) ⟨hx, hb, hml, hown, htt⟩ (t_Mod_argumentAt l g _ ad T1 (L 1 : Int32) (L 2 : Int32) k9 r2 T2 hq2) ⟨(cb_L htt k_2836 k_276 k_2833 hd_Mod_argumentAt ⟨(Nat.le_trans (by decide +kernel) hRf), (Nat.le_trans (by decide +kernel) hRl)⟩), htt _ k_2835, htt _ k_153⟩ ⟨hp.1, S_recv hK hP 0 rfl rfl, hp.2⟩ rfl rfl hl.1 rfl (lv_room (Nat.le_of_ble_eq_true rfl)) d_Mod_number_10 ⟨hRc, hRs⟩) (fun r0 Sn H locs hw9 hP hD hS => ?_)
      obtain ⟨e9, e8⟩ := hw9
      rw [e8] at hP hD
      refine W.widen (k := cells) (n := slots) (Nat.le_refl _) (Nat.le_refl _) ?_
      refine toI (y := r2) e9 ?_
      refine lv_istore (lv' := [(4, .int r2), (3, .int r1), (0, .ref (ad 0)), (1, .int (L 1)), (2, .int (L 2))]) hx hb d_Mod_number_13 hl (by decide) rfl (fun ls hl => ?_)
      refine lv_iload_n hx hb d_Mod_number_15 rfl (lv_at hl 1 rfl) ?_
      refine lv_if_le (tgt := 35) hx hb d_Mod_number_16 (by decide) (fun hc3 => ?_) (fun hc3 => ?_)
      · rw [if_pos hc3] at h
        exact (ih.2.1) T2 (upd (upd L 3 r1) 4 r2) M ls H locs h (lv_sub hl [2, 3, 4, 1, 0] rfl) hP hD hS
      · rw [if_neg hc3] at h
        refine lv_aload_n hx hb d_Mod_number_19 rfl (lv_at hl 2 rfl) ?_
        refine S_getR (h := shM) (C := "MacroMillModel") (T := F_Mod) hx hb htt in_Mod hown hK hP 0 48 rfl 20 rfl rfl (by decide) (htt _ k_2284) (fun _ h9 => h9) d_Mod_number_20 ?_
        show W _ _ _ _ _ _ _ _ _ _ _ _ _ _ _ (F0 _ 23 _ _)
        refine lv_iload hx hb d_Mod_number_23 (lv_at hl 0 rfl) ?_
        obtain ⟨hv4, h⟩ := chk h
        refine S_bald (h := shM) (i := r2) hx hb hK hP 19 rfl (okI_in hv4) d_Mod_number_25 ?_
        refine lv_bipush (v := 45) hx hb d_Mod_number_26 (by decide) ?_
        refine lv_icmp_ne (tgt := 35) hx hb d_Mod_number_28 (by decide) (fun hc5 => ?_) (fun hc5 => ?_)
        · rw [if_neg hc5] at h
          exact (ih.2.1) T2 (upd (upd L 3 r1) 4 r2) M ls H locs h (lv_sub hl [2, 3, 4, 1, 0] rfl) hP hD hS
        · rw [if_pos hc5] at h
          refine lv_iconst (v := 1) hx hb d_Mod_number_31 (by decide) ?_
          refine lv_goto (tgt := 36) hx hb d_Mod_number_32 (by decide) ?_
          exact (ih.2.2.1) T2 (upd (upd (upd L 3 r1) 4 r2) 100 (1 : Int32)) M ls H locs h (lv_sub hl [2, 3, 4, 1, 0] rfl) hP hD hS
    · intro S L M ls H locs h hl hP hD hS
      simp only [f_Mod_number] at h
      refine lv_iconst (v := 0) hx hb d_Mod_number_35 (by decide) ?_
      exact (ih.2.2.1) S (upd L 100 (0 : Int32)) M ls H locs h (lv_sub hl [0, 1, 2, 3, 4] rfl) hP hD hS
    · intro S L M ls H locs h hl hP hD hS
      simp only [f_Mod_number] at h
      refine lv_istore (lv' := [(5, .int (L 100)), (0, .ref (ad 0)), (1, .int (L 1)), (2, .int (L 2)), (3, .int (L 3)), (4, .int (L 4))]) hx hb d_Mod_number_36 hl (by decide) rfl (fun ls hl => ?_)
      refine lv_iload hx hb d_Mod_number_38 (lv_at hl 0 rfl) ?_
      refine lv_if_eq (tgt := 49) hx hb d_Mod_number_40 (by decide) (fun hc1 => ?_) (fun hc1 => ?_)
      · rw [if_pos hc1] at h
        refine lv_iload_n hx hb d_Mod_number_49 rfl (lv_at hl 4 rfl) ?_
        exact (ih.2.2.2.1) S (upd (upd L 5 (L 100)) 100 (L 3)) M ls H locs h (lv_sub hl [1, 2, 3, 4, 5, 0] rfl) hP hD hS
      · rw [if_neg hc1] at h
        refine lv_iload_n hx hb d_Mod_number_43 rfl (lv_at hl 4 rfl) ?_
        refine lv_iconst (v := 1) hx hb d_Mod_number_44 (by decide) ?_
        refine lv_isub hx hb d_Mod_number_45 ?_
        refine lv_goto (tgt := 50) hx hb d_Mod_number_46 (by decide) ?_
        exact (ih.2.2.2.1) S (upd (upd L 5 (L 100)) 100 ((L 3) - (1 : Int32))) M ls H locs h (lv_sub hl [1, 2, 3, 4, 5, 0] rfl) hP hD hS
    · intro S L M ls H locs h hl hP hD hS
      simp only [f_Mod_number] at h
      refine lv_istore (lv' := [(6, .int (L 100)), (0, .ref (ad 0)), (1, .int (L 1)), (2, .int (L 2)), (3, .int (L 3)), (4, .int (L 4)), (5, .int (L 5))]) hx hb d_Mod_number_50 hl (by decide) rfl (fun ls hl => ?_)
      refine lv_iload_n hx hb d_Mod_number_52 rfl (lv_at hl 4 rfl) ?_
      refine lv_if_eq (tgt := 68) hx hb d_Mod_number_53 (by decide) (fun hc1 => ?_) (fun hc1 => ?_)
      · rw [if_pos hc1] at h
        exact (ih.2.2.2.2.1) S (upd L 6 (L 100)) M ls H locs h (lv_sub hl [1, 2, 3, 4, 5, 6, 0] rfl) hP hD hS
      · rw [if_neg hc1] at h
        refine lv_iload hx hb d_Mod_number_56 (lv_at hl 0 rfl) ?_
        refine lv_if_le (tgt := 72) hx hb d_Mod_number_58 (by decide) (fun hc2 => ?_) (fun hc2 => ?_)
        · rw [if_pos hc2] at h
          exact (ih.2.2.2.2.2.1) S (upd L 6 (L 100)) M ls H locs h (lv_sub hl [1, 2, 3, 4, 5, 6, 0] rfl) hP hD hS
        · rw [if_neg hc2] at h
          refine lv_iload hx hb d_Mod_number_61 (lv_at hl 0 rfl) ?_
          refine lv_bipush (v := 10) hx hb d_Mod_number_63 (by decide) ?_
          refine lv_icmp_ge (tgt := 72) hx hb d_Mod_number_65 (by decide) (fun hc3 => ?_) (fun hc3 => ?_)
          · rw [if_pos hc3] at h
            exact (ih.2.2.2.2.2.1) S (upd L 6 (L 100)) M ls H locs h (lv_sub hl [1, 2, 3, 4, 5, 6, 0] rfl) hP hD hS
          · rw [if_neg hc3] at h
            exact (ih.2.2.2.2.1) S (upd L 6 (L 100)) M ls H locs h (lv_sub hl [1, 2, 3, 4, 5, 6, 0] rfl) hP hD hS
    · intro S L M ls H locs h hl hP hD hS
      simp only [f_Mod_number] at h
      refine lv_iconst (v := 1) hx hb d_Mod_number_68 (by decide) ?_
      refine lv_goto (tgt := 73) hx hb d_Mod_number_69 (by decide) ?_
      exact (ih.2.2.2.2.2.2.1) S (upd L 100 (1 : Int32)) M ls H locs h (lv_sub hl [0, 1, 2, 3, 4, 5, 6] rfl) hP hD hS
    · intro S L M ls H locs h hl hP hD hS
      simp only [f_Mod_number] at h
      refine lv_iconst (v := 0) hx hb d_Mod_number_72 (by decide) ?_
      exact (ih.2.2.2.2.2.2.1) S (upd L 100 (0 : Int32)) M ls H locs h (lv_sub hl [0, 1, 2, 3, 4, 5, 6] rfl) hP hD hS
    · intro S L M ls H locs h hl hP hD hS
      simp only [f_Mod_number] at h
      refine lv_istore (lv' := [(7, .int (L 100)), (0, .ref (ad 0)), (1, .int (L 1)), (2, .int (L 2)), (3, .int (L 3)), (4, .int (L 4)), (5, .int (L 5)), (6, .int (L 6))]) hx hb d_Mod_number_73 hl (by decide) rfl (fun ls hl => ?_)
      refine lv_iconst (v := 0) hx hb d_Mod_number_75 (by decide) ?_
      refine lv_istore (lv' := [(8, .int 0), (7, .int (L 100)), (0, .ref (ad 0)), (1, .int (L 1)), (2, .int (L 2)), (3, .int (L 3)), (4, .int (L 4)), (5, .int (L 5)), (6, .int (L 6))]) hx hb d_Mod_number_76 hl (by decide) rfl (fun ls hl => ?_)
      refine lv_iload hx hb d_Mod_number_78 (lv_at hl 7 rfl) ?_
      refine lv_if_eq (tgt := 87) hx hb d_Mod_number_80 (by decide) (fun hc1 => ?_) (fun hc1 => ?_)
      · rw [if_pos hc1] at h
        refine lv_iconst (v := 0) hx hb d_Mod_number_87 (by decide) ?_
        exact (ih.2.2.2.2.2.2.2.1) S (upd (upd (upd L 7 (L 100)) 8 (0 : Int32)) 100 (0 : Int32)) M ls H locs h (lv_sub hl [2, 3, 4, 5, 6, 7, 8, 1, 0] rfl) hP hD hS
      · rw [if_neg hc1] at h
        refine lv_iconst (v := 1) hx hb d_Mod_number_83 (by decide) ?_
        refine lv_goto (tgt := 88) hx hb d_Mod_number_84 (by decide) ?_
        exact (ih.2.2.2.2.2.2.2.1) S (upd (upd (upd L 7 (L 100)) 8 (0 : Int32)) 100 (1 : Int32)) M ls H locs h (lv_sub hl [2, 3, 4, 5, 6, 7, 8, 1, 0] rfl) hP hD hS
    · intro S L M ls H locs h hl hP hD hS
      simp only [f_Mod_number] at h
      refine lv_istore (lv' := [(9, .int (L 100)), (0, .ref (ad 0)), (1, .int (L 1)), (2, .int (L 2)), (3, .int (L 3)), (4, .int (L 4)), (5, .int (L 5)), (6, .int (L 6)), (7, .int (L 7)), (8, .int (L 8))]) hx hb d_Mod_number_88 hl (by decide) rfl (fun ls hl => ?_)
      exact (ih.2.2.2.2.2.2.2.2.1) S (upd L 9 (L 100)) M ls H locs h (lv_sub hl [1, 2, 3, 4, 5, 6, 7, 8, 9, 0] rfl) hP hD hS
    · intro S L M ls H locs h hl hP hD hS
      simp only [f_Mod_number] at h
      refine lv_iload hx hb d_Mod_number_90 (lv_at hl 9 rfl) ?_
      refine lv_iload_n hx hb d_Mod_number_92 rfl (lv_at hl 3 rfl) ?_
      refine lv_icmp_ge (tgt := 147) hx hb d_Mod_number_93 (by decide) (fun hc1 => ?_) (fun hc1 => ?_)
      · rw [if_pos hc1] at h
        exact (ih.2.2.2.2.2.2.2.2.2.1) S L M ls H locs h (lv_sub hl [0, 1, 2, 3, 4, 5, 6, 7, 8, 9] rfl) hP hD hS
      · rw [if_neg hc1] at h
        refine lv_iload hx hb d_Mod_number_96 (lv_at hl 7 rfl) ?_
        refine lv_if_eq (tgt := 147) hx hb d_Mod_number_98 (by decide) (fun hc2 => ?_) (fun hc2 => ?_)
        · rw [if_pos hc2] at h
          exact (ih.2.2.2.2.2.2.2.2.2.1) S L M ls H locs h (lv_sub hl [0, 1, 2, 3, 4, 5, 6, 7, 8, 9] rfl) hP hD hS
        · rw [if_neg hc2] at h
          refine lv_aload_n hx hb d_Mod_number_101 rfl (lv_at hl 0 rfl) ?_
          refine S_getR (h := shM) (C := "MacroMillModel") (T := F_Mod) hx hb htt in_Mod hown hK hP 0 48 rfl 20 rfl rfl (by decide) (htt _ k_2284) (fun _ h9 => h9) d_Mod_number_102 ?_
          refine lv_iload hx hb d_Mod_number_105 (lv_at hl 4 rfl) ?_
          refine lv_iload hx hb d_Mod_number_107 (lv_at hl 9 rfl) ?_
          refine lv_iadd hx hb d_Mod_number_109 ?_
          obtain ⟨hv3, h⟩ := chk h
          refine S_bald (h := shM) (i := (L 4) + (L 9)) hx hb hK hP 19 rfl (okI_in hv3) d_Mod_number_110 ?_
          refine lv_sipush (v := 255) hx hb d_Mod_number_111 (by decide) ?_
          refine lv_iand hx hb d_Mod_number_114 ?_
          obtain ⟨⟨r4, T4⟩, hq4, h⟩ := Option.bind_eq_some_iff.mp h
          try dsimp only at h
          refine go_iS (As := [.int ((S.2.1 19 ((L 4) + (L 9) : Int32).toNatClampNeg) &&& (255 : Int32))]) (g := g) (A := A) (h := shM) hP hK hD hS hA hN (fun hp => va_runS (As := [.int ((S.2.1 19 ((L 4) + (L 9) : Int32).toNatClampNeg) &&& (255 : Int32))]) (rest := []) ⟨hx, hb, hml, hown, htt⟩ (t_Mod_isDigit l g _ ad S ((S.2.1 19 ((L 4) + (L 9) : Int32).toNatClampNeg) &&& (255 : Int32) : Int32) k9 r4 T4 hq4) ⟨(cb_L htt k_2777 k_276 k_2775 hd_Mod_isDigit ⟨(Nat.le_trans (by decide +kernel) hRf), (Nat.le_trans (by decide +kernel) hRl)⟩), htt _ k_2776⟩ hp rfl rfl hl.1 rfl (lv_room (Nat.le_of_ble_eq_true rfl)) d_Mod_number_115 ⟨hRc, hRs⟩) (fun r0 Sn H locs hw9 hP hD hS => ?_)
          obtain ⟨e9, e8⟩ := hw9
          rw [e8] at hP hD
          refine W.widen (k := cells) (n := slots) (Nat.le_refl _) (Nat.le_refl _) ?_
          refine toI (y := r4) e9 ?_
          show W _ _ _ _ _ _ _ _ _ _ _ _ _ _ _ (F0 _ 118 _ _)
          refine lv_istore (lv' := [(7, .int r4), (0, .ref (ad 0)), (1, .int (L 1)), (2, .int (L 2)), (3, .int (L 3)), (4, .int (L 4)), (5, .int (L 5)), (6, .int (L 6)), (8, .int (L 8)), (9, .int (L 9))]) hx hb d_Mod_number_118 hl (by decide) rfl (fun ls hl => ?_)
          refine lv_bipush (v := 10) hx hb d_Mod_number_120 (by decide) ?_
          refine lv_iload hx hb d_Mod_number_122 (lv_at hl 8 rfl) ?_
          refine lv_imul hx hb d_Mod_number_124 ?_
          refine lv_aload_n hx hb d_Mod_number_125 rfl (lv_at hl 1 rfl) ?_
          refine S_getR (h := shM) (C := "MacroMillModel") (T := F_Mod) hx hb htt in_Mod hown hK hP 0 48 rfl 20 rfl rfl (by decide) (htt _ k_2284) (fun _ h9 => h9) d_Mod_number_126 ?_
          refine lv_iload hx hb d_Mod_number_129 (lv_at hl 5 rfl) ?_
          refine lv_iload hx hb d_Mod_number_131 (lv_at hl 9 rfl) ?_
          refine lv_iadd hx hb d_Mod_number_133 ?_
          obtain ⟨hv5, h⟩ := chk h
          refine S_bald (h := shM) (i := (L 4) + (L 9)) hx hb hK hP 19 rfl (okI_in hv5) d_Mod_number_134 ?_
          refine lv_iadd hx hb d_Mod_number_135 ?_
          refine lv_bipush (v := 48) hx hb d_Mod_number_136 (by decide) ?_
          show W _ _ _ _ _ _ _ _ _ _ _ _ _ _ _ (F0 _ 138 _ _)
          refine lv_isub hx hb d_Mod_number_138 ?_
          refine lv_istore (lv' := [(8, .int ((((10 : Int32) * (L 8)) + (T4.2.1 19 ((L 4) + (L 9) : Int32).toNatClampNeg)) - (48 : Int32))), (7, .int r4), (0, .ref (ad 0)), (1, .int (L 1)), (2, .int (L 2)), (3, .int (L 3)), (4, .int (L 4)), (5, .int (L 5)), (6, .int (L 6)), (9, .int (L 9))]) hx hb d_Mod_number_139 hl (by decide) rfl (fun ls hl => ?_)
          refine lv_iinc (k := 9) (v := (L 9) + 1) (lv' := [(9, .int ((L 9) + 1)), (8, .int ((((10 : Int32) * (L 8)) + (T4.2.1 19 ((L 4) + (L 9) : Int32).toNatClampNeg)) - (48 : Int32))), (7, .int r4), (0, .ref (ad 0)), (1, .int (L 1)), (2, .int (L 2)), (3, .int (L 3)), (4, .int (L 4)), (5, .int (L 5)), (6, .int (L 6))]) hx hb d_Mod_number_141 hl rfl rfl (by decide) rfl (fun ls hl => ?_)
          refine lv_goto (tgt := 90) hx hb d_Mod_number_144 (by decide) ?_
          exact (ih.2.2.2.2.2.2.2.2.1) T4 (upd (upd (upd L 7 r4) 8 ((((10 : Int32) * (L 8)) + (T4.2.1 19 ((L 4) + (L 9) : Int32).toNatClampNeg)) - (48 : Int32))) 9 ((L 9) + 1)) M ls H locs h (lv_sub hl [3, 4, 5, 6, 7, 8, 9, 2, 1, 0] rfl) hP hD hS
    · intro S L M ls H locs h hl hP hD hS
      simp only [f_Mod_number] at h
      refine lv_iload hx hb d_Mod_number_147 (lv_at hl 7 rfl) ?_
      refine lv_if_ne (tgt := 158) hx hb d_Mod_number_149 (by decide) (fun hc1 => ?_) (fun hc1 => ?_)
      · rw [if_neg hc1] at h
        exact (ih.2.2.2.2.2.2.2.2.2.2.1) S L M ls H locs h (lv_sub hl [0, 1, 2, 3, 4, 5, 6, 7, 8, 9] rfl) hP hD hS
      · rw [if_pos hc1] at h
        refine lv_aload_n hx hb d_Mod_number_152 rfl (lv_at hl 0 rfl) ?_
        refine lv_bipush (v := 36) hx hb d_Mod_number_153 (by decide) ?_
        obtain ⟨⟨r2, T2⟩, hq2, h⟩ := Option.bind_eq_some_iff.mp h
        try dsimp only at h
        refine go_vS (As := [.ref (ad 0), .int 36]) (g := g) (A := A) (h := shM) hP hK hD hS hA hN (fun hp => va_runV (As := [.int 36]) (rest := []) ⟨hx, hb, hml, hown, htt⟩ (t_Mod_fail1 l g _ ad S (36 : Int32) k9 r2 T2 hq2) ⟨(cb_L htt k_2767 k_276 k_2764 hd_Mod_fail1 ⟨(Nat.le_trans (by decide +kernel) hRf), (Nat.le_trans (by decide +kernel) hRl)⟩), htt _ k_2766, htt _ k_138⟩ ⟨hp.1, S_recv hK hP 0 rfl rfl, hp.2⟩ rfl rfl hl.1 rfl (lv_room (Nat.le_of_ble_eq_true rfl)) d_Mod_number_155 ⟨hRc, hRs⟩) (fun Sn H locs hw9 hP hD hS => ?_)
        have e8 := hw9
        rw [e8] at hP hD
        refine W.widen (k := cells) (n := slots) (Nat.le_refl _) (Nat.le_refl _) ?_
        exact (ih.2.2.2.2.2.2.2.2.2.2.1) T2 L M ls H locs h (lv_sub hl [0, 1, 2, 3, 4, 5, 6, 7, 8, 9] rfl) hP hD hS
    · intro S L M ls H locs h hl hP hD hS
      simp only [f_Mod_number] at h
      refine lv_iload hx hb d_Mod_number_158 (lv_at hl 5 rfl) ?_
      refine lv_if_eq (tgt := 169) hx hb d_Mod_number_160 (by decide) (fun hc1 => ?_) (fun hc1 => ?_)
      · rw [if_pos hc1] at h
        refine lv_iload hx hb d_Mod_number_169 (lv_at hl 8 rfl) ?_
        exact (ih.2.2.2.2.2.2.2.2.2.2.2) S (upd L 100 (L 8)) M ls H locs h (lv_sub hl [0, 1, 2, 3, 4, 5, 6, 7, 8, 9] rfl) hP hD hS
      · rw [if_neg hc1] at h
        refine lv_iload hx hb d_Mod_number_163 (lv_at hl 8 rfl) ?_
        refine lv_ineg hx hb d_Mod_number_165 ?_
        refine lv_goto (tgt := 171) hx hb d_Mod_number_166 (by decide) ?_
        exact (ih.2.2.2.2.2.2.2.2.2.2.2) S (upd L 100 (-(L 8))) M ls H locs h (lv_sub hl [0, 1, 2, 3, 4, 5, 6, 7, 8, 9] rfl) hP hD hS
    · intro S L M ls H locs h hl hP hD hS
      simp only [f_Mod_number] at h
      cases h
      exact kx_171 ls H locs hP hD hS
abbrev rm_t_Mod_number : Room := { frames := 2, cells := 0, slots := 0, locals := 44 }
theorem t_Mod_number (l : Launch) (g : gG) (sz : Nat) (ad : Nat → Nat) (S : sS) (v1 : Int32) (v2 : Int32) (k : Nat) (r : Int32) (S9 : sS) (h : f_Mod_number k 0 S (upd (upd (fun _ => 0) 1 v1) 2 v2) (fun _ => 0) = some (r, S9)) : Ci l y_Mod_number b_Mod_number 10 rm_t_Mod_number g [.ref (ad 0), .int v1, .int v2] (Sw shM g ad S) sz (fun r1 w => ∃ S1 : sS, w = Sw shM g ad S1 ∧ r1 = r ∧ S1 = S9) := by
  refine startI (by decide) (Nat.le_of_ble_eq_true rfl) ?_
  intro p e s m below meth c A ls hx hb hr hml hlocks hmn hown htt hN hA hP hK hD hS hl
  exact (w_Mod_number hx hb hml hown htt hK hN hA (by decide +kernel) (by decide +kernel) (by decide +kernel) (by decide +kernel) r S9 (fun ls H locs hP hD hS => fin_i (g := g) (ws := Sw shM g ad S9) hx hb hr hlocks (by decide +kernel) (by decide +kernel) hP hD hS ⟨_, rfl, rfl, rfl⟩ d_Mod_number_171) k).1 S (upd (upd (fun _ => 0) 1 v1) 2 v2) (fun _ => 0) ls _ _ h hl hP hD hS
def f_Mod_giveIfRight : Nat → Nat → sS → (Nat → Int32) → (Nat → Int64) → Option (Int32 × sS)
  | 0, _, _, _, _ => none
  | k + 1, 0, S, L, M => if (S.1 0 10) = (0 : Int32) then ((f_Mod_giveNumber k 0 S (fun _ => 0) (vp_updL (fun _ => 0) 1 (M 1 : Int64))).bind (fun (r2, T2) => f_Mod_giveIfRight k 1 T2 L M)) else (f_Mod_giveIfRight k 1 S L M)
  | k + 1, 1, S, L, M => some ((0 : Int32), S)
  | _ + 1, _ + 2, _, _, _ => none
set_option maxHeartbeats 8000000 in
set_option maxRecDepth 100000 in
theorem w_Mod_giveIfRight {p : Program} {l : Launch} {e : Env} {R : Room} {s : State} {m : MethodId} {args : Array Value} {below : List Frame} {meth : Method} {c : Code} {cells slots : Nat} {Q : State → Prop} {g : gG} {A : Nat → Prop} {ad : Nat → Nat} (hx : p.tables.exec = Jvm.exec) (hb : c.code = b_Mod_giveIfRight) (hml : c.maxLocals = 3) (hown : s.vm.findClass "MacroMillModel" = some m.cls) (htt : ∀ w ∈ gt, w.before args s = true) (hK : va_K g.1 classes (tysG g) s) (hN : nw s) (hA : ∀ q : Nat, s.heap.size ≤ q → A q) (hRf : 4 ≤ R.frames) (hRl : 91 ≤ R.locals) (hRc : cells ≤ R.cells) (hRs : slots ≤ R.slots) (r : Int32) (S9 : sS)
    (kx_12 : ∀ (ls : Array Slot) (H : Heap) (locs : List Loc), va_P g.1 classes (Sw shM g ad S9) H → va_D A (Sw shM g ad S9) → va_S A s.heap H locs → W p l e R s m args below meth c H locs cells slots Q (F0 m 12 ls [])) :
    ∀ k9 : Nat, (∀ (S : sS) (L : Nat → Int32) (M : Nat → Int64) (ls : Array Slot) (H : Heap) (locs : List Loc), f_Mod_giveIfRight k9 0 S L M = some (r, S9) → lv_has ls 3 [(0, .ref (ad 0)), (1, .long (M 1))] → va_P g.1 classes (Sw shM g ad S) H → va_D A (Sw shM g ad S) → va_S A s.heap H locs → W p l e R s m args below meth c H locs cells slots Q (F0 m 0 ls [])) ∧ (∀ (S : sS) (L : Nat → Int32) (M : Nat → Int64) (ls : Array Slot) (H : Heap) (locs : List Loc), f_Mod_giveIfRight k9 1 S L M = some (r, S9) → lv_has ls 3 [(0, .ref (ad 0)), (1, .long (M 1))] → va_P g.1 classes (Sw shM g ad S) H → va_D A (Sw shM g ad S) → va_S A s.heap H locs → W p l e R s m args below meth c H locs cells slots Q (F0 m 12 ls [])) := by
  intro k9
  induction k9 with
  | zero => exact ⟨(fun _ _ _ _ _ _ h => by simp [f_Mod_giveIfRight] at h), (fun _ _ _ _ _ _ h => by simp [f_Mod_giveIfRight] at h)⟩
  | succ k9 ih =>
    refine ⟨?_, ?_⟩
    · intro S L M ls H locs h hl hP hD hS
      simp only [f_Mod_giveIfRight] at h
      refine lv_aload_n hx hb d_Mod_giveIfRight_0 rfl (lv_at hl 0 rfl) ?_
      refine S_getI (h := shM) (C := "MacroMillModel") (T := F_Mod) hx hb htt in_Mod hown hK hP 0 10 rfl rfl rfl (by decide) (htt _ k_2246) (fun _ h9 => h9) d_Mod_giveIfRight_1 ?_
      refine lv_if_ne (tgt := 12) hx hb d_Mod_giveIfRight_4 (by decide) (fun hc1 => ?_) (fun hc1 => ?_)
      · rw [if_neg hc1] at h
        exact (ih.2) S L M ls H locs h (lv_sub hl [0, 1] rfl) hP hD hS
      · rw [if_pos hc1] at h
        refine lv_aload_n hx hb d_Mod_giveIfRight_7 rfl (lv_at hl 0 rfl) ?_
        refine lv_lload_n hx hb d_Mod_giveIfRight_8 rfl (lv_at hl 1 rfl) ?_
        obtain ⟨⟨r2, T2⟩, hq2, h⟩ := Option.bind_eq_some_iff.mp h
        try dsimp only at h
        refine go_vS (As := [.ref (ad 0), .long (M 1)]) (g := g) (A := A) (h := shM) hP hK hD hS hA hN (fun hp => va_runV (As := [.long (M 1)]) (rest := []) ⟨hx, hb, hml, hown, htt⟩ (t_Mod_giveNumber l g _ ad S (M 1 : Int64) k9 r2 T2 hq2) ⟨(cb_L htt k_2844 k_276 k_2841 hd_Mod_giveNumber ⟨(Nat.le_trans (by decide +kernel) hRf), (Nat.le_trans (by decide +kernel) hRl)⟩), htt _ k_2843, htt _ k_155⟩ ⟨hp.1, S_recv hK hP 0 rfl rfl, hp.2⟩ rfl rfl hl.1 rfl (lv_room (Nat.le_of_ble_eq_true rfl)) d_Mod_giveIfRight_9 ⟨hRc, hRs⟩) (fun Sn H locs hw9 hP hD hS => ?_)
        have e8 := hw9
        rw [e8] at hP hD
        refine W.widen (k := cells) (n := slots) (Nat.le_refl _) (Nat.le_refl _) ?_
        exact (ih.2) T2 L M ls H locs h (lv_sub hl [0, 1] rfl) hP hD hS
    · intro S L M ls H locs h hl hP hD hS
      simp only [f_Mod_giveIfRight] at h
      cases h
      exact kx_12 ls H locs hP hD hS
abbrev rm_t_Mod_giveIfRight : Room := { frames := 4, cells := 0, slots := 0, locals := 91 }
theorem t_Mod_giveIfRight (l : Launch) (g : gG) (sz : Nat) (ad : Nat → Nat) (S : sS) (v1 : Int64) (k : Nat) (r : Int32) (S9 : sS) (h : f_Mod_giveIfRight k 0 S (fun _ => 0) (vp_updL (fun _ => 0) 1 v1) = some (r, S9)) : Cv l y_Mod_giveIfRight b_Mod_giveIfRight 3 rm_t_Mod_giveIfRight g [.ref (ad 0), .long v1] (Sw shM g ad S) sz (fun w => ∃ S1 : sS, w = Sw shM g ad S1 ∧ S1 = S9) := by
  refine startV (by decide) (Nat.le_of_ble_eq_true rfl) ?_
  intro p e s m below meth c A ls hx hb hr hml hlocks hmn hown htt hN hA hP hK hD hS hl
  exact (w_Mod_giveIfRight hx hb hml hown htt hK hN hA (by decide +kernel) (by decide +kernel) (by decide +kernel) (by decide +kernel) r S9 (fun ls H locs hP hD hS => fin_v (g := g) (ws := Sw shM g ad S9) hx hb hr hlocks (by decide +kernel) (by decide +kernel) hP hD hS ⟨_, rfl, rfl⟩ d_Mod_giveIfRight_12) k).1 S (fun _ => 0) (vp_updL (fun _ => 0) 1 v1) ls _ _ h hl hP hD hS
def f_Mod_define : Nat → Nat → sS → (Nat → Int32) → (Nat → Int64) → Option (Int32 × sS)
  | 0, _, _, _, _ => none
  | k + 1, 0, S, L, M => (f_Mod_isNameArgument k 0 S (upd (fun _ => 0) 1 (L 1 : Int32)) (fun _ => 0)).bind (fun (r1, T1) => if r1 = (0 : Int32) then ((f_Mod_fail1 k 0 T1 (upd (fun _ => 0) 1 (35 : Int32)) (fun _ => 0)).bind (fun (r7, T7) => some ((0 : Int32), T7))) else ((f_Mod_argumentAt k 0 T1 (upd (upd (fun _ => 0) 1 (L 1 : Int32)) 2 (1 : Int32)) (fun _ => 0)).bind (fun (r3, T3) => (f_Mod_argumentSize k 0 T3 (upd (upd (fun _ => 0) 1 (L 1 : Int32)) 2 (1 : Int32)) (fun _ => 0)).bind (fun (r4, T4) => if (L 2) = (0 : Int32) then ((f_Mod_top 19 16385 k 0 T4 (upd (upd (fun _ => 0) 2 (r3 : Int32)) 3 (r4 : Int32)) (fun _ => 0)).bind (fun (r6, T6) => f_Mod_define k 1 T6 (upd (upd (upd L 3 r3) 4 r4) 100 r6) M)) else (f_Mod_define k 1 T4 (upd (upd (upd L 3 r3) 4 r4) 100 ((-1) : Int32)) M)))))
  | k + 1, 1, S, L, M => if (L 100) < (0 : Int32) then (f_Mod_define k 2 S (upd L 5 (L 100)) M) else (if okI (L 100) 340 = true then (if (S.2.1 15 (L 100 : Int32).toNatClampNeg) = (0 : Int32) then (f_Mod_define k 3 S (upd (upd L 5 (L 100)) 100 (1 : Int32)) M) else (f_Mod_define k 2 S (upd L 5 (L 100)) M)) else none)
  | k + 1, 2, S, L, M => f_Mod_define k 3 S (upd L 100 (0 : Int32)) M
  | k + 1, 3, S, L, M => if (L 100) = (0 : Int32) then (f_Mod_define k 4 S (upd (upd (upd L 6 (L 100)) 101 (0 : Int32)) 100 ((16384 : Int32) - (S.1 0 42))) M) else (if okI (L 5) 340 = true then (if okI (L 5) 340 = true then (f_Mod_define k 4 S (upd (upd (upd L 6 (L 100)) 101 ((S.2.1 13 (L 5 : Int32).toNatClampNeg) + (S.2.1 14 (L 5 : Int32).toNatClampNeg))) 100 ((16384 : Int32) - (S.1 0 42))) M) else none) else none)
  | k + 1, 4, S, L, M => if (L 6) = (0 : Int32) then (if (S.1 0 41) = (300 : Int32) then (f_Mod_define k 6 S (upd L 7 ((L 100) + (L 101))) M) else (f_Mod_define k 5 S (upd L 7 ((L 100) + (L 101))) M)) else (f_Mod_define k 5 S (upd L 7 ((L 100) + (L 101))) M)
  | k + 1, 5, S, L, M => (f_Mod_argumentSize k 0 S (upd (upd (fun _ => 0) 1 (L 1 : Int32)) 2 (2 : Int32)) (fun _ => 0)).bind (fun (r1, T1) => if ((L 4) + r1) ≤ (L 7) then (if (L 5) < (0 : Int32) then (f_Mod_define k 7 T1 L M) else ((f_Mod_forget k 0 T1 (upd (fun _ => 0) 1 (L 5 : Int32)) (fun _ => 0)).bind (fun (r4, T4) => f_Mod_define k 7 T4 L M))) else (f_Mod_define k 6 T1 L M))
  | k + 1, 6, S, L, M => (f_Mod_fail1 k 0 S (upd (fun _ => 0) 1 (40 : Int32)) (fun _ => 0)).bind (fun (r1, T1) => some ((0 : Int32), T1))
  | k + 1, 7, S, L, M => (f_Mod_argumentAt k 0 S (upd (upd (fun _ => 0) 1 (L 1 : Int32)) 2 (2 : Int32)) (fun _ => 0)).bind (fun (r1, T1) => (f_Mod_argumentSize k 0 T1 (upd (upd (fun _ => 0) 1 (L 1 : Int32)) 2 (2 : Int32)) (fun _ => 0)).bind (fun (r2, T2) => (f_Mod_addMeaning k 0 T2 (upd (upd (upd (upd (fun _ => 0) 1 (L 3 : Int32)) 2 (L 4 : Int32)) 3 (r1 : Int32)) 4 (r2 : Int32)) (fun _ => 0)).bind (fun (r3, T3) => some ((0 : Int32), T3))))
  | _ + 1, _ + 8, _, _, _ => none
set_option maxHeartbeats 8000000 in
set_option maxRecDepth 100000 in
theorem w_Mod_define {p : Program} {l : Launch} {e : Env} {R : Room} {s : State} {m : MethodId} {args : Array Value} {below : List Frame} {meth : Method} {c : Code} {cells slots : Nat} {Q : State → Prop} {g : gG} {A : Nat → Prop} {ad : Nat → Nat} (hx : p.tables.exec = Jvm.exec) (hb : c.code = b_Mod_define) (hml : c.maxLocals = 8) (hown : s.vm.findClass "MacroMillModel" = some m.cls) (htt : ∀ w ∈ gt, w.before args s = true) (hK : va_K g.1 classes (tysG g) s) (hN : nw s) (hA : ∀ q : Nat, s.heap.size ≤ q → A q) (hRf : 2 ≤ R.frames) (hRl : 51 ≤ R.locals) (hRc : cells ≤ R.cells) (hRs : slots ≤ R.slots) (r : Int32) (S9 : sS)
    (kx_14 : ∀ (ls : Array Slot) (H : Heap) (locs : List Loc), va_P g.1 classes (Sw shM g ad S9) H → va_D A (Sw shM g ad S9) → va_S A s.heap H locs → W p l e R s m args below meth c H locs cells slots Q (F0 m 14 ls []))
    (kx_143 : ∀ (ls : Array Slot) (H : Heap) (locs : List Loc), va_P g.1 classes (Sw shM g ad S9) H → va_D A (Sw shM g ad S9) → va_S A s.heap H locs → W p l e R s m args below meth c H locs cells slots Q (F0 m 143 ls []))
    (kx_174 : ∀ (ls : Array Slot) (H : Heap) (locs : List Loc), va_P g.1 classes (Sw shM g ad S9) H → va_D A (Sw shM g ad S9) → va_S A s.heap H locs → W p l e R s m args below meth c H locs cells slots Q (F0 m 174 ls [])) :
    ∀ k9 : Nat, (∀ (S : sS) (L : Nat → Int32) (M : Nat → Int64) (ls : Array Slot) (H : Heap) (locs : List Loc), f_Mod_define k9 0 S L M = some (r, S9) → lv_has ls 8 [(0, .ref (ad 0)), (1, .int (L 1)), (2, .int (L 2))] → va_P g.1 classes (Sw shM g ad S) H → va_D A (Sw shM g ad S) → va_S A s.heap H locs → W p l e R s m args below meth c H locs cells slots Q (F0 m 0 ls [])) ∧ (∀ (S : sS) (L : Nat → Int32) (M : Nat → Int64) (ls : Array Slot) (H : Heap) (locs : List Loc), f_Mod_define k9 1 S L M = some (r, S9) → lv_has ls 8 [(0, .ref (ad 0)), (1, .int (L 1)), (2, .int (L 2)), (3, .int (L 3)), (4, .int (L 4))] → va_P g.1 classes (Sw shM g ad S) H → va_D A (Sw shM g ad S) → va_S A s.heap H locs → W p l e R s m args below meth c H locs cells slots Q (F0 m 49 ls [.int (L 100)])) ∧ (∀ (S : sS) (L : Nat → Int32) (M : Nat → Int64) (ls : Array Slot) (H : Heap) (locs : List Loc), f_Mod_define k9 2 S L M = some (r, S9) → lv_has ls 8 [(0, .ref (ad 0)), (1, .int (L 1)), (2, .int (L 2)), (3, .int (L 3)), (4, .int (L 4)), (5, .int (L 5))] → va_P g.1 classes (Sw shM g ad S) H → va_D A (Sw shM g ad S) → va_S A s.heap H locs → W p l e R s m args below meth c H locs cells slots Q (F0 m 70 ls [])) ∧ (∀ (S : sS) (L : Nat → Int32) (M : Nat → Int64) (ls : Array Slot) (H : Heap) (locs : List Loc), f_Mod_define k9 3 S L M = some (r, S9) → lv_has ls 8 [(0, .ref (ad 0)), (1, .int (L 1)), (2, .int (L 2)), (3, .int (L 3)), (4, .int (L 4)), (5, .int (L 5))] → va_P g.1 classes (Sw shM g ad S) H → va_D A (Sw shM g ad S) → va_S A s.heap H locs → W p l e R s m args below meth c H locs cells slots Q (F0 m 71 ls [.int (L 100)])) ∧ (∀ (S : sS) (L : Nat → Int32) (M : Nat → Int64) (ls : Array Slot) (H : Heap) (locs : List Loc), f_Mod_define k9 4 S L M = some (r, S9) → lv_has ls 8 [(0, .ref (ad 0)), (1, .int (L 1)), (2, .int (L 2)), (3, .int (L 3)), (4, .int (L 4)), (5, .int (L 5)), (6, .int (L 6))] → va_P g.1 classes (Sw shM g ad S) H → va_D A (Sw shM g ad S) → va_S A s.heap H locs → W p l e R s m args below meth c H locs cells slots Q (F0 m 105 ls [.int (L 101), .int (L 100)])) ∧ (∀ (S : sS) (L : Nat → Int32) (M : Nat → Int64) (ls : Array Slot) (H : Heap) (locs : List Loc), f_Mod_define k9 5 S L M = some (r, S9) → lv_has ls 8 [(0, .ref (ad 0)), (1, .int (L 1)), (2, .int (L 2)), (3, .int (L 3)), (4, .int (L 4)), (5, .int (L 5)), (6, .int (L 6)), (7, .int (L 7))] → va_P g.1 classes (Sw shM g ad S) H → va_D A (Sw shM g ad S) → va_S A s.heap H locs → W p l e R s m args below meth c H locs cells slots Q (F0 m 123 ls [])) ∧ (∀ (S : sS) (L : Nat → Int32) (M : Nat → Int64) (ls : Array Slot) (H : Heap) (locs : List Loc), f_Mod_define k9 6 S L M = some (r, S9) → lv_has ls 8 [(0, .ref (ad 0)), (1, .int (L 1)), (2, .int (L 2)), (3, .int (L 3)), (4, .int (L 4)), (5, .int (L 5)), (6, .int (L 6)), (7, .int (L 7))] → va_P g.1 classes (Sw shM g ad S) H → va_D A (Sw shM g ad S) → va_S A s.heap H locs → W p l e R s m args below meth c H locs cells slots Q (F0 m 137 ls [])) ∧ (∀ (S : sS) (L : Nat → Int32) (M : Nat → Int64) (ls : Array Slot) (H : Heap) (locs : List Loc), f_Mod_define k9 7 S L M = some (r, S9) → lv_has ls 8 [(0, .ref (ad 0)), (1, .int (L 1)), (2, .int (L 2)), (3, .int (L 3)), (4, .int (L 4)), (5, .int (L 5)), (6, .int (L 6)), (7, .int (L 7))] → va_P g.1 classes (Sw shM g ad S) H → va_D A (Sw shM g ad S) → va_S A s.heap H locs → W p l e R s m args below meth c H locs cells slots Q (F0 m 155 ls [])) := by
  intro k9
  induction k9 with
  | zero => exact ⟨(fun _ _ _ _ _ _ h => by simp [f_Mod_define] at h), (fun _ _ _ _ _ _ h => by simp [f_Mod_define] at h), (fun _ _ _ _ _ _ h => by simp [f_Mod_define] at h), (fun _ _ _ _ _ _ h => by simp [f_Mod_define] at h), (fun _ _ _ _ _ _ h => by simp [f_Mod_define] at h), (fun _ _ _ _ _ _ h => by simp [f_Mod_define] at h), (fun _ _ _ _ _ _ h => by simp [f_Mod_define] at h), (fun _ _ _ _ _ _ h => by simp [f_Mod_define] at h)⟩
  | succ k9 ih =>
    refine ⟨?_, ?_, ?_, ?_, ?_, ?_, ?_, ?_⟩
    · intro S L M ls H locs h hl hP hD hS
      simp only [f_Mod_define] at h
      refine lv_aload_n hx hb d_Mod_define_0 rfl (lv_at hl 0 rfl) ?_
      refine lv_iload_n hx hb d_Mod_define_1 rfl (lv_at hl 1 rfl) ?_
      obtain ⟨⟨r1, T1⟩, hq1, h⟩ := Option.bind_eq_some_iff.mp h
      try dsimp only at h
      refine go_iS (As := [.ref (ad 0), .int (L 1)]) (g := g) (A := A) (h := shM) hP hK hD hS hA hN (fun hp => va_runV (As := [.int (L 1)]) (rest := []) ⟨hx, hb, hml, hown, htt⟩ (t_Mod_isNameArgument l g _ ad S (L 1 : Int32) k9 r1 T1 hq1) ⟨(cb_L htt k_2859 k_276 k_2856 hd_Mod_isNameArgument ⟨(Nat.le_trans (by decide +kernel) hRf), (Nat.le_trans (by decide +kernel) hRl)⟩), htt _ k_2858, htt _ k_158⟩ ⟨hp.1, S_recv hK hP 0 rfl rfl, hp.2⟩ rfl rfl hl.1 rfl (lv_room (Nat.le_of_ble_eq_true rfl)) d_Mod_define_2 ⟨hRc, hRs⟩) (fun r0 Sn H locs hw9 hP hD hS => ?_)
      obtain ⟨e9, e8⟩ := hw9
      rw [e8] at hP hD
      refine W.widen (k := cells) (n := slots) (Nat.le_refl _) (Nat.le_refl _) ?_
      refine toI (y := r1) e9 ?_
      refine lv_if_ne (tgt := 15) hx hb d_Mod_define_5 (by decide) (fun hc2 => ?_) (fun hc2 => ?_)
      · rw [if_neg hc2] at h
        refine lv_aload_n hx hb d_Mod_define_15 rfl (lv_at hl 0 rfl) ?_
        refine lv_iload_n hx hb d_Mod_define_16 rfl (lv_at hl 1 rfl) ?_
        refine lv_iconst (v := 1) hx hb d_Mod_define_17 (by decide) ?_
        obtain ⟨⟨r3, T3⟩, hq3, h⟩ := Option.bind_eq_some_iff.mp h
        try dsimp only at h
        refine go_iS (As := [.ref (ad 0), .int (L 1), .int 1]) (g := g) (A := A) (h := shM) hP hK hD hS hA hN (fun hp => va_runV (As := [.int (L 1), .int 1]) (rest := []) ⟨hx, hb, hml, hown, htt⟩ (t_Mod_argumentAt l g _ ad T1 (L 1 : Int32) (1 : Int32) k9 r3 T3 hq3) ⟨(cb_L htt k_2836 k_276 k_2833 hd_Mod_argumentAt ⟨(Nat.le_trans (by decide +kernel) hRf), (Nat.le_trans (by decide +kernel) hRl)⟩), htt _ k_2835, htt _ k_153⟩ ⟨hp.1, S_recv hK hP 0 rfl rfl, hp.2⟩ rfl rfl hl.1 rfl (lv_room (Nat.le_of_ble_eq_true rfl)) d_Mod_define_18 ⟨hRc, hRs⟩) (fun r0 Sn H locs hw9 hP hD hS => ?_)
        obtain ⟨e9, e8⟩ := hw9
        rw [e8] at hP hD
        refine W.widen (k := cells) (n := slots) (Nat.le_refl _) (Nat.le_refl _) ?_
        refine toI (y := r3) e9 ?_
        refine lv_istore_n (lv' := [(3, .int r3), (0, .ref (ad 0)), (1, .int (L 1)), (2, .int (L 2))]) hx hb d_Mod_define_21 rfl hl (by decide) rfl (fun ls hl => ?_)
        refine lv_aload_n hx hb d_Mod_define_22 rfl (lv_at hl 1 rfl) ?_
        refine lv_iload_n hx hb d_Mod_define_23 rfl (lv_at hl 2 rfl) ?_
        refine lv_iconst (v := 1) hx hb d_Mod_define_24 (by decide) ?_
        obtain ⟨⟨r4, T4⟩, hq4, h⟩ := Option.bind_eq_some_iff.mp h
        try dsimp only at h
        refine go_iS (As := [.ref (ad 0), .int (L 1), .int 1]) (g := g) (A := A) (h := shM) hP hK hD hS hA hN (fun hp => va_runV (As := [.int (L 1), .int 1]) (rest := []) ⟨hx, hb, hml, hown, htt⟩ (t_Mod_argumentSize l g _ ad T3 (L 1 : Int32) (1 : Int32) k9 r4 T4 hq4) ⟨(cb_L htt k_2840 k_276 k_2837 hd_Mod_argumentSize ⟨(Nat.le_trans (by decide +kernel) hRf), (Nat.le_trans (by decide +kernel) hRl)⟩), htt _ k_2839, htt _ k_154⟩ ⟨hp.1, S_recv hK hP 0 rfl rfl, hp.2⟩ rfl rfl hl.1 rfl (lv_room (Nat.le_of_ble_eq_true rfl)) d_Mod_define_25 ⟨hRc, hRs⟩) (fun r0 Sn H locs hw9 hP hD hS => ?_)
        obtain ⟨e9, e8⟩ := hw9
        rw [e8] at hP hD
        refine W.widen (k := cells) (n := slots) (Nat.le_refl _) (Nat.le_refl _) ?_
        refine toI (y := r4) e9 ?_
        refine lv_istore (lv' := [(4, .int r4), (3, .int r3), (0, .ref (ad 0)), (1, .int (L 1)), (2, .int (L 2))]) hx hb d_Mod_define_28 hl (by decide) rfl (fun ls hl => ?_)
        refine lv_iload_n hx hb d_Mod_define_30 rfl (lv_at hl 4 rfl) ?_
        refine lv_if_eq (tgt := 38) hx hb d_Mod_define_31 (by decide) (fun hc5 => ?_) (fun hc5 => ?_)
        · rw [if_pos hc5] at h
          show W _ _ _ _ _ _ _ _ _ _ _ _ _ _ _ (F0 _ 38 _ _)
          refine lv_aload_n hx hb d_Mod_define_38 rfl (lv_at hl 2 rfl) ?_
          refine lv_aload_n hx hb d_Mod_define_39 rfl (lv_at hl 2 rfl) ?_
          refine S_getR (h := shM) (C := "MacroMillModel") (T := F_Mod) hx hb htt in_Mod hown hK hP 0 48 rfl 20 rfl rfl (by decide) (htt _ k_2284) (fun _ h9 => h9) d_Mod_define_40 ?_
          refine lv_iload_n hx hb d_Mod_define_43 rfl (lv_at hl 1 rfl) ?_
          refine lv_iload hx hb d_Mod_define_44 (lv_at hl 0 rfl) ?_
          obtain ⟨⟨r6, T6⟩, hq6, h⟩ := Option.bind_eq_some_iff.mp h
          try dsimp only at h
          refine go_iS (As := [.ref (ad 0), .ref (ad 20), .int r3, .int r4]) (g := g) (A := A) (h := shM) hP hK hD hS hA hN (fun hp => va_runV (As := [.ref (ad 20), .int r3, .int r4]) (rest := []) ⟨hx, hb, hml, hown, htt⟩ (t_Mod_top l g _ ad T4 19 16385 (r3 : Int32) (r4 : Int32) rfl k9 r6 T6 hq6) ⟨(cb_L htt k_2785 k_276 k_2782 hd_Mod_top ⟨(Nat.le_trans (by decide +kernel) hRf), (Nat.le_trans (by decide +kernel) hRl)⟩), htt _ k_2784, htt _ k_141⟩ ⟨hp.1, S_recv hK hP 0 rfl rfl, hp.2⟩ rfl rfl hl.1 rfl (lv_room (Nat.le_of_ble_eq_true rfl)) d_Mod_define_46 ⟨hRc, hRs⟩) (fun r0 Sn H locs hw9 hP hD hS => ?_)
          obtain ⟨e9, e8⟩ := hw9
          rw [e8] at hP hD
          refine W.widen (k := cells) (n := slots) (Nat.le_refl _) (Nat.le_refl _) ?_
          refine toI (y := r6) e9 ?_
          exact (ih.2.1) T6 (upd (upd (upd L 3 r3) 4 r4) 100 r6) M ls H locs h (lv_sub hl [2, 3, 4, 1, 0] rfl) hP hD hS
        · rw [if_neg hc5] at h
          show W _ _ _ _ _ _ _ _ _ _ _ _ _ _ _ (F0 _ 34 _ _)
          refine lv_iconst (v := (-1)) hx hb d_Mod_define_34 (by decide) ?_
          refine lv_goto (tgt := 49) hx hb d_Mod_define_35 (by decide) ?_
          exact (ih.2.1) T4 (upd (upd (upd L 3 r3) 4 r4) 100 ((-1) : Int32)) M ls H locs h (lv_sub hl [2, 3, 4, 1, 0] rfl) hP hD hS
      · rw [if_pos hc2] at h
        refine lv_aload_n hx hb d_Mod_define_8 rfl (lv_at hl 0 rfl) ?_
        refine lv_bipush (v := 35) hx hb d_Mod_define_9 (by decide) ?_
        obtain ⟨⟨r7, T7⟩, hq7, h⟩ := Option.bind_eq_some_iff.mp h
        try dsimp only at h
        refine go_vS (As := [.ref (ad 0), .int 35]) (g := g) (A := A) (h := shM) hP hK hD hS hA hN (fun hp => va_runV (As := [.int 35]) (rest := []) ⟨hx, hb, hml, hown, htt⟩ (t_Mod_fail1 l g _ ad T1 (35 : Int32) k9 r7 T7 hq7) ⟨(cb_L htt k_2767 k_276 k_2764 hd_Mod_fail1 ⟨(Nat.le_trans (by decide +kernel) hRf), (Nat.le_trans (by decide +kernel) hRl)⟩), htt _ k_2766, htt _ k_138⟩ ⟨hp.1, S_recv hK hP 0 rfl rfl, hp.2⟩ rfl rfl hl.1 rfl (lv_room (Nat.le_of_ble_eq_true rfl)) d_Mod_define_11 ⟨hRc, hRs⟩) (fun Sn H locs hw9 hP hD hS => ?_)
        have e8 := hw9
        rw [e8] at hP hD
        refine W.widen (k := cells) (n := slots) (Nat.le_refl _) (Nat.le_refl _) ?_
        cases h
        exact kx_14 ls H locs hP hD hS
    · intro S L M ls H locs h hl hP hD hS
      simp only [f_Mod_define] at h
      refine lv_istore (lv' := [(5, .int (L 100)), (0, .ref (ad 0)), (1, .int (L 1)), (2, .int (L 2)), (3, .int (L 3)), (4, .int (L 4))]) hx hb d_Mod_define_49 hl (by decide) rfl (fun ls hl => ?_)
      refine lv_iload hx hb d_Mod_define_51 (lv_at hl 0 rfl) ?_
      refine lv_if_lt (tgt := 70) hx hb d_Mod_define_53 (by decide) (fun hc1 => ?_) (fun hc1 => ?_)
      · rw [if_pos hc1] at h
        exact (ih.2.2.1) S (upd L 5 (L 100)) M ls H locs h (lv_sub hl [1, 2, 3, 4, 5, 0] rfl) hP hD hS
      · rw [if_neg hc1] at h
        refine lv_aload_n hx hb d_Mod_define_56 rfl (lv_at hl 1 rfl) ?_
        refine S_getR (h := shM) (C := "MacroMillModel") (T := F_Mod) hx hb htt in_Mod hown hK hP 0 38 rfl 16 rfl rfl (by decide) (htt _ k_2274) (fun _ h9 => h9) d_Mod_define_57 ?_
        refine lv_iload hx hb d_Mod_define_60 (lv_at hl 0 rfl) ?_
        obtain ⟨hv2, h⟩ := chk h
        refine S_iald (h := shM) (i := L 100) hx hb hK hP 15 rfl (okI_in hv2) d_Mod_define_62 ?_
        refine lv_if_ne (tgt := 70) hx hb d_Mod_define_63 (by decide) (fun hc3 => ?_) (fun hc3 => ?_)
        · rw [if_neg hc3] at h
          exact (ih.2.2.1) S (upd L 5 (L 100)) M ls H locs h (lv_sub hl [1, 2, 3, 4, 5, 0] rfl) hP hD hS
        · rw [if_pos hc3] at h
          refine lv_iconst (v := 1) hx hb d_Mod_define_66 (by decide) ?_
          refine lv_goto (tgt := 71) hx hb d_Mod_define_67 (by decide) ?_
          exact (ih.2.2.2.1) S (upd (upd L 5 (L 100)) 100 (1 : Int32)) M ls H locs h (lv_sub hl [1, 2, 3, 4, 5, 0] rfl) hP hD hS
    · intro S L M ls H locs h hl hP hD hS
      simp only [f_Mod_define] at h
      refine lv_iconst (v := 0) hx hb d_Mod_define_70 (by decide) ?_
      exact (ih.2.2.2.1) S (upd L 100 (0 : Int32)) M ls H locs h (lv_sub hl [0, 1, 2, 3, 4, 5] rfl) hP hD hS
    · intro S L M ls H locs h hl hP hD hS
      simp only [f_Mod_define] at h
      refine lv_istore (lv' := [(6, .int (L 100)), (0, .ref (ad 0)), (1, .int (L 1)), (2, .int (L 2)), (3, .int (L 3)), (4, .int (L 4)), (5, .int (L 5))]) hx hb d_Mod_define_71 hl (by decide) rfl (fun ls hl => ?_)
      refine lv_sipush (v := 16384) hx hb d_Mod_define_73 (by decide) ?_
      refine lv_aload_n hx hb d_Mod_define_76 rfl (lv_at hl 1 rfl) ?_
      refine S_getI (h := shM) (C := "MacroMillModel") (T := F_Mod) hx hb htt in_Mod hown hK hP 0 42 rfl rfl rfl (by decide) (htt _ k_2278) (fun _ h9 => h9) d_Mod_define_77 ?_
      refine lv_isub hx hb d_Mod_define_80 ?_
      refine lv_iload hx hb d_Mod_define_81 (lv_at hl 0 rfl) ?_
      refine lv_if_eq (tgt := 104) hx hb d_Mod_define_83 (by decide) (fun hc1 => ?_) (fun hc1 => ?_)
      · rw [if_pos hc1] at h
        refine lv_iconst (v := 0) hx hb d_Mod_define_104 (by decide) ?_
        exact (ih.2.2.2.2.1) S (upd (upd (upd L 6 (L 100)) 101 (0 : Int32)) 100 ((16384 : Int32) - (S.1 0 42))) M ls H locs h (lv_sub hl [1, 2, 3, 4, 5, 6, 0] rfl) hP hD hS
      · rw [if_neg hc1] at h
        refine lv_aload_n hx hb d_Mod_define_86 rfl (lv_at hl 1 rfl) ?_
        refine S_getR (h := shM) (C := "MacroMillModel") (T := F_Mod) hx hb htt in_Mod hown hK hP 0 36 rfl 14 rfl rfl (by decide) (htt _ k_2272) (fun _ h9 => h9) d_Mod_define_87 ?_
        refine lv_iload hx hb d_Mod_define_90 (lv_at hl 6 rfl) ?_
        obtain ⟨hv2, h⟩ := chk h
        refine S_iald (h := shM) (i := L 5) hx hb hK hP 13 rfl (okI_in hv2) d_Mod_define_92 ?_
        refine lv_aload_n hx hb d_Mod_define_93 rfl (lv_at hl 1 rfl) ?_
        show W _ _ _ _ _ _ _ _ _ _ _ _ _ _ _ (F0 _ 94 _ _)
        refine S_getR (h := shM) (C := "MacroMillModel") (T := F_Mod) hx hb htt in_Mod hown hK hP 0 37 rfl 15 rfl rfl (by decide) (htt _ k_2273) (fun _ h9 => h9) d_Mod_define_94 ?_
        refine lv_iload hx hb d_Mod_define_97 (lv_at hl 6 rfl) ?_
        obtain ⟨hv3, h⟩ := chk h
        refine S_iald (h := shM) (i := L 5) hx hb hK hP 14 rfl (okI_in hv3) d_Mod_define_99 ?_
        refine lv_iadd hx hb d_Mod_define_100 ?_
        refine lv_goto (tgt := 105) hx hb d_Mod_define_101 (by decide) ?_
        exact (ih.2.2.2.2.1) S (upd (upd (upd L 6 (L 100)) 101 ((S.2.1 13 (L 5 : Int32).toNatClampNeg) + (S.2.1 14 (L 5 : Int32).toNatClampNeg))) 100 ((16384 : Int32) - (S.1 0 42))) M ls H locs h (lv_sub hl [1, 2, 3, 4, 5, 6, 0] rfl) hP hD hS
    · intro S L M ls H locs h hl hP hD hS
      simp only [f_Mod_define] at h
      refine lv_iadd hx hb d_Mod_define_105 ?_
      refine lv_istore (lv' := [(7, .int ((L 100) + (L 101))), (0, .ref (ad 0)), (1, .int (L 1)), (2, .int (L 2)), (3, .int (L 3)), (4, .int (L 4)), (5, .int (L 5)), (6, .int (L 6))]) hx hb d_Mod_define_106 hl (by decide) rfl (fun ls hl => ?_)
      refine lv_iload hx hb d_Mod_define_108 (lv_at hl 7 rfl) ?_
      refine lv_if_ne (tgt := 123) hx hb d_Mod_define_110 (by decide) (fun hc1 => ?_) (fun hc1 => ?_)
      · rw [if_neg hc1] at h
        exact (ih.2.2.2.2.2.1) S (upd L 7 ((L 100) + (L 101))) M ls H locs h (lv_sub hl [1, 2, 3, 4, 5, 6, 7, 0] rfl) hP hD hS
      · rw [if_pos hc1] at h
        refine lv_aload_n hx hb d_Mod_define_113 rfl (lv_at hl 1 rfl) ?_
        refine S_getI (h := shM) (C := "MacroMillModel") (T := F_Mod) hx hb htt in_Mod hown hK hP 0 41 rfl rfl rfl (by decide) (htt _ k_2277) (fun _ h9 => h9) d_Mod_define_114 ?_
        refine lv_sipush (v := 300) hx hb d_Mod_define_117 (by decide) ?_
        refine lv_icmp_eq (tgt := 137) hx hb d_Mod_define_120 (by decide) (fun hc2 => ?_) (fun hc2 => ?_)
        · rw [if_pos hc2] at h
          exact (ih.2.2.2.2.2.2.1) S (upd L 7 ((L 100) + (L 101))) M ls H locs h (lv_sub hl [1, 2, 3, 4, 5, 6, 7, 0] rfl) hP hD hS
        · rw [if_neg hc2] at h
          exact (ih.2.2.2.2.2.1) S (upd L 7 ((L 100) + (L 101))) M ls H locs h (lv_sub hl [1, 2, 3, 4, 5, 6, 7, 0] rfl) hP hD hS
    · intro S L M ls H locs h hl hP hD hS
      simp only [f_Mod_define] at h
      refine lv_iload hx hb d_Mod_define_123 (lv_at hl 4 rfl) ?_
      refine lv_aload_n hx hb d_Mod_define_125 rfl (lv_at hl 0 rfl) ?_
      refine lv_iload_n hx hb d_Mod_define_126 rfl (lv_at hl 1 rfl) ?_
      refine lv_iconst (v := 2) hx hb d_Mod_define_127 (by decide) ?_
      obtain ⟨⟨r1, T1⟩, hq1, h⟩ := Option.bind_eq_some_iff.mp h
      try dsimp only at h
      refine go_iS (As := [.ref (ad 0), .int (L 1), .int 2]) (g := g) (A := A) (h := shM) hP hK hD hS hA hN (fun hp => va_runV (As := [.int (L 1), .int 2]) (rest := [.int (L 4)]) ⟨hx, hb, hml, hown, htt⟩ (t_Mod_argumentSize l g _ ad S (L 1 : Int32) (2 : Int32) k9 r1 T1 hq1) ⟨(cb_L htt k_2840 k_276 k_2837 hd_Mod_argumentSize ⟨(Nat.le_trans (by decide +kernel) hRf), (Nat.le_trans (by decide +kernel) hRl)⟩), htt _ k_2839, htt _ k_154⟩ ⟨hp.1, S_recv hK hP 0 rfl rfl, hp.2⟩ rfl rfl hl.1 rfl (lv_room (Nat.le_of_ble_eq_true rfl)) d_Mod_define_128 ⟨hRc, hRs⟩) (fun r0 Sn H locs hw9 hP hD hS => ?_)
      obtain ⟨e9, e8⟩ := hw9
      rw [e8] at hP hD
      refine W.widen (k := cells) (n := slots) (Nat.le_refl _) (Nat.le_refl _) ?_
      refine toI (y := r1) e9 ?_
      refine lv_iadd hx hb d_Mod_define_131 ?_
      refine lv_iload hx hb d_Mod_define_132 (lv_at hl 7 rfl) ?_
      refine lv_icmp_le (tgt := 144) hx hb d_Mod_define_134 (by decide) (fun hc2 => ?_) (fun hc2 => ?_)
      · rw [if_pos hc2] at h
        refine lv_iload hx hb d_Mod_define_144 (lv_at hl 5 rfl) ?_
        refine lv_if_lt (tgt := 155) hx hb d_Mod_define_146 (by decide) (fun hc3 => ?_) (fun hc3 => ?_)
        · rw [if_pos hc3] at h
          exact (ih.2.2.2.2.2.2.2) T1 L M ls H locs h (lv_sub hl [0, 1, 2, 3, 4, 5, 6, 7] rfl) hP hD hS
        · rw [if_neg hc3] at h
          refine lv_aload_n hx hb d_Mod_define_149 rfl (lv_at hl 0 rfl) ?_
          refine lv_iload hx hb d_Mod_define_150 (lv_at hl 5 rfl) ?_
          obtain ⟨⟨r4, T4⟩, hq4, h⟩ := Option.bind_eq_some_iff.mp h
          try dsimp only at h
          refine go_vS (As := [.ref (ad 0), .int (L 5)]) (g := g) (A := A) (h := shM) hP hK hD hS hA hN (fun hp => va_runV (As := [.int (L 5)]) (rest := []) ⟨hx, hb, hml, hown, htt⟩ (t_Mod_forget l g _ ad T1 (L 5 : Int32) k9 r4 T4 hq4) ⟨(cb_L htt k_2863 k_276 k_2860 hd_Mod_forget ⟨(Nat.le_trans (by decide +kernel) hRf), (Nat.le_trans (by decide +kernel) hRl)⟩), htt _ k_2862, htt _ k_159⟩ ⟨hp.1, S_recv hK hP 0 rfl rfl, hp.2⟩ rfl rfl hl.1 rfl (lv_room (Nat.le_of_ble_eq_true rfl)) d_Mod_define_152 ⟨hRc, hRs⟩) (fun Sn H locs hw9 hP hD hS => ?_)
          have e8 := hw9
          rw [e8] at hP hD
          refine W.widen (k := cells) (n := slots) (Nat.le_refl _) (Nat.le_refl _) ?_
          exact (ih.2.2.2.2.2.2.2) T4 L M ls H locs h (lv_sub hl [0, 1, 2, 3, 4, 5, 6, 7] rfl) hP hD hS
      · rw [if_neg hc2] at h
        exact (ih.2.2.2.2.2.2.1) T1 L M ls H locs h (lv_sub hl [0, 1, 2, 3, 4, 5, 6, 7] rfl) hP hD hS
    · intro S L M ls H locs h hl hP hD hS
      simp only [f_Mod_define] at h
      refine lv_aload_n hx hb d_Mod_define_137 rfl (lv_at hl 0 rfl) ?_
      refine lv_bipush (v := 40) hx hb d_Mod_define_138 (by decide) ?_
      obtain ⟨⟨r1, T1⟩, hq1, h⟩ := Option.bind_eq_some_iff.mp h
      try dsimp only at h
      refine go_vS (As := [.ref (ad 0), .int 40]) (g := g) (A := A) (h := shM) hP hK hD hS hA hN (fun hp => va_runV (As := [.int 40]) (rest := []) ⟨hx, hb, hml, hown, htt⟩ (t_Mod_fail1 l g _ ad S (40 : Int32) k9 r1 T1 hq1) ⟨(cb_L htt k_2767 k_276 k_2764 hd_Mod_fail1 ⟨(Nat.le_trans (by decide +kernel) hRf), (Nat.le_trans (by decide +kernel) hRl)⟩), htt _ k_2766, htt _ k_138⟩ ⟨hp.1, S_recv hK hP 0 rfl rfl, hp.2⟩ rfl rfl hl.1 rfl (lv_room (Nat.le_of_ble_eq_true rfl)) d_Mod_define_140 ⟨hRc, hRs⟩) (fun Sn H locs hw9 hP hD hS => ?_)
      have e8 := hw9
      rw [e8] at hP hD
      refine W.widen (k := cells) (n := slots) (Nat.le_refl _) (Nat.le_refl _) ?_
      cases h
      exact kx_143 ls H locs hP hD hS
    · intro S L M ls H locs h hl hP hD hS
      simp only [f_Mod_define] at h
      refine lv_aload_n hx hb d_Mod_define_155 rfl (lv_at hl 0 rfl) ?_
      refine lv_iload_n hx hb d_Mod_define_156 rfl (lv_at hl 3 rfl) ?_
      refine lv_iload hx hb d_Mod_define_157 (lv_at hl 4 rfl) ?_
      refine lv_aload_n hx hb d_Mod_define_159 rfl (lv_at hl 0 rfl) ?_
      refine lv_iload_n hx hb d_Mod_define_160 rfl (lv_at hl 1 rfl) ?_
      refine lv_iconst (v := 2) hx hb d_Mod_define_161 (by decide) ?_
      obtain ⟨⟨r1, T1⟩, hq1, h⟩ := Option.bind_eq_some_iff.mp h
      try dsimp only at h
      refine go_iS (As := [.ref (ad 0), .int (L 1), .int 2]) (g := g) (A := A) (h := shM) hP hK hD hS hA hN (fun hp => va_runV (As := [.int (L 1), .int 2]) (rest := [.int (L 4), .int (L 3), .ref (ad 0)]) ⟨hx, hb, hml, hown, htt⟩ (t_Mod_argumentAt l g _ ad S (L 1 : Int32) (2 : Int32) k9 r1 T1 hq1) ⟨(cb_L htt k_2836 k_276 k_2833 hd_Mod_argumentAt ⟨(Nat.le_trans (by decide +kernel) hRf), (Nat.le_trans (by decide +kernel) hRl)⟩), htt _ k_2835, htt _ k_153⟩ ⟨hp.1, S_recv hK hP 0 rfl rfl, hp.2⟩ rfl rfl hl.1 rfl (lv_room (Nat.le_of_ble_eq_true rfl)) d_Mod_define_162 ⟨hRc, hRs⟩) (fun r0 Sn H locs hw9 hP hD hS => ?_)
      obtain ⟨e9, e8⟩ := hw9
      rw [e8] at hP hD
      refine W.widen (k := cells) (n := slots) (Nat.le_refl _) (Nat.le_refl _) ?_
      refine toI (y := r1) e9 ?_
      refine lv_aload_n hx hb d_Mod_define_165 rfl (lv_at hl 0 rfl) ?_
      refine lv_iload_n hx hb d_Mod_define_166 rfl (lv_at hl 1 rfl) ?_
      refine lv_iconst (v := 2) hx hb d_Mod_define_167 (by decide) ?_
      obtain ⟨⟨r2, T2⟩, hq2, h⟩ := Option.bind_eq_some_iff.mp h
      try dsimp only at h
      refine go_iS (As := [.ref (ad 0), .int (L 1), .int 2]) (g := g) (A := A) (h := shM) hP hK hD hS hA hN (fun hp => va_runV (As := [.int (L 1), .int 2]) (rest := [.int r1, .int (L 4), .int (L 3), .ref (ad 0)]) ⟨hx, hb, hml, hown, htt⟩ (t_Mod_argumentSize l g _ ad T1 (L 1 : Int32) (2 : Int32) k9 r2 T2 hq2) ⟨(cb_L htt k_2840 k_276 k_2837 hd_Mod_argumentSize ⟨(Nat.le_trans (by decide +kernel) hRf), (Nat.le_trans (by decide +kernel) hRl)⟩), htt _ k_2839, htt _ k_154⟩ ⟨hp.1, S_recv hK hP 0 rfl rfl, hp.2⟩ rfl rfl hl.1 rfl (lv_room (Nat.le_of_ble_eq_true rfl)) d_Mod_define_168 ⟨hRc, hRs⟩) (fun r0 Sn H locs hw9 hP hD hS => ?_)
      obtain ⟨e9, e8⟩ := hw9
      rw [e8] at hP hD
      refine W.widen (k := cells) (n := slots) (Nat.le_refl _) (Nat.le_refl _) ?_
      refine toI (y := r2) e9 ?_
      obtain ⟨⟨r3, T3⟩, hq3, h⟩ := Option.bind_eq_some_iff.mp h
      try dsimp only at h
      refine go_vS (As := [.ref (ad 0), .int (L 3), .int (L 4), .int r1, .int r2]) (g := g) (A := A) (h := shM) hP hK hD hS hA hN (fun hp => va_runV (As := [.int (L 3), .int (L 4), .int r1, .int r2]) (rest := []) ⟨hx, hb, hml, hown, htt⟩ (t_Mod_addMeaning l g _ ad T2 (L 3 : Int32) (L 4 : Int32) (r1 : Int32) (r2 : Int32) k9 r3 T3 hq3) ⟨(cb_L htt k_2867 k_276 k_2864 hd_Mod_addMeaning ⟨(Nat.le_trans (by decide +kernel) hRf), (Nat.le_trans (by decide +kernel) hRl)⟩), htt _ k_2866, htt _ k_160⟩ ⟨hp.1, S_recv hK hP 0 rfl rfl, hp.2⟩ rfl rfl hl.1 rfl (lv_room (Nat.le_of_ble_eq_true rfl)) d_Mod_define_171 ⟨hRc, hRs⟩) (fun Sn H locs hw9 hP hD hS => ?_)
      have e8 := hw9
      rw [e8] at hP hD
      refine W.widen (k := cells) (n := slots) (Nat.le_refl _) (Nat.le_refl _) ?_
      cases h
      exact kx_174 ls H locs hP hD hS
abbrev rm_t_Mod_define : Room := { frames := 2, cells := 0, slots := 0, locals := 51 }
theorem t_Mod_define (l : Launch) (g : gG) (sz : Nat) (ad : Nat → Nat) (S : sS) (v1 : Int32) (v2 : Int32) (k : Nat) (r : Int32) (S9 : sS) (h : f_Mod_define k 0 S (upd (upd (fun _ => 0) 1 v1) 2 v2) (fun _ => 0) = some (r, S9)) : Cv l y_Mod_define b_Mod_define 8 rm_t_Mod_define g [.ref (ad 0), .int v1, .int v2] (Sw shM g ad S) sz (fun w => ∃ S1 : sS, w = Sw shM g ad S1 ∧ S1 = S9) := by
  refine startV (by decide) (Nat.le_of_ble_eq_true rfl) ?_
  intro p e s m below meth c A ls hx hb hr hml hlocks hmn hown htt hN hA hP hK hD hS hl
  exact (w_Mod_define hx hb hml hown htt hK hN hA (by decide +kernel) (by decide +kernel) (by decide +kernel) (by decide +kernel) r S9 (fun ls H locs hP hD hS => fin_v (g := g) (ws := Sw shM g ad S9) hx hb hr hlocks (by decide +kernel) (by decide +kernel) hP hD hS ⟨_, rfl, rfl⟩ d_Mod_define_14) (fun ls H locs hP hD hS => fin_v (g := g) (ws := Sw shM g ad S9) hx hb hr hlocks (by decide +kernel) (by decide +kernel) hP hD hS ⟨_, rfl, rfl⟩ d_Mod_define_143) (fun ls H locs hP hD hS => fin_v (g := g) (ws := Sw shM g ad S9) hx hb hr hlocks (by decide +kernel) (by decide +kernel) hP hD hS ⟨_, rfl, rfl⟩ d_Mod_define_174) k).1 S (upd (upd (fun _ => 0) 1 v1) 2 v2) (fun _ => 0) ls _ _ h hl hP hD hS
def f_Mod_choose : Nat → Nat → sS → (Nat → Int32) → (Nat → Int64) → Option (Int32 × sS)
  | 0, _, _, _, _ => none
  | k + 1, 0, S, L, M => if (3 : Int32) ≤ (L 2) then (f_Mod_choose k 1 S (upd (upd L 3 (1 : Int32)) 100 (0 : Int32)) M) else (f_Mod_choose k 1 S (upd (upd L 3 (1 : Int32)) 100 (1 : Int32)) M)
  | k + 1, 1, S, L, M => f_Mod_choose k 2 S (upd L 4 (L 100)) M
  | k + 1, 2, S, L, M => if (L 4) = (0 : Int32) then ((f_Mod_same k 0 S (upd (upd (upd (fun _ => 0) 1 (L 1 : Int32)) 2 (L 3 : Int32)) 3 ((L 3) + (1 : Int32) : Int32)) (fun _ => 0)).bind (fun (r2, T2) => if r2 = (0 : Int32) then (if (6 : Int32) ≤ (((L 2) - (L 3)) + (1 : Int32)) then (f_Mod_choose k 4 T2 (upd (upd L 3 ((L 3) + (3 : Int32))) 5 (((L 2) - (L 3)) + (1 : Int32))) M) else (if (((L 2) - (L 3)) + (1 : Int32)) ≤ (3 : Int32) then (f_Mod_choose k 3 T2 (upd L 5 (((L 2) - (L 3)) + (1 : Int32))) M) else ((f_Mod_giveArgument k 0 T2 (upd (upd (fun _ => 0) 1 (L 1 : Int32)) 2 ((L 3) + (3 : Int32) : Int32)) (fun _ => 0)).bind (fun (r6, T6) => f_Mod_choose k 3 T6 (upd L 5 (((L 2) - (L 3)) + (1 : Int32))) M)))) else ((f_Mod_giveArgument k 0 T2 (upd (upd (fun _ => 0) 1 (L 1 : Int32)) 2 ((L 3) + (2 : Int32) : Int32)) (fun _ => 0)).bind (fun (r7, T7) => f_Mod_choose k 4 T7 (upd (upd L 4 (1 : Int32)) 5 (((L 2) - (L 3)) + (1 : Int32))) M)))) else (some ((0 : Int32), S))
  | k + 1, 3, S, L, M => f_Mod_choose k 4 S (upd L 4 (1 : Int32)) M
  | k + 1, 4, S, L, M => f_Mod_choose k 2 S L M
  | _ + 1, _ + 5, _, _, _ => none
set_option maxHeartbeats 8000000 in
set_option maxRecDepth 100000 in
theorem w_Mod_choose {p : Program} {l : Launch} {e : Env} {R : Room} {s : State} {m : MethodId} {args : Array Value} {below : List Frame} {meth : Method} {c : Code} {cells slots : Nat} {Q : State → Prop} {g : gG} {A : Nat → Prop} {ad : Nat → Nat} (hx : p.tables.exec = Jvm.exec) (hb : c.code = b_Mod_choose) (hml : c.maxLocals = 6) (hown : s.vm.findClass "MacroMillModel" = some m.cls) (htt : ∀ w ∈ gt, w.before args s = true) (hK : va_K g.1 classes (tysG g) s) (hN : nw s) (hA : ∀ q : Nat, s.heap.size ≤ q → A q) (hRf : 4 ≤ R.frames) (hRl : 89 ≤ R.locals) (hRc : cells ≤ R.cells) (hRs : slots ≤ R.slots) (r : Int32) (S9 : sS)
    (kx_86 : ∀ (ls : Array Slot) (H : Heap) (locs : List Loc), va_P g.1 classes (Sw shM g ad S9) H → va_D A (Sw shM g ad S9) → va_S A s.heap H locs → W p l e R s m args below meth c H locs cells slots Q (F0 m 86 ls [])) :
    ∀ k9 : Nat, (∀ (S : sS) (L : Nat → Int32) (M : Nat → Int64) (ls : Array Slot) (H : Heap) (locs : List Loc), f_Mod_choose k9 0 S L M = some (r, S9) → lv_has ls 6 [(0, .ref (ad 0)), (1, .int (L 1)), (2, .int (L 2))] → va_P g.1 classes (Sw shM g ad S) H → va_D A (Sw shM g ad S) → va_S A s.heap H locs → W p l e R s m args below meth c H locs cells slots Q (F0 m 0 ls [])) ∧ (∀ (S : sS) (L : Nat → Int32) (M : Nat → Int64) (ls : Array Slot) (H : Heap) (locs : List Loc), f_Mod_choose k9 1 S L M = some (r, S9) → lv_has ls 6 [(0, .ref (ad 0)), (1, .int (L 1)), (2, .int (L 2)), (3, .int (L 3))] → va_P g.1 classes (Sw shM g ad S) H → va_D A (Sw shM g ad S) → va_S A s.heap H locs → W p l e R s m args below meth c H locs cells slots Q (F0 m 12 ls [.int (L 100)])) ∧ (∀ (S : sS) (L : Nat → Int32) (M : Nat → Int64) (ls : Array Slot) (H : Heap) (locs : List Loc), f_Mod_choose k9 2 S L M = some (r, S9) → lv_has ls 6 [(0, .ref (ad 0)), (1, .int (L 1)), (2, .int (L 2)), (3, .int (L 3)), (4, .int (L 4))] → va_P g.1 classes (Sw shM g ad S) H → va_D A (Sw shM g ad S) → va_S A s.heap H locs → W p l e R s m args below meth c H locs cells slots Q (F0 m 14 ls [])) ∧ (∀ (S : sS) (L : Nat → Int32) (M : Nat → Int64) (ls : Array Slot) (H : Heap) (locs : List Loc), f_Mod_choose k9 3 S L M = some (r, S9) → lv_has ls 6 [(0, .ref (ad 0)), (1, .int (L 1)), (2, .int (L 2)), (3, .int (L 3)), (4, .int (L 4)), (5, .int (L 5))] → va_P g.1 classes (Sw shM g ad S) H → va_D A (Sw shM g ad S) → va_S A s.heap H locs → W p l e R s m args below meth c H locs cells slots Q (F0 m 73 ls [])) ∧ (∀ (S : sS) (L : Nat → Int32) (M : Nat → Int64) (ls : Array Slot) (H : Heap) (locs : List Loc), f_Mod_choose k9 4 S L M = some (r, S9) → lv_has ls 6 [(0, .ref (ad 0)), (1, .int (L 1)), (2, .int (L 2)), (3, .int (L 3)), (4, .int (L 4)), (5, .int (L 5))] → va_P g.1 classes (Sw shM g ad S) H → va_D A (Sw shM g ad S) → va_S A s.heap H locs → W p l e R s m args below meth c H locs cells slots Q (F0 m 83 ls [])) := by
  intro k9
  induction k9 with
  | zero => exact ⟨(fun _ _ _ _ _ _ h => by simp [f_Mod_choose] at h), (fun _ _ _ _ _ _ h => by simp [f_Mod_choose] at h), (fun _ _ _ _ _ _ h => by simp [f_Mod_choose] at h), (fun _ _ _ _ _ _ h => by simp [f_Mod_choose] at h), (fun _ _ _ _ _ _ h => by simp [f_Mod_choose] at h)⟩
  | succ k9 ih =>
    refine ⟨?_, ?_, ?_, ?_, ?_⟩
    · intro S L M ls H locs h hl hP hD hS
      simp only [f_Mod_choose] at h
      refine lv_iconst (v := 1) hx hb d_Mod_choose_0 (by decide) ?_
      refine lv_istore_n (lv' := [(3, .int 1), (0, .ref (ad 0)), (1, .int (L 1)), (2, .int (L 2))]) hx hb d_Mod_choose_1 rfl hl (by decide) rfl (fun ls hl => ?_)
      refine lv_iload_n hx hb d_Mod_choose_2 rfl (lv_at hl 3 rfl) ?_
      refine lv_iconst (v := 3) hx hb d_Mod_choose_3 (by decide) ?_
      refine lv_icmp_ge (tgt := 11) hx hb d_Mod_choose_4 (by decide) (fun hc1 => ?_) (fun hc1 => ?_)
      · rw [if_pos hc1] at h
        refine lv_iconst (v := 0) hx hb d_Mod_choose_11 (by decide) ?_
        exact (ih.2.1) S (upd (upd L 3 (1 : Int32)) 100 (0 : Int32)) M ls H locs h (lv_sub hl [1, 2, 3, 0] rfl) hP hD hS
      · rw [if_neg hc1] at h
        refine lv_iconst (v := 1) hx hb d_Mod_choose_7 (by decide) ?_
        refine lv_goto (tgt := 12) hx hb d_Mod_choose_8 (by decide) ?_
        exact (ih.2.1) S (upd (upd L 3 (1 : Int32)) 100 (1 : Int32)) M ls H locs h (lv_sub hl [1, 2, 3, 0] rfl) hP hD hS
    · intro S L M ls H locs h hl hP hD hS
      simp only [f_Mod_choose] at h
      refine lv_istore (lv' := [(4, .int (L 100)), (0, .ref (ad 0)), (1, .int (L 1)), (2, .int (L 2)), (3, .int (L 3))]) hx hb d_Mod_choose_12 hl (by decide) rfl (fun ls hl => ?_)
      exact (ih.2.2.1) S (upd L 4 (L 100)) M ls H locs h (lv_sub hl [1, 2, 3, 4, 0] rfl) hP hD hS
    · intro S L M ls H locs h hl hP hD hS
      simp only [f_Mod_choose] at h
      refine lv_iload hx hb d_Mod_choose_14 (lv_at hl 4 rfl) ?_
      refine lv_if_ne (tgt := 86) hx hb d_Mod_choose_16 (by decide) (fun hc1 => ?_) (fun hc1 => ?_)
      · rw [if_neg hc1] at h
        cases h
        exact kx_86 ls H locs hP hD hS
      · rw [if_pos hc1] at h
        refine lv_iload_n hx hb d_Mod_choose_19 rfl (lv_at hl 2 rfl) ?_
        refine lv_iload_n hx hb d_Mod_choose_20 rfl (lv_at hl 3 rfl) ?_
        refine lv_isub hx hb d_Mod_choose_21 ?_
        refine lv_iconst (v := 1) hx hb d_Mod_choose_22 (by decide) ?_
        refine lv_iadd hx hb d_Mod_choose_23 ?_
        refine lv_istore (lv' := [(5, .int (((L 2) - (L 3)) + (1 : Int32))), (0, .ref (ad 0)), (1, .int (L 1)), (2, .int (L 2)), (3, .int (L 3)), (4, .int (L 4))]) hx hb d_Mod_choose_24 hl (by decide) rfl (fun ls hl => ?_)
        refine lv_aload_n hx hb d_Mod_choose_26 rfl (lv_at hl 1 rfl) ?_
        refine lv_iload_n hx hb d_Mod_choose_27 rfl (lv_at hl 2 rfl) ?_
        refine lv_iload_n hx hb d_Mod_choose_28 rfl (lv_at hl 4 rfl) ?_
        refine lv_iload_n hx hb d_Mod_choose_29 rfl (lv_at hl 4 rfl) ?_
        show W _ _ _ _ _ _ _ _ _ _ _ _ _ _ _ (F0 _ 30 _ _)
        refine lv_iconst (v := 1) hx hb d_Mod_choose_30 (by decide) ?_
        refine lv_iadd hx hb d_Mod_choose_31 ?_
        obtain ⟨⟨r2, T2⟩, hq2, h⟩ := Option.bind_eq_some_iff.mp h
        try dsimp only at h
        refine go_iS (As := [.ref (ad 0), .int (L 1), .int (L 3), .int ((L 3) + (1 : Int32))]) (g := g) (A := A) (h := shM) hP hK hD hS hA hN (fun hp => va_runV (As := [.int (L 1), .int (L 3), .int ((L 3) + (1 : Int32))]) (rest := []) ⟨hx, hb, hml, hown, htt⟩ (t_Mod_same l g _ ad S (L 1 : Int32) (L 3 : Int32) ((L 3) + (1 : Int32) : Int32) k9 r2 T2 hq2) ⟨(cb_L htt k_2875 k_276 k_2872 hd_Mod_same ⟨(Nat.le_trans (by decide +kernel) hRf), (Nat.le_trans (by decide +kernel) hRl)⟩), htt _ k_2874, htt _ k_162⟩ ⟨hp.1, S_recv hK hP 0 rfl rfl, hp.2⟩ rfl rfl hl.1 rfl (lv_room (Nat.le_of_ble_eq_true rfl)) d_Mod_choose_32 ⟨hRc, hRs⟩) (fun r0 Sn H locs hw9 hP hD hS => ?_)
        obtain ⟨e9, e8⟩ := hw9
        rw [e8] at hP hD
        refine W.widen (k := cells) (n := slots) (Nat.le_refl _) (Nat.le_refl _) ?_
        refine toI (y := r2) e9 ?_
        refine lv_if_eq (tgt := 52) hx hb d_Mod_choose_35 (by decide) (fun hc3 => ?_) (fun hc3 => ?_)
        · rw [if_pos hc3] at h
          refine lv_iload hx hb d_Mod_choose_52 (lv_at hl 0 rfl) ?_
          refine lv_bipush (v := 6) hx hb d_Mod_choose_54 (by decide) ?_
          refine lv_icmp_ge (tgt := 79) hx hb d_Mod_choose_56 (by decide) (fun hc4 => ?_) (fun hc4 => ?_)
          · rw [if_pos hc4] at h
            refine lv_iload_n hx hb d_Mod_choose_79 rfl (lv_at hl 4 rfl) ?_
            refine lv_iconst (v := 3) hx hb d_Mod_choose_80 (by decide) ?_
            refine lv_iadd hx hb d_Mod_choose_81 ?_
            refine lv_istore_n (lv' := [(3, .int ((L 3) + (3 : Int32))), (5, .int (((L 2) - (L 3)) + (1 : Int32))), (0, .ref (ad 0)), (1, .int (L 1)), (2, .int (L 2)), (4, .int (L 4))]) hx hb d_Mod_choose_82 rfl hl (by decide) rfl (fun ls hl => ?_)
            exact (ih.2.2.2.2) T2 (upd (upd L 3 ((L 3) + (3 : Int32))) 5 (((L 2) - (L 3)) + (1 : Int32))) M ls H locs h (lv_sub hl [2, 3, 4, 0, 5, 1] rfl) hP hD hS
          · rw [if_neg hc4] at h
            refine lv_iload hx hb d_Mod_choose_59 (lv_at hl 0 rfl) ?_
            refine lv_iconst (v := 3) hx hb d_Mod_choose_61 (by decide) ?_
            refine lv_icmp_le (tgt := 73) hx hb d_Mod_choose_62 (by decide) (fun hc5 => ?_) (fun hc5 => ?_)
            · rw [if_pos hc5] at h
              exact (ih.2.2.2.1) T2 (upd L 5 (((L 2) - (L 3)) + (1 : Int32))) M ls H locs h (lv_sub hl [1, 2, 3, 4, 5, 0] rfl) hP hD hS
            · rw [if_neg hc5] at h
              refine lv_aload_n hx hb d_Mod_choose_65 rfl (lv_at hl 1 rfl) ?_
              refine lv_iload_n hx hb d_Mod_choose_66 rfl (lv_at hl 2 rfl) ?_
              refine lv_iload_n hx hb d_Mod_choose_67 rfl (lv_at hl 4 rfl) ?_
              refine lv_iconst (v := 3) hx hb d_Mod_choose_68 (by decide) ?_
              refine lv_iadd hx hb d_Mod_choose_69 ?_
              obtain ⟨⟨r6, T6⟩, hq6, h⟩ := Option.bind_eq_some_iff.mp h
              try dsimp only at h
              refine go_vS (As := [.ref (ad 0), .int (L 1), .int ((L 3) + (3 : Int32))]) (g := g) (A := A) (h := shM) hP hK hD hS hA hN (fun hp => va_runV (As := [.int (L 1), .int ((L 3) + (3 : Int32))]) (rest := []) ⟨hx, hb, hml, hown, htt⟩ (t_Mod_giveArgument l g _ ad T2 (L 1 : Int32) ((L 3) + (3 : Int32) : Int32) k9 r6 T6 hq6) ⟨(cb_L htt k_2832 k_276 k_2829 hd_Mod_giveArgument ⟨(Nat.le_trans (by decide +kernel) hRf), (Nat.le_trans (by decide +kernel) hRl)⟩), htt _ k_2831, htt _ k_152⟩ ⟨hp.1, S_recv hK hP 0 rfl rfl, hp.2⟩ rfl rfl hl.1 rfl (lv_room (Nat.le_of_ble_eq_true rfl)) d_Mod_choose_70 ⟨hRc, hRs⟩) (fun Sn H locs hw9 hP hD hS => ?_)
              have e8 := hw9
              rw [e8] at hP hD
              refine W.widen (k := cells) (n := slots) (Nat.le_refl _) (Nat.le_refl _) ?_
              exact (ih.2.2.2.1) T6 (upd L 5 (((L 2) - (L 3)) + (1 : Int32))) M ls H locs h (lv_sub hl [1, 2, 3, 4, 5, 0] rfl) hP hD hS
        · rw [if_neg hc3] at h
          refine lv_aload_n hx hb d_Mod_choose_38 rfl (lv_at hl 1 rfl) ?_
          refine lv_iload_n hx hb d_Mod_choose_39 rfl (lv_at hl 2 rfl) ?_
          refine lv_iload_n hx hb d_Mod_choose_40 rfl (lv_at hl 4 rfl) ?_
          refine lv_iconst (v := 2) hx hb d_Mod_choose_41 (by decide) ?_
          refine lv_iadd hx hb d_Mod_choose_42 ?_
          obtain ⟨⟨r7, T7⟩, hq7, h⟩ := Option.bind_eq_some_iff.mp h
          try dsimp only at h
          refine go_vS (As := [.ref (ad 0), .int (L 1), .int ((L 3) + (2 : Int32))]) (g := g) (A := A) (h := shM) hP hK hD hS hA hN (fun hp => va_runV (As := [.int (L 1), .int ((L 3) + (2 : Int32))]) (rest := []) ⟨hx, hb, hml, hown, htt⟩ (t_Mod_giveArgument l g _ ad T2 (L 1 : Int32) ((L 3) + (2 : Int32) : Int32) k9 r7 T7 hq7) ⟨(cb_L htt k_2832 k_276 k_2829 hd_Mod_giveArgument ⟨(Nat.le_trans (by decide +kernel) hRf), (Nat.le_trans (by decide +kernel) hRl)⟩), htt _ k_2831, htt _ k_152⟩ ⟨hp.1, S_recv hK hP 0 rfl rfl, hp.2⟩ rfl rfl hl.1 rfl (lv_room (Nat.le_of_ble_eq_true rfl)) d_Mod_choose_43 ⟨hRc, hRs⟩) (fun Sn H locs hw9 hP hD hS => ?_)
          have e8 := hw9
          rw [e8] at hP hD
          refine W.widen (k := cells) (n := slots) (Nat.le_refl _) (Nat.le_refl _) ?_
          refine lv_iconst (v := 1) hx hb d_Mod_choose_46 (by decide) ?_
          refine lv_istore (lv' := [(4, .int 1), (5, .int (((L 2) - (L 3)) + (1 : Int32))), (0, .ref (ad 0)), (1, .int (L 1)), (2, .int (L 2)), (3, .int (L 3))]) hx hb d_Mod_choose_47 hl (by decide) rfl (fun ls hl => ?_)
          refine lv_goto (tgt := 83) hx hb d_Mod_choose_49 (by decide) ?_
          exact (ih.2.2.2.2) T7 (upd (upd L 4 (1 : Int32)) 5 (((L 2) - (L 3)) + (1 : Int32))) M ls H locs h (lv_sub hl [2, 3, 4, 5, 0, 1] rfl) hP hD hS
    · intro S L M ls H locs h hl hP hD hS
      simp only [f_Mod_choose] at h
      refine lv_iconst (v := 1) hx hb d_Mod_choose_73 (by decide) ?_
      refine lv_istore (lv' := [(4, .int 1), (0, .ref (ad 0)), (1, .int (L 1)), (2, .int (L 2)), (3, .int (L 3)), (5, .int (L 5))]) hx hb d_Mod_choose_74 hl (by decide) rfl (fun ls hl => ?_)
      refine lv_goto (tgt := 83) hx hb d_Mod_choose_76 (by decide) ?_
      exact (ih.2.2.2.2) S (upd L 4 (1 : Int32)) M ls H locs h (lv_sub hl [1, 2, 3, 4, 0, 5] rfl) hP hD hS
    · intro S L M ls H locs h hl hP hD hS
      simp only [f_Mod_choose] at h
      refine lv_goto (tgt := 14) hx hb d_Mod_choose_83 (by decide) ?_
      exact (ih.2.2.1) S L M ls H locs h (lv_sub hl [0, 1, 2, 3, 4] rfl) hP hD hS
abbrev rm_t_Mod_choose : Room := { frames := 4, cells := 0, slots := 0, locals := 89 }
theorem t_Mod_choose (l : Launch) (g : gG) (sz : Nat) (ad : Nat → Nat) (S : sS) (v1 : Int32) (v2 : Int32) (k : Nat) (r : Int32) (S9 : sS) (h : f_Mod_choose k 0 S (upd (upd (fun _ => 0) 1 v1) 2 v2) (fun _ => 0) = some (r, S9)) : Cv l y_Mod_choose b_Mod_choose 6 rm_t_Mod_choose g [.ref (ad 0), .int v1, .int v2] (Sw shM g ad S) sz (fun w => ∃ S1 : sS, w = Sw shM g ad S1 ∧ S1 = S9) := by
  refine startV (by decide) (Nat.le_of_ble_eq_true rfl) ?_
  intro p e s m below meth c A ls hx hb hr hml hlocks hmn hown htt hN hA hP hK hD hS hl
  exact (w_Mod_choose hx hb hml hown htt hK hN hA (by decide +kernel) (by decide +kernel) (by decide +kernel) (by decide +kernel) r S9 (fun ls H locs hP hD hS => fin_v (g := g) (ws := Sw shM g ad S9) hx hb hr hlocks (by decide +kernel) (by decide +kernel) hP hD hS ⟨_, rfl, rfl⟩ d_Mod_choose_86) k).1 S (upd (upd (fun _ => 0) 1 v1) 2 v2) (fun _ => 0) ls _ _ h hl hP hD hS
def f_Mod_placeOf : Nat → Nat → sS → (Nat → Int32) → (Nat → Int64) → Option (Int32 × sS)
  | 0, _, _, _, _ => none
  | k + 1, 0, S, L, M => (f_Mod_argumentSize k 0 S (upd (upd (fun _ => 0) 1 (L 1 : Int32)) 2 (1 : Int32)) (fun _ => 0)).bind (fun (r1, T1) => (f_Mod_argumentSize k 0 T1 (upd (upd (fun _ => 0) 1 (L 1 : Int32)) 2 (2 : Int32)) (fun _ => 0)).bind (fun (r2, T2) => f_Mod_placeOf k 1 T2 (upd (upd (upd L 2 r1) 3 r2) 4 (0 : Int32)) M))
  | k + 1, 1, S, L, M => if (L 2) < ((L 4) + (L 3)) then (some (((-1) : Int32), S)) else (f_Mod_placeOf k 2 S (upd (upd L 5 (1 : Int32)) 6 (0 : Int32)) M)
  | k + 1, 2, S, L, M => if (L 3) ≤ (L 6) then (f_Mod_placeOf k 4 S L M) else (if (L 5) = (0 : Int32) then (f_Mod_placeOf k 4 S L M) else ((f_Mod_argumentAt k 0 S (upd (upd (fun _ => 0) 1 (L 1 : Int32)) 2 (1 : Int32)) (fun _ => 0)).bind (fun (r3, T3) => if okI ((r3 + (L 4)) + (L 6)) 16385 = true then ((f_Mod_argumentAt k 0 T3 (upd (upd (fun _ => 0) 1 (L 1 : Int32)) 2 (2 : Int32)) (fun _ => 0)).bind (fun (r5, T5) => if okI (r5 + (L 6)) 16385 = true then (if (T3.2.1 19 ((r3 + (L 4)) + (L 6) : Int32).toNatClampNeg) = (T5.2.1 19 (r5 + (L 6) : Int32).toNatClampNeg) then (f_Mod_placeOf k 3 T5 (upd L 100 (1 : Int32)) M) else (f_Mod_placeOf k 3 T5 (upd L 100 (0 : Int32)) M)) else none)) else none)))
  | k + 1, 3, S, L, M => f_Mod_placeOf k 2 S (upd (upd L 5 (L 100)) 6 ((L 6) + 1)) M
  | k + 1, 4, S, L, M => if (L 5) = (0 : Int32) then (f_Mod_placeOf k 1 S (upd L 4 ((L 4) + 1)) M) else (some (L 4, S))
  | _ + 1, _ + 5, _, _, _ => none
set_option maxHeartbeats 8000000 in
set_option maxRecDepth 100000 in
theorem w_Mod_placeOf {p : Program} {l : Launch} {e : Env} {R : Room} {s : State} {m : MethodId} {args : Array Value} {below : List Frame} {meth : Method} {c : Code} {cells slots : Nat} {Q : State → Prop} {g : gG} {A : Nat → Prop} {ad : Nat → Nat} (hx : p.tables.exec = Jvm.exec) (hb : c.code = b_Mod_placeOf) (hml : c.maxLocals = 7) (hown : s.vm.findClass "MacroMillModel" = some m.cls) (htt : ∀ w ∈ gt, w.before args s = true) (hK : va_K g.1 classes (tysG g) s) (hN : nw s) (hA : ∀ q : Nat, s.heap.size ≤ q → A q) (hRf : 1 ≤ R.frames) (hRl : 22 ≤ R.locals) (hRc : cells ≤ R.cells) (hRs : slots ≤ R.slots) (r : Int32) (S9 : sS)
    (kx_96 : ∀ (ls : Array Slot) (H : Heap) (locs : List Loc), va_P g.1 classes (Sw shM g ad S9) H → va_D A (Sw shM g ad S9) → va_S A s.heap H locs → W p l e R s m args below meth c H locs cells slots Q (F0 m 96 ls [.int r]))
    (kx_104 : ∀ (ls : Array Slot) (H : Heap) (locs : List Loc), va_P g.1 classes (Sw shM g ad S9) H → va_D A (Sw shM g ad S9) → va_S A s.heap H locs → W p l e R s m args below meth c H locs cells slots Q (F0 m 104 ls [.int r])) :
    ∀ k9 : Nat, (∀ (S : sS) (L : Nat → Int32) (M : Nat → Int64) (ls : Array Slot) (H : Heap) (locs : List Loc), f_Mod_placeOf k9 0 S L M = some (r, S9) → lv_has ls 7 [(0, .ref (ad 0)), (1, .int (L 1))] → va_P g.1 classes (Sw shM g ad S) H → va_D A (Sw shM g ad S) → va_S A s.heap H locs → W p l e R s m args below meth c H locs cells slots Q (F0 m 0 ls [])) ∧ (∀ (S : sS) (L : Nat → Int32) (M : Nat → Int64) (ls : Array Slot) (H : Heap) (locs : List Loc), f_Mod_placeOf k9 1 S L M = some (r, S9) → lv_has ls 7 [(0, .ref (ad 0)), (1, .int (L 1)), (2, .int (L 2)), (3, .int (L 3)), (4, .int (L 4))] → va_P g.1 classes (Sw shM g ad S) H → va_D A (Sw shM g ad S) → va_S A s.heap H locs → W p l e R s m args below meth c H locs cells slots Q (F0 m 17 ls [])) ∧ (∀ (S : sS) (L : Nat → Int32) (M : Nat → Int64) (ls : Array Slot) (H : Heap) (locs : List Loc), f_Mod_placeOf k9 2 S L M = some (r, S9) → lv_has ls 7 [(0, .ref (ad 0)), (1, .int (L 1)), (2, .int (L 2)), (3, .int (L 3)), (4, .int (L 4)), (5, .int (L 5)), (6, .int (L 6))] → va_P g.1 classes (Sw shM g ad S) H → va_D A (Sw shM g ad S) → va_S A s.heap H locs → W p l e R s m args below meth c H locs cells slots Q (F0 m 31 ls [])) ∧ (∀ (S : sS) (L : Nat → Int32) (M : Nat → Int64) (ls : Array Slot) (H : Heap) (locs : List Loc), f_Mod_placeOf k9 3 S L M = some (r, S9) → lv_has ls 7 [(0, .ref (ad 0)), (1, .int (L 1)), (2, .int (L 2)), (3, .int (L 3)), (4, .int (L 4)), (5, .int (L 5)), (6, .int (L 6))] → va_P g.1 classes (Sw shM g ad S) H → va_D A (Sw shM g ad S) → va_S A s.heap H locs → W p l e R s m args below meth c H locs cells slots Q (F0 m 81 ls [.int (L 100)])) ∧ (∀ (S : sS) (L : Nat → Int32) (M : Nat → Int64) (ls : Array Slot) (H : Heap) (locs : List Loc), f_Mod_placeOf k9 4 S L M = some (r, S9) → lv_has ls 7 [(0, .ref (ad 0)), (1, .int (L 1)), (2, .int (L 2)), (3, .int (L 3)), (4, .int (L 4)), (5, .int (L 5)), (6, .int (L 6))] → va_P g.1 classes (Sw shM g ad S) H → va_D A (Sw shM g ad S) → va_S A s.heap H locs → W p l e R s m args below meth c H locs cells slots Q (F0 m 89 ls [])) := by
  intro k9
  induction k9 with
  | zero => exact ⟨(fun _ _ _ _ _ _ h => by simp [f_Mod_placeOf] at h), (fun _ _ _ _ _ _ h => by simp [f_Mod_placeOf] at h), (fun _ _ _ _ _ _ h => by simp [f_Mod_placeOf] at h), (fun _ _ _ _ _ _ h => by simp [f_Mod_placeOf] at h), (fun _ _ _ _ _ _ h => by simp [f_Mod_placeOf] at h)⟩
  | succ k9 ih =>
    refine ⟨?_, ?_, ?_, ?_, ?_⟩
    · intro S L M ls H locs h hl hP hD hS
      simp only [f_Mod_placeOf] at h
      refine lv_aload_n hx hb d_Mod_placeOf_0 rfl (lv_at hl 0 rfl) ?_
      refine lv_iload_n hx hb d_Mod_placeOf_1 rfl (lv_at hl 1 rfl) ?_
      refine lv_iconst (v := 1) hx hb d_Mod_placeOf_2 (by decide) ?_
      obtain ⟨⟨r1, T1⟩, hq1, h⟩ := Option.bind_eq_some_iff.mp h
      try dsimp only at h
      refine go_iS (As := [.ref (ad 0), .int (L 1), .int 1]) (g := g) (A := A) (h := shM) hP hK hD hS hA hN (fun hp => va_runV (As := [.int (L 1), .int 1]) (rest := []) ⟨hx, hb, hml, hown, htt⟩ (t_Mod_argumentSize l g _ ad S (L 1 : Int32) (1 : Int32) k9 r1 T1 hq1) ⟨(cb_L htt k_2840 k_276 k_2837 hd_Mod_argumentSize ⟨(Nat.le_trans (by decide +kernel) hRf), (Nat.le_trans (by decide +kernel) hRl)⟩), htt _ k_2839, htt _ k_154⟩ ⟨hp.1, S_recv hK hP 0 rfl rfl, hp.2⟩ rfl rfl hl.1 rfl (lv_room (Nat.le_of_ble_eq_true rfl)) d_Mod_placeOf_3 ⟨hRc, hRs⟩) (fun r0 Sn H locs hw9 hP hD hS => ?_)
      obtain ⟨e9, e8⟩ := hw9
      rw [e8] at hP hD
      refine W.widen (k := cells) (n := slots) (Nat.le_refl _) (Nat.le_refl _) ?_
      refine toI (y := r1) e9 ?_
      refine lv_istore_n (lv' := [(2, .int r1), (0, .ref (ad 0)), (1, .int (L 1))]) hx hb d_Mod_placeOf_6 rfl hl (by decide) rfl (fun ls hl => ?_)
      refine lv_aload_n hx hb d_Mod_placeOf_7 rfl (lv_at hl 1 rfl) ?_
      refine lv_iload_n hx hb d_Mod_placeOf_8 rfl (lv_at hl 2 rfl) ?_
      refine lv_iconst (v := 2) hx hb d_Mod_placeOf_9 (by decide) ?_
      obtain ⟨⟨r2, T2⟩, hq2, h⟩ := Option.bind_eq_some_iff.mp h
      try dsimp only at h
      refine go_iS (As := [.ref (ad 0), .int (L 1), .int 2]) (g := g) (A := A) (h := shM) hP hK hD hS hA hN (fun hp => va_runV (As := [.int (L 1), .int 2]) (rest := []) ⟨hx, hb, hml, hown, htt⟩ (t_Mod_argumentSize l g _ ad T1 (L 1 : Int32) (2 : Int32) k9 r2 T2 hq2) ⟨(cb_L htt k_2840 k_276 k_2837 hd_Mod_argumentSize ⟨(Nat.le_trans (by decide +kernel) hRf), (Nat.le_trans (by decide +kernel) hRl)⟩), htt _ k_2839, htt _ k_154⟩ ⟨hp.1, S_recv hK hP 0 rfl rfl, hp.2⟩ rfl rfl hl.1 rfl (lv_room (Nat.le_of_ble_eq_true rfl)) d_Mod_placeOf_10 ⟨hRc, hRs⟩) (fun r0 Sn H locs hw9 hP hD hS => ?_)
      obtain ⟨e9, e8⟩ := hw9
      rw [e8] at hP hD
      refine W.widen (k := cells) (n := slots) (Nat.le_refl _) (Nat.le_refl _) ?_
      refine toI (y := r2) e9 ?_
      refine lv_istore_n (lv' := [(3, .int r2), (2, .int r1), (0, .ref (ad 0)), (1, .int (L 1))]) hx hb d_Mod_placeOf_13 rfl hl (by decide) rfl (fun ls hl => ?_)
      refine lv_iconst (v := 0) hx hb d_Mod_placeOf_14 (by decide) ?_
      refine lv_istore (lv' := [(4, .int 0), (3, .int r2), (2, .int r1), (0, .ref (ad 0)), (1, .int (L 1))]) hx hb d_Mod_placeOf_15 hl (by decide) rfl (fun ls hl => ?_)
      exact (ih.2.1) T2 (upd (upd (upd L 2 r1) 3 r2) 4 (0 : Int32)) M ls H locs h (lv_sub hl [3, 4, 2, 1, 0] rfl) hP hD hS
    · intro S L M ls H locs h hl hP hD hS
      simp only [f_Mod_placeOf] at h
      refine lv_iload hx hb d_Mod_placeOf_17 (lv_at hl 4 rfl) ?_
      refine lv_iload_n hx hb d_Mod_placeOf_19 rfl (lv_at hl 3 rfl) ?_
      refine lv_iadd hx hb d_Mod_placeOf_20 ?_
      refine lv_iload_n hx hb d_Mod_placeOf_21 rfl (lv_at hl 2 rfl) ?_
      refine lv_icmp_gt (tgt := 103) hx hb d_Mod_placeOf_22 (by decide) (fun hc1 => ?_) (fun hc1 => ?_)
      · rw [if_pos hc1] at h
        refine lv_iconst (v := (-1)) hx hb d_Mod_placeOf_103 (by decide) ?_
        cases h
        exact kx_104 ls H locs hP hD hS
      · rw [if_neg hc1] at h
        refine lv_iconst (v := 1) hx hb d_Mod_placeOf_25 (by decide) ?_
        refine lv_istore (lv' := [(5, .int 1), (0, .ref (ad 0)), (1, .int (L 1)), (2, .int (L 2)), (3, .int (L 3)), (4, .int (L 4))]) hx hb d_Mod_placeOf_26 hl (by decide) rfl (fun ls hl => ?_)
        refine lv_iconst (v := 0) hx hb d_Mod_placeOf_28 (by decide) ?_
        refine lv_istore (lv' := [(6, .int 0), (5, .int 1), (0, .ref (ad 0)), (1, .int (L 1)), (2, .int (L 2)), (3, .int (L 3)), (4, .int (L 4))]) hx hb d_Mod_placeOf_29 hl (by decide) rfl (fun ls hl => ?_)
        exact (ih.2.2.1) S (upd (upd L 5 (1 : Int32)) 6 (0 : Int32)) M ls H locs h (lv_sub hl [2, 3, 4, 5, 6, 1, 0] rfl) hP hD hS
    · intro S L M ls H locs h hl hP hD hS
      simp only [f_Mod_placeOf] at h
      refine lv_iload hx hb d_Mod_placeOf_31 (lv_at hl 6 rfl) ?_
      refine lv_iload_n hx hb d_Mod_placeOf_33 rfl (lv_at hl 3 rfl) ?_
      refine lv_icmp_ge (tgt := 89) hx hb d_Mod_placeOf_34 (by decide) (fun hc1 => ?_) (fun hc1 => ?_)
      · rw [if_pos hc1] at h
        exact (ih.2.2.2.2) S L M ls H locs h (lv_sub hl [0, 1, 2, 3, 4, 5, 6] rfl) hP hD hS
      · rw [if_neg hc1] at h
        refine lv_iload hx hb d_Mod_placeOf_37 (lv_at hl 5 rfl) ?_
        refine lv_if_eq (tgt := 89) hx hb d_Mod_placeOf_39 (by decide) (fun hc2 => ?_) (fun hc2 => ?_)
        · rw [if_pos hc2] at h
          exact (ih.2.2.2.2) S L M ls H locs h (lv_sub hl [0, 1, 2, 3, 4, 5, 6] rfl) hP hD hS
        · rw [if_neg hc2] at h
          refine lv_aload_n hx hb d_Mod_placeOf_42 rfl (lv_at hl 0 rfl) ?_
          refine S_getR (h := shM) (C := "MacroMillModel") (T := F_Mod) hx hb htt in_Mod hown hK hP 0 48 rfl 20 rfl rfl (by decide) (htt _ k_2284) (fun _ h9 => h9) d_Mod_placeOf_43 ?_
          refine lv_aload_n hx hb d_Mod_placeOf_46 rfl (lv_at hl 0 rfl) ?_
          refine lv_iload_n hx hb d_Mod_placeOf_47 rfl (lv_at hl 1 rfl) ?_
          refine lv_iconst (v := 1) hx hb d_Mod_placeOf_48 (by decide) ?_
          obtain ⟨⟨r3, T3⟩, hq3, h⟩ := Option.bind_eq_some_iff.mp h
          try dsimp only at h
          refine go_iS (As := [.ref (ad 0), .int (L 1), .int 1]) (g := g) (A := A) (h := shM) hP hK hD hS hA hN (fun hp => va_runV (As := [.int (L 1), .int 1]) (rest := [.ref (ad 20)]) ⟨hx, hb, hml, hown, htt⟩ (t_Mod_argumentAt l g _ ad S (L 1 : Int32) (1 : Int32) k9 r3 T3 hq3) ⟨(cb_L htt k_2836 k_276 k_2833 hd_Mod_argumentAt ⟨(Nat.le_trans (by decide +kernel) hRf), (Nat.le_trans (by decide +kernel) hRl)⟩), htt _ k_2835, htt _ k_153⟩ ⟨hp.1, S_recv hK hP 0 rfl rfl, hp.2⟩ rfl rfl hl.1 rfl (lv_room (Nat.le_of_ble_eq_true rfl)) d_Mod_placeOf_49 ⟨hRc, hRs⟩) (fun r0 Sn H locs hw9 hP hD hS => ?_)
          obtain ⟨e9, e8⟩ := hw9
          rw [e8] at hP hD
          refine W.widen (k := cells) (n := slots) (Nat.le_refl _) (Nat.le_refl _) ?_
          refine toI (y := r3) e9 ?_
          refine lv_iload hx hb d_Mod_placeOf_52 (lv_at hl 4 rfl) ?_
          refine lv_iadd hx hb d_Mod_placeOf_54 ?_
          refine lv_iload hx hb d_Mod_placeOf_55 (lv_at hl 6 rfl) ?_
          show W _ _ _ _ _ _ _ _ _ _ _ _ _ _ _ (F0 _ 57 _ _)
          refine lv_iadd hx hb d_Mod_placeOf_57 ?_
          obtain ⟨hv4, h⟩ := chk h
          refine S_bald (h := shM) (i := (r3 + (L 4)) + (L 6)) hx hb hK hP 19 rfl (okI_in hv4) d_Mod_placeOf_58 ?_
          refine lv_aload_n hx hb d_Mod_placeOf_59 rfl (lv_at hl 0 rfl) ?_
          refine S_getR (h := shM) (C := "MacroMillModel") (T := F_Mod) hx hb htt in_Mod hown hK hP 0 48 rfl 20 rfl rfl (by decide) (htt _ k_2284) (fun _ h9 => h9) d_Mod_placeOf_60 ?_
          refine lv_aload_n hx hb d_Mod_placeOf_63 rfl (lv_at hl 0 rfl) ?_
          refine lv_iload_n hx hb d_Mod_placeOf_64 rfl (lv_at hl 1 rfl) ?_
          refine lv_iconst (v := 2) hx hb d_Mod_placeOf_65 (by decide) ?_
          obtain ⟨⟨r5, T5⟩, hq5, h⟩ := Option.bind_eq_some_iff.mp h
          try dsimp only at h
          refine go_iS (As := [.ref (ad 0), .int (L 1), .int 2]) (g := g) (A := A) (h := shM) hP hK hD hS hA hN (fun hp => va_runV (As := [.int (L 1), .int 2]) (rest := [.ref (ad 20), .int (T3.2.1 19 ((r3 + (L 4)) + (L 6) : Int32).toNatClampNeg)]) ⟨hx, hb, hml, hown, htt⟩ (t_Mod_argumentAt l g _ ad T3 (L 1 : Int32) (2 : Int32) k9 r5 T5 hq5) ⟨(cb_L htt k_2836 k_276 k_2833 hd_Mod_argumentAt ⟨(Nat.le_trans (by decide +kernel) hRf), (Nat.le_trans (by decide +kernel) hRl)⟩), htt _ k_2835, htt _ k_153⟩ ⟨hp.1, S_recv hK hP 0 rfl rfl, hp.2⟩ rfl rfl hl.1 rfl (lv_room (Nat.le_of_ble_eq_true rfl)) d_Mod_placeOf_66 ⟨hRc, hRs⟩) (fun r0 Sn H locs hw9 hP hD hS => ?_)
          obtain ⟨e9, e8⟩ := hw9
          rw [e8] at hP hD
          refine W.widen (k := cells) (n := slots) (Nat.le_refl _) (Nat.le_refl _) ?_
          refine toI (y := r5) e9 ?_
          refine lv_iload hx hb d_Mod_placeOf_69 (lv_at hl 6 rfl) ?_
          refine lv_iadd hx hb d_Mod_placeOf_71 ?_
          obtain ⟨hv6, h⟩ := chk h
          refine S_bald (h := shM) (i := r5 + (L 6)) hx hb hK hP 19 rfl (okI_in hv6) d_Mod_placeOf_72 ?_
          refine lv_icmp_ne (tgt := 80) hx hb d_Mod_placeOf_73 (by decide) (fun hc7 => ?_) (fun hc7 => ?_)
          · rw [if_neg hc7] at h
            refine lv_iconst (v := 0) hx hb d_Mod_placeOf_80 (by decide) ?_
            exact (ih.2.2.2.1) T5 (upd L 100 (0 : Int32)) M ls H locs h (lv_sub hl [0, 1, 2, 3, 4, 5, 6] rfl) hP hD hS
          · rw [if_pos hc7] at h
            refine lv_iconst (v := 1) hx hb d_Mod_placeOf_76 (by decide) ?_
            refine lv_goto (tgt := 81) hx hb d_Mod_placeOf_77 (by decide) ?_
            exact (ih.2.2.2.1) T5 (upd L 100 (1 : Int32)) M ls H locs h (lv_sub hl [0, 1, 2, 3, 4, 5, 6] rfl) hP hD hS
    · intro S L M ls H locs h hl hP hD hS
      simp only [f_Mod_placeOf] at h
      refine lv_istore (lv' := [(5, .int (L 100)), (0, .ref (ad 0)), (1, .int (L 1)), (2, .int (L 2)), (3, .int (L 3)), (4, .int (L 4)), (6, .int (L 6))]) hx hb d_Mod_placeOf_81 hl (by decide) rfl (fun ls hl => ?_)
      refine lv_iinc (k := 6) (v := (L 6) + 1) (lv' := [(6, .int ((L 6) + 1)), (5, .int (L 100)), (0, .ref (ad 0)), (1, .int (L 1)), (2, .int (L 2)), (3, .int (L 3)), (4, .int (L 4))]) hx hb d_Mod_placeOf_83 hl rfl rfl (by decide) rfl (fun ls hl => ?_)
      refine lv_goto (tgt := 31) hx hb d_Mod_placeOf_86 (by decide) ?_
      exact (ih.2.2.1) S (upd (upd L 5 (L 100)) 6 ((L 6) + 1)) M ls H locs h (lv_sub hl [2, 3, 4, 5, 6, 1, 0] rfl) hP hD hS
    · intro S L M ls H locs h hl hP hD hS
      simp only [f_Mod_placeOf] at h
      refine lv_iload hx hb d_Mod_placeOf_89 (lv_at hl 5 rfl) ?_
      refine lv_if_eq (tgt := 97) hx hb d_Mod_placeOf_91 (by decide) (fun hc1 => ?_) (fun hc1 => ?_)
      · rw [if_pos hc1] at h
        refine lv_iinc (k := 4) (v := (L 4) + 1) (lv' := [(4, .int ((L 4) + 1)), (0, .ref (ad 0)), (1, .int (L 1)), (2, .int (L 2)), (3, .int (L 3)), (5, .int (L 5)), (6, .int (L 6))]) hx hb d_Mod_placeOf_97 hl rfl rfl (by decide) rfl (fun ls hl => ?_)
        refine lv_goto (tgt := 17) hx hb d_Mod_placeOf_100 (by decide) ?_
        exact (ih.2.1) S (upd L 4 ((L 4) + 1)) M ls H locs h (lv_sub hl [1, 2, 3, 4, 0] rfl) hP hD hS
      · rw [if_neg hc1] at h
        refine lv_iload hx hb d_Mod_placeOf_94 (lv_at hl 4 rfl) ?_
        cases h
        exact kx_96 ls H locs hP hD hS
abbrev rm_t_Mod_placeOf : Room := { frames := 1, cells := 0, slots := 0, locals := 22 }
theorem t_Mod_placeOf (l : Launch) (g : gG) (sz : Nat) (ad : Nat → Nat) (S : sS) (v1 : Int32) (k : Nat) (r : Int32) (S9 : sS) (h : f_Mod_placeOf k 0 S (upd (fun _ => 0) 1 v1) (fun _ => 0) = some (r, S9)) : Ci l y_Mod_placeOf b_Mod_placeOf 7 rm_t_Mod_placeOf g [.ref (ad 0), .int v1] (Sw shM g ad S) sz (fun r1 w => ∃ S1 : sS, w = Sw shM g ad S1 ∧ r1 = r ∧ S1 = S9) := by
  refine startI (by decide) (Nat.le_of_ble_eq_true rfl) ?_
  intro p e s m below meth c A ls hx hb hr hml hlocks hmn hown htt hN hA hP hK hD hS hl
  exact (w_Mod_placeOf hx hb hml hown htt hK hN hA (by decide +kernel) (by decide +kernel) (by decide +kernel) (by decide +kernel) r S9 (fun ls H locs hP hD hS => fin_i (g := g) (ws := Sw shM g ad S9) hx hb hr hlocks (by decide +kernel) (by decide +kernel) hP hD hS ⟨_, rfl, rfl, rfl⟩ d_Mod_placeOf_96) (fun ls H locs hP hD hS => fin_i (g := g) (ws := Sw shM g ad S9) hx hb hr hlocks (by decide +kernel) (by decide +kernel) hP hD hS ⟨_, rfl, rfl, rfl⟩ d_Mod_placeOf_104) k).1 S (upd (fun _ => 0) 1 v1) (fun _ => 0) ls _ _ h hl hP hD hS
def f_Mod_giveSome : Nat → Nat → sS → (Nat → Int32) → (Nat → Int64) → Option (Int32 × sS)
  | 0, _, _, _, _ => none
  | k + 1, 0, S, L, M => (f_Mod_argumentSize k 0 S (upd (upd (fun _ => 0) 1 (L 1 : Int32)) 2 (1 : Int32)) (fun _ => 0)).bind (fun (r1, T1) => (f_Mod_number k 0 T1 (upd (upd (fun _ => 0) 1 (L 1 : Int32)) 2 (2 : Int32)) (fun _ => 0)).bind (fun (r2, T2) => if (L 2) ≤ (2 : Int32) then (f_Mod_giveSome k 1 T2 (upd (upd (upd L 3 r1) 4 r2) 100 r1) M) else ((f_Mod_number k 0 T2 (upd (upd (fun _ => 0) 1 (L 1 : Int32)) 2 (3 : Int32)) (fun _ => 0)).bind (fun (r4, T4) => f_Mod_giveSome k 1 T4 (upd (upd (upd L 3 r1) 4 r2) 100 r4) M))))
  | k + 1, 1, S, L, M => f_Mod_giveSome k 2 S (upd (upd L 5 (L 100)) 6 (L 4)) M
  | k + 1, 2, S, L, M => if (S.1 0 10) = (0 : Int32) then (if (L 4) < (0 : Int32) then (f_Mod_giveSome k 3 S L M) else (if (L 3) ≤ (L 6) then (f_Mod_giveSome k 3 S L M) else (if (L 5) ≤ ((L 6) - (L 4)) then (f_Mod_giveSome k 3 S L M) else ((f_Mod_argumentAt k 0 S (upd (upd (fun _ => 0) 1 (L 1 : Int32)) 2 (1 : Int32)) (fun _ => 0)).bind (fun (r5, T5) => if okI (r5 + (L 6)) 16385 = true then ((f_Mod_give k 0 T5 (upd (fun _ => 0) 1 (T5.2.1 19 (r5 + (L 6) : Int32).toNatClampNeg : Int32)) (fun _ => 0)).bind (fun (r7, T7) => f_Mod_giveSome k 2 T7 (upd L 6 ((L 6) + 1)) M)) else none))))) else (f_Mod_giveSome k 3 S L M)
  | k + 1, 3, S, L, M => some ((0 : Int32), S)
  | _ + 1, _ + 4, _, _, _ => none
set_option maxHeartbeats 8000000 in
set_option maxRecDepth 100000 in
theorem w_Mod_giveSome {p : Program} {l : Launch} {e : Env} {R : Room} {s : State} {m : MethodId} {args : Array Value} {below : List Frame} {meth : Method} {c : Code} {cells slots : Nat} {Q : State → Prop} {g : gG} {A : Nat → Prop} {ad : Nat → Nat} (hx : p.tables.exec = Jvm.exec) (hb : c.code = b_Mod_giveSome) (hml : c.maxLocals = 7) (hown : s.vm.findClass "MacroMillModel" = some m.cls) (htt : ∀ w ∈ gt, w.before args s = true) (hK : va_K g.1 classes (tysG g) s) (hN : nw s) (hA : ∀ q : Nat, s.heap.size ≤ q → A q) (hRf : 3 ≤ R.frames) (hRl : 73 ≤ R.locals) (hRc : cells ≤ R.cells) (hRs : slots ≤ R.slots) (r : Int32) (S9 : sS)
    (kx_88 : ∀ (ls : Array Slot) (H : Heap) (locs : List Loc), va_P g.1 classes (Sw shM g ad S9) H → va_D A (Sw shM g ad S9) → va_S A s.heap H locs → W p l e R s m args below meth c H locs cells slots Q (F0 m 88 ls [])) :
    ∀ k9 : Nat, (∀ (S : sS) (L : Nat → Int32) (M : Nat → Int64) (ls : Array Slot) (H : Heap) (locs : List Loc), f_Mod_giveSome k9 0 S L M = some (r, S9) → lv_has ls 7 [(0, .ref (ad 0)), (1, .int (L 1)), (2, .int (L 2))] → va_P g.1 classes (Sw shM g ad S) H → va_D A (Sw shM g ad S) → va_S A s.heap H locs → W p l e R s m args below meth c H locs cells slots Q (F0 m 0 ls [])) ∧ (∀ (S : sS) (L : Nat → Int32) (M : Nat → Int64) (ls : Array Slot) (H : Heap) (locs : List Loc), f_Mod_giveSome k9 1 S L M = some (r, S9) → lv_has ls 7 [(0, .ref (ad 0)), (1, .int (L 1)), (2, .int (L 2)), (3, .int (L 3)), (4, .int (L 4))] → va_P g.1 classes (Sw shM g ad S) H → va_D A (Sw shM g ad S) → va_S A s.heap H locs → W p l e R s m args below meth c H locs cells slots Q (F0 m 30 ls [.int (L 100)])) ∧ (∀ (S : sS) (L : Nat → Int32) (M : Nat → Int64) (ls : Array Slot) (H : Heap) (locs : List Loc), f_Mod_giveSome k9 2 S L M = some (r, S9) → lv_has ls 7 [(0, .ref (ad 0)), (1, .int (L 1)), (2, .int (L 2)), (3, .int (L 3)), (4, .int (L 4)), (5, .int (L 5)), (6, .int (L 6))] → va_P g.1 classes (Sw shM g ad S) H → va_D A (Sw shM g ad S) → va_S A s.heap H locs → W p l e R s m args below meth c H locs cells slots Q (F0 m 36 ls [])) ∧ (∀ (S : sS) (L : Nat → Int32) (M : Nat → Int64) (ls : Array Slot) (H : Heap) (locs : List Loc), f_Mod_giveSome k9 3 S L M = some (r, S9) → lv_has ls 7 [(0, .ref (ad 0)), (1, .int (L 1)), (2, .int (L 2)), (3, .int (L 3)), (4, .int (L 4)), (5, .int (L 5)), (6, .int (L 6))] → va_P g.1 classes (Sw shM g ad S) H → va_D A (Sw shM g ad S) → va_S A s.heap H locs → W p l e R s m args below meth c H locs cells slots Q (F0 m 88 ls [])) := by
  intro k9
  induction k9 with
  | zero => exact ⟨(fun _ _ _ _ _ _ h => by simp [f_Mod_giveSome] at h), (fun _ _ _ _ _ _ h => by simp [f_Mod_giveSome] at h), (fun _ _ _ _ _ _ h => by simp [f_Mod_giveSome] at h), (fun _ _ _ _ _ _ h => by simp [f_Mod_giveSome] at h)⟩
  | succ k9 ih =>
    refine ⟨?_, ?_, ?_, ?_⟩
    · intro S L M ls H locs h hl hP hD hS
      simp only [f_Mod_giveSome] at h
      refine lv_aload_n hx hb d_Mod_giveSome_0 rfl (lv_at hl 0 rfl) ?_
      refine lv_iload_n hx hb d_Mod_giveSome_1 rfl (lv_at hl 1 rfl) ?_
      refine lv_iconst (v := 1) hx hb d_Mod_giveSome_2 (by decide) ?_
      obtain ⟨⟨r1, T1⟩, hq1, h⟩ := Option.bind_eq_some_iff.mp h
      try dsimp only at h
      refine go_iS (As := [.ref (ad 0), .int (L 1), .int 1]) (g := g) (A := A) (h := shM) hP hK hD hS hA hN (fun hp => va_runV (As := [.int (L 1), .int 1]) (rest := []) ⟨hx, hb, hml, hown, htt⟩ (t_Mod_argumentSize l g _ ad S (L 1 : Int32) (1 : Int32) k9 r1 T1 hq1) ⟨(cb_L htt k_2840 k_276 k_2837 hd_Mod_argumentSize ⟨(Nat.le_trans (by decide +kernel) hRf), (Nat.le_trans (by decide +kernel) hRl)⟩), htt _ k_2839, htt _ k_154⟩ ⟨hp.1, S_recv hK hP 0 rfl rfl, hp.2⟩ rfl rfl hl.1 rfl (lv_room (Nat.le_of_ble_eq_true rfl)) d_Mod_giveSome_3 ⟨hRc, hRs⟩) (fun r0 Sn H locs hw9 hP hD hS => ?_)
      obtain ⟨e9, e8⟩ := hw9
      rw [e8] at hP hD
      refine W.widen (k := cells) (n := slots) (Nat.le_refl _) (Nat.le_refl _) ?_
      refine toI (y := r1) e9 ?_
      refine lv_istore_n (lv' := [(3, .int r1), (0, .ref (ad 0)), (1, .int (L 1)), (2, .int (L 2))]) hx hb d_Mod_giveSome_6 rfl hl (by decide) rfl (fun ls hl => ?_)
      refine lv_aload_n hx hb d_Mod_giveSome_7 rfl (lv_at hl 1 rfl) ?_
      refine lv_iload_n hx hb d_Mod_giveSome_8 rfl (lv_at hl 2 rfl) ?_
      refine lv_iconst (v := 2) hx hb d_Mod_giveSome_9 (by decide) ?_
      obtain ⟨⟨r2, T2⟩, hq2, h⟩ := Option.bind_eq_some_iff.mp h
      try dsimp only at h
      refine go_iS (As := [.ref (ad 0), .int (L 1), .int 2]) (g := g) (A := A) (h := shM) hP hK hD hS hA hN (fun hp => va_runV (As := [.int (L 1), .int 2]) (rest := []) ⟨hx, hb, hml, hown, htt⟩ (t_Mod_number l g _ ad T1 (L 1 : Int32) (2 : Int32) k9 r2 T2 hq2) ⟨(cb_L htt k_2918 k_276 k_2915 hd_Mod_number ⟨(Nat.le_trans (by decide +kernel) hRf), (Nat.le_trans (by decide +kernel) hRl)⟩), htt _ k_2917, htt _ k_172⟩ ⟨hp.1, S_recv hK hP 0 rfl rfl, hp.2⟩ rfl rfl hl.1 rfl (lv_room (Nat.le_of_ble_eq_true rfl)) d_Mod_giveSome_10 ⟨hRc, hRs⟩) (fun r0 Sn H locs hw9 hP hD hS => ?_)
      obtain ⟨e9, e8⟩ := hw9
      rw [e8] at hP hD
      refine W.widen (k := cells) (n := slots) (Nat.le_refl _) (Nat.le_refl _) ?_
      refine toI (y := r2) e9 ?_
      refine lv_istore (lv' := [(4, .int r2), (3, .int r1), (0, .ref (ad 0)), (1, .int (L 1)), (2, .int (L 2))]) hx hb d_Mod_giveSome_13 hl (by decide) rfl (fun ls hl => ?_)
      refine lv_iload_n hx hb d_Mod_giveSome_15 rfl (lv_at hl 4 rfl) ?_
      refine lv_iconst (v := 2) hx hb d_Mod_giveSome_16 (by decide) ?_
      refine lv_icmp_le (tgt := 29) hx hb d_Mod_giveSome_17 (by decide) (fun hc3 => ?_) (fun hc3 => ?_)
      · rw [if_pos hc3] at h
        refine lv_iload_n hx hb d_Mod_giveSome_29 rfl (lv_at hl 1 rfl) ?_
        exact (ih.2.1) T2 (upd (upd (upd L 3 r1) 4 r2) 100 r1) M ls H locs h (lv_sub hl [2, 3, 4, 1, 0] rfl) hP hD hS
      · rw [if_neg hc3] at h
        refine lv_aload_n hx hb d_Mod_giveSome_20 rfl (lv_at hl 2 rfl) ?_
        show W _ _ _ _ _ _ _ _ _ _ _ _ _ _ _ (F0 _ 21 _ _)
        refine lv_iload_n hx hb d_Mod_giveSome_21 rfl (lv_at hl 3 rfl) ?_
        refine lv_iconst (v := 3) hx hb d_Mod_giveSome_22 (by decide) ?_
        obtain ⟨⟨r4, T4⟩, hq4, h⟩ := Option.bind_eq_some_iff.mp h
        try dsimp only at h
        refine go_iS (As := [.ref (ad 0), .int (L 1), .int 3]) (g := g) (A := A) (h := shM) hP hK hD hS hA hN (fun hp => va_runV (As := [.int (L 1), .int 3]) (rest := []) ⟨hx, hb, hml, hown, htt⟩ (t_Mod_number l g _ ad T2 (L 1 : Int32) (3 : Int32) k9 r4 T4 hq4) ⟨(cb_L htt k_2918 k_276 k_2915 hd_Mod_number ⟨(Nat.le_trans (by decide +kernel) hRf), (Nat.le_trans (by decide +kernel) hRl)⟩), htt _ k_2917, htt _ k_172⟩ ⟨hp.1, S_recv hK hP 0 rfl rfl, hp.2⟩ rfl rfl hl.1 rfl (lv_room (Nat.le_of_ble_eq_true rfl)) d_Mod_giveSome_23 ⟨hRc, hRs⟩) (fun r0 Sn H locs hw9 hP hD hS => ?_)
        obtain ⟨e9, e8⟩ := hw9
        rw [e8] at hP hD
        refine W.widen (k := cells) (n := slots) (Nat.le_refl _) (Nat.le_refl _) ?_
        refine toI (y := r4) e9 ?_
        refine lv_goto (tgt := 30) hx hb d_Mod_giveSome_26 (by decide) ?_
        exact (ih.2.1) T4 (upd (upd (upd L 3 r1) 4 r2) 100 r4) M ls H locs h (lv_sub hl [2, 3, 4, 1, 0] rfl) hP hD hS
    · intro S L M ls H locs h hl hP hD hS
      simp only [f_Mod_giveSome] at h
      refine lv_istore (lv' := [(5, .int (L 100)), (0, .ref (ad 0)), (1, .int (L 1)), (2, .int (L 2)), (3, .int (L 3)), (4, .int (L 4))]) hx hb d_Mod_giveSome_30 hl (by decide) rfl (fun ls hl => ?_)
      refine lv_iload hx hb d_Mod_giveSome_32 (lv_at hl 5 rfl) ?_
      refine lv_istore (lv' := [(6, .int (L 4)), (5, .int (L 100)), (0, .ref (ad 0)), (1, .int (L 1)), (2, .int (L 2)), (3, .int (L 3)), (4, .int (L 4))]) hx hb d_Mod_giveSome_34 hl (by decide) rfl (fun ls hl => ?_)
      exact (ih.2.2.1) S (upd (upd L 5 (L 100)) 6 (L 4)) M ls H locs h (lv_sub hl [2, 3, 4, 5, 6, 1, 0] rfl) hP hD hS
    · intro S L M ls H locs h hl hP hD hS
      simp only [f_Mod_giveSome] at h
      refine lv_aload_n hx hb d_Mod_giveSome_36 rfl (lv_at hl 0 rfl) ?_
      refine S_getI (h := shM) (C := "MacroMillModel") (T := F_Mod) hx hb htt in_Mod hown hK hP 0 10 rfl rfl rfl (by decide) (htt _ k_2246) (fun _ h9 => h9) d_Mod_giveSome_37 ?_
      refine lv_if_ne (tgt := 88) hx hb d_Mod_giveSome_40 (by decide) (fun hc1 => ?_) (fun hc1 => ?_)
      · rw [if_neg hc1] at h
        exact (ih.2.2.2) S L M ls H locs h (lv_sub hl [0, 1, 2, 3, 4, 5, 6] rfl) hP hD hS
      · rw [if_pos hc1] at h
        refine lv_iload hx hb d_Mod_giveSome_43 (lv_at hl 4 rfl) ?_
        refine lv_if_lt (tgt := 88) hx hb d_Mod_giveSome_45 (by decide) (fun hc2 => ?_) (fun hc2 => ?_)
        · rw [if_pos hc2] at h
          exact (ih.2.2.2) S L M ls H locs h (lv_sub hl [0, 1, 2, 3, 4, 5, 6] rfl) hP hD hS
        · rw [if_neg hc2] at h
          refine lv_iload hx hb d_Mod_giveSome_48 (lv_at hl 6 rfl) ?_
          refine lv_iload_n hx hb d_Mod_giveSome_50 rfl (lv_at hl 3 rfl) ?_
          refine lv_icmp_ge (tgt := 88) hx hb d_Mod_giveSome_51 (by decide) (fun hc3 => ?_) (fun hc3 => ?_)
          · rw [if_pos hc3] at h
            exact (ih.2.2.2) S L M ls H locs h (lv_sub hl [0, 1, 2, 3, 4, 5, 6] rfl) hP hD hS
          · rw [if_neg hc3] at h
            refine lv_iload hx hb d_Mod_giveSome_54 (lv_at hl 6 rfl) ?_
            refine lv_iload hx hb d_Mod_giveSome_56 (lv_at hl 4 rfl) ?_
            refine lv_isub hx hb d_Mod_giveSome_58 ?_
            refine lv_iload hx hb d_Mod_giveSome_59 (lv_at hl 5 rfl) ?_
            refine lv_icmp_ge (tgt := 88) hx hb d_Mod_giveSome_61 (by decide) (fun hc4 => ?_) (fun hc4 => ?_)
            · rw [if_pos hc4] at h
              exact (ih.2.2.2) S L M ls H locs h (lv_sub hl [0, 1, 2, 3, 4, 5, 6] rfl) hP hD hS
            · rw [if_neg hc4] at h
              refine lv_aload_n hx hb d_Mod_giveSome_64 rfl (lv_at hl 0 rfl) ?_
              refine lv_aload_n hx hb d_Mod_giveSome_65 rfl (lv_at hl 0 rfl) ?_
              show W _ _ _ _ _ _ _ _ _ _ _ _ _ _ _ (F0 _ 66 _ _)
              refine S_getR (h := shM) (C := "MacroMillModel") (T := F_Mod) hx hb htt in_Mod hown hK hP 0 48 rfl 20 rfl rfl (by decide) (htt _ k_2284) (fun _ h9 => h9) d_Mod_giveSome_66 ?_
              refine lv_aload_n hx hb d_Mod_giveSome_69 rfl (lv_at hl 0 rfl) ?_
              refine lv_iload_n hx hb d_Mod_giveSome_70 rfl (lv_at hl 1 rfl) ?_
              refine lv_iconst (v := 1) hx hb d_Mod_giveSome_71 (by decide) ?_
              obtain ⟨⟨r5, T5⟩, hq5, h⟩ := Option.bind_eq_some_iff.mp h
              try dsimp only at h
              refine go_iS (As := [.ref (ad 0), .int (L 1), .int 1]) (g := g) (A := A) (h := shM) hP hK hD hS hA hN (fun hp => va_runV (As := [.int (L 1), .int 1]) (rest := [.ref (ad 20), .ref (ad 0)]) ⟨hx, hb, hml, hown, htt⟩ (t_Mod_argumentAt l g _ ad S (L 1 : Int32) (1 : Int32) k9 r5 T5 hq5) ⟨(cb_L htt k_2836 k_276 k_2833 hd_Mod_argumentAt ⟨(Nat.le_trans (by decide +kernel) hRf), (Nat.le_trans (by decide +kernel) hRl)⟩), htt _ k_2835, htt _ k_153⟩ ⟨hp.1, S_recv hK hP 0 rfl rfl, hp.2⟩ rfl rfl hl.1 rfl (lv_room (Nat.le_of_ble_eq_true rfl)) d_Mod_giveSome_72 ⟨hRc, hRs⟩) (fun r0 Sn H locs hw9 hP hD hS => ?_)
              obtain ⟨e9, e8⟩ := hw9
              rw [e8] at hP hD
              refine W.widen (k := cells) (n := slots) (Nat.le_refl _) (Nat.le_refl _) ?_
              refine toI (y := r5) e9 ?_
              refine lv_iload hx hb d_Mod_giveSome_75 (lv_at hl 6 rfl) ?_
              refine lv_iadd hx hb d_Mod_giveSome_77 ?_
              obtain ⟨hv6, h⟩ := chk h
              refine S_bald (h := shM) (i := r5 + (L 6)) hx hb hK hP 19 rfl (okI_in hv6) d_Mod_giveSome_78 ?_
              obtain ⟨⟨r7, T7⟩, hq7, h⟩ := Option.bind_eq_some_iff.mp h
              try dsimp only at h
              refine go_vS (As := [.ref (ad 0), .int (T5.2.1 19 (r5 + (L 6) : Int32).toNatClampNeg)]) (g := g) (A := A) (h := shM) hP hK hD hS hA hN (fun hp => va_runV (As := [.int (T5.2.1 19 (r5 + (L 6) : Int32).toNatClampNeg)]) (rest := []) ⟨hx, hb, hml, hown, htt⟩ (t_Mod_give l g _ ad T5 (T5.2.1 19 (r5 + (L 6) : Int32).toNatClampNeg : Int32) k9 r7 T7 hq7) ⟨(cb_L htt k_2824 k_276 k_2821 hd_Mod_give ⟨(Nat.le_trans (by decide +kernel) hRf), (Nat.le_trans (by decide +kernel) hRl)⟩), htt _ k_2823, htt _ k_150⟩ ⟨hp.1, S_recv hK hP 0 rfl rfl, hp.2⟩ rfl rfl hl.1 rfl (lv_room (Nat.le_of_ble_eq_true rfl)) d_Mod_giveSome_79 ⟨hRc, hRs⟩) (fun Sn H locs hw9 hP hD hS => ?_)
              have e8 := hw9
              rw [e8] at hP hD
              refine W.widen (k := cells) (n := slots) (Nat.le_refl _) (Nat.le_refl _) ?_
              refine lv_iinc (k := 6) (v := (L 6) + 1) (lv' := [(6, .int ((L 6) + 1)), (0, .ref (ad 0)), (1, .int (L 1)), (2, .int (L 2)), (3, .int (L 3)), (4, .int (L 4)), (5, .int (L 5))]) hx hb d_Mod_giveSome_82 hl rfl rfl (by decide) rfl (fun ls hl => ?_)
              refine lv_goto (tgt := 36) hx hb d_Mod_giveSome_85 (by decide) ?_
              exact (ih.2.2.1) T7 (upd L 6 ((L 6) + 1)) M ls H locs h (lv_sub hl [1, 2, 3, 4, 5, 6, 0] rfl) hP hD hS
    · intro S L M ls H locs h hl hP hD hS
      simp only [f_Mod_giveSome] at h
      cases h
      exact kx_88 ls H locs hP hD hS
abbrev rm_t_Mod_giveSome : Room := { frames := 3, cells := 0, slots := 0, locals := 73 }
theorem t_Mod_giveSome (l : Launch) (g : gG) (sz : Nat) (ad : Nat → Nat) (S : sS) (v1 : Int32) (v2 : Int32) (k : Nat) (r : Int32) (S9 : sS) (h : f_Mod_giveSome k 0 S (upd (upd (fun _ => 0) 1 v1) 2 v2) (fun _ => 0) = some (r, S9)) : Cv l y_Mod_giveSome b_Mod_giveSome 7 rm_t_Mod_giveSome g [.ref (ad 0), .int v1, .int v2] (Sw shM g ad S) sz (fun w => ∃ S1 : sS, w = Sw shM g ad S1 ∧ S1 = S9) := by
  refine startV (by decide) (Nat.le_of_ble_eq_true rfl) ?_
  intro p e s m below meth c A ls hx hb hr hml hlocks hmn hown htt hN hA hP hK hD hS hl
  exact (w_Mod_giveSome hx hb hml hown htt hK hN hA (by decide +kernel) (by decide +kernel) (by decide +kernel) (by decide +kernel) r S9 (fun ls H locs hP hD hS => fin_v (g := g) (ws := Sw shM g ad S9) hx hb hr hlocks (by decide +kernel) (by decide +kernel) hP hD hS ⟨_, rfl, rfl⟩ d_Mod_giveSome_88) k).1 S (upd (upd (fun _ => 0) 1 v1) 2 v2) (fun _ => 0) ls _ _ h hl hP hD hS
def f_Mod_isQuote : Nat → Nat → sS → (Nat → Int32) → (Nat → Int64) → Option (Int32 × sS)
  | 0, _, _, _, _ => none
  | k + 1, 0, S, L, M => (f_Mod_argumentSize k 0 S (upd (upd (fun _ => 0) 1 (L 1 : Int32)) 2 (L 2 : Int32)) (fun _ => 0)).bind (fun (r1, T1) => if r1 ≤ (0 : Int32) then (f_Mod_isQuote k 1 T1 (upd L 3 r1) M) else (if (5 : Int32) ≤ r1 then (f_Mod_isQuote k 1 T1 (upd L 3 r1) M) else (f_Mod_isQuote k 2 T1 (upd (upd L 3 r1) 100 (1 : Int32)) M)))
  | k + 1, 1, S, L, M => f_Mod_isQuote k 2 S (upd L 100 (0 : Int32)) M
  | k + 1, 2, S, L, M => f_Mod_isQuote k 3 S (upd (upd L 4 (L 100)) 5 (0 : Int32)) M
  | k + 1, 3, S, L, M => if (L 3) ≤ (L 5) then (f_Mod_isQuote k 6 S L M) else (if (L 4) = (0 : Int32) then (f_Mod_isQuote k 6 S L M) else ((f_Mod_argumentAt k 0 S (upd (upd (fun _ => 0) 1 (L 1 : Int32)) 2 (L 2 : Int32)) (fun _ => 0)).bind (fun (r3, T3) => if okI (r3 + (L 5)) 16385 = true then ((f_Mod_isLetter k 0 T3 (upd (fun _ => 0) 0 ((T3.2.1 19 (r3 + (L 5) : Int32).toNatClampNeg) &&& (255 : Int32) : Int32)) (fun _ => 0)).bind (fun (r5, T5) => if r5 = (0 : Int32) then ((f_Mod_isDigit k 0 T5 (upd (fun _ => 0) 0 ((T3.2.1 19 (r3 + (L 5) : Int32).toNatClampNeg) &&& (255 : Int32) : Int32)) (fun _ => 0)).bind (fun (r7, T7) => if r7 = (0 : Int32) then ((f_Mod_isBlank k 0 T7 (upd (fun _ => 0) 0 ((T3.2.1 19 (r3 + (L 5) : Int32).toNatClampNeg) &&& (255 : Int32) : Int32)) (fun _ => 0)).bind (fun (r9, T9) => if r9 = (0 : Int32) then (if ((T3.2.1 19 (r3 + (L 5) : Int32).toNatClampNeg) &&& (255 : Int32)) = (10 : Int32) then (f_Mod_isQuote k 4 T9 (upd L 6 ((T3.2.1 19 (r3 + (L 5) : Int32).toNatClampNeg) &&& (255 : Int32))) M) else (if ((T3.2.1 19 (r3 + (L 5) : Int32).toNatClampNeg) &&& (255 : Int32)) = (35 : Int32) then (f_Mod_isQuote k 4 T9 (upd L 6 ((T3.2.1 19 (r3 + (L 5) : Int32).toNatClampNeg) &&& (255 : Int32))) M) else (if ((T3.2.1 19 (r3 + (L 5) : Int32).toNatClampNeg) &&& (255 : Int32)) = (40 : Int32) then (f_Mod_isQuote k 4 T9 (upd L 6 ((T3.2.1 19 (r3 + (L 5) : Int32).toNatClampNeg) &&& (255 : Int32))) M) else (if ((T3.2.1 19 (r3 + (L 5) : Int32).toNatClampNeg) &&& (255 : Int32)) = (41 : Int32) then (f_Mod_isQuote k 4 T9 (upd L 6 ((T3.2.1 19 (r3 + (L 5) : Int32).toNatClampNeg) &&& (255 : Int32))) M) else (if ((T3.2.1 19 (r3 + (L 5) : Int32).toNatClampNeg) &&& (255 : Int32)) = (44 : Int32) then (f_Mod_isQuote k 4 T9 (upd L 6 ((T3.2.1 19 (r3 + (L 5) : Int32).toNatClampNeg) &&& (255 : Int32))) M) else (f_Mod_isQuote k 5 T9 (upd (upd L 6 ((T3.2.1 19 (r3 + (L 5) : Int32).toNatClampNeg) &&& (255 : Int32))) 100 (1 : Int32)) M)))))) else (f_Mod_isQuote k 4 T9 (upd L 6 ((T3.2.1 19 (r3 + (L 5) : Int32).toNatClampNeg) &&& (255 : Int32))) M))) else (f_Mod_isQuote k 4 T7 (upd L 6 ((T3.2.1 19 (r3 + (L 5) : Int32).toNatClampNeg) &&& (255 : Int32))) M))) else (f_Mod_isQuote k 4 T5 (upd L 6 ((T3.2.1 19 (r3 + (L 5) : Int32).toNatClampNeg) &&& (255 : Int32))) M))) else none)))
  | k + 1, 4, S, L, M => f_Mod_isQuote k 5 S (upd L 100 (0 : Int32)) M
  | k + 1, 5, S, L, M => f_Mod_isQuote k 3 S (upd (upd L 4 (L 100)) 5 ((L 5) + 1)) M
  | k + 1, 6, S, L, M => if bz (L 4) = true then some (L 4, S) else none
  | _ + 1, _ + 7, _, _, _ => none
set_option maxHeartbeats 8000000 in
set_option maxRecDepth 100000 in
theorem w_Mod_isQuote {p : Program} {l : Launch} {e : Env} {R : Room} {s : State} {m : MethodId} {args : Array Value} {below : List Frame} {meth : Method} {c : Code} {cells slots : Nat} {Q : State → Prop} {g : gG} {A : Nat → Prop} {ad : Nat → Nat} (hx : p.tables.exec = Jvm.exec) (hb : c.code = b_Mod_isQuote) (hml : c.maxLocals = 7) (hown : s.vm.findClass "MacroMillModel" = some m.cls) (htt : ∀ w ∈ gt, w.before args s = true) (hK : va_K g.1 classes (tysG g) s) (hN : nw s) (hA : ∀ q : Nat, s.heap.size ≤ q → A q) (hRf : 1 ≤ R.frames) (hRl : 22 ≤ R.locals) (hRc : cells ≤ R.cells) (hRs : slots ≤ R.slots) (r : Int32) (S9 : sS)
    (kx_131 : ∀ (ls : Array Slot) (H : Heap) (locs : List Loc), narrow .boolean (.int r) = .int r → va_P g.1 classes (Sw shM g ad S9) H → va_D A (Sw shM g ad S9) → va_S A s.heap H locs → W p l e R s m args below meth c H locs cells slots Q (F0 m 131 ls [.int r])) :
    ∀ k9 : Nat, (∀ (S : sS) (L : Nat → Int32) (M : Nat → Int64) (ls : Array Slot) (H : Heap) (locs : List Loc), f_Mod_isQuote k9 0 S L M = some (r, S9) → lv_has ls 7 [(0, .ref (ad 0)), (1, .int (L 1)), (2, .int (L 2))] → va_P g.1 classes (Sw shM g ad S) H → va_D A (Sw shM g ad S) → va_S A s.heap H locs → W p l e R s m args below meth c H locs cells slots Q (F0 m 0 ls [])) ∧ (∀ (S : sS) (L : Nat → Int32) (M : Nat → Int64) (ls : Array Slot) (H : Heap) (locs : List Loc), f_Mod_isQuote k9 1 S L M = some (r, S9) → lv_has ls 7 [(0, .ref (ad 0)), (1, .int (L 1)), (2, .int (L 2)), (3, .int (L 3))] → va_P g.1 classes (Sw shM g ad S) H → va_D A (Sw shM g ad S) → va_S A s.heap H locs → W p l e R s m args below meth c H locs cells slots Q (F0 m 20 ls [])) ∧ (∀ (S : sS) (L : Nat → Int32) (M : Nat → Int64) (ls : Array Slot) (H : Heap) (locs : List Loc), f_Mod_isQuote k9 2 S L M = some (r, S9) → lv_has ls 7 [(0, .ref (ad 0)), (1, .int (L 1)), (2, .int (L 2)), (3, .int (L 3))] → va_P g.1 classes (Sw shM g ad S) H → va_D A (Sw shM g ad S) → va_S A s.heap H locs → W p l e R s m args below meth c H locs cells slots Q (F0 m 21 ls [.int (L 100)])) ∧ (∀ (S : sS) (L : Nat → Int32) (M : Nat → Int64) (ls : Array Slot) (H : Heap) (locs : List Loc), f_Mod_isQuote k9 3 S L M = some (r, S9) → lv_has ls 7 [(0, .ref (ad 0)), (1, .int (L 1)), (2, .int (L 2)), (3, .int (L 3)), (4, .int (L 4)), (5, .int (L 5))] → va_P g.1 classes (Sw shM g ad S) H → va_D A (Sw shM g ad S) → va_S A s.heap H locs → W p l e R s m args below meth c H locs cells slots Q (F0 m 26 ls [])) ∧ (∀ (S : sS) (L : Nat → Int32) (M : Nat → Int64) (ls : Array Slot) (H : Heap) (locs : List Loc), f_Mod_isQuote k9 4 S L M = some (r, S9) → lv_has ls 7 [(0, .ref (ad 0)), (1, .int (L 1)), (2, .int (L 2)), (3, .int (L 3)), (4, .int (L 4)), (5, .int (L 5)), (6, .int (L 6))] → va_P g.1 classes (Sw shM g ad S) H → va_D A (Sw shM g ad S) → va_S A s.heap H locs → W p l e R s m args below meth c H locs cells slots Q (F0 m 120 ls [])) ∧ (∀ (S : sS) (L : Nat → Int32) (M : Nat → Int64) (ls : Array Slot) (H : Heap) (locs : List Loc), f_Mod_isQuote k9 5 S L M = some (r, S9) → lv_has ls 7 [(0, .ref (ad 0)), (1, .int (L 1)), (2, .int (L 2)), (3, .int (L 3)), (4, .int (L 4)), (5, .int (L 5)), (6, .int (L 6))] → va_P g.1 classes (Sw shM g ad S) H → va_D A (Sw shM g ad S) → va_S A s.heap H locs → W p l e R s m args below meth c H locs cells slots Q (F0 m 121 ls [.int (L 100)])) ∧ (∀ (S : sS) (L : Nat → Int32) (M : Nat → Int64) (ls : Array Slot) (H : Heap) (locs : List Loc), f_Mod_isQuote k9 6 S L M = some (r, S9) → lv_has ls 7 [(0, .ref (ad 0)), (1, .int (L 1)), (2, .int (L 2)), (3, .int (L 3)), (4, .int (L 4)), (5, .int (L 5))] → va_P g.1 classes (Sw shM g ad S) H → va_D A (Sw shM g ad S) → va_S A s.heap H locs → W p l e R s m args below meth c H locs cells slots Q (F0 m 129 ls [])) := by
  intro k9
  induction k9 with
  | zero => exact ⟨(fun _ _ _ _ _ _ h => by simp [f_Mod_isQuote] at h), (fun _ _ _ _ _ _ h => by simp [f_Mod_isQuote] at h), (fun _ _ _ _ _ _ h => by simp [f_Mod_isQuote] at h), (fun _ _ _ _ _ _ h => by simp [f_Mod_isQuote] at h), (fun _ _ _ _ _ _ h => by simp [f_Mod_isQuote] at h), (fun _ _ _ _ _ _ h => by simp [f_Mod_isQuote] at h), (fun _ _ _ _ _ _ h => by simp [f_Mod_isQuote] at h)⟩
  | succ k9 ih =>
    refine ⟨?_, ?_, ?_, ?_, ?_, ?_, ?_⟩
    · intro S L M ls H locs h hl hP hD hS
      simp only [f_Mod_isQuote] at h
      refine lv_aload_n hx hb d_Mod_isQuote_0 rfl (lv_at hl 0 rfl) ?_
      refine lv_iload_n hx hb d_Mod_isQuote_1 rfl (lv_at hl 1 rfl) ?_
      refine lv_iload_n hx hb d_Mod_isQuote_2 rfl (lv_at hl 2 rfl) ?_
      obtain ⟨⟨r1, T1⟩, hq1, h⟩ := Option.bind_eq_some_iff.mp h
      try dsimp only at h
      refine go_iS (As := [.ref (ad 0), .int (L 1), .int (L 2)]) (g := g) (A := A) (h := shM) hP hK hD hS hA hN (fun hp => va_runV (As := [.int (L 1), .int (L 2)]) (rest := []) ⟨hx, hb, hml, hown, htt⟩ (t_Mod_argumentSize l g _ ad S (L 1 : Int32) (L 2 : Int32) k9 r1 T1 hq1) ⟨(cb_L htt k_2840 k_276 k_2837 hd_Mod_argumentSize ⟨(Nat.le_trans (by decide +kernel) hRf), (Nat.le_trans (by decide +kernel) hRl)⟩), htt _ k_2839, htt _ k_154⟩ ⟨hp.1, S_recv hK hP 0 rfl rfl, hp.2⟩ rfl rfl hl.1 rfl (lv_room (Nat.le_of_ble_eq_true rfl)) d_Mod_isQuote_3 ⟨hRc, hRs⟩) (fun r0 Sn H locs hw9 hP hD hS => ?_)
      obtain ⟨e9, e8⟩ := hw9
      rw [e8] at hP hD
      refine W.widen (k := cells) (n := slots) (Nat.le_refl _) (Nat.le_refl _) ?_
      refine toI (y := r1) e9 ?_
      refine lv_istore_n (lv' := [(3, .int r1), (0, .ref (ad 0)), (1, .int (L 1)), (2, .int (L 2))]) hx hb d_Mod_isQuote_6 rfl hl (by decide) rfl (fun ls hl => ?_)
      refine lv_iload_n hx hb d_Mod_isQuote_7 rfl (lv_at hl 0 rfl) ?_
      refine lv_if_le (tgt := 20) hx hb d_Mod_isQuote_8 (by decide) (fun hc2 => ?_) (fun hc2 => ?_)
      · rw [if_pos hc2] at h
        exact (ih.2.1) T1 (upd L 3 r1) M ls H locs h (lv_sub hl [1, 2, 3, 0] rfl) hP hD hS
      · rw [if_neg hc2] at h
        refine lv_iload_n hx hb d_Mod_isQuote_11 rfl (lv_at hl 0 rfl) ?_
        refine lv_iconst (v := 5) hx hb d_Mod_isQuote_12 (by decide) ?_
        refine lv_icmp_ge (tgt := 20) hx hb d_Mod_isQuote_13 (by decide) (fun hc3 => ?_) (fun hc3 => ?_)
        · rw [if_pos hc3] at h
          exact (ih.2.1) T1 (upd L 3 r1) M ls H locs h (lv_sub hl [1, 2, 3, 0] rfl) hP hD hS
        · rw [if_neg hc3] at h
          refine lv_iconst (v := 1) hx hb d_Mod_isQuote_16 (by decide) ?_
          refine lv_goto (tgt := 21) hx hb d_Mod_isQuote_17 (by decide) ?_
          exact (ih.2.2.1) T1 (upd (upd L 3 r1) 100 (1 : Int32)) M ls H locs h (lv_sub hl [1, 2, 3, 0] rfl) hP hD hS
    · intro S L M ls H locs h hl hP hD hS
      simp only [f_Mod_isQuote] at h
      refine lv_iconst (v := 0) hx hb d_Mod_isQuote_20 (by decide) ?_
      exact (ih.2.2.1) S (upd L 100 (0 : Int32)) M ls H locs h (lv_sub hl [0, 1, 2, 3] rfl) hP hD hS
    · intro S L M ls H locs h hl hP hD hS
      simp only [f_Mod_isQuote] at h
      refine lv_istore (lv' := [(4, .int (L 100)), (0, .ref (ad 0)), (1, .int (L 1)), (2, .int (L 2)), (3, .int (L 3))]) hx hb d_Mod_isQuote_21 hl (by decide) rfl (fun ls hl => ?_)
      refine lv_iconst (v := 0) hx hb d_Mod_isQuote_23 (by decide) ?_
      refine lv_istore (lv' := [(5, .int 0), (4, .int (L 100)), (0, .ref (ad 0)), (1, .int (L 1)), (2, .int (L 2)), (3, .int (L 3))]) hx hb d_Mod_isQuote_24 hl (by decide) rfl (fun ls hl => ?_)
      exact (ih.2.2.2.1) S (upd (upd L 4 (L 100)) 5 (0 : Int32)) M ls H locs h (lv_sub hl [2, 3, 4, 5, 1, 0] rfl) hP hD hS
    · intro S L M ls H locs h hl hP hD hS
      simp only [f_Mod_isQuote] at h
      refine lv_iload hx hb d_Mod_isQuote_26 (lv_at hl 5 rfl) ?_
      refine lv_iload_n hx hb d_Mod_isQuote_28 rfl (lv_at hl 3 rfl) ?_
      refine lv_icmp_ge (tgt := 129) hx hb d_Mod_isQuote_29 (by decide) (fun hc1 => ?_) (fun hc1 => ?_)
      · rw [if_pos hc1] at h
        exact (ih.2.2.2.2.2.2) S L M ls H locs h (lv_sub hl [0, 1, 2, 3, 4, 5] rfl) hP hD hS
      · rw [if_neg hc1] at h
        refine lv_iload hx hb d_Mod_isQuote_32 (lv_at hl 4 rfl) ?_
        refine lv_if_eq (tgt := 129) hx hb d_Mod_isQuote_34 (by decide) (fun hc2 => ?_) (fun hc2 => ?_)
        · rw [if_pos hc2] at h
          exact (ih.2.2.2.2.2.2) S L M ls H locs h (lv_sub hl [0, 1, 2, 3, 4, 5] rfl) hP hD hS
        · rw [if_neg hc2] at h
          refine lv_aload_n hx hb d_Mod_isQuote_37 rfl (lv_at hl 0 rfl) ?_
          refine S_getR (h := shM) (C := "MacroMillModel") (T := F_Mod) hx hb htt in_Mod hown hK hP 0 48 rfl 20 rfl rfl (by decide) (htt _ k_2284) (fun _ h9 => h9) d_Mod_isQuote_38 ?_
          refine lv_aload_n hx hb d_Mod_isQuote_41 rfl (lv_at hl 0 rfl) ?_
          refine lv_iload_n hx hb d_Mod_isQuote_42 rfl (lv_at hl 1 rfl) ?_
          refine lv_iload_n hx hb d_Mod_isQuote_43 rfl (lv_at hl 2 rfl) ?_
          obtain ⟨⟨r3, T3⟩, hq3, h⟩ := Option.bind_eq_some_iff.mp h
          try dsimp only at h
          refine go_iS (As := [.ref (ad 0), .int (L 1), .int (L 2)]) (g := g) (A := A) (h := shM) hP hK hD hS hA hN (fun hp => va_runV (As := [.int (L 1), .int (L 2)]) (rest := [.ref (ad 20)]) ⟨hx, hb, hml, hown, htt⟩ (t_Mod_argumentAt l g _ ad S (L 1 : Int32) (L 2 : Int32) k9 r3 T3 hq3) ⟨(cb_L htt k_2836 k_276 k_2833 hd_Mod_argumentAt ⟨(Nat.le_trans (by decide +kernel) hRf), (Nat.le_trans (by decide +kernel) hRl)⟩), htt _ k_2835, htt _ k_153⟩ ⟨hp.1, S_recv hK hP 0 rfl rfl, hp.2⟩ rfl rfl hl.1 rfl (lv_room (Nat.le_of_ble_eq_true rfl)) d_Mod_isQuote_44 ⟨hRc, hRs⟩) (fun r0 Sn H locs hw9 hP hD hS => ?_)
          obtain ⟨e9, e8⟩ := hw9
          rw [e8] at hP hD
          refine W.widen (k := cells) (n := slots) (Nat.le_refl _) (Nat.le_refl _) ?_
          refine toI (y := r3) e9 ?_
          refine lv_iload hx hb d_Mod_isQuote_47 (lv_at hl 5 rfl) ?_
          refine lv_iadd hx hb d_Mod_isQuote_49 ?_
          obtain ⟨hv4, h⟩ := chk h
          refine S_bald (h := shM) (i := r3 + (L 5)) hx hb hK hP 19 rfl (okI_in hv4) d_Mod_isQuote_50 ?_
          show W _ _ _ _ _ _ _ _ _ _ _ _ _ _ _ (F0 _ 51 _ _)
          refine lv_sipush (v := 255) hx hb d_Mod_isQuote_51 (by decide) ?_
          refine lv_iand hx hb d_Mod_isQuote_54 ?_
          refine lv_istore (lv' := [(6, .int ((T3.2.1 19 (r3 + (L 5) : Int32).toNatClampNeg) &&& (255 : Int32))), (0, .ref (ad 0)), (1, .int (L 1)), (2, .int (L 2)), (3, .int (L 3)), (4, .int (L 4)), (5, .int (L 5))]) hx hb d_Mod_isQuote_55 hl (by decide) rfl (fun ls hl => ?_)
          refine lv_iload hx hb d_Mod_isQuote_57 (lv_at hl 0 rfl) ?_
          obtain ⟨⟨r5, T5⟩, hq5, h⟩ := Option.bind_eq_some_iff.mp h
          try dsimp only at h
          refine go_iS (As := [.int ((T3.2.1 19 (r3 + (L 5) : Int32).toNatClampNeg) &&& (255 : Int32))]) (g := g) (A := A) (h := shM) hP hK hD hS hA hN (fun hp => va_runS (As := [.int ((T3.2.1 19 (r3 + (L 5) : Int32).toNatClampNeg) &&& (255 : Int32))]) (rest := []) ⟨hx, hb, hml, hown, htt⟩ (t_Mod_isLetter l g _ ad T3 ((T3.2.1 19 (r3 + (L 5) : Int32).toNatClampNeg) &&& (255 : Int32) : Int32) k9 r5 T5 hq5) ⟨(cb_L htt k_2774 k_276 k_2772 hd_Mod_isLetter ⟨(Nat.le_trans (by decide +kernel) hRf), (Nat.le_trans (by decide +kernel) hRl)⟩), htt _ k_2773⟩ hp rfl rfl hl.1 rfl (lv_room (Nat.le_of_ble_eq_true rfl)) d_Mod_isQuote_59 ⟨hRc, hRs⟩) (fun r0 Sn H locs hw9 hP hD hS => ?_)
          obtain ⟨e9, e8⟩ := hw9
          rw [e8] at hP hD
          refine W.widen (k := cells) (n := slots) (Nat.le_refl _) (Nat.le_refl _) ?_
          refine toI (y := r5) e9 ?_
          refine lv_if_ne (tgt := 120) hx hb d_Mod_isQuote_62 (by decide) (fun hc6 => ?_) (fun hc6 => ?_)
          · rw [if_neg hc6] at h
            exact (ih.2.2.2.2.1) T5 (upd L 6 ((T3.2.1 19 (r3 + (L 5) : Int32).toNatClampNeg) &&& (255 : Int32))) M ls H locs h (lv_sub hl [1, 2, 3, 4, 5, 6, 0] rfl) hP hD hS
          · rw [if_pos hc6] at h
            refine lv_iload hx hb d_Mod_isQuote_65 (lv_at hl 0 rfl) ?_
            obtain ⟨⟨r7, T7⟩, hq7, h⟩ := Option.bind_eq_some_iff.mp h
            try dsimp only at h
            refine go_iS (As := [.int ((T3.2.1 19 (r3 + (L 5) : Int32).toNatClampNeg) &&& (255 : Int32))]) (g := g) (A := A) (h := shM) hP hK hD hS hA hN (fun hp => va_runS (As := [.int ((T3.2.1 19 (r3 + (L 5) : Int32).toNatClampNeg) &&& (255 : Int32))]) (rest := []) ⟨hx, hb, hml, hown, htt⟩ (t_Mod_isDigit l g _ ad T5 ((T3.2.1 19 (r3 + (L 5) : Int32).toNatClampNeg) &&& (255 : Int32) : Int32) k9 r7 T7 hq7) ⟨(cb_L htt k_2777 k_276 k_2775 hd_Mod_isDigit ⟨(Nat.le_trans (by decide +kernel) hRf), (Nat.le_trans (by decide +kernel) hRl)⟩), htt _ k_2776⟩ hp rfl rfl hl.1 rfl (lv_room (Nat.le_of_ble_eq_true rfl)) d_Mod_isQuote_67 ⟨hRc, hRs⟩) (fun r0 Sn H locs hw9 hP hD hS => ?_)
            obtain ⟨e9, e8⟩ := hw9
            rw [e8] at hP hD
            refine W.widen (k := cells) (n := slots) (Nat.le_refl _) (Nat.le_refl _) ?_
            refine toI (y := r7) e9 ?_
            refine lv_if_ne (tgt := 120) hx hb d_Mod_isQuote_70 (by decide) (fun hc8 => ?_) (fun hc8 => ?_)
            · rw [if_neg hc8] at h
              exact (ih.2.2.2.2.1) T7 (upd L 6 ((T3.2.1 19 (r3 + (L 5) : Int32).toNatClampNeg) &&& (255 : Int32))) M ls H locs h (lv_sub hl [1, 2, 3, 4, 5, 6, 0] rfl) hP hD hS
            · rw [if_pos hc8] at h
              refine lv_iload hx hb d_Mod_isQuote_73 (lv_at hl 0 rfl) ?_
              obtain ⟨⟨r9, T9⟩, hq9, h⟩ := Option.bind_eq_some_iff.mp h
              try dsimp only at h
              refine go_iS (As := [.int ((T3.2.1 19 (r3 + (L 5) : Int32).toNatClampNeg) &&& (255 : Int32))]) (g := g) (A := A) (h := shM) hP hK hD hS hA hN (fun hp => va_runS (As := [.int ((T3.2.1 19 (r3 + (L 5) : Int32).toNatClampNeg) &&& (255 : Int32))]) (rest := []) ⟨hx, hb, hml, hown, htt⟩ (t_Mod_isBlank l g _ ad T7 ((T3.2.1 19 (r3 + (L 5) : Int32).toNatClampNeg) &&& (255 : Int32) : Int32) k9 r9 T9 hq9) ⟨(cb_L htt k_2812 k_276 k_2810 hd_Mod_isBlank ⟨(Nat.le_trans (by decide +kernel) hRf), (Nat.le_trans (by decide +kernel) hRl)⟩), htt _ k_2811⟩ hp rfl rfl hl.1 rfl (lv_room (Nat.le_of_ble_eq_true rfl)) d_Mod_isQuote_75 ⟨hRc, hRs⟩) (fun r0 Sn H locs hw9 hP hD hS => ?_)
              obtain ⟨e9, e8⟩ := hw9
              rw [e8] at hP hD
              refine W.widen (k := cells) (n := slots) (Nat.le_refl _) (Nat.le_refl _) ?_
              refine toI (y := r9) e9 ?_
              refine lv_if_ne (tgt := 120) hx hb d_Mod_isQuote_78 (by decide) (fun hc10 => ?_) (fun hc10 => ?_)
              · rw [if_neg hc10] at h
                exact (ih.2.2.2.2.1) T9 (upd L 6 ((T3.2.1 19 (r3 + (L 5) : Int32).toNatClampNeg) &&& (255 : Int32))) M ls H locs h (lv_sub hl [1, 2, 3, 4, 5, 6, 0] rfl) hP hD hS
              · rw [if_pos hc10] at h
                refine lv_iload hx hb d_Mod_isQuote_81 (lv_at hl 0 rfl) ?_
                refine lv_bipush (v := 10) hx hb d_Mod_isQuote_83 (by decide) ?_
                refine lv_icmp_eq (tgt := 120) hx hb d_Mod_isQuote_85 (by decide) (fun hc11 => ?_) (fun hc11 => ?_)
                · rw [if_pos hc11] at h
                  exact (ih.2.2.2.2.1) T9 (upd L 6 ((T3.2.1 19 (r3 + (L 5) : Int32).toNatClampNeg) &&& (255 : Int32))) M ls H locs h (lv_sub hl [1, 2, 3, 4, 5, 6, 0] rfl) hP hD hS
                · rw [if_neg hc11] at h
                  refine lv_iload hx hb d_Mod_isQuote_88 (lv_at hl 0 rfl) ?_
                  refine lv_bipush (v := 35) hx hb d_Mod_isQuote_90 (by decide) ?_
                  refine lv_icmp_eq (tgt := 120) hx hb d_Mod_isQuote_92 (by decide) (fun hc12 => ?_) (fun hc12 => ?_)
                  · rw [if_pos hc12] at h
                    exact (ih.2.2.2.2.1) T9 (upd L 6 ((T3.2.1 19 (r3 + (L 5) : Int32).toNatClampNeg) &&& (255 : Int32))) M ls H locs h (lv_sub hl [1, 2, 3, 4, 5, 6, 0] rfl) hP hD hS
                  · rw [if_neg hc12] at h
                    refine lv_iload hx hb d_Mod_isQuote_95 (lv_at hl 0 rfl) ?_
                    refine lv_bipush (v := 40) hx hb d_Mod_isQuote_97 (by decide) ?_
                    refine lv_icmp_eq (tgt := 120) hx hb d_Mod_isQuote_99 (by decide) (fun hc13 => ?_) (fun hc13 => ?_)
                    · rw [if_pos hc13] at h
                      exact (ih.2.2.2.2.1) T9 (upd L 6 ((T3.2.1 19 (r3 + (L 5) : Int32).toNatClampNeg) &&& (255 : Int32))) M ls H locs h (lv_sub hl [1, 2, 3, 4, 5, 6, 0] rfl) hP hD hS
                    · rw [if_neg hc13] at h
                      show W _ _ _ _ _ _ _ _ _ _ _ _ _ _ _ (F0 _ 102 _ _)
                      refine lv_iload hx hb d_Mod_isQuote_102 (lv_at hl 0 rfl) ?_
                      refine lv_bipush (v := 41) hx hb d_Mod_isQuote_104 (by decide) ?_
                      refine lv_icmp_eq (tgt := 120) hx hb d_Mod_isQuote_106 (by decide) (fun hc14 => ?_) (fun hc14 => ?_)
                      · rw [if_pos hc14] at h
                        exact (ih.2.2.2.2.1) T9 (upd L 6 ((T3.2.1 19 (r3 + (L 5) : Int32).toNatClampNeg) &&& (255 : Int32))) M ls H locs h (lv_sub hl [1, 2, 3, 4, 5, 6, 0] rfl) hP hD hS
                      · rw [if_neg hc14] at h
                        refine lv_iload hx hb d_Mod_isQuote_109 (lv_at hl 0 rfl) ?_
                        refine lv_bipush (v := 44) hx hb d_Mod_isQuote_111 (by decide) ?_
                        refine lv_icmp_eq (tgt := 120) hx hb d_Mod_isQuote_113 (by decide) (fun hc15 => ?_) (fun hc15 => ?_)
                        · rw [if_pos hc15] at h
                          exact (ih.2.2.2.2.1) T9 (upd L 6 ((T3.2.1 19 (r3 + (L 5) : Int32).toNatClampNeg) &&& (255 : Int32))) M ls H locs h (lv_sub hl [1, 2, 3, 4, 5, 6, 0] rfl) hP hD hS
                        · rw [if_neg hc15] at h
                          refine lv_iconst (v := 1) hx hb d_Mod_isQuote_116 (by decide) ?_
                          refine lv_goto (tgt := 121) hx hb d_Mod_isQuote_117 (by decide) ?_
                          exact (ih.2.2.2.2.2.1) T9 (upd (upd L 6 ((T3.2.1 19 (r3 + (L 5) : Int32).toNatClampNeg) &&& (255 : Int32))) 100 (1 : Int32)) M ls H locs h (lv_sub hl [1, 2, 3, 4, 5, 6, 0] rfl) hP hD hS
    · intro S L M ls H locs h hl hP hD hS
      simp only [f_Mod_isQuote] at h
      refine lv_iconst (v := 0) hx hb d_Mod_isQuote_120 (by decide) ?_
      exact (ih.2.2.2.2.2.1) S (upd L 100 (0 : Int32)) M ls H locs h (lv_sub hl [0, 1, 2, 3, 4, 5, 6] rfl) hP hD hS
    · intro S L M ls H locs h hl hP hD hS
      simp only [f_Mod_isQuote] at h
      refine lv_istore (lv' := [(4, .int (L 100)), (0, .ref (ad 0)), (1, .int (L 1)), (2, .int (L 2)), (3, .int (L 3)), (5, .int (L 5)), (6, .int (L 6))]) hx hb d_Mod_isQuote_121 hl (by decide) rfl (fun ls hl => ?_)
      refine lv_iinc (k := 5) (v := (L 5) + 1) (lv' := [(5, .int ((L 5) + 1)), (4, .int (L 100)), (0, .ref (ad 0)), (1, .int (L 1)), (2, .int (L 2)), (3, .int (L 3)), (6, .int (L 6))]) hx hb d_Mod_isQuote_123 hl rfl rfl (by decide) rfl (fun ls hl => ?_)
      refine lv_goto (tgt := 26) hx hb d_Mod_isQuote_126 (by decide) ?_
      exact (ih.2.2.2.1) S (upd (upd L 4 (L 100)) 5 ((L 5) + 1)) M ls H locs h (lv_sub hl [2, 3, 4, 5, 1, 0] rfl) hP hD hS
    · intro S L M ls H locs h hl hP hD hS
      simp only [f_Mod_isQuote] at h
      refine lv_iload hx hb d_Mod_isQuote_129 (lv_at hl 4 rfl) ?_
      obtain ⟨hv1, h⟩ := chk h
      cases h
      exact kx_131 ls H locs (bz_n hv1) hP hD hS
abbrev rm_t_Mod_isQuote : Room := { frames := 1, cells := 0, slots := 0, locals := 22 }
theorem t_Mod_isQuote (l : Launch) (g : gG) (sz : Nat) (ad : Nat → Nat) (S : sS) (v1 : Int32) (v2 : Int32) (k : Nat) (r : Int32) (S9 : sS) (h : f_Mod_isQuote k 0 S (upd (upd (fun _ => 0) 1 v1) 2 v2) (fun _ => 0) = some (r, S9)) : Cz l y_Mod_isQuote b_Mod_isQuote 7 rm_t_Mod_isQuote g [.ref (ad 0), .int v1, .int v2] (Sw shM g ad S) sz (fun r1 w => ∃ S1 : sS, w = Sw shM g ad S1 ∧ r1 = r ∧ S1 = S9) := by
  refine startZ (by decide) (Nat.le_of_ble_eq_true rfl) ?_
  intro p e s m below meth c A ls hx hb hr hml hlocks hmn hown htt hN hA hP hK hD hS hl
  exact (w_Mod_isQuote hx hb hml hown htt hK hN hA (by decide +kernel) (by decide +kernel) (by decide +kernel) (by decide +kernel) r S9 (fun ls H locs hz hP hD hS => fin_z (g := g) (ws := Sw shM g ad S9) hx hb hr hlocks hz (by decide +kernel) (by decide +kernel) hP hD hS ⟨_, rfl, rfl, rfl⟩ d_Mod_isQuote_131) k).1 S (upd (upd (fun _ => 0) 1 v1) 2 v2) (fun _ => 0) ls _ _ h hl hP hD hS
def f_Mod_changeQuotes : Nat → Nat → sS → (Nat → Int32) → (Nat → Int64) → Option (Int32 × sS)
  | 0, _, _, _, _ => none
  | k + 1, 0, S, L, M => if (L 2) = (0 : Int32) then (if okI (0) 4 = true then (if okI (0) 4 = true then (some ((0 : Int32), (putA (putI (putA (putI S 0 26 1) 8 (0 : Int32).toNatClampNeg 96) 0 28 1) 9 (0 : Int32).toNatClampNeg 39))) else none) else none) else ((f_Mod_isQuote k 0 S (upd (upd (fun _ => 0) 1 (L 1 : Int32)) 2 (1 : Int32)) (fun _ => 0)).bind (fun (r2, T2) => if r2 = (0 : Int32) then (f_Mod_changeQuotes k 1 T2 L M) else ((f_Mod_isQuote k 0 T2 (upd (upd (fun _ => 0) 1 (L 1 : Int32)) 2 (2 : Int32)) (fun _ => 0)).bind (fun (r4, T4) => if r4 = (0 : Int32) then (f_Mod_changeQuotes k 1 T4 L M) else ((f_Mod_argumentSize k 0 T4 (upd (upd (fun _ => 0) 1 (L 1 : Int32)) 2 (1 : Int32)) (fun _ => 0)).bind (fun (r6, T6) => (f_Mod_argumentSize k 0 (putI T6 0 26 r6) (upd (upd (fun _ => 0) 1 (L 1 : Int32)) 2 (2 : Int32)) (fun _ => 0)).bind (fun (r7, T7) => f_Mod_changeQuotes k 2 (putI T7 0 28 r7) (upd L 3 (0 : Int32)) M)))))))
  | k + 1, 1, S, L, M => (f_Mod_fail1 k 0 S (upd (fun _ => 0) 1 (37 : Int32)) (fun _ => 0)).bind (fun (r1, T1) => some ((0 : Int32), T1))
  | k + 1, 2, S, L, M => if (S.1 0 26) ≤ (L 3) then (f_Mod_changeQuotes k 3 S (upd L 3 (0 : Int32)) M) else ((f_Mod_argumentAt k 0 S (upd (upd (fun _ => 0) 1 (L 1 : Int32)) 2 (1 : Int32)) (fun _ => 0)).bind (fun (r2, T2) => if okI (r2 + (L 3)) 16385 = true then (if okI (L 3) 4 = true then (f_Mod_changeQuotes k 2 (putA T2 8 (L 3 : Int32).toNatClampNeg ((T2.2.1 19 (r2 + (L 3) : Int32).toNatClampNeg) &&& (255 : Int32))) (upd L 3 ((L 3) + 1)) M) else none) else none))
  | k + 1, 3, S, L, M => if (S.1 0 28) ≤ (L 3) then (some ((0 : Int32), S)) else ((f_Mod_argumentAt k 0 S (upd (upd (fun _ => 0) 1 (L 1 : Int32)) 2 (2 : Int32)) (fun _ => 0)).bind (fun (r2, T2) => if okI (r2 + (L 3)) 16385 = true then (if okI (L 3) 4 = true then (f_Mod_changeQuotes k 3 (putA T2 9 (L 3 : Int32).toNatClampNeg ((T2.2.1 19 (r2 + (L 3) : Int32).toNatClampNeg) &&& (255 : Int32))) (upd L 3 ((L 3) + 1)) M) else none) else none))
  | _ + 1, _ + 4, _, _, _ => none
set_option maxHeartbeats 8000000 in
set_option maxRecDepth 100000 in
theorem w_Mod_changeQuotes {p : Program} {l : Launch} {e : Env} {R : Room} {s : State} {m : MethodId} {args : Array Value} {below : List Frame} {meth : Method} {c : Code} {cells slots : Nat} {Q : State → Prop} {g : gG} {A : Nat → Prop} {ad : Nat → Nat} (hx : p.tables.exec = Jvm.exec) (hb : c.code = b_Mod_changeQuotes) (hml : c.maxLocals = 4) (hown : s.vm.findClass "MacroMillModel" = some m.cls) (htt : ∀ w ∈ gt, w.before args s = true) (hK : va_K g.1 classes (tysG g) s) (hN : nw s) (hA : ∀ q : Nat, s.heap.size ≤ q → A q) (hRf : 2 ≤ R.frames) (hRl : 48 ≤ R.locals) (hRc : cells ≤ R.cells) (hRs : slots ≤ R.slots) (r : Int32) (S9 : sS)
    (kx_30 : ∀ (ls : Array Slot) (H : Heap) (locs : List Loc), va_P g.1 classes (Sw shM g ad S9) H → va_D A (Sw shM g ad S9) → va_S A s.heap H locs → W p l e R s m args below meth c H locs cells slots Q (F0 m 30 ls []))
    (kx_55 : ∀ (ls : Array Slot) (H : Heap) (locs : List Loc), va_P g.1 classes (Sw shM g ad S9) H → va_D A (Sw shM g ad S9) → va_S A s.heap H locs → W p l e R s m args below meth c H locs cells slots Q (F0 m 55 ls []))
    (kx_154 : ∀ (ls : Array Slot) (H : Heap) (locs : List Loc), va_P g.1 classes (Sw shM g ad S9) H → va_D A (Sw shM g ad S9) → va_S A s.heap H locs → W p l e R s m args below meth c H locs cells slots Q (F0 m 154 ls [])) :
    ∀ k9 : Nat, (∀ (S : sS) (L : Nat → Int32) (M : Nat → Int64) (ls : Array Slot) (H : Heap) (locs : List Loc), f_Mod_changeQuotes k9 0 S L M = some (r, S9) → lv_has ls 4 [(0, .ref (ad 0)), (1, .int (L 1)), (2, .int (L 2))] → va_P g.1 classes (Sw shM g ad S) H → va_D A (Sw shM g ad S) → va_S A s.heap H locs → W p l e R s m args below meth c H locs cells slots Q (F0 m 0 ls [])) ∧ (∀ (S : sS) (L : Nat → Int32) (M : Nat → Int64) (ls : Array Slot) (H : Heap) (locs : List Loc), f_Mod_changeQuotes k9 1 S L M = some (r, S9) → lv_has ls 4 [(0, .ref (ad 0)), (1, .int (L 1)), (2, .int (L 2))] → va_P g.1 classes (Sw shM g ad S) H → va_D A (Sw shM g ad S) → va_S A s.heap H locs → W p l e R s m args below meth c H locs cells slots Q (F0 m 49 ls [])) ∧ (∀ (S : sS) (L : Nat → Int32) (M : Nat → Int64) (ls : Array Slot) (H : Heap) (locs : List Loc), f_Mod_changeQuotes k9 2 S L M = some (r, S9) → lv_has ls 4 [(0, .ref (ad 0)), (1, .int (L 1)), (2, .int (L 2)), (3, .int (L 3))] → va_P g.1 classes (Sw shM g ad S) H → va_D A (Sw shM g ad S) → va_S A s.heap H locs → W p l e R s m args below meth c H locs cells slots Q (F0 m 78 ls [])) ∧ (∀ (S : sS) (L : Nat → Int32) (M : Nat → Int64) (ls : Array Slot) (H : Heap) (locs : List Loc), f_Mod_changeQuotes k9 3 S L M = some (r, S9) → lv_has ls 4 [(0, .ref (ad 0)), (1, .int (L 1)), (2, .int (L 2)), (3, .int (L 3))] → va_P g.1 classes (Sw shM g ad S) H → va_D A (Sw shM g ad S) → va_S A s.heap H locs → W p l e R s m args below meth c H locs cells slots Q (F0 m 117 ls [])) := by
  intro k9
  induction k9 with
  | zero => exact ⟨(fun _ _ _ _ _ _ h => by simp [f_Mod_changeQuotes] at h), (fun _ _ _ _ _ _ h => by simp [f_Mod_changeQuotes] at h), (fun _ _ _ _ _ _ h => by simp [f_Mod_changeQuotes] at h), (fun _ _ _ _ _ _ h => by simp [f_Mod_changeQuotes] at h)⟩
  | succ k9 ih =>
    refine ⟨?_, ?_, ?_, ?_⟩
    · intro S L M ls H locs h hl hP hD hS
      simp only [f_Mod_changeQuotes] at h
      refine lv_iload_n hx hb d_Mod_changeQuotes_0 rfl (lv_at hl 2 rfl) ?_
      refine lv_if_ne (tgt := 31) hx hb d_Mod_changeQuotes_1 (by decide) (fun hc1 => ?_) (fun hc1 => ?_)
      · rw [if_neg hc1] at h
        refine lv_aload_n hx hb d_Mod_changeQuotes_31 rfl (lv_at hl 0 rfl) ?_
        refine lv_iload_n hx hb d_Mod_changeQuotes_32 rfl (lv_at hl 1 rfl) ?_
        refine lv_iconst (v := 1) hx hb d_Mod_changeQuotes_33 (by decide) ?_
        obtain ⟨⟨r2, T2⟩, hq2, h⟩ := Option.bind_eq_some_iff.mp h
        try dsimp only at h
        refine go_iS (As := [.ref (ad 0), .int (L 1), .int 1]) (g := g) (A := A) (h := shM) hP hK hD hS hA hN (fun hp => va_runV (As := [.int (L 1), .int 1]) (rest := []) ⟨hx, hb, hml, hown, htt⟩ (t_Mod_isQuote l g _ ad S (L 1 : Int32) (1 : Int32) k9 r2 T2 hq2) ⟨(cb_L htt k_2946 k_276 k_2943 hd_Mod_isQuote ⟨(Nat.le_trans (by decide +kernel) hRf), (Nat.le_trans (by decide +kernel) hRl)⟩), htt _ k_2945, htt _ k_179⟩ ⟨hp.1, S_recv hK hP 0 rfl rfl, hp.2⟩ rfl rfl hl.1 rfl (lv_room (Nat.le_of_ble_eq_true rfl)) d_Mod_changeQuotes_34 ⟨hRc, hRs⟩) (fun r0 Sn H locs hw9 hP hD hS => ?_)
        obtain ⟨e9, e8⟩ := hw9
        rw [e8] at hP hD
        refine W.widen (k := cells) (n := slots) (Nat.le_refl _) (Nat.le_refl _) ?_
        refine toI (y := r2) e9 ?_
        refine lv_if_eq (tgt := 49) hx hb d_Mod_changeQuotes_37 (by decide) (fun hc3 => ?_) (fun hc3 => ?_)
        · rw [if_pos hc3] at h
          exact (ih.2.1) T2 L M ls H locs h (lv_sub hl [0, 1, 2] rfl) hP hD hS
        · rw [if_neg hc3] at h
          refine lv_aload_n hx hb d_Mod_changeQuotes_40 rfl (lv_at hl 0 rfl) ?_
          refine lv_iload_n hx hb d_Mod_changeQuotes_41 rfl (lv_at hl 1 rfl) ?_
          refine lv_iconst (v := 2) hx hb d_Mod_changeQuotes_42 (by decide) ?_
          obtain ⟨⟨r4, T4⟩, hq4, h⟩ := Option.bind_eq_some_iff.mp h
          try dsimp only at h
          refine go_iS (As := [.ref (ad 0), .int (L 1), .int 2]) (g := g) (A := A) (h := shM) hP hK hD hS hA hN (fun hp => va_runV (As := [.int (L 1), .int 2]) (rest := []) ⟨hx, hb, hml, hown, htt⟩ (t_Mod_isQuote l g _ ad T2 (L 1 : Int32) (2 : Int32) k9 r4 T4 hq4) ⟨(cb_L htt k_2946 k_276 k_2943 hd_Mod_isQuote ⟨(Nat.le_trans (by decide +kernel) hRf), (Nat.le_trans (by decide +kernel) hRl)⟩), htt _ k_2945, htt _ k_179⟩ ⟨hp.1, S_recv hK hP 0 rfl rfl, hp.2⟩ rfl rfl hl.1 rfl (lv_room (Nat.le_of_ble_eq_true rfl)) d_Mod_changeQuotes_43 ⟨hRc, hRs⟩) (fun r0 Sn H locs hw9 hP hD hS => ?_)
          obtain ⟨e9, e8⟩ := hw9
          rw [e8] at hP hD
          refine W.widen (k := cells) (n := slots) (Nat.le_refl _) (Nat.le_refl _) ?_
          refine toI (y := r4) e9 ?_
          refine lv_if_ne (tgt := 56) hx hb d_Mod_changeQuotes_46 (by decide) (fun hc5 => ?_) (fun hc5 => ?_)
          · rw [if_neg hc5] at h
            refine lv_aload_n hx hb d_Mod_changeQuotes_56 rfl (lv_at hl 0 rfl) ?_
            refine lv_aload_n hx hb d_Mod_changeQuotes_57 rfl (lv_at hl 0 rfl) ?_
            refine lv_iload_n hx hb d_Mod_changeQuotes_58 rfl (lv_at hl 1 rfl) ?_
            refine lv_iconst (v := 1) hx hb d_Mod_changeQuotes_59 (by decide) ?_
            obtain ⟨⟨r6, T6⟩, hq6, h⟩ := Option.bind_eq_some_iff.mp h
            try dsimp only at h
            refine go_iS (As := [.ref (ad 0), .int (L 1), .int 1]) (g := g) (A := A) (h := shM) hP hK hD hS hA hN (fun hp => va_runV (As := [.int (L 1), .int 1]) (rest := [.ref (ad 0)]) ⟨hx, hb, hml, hown, htt⟩ (t_Mod_argumentSize l g _ ad T4 (L 1 : Int32) (1 : Int32) k9 r6 T6 hq6) ⟨(cb_L htt k_2840 k_276 k_2837 hd_Mod_argumentSize ⟨(Nat.le_trans (by decide +kernel) hRf), (Nat.le_trans (by decide +kernel) hRl)⟩), htt _ k_2839, htt _ k_154⟩ ⟨hp.1, S_recv hK hP 0 rfl rfl, hp.2⟩ rfl rfl hl.1 rfl (lv_room (Nat.le_of_ble_eq_true rfl)) d_Mod_changeQuotes_60 ⟨hRc, hRs⟩) (fun r0 Sn H locs hw9 hP hD hS => ?_)
            obtain ⟨e9, e8⟩ := hw9
            rw [e8] at hP hD
            refine W.widen (k := cells) (n := slots) (Nat.le_refl _) (Nat.le_refl _) ?_
            refine toI (y := r6) e9 ?_
            show W _ _ _ _ _ _ _ _ _ _ _ _ _ _ _ (F0 _ 63 _ _)
            refine S_put (h := shM) (C := "MacroMillModel") (T := F_Mod) (v := r6) hx hb htt in_Mod t_Mod t_Mod_ok n_Mod hown hK hP hD hS 0 26 rfl rfl rfl (by decide) (htt _ k_2262) (fun _ h9 => h9) rfl rfl rfl d_Mod_changeQuotes_63 (fun H locs hP hD hS => ?_)
            refine lv_aload_n hx hb d_Mod_changeQuotes_66 rfl (lv_at hl 0 rfl) ?_
            refine lv_aload_n hx hb d_Mod_changeQuotes_67 rfl (lv_at hl 0 rfl) ?_
            refine lv_iload_n hx hb d_Mod_changeQuotes_68 rfl (lv_at hl 1 rfl) ?_
            refine lv_iconst (v := 2) hx hb d_Mod_changeQuotes_69 (by decide) ?_
            obtain ⟨⟨r7, T7⟩, hq7, h⟩ := Option.bind_eq_some_iff.mp h
            try dsimp only at h
            refine go_iS (As := [.ref (ad 0), .int (L 1), .int 2]) (g := g) (A := A) (h := shM) hP hK hD hS hA hN (fun hp => va_runV (As := [.int (L 1), .int 2]) (rest := [.ref (ad 0)]) ⟨hx, hb, hml, hown, htt⟩ (t_Mod_argumentSize l g _ ad (putI T6 0 26 r6) (L 1 : Int32) (2 : Int32) k9 r7 T7 hq7) ⟨(cb_L htt k_2840 k_276 k_2837 hd_Mod_argumentSize ⟨(Nat.le_trans (by decide +kernel) hRf), (Nat.le_trans (by decide +kernel) hRl)⟩), htt _ k_2839, htt _ k_154⟩ ⟨hp.1, S_recv hK hP 0 rfl rfl, hp.2⟩ rfl rfl hl.1 rfl (lv_room (Nat.le_of_ble_eq_true rfl)) d_Mod_changeQuotes_70 ⟨hRc, hRs⟩) (fun r0 Sn H locs hw9 hP hD hS => ?_)
            obtain ⟨e9, e8⟩ := hw9
            rw [e8] at hP hD
            refine W.widen (k := cells) (n := slots) (Nat.le_refl _) (Nat.le_refl _) ?_
            refine toI (y := r7) e9 ?_
            refine S_put (h := shM) (C := "MacroMillModel") (T := F_Mod) (v := r7) hx hb htt in_Mod t_Mod t_Mod_ok n_Mod hown hK hP hD hS 0 28 rfl rfl rfl (by decide) (htt _ k_2264) (fun _ h9 => h9) rfl rfl rfl d_Mod_changeQuotes_73 (fun H locs hP hD hS => ?_)
            refine lv_iconst (v := 0) hx hb d_Mod_changeQuotes_76 (by decide) ?_
            refine lv_istore_n (lv' := [(3, .int 0), (0, .ref (ad 0)), (1, .int (L 1)), (2, .int (L 2))]) hx hb d_Mod_changeQuotes_77 rfl hl (by decide) rfl (fun ls hl => ?_)
            exact (ih.2.2.1) (putI T7 0 28 r7) (upd L 3 (0 : Int32)) M ls H locs h (lv_sub hl [1, 2, 3, 0] rfl) hP hD hS
          · rw [if_pos hc5] at h
            exact (ih.2.1) T4 L M ls H locs h (lv_sub hl [0, 1, 2] rfl) hP hD hS
      · rw [if_pos hc1] at h
        refine lv_aload_n hx hb d_Mod_changeQuotes_4 rfl (lv_at hl 0 rfl) ?_
        refine lv_iconst (v := 1) hx hb d_Mod_changeQuotes_5 (by decide) ?_
        refine S_put (h := shM) (C := "MacroMillModel") (T := F_Mod) (v := 1) hx hb htt in_Mod t_Mod t_Mod_ok n_Mod hown hK hP hD hS 0 26 rfl rfl rfl (by decide) (htt _ k_2262) (fun _ h9 => h9) rfl rfl rfl d_Mod_changeQuotes_6 (fun H locs hP hD hS => ?_)
        refine lv_aload_n hx hb d_Mod_changeQuotes_9 rfl (lv_at hl 0 rfl) ?_
        refine S_getR (h := shM) (C := "MacroMillModel") (T := F_Mod) hx hb htt in_Mod hown hK hP 0 25 rfl 9 rfl rfl (by decide) (htt _ k_2261) (fun _ h9 => h9) d_Mod_changeQuotes_10 ?_
        refine lv_iconst (v := 0) hx hb d_Mod_changeQuotes_13 (by decide) ?_
        refine lv_bipush (v := 96) hx hb d_Mod_changeQuotes_14 (by decide) ?_
        obtain ⟨hv8, h⟩ := chk h
        refine S_iast (h := shM) (i := 0) (v := 96) hx hb hK hP hD hS 8 rfl (okI_in hv8) d_Mod_changeQuotes_16 (fun H locs hP hD hS => ?_)
        refine lv_aload_n hx hb d_Mod_changeQuotes_17 rfl (lv_at hl 0 rfl) ?_
        refine lv_iconst (v := 1) hx hb d_Mod_changeQuotes_18 (by decide) ?_
        show W _ _ _ _ _ _ _ _ _ _ _ _ _ _ _ (F0 _ 19 _ _)
        refine S_put (h := shM) (C := "MacroMillModel") (T := F_Mod) (v := 1) hx hb htt in_Mod t_Mod t_Mod_ok n_Mod hown hK hP hD hS 0 28 rfl rfl rfl (by decide) (htt _ k_2264) (fun _ h9 => h9) rfl rfl rfl d_Mod_changeQuotes_19 (fun H locs hP hD hS => ?_)
        refine lv_aload_n hx hb d_Mod_changeQuotes_22 rfl (lv_at hl 0 rfl) ?_
        refine S_getR (h := shM) (C := "MacroMillModel") (T := F_Mod) hx hb htt in_Mod hown hK hP 0 27 rfl 10 rfl rfl (by decide) (htt _ k_2263) (fun _ h9 => h9) d_Mod_changeQuotes_23 ?_
        refine lv_iconst (v := 0) hx hb d_Mod_changeQuotes_26 (by decide) ?_
        refine lv_bipush (v := 39) hx hb d_Mod_changeQuotes_27 (by decide) ?_
        obtain ⟨hv9, h⟩ := chk h
        refine S_iast (h := shM) (i := 0) (v := 39) hx hb hK hP hD hS 9 rfl (okI_in hv9) d_Mod_changeQuotes_29 (fun H locs hP hD hS => ?_)
        cases h
        exact kx_30 ls H locs hP hD hS
    · intro S L M ls H locs h hl hP hD hS
      simp only [f_Mod_changeQuotes] at h
      refine lv_aload_n hx hb d_Mod_changeQuotes_49 rfl (lv_at hl 0 rfl) ?_
      refine lv_bipush (v := 37) hx hb d_Mod_changeQuotes_50 (by decide) ?_
      obtain ⟨⟨r1, T1⟩, hq1, h⟩ := Option.bind_eq_some_iff.mp h
      try dsimp only at h
      refine go_vS (As := [.ref (ad 0), .int 37]) (g := g) (A := A) (h := shM) hP hK hD hS hA hN (fun hp => va_runV (As := [.int 37]) (rest := []) ⟨hx, hb, hml, hown, htt⟩ (t_Mod_fail1 l g _ ad S (37 : Int32) k9 r1 T1 hq1) ⟨(cb_L htt k_2767 k_276 k_2764 hd_Mod_fail1 ⟨(Nat.le_trans (by decide +kernel) hRf), (Nat.le_trans (by decide +kernel) hRl)⟩), htt _ k_2766, htt _ k_138⟩ ⟨hp.1, S_recv hK hP 0 rfl rfl, hp.2⟩ rfl rfl hl.1 rfl (lv_room (Nat.le_of_ble_eq_true rfl)) d_Mod_changeQuotes_52 ⟨hRc, hRs⟩) (fun Sn H locs hw9 hP hD hS => ?_)
      have e8 := hw9
      rw [e8] at hP hD
      refine W.widen (k := cells) (n := slots) (Nat.le_refl _) (Nat.le_refl _) ?_
      cases h
      exact kx_55 ls H locs hP hD hS
    · intro S L M ls H locs h hl hP hD hS
      simp only [f_Mod_changeQuotes] at h
      refine lv_iload_n hx hb d_Mod_changeQuotes_78 rfl (lv_at hl 3 rfl) ?_
      refine lv_aload_n hx hb d_Mod_changeQuotes_79 rfl (lv_at hl 0 rfl) ?_
      refine S_getI (h := shM) (C := "MacroMillModel") (T := F_Mod) hx hb htt in_Mod hown hK hP 0 26 rfl rfl rfl (by decide) (htt _ k_2262) (fun _ h9 => h9) d_Mod_changeQuotes_80 ?_
      refine lv_icmp_ge (tgt := 115) hx hb d_Mod_changeQuotes_83 (by decide) (fun hc1 => ?_) (fun hc1 => ?_)
      · rw [if_pos hc1] at h
        refine lv_iconst (v := 0) hx hb d_Mod_changeQuotes_115 (by decide) ?_
        refine lv_istore_n (lv' := [(3, .int 0), (0, .ref (ad 0)), (1, .int (L 1)), (2, .int (L 2))]) hx hb d_Mod_changeQuotes_116 rfl hl (by decide) rfl (fun ls hl => ?_)
        exact (ih.2.2.2) S (upd L 3 (0 : Int32)) M ls H locs h (lv_sub hl [1, 2, 3, 0] rfl) hP hD hS
      · rw [if_neg hc1] at h
        refine lv_aload_n hx hb d_Mod_changeQuotes_86 rfl (lv_at hl 0 rfl) ?_
        refine S_getR (h := shM) (C := "MacroMillModel") (T := F_Mod) hx hb htt in_Mod hown hK hP 0 25 rfl 9 rfl rfl (by decide) (htt _ k_2261) (fun _ h9 => h9) d_Mod_changeQuotes_87 ?_
        refine lv_iload_n hx hb d_Mod_changeQuotes_90 rfl (lv_at hl 3 rfl) ?_
        refine lv_aload_n hx hb d_Mod_changeQuotes_91 rfl (lv_at hl 0 rfl) ?_
        refine S_getR (h := shM) (C := "MacroMillModel") (T := F_Mod) hx hb htt in_Mod hown hK hP 0 48 rfl 20 rfl rfl (by decide) (htt _ k_2284) (fun _ h9 => h9) d_Mod_changeQuotes_92 ?_
        refine lv_aload_n hx hb d_Mod_changeQuotes_95 rfl (lv_at hl 0 rfl) ?_
        refine lv_iload_n hx hb d_Mod_changeQuotes_96 rfl (lv_at hl 1 rfl) ?_
        refine lv_iconst (v := 1) hx hb d_Mod_changeQuotes_97 (by decide) ?_
        obtain ⟨⟨r2, T2⟩, hq2, h⟩ := Option.bind_eq_some_iff.mp h
        try dsimp only at h
        refine go_iS (As := [.ref (ad 0), .int (L 1), .int 1]) (g := g) (A := A) (h := shM) hP hK hD hS hA hN (fun hp => va_runV (As := [.int (L 1), .int 1]) (rest := [.ref (ad 20), .int (L 3), .ref (ad 9)]) ⟨hx, hb, hml, hown, htt⟩ (t_Mod_argumentAt l g _ ad S (L 1 : Int32) (1 : Int32) k9 r2 T2 hq2) ⟨(cb_L htt k_2836 k_276 k_2833 hd_Mod_argumentAt ⟨(Nat.le_trans (by decide +kernel) hRf), (Nat.le_trans (by decide +kernel) hRl)⟩), htt _ k_2835, htt _ k_153⟩ ⟨hp.1, S_recv hK hP 0 rfl rfl, hp.2⟩ rfl rfl hl.1 rfl (lv_room (Nat.le_of_ble_eq_true rfl)) d_Mod_changeQuotes_98 ⟨hRc, hRs⟩) (fun r0 Sn H locs hw9 hP hD hS => ?_)
        obtain ⟨e9, e8⟩ := hw9
        rw [e8] at hP hD
        refine W.widen (k := cells) (n := slots) (Nat.le_refl _) (Nat.le_refl _) ?_
        refine toI (y := r2) e9 ?_
        show W _ _ _ _ _ _ _ _ _ _ _ _ _ _ _ (F0 _ 101 _ _)
        refine lv_iload_n hx hb d_Mod_changeQuotes_101 rfl (lv_at hl 3 rfl) ?_
        refine lv_iadd hx hb d_Mod_changeQuotes_102 ?_
        obtain ⟨hv3, h⟩ := chk h
        refine S_bald (h := shM) (i := r2 + (L 3)) hx hb hK hP 19 rfl (okI_in hv3) d_Mod_changeQuotes_103 ?_
        refine lv_sipush (v := 255) hx hb d_Mod_changeQuotes_104 (by decide) ?_
        refine lv_iand hx hb d_Mod_changeQuotes_107 ?_
        obtain ⟨hv4, h⟩ := chk h
        refine S_iast (h := shM) (i := L 3) (v := (T2.2.1 19 (r2 + (L 3) : Int32).toNatClampNeg) &&& (255 : Int32)) hx hb hK hP hD hS 8 rfl (okI_in hv4) d_Mod_changeQuotes_108 (fun H locs hP hD hS => ?_)
        refine lv_iinc (k := 3) (v := (L 3) + 1) (lv' := [(3, .int ((L 3) + 1)), (0, .ref (ad 0)), (1, .int (L 1)), (2, .int (L 2))]) hx hb d_Mod_changeQuotes_109 hl rfl rfl (by decide) rfl (fun ls hl => ?_)
        refine lv_goto (tgt := 78) hx hb d_Mod_changeQuotes_112 (by decide) ?_
        exact (ih.2.2.1) (putA T2 8 (L 3 : Int32).toNatClampNeg ((T2.2.1 19 (r2 + (L 3) : Int32).toNatClampNeg) &&& (255 : Int32))) (upd L 3 ((L 3) + 1)) M ls H locs h (lv_sub hl [1, 2, 3, 0] rfl) hP hD hS
    · intro S L M ls H locs h hl hP hD hS
      simp only [f_Mod_changeQuotes] at h
      refine lv_iload_n hx hb d_Mod_changeQuotes_117 rfl (lv_at hl 3 rfl) ?_
      refine lv_aload_n hx hb d_Mod_changeQuotes_118 rfl (lv_at hl 0 rfl) ?_
      refine S_getI (h := shM) (C := "MacroMillModel") (T := F_Mod) hx hb htt in_Mod hown hK hP 0 28 rfl rfl rfl (by decide) (htt _ k_2264) (fun _ h9 => h9) d_Mod_changeQuotes_119 ?_
      refine lv_icmp_ge (tgt := 154) hx hb d_Mod_changeQuotes_122 (by decide) (fun hc1 => ?_) (fun hc1 => ?_)
      · rw [if_pos hc1] at h
        cases h
        exact kx_154 ls H locs hP hD hS
      · rw [if_neg hc1] at h
        refine lv_aload_n hx hb d_Mod_changeQuotes_125 rfl (lv_at hl 0 rfl) ?_
        refine S_getR (h := shM) (C := "MacroMillModel") (T := F_Mod) hx hb htt in_Mod hown hK hP 0 27 rfl 10 rfl rfl (by decide) (htt _ k_2263) (fun _ h9 => h9) d_Mod_changeQuotes_126 ?_
        refine lv_iload_n hx hb d_Mod_changeQuotes_129 rfl (lv_at hl 3 rfl) ?_
        refine lv_aload_n hx hb d_Mod_changeQuotes_130 rfl (lv_at hl 0 rfl) ?_
        refine S_getR (h := shM) (C := "MacroMillModel") (T := F_Mod) hx hb htt in_Mod hown hK hP 0 48 rfl 20 rfl rfl (by decide) (htt _ k_2284) (fun _ h9 => h9) d_Mod_changeQuotes_131 ?_
        refine lv_aload_n hx hb d_Mod_changeQuotes_134 rfl (lv_at hl 0 rfl) ?_
        refine lv_iload_n hx hb d_Mod_changeQuotes_135 rfl (lv_at hl 1 rfl) ?_
        refine lv_iconst (v := 2) hx hb d_Mod_changeQuotes_136 (by decide) ?_
        obtain ⟨⟨r2, T2⟩, hq2, h⟩ := Option.bind_eq_some_iff.mp h
        try dsimp only at h
        refine go_iS (As := [.ref (ad 0), .int (L 1), .int 2]) (g := g) (A := A) (h := shM) hP hK hD hS hA hN (fun hp => va_runV (As := [.int (L 1), .int 2]) (rest := [.ref (ad 20), .int (L 3), .ref (ad 10)]) ⟨hx, hb, hml, hown, htt⟩ (t_Mod_argumentAt l g _ ad S (L 1 : Int32) (2 : Int32) k9 r2 T2 hq2) ⟨(cb_L htt k_2836 k_276 k_2833 hd_Mod_argumentAt ⟨(Nat.le_trans (by decide +kernel) hRf), (Nat.le_trans (by decide +kernel) hRl)⟩), htt _ k_2835, htt _ k_153⟩ ⟨hp.1, S_recv hK hP 0 rfl rfl, hp.2⟩ rfl rfl hl.1 rfl (lv_room (Nat.le_of_ble_eq_true rfl)) d_Mod_changeQuotes_137 ⟨hRc, hRs⟩) (fun r0 Sn H locs hw9 hP hD hS => ?_)
        obtain ⟨e9, e8⟩ := hw9
        rw [e8] at hP hD
        refine W.widen (k := cells) (n := slots) (Nat.le_refl _) (Nat.le_refl _) ?_
        refine toI (y := r2) e9 ?_
        show W _ _ _ _ _ _ _ _ _ _ _ _ _ _ _ (F0 _ 140 _ _)
        refine lv_iload_n hx hb d_Mod_changeQuotes_140 rfl (lv_at hl 3 rfl) ?_
        refine lv_iadd hx hb d_Mod_changeQuotes_141 ?_
        obtain ⟨hv3, h⟩ := chk h
        refine S_bald (h := shM) (i := r2 + (L 3)) hx hb hK hP 19 rfl (okI_in hv3) d_Mod_changeQuotes_142 ?_
        refine lv_sipush (v := 255) hx hb d_Mod_changeQuotes_143 (by decide) ?_
        refine lv_iand hx hb d_Mod_changeQuotes_146 ?_
        obtain ⟨hv4, h⟩ := chk h
        refine S_iast (h := shM) (i := L 3) (v := (T2.2.1 19 (r2 + (L 3) : Int32).toNatClampNeg) &&& (255 : Int32)) hx hb hK hP hD hS 9 rfl (okI_in hv4) d_Mod_changeQuotes_147 (fun H locs hP hD hS => ?_)
        refine lv_iinc (k := 3) (v := (L 3) + 1) (lv' := [(3, .int ((L 3) + 1)), (0, .ref (ad 0)), (1, .int (L 1)), (2, .int (L 2))]) hx hb d_Mod_changeQuotes_148 hl rfl rfl (by decide) rfl (fun ls hl => ?_)
        refine lv_goto (tgt := 117) hx hb d_Mod_changeQuotes_151 (by decide) ?_
        exact (ih.2.2.2) (putA T2 9 (L 3 : Int32).toNatClampNeg ((T2.2.1 19 (r2 + (L 3) : Int32).toNatClampNeg) &&& (255 : Int32))) (upd L 3 ((L 3) + 1)) M ls H locs h (lv_sub hl [1, 2, 3, 0] rfl) hP hD hS
abbrev rm_t_Mod_changeQuotes : Room := { frames := 2, cells := 0, slots := 0, locals := 48 }
theorem t_Mod_changeQuotes (l : Launch) (g : gG) (sz : Nat) (ad : Nat → Nat) (S : sS) (v1 : Int32) (v2 : Int32) (k : Nat) (r : Int32) (S9 : sS) (h : f_Mod_changeQuotes k 0 S (upd (upd (fun _ => 0) 1 v1) 2 v2) (fun _ => 0) = some (r, S9)) : Cv l y_Mod_changeQuotes b_Mod_changeQuotes 4 rm_t_Mod_changeQuotes g [.ref (ad 0), .int v1, .int v2] (Sw shM g ad S) sz (fun w => ∃ S1 : sS, w = Sw shM g ad S1 ∧ S1 = S9) := by
  refine startV (by decide) (Nat.le_of_ble_eq_true rfl) ?_
  intro p e s m below meth c A ls hx hb hr hml hlocks hmn hown htt hN hA hP hK hD hS hl
  exact (w_Mod_changeQuotes hx hb hml hown htt hK hN hA (by decide +kernel) (by decide +kernel) (by decide +kernel) (by decide +kernel) r S9 (fun ls H locs hP hD hS => fin_v (g := g) (ws := Sw shM g ad S9) hx hb hr hlocks (by decide +kernel) (by decide +kernel) hP hD hS ⟨_, rfl, rfl⟩ d_Mod_changeQuotes_30) (fun ls H locs hP hD hS => fin_v (g := g) (ws := Sw shM g ad S9) hx hb hr hlocks (by decide +kernel) (by decide +kernel) hP hD hS ⟨_, rfl, rfl⟩ d_Mod_changeQuotes_55) (fun ls H locs hP hD hS => fin_v (g := g) (ws := Sw shM g ad S9) hx hb hr hlocks (by decide +kernel) (by decide +kernel) hP hD hS ⟨_, rfl, rfl⟩ d_Mod_changeQuotes_154) k).1 S (upd (upd (fun _ => 0) 1 v1) 2 v2) (fun _ => 0) ls _ _ h hl hP hD hS
def f_Mod_sign : Nat → Nat → sS → (Nat → Int32) → (Nat → Int64) → Option (Int32 × sS)
  | 0, _, _, _, _ => none
  | k + 1, 0, S, L, M => if (S.1 0 53) ≤ ((S.1 0 52) + (L 1)) then (f_Mod_sign k 1 S (upd L 100 ((-1) : Int32)) M) else (if okI ((S.1 0 52) + (L 1)) 16385 = true then (f_Mod_sign k 1 S (upd L 100 ((S.2.1 19 ((S.1 0 52) + (L 1) : Int32).toNatClampNeg) &&& (255 : Int32))) M) else none)
  | k + 1, 1, S, L, M => some (L 100, S)
  | _ + 1, _ + 2, _, _, _ => none
set_option maxHeartbeats 8000000 in
set_option maxRecDepth 100000 in
theorem w_Mod_sign {p : Program} {l : Launch} {e : Env} {R : Room} {s : State} {m : MethodId} {args : Array Value} {below : List Frame} {meth : Method} {c : Code} {cells slots : Nat} {Q : State → Prop} {g : gG} {A : Nat → Prop} {ad : Nat → Nat} (hx : p.tables.exec = Jvm.exec) (hb : c.code = b_Mod_sign) (hml : c.maxLocals = 2) (hown : s.vm.findClass "MacroMillModel" = some m.cls) (htt : ∀ w ∈ gt, w.before args s = true) (hK : va_K g.1 classes (tysG g) s) (hN : nw s) (hA : ∀ q : Nat, s.heap.size ≤ q → A q) (r : Int32) (S9 : sS)
    (kx_32 : ∀ (ls : Array Slot) (H : Heap) (locs : List Loc), va_P g.1 classes (Sw shM g ad S9) H → va_D A (Sw shM g ad S9) → va_S A s.heap H locs → W p l e R s m args below meth c H locs cells slots Q (F0 m 32 ls [.int r])) :
    ∀ k9 : Nat, (∀ (S : sS) (L : Nat → Int32) (M : Nat → Int64) (ls : Array Slot) (H : Heap) (locs : List Loc), f_Mod_sign k9 0 S L M = some (r, S9) → lv_has ls 2 [(0, .ref (ad 0)), (1, .int (L 1))] → va_P g.1 classes (Sw shM g ad S) H → va_D A (Sw shM g ad S) → va_S A s.heap H locs → W p l e R s m args below meth c H locs cells slots Q (F0 m 0 ls [])) ∧ (∀ (S : sS) (L : Nat → Int32) (M : Nat → Int64) (ls : Array Slot) (H : Heap) (locs : List Loc), f_Mod_sign k9 1 S L M = some (r, S9) → lv_has ls 2 [(0, .ref (ad 0)), (1, .int (L 1))] → va_P g.1 classes (Sw shM g ad S) H → va_D A (Sw shM g ad S) → va_S A s.heap H locs → W p l e R s m args below meth c H locs cells slots Q (F0 m 32 ls [.int (L 100)])) := by
  intro k9
  induction k9 with
  | zero => exact ⟨(fun _ _ _ _ _ _ h => by simp [f_Mod_sign] at h), (fun _ _ _ _ _ _ h => by simp [f_Mod_sign] at h)⟩
  | succ k9 ih =>
    refine ⟨?_, ?_⟩
    · intro S L M ls H locs h hl hP hD hS
      simp only [f_Mod_sign] at h
      refine lv_aload_n hx hb d_Mod_sign_0 rfl (lv_at hl 0 rfl) ?_
      refine S_getI (h := shM) (C := "MacroMillModel") (T := F_Mod) hx hb htt in_Mod hown hK hP 0 52 rfl rfl rfl (by decide) (htt _ k_2288) (fun _ h9 => h9) d_Mod_sign_1 ?_
      refine lv_iload_n hx hb d_Mod_sign_4 rfl (lv_at hl 1 rfl) ?_
      refine lv_iadd hx hb d_Mod_sign_5 ?_
      refine lv_aload_n hx hb d_Mod_sign_6 rfl (lv_at hl 0 rfl) ?_
      refine S_getI (h := shM) (C := "MacroMillModel") (T := F_Mod) hx hb htt in_Mod hown hK hP 0 53 rfl rfl rfl (by decide) (htt _ k_2289) (fun _ h9 => h9) d_Mod_sign_7 ?_
      refine lv_icmp_ge (tgt := 31) hx hb d_Mod_sign_10 (by decide) (fun hc1 => ?_) (fun hc1 => ?_)
      · rw [if_pos hc1] at h
        refine lv_iconst (v := (-1)) hx hb d_Mod_sign_31 (by decide) ?_
        exact (ih.2) S (upd L 100 ((-1) : Int32)) M ls H locs h (lv_sub hl [0, 1] rfl) hP hD hS
      · rw [if_neg hc1] at h
        refine lv_aload_n hx hb d_Mod_sign_13 rfl (lv_at hl 0 rfl) ?_
        refine S_getR (h := shM) (C := "MacroMillModel") (T := F_Mod) hx hb htt in_Mod hown hK hP 0 48 rfl 20 rfl rfl (by decide) (htt _ k_2284) (fun _ h9 => h9) d_Mod_sign_14 ?_
        refine lv_aload_n hx hb d_Mod_sign_17 rfl (lv_at hl 0 rfl) ?_
        refine S_getI (h := shM) (C := "MacroMillModel") (T := F_Mod) hx hb htt in_Mod hown hK hP 0 52 rfl rfl rfl (by decide) (htt _ k_2288) (fun _ h9 => h9) d_Mod_sign_18 ?_
        refine lv_iload_n hx hb d_Mod_sign_21 rfl (lv_at hl 1 rfl) ?_
        show W _ _ _ _ _ _ _ _ _ _ _ _ _ _ _ (F0 _ 22 _ _)
        refine lv_iadd hx hb d_Mod_sign_22 ?_
        obtain ⟨hv2, h⟩ := chk h
        refine S_bald (h := shM) (i := (S.1 0 52) + (L 1)) hx hb hK hP 19 rfl (okI_in hv2) d_Mod_sign_23 ?_
        refine lv_sipush (v := 255) hx hb d_Mod_sign_24 (by decide) ?_
        refine lv_iand hx hb d_Mod_sign_27 ?_
        refine lv_goto (tgt := 32) hx hb d_Mod_sign_28 (by decide) ?_
        exact (ih.2) S (upd L 100 ((S.2.1 19 ((S.1 0 52) + (L 1) : Int32).toNatClampNeg) &&& (255 : Int32))) M ls H locs h (lv_sub hl [0, 1] rfl) hP hD hS
    · intro S L M ls H locs h hl hP hD hS
      simp only [f_Mod_sign] at h
      cases h
      exact kx_32 ls H locs hP hD hS
abbrev rm_t_Mod_sign : Room := { frames := 0, cells := 0, slots := 0, locals := 0 }
theorem t_Mod_sign (l : Launch) (g : gG) (sz : Nat) (ad : Nat → Nat) (S : sS) (v1 : Int32) (k : Nat) (r : Int32) (S9 : sS) (h : f_Mod_sign k 0 S (upd (fun _ => 0) 1 v1) (fun _ => 0) = some (r, S9)) : Ci l y_Mod_sign b_Mod_sign 2 rm_t_Mod_sign g [.ref (ad 0), .int v1] (Sw shM g ad S) sz (fun r1 w => ∃ S1 : sS, w = Sw shM g ad S1 ∧ r1 = r ∧ S1 = S9) := by
  refine startI (by decide) (Nat.le_of_ble_eq_true rfl) ?_
  intro p e s m below meth c A ls hx hb hr hml hlocks hmn hown htt hN hA hP hK hD hS hl
  exact (w_Mod_sign hx hb hml hown htt hK hN hA r S9 (fun ls H locs hP hD hS => fin_i (g := g) (ws := Sw shM g ad S9) hx hb hr hlocks (by decide +kernel) (by decide +kernel) hP hD hS ⟨_, rfl, rfl, rfl⟩ d_Mod_sign_32) k).1 S (upd (fun _ => 0) 1 v1) (fun _ => 0) ls _ _ h hl hP hD hS
def f_Mod_skipBlanks : Nat → Nat → sS → (Nat → Int32) → (Nat → Int64) → Option (Int32 × sS)
  | 0, _, _, _, _ => none
  | k + 1, 0, S, L, M => (f_Mod_sign k 0 S (upd (fun _ => 0) 1 (0 : Int32)) (fun _ => 0)).bind (fun (r1, T1) => (f_Mod_isBlank k 0 T1 (upd (fun _ => 0) 0 (r1 : Int32)) (fun _ => 0)).bind (fun (r2, T2) => if r2 = (0 : Int32) then ((f_Mod_sign k 0 T2 (upd (fun _ => 0) 1 (0 : Int32)) (fun _ => 0)).bind (fun (r4, T4) => if r4 = (10 : Int32) then (f_Mod_skipBlanks k 1 T4 L M) else (some ((0 : Int32), T4)))) else (f_Mod_skipBlanks k 1 T2 L M)))
  | k + 1, 1, S, L, M => f_Mod_skipBlanks k 0 (putI S 0 52 ((S.1 0 52) + (1 : Int32))) L M
  | _ + 1, _ + 2, _, _, _ => none
set_option maxHeartbeats 8000000 in
set_option maxRecDepth 100000 in
theorem w_Mod_skipBlanks {p : Program} {l : Launch} {e : Env} {R : Room} {s : State} {m : MethodId} {args : Array Value} {below : List Frame} {meth : Method} {c : Code} {cells slots : Nat} {Q : State → Prop} {g : gG} {A : Nat → Prop} {ad : Nat → Nat} (hx : p.tables.exec = Jvm.exec) (hb : c.code = b_Mod_skipBlanks) (hml : c.maxLocals = 1) (hown : s.vm.findClass "MacroMillModel" = some m.cls) (htt : ∀ w ∈ gt, w.before args s = true) (hK : va_K g.1 classes (tysG g) s) (hN : nw s) (hA : ∀ q : Nat, s.heap.size ≤ q → A q) (hRf : 1 ≤ R.frames) (hRl : 21 ≤ R.locals) (hRc : cells ≤ R.cells) (hRs : slots ≤ R.slots) (r : Int32) (S9 : sS)
    (kx_34 : ∀ (ls : Array Slot) (H : Heap) (locs : List Loc), va_P g.1 classes (Sw shM g ad S9) H → va_D A (Sw shM g ad S9) → va_S A s.heap H locs → W p l e R s m args below meth c H locs cells slots Q (F0 m 34 ls [])) :
    ∀ k9 : Nat, (∀ (S : sS) (L : Nat → Int32) (M : Nat → Int64) (ls : Array Slot) (H : Heap) (locs : List Loc), f_Mod_skipBlanks k9 0 S L M = some (r, S9) → lv_has ls 1 [(0, .ref (ad 0))] → va_P g.1 classes (Sw shM g ad S) H → va_D A (Sw shM g ad S) → va_S A s.heap H locs → W p l e R s m args below meth c H locs cells slots Q (F0 m 0 ls [])) ∧ (∀ (S : sS) (L : Nat → Int32) (M : Nat → Int64) (ls : Array Slot) (H : Heap) (locs : List Loc), f_Mod_skipBlanks k9 1 S L M = some (r, S9) → lv_has ls 1 [(0, .ref (ad 0))] → va_P g.1 classes (Sw shM g ad S) H → va_D A (Sw shM g ad S) → va_S A s.heap H locs → W p l e R s m args below meth c H locs cells slots Q (F0 m 21 ls [])) := by
  intro k9
  induction k9 with
  | zero => exact ⟨(fun _ _ _ _ _ _ h => by simp [f_Mod_skipBlanks] at h), (fun _ _ _ _ _ _ h => by simp [f_Mod_skipBlanks] at h)⟩
  | succ k9 ih =>
    refine ⟨?_, ?_⟩
    · intro S L M ls H locs h hl hP hD hS
      simp only [f_Mod_skipBlanks] at h
      refine lv_aload_n hx hb d_Mod_skipBlanks_0 rfl (lv_at hl 0 rfl) ?_
      refine lv_iconst (v := 0) hx hb d_Mod_skipBlanks_1 (by decide) ?_
      obtain ⟨⟨r1, T1⟩, hq1, h⟩ := Option.bind_eq_some_iff.mp h
      try dsimp only at h
      refine go_iS (As := [.ref (ad 0), .int 0]) (g := g) (A := A) (h := shM) hP hK hD hS hA hN (fun hp => va_runV (As := [.int 0]) (rest := []) ⟨hx, hb, hml, hown, htt⟩ (t_Mod_sign l g _ ad S (0 : Int32) k9 r1 T1 hq1) ⟨(cb_L htt k_2895 k_276 k_2892 hd_Mod_sign ⟨(Nat.le_trans (by decide +kernel) hRf), (Nat.le_trans (by decide +kernel) hRl)⟩), htt _ k_2894, htt _ k_167⟩ ⟨hp.1, S_recv hK hP 0 rfl rfl, hp.2⟩ rfl rfl hl.1 rfl (lv_room (Nat.le_of_ble_eq_true rfl)) d_Mod_skipBlanks_2 ⟨hRc, hRs⟩) (fun r0 Sn H locs hw9 hP hD hS => ?_)
      obtain ⟨e9, e8⟩ := hw9
      rw [e8] at hP hD
      refine W.widen (k := cells) (n := slots) (Nat.le_refl _) (Nat.le_refl _) ?_
      refine toI (y := r1) e9 ?_
      obtain ⟨⟨r2, T2⟩, hq2, h⟩ := Option.bind_eq_some_iff.mp h
      try dsimp only at h
      refine go_iS (As := [.int r1]) (g := g) (A := A) (h := shM) hP hK hD hS hA hN (fun hp => va_runS (As := [.int r1]) (rest := []) ⟨hx, hb, hml, hown, htt⟩ (t_Mod_isBlank l g _ ad T1 (r1 : Int32) k9 r2 T2 hq2) ⟨(cb_L htt k_2812 k_276 k_2810 hd_Mod_isBlank ⟨(Nat.le_trans (by decide +kernel) hRf), (Nat.le_trans (by decide +kernel) hRl)⟩), htt _ k_2811⟩ hp rfl rfl hl.1 rfl (lv_room (Nat.le_of_ble_eq_true rfl)) d_Mod_skipBlanks_5 ⟨hRc, hRs⟩) (fun r0 Sn H locs hw9 hP hD hS => ?_)
      obtain ⟨e9, e8⟩ := hw9
      rw [e8] at hP hD
      refine W.widen (k := cells) (n := slots) (Nat.le_refl _) (Nat.le_refl _) ?_
      refine toI (y := r2) e9 ?_
      refine lv_if_ne (tgt := 21) hx hb d_Mod_skipBlanks_8 (by decide) (fun hc3 => ?_) (fun hc3 => ?_)
      · rw [if_neg hc3] at h
        exact (ih.2) T2 L M ls H locs h (lv_sub hl [0] rfl) hP hD hS
      · rw [if_pos hc3] at h
        refine lv_aload_n hx hb d_Mod_skipBlanks_11 rfl (lv_at hl 0 rfl) ?_
        refine lv_iconst (v := 0) hx hb d_Mod_skipBlanks_12 (by decide) ?_
        obtain ⟨⟨r4, T4⟩, hq4, h⟩ := Option.bind_eq_some_iff.mp h
        try dsimp only at h
        refine go_iS (As := [.ref (ad 0), .int 0]) (g := g) (A := A) (h := shM) hP hK hD hS hA hN (fun hp => va_runV (As := [.int 0]) (rest := []) ⟨hx, hb, hml, hown, htt⟩ (t_Mod_sign l g _ ad T2 (0 : Int32) k9 r4 T4 hq4) ⟨(cb_L htt k_2895 k_276 k_2892 hd_Mod_sign ⟨(Nat.le_trans (by decide +kernel) hRf), (Nat.le_trans (by decide +kernel) hRl)⟩), htt _ k_2894, htt _ k_167⟩ ⟨hp.1, S_recv hK hP 0 rfl rfl, hp.2⟩ rfl rfl hl.1 rfl (lv_room (Nat.le_of_ble_eq_true rfl)) d_Mod_skipBlanks_13 ⟨hRc, hRs⟩) (fun r0 Sn H locs hw9 hP hD hS => ?_)
        obtain ⟨e9, e8⟩ := hw9
        rw [e8] at hP hD
        refine W.widen (k := cells) (n := slots) (Nat.le_refl _) (Nat.le_refl _) ?_
        refine toI (y := r4) e9 ?_
        refine lv_bipush (v := 10) hx hb d_Mod_skipBlanks_16 (by decide) ?_
        refine lv_icmp_ne (tgt := 34) hx hb d_Mod_skipBlanks_18 (by decide) (fun hc5 => ?_) (fun hc5 => ?_)
        · rw [if_neg hc5] at h
          cases h
          exact kx_34 ls H locs hP hD hS
        · rw [if_pos hc5] at h
          exact (ih.2) T4 L M ls H locs h (lv_sub hl [0] rfl) hP hD hS
    · intro S L M ls H locs h hl hP hD hS
      simp only [f_Mod_skipBlanks] at h
      refine lv_aload_n hx hb d_Mod_skipBlanks_21 rfl (lv_at hl 0 rfl) ?_
      refine lv_dup hx hb d_Mod_skipBlanks_22 rfl ?_
      refine S_getI (h := shM) (C := "MacroMillModel") (T := F_Mod) hx hb htt in_Mod hown hK hP 0 52 rfl rfl rfl (by decide) (htt _ k_2288) (fun _ h9 => h9) d_Mod_skipBlanks_23 ?_
      refine lv_iconst (v := 1) hx hb d_Mod_skipBlanks_26 (by decide) ?_
      refine lv_iadd hx hb d_Mod_skipBlanks_27 ?_
      refine S_put (h := shM) (C := "MacroMillModel") (T := F_Mod) (v := (S.1 0 52) + (1 : Int32)) hx hb htt in_Mod t_Mod t_Mod_ok n_Mod hown hK hP hD hS 0 52 rfl rfl rfl (by decide) (htt _ k_2288) (fun _ h9 => h9) rfl rfl rfl d_Mod_skipBlanks_28 (fun H locs hP hD hS => ?_)
      refine lv_goto (tgt := 0) hx hb d_Mod_skipBlanks_31 (by decide) ?_
      exact (ih.1) (putI S 0 52 ((S.1 0 52) + (1 : Int32))) L M ls H locs h (lv_sub hl [0] rfl) hP hD hS
abbrev rm_t_Mod_skipBlanks : Room := { frames := 1, cells := 0, slots := 0, locals := 21 }
theorem t_Mod_skipBlanks (l : Launch) (g : gG) (sz : Nat) (ad : Nat → Nat) (S : sS) (k : Nat) (r : Int32) (S9 : sS) (h : f_Mod_skipBlanks k 0 S (fun _ => 0) (fun _ => 0) = some (r, S9)) : Cv l y_Mod_skipBlanks b_Mod_skipBlanks 1 rm_t_Mod_skipBlanks g [.ref (ad 0)] (Sw shM g ad S) sz (fun w => ∃ S1 : sS, w = Sw shM g ad S1 ∧ S1 = S9) := by
  refine startV (by decide) (Nat.le_of_ble_eq_true rfl) ?_
  intro p e s m below meth c A ls hx hb hr hml hlocks hmn hown htt hN hA hP hK hD hS hl
  exact (w_Mod_skipBlanks hx hb hml hown htt hK hN hA (by decide +kernel) (by decide +kernel) (by decide +kernel) (by decide +kernel) r S9 (fun ls H locs hP hD hS => fin_v (g := g) (ws := Sw shM g ad S9) hx hb hr hlocks (by decide +kernel) (by decide +kernel) hP hD hS ⟨_, rfl, rfl⟩ d_Mod_skipBlanks_34) k).1 S (fun _ => 0) (fun _ => 0) ls _ _ h hl hP hD hS
def f_Mod_operator : Nat → Nat → sS → (Nat → Int32) → (Nat → Int64) → Option (Int32 × sS)
  | 0, _, _, _, _ => none
  | k + 1, 0, S, L, M => (f_Mod_sign k 0 S (upd (fun _ => 0) 1 (0 : Int32)) (fun _ => 0)).bind (fun (r1, T1) => (f_Mod_sign k 0 T1 (upd (fun _ => 0) 1 (1 : Int32)) (fun _ => 0)).bind (fun (r2, T2) => if r1 = (124 : Int32) then (if r2 = (124 : Int32) then (f_Mod_operator k 1 T2 (upd (upd (upd L 1 r1) 2 r2) 100 (11 : Int32)) M) else (f_Mod_operator k 1 T2 (upd (upd (upd L 1 r1) 2 r2) 100 (31 : Int32)) M)) else (if r1 = (38 : Int32) then (if r2 = (38 : Int32) then (f_Mod_operator k 2 T2 (upd (upd (upd L 1 r1) 2 r2) 100 (21 : Int32)) M) else (f_Mod_operator k 2 T2 (upd (upd (upd L 1 r1) 2 r2) 100 (51 : Int32)) M)) else (if r1 = (94 : Int32) then (some ((41 : Int32), T2)) else (if r1 = (61 : Int32) then (f_Mod_operator k 3 T2 (upd (upd L 1 r1) 2 r2) M) else (if r1 = (33 : Int32) then (f_Mod_operator k 3 T2 (upd (upd L 1 r1) 2 r2) M) else (if r1 = (60 : Int32) then (if r2 = (60 : Int32) then (f_Mod_operator k 5 T2 (upd (upd (upd L 1 r1) 2 r2) 100 (81 : Int32)) M) else (if r2 = (61 : Int32) then (f_Mod_operator k 5 T2 (upd (upd (upd L 1 r1) 2 r2) 100 (73 : Int32)) M) else (f_Mod_operator k 5 T2 (upd (upd (upd L 1 r1) 2 r2) 100 (71 : Int32)) M))) else (if r1 = (62 : Int32) then (if r2 = (62 : Int32) then (f_Mod_operator k 6 T2 (upd (upd (upd L 1 r1) 2 r2) 100 (82 : Int32)) M) else (if r2 = (61 : Int32) then (f_Mod_operator k 6 T2 (upd (upd (upd L 1 r1) 2 r2) 100 (74 : Int32)) M) else (f_Mod_operator k 6 T2 (upd (upd (upd L 1 r1) 2 r2) 100 (72 : Int32)) M))) else (if r1 = (43 : Int32) then (f_Mod_operator k 7 T2 (upd (upd (upd L 1 r1) 2 r2) 100 (91 : Int32)) M) else (if r1 = (45 : Int32) then (f_Mod_operator k 7 T2 (upd (upd (upd L 1 r1) 2 r2) 100 (92 : Int32)) M) else (if r1 = (42 : Int32) then (f_Mod_operator k 7 T2 (upd (upd (upd L 1 r1) 2 r2) 100 (101 : Int32)) M) else (if r1 = (47 : Int32) then (f_Mod_operator k 7 T2 (upd (upd (upd L 1 r1) 2 r2) 100 (102 : Int32)) M) else (if r1 = (37 : Int32) then (f_Mod_operator k 7 T2 (upd (upd (upd L 1 r1) 2 r2) 100 (103 : Int32)) M) else (f_Mod_operator k 7 T2 (upd (upd (upd L 1 r1) 2 r2) 100 (0 : Int32)) M))))))))))))))
  | k + 1, 1, S, L, M => some (L 100, S)
  | k + 1, 2, S, L, M => some (L 100, S)
  | k + 1, 3, S, L, M => if (L 2) = (61 : Int32) then (if (L 1) = (61 : Int32) then (f_Mod_operator k 4 S (upd L 100 (61 : Int32)) M) else (f_Mod_operator k 4 S (upd L 100 (62 : Int32)) M)) else (f_Mod_operator k 4 S (upd L 100 (0 : Int32)) M)
  | k + 1, 4, S, L, M => some (L 100, S)
  | k + 1, 5, S, L, M => some (L 100, S)
  | k + 1, 6, S, L, M => some (L 100, S)
  | k + 1, 7, S, L, M => some (L 100, S)
  | _ + 1, _ + 8, _, _, _ => none
set_option maxHeartbeats 8000000 in
set_option maxRecDepth 100000 in
theorem w_Mod_operator {p : Program} {l : Launch} {e : Env} {R : Room} {s : State} {m : MethodId} {args : Array Value} {below : List Frame} {meth : Method} {c : Code} {cells slots : Nat} {Q : State → Prop} {g : gG} {A : Nat → Prop} {ad : Nat → Nat} (hx : p.tables.exec = Jvm.exec) (hb : c.code = b_Mod_operator) (hml : c.maxLocals = 3) (hown : s.vm.findClass "MacroMillModel" = some m.cls) (htt : ∀ w ∈ gt, w.before args s = true) (hK : va_K g.1 classes (tysG g) s) (hN : nw s) (hA : ∀ q : Nat, s.heap.size ≤ q → A q) (hRf : 1 ≤ R.frames) (hRl : 21 ≤ R.locals) (hRc : cells ≤ R.cells) (hRs : slots ≤ R.slots) (r : Int32) (S9 : sS)
    (kx_31 : ∀ (ls : Array Slot) (H : Heap) (locs : List Loc), va_P g.1 classes (Sw shM g ad S9) H → va_D A (Sw shM g ad S9) → va_S A s.heap H locs → W p l e R s m args below meth c H locs cells slots Q (F0 m 31 ls [.int r]))
    (kx_51 : ∀ (ls : Array Slot) (H : Heap) (locs : List Loc), va_P g.1 classes (Sw shM g ad S9) H → va_D A (Sw shM g ad S9) → va_S A s.heap H locs → W p l e R s m args below meth c H locs cells slots Q (F0 m 51 ls [.int r]))
    (kx_60 : ∀ (ls : Array Slot) (H : Heap) (locs : List Loc), va_P g.1 classes (Sw shM g ad S9) H → va_D A (Sw shM g ad S9) → va_S A s.heap H locs → W p l e R s m args below meth c H locs cells slots Q (F0 m 60 ls [.int r]))
    (kx_96 : ∀ (ls : Array Slot) (H : Heap) (locs : List Loc), va_P g.1 classes (Sw shM g ad S9) H → va_D A (Sw shM g ad S9) → va_S A s.heap H locs → W p l e R s m args below meth c H locs cells slots Q (F0 m 96 ls [.int r]))
    (kx_127 : ∀ (ls : Array Slot) (H : Heap) (locs : List Loc), va_P g.1 classes (Sw shM g ad S9) H → va_D A (Sw shM g ad S9) → va_S A s.heap H locs → W p l e R s m args below meth c H locs cells slots Q (F0 m 127 ls [.int r]))
    (kx_158 : ∀ (ls : Array Slot) (H : Heap) (locs : List Loc), va_P g.1 classes (Sw shM g ad S9) H → va_D A (Sw shM g ad S9) → va_S A s.heap H locs → W p l e R s m args below meth c H locs cells slots Q (F0 m 158 ls [.int r]))
    (kx_215 : ∀ (ls : Array Slot) (H : Heap) (locs : List Loc), va_P g.1 classes (Sw shM g ad S9) H → va_D A (Sw shM g ad S9) → va_S A s.heap H locs → W p l e R s m args below meth c H locs cells slots Q (F0 m 215 ls [.int r])) :
    ∀ k9 : Nat, (∀ (S : sS) (L : Nat → Int32) (M : Nat → Int64) (ls : Array Slot) (H : Heap) (locs : List Loc), f_Mod_operator k9 0 S L M = some (r, S9) → lv_has ls 3 [(0, .ref (ad 0))] → va_P g.1 classes (Sw shM g ad S) H → va_D A (Sw shM g ad S) → va_S A s.heap H locs → W p l e R s m args below meth c H locs cells slots Q (F0 m 0 ls [])) ∧ (∀ (S : sS) (L : Nat → Int32) (M : Nat → Int64) (ls : Array Slot) (H : Heap) (locs : List Loc), f_Mod_operator k9 1 S L M = some (r, S9) → lv_has ls 3 [(0, .ref (ad 0)), (1, .int (L 1)), (2, .int (L 2))] → va_P g.1 classes (Sw shM g ad S) H → va_D A (Sw shM g ad S) → va_S A s.heap H locs → W p l e R s m args below meth c H locs cells slots Q (F0 m 31 ls [.int (L 100)])) ∧ (∀ (S : sS) (L : Nat → Int32) (M : Nat → Int64) (ls : Array Slot) (H : Heap) (locs : List Loc), f_Mod_operator k9 2 S L M = some (r, S9) → lv_has ls 3 [(0, .ref (ad 0)), (1, .int (L 1)), (2, .int (L 2))] → va_P g.1 classes (Sw shM g ad S) H → va_D A (Sw shM g ad S) → va_S A s.heap H locs → W p l e R s m args below meth c H locs cells slots Q (F0 m 51 ls [.int (L 100)])) ∧ (∀ (S : sS) (L : Nat → Int32) (M : Nat → Int64) (ls : Array Slot) (H : Heap) (locs : List Loc), f_Mod_operator k9 3 S L M = some (r, S9) → lv_has ls 3 [(0, .ref (ad 0)), (1, .int (L 1)), (2, .int (L 2))] → va_P g.1 classes (Sw shM g ad S) H → va_D A (Sw shM g ad S) → va_S A s.heap H locs → W p l e R s m args below meth c H locs cells slots Q (F0 m 73 ls [])) ∧ (∀ (S : sS) (L : Nat → Int32) (M : Nat → Int64) (ls : Array Slot) (H : Heap) (locs : List Loc), f_Mod_operator k9 4 S L M = some (r, S9) → lv_has ls 3 [(0, .ref (ad 0)), (1, .int (L 1)), (2, .int (L 2))] → va_P g.1 classes (Sw shM g ad S) H → va_D A (Sw shM g ad S) → va_S A s.heap H locs → W p l e R s m args below meth c H locs cells slots Q (F0 m 96 ls [.int (L 100)])) ∧ (∀ (S : sS) (L : Nat → Int32) (M : Nat → Int64) (ls : Array Slot) (H : Heap) (locs : List Loc), f_Mod_operator k9 5 S L M = some (r, S9) → lv_has ls 3 [(0, .ref (ad 0)), (1, .int (L 1)), (2, .int (L 2))] → va_P g.1 classes (Sw shM g ad S) H → va_D A (Sw shM g ad S) → va_S A s.heap H locs → W p l e R s m args below meth c H locs cells slots Q (F0 m 127 ls [.int (L 100)])) ∧ (∀ (S : sS) (L : Nat → Int32) (M : Nat → Int64) (ls : Array Slot) (H : Heap) (locs : List Loc), f_Mod_operator k9 6 S L M = some (r, S9) → lv_has ls 3 [(0, .ref (ad 0)), (1, .int (L 1)), (2, .int (L 2))] → va_P g.1 classes (Sw shM g ad S) H → va_D A (Sw shM g ad S) → va_S A s.heap H locs → W p l e R s m args below meth c H locs cells slots Q (F0 m 158 ls [.int (L 100)])) ∧ (∀ (S : sS) (L : Nat → Int32) (M : Nat → Int64) (ls : Array Slot) (H : Heap) (locs : List Loc), f_Mod_operator k9 7 S L M = some (r, S9) → lv_has ls 3 [(0, .ref (ad 0)), (1, .int (L 1)), (2, .int (L 2))] → va_P g.1 classes (Sw shM g ad S) H → va_D A (Sw shM g ad S) → va_S A s.heap H locs → W p l e R s m args below meth c H locs cells slots Q (F0 m 215 ls [.int (L 100)])) := by
  intro k9
  induction k9 with
  | zero => exact ⟨(fun _ _ _ _ _ _ h => by simp [f_Mod_operator] at h), (fun _ _ _ _ _ _ h => by simp [f_Mod_operator] at h), (fun _ _ _ _ _ _ h => by simp [f_Mod_operator] at h), (fun _ _ _ _ _ _ h => by simp [f_Mod_operator] at h), (fun _ _ _ _ _ _ h => by simp [f_Mod_operator] at h), (fun _ _ _ _ _ _ h => by simp [f_Mod_operator] at h), (fun _ _ _ _ _ _ h => by simp [f_Mod_operator] at h), (fun _ _ _ _ _ _ h => by simp [f_Mod_operator] at h)⟩
  | succ k9 ih =>
    refine ⟨?_, ?_, ?_, ?_, ?_, ?_, ?_, ?_⟩
    · intro S L M ls H locs h hl hP hD hS
      simp only [f_Mod_operator] at h
      refine lv_aload_n hx hb d_Mod_operator_0 rfl (lv_at hl 0 rfl) ?_
      refine lv_iconst (v := 0) hx hb d_Mod_operator_1 (by decide) ?_
      obtain ⟨⟨r1, T1⟩, hq1, h⟩ := Option.bind_eq_some_iff.mp h
      try dsimp only at h
      refine go_iS (As := [.ref (ad 0), .int 0]) (g := g) (A := A) (h := shM) hP hK hD hS hA hN (fun hp => va_runV (As := [.int 0]) (rest := []) ⟨hx, hb, hml, hown, htt⟩ (t_Mod_sign l g _ ad S (0 : Int32) k9 r1 T1 hq1) ⟨(cb_L htt k_2895 k_276 k_2892 hd_Mod_sign ⟨(Nat.le_trans (by decide +kernel) hRf), (Nat.le_trans (by decide +kernel) hRl)⟩), htt _ k_2894, htt _ k_167⟩ ⟨hp.1, S_recv hK hP 0 rfl rfl, hp.2⟩ rfl rfl hl.1 rfl (lv_room (Nat.le_of_ble_eq_true rfl)) d_Mod_operator_2 ⟨hRc, hRs⟩) (fun r0 Sn H locs hw9 hP hD hS => ?_)
      obtain ⟨e9, e8⟩ := hw9
      rw [e8] at hP hD
      refine W.widen (k := cells) (n := slots) (Nat.le_refl _) (Nat.le_refl _) ?_
      refine toI (y := r1) e9 ?_
      refine lv_istore_n (lv' := [(1, .int r1), (0, .ref (ad 0))]) hx hb d_Mod_operator_5 rfl hl (by decide) rfl (fun ls hl => ?_)
      refine lv_aload_n hx hb d_Mod_operator_6 rfl (lv_at hl 1 rfl) ?_
      refine lv_iconst (v := 1) hx hb d_Mod_operator_7 (by decide) ?_
      obtain ⟨⟨r2, T2⟩, hq2, h⟩ := Option.bind_eq_some_iff.mp h
      try dsimp only at h
      refine go_iS (As := [.ref (ad 0), .int 1]) (g := g) (A := A) (h := shM) hP hK hD hS hA hN (fun hp => va_runV (As := [.int 1]) (rest := []) ⟨hx, hb, hml, hown, htt⟩ (t_Mod_sign l g _ ad T1 (1 : Int32) k9 r2 T2 hq2) ⟨(cb_L htt k_2895 k_276 k_2892 hd_Mod_sign ⟨(Nat.le_trans (by decide +kernel) hRf), (Nat.le_trans (by decide +kernel) hRl)⟩), htt _ k_2894, htt _ k_167⟩ ⟨hp.1, S_recv hK hP 0 rfl rfl, hp.2⟩ rfl rfl hl.1 rfl (lv_room (Nat.le_of_ble_eq_true rfl)) d_Mod_operator_8 ⟨hRc, hRs⟩) (fun r0 Sn H locs hw9 hP hD hS => ?_)
      obtain ⟨e9, e8⟩ := hw9
      rw [e8] at hP hD
      refine W.widen (k := cells) (n := slots) (Nat.le_refl _) (Nat.le_refl _) ?_
      refine toI (y := r2) e9 ?_
      refine lv_istore_n (lv' := [(2, .int r2), (1, .int r1), (0, .ref (ad 0))]) hx hb d_Mod_operator_11 rfl hl (by decide) rfl (fun ls hl => ?_)
      refine lv_iload_n hx hb d_Mod_operator_12 rfl (lv_at hl 1 rfl) ?_
      refine lv_bipush (v := 124) hx hb d_Mod_operator_13 (by decide) ?_
      refine lv_icmp_ne (tgt := 32) hx hb d_Mod_operator_15 (by decide) (fun hc3 => ?_) (fun hc3 => ?_)
      · rw [if_neg hc3] at h
        refine lv_iload_n hx hb d_Mod_operator_32 rfl (lv_at hl 1 rfl) ?_
        refine lv_bipush (v := 38) hx hb d_Mod_operator_33 (by decide) ?_
        refine lv_icmp_ne (tgt := 52) hx hb d_Mod_operator_35 (by decide) (fun hc4 => ?_) (fun hc4 => ?_)
        · rw [if_neg hc4] at h
          refine lv_iload_n hx hb d_Mod_operator_52 rfl (lv_at hl 1 rfl) ?_
          show W _ _ _ _ _ _ _ _ _ _ _ _ _ _ _ (F0 _ 53 _ _)
          refine lv_bipush (v := 94) hx hb d_Mod_operator_53 (by decide) ?_
          refine lv_icmp_ne (tgt := 61) hx hb d_Mod_operator_55 (by decide) (fun hc5 => ?_) (fun hc5 => ?_)
          · rw [if_neg hc5] at h
            refine lv_iload_n hx hb d_Mod_operator_61 rfl (lv_at hl 1 rfl) ?_
            refine lv_bipush (v := 61) hx hb d_Mod_operator_62 (by decide) ?_
            refine lv_icmp_eq (tgt := 73) hx hb d_Mod_operator_64 (by decide) (fun hc6 => ?_) (fun hc6 => ?_)
            · rw [if_pos hc6] at h
              exact (ih.2.2.2.1) T2 (upd (upd L 1 r1) 2 r2) M ls H locs h (lv_sub hl [2, 1, 0] rfl) hP hD hS
            · rw [if_neg hc6] at h
              refine lv_iload_n hx hb d_Mod_operator_67 rfl (lv_at hl 1 rfl) ?_
              refine lv_bipush (v := 33) hx hb d_Mod_operator_68 (by decide) ?_
              refine lv_icmp_ne (tgt := 97) hx hb d_Mod_operator_70 (by decide) (fun hc7 => ?_) (fun hc7 => ?_)
              · rw [if_neg hc7] at h
                refine lv_iload_n hx hb d_Mod_operator_97 rfl (lv_at hl 1 rfl) ?_
                refine lv_bipush (v := 60) hx hb d_Mod_operator_98 (by decide) ?_
                refine lv_icmp_ne (tgt := 128) hx hb d_Mod_operator_100 (by decide) (fun hc8 => ?_) (fun hc8 => ?_)
                · rw [if_neg hc8] at h
                  refine lv_iload_n hx hb d_Mod_operator_128 rfl (lv_at hl 1 rfl) ?_
                  refine lv_bipush (v := 62) hx hb d_Mod_operator_129 (by decide) ?_
                  refine lv_icmp_ne (tgt := 159) hx hb d_Mod_operator_131 (by decide) (fun hc9 => ?_) (fun hc9 => ?_)
                  · rw [if_neg hc9] at h
                    refine lv_iload_n hx hb d_Mod_operator_159 rfl (lv_at hl 1 rfl) ?_
                    refine lv_bipush (v := 43) hx hb d_Mod_operator_160 (by decide) ?_
                    refine lv_icmp_ne (tgt := 170) hx hb d_Mod_operator_162 (by decide) (fun hc10 => ?_) (fun hc10 => ?_)
                    · rw [if_neg hc10] at h
                      refine lv_iload_n hx hb d_Mod_operator_170 rfl (lv_at hl 1 rfl) ?_
                      show W _ _ _ _ _ _ _ _ _ _ _ _ _ _ _ (F0 _ 171 _ _)
                      refine lv_bipush (v := 45) hx hb d_Mod_operator_171 (by decide) ?_
                      refine lv_icmp_ne (tgt := 181) hx hb d_Mod_operator_173 (by decide) (fun hc11 => ?_) (fun hc11 => ?_)
                      · rw [if_neg hc11] at h
                        refine lv_iload_n hx hb d_Mod_operator_181 rfl (lv_at hl 1 rfl) ?_
                        refine lv_bipush (v := 42) hx hb d_Mod_operator_182 (by decide) ?_
                        refine lv_icmp_ne (tgt := 192) hx hb d_Mod_operator_184 (by decide) (fun hc12 => ?_) (fun hc12 => ?_)
                        · rw [if_neg hc12] at h
                          refine lv_iload_n hx hb d_Mod_operator_192 rfl (lv_at hl 1 rfl) ?_
                          refine lv_bipush (v := 47) hx hb d_Mod_operator_193 (by decide) ?_
                          refine lv_icmp_ne (tgt := 203) hx hb d_Mod_operator_195 (by decide) (fun hc13 => ?_) (fun hc13 => ?_)
                          · rw [if_neg hc13] at h
                            refine lv_iload_n hx hb d_Mod_operator_203 rfl (lv_at hl 1 rfl) ?_
                            refine lv_bipush (v := 37) hx hb d_Mod_operator_204 (by decide) ?_
                            refine lv_icmp_ne (tgt := 214) hx hb d_Mod_operator_206 (by decide) (fun hc14 => ?_) (fun hc14 => ?_)
                            · rw [if_neg hc14] at h
                              refine lv_iconst (v := 0) hx hb d_Mod_operator_214 (by decide) ?_
                              exact (ih.2.2.2.2.2.2.2) T2 (upd (upd (upd L 1 r1) 2 r2) 100 (0 : Int32)) M ls H locs h (lv_sub hl [2, 1, 0] rfl) hP hD hS
                            · rw [if_pos hc14] at h
                              refine lv_bipush (v := 103) hx hb d_Mod_operator_209 (by decide) ?_
                              refine lv_goto (tgt := 215) hx hb d_Mod_operator_211 (by decide) ?_
                              exact (ih.2.2.2.2.2.2.2) T2 (upd (upd (upd L 1 r1) 2 r2) 100 (103 : Int32)) M ls H locs h (lv_sub hl [2, 1, 0] rfl) hP hD hS
                          · rw [if_pos hc13] at h
                            refine lv_bipush (v := 102) hx hb d_Mod_operator_198 (by decide) ?_
                            refine lv_goto (tgt := 215) hx hb d_Mod_operator_200 (by decide) ?_
                            exact (ih.2.2.2.2.2.2.2) T2 (upd (upd (upd L 1 r1) 2 r2) 100 (102 : Int32)) M ls H locs h (lv_sub hl [2, 1, 0] rfl) hP hD hS
                        · rw [if_pos hc12] at h
                          refine lv_bipush (v := 101) hx hb d_Mod_operator_187 (by decide) ?_
                          refine lv_goto (tgt := 215) hx hb d_Mod_operator_189 (by decide) ?_
                          exact (ih.2.2.2.2.2.2.2) T2 (upd (upd (upd L 1 r1) 2 r2) 100 (101 : Int32)) M ls H locs h (lv_sub hl [2, 1, 0] rfl) hP hD hS
                      · rw [if_pos hc11] at h
                        refine lv_bipush (v := 92) hx hb d_Mod_operator_176 (by decide) ?_
                        refine lv_goto (tgt := 215) hx hb d_Mod_operator_178 (by decide) ?_
                        exact (ih.2.2.2.2.2.2.2) T2 (upd (upd (upd L 1 r1) 2 r2) 100 (92 : Int32)) M ls H locs h (lv_sub hl [2, 1, 0] rfl) hP hD hS
                    · rw [if_pos hc10] at h
                      refine lv_bipush (v := 91) hx hb d_Mod_operator_165 (by decide) ?_
                      show W _ _ _ _ _ _ _ _ _ _ _ _ _ _ _ (F0 _ 167 _ _)
                      refine lv_goto (tgt := 215) hx hb d_Mod_operator_167 (by decide) ?_
                      exact (ih.2.2.2.2.2.2.2) T2 (upd (upd (upd L 1 r1) 2 r2) 100 (91 : Int32)) M ls H locs h (lv_sub hl [2, 1, 0] rfl) hP hD hS
                  · rw [if_pos hc9] at h
                    refine lv_iload_n hx hb d_Mod_operator_134 rfl (lv_at hl 0 rfl) ?_
                    refine lv_bipush (v := 62) hx hb d_Mod_operator_135 (by decide) ?_
                    refine lv_icmp_ne (tgt := 145) hx hb d_Mod_operator_137 (by decide) (fun hc15 => ?_) (fun hc15 => ?_)
                    · rw [if_neg hc15] at h
                      refine lv_iload_n hx hb d_Mod_operator_145 rfl (lv_at hl 0 rfl) ?_
                      show W _ _ _ _ _ _ _ _ _ _ _ _ _ _ _ (F0 _ 146 _ _)
                      refine lv_bipush (v := 61) hx hb d_Mod_operator_146 (by decide) ?_
                      refine lv_icmp_ne (tgt := 156) hx hb d_Mod_operator_148 (by decide) (fun hc16 => ?_) (fun hc16 => ?_)
                      · rw [if_neg hc16] at h
                        refine lv_bipush (v := 72) hx hb d_Mod_operator_156 (by decide) ?_
                        exact (ih.2.2.2.2.2.2.1) T2 (upd (upd (upd L 1 r1) 2 r2) 100 (72 : Int32)) M ls H locs h (lv_sub hl [2, 1, 0] rfl) hP hD hS
                      · rw [if_pos hc16] at h
                        refine lv_bipush (v := 74) hx hb d_Mod_operator_151 (by decide) ?_
                        refine lv_goto (tgt := 158) hx hb d_Mod_operator_153 (by decide) ?_
                        exact (ih.2.2.2.2.2.2.1) T2 (upd (upd (upd L 1 r1) 2 r2) 100 (74 : Int32)) M ls H locs h (lv_sub hl [2, 1, 0] rfl) hP hD hS
                    · rw [if_pos hc15] at h
                      refine lv_bipush (v := 82) hx hb d_Mod_operator_140 (by decide) ?_
                      show W _ _ _ _ _ _ _ _ _ _ _ _ _ _ _ (F0 _ 142 _ _)
                      refine lv_goto (tgt := 158) hx hb d_Mod_operator_142 (by decide) ?_
                      exact (ih.2.2.2.2.2.2.1) T2 (upd (upd (upd L 1 r1) 2 r2) 100 (82 : Int32)) M ls H locs h (lv_sub hl [2, 1, 0] rfl) hP hD hS
                · rw [if_pos hc8] at h
                  refine lv_iload_n hx hb d_Mod_operator_103 rfl (lv_at hl 0 rfl) ?_
                  refine lv_bipush (v := 60) hx hb d_Mod_operator_104 (by decide) ?_
                  refine lv_icmp_ne (tgt := 114) hx hb d_Mod_operator_106 (by decide) (fun hc17 => ?_) (fun hc17 => ?_)
                  · rw [if_neg hc17] at h
                    refine lv_iload_n hx hb d_Mod_operator_114 rfl (lv_at hl 0 rfl) ?_
                    refine lv_bipush (v := 61) hx hb d_Mod_operator_115 (by decide) ?_
                    refine lv_icmp_ne (tgt := 125) hx hb d_Mod_operator_117 (by decide) (fun hc18 => ?_) (fun hc18 => ?_)
                    · rw [if_neg hc18] at h
                      refine lv_bipush (v := 71) hx hb d_Mod_operator_125 (by decide) ?_
                      exact (ih.2.2.2.2.2.1) T2 (upd (upd (upd L 1 r1) 2 r2) 100 (71 : Int32)) M ls H locs h (lv_sub hl [2, 1, 0] rfl) hP hD hS
                    · rw [if_pos hc18] at h
                      refine lv_bipush (v := 73) hx hb d_Mod_operator_120 (by decide) ?_
                      show W _ _ _ _ _ _ _ _ _ _ _ _ _ _ _ (F0 _ 122 _ _)
                      refine lv_goto (tgt := 127) hx hb d_Mod_operator_122 (by decide) ?_
                      exact (ih.2.2.2.2.2.1) T2 (upd (upd (upd L 1 r1) 2 r2) 100 (73 : Int32)) M ls H locs h (lv_sub hl [2, 1, 0] rfl) hP hD hS
                  · rw [if_pos hc17] at h
                    refine lv_bipush (v := 81) hx hb d_Mod_operator_109 (by decide) ?_
                    refine lv_goto (tgt := 127) hx hb d_Mod_operator_111 (by decide) ?_
                    exact (ih.2.2.2.2.2.1) T2 (upd (upd (upd L 1 r1) 2 r2) 100 (81 : Int32)) M ls H locs h (lv_sub hl [2, 1, 0] rfl) hP hD hS
              · rw [if_pos hc7] at h
                exact (ih.2.2.2.1) T2 (upd (upd L 1 r1) 2 r2) M ls H locs h (lv_sub hl [2, 1, 0] rfl) hP hD hS
          · rw [if_pos hc5] at h
            refine lv_bipush (v := 41) hx hb d_Mod_operator_58 (by decide) ?_
            cases h
            exact kx_60 ls H locs hP hD hS
        · rw [if_pos hc4] at h
          refine lv_iload_n hx hb d_Mod_operator_38 rfl (lv_at hl 0 rfl) ?_
          show W _ _ _ _ _ _ _ _ _ _ _ _ _ _ _ (F0 _ 39 _ _)
          refine lv_bipush (v := 38) hx hb d_Mod_operator_39 (by decide) ?_
          refine lv_icmp_ne (tgt := 49) hx hb d_Mod_operator_41 (by decide) (fun hc19 => ?_) (fun hc19 => ?_)
          · rw [if_neg hc19] at h
            refine lv_bipush (v := 51) hx hb d_Mod_operator_49 (by decide) ?_
            exact (ih.2.2.1) T2 (upd (upd (upd L 1 r1) 2 r2) 100 (51 : Int32)) M ls H locs h (lv_sub hl [2, 1, 0] rfl) hP hD hS
          · rw [if_pos hc19] at h
            refine lv_bipush (v := 21) hx hb d_Mod_operator_44 (by decide) ?_
            refine lv_goto (tgt := 51) hx hb d_Mod_operator_46 (by decide) ?_
            exact (ih.2.2.1) T2 (upd (upd (upd L 1 r1) 2 r2) 100 (21 : Int32)) M ls H locs h (lv_sub hl [2, 1, 0] rfl) hP hD hS
      · rw [if_pos hc3] at h
        refine lv_iload_n hx hb d_Mod_operator_18 rfl (lv_at hl 0 rfl) ?_
        refine lv_bipush (v := 124) hx hb d_Mod_operator_19 (by decide) ?_
        refine lv_icmp_ne (tgt := 29) hx hb d_Mod_operator_21 (by decide) (fun hc20 => ?_) (fun hc20 => ?_)
        · rw [if_neg hc20] at h
          refine lv_bipush (v := 31) hx hb d_Mod_operator_29 (by decide) ?_
          exact (ih.2.1) T2 (upd (upd (upd L 1 r1) 2 r2) 100 (31 : Int32)) M ls H locs h (lv_sub hl [2, 1, 0] rfl) hP hD hS
        · rw [if_pos hc20] at h
          refine lv_bipush (v := 11) hx hb d_Mod_operator_24 (by decide) ?_
          show W _ _ _ _ _ _ _ _ _ _ _ _ _ _ _ (F0 _ 26 _ _)
          refine lv_goto (tgt := 31) hx hb d_Mod_operator_26 (by decide) ?_
          exact (ih.2.1) T2 (upd (upd (upd L 1 r1) 2 r2) 100 (11 : Int32)) M ls H locs h (lv_sub hl [2, 1, 0] rfl) hP hD hS
    · intro S L M ls H locs h hl hP hD hS
      simp only [f_Mod_operator] at h
      cases h
      exact kx_31 ls H locs hP hD hS
    · intro S L M ls H locs h hl hP hD hS
      simp only [f_Mod_operator] at h
      cases h
      exact kx_51 ls H locs hP hD hS
    · intro S L M ls H locs h hl hP hD hS
      simp only [f_Mod_operator] at h
      refine lv_iload_n hx hb d_Mod_operator_73 rfl (lv_at hl 2 rfl) ?_
      refine lv_bipush (v := 61) hx hb d_Mod_operator_74 (by decide) ?_
      refine lv_icmp_eq (tgt := 83) hx hb d_Mod_operator_76 (by decide) (fun hc1 => ?_) (fun hc1 => ?_)
      · rw [if_pos hc1] at h
        refine lv_iload_n hx hb d_Mod_operator_83 rfl (lv_at hl 1 rfl) ?_
        refine lv_bipush (v := 61) hx hb d_Mod_operator_84 (by decide) ?_
        refine lv_icmp_ne (tgt := 94) hx hb d_Mod_operator_86 (by decide) (fun hc2 => ?_) (fun hc2 => ?_)
        · rw [if_neg hc2] at h
          refine lv_bipush (v := 62) hx hb d_Mod_operator_94 (by decide) ?_
          exact (ih.2.2.2.2.1) S (upd L 100 (62 : Int32)) M ls H locs h (lv_sub hl [0, 1, 2] rfl) hP hD hS
        · rw [if_pos hc2] at h
          refine lv_bipush (v := 61) hx hb d_Mod_operator_89 (by decide) ?_
          refine lv_goto (tgt := 96) hx hb d_Mod_operator_91 (by decide) ?_
          exact (ih.2.2.2.2.1) S (upd L 100 (61 : Int32)) M ls H locs h (lv_sub hl [0, 1, 2] rfl) hP hD hS
      · rw [if_neg hc1] at h
        refine lv_iconst (v := 0) hx hb d_Mod_operator_79 (by decide) ?_
        refine lv_goto (tgt := 96) hx hb d_Mod_operator_80 (by decide) ?_
        exact (ih.2.2.2.2.1) S (upd L 100 (0 : Int32)) M ls H locs h (lv_sub hl [0, 1, 2] rfl) hP hD hS
    · intro S L M ls H locs h hl hP hD hS
      simp only [f_Mod_operator] at h
      cases h
      exact kx_96 ls H locs hP hD hS
    · intro S L M ls H locs h hl hP hD hS
      simp only [f_Mod_operator] at h
      cases h
      exact kx_127 ls H locs hP hD hS
    · intro S L M ls H locs h hl hP hD hS
      simp only [f_Mod_operator] at h
      cases h
      exact kx_158 ls H locs hP hD hS
    · intro S L M ls H locs h hl hP hD hS
      simp only [f_Mod_operator] at h
      cases h
      exact kx_215 ls H locs hP hD hS
abbrev rm_t_Mod_operator : Room := { frames := 1, cells := 0, slots := 0, locals := 21 }
theorem t_Mod_operator (l : Launch) (g : gG) (sz : Nat) (ad : Nat → Nat) (S : sS) (k : Nat) (r : Int32) (S9 : sS) (h : f_Mod_operator k 0 S (fun _ => 0) (fun _ => 0) = some (r, S9)) : Ci l y_Mod_operator b_Mod_operator 3 rm_t_Mod_operator g [.ref (ad 0)] (Sw shM g ad S) sz (fun r1 w => ∃ S1 : sS, w = Sw shM g ad S1 ∧ r1 = r ∧ S1 = S9) := by
  refine startI (by decide) (Nat.le_of_ble_eq_true rfl) ?_
  intro p e s m below meth c A ls hx hb hr hml hlocks hmn hown htt hN hA hP hK hD hS hl
  exact (w_Mod_operator hx hb hml hown htt hK hN hA (by decide +kernel) (by decide +kernel) (by decide +kernel) (by decide +kernel) r S9 (fun ls H locs hP hD hS => fin_i (g := g) (ws := Sw shM g ad S9) hx hb hr hlocks (by decide +kernel) (by decide +kernel) hP hD hS ⟨_, rfl, rfl, rfl⟩ d_Mod_operator_31) (fun ls H locs hP hD hS => fin_i (g := g) (ws := Sw shM g ad S9) hx hb hr hlocks (by decide +kernel) (by decide +kernel) hP hD hS ⟨_, rfl, rfl, rfl⟩ d_Mod_operator_51) (fun ls H locs hP hD hS => fin_i (g := g) (ws := Sw shM g ad S9) hx hb hr hlocks (by decide +kernel) (by decide +kernel) hP hD hS ⟨_, rfl, rfl, rfl⟩ d_Mod_operator_60) (fun ls H locs hP hD hS => fin_i (g := g) (ws := Sw shM g ad S9) hx hb hr hlocks (by decide +kernel) (by decide +kernel) hP hD hS ⟨_, rfl, rfl, rfl⟩ d_Mod_operator_96) (fun ls H locs hP hD hS => fin_i (g := g) (ws := Sw shM g ad S9) hx hb hr hlocks (by decide +kernel) (by decide +kernel) hP hD hS ⟨_, rfl, rfl, rfl⟩ d_Mod_operator_127) (fun ls H locs hP hD hS => fin_i (g := g) (ws := Sw shM g ad S9) hx hb hr hlocks (by decide +kernel) (by decide +kernel) hP hD hS ⟨_, rfl, rfl, rfl⟩ d_Mod_operator_158) (fun ls H locs hP hD hS => fin_i (g := g) (ws := Sw shM g ad S9) hx hb hr hlocks (by decide +kernel) (by decide +kernel) hP hD hS ⟨_, rfl, rfl, rfl⟩ d_Mod_operator_215) k).1 S (fun _ => 0) (fun _ => 0) ls _ _ h hl hP hD hS
def f_Mod_isLong : Nat → Nat → sS → (Nat → Int32) → (Nat → Int64) → Option (Int32 × sS)
  | 0, _, _, _, _ => none
  | k + 1, 0, S, L, M => if (L 0) = (11 : Int32) then (f_Mod_isLong k 1 S L M) else (if (L 0) = (21 : Int32) then (f_Mod_isLong k 1 S L M) else (if (L 0) = (61 : Int32) then (f_Mod_isLong k 1 S L M) else (if (L 0) = (62 : Int32) then (f_Mod_isLong k 1 S L M) else (if (L 0) = (73 : Int32) then (f_Mod_isLong k 1 S L M) else (if (L 0) = (74 : Int32) then (f_Mod_isLong k 1 S L M) else (if (L 0) = (81 : Int32) then (f_Mod_isLong k 1 S L M) else (if (L 0) = (82 : Int32) then (f_Mod_isLong k 1 S L M) else (f_Mod_isLong k 2 S (upd L 100 (0 : Int32)) M))))))))
  | k + 1, 1, S, L, M => f_Mod_isLong k 2 S (upd L 100 (1 : Int32)) M
  | k + 1, 2, S, L, M => if bz (L 100) = true then some (L 100, S) else none
  | _ + 1, _ + 3, _, _, _ => none
set_option maxHeartbeats 8000000 in
set_option maxRecDepth 100000 in
theorem w_Mod_isLong {p : Program} {l : Launch} {e : Env} {R : Room} {s : State} {m : MethodId} {args : Array Value} {below : List Frame} {meth : Method} {c : Code} {cells slots : Nat} {Q : State → Prop} {g : gG} {A : Nat → Prop} {ad : Nat → Nat} (hx : p.tables.exec = Jvm.exec) (hb : c.code = b_Mod_isLong) (hml : c.maxLocals = 1) (hown : s.vm.findClass "MacroMillModel" = some m.cls) (htt : ∀ w ∈ gt, w.before args s = true) (hK : va_K g.1 classes (tysG g) s) (hN : nw s) (hA : ∀ q : Nat, s.heap.size ≤ q → A q) (r : Int32) (S9 : sS)
    (kx_53 : ∀ (ls : Array Slot) (H : Heap) (locs : List Loc), narrow .boolean (.int r) = .int r → va_P g.1 classes (Sw shM g ad S9) H → va_D A (Sw shM g ad S9) → va_S A s.heap H locs → W p l e R s m args below meth c H locs cells slots Q (F0 m 53 ls [.int r])) :
    ∀ k9 : Nat, (∀ (S : sS) (L : Nat → Int32) (M : Nat → Int64) (ls : Array Slot) (H : Heap) (locs : List Loc), f_Mod_isLong k9 0 S L M = some (r, S9) → lv_has ls 1 [(0, .int (L 0))] → va_P g.1 classes (Sw shM g ad S) H → va_D A (Sw shM g ad S) → va_S A s.heap H locs → W p l e R s m args below meth c H locs cells slots Q (F0 m 0 ls [])) ∧ (∀ (S : sS) (L : Nat → Int32) (M : Nat → Int64) (ls : Array Slot) (H : Heap) (locs : List Loc), f_Mod_isLong k9 1 S L M = some (r, S9) → lv_has ls 1 [(0, .int (L 0))] → va_P g.1 classes (Sw shM g ad S) H → va_D A (Sw shM g ad S) → va_S A s.heap H locs → W p l e R s m args below meth c H locs cells slots Q (F0 m 48 ls [])) ∧ (∀ (S : sS) (L : Nat → Int32) (M : Nat → Int64) (ls : Array Slot) (H : Heap) (locs : List Loc), f_Mod_isLong k9 2 S L M = some (r, S9) → lv_has ls 1 [(0, .int (L 0))] → va_P g.1 classes (Sw shM g ad S) H → va_D A (Sw shM g ad S) → va_S A s.heap H locs → W p l e R s m args below meth c H locs cells slots Q (F0 m 53 ls [.int (L 100)])) := by
  intro k9
  induction k9 with
  | zero => exact ⟨(fun _ _ _ _ _ _ h => by simp [f_Mod_isLong] at h), (fun _ _ _ _ _ _ h => by simp [f_Mod_isLong] at h), (fun _ _ _ _ _ _ h => by simp [f_Mod_isLong] at h)⟩
  | succ k9 ih =>
    refine ⟨?_, ?_, ?_⟩
    · intro S L M ls H locs h hl hP hD hS
      simp only [f_Mod_isLong] at h
      refine lv_iload_n hx hb d_Mod_isLong_0 rfl (lv_at hl 0 rfl) ?_
      refine lv_bipush (v := 11) hx hb d_Mod_isLong_1 (by decide) ?_
      refine lv_icmp_eq (tgt := 48) hx hb d_Mod_isLong_3 (by decide) (fun hc1 => ?_) (fun hc1 => ?_)
      · rw [if_pos hc1] at h
        exact (ih.2.1) S L M ls H locs h (lv_sub hl [0] rfl) hP hD hS
      · rw [if_neg hc1] at h
        refine lv_iload_n hx hb d_Mod_isLong_6 rfl (lv_at hl 0 rfl) ?_
        refine lv_bipush (v := 21) hx hb d_Mod_isLong_7 (by decide) ?_
        refine lv_icmp_eq (tgt := 48) hx hb d_Mod_isLong_9 (by decide) (fun hc2 => ?_) (fun hc2 => ?_)
        · rw [if_pos hc2] at h
          exact (ih.2.1) S L M ls H locs h (lv_sub hl [0] rfl) hP hD hS
        · rw [if_neg hc2] at h
          refine lv_iload_n hx hb d_Mod_isLong_12 rfl (lv_at hl 0 rfl) ?_
          refine lv_bipush (v := 61) hx hb d_Mod_isLong_13 (by decide) ?_
          refine lv_icmp_eq (tgt := 48) hx hb d_Mod_isLong_15 (by decide) (fun hc3 => ?_) (fun hc3 => ?_)
          · rw [if_pos hc3] at h
            exact (ih.2.1) S L M ls H locs h (lv_sub hl [0] rfl) hP hD hS
          · rw [if_neg hc3] at h
            refine lv_iload_n hx hb d_Mod_isLong_18 rfl (lv_at hl 0 rfl) ?_
            refine lv_bipush (v := 62) hx hb d_Mod_isLong_19 (by decide) ?_
            refine lv_icmp_eq (tgt := 48) hx hb d_Mod_isLong_21 (by decide) (fun hc4 => ?_) (fun hc4 => ?_)
            · rw [if_pos hc4] at h
              exact (ih.2.1) S L M ls H locs h (lv_sub hl [0] rfl) hP hD hS
            · rw [if_neg hc4] at h
              refine lv_iload_n hx hb d_Mod_isLong_24 rfl (lv_at hl 0 rfl) ?_
              refine lv_bipush (v := 73) hx hb d_Mod_isLong_25 (by decide) ?_
              refine lv_icmp_eq (tgt := 48) hx hb d_Mod_isLong_27 (by decide) (fun hc5 => ?_) (fun hc5 => ?_)
              · rw [if_pos hc5] at h
                exact (ih.2.1) S L M ls H locs h (lv_sub hl [0] rfl) hP hD hS
              · rw [if_neg hc5] at h
                refine lv_iload_n hx hb d_Mod_isLong_30 rfl (lv_at hl 0 rfl) ?_
                show W _ _ _ _ _ _ _ _ _ _ _ _ _ _ _ (F0 _ 31 _ _)
                refine lv_bipush (v := 74) hx hb d_Mod_isLong_31 (by decide) ?_
                refine lv_icmp_eq (tgt := 48) hx hb d_Mod_isLong_33 (by decide) (fun hc6 => ?_) (fun hc6 => ?_)
                · rw [if_pos hc6] at h
                  exact (ih.2.1) S L M ls H locs h (lv_sub hl [0] rfl) hP hD hS
                · rw [if_neg hc6] at h
                  refine lv_iload_n hx hb d_Mod_isLong_36 rfl (lv_at hl 0 rfl) ?_
                  refine lv_bipush (v := 81) hx hb d_Mod_isLong_37 (by decide) ?_
                  refine lv_icmp_eq (tgt := 48) hx hb d_Mod_isLong_39 (by decide) (fun hc7 => ?_) (fun hc7 => ?_)
                  · rw [if_pos hc7] at h
                    exact (ih.2.1) S L M ls H locs h (lv_sub hl [0] rfl) hP hD hS
                  · rw [if_neg hc7] at h
                    refine lv_iload_n hx hb d_Mod_isLong_42 rfl (lv_at hl 0 rfl) ?_
                    refine lv_bipush (v := 82) hx hb d_Mod_isLong_43 (by decide) ?_
                    refine lv_icmp_ne (tgt := 52) hx hb d_Mod_isLong_45 (by decide) (fun hc8 => ?_) (fun hc8 => ?_)
                    · rw [if_neg hc8] at h
                      refine lv_iconst (v := 0) hx hb d_Mod_isLong_52 (by decide) ?_
                      exact (ih.2.2) S (upd L 100 (0 : Int32)) M ls H locs h (lv_sub hl [0] rfl) hP hD hS
                    · rw [if_pos hc8] at h
                      exact (ih.2.1) S L M ls H locs h (lv_sub hl [0] rfl) hP hD hS
    · intro S L M ls H locs h hl hP hD hS
      simp only [f_Mod_isLong] at h
      refine lv_iconst (v := 1) hx hb d_Mod_isLong_48 (by decide) ?_
      refine lv_goto (tgt := 53) hx hb d_Mod_isLong_49 (by decide) ?_
      exact (ih.2.2) S (upd L 100 (1 : Int32)) M ls H locs h (lv_sub hl [0] rfl) hP hD hS
    · intro S L M ls H locs h hl hP hD hS
      simp only [f_Mod_isLong] at h
      obtain ⟨hv1, h⟩ := chk h
      cases h
      exact kx_53 ls H locs (bz_n hv1) hP hD hS
abbrev rm_t_Mod_isLong : Room := { frames := 0, cells := 0, slots := 0, locals := 0 }
theorem t_Mod_isLong (l : Launch) (g : gG) (sz : Nat) (ad : Nat → Nat) (S : sS) (v1 : Int32) (k : Nat) (r : Int32) (S9 : sS) (h : f_Mod_isLong k 0 S (upd (fun _ => 0) 0 v1) (fun _ => 0) = some (r, S9)) : Cz l y_Mod_isLong b_Mod_isLong 1 rm_t_Mod_isLong g [.int v1] (Sw shM g ad S) sz (fun r1 w => ∃ S1 : sS, w = Sw shM g ad S1 ∧ r1 = r ∧ S1 = S9) := by
  refine startZ (by decide) (Nat.le_of_ble_eq_true rfl) ?_
  intro p e s m below meth c A ls hx hb hr hml hlocks hmn hown htt hN hA hP hK hD hS hl
  exact (w_Mod_isLong hx hb hml hown htt hK hN hA r S9 (fun ls H locs hz hP hD hS => fin_z (g := g) (ws := Sw shM g ad S9) hx hb hr hlocks hz (by decide +kernel) (by decide +kernel) hP hD hS ⟨_, rfl, rfl, rfl⟩ d_Mod_isLong_53) k).1 S (upd (fun _ => 0) 0 v1) (fun _ => 0) ls _ _ h hl hP hD hS
def f_Mod_apply : Nat → Nat → sS → (Nat → Int32) → (Nat → Int64) → Option (Int32 × sS)
  | 0, _, _, _, _ => none
  | k + 1, 0, S, L, M => if (L 1) = (11 : Int32) then (if (L 2) = (0 : Int32) then (if (L 3) = (0 : Int32) then (f_Mod_apply k 2 S (upd L 100 (0 : Int32)) M) else (f_Mod_apply k 1 S L M)) else (f_Mod_apply k 1 S L M)) else (if (L 1) = (21 : Int32) then (if (L 2) = (0 : Int32) then (f_Mod_apply k 3 S L M) else (if (L 3) = (0 : Int32) then (f_Mod_apply k 3 S L M) else (f_Mod_apply k 4 S (upd L 100 (1 : Int32)) M))) else (if (L 1) = (31 : Int32) then (some ((L 2) ||| (L 3), S)) else (if (L 1) = (41 : Int32) then (some ((L 2) ^^^ (L 3), S)) else (if (L 1) = (51 : Int32) then (some ((L 2) &&& (L 3), S)) else (if (L 1) = (61 : Int32) then (if (L 2) = (L 3) then (f_Mod_apply k 5 S (upd L 100 (1 : Int32)) M) else (f_Mod_apply k 5 S (upd L 100 (0 : Int32)) M)) else (if (L 1) = (62 : Int32) then (if (L 2) = (L 3) then (f_Mod_apply k 6 S (upd L 100 (0 : Int32)) M) else (f_Mod_apply k 6 S (upd L 100 (1 : Int32)) M)) else (if (L 1) = (71 : Int32) then (if (L 3) ≤ (L 2) then (f_Mod_apply k 7 S (upd L 100 (0 : Int32)) M) else (f_Mod_apply k 7 S (upd L 100 (1 : Int32)) M)) else (if (L 1) = (72 : Int32) then (if (L 2) ≤ (L 3) then (f_Mod_apply k 8 S (upd L 100 (0 : Int32)) M) else (f_Mod_apply k 8 S (upd L 100 (1 : Int32)) M)) else (if (L 1) = (73 : Int32) then (if (L 3) < (L 2) then (f_Mod_apply k 9 S (upd L 100 (0 : Int32)) M) else (f_Mod_apply k 9 S (upd L 100 (1 : Int32)) M)) else (if (L 1) = (74 : Int32) then (if (L 2) < (L 3) then (f_Mod_apply k 10 S (upd L 100 (0 : Int32)) M) else (f_Mod_apply k 10 S (upd L 100 (1 : Int32)) M)) else (if (L 1) = (81 : Int32) then (some ((L 2) <<< (((L 3) &&& (31 : Int32)) &&& 31), S)) else (if (L 1) = (82 : Int32) then (some ((L 2) >>> (((L 3) &&& (31 : Int32)) &&& 31), S)) else (if (L 1) = (91 : Int32) then (some ((L 2) + (L 3), S)) else (if (L 1) = (92 : Int32) then (some ((L 2) - (L 3), S)) else (if (L 1) = (101 : Int32) then (some ((L 2) * (L 3), S)) else (if (S.1 0 55) = (0 : Int32) then (if (L 3) = (0 : Int32) then (f_Mod_apply k 11 S L M) else (f_Mod_apply k 12 S (upd L 101 (0 : Int32)) M)) else (f_Mod_apply k 11 S L M)))))))))))))))))
  | k + 1, 1, S, L, M => f_Mod_apply k 2 S (upd L 100 (1 : Int32)) M
  | k + 1, 2, S, L, M => some (L 100, S)
  | k + 1, 3, S, L, M => f_Mod_apply k 4 S (upd L 100 (0 : Int32)) M
  | k + 1, 4, S, L, M => some (L 100, S)
  | k + 1, 5, S, L, M => some (L 100, S)
  | k + 1, 6, S, L, M => some (L 100, S)
  | k + 1, 7, S, L, M => some (L 100, S)
  | k + 1, 8, S, L, M => some (L 100, S)
  | k + 1, 9, S, L, M => some (L 100, S)
  | k + 1, 10, S, L, M => some (L 100, S)
  | k + 1, 11, S, L, M => f_Mod_apply k 12 S (upd L 101 (1 : Int32)) M
  | k + 1, 12, S, L, M => if bz (L 101) = true then (if (L 3) = (0 : Int32) then (f_Mod_apply k 13 (putI S 0 55 (L 101)) (upd L 100 (0 : Int32)) M) else (if (L 1) = (102 : Int32) then (if ¬ (L 3) = 0 then (f_Mod_apply k 13 (putI S 0 55 (L 101)) (upd L 100 ((L 2) / (L 3))) M) else none) else (if ¬ (L 3) = 0 then (f_Mod_apply k 13 (putI S 0 55 (L 101)) (upd L 100 ((L 2) - (L 2) / (L 3) * (L 3))) M) else none))) else none
  | k + 1, 13, S, L, M => some (L 100, S)
  | _ + 1, _ + 14, _, _, _ => none
set_option maxHeartbeats 8000000 in
set_option maxRecDepth 100000 in
theorem w_Mod_apply {p : Program} {l : Launch} {e : Env} {R : Room} {s : State} {m : MethodId} {args : Array Value} {below : List Frame} {meth : Method} {c : Code} {cells slots : Nat} {Q : State → Prop} {g : gG} {A : Nat → Prop} {ad : Nat → Nat} (hx : p.tables.exec = Jvm.exec) (hb : c.code = b_Mod_apply) (hml : c.maxLocals = 4) (hown : s.vm.findClass "MacroMillModel" = some m.cls) (htt : ∀ w ∈ gt, w.before args s = true) (hK : va_K g.1 classes (tysG g) s) (hN : nw s) (hA : ∀ q : Nat, s.heap.size ≤ q → A q) (r : Int32) (S9 : sS)
    (kx_153 : ∀ (ls : Array Slot) (H : Heap) (locs : List Loc), va_P g.1 classes (Sw shM g ad S9) H → va_D A (Sw shM g ad S9) → va_S A s.heap H locs → W p l e R s m args below meth c H locs cells slots Q (F0 m 153 ls [.int r]))
    (kx_167 : ∀ (ls : Array Slot) (H : Heap) (locs : List Loc), va_P g.1 classes (Sw shM g ad S9) H → va_D A (Sw shM g ad S9) → va_S A s.heap H locs → W p l e R s m args below meth c H locs cells slots Q (F0 m 167 ls [.int r]))
    (kx_171 : ∀ (ls : Array Slot) (H : Heap) (locs : List Loc), va_P g.1 classes (Sw shM g ad S9) H → va_D A (Sw shM g ad S9) → va_S A s.heap H locs → W p l e R s m args below meth c H locs cells slots Q (F0 m 171 ls [.int r]))
    (kx_175 : ∀ (ls : Array Slot) (H : Heap) (locs : List Loc), va_P g.1 classes (Sw shM g ad S9) H → va_D A (Sw shM g ad S9) → va_S A s.heap H locs → W p l e R s m args below meth c H locs cells slots Q (F0 m 175 ls [.int r]))
    (kx_179 : ∀ (ls : Array Slot) (H : Heap) (locs : List Loc), va_P g.1 classes (Sw shM g ad S9) H → va_D A (Sw shM g ad S9) → va_S A s.heap H locs → W p l e R s m args below meth c H locs cells slots Q (F0 m 179 ls [.int r]))
    (kx_190 : ∀ (ls : Array Slot) (H : Heap) (locs : List Loc), va_P g.1 classes (Sw shM g ad S9) H → va_D A (Sw shM g ad S9) → va_S A s.heap H locs → W p l e R s m args below meth c H locs cells slots Q (F0 m 190 ls [.int r]))
    (kx_201 : ∀ (ls : Array Slot) (H : Heap) (locs : List Loc), va_P g.1 classes (Sw shM g ad S9) H → va_D A (Sw shM g ad S9) → va_S A s.heap H locs → W p l e R s m args below meth c H locs cells slots Q (F0 m 201 ls [.int r]))
    (kx_212 : ∀ (ls : Array Slot) (H : Heap) (locs : List Loc), va_P g.1 classes (Sw shM g ad S9) H → va_D A (Sw shM g ad S9) → va_S A s.heap H locs → W p l e R s m args below meth c H locs cells slots Q (F0 m 212 ls [.int r]))
    (kx_223 : ∀ (ls : Array Slot) (H : Heap) (locs : List Loc), va_P g.1 classes (Sw shM g ad S9) H → va_D A (Sw shM g ad S9) → va_S A s.heap H locs → W p l e R s m args below meth c H locs cells slots Q (F0 m 223 ls [.int r]))
    (kx_234 : ∀ (ls : Array Slot) (H : Heap) (locs : List Loc), va_P g.1 classes (Sw shM g ad S9) H → va_D A (Sw shM g ad S9) → va_S A s.heap H locs → W p l e R s m args below meth c H locs cells slots Q (F0 m 234 ls [.int r]))
    (kx_245 : ∀ (ls : Array Slot) (H : Heap) (locs : List Loc), va_P g.1 classes (Sw shM g ad S9) H → va_D A (Sw shM g ad S9) → va_S A s.heap H locs → W p l e R s m args below meth c H locs cells slots Q (F0 m 245 ls [.int r]))
    (kx_252 : ∀ (ls : Array Slot) (H : Heap) (locs : List Loc), va_P g.1 classes (Sw shM g ad S9) H → va_D A (Sw shM g ad S9) → va_S A s.heap H locs → W p l e R s m args below meth c H locs cells slots Q (F0 m 252 ls [.int r]))
    (kx_259 : ∀ (ls : Array Slot) (H : Heap) (locs : List Loc), va_P g.1 classes (Sw shM g ad S9) H → va_D A (Sw shM g ad S9) → va_S A s.heap H locs → W p l e R s m args below meth c H locs cells slots Q (F0 m 259 ls [.int r]))
    (kx_263 : ∀ (ls : Array Slot) (H : Heap) (locs : List Loc), va_P g.1 classes (Sw shM g ad S9) H → va_D A (Sw shM g ad S9) → va_S A s.heap H locs → W p l e R s m args below meth c H locs cells slots Q (F0 m 263 ls [.int r]))
    (kx_267 : ∀ (ls : Array Slot) (H : Heap) (locs : List Loc), va_P g.1 classes (Sw shM g ad S9) H → va_D A (Sw shM g ad S9) → va_S A s.heap H locs → W p l e R s m args below meth c H locs cells slots Q (F0 m 267 ls [.int r]))
    (kx_271 : ∀ (ls : Array Slot) (H : Heap) (locs : List Loc), va_P g.1 classes (Sw shM g ad S9) H → va_D A (Sw shM g ad S9) → va_S A s.heap H locs → W p l e R s m args below meth c H locs cells slots Q (F0 m 271 ls [.int r]))
    (kx_315 : ∀ (ls : Array Slot) (H : Heap) (locs : List Loc), va_P g.1 classes (Sw shM g ad S9) H → va_D A (Sw shM g ad S9) → va_S A s.heap H locs → W p l e R s m args below meth c H locs cells slots Q (F0 m 315 ls [.int r])) :
    ∀ k9 : Nat, (∀ (S : sS) (L : Nat → Int32) (M : Nat → Int64) (ls : Array Slot) (H : Heap) (locs : List Loc), f_Mod_apply k9 0 S L M = some (r, S9) → lv_has ls 4 [(0, .ref (ad 0)), (1, .int (L 1)), (2, .int (L 2)), (3, .int (L 3))] → va_P g.1 classes (Sw shM g ad S) H → va_D A (Sw shM g ad S) → va_S A s.heap H locs → W p l e R s m args below meth c H locs cells slots Q (F0 m 0 ls [])) ∧ (∀ (S : sS) (L : Nat → Int32) (M : Nat → Int64) (ls : Array Slot) (H : Heap) (locs : List Loc), f_Mod_apply k9 1 S L M = some (r, S9) → lv_has ls 4 [(0, .ref (ad 0)), (1, .int (L 1)), (2, .int (L 2)), (3, .int (L 3))] → va_P g.1 classes (Sw shM g ad S) H → va_D A (Sw shM g ad S) → va_S A s.heap H locs → W p l e R s m args below meth c H locs cells slots Q (F0 m 148 ls [])) ∧ (∀ (S : sS) (L : Nat → Int32) (M : Nat → Int64) (ls : Array Slot) (H : Heap) (locs : List Loc), f_Mod_apply k9 2 S L M = some (r, S9) → lv_has ls 4 [(0, .ref (ad 0)), (1, .int (L 1)), (2, .int (L 2)), (3, .int (L 3))] → va_P g.1 classes (Sw shM g ad S) H → va_D A (Sw shM g ad S) → va_S A s.heap H locs → W p l e R s m args below meth c H locs cells slots Q (F0 m 153 ls [.int (L 100)])) ∧ (∀ (S : sS) (L : Nat → Int32) (M : Nat → Int64) (ls : Array Slot) (H : Heap) (locs : List Loc), f_Mod_apply k9 3 S L M = some (r, S9) → lv_has ls 4 [(0, .ref (ad 0)), (1, .int (L 1)), (2, .int (L 2)), (3, .int (L 3))] → va_P g.1 classes (Sw shM g ad S) H → va_D A (Sw shM g ad S) → va_S A s.heap H locs → W p l e R s m args below meth c H locs cells slots Q (F0 m 166 ls [])) ∧ (∀ (S : sS) (L : Nat → Int32) (M : Nat → Int64) (ls : Array Slot) (H : Heap) (locs : List Loc), f_Mod_apply k9 4 S L M = some (r, S9) → lv_has ls 4 [(0, .ref (ad 0)), (1, .int (L 1)), (2, .int (L 2)), (3, .int (L 3))] → va_P g.1 classes (Sw shM g ad S) H → va_D A (Sw shM g ad S) → va_S A s.heap H locs → W p l e R s m args below meth c H locs cells slots Q (F0 m 167 ls [.int (L 100)])) ∧ (∀ (S : sS) (L : Nat → Int32) (M : Nat → Int64) (ls : Array Slot) (H : Heap) (locs : List Loc), f_Mod_apply k9 5 S L M = some (r, S9) → lv_has ls 4 [(0, .ref (ad 0)), (1, .int (L 1)), (2, .int (L 2)), (3, .int (L 3))] → va_P g.1 classes (Sw shM g ad S) H → va_D A (Sw shM g ad S) → va_S A s.heap H locs → W p l e R s m args below meth c H locs cells slots Q (F0 m 190 ls [.int (L 100)])) ∧ (∀ (S : sS) (L : Nat → Int32) (M : Nat → Int64) (ls : Array Slot) (H : Heap) (locs : List Loc), f_Mod_apply k9 6 S L M = some (r, S9) → lv_has ls 4 [(0, .ref (ad 0)), (1, .int (L 1)), (2, .int (L 2)), (3, .int (L 3))] → va_P g.1 classes (Sw shM g ad S) H → va_D A (Sw shM g ad S) → va_S A s.heap H locs → W p l e R s m args below meth c H locs cells slots Q (F0 m 201 ls [.int (L 100)])) ∧ (∀ (S : sS) (L : Nat → Int32) (M : Nat → Int64) (ls : Array Slot) (H : Heap) (locs : List Loc), f_Mod_apply k9 7 S L M = some (r, S9) → lv_has ls 4 [(0, .ref (ad 0)), (1, .int (L 1)), (2, .int (L 2)), (3, .int (L 3))] → va_P g.1 classes (Sw shM g ad S) H → va_D A (Sw shM g ad S) → va_S A s.heap H locs → W p l e R s m args below meth c H locs cells slots Q (F0 m 212 ls [.int (L 100)])) ∧ (∀ (S : sS) (L : Nat → Int32) (M : Nat → Int64) (ls : Array Slot) (H : Heap) (locs : List Loc), f_Mod_apply k9 8 S L M = some (r, S9) → lv_has ls 4 [(0, .ref (ad 0)), (1, .int (L 1)), (2, .int (L 2)), (3, .int (L 3))] → va_P g.1 classes (Sw shM g ad S) H → va_D A (Sw shM g ad S) → va_S A s.heap H locs → W p l e R s m args below meth c H locs cells slots Q (F0 m 223 ls [.int (L 100)])) ∧ (∀ (S : sS) (L : Nat → Int32) (M : Nat → Int64) (ls : Array Slot) (H : Heap) (locs : List Loc), f_Mod_apply k9 9 S L M = some (r, S9) → lv_has ls 4 [(0, .ref (ad 0)), (1, .int (L 1)), (2, .int (L 2)), (3, .int (L 3))] → va_P g.1 classes (Sw shM g ad S) H → va_D A (Sw shM g ad S) → va_S A s.heap H locs → W p l e R s m args below meth c H locs cells slots Q (F0 m 234 ls [.int (L 100)])) ∧ (∀ (S : sS) (L : Nat → Int32) (M : Nat → Int64) (ls : Array Slot) (H : Heap) (locs : List Loc), f_Mod_apply k9 10 S L M = some (r, S9) → lv_has ls 4 [(0, .ref (ad 0)), (1, .int (L 1)), (2, .int (L 2)), (3, .int (L 3))] → va_P g.1 classes (Sw shM g ad S) H → va_D A (Sw shM g ad S) → va_S A s.heap H locs → W p l e R s m args below meth c H locs cells slots Q (F0 m 245 ls [.int (L 100)])) ∧ (∀ (S : sS) (L : Nat → Int32) (M : Nat → Int64) (ls : Array Slot) (H : Heap) (locs : List Loc), f_Mod_apply k9 11 S L M = some (r, S9) → lv_has ls 4 [(0, .ref (ad 0)), (1, .int (L 1)), (2, .int (L 2)), (3, .int (L 3))] → va_P g.1 classes (Sw shM g ad S) H → va_D A (Sw shM g ad S) → va_S A s.heap H locs → W p l e R s m args below meth c H locs cells slots Q (F0 m 284 ls [.ref (ad 0)])) ∧ (∀ (S : sS) (L : Nat → Int32) (M : Nat → Int64) (ls : Array Slot) (H : Heap) (locs : List Loc), f_Mod_apply k9 12 S L M = some (r, S9) → lv_has ls 4 [(0, .ref (ad 0)), (1, .int (L 1)), (2, .int (L 2)), (3, .int (L 3))] → va_P g.1 classes (Sw shM g ad S) H → va_D A (Sw shM g ad S) → va_S A s.heap H locs → W p l e R s m args below meth c H locs cells slots Q (F0 m 289 ls [.int (L 101), .ref (ad 0)])) ∧ (∀ (S : sS) (L : Nat → Int32) (M : Nat → Int64) (ls : Array Slot) (H : Heap) (locs : List Loc), f_Mod_apply k9 13 S L M = some (r, S9) → lv_has ls 4 [(0, .ref (ad 0)), (1, .int (L 1)), (2, .int (L 2)), (3, .int (L 3))] → va_P g.1 classes (Sw shM g ad S) H → va_D A (Sw shM g ad S) → va_S A s.heap H locs → W p l e R s m args below meth c H locs cells slots Q (F0 m 315 ls [.int (L 100)])) := by
  intro k9
  induction k9 with
  | zero => exact ⟨(fun _ _ _ _ _ _ h => by simp [f_Mod_apply] at h), (fun _ _ _ _ _ _ h => by simp [f_Mod_apply] at h), (fun _ _ _ _ _ _ h => by simp [f_Mod_apply] at h), (fun _ _ _ _ _ _ h => by simp [f_Mod_apply] at h), (fun _ _ _ _ _ _ h => by simp [f_Mod_apply] at h), (fun _ _ _ _ _ _ h => by simp [f_Mod_apply] at h), (fun _ _ _ _ _ _ h => by simp [f_Mod_apply] at h), (fun _ _ _ _ _ _ h => by simp [f_Mod_apply] at h), (fun _ _ _ _ _ _ h => by simp [f_Mod_apply] at h), (fun _ _ _ _ _ _ h => by simp [f_Mod_apply] at h), (fun _ _ _ _ _ _ h => by simp [f_Mod_apply] at h), (fun _ _ _ _ _ _ h => by simp [f_Mod_apply] at h), (fun _ _ _ _ _ _ h => by simp [f_Mod_apply] at h), (fun _ _ _ _ _ _ h => by simp [f_Mod_apply] at h)⟩
  | succ k9 ih =>
    refine ⟨?_, ?_, ?_, ?_, ?_, ?_, ?_, ?_, ?_, ?_, ?_, ?_, ?_, ?_⟩
    · intro S L M ls H locs h hl hP hD hS
      simp only [f_Mod_apply] at h
      refine lv_iload_n hx hb d_Mod_apply_0 rfl (lv_at hl 1 rfl) ?_
      by_cases hc1_0 : (L 1) = (11 : Int32)
      · rw [if_pos hc1_0] at h
        refine lv_lookup (tgt := 140) (off := 139) hx hb d_Mod_apply_1 (by decide) (by rw [hc1_0]; decide) (by decide) ?_
        refine lv_iload_n hx hb d_Mod_apply_140 rfl (lv_at hl 2 rfl) ?_
        refine lv_if_ne (tgt := 148) hx hb d_Mod_apply_141 (by decide) (fun hc2 => ?_) (fun hc2 => ?_)
        · rw [if_neg hc2] at h
          exact (ih.2.1) S L M ls H locs h (lv_sub hl [0, 1, 2, 3] rfl) hP hD hS
        · rw [if_pos hc2] at h
          refine lv_iload_n hx hb d_Mod_apply_144 rfl (lv_at hl 3 rfl) ?_
          refine lv_if_eq (tgt := 152) hx hb d_Mod_apply_145 (by decide) (fun hc3 => ?_) (fun hc3 => ?_)
          · rw [if_pos hc3] at h
            refine lv_iconst (v := 0) hx hb d_Mod_apply_152 (by decide) ?_
            exact (ih.2.2.1) S (upd L 100 (0 : Int32)) M ls H locs h (lv_sub hl [0, 1, 2, 3] rfl) hP hD hS
          · rw [if_neg hc3] at h
            exact (ih.2.1) S L M ls H locs h (lv_sub hl [0, 1, 2, 3] rfl) hP hD hS
      rw [if_neg hc1_0] at h
      by_cases hc1_1 : (L 1) = (21 : Int32)
      · rw [if_pos hc1_1] at h
        refine lv_lookup (tgt := 154) (off := 153) hx hb d_Mod_apply_1 (by decide) (by rw [hc1_1]; decide) (by decide) ?_
        refine lv_iload_n hx hb d_Mod_apply_154 rfl (lv_at hl 2 rfl) ?_
        refine lv_if_eq (tgt := 166) hx hb d_Mod_apply_155 (by decide) (fun hc4 => ?_) (fun hc4 => ?_)
        · rw [if_pos hc4] at h
          exact (ih.2.2.2.1) S L M ls H locs h (lv_sub hl [0, 1, 2, 3] rfl) hP hD hS
        · rw [if_neg hc4] at h
          refine lv_iload_n hx hb d_Mod_apply_158 rfl (lv_at hl 3 rfl) ?_
          refine lv_if_eq (tgt := 166) hx hb d_Mod_apply_159 (by decide) (fun hc5 => ?_) (fun hc5 => ?_)
          · rw [if_pos hc5] at h
            exact (ih.2.2.2.1) S L M ls H locs h (lv_sub hl [0, 1, 2, 3] rfl) hP hD hS
          · rw [if_neg hc5] at h
            refine lv_iconst (v := 1) hx hb d_Mod_apply_162 (by decide) ?_
            refine lv_goto (tgt := 167) hx hb d_Mod_apply_163 (by decide) ?_
            exact (ih.2.2.2.2.1) S (upd L 100 (1 : Int32)) M ls H locs h (lv_sub hl [0, 1, 2, 3] rfl) hP hD hS
      rw [if_neg hc1_1] at h
      by_cases hc1_2 : (L 1) = (31 : Int32)
      · rw [if_pos hc1_2] at h
        refine lv_lookup (tgt := 168) (off := 167) hx hb d_Mod_apply_1 (by decide) (by rw [hc1_2]; decide) (by decide) ?_
        refine lv_iload_n hx hb d_Mod_apply_168 rfl (lv_at hl 2 rfl) ?_
        refine lv_iload_n hx hb d_Mod_apply_169 rfl (lv_at hl 3 rfl) ?_
        refine lv_ior hx hb d_Mod_apply_170 ?_
        cases h
        exact kx_171 ls H locs hP hD hS
      rw [if_neg hc1_2] at h
      by_cases hc1_3 : (L 1) = (41 : Int32)
      · rw [if_pos hc1_3] at h
        refine lv_lookup (tgt := 172) (off := 171) hx hb d_Mod_apply_1 (by decide) (by rw [hc1_3]; decide) (by decide) ?_
        refine lv_iload_n hx hb d_Mod_apply_172 rfl (lv_at hl 2 rfl) ?_
        refine lv_iload_n hx hb d_Mod_apply_173 rfl (lv_at hl 3 rfl) ?_
        refine lv_ixor hx hb d_Mod_apply_174 ?_
        cases h
        exact kx_175 ls H locs hP hD hS
      rw [if_neg hc1_3] at h
      by_cases hc1_4 : (L 1) = (51 : Int32)
      · rw [if_pos hc1_4] at h
        refine lv_lookup (tgt := 176) (off := 175) hx hb d_Mod_apply_1 (by decide) (by rw [hc1_4]; decide) (by decide) ?_
        refine lv_iload_n hx hb d_Mod_apply_176 rfl (lv_at hl 2 rfl) ?_
        refine lv_iload_n hx hb d_Mod_apply_177 rfl (lv_at hl 3 rfl) ?_
        refine lv_iand hx hb d_Mod_apply_178 ?_
        cases h
        exact kx_179 ls H locs hP hD hS
      rw [if_neg hc1_4] at h
      by_cases hc1_5 : (L 1) = (61 : Int32)
      · rw [if_pos hc1_5] at h
        refine lv_lookup (tgt := 180) (off := 179) hx hb d_Mod_apply_1 (by decide) (by rw [hc1_5]; decide) (by decide) ?_
        refine lv_iload_n hx hb d_Mod_apply_180 rfl (lv_at hl 2 rfl) ?_
        refine lv_iload_n hx hb d_Mod_apply_181 rfl (lv_at hl 3 rfl) ?_
        refine lv_icmp_ne (tgt := 189) hx hb d_Mod_apply_182 (by decide) (fun hc6 => ?_) (fun hc6 => ?_)
        · rw [if_neg hc6] at h
          refine lv_iconst (v := 0) hx hb d_Mod_apply_189 (by decide) ?_
          exact (ih.2.2.2.2.2.1) S (upd L 100 (0 : Int32)) M ls H locs h (lv_sub hl [0, 1, 2, 3] rfl) hP hD hS
        · rw [if_pos hc6] at h
          refine lv_iconst (v := 1) hx hb d_Mod_apply_185 (by decide) ?_
          refine lv_goto (tgt := 190) hx hb d_Mod_apply_186 (by decide) ?_
          exact (ih.2.2.2.2.2.1) S (upd L 100 (1 : Int32)) M ls H locs h (lv_sub hl [0, 1, 2, 3] rfl) hP hD hS
      rw [if_neg hc1_5] at h
      by_cases hc1_6 : (L 1) = (62 : Int32)
      · rw [if_pos hc1_6] at h
        refine lv_lookup (tgt := 191) (off := 190) hx hb d_Mod_apply_1 (by decide) (by rw [hc1_6]; decide) (by decide) ?_
        refine lv_iload_n hx hb d_Mod_apply_191 rfl (lv_at hl 2 rfl) ?_
        refine lv_iload_n hx hb d_Mod_apply_192 rfl (lv_at hl 3 rfl) ?_
        refine lv_icmp_eq (tgt := 200) hx hb d_Mod_apply_193 (by decide) (fun hc7 => ?_) (fun hc7 => ?_)
        · rw [if_pos hc7] at h
          refine lv_iconst (v := 0) hx hb d_Mod_apply_200 (by decide) ?_
          exact (ih.2.2.2.2.2.2.1) S (upd L 100 (0 : Int32)) M ls H locs h (lv_sub hl [0, 1, 2, 3] rfl) hP hD hS
        · rw [if_neg hc7] at h
          refine lv_iconst (v := 1) hx hb d_Mod_apply_196 (by decide) ?_
          refine lv_goto (tgt := 201) hx hb d_Mod_apply_197 (by decide) ?_
          exact (ih.2.2.2.2.2.2.1) S (upd L 100 (1 : Int32)) M ls H locs h (lv_sub hl [0, 1, 2, 3] rfl) hP hD hS
      rw [if_neg hc1_6] at h
      by_cases hc1_7 : (L 1) = (71 : Int32)
      · rw [if_pos hc1_7] at h
        refine lv_lookup (tgt := 202) (off := 201) hx hb d_Mod_apply_1 (by decide) (by rw [hc1_7]; decide) (by decide) ?_
        refine lv_iload_n hx hb d_Mod_apply_202 rfl (lv_at hl 2 rfl) ?_
        refine lv_iload_n hx hb d_Mod_apply_203 rfl (lv_at hl 3 rfl) ?_
        refine lv_icmp_ge (tgt := 211) hx hb d_Mod_apply_204 (by decide) (fun hc8 => ?_) (fun hc8 => ?_)
        · rw [if_pos hc8] at h
          refine lv_iconst (v := 0) hx hb d_Mod_apply_211 (by decide) ?_
          exact (ih.2.2.2.2.2.2.2.1) S (upd L 100 (0 : Int32)) M ls H locs h (lv_sub hl [0, 1, 2, 3] rfl) hP hD hS
        · rw [if_neg hc8] at h
          refine lv_iconst (v := 1) hx hb d_Mod_apply_207 (by decide) ?_
          refine lv_goto (tgt := 212) hx hb d_Mod_apply_208 (by decide) ?_
          exact (ih.2.2.2.2.2.2.2.1) S (upd L 100 (1 : Int32)) M ls H locs h (lv_sub hl [0, 1, 2, 3] rfl) hP hD hS
      rw [if_neg hc1_7] at h
      by_cases hc1_8 : (L 1) = (72 : Int32)
      · rw [if_pos hc1_8] at h
        refine lv_lookup (tgt := 213) (off := 212) hx hb d_Mod_apply_1 (by decide) (by rw [hc1_8]; decide) (by decide) ?_
        refine lv_iload_n hx hb d_Mod_apply_213 rfl (lv_at hl 2 rfl) ?_
        refine lv_iload_n hx hb d_Mod_apply_214 rfl (lv_at hl 3 rfl) ?_
        refine lv_icmp_le (tgt := 222) hx hb d_Mod_apply_215 (by decide) (fun hc9 => ?_) (fun hc9 => ?_)
        · rw [if_pos hc9] at h
          refine lv_iconst (v := 0) hx hb d_Mod_apply_222 (by decide) ?_
          exact (ih.2.2.2.2.2.2.2.2.1) S (upd L 100 (0 : Int32)) M ls H locs h (lv_sub hl [0, 1, 2, 3] rfl) hP hD hS
        · rw [if_neg hc9] at h
          refine lv_iconst (v := 1) hx hb d_Mod_apply_218 (by decide) ?_
          refine lv_goto (tgt := 223) hx hb d_Mod_apply_219 (by decide) ?_
          exact (ih.2.2.2.2.2.2.2.2.1) S (upd L 100 (1 : Int32)) M ls H locs h (lv_sub hl [0, 1, 2, 3] rfl) hP hD hS
      rw [if_neg hc1_8] at h
      by_cases hc1_9 : (L 1) = (73 : Int32)
      · rw [if_pos hc1_9] at h
        refine lv_lookup (tgt := 224) (off := 223) hx hb d_Mod_apply_1 (by decide) (by rw [hc1_9]; decide) (by decide) ?_
        refine lv_iload_n hx hb d_Mod_apply_224 rfl (lv_at hl 2 rfl) ?_
        refine lv_iload_n hx hb d_Mod_apply_225 rfl (lv_at hl 3 rfl) ?_
        refine lv_icmp_gt (tgt := 233) hx hb d_Mod_apply_226 (by decide) (fun hc10 => ?_) (fun hc10 => ?_)
        · rw [if_pos hc10] at h
          refine lv_iconst (v := 0) hx hb d_Mod_apply_233 (by decide) ?_
          exact (ih.2.2.2.2.2.2.2.2.2.1) S (upd L 100 (0 : Int32)) M ls H locs h (lv_sub hl [0, 1, 2, 3] rfl) hP hD hS
        · rw [if_neg hc10] at h
          refine lv_iconst (v := 1) hx hb d_Mod_apply_229 (by decide) ?_
          refine lv_goto (tgt := 234) hx hb d_Mod_apply_230 (by decide) ?_
          exact (ih.2.2.2.2.2.2.2.2.2.1) S (upd L 100 (1 : Int32)) M ls H locs h (lv_sub hl [0, 1, 2, 3] rfl) hP hD hS
      rw [if_neg hc1_9] at h
      by_cases hc1_10 : (L 1) = (74 : Int32)
      · rw [if_pos hc1_10] at h
        refine lv_lookup (tgt := 235) (off := 234) hx hb d_Mod_apply_1 (by decide) (by rw [hc1_10]; decide) (by decide) ?_
        refine lv_iload_n hx hb d_Mod_apply_235 rfl (lv_at hl 2 rfl) ?_
        refine lv_iload_n hx hb d_Mod_apply_236 rfl (lv_at hl 3 rfl) ?_
        refine lv_icmp_lt (tgt := 244) hx hb d_Mod_apply_237 (by decide) (fun hc11 => ?_) (fun hc11 => ?_)
        · rw [if_pos hc11] at h
          refine lv_iconst (v := 0) hx hb d_Mod_apply_244 (by decide) ?_
          exact (ih.2.2.2.2.2.2.2.2.2.2.1) S (upd L 100 (0 : Int32)) M ls H locs h (lv_sub hl [0, 1, 2, 3] rfl) hP hD hS
        · rw [if_neg hc11] at h
          refine lv_iconst (v := 1) hx hb d_Mod_apply_240 (by decide) ?_
          refine lv_goto (tgt := 245) hx hb d_Mod_apply_241 (by decide) ?_
          exact (ih.2.2.2.2.2.2.2.2.2.2.1) S (upd L 100 (1 : Int32)) M ls H locs h (lv_sub hl [0, 1, 2, 3] rfl) hP hD hS
      rw [if_neg hc1_10] at h
      by_cases hc1_11 : (L 1) = (81 : Int32)
      · rw [if_pos hc1_11] at h
        refine lv_lookup (tgt := 246) (off := 245) hx hb d_Mod_apply_1 (by decide) (by rw [hc1_11]; decide) (by decide) ?_
        refine lv_iload_n hx hb d_Mod_apply_246 rfl (lv_at hl 2 rfl) ?_
        refine lv_iload_n hx hb d_Mod_apply_247 rfl (lv_at hl 3 rfl) ?_
        refine lv_bipush (v := 31) hx hb d_Mod_apply_248 (by decide) ?_
        refine lv_iand hx hb d_Mod_apply_250 ?_
        refine lv_ishl hx hb d_Mod_apply_251 ?_
        cases h
        exact kx_252 ls H locs hP hD hS
      rw [if_neg hc1_11] at h
      by_cases hc1_12 : (L 1) = (82 : Int32)
      · rw [if_pos hc1_12] at h
        refine lv_lookup (tgt := 253) (off := 252) hx hb d_Mod_apply_1 (by decide) (by rw [hc1_12]; decide) (by decide) ?_
        refine lv_iload_n hx hb d_Mod_apply_253 rfl (lv_at hl 2 rfl) ?_
        refine lv_iload_n hx hb d_Mod_apply_254 rfl (lv_at hl 3 rfl) ?_
        refine lv_bipush (v := 31) hx hb d_Mod_apply_255 (by decide) ?_
        refine lv_iand hx hb d_Mod_apply_257 ?_
        refine lv_ishr hx hb d_Mod_apply_258 ?_
        cases h
        exact kx_259 ls H locs hP hD hS
      rw [if_neg hc1_12] at h
      by_cases hc1_13 : (L 1) = (91 : Int32)
      · rw [if_pos hc1_13] at h
        refine lv_lookup (tgt := 260) (off := 259) hx hb d_Mod_apply_1 (by decide) (by rw [hc1_13]; decide) (by decide) ?_
        refine lv_iload_n hx hb d_Mod_apply_260 rfl (lv_at hl 2 rfl) ?_
        refine lv_iload_n hx hb d_Mod_apply_261 rfl (lv_at hl 3 rfl) ?_
        refine lv_iadd hx hb d_Mod_apply_262 ?_
        cases h
        exact kx_263 ls H locs hP hD hS
      rw [if_neg hc1_13] at h
      by_cases hc1_14 : (L 1) = (92 : Int32)
      · rw [if_pos hc1_14] at h
        refine lv_lookup (tgt := 264) (off := 263) hx hb d_Mod_apply_1 (by decide) (by rw [hc1_14]; decide) (by decide) ?_
        refine lv_iload_n hx hb d_Mod_apply_264 rfl (lv_at hl 2 rfl) ?_
        refine lv_iload_n hx hb d_Mod_apply_265 rfl (lv_at hl 3 rfl) ?_
        refine lv_isub hx hb d_Mod_apply_266 ?_
        cases h
        exact kx_267 ls H locs hP hD hS
      rw [if_neg hc1_14] at h
      by_cases hc1_15 : (L 1) = (101 : Int32)
      · rw [if_pos hc1_15] at h
        refine lv_lookup (tgt := 268) (off := 267) hx hb d_Mod_apply_1 (by decide) (by rw [hc1_15]; decide) (by decide) ?_
        refine lv_iload_n hx hb d_Mod_apply_268 rfl (lv_at hl 2 rfl) ?_
        refine lv_iload_n hx hb d_Mod_apply_269 rfl (lv_at hl 3 rfl) ?_
        refine lv_imul hx hb d_Mod_apply_270 ?_
        cases h
        exact kx_271 ls H locs hP hD hS
      rw [if_neg hc1_15] at h
      refine lv_lookup (tgt := 272) (off := 271) hx hb d_Mod_apply_1 (by decide) (by rw [lv_osw hc1_0 (k := 11) (by decide), lv_osw hc1_1 (k := 21) (by decide), lv_osw hc1_2 (k := 31) (by decide), lv_osw hc1_3 (k := 41) (by decide), lv_osw hc1_4 (k := 51) (by decide), lv_osw hc1_5 (k := 61) (by decide), lv_osw hc1_6 (k := 62) (by decide), lv_osw hc1_7 (k := 71) (by decide), lv_osw hc1_8 (k := 72) (by decide), lv_osw hc1_9 (k := 73) (by decide), lv_osw hc1_10 (k := 74) (by decide), lv_osw hc1_11 (k := 81) (by decide), lv_osw hc1_12 (k := 82) (by decide), lv_osw hc1_13 (k := 91) (by decide), lv_osw hc1_14 (k := 92) (by decide), lv_osw hc1_15 (k := 101) (by decide)]; rfl) (by decide) ?_
      refine lv_aload_n hx hb d_Mod_apply_272 rfl (lv_at hl 0 rfl) ?_
      refine lv_aload_n hx hb d_Mod_apply_273 rfl (lv_at hl 0 rfl) ?_
      refine S_getI (h := shM) (C := "MacroMillModel") (T := F_Mod) hx hb htt in_Mod hown hK hP 0 55 rfl rfl rfl (by decide) (htt _ k_2291) (fun _ h9 => h9) d_Mod_apply_274 ?_
      refine lv_if_ne (tgt := 284) hx hb d_Mod_apply_277 (by decide) (fun hc12 => ?_) (fun hc12 => ?_)
      · rw [if_neg hc12] at h
        exact (ih.2.2.2.2.2.2.2.2.2.2.2.1) S L M ls H locs h (lv_sub hl [0, 1, 2, 3] rfl) hP hD hS
      · rw [if_pos hc12] at h
        refine lv_iload_n hx hb d_Mod_apply_280 rfl (lv_at hl 3 rfl) ?_
        refine lv_if_ne (tgt := 288) hx hb d_Mod_apply_281 (by decide) (fun hc13 => ?_) (fun hc13 => ?_)
        · rw [if_neg hc13] at h
          refine lv_iconst (v := 0) hx hb d_Mod_apply_288 (by decide) ?_
          exact (ih.2.2.2.2.2.2.2.2.2.2.2.2.1) S (upd L 101 (0 : Int32)) M ls H locs h (lv_sub hl [0, 1, 2, 3] rfl) hP hD hS
        · rw [if_pos hc13] at h
          exact (ih.2.2.2.2.2.2.2.2.2.2.2.1) S L M ls H locs h (lv_sub hl [0, 1, 2, 3] rfl) hP hD hS
    · intro S L M ls H locs h hl hP hD hS
      simp only [f_Mod_apply] at h
      refine lv_iconst (v := 1) hx hb d_Mod_apply_148 (by decide) ?_
      refine lv_goto (tgt := 153) hx hb d_Mod_apply_149 (by decide) ?_
      exact (ih.2.2.1) S (upd L 100 (1 : Int32)) M ls H locs h (lv_sub hl [0, 1, 2, 3] rfl) hP hD hS
    · intro S L M ls H locs h hl hP hD hS
      simp only [f_Mod_apply] at h
      cases h
      exact kx_153 ls H locs hP hD hS
    · intro S L M ls H locs h hl hP hD hS
      simp only [f_Mod_apply] at h
      refine lv_iconst (v := 0) hx hb d_Mod_apply_166 (by decide) ?_
      exact (ih.2.2.2.2.1) S (upd L 100 (0 : Int32)) M ls H locs h (lv_sub hl [0, 1, 2, 3] rfl) hP hD hS
    · intro S L M ls H locs h hl hP hD hS
      simp only [f_Mod_apply] at h
      cases h
      exact kx_167 ls H locs hP hD hS
    · intro S L M ls H locs h hl hP hD hS
      simp only [f_Mod_apply] at h
      cases h
      exact kx_190 ls H locs hP hD hS
    · intro S L M ls H locs h hl hP hD hS
      simp only [f_Mod_apply] at h
      cases h
      exact kx_201 ls H locs hP hD hS
    · intro S L M ls H locs h hl hP hD hS
      simp only [f_Mod_apply] at h
      cases h
      exact kx_212 ls H locs hP hD hS
    · intro S L M ls H locs h hl hP hD hS
      simp only [f_Mod_apply] at h
      cases h
      exact kx_223 ls H locs hP hD hS
    · intro S L M ls H locs h hl hP hD hS
      simp only [f_Mod_apply] at h
      cases h
      exact kx_234 ls H locs hP hD hS
    · intro S L M ls H locs h hl hP hD hS
      simp only [f_Mod_apply] at h
      cases h
      exact kx_245 ls H locs hP hD hS
    · intro S L M ls H locs h hl hP hD hS
      simp only [f_Mod_apply] at h
      refine lv_iconst (v := 1) hx hb d_Mod_apply_284 (by decide) ?_
      refine lv_goto (tgt := 289) hx hb d_Mod_apply_285 (by decide) ?_
      exact (ih.2.2.2.2.2.2.2.2.2.2.2.2.1) S (upd L 101 (1 : Int32)) M ls H locs h (lv_sub hl [0, 1, 2, 3] rfl) hP hD hS
    · intro S L M ls H locs h hl hP hD hS
      simp only [f_Mod_apply] at h
      obtain ⟨hv1, h⟩ := chk h
      refine S_put (h := shM) (C := "MacroMillModel") (T := F_Mod) (v := L 101) hx hb htt in_Mod t_Mod t_Mod_ok n_Mod hown hK hP hD hS 0 55 rfl rfl rfl (by decide) (htt _ k_2291) (fun _ h9 => h9) rfl (bz_n hv1) (bz_f hv1) d_Mod_apply_289 (fun H locs hP hD hS => ?_)
      refine lv_iload_n hx hb d_Mod_apply_292 rfl (lv_at hl 3 rfl) ?_
      refine lv_if_ne (tgt := 300) hx hb d_Mod_apply_293 (by decide) (fun hc2 => ?_) (fun hc2 => ?_)
      · rw [if_neg hc2] at h
        refine lv_iload_n hx hb d_Mod_apply_300 rfl (lv_at hl 1 rfl) ?_
        refine lv_bipush (v := 102) hx hb d_Mod_apply_301 (by decide) ?_
        refine lv_icmp_ne (tgt := 312) hx hb d_Mod_apply_303 (by decide) (fun hc3 => ?_) (fun hc3 => ?_)
        · rw [if_neg hc3] at h
          refine lv_iload_n hx hb d_Mod_apply_312 rfl (lv_at hl 2 rfl) ?_
          refine lv_iload_n hx hb d_Mod_apply_313 rfl (lv_at hl 3 rfl) ?_
          obtain ⟨hv4, h⟩ := chk h
          refine lv_irem hx hb d_Mod_apply_314 hv4 ?_
          exact (ih.2.2.2.2.2.2.2.2.2.2.2.2.2) (putI S 0 55 (L 101)) (upd L 100 ((L 2) - (L 2) / (L 3) * (L 3))) M ls H locs h (lv_sub hl [0, 1, 2, 3] rfl) hP hD hS
        · rw [if_pos hc3] at h
          refine lv_iload_n hx hb d_Mod_apply_306 rfl (lv_at hl 2 rfl) ?_
          refine lv_iload_n hx hb d_Mod_apply_307 rfl (lv_at hl 3 rfl) ?_
          obtain ⟨hv5, h⟩ := chk h
          refine lv_idiv hx hb d_Mod_apply_308 hv5 ?_
          refine lv_goto (tgt := 315) hx hb d_Mod_apply_309 (by decide) ?_
          exact (ih.2.2.2.2.2.2.2.2.2.2.2.2.2) (putI S 0 55 (L 101)) (upd L 100 ((L 2) / (L 3))) M ls H locs h (lv_sub hl [0, 1, 2, 3] rfl) hP hD hS
      · rw [if_pos hc2] at h
        refine lv_iconst (v := 0) hx hb d_Mod_apply_296 (by decide) ?_
        refine lv_goto (tgt := 315) hx hb d_Mod_apply_297 (by decide) ?_
        exact (ih.2.2.2.2.2.2.2.2.2.2.2.2.2) (putI S 0 55 (L 101)) (upd L 100 (0 : Int32)) M ls H locs h (lv_sub hl [0, 1, 2, 3] rfl) hP hD hS
    · intro S L M ls H locs h hl hP hD hS
      simp only [f_Mod_apply] at h
      cases h
      exact kx_315 ls H locs hP hD hS
abbrev rm_t_Mod_apply : Room := { frames := 0, cells := 0, slots := 0, locals := 0 }
theorem t_Mod_apply (l : Launch) (g : gG) (sz : Nat) (ad : Nat → Nat) (S : sS) (v1 : Int32) (v2 : Int32) (v3 : Int32) (k : Nat) (r : Int32) (S9 : sS) (h : f_Mod_apply k 0 S (upd (upd (upd (fun _ => 0) 1 v1) 2 v2) 3 v3) (fun _ => 0) = some (r, S9)) : Ci l y_Mod_apply b_Mod_apply 4 rm_t_Mod_apply g [.ref (ad 0), .int v1, .int v2, .int v3] (Sw shM g ad S) sz (fun r1 w => ∃ S1 : sS, w = Sw shM g ad S1 ∧ r1 = r ∧ S1 = S9) := by
  refine startI (by decide) (Nat.le_of_ble_eq_true rfl) ?_
  intro p e s m below meth c A ls hx hb hr hml hlocks hmn hown htt hN hA hP hK hD hS hl
  exact (w_Mod_apply hx hb hml hown htt hK hN hA r S9 (fun ls H locs hP hD hS => fin_i (g := g) (ws := Sw shM g ad S9) hx hb hr hlocks (by decide +kernel) (by decide +kernel) hP hD hS ⟨_, rfl, rfl, rfl⟩ d_Mod_apply_153) (fun ls H locs hP hD hS => fin_i (g := g) (ws := Sw shM g ad S9) hx hb hr hlocks (by decide +kernel) (by decide +kernel) hP hD hS ⟨_, rfl, rfl, rfl⟩ d_Mod_apply_167) (fun ls H locs hP hD hS => fin_i (g := g) (ws := Sw shM g ad S9) hx hb hr hlocks (by decide +kernel) (by decide +kernel) hP hD hS ⟨_, rfl, rfl, rfl⟩ d_Mod_apply_171) (fun ls H locs hP hD hS => fin_i (g := g) (ws := Sw shM g ad S9) hx hb hr hlocks (by decide +kernel) (by decide +kernel) hP hD hS ⟨_, rfl, rfl, rfl⟩ d_Mod_apply_175) (fun ls H locs hP hD hS => fin_i (g := g) (ws := Sw shM g ad S9) hx hb hr hlocks (by decide +kernel) (by decide +kernel) hP hD hS ⟨_, rfl, rfl, rfl⟩ d_Mod_apply_179) (fun ls H locs hP hD hS => fin_i (g := g) (ws := Sw shM g ad S9) hx hb hr hlocks (by decide +kernel) (by decide +kernel) hP hD hS ⟨_, rfl, rfl, rfl⟩ d_Mod_apply_190) (fun ls H locs hP hD hS => fin_i (g := g) (ws := Sw shM g ad S9) hx hb hr hlocks (by decide +kernel) (by decide +kernel) hP hD hS ⟨_, rfl, rfl, rfl⟩ d_Mod_apply_201) (fun ls H locs hP hD hS => fin_i (g := g) (ws := Sw shM g ad S9) hx hb hr hlocks (by decide +kernel) (by decide +kernel) hP hD hS ⟨_, rfl, rfl, rfl⟩ d_Mod_apply_212) (fun ls H locs hP hD hS => fin_i (g := g) (ws := Sw shM g ad S9) hx hb hr hlocks (by decide +kernel) (by decide +kernel) hP hD hS ⟨_, rfl, rfl, rfl⟩ d_Mod_apply_223) (fun ls H locs hP hD hS => fin_i (g := g) (ws := Sw shM g ad S9) hx hb hr hlocks (by decide +kernel) (by decide +kernel) hP hD hS ⟨_, rfl, rfl, rfl⟩ d_Mod_apply_234) (fun ls H locs hP hD hS => fin_i (g := g) (ws := Sw shM g ad S9) hx hb hr hlocks (by decide +kernel) (by decide +kernel) hP hD hS ⟨_, rfl, rfl, rfl⟩ d_Mod_apply_245) (fun ls H locs hP hD hS => fin_i (g := g) (ws := Sw shM g ad S9) hx hb hr hlocks (by decide +kernel) (by decide +kernel) hP hD hS ⟨_, rfl, rfl, rfl⟩ d_Mod_apply_252) (fun ls H locs hP hD hS => fin_i (g := g) (ws := Sw shM g ad S9) hx hb hr hlocks (by decide +kernel) (by decide +kernel) hP hD hS ⟨_, rfl, rfl, rfl⟩ d_Mod_apply_259) (fun ls H locs hP hD hS => fin_i (g := g) (ws := Sw shM g ad S9) hx hb hr hlocks (by decide +kernel) (by decide +kernel) hP hD hS ⟨_, rfl, rfl, rfl⟩ d_Mod_apply_263) (fun ls H locs hP hD hS => fin_i (g := g) (ws := Sw shM g ad S9) hx hb hr hlocks (by decide +kernel) (by decide +kernel) hP hD hS ⟨_, rfl, rfl, rfl⟩ d_Mod_apply_267) (fun ls H locs hP hD hS => fin_i (g := g) (ws := Sw shM g ad S9) hx hb hr hlocks (by decide +kernel) (by decide +kernel) hP hD hS ⟨_, rfl, rfl, rfl⟩ d_Mod_apply_271) (fun ls H locs hP hD hS => fin_i (g := g) (ws := Sw shM g ad S9) hx hb hr hlocks (by decide +kernel) (by decide +kernel) hP hD hS ⟨_, rfl, rfl, rfl⟩ d_Mod_apply_315) k).1 S (upd (upd (upd (fun _ => 0) 1 v1) 2 v2) 3 v3) (fun _ => 0) ls _ _ h hl hP hD hS
