def f_Mod_isAgain : Nat → Nat → sS → (Nat → Int32) → (Nat → Int64) → Option (Int32 × sS)
  | 0, _, _, _, _ => none
  | k + 1, 0, S, L, M => if okI (L 1) 400 = true then (if (L 2) = (0 : Int32) then (f_Mod_isAgain k 1 S (upd (upd L 101 ((-1) : Int32)) 100 (S.2.1 37 (L 1 : Int32).toNatClampNeg)) M) else (f_Mod_isAgain k 1 S (upd (upd L 101 (S.1 0 122)) 100 (S.2.1 37 (L 1 : Int32).toNatClampNeg)) M)) else none
  | k + 1, 1, S, L, M => if (L 100) = (L 101) then (if okI (L 1) 400 = true then (if (S.2.1 38 (L 1 : Int32).toNatClampNeg) = (S.1 0 123) then (if okI (L 1) 400 = true then (if (S.2.1 45 (L 1 : Int32).toNatClampNeg) = (L 3) then (f_Mod_isAgain k 3 S (upd L 100 (1 : Int32)) M) else (f_Mod_isAgain k 2 S L M)) else none) else (f_Mod_isAgain k 2 S L M)) else none) else (f_Mod_isAgain k 2 S L M)
  | k + 1, 2, S, L, M => f_Mod_isAgain k 3 S (upd L 100 (0 : Int32)) M
  | k + 1, 3, S, L, M => f_Mod_isAgain k 4 S (upd (upd L 4 (L 100)) 5 (0 : Int32)) M
  | k + 1, 4, S, L, M => if (S.1 0 122) ≤ (L 5) then (f_Mod_isAgain k 12 S L M) else (if (L 4) = (0 : Int32) then (f_Mod_isAgain k 12 S L M) else (if (S.1 0 123) = (0 : Int32) then (f_Mod_isAgain k 5 S L M) else (if (L 5) = ((S.1 0 122) - (1 : Int32)) then (f_Mod_isAgain k 6 S (upd L 100 (1 : Int32)) M) else (f_Mod_isAgain k 5 S L M))))
  | k + 1, 5, S, L, M => f_Mod_isAgain k 6 S (upd L 100 (0 : Int32)) M
  | k + 1, 6, S, L, M => if (L 100) = (0 : Int32) then (if okI (((31 : Int32) * (L 1)) + (L 5)) 12400 = true then (if okI (L 5) 31 = true then (if (S.2.1 40 (((31 : Int32) * (L 1)) + (L 5) : Int32).toNatClampNeg) = (S.2.1 66 (L 5 : Int32).toNatClampNeg) then (f_Mod_isAgain k 7 S (upd (upd L 6 (L 100)) 7 (((31 : Int32) * (L 1)) + (L 5))) M) else (f_Mod_isAgain k 8 S (upd (upd (upd L 6 (L 100)) 7 (((31 : Int32) * (L 1)) + (L 5))) 100 (0 : Int32)) M)) else none) else none) else (f_Mod_isAgain k 7 S (upd (upd L 6 (L 100)) 7 (((31 : Int32) * (L 1)) + (L 5))) M)
  | k + 1, 7, S, L, M => f_Mod_isAgain k 8 S (upd L 100 (1 : Int32)) M
  | k + 1, 8, S, L, M => f_Mod_isAgain k 9 S (upd (upd L 4 (L 100)) 8 (0 : Int32)) M
  | k + 1, 9, S, L, M => if okI (L 5) 31 = true then (if (S.2.1 66 (L 5 : Int32).toNatClampNeg) ≤ (L 8) then (f_Mod_isAgain k 11 S L M) else (if (L 4) = (0 : Int32) then (f_Mod_isAgain k 11 S L M) else (if (L 6) = (0 : Int32) then (if okI (L 7) 12400 = true then (if okI ((S.2.1 39 (L 7 : Int32).toNatClampNeg) + (L 8)) 125552 = true then (if okI (L 5) 31 = true then (if okI ((S.2.1 65 (L 5 : Int32).toNatClampNeg) + (L 8)) 125552 = true then (if (S.2.1 23 ((S.2.1 39 (L 7 : Int32).toNatClampNeg) + (L 8) : Int32).toNatClampNeg) = (S.2.1 23 ((S.2.1 65 (L 5 : Int32).toNatClampNeg) + (L 8) : Int32).toNatClampNeg) then (f_Mod_isAgain k 10 S (upd L 100 (1 : Int32)) M) else (f_Mod_isAgain k 10 S (upd L 100 (0 : Int32)) M)) else none) else none) else none) else none) else (f_Mod_isAgain k 11 S L M)))) else none
  | k + 1, 10, S, L, M => f_Mod_isAgain k 9 S (upd (upd L 4 (L 100)) 8 ((L 8) + 1)) M
  | k + 1, 11, S, L, M => f_Mod_isAgain k 4 S (upd L 5 ((L 5) + 1)) M
  | k + 1, 12, S, L, M => if okI (L 1) 400 = true then (if (L 4) = (0 : Int32) then (f_Mod_isAgain k 13 S (upd (upd L 5 (S.2.1 44 (L 1 : Int32).toNatClampNeg)) 100 ((-1) : Int32)) M) else (f_Mod_isAgain k 13 S (upd (upd L 5 (S.2.1 44 (L 1 : Int32).toNatClampNeg)) 100 (S.1 0 126)) M)) else none
  | k + 1, 13, S, L, M => f_Mod_isAgain k 14 S (upd L 6 (L 100)) M
  | k + 1, 14, S, L, M => if (L 6) < (0 : Int32) then (f_Mod_isAgain k 18 S L M) else (if (L 4) = (0 : Int32) then (f_Mod_isAgain k 18 S L M) else (if okI (L 5) 8000 = true then (if okI (L 5) 8000 = true then ((f_Mod_isSpelledAs k 0 S (upd (upd (upd (fun _ => 0) 1 (L 6 : Int32)) 2 (S.2.1 41 (L 5 : Int32).toNatClampNeg : Int32)) 3 (S.2.1 42 (L 5 : Int32).toNatClampNeg : Int32)) (fun _ => 0)).bind (fun (r5, T5) => if r5 = (0 : Int32) then (f_Mod_isAgain k 16 T5 L M) else (if (L 6) = (T5.1 0 126) then (f_Mod_isAgain k 15 T5 L M) else (if okI (L 5) 8000 = true then (if okI (L 6) 260000 = true then (if (T5.2.1 43 (L 5 : Int32).toNatClampNeg) = (T5.2.1 32 (L 6 : Int32).toNatClampNeg) then (f_Mod_isAgain k 15 T5 L M) else (f_Mod_isAgain k 16 T5 L M)) else none) else none)))) else none) else none))
  | k + 1, 15, S, L, M => f_Mod_isAgain k 17 S (upd L 100 (1 : Int32)) M
  | k + 1, 16, S, L, M => f_Mod_isAgain k 17 S (upd L 100 (0 : Int32)) M
  | k + 1, 17, S, L, M => if okI (L 6) 260000 = true then (f_Mod_isAgain k 14 S (upd (upd (upd L 4 (L 100)) 5 ((L 5) + 1)) 6 (S.2.1 31 (L 6 : Int32).toNatClampNeg)) M) else none
  | k + 1, 18, S, L, M => if bz (L 4) = true then some (L 4, S) else none
  | _ + 1, _ + 19, _, _, _ => none
set_option maxHeartbeats 8000000 in
set_option maxRecDepth 100000 in
theorem w_Mod_isAgain {p : Program} {l : Launch} {e : Env} {R : Room} {s : State} {m : MethodId} {args : Array Value} {below : List Frame} {meth : Method} {c : Code} {cells slots : Nat} {Q : State → Prop} {g : gG} {A : Nat → Prop} {ad : Nat → Nat} (hx : p.tables.exec = Jvm.exec) (hb : c.code = b_Mod_isAgain) (hml : c.maxLocals = 9) (hown : s.vm.findClass "MacroMillModel" = some m.cls) (htt : ∀ w ∈ gt, w.before args s = true) (hK : va_K g.1 classes (tysG g) s) (hN : nw s) (hA : ∀ q : Nat, s.heap.size ≤ q → A q) (hRf : 1 ≤ R.frames) (hRl : 25 ≤ R.locals) (hRc : cells ≤ R.cells) (hRs : slots ≤ R.slots) (r : Int32) (S9 : sS)
    (kx_314 : ∀ (ls : Array Slot) (H : Heap) (locs : List Loc), narrow .boolean (.int r) = .int r → va_P g.1 classes (Sw shM g ad S9) H → va_D A (Sw shM g ad S9) → va_S A s.heap H locs → W p l e R s m args below meth c H locs cells slots Q (F0 m 314 ls [.int r])) :
    ∀ k9 : Nat, (∀ (S : sS) (L : Nat → Int32) (M : Nat → Int64) (ls : Array Slot) (H : Heap) (locs : List Loc), f_Mod_isAgain k9 0 S L M = some (r, S9) → lv_has ls 9 [(0, .ref (ad 0)), (1, .int (L 1)), (2, .int (L 2)), (3, .int (L 3))] → va_P g.1 classes (Sw shM g ad S) H → va_D A (Sw shM g ad S) → va_S A s.heap H locs → W p l e R s m args below meth c H locs cells slots Q (F0 m 0 ls [])) ∧ (∀ (S : sS) (L : Nat → Int32) (M : Nat → Int64) (ls : Array Slot) (H : Heap) (locs : List Loc), f_Mod_isAgain k9 1 S L M = some (r, S9) → lv_has ls 9 [(0, .ref (ad 0)), (1, .int (L 1)), (2, .int (L 2)), (3, .int (L 3))] → va_P g.1 classes (Sw shM g ad S) H → va_D A (Sw shM g ad S) → va_S A s.heap H locs → W p l e R s m args below meth c H locs cells slots Q (F0 m 18 ls [.int (L 101), .int (L 100)])) ∧ (∀ (S : sS) (L : Nat → Int32) (M : Nat → Int64) (ls : Array Slot) (H : Heap) (locs : List Loc), f_Mod_isAgain k9 2 S L M = some (r, S9) → lv_has ls 9 [(0, .ref (ad 0)), (1, .int (L 1)), (2, .int (L 2)), (3, .int (L 3))] → va_P g.1 classes (Sw shM g ad S) H → va_D A (Sw shM g ad S) → va_S A s.heap H locs → W p l e R s m args below meth c H locs cells slots Q (F0 m 48 ls [])) ∧ (∀ (S : sS) (L : Nat → Int32) (M : Nat → Int64) (ls : Array Slot) (H : Heap) (locs : List Loc), f_Mod_isAgain k9 3 S L M = some (r, S9) → lv_has ls 9 [(0, .ref (ad 0)), (1, .int (L 1)), (2, .int (L 2)), (3, .int (L 3))] → va_P g.1 classes (Sw shM g ad S) H → va_D A (Sw shM g ad S) → va_S A s.heap H locs → W p l e R s m args below meth c H locs cells slots Q (F0 m 49 ls [.int (L 100)])) ∧ (∀ (S : sS) (L : Nat → Int32) (M : Nat → Int64) (ls : Array Slot) (H : Heap) (locs : List Loc), f_Mod_isAgain k9 4 S L M = some (r, S9) → lv_has ls 9 [(0, .ref (ad 0)), (1, .int (L 1)), (2, .int (L 2)), (3, .int (L 3)), (4, .int (L 4)), (5, .int (L 5))] → va_P g.1 classes (Sw shM g ad S) H → va_D A (Sw shM g ad S) → va_S A s.heap H locs → W p l e R s m args below meth c H locs cells slots Q (F0 m 54 ls [])) ∧ (∀ (S : sS) (L : Nat → Int32) (M : Nat → Int64) (ls : Array Slot) (H : Heap) (locs : List Loc), f_Mod_isAgain k9 5 S L M = some (r, S9) → lv_has ls 9 [(0, .ref (ad 0)), (1, .int (L 1)), (2, .int (L 2)), (3, .int (L 3)), (4, .int (L 4)), (5, .int (L 5))] → va_P g.1 classes (Sw shM g ad S) H → va_D A (Sw shM g ad S) → va_S A s.heap H locs → W p l e R s m args below meth c H locs cells slots Q (F0 m 90 ls [])) ∧ (∀ (S : sS) (L : Nat → Int32) (M : Nat → Int64) (ls : Array Slot) (H : Heap) (locs : List Loc), f_Mod_isAgain k9 6 S L M = some (r, S9) → lv_has ls 9 [(0, .ref (ad 0)), (1, .int (L 1)), (2, .int (L 2)), (3, .int (L 3)), (4, .int (L 4)), (5, .int (L 5))] → va_P g.1 classes (Sw shM g ad S) H → va_D A (Sw shM g ad S) → va_S A s.heap H locs → W p l e R s m args below meth c H locs cells slots Q (F0 m 91 ls [.int (L 100)])) ∧ (∀ (S : sS) (L : Nat → Int32) (M : Nat → Int64) (ls : Array Slot) (H : Heap) (locs : List Loc), f_Mod_isAgain k9 7 S L M = some (r, S9) → lv_has ls 9 [(0, .ref (ad 0)), (1, .int (L 1)), (2, .int (L 2)), (3, .int (L 3)), (4, .int (L 4)), (5, .int (L 5)), (6, .int (L 6)), (7, .int (L 7))] → va_P g.1 classes (Sw shM g ad S) H → va_D A (Sw shM g ad S) → va_S A s.heap H locs → W p l e R s m args below meth c H locs cells slots Q (F0 m 124 ls [])) ∧ (∀ (S : sS) (L : Nat → Int32) (M : Nat → Int64) (ls : Array Slot) (H : Heap) (locs : List Loc), f_Mod_isAgain k9 8 S L M = some (r, S9) → lv_has ls 9 [(0, .ref (ad 0)), (1, .int (L 1)), (2, .int (L 2)), (3, .int (L 3)), (4, .int (L 4)), (5, .int (L 5)), (6, .int (L 6)), (7, .int (L 7))] → va_P g.1 classes (Sw shM g ad S) H → va_D A (Sw shM g ad S) → va_S A s.heap H locs → W p l e R s m args below meth c H locs cells slots Q (F0 m 129 ls [.int (L 100)])) ∧ (∀ (S : sS) (L : Nat → Int32) (M : Nat → Int64) (ls : Array Slot) (H : Heap) (locs : List Loc), f_Mod_isAgain k9 9 S L M = some (r, S9) → lv_has ls 9 [(0, .ref (ad 0)), (1, .int (L 1)), (2, .int (L 2)), (3, .int (L 3)), (4, .int (L 4)), (5, .int (L 5)), (6, .int (L 6)), (7, .int (L 7)), (8, .int (L 8))] → va_P g.1 classes (Sw shM g ad S) H → va_D A (Sw shM g ad S) → va_S A s.heap H locs → W p l e R s m args below meth c H locs cells slots Q (F0 m 134 ls [])) ∧ (∀ (S : sS) (L : Nat → Int32) (M : Nat → Int64) (ls : Array Slot) (H : Heap) (locs : List Loc), f_Mod_isAgain k9 10 S L M = some (r, S9) → lv_has ls 9 [(0, .ref (ad 0)), (1, .int (L 1)), (2, .int (L 2)), (3, .int (L 3)), (4, .int (L 4)), (5, .int (L 5)), (6, .int (L 6)), (7, .int (L 7)), (8, .int (L 8))] → va_P g.1 classes (Sw shM g ad S) H → va_D A (Sw shM g ad S) → va_S A s.heap H locs → W p l e R s m args below meth c H locs cells slots Q (F0 m 194 ls [.int (L 100)])) ∧ (∀ (S : sS) (L : Nat → Int32) (M : Nat → Int64) (ls : Array Slot) (H : Heap) (locs : List Loc), f_Mod_isAgain k9 11 S L M = some (r, S9) → lv_has ls 9 [(0, .ref (ad 0)), (1, .int (L 1)), (2, .int (L 2)), (3, .int (L 3)), (4, .int (L 4)), (5, .int (L 5)), (6, .int (L 6)), (7, .int (L 7)), (8, .int (L 8))] → va_P g.1 classes (Sw shM g ad S) H → va_D A (Sw shM g ad S) → va_S A s.heap H locs → W p l e R s m args below meth c H locs cells slots Q (F0 m 202 ls [])) ∧ (∀ (S : sS) (L : Nat → Int32) (M : Nat → Int64) (ls : Array Slot) (H : Heap) (locs : List Loc), f_Mod_isAgain k9 12 S L M = some (r, S9) → lv_has ls 9 [(0, .ref (ad 0)), (1, .int (L 1)), (2, .int (L 2)), (3, .int (L 3)), (4, .int (L 4)), (5, .int (L 5))] → va_P g.1 classes (Sw shM g ad S) H → va_D A (Sw shM g ad S) → va_S A s.heap H locs → W p l e R s m args below meth c H locs cells slots Q (F0 m 208 ls [])) ∧ (∀ (S : sS) (L : Nat → Int32) (M : Nat → Int64) (ls : Array Slot) (H : Heap) (locs : List Loc), f_Mod_isAgain k9 13 S L M = some (r, S9) → lv_has ls 9 [(0, .ref (ad 0)), (1, .int (L 1)), (2, .int (L 2)), (3, .int (L 3)), (4, .int (L 4)), (5, .int (L 5))] → va_P g.1 classes (Sw shM g ad S) H → va_D A (Sw shM g ad S) → va_S A s.heap H locs → W p l e R s m args below meth c H locs cells slots Q (F0 m 229 ls [.int (L 100)])) ∧ (∀ (S : sS) (L : Nat → Int32) (M : Nat → Int64) (ls : Array Slot) (H : Heap) (locs : List Loc), f_Mod_isAgain k9 14 S L M = some (r, S9) → lv_has ls 9 [(0, .ref (ad 0)), (1, .int (L 1)), (2, .int (L 2)), (3, .int (L 3)), (4, .int (L 4)), (5, .int (L 5)), (6, .int (L 6))] → va_P g.1 classes (Sw shM g ad S) H → va_D A (Sw shM g ad S) → va_S A s.heap H locs → W p l e R s m args below meth c H locs cells slots Q (F0 m 231 ls [])) ∧ (∀ (S : sS) (L : Nat → Int32) (M : Nat → Int64) (ls : Array Slot) (H : Heap) (locs : List Loc), f_Mod_isAgain k9 15 S L M = some (r, S9) → lv_has ls 9 [(0, .ref (ad 0)), (1, .int (L 1)), (2, .int (L 2)), (3, .int (L 3)), (4, .int (L 4)), (5, .int (L 5)), (6, .int (L 6))] → va_P g.1 classes (Sw shM g ad S) H → va_D A (Sw shM g ad S) → va_S A s.heap H locs → W p l e R s m args below meth c H locs cells slots Q (F0 m 290 ls [])) ∧ (∀ (S : sS) (L : Nat → Int32) (M : Nat → Int64) (ls : Array Slot) (H : Heap) (locs : List Loc), f_Mod_isAgain k9 16 S L M = some (r, S9) → lv_has ls 9 [(0, .ref (ad 0)), (1, .int (L 1)), (2, .int (L 2)), (3, .int (L 3)), (4, .int (L 4)), (5, .int (L 5)), (6, .int (L 6))] → va_P g.1 classes (Sw shM g ad S) H → va_D A (Sw shM g ad S) → va_S A s.heap H locs → W p l e R s m args below meth c H locs cells slots Q (F0 m 294 ls [])) ∧ (∀ (S : sS) (L : Nat → Int32) (M : Nat → Int64) (ls : Array Slot) (H : Heap) (locs : List Loc), f_Mod_isAgain k9 17 S L M = some (r, S9) → lv_has ls 9 [(0, .ref (ad 0)), (1, .int (L 1)), (2, .int (L 2)), (3, .int (L 3)), (4, .int (L 4)), (5, .int (L 5)), (6, .int (L 6))] → va_P g.1 classes (Sw shM g ad S) H → va_D A (Sw shM g ad S) → va_S A s.heap H locs → W p l e R s m args below meth c H locs cells slots Q (F0 m 295 ls [.int (L 100)])) ∧ (∀ (S : sS) (L : Nat → Int32) (M : Nat → Int64) (ls : Array Slot) (H : Heap) (locs : List Loc), f_Mod_isAgain k9 18 S L M = some (r, S9) → lv_has ls 9 [(0, .ref (ad 0)), (1, .int (L 1)), (2, .int (L 2)), (3, .int (L 3)), (4, .int (L 4)), (5, .int (L 5)), (6, .int (L 6))] → va_P g.1 classes (Sw shM g ad S) H → va_D A (Sw shM g ad S) → va_S A s.heap H locs → W p l e R s m args below meth c H locs cells slots Q (F0 m 312 ls [])) := by
  intro k9
  induction k9 with
  | zero => exact ⟨(fun _ _ _ _ _ _ h => by simp [f_Mod_isAgain] at h), (fun _ _ _ _ _ _ h => by simp [f_Mod_isAgain] at h), (fun _ _ _ _ _ _ h => by simp [f_Mod_isAgain] at h), (fun _ _ _ _ _ _ h => by simp [f_Mod_isAgain] at h), (fun _ _ _ _ _ _ h => by simp [f_Mod_isAgain] at h), (fun _ _ _ _ _ _ h => by simp [f_Mod_isAgain] at h), (fun _ _ _ _ _ _ h => by simp [f_Mod_isAgain] at h), (fun _ _ _ _ _ _ h => by simp [f_Mod_isAgain] at h), (fun _ _ _ _ _ _ h => by simp [f_Mod_isAgain] at h), (fun _ _ _ _ _ _ h => by simp [f_Mod_isAgain] at h), (fun _ _ _ _ _ _ h => by simp [f_Mod_isAgain] at h), (fun _ _ _ _ _ _ h => by simp [f_Mod_isAgain] at h), (fun _ _ _ _ _ _ h => by simp [f_Mod_isAgain] at h), (fun _ _ _ _ _ _ h => by simp [f_Mod_isAgain] at h), (fun _ _ _ _ _ _ h => by simp [f_Mod_isAgain] at h), (fun _ _ _ _ _ _ h => by simp [f_Mod_isAgain] at h), (fun _ _ _ _ _ _ h => by simp [f_Mod_isAgain] at h), (fun _ _ _ _ _ _ h => by simp [f_Mod_isAgain] at h), (fun _ _ _ _ _ _ h => by simp [f_Mod_isAgain] at h)⟩
  | succ k9 ih =>
    refine ⟨?_, ?_, ?_, ?_, ?_, ?_, ?_, ?_, ?_, ?_, ?_, ?_, ?_, ?_, ?_, ?_, ?_, ?_, ?_⟩
    · intro S L M ls H locs h hl hP hD hS
      simp only [f_Mod_isAgain] at h
      refine lv_aload_n hx hb d_Mod_isAgain_0 rfl (lv_at hl 0 rfl) ?_
      refine S_getR (h := shM) (C := "MacroMillModel") (T := F_Mod) hx hb htt in_Mod hown hK hP 0 79 rfl 38 rfl rfl (by decide) (htt _ k_2315) (fun _ h9 => h9) d_Mod_isAgain_1 ?_
      refine lv_iload_n hx hb d_Mod_isAgain_4 rfl (lv_at hl 1 rfl) ?_
      obtain ⟨hv1, h⟩ := chk h
      refine S_iald (h := shM) (i := L 1) hx hb hK hP 37 rfl (okI_in hv1) d_Mod_isAgain_5 ?_
      refine lv_iload_n hx hb d_Mod_isAgain_6 rfl (lv_at hl 2 rfl) ?_
      refine lv_if_eq (tgt := 17) hx hb d_Mod_isAgain_7 (by decide) (fun hc2 => ?_) (fun hc2 => ?_)
      · rw [if_pos hc2] at h
        refine lv_iconst (v := (-1)) hx hb d_Mod_isAgain_17 (by decide) ?_
        exact (ih.2.1) S (upd (upd L 101 ((-1) : Int32)) 100 (S.2.1 37 (L 1 : Int32).toNatClampNeg)) M ls H locs h (lv_sub hl [0, 1, 2, 3] rfl) hP hD hS
      · rw [if_neg hc2] at h
        refine lv_aload_n hx hb d_Mod_isAgain_10 rfl (lv_at hl 0 rfl) ?_
        refine S_getI (h := shM) (C := "MacroMillModel") (T := F_Mod) hx hb htt in_Mod hown hK hP 0 122 rfl rfl rfl (by decide) (htt _ k_2358) (fun _ h9 => h9) d_Mod_isAgain_11 ?_
        refine lv_goto (tgt := 18) hx hb d_Mod_isAgain_14 (by decide) ?_
        exact (ih.2.1) S (upd (upd L 101 (S.1 0 122)) 100 (S.2.1 37 (L 1 : Int32).toNatClampNeg)) M ls H locs h (lv_sub hl [0, 1, 2, 3] rfl) hP hD hS
    · intro S L M ls H locs h hl hP hD hS
      simp only [f_Mod_isAgain] at h
      refine lv_icmp_ne (tgt := 48) hx hb d_Mod_isAgain_18 (by decide) (fun hc1 => ?_) (fun hc1 => ?_)
      · rw [if_neg hc1] at h
        exact (ih.2.2.1) S L M ls H locs h (lv_sub hl [0, 1, 2, 3] rfl) hP hD hS
      · rw [if_pos hc1] at h
        refine lv_aload_n hx hb d_Mod_isAgain_21 rfl (lv_at hl 0 rfl) ?_
        refine S_getR (h := shM) (C := "MacroMillModel") (T := F_Mod) hx hb htt in_Mod hown hK hP 0 80 rfl 39 rfl rfl (by decide) (htt _ k_2316) (fun _ h9 => h9) d_Mod_isAgain_22 ?_
        refine lv_iload_n hx hb d_Mod_isAgain_25 rfl (lv_at hl 1 rfl) ?_
        obtain ⟨hv2, h⟩ := chk h
        refine S_zald (h := shM) (i := L 1) hx hb hK hP 38 rfl (okI_in hv2) d_Mod_isAgain_26 ?_
        refine lv_aload_n hx hb d_Mod_isAgain_27 rfl (lv_at hl 0 rfl) ?_
        refine S_getI (h := shM) (C := "MacroMillModel") (T := F_Mod) hx hb htt in_Mod hown hK hP 0 123 rfl rfl rfl (by decide) (htt _ k_2359) (fun _ h9 => h9) d_Mod_isAgain_28 ?_
        refine lv_icmp_ne (tgt := 48) hx hb d_Mod_isAgain_31 (by decide) (fun hc3 => ?_) (fun hc3 => ?_)
        · rw [if_neg hc3] at h
          exact (ih.2.2.1) S L M ls H locs h (lv_sub hl [0, 1, 2, 3] rfl) hP hD hS
        · rw [if_pos hc3] at h
          refine lv_aload_n hx hb d_Mod_isAgain_34 rfl (lv_at hl 0 rfl) ?_
          refine S_getR (h := shM) (C := "MacroMillModel") (T := F_Mod) hx hb htt in_Mod hown hK hP 0 88 rfl 46 rfl rfl (by decide) (htt _ k_2324) (fun _ h9 => h9) d_Mod_isAgain_35 ?_
          refine lv_iload_n hx hb d_Mod_isAgain_38 rfl (lv_at hl 1 rfl) ?_
          obtain ⟨hv4, h⟩ := chk h
          refine S_iald (h := shM) (i := L 1) hx hb hK hP 45 rfl (okI_in hv4) d_Mod_isAgain_39 ?_
          refine lv_iload_n hx hb d_Mod_isAgain_40 rfl (lv_at hl 3 rfl) ?_
          refine lv_icmp_ne (tgt := 48) hx hb d_Mod_isAgain_41 (by decide) (fun hc5 => ?_) (fun hc5 => ?_)
          · rw [if_neg hc5] at h
            exact (ih.2.2.1) S L M ls H locs h (lv_sub hl [0, 1, 2, 3] rfl) hP hD hS
          · rw [if_pos hc5] at h
            show W _ _ _ _ _ _ _ _ _ _ _ _ _ _ _ (F0 _ 44 _ _)
            refine lv_iconst (v := 1) hx hb d_Mod_isAgain_44 (by decide) ?_
            refine lv_goto (tgt := 49) hx hb d_Mod_isAgain_45 (by decide) ?_
            exact (ih.2.2.2.1) S (upd L 100 (1 : Int32)) M ls H locs h (lv_sub hl [0, 1, 2, 3] rfl) hP hD hS
    · intro S L M ls H locs h hl hP hD hS
      simp only [f_Mod_isAgain] at h
      refine lv_iconst (v := 0) hx hb d_Mod_isAgain_48 (by decide) ?_
      exact (ih.2.2.2.1) S (upd L 100 (0 : Int32)) M ls H locs h (lv_sub hl [0, 1, 2, 3] rfl) hP hD hS
    · intro S L M ls H locs h hl hP hD hS
      simp only [f_Mod_isAgain] at h
      refine lv_istore (lv' := [(4, .int (L 100)), (0, .ref (ad 0)), (1, .int (L 1)), (2, .int (L 2)), (3, .int (L 3))]) hx hb d_Mod_isAgain_49 hl (by decide) rfl (fun ls hl => ?_)
      refine lv_iconst (v := 0) hx hb d_Mod_isAgain_51 (by decide) ?_
      refine lv_istore (lv' := [(5, .int 0), (4, .int (L 100)), (0, .ref (ad 0)), (1, .int (L 1)), (2, .int (L 2)), (3, .int (L 3))]) hx hb d_Mod_isAgain_52 hl (by decide) rfl (fun ls hl => ?_)
      exact (ih.2.2.2.2.1) S (upd (upd L 4 (L 100)) 5 (0 : Int32)) M ls H locs h (lv_sub hl [2, 3, 4, 5, 1, 0] rfl) hP hD hS
    · intro S L M ls H locs h hl hP hD hS
      simp only [f_Mod_isAgain] at h
      refine lv_iload hx hb d_Mod_isAgain_54 (lv_at hl 5 rfl) ?_
      refine lv_aload_n hx hb d_Mod_isAgain_56 rfl (lv_at hl 0 rfl) ?_
      refine S_getI (h := shM) (C := "MacroMillModel") (T := F_Mod) hx hb htt in_Mod hown hK hP 0 122 rfl rfl rfl (by decide) (htt _ k_2358) (fun _ h9 => h9) d_Mod_isAgain_57 ?_
      refine lv_icmp_ge (tgt := 208) hx hb d_Mod_isAgain_60 (by decide) (fun hc1 => ?_) (fun hc1 => ?_)
      · rw [if_pos hc1] at h
        exact (ih.2.2.2.2.2.2.2.2.2.2.2.2.1) S L M ls H locs h (lv_sub hl [0, 1, 2, 3, 4, 5] rfl) hP hD hS
      · rw [if_neg hc1] at h
        refine lv_iload hx hb d_Mod_isAgain_63 (lv_at hl 4 rfl) ?_
        refine lv_if_eq (tgt := 208) hx hb d_Mod_isAgain_65 (by decide) (fun hc2 => ?_) (fun hc2 => ?_)
        · rw [if_pos hc2] at h
          exact (ih.2.2.2.2.2.2.2.2.2.2.2.2.1) S L M ls H locs h (lv_sub hl [0, 1, 2, 3, 4, 5] rfl) hP hD hS
        · rw [if_neg hc2] at h
          refine lv_aload_n hx hb d_Mod_isAgain_68 rfl (lv_at hl 0 rfl) ?_
          refine S_getI (h := shM) (C := "MacroMillModel") (T := F_Mod) hx hb htt in_Mod hown hK hP 0 123 rfl rfl rfl (by decide) (htt _ k_2359) (fun _ h9 => h9) d_Mod_isAgain_69 ?_
          refine lv_if_eq (tgt := 90) hx hb d_Mod_isAgain_72 (by decide) (fun hc3 => ?_) (fun hc3 => ?_)
          · rw [if_pos hc3] at h
            exact (ih.2.2.2.2.2.1) S L M ls H locs h (lv_sub hl [0, 1, 2, 3, 4, 5] rfl) hP hD hS
          · rw [if_neg hc3] at h
            refine lv_iload hx hb d_Mod_isAgain_75 (lv_at hl 5 rfl) ?_
            refine lv_aload_n hx hb d_Mod_isAgain_77 rfl (lv_at hl 0 rfl) ?_
            refine S_getI (h := shM) (C := "MacroMillModel") (T := F_Mod) hx hb htt in_Mod hown hK hP 0 122 rfl rfl rfl (by decide) (htt _ k_2358) (fun _ h9 => h9) d_Mod_isAgain_78 ?_
            refine lv_iconst (v := 1) hx hb d_Mod_isAgain_81 (by decide) ?_
            refine lv_isub hx hb d_Mod_isAgain_82 ?_
            refine lv_icmp_ne (tgt := 90) hx hb d_Mod_isAgain_83 (by decide) (fun hc4 => ?_) (fun hc4 => ?_)
            · rw [if_neg hc4] at h
              exact (ih.2.2.2.2.2.1) S L M ls H locs h (lv_sub hl [0, 1, 2, 3, 4, 5] rfl) hP hD hS
            · rw [if_pos hc4] at h
              show W _ _ _ _ _ _ _ _ _ _ _ _ _ _ _ (F0 _ 86 _ _)
              refine lv_iconst (v := 1) hx hb d_Mod_isAgain_86 (by decide) ?_
              refine lv_goto (tgt := 91) hx hb d_Mod_isAgain_87 (by decide) ?_
              exact (ih.2.2.2.2.2.2.1) S (upd L 100 (1 : Int32)) M ls H locs h (lv_sub hl [0, 1, 2, 3, 4, 5] rfl) hP hD hS
    · intro S L M ls H locs h hl hP hD hS
      simp only [f_Mod_isAgain] at h
      refine lv_iconst (v := 0) hx hb d_Mod_isAgain_90 (by decide) ?_
      exact (ih.2.2.2.2.2.2.1) S (upd L 100 (0 : Int32)) M ls H locs h (lv_sub hl [0, 1, 2, 3, 4, 5] rfl) hP hD hS
    · intro S L M ls H locs h hl hP hD hS
      simp only [f_Mod_isAgain] at h
      refine lv_istore (lv' := [(6, .int (L 100)), (0, .ref (ad 0)), (1, .int (L 1)), (2, .int (L 2)), (3, .int (L 3)), (4, .int (L 4)), (5, .int (L 5))]) hx hb d_Mod_isAgain_91 hl (by decide) rfl (fun ls hl => ?_)
      refine lv_bipush (v := 31) hx hb d_Mod_isAgain_93 (by decide) ?_
      refine lv_iload_n hx hb d_Mod_isAgain_95 rfl (lv_at hl 2 rfl) ?_
      refine lv_imul hx hb d_Mod_isAgain_96 ?_
      refine lv_iload hx hb d_Mod_isAgain_97 (lv_at hl 6 rfl) ?_
      refine lv_iadd hx hb d_Mod_isAgain_99 ?_
      refine lv_istore (lv' := [(7, .int (((31 : Int32) * (L 1)) + (L 5))), (6, .int (L 100)), (0, .ref (ad 0)), (1, .int (L 1)), (2, .int (L 2)), (3, .int (L 3)), (4, .int (L 4)), (5, .int (L 5))]) hx hb d_Mod_isAgain_100 hl (by decide) rfl (fun ls hl => ?_)
      refine lv_iload hx hb d_Mod_isAgain_102 (lv_at hl 1 rfl) ?_
      refine lv_if_ne (tgt := 124) hx hb d_Mod_isAgain_104 (by decide) (fun hc1 => ?_) (fun hc1 => ?_)
      · rw [if_neg hc1] at h
        exact (ih.2.2.2.2.2.2.2.1) S (upd (upd L 6 (L 100)) 7 (((31 : Int32) * (L 1)) + (L 5))) M ls H locs h (lv_sub hl [2, 3, 4, 5, 6, 7, 1, 0] rfl) hP hD hS
      · rw [if_pos hc1] at h
        refine lv_aload_n hx hb d_Mod_isAgain_107 rfl (lv_at hl 2 rfl) ?_
        refine S_getR (h := shM) (C := "MacroMillModel") (T := F_Mod) hx hb htt in_Mod hown hK hP 0 82 rfl 41 rfl rfl (by decide) (htt _ k_2318) (fun _ h9 => h9) d_Mod_isAgain_108 ?_
        refine lv_iload hx hb d_Mod_isAgain_111 (lv_at hl 0 rfl) ?_
        obtain ⟨hv2, h⟩ := chk h
        show W _ _ _ _ _ _ _ _ _ _ _ _ _ _ _ (F0 _ 113 _ _)
        refine S_iald (h := shM) (i := ((31 : Int32) * (L 1)) + (L 5)) hx hb hK hP 40 rfl (okI_in hv2) d_Mod_isAgain_113 ?_
        refine lv_aload_n hx hb d_Mod_isAgain_114 rfl (lv_at hl 2 rfl) ?_
        refine S_getR (h := shM) (C := "MacroMillModel") (T := F_Mod) hx hb htt in_Mod hown hK hP 0 125 rfl 67 rfl rfl (by decide) (htt _ k_2361) (fun _ h9 => h9) d_Mod_isAgain_115 ?_
        refine lv_iload hx hb d_Mod_isAgain_118 (lv_at hl 7 rfl) ?_
        obtain ⟨hv3, h⟩ := chk h
        refine S_iald (h := shM) (i := L 5) hx hb hK hP 66 rfl (okI_in hv3) d_Mod_isAgain_120 ?_
        refine lv_icmp_ne (tgt := 128) hx hb d_Mod_isAgain_121 (by decide) (fun hc4 => ?_) (fun hc4 => ?_)
        · rw [if_neg hc4] at h
          refine lv_iconst (v := 0) hx hb d_Mod_isAgain_128 (by decide) ?_
          exact (ih.2.2.2.2.2.2.2.2.1) S (upd (upd (upd L 6 (L 100)) 7 (((31 : Int32) * (L 1)) + (L 5))) 100 (0 : Int32)) M ls H locs h (lv_sub hl [2, 3, 4, 5, 6, 7, 1, 0] rfl) hP hD hS
        · rw [if_pos hc4] at h
          exact (ih.2.2.2.2.2.2.2.1) S (upd (upd L 6 (L 100)) 7 (((31 : Int32) * (L 1)) + (L 5))) M ls H locs h (lv_sub hl [2, 3, 4, 5, 6, 7, 1, 0] rfl) hP hD hS
    · intro S L M ls H locs h hl hP hD hS
      simp only [f_Mod_isAgain] at h
      refine lv_iconst (v := 1) hx hb d_Mod_isAgain_124 (by decide) ?_
      refine lv_goto (tgt := 129) hx hb d_Mod_isAgain_125 (by decide) ?_
      exact (ih.2.2.2.2.2.2.2.2.1) S (upd L 100 (1 : Int32)) M ls H locs h (lv_sub hl [0, 1, 2, 3, 4, 5, 6, 7] rfl) hP hD hS
    · intro S L M ls H locs h hl hP hD hS
      simp only [f_Mod_isAgain] at h
      refine lv_istore (lv' := [(4, .int (L 100)), (0, .ref (ad 0)), (1, .int (L 1)), (2, .int (L 2)), (3, .int (L 3)), (5, .int (L 5)), (6, .int (L 6)), (7, .int (L 7))]) hx hb d_Mod_isAgain_129 hl (by decide) rfl (fun ls hl => ?_)
      refine lv_iconst (v := 0) hx hb d_Mod_isAgain_131 (by decide) ?_
      refine lv_istore (lv' := [(8, .int 0), (4, .int (L 100)), (0, .ref (ad 0)), (1, .int (L 1)), (2, .int (L 2)), (3, .int (L 3)), (5, .int (L 5)), (6, .int (L 6)), (7, .int (L 7))]) hx hb d_Mod_isAgain_132 hl (by decide) rfl (fun ls hl => ?_)
      exact (ih.2.2.2.2.2.2.2.2.2.1) S (upd (upd L 4 (L 100)) 8 (0 : Int32)) M ls H locs h (lv_sub hl [2, 3, 4, 5, 1, 6, 7, 8, 0] rfl) hP hD hS
    · intro S L M ls H locs h hl hP hD hS
      simp only [f_Mod_isAgain] at h
      refine lv_iload hx hb d_Mod_isAgain_134 (lv_at hl 8 rfl) ?_
      refine lv_aload_n hx hb d_Mod_isAgain_136 rfl (lv_at hl 0 rfl) ?_
      refine S_getR (h := shM) (C := "MacroMillModel") (T := F_Mod) hx hb htt in_Mod hown hK hP 0 125 rfl 67 rfl rfl (by decide) (htt _ k_2361) (fun _ h9 => h9) d_Mod_isAgain_137 ?_
      refine lv_iload hx hb d_Mod_isAgain_140 (lv_at hl 5 rfl) ?_
      obtain ⟨hv1, h⟩ := chk h
      refine S_iald (h := shM) (i := L 5) hx hb hK hP 66 rfl (okI_in hv1) d_Mod_isAgain_142 ?_
      refine lv_icmp_ge (tgt := 202) hx hb d_Mod_isAgain_143 (by decide) (fun hc2 => ?_) (fun hc2 => ?_)
      · rw [if_pos hc2] at h
        exact (ih.2.2.2.2.2.2.2.2.2.2.2.1) S L M ls H locs h (lv_sub hl [0, 1, 2, 3, 4, 5, 6, 7, 8] rfl) hP hD hS
      · rw [if_neg hc2] at h
        refine lv_iload hx hb d_Mod_isAgain_146 (lv_at hl 4 rfl) ?_
        refine lv_if_eq (tgt := 202) hx hb d_Mod_isAgain_148 (by decide) (fun hc3 => ?_) (fun hc3 => ?_)
        · rw [if_pos hc3] at h
          exact (ih.2.2.2.2.2.2.2.2.2.2.2.1) S L M ls H locs h (lv_sub hl [0, 1, 2, 3, 4, 5, 6, 7, 8] rfl) hP hD hS
        · rw [if_neg hc3] at h
          refine lv_iload hx hb d_Mod_isAgain_151 (lv_at hl 6 rfl) ?_
          refine lv_if_ne (tgt := 202) hx hb d_Mod_isAgain_153 (by decide) (fun hc4 => ?_) (fun hc4 => ?_)
          · rw [if_neg hc4] at h
            exact (ih.2.2.2.2.2.2.2.2.2.2.2.1) S L M ls H locs h (lv_sub hl [0, 1, 2, 3, 4, 5, 6, 7, 8] rfl) hP hD hS
          · rw [if_pos hc4] at h
            refine lv_aload_n hx hb d_Mod_isAgain_156 rfl (lv_at hl 0 rfl) ?_
            refine S_getR (h := shM) (C := "MacroMillModel") (T := F_Mod) hx hb htt in_Mod hown hK hP 0 60 rfl 24 rfl rfl (by decide) (htt _ k_2296) (fun _ h9 => h9) d_Mod_isAgain_157 ?_
            refine lv_aload_n hx hb d_Mod_isAgain_160 rfl (lv_at hl 0 rfl) ?_
            refine S_getR (h := shM) (C := "MacroMillModel") (T := F_Mod) hx hb htt in_Mod hown hK hP 0 81 rfl 40 rfl rfl (by decide) (htt _ k_2317) (fun _ h9 => h9) d_Mod_isAgain_161 ?_
            show W _ _ _ _ _ _ _ _ _ _ _ _ _ _ _ (F0 _ 164 _ _)
            refine lv_iload hx hb d_Mod_isAgain_164 (lv_at hl 7 rfl) ?_
            obtain ⟨hv5, h⟩ := chk h
            refine S_iald (h := shM) (i := L 7) hx hb hK hP 39 rfl (okI_in hv5) d_Mod_isAgain_166 ?_
            refine lv_iload hx hb d_Mod_isAgain_167 (lv_at hl 8 rfl) ?_
            refine lv_iadd hx hb d_Mod_isAgain_169 ?_
            obtain ⟨hv6, h⟩ := chk h
            refine S_bald (h := shM) (i := (S.2.1 39 (L 7 : Int32).toNatClampNeg) + (L 8)) hx hb hK hP 23 rfl (okI_in hv6) d_Mod_isAgain_170 ?_
            refine lv_aload_n hx hb d_Mod_isAgain_171 rfl (lv_at hl 0 rfl) ?_
            refine S_getR (h := shM) (C := "MacroMillModel") (T := F_Mod) hx hb htt in_Mod hown hK hP 0 60 rfl 24 rfl rfl (by decide) (htt _ k_2296) (fun _ h9 => h9) d_Mod_isAgain_172 ?_
            refine lv_aload_n hx hb d_Mod_isAgain_175 rfl (lv_at hl 0 rfl) ?_
            refine S_getR (h := shM) (C := "MacroMillModel") (T := F_Mod) hx hb htt in_Mod hown hK hP 0 124 rfl 66 rfl rfl (by decide) (htt _ k_2360) (fun _ h9 => h9) d_Mod_isAgain_176 ?_
            refine lv_iload hx hb d_Mod_isAgain_179 (lv_at hl 5 rfl) ?_
            obtain ⟨hv7, h⟩ := chk h
            refine S_iald (h := shM) (i := L 5) hx hb hK hP 65 rfl (okI_in hv7) d_Mod_isAgain_181 ?_
            refine lv_iload hx hb d_Mod_isAgain_182 (lv_at hl 8 rfl) ?_
            show W _ _ _ _ _ _ _ _ _ _ _ _ _ _ _ (F0 _ 184 _ _)
            refine lv_iadd hx hb d_Mod_isAgain_184 ?_
            obtain ⟨hv8, h⟩ := chk h
            refine S_bald (h := shM) (i := (S.2.1 65 (L 5 : Int32).toNatClampNeg) + (L 8)) hx hb hK hP 23 rfl (okI_in hv8) d_Mod_isAgain_185 ?_
            refine lv_icmp_ne (tgt := 193) hx hb d_Mod_isAgain_186 (by decide) (fun hc9 => ?_) (fun hc9 => ?_)
            · rw [if_neg hc9] at h
              refine lv_iconst (v := 0) hx hb d_Mod_isAgain_193 (by decide) ?_
              exact (ih.2.2.2.2.2.2.2.2.2.2.1) S (upd L 100 (0 : Int32)) M ls H locs h (lv_sub hl [0, 1, 2, 3, 4, 5, 6, 7, 8] rfl) hP hD hS
            · rw [if_pos hc9] at h
              refine lv_iconst (v := 1) hx hb d_Mod_isAgain_189 (by decide) ?_
              refine lv_goto (tgt := 194) hx hb d_Mod_isAgain_190 (by decide) ?_
              exact (ih.2.2.2.2.2.2.2.2.2.2.1) S (upd L 100 (1 : Int32)) M ls H locs h (lv_sub hl [0, 1, 2, 3, 4, 5, 6, 7, 8] rfl) hP hD hS
    · intro S L M ls H locs h hl hP hD hS
      simp only [f_Mod_isAgain] at h
      refine lv_istore (lv' := [(4, .int (L 100)), (0, .ref (ad 0)), (1, .int (L 1)), (2, .int (L 2)), (3, .int (L 3)), (5, .int (L 5)), (6, .int (L 6)), (7, .int (L 7)), (8, .int (L 8))]) hx hb d_Mod_isAgain_194 hl (by decide) rfl (fun ls hl => ?_)
      refine lv_iinc (k := 8) (v := (L 8) + 1) (lv' := [(8, .int ((L 8) + 1)), (4, .int (L 100)), (0, .ref (ad 0)), (1, .int (L 1)), (2, .int (L 2)), (3, .int (L 3)), (5, .int (L 5)), (6, .int (L 6)), (7, .int (L 7))]) hx hb d_Mod_isAgain_196 hl rfl rfl (by decide) rfl (fun ls hl => ?_)
      refine lv_goto (tgt := 134) hx hb d_Mod_isAgain_199 (by decide) ?_
      exact (ih.2.2.2.2.2.2.2.2.2.1) S (upd (upd L 4 (L 100)) 8 ((L 8) + 1)) M ls H locs h (lv_sub hl [2, 3, 4, 5, 1, 6, 7, 8, 0] rfl) hP hD hS
    · intro S L M ls H locs h hl hP hD hS
      simp only [f_Mod_isAgain] at h
      refine lv_iinc (k := 5) (v := (L 5) + 1) (lv' := [(5, .int ((L 5) + 1)), (0, .ref (ad 0)), (1, .int (L 1)), (2, .int (L 2)), (3, .int (L 3)), (4, .int (L 4)), (6, .int (L 6)), (7, .int (L 7)), (8, .int (L 8))]) hx hb d_Mod_isAgain_202 hl rfl rfl (by decide) rfl (fun ls hl => ?_)
      refine lv_goto (tgt := 54) hx hb d_Mod_isAgain_205 (by decide) ?_
      exact (ih.2.2.2.2.1) S (upd L 5 ((L 5) + 1)) M ls H locs h (lv_sub hl [1, 2, 3, 4, 5, 0] rfl) hP hD hS
    · intro S L M ls H locs h hl hP hD hS
      simp only [f_Mod_isAgain] at h
      refine lv_aload_n hx hb d_Mod_isAgain_208 rfl (lv_at hl 0 rfl) ?_
      refine S_getR (h := shM) (C := "MacroMillModel") (T := F_Mod) hx hb htt in_Mod hown hK hP 0 87 rfl 45 rfl rfl (by decide) (htt _ k_2323) (fun _ h9 => h9) d_Mod_isAgain_209 ?_
      refine lv_iload_n hx hb d_Mod_isAgain_212 rfl (lv_at hl 1 rfl) ?_
      obtain ⟨hv1, h⟩ := chk h
      refine S_iald (h := shM) (i := L 1) hx hb hK hP 44 rfl (okI_in hv1) d_Mod_isAgain_213 ?_
      refine lv_istore (lv' := [(5, .int (S.2.1 44 (L 1 : Int32).toNatClampNeg)), (0, .ref (ad 0)), (1, .int (L 1)), (2, .int (L 2)), (3, .int (L 3)), (4, .int (L 4))]) hx hb d_Mod_isAgain_214 hl (by decide) rfl (fun ls hl => ?_)
      refine lv_iload hx hb d_Mod_isAgain_216 (lv_at hl 5 rfl) ?_
      refine lv_if_eq (tgt := 228) hx hb d_Mod_isAgain_218 (by decide) (fun hc2 => ?_) (fun hc2 => ?_)
      · rw [if_pos hc2] at h
        refine lv_iconst (v := (-1)) hx hb d_Mod_isAgain_228 (by decide) ?_
        exact (ih.2.2.2.2.2.2.2.2.2.2.2.2.2.1) S (upd (upd L 5 (S.2.1 44 (L 1 : Int32).toNatClampNeg)) 100 ((-1) : Int32)) M ls H locs h (lv_sub hl [1, 2, 3, 4, 5, 0] rfl) hP hD hS
      · rw [if_neg hc2] at h
        refine lv_aload_n hx hb d_Mod_isAgain_221 rfl (lv_at hl 1 rfl) ?_
        refine S_getI (h := shM) (C := "MacroMillModel") (T := F_Mod) hx hb htt in_Mod hown hK hP 0 126 rfl rfl rfl (by decide) (htt _ k_2362) (fun _ h9 => h9) d_Mod_isAgain_222 ?_
        refine lv_goto (tgt := 229) hx hb d_Mod_isAgain_225 (by decide) ?_
        exact (ih.2.2.2.2.2.2.2.2.2.2.2.2.2.1) S (upd (upd L 5 (S.2.1 44 (L 1 : Int32).toNatClampNeg)) 100 (S.1 0 126)) M ls H locs h (lv_sub hl [1, 2, 3, 4, 5, 0] rfl) hP hD hS
    · intro S L M ls H locs h hl hP hD hS
      simp only [f_Mod_isAgain] at h
      refine lv_istore (lv' := [(6, .int (L 100)), (0, .ref (ad 0)), (1, .int (L 1)), (2, .int (L 2)), (3, .int (L 3)), (4, .int (L 4)), (5, .int (L 5))]) hx hb d_Mod_isAgain_229 hl (by decide) rfl (fun ls hl => ?_)
      exact (ih.2.2.2.2.2.2.2.2.2.2.2.2.2.2.1) S (upd L 6 (L 100)) M ls H locs h (lv_sub hl [1, 2, 3, 4, 5, 6, 0] rfl) hP hD hS
    · intro S L M ls H locs h hl hP hD hS
      simp only [f_Mod_isAgain] at h
      refine lv_iload hx hb d_Mod_isAgain_231 (lv_at hl 6 rfl) ?_
      refine lv_if_lt (tgt := 312) hx hb d_Mod_isAgain_233 (by decide) (fun hc1 => ?_) (fun hc1 => ?_)
      · rw [if_pos hc1] at h
        exact (ih.2.2.2.2.2.2.2.2.2.2.2.2.2.2.2.2.2.2) S L M ls H locs h (lv_sub hl [0, 1, 2, 3, 4, 5, 6] rfl) hP hD hS
      · rw [if_neg hc1] at h
        refine lv_iload hx hb d_Mod_isAgain_236 (lv_at hl 4 rfl) ?_
        refine lv_if_eq (tgt := 312) hx hb d_Mod_isAgain_238 (by decide) (fun hc2 => ?_) (fun hc2 => ?_)
        · rw [if_pos hc2] at h
          exact (ih.2.2.2.2.2.2.2.2.2.2.2.2.2.2.2.2.2.2) S L M ls H locs h (lv_sub hl [0, 1, 2, 3, 4, 5, 6] rfl) hP hD hS
        · rw [if_neg hc2] at h
          refine lv_aload_n hx hb d_Mod_isAgain_241 rfl (lv_at hl 0 rfl) ?_
          refine lv_iload hx hb d_Mod_isAgain_242 (lv_at hl 6 rfl) ?_
          refine lv_aload_n hx hb d_Mod_isAgain_244 rfl (lv_at hl 0 rfl) ?_
          refine S_getR (h := shM) (C := "MacroMillModel") (T := F_Mod) hx hb htt in_Mod hown hK hP 0 84 rfl 42 rfl rfl (by decide) (htt _ k_2320) (fun _ h9 => h9) d_Mod_isAgain_245 ?_
          refine lv_iload hx hb d_Mod_isAgain_248 (lv_at hl 5 rfl) ?_
          obtain ⟨hv3, h⟩ := chk h
          refine S_iald (h := shM) (i := L 5) hx hb hK hP 41 rfl (okI_in hv3) d_Mod_isAgain_250 ?_
          refine lv_aload_n hx hb d_Mod_isAgain_251 rfl (lv_at hl 0 rfl) ?_
          refine S_getR (h := shM) (C := "MacroMillModel") (T := F_Mod) hx hb htt in_Mod hown hK hP 0 85 rfl 43 rfl rfl (by decide) (htt _ k_2321) (fun _ h9 => h9) d_Mod_isAgain_252 ?_
          refine lv_iload hx hb d_Mod_isAgain_255 (lv_at hl 5 rfl) ?_
          obtain ⟨hv4, h⟩ := chk h
          show W _ _ _ _ _ _ _ _ _ _ _ _ _ _ _ (F0 _ 257 _ _)
          refine S_iald (h := shM) (i := L 5) hx hb hK hP 42 rfl (okI_in hv4) d_Mod_isAgain_257 ?_
          obtain ⟨⟨r5, T5⟩, hq5, h⟩ := Option.bind_eq_some_iff.mp h
          try dsimp only at h
          refine go_iS (As := [.ref (ad 0), .int (L 6), .int (S.2.1 41 (L 5 : Int32).toNatClampNeg), .int (S.2.1 42 (L 5 : Int32).toNatClampNeg)]) (g := g) (A := A) (h := shM) hP hK hD hS hA hN (fun hp => va_runV (As := [.int (L 6), .int (S.2.1 41 (L 5 : Int32).toNatClampNeg), .int (S.2.1 42 (L 5 : Int32).toNatClampNeg)]) (rest := []) ⟨hx, hb, hml, hown, htt⟩ (t_Mod_isSpelledAs l g _ ad S (L 6 : Int32) (S.2.1 41 (L 5 : Int32).toNatClampNeg : Int32) (S.2.1 42 (L 5 : Int32).toNatClampNeg : Int32) k9 r5 T5 hq5) ⟨(cb_L htt k_3044 k_276 k_3041 hd_Mod_isSpelledAs ⟨(Nat.le_trans (by decide +kernel) hRf), (Nat.le_trans (by decide +kernel) hRl)⟩), htt _ k_3043, htt _ k_200⟩ ⟨hp.1, S_recv hK hP 0 rfl rfl, hp.2⟩ rfl rfl hl.1 rfl (lv_room (Nat.le_of_ble_eq_true rfl)) d_Mod_isAgain_258 ⟨hRc, hRs⟩) (fun r0 Sn H locs hw9 hP hD hS => ?_)
          obtain ⟨e9, e8⟩ := hw9
          rw [e8] at hP hD
          refine W.widen (k := cells) (n := slots) (Nat.le_refl _) (Nat.le_refl _) ?_
          refine toI (y := r5) e9 ?_
          refine lv_if_eq (tgt := 294) hx hb d_Mod_isAgain_261 (by decide) (fun hc6 => ?_) (fun hc6 => ?_)
          · rw [if_pos hc6] at h
            exact (ih.2.2.2.2.2.2.2.2.2.2.2.2.2.2.2.2.1) T5 L M ls H locs h (lv_sub hl [0, 1, 2, 3, 4, 5, 6] rfl) hP hD hS
          · rw [if_neg hc6] at h
            refine lv_iload hx hb d_Mod_isAgain_264 (lv_at hl 6 rfl) ?_
            refine lv_aload_n hx hb d_Mod_isAgain_266 rfl (lv_at hl 0 rfl) ?_
            refine S_getI (h := shM) (C := "MacroMillModel") (T := F_Mod) hx hb htt in_Mod hown hK hP 0 126 rfl rfl rfl (by decide) (htt _ k_2362) (fun _ h9 => h9) d_Mod_isAgain_267 ?_
            refine lv_icmp_eq (tgt := 290) hx hb d_Mod_isAgain_270 (by decide) (fun hc7 => ?_) (fun hc7 => ?_)
            · rw [if_pos hc7] at h
              exact (ih.2.2.2.2.2.2.2.2.2.2.2.2.2.2.2.1) T5 L M ls H locs h (lv_sub hl [0, 1, 2, 3, 4, 5, 6] rfl) hP hD hS
            · rw [if_neg hc7] at h
              refine lv_aload_n hx hb d_Mod_isAgain_273 rfl (lv_at hl 0 rfl) ?_
              refine S_getR (h := shM) (C := "MacroMillModel") (T := F_Mod) hx hb htt in_Mod hown hK hP 0 86 rfl 44 rfl rfl (by decide) (htt _ k_2322) (fun _ h9 => h9) d_Mod_isAgain_274 ?_
              refine lv_iload hx hb d_Mod_isAgain_277 (lv_at hl 5 rfl) ?_
              obtain ⟨hv8, h⟩ := chk h
              refine S_zald (h := shM) (i := L 5) hx hb hK hP 43 rfl (okI_in hv8) d_Mod_isAgain_279 ?_
              refine lv_aload_n hx hb d_Mod_isAgain_280 rfl (lv_at hl 0 rfl) ?_
              refine S_getR (h := shM) (C := "MacroMillModel") (T := F_Mod) hx hb htt in_Mod hown hK hP 0 73 rfl 33 rfl rfl (by decide) (htt _ k_2309) (fun _ h9 => h9) d_Mod_isAgain_281 ?_
              refine lv_iload hx hb d_Mod_isAgain_284 (lv_at hl 6 rfl) ?_
              obtain ⟨hv9, h⟩ := chk h
              refine S_zald (h := shM) (i := L 6) hx hb hK hP 32 rfl (okI_in hv9) d_Mod_isAgain_286 ?_
              refine lv_icmp_ne (tgt := 294) hx hb d_Mod_isAgain_287 (by decide) (fun hc10 => ?_) (fun hc10 => ?_)
              · rw [if_neg hc10] at h
                exact (ih.2.2.2.2.2.2.2.2.2.2.2.2.2.2.2.2.1) T5 L M ls H locs h (lv_sub hl [0, 1, 2, 3, 4, 5, 6] rfl) hP hD hS
              · rw [if_pos hc10] at h
                exact (ih.2.2.2.2.2.2.2.2.2.2.2.2.2.2.2.1) T5 L M ls H locs h (lv_sub hl [0, 1, 2, 3, 4, 5, 6] rfl) hP hD hS
    · intro S L M ls H locs h hl hP hD hS
      simp only [f_Mod_isAgain] at h
      refine lv_iconst (v := 1) hx hb d_Mod_isAgain_290 (by decide) ?_
      refine lv_goto (tgt := 295) hx hb d_Mod_isAgain_291 (by decide) ?_
      exact (ih.2.2.2.2.2.2.2.2.2.2.2.2.2.2.2.2.2.1) S (upd L 100 (1 : Int32)) M ls H locs h (lv_sub hl [0, 1, 2, 3, 4, 5, 6] rfl) hP hD hS
    · intro S L M ls H locs h hl hP hD hS
      simp only [f_Mod_isAgain] at h
      refine lv_iconst (v := 0) hx hb d_Mod_isAgain_294 (by decide) ?_
      exact (ih.2.2.2.2.2.2.2.2.2.2.2.2.2.2.2.2.2.1) S (upd L 100 (0 : Int32)) M ls H locs h (lv_sub hl [0, 1, 2, 3, 4, 5, 6] rfl) hP hD hS
    · intro S L M ls H locs h hl hP hD hS
      simp only [f_Mod_isAgain] at h
      refine lv_istore (lv' := [(4, .int (L 100)), (0, .ref (ad 0)), (1, .int (L 1)), (2, .int (L 2)), (3, .int (L 3)), (5, .int (L 5)), (6, .int (L 6))]) hx hb d_Mod_isAgain_295 hl (by decide) rfl (fun ls hl => ?_)
      refine lv_iinc (k := 5) (v := (L 5) + 1) (lv' := [(5, .int ((L 5) + 1)), (4, .int (L 100)), (0, .ref (ad 0)), (1, .int (L 1)), (2, .int (L 2)), (3, .int (L 3)), (6, .int (L 6))]) hx hb d_Mod_isAgain_297 hl rfl rfl (by decide) rfl (fun ls hl => ?_)
      refine lv_aload_n hx hb d_Mod_isAgain_300 rfl (lv_at hl 2 rfl) ?_
      refine S_getR (h := shM) (C := "MacroMillModel") (T := F_Mod) hx hb htt in_Mod hown hK hP 0 72 rfl 32 rfl rfl (by decide) (htt _ k_2308) (fun _ h9 => h9) d_Mod_isAgain_301 ?_
      refine lv_iload hx hb d_Mod_isAgain_304 (lv_at hl 6 rfl) ?_
      obtain ⟨hv1, h⟩ := chk h
      refine S_iald (h := shM) (i := L 6) hx hb hK hP 31 rfl (okI_in hv1) d_Mod_isAgain_306 ?_
      refine lv_istore (lv' := [(6, .int (S.2.1 31 (L 6 : Int32).toNatClampNeg)), (5, .int ((L 5) + 1)), (4, .int (L 100)), (0, .ref (ad 0)), (1, .int (L 1)), (2, .int (L 2)), (3, .int (L 3))]) hx hb d_Mod_isAgain_307 hl (by decide) rfl (fun ls hl => ?_)
      refine lv_goto (tgt := 231) hx hb d_Mod_isAgain_309 (by decide) ?_
      exact (ih.2.2.2.2.2.2.2.2.2.2.2.2.2.2.1) S (upd (upd (upd L 4 (L 100)) 5 ((L 5) + 1)) 6 (S.2.1 31 (L 6 : Int32).toNatClampNeg)) M ls H locs h (lv_sub hl [3, 4, 5, 6, 2, 1, 0] rfl) hP hD hS
    · intro S L M ls H locs h hl hP hD hS
      simp only [f_Mod_isAgain] at h
      refine lv_iload hx hb d_Mod_isAgain_312 (lv_at hl 4 rfl) ?_
      obtain ⟨hv1, h⟩ := chk h
      cases h
      exact kx_314 ls H locs (bz_n hv1) hP hD hS
abbrev rm_t_Mod_isAgain : Room := { frames := 1, cells := 0, slots := 0, locals := 25 }
theorem t_Mod_isAgain (l : Launch) (g : gG) (sz : Nat) (ad : Nat → Nat) (S : sS) (v1 : Int32) (v2 : Int32) (v3 : Int32) (k : Nat) (r : Int32) (S9 : sS) (h : f_Mod_isAgain k 0 S (upd (upd (upd (fun _ => 0) 1 v1) 2 v2) 3 v3) (fun _ => 0) = some (r, S9)) : Cz l y_Mod_isAgain b_Mod_isAgain 9 rm_t_Mod_isAgain g [.ref (ad 0), .int v1, .int v2, .int v3] (Sw shM g ad S) sz (fun r1 w => ∃ S1 : sS, w = Sw shM g ad S1 ∧ r1 = r ∧ S1 = S9) := by
  refine startZ (by decide) (Nat.le_of_ble_eq_true rfl) ?_
  intro p e s m below meth c A ls hx hb hr hml hlocks hmn hown htt hN hA hP hK hD hS hl
  exact (w_Mod_isAgain hx hb hml hown htt hK hN hA (by decide +kernel) (by decide +kernel) (by decide +kernel) (by decide +kernel) r S9 (fun ls H locs hz hP hD hS => fin_z (g := g) (ws := Sw shM g ad S9) hx hb hr hlocks hz (by decide +kernel) (by decide +kernel) hP hD hS ⟨_, rfl, rfl, rfl⟩ d_Mod_isAgain_314) k).1 S (upd (upd (upd (fun _ => 0) 1 v1) 2 v2) 3 v3) (fun _ => 0) ls _ _ h hl hP hD hS
def f_Mod_parametersNow : Nat → Nat → sS → (Nat → Int32) → (Nat → Int64) → Option (Int32 × sS)
  | 0, _, _, _, _ => none
  | k + 1, 0, S, L, M => f_Mod_parametersNow k 1 S (upd (upd L 1 (0 : Int32)) 2 (0 : Int32)) M
  | k + 1, 1, S, L, M => if (S.1 0 75) ≤ (L 2) then (some (L 1, S)) else (if okI (L 2) 400 = true then (if (S.2.1 36 (L 2 : Int32).toNatClampNeg) = (0 : Int32) then (f_Mod_parametersNow k 2 S L M) else (if okI (L 2) 400 = true then (if (S.2.1 37 (L 2 : Int32).toNatClampNeg) ≤ (0 : Int32) then (f_Mod_parametersNow k 2 S L M) else (if okI (L 2) 400 = true then (f_Mod_parametersNow k 3 S (upd L 100 ((L 1) + (S.2.1 37 (L 2 : Int32).toNatClampNeg))) M) else none)) else none)) else none)
  | k + 1, 2, S, L, M => f_Mod_parametersNow k 3 S (upd L 100 (L 1)) M
  | k + 1, 3, S, L, M => f_Mod_parametersNow k 1 S (upd (upd L 1 (L 100)) 2 ((L 2) + 1)) M
  | _ + 1, _ + 4, _, _, _ => none
set_option maxHeartbeats 8000000 in
set_option maxRecDepth 100000 in
theorem w_Mod_parametersNow {p : Program} {l : Launch} {e : Env} {R : Room} {s : State} {m : MethodId} {args : Array Value} {below : List Frame} {meth : Method} {c : Code} {cells slots : Nat} {Q : State → Prop} {g : gG} {A : Nat → Prop} {ad : Nat → Nat} (hx : p.tables.exec = Jvm.exec) (hb : c.code = b_Mod_parametersNow) (hml : c.maxLocals = 3) (hown : s.vm.findClass "MacroMillModel" = some m.cls) (htt : ∀ w ∈ gt, w.before args s = true) (hK : va_K g.1 classes (tysG g) s) (hN : nw s) (hA : ∀ q : Nat, s.heap.size ≤ q → A q) (r : Int32) (S9 : sS)
    (kx_50 : ∀ (ls : Array Slot) (H : Heap) (locs : List Loc), va_P g.1 classes (Sw shM g ad S9) H → va_D A (Sw shM g ad S9) → va_S A s.heap H locs → W p l e R s m args below meth c H locs cells slots Q (F0 m 50 ls [.int r])) :
    ∀ k9 : Nat, (∀ (S : sS) (L : Nat → Int32) (M : Nat → Int64) (ls : Array Slot) (H : Heap) (locs : List Loc), f_Mod_parametersNow k9 0 S L M = some (r, S9) → lv_has ls 3 [(0, .ref (ad 0))] → va_P g.1 classes (Sw shM g ad S) H → va_D A (Sw shM g ad S) → va_S A s.heap H locs → W p l e R s m args below meth c H locs cells slots Q (F0 m 0 ls [])) ∧ (∀ (S : sS) (L : Nat → Int32) (M : Nat → Int64) (ls : Array Slot) (H : Heap) (locs : List Loc), f_Mod_parametersNow k9 1 S L M = some (r, S9) → lv_has ls 3 [(0, .ref (ad 0)), (1, .int (L 1)), (2, .int (L 2))] → va_P g.1 classes (Sw shM g ad S) H → va_D A (Sw shM g ad S) → va_S A s.heap H locs → W p l e R s m args below meth c H locs cells slots Q (F0 m 4 ls [])) ∧ (∀ (S : sS) (L : Nat → Int32) (M : Nat → Int64) (ls : Array Slot) (H : Heap) (locs : List Loc), f_Mod_parametersNow k9 2 S L M = some (r, S9) → lv_has ls 3 [(0, .ref (ad 0)), (1, .int (L 1)), (2, .int (L 2))] → va_P g.1 classes (Sw shM g ad S) H → va_D A (Sw shM g ad S) → va_S A s.heap H locs → W p l e R s m args below meth c H locs cells slots Q (F0 m 41 ls [])) ∧ (∀ (S : sS) (L : Nat → Int32) (M : Nat → Int64) (ls : Array Slot) (H : Heap) (locs : List Loc), f_Mod_parametersNow k9 3 S L M = some (r, S9) → lv_has ls 3 [(0, .ref (ad 0)), (1, .int (L 1)), (2, .int (L 2))] → va_P g.1 classes (Sw shM g ad S) H → va_D A (Sw shM g ad S) → va_S A s.heap H locs → W p l e R s m args below meth c H locs cells slots Q (F0 m 42 ls [.int (L 100)])) := by
  intro k9
  induction k9 with
  | zero => exact ⟨(fun _ _ _ _ _ _ h => by simp [f_Mod_parametersNow] at h), (fun _ _ _ _ _ _ h => by simp [f_Mod_parametersNow] at h), (fun _ _ _ _ _ _ h => by simp [f_Mod_parametersNow] at h), (fun _ _ _ _ _ _ h => by simp [f_Mod_parametersNow] at h)⟩
  | succ k9 ih =>
    refine ⟨?_, ?_, ?_, ?_⟩
    · intro S L M ls H locs h hl hP hD hS
      simp only [f_Mod_parametersNow] at h
      refine lv_iconst (v := 0) hx hb d_Mod_parametersNow_0 (by decide) ?_
      refine lv_istore_n (lv' := [(1, .int 0), (0, .ref (ad 0))]) hx hb d_Mod_parametersNow_1 rfl hl (by decide) rfl (fun ls hl => ?_)
      refine lv_iconst (v := 0) hx hb d_Mod_parametersNow_2 (by decide) ?_
      refine lv_istore_n (lv' := [(2, .int 0), (1, .int 0), (0, .ref (ad 0))]) hx hb d_Mod_parametersNow_3 rfl hl (by decide) rfl (fun ls hl => ?_)
      exact (ih.2.1) S (upd (upd L 1 (0 : Int32)) 2 (0 : Int32)) M ls H locs h (lv_sub hl [2, 1, 0] rfl) hP hD hS
    · intro S L M ls H locs h hl hP hD hS
      simp only [f_Mod_parametersNow] at h
      refine lv_iload_n hx hb d_Mod_parametersNow_4 rfl (lv_at hl 2 rfl) ?_
      refine lv_aload_n hx hb d_Mod_parametersNow_5 rfl (lv_at hl 0 rfl) ?_
      refine S_getI (h := shM) (C := "MacroMillModel") (T := F_Mod) hx hb htt in_Mod hown hK hP 0 75 rfl rfl rfl (by decide) (htt _ k_2311) (fun _ h9 => h9) d_Mod_parametersNow_6 ?_
      refine lv_icmp_ge (tgt := 49) hx hb d_Mod_parametersNow_9 (by decide) (fun hc1 => ?_) (fun hc1 => ?_)
      · rw [if_pos hc1] at h
        refine lv_iload_n hx hb d_Mod_parametersNow_49 rfl (lv_at hl 1 rfl) ?_
        cases h
        exact kx_50 ls H locs hP hD hS
      · rw [if_neg hc1] at h
        refine lv_aload_n hx hb d_Mod_parametersNow_12 rfl (lv_at hl 0 rfl) ?_
        refine S_getR (h := shM) (C := "MacroMillModel") (T := F_Mod) hx hb htt in_Mod hown hK hP 0 78 rfl 37 rfl rfl (by decide) (htt _ k_2314) (fun _ h9 => h9) d_Mod_parametersNow_13 ?_
        refine lv_iload_n hx hb d_Mod_parametersNow_16 rfl (lv_at hl 2 rfl) ?_
        obtain ⟨hv2, h⟩ := chk h
        refine S_zald (h := shM) (i := L 2) hx hb hK hP 36 rfl (okI_in hv2) d_Mod_parametersNow_17 ?_
        refine lv_if_eq (tgt := 41) hx hb d_Mod_parametersNow_18 (by decide) (fun hc3 => ?_) (fun hc3 => ?_)
        · rw [if_pos hc3] at h
          exact (ih.2.2.1) S L M ls H locs h (lv_sub hl [0, 1, 2] rfl) hP hD hS
        · rw [if_neg hc3] at h
          refine lv_aload_n hx hb d_Mod_parametersNow_21 rfl (lv_at hl 0 rfl) ?_
          refine S_getR (h := shM) (C := "MacroMillModel") (T := F_Mod) hx hb htt in_Mod hown hK hP 0 79 rfl 38 rfl rfl (by decide) (htt _ k_2315) (fun _ h9 => h9) d_Mod_parametersNow_22 ?_
          refine lv_iload_n hx hb d_Mod_parametersNow_25 rfl (lv_at hl 2 rfl) ?_
          obtain ⟨hv4, h⟩ := chk h
          refine S_iald (h := shM) (i := L 2) hx hb hK hP 37 rfl (okI_in hv4) d_Mod_parametersNow_26 ?_
          refine lv_if_le (tgt := 41) hx hb d_Mod_parametersNow_27 (by decide) (fun hc5 => ?_) (fun hc5 => ?_)
          · rw [if_pos hc5] at h
            exact (ih.2.2.1) S L M ls H locs h (lv_sub hl [0, 1, 2] rfl) hP hD hS
          · rw [if_neg hc5] at h
            show W _ _ _ _ _ _ _ _ _ _ _ _ _ _ _ (F0 _ 30 _ _)
            refine lv_iload_n hx hb d_Mod_parametersNow_30 rfl (lv_at hl 1 rfl) ?_
            refine lv_aload_n hx hb d_Mod_parametersNow_31 rfl (lv_at hl 0 rfl) ?_
            refine S_getR (h := shM) (C := "MacroMillModel") (T := F_Mod) hx hb htt in_Mod hown hK hP 0 79 rfl 38 rfl rfl (by decide) (htt _ k_2315) (fun _ h9 => h9) d_Mod_parametersNow_32 ?_
            refine lv_iload_n hx hb d_Mod_parametersNow_35 rfl (lv_at hl 2 rfl) ?_
            obtain ⟨hv6, h⟩ := chk h
            refine S_iald (h := shM) (i := L 2) hx hb hK hP 37 rfl (okI_in hv6) d_Mod_parametersNow_36 ?_
            refine lv_iadd hx hb d_Mod_parametersNow_37 ?_
            refine lv_goto (tgt := 42) hx hb d_Mod_parametersNow_38 (by decide) ?_
            exact (ih.2.2.2) S (upd L 100 ((L 1) + (S.2.1 37 (L 2 : Int32).toNatClampNeg))) M ls H locs h (lv_sub hl [0, 1, 2] rfl) hP hD hS
    · intro S L M ls H locs h hl hP hD hS
      simp only [f_Mod_parametersNow] at h
      refine lv_iload_n hx hb d_Mod_parametersNow_41 rfl (lv_at hl 1 rfl) ?_
      exact (ih.2.2.2) S (upd L 100 (L 1)) M ls H locs h (lv_sub hl [0, 1, 2] rfl) hP hD hS
    · intro S L M ls H locs h hl hP hD hS
      simp only [f_Mod_parametersNow] at h
      refine lv_istore_n (lv' := [(1, .int (L 100)), (0, .ref (ad 0)), (2, .int (L 2))]) hx hb d_Mod_parametersNow_42 rfl hl (by decide) rfl (fun ls hl => ?_)
      refine lv_iinc (k := 2) (v := (L 2) + 1) (lv' := [(2, .int ((L 2) + 1)), (1, .int (L 100)), (0, .ref (ad 0))]) hx hb d_Mod_parametersNow_43 hl rfl rfl (by decide) rfl (fun ls hl => ?_)
      refine lv_goto (tgt := 4) hx hb d_Mod_parametersNow_46 (by decide) ?_
      exact (ih.2.1) S (upd (upd L 1 (L 100)) 2 ((L 2) + 1)) M ls H locs h (lv_sub hl [2, 1, 0] rfl) hP hD hS
abbrev rm_t_Mod_parametersNow : Room := { frames := 0, cells := 0, slots := 0, locals := 0 }
theorem t_Mod_parametersNow (l : Launch) (g : gG) (sz : Nat) (ad : Nat → Nat) (S : sS) (k : Nat) (r : Int32) (S9 : sS) (h : f_Mod_parametersNow k 0 S (fun _ => 0) (fun _ => 0) = some (r, S9)) : Ci l y_Mod_parametersNow b_Mod_parametersNow 3 rm_t_Mod_parametersNow g [.ref (ad 0)] (Sw shM g ad S) sz (fun r1 w => ∃ S1 : sS, w = Sw shM g ad S1 ∧ r1 = r ∧ S1 = S9) := by
  refine startI (by decide) (Nat.le_of_ble_eq_true rfl) ?_
  intro p e s m below meth c A ls hx hb hr hml hlocks hmn hown htt hN hA hP hK hD hS hl
  exact (w_Mod_parametersNow hx hb hml hown htt hK hN hA r S9 (fun ls H locs hP hD hS => fin_i (g := g) (ws := Sw shM g ad S9) hx hb hr hlocks (by decide +kernel) (by decide +kernel) hP hD hS ⟨_, rfl, rfl, rfl⟩ d_Mod_parametersNow_50) k).1 S (fun _ => 0) (fun _ => 0) ls _ _ h hl hP hD hS
def f_Mod_enter : Nat → Nat → sS → (Nat → Int32) → (Nat → Int64) → Option (Int32 × sS)
  | 0, _, _, _, _ => none
  | k + 1, 0, S, L, M => f_Mod_enter k 1 S (upd (upd L 4 (0 : Int32)) 5 (0 : Int32)) M
  | k + 1, 1, S, L, M => if (S.1 0 122) ≤ (L 5) then (f_Mod_enter k 2 S (upd L 5 (S.1 0 126)) M) else (if okI (L 5) 31 = true then (f_Mod_enter k 1 S (upd (upd L 4 ((L 4) + (S.2.1 66 (L 5 : Int32).toNatClampNeg))) 5 ((L 5) + 1)) M) else none)
  | k + 1, 2, S, L, M => if (L 5) < (0 : Int32) then ((f_Mod_nameOfCell k 0 S (upd (fun _ => 0) 1 (L 1 : Int32)) (fun _ => 0)).bind (fun (r2, T2) => if (0 : Int32) ≤ r2 then (f_Mod_enter k 3 T2 (upd (upd L 5 r2) 100 (L 4)) M) else (if okI (L 1) 260000 = true then (f_Mod_enter k 3 T2 (upd (upd L 5 r2) 100 ((L 4) + (T2.2.1 28 (L 1 : Int32).toNatClampNeg))) M) else none))) else (if okI (L 5) 260000 = true then (if okI (L 5) 260000 = true then (f_Mod_enter k 2 S (upd (upd L 4 ((L 4) + (S.2.1 28 (L 5 : Int32).toNatClampNeg))) 5 (S.2.1 31 (L 5 : Int32).toNatClampNeg)) M) else none) else none)
  | k + 1, 3, S, L, M => if (0 : Int32) ≤ (L 5) then (f_Mod_enter k 4 S (upd L 4 (L 100)) M) else (if (S.1 0 75) = (400 : Int32) then (f_Mod_enter k 5 S (upd L 4 (L 100)) M) else (f_Mod_enter k 4 S (upd L 4 (L 100)) M))
  | k + 1, 4, S, L, M => (f_Mod_parametersNow k 0 S (fun _ => 0) (fun _ => 0)).bind (fun (r1, T1) => if (8000 : Int32) < ((((S.1 0 83) + r1) + (L 3)) + (T1.1 0 122)) then (f_Mod_enter k 5 T1 L M) else ((f_Mod_spend k 0 T1 (upd (upd (fun _ => 0) 1 (L 4 : Int32)) 2 (T1.1 0 121 : Int32)) (fun _ => 0)).bind (fun (r3, T3) => if r3 = (0 : Int32) then (f_Mod_enter k 5 T3 L M) else (if (0 : Int32) ≤ (L 5) then (f_Mod_enter k 6 T3 L M) else (if okI (L 1) 260000 = true then (if okI (T3.1 0 75) 400 = true then (if okI (L 1) 260000 = true then (if okI (T3.1 0 75) 400 = true then (f_Mod_enter k 6 (putA (putA (putI T3 0 75 ((T3.1 0 75) + (1 : Int32))) 34 (T3.1 0 75 : Int32).toNatClampNeg ((putI T3 0 75 ((T3.1 0 75) + (1 : Int32))).2.1 27 (L 1 : Int32).toNatClampNeg)) 35 (T3.1 0 75 : Int32).toNatClampNeg ((putA (putI T3 0 75 ((T3.1 0 75) + (1 : Int32))) 34 (T3.1 0 75 : Int32).toNatClampNeg ((putI T3 0 75 ((T3.1 0 75) + (1 : Int32))).2.1 27 (L 1 : Int32).toNatClampNeg)).2.1 28 (L 1 : Int32).toNatClampNeg)) (upd L 5 (T3.1 0 75)) M) else none) else none) else none) else none)))))
  | k + 1, 5, S, L, M => (f_Mod_fault k 0 S (upd (fun _ => 0) 1 (21 : Int32)) (fun _ => 0)).bind (fun (r1, T1) => some ((0 : Int32), T1))
  | k + 1, 6, S, L, M => if okI (L 5) 400 = true then (if (L 2) = (0 : Int32) then (f_Mod_enter k 7 (putA S 36 (L 5 : Int32).toNatClampNeg (vp_nar .boolean 1)) (upd (upd L 102 ((-1) : Int32)) 101 (L 5)) M) else (f_Mod_enter k 7 (putA S 36 (L 5 : Int32).toNatClampNeg (vp_nar .boolean 1)) (upd (upd L 102 (S.1 0 122)) 101 (L 5)) M)) else none
  | k + 1, 7, S, L, M => if okI (L 101) 400 = true then (if okI (L 5) 400 = true then (f_Mod_enter k 8 (putA (putA S 37 (L 101 : Int32).toNatClampNeg (L 102)) 38 (L 5 : Int32).toNatClampNeg (vp_nar .boolean (S.1 0 123))) (upd L 6 (0 : Int32)) M) else none) else none
  | k + 1, 8, S, L, M => if (S.1 0 122) ≤ (L 6) then (if okI (L 5) 400 = true then (if okI (L 5) 400 = true then (f_Mod_enter k 13 (putA (putA S 44 (L 5 : Int32).toNatClampNeg (S.1 0 83)) 45 (L 5 : Int32).toNatClampNeg (L 3)) (upd L 6 (S.1 0 126)) M) else none) else none) else (if (S.1 0 123) = (0 : Int32) then (f_Mod_enter k 9 S L M) else (if (L 6) = ((S.1 0 122) - (1 : Int32)) then (f_Mod_enter k 10 S (upd L 100 (1 : Int32)) M) else (f_Mod_enter k 9 S L M)))
  | k + 1, 9, S, L, M => f_Mod_enter k 10 S (upd L 100 (0 : Int32)) M
  | k + 1, 10, S, L, M => if (L 100) = (0 : Int32) then (if okI (L 6) 31 = true then (f_Mod_enter k 11 S (upd (upd (upd L 7 (L 100)) 102 (S.2.1 65 (L 6 : Int32).toNatClampNeg)) 101 (((31 : Int32) * (L 5)) + (L 6))) M) else none) else (f_Mod_enter k 11 S (upd (upd (upd L 7 (L 100)) 102 (S.1 0 127)) 101 (((31 : Int32) * (L 5)) + (L 6))) M)
  | k + 1, 11, S, L, M => if okI (L 101) 12400 = true then (if (L 7) = (0 : Int32) then (if okI (L 6) 31 = true then (f_Mod_enter k 12 (putA S 39 (L 101 : Int32).toNatClampNeg (L 102)) (upd (upd L 102 ((putA S 39 (L 101 : Int32).toNatClampNeg (L 102)).2.1 66 (L 6 : Int32).toNatClampNeg)) 101 (((31 : Int32) * (L 5)) + (L 6))) M) else none) else (f_Mod_enter k 12 (putA S 39 (L 101 : Int32).toNatClampNeg (L 102)) (upd (upd L 102 (11 : Int32)) 101 (((31 : Int32) * (L 5)) + (L 6))) M)) else none
  | k + 1, 12, S, L, M => if okI (L 101) 12400 = true then (f_Mod_enter k 8 (putA S 40 (L 101 : Int32).toNatClampNeg (L 102)) (upd L 6 ((L 6) + 1)) M) else none
  | k + 1, 13, S, L, M => if (L 6) < (0 : Int32) then (some ((0 : Int32), S)) else (if okI (L 6) 260000 = true then (if okI (S.1 0 83) 8000 = true then (if okI (L 6) 260000 = true then (if okI (S.1 0 83) 8000 = true then (if okI (L 6) 260000 = true then (if okI (S.1 0 83) 8000 = true then (if okI (L 6) 260000 = true then (f_Mod_enter k 13 (putI (putA (putA (putA S 41 (S.1 0 83 : Int32).toNatClampNeg (S.2.1 27 (L 6 : Int32).toNatClampNeg)) 42 (S.1 0 83 : Int32).toNatClampNeg ((putA S 41 (S.1 0 83 : Int32).toNatClampNeg (S.2.1 27 (L 6 : Int32).toNatClampNeg)).2.1 28 (L 6 : Int32).toNatClampNeg)) 43 (S.1 0 83 : Int32).toNatClampNeg (vp_nar .boolean ((putA (putA S 41 (S.1 0 83 : Int32).toNatClampNeg (S.2.1 27 (L 6 : Int32).toNatClampNeg)) 42 (S.1 0 83 : Int32).toNatClampNeg ((putA S 41 (S.1 0 83 : Int32).toNatClampNeg (S.2.1 27 (L 6 : Int32).toNatClampNeg)).2.1 28 (L 6 : Int32).toNatClampNeg)).2.1 32 (L 6 : Int32).toNatClampNeg))) 0 83 ((S.1 0 83) + (1 : Int32))) (upd L 6 ((putI (putA (putA (putA S 41 (S.1 0 83 : Int32).toNatClampNeg (S.2.1 27 (L 6 : Int32).toNatClampNeg)) 42 (S.1 0 83 : Int32).toNatClampNeg ((putA S 41 (S.1 0 83 : Int32).toNatClampNeg (S.2.1 27 (L 6 : Int32).toNatClampNeg)).2.1 28 (L 6 : Int32).toNatClampNeg)) 43 (S.1 0 83 : Int32).toNatClampNeg (vp_nar .boolean ((putA (putA S 41 (S.1 0 83 : Int32).toNatClampNeg (S.2.1 27 (L 6 : Int32).toNatClampNeg)) 42 (S.1 0 83 : Int32).toNatClampNeg ((putA S 41 (S.1 0 83 : Int32).toNatClampNeg (S.2.1 27 (L 6 : Int32).toNatClampNeg)).2.1 28 (L 6 : Int32).toNatClampNeg)).2.1 32 (L 6 : Int32).toNatClampNeg))) 0 83 ((S.1 0 83) + (1 : Int32))).2.1 31 (L 6 : Int32).toNatClampNeg)) M) else none) else none) else none) else none) else none) else none) else none)
  | _ + 1, _ + 14, _, _, _ => none
set_option maxHeartbeats 8000000 in
set_option maxRecDepth 100000 in
theorem w_Mod_enter {p : Program} {l : Launch} {e : Env} {R : Room} {s : State} {m : MethodId} {args : Array Value} {below : List Frame} {meth : Method} {c : Code} {cells slots : Nat} {Q : State → Prop} {g : gG} {A : Nat → Prop} {ad : Nat → Nat} (hx : p.tables.exec = Jvm.exec) (hb : c.code = b_Mod_enter) (hml : c.maxLocals = 8) (hown : s.vm.findClass "MacroMillModel" = some m.cls) (htt : ∀ w ∈ gt, w.before args s = true) (hK : va_K g.1 classes (tysG g) s) (hN : nw s) (hA : ∀ q : Nat, s.heap.size ≤ q → A q) (hRf : 3 ≤ R.frames) (hRl : 67 ≤ R.locals) (hRc : cells ≤ R.cells) (hRs : slots ≤ R.slots) (r : Int32) (S9 : sS)
    (kx_152 : ∀ (ls : Array Slot) (H : Heap) (locs : List Loc), va_P g.1 classes (Sw shM g ad S9) H → va_D A (Sw shM g ad S9) → va_S A s.heap H locs → W p l e R s m args below meth c H locs cells slots Q (F0 m 152 ls []))
    (kx_443 : ∀ (ls : Array Slot) (H : Heap) (locs : List Loc), va_P g.1 classes (Sw shM g ad S9) H → va_D A (Sw shM g ad S9) → va_S A s.heap H locs → W p l e R s m args below meth c H locs cells slots Q (F0 m 443 ls [])) :
    ∀ k9 : Nat, (∀ (S : sS) (L : Nat → Int32) (M : Nat → Int64) (ls : Array Slot) (H : Heap) (locs : List Loc), f_Mod_enter k9 0 S L M = some (r, S9) → lv_has ls 8 [(0, .ref (ad 0)), (1, .int (L 1)), (2, .int (L 2)), (3, .int (L 3))] → va_P g.1 classes (Sw shM g ad S) H → va_D A (Sw shM g ad S) → va_S A s.heap H locs → W p l e R s m args below meth c H locs cells slots Q (F0 m 0 ls [])) ∧ (∀ (S : sS) (L : Nat → Int32) (M : Nat → Int64) (ls : Array Slot) (H : Heap) (locs : List Loc), f_Mod_enter k9 1 S L M = some (r, S9) → lv_has ls 8 [(0, .ref (ad 0)), (1, .int (L 1)), (2, .int (L 2)), (3, .int (L 3)), (4, .int (L 4)), (5, .int (L 5))] → va_P g.1 classes (Sw shM g ad S) H → va_D A (Sw shM g ad S) → va_S A s.heap H locs → W p l e R s m args below meth c H locs cells slots Q (F0 m 6 ls [])) ∧ (∀ (S : sS) (L : Nat → Int32) (M : Nat → Int64) (ls : Array Slot) (H : Heap) (locs : List Loc), f_Mod_enter k9 2 S L M = some (r, S9) → lv_has ls 8 [(0, .ref (ad 0)), (1, .int (L 1)), (2, .int (L 2)), (3, .int (L 3)), (4, .int (L 4)), (5, .int (L 5))] → va_P g.1 classes (Sw shM g ad S) H → va_D A (Sw shM g ad S) → va_S A s.heap H locs → W p l e R s m args below meth c H locs cells slots Q (F0 m 39 ls [])) ∧ (∀ (S : sS) (L : Nat → Int32) (M : Nat → Int64) (ls : Array Slot) (H : Heap) (locs : List Loc), f_Mod_enter k9 3 S L M = some (r, S9) → lv_has ls 8 [(0, .ref (ad 0)), (1, .int (L 1)), (2, .int (L 2)), (3, .int (L 3)), (4, .int (L 4)), (5, .int (L 5))] → va_P g.1 classes (Sw shM g ad S) H → va_D A (Sw shM g ad S) → va_S A s.heap H locs → W p l e R s m args below meth c H locs cells slots Q (F0 m 94 ls [.int (L 100)])) ∧ (∀ (S : sS) (L : Nat → Int32) (M : Nat → Int64) (ls : Array Slot) (H : Heap) (locs : List Loc), f_Mod_enter k9 4 S L M = some (r, S9) → lv_has ls 8 [(0, .ref (ad 0)), (1, .int (L 1)), (2, .int (L 2)), (3, .int (L 3)), (4, .int (L 4)), (5, .int (L 5))] → va_P g.1 classes (Sw shM g ad S) H → va_D A (Sw shM g ad S) → va_S A s.heap H locs → W p l e R s m args below meth c H locs cells slots Q (F0 m 111 ls [])) ∧ (∀ (S : sS) (L : Nat → Int32) (M : Nat → Int64) (ls : Array Slot) (H : Heap) (locs : List Loc), f_Mod_enter k9 5 S L M = some (r, S9) → lv_has ls 8 [(0, .ref (ad 0)), (1, .int (L 1)), (2, .int (L 2)), (3, .int (L 3)), (4, .int (L 4)), (5, .int (L 5))] → va_P g.1 classes (Sw shM g ad S) H → va_D A (Sw shM g ad S) → va_S A s.heap H locs → W p l e R s m args below meth c H locs cells slots Q (F0 m 146 ls [])) ∧ (∀ (S : sS) (L : Nat → Int32) (M : Nat → Int64) (ls : Array Slot) (H : Heap) (locs : List Loc), f_Mod_enter k9 6 S L M = some (r, S9) → lv_has ls 8 [(0, .ref (ad 0)), (1, .int (L 1)), (2, .int (L 2)), (3, .int (L 3)), (4, .int (L 4)), (5, .int (L 5))] → va_P g.1 classes (Sw shM g ad S) H → va_D A (Sw shM g ad S) → va_S A s.heap H locs → W p l e R s m args below meth c H locs cells slots Q (F0 m 200 ls [])) ∧ (∀ (S : sS) (L : Nat → Int32) (M : Nat → Int64) (ls : Array Slot) (H : Heap) (locs : List Loc), f_Mod_enter k9 7 S L M = some (r, S9) → lv_has ls 8 [(0, .ref (ad 0)), (1, .int (L 1)), (2, .int (L 2)), (3, .int (L 3)), (4, .int (L 4)), (5, .int (L 5))] → va_P g.1 classes (Sw shM g ad S) H → va_D A (Sw shM g ad S) → va_S A s.heap H locs → W p l e R s m args below meth c H locs cells slots Q (F0 m 226 ls [.int (L 102), .int (L 101), .ref (ad 38)])) ∧ (∀ (S : sS) (L : Nat → Int32) (M : Nat → Int64) (ls : Array Slot) (H : Heap) (locs : List Loc), f_Mod_enter k9 8 S L M = some (r, S9) → lv_has ls 8 [(0, .ref (ad 0)), (1, .int (L 1)), (2, .int (L 2)), (3, .int (L 3)), (4, .int (L 4)), (5, .int (L 5)), (6, .int (L 6))] → va_P g.1 classes (Sw shM g ad S) H → va_D A (Sw shM g ad S) → va_S A s.heap H locs → W p l e R s m args below meth c H locs cells slots Q (F0 m 241 ls [])) ∧ (∀ (S : sS) (L : Nat → Int32) (M : Nat → Int64) (ls : Array Slot) (H : Heap) (locs : List Loc), f_Mod_enter k9 9 S L M = some (r, S9) → lv_has ls 8 [(0, .ref (ad 0)), (1, .int (L 1)), (2, .int (L 2)), (3, .int (L 3)), (4, .int (L 4)), (5, .int (L 5)), (6, .int (L 6))] → va_P g.1 classes (Sw shM g ad S) H → va_D A (Sw shM g ad S) → va_S A s.heap H locs → W p l e R s m args below meth c H locs cells slots Q (F0 m 272 ls [])) ∧ (∀ (S : sS) (L : Nat → Int32) (M : Nat → Int64) (ls : Array Slot) (H : Heap) (locs : List Loc), f_Mod_enter k9 10 S L M = some (r, S9) → lv_has ls 8 [(0, .ref (ad 0)), (1, .int (L 1)), (2, .int (L 2)), (3, .int (L 3)), (4, .int (L 4)), (5, .int (L 5)), (6, .int (L 6))] → va_P g.1 classes (Sw shM g ad S) H → va_D A (Sw shM g ad S) → va_S A s.heap H locs → W p l e R s m args below meth c H locs cells slots Q (F0 m 273 ls [.int (L 100)])) ∧ (∀ (S : sS) (L : Nat → Int32) (M : Nat → Int64) (ls : Array Slot) (H : Heap) (locs : List Loc), f_Mod_enter k9 11 S L M = some (r, S9) → lv_has ls 8 [(0, .ref (ad 0)), (1, .int (L 1)), (2, .int (L 2)), (3, .int (L 3)), (4, .int (L 4)), (5, .int (L 5)), (6, .int (L 6)), (7, .int (L 7))] → va_P g.1 classes (Sw shM g ad S) H → va_D A (Sw shM g ad S) → va_S A s.heap H locs → W p l e R s m args below meth c H locs cells slots Q (F0 m 306 ls [.int (L 102), .int (L 101), .ref (ad 40)])) ∧ (∀ (S : sS) (L : Nat → Int32) (M : Nat → Int64) (ls : Array Slot) (H : Heap) (locs : List Loc), f_Mod_enter k9 12 S L M = some (r, S9) → lv_has ls 8 [(0, .ref (ad 0)), (1, .int (L 1)), (2, .int (L 2)), (3, .int (L 3)), (4, .int (L 4)), (5, .int (L 5)), (6, .int (L 6)), (7, .int (L 7))] → va_P g.1 classes (Sw shM g ad S) H → va_D A (Sw shM g ad S) → va_S A s.heap H locs → W p l e R s m args below meth c H locs cells slots Q (F0 m 336 ls [.int (L 102), .int (L 101), .ref (ad 41)])) ∧ (∀ (S : sS) (L : Nat → Int32) (M : Nat → Int64) (ls : Array Slot) (H : Heap) (locs : List Loc), f_Mod_enter k9 13 S L M = some (r, S9) → lv_has ls 8 [(0, .ref (ad 0)), (1, .int (L 1)), (2, .int (L 2)), (3, .int (L 3)), (4, .int (L 4)), (5, .int (L 5)), (6, .int (L 6))] → va_P g.1 classes (Sw shM g ad S) H → va_D A (Sw shM g ad S) → va_S A s.heap H locs → W p l e R s m args below meth c H locs cells slots Q (F0 m 368 ls [])) := by
  intro k9
  induction k9 with
  | zero => exact ⟨(fun _ _ _ _ _ _ h => by simp [f_Mod_enter] at h), (fun _ _ _ _ _ _ h => by simp [f_Mod_enter] at h), (fun _ _ _ _ _ _ h => by simp [f_Mod_enter] at h), (fun _ _ _ _ _ _ h => by simp [f_Mod_enter] at h), (fun _ _ _ _ _ _ h => by simp [f_Mod_enter] at h), (fun _ _ _ _ _ _ h => by simp [f_Mod_enter] at h), (fun _ _ _ _ _ _ h => by simp [f_Mod_enter] at h), (fun _ _ _ _ _ _ h => by simp [f_Mod_enter] at h), (fun _ _ _ _ _ _ h => by simp [f_Mod_enter] at h), (fun _ _ _ _ _ _ h => by simp [f_Mod_enter] at h), (fun _ _ _ _ _ _ h => by simp [f_Mod_enter] at h), (fun _ _ _ _ _ _ h => by simp [f_Mod_enter] at h), (fun _ _ _ _ _ _ h => by simp [f_Mod_enter] at h), (fun _ _ _ _ _ _ h => by simp [f_Mod_enter] at h)⟩
  | succ k9 ih =>
    refine ⟨?_, ?_, ?_, ?_, ?_, ?_, ?_, ?_, ?_, ?_, ?_, ?_, ?_, ?_⟩
    · intro S L M ls H locs h hl hP hD hS
      simp only [f_Mod_enter] at h
      refine lv_iconst (v := 0) hx hb d_Mod_enter_0 (by decide) ?_
      refine lv_istore (lv' := [(4, .int 0), (0, .ref (ad 0)), (1, .int (L 1)), (2, .int (L 2)), (3, .int (L 3))]) hx hb d_Mod_enter_1 hl (by decide) rfl (fun ls hl => ?_)
      refine lv_iconst (v := 0) hx hb d_Mod_enter_3 (by decide) ?_
      refine lv_istore (lv' := [(5, .int 0), (4, .int 0), (0, .ref (ad 0)), (1, .int (L 1)), (2, .int (L 2)), (3, .int (L 3))]) hx hb d_Mod_enter_4 hl (by decide) rfl (fun ls hl => ?_)
      exact (ih.2.1) S (upd (upd L 4 (0 : Int32)) 5 (0 : Int32)) M ls H locs h (lv_sub hl [2, 3, 4, 5, 1, 0] rfl) hP hD hS
    · intro S L M ls H locs h hl hP hD hS
      simp only [f_Mod_enter] at h
      refine lv_iload hx hb d_Mod_enter_6 (lv_at hl 5 rfl) ?_
      refine lv_aload_n hx hb d_Mod_enter_8 rfl (lv_at hl 0 rfl) ?_
      refine S_getI (h := shM) (C := "MacroMillModel") (T := F_Mod) hx hb htt in_Mod hown hK hP 0 122 rfl rfl rfl (by decide) (htt _ k_2358) (fun _ h9 => h9) d_Mod_enter_9 ?_
      refine lv_icmp_ge (tgt := 33) hx hb d_Mod_enter_12 (by decide) (fun hc1 => ?_) (fun hc1 => ?_)
      · rw [if_pos hc1] at h
        refine lv_aload_n hx hb d_Mod_enter_33 rfl (lv_at hl 0 rfl) ?_
        refine S_getI (h := shM) (C := "MacroMillModel") (T := F_Mod) hx hb htt in_Mod hown hK hP 0 126 rfl rfl rfl (by decide) (htt _ k_2362) (fun _ h9 => h9) d_Mod_enter_34 ?_
        refine lv_istore (lv' := [(5, .int (S.1 0 126)), (0, .ref (ad 0)), (1, .int (L 1)), (2, .int (L 2)), (3, .int (L 3)), (4, .int (L 4))]) hx hb d_Mod_enter_37 hl (by decide) rfl (fun ls hl => ?_)
        exact (ih.2.2.1) S (upd L 5 (S.1 0 126)) M ls H locs h (lv_sub hl [1, 2, 3, 4, 5, 0] rfl) hP hD hS
      · rw [if_neg hc1] at h
        refine lv_iload hx hb d_Mod_enter_15 (lv_at hl 4 rfl) ?_
        refine lv_aload_n hx hb d_Mod_enter_17 rfl (lv_at hl 0 rfl) ?_
        refine S_getR (h := shM) (C := "MacroMillModel") (T := F_Mod) hx hb htt in_Mod hown hK hP 0 125 rfl 67 rfl rfl (by decide) (htt _ k_2361) (fun _ h9 => h9) d_Mod_enter_18 ?_
        refine lv_iload hx hb d_Mod_enter_21 (lv_at hl 5 rfl) ?_
        obtain ⟨hv2, h⟩ := chk h
        refine S_iald (h := shM) (i := L 5) hx hb hK hP 66 rfl (okI_in hv2) d_Mod_enter_23 ?_
        refine lv_iadd hx hb d_Mod_enter_24 ?_
        refine lv_istore (lv' := [(4, .int ((L 4) + (S.2.1 66 (L 5 : Int32).toNatClampNeg))), (0, .ref (ad 0)), (1, .int (L 1)), (2, .int (L 2)), (3, .int (L 3)), (5, .int (L 5))]) hx hb d_Mod_enter_25 hl (by decide) rfl (fun ls hl => ?_)
        refine lv_iinc (k := 5) (v := (L 5) + 1) (lv' := [(5, .int ((L 5) + 1)), (4, .int ((L 4) + (S.2.1 66 (L 5 : Int32).toNatClampNeg))), (0, .ref (ad 0)), (1, .int (L 1)), (2, .int (L 2)), (3, .int (L 3))]) hx hb d_Mod_enter_27 hl rfl rfl (by decide) rfl (fun ls hl => ?_)
        show W _ _ _ _ _ _ _ _ _ _ _ _ _ _ _ (F0 _ 30 _ _)
        refine lv_goto (tgt := 6) hx hb d_Mod_enter_30 (by decide) ?_
        exact (ih.2.1) S (upd (upd L 4 ((L 4) + (S.2.1 66 (L 5 : Int32).toNatClampNeg))) 5 ((L 5) + 1)) M ls H locs h (lv_sub hl [2, 3, 4, 5, 1, 0] rfl) hP hD hS
    · intro S L M ls H locs h hl hP hD hS
      simp only [f_Mod_enter] at h
      refine lv_iload hx hb d_Mod_enter_39 (lv_at hl 5 rfl) ?_
      refine lv_if_lt (tgt := 68) hx hb d_Mod_enter_41 (by decide) (fun hc1 => ?_) (fun hc1 => ?_)
      · rw [if_pos hc1] at h
        refine lv_aload_n hx hb d_Mod_enter_68 rfl (lv_at hl 0 rfl) ?_
        refine lv_iload_n hx hb d_Mod_enter_69 rfl (lv_at hl 1 rfl) ?_
        obtain ⟨⟨r2, T2⟩, hq2, h⟩ := Option.bind_eq_some_iff.mp h
        try dsimp only at h
        refine go_iS (As := [.ref (ad 0), .int (L 1)]) (g := g) (A := A) (h := shM) hP hK hD hS hA hN (fun hp => va_runV (As := [.int (L 1)]) (rest := []) ⟨hx, hb, hml, hown, htt⟩ (t_Mod_nameOfCell l g _ ad S (L 1 : Int32) k9 r2 T2 hq2) ⟨(cb_L htt k_3040 k_276 k_3037 hd_Mod_nameOfCell ⟨(Nat.le_trans (by decide +kernel) hRf), (Nat.le_trans (by decide +kernel) hRl)⟩), htt _ k_3039, htt _ k_199⟩ ⟨hp.1, S_recv hK hP 0 rfl rfl, hp.2⟩ rfl rfl hl.1 rfl (lv_room (Nat.le_of_ble_eq_true rfl)) d_Mod_enter_70 ⟨hRc, hRs⟩) (fun r0 Sn H locs hw9 hP hD hS => ?_)
        obtain ⟨e9, e8⟩ := hw9
        rw [e8] at hP hD
        refine W.widen (k := cells) (n := slots) (Nat.le_refl _) (Nat.le_refl _) ?_
        refine toI (y := r2) e9 ?_
        refine lv_istore (lv' := [(5, .int r2), (0, .ref (ad 0)), (1, .int (L 1)), (2, .int (L 2)), (3, .int (L 3)), (4, .int (L 4))]) hx hb d_Mod_enter_73 hl (by decide) rfl (fun ls hl => ?_)
        refine lv_iload hx hb d_Mod_enter_75 (lv_at hl 0 rfl) ?_
        refine lv_if_ge (tgt := 92) hx hb d_Mod_enter_77 (by decide) (fun hc3 => ?_) (fun hc3 => ?_)
        · rw [if_pos hc3] at h
          refine lv_iload hx hb d_Mod_enter_92 (lv_at hl 5 rfl) ?_
          exact (ih.2.2.2.1) T2 (upd (upd L 5 r2) 100 (L 4)) M ls H locs h (lv_sub hl [1, 2, 3, 4, 5, 0] rfl) hP hD hS
        · rw [if_neg hc3] at h
          refine lv_iload hx hb d_Mod_enter_80 (lv_at hl 5 rfl) ?_
          refine lv_aload_n hx hb d_Mod_enter_82 rfl (lv_at hl 1 rfl) ?_
          refine S_getR (h := shM) (C := "MacroMillModel") (T := F_Mod) hx hb htt in_Mod hown hK hP 0 69 rfl 29 rfl rfl (by decide) (htt _ k_2305) (fun _ h9 => h9) d_Mod_enter_83 ?_
          refine lv_iload_n hx hb d_Mod_enter_86 rfl (lv_at hl 2 rfl) ?_
          obtain ⟨hv4, h⟩ := chk h
          refine S_iald (h := shM) (i := L 1) hx hb hK hP 28 rfl (okI_in hv4) d_Mod_enter_87 ?_
          refine lv_iadd hx hb d_Mod_enter_88 ?_
          show W _ _ _ _ _ _ _ _ _ _ _ _ _ _ _ (F0 _ 89 _ _)
          refine lv_goto (tgt := 94) hx hb d_Mod_enter_89 (by decide) ?_
          exact (ih.2.2.2.1) T2 (upd (upd L 5 r2) 100 ((L 4) + (T2.2.1 28 (L 1 : Int32).toNatClampNeg))) M ls H locs h (lv_sub hl [1, 2, 3, 4, 5, 0] rfl) hP hD hS
      · rw [if_neg hc1] at h
        refine lv_iload hx hb d_Mod_enter_44 (lv_at hl 4 rfl) ?_
        refine lv_aload_n hx hb d_Mod_enter_46 rfl (lv_at hl 0 rfl) ?_
        refine S_getR (h := shM) (C := "MacroMillModel") (T := F_Mod) hx hb htt in_Mod hown hK hP 0 69 rfl 29 rfl rfl (by decide) (htt _ k_2305) (fun _ h9 => h9) d_Mod_enter_47 ?_
        refine lv_iload hx hb d_Mod_enter_50 (lv_at hl 5 rfl) ?_
        obtain ⟨hv5, h⟩ := chk h
        refine S_iald (h := shM) (i := L 5) hx hb hK hP 28 rfl (okI_in hv5) d_Mod_enter_52 ?_
        refine lv_iadd hx hb d_Mod_enter_53 ?_
        refine lv_istore (lv' := [(4, .int ((L 4) + (S.2.1 28 (L 5 : Int32).toNatClampNeg))), (0, .ref (ad 0)), (1, .int (L 1)), (2, .int (L 2)), (3, .int (L 3)), (5, .int (L 5))]) hx hb d_Mod_enter_54 hl (by decide) rfl (fun ls hl => ?_)
        refine lv_aload_n hx hb d_Mod_enter_56 rfl (lv_at hl 1 rfl) ?_
        refine S_getR (h := shM) (C := "MacroMillModel") (T := F_Mod) hx hb htt in_Mod hown hK hP 0 72 rfl 32 rfl rfl (by decide) (htt _ k_2308) (fun _ h9 => h9) d_Mod_enter_57 ?_
        refine lv_iload hx hb d_Mod_enter_60 (lv_at hl 5 rfl) ?_
        obtain ⟨hv6, h⟩ := chk h
        show W _ _ _ _ _ _ _ _ _ _ _ _ _ _ _ (F0 _ 62 _ _)
        refine S_iald (h := shM) (i := L 5) hx hb hK hP 31 rfl (okI_in hv6) d_Mod_enter_62 ?_
        refine lv_istore (lv' := [(5, .int (S.2.1 31 (L 5 : Int32).toNatClampNeg)), (4, .int ((L 4) + (S.2.1 28 (L 5 : Int32).toNatClampNeg))), (0, .ref (ad 0)), (1, .int (L 1)), (2, .int (L 2)), (3, .int (L 3))]) hx hb d_Mod_enter_63 hl (by decide) rfl (fun ls hl => ?_)
        refine lv_goto (tgt := 39) hx hb d_Mod_enter_65 (by decide) ?_
        exact (ih.2.2.1) S (upd (upd L 4 ((L 4) + (S.2.1 28 (L 5 : Int32).toNatClampNeg))) 5 (S.2.1 31 (L 5 : Int32).toNatClampNeg)) M ls H locs h (lv_sub hl [2, 3, 4, 5, 1, 0] rfl) hP hD hS
    · intro S L M ls H locs h hl hP hD hS
      simp only [f_Mod_enter] at h
      refine lv_istore (lv' := [(4, .int (L 100)), (0, .ref (ad 0)), (1, .int (L 1)), (2, .int (L 2)), (3, .int (L 3)), (5, .int (L 5))]) hx hb d_Mod_enter_94 hl (by decide) rfl (fun ls hl => ?_)
      refine lv_iload hx hb d_Mod_enter_96 (lv_at hl 5 rfl) ?_
      refine lv_if_ge (tgt := 111) hx hb d_Mod_enter_98 (by decide) (fun hc1 => ?_) (fun hc1 => ?_)
      · rw [if_pos hc1] at h
        exact (ih.2.2.2.2.1) S (upd L 4 (L 100)) M ls H locs h (lv_sub hl [1, 2, 3, 4, 0, 5] rfl) hP hD hS
      · rw [if_neg hc1] at h
        refine lv_aload_n hx hb d_Mod_enter_101 rfl (lv_at hl 1 rfl) ?_
        refine S_getI (h := shM) (C := "MacroMillModel") (T := F_Mod) hx hb htt in_Mod hown hK hP 0 75 rfl rfl rfl (by decide) (htt _ k_2311) (fun _ h9 => h9) d_Mod_enter_102 ?_
        refine lv_sipush (v := 400) hx hb d_Mod_enter_105 (by decide) ?_
        refine lv_icmp_eq (tgt := 146) hx hb d_Mod_enter_108 (by decide) (fun hc2 => ?_) (fun hc2 => ?_)
        · rw [if_pos hc2] at h
          exact (ih.2.2.2.2.2.1) S (upd L 4 (L 100)) M ls H locs h (lv_sub hl [1, 2, 3, 4, 0, 5] rfl) hP hD hS
        · rw [if_neg hc2] at h
          exact (ih.2.2.2.2.1) S (upd L 4 (L 100)) M ls H locs h (lv_sub hl [1, 2, 3, 4, 0, 5] rfl) hP hD hS
    · intro S L M ls H locs h hl hP hD hS
      simp only [f_Mod_enter] at h
      refine lv_aload_n hx hb d_Mod_enter_111 rfl (lv_at hl 0 rfl) ?_
      refine S_getI (h := shM) (C := "MacroMillModel") (T := F_Mod) hx hb htt in_Mod hown hK hP 0 83 rfl rfl rfl (by decide) (htt _ k_2319) (fun _ h9 => h9) d_Mod_enter_112 ?_
      refine lv_aload_n hx hb d_Mod_enter_115 rfl (lv_at hl 0 rfl) ?_
      obtain ⟨⟨r1, T1⟩, hq1, h⟩ := Option.bind_eq_some_iff.mp h
      try dsimp only at h
      refine go_iS (As := [.ref (ad 0)]) (g := g) (A := A) (h := shM) hP hK hD hS hA hN (fun hp => va_runV (As := []) (rest := [.int (S.1 0 83)]) ⟨hx, hb, hml, hown, htt⟩ (t_Mod_parametersNow l g _ ad S k9 r1 T1 hq1) ⟨(cb_L htt k_3357 k_276 k_3354 hd_Mod_parametersNow ⟨(Nat.le_trans (by decide +kernel) hRf), (Nat.le_trans (by decide +kernel) hRl)⟩), htt _ k_3356, htt _ k_252⟩ ⟨hp.1, S_recv hK hP 0 rfl rfl, hp.2⟩ rfl rfl hl.1 rfl (lv_room (Nat.le_of_ble_eq_true rfl)) d_Mod_enter_116 ⟨hRc, hRs⟩) (fun r0 Sn H locs hw9 hP hD hS => ?_)
      obtain ⟨e9, e8⟩ := hw9
      rw [e8] at hP hD
      refine W.widen (k := cells) (n := slots) (Nat.le_refl _) (Nat.le_refl _) ?_
      refine toI (y := r1) e9 ?_
      refine lv_iadd hx hb d_Mod_enter_119 ?_
      refine lv_iload_n hx hb d_Mod_enter_120 rfl (lv_at hl 3 rfl) ?_
      refine lv_iadd hx hb d_Mod_enter_121 ?_
      refine lv_aload_n hx hb d_Mod_enter_122 rfl (lv_at hl 0 rfl) ?_
      refine S_getI (h := shM) (C := "MacroMillModel") (T := F_Mod) hx hb htt in_Mod hown hK hP 0 122 rfl rfl rfl (by decide) (htt _ k_2358) (fun _ h9 => h9) d_Mod_enter_123 ?_
      refine lv_iadd hx hb d_Mod_enter_126 ?_
      refine lv_sipush (v := 8000) hx hb d_Mod_enter_127 (by decide) ?_
      refine lv_icmp_gt (tgt := 146) hx hb d_Mod_enter_130 (by decide) (fun hc2 => ?_) (fun hc2 => ?_)
      · rw [if_pos hc2] at h
        exact (ih.2.2.2.2.2.1) T1 L M ls H locs h (lv_sub hl [0, 1, 2, 3, 4, 5] rfl) hP hD hS
      · rw [if_neg hc2] at h
        refine lv_aload_n hx hb d_Mod_enter_133 rfl (lv_at hl 0 rfl) ?_
        show W _ _ _ _ _ _ _ _ _ _ _ _ _ _ _ (F0 _ 134 _ _)
        refine lv_iload hx hb d_Mod_enter_134 (lv_at hl 4 rfl) ?_
        refine lv_aload_n hx hb d_Mod_enter_136 rfl (lv_at hl 0 rfl) ?_
        refine S_getI (h := shM) (C := "MacroMillModel") (T := F_Mod) hx hb htt in_Mod hown hK hP 0 121 rfl rfl rfl (by decide) (htt _ k_2357) (fun _ h9 => h9) d_Mod_enter_137 ?_
        obtain ⟨⟨r3, T3⟩, hq3, h⟩ := Option.bind_eq_some_iff.mp h
        try dsimp only at h
        refine go_iS (As := [.ref (ad 0), .int (L 4), .int (T1.1 0 121)]) (g := g) (A := A) (h := shM) hP hK hD hS hA hN (fun hp => va_runV (As := [.int (L 4), .int (T1.1 0 121)]) (rest := []) ⟨hx, hb, hml, hown, htt⟩ (t_Mod_spend l g _ ad T1 (L 4 : Int32) (T1.1 0 121 : Int32) k9 r3 T3 hq3) ⟨(cb_L htt k_3063 k_276 k_3060 hd_Mod_spend ⟨(Nat.le_trans (by decide +kernel) hRf), (Nat.le_trans (by decide +kernel) hRl)⟩), htt _ k_3062, htt _ k_204⟩ ⟨hp.1, S_recv hK hP 0 rfl rfl, hp.2⟩ rfl rfl hl.1 rfl (lv_room (Nat.le_of_ble_eq_true rfl)) d_Mod_enter_140 ⟨hRc, hRs⟩) (fun r0 Sn H locs hw9 hP hD hS => ?_)
        obtain ⟨e9, e8⟩ := hw9
        rw [e8] at hP hD
        refine W.widen (k := cells) (n := slots) (Nat.le_refl _) (Nat.le_refl _) ?_
        refine toI (y := r3) e9 ?_
        refine lv_if_ne (tgt := 153) hx hb d_Mod_enter_143 (by decide) (fun hc4 => ?_) (fun hc4 => ?_)
        · rw [if_neg hc4] at h
          refine lv_iload hx hb d_Mod_enter_153 (lv_at hl 5 rfl) ?_
          refine lv_if_ge (tgt := 200) hx hb d_Mod_enter_155 (by decide) (fun hc5 => ?_) (fun hc5 => ?_)
          · rw [if_pos hc5] at h
            exact (ih.2.2.2.2.2.2.1) T3 L M ls H locs h (lv_sub hl [0, 1, 2, 3, 4, 5] rfl) hP hD hS
          · rw [if_neg hc5] at h
            refine lv_aload_n hx hb d_Mod_enter_158 rfl (lv_at hl 0 rfl) ?_
            refine S_getI (h := shM) (C := "MacroMillModel") (T := F_Mod) hx hb htt in_Mod hown hK hP 0 75 rfl rfl rfl (by decide) (htt _ k_2311) (fun _ h9 => h9) d_Mod_enter_159 ?_
            refine lv_istore (lv' := [(5, .int (T3.1 0 75)), (0, .ref (ad 0)), (1, .int (L 1)), (2, .int (L 2)), (3, .int (L 3)), (4, .int (L 4))]) hx hb d_Mod_enter_162 hl (by decide) rfl (fun ls hl => ?_)
            refine lv_aload_n hx hb d_Mod_enter_164 rfl (lv_at hl 1 rfl) ?_
            refine lv_dup hx hb d_Mod_enter_165 rfl ?_
            refine S_getI (h := shM) (C := "MacroMillModel") (T := F_Mod) hx hb htt in_Mod hown hK hP 0 75 rfl rfl rfl (by decide) (htt _ k_2311) (fun _ h9 => h9) d_Mod_enter_166 ?_
            refine lv_iconst (v := 1) hx hb d_Mod_enter_169 (by decide) ?_
            refine lv_iadd hx hb d_Mod_enter_170 ?_
            show W _ _ _ _ _ _ _ _ _ _ _ _ _ _ _ (F0 _ 171 _ _)
            refine S_put (h := shM) (C := "MacroMillModel") (T := F_Mod) (v := (T3.1 0 75) + (1 : Int32)) hx hb htt in_Mod t_Mod t_Mod_ok n_Mod hown hK hP hD hS 0 75 rfl rfl rfl (by decide) (htt _ k_2311) (fun _ h9 => h9) rfl rfl rfl d_Mod_enter_171 (fun H locs hP hD hS => ?_)
            refine lv_aload_n hx hb d_Mod_enter_174 rfl (lv_at hl 1 rfl) ?_
            refine S_getR (h := shM) (C := "MacroMillModel") (T := F_Mod) hx hb htt in_Mod hown hK hP 0 76 rfl 35 rfl rfl (by decide) (htt _ k_2312) (fun _ h9 => h9) d_Mod_enter_175 ?_
            refine lv_iload hx hb d_Mod_enter_178 (lv_at hl 0 rfl) ?_
            refine lv_aload_n hx hb d_Mod_enter_180 rfl (lv_at hl 1 rfl) ?_
            refine S_getR (h := shM) (C := "MacroMillModel") (T := F_Mod) hx hb htt in_Mod hown hK hP 0 68 rfl 28 rfl rfl (by decide) (htt _ k_2304) (fun _ h9 => h9) d_Mod_enter_181 ?_
            refine lv_iload_n hx hb d_Mod_enter_184 rfl (lv_at hl 2 rfl) ?_
            obtain ⟨hv6, h⟩ := chk h
            refine S_iald (h := shM) (i := L 1) hx hb hK hP 27 rfl (okI_in hv6) d_Mod_enter_185 ?_
            obtain ⟨hv7, h⟩ := chk h
            refine S_iast (h := shM) (i := T3.1 0 75) (v := (putI T3 0 75 ((T3.1 0 75) + (1 : Int32))).2.1 27 (L 1 : Int32).toNatClampNeg) hx hb hK hP hD hS 34 rfl (okI_in hv7) d_Mod_enter_186 (fun H locs hP hD hS => ?_)
            refine lv_aload_n hx hb d_Mod_enter_187 rfl (lv_at hl 1 rfl) ?_
            refine S_getR (h := shM) (C := "MacroMillModel") (T := F_Mod) hx hb htt in_Mod hown hK hP 0 77 rfl 36 rfl rfl (by decide) (htt _ k_2313) (fun _ h9 => h9) d_Mod_enter_188 ?_
            refine lv_iload hx hb d_Mod_enter_191 (lv_at hl 0 rfl) ?_
            show W _ _ _ _ _ _ _ _ _ _ _ _ _ _ _ (F0 _ 193 _ _)
            refine lv_aload_n hx hb d_Mod_enter_193 rfl (lv_at hl 1 rfl) ?_
            refine S_getR (h := shM) (C := "MacroMillModel") (T := F_Mod) hx hb htt in_Mod hown hK hP 0 69 rfl 29 rfl rfl (by decide) (htt _ k_2305) (fun _ h9 => h9) d_Mod_enter_194 ?_
            refine lv_iload_n hx hb d_Mod_enter_197 rfl (lv_at hl 2 rfl) ?_
            obtain ⟨hv8, h⟩ := chk h
            refine S_iald (h := shM) (i := L 1) hx hb hK hP 28 rfl (okI_in hv8) d_Mod_enter_198 ?_
            obtain ⟨hv9, h⟩ := chk h
            refine S_iast (h := shM) (i := T3.1 0 75) (v := (putA (putI T3 0 75 ((T3.1 0 75) + (1 : Int32))) 34 (T3.1 0 75 : Int32).toNatClampNeg ((putI T3 0 75 ((T3.1 0 75) + (1 : Int32))).2.1 27 (L 1 : Int32).toNatClampNeg)).2.1 28 (L 1 : Int32).toNatClampNeg) hx hb hK hP hD hS 35 rfl (okI_in hv9) d_Mod_enter_199 (fun H locs hP hD hS => ?_)
            exact (ih.2.2.2.2.2.2.1) (putA (putA (putI T3 0 75 ((T3.1 0 75) + (1 : Int32))) 34 (T3.1 0 75 : Int32).toNatClampNeg ((putI T3 0 75 ((T3.1 0 75) + (1 : Int32))).2.1 27 (L 1 : Int32).toNatClampNeg)) 35 (T3.1 0 75 : Int32).toNatClampNeg ((putA (putI T3 0 75 ((T3.1 0 75) + (1 : Int32))) 34 (T3.1 0 75 : Int32).toNatClampNeg ((putI T3 0 75 ((T3.1 0 75) + (1 : Int32))).2.1 27 (L 1 : Int32).toNatClampNeg)).2.1 28 (L 1 : Int32).toNatClampNeg)) (upd L 5 (T3.1 0 75)) M ls H locs h (lv_sub hl [1, 2, 3, 4, 5, 0] rfl) hP hD hS
        · rw [if_pos hc4] at h
          exact (ih.2.2.2.2.2.1) T3 L M ls H locs h (lv_sub hl [0, 1, 2, 3, 4, 5] rfl) hP hD hS
    · intro S L M ls H locs h hl hP hD hS
      simp only [f_Mod_enter] at h
      refine lv_aload_n hx hb d_Mod_enter_146 rfl (lv_at hl 0 rfl) ?_
      refine lv_bipush (v := 21) hx hb d_Mod_enter_147 (by decide) ?_
      obtain ⟨⟨r1, T1⟩, hq1, h⟩ := Option.bind_eq_some_iff.mp h
      try dsimp only at h
      refine go_vS (As := [.ref (ad 0), .int 21]) (g := g) (A := A) (h := shM) hP hK hD hS hA hN (fun hp => va_runV (As := [.int 21]) (rest := []) ⟨hx, hb, hml, hown, htt⟩ (t_Mod_fault l g _ ad S (21 : Int32) k9 r1 T1 hq1) ⟨(cb_L htt k_3175 k_276 k_3172 hd_Mod_fault ⟨(Nat.le_trans (by decide +kernel) hRf), (Nat.le_trans (by decide +kernel) hRl)⟩), htt _ k_3174, htt _ k_229⟩ ⟨hp.1, S_recv hK hP 0 rfl rfl, hp.2⟩ rfl rfl hl.1 rfl (lv_room (Nat.le_of_ble_eq_true rfl)) d_Mod_enter_149 ⟨hRc, hRs⟩) (fun Sn H locs hw9 hP hD hS => ?_)
      have e8 := hw9
      rw [e8] at hP hD
      refine W.widen (k := cells) (n := slots) (Nat.le_refl _) (Nat.le_refl _) ?_
      cases h
      exact kx_152 ls H locs hP hD hS
    · intro S L M ls H locs h hl hP hD hS
      simp only [f_Mod_enter] at h
      refine lv_aload_n hx hb d_Mod_enter_200 rfl (lv_at hl 0 rfl) ?_
      refine S_getR (h := shM) (C := "MacroMillModel") (T := F_Mod) hx hb htt in_Mod hown hK hP 0 78 rfl 37 rfl rfl (by decide) (htt _ k_2314) (fun _ h9 => h9) d_Mod_enter_201 ?_
      refine lv_iload hx hb d_Mod_enter_204 (lv_at hl 5 rfl) ?_
      refine lv_iconst (v := 1) hx hb d_Mod_enter_206 (by decide) ?_
      obtain ⟨hv1, h⟩ := chk h
      refine S_zast (h := shM) (i := L 5) (v := 1) hx hb hK hP hD hS 36 rfl (okI_in hv1) d_Mod_enter_207 (fun H locs hP hD hS => ?_)
      refine lv_aload_n hx hb d_Mod_enter_208 rfl (lv_at hl 0 rfl) ?_
      refine S_getR (h := shM) (C := "MacroMillModel") (T := F_Mod) hx hb htt in_Mod hown hK hP 0 79 rfl 38 rfl rfl (by decide) (htt _ k_2315) (fun _ h9 => h9) d_Mod_enter_209 ?_
      refine lv_iload hx hb d_Mod_enter_212 (lv_at hl 5 rfl) ?_
      refine lv_iload_n hx hb d_Mod_enter_214 rfl (lv_at hl 2 rfl) ?_
      refine lv_if_eq (tgt := 225) hx hb d_Mod_enter_215 (by decide) (fun hc2 => ?_) (fun hc2 => ?_)
      · rw [if_pos hc2] at h
        refine lv_iconst (v := (-1)) hx hb d_Mod_enter_225 (by decide) ?_
        exact (ih.2.2.2.2.2.2.2.1) (putA S 36 (L 5 : Int32).toNatClampNeg (vp_nar .boolean 1)) (upd (upd L 102 ((-1) : Int32)) 101 (L 5)) M ls H locs h (lv_sub hl [0, 1, 2, 3, 4, 5] rfl) hP hD hS
      · rw [if_neg hc2] at h
        refine lv_aload_n hx hb d_Mod_enter_218 rfl (lv_at hl 0 rfl) ?_
        refine S_getI (h := shM) (C := "MacroMillModel") (T := F_Mod) hx hb htt in_Mod hown hK hP 0 122 rfl rfl rfl (by decide) (htt _ k_2358) (fun _ h9 => h9) d_Mod_enter_219 ?_
        refine toI (y := S.1 0 122) rfl ?_
        show W _ _ _ _ _ _ _ _ _ _ _ _ _ _ _ (F0 _ 222 _ _)
        refine lv_goto (tgt := 226) hx hb d_Mod_enter_222 (by decide) ?_
        exact (ih.2.2.2.2.2.2.2.1) (putA S 36 (L 5 : Int32).toNatClampNeg (vp_nar .boolean 1)) (upd (upd L 102 (S.1 0 122)) 101 (L 5)) M ls H locs h (lv_sub hl [0, 1, 2, 3, 4, 5] rfl) hP hD hS
    · intro S L M ls H locs h hl hP hD hS
      simp only [f_Mod_enter] at h
      obtain ⟨hv1, h⟩ := chk h
      refine S_iast (h := shM) (i := L 101) (v := L 102) hx hb hK hP hD hS 37 rfl (okI_in hv1) d_Mod_enter_226 (fun H locs hP hD hS => ?_)
      refine lv_aload_n hx hb d_Mod_enter_227 rfl (lv_at hl 0 rfl) ?_
      refine S_getR (h := shM) (C := "MacroMillModel") (T := F_Mod) hx hb htt in_Mod hown hK hP 0 80 rfl 39 rfl rfl (by decide) (htt _ k_2316) (fun _ h9 => h9) d_Mod_enter_228 ?_
      refine lv_iload hx hb d_Mod_enter_231 (lv_at hl 5 rfl) ?_
      refine lv_aload_n hx hb d_Mod_enter_233 rfl (lv_at hl 0 rfl) ?_
      refine S_getI (h := shM) (C := "MacroMillModel") (T := F_Mod) hx hb htt in_Mod hown hK hP 0 123 rfl rfl rfl (by decide) (htt _ k_2359) (fun _ h9 => h9) d_Mod_enter_234 ?_
      refine toI (y := S.1 0 123) rfl ?_
      obtain ⟨hv2, h⟩ := chk h
      refine S_zast (h := shM) (i := L 5) (v := S.1 0 123) hx hb hK hP hD hS 38 rfl (okI_in hv2) d_Mod_enter_237 (fun H locs hP hD hS => ?_)
      refine lv_iconst (v := 0) hx hb d_Mod_enter_238 (by decide) ?_
      refine lv_istore (lv' := [(6, .int 0), (0, .ref (ad 0)), (1, .int (L 1)), (2, .int (L 2)), (3, .int (L 3)), (4, .int (L 4)), (5, .int (L 5))]) hx hb d_Mod_enter_239 hl (by decide) rfl (fun ls hl => ?_)
      exact (ih.2.2.2.2.2.2.2.2.1) (putA (putA S 37 (L 101 : Int32).toNatClampNeg (L 102)) 38 (L 5 : Int32).toNatClampNeg (vp_nar .boolean (S.1 0 123))) (upd L 6 (0 : Int32)) M ls H locs h (lv_sub hl [1, 2, 3, 4, 5, 6, 0] rfl) hP hD hS
    · intro S L M ls H locs h hl hP hD hS
      simp only [f_Mod_enter] at h
      refine lv_iload hx hb d_Mod_enter_241 (lv_at hl 6 rfl) ?_
      refine lv_aload_n hx hb d_Mod_enter_243 rfl (lv_at hl 0 rfl) ?_
      refine S_getI (h := shM) (C := "MacroMillModel") (T := F_Mod) hx hb htt in_Mod hown hK hP 0 122 rfl rfl rfl (by decide) (htt _ k_2358) (fun _ h9 => h9) d_Mod_enter_244 ?_
      refine lv_icmp_ge (tgt := 343) hx hb d_Mod_enter_247 (by decide) (fun hc1 => ?_) (fun hc1 => ?_)
      · rw [if_pos hc1] at h
        refine lv_aload_n hx hb d_Mod_enter_343 rfl (lv_at hl 0 rfl) ?_
        refine S_getR (h := shM) (C := "MacroMillModel") (T := F_Mod) hx hb htt in_Mod hown hK hP 0 87 rfl 45 rfl rfl (by decide) (htt _ k_2323) (fun _ h9 => h9) d_Mod_enter_344 ?_
        refine lv_iload hx hb d_Mod_enter_347 (lv_at hl 5 rfl) ?_
        refine lv_aload_n hx hb d_Mod_enter_349 rfl (lv_at hl 0 rfl) ?_
        refine S_getI (h := shM) (C := "MacroMillModel") (T := F_Mod) hx hb htt in_Mod hown hK hP 0 83 rfl rfl rfl (by decide) (htt _ k_2319) (fun _ h9 => h9) d_Mod_enter_350 ?_
        obtain ⟨hv2, h⟩ := chk h
        refine S_iast (h := shM) (i := L 5) (v := S.1 0 83) hx hb hK hP hD hS 44 rfl (okI_in hv2) d_Mod_enter_353 (fun H locs hP hD hS => ?_)
        refine lv_aload_n hx hb d_Mod_enter_354 rfl (lv_at hl 0 rfl) ?_
        refine S_getR (h := shM) (C := "MacroMillModel") (T := F_Mod) hx hb htt in_Mod hown hK hP 0 88 rfl 46 rfl rfl (by decide) (htt _ k_2324) (fun _ h9 => h9) d_Mod_enter_355 ?_
        show W _ _ _ _ _ _ _ _ _ _ _ _ _ _ _ (F0 _ 358 _ _)
        refine lv_iload hx hb d_Mod_enter_358 (lv_at hl 5 rfl) ?_
        refine lv_iload_n hx hb d_Mod_enter_360 rfl (lv_at hl 3 rfl) ?_
        obtain ⟨hv3, h⟩ := chk h
        refine S_iast (h := shM) (i := L 5) (v := L 3) hx hb hK hP hD hS 45 rfl (okI_in hv3) d_Mod_enter_361 (fun H locs hP hD hS => ?_)
        refine lv_aload_n hx hb d_Mod_enter_362 rfl (lv_at hl 0 rfl) ?_
        refine S_getI (h := shM) (C := "MacroMillModel") (T := F_Mod) hx hb htt in_Mod hown hK hP 0 126 rfl rfl rfl (by decide) (htt _ k_2362) (fun _ h9 => h9) d_Mod_enter_363 ?_
        refine toI (y := S.1 0 126) rfl ?_
        refine lv_istore (lv' := [(6, .int (S.1 0 126)), (0, .ref (ad 0)), (1, .int (L 1)), (2, .int (L 2)), (3, .int (L 3)), (4, .int (L 4)), (5, .int (L 5))]) hx hb d_Mod_enter_366 hl (by decide) rfl (fun ls hl => ?_)
        exact (ih.2.2.2.2.2.2.2.2.2.2.2.2.2) (putA (putA S 44 (L 5 : Int32).toNatClampNeg (S.1 0 83)) 45 (L 5 : Int32).toNatClampNeg (L 3)) (upd L 6 (S.1 0 126)) M ls H locs h (lv_sub hl [1, 2, 3, 4, 5, 6, 0] rfl) hP hD hS
      · rw [if_neg hc1] at h
        refine lv_aload_n hx hb d_Mod_enter_250 rfl (lv_at hl 0 rfl) ?_
        refine S_getI (h := shM) (C := "MacroMillModel") (T := F_Mod) hx hb htt in_Mod hown hK hP 0 123 rfl rfl rfl (by decide) (htt _ k_2359) (fun _ h9 => h9) d_Mod_enter_251 ?_
        refine lv_if_eq (tgt := 272) hx hb d_Mod_enter_254 (by decide) (fun hc4 => ?_) (fun hc4 => ?_)
        · rw [if_pos hc4] at h
          exact (ih.2.2.2.2.2.2.2.2.2.1) S L M ls H locs h (lv_sub hl [0, 1, 2, 3, 4, 5, 6] rfl) hP hD hS
        · rw [if_neg hc4] at h
          refine lv_iload hx hb d_Mod_enter_257 (lv_at hl 6 rfl) ?_
          refine lv_aload_n hx hb d_Mod_enter_259 rfl (lv_at hl 0 rfl) ?_
          refine S_getI (h := shM) (C := "MacroMillModel") (T := F_Mod) hx hb htt in_Mod hown hK hP 0 122 rfl rfl rfl (by decide) (htt _ k_2358) (fun _ h9 => h9) d_Mod_enter_260 ?_
          refine lv_iconst (v := 1) hx hb d_Mod_enter_263 (by decide) ?_
          refine lv_isub hx hb d_Mod_enter_264 ?_
          refine lv_icmp_ne (tgt := 272) hx hb d_Mod_enter_265 (by decide) (fun hc5 => ?_) (fun hc5 => ?_)
          · rw [if_neg hc5] at h
            exact (ih.2.2.2.2.2.2.2.2.2.1) S L M ls H locs h (lv_sub hl [0, 1, 2, 3, 4, 5, 6] rfl) hP hD hS
          · rw [if_pos hc5] at h
            refine lv_iconst (v := 1) hx hb d_Mod_enter_268 (by decide) ?_
            show W _ _ _ _ _ _ _ _ _ _ _ _ _ _ _ (F0 _ 269 _ _)
            refine lv_goto (tgt := 273) hx hb d_Mod_enter_269 (by decide) ?_
            exact (ih.2.2.2.2.2.2.2.2.2.2.1) S (upd L 100 (1 : Int32)) M ls H locs h (lv_sub hl [0, 1, 2, 3, 4, 5, 6] rfl) hP hD hS
    · intro S L M ls H locs h hl hP hD hS
      simp only [f_Mod_enter] at h
      refine lv_iconst (v := 0) hx hb d_Mod_enter_272 (by decide) ?_
      exact (ih.2.2.2.2.2.2.2.2.2.2.1) S (upd L 100 (0 : Int32)) M ls H locs h (lv_sub hl [0, 1, 2, 3, 4, 5, 6] rfl) hP hD hS
    · intro S L M ls H locs h hl hP hD hS
      simp only [f_Mod_enter] at h
      refine lv_istore (lv' := [(7, .int (L 100)), (0, .ref (ad 0)), (1, .int (L 1)), (2, .int (L 2)), (3, .int (L 3)), (4, .int (L 4)), (5, .int (L 5)), (6, .int (L 6))]) hx hb d_Mod_enter_273 hl (by decide) rfl (fun ls hl => ?_)
      refine lv_aload_n hx hb d_Mod_enter_275 rfl (lv_at hl 1 rfl) ?_
      refine S_getR (h := shM) (C := "MacroMillModel") (T := F_Mod) hx hb htt in_Mod hown hK hP 0 81 rfl 40 rfl rfl (by decide) (htt _ k_2317) (fun _ h9 => h9) d_Mod_enter_276 ?_
      refine lv_bipush (v := 31) hx hb d_Mod_enter_279 (by decide) ?_
      refine lv_iload hx hb d_Mod_enter_281 (lv_at hl 6 rfl) ?_
      refine lv_imul hx hb d_Mod_enter_283 ?_
      refine lv_iload hx hb d_Mod_enter_284 (lv_at hl 7 rfl) ?_
      refine lv_iadd hx hb d_Mod_enter_286 ?_
      refine lv_iload hx hb d_Mod_enter_287 (lv_at hl 0 rfl) ?_
      refine lv_if_eq (tgt := 299) hx hb d_Mod_enter_289 (by decide) (fun hc1 => ?_) (fun hc1 => ?_)
      · rw [if_pos hc1] at h
        refine lv_aload_n hx hb d_Mod_enter_299 rfl (lv_at hl 1 rfl) ?_
        refine S_getR (h := shM) (C := "MacroMillModel") (T := F_Mod) hx hb htt in_Mod hown hK hP 0 124 rfl 66 rfl rfl (by decide) (htt _ k_2360) (fun _ h9 => h9) d_Mod_enter_300 ?_
        show W _ _ _ _ _ _ _ _ _ _ _ _ _ _ _ (F0 _ 303 _ _)
        refine lv_iload hx hb d_Mod_enter_303 (lv_at hl 7 rfl) ?_
        obtain ⟨hv2, h⟩ := chk h
        refine S_iald (h := shM) (i := L 6) hx hb hK hP 65 rfl (okI_in hv2) d_Mod_enter_305 ?_
        exact (ih.2.2.2.2.2.2.2.2.2.2.2.1) S (upd (upd (upd L 7 (L 100)) 102 (S.2.1 65 (L 6 : Int32).toNatClampNeg)) 101 (((31 : Int32) * (L 5)) + (L 6))) M ls H locs h (lv_sub hl [1, 2, 3, 4, 5, 6, 7, 0] rfl) hP hD hS
      · rw [if_neg hc1] at h
        refine lv_aload_n hx hb d_Mod_enter_292 rfl (lv_at hl 1 rfl) ?_
        refine S_getI (h := shM) (C := "MacroMillModel") (T := F_Mod) hx hb htt in_Mod hown hK hP 0 127 rfl rfl rfl (by decide) (htt _ k_2363) (fun _ h9 => h9) d_Mod_enter_293 ?_
        show W _ _ _ _ _ _ _ _ _ _ _ _ _ _ _ (F0 _ 296 _ _)
        refine lv_goto (tgt := 306) hx hb d_Mod_enter_296 (by decide) ?_
        exact (ih.2.2.2.2.2.2.2.2.2.2.2.1) S (upd (upd (upd L 7 (L 100)) 102 (S.1 0 127)) 101 (((31 : Int32) * (L 5)) + (L 6))) M ls H locs h (lv_sub hl [1, 2, 3, 4, 5, 6, 7, 0] rfl) hP hD hS
    · intro S L M ls H locs h hl hP hD hS
      simp only [f_Mod_enter] at h
      obtain ⟨hv1, h⟩ := chk h
      refine S_iast (h := shM) (i := L 101) (v := L 102) hx hb hK hP hD hS 39 rfl (okI_in hv1) d_Mod_enter_306 (fun H locs hP hD hS => ?_)
      refine lv_aload_n hx hb d_Mod_enter_307 rfl (lv_at hl 0 rfl) ?_
      refine S_getR (h := shM) (C := "MacroMillModel") (T := F_Mod) hx hb htt in_Mod hown hK hP 0 82 rfl 41 rfl rfl (by decide) (htt _ k_2318) (fun _ h9 => h9) d_Mod_enter_308 ?_
      refine lv_bipush (v := 31) hx hb d_Mod_enter_311 (by decide) ?_
      refine lv_iload hx hb d_Mod_enter_313 (lv_at hl 5 rfl) ?_
      refine lv_imul hx hb d_Mod_enter_315 ?_
      refine lv_iload hx hb d_Mod_enter_316 (lv_at hl 6 rfl) ?_
      refine lv_iadd hx hb d_Mod_enter_318 ?_
      refine lv_iload hx hb d_Mod_enter_319 (lv_at hl 7 rfl) ?_
      refine lv_if_eq (tgt := 329) hx hb d_Mod_enter_321 (by decide) (fun hc2 => ?_) (fun hc2 => ?_)
      · rw [if_pos hc2] at h
        refine lv_aload_n hx hb d_Mod_enter_329 rfl (lv_at hl 0 rfl) ?_
        refine S_getR (h := shM) (C := "MacroMillModel") (T := F_Mod) hx hb htt in_Mod hown hK hP 0 125 rfl 67 rfl rfl (by decide) (htt _ k_2361) (fun _ h9 => h9) d_Mod_enter_330 ?_
        show W _ _ _ _ _ _ _ _ _ _ _ _ _ _ _ (F0 _ 333 _ _)
        refine lv_iload hx hb d_Mod_enter_333 (lv_at hl 6 rfl) ?_
        obtain ⟨hv3, h⟩ := chk h
        refine S_iald (h := shM) (i := L 6) hx hb hK hP 66 rfl (okI_in hv3) d_Mod_enter_335 ?_
        exact (ih.2.2.2.2.2.2.2.2.2.2.2.2.1) (putA S 39 (L 101 : Int32).toNatClampNeg (L 102)) (upd (upd L 102 ((putA S 39 (L 101 : Int32).toNatClampNeg (L 102)).2.1 66 (L 6 : Int32).toNatClampNeg)) 101 (((31 : Int32) * (L 5)) + (L 6))) M ls H locs h (lv_sub hl [0, 1, 2, 3, 4, 5, 6, 7] rfl) hP hD hS
      · rw [if_neg hc2] at h
        refine lv_bipush (v := 11) hx hb d_Mod_enter_324 (by decide) ?_
        refine lv_goto (tgt := 336) hx hb d_Mod_enter_326 (by decide) ?_
        exact (ih.2.2.2.2.2.2.2.2.2.2.2.2.1) (putA S 39 (L 101 : Int32).toNatClampNeg (L 102)) (upd (upd L 102 (11 : Int32)) 101 (((31 : Int32) * (L 5)) + (L 6))) M ls H locs h (lv_sub hl [0, 1, 2, 3, 4, 5, 6, 7] rfl) hP hD hS
    · intro S L M ls H locs h hl hP hD hS
      simp only [f_Mod_enter] at h
      obtain ⟨hv1, h⟩ := chk h
      refine S_iast (h := shM) (i := L 101) (v := L 102) hx hb hK hP hD hS 40 rfl (okI_in hv1) d_Mod_enter_336 (fun H locs hP hD hS => ?_)
      refine lv_iinc (k := 6) (v := (L 6) + 1) (lv' := [(6, .int ((L 6) + 1)), (0, .ref (ad 0)), (1, .int (L 1)), (2, .int (L 2)), (3, .int (L 3)), (4, .int (L 4)), (5, .int (L 5)), (7, .int (L 7))]) hx hb d_Mod_enter_337 hl rfl rfl (by decide) rfl (fun ls hl => ?_)
      refine lv_goto (tgt := 241) hx hb d_Mod_enter_340 (by decide) ?_
      exact (ih.2.2.2.2.2.2.2.2.1) (putA S 40 (L 101 : Int32).toNatClampNeg (L 102)) (upd L 6 ((L 6) + 1)) M ls H locs h (lv_sub hl [1, 2, 3, 4, 5, 6, 0] rfl) hP hD hS
    · intro S L M ls H locs h hl hP hD hS
      simp only [f_Mod_enter] at h
      refine lv_iload hx hb d_Mod_enter_368 (lv_at hl 6 rfl) ?_
      refine lv_if_lt (tgt := 443) hx hb d_Mod_enter_370 (by decide) (fun hc1 => ?_) (fun hc1 => ?_)
      · rw [if_pos hc1] at h
        cases h
        exact kx_443 ls H locs hP hD hS
      · rw [if_neg hc1] at h
        refine lv_aload_n hx hb d_Mod_enter_373 rfl (lv_at hl 0 rfl) ?_
        refine S_getR (h := shM) (C := "MacroMillModel") (T := F_Mod) hx hb htt in_Mod hown hK hP 0 84 rfl 42 rfl rfl (by decide) (htt _ k_2320) (fun _ h9 => h9) d_Mod_enter_374 ?_
        refine lv_aload_n hx hb d_Mod_enter_377 rfl (lv_at hl 0 rfl) ?_
        refine S_getI (h := shM) (C := "MacroMillModel") (T := F_Mod) hx hb htt in_Mod hown hK hP 0 83 rfl rfl rfl (by decide) (htt _ k_2319) (fun _ h9 => h9) d_Mod_enter_378 ?_
        refine lv_aload_n hx hb d_Mod_enter_381 rfl (lv_at hl 0 rfl) ?_
        refine S_getR (h := shM) (C := "MacroMillModel") (T := F_Mod) hx hb htt in_Mod hown hK hP 0 68 rfl 28 rfl rfl (by decide) (htt _ k_2304) (fun _ h9 => h9) d_Mod_enter_382 ?_
        refine lv_iload hx hb d_Mod_enter_385 (lv_at hl 6 rfl) ?_
        obtain ⟨hv2, h⟩ := chk h
        refine S_iald (h := shM) (i := L 6) hx hb hK hP 27 rfl (okI_in hv2) d_Mod_enter_387 ?_
        obtain ⟨hv3, h⟩ := chk h
        refine S_iast (h := shM) (i := S.1 0 83) (v := S.2.1 27 (L 6 : Int32).toNatClampNeg) hx hb hK hP hD hS 41 rfl (okI_in hv3) d_Mod_enter_388 (fun H locs hP hD hS => ?_)
        refine lv_aload_n hx hb d_Mod_enter_389 rfl (lv_at hl 0 rfl) ?_
        show W _ _ _ _ _ _ _ _ _ _ _ _ _ _ _ (F0 _ 390 _ _)
        refine S_getR (h := shM) (C := "MacroMillModel") (T := F_Mod) hx hb htt in_Mod hown hK hP 0 85 rfl 43 rfl rfl (by decide) (htt _ k_2321) (fun _ h9 => h9) d_Mod_enter_390 ?_
        refine lv_aload_n hx hb d_Mod_enter_393 rfl (lv_at hl 0 rfl) ?_
        refine S_getI (h := shM) (C := "MacroMillModel") (T := F_Mod) hx hb htt in_Mod hown hK hP 0 83 rfl rfl rfl (by decide) (htt _ k_2319) (fun _ h9 => h9) d_Mod_enter_394 ?_
        refine toI (y := S.1 0 83) rfl ?_
        refine lv_aload_n hx hb d_Mod_enter_397 rfl (lv_at hl 0 rfl) ?_
        refine S_getR (h := shM) (C := "MacroMillModel") (T := F_Mod) hx hb htt in_Mod hown hK hP 0 69 rfl 29 rfl rfl (by decide) (htt _ k_2305) (fun _ h9 => h9) d_Mod_enter_398 ?_
        refine lv_iload hx hb d_Mod_enter_401 (lv_at hl 6 rfl) ?_
        obtain ⟨hv4, h⟩ := chk h
        refine S_iald (h := shM) (i := L 6) hx hb hK hP 28 rfl (okI_in hv4) d_Mod_enter_403 ?_
        obtain ⟨hv5, h⟩ := chk h
        refine S_iast (h := shM) (i := S.1 0 83) (v := (putA S 41 (S.1 0 83 : Int32).toNatClampNeg (S.2.1 27 (L 6 : Int32).toNatClampNeg)).2.1 28 (L 6 : Int32).toNatClampNeg) hx hb hK hP hD hS 42 rfl (okI_in hv5) d_Mod_enter_404 (fun H locs hP hD hS => ?_)
        refine lv_aload_n hx hb d_Mod_enter_405 rfl (lv_at hl 0 rfl) ?_
        refine S_getR (h := shM) (C := "MacroMillModel") (T := F_Mod) hx hb htt in_Mod hown hK hP 0 86 rfl 44 rfl rfl (by decide) (htt _ k_2322) (fun _ h9 => h9) d_Mod_enter_406 ?_
        refine lv_aload_n hx hb d_Mod_enter_409 rfl (lv_at hl 0 rfl) ?_
        refine S_getI (h := shM) (C := "MacroMillModel") (T := F_Mod) hx hb htt in_Mod hown hK hP 0 83 rfl rfl rfl (by decide) (htt _ k_2319) (fun _ h9 => h9) d_Mod_enter_410 ?_
        refine toI (y := S.1 0 83) rfl ?_
        show W _ _ _ _ _ _ _ _ _ _ _ _ _ _ _ (F0 _ 413 _ _)
        refine lv_aload_n hx hb d_Mod_enter_413 rfl (lv_at hl 0 rfl) ?_
        refine S_getR (h := shM) (C := "MacroMillModel") (T := F_Mod) hx hb htt in_Mod hown hK hP 0 73 rfl 33 rfl rfl (by decide) (htt _ k_2309) (fun _ h9 => h9) d_Mod_enter_414 ?_
        refine lv_iload hx hb d_Mod_enter_417 (lv_at hl 6 rfl) ?_
        obtain ⟨hv6, h⟩ := chk h
        refine S_zald (h := shM) (i := L 6) hx hb hK hP 32 rfl (okI_in hv6) d_Mod_enter_419 ?_
        obtain ⟨hv7, h⟩ := chk h
        refine S_zast (h := shM) (i := S.1 0 83) (v := (putA (putA S 41 (S.1 0 83 : Int32).toNatClampNeg (S.2.1 27 (L 6 : Int32).toNatClampNeg)) 42 (S.1 0 83 : Int32).toNatClampNeg ((putA S 41 (S.1 0 83 : Int32).toNatClampNeg (S.2.1 27 (L 6 : Int32).toNatClampNeg)).2.1 28 (L 6 : Int32).toNatClampNeg)).2.1 32 (L 6 : Int32).toNatClampNeg) hx hb hK hP hD hS 43 rfl (okI_in hv7) d_Mod_enter_420 (fun H locs hP hD hS => ?_)
        refine lv_aload_n hx hb d_Mod_enter_421 rfl (lv_at hl 0 rfl) ?_
        refine lv_dup hx hb d_Mod_enter_422 rfl ?_
        refine S_getI (h := shM) (C := "MacroMillModel") (T := F_Mod) hx hb htt in_Mod hown hK hP 0 83 rfl rfl rfl (by decide) (htt _ k_2319) (fun _ h9 => h9) d_Mod_enter_423 ?_
        refine toI (y := S.1 0 83) rfl ?_
        refine lv_iconst (v := 1) hx hb d_Mod_enter_426 (by decide) ?_
        refine lv_iadd hx hb d_Mod_enter_427 ?_
        refine S_put (h := shM) (C := "MacroMillModel") (T := F_Mod) (v := (S.1 0 83) + (1 : Int32)) hx hb htt in_Mod t_Mod t_Mod_ok n_Mod hown hK hP hD hS 0 83 rfl rfl rfl (by decide) (htt _ k_2319) (fun _ h9 => h9) rfl rfl rfl d_Mod_enter_428 (fun H locs hP hD hS => ?_)
        refine lv_aload_n hx hb d_Mod_enter_431 rfl (lv_at hl 0 rfl) ?_
        show W _ _ _ _ _ _ _ _ _ _ _ _ _ _ _ (F0 _ 432 _ _)
        refine S_getR (h := shM) (C := "MacroMillModel") (T := F_Mod) hx hb htt in_Mod hown hK hP 0 72 rfl 32 rfl rfl (by decide) (htt _ k_2308) (fun _ h9 => h9) d_Mod_enter_432 ?_
        refine lv_iload hx hb d_Mod_enter_435 (lv_at hl 6 rfl) ?_
        obtain ⟨hv8, h⟩ := chk h
        refine S_iald (h := shM) (i := L 6) hx hb hK hP 31 rfl (okI_in hv8) d_Mod_enter_437 ?_
        refine lv_istore (lv' := [(6, .int ((putI (putA (putA (putA S 41 (S.1 0 83 : Int32).toNatClampNeg (S.2.1 27 (L 6 : Int32).toNatClampNeg)) 42 (S.1 0 83 : Int32).toNatClampNeg ((putA S 41 (S.1 0 83 : Int32).toNatClampNeg (S.2.1 27 (L 6 : Int32).toNatClampNeg)).2.1 28 (L 6 : Int32).toNatClampNeg)) 43 (S.1 0 83 : Int32).toNatClampNeg (vp_nar .boolean ((putA (putA S 41 (S.1 0 83 : Int32).toNatClampNeg (S.2.1 27 (L 6 : Int32).toNatClampNeg)) 42 (S.1 0 83 : Int32).toNatClampNeg ((putA S 41 (S.1 0 83 : Int32).toNatClampNeg (S.2.1 27 (L 6 : Int32).toNatClampNeg)).2.1 28 (L 6 : Int32).toNatClampNeg)).2.1 32 (L 6 : Int32).toNatClampNeg))) 0 83 ((S.1 0 83) + (1 : Int32))).2.1 31 (L 6 : Int32).toNatClampNeg)), (0, .ref (ad 0)), (1, .int (L 1)), (2, .int (L 2)), (3, .int (L 3)), (4, .int (L 4)), (5, .int (L 5))]) hx hb d_Mod_enter_438 hl (by decide) rfl (fun ls hl => ?_)
        refine lv_goto (tgt := 368) hx hb d_Mod_enter_440 (by decide) ?_
        exact (ih.2.2.2.2.2.2.2.2.2.2.2.2.2) (putI (putA (putA (putA S 41 (S.1 0 83 : Int32).toNatClampNeg (S.2.1 27 (L 6 : Int32).toNatClampNeg)) 42 (S.1 0 83 : Int32).toNatClampNeg ((putA S 41 (S.1 0 83 : Int32).toNatClampNeg (S.2.1 27 (L 6 : Int32).toNatClampNeg)).2.1 28 (L 6 : Int32).toNatClampNeg)) 43 (S.1 0 83 : Int32).toNatClampNeg (vp_nar .boolean ((putA (putA S 41 (S.1 0 83 : Int32).toNatClampNeg (S.2.1 27 (L 6 : Int32).toNatClampNeg)) 42 (S.1 0 83 : Int32).toNatClampNeg ((putA S 41 (S.1 0 83 : Int32).toNatClampNeg (S.2.1 27 (L 6 : Int32).toNatClampNeg)).2.1 28 (L 6 : Int32).toNatClampNeg)).2.1 32 (L 6 : Int32).toNatClampNeg))) 0 83 ((S.1 0 83) + (1 : Int32))) (upd L 6 ((putI (putA (putA (putA S 41 (S.1 0 83 : Int32).toNatClampNeg (S.2.1 27 (L 6 : Int32).toNatClampNeg)) 42 (S.1 0 83 : Int32).toNatClampNeg ((putA S 41 (S.1 0 83 : Int32).toNatClampNeg (S.2.1 27 (L 6 : Int32).toNatClampNeg)).2.1 28 (L 6 : Int32).toNatClampNeg)) 43 (S.1 0 83 : Int32).toNatClampNeg (vp_nar .boolean ((putA (putA S 41 (S.1 0 83 : Int32).toNatClampNeg (S.2.1 27 (L 6 : Int32).toNatClampNeg)) 42 (S.1 0 83 : Int32).toNatClampNeg ((putA S 41 (S.1 0 83 : Int32).toNatClampNeg (S.2.1 27 (L 6 : Int32).toNatClampNeg)).2.1 28 (L 6 : Int32).toNatClampNeg)).2.1 32 (L 6 : Int32).toNatClampNeg))) 0 83 ((S.1 0 83) + (1 : Int32))).2.1 31 (L 6 : Int32).toNatClampNeg)) M ls H locs h (lv_sub hl [1, 2, 3, 4, 5, 6, 0] rfl) hP hD hS
abbrev rm_t_Mod_enter : Room := { frames := 3, cells := 0, slots := 0, locals := 67 }
theorem t_Mod_enter (l : Launch) (g : gG) (sz : Nat) (ad : Nat → Nat) (S : sS) (v1 : Int32) (v2 : Int32) (v3 : Int32) (k : Nat) (r : Int32) (S9 : sS) (h : f_Mod_enter k 0 S (upd (upd (upd (fun _ => 0) 1 v1) 2 v2) 3 v3) (fun _ => 0) = some (r, S9)) : Cv l y_Mod_enter b_Mod_enter 8 rm_t_Mod_enter g [.ref (ad 0), .int v1, .int v2, .int v3] (Sw shM g ad S) sz (fun w => ∃ S1 : sS, w = Sw shM g ad S1 ∧ S1 = S9) := by
  refine startV (by decide) (Nat.le_of_ble_eq_true rfl) ?_
  intro p e s m below meth c A ls hx hb hr hml hlocks hmn hown htt hN hA hP hK hD hS hl
  exact (w_Mod_enter hx hb hml hown htt hK hN hA (by decide +kernel) (by decide +kernel) (by decide +kernel) (by decide +kernel) r S9 (fun ls H locs hP hD hS => fin_v (g := g) (ws := Sw shM g ad S9) hx hb hr hlocks (by decide +kernel) (by decide +kernel) hP hD hS ⟨_, rfl, rfl⟩ d_Mod_enter_152) (fun ls H locs hP hD hS => fin_v (g := g) (ws := Sw shM g ad S9) hx hb hr hlocks (by decide +kernel) (by decide +kernel) hP hD hS ⟨_, rfl, rfl⟩ d_Mod_enter_443) k).1 S (upd (upd (upd (fun _ => 0) 1 v1) 2 v2) 3 v3) (fun _ => 0) ls _ _ h hl hP hD hS
def f_Mod_undefine : Nat → Nat → sS → (Nat → Int32) → (Nat → Int64) → Option (Int32 × sS)
  | 0, _, _, _, _ => none
  | k + 1, 0, S, L, M => if (0 : Int32) ≤ (L 1) then (if okI (L 1) 400 = true then (if okI (L 1) 400 = true then (if okI (L 1) 400 = true then (f_Mod_undefine k 1 (putA S 36 (L 1 : Int32).toNatClampNeg (vp_nar .boolean 0)) (upd (upd (upd L 2 ((putA S 36 (L 1 : Int32).toNatClampNeg (vp_nar .boolean 0)).2.1 45 (L 1 : Int32).toNatClampNeg)) 3 ((putA S 36 (L 1 : Int32).toNatClampNeg (vp_nar .boolean 0)).2.1 44 (L 1 : Int32).toNatClampNeg)) 4 ((putA S 36 (L 1 : Int32).toNatClampNeg (vp_nar .boolean 0)).2.1 44 (L 1 : Int32).toNatClampNeg)) M) else none) else none) else none) else (some ((0 : Int32), S))
  | k + 1, 1, S, L, M => if (S.1 0 83) ≤ ((L 4) + (L 2)) then (f_Mod_undefine k 2 (putI S 0 83 ((S.1 0 83) - (L 2))) (upd L 4 (0 : Int32)) M) else (if okI ((L 4) + (L 2)) 8000 = true then (if okI (L 4) 8000 = true then (if okI ((L 4) + (L 2)) 8000 = true then (if okI (L 4) 8000 = true then (if okI ((L 4) + (L 2)) 8000 = true then (if okI (L 4) 8000 = true then (f_Mod_undefine k 1 (putA (putA (putA S 41 (L 4 : Int32).toNatClampNeg (S.2.1 41 ((L 4) + (L 2) : Int32).toNatClampNeg)) 42 (L 4 : Int32).toNatClampNeg ((putA S 41 (L 4 : Int32).toNatClampNeg (S.2.1 41 ((L 4) + (L 2) : Int32).toNatClampNeg)).2.1 42 ((L 4) + (L 2) : Int32).toNatClampNeg)) 43 (L 4 : Int32).toNatClampNeg (vp_nar .boolean ((putA (putA S 41 (L 4 : Int32).toNatClampNeg (S.2.1 41 ((L 4) + (L 2) : Int32).toNatClampNeg)) 42 (L 4 : Int32).toNatClampNeg ((putA S 41 (L 4 : Int32).toNatClampNeg (S.2.1 41 ((L 4) + (L 2) : Int32).toNatClampNeg)).2.1 42 ((L 4) + (L 2) : Int32).toNatClampNeg)).2.1 43 ((L 4) + (L 2) : Int32).toNatClampNeg))) (upd L 4 ((L 4) + 1)) M) else none) else none) else none) else none) else none) else none)
  | k + 1, 2, S, L, M => if (S.1 0 75) ≤ (L 4) then (some ((0 : Int32), S)) else (if okI (L 4) 400 = true then (if (S.2.1 36 (L 4 : Int32).toNatClampNeg) = (0 : Int32) then (f_Mod_undefine k 3 S (upd L 101 (L 4)) M) else (if okI (L 4) 400 = true then (if (S.2.1 44 (L 4 : Int32).toNatClampNeg) ≤ (L 3) then (f_Mod_undefine k 3 S (upd L 101 (L 4)) M) else (if okI (L 4) 400 = true then (f_Mod_undefine k 4 S (upd (upd L 102 ((S.2.1 44 (L 4 : Int32).toNatClampNeg) - (L 2))) 101 (L 4)) M) else none)) else none)) else none)
  | k + 1, 3, S, L, M => if okI (L 4) 400 = true then (f_Mod_undefine k 4 S (upd L 102 (S.2.1 44 (L 4 : Int32).toNatClampNeg)) M) else none
  | k + 1, 4, S, L, M => if okI (L 101) 400 = true then (f_Mod_undefine k 2 (putA S 44 (L 101 : Int32).toNatClampNeg (L 102)) (upd L 4 ((L 4) + 1)) M) else none
  | _ + 1, _ + 5, _, _, _ => none
set_option maxHeartbeats 8000000 in
set_option maxRecDepth 100000 in
theorem w_Mod_undefine {p : Program} {l : Launch} {e : Env} {R : Room} {s : State} {m : MethodId} {args : Array Value} {below : List Frame} {meth : Method} {c : Code} {cells slots : Nat} {Q : State → Prop} {g : gG} {A : Nat → Prop} {ad : Nat → Nat} (hx : p.tables.exec = Jvm.exec) (hb : c.code = b_Mod_undefine) (hml : c.maxLocals = 5) (hown : s.vm.findClass "MacroMillModel" = some m.cls) (htt : ∀ w ∈ gt, w.before args s = true) (hK : va_K g.1 classes (tysG g) s) (hN : nw s) (hA : ∀ q : Nat, s.heap.size ≤ q → A q) (r : Int32) (S9 : sS)
    (kx_4 : ∀ (ls : Array Slot) (H : Heap) (locs : List Loc), va_P g.1 classes (Sw shM g ad S9) H → va_D A (Sw shM g ad S9) → va_S A s.heap H locs → W p l e R s m args below meth c H locs cells slots Q (F0 m 4 ls []))
    (kx_169 : ∀ (ls : Array Slot) (H : Heap) (locs : List Loc), va_P g.1 classes (Sw shM g ad S9) H → va_D A (Sw shM g ad S9) → va_S A s.heap H locs → W p l e R s m args below meth c H locs cells slots Q (F0 m 169 ls [])) :
    ∀ k9 : Nat, (∀ (S : sS) (L : Nat → Int32) (M : Nat → Int64) (ls : Array Slot) (H : Heap) (locs : List Loc), f_Mod_undefine k9 0 S L M = some (r, S9) → lv_has ls 5 [(0, .ref (ad 0)), (1, .int (L 1))] → va_P g.1 classes (Sw shM g ad S) H → va_D A (Sw shM g ad S) → va_S A s.heap H locs → W p l e R s m args below meth c H locs cells slots Q (F0 m 0 ls [])) ∧ (∀ (S : sS) (L : Nat → Int32) (M : Nat → Int64) (ls : Array Slot) (H : Heap) (locs : List Loc), f_Mod_undefine k9 1 S L M = some (r, S9) → lv_has ls 5 [(0, .ref (ad 0)), (1, .int (L 1)), (2, .int (L 2)), (3, .int (L 3)), (4, .int (L 4))] → va_P g.1 classes (Sw shM g ad S) H → va_D A (Sw shM g ad S) → va_S A s.heap H locs → W p l e R s m args below meth c H locs cells slots Q (F0 m 29 ls [])) ∧ (∀ (S : sS) (L : Nat → Int32) (M : Nat → Int64) (ls : Array Slot) (H : Heap) (locs : List Loc), f_Mod_undefine k9 2 S L M = some (r, S9) → lv_has ls 5 [(0, .ref (ad 0)), (1, .int (L 1)), (2, .int (L 2)), (3, .int (L 3)), (4, .int (L 4))] → va_P g.1 classes (Sw shM g ad S) H → va_D A (Sw shM g ad S) → va_S A s.heap H locs → W p l e R s m args below meth c H locs cells slots Q (F0 m 107 ls [])) ∧ (∀ (S : sS) (L : Nat → Int32) (M : Nat → Int64) (ls : Array Slot) (H : Heap) (locs : List Loc), f_Mod_undefine k9 3 S L M = some (r, S9) → lv_has ls 5 [(0, .ref (ad 0)), (1, .int (L 1)), (2, .int (L 2)), (3, .int (L 3)), (4, .int (L 4))] → va_P g.1 classes (Sw shM g ad S) H → va_D A (Sw shM g ad S) → va_S A s.heap H locs → W p l e R s m args below meth c H locs cells slots Q (F0 m 155 ls [.int (L 101), .ref (ad 45)])) ∧ (∀ (S : sS) (L : Nat → Int32) (M : Nat → Int64) (ls : Array Slot) (H : Heap) (locs : List Loc), f_Mod_undefine k9 4 S L M = some (r, S9) → lv_has ls 5 [(0, .ref (ad 0)), (1, .int (L 1)), (2, .int (L 2)), (3, .int (L 3)), (4, .int (L 4))] → va_P g.1 classes (Sw shM g ad S) H → va_D A (Sw shM g ad S) → va_S A s.heap H locs → W p l e R s m args below meth c H locs cells slots Q (F0 m 162 ls [.int (L 102), .int (L 101), .ref (ad 45)])) := by
  intro k9
  induction k9 with
  | zero => exact ⟨(fun _ _ _ _ _ _ h => by simp [f_Mod_undefine] at h), (fun _ _ _ _ _ _ h => by simp [f_Mod_undefine] at h), (fun _ _ _ _ _ _ h => by simp [f_Mod_undefine] at h), (fun _ _ _ _ _ _ h => by simp [f_Mod_undefine] at h), (fun _ _ _ _ _ _ h => by simp [f_Mod_undefine] at h)⟩
  | succ k9 ih =>
    refine ⟨?_, ?_, ?_, ?_, ?_⟩
    · intro S L M ls H locs h hl hP hD hS
      simp only [f_Mod_undefine] at h
      refine lv_iload_n hx hb d_Mod_undefine_0 rfl (lv_at hl 1 rfl) ?_
      refine lv_if_ge (tgt := 5) hx hb d_Mod_undefine_1 (by decide) (fun hc1 => ?_) (fun hc1 => ?_)
      · rw [if_pos hc1] at h
        refine lv_aload_n hx hb d_Mod_undefine_5 rfl (lv_at hl 0 rfl) ?_
        refine S_getR (h := shM) (C := "MacroMillModel") (T := F_Mod) hx hb htt in_Mod hown hK hP 0 78 rfl 37 rfl rfl (by decide) (htt _ k_2314) (fun _ h9 => h9) d_Mod_undefine_6 ?_
        refine lv_iload_n hx hb d_Mod_undefine_9 rfl (lv_at hl 1 rfl) ?_
        refine lv_iconst (v := 0) hx hb d_Mod_undefine_10 (by decide) ?_
        obtain ⟨hv2, h⟩ := chk h
        refine S_zast (h := shM) (i := L 1) (v := 0) hx hb hK hP hD hS 36 rfl (okI_in hv2) d_Mod_undefine_11 (fun H locs hP hD hS => ?_)
        refine lv_aload_n hx hb d_Mod_undefine_12 rfl (lv_at hl 0 rfl) ?_
        refine S_getR (h := shM) (C := "MacroMillModel") (T := F_Mod) hx hb htt in_Mod hown hK hP 0 88 rfl 46 rfl rfl (by decide) (htt _ k_2324) (fun _ h9 => h9) d_Mod_undefine_13 ?_
        refine lv_iload_n hx hb d_Mod_undefine_16 rfl (lv_at hl 1 rfl) ?_
        obtain ⟨hv3, h⟩ := chk h
        refine S_iald (h := shM) (i := L 1) hx hb hK hP 45 rfl (okI_in hv3) d_Mod_undefine_17 ?_
        refine lv_istore_n (lv' := [(2, .int ((putA S 36 (L 1 : Int32).toNatClampNeg (vp_nar .boolean 0)).2.1 45 (L 1 : Int32).toNatClampNeg)), (0, .ref (ad 0)), (1, .int (L 1))]) hx hb d_Mod_undefine_18 rfl hl (by decide) rfl (fun ls hl => ?_)
        show W _ _ _ _ _ _ _ _ _ _ _ _ _ _ _ (F0 _ 19 _ _)
        refine lv_aload_n hx hb d_Mod_undefine_19 rfl (lv_at hl 1 rfl) ?_
        refine S_getR (h := shM) (C := "MacroMillModel") (T := F_Mod) hx hb htt in_Mod hown hK hP 0 87 rfl 45 rfl rfl (by decide) (htt _ k_2323) (fun _ h9 => h9) d_Mod_undefine_20 ?_
        refine lv_iload_n hx hb d_Mod_undefine_23 rfl (lv_at hl 2 rfl) ?_
        obtain ⟨hv4, h⟩ := chk h
        refine S_iald (h := shM) (i := L 1) hx hb hK hP 44 rfl (okI_in hv4) d_Mod_undefine_24 ?_
        refine lv_istore_n (lv' := [(3, .int ((putA S 36 (L 1 : Int32).toNatClampNeg (vp_nar .boolean 0)).2.1 44 (L 1 : Int32).toNatClampNeg)), (2, .int ((putA S 36 (L 1 : Int32).toNatClampNeg (vp_nar .boolean 0)).2.1 45 (L 1 : Int32).toNatClampNeg)), (0, .ref (ad 0)), (1, .int (L 1))]) hx hb d_Mod_undefine_25 rfl hl (by decide) rfl (fun ls hl => ?_)
        refine lv_iload_n hx hb d_Mod_undefine_26 rfl (lv_at hl 0 rfl) ?_
        refine lv_istore (lv' := [(4, .int ((putA S 36 (L 1 : Int32).toNatClampNeg (vp_nar .boolean 0)).2.1 44 (L 1 : Int32).toNatClampNeg)), (3, .int ((putA S 36 (L 1 : Int32).toNatClampNeg (vp_nar .boolean 0)).2.1 44 (L 1 : Int32).toNatClampNeg)), (2, .int ((putA S 36 (L 1 : Int32).toNatClampNeg (vp_nar .boolean 0)).2.1 45 (L 1 : Int32).toNatClampNeg)), (0, .ref (ad 0)), (1, .int (L 1))]) hx hb d_Mod_undefine_27 hl (by decide) rfl (fun ls hl => ?_)
        exact (ih.2.1) (putA S 36 (L 1 : Int32).toNatClampNeg (vp_nar .boolean 0)) (upd (upd (upd L 2 ((putA S 36 (L 1 : Int32).toNatClampNeg (vp_nar .boolean 0)).2.1 45 (L 1 : Int32).toNatClampNeg)) 3 ((putA S 36 (L 1 : Int32).toNatClampNeg (vp_nar .boolean 0)).2.1 44 (L 1 : Int32).toNatClampNeg)) 4 ((putA S 36 (L 1 : Int32).toNatClampNeg (vp_nar .boolean 0)).2.1 44 (L 1 : Int32).toNatClampNeg)) M ls H locs h (lv_sub hl [3, 4, 2, 1, 0] rfl) hP hD hS
      · rw [if_neg hc1] at h
        cases h
        exact kx_4 ls H locs hP hD hS
    · intro S L M ls H locs h hl hP hD hS
      simp only [f_Mod_undefine] at h
      refine lv_iload hx hb d_Mod_undefine_29 (lv_at hl 4 rfl) ?_
      refine lv_iload_n hx hb d_Mod_undefine_31 rfl (lv_at hl 2 rfl) ?_
      refine lv_iadd hx hb d_Mod_undefine_32 ?_
      refine lv_aload_n hx hb d_Mod_undefine_33 rfl (lv_at hl 0 rfl) ?_
      refine S_getI (h := shM) (C := "MacroMillModel") (T := F_Mod) hx hb htt in_Mod hown hK hP 0 83 rfl rfl rfl (by decide) (htt _ k_2319) (fun _ h9 => h9) d_Mod_undefine_34 ?_
      refine lv_icmp_ge (tgt := 94) hx hb d_Mod_undefine_37 (by decide) (fun hc1 => ?_) (fun hc1 => ?_)
      · rw [if_pos hc1] at h
        refine lv_aload_n hx hb d_Mod_undefine_94 rfl (lv_at hl 0 rfl) ?_
        refine lv_aload_n hx hb d_Mod_undefine_95 rfl (lv_at hl 0 rfl) ?_
        refine S_getI (h := shM) (C := "MacroMillModel") (T := F_Mod) hx hb htt in_Mod hown hK hP 0 83 rfl rfl rfl (by decide) (htt _ k_2319) (fun _ h9 => h9) d_Mod_undefine_96 ?_
        refine lv_iload_n hx hb d_Mod_undefine_99 rfl (lv_at hl 2 rfl) ?_
        refine lv_isub hx hb d_Mod_undefine_100 ?_
        refine S_put (h := shM) (C := "MacroMillModel") (T := F_Mod) (v := (S.1 0 83) - (L 2)) hx hb htt in_Mod t_Mod t_Mod_ok n_Mod hown hK hP hD hS 0 83 rfl rfl rfl (by decide) (htt _ k_2319) (fun _ h9 => h9) rfl rfl rfl d_Mod_undefine_101 (fun H locs hP hD hS => ?_)
        show W _ _ _ _ _ _ _ _ _ _ _ _ _ _ _ (F0 _ 104 _ _)
        refine lv_iconst (v := 0) hx hb d_Mod_undefine_104 (by decide) ?_
        refine lv_istore (lv' := [(4, .int 0), (0, .ref (ad 0)), (1, .int (L 1)), (2, .int (L 2)), (3, .int (L 3))]) hx hb d_Mod_undefine_105 hl (by decide) rfl (fun ls hl => ?_)
        exact (ih.2.2.1) (putI S 0 83 ((S.1 0 83) - (L 2))) (upd L 4 (0 : Int32)) M ls H locs h (lv_sub hl [1, 2, 3, 4, 0] rfl) hP hD hS
      · rw [if_neg hc1] at h
        refine lv_aload_n hx hb d_Mod_undefine_40 rfl (lv_at hl 0 rfl) ?_
        refine S_getR (h := shM) (C := "MacroMillModel") (T := F_Mod) hx hb htt in_Mod hown hK hP 0 84 rfl 42 rfl rfl (by decide) (htt _ k_2320) (fun _ h9 => h9) d_Mod_undefine_41 ?_
        refine lv_iload hx hb d_Mod_undefine_44 (lv_at hl 4 rfl) ?_
        refine lv_aload_n hx hb d_Mod_undefine_46 rfl (lv_at hl 0 rfl) ?_
        refine S_getR (h := shM) (C := "MacroMillModel") (T := F_Mod) hx hb htt in_Mod hown hK hP 0 84 rfl 42 rfl rfl (by decide) (htt _ k_2320) (fun _ h9 => h9) d_Mod_undefine_47 ?_
        refine lv_iload hx hb d_Mod_undefine_50 (lv_at hl 4 rfl) ?_
        show W _ _ _ _ _ _ _ _ _ _ _ _ _ _ _ (F0 _ 52 _ _)
        refine lv_iload_n hx hb d_Mod_undefine_52 rfl (lv_at hl 2 rfl) ?_
        refine lv_iadd hx hb d_Mod_undefine_53 ?_
        obtain ⟨hv2, h⟩ := chk h
        refine S_iald (h := shM) (i := (L 4) + (L 2)) hx hb hK hP 41 rfl (okI_in hv2) d_Mod_undefine_54 ?_
        obtain ⟨hv3, h⟩ := chk h
        refine S_iast (h := shM) (i := L 4) (v := S.2.1 41 ((L 4) + (L 2) : Int32).toNatClampNeg) hx hb hK hP hD hS 41 rfl (okI_in hv3) d_Mod_undefine_55 (fun H locs hP hD hS => ?_)
        refine lv_aload_n hx hb d_Mod_undefine_56 rfl (lv_at hl 0 rfl) ?_
        refine S_getR (h := shM) (C := "MacroMillModel") (T := F_Mod) hx hb htt in_Mod hown hK hP 0 85 rfl 43 rfl rfl (by decide) (htt _ k_2321) (fun _ h9 => h9) d_Mod_undefine_57 ?_
        refine lv_iload hx hb d_Mod_undefine_60 (lv_at hl 4 rfl) ?_
        refine lv_aload_n hx hb d_Mod_undefine_62 rfl (lv_at hl 0 rfl) ?_
        refine S_getR (h := shM) (C := "MacroMillModel") (T := F_Mod) hx hb htt in_Mod hown hK hP 0 85 rfl 43 rfl rfl (by decide) (htt _ k_2321) (fun _ h9 => h9) d_Mod_undefine_63 ?_
        refine lv_iload hx hb d_Mod_undefine_66 (lv_at hl 4 rfl) ?_
        refine lv_iload_n hx hb d_Mod_undefine_68 rfl (lv_at hl 2 rfl) ?_
        refine lv_iadd hx hb d_Mod_undefine_69 ?_
        obtain ⟨hv4, h⟩ := chk h
        show W _ _ _ _ _ _ _ _ _ _ _ _ _ _ _ (F0 _ 70 _ _)
        refine S_iald (h := shM) (i := (L 4) + (L 2)) hx hb hK hP 42 rfl (okI_in hv4) d_Mod_undefine_70 ?_
        obtain ⟨hv5, h⟩ := chk h
        refine S_iast (h := shM) (i := L 4) (v := (putA S 41 (L 4 : Int32).toNatClampNeg (S.2.1 41 ((L 4) + (L 2) : Int32).toNatClampNeg)).2.1 42 ((L 4) + (L 2) : Int32).toNatClampNeg) hx hb hK hP hD hS 42 rfl (okI_in hv5) d_Mod_undefine_71 (fun H locs hP hD hS => ?_)
        refine lv_aload_n hx hb d_Mod_undefine_72 rfl (lv_at hl 0 rfl) ?_
        refine S_getR (h := shM) (C := "MacroMillModel") (T := F_Mod) hx hb htt in_Mod hown hK hP 0 86 rfl 44 rfl rfl (by decide) (htt _ k_2322) (fun _ h9 => h9) d_Mod_undefine_73 ?_
        refine lv_iload hx hb d_Mod_undefine_76 (lv_at hl 4 rfl) ?_
        refine lv_aload_n hx hb d_Mod_undefine_78 rfl (lv_at hl 0 rfl) ?_
        refine S_getR (h := shM) (C := "MacroMillModel") (T := F_Mod) hx hb htt in_Mod hown hK hP 0 86 rfl 44 rfl rfl (by decide) (htt _ k_2322) (fun _ h9 => h9) d_Mod_undefine_79 ?_
        refine lv_iload hx hb d_Mod_undefine_82 (lv_at hl 4 rfl) ?_
        refine lv_iload_n hx hb d_Mod_undefine_84 rfl (lv_at hl 2 rfl) ?_
        refine lv_iadd hx hb d_Mod_undefine_85 ?_
        obtain ⟨hv6, h⟩ := chk h
        refine S_zald (h := shM) (i := (L 4) + (L 2)) hx hb hK hP 43 rfl (okI_in hv6) d_Mod_undefine_86 ?_
        obtain ⟨hv7, h⟩ := chk h
        refine S_zast (h := shM) (i := L 4) (v := (putA (putA S 41 (L 4 : Int32).toNatClampNeg (S.2.1 41 ((L 4) + (L 2) : Int32).toNatClampNeg)) 42 (L 4 : Int32).toNatClampNeg ((putA S 41 (L 4 : Int32).toNatClampNeg (S.2.1 41 ((L 4) + (L 2) : Int32).toNatClampNeg)).2.1 42 ((L 4) + (L 2) : Int32).toNatClampNeg)).2.1 43 ((L 4) + (L 2) : Int32).toNatClampNeg) hx hb hK hP hD hS 43 rfl (okI_in hv7) d_Mod_undefine_87 (fun H locs hP hD hS => ?_)
        show W _ _ _ _ _ _ _ _ _ _ _ _ _ _ _ (F0 _ 88 _ _)
        refine lv_iinc (k := 4) (v := (L 4) + 1) (lv' := [(4, .int ((L 4) + 1)), (0, .ref (ad 0)), (1, .int (L 1)), (2, .int (L 2)), (3, .int (L 3))]) hx hb d_Mod_undefine_88 hl rfl rfl (by decide) rfl (fun ls hl => ?_)
        refine lv_goto (tgt := 29) hx hb d_Mod_undefine_91 (by decide) ?_
        exact (ih.2.1) (putA (putA (putA S 41 (L 4 : Int32).toNatClampNeg (S.2.1 41 ((L 4) + (L 2) : Int32).toNatClampNeg)) 42 (L 4 : Int32).toNatClampNeg ((putA S 41 (L 4 : Int32).toNatClampNeg (S.2.1 41 ((L 4) + (L 2) : Int32).toNatClampNeg)).2.1 42 ((L 4) + (L 2) : Int32).toNatClampNeg)) 43 (L 4 : Int32).toNatClampNeg (vp_nar .boolean ((putA (putA S 41 (L 4 : Int32).toNatClampNeg (S.2.1 41 ((L 4) + (L 2) : Int32).toNatClampNeg)) 42 (L 4 : Int32).toNatClampNeg ((putA S 41 (L 4 : Int32).toNatClampNeg (S.2.1 41 ((L 4) + (L 2) : Int32).toNatClampNeg)).2.1 42 ((L 4) + (L 2) : Int32).toNatClampNeg)).2.1 43 ((L 4) + (L 2) : Int32).toNatClampNeg))) (upd L 4 ((L 4) + 1)) M ls H locs h (lv_sub hl [1, 2, 3, 4, 0] rfl) hP hD hS
    · intro S L M ls H locs h hl hP hD hS
      simp only [f_Mod_undefine] at h
      refine lv_iload hx hb d_Mod_undefine_107 (lv_at hl 4 rfl) ?_
      refine lv_aload_n hx hb d_Mod_undefine_109 rfl (lv_at hl 0 rfl) ?_
      refine S_getI (h := shM) (C := "MacroMillModel") (T := F_Mod) hx hb htt in_Mod hown hK hP 0 75 rfl rfl rfl (by decide) (htt _ k_2311) (fun _ h9 => h9) d_Mod_undefine_110 ?_
      refine lv_icmp_ge (tgt := 169) hx hb d_Mod_undefine_113 (by decide) (fun hc1 => ?_) (fun hc1 => ?_)
      · rw [if_pos hc1] at h
        cases h
        exact kx_169 ls H locs hP hD hS
      · rw [if_neg hc1] at h
        refine lv_aload_n hx hb d_Mod_undefine_116 rfl (lv_at hl 0 rfl) ?_
        refine S_getR (h := shM) (C := "MacroMillModel") (T := F_Mod) hx hb htt in_Mod hown hK hP 0 87 rfl 45 rfl rfl (by decide) (htt _ k_2323) (fun _ h9 => h9) d_Mod_undefine_117 ?_
        refine lv_iload hx hb d_Mod_undefine_120 (lv_at hl 4 rfl) ?_
        refine lv_aload_n hx hb d_Mod_undefine_122 rfl (lv_at hl 0 rfl) ?_
        refine S_getR (h := shM) (C := "MacroMillModel") (T := F_Mod) hx hb htt in_Mod hown hK hP 0 78 rfl 37 rfl rfl (by decide) (htt _ k_2314) (fun _ h9 => h9) d_Mod_undefine_123 ?_
        refine lv_iload hx hb d_Mod_undefine_126 (lv_at hl 4 rfl) ?_
        obtain ⟨hv2, h⟩ := chk h
        refine S_zald (h := shM) (i := L 4) hx hb hK hP 36 rfl (okI_in hv2) d_Mod_undefine_128 ?_
        refine lv_if_eq (tgt := 155) hx hb d_Mod_undefine_129 (by decide) (fun hc3 => ?_) (fun hc3 => ?_)
        · rw [if_pos hc3] at h
          exact (ih.2.2.2.1) S (upd L 101 (L 4)) M ls H locs h (lv_sub hl [0, 1, 2, 3, 4] rfl) hP hD hS
        · rw [if_neg hc3] at h
          refine lv_aload_n hx hb d_Mod_undefine_132 rfl (lv_at hl 0 rfl) ?_
          show W _ _ _ _ _ _ _ _ _ _ _ _ _ _ _ (F0 _ 133 _ _)
          refine S_getR (h := shM) (C := "MacroMillModel") (T := F_Mod) hx hb htt in_Mod hown hK hP 0 87 rfl 45 rfl rfl (by decide) (htt _ k_2323) (fun _ h9 => h9) d_Mod_undefine_133 ?_
          refine lv_iload hx hb d_Mod_undefine_136 (lv_at hl 4 rfl) ?_
          obtain ⟨hv4, h⟩ := chk h
          refine S_iald (h := shM) (i := L 4) hx hb hK hP 44 rfl (okI_in hv4) d_Mod_undefine_138 ?_
          refine lv_iload_n hx hb d_Mod_undefine_139 rfl (lv_at hl 3 rfl) ?_
          refine lv_icmp_le (tgt := 155) hx hb d_Mod_undefine_140 (by decide) (fun hc5 => ?_) (fun hc5 => ?_)
          · rw [if_pos hc5] at h
            exact (ih.2.2.2.1) S (upd L 101 (L 4)) M ls H locs h (lv_sub hl [0, 1, 2, 3, 4] rfl) hP hD hS
          · rw [if_neg hc5] at h
            refine lv_aload_n hx hb d_Mod_undefine_143 rfl (lv_at hl 0 rfl) ?_
            refine S_getR (h := shM) (C := "MacroMillModel") (T := F_Mod) hx hb htt in_Mod hown hK hP 0 87 rfl 45 rfl rfl (by decide) (htt _ k_2323) (fun _ h9 => h9) d_Mod_undefine_144 ?_
            refine lv_iload hx hb d_Mod_undefine_147 (lv_at hl 4 rfl) ?_
            obtain ⟨hv6, h⟩ := chk h
            refine S_iald (h := shM) (i := L 4) hx hb hK hP 44 rfl (okI_in hv6) d_Mod_undefine_149 ?_
            refine lv_iload_n hx hb d_Mod_undefine_150 rfl (lv_at hl 2 rfl) ?_
            refine lv_isub hx hb d_Mod_undefine_151 ?_
            refine lv_goto (tgt := 162) hx hb d_Mod_undefine_152 (by decide) ?_
            exact (ih.2.2.2.2) S (upd (upd L 102 ((S.2.1 44 (L 4 : Int32).toNatClampNeg) - (L 2))) 101 (L 4)) M ls H locs h (lv_sub hl [0, 1, 2, 3, 4] rfl) hP hD hS
    · intro S L M ls H locs h hl hP hD hS
      simp only [f_Mod_undefine] at h
      refine lv_aload_n hx hb d_Mod_undefine_155 rfl (lv_at hl 0 rfl) ?_
      refine S_getR (h := shM) (C := "MacroMillModel") (T := F_Mod) hx hb htt in_Mod hown hK hP 0 87 rfl 45 rfl rfl (by decide) (htt _ k_2323) (fun _ h9 => h9) d_Mod_undefine_156 ?_
      refine lv_iload hx hb d_Mod_undefine_159 (lv_at hl 4 rfl) ?_
      obtain ⟨hv1, h⟩ := chk h
      refine S_iald (h := shM) (i := L 4) hx hb hK hP 44 rfl (okI_in hv1) d_Mod_undefine_161 ?_
      exact (ih.2.2.2.2) S (upd L 102 (S.2.1 44 (L 4 : Int32).toNatClampNeg)) M ls H locs h (lv_sub hl [0, 1, 2, 3, 4] rfl) hP hD hS
    · intro S L M ls H locs h hl hP hD hS
      simp only [f_Mod_undefine] at h
      obtain ⟨hv1, h⟩ := chk h
      refine S_iast (h := shM) (i := L 101) (v := L 102) hx hb hK hP hD hS 44 rfl (okI_in hv1) d_Mod_undefine_162 (fun H locs hP hD hS => ?_)
      refine lv_iinc (k := 4) (v := (L 4) + 1) (lv' := [(4, .int ((L 4) + 1)), (0, .ref (ad 0)), (1, .int (L 1)), (2, .int (L 2)), (3, .int (L 3))]) hx hb d_Mod_undefine_163 hl rfl rfl (by decide) rfl (fun ls hl => ?_)
      refine lv_goto (tgt := 107) hx hb d_Mod_undefine_166 (by decide) ?_
      exact (ih.2.2.1) (putA S 44 (L 101 : Int32).toNatClampNeg (L 102)) (upd L 4 ((L 4) + 1)) M ls H locs h (lv_sub hl [1, 2, 3, 4, 0] rfl) hP hD hS
abbrev rm_t_Mod_undefine : Room := { frames := 0, cells := 0, slots := 0, locals := 0 }
theorem t_Mod_undefine (l : Launch) (g : gG) (sz : Nat) (ad : Nat → Nat) (S : sS) (v1 : Int32) (k : Nat) (r : Int32) (S9 : sS) (h : f_Mod_undefine k 0 S (upd (fun _ => 0) 1 v1) (fun _ => 0) = some (r, S9)) : Cv l y_Mod_undefine b_Mod_undefine 5 rm_t_Mod_undefine g [.ref (ad 0), .int v1] (Sw shM g ad S) sz (fun w => ∃ S1 : sS, w = Sw shM g ad S1 ∧ S1 = S9) := by
  refine startV (by decide) (Nat.le_of_ble_eq_true rfl) ?_
  intro p e s m below meth c A ls hx hb hr hml hlocks hmn hown htt hN hA hP hK hD hS hl
  exact (w_Mod_undefine hx hb hml hown htt hK hN hA r S9 (fun ls H locs hP hD hS => fin_v (g := g) (ws := Sw shM g ad S9) hx hb hr hlocks (by decide +kernel) (by decide +kernel) hP hD hS ⟨_, rfl, rfl⟩ d_Mod_undefine_4) (fun ls H locs hP hD hS => fin_v (g := g) (ws := Sw shM g ad S9) hx hb hr hlocks (by decide +kernel) (by decide +kernel) hP hD hS ⟨_, rfl, rfl⟩ d_Mod_undefine_169) k).1 S (upd (fun _ => 0) 1 v1) (fun _ => 0) ls _ _ h hl hP hD hS
def f_Mod_want : Nat → Nat → sS → (Nat → Int32) → (Nat → Int64) → Option (Int32 × sS)
  | 0, _, _, _, _ => none
  | k + 1, 0, S, L, M => if (65 : Int32) ≤ (S.1 0 129) then (f_Mod_want k 1 S L M) else (if okI (S.1 0 129) 65 = true then (f_Mod_want k 1 (putI (putA S 67 (S.1 0 129 : Int32).toNatClampNeg (vp_nar .byte ((L 1).toInt8.toInt32))) 0 129 ((S.1 0 129) + (1 : Int32))) L M) else none)
  | k + 1, 1, S, L, M => some ((0 : Int32), S)
  | _ + 1, _ + 2, _, _, _ => none
set_option maxHeartbeats 8000000 in
set_option maxRecDepth 100000 in
theorem w_Mod_want {p : Program} {l : Launch} {e : Env} {R : Room} {s : State} {m : MethodId} {args : Array Value} {below : List Frame} {meth : Method} {c : Code} {cells slots : Nat} {Q : State → Prop} {g : gG} {A : Nat → Prop} {ad : Nat → Nat} (hx : p.tables.exec = Jvm.exec) (hb : c.code = b_Mod_want) (hml : c.maxLocals = 2) (hown : s.vm.findClass "MacroMillModel" = some m.cls) (htt : ∀ w ∈ gt, w.before args s = true) (hK : va_K g.1 classes (tysG g) s) (hN : nw s) (hA : ∀ q : Nat, s.heap.size ≤ q → A q) (r : Int32) (S9 : sS)
    (kx_30 : ∀ (ls : Array Slot) (H : Heap) (locs : List Loc), va_P g.1 classes (Sw shM g ad S9) H → va_D A (Sw shM g ad S9) → va_S A s.heap H locs → W p l e R s m args below meth c H locs cells slots Q (F0 m 30 ls [])) :
    ∀ k9 : Nat, (∀ (S : sS) (L : Nat → Int32) (M : Nat → Int64) (ls : Array Slot) (H : Heap) (locs : List Loc), f_Mod_want k9 0 S L M = some (r, S9) → lv_has ls 2 [(0, .ref (ad 0)), (1, .int (L 1))] → va_P g.1 classes (Sw shM g ad S) H → va_D A (Sw shM g ad S) → va_S A s.heap H locs → W p l e R s m args below meth c H locs cells slots Q (F0 m 0 ls [])) ∧ (∀ (S : sS) (L : Nat → Int32) (M : Nat → Int64) (ls : Array Slot) (H : Heap) (locs : List Loc), f_Mod_want k9 1 S L M = some (r, S9) → lv_has ls 2 [(0, .ref (ad 0)), (1, .int (L 1))] → va_P g.1 classes (Sw shM g ad S) H → va_D A (Sw shM g ad S) → va_S A s.heap H locs → W p l e R s m args below meth c H locs cells slots Q (F0 m 30 ls [])) := by
  intro k9
  induction k9 with
  | zero => exact ⟨(fun _ _ _ _ _ _ h => by simp [f_Mod_want] at h), (fun _ _ _ _ _ _ h => by simp [f_Mod_want] at h)⟩
  | succ k9 ih =>
    refine ⟨?_, ?_⟩
    · intro S L M ls H locs h hl hP hD hS
      simp only [f_Mod_want] at h
      refine lv_aload_n hx hb d_Mod_want_0 rfl (lv_at hl 0 rfl) ?_
      refine S_getI (h := shM) (C := "MacroMillModel") (T := F_Mod) hx hb htt in_Mod hown hK hP 0 129 rfl rfl rfl (by decide) (htt _ k_2365) (fun _ h9 => h9) d_Mod_want_1 ?_
      refine lv_bipush (v := 65) hx hb d_Mod_want_4 (by decide) ?_
      refine lv_icmp_ge (tgt := 30) hx hb d_Mod_want_6 (by decide) (fun hc1 => ?_) (fun hc1 => ?_)
      · rw [if_pos hc1] at h
        exact (ih.2) S L M ls H locs h (lv_sub hl [0, 1] rfl) hP hD hS
      · rw [if_neg hc1] at h
        refine lv_aload_n hx hb d_Mod_want_9 rfl (lv_at hl 0 rfl) ?_
        refine S_getR (h := shM) (C := "MacroMillModel") (T := F_Mod) hx hb htt in_Mod hown hK hP 0 128 rfl 68 rfl rfl (by decide) (htt _ k_2364) (fun _ h9 => h9) d_Mod_want_10 ?_
        refine lv_aload_n hx hb d_Mod_want_13 rfl (lv_at hl 0 rfl) ?_
        refine S_getI (h := shM) (C := "MacroMillModel") (T := F_Mod) hx hb htt in_Mod hown hK hP 0 129 rfl rfl rfl (by decide) (htt _ k_2365) (fun _ h9 => h9) d_Mod_want_14 ?_
        refine lv_iload_n hx hb d_Mod_want_17 rfl (lv_at hl 1 rfl) ?_
        refine lv_i2b (v := (L 1).toInt8.toInt32) hx hb d_Mod_want_18 rfl ?_
        obtain ⟨hv2, h⟩ := chk h
        refine S_bast (h := shM) (i := S.1 0 129) (v := (L 1).toInt8.toInt32) hx hb hK hP hD hS 67 rfl (okI_in hv2) d_Mod_want_19 (fun H locs hP hD hS => ?_)
        refine lv_aload_n hx hb d_Mod_want_20 rfl (lv_at hl 0 rfl) ?_
        show W _ _ _ _ _ _ _ _ _ _ _ _ _ _ _ (F0 _ 21 _ _)
        refine lv_dup hx hb d_Mod_want_21 rfl ?_
        refine S_getI (h := shM) (C := "MacroMillModel") (T := F_Mod) hx hb htt in_Mod hown hK hP 0 129 rfl rfl rfl (by decide) (htt _ k_2365) (fun _ h9 => h9) d_Mod_want_22 ?_
        refine toI (y := S.1 0 129) rfl ?_
        refine lv_iconst (v := 1) hx hb d_Mod_want_25 (by decide) ?_
        refine lv_iadd hx hb d_Mod_want_26 ?_
        refine S_put (h := shM) (C := "MacroMillModel") (T := F_Mod) (v := (S.1 0 129) + (1 : Int32)) hx hb htt in_Mod t_Mod t_Mod_ok n_Mod hown hK hP hD hS 0 129 rfl rfl rfl (by decide) (htt _ k_2365) (fun _ h9 => h9) rfl rfl rfl d_Mod_want_27 (fun H locs hP hD hS => ?_)
        exact (ih.2) (putI (putA S 67 (S.1 0 129 : Int32).toNatClampNeg (vp_nar .byte ((L 1).toInt8.toInt32))) 0 129 ((S.1 0 129) + (1 : Int32))) L M ls H locs h (lv_sub hl [0, 1] rfl) hP hD hS
    · intro S L M ls H locs h hl hP hD hS
      simp only [f_Mod_want] at h
      cases h
      exact kx_30 ls H locs hP hD hS
abbrev rm_t_Mod_want : Room := { frames := 0, cells := 0, slots := 0, locals := 0 }
theorem t_Mod_want (l : Launch) (g : gG) (sz : Nat) (ad : Nat → Nat) (S : sS) (v1 : Int32) (k : Nat) (r : Int32) (S9 : sS) (h : f_Mod_want k 0 S (upd (fun _ => 0) 1 v1) (fun _ => 0) = some (r, S9)) : Cv l y_Mod_want b_Mod_want 2 rm_t_Mod_want g [.ref (ad 0), .int v1] (Sw shM g ad S) sz (fun w => ∃ S1 : sS, w = Sw shM g ad S1 ∧ S1 = S9) := by
  refine startV (by decide) (Nat.le_of_ble_eq_true rfl) ?_
  intro p e s m below meth c A ls hx hb hr hml hlocks hmn hown htt hN hA hP hK hD hS hl
  exact (w_Mod_want hx hb hml hown htt hK hN hA r S9 (fun ls H locs hP hD hS => fin_v (g := g) (ws := Sw shM g ad S9) hx hb hr hlocks (by decide +kernel) (by decide +kernel) hP hD hS ⟨_, rfl, rfl⟩ d_Mod_want_30) k).1 S (upd (fun _ => 0) 1 v1) (fun _ => 0) ls _ _ h hl hP hD hS
def f_Mod_isPlainText : Nat → Nat → sS → (Nat → Int32) → (Nat → Int64) → Option (Int32 × sS)
  | 0, _, _, _, _ => none
  | k + 1, 0, S, L, M => if (L 1) < (0 : Int32) then (f_Mod_isPlainText k 1 S L M) else ((f_Mod_kindOf k 0 S (upd (fun _ => 0) 1 (L 1 : Int32)) (fun _ => 0)).bind (fun (r2, T2) => if r2 = (3 : Int32) then ((f_Mod_byteOf k 0 T2 (upd (upd (fun _ => 0) 1 (L 1 : Int32)) 2 (0 : Int32)) (fun _ => 0)).bind (fun (r4, T4) => if r4 = (34 : Int32) then (f_Mod_isPlainText k 2 T4 (upd L 100 (1 : Int32)) M) else (f_Mod_isPlainText k 1 T4 L M))) else (f_Mod_isPlainText k 1 T2 L M)))
  | k + 1, 1, S, L, M => f_Mod_isPlainText k 2 S (upd L 100 (0 : Int32)) M
  | k + 1, 2, S, L, M => if bz (L 100) = true then some (L 100, S) else none
  | _ + 1, _ + 3, _, _, _ => none
set_option maxHeartbeats 8000000 in
set_option maxRecDepth 100000 in
theorem w_Mod_isPlainText {p : Program} {l : Launch} {e : Env} {R : Room} {s : State} {m : MethodId} {args : Array Value} {below : List Frame} {meth : Method} {c : Code} {cells slots : Nat} {Q : State → Prop} {g : gG} {A : Nat → Prop} {ad : Nat → Nat} (hx : p.tables.exec = Jvm.exec) (hb : c.code = b_Mod_isPlainText) (hml : c.maxLocals = 2) (hown : s.vm.findClass "MacroMillModel" = some m.cls) (htt : ∀ w ∈ gt, w.before args s = true) (hK : va_K g.1 classes (tysG g) s) (hN : nw s) (hA : ∀ q : Nat, s.heap.size ≤ q → A q) (hRf : 2 ≤ R.frames) (hRl : 46 ≤ R.locals) (hRc : cells ≤ R.cells) (hRs : slots ≤ R.slots) (r : Int32) (S9 : sS)
    (kx_29 : ∀ (ls : Array Slot) (H : Heap) (locs : List Loc), narrow .boolean (.int r) = .int r → va_P g.1 classes (Sw shM g ad S9) H → va_D A (Sw shM g ad S9) → va_S A s.heap H locs → W p l e R s m args below meth c H locs cells slots Q (F0 m 29 ls [.int r])) :
    ∀ k9 : Nat, (∀ (S : sS) (L : Nat → Int32) (M : Nat → Int64) (ls : Array Slot) (H : Heap) (locs : List Loc), f_Mod_isPlainText k9 0 S L M = some (r, S9) → lv_has ls 2 [(0, .ref (ad 0)), (1, .int (L 1))] → va_P g.1 classes (Sw shM g ad S) H → va_D A (Sw shM g ad S) → va_S A s.heap H locs → W p l e R s m args below meth c H locs cells slots Q (F0 m 0 ls [])) ∧ (∀ (S : sS) (L : Nat → Int32) (M : Nat → Int64) (ls : Array Slot) (H : Heap) (locs : List Loc), f_Mod_isPlainText k9 1 S L M = some (r, S9) → lv_has ls 2 [(0, .ref (ad 0)), (1, .int (L 1))] → va_P g.1 classes (Sw shM g ad S) H → va_D A (Sw shM g ad S) → va_S A s.heap H locs → W p l e R s m args below meth c H locs cells slots Q (F0 m 28 ls [])) ∧ (∀ (S : sS) (L : Nat → Int32) (M : Nat → Int64) (ls : Array Slot) (H : Heap) (locs : List Loc), f_Mod_isPlainText k9 2 S L M = some (r, S9) → lv_has ls 2 [(0, .ref (ad 0)), (1, .int (L 1))] → va_P g.1 classes (Sw shM g ad S) H → va_D A (Sw shM g ad S) → va_S A s.heap H locs → W p l e R s m args below meth c H locs cells slots Q (F0 m 29 ls [.int (L 100)])) := by
  intro k9
  induction k9 with
  | zero => exact ⟨(fun _ _ _ _ _ _ h => by simp [f_Mod_isPlainText] at h), (fun _ _ _ _ _ _ h => by simp [f_Mod_isPlainText] at h), (fun _ _ _ _ _ _ h => by simp [f_Mod_isPlainText] at h)⟩
  | succ k9 ih =>
    refine ⟨?_, ?_, ?_⟩
    · intro S L M ls H locs h hl hP hD hS
      simp only [f_Mod_isPlainText] at h
      refine lv_iload_n hx hb d_Mod_isPlainText_0 rfl (lv_at hl 1 rfl) ?_
      refine lv_if_lt (tgt := 28) hx hb d_Mod_isPlainText_1 (by decide) (fun hc1 => ?_) (fun hc1 => ?_)
      · rw [if_pos hc1] at h
        exact (ih.2.1) S L M ls H locs h (lv_sub hl [0, 1] rfl) hP hD hS
      · rw [if_neg hc1] at h
        refine lv_aload_n hx hb d_Mod_isPlainText_4 rfl (lv_at hl 0 rfl) ?_
        refine lv_iload_n hx hb d_Mod_isPlainText_5 rfl (lv_at hl 1 rfl) ?_
        obtain ⟨⟨r2, T2⟩, hq2, h⟩ := Option.bind_eq_some_iff.mp h
        try dsimp only at h
        refine go_iS (As := [.ref (ad 0), .int (L 1)]) (g := g) (A := A) (h := shM) hP hK hD hS hA hN (fun hp => va_runV (As := [.int (L 1)]) (rest := []) ⟨hx, hb, hml, hown, htt⟩ (t_Mod_kindOf l g _ ad S (L 1 : Int32) k9 r2 T2 hq2) ⟨(cb_L htt k_3036 k_276 k_3033 hd_Mod_kindOf ⟨(Nat.le_trans (by decide +kernel) hRf), (Nat.le_trans (by decide +kernel) hRl)⟩), htt _ k_3035, htt _ k_198⟩ ⟨hp.1, S_recv hK hP 0 rfl rfl, hp.2⟩ rfl rfl hl.1 rfl (lv_room (Nat.le_of_ble_eq_true rfl)) d_Mod_isPlainText_6 ⟨hRc, hRs⟩) (fun r0 Sn H locs hw9 hP hD hS => ?_)
        obtain ⟨e9, e8⟩ := hw9
        rw [e8] at hP hD
        refine W.widen (k := cells) (n := slots) (Nat.le_refl _) (Nat.le_refl _) ?_
        refine toI (y := r2) e9 ?_
        refine lv_iconst (v := 3) hx hb d_Mod_isPlainText_9 (by decide) ?_
        refine lv_icmp_ne (tgt := 28) hx hb d_Mod_isPlainText_10 (by decide) (fun hc3 => ?_) (fun hc3 => ?_)
        · rw [if_neg hc3] at h
          exact (ih.2.1) T2 L M ls H locs h (lv_sub hl [0, 1] rfl) hP hD hS
        · rw [if_pos hc3] at h
          refine lv_aload_n hx hb d_Mod_isPlainText_13 rfl (lv_at hl 0 rfl) ?_
          refine lv_iload_n hx hb d_Mod_isPlainText_14 rfl (lv_at hl 1 rfl) ?_
          refine lv_iconst (v := 0) hx hb d_Mod_isPlainText_15 (by decide) ?_
          obtain ⟨⟨r4, T4⟩, hq4, h⟩ := Option.bind_eq_some_iff.mp h
          try dsimp only at h
          refine go_iS (As := [.ref (ad 0), .int (L 1), .int 0]) (g := g) (A := A) (h := shM) hP hK hD hS hA hN (fun hp => va_runV (As := [.int (L 1), .int 0]) (rest := []) ⟨hx, hb, hml, hown, htt⟩ (t_Mod_byteOf l g _ ad T2 (L 1 : Int32) (0 : Int32) k9 r4 T4 hq4) ⟨(cb_L htt k_3016 k_276 k_3013 hd_Mod_byteOf ⟨(Nat.le_trans (by decide +kernel) hRf), (Nat.le_trans (by decide +kernel) hRl)⟩), htt _ k_3015, htt _ k_193⟩ ⟨hp.1, S_recv hK hP 0 rfl rfl, hp.2⟩ rfl rfl hl.1 rfl (lv_room (Nat.le_of_ble_eq_true rfl)) d_Mod_isPlainText_16 ⟨hRc, hRs⟩) (fun r0 Sn H locs hw9 hP hD hS => ?_)
          obtain ⟨e9, e8⟩ := hw9
          rw [e8] at hP hD
          refine W.widen (k := cells) (n := slots) (Nat.le_refl _) (Nat.le_refl _) ?_
          refine toI (y := r4) e9 ?_
          refine lv_bipush (v := 34) hx hb d_Mod_isPlainText_19 (by decide) ?_
          refine lv_icmp_ne (tgt := 28) hx hb d_Mod_isPlainText_21 (by decide) (fun hc5 => ?_) (fun hc5 => ?_)
          · rw [if_neg hc5] at h
            exact (ih.2.1) T4 L M ls H locs h (lv_sub hl [0, 1] rfl) hP hD hS
          · rw [if_pos hc5] at h
            refine lv_iconst (v := 1) hx hb d_Mod_isPlainText_24 (by decide) ?_
            refine lv_goto (tgt := 29) hx hb d_Mod_isPlainText_25 (by decide) ?_
            exact (ih.2.2) T4 (upd L 100 (1 : Int32)) M ls H locs h (lv_sub hl [0, 1] rfl) hP hD hS
    · intro S L M ls H locs h hl hP hD hS
      simp only [f_Mod_isPlainText] at h
      refine lv_iconst (v := 0) hx hb d_Mod_isPlainText_28 (by decide) ?_
      exact (ih.2.2) S (upd L 100 (0 : Int32)) M ls H locs h (lv_sub hl [0, 1] rfl) hP hD hS
    · intro S L M ls H locs h hl hP hD hS
      simp only [f_Mod_isPlainText] at h
      obtain ⟨hv1, h⟩ := chk h
      cases h
      exact kx_29 ls H locs (bz_n hv1) hP hD hS
abbrev rm_t_Mod_isPlainText : Room := { frames := 2, cells := 0, slots := 0, locals := 46 }
theorem t_Mod_isPlainText (l : Launch) (g : gG) (sz : Nat) (ad : Nat → Nat) (S : sS) (v1 : Int32) (k : Nat) (r : Int32) (S9 : sS) (h : f_Mod_isPlainText k 0 S (upd (fun _ => 0) 1 v1) (fun _ => 0) = some (r, S9)) : Cz l y_Mod_isPlainText b_Mod_isPlainText 2 rm_t_Mod_isPlainText g [.ref (ad 0), .int v1] (Sw shM g ad S) sz (fun r1 w => ∃ S1 : sS, w = Sw shM g ad S1 ∧ r1 = r ∧ S1 = S9) := by
  refine startZ (by decide) (Nat.le_of_ble_eq_true rfl) ?_
  intro p e s m below meth c A ls hx hb hr hml hlocks hmn hown htt hN hA hP hK hD hS hl
  exact (w_Mod_isPlainText hx hb hml hown htt hK hN hA (by decide +kernel) (by decide +kernel) (by decide +kernel) (by decide +kernel) r S9 (fun ls H locs hz hP hD hS => fin_z (g := g) (ws := Sw shM g ad S9) hx hb hr hlocks hz (by decide +kernel) (by decide +kernel) hP hD hS ⟨_, rfl, rfl, rfl⟩ d_Mod_isPlainText_29) k).1 S (upd (fun _ => 0) 1 v1) (fun _ => 0) ls _ _ h hl hP hD hS
def f_Mod_sizeNow : Nat → Nat → sS → (Nat → Int32) → (Nat → Int64) → Option (Int32 × sS)
  | 0, _, _, _, _ => none
  | k + 1, 0, S, L, M => if (L 1) = (S.1 0 132) then (f_Mod_sizeNow k 1 S (upd L 100 (S.1 0 133)) M) else (if okI (L 1) 32 = true then (f_Mod_sizeNow k 1 S (upd L 100 (S.2.1 5 (L 1 : Int32).toNatClampNeg)) M) else none)
  | k + 1, 1, S, L, M => some (L 100, S)
  | _ + 1, _ + 2, _, _, _ => none
set_option maxHeartbeats 8000000 in
set_option maxRecDepth 100000 in
theorem w_Mod_sizeNow {p : Program} {l : Launch} {e : Env} {R : Room} {s : State} {m : MethodId} {args : Array Value} {below : List Frame} {meth : Method} {c : Code} {cells slots : Nat} {Q : State → Prop} {g : gG} {A : Nat → Prop} {ad : Nat → Nat} (hx : p.tables.exec = Jvm.exec) (hb : c.code = b_Mod_sizeNow) (hml : c.maxLocals = 2) (hown : s.vm.findClass "MacroMillModel" = some m.cls) (htt : ∀ w ∈ gt, w.before args s = true) (hK : va_K g.1 classes (tysG g) s) (hN : nw s) (hA : ∀ q : Nat, s.heap.size ≤ q → A q) (r : Int32) (S9 : sS)
    (kx_21 : ∀ (ls : Array Slot) (H : Heap) (locs : List Loc), va_P g.1 classes (Sw shM g ad S9) H → va_D A (Sw shM g ad S9) → va_S A s.heap H locs → W p l e R s m args below meth c H locs cells slots Q (F0 m 21 ls [.int r])) :
    ∀ k9 : Nat, (∀ (S : sS) (L : Nat → Int32) (M : Nat → Int64) (ls : Array Slot) (H : Heap) (locs : List Loc), f_Mod_sizeNow k9 0 S L M = some (r, S9) → lv_has ls 2 [(0, .ref (ad 0)), (1, .int (L 1))] → va_P g.1 classes (Sw shM g ad S) H → va_D A (Sw shM g ad S) → va_S A s.heap H locs → W p l e R s m args below meth c H locs cells slots Q (F0 m 0 ls [])) ∧ (∀ (S : sS) (L : Nat → Int32) (M : Nat → Int64) (ls : Array Slot) (H : Heap) (locs : List Loc), f_Mod_sizeNow k9 1 S L M = some (r, S9) → lv_has ls 2 [(0, .ref (ad 0)), (1, .int (L 1))] → va_P g.1 classes (Sw shM g ad S) H → va_D A (Sw shM g ad S) → va_S A s.heap H locs → W p l e R s m args below meth c H locs cells slots Q (F0 m 21 ls [.int (L 100)])) := by
  intro k9
  induction k9 with
  | zero => exact ⟨(fun _ _ _ _ _ _ h => by simp [f_Mod_sizeNow] at h), (fun _ _ _ _ _ _ h => by simp [f_Mod_sizeNow] at h)⟩
  | succ k9 ih =>
    refine ⟨?_, ?_⟩
    · intro S L M ls H locs h hl hP hD hS
      simp only [f_Mod_sizeNow] at h
      refine lv_iload_n hx hb d_Mod_sizeNow_0 rfl (lv_at hl 1 rfl) ?_
      refine lv_aload_n hx hb d_Mod_sizeNow_1 rfl (lv_at hl 0 rfl) ?_
      refine S_getI (h := shM) (C := "MacroMillModel") (T := F_Mod) hx hb htt in_Mod hown hK hP 0 132 rfl rfl rfl (by decide) (htt _ k_2368) (fun _ h9 => h9) d_Mod_sizeNow_2 ?_
      refine lv_icmp_ne (tgt := 15) hx hb d_Mod_sizeNow_5 (by decide) (fun hc1 => ?_) (fun hc1 => ?_)
      · rw [if_neg hc1] at h
        refine lv_aload_n hx hb d_Mod_sizeNow_15 rfl (lv_at hl 0 rfl) ?_
        refine S_getR (h := shM) (C := "MacroMillModel") (T := F_Mod) hx hb htt in_Mod hown hK hP 0 8 rfl 6 rfl rfl (by decide) (htt _ k_2244) (fun _ h9 => h9) d_Mod_sizeNow_16 ?_
        refine lv_iload_n hx hb d_Mod_sizeNow_19 rfl (lv_at hl 1 rfl) ?_
        obtain ⟨hv2, h⟩ := chk h
        refine S_iald (h := shM) (i := L 1) hx hb hK hP 5 rfl (okI_in hv2) d_Mod_sizeNow_20 ?_
        exact (ih.2) S (upd L 100 (S.2.1 5 (L 1 : Int32).toNatClampNeg)) M ls H locs h (lv_sub hl [0, 1] rfl) hP hD hS
      · rw [if_pos hc1] at h
        refine lv_aload_n hx hb d_Mod_sizeNow_8 rfl (lv_at hl 0 rfl) ?_
        refine S_getI (h := shM) (C := "MacroMillModel") (T := F_Mod) hx hb htt in_Mod hown hK hP 0 133 rfl rfl rfl (by decide) (htt _ k_2369) (fun _ h9 => h9) d_Mod_sizeNow_9 ?_
        refine lv_goto (tgt := 21) hx hb d_Mod_sizeNow_12 (by decide) ?_
        exact (ih.2) S (upd L 100 (S.1 0 133)) M ls H locs h (lv_sub hl [0, 1] rfl) hP hD hS
    · intro S L M ls H locs h hl hP hD hS
      simp only [f_Mod_sizeNow] at h
      cases h
      exact kx_21 ls H locs hP hD hS
abbrev rm_t_Mod_sizeNow : Room := { frames := 0, cells := 0, slots := 0, locals := 0 }
theorem t_Mod_sizeNow (l : Launch) (g : gG) (sz : Nat) (ad : Nat → Nat) (S : sS) (v1 : Int32) (k : Nat) (r : Int32) (S9 : sS) (h : f_Mod_sizeNow k 0 S (upd (fun _ => 0) 1 v1) (fun _ => 0) = some (r, S9)) : Ci l y_Mod_sizeNow b_Mod_sizeNow 2 rm_t_Mod_sizeNow g [.ref (ad 0), .int v1] (Sw shM g ad S) sz (fun r1 w => ∃ S1 : sS, w = Sw shM g ad S1 ∧ r1 = r ∧ S1 = S9) := by
  refine startI (by decide) (Nat.le_of_ble_eq_true rfl) ?_
  intro p e s m below meth c A ls hx hb hr hml hlocks hmn hown htt hN hA hP hK hD hS hl
  exact (w_Mod_sizeNow hx hb hml hown htt hK hN hA r S9 (fun ls H locs hP hD hS => fin_i (g := g) (ws := Sw shM g ad S9) hx hb hr hlocks (by decide +kernel) (by decide +kernel) hP hD hS ⟨_, rfl, rfl, rfl⟩ d_Mod_sizeNow_21) k).1 S (upd (fun _ => 0) 1 v1) (fun _ => 0) ls _ _ h hl hP hD hS
def f_Mod_enterFile : Nat → Nat → sS → (Nat → Int32) → (Nat → Int64) → Option (Int32 × sS)
  | 0, _, _, _, _ => none
  | k + 1, 0, S, L, M => if okI (S.1 0 92) 22 = true then (if okI (L 1) 32 = true then (if okI (S.1 0 92) 22 = true then (if okI (S.1 0 92) 22 = true then (if okI (S.1 0 92) 22 = true then (if okI (L 1) 32 = true then (if okI (S.1 0 92) 22 = true then (some ((0 : Int32), (putA (putA (putA (putA (putA S 48 (S.1 0 92 : Int32).toNatClampNeg (L 1)) 59 (S.1 0 92 : Int32).toNatClampNeg ((putA S 48 (S.1 0 92 : Int32).toNatClampNeg (L 1)).2.1 25 (L 1 : Int32).toNatClampNeg)) 49 (S.1 0 92 : Int32).toNatClampNeg 0) 50 (S.1 0 92 : Int32).toNatClampNeg (((-1) : Int32) - (L 1))) 51 (S.1 0 92 : Int32).toNatClampNeg ((putA (putA (putA (putA S 48 (S.1 0 92 : Int32).toNatClampNeg (L 1)) 59 (S.1 0 92 : Int32).toNatClampNeg ((putA S 48 (S.1 0 92 : Int32).toNatClampNeg (L 1)).2.1 25 (L 1 : Int32).toNatClampNeg)) 49 (S.1 0 92 : Int32).toNatClampNeg 0) 50 (S.1 0 92 : Int32).toNatClampNeg (((-1) : Int32) - (L 1))).2.1 2 (L 1 : Int32).toNatClampNeg)))) else none) else none) else none) else none) else none) else none) else none
  | _ + 1, _ + 1, _, _, _ => none
set_option maxHeartbeats 8000000 in
set_option maxRecDepth 100000 in
theorem w_Mod_enterFile {p : Program} {l : Launch} {e : Env} {R : Room} {s : State} {m : MethodId} {args : Array Value} {below : List Frame} {meth : Method} {c : Code} {cells slots : Nat} {Q : State → Prop} {g : gG} {A : Nat → Prop} {ad : Nat → Nat} (hx : p.tables.exec = Jvm.exec) (hb : c.code = b_Mod_enterFile) (hml : c.maxLocals = 2) (hown : s.vm.findClass "MacroMillModel" = some m.cls) (htt : ∀ w ∈ gt, w.before args s = true) (hK : va_K g.1 classes (tysG g) s) (hN : nw s) (hA : ∀ q : Nat, s.heap.size ≤ q → A q) (r : Int32) (S9 : sS)
    (kx_62 : ∀ (ls : Array Slot) (H : Heap) (locs : List Loc), va_P g.1 classes (Sw shM g ad S9) H → va_D A (Sw shM g ad S9) → va_S A s.heap H locs → W p l e R s m args below meth c H locs cells slots Q (F0 m 62 ls [])) :
    ∀ k9 : Nat, (∀ (S : sS) (L : Nat → Int32) (M : Nat → Int64) (ls : Array Slot) (H : Heap) (locs : List Loc), f_Mod_enterFile k9 0 S L M = some (r, S9) → lv_has ls 2 [(0, .ref (ad 0)), (1, .int (L 1))] → va_P g.1 classes (Sw shM g ad S) H → va_D A (Sw shM g ad S) → va_S A s.heap H locs → W p l e R s m args below meth c H locs cells slots Q (F0 m 0 ls [])) := by
  intro k9
  induction k9 with
  | zero => exact (fun _ _ _ _ _ _ h => by simp [f_Mod_enterFile] at h)
  | succ k9 ih =>
    · intro S L M ls H locs h hl hP hD hS
      simp only [f_Mod_enterFile] at h
      refine lv_aload_n hx hb d_Mod_enterFile_0 rfl (lv_at hl 0 rfl) ?_
      refine S_getR (h := shM) (C := "MacroMillModel") (T := F_Mod) hx hb htt in_Mod hown hK hP 0 94 rfl 49 rfl rfl (by decide) (htt _ k_2330) (fun _ h9 => h9) d_Mod_enterFile_1 ?_
      refine lv_aload_n hx hb d_Mod_enterFile_4 rfl (lv_at hl 0 rfl) ?_
      refine S_getI (h := shM) (C := "MacroMillModel") (T := F_Mod) hx hb htt in_Mod hown hK hP 0 92 rfl rfl rfl (by decide) (htt _ k_2328) (fun _ h9 => h9) d_Mod_enterFile_5 ?_
      refine lv_iload_n hx hb d_Mod_enterFile_8 rfl (lv_at hl 1 rfl) ?_
      obtain ⟨hv1, h⟩ := chk h
      refine S_iast (h := shM) (i := S.1 0 92) (v := L 1) hx hb hK hP hD hS 48 rfl (okI_in hv1) d_Mod_enterFile_9 (fun H locs hP hD hS => ?_)
      refine lv_aload_n hx hb d_Mod_enterFile_10 rfl (lv_at hl 0 rfl) ?_
      refine S_getR (h := shM) (C := "MacroMillModel") (T := F_Mod) hx hb htt in_Mod hown hK hP 0 107 rfl 60 rfl rfl (by decide) (htt _ k_2343) (fun _ h9 => h9) d_Mod_enterFile_11 ?_
      refine lv_aload_n hx hb d_Mod_enterFile_14 rfl (lv_at hl 0 rfl) ?_
      refine S_getI (h := shM) (C := "MacroMillModel") (T := F_Mod) hx hb htt in_Mod hown hK hP 0 92 rfl rfl rfl (by decide) (htt _ k_2328) (fun _ h9 => h9) d_Mod_enterFile_15 ?_
      refine toI (y := S.1 0 92) rfl ?_
      refine lv_aload_n hx hb d_Mod_enterFile_18 rfl (lv_at hl 0 rfl) ?_
      show W _ _ _ _ _ _ _ _ _ _ _ _ _ _ _ (F0 _ 19 _ _)
      refine S_getR (h := shM) (C := "MacroMillModel") (T := F_Mod) hx hb htt in_Mod hown hK hP 0 62 rfl 26 rfl rfl (by decide) (htt _ k_2298) (fun _ h9 => h9) d_Mod_enterFile_19 ?_
      refine lv_iload_n hx hb d_Mod_enterFile_22 rfl (lv_at hl 1 rfl) ?_
      obtain ⟨hv2, h⟩ := chk h
      refine S_iald (h := shM) (i := L 1) hx hb hK hP 25 rfl (okI_in hv2) d_Mod_enterFile_23 ?_
      obtain ⟨hv3, h⟩ := chk h
      refine S_iast (h := shM) (i := S.1 0 92) (v := (putA S 48 (S.1 0 92 : Int32).toNatClampNeg (L 1)).2.1 25 (L 1 : Int32).toNatClampNeg) hx hb hK hP hD hS 59 rfl (okI_in hv3) d_Mod_enterFile_24 (fun H locs hP hD hS => ?_)
      refine lv_aload_n hx hb d_Mod_enterFile_25 rfl (lv_at hl 0 rfl) ?_
      refine S_getR (h := shM) (C := "MacroMillModel") (T := F_Mod) hx hb htt in_Mod hown hK hP 0 95 rfl 50 rfl rfl (by decide) (htt _ k_2331) (fun _ h9 => h9) d_Mod_enterFile_26 ?_
      refine lv_aload_n hx hb d_Mod_enterFile_29 rfl (lv_at hl 0 rfl) ?_
      refine S_getI (h := shM) (C := "MacroMillModel") (T := F_Mod) hx hb htt in_Mod hown hK hP 0 92 rfl rfl rfl (by decide) (htt _ k_2328) (fun _ h9 => h9) d_Mod_enterFile_30 ?_
      refine toI (y := S.1 0 92) rfl ?_
      refine lv_iconst (v := 0) hx hb d_Mod_enterFile_33 (by decide) ?_
      obtain ⟨hv4, h⟩ := chk h
      refine S_iast (h := shM) (i := S.1 0 92) (v := 0) hx hb hK hP hD hS 49 rfl (okI_in hv4) d_Mod_enterFile_34 (fun H locs hP hD hS => ?_)
      refine lv_aload_n hx hb d_Mod_enterFile_35 rfl (lv_at hl 0 rfl) ?_
      refine S_getR (h := shM) (C := "MacroMillModel") (T := F_Mod) hx hb htt in_Mod hown hK hP 0 96 rfl 51 rfl rfl (by decide) (htt _ k_2332) (fun _ h9 => h9) d_Mod_enterFile_36 ?_
      show W _ _ _ _ _ _ _ _ _ _ _ _ _ _ _ (F0 _ 39 _ _)
      refine lv_aload_n hx hb d_Mod_enterFile_39 rfl (lv_at hl 0 rfl) ?_
      refine S_getI (h := shM) (C := "MacroMillModel") (T := F_Mod) hx hb htt in_Mod hown hK hP 0 92 rfl rfl rfl (by decide) (htt _ k_2328) (fun _ h9 => h9) d_Mod_enterFile_40 ?_
      refine toI (y := S.1 0 92) rfl ?_
      refine lv_iconst (v := (-1)) hx hb d_Mod_enterFile_43 (by decide) ?_
      refine lv_iload_n hx hb d_Mod_enterFile_44 rfl (lv_at hl 1 rfl) ?_
      refine lv_isub hx hb d_Mod_enterFile_45 ?_
      obtain ⟨hv5, h⟩ := chk h
      refine S_iast (h := shM) (i := S.1 0 92) (v := ((-1) : Int32) - (L 1)) hx hb hK hP hD hS 50 rfl (okI_in hv5) d_Mod_enterFile_46 (fun H locs hP hD hS => ?_)
      refine lv_aload_n hx hb d_Mod_enterFile_47 rfl (lv_at hl 0 rfl) ?_
      refine S_getR (h := shM) (C := "MacroMillModel") (T := F_Mod) hx hb htt in_Mod hown hK hP 0 97 rfl 52 rfl rfl (by decide) (htt _ k_2333) (fun _ h9 => h9) d_Mod_enterFile_48 ?_
      refine lv_aload_n hx hb d_Mod_enterFile_51 rfl (lv_at hl 0 rfl) ?_
      refine S_getI (h := shM) (C := "MacroMillModel") (T := F_Mod) hx hb htt in_Mod hown hK hP 0 92 rfl rfl rfl (by decide) (htt _ k_2328) (fun _ h9 => h9) d_Mod_enterFile_52 ?_
      refine toI (y := S.1 0 92) rfl ?_
      refine lv_aload_n hx hb d_Mod_enterFile_55 rfl (lv_at hl 0 rfl) ?_
      refine S_getR (h := shM) (C := "MacroMillModel") (T := F_Mod) hx hb htt in_Mod hown hK hP 0 5 rfl 3 rfl rfl (by decide) (htt _ k_2241) (fun _ h9 => h9) d_Mod_enterFile_56 ?_
      show W _ _ _ _ _ _ _ _ _ _ _ _ _ _ _ (F0 _ 59 _ _)
      refine lv_iload_n hx hb d_Mod_enterFile_59 rfl (lv_at hl 1 rfl) ?_
      obtain ⟨hv6, h⟩ := chk h
      refine S_iald (h := shM) (i := L 1) hx hb hK hP 2 rfl (okI_in hv6) d_Mod_enterFile_60 ?_
      obtain ⟨hv7, h⟩ := chk h
      refine S_iast (h := shM) (i := S.1 0 92) (v := (putA (putA (putA (putA S 48 (S.1 0 92 : Int32).toNatClampNeg (L 1)) 59 (S.1 0 92 : Int32).toNatClampNeg ((putA S 48 (S.1 0 92 : Int32).toNatClampNeg (L 1)).2.1 25 (L 1 : Int32).toNatClampNeg)) 49 (S.1 0 92 : Int32).toNatClampNeg 0) 50 (S.1 0 92 : Int32).toNatClampNeg (((-1) : Int32) - (L 1))).2.1 2 (L 1 : Int32).toNatClampNeg) hx hb hK hP hD hS 51 rfl (okI_in hv7) d_Mod_enterFile_61 (fun H locs hP hD hS => ?_)
      cases h
      exact kx_62 ls H locs hP hD hS
abbrev rm_t_Mod_enterFile : Room := { frames := 0, cells := 0, slots := 0, locals := 0 }
theorem t_Mod_enterFile (l : Launch) (g : gG) (sz : Nat) (ad : Nat → Nat) (S : sS) (v1 : Int32) (k : Nat) (r : Int32) (S9 : sS) (h : f_Mod_enterFile k 0 S (upd (fun _ => 0) 1 v1) (fun _ => 0) = some (r, S9)) : Cv l y_Mod_enterFile b_Mod_enterFile 2 rm_t_Mod_enterFile g [.ref (ad 0), .int v1] (Sw shM g ad S) sz (fun w => ∃ S1 : sS, w = Sw shM g ad S1 ∧ S1 = S9) := by
  refine startV (by decide) (Nat.le_of_ble_eq_true rfl) ?_
  intro p e s m below meth c A ls hx hb hr hml hlocks hmn hown htt hN hA hP hK hD hS hl
  exact (w_Mod_enterFile hx hb hml hown htt hK hN hA r S9 (fun ls H locs hP hD hS => fin_v (g := g) (ws := Sw shM g ad S9) hx hb hr hlocks (by decide +kernel) (by decide +kernel) hP hD hS ⟨_, rfl, rfl⟩ d_Mod_enterFile_62) k) S (upd (fun _ => 0) 1 v1) (fun _ => 0) ls _ _ h hl hP hD hS
def f_Mod_goOn : Nat → Nat → sS → (Nat → Int32) → (Nat → Int64) → Option (Int32 × sS)
  | 0, _, _, _, _ => none
  | k + 1, 0, S, L, M => if (S.1 0 134) < (0 : Int32) then (f_Mod_goOn k 1 S (upd L 101 ((-1) : Int32)) M) else (if okI (S.1 0 134) 260000 = true then (f_Mod_goOn k 1 S (upd L 101 (S.2.1 31 (S.1 0 134 : Int32).toNatClampNeg)) M) else none)
  | k + 1, 1, S, L, M => some ((0 : Int32), (putI S 0 134 (L 101)))
  | _ + 1, _ + 2, _, _, _ => none
set_option maxHeartbeats 8000000 in
set_option maxRecDepth 100000 in
theorem w_Mod_goOn {p : Program} {l : Launch} {e : Env} {R : Room} {s : State} {m : MethodId} {args : Array Value} {below : List Frame} {meth : Method} {c : Code} {cells slots : Nat} {Q : State → Prop} {g : gG} {A : Nat → Prop} {ad : Nat → Nat} (hx : p.tables.exec = Jvm.exec) (hb : c.code = b_Mod_goOn) (hml : c.maxLocals = 1) (hown : s.vm.findClass "MacroMillModel" = some m.cls) (htt : ∀ w ∈ gt, w.before args s = true) (hK : va_K g.1 classes (tysG g) s) (hN : nw s) (hA : ∀ q : Nat, s.heap.size ≤ q → A q) (r : Int32) (S9 : sS)
    (kx_24 : ∀ (ls : Array Slot) (H : Heap) (locs : List Loc), va_P g.1 classes (Sw shM g ad S9) H → va_D A (Sw shM g ad S9) → va_S A s.heap H locs → W p l e R s m args below meth c H locs cells slots Q (F0 m 24 ls [])) :
    ∀ k9 : Nat, (∀ (S : sS) (L : Nat → Int32) (M : Nat → Int64) (ls : Array Slot) (H : Heap) (locs : List Loc), f_Mod_goOn k9 0 S L M = some (r, S9) → lv_has ls 1 [(0, .ref (ad 0))] → va_P g.1 classes (Sw shM g ad S) H → va_D A (Sw shM g ad S) → va_S A s.heap H locs → W p l e R s m args below meth c H locs cells slots Q (F0 m 0 ls [])) ∧ (∀ (S : sS) (L : Nat → Int32) (M : Nat → Int64) (ls : Array Slot) (H : Heap) (locs : List Loc), f_Mod_goOn k9 1 S L M = some (r, S9) → lv_has ls 1 [(0, .ref (ad 0))] → va_P g.1 classes (Sw shM g ad S) H → va_D A (Sw shM g ad S) → va_S A s.heap H locs → W p l e R s m args below meth c H locs cells slots Q (F0 m 21 ls [.int (L 101), .ref (ad 0)])) := by
  intro k9
  induction k9 with
  | zero => exact ⟨(fun _ _ _ _ _ _ h => by simp [f_Mod_goOn] at h), (fun _ _ _ _ _ _ h => by simp [f_Mod_goOn] at h)⟩
  | succ k9 ih =>
    refine ⟨?_, ?_⟩
    · intro S L M ls H locs h hl hP hD hS
      simp only [f_Mod_goOn] at h
      refine lv_aload_n hx hb d_Mod_goOn_0 rfl (lv_at hl 0 rfl) ?_
      refine lv_aload_n hx hb d_Mod_goOn_1 rfl (lv_at hl 0 rfl) ?_
      refine S_getI (h := shM) (C := "MacroMillModel") (T := F_Mod) hx hb htt in_Mod hown hK hP 0 134 rfl rfl rfl (by decide) (htt _ k_2370) (fun _ h9 => h9) d_Mod_goOn_2 ?_
      refine lv_if_lt (tgt := 20) hx hb d_Mod_goOn_5 (by decide) (fun hc1 => ?_) (fun hc1 => ?_)
      · rw [if_pos hc1] at h
        refine lv_iconst (v := (-1)) hx hb d_Mod_goOn_20 (by decide) ?_
        exact (ih.2) S (upd L 101 ((-1) : Int32)) M ls H locs h (lv_sub hl [0] rfl) hP hD hS
      · rw [if_neg hc1] at h
        refine lv_aload_n hx hb d_Mod_goOn_8 rfl (lv_at hl 0 rfl) ?_
        refine S_getR (h := shM) (C := "MacroMillModel") (T := F_Mod) hx hb htt in_Mod hown hK hP 0 72 rfl 32 rfl rfl (by decide) (htt _ k_2308) (fun _ h9 => h9) d_Mod_goOn_9 ?_
        refine lv_aload_n hx hb d_Mod_goOn_12 rfl (lv_at hl 0 rfl) ?_
        refine S_getI (h := shM) (C := "MacroMillModel") (T := F_Mod) hx hb htt in_Mod hown hK hP 0 134 rfl rfl rfl (by decide) (htt _ k_2370) (fun _ h9 => h9) d_Mod_goOn_13 ?_
        obtain ⟨hv2, h⟩ := chk h
        refine S_iald (h := shM) (i := S.1 0 134) hx hb hK hP 31 rfl (okI_in hv2) d_Mod_goOn_16 ?_
        refine lv_goto (tgt := 21) hx hb d_Mod_goOn_17 (by decide) ?_
        exact (ih.2) S (upd L 101 (S.2.1 31 (S.1 0 134 : Int32).toNatClampNeg)) M ls H locs h (lv_sub hl [0] rfl) hP hD hS
    · intro S L M ls H locs h hl hP hD hS
      simp only [f_Mod_goOn] at h
      refine S_put (h := shM) (C := "MacroMillModel") (T := F_Mod) (v := L 101) hx hb htt in_Mod t_Mod t_Mod_ok n_Mod hown hK hP hD hS 0 134 rfl rfl rfl (by decide) (htt _ k_2370) (fun _ h9 => h9) rfl rfl rfl d_Mod_goOn_21 (fun H locs hP hD hS => ?_)
      cases h
      exact kx_24 ls H locs hP hD hS
abbrev rm_t_Mod_goOn : Room := { frames := 0, cells := 0, slots := 0, locals := 0 }
theorem t_Mod_goOn (l : Launch) (g : gG) (sz : Nat) (ad : Nat → Nat) (S : sS) (k : Nat) (r : Int32) (S9 : sS) (h : f_Mod_goOn k 0 S (fun _ => 0) (fun _ => 0) = some (r, S9)) : Cv l y_Mod_goOn b_Mod_goOn 1 rm_t_Mod_goOn g [.ref (ad 0)] (Sw shM g ad S) sz (fun w => ∃ S1 : sS, w = Sw shM g ad S1 ∧ S1 = S9) := by
  refine startV (by decide) (Nat.le_of_ble_eq_true rfl) ?_
  intro p e s m below meth c A ls hx hb hr hml hlocks hmn hown htt hN hA hP hK hD hS hl
  exact (w_Mod_goOn hx hb hml hown htt hK hN hA r S9 (fun ls H locs hP hD hS => fin_v (g := g) (ws := Sw shM g ad S9) hx hb hr hlocks (by decide +kernel) (by decide +kernel) hP hD hS ⟨_, rfl, rfl⟩ d_Mod_goOn_24) k).1 S (fun _ => 0) (fun _ => 0) ls _ _ h hl hP hD hS
def f_Mod_isNeeded : Nat → Nat → sS → (Nat → Int32) → (Nat → Int64) → Option (Int32 × sS)
  | 0, _, _, _, _ => none
  | k + 1, 0, S, L, M => f_Mod_isNeeded k 1 S (upd (upd L 3 (L 2)) 4 (L 1)) M
  | k + 1, 1, S, L, M => if (S.1 0 139) ≤ (L 4) then (if bz (L 3) = true then some (L 3, S) else none) else (if (L 3) = (0 : Int32) then (f_Mod_isNeeded k 4 S L M) else (if okI (L 4) 800 = true then (if (S.2.1 68 (L 4 : Int32).toNatClampNeg) = (0 : Int32) then (if okI (L 4) 800 = true then (if (lg_cmp (S.2.2 69 (L 4 : Int32).toNatClampNeg) (0 : Int64)) = (0 : Int32) then (f_Mod_isNeeded k 2 S L M) else (f_Mod_isNeeded k 4 S L M)) else none) else (f_Mod_isNeeded k 2 S L M)) else none))
  | k + 1, 2, S, L, M => if okI (L 4) 800 = true then (if (S.2.1 68 (L 4 : Int32).toNatClampNeg) = (1 : Int32) then (if okI (L 4) 800 = true then (if (lg_cmp (S.2.2 69 (L 4 : Int32).toNatClampNeg) (0 : Int64)) = (0 : Int32) then (f_Mod_isNeeded k 4 S L M) else (f_Mod_isNeeded k 3 S L M)) else none) else (f_Mod_isNeeded k 3 S L M)) else none
  | k + 1, 3, S, L, M => f_Mod_isNeeded k 5 S (upd L 100 (1 : Int32)) M
  | k + 1, 4, S, L, M => f_Mod_isNeeded k 5 S (upd L 100 (0 : Int32)) M
  | k + 1, 5, S, L, M => f_Mod_isNeeded k 1 S (upd (upd L 3 (L 100)) 4 ((L 4) + 1)) M
  | _ + 1, _ + 6, _, _, _ => none
set_option maxHeartbeats 8000000 in
set_option maxRecDepth 100000 in
theorem w_Mod_isNeeded {p : Program} {l : Launch} {e : Env} {R : Room} {s : State} {m : MethodId} {args : Array Value} {below : List Frame} {meth : Method} {c : Code} {cells slots : Nat} {Q : State → Prop} {g : gG} {A : Nat → Prop} {ad : Nat → Nat} (hx : p.tables.exec = Jvm.exec) (hb : c.code = b_Mod_isNeeded) (hml : c.maxLocals = 5) (hown : s.vm.findClass "MacroMillModel" = some m.cls) (htt : ∀ w ∈ gt, w.before args s = true) (hK : va_K g.1 classes (tysG g) s) (hN : nw s) (hA : ∀ q : Nat, s.heap.size ≤ q → A q) (r : Int32) (S9 : sS)
    (kx_76 : ∀ (ls : Array Slot) (H : Heap) (locs : List Loc), narrow .boolean (.int r) = .int r → va_P g.1 classes (Sw shM g ad S9) H → va_D A (Sw shM g ad S9) → va_S A s.heap H locs → W p l e R s m args below meth c H locs cells slots Q (F0 m 76 ls [.int r])) :
    ∀ k9 : Nat, (∀ (S : sS) (L : Nat → Int32) (M : Nat → Int64) (ls : Array Slot) (H : Heap) (locs : List Loc), f_Mod_isNeeded k9 0 S L M = some (r, S9) → lv_has ls 5 [(0, .ref (ad 0)), (1, .int (L 1)), (2, .int (L 2))] → va_P g.1 classes (Sw shM g ad S) H → va_D A (Sw shM g ad S) → va_S A s.heap H locs → W p l e R s m args below meth c H locs cells slots Q (F0 m 0 ls [])) ∧ (∀ (S : sS) (L : Nat → Int32) (M : Nat → Int64) (ls : Array Slot) (H : Heap) (locs : List Loc), f_Mod_isNeeded k9 1 S L M = some (r, S9) → lv_has ls 5 [(0, .ref (ad 0)), (1, .int (L 1)), (2, .int (L 2)), (3, .int (L 3)), (4, .int (L 4))] → va_P g.1 classes (Sw shM g ad S) H → va_D A (Sw shM g ad S) → va_S A s.heap H locs → W p l e R s m args below meth c H locs cells slots Q (F0 m 5 ls [])) ∧ (∀ (S : sS) (L : Nat → Int32) (M : Nat → Int64) (ls : Array Slot) (H : Heap) (locs : List Loc), f_Mod_isNeeded k9 2 S L M = some (r, S9) → lv_has ls 5 [(0, .ref (ad 0)), (1, .int (L 1)), (2, .int (L 2)), (3, .int (L 3)), (4, .int (L 4))] → va_P g.1 classes (Sw shM g ad S) H → va_D A (Sw shM g ad S) → va_S A s.heap H locs → W p l e R s m args below meth c H locs cells slots Q (F0 m 40 ls [])) ∧ (∀ (S : sS) (L : Nat → Int32) (M : Nat → Int64) (ls : Array Slot) (H : Heap) (locs : List Loc), f_Mod_isNeeded k9 3 S L M = some (r, S9) → lv_has ls 5 [(0, .ref (ad 0)), (1, .int (L 1)), (2, .int (L 2)), (3, .int (L 3)), (4, .int (L 4))] → va_P g.1 classes (Sw shM g ad S) H → va_D A (Sw shM g ad S) → va_S A s.heap H locs → W p l e R s m args below meth c H locs cells slots Q (F0 m 63 ls [])) ∧ (∀ (S : sS) (L : Nat → Int32) (M : Nat → Int64) (ls : Array Slot) (H : Heap) (locs : List Loc), f_Mod_isNeeded k9 4 S L M = some (r, S9) → lv_has ls 5 [(0, .ref (ad 0)), (1, .int (L 1)), (2, .int (L 2)), (3, .int (L 3)), (4, .int (L 4))] → va_P g.1 classes (Sw shM g ad S) H → va_D A (Sw shM g ad S) → va_S A s.heap H locs → W p l e R s m args below meth c H locs cells slots Q (F0 m 67 ls [])) ∧ (∀ (S : sS) (L : Nat → Int32) (M : Nat → Int64) (ls : Array Slot) (H : Heap) (locs : List Loc), f_Mod_isNeeded k9 5 S L M = some (r, S9) → lv_has ls 5 [(0, .ref (ad 0)), (1, .int (L 1)), (2, .int (L 2)), (3, .int (L 3)), (4, .int (L 4))] → va_P g.1 classes (Sw shM g ad S) H → va_D A (Sw shM g ad S) → va_S A s.heap H locs → W p l e R s m args below meth c H locs cells slots Q (F0 m 68 ls [.int (L 100)])) := by
  intro k9
  induction k9 with
  | zero => exact ⟨(fun _ _ _ _ _ _ h => by simp [f_Mod_isNeeded] at h), (fun _ _ _ _ _ _ h => by simp [f_Mod_isNeeded] at h), (fun _ _ _ _ _ _ h => by simp [f_Mod_isNeeded] at h), (fun _ _ _ _ _ _ h => by simp [f_Mod_isNeeded] at h), (fun _ _ _ _ _ _ h => by simp [f_Mod_isNeeded] at h), (fun _ _ _ _ _ _ h => by simp [f_Mod_isNeeded] at h)⟩
  | succ k9 ih =>
    refine ⟨?_, ?_, ?_, ?_, ?_, ?_⟩
    · intro S L M ls H locs h hl hP hD hS
      simp only [f_Mod_isNeeded] at h
      refine lv_iload_n hx hb d_Mod_isNeeded_0 rfl (lv_at hl 2 rfl) ?_
      refine lv_istore_n (lv' := [(3, .int (L 2)), (0, .ref (ad 0)), (1, .int (L 1)), (2, .int (L 2))]) hx hb d_Mod_isNeeded_1 rfl hl (by decide) rfl (fun ls hl => ?_)
      refine lv_iload_n hx hb d_Mod_isNeeded_2 rfl (lv_at hl 2 rfl) ?_
      refine lv_istore (lv' := [(4, .int (L 1)), (3, .int (L 2)), (0, .ref (ad 0)), (1, .int (L 1)), (2, .int (L 2))]) hx hb d_Mod_isNeeded_3 hl (by decide) rfl (fun ls hl => ?_)
      exact (ih.2.1) S (upd (upd L 3 (L 2)) 4 (L 1)) M ls H locs h (lv_sub hl [2, 3, 4, 1, 0] rfl) hP hD hS
    · intro S L M ls H locs h hl hP hD hS
      simp only [f_Mod_isNeeded] at h
      refine lv_iload hx hb d_Mod_isNeeded_5 (lv_at hl 4 rfl) ?_
      refine lv_aload_n hx hb d_Mod_isNeeded_7 rfl (lv_at hl 0 rfl) ?_
      refine S_getI (h := shM) (C := "MacroMillModel") (T := F_Mod) hx hb htt in_Mod hown hK hP 0 139 rfl rfl rfl (by decide) (htt _ k_2375) (fun _ h9 => h9) d_Mod_isNeeded_8 ?_
      refine lv_icmp_ge (tgt := 75) hx hb d_Mod_isNeeded_11 (by decide) (fun hc1 => ?_) (fun hc1 => ?_)
      · rw [if_pos hc1] at h
        refine lv_iload_n hx hb d_Mod_isNeeded_75 rfl (lv_at hl 3 rfl) ?_
        obtain ⟨hv2, h⟩ := chk h
        cases h
        exact kx_76 ls H locs (bz_n hv2) hP hD hS
      · rw [if_neg hc1] at h
        refine lv_iload_n hx hb d_Mod_isNeeded_14 rfl (lv_at hl 3 rfl) ?_
        refine lv_if_eq (tgt := 67) hx hb d_Mod_isNeeded_15 (by decide) (fun hc3 => ?_) (fun hc3 => ?_)
        · rw [if_pos hc3] at h
          exact (ih.2.2.2.2.1) S L M ls H locs h (lv_sub hl [0, 1, 2, 3, 4] rfl) hP hD hS
        · rw [if_neg hc3] at h
          refine lv_aload_n hx hb d_Mod_isNeeded_18 rfl (lv_at hl 0 rfl) ?_
          refine S_getR (h := shM) (C := "MacroMillModel") (T := F_Mod) hx hb htt in_Mod hown hK hP 0 140 rfl 69 rfl rfl (by decide) (htt _ k_2376) (fun _ h9 => h9) d_Mod_isNeeded_19 ?_
          refine lv_iload hx hb d_Mod_isNeeded_22 (lv_at hl 4 rfl) ?_
          obtain ⟨hv4, h⟩ := chk h
          refine S_iald (h := shM) (i := L 4) hx hb hK hP 68 rfl (okI_in hv4) d_Mod_isNeeded_24 ?_
          refine lv_if_ne (tgt := 40) hx hb d_Mod_isNeeded_25 (by decide) (fun hc5 => ?_) (fun hc5 => ?_)
          · rw [if_neg hc5] at h
            exact (ih.2.2.1) S L M ls H locs h (lv_sub hl [0, 1, 2, 3, 4] rfl) hP hD hS
          · rw [if_pos hc5] at h
            refine lv_aload_n hx hb d_Mod_isNeeded_28 rfl (lv_at hl 0 rfl) ?_
            refine S_getR (h := shM) (C := "MacroMillModel") (T := F_Mod) hx hb htt in_Mod hown hK hP 0 141 rfl 70 rfl rfl (by decide) (htt _ k_2377) (fun _ h9 => h9) d_Mod_isNeeded_29 ?_
            refine lv_iload hx hb d_Mod_isNeeded_32 (lv_at hl 4 rfl) ?_
            obtain ⟨hv6, h⟩ := chk h
            show W _ _ _ _ _ _ _ _ _ _ _ _ _ _ _ (F0 _ 34 _ _)
            refine S_lald (h := shM) (i := L 4) hx hb hK hP 69 rfl (okI_in hv6) d_Mod_isNeeded_34 ?_
            refine lv_lconst (v := 0) hx hb d_Mod_isNeeded_35 (by decide) ?_
            refine W.lcmp hx hb d_Mod_isNeeded_36 ?_
            refine lv_if_ne (tgt := 67) hx hb d_Mod_isNeeded_37 (by decide) (fun hc7 => ?_) (fun hc7 => ?_)
            · rw [if_neg hc7] at h
              exact (ih.2.2.2.2.1) S L M ls H locs h (lv_sub hl [0, 1, 2, 3, 4] rfl) hP hD hS
            · rw [if_pos hc7] at h
              exact (ih.2.2.1) S L M ls H locs h (lv_sub hl [0, 1, 2, 3, 4] rfl) hP hD hS
    · intro S L M ls H locs h hl hP hD hS
      simp only [f_Mod_isNeeded] at h
      refine lv_aload_n hx hb d_Mod_isNeeded_40 rfl (lv_at hl 0 rfl) ?_
      refine S_getR (h := shM) (C := "MacroMillModel") (T := F_Mod) hx hb htt in_Mod hown hK hP 0 140 rfl 69 rfl rfl (by decide) (htt _ k_2376) (fun _ h9 => h9) d_Mod_isNeeded_41 ?_
      refine lv_iload hx hb d_Mod_isNeeded_44 (lv_at hl 4 rfl) ?_
      obtain ⟨hv1, h⟩ := chk h
      refine S_iald (h := shM) (i := L 4) hx hb hK hP 68 rfl (okI_in hv1) d_Mod_isNeeded_46 ?_
      refine lv_iconst (v := 1) hx hb d_Mod_isNeeded_47 (by decide) ?_
      refine lv_icmp_ne (tgt := 63) hx hb d_Mod_isNeeded_48 (by decide) (fun hc2 => ?_) (fun hc2 => ?_)
      · rw [if_neg hc2] at h
        exact (ih.2.2.2.1) S L M ls H locs h (lv_sub hl [0, 1, 2, 3, 4] rfl) hP hD hS
      · rw [if_pos hc2] at h
        refine lv_aload_n hx hb d_Mod_isNeeded_51 rfl (lv_at hl 0 rfl) ?_
        refine S_getR (h := shM) (C := "MacroMillModel") (T := F_Mod) hx hb htt in_Mod hown hK hP 0 141 rfl 70 rfl rfl (by decide) (htt _ k_2377) (fun _ h9 => h9) d_Mod_isNeeded_52 ?_
        refine lv_iload hx hb d_Mod_isNeeded_55 (lv_at hl 4 rfl) ?_
        obtain ⟨hv3, h⟩ := chk h
        refine S_lald (h := shM) (i := L 4) hx hb hK hP 69 rfl (okI_in hv3) d_Mod_isNeeded_57 ?_
        refine lv_lconst (v := 0) hx hb d_Mod_isNeeded_58 (by decide) ?_
        refine W.lcmp hx hb d_Mod_isNeeded_59 ?_
        refine lv_if_eq (tgt := 67) hx hb d_Mod_isNeeded_60 (by decide) (fun hc4 => ?_) (fun hc4 => ?_)
        · rw [if_pos hc4] at h
          exact (ih.2.2.2.2.1) S L M ls H locs h (lv_sub hl [0, 1, 2, 3, 4] rfl) hP hD hS
        · rw [if_neg hc4] at h
          exact (ih.2.2.2.1) S L M ls H locs h (lv_sub hl [0, 1, 2, 3, 4] rfl) hP hD hS
    · intro S L M ls H locs h hl hP hD hS
      simp only [f_Mod_isNeeded] at h
      refine lv_iconst (v := 1) hx hb d_Mod_isNeeded_63 (by decide) ?_
      refine lv_goto (tgt := 68) hx hb d_Mod_isNeeded_64 (by decide) ?_
      exact (ih.2.2.2.2.2) S (upd L 100 (1 : Int32)) M ls H locs h (lv_sub hl [0, 1, 2, 3, 4] rfl) hP hD hS
    · intro S L M ls H locs h hl hP hD hS
      simp only [f_Mod_isNeeded] at h
      refine lv_iconst (v := 0) hx hb d_Mod_isNeeded_67 (by decide) ?_
      exact (ih.2.2.2.2.2) S (upd L 100 (0 : Int32)) M ls H locs h (lv_sub hl [0, 1, 2, 3, 4] rfl) hP hD hS
    · intro S L M ls H locs h hl hP hD hS
      simp only [f_Mod_isNeeded] at h
      refine lv_istore_n (lv' := [(3, .int (L 100)), (0, .ref (ad 0)), (1, .int (L 1)), (2, .int (L 2)), (4, .int (L 4))]) hx hb d_Mod_isNeeded_68 rfl hl (by decide) rfl (fun ls hl => ?_)
      refine lv_iinc (k := 4) (v := (L 4) + 1) (lv' := [(4, .int ((L 4) + 1)), (3, .int (L 100)), (0, .ref (ad 0)), (1, .int (L 1)), (2, .int (L 2))]) hx hb d_Mod_isNeeded_69 hl rfl rfl (by decide) rfl (fun ls hl => ?_)
      refine lv_goto (tgt := 5) hx hb d_Mod_isNeeded_72 (by decide) ?_
      exact (ih.2.1) S (upd (upd L 3 (L 100)) 4 ((L 4) + 1)) M ls H locs h (lv_sub hl [2, 3, 4, 1, 0] rfl) hP hD hS
abbrev rm_t_Mod_isNeeded : Room := { frames := 0, cells := 0, slots := 0, locals := 0 }
theorem t_Mod_isNeeded (l : Launch) (g : gG) (sz : Nat) (ad : Nat → Nat) (S : sS) (v1 : Int32) (v2 : Int32) (k : Nat) (r : Int32) (S9 : sS) (h : f_Mod_isNeeded k 0 S (upd (upd (fun _ => 0) 1 v1) 2 v2) (fun _ => 0) = some (r, S9)) : Cz l y_Mod_isNeeded b_Mod_isNeeded 5 rm_t_Mod_isNeeded g [.ref (ad 0), .int v1, .int v2] (Sw shM g ad S) sz (fun r1 w => ∃ S1 : sS, w = Sw shM g ad S1 ∧ r1 = r ∧ S1 = S9) := by
  refine startZ (by decide) (Nat.le_of_ble_eq_true rfl) ?_
  intro p e s m below meth c A ls hx hb hr hml hlocks hmn hown htt hN hA hP hK hD hS hl
  exact (w_Mod_isNeeded hx hb hml hown htt hK hN hA r S9 (fun ls H locs hz hP hD hS => fin_z (g := g) (ws := Sw shM g ad S9) hx hb hr hlocks hz (by decide +kernel) (by decide +kernel) hP hD hS ⟨_, rfl, rfl, rfl⟩ d_Mod_isNeeded_76) k).1 S (upd (upd (fun _ => 0) 1 v1) 2 v2) (fun _ => 0) ls _ _ h hl hP hD hS
def f_Mod_quotient : Nat → Nat → sS → (Nat → Int32) → (Nat → Int64) → Option (Int64 × sS)
  | 0, _, _, _, _ => none
  | k + 1, 0, S, L, M => if (L 4) = (0 : Int32) then (if ¬ (M 2) = 0 then (some ((M 0) / (M 2), S)) else none) else (f_Mod_quotient k 1 S (upd L 9 (63 : Int32)) (vp_updL (vp_updL M 5 (0 : Int64)) 7 (0 : Int64)))
  | k + 1, 1, S, L, M => if (L 9) < (0 : Int32) then (some (M 5, S)) else (if (0 : Int32) ≤ (lg_cmp (M 7) (0 : Int64)) then (f_Mod_quotient k 2 S (upd L 100 (0 : Int32)) M) else (f_Mod_quotient k 2 S (upd L 100 (1 : Int32)) M))
  | k + 1, 2, S, L, M => if (L 100) = (0 : Int32) then (if (lg_cmp ((((M 7) <<< ((1 : Int32).toInt64 &&& 63)) ||| ((((M 0).toUInt64 >>> ((L 9 : Int32).toInt64.toUInt64 &&& Int64.toUInt64 63)).toInt64) &&& (1 : Int64))) + ((-9223372036854775808) : Int64)) ((M 2) + ((-9223372036854775808) : Int64))) < (0 : Int32) then (f_Mod_quotient k 4 S (upd L 10 (L 100)) (vp_updL M 7 (((M 7) <<< ((1 : Int32).toInt64 &&& 63)) ||| ((((M 0).toUInt64 >>> ((L 9 : Int32).toInt64.toUInt64 &&& Int64.toUInt64 63)).toInt64) &&& (1 : Int64))))) else (f_Mod_quotient k 3 S (upd L 10 (L 100)) (vp_updL M 7 (((M 7) <<< ((1 : Int32).toInt64 &&& 63)) ||| ((((M 0).toUInt64 >>> ((L 9 : Int32).toInt64.toUInt64 &&& Int64.toUInt64 63)).toInt64) &&& (1 : Int64)))))) else (f_Mod_quotient k 3 S (upd L 10 (L 100)) (vp_updL M 7 (((M 7) <<< ((1 : Int32).toInt64 &&& 63)) ||| ((((M 0).toUInt64 >>> ((L 9 : Int32).toInt64.toUInt64 &&& Int64.toUInt64 63)).toInt64) &&& (1 : Int64)))))
  | k + 1, 3, S, L, M => f_Mod_quotient k 4 S L (vp_updL (vp_updL M 5 ((M 5) ||| (1 <<< ((L 9 : Int32).toInt64 &&& 63)))) 7 ((M 7) - (M 2)))
  | k + 1, 4, S, L, M => f_Mod_quotient k 1 S (upd L 9 ((L 9) + (-1))) M
  | _ + 1, _ + 5, _, _, _ => none
set_option maxHeartbeats 8000000 in
set_option maxRecDepth 100000 in
theorem w_Mod_quotient {p : Program} {l : Launch} {e : Env} {R : Room} {s : State} {m : MethodId} {args : Array Value} {below : List Frame} {meth : Method} {c : Code} {cells slots : Nat} {Q : State → Prop} {g : gG} {A : Nat → Prop} {ad : Nat → Nat} (hx : p.tables.exec = Jvm.exec) (hb : c.code = b_Mod_quotient) (hml : c.maxLocals = 11) (hown : s.vm.findClass "MacroMillModel" = some m.cls) (htt : ∀ w ∈ gt, w.before args s = true) (hK : va_K g.1 classes (tysG g) s) (hN : nw s) (hA : ∀ q : Nat, s.heap.size ≤ q → A q) (r : Int64) (S9 : sS)
    (kx_8 : ∀ (ls : Array Slot) (H : Heap) (locs : List Loc), va_P g.1 classes (Sw shM g ad S9) H → va_D A (Sw shM g ad S9) → va_S A s.heap H locs → W p l e R s m args below meth c H locs cells slots Q (F0 m 8 ls [.long r]))
    (kx_94 : ∀ (ls : Array Slot) (H : Heap) (locs : List Loc), va_P g.1 classes (Sw shM g ad S9) H → va_D A (Sw shM g ad S9) → va_S A s.heap H locs → W p l e R s m args below meth c H locs cells slots Q (F0 m 94 ls [.long r])) :
    ∀ k9 : Nat, (∀ (S : sS) (L : Nat → Int32) (M : Nat → Int64) (ls : Array Slot) (H : Heap) (locs : List Loc), f_Mod_quotient k9 0 S L M = some (r, S9) → lv_has ls 11 [(0, .long (M 0)), (2, .long (M 2)), (4, .int (L 4))] → va_P g.1 classes (Sw shM g ad S) H → va_D A (Sw shM g ad S) → va_S A s.heap H locs → W p l e R s m args below meth c H locs cells slots Q (F0 m 0 ls [])) ∧ (∀ (S : sS) (L : Nat → Int32) (M : Nat → Int64) (ls : Array Slot) (H : Heap) (locs : List Loc), f_Mod_quotient k9 1 S L M = some (r, S9) → lv_has ls 11 [(0, .long (M 0)), (2, .long (M 2)), (4, .int (L 4)), (5, .long (M 5)), (7, .long (M 7)), (9, .int (L 9))] → va_P g.1 classes (Sw shM g ad S) H → va_D A (Sw shM g ad S) → va_S A s.heap H locs → W p l e R s m args below meth c H locs cells slots Q (F0 m 19 ls [])) ∧ (∀ (S : sS) (L : Nat → Int32) (M : Nat → Int64) (ls : Array Slot) (H : Heap) (locs : List Loc), f_Mod_quotient k9 2 S L M = some (r, S9) → lv_has ls 11 [(0, .long (M 0)), (2, .long (M 2)), (4, .int (L 4)), (5, .long (M 5)), (7, .long (M 7)), (9, .int (L 9))] → va_P g.1 classes (Sw shM g ad S) H → va_D A (Sw shM g ad S) → va_S A s.heap H locs → W p l e R s m args below meth c H locs cells slots Q (F0 m 36 ls [.int (L 100)])) ∧ (∀ (S : sS) (L : Nat → Int32) (M : Nat → Int64) (ls : Array Slot) (H : Heap) (locs : List Loc), f_Mod_quotient k9 3 S L M = some (r, S9) → lv_has ls 11 [(0, .long (M 0)), (2, .long (M 2)), (4, .int (L 4)), (5, .long (M 5)), (7, .long (M 7)), (9, .int (L 9)), (10, .int (L 10))] → va_P g.1 classes (Sw shM g ad S) H → va_D A (Sw shM g ad S) → va_S A s.heap H locs → W p l e R s m args below meth c H locs cells slots Q (F0 m 71 ls [])) ∧ (∀ (S : sS) (L : Nat → Int32) (M : Nat → Int64) (ls : Array Slot) (H : Heap) (locs : List Loc), f_Mod_quotient k9 4 S L M = some (r, S9) → lv_has ls 11 [(0, .long (M 0)), (2, .long (M 2)), (4, .int (L 4)), (5, .long (M 5)), (7, .long (M 7)), (9, .int (L 9)), (10, .int (L 10))] → va_P g.1 classes (Sw shM g ad S) H → va_D A (Sw shM g ad S) → va_S A s.heap H locs → W p l e R s m args below meth c H locs cells slots Q (F0 m 86 ls [])) := by
  intro k9
  induction k9 with
  | zero => exact ⟨(fun _ _ _ _ _ _ h => by simp [f_Mod_quotient] at h), (fun _ _ _ _ _ _ h => by simp [f_Mod_quotient] at h), (fun _ _ _ _ _ _ h => by simp [f_Mod_quotient] at h), (fun _ _ _ _ _ _ h => by simp [f_Mod_quotient] at h), (fun _ _ _ _ _ _ h => by simp [f_Mod_quotient] at h)⟩
  | succ k9 ih =>
    refine ⟨?_, ?_, ?_, ?_, ?_⟩
    · intro S L M ls H locs h hl hP hD hS
      simp only [f_Mod_quotient] at h
      refine lv_iload hx hb d_Mod_quotient_0 (lv_at hl 2 rfl) ?_
      refine lv_if_ne (tgt := 9) hx hb d_Mod_quotient_2 (by decide) (fun hc1 => ?_) (fun hc1 => ?_)
      · rw [if_neg hc1] at h
        refine lv_lconst (v := 0) hx hb d_Mod_quotient_9 (by decide) ?_
        refine lv_lstore (lv' := [(5, .long 0), (0, .long (M 0)), (2, .long (M 2)), (4, .int (L 4))]) hx hb d_Mod_quotient_10 hl (by decide) rfl (fun ls hl => ?_)
        refine lv_lconst (v := 0) hx hb d_Mod_quotient_12 (by decide) ?_
        refine lv_lstore (lv' := [(7, .long 0), (5, .long 0), (0, .long (M 0)), (2, .long (M 2)), (4, .int (L 4))]) hx hb d_Mod_quotient_13 hl (by decide) rfl (fun ls hl => ?_)
        refine lv_bipush (v := 63) hx hb d_Mod_quotient_15 (by decide) ?_
        refine lv_istore (lv' := [(9, .int 63), (7, .long 0), (5, .long 0), (0, .long (M 0)), (2, .long (M 2)), (4, .int (L 4))]) hx hb d_Mod_quotient_17 hl (by decide) rfl (fun ls hl => ?_)
        exact (ih.2.1) S (upd L 9 (63 : Int32)) (vp_updL (vp_updL M 5 (0 : Int64)) 7 (0 : Int64)) ls H locs h (lv_sub hl [3, 4, 5, 2, 1, 0] rfl) hP hD hS
      · rw [if_pos hc1] at h
        refine lv_lload_n hx hb d_Mod_quotient_5 rfl (lv_at hl 0 rfl) ?_
        refine lv_lload_n hx hb d_Mod_quotient_6 rfl (lv_at hl 1 rfl) ?_
        obtain ⟨hv2, h⟩ := chk h
        refine lv_ldiv hx hb d_Mod_quotient_7 hv2 ?_
        cases h
        exact kx_8 ls H locs hP hD hS
    · intro S L M ls H locs h hl hP hD hS
      simp only [f_Mod_quotient] at h
      refine lv_iload hx hb d_Mod_quotient_19 (lv_at hl 5 rfl) ?_
      refine lv_if_lt (tgt := 92) hx hb d_Mod_quotient_21 (by decide) (fun hc1 => ?_) (fun hc1 => ?_)
      · rw [if_pos hc1] at h
        refine lv_lload hx hb d_Mod_quotient_92 (lv_at hl 3 rfl) ?_
        cases h
        exact kx_94 ls H locs hP hD hS
      · rw [if_neg hc1] at h
        refine lv_lload hx hb d_Mod_quotient_24 (lv_at hl 4 rfl) ?_
        refine lv_lconst (v := 0) hx hb d_Mod_quotient_26 (by decide) ?_
        refine W.lcmp hx hb d_Mod_quotient_27 ?_
        refine lv_if_ge (tgt := 35) hx hb d_Mod_quotient_28 (by decide) (fun hc2 => ?_) (fun hc2 => ?_)
        · rw [if_pos hc2] at h
          refine lv_iconst (v := 0) hx hb d_Mod_quotient_35 (by decide) ?_
          exact (ih.2.2.1) S (upd L 100 (0 : Int32)) M ls H locs h (lv_sub hl [0, 1, 2, 3, 4, 5] rfl) hP hD hS
        · rw [if_neg hc2] at h
          refine lv_iconst (v := 1) hx hb d_Mod_quotient_31 (by decide) ?_
          refine lv_goto (tgt := 36) hx hb d_Mod_quotient_32 (by decide) ?_
          exact (ih.2.2.1) S (upd L 100 (1 : Int32)) M ls H locs h (lv_sub hl [0, 1, 2, 3, 4, 5] rfl) hP hD hS
    · intro S L M ls H locs h hl hP hD hS
      simp only [f_Mod_quotient] at h
      refine lv_istore (lv' := [(10, .int (L 100)), (0, .long (M 0)), (2, .long (M 2)), (4, .int (L 4)), (5, .long (M 5)), (7, .long (M 7)), (9, .int (L 9))]) hx hb d_Mod_quotient_36 hl (by decide) rfl (fun ls hl => ?_)
      refine lv_lload hx hb d_Mod_quotient_38 (lv_at hl 5 rfl) ?_
      refine lv_iconst (v := 1) hx hb d_Mod_quotient_40 (by decide) ?_
      refine lv_lshl (v := (M 7) <<< ((1 : Int32).toInt64 &&& 63)) hx hb d_Mod_quotient_41 rfl ?_
      refine lv_lload_n hx hb d_Mod_quotient_42 rfl (lv_at hl 1 rfl) ?_
      refine lv_iload hx hb d_Mod_quotient_43 (lv_at hl 6 rfl) ?_
      refine lv_lushr (v := ((M 0).toUInt64 >>> ((L 9 : Int32).toInt64.toUInt64 &&& Int64.toUInt64 63)).toInt64) hx hb d_Mod_quotient_45 rfl ?_
      refine lv_lconst (v := 1) hx hb d_Mod_quotient_46 (by decide) ?_
      refine lv_land hx hb d_Mod_quotient_47 ?_
      refine lv_lor hx hb d_Mod_quotient_48 ?_
      refine lv_lstore (lv' := [(7, .long (((M 7) <<< ((1 : Int32).toInt64 &&& 63)) ||| ((((M 0).toUInt64 >>> ((L 9 : Int32).toInt64.toUInt64 &&& Int64.toUInt64 63)).toInt64) &&& (1 : Int64)))), (10, .int (L 100)), (0, .long (M 0)), (2, .long (M 2)), (4, .int (L 4)), (5, .long (M 5)), (9, .int (L 9))]) hx hb d_Mod_quotient_49 hl (by decide) rfl (fun ls hl => ?_)
      show W _ _ _ _ _ _ _ _ _ _ _ _ _ _ _ (F0 _ 51 _ _)
      refine lv_iload hx hb d_Mod_quotient_51 (lv_at hl 1 rfl) ?_
      refine lv_if_ne (tgt := 71) hx hb d_Mod_quotient_53 (by decide) (fun hc1 => ?_) (fun hc1 => ?_)
      · rw [if_neg hc1] at h
        exact (ih.2.2.2.1) S (upd L 10 (L 100)) (vp_updL M 7 (((M 7) <<< ((1 : Int32).toInt64 &&& 63)) ||| ((((M 0).toUInt64 >>> ((L 9 : Int32).toInt64.toUInt64 &&& Int64.toUInt64 63)).toInt64) &&& (1 : Int64)))) ls H locs h (lv_sub hl [2, 3, 4, 5, 0, 6, 1] rfl) hP hD hS
      · rw [if_pos hc1] at h
        refine lv_lload hx hb d_Mod_quotient_56 (lv_at hl 0 rfl) ?_
        refine lv_ldc2 (v := (-9223372036854775808)) hx hb hown (htt _ k_3212) d_Mod_quotient_58 ?_
        refine lv_ladd hx hb d_Mod_quotient_61 ?_
        refine lv_lload_n hx hb d_Mod_quotient_62 rfl (lv_at hl 3 rfl) ?_
        refine lv_ldc2 (v := (-9223372036854775808)) hx hb hown (htt _ k_3212) d_Mod_quotient_63 ?_
        refine lv_ladd hx hb d_Mod_quotient_66 ?_
        refine W.lcmp hx hb d_Mod_quotient_67 ?_
        refine lv_if_lt (tgt := 86) hx hb d_Mod_quotient_68 (by decide) (fun hc2 => ?_) (fun hc2 => ?_)
        · rw [if_pos hc2] at h
          exact (ih.2.2.2.2) S (upd L 10 (L 100)) (vp_updL M 7 (((M 7) <<< ((1 : Int32).toInt64 &&& 63)) ||| ((((M 0).toUInt64 >>> ((L 9 : Int32).toInt64.toUInt64 &&& Int64.toUInt64 63)).toInt64) &&& (1 : Int64)))) ls H locs h (lv_sub hl [2, 3, 4, 5, 0, 6, 1] rfl) hP hD hS
        · rw [if_neg hc2] at h
          exact (ih.2.2.2.1) S (upd L 10 (L 100)) (vp_updL M 7 (((M 7) <<< ((1 : Int32).toInt64 &&& 63)) ||| ((((M 0).toUInt64 >>> ((L 9 : Int32).toInt64.toUInt64 &&& Int64.toUInt64 63)).toInt64) &&& (1 : Int64)))) ls H locs h (lv_sub hl [2, 3, 4, 5, 0, 6, 1] rfl) hP hD hS
    · intro S L M ls H locs h hl hP hD hS
      simp only [f_Mod_quotient] at h
      refine lv_lload hx hb d_Mod_quotient_71 (lv_at hl 4 rfl) ?_
      refine lv_lload_n hx hb d_Mod_quotient_73 rfl (lv_at hl 1 rfl) ?_
      refine lv_lsub hx hb d_Mod_quotient_74 ?_
      refine lv_lstore (lv' := [(7, .long ((M 7) - (M 2))), (0, .long (M 0)), (2, .long (M 2)), (4, .int (L 4)), (5, .long (M 5)), (9, .int (L 9)), (10, .int (L 10))]) hx hb d_Mod_quotient_75 hl (by decide) rfl (fun ls hl => ?_)
      refine lv_lload hx hb d_Mod_quotient_77 (lv_at hl 4 rfl) ?_
      refine lv_lconst (v := 1) hx hb d_Mod_quotient_79 (by decide) ?_
      refine lv_iload hx hb d_Mod_quotient_80 (lv_at hl 5 rfl) ?_
      refine lv_lshl (v := 1 <<< ((L 9 : Int32).toInt64 &&& 63)) hx hb d_Mod_quotient_82 rfl ?_
      refine lv_lor hx hb d_Mod_quotient_83 ?_
      refine lv_lstore (lv' := [(5, .long ((M 5) ||| (1 <<< ((L 9 : Int32).toInt64 &&& 63)))), (7, .long ((M 7) - (M 2))), (0, .long (M 0)), (2, .long (M 2)), (4, .int (L 4)), (9, .int (L 9)), (10, .int (L 10))]) hx hb d_Mod_quotient_84 hl (by decide) rfl (fun ls hl => ?_)
      exact (ih.2.2.2.2) S L (vp_updL (vp_updL M 5 ((M 5) ||| (1 <<< ((L 9 : Int32).toInt64 &&& 63)))) 7 ((M 7) - (M 2))) ls H locs h (lv_sub hl [2, 3, 4, 0, 1, 5, 6] rfl) hP hD hS
    · intro S L M ls H locs h hl hP hD hS
      simp only [f_Mod_quotient] at h
      refine lv_iinc (k := 5) (v := (L 9) + (-1)) (lv' := [(9, .int ((L 9) + (-1))), (0, .long (M 0)), (2, .long (M 2)), (4, .int (L 4)), (5, .long (M 5)), (7, .long (M 7)), (10, .int (L 10))]) hx hb d_Mod_quotient_86 hl rfl rfl (by decide) rfl (fun ls hl => ?_)
      refine lv_goto (tgt := 19) hx hb d_Mod_quotient_89 (by decide) ?_
      exact (ih.2.1) S (upd L 9 ((L 9) + (-1))) M ls H locs h (lv_sub hl [1, 2, 3, 4, 5, 0] rfl) hP hD hS
abbrev rm_t_Mod_quotient : Room := { frames := 0, cells := 0, slots := 0, locals := 0 }
theorem t_Mod_quotient (l : Launch) (g : gG) (sz : Nat) (ad : Nat → Nat) (S : sS) (v1 : Int64) (v2 : Int64) (v3 : Int32) (k : Nat) (r : Int64) (S9 : sS) (h : f_Mod_quotient k 0 S (upd (fun _ => 0) 4 v3) (vp_updL (vp_updL (fun _ => 0) 0 v1) 2 v2) = some (r, S9)) : Cl l y_Mod_quotient b_Mod_quotient 11 rm_t_Mod_quotient g [.long v1, .long v2, .int v3] (Sw shM g ad S) sz (fun r1 w => ∃ S1 : sS, w = Sw shM g ad S1 ∧ r1 = r ∧ S1 = S9) := by
  refine startL (by decide) (Nat.le_of_ble_eq_true rfl) ?_
  intro p e s m below meth c A ls hx hb hr hml hlocks hmn hown htt hN hA hP hK hD hS hl
  exact (w_Mod_quotient hx hb hml hown htt hK hN hA r S9 (fun ls H locs hP hD hS => fin_l (g := g) (ws := Sw shM g ad S9) hx hb hr hlocks (by decide +kernel) (by decide +kernel) hP hD hS ⟨_, rfl, rfl, rfl⟩ d_Mod_quotient_8) (fun ls H locs hP hD hS => fin_l (g := g) (ws := Sw shM g ad S9) hx hb hr hlocks (by decide +kernel) (by decide +kernel) hP hD hS ⟨_, rfl, rfl, rfl⟩ d_Mod_quotient_94) k).1 S (upd (fun _ => 0) 4 v3) (vp_updL (vp_updL (fun _ => 0) 0 v1) 2 v2) ls _ _ h hl hP hD hS
def f_Mod_digitOf : Nat → Nat → sS → (Nat → Int32) → (Nat → Int64) → Option (Int32 × sS)
  | 0, _, _, _, _ => none
  | k + 1, 0, S, L, M => (f_Mod_isDigit k 0 S (upd (fun _ => 0) 0 (L 0 : Int32)) (fun _ => 0)).bind (fun (r1, T1) => if r1 = (0 : Int32) then (if (L 0) < (97 : Int32) then (f_Mod_digitOf k 1 T1 L M) else (if (102 : Int32) < (L 0) then (f_Mod_digitOf k 1 T1 L M) else (f_Mod_digitOf k 3 T1 (upd L 100 ((L 0) - (87 : Int32))) M))) else (f_Mod_digitOf k 3 T1 (upd L 100 ((L 0) - (48 : Int32))) M))
  | k + 1, 1, S, L, M => if (L 0) < (65 : Int32) then (f_Mod_digitOf k 2 S L M) else (if (70 : Int32) < (L 0) then (f_Mod_digitOf k 2 S L M) else (f_Mod_digitOf k 3 S (upd L 100 ((L 0) - (55 : Int32))) M))
  | k + 1, 2, S, L, M => f_Mod_digitOf k 3 S (upd L 100 (99 : Int32)) M
  | k + 1, 3, S, L, M => some (L 100, S)
  | _ + 1, _ + 4, _, _, _ => none
set_option maxHeartbeats 8000000 in
set_option maxRecDepth 100000 in
theorem w_Mod_digitOf {p : Program} {l : Launch} {e : Env} {R : Room} {s : State} {m : MethodId} {args : Array Value} {below : List Frame} {meth : Method} {c : Code} {cells slots : Nat} {Q : State → Prop} {g : gG} {A : Nat → Prop} {ad : Nat → Nat} (hx : p.tables.exec = Jvm.exec) (hb : c.code = b_Mod_digitOf) (hml : c.maxLocals = 1) (hown : s.vm.findClass "MacroMillModel" = some m.cls) (htt : ∀ w ∈ gt, w.before args s = true) (hK : va_K g.1 classes (tysG g) s) (hN : nw s) (hA : ∀ q : Nat, s.heap.size ≤ q → A q) (hRf : 1 ≤ R.frames) (hRl : 20 ≤ R.locals) (hRc : cells ≤ R.cells) (hRs : slots ≤ R.slots) (r : Int32) (S9 : sS)
    (kx_54 : ∀ (ls : Array Slot) (H : Heap) (locs : List Loc), va_P g.1 classes (Sw shM g ad S9) H → va_D A (Sw shM g ad S9) → va_S A s.heap H locs → W p l e R s m args below meth c H locs cells slots Q (F0 m 54 ls [.int r])) :
    ∀ k9 : Nat, (∀ (S : sS) (L : Nat → Int32) (M : Nat → Int64) (ls : Array Slot) (H : Heap) (locs : List Loc), f_Mod_digitOf k9 0 S L M = some (r, S9) → lv_has ls 1 [(0, .int (L 0))] → va_P g.1 classes (Sw shM g ad S) H → va_D A (Sw shM g ad S) → va_S A s.heap H locs → W p l e R s m args below meth c H locs cells slots Q (F0 m 0 ls [])) ∧ (∀ (S : sS) (L : Nat → Int32) (M : Nat → Int64) (ls : Array Slot) (H : Heap) (locs : List Loc), f_Mod_digitOf k9 1 S L M = some (r, S9) → lv_has ls 1 [(0, .int (L 0))] → va_P g.1 classes (Sw shM g ad S) H → va_D A (Sw shM g ad S) → va_S A s.heap H locs → W p l e R s m args below meth c H locs cells slots Q (F0 m 33 ls [])) ∧ (∀ (S : sS) (L : Nat → Int32) (M : Nat → Int64) (ls : Array Slot) (H : Heap) (locs : List Loc), f_Mod_digitOf k9 2 S L M = some (r, S9) → lv_has ls 1 [(0, .int (L 0))] → va_P g.1 classes (Sw shM g ad S) H → va_D A (Sw shM g ad S) → va_S A s.heap H locs → W p l e R s m args below meth c H locs cells slots Q (F0 m 52 ls [])) ∧ (∀ (S : sS) (L : Nat → Int32) (M : Nat → Int64) (ls : Array Slot) (H : Heap) (locs : List Loc), f_Mod_digitOf k9 3 S L M = some (r, S9) → lv_has ls 1 [(0, .int (L 0))] → va_P g.1 classes (Sw shM g ad S) H → va_D A (Sw shM g ad S) → va_S A s.heap H locs → W p l e R s m args below meth c H locs cells slots Q (F0 m 54 ls [.int (L 100)])) := by
  intro k9
  induction k9 with
  | zero => exact ⟨(fun _ _ _ _ _ _ h => by simp [f_Mod_digitOf] at h), (fun _ _ _ _ _ _ h => by simp [f_Mod_digitOf] at h), (fun _ _ _ _ _ _ h => by simp [f_Mod_digitOf] at h), (fun _ _ _ _ _ _ h => by simp [f_Mod_digitOf] at h)⟩
  | succ k9 ih =>
    refine ⟨?_, ?_, ?_, ?_⟩
    · intro S L M ls H locs h hl hP hD hS
      simp only [f_Mod_digitOf] at h
      refine lv_iload_n hx hb d_Mod_digitOf_0 rfl (lv_at hl 0 rfl) ?_
      obtain ⟨⟨r1, T1⟩, hq1, h⟩ := Option.bind_eq_some_iff.mp h
      try dsimp only at h
      refine go_iS (As := [.int (L 0)]) (g := g) (A := A) (h := shM) hP hK hD hS hA hN (fun hp => va_runS (As := [.int (L 0)]) (rest := []) ⟨hx, hb, hml, hown, htt⟩ (t_Mod_isDigit l g _ ad S (L 0 : Int32) k9 r1 T1 hq1) ⟨(cb_L htt k_2777 k_276 k_2775 hd_Mod_isDigit ⟨(Nat.le_trans (by decide +kernel) hRf), (Nat.le_trans (by decide +kernel) hRl)⟩), htt _ k_2776⟩ hp rfl rfl hl.1 rfl (lv_room (Nat.le_of_ble_eq_true rfl)) d_Mod_digitOf_1 ⟨hRc, hRs⟩) (fun r0 Sn H locs hw9 hP hD hS => ?_)
      obtain ⟨e9, e8⟩ := hw9
      rw [e8] at hP hD
      refine W.widen (k := cells) (n := slots) (Nat.le_refl _) (Nat.le_refl _) ?_
      refine toI (y := r1) e9 ?_
      refine lv_if_eq (tgt := 14) hx hb d_Mod_digitOf_4 (by decide) (fun hc2 => ?_) (fun hc2 => ?_)
      · rw [if_pos hc2] at h
        refine lv_iload_n hx hb d_Mod_digitOf_14 rfl (lv_at hl 0 rfl) ?_
        refine lv_bipush (v := 97) hx hb d_Mod_digitOf_15 (by decide) ?_
        refine lv_icmp_lt (tgt := 33) hx hb d_Mod_digitOf_17 (by decide) (fun hc3 => ?_) (fun hc3 => ?_)
        · rw [if_pos hc3] at h
          exact (ih.2.1) T1 L M ls H locs h (lv_sub hl [0] rfl) hP hD hS
        · rw [if_neg hc3] at h
          refine lv_iload_n hx hb d_Mod_digitOf_20 rfl (lv_at hl 0 rfl) ?_
          refine lv_bipush (v := 102) hx hb d_Mod_digitOf_21 (by decide) ?_
          refine lv_icmp_gt (tgt := 33) hx hb d_Mod_digitOf_23 (by decide) (fun hc4 => ?_) (fun hc4 => ?_)
          · rw [if_pos hc4] at h
            exact (ih.2.1) T1 L M ls H locs h (lv_sub hl [0] rfl) hP hD hS
          · rw [if_neg hc4] at h
            refine lv_iload_n hx hb d_Mod_digitOf_26 rfl (lv_at hl 0 rfl) ?_
            refine lv_bipush (v := 87) hx hb d_Mod_digitOf_27 (by decide) ?_
            refine lv_isub hx hb d_Mod_digitOf_29 ?_
            refine lv_goto (tgt := 54) hx hb d_Mod_digitOf_30 (by decide) ?_
            exact (ih.2.2.2) T1 (upd L 100 ((L 0) - (87 : Int32))) M ls H locs h (lv_sub hl [0] rfl) hP hD hS
      · rw [if_neg hc2] at h
        refine lv_iload_n hx hb d_Mod_digitOf_7 rfl (lv_at hl 0 rfl) ?_
        refine lv_bipush (v := 48) hx hb d_Mod_digitOf_8 (by decide) ?_
        refine lv_isub hx hb d_Mod_digitOf_10 ?_
        refine lv_goto (tgt := 54) hx hb d_Mod_digitOf_11 (by decide) ?_
        exact (ih.2.2.2) T1 (upd L 100 ((L 0) - (48 : Int32))) M ls H locs h (lv_sub hl [0] rfl) hP hD hS
    · intro S L M ls H locs h hl hP hD hS
      simp only [f_Mod_digitOf] at h
      refine lv_iload_n hx hb d_Mod_digitOf_33 rfl (lv_at hl 0 rfl) ?_
      refine lv_bipush (v := 65) hx hb d_Mod_digitOf_34 (by decide) ?_
      refine lv_icmp_lt (tgt := 52) hx hb d_Mod_digitOf_36 (by decide) (fun hc1 => ?_) (fun hc1 => ?_)
      · rw [if_pos hc1] at h
        exact (ih.2.2.1) S L M ls H locs h (lv_sub hl [0] rfl) hP hD hS
      · rw [if_neg hc1] at h
        refine lv_iload_n hx hb d_Mod_digitOf_39 rfl (lv_at hl 0 rfl) ?_
        refine lv_bipush (v := 70) hx hb d_Mod_digitOf_40 (by decide) ?_
        refine lv_icmp_gt (tgt := 52) hx hb d_Mod_digitOf_42 (by decide) (fun hc2 => ?_) (fun hc2 => ?_)
        · rw [if_pos hc2] at h
          exact (ih.2.2.1) S L M ls H locs h (lv_sub hl [0] rfl) hP hD hS
        · rw [if_neg hc2] at h
          refine lv_iload_n hx hb d_Mod_digitOf_45 rfl (lv_at hl 0 rfl) ?_
          refine lv_bipush (v := 55) hx hb d_Mod_digitOf_46 (by decide) ?_
          refine lv_isub hx hb d_Mod_digitOf_48 ?_
          refine lv_goto (tgt := 54) hx hb d_Mod_digitOf_49 (by decide) ?_
          exact (ih.2.2.2) S (upd L 100 ((L 0) - (55 : Int32))) M ls H locs h (lv_sub hl [0] rfl) hP hD hS
    · intro S L M ls H locs h hl hP hD hS
      simp only [f_Mod_digitOf] at h
      refine lv_bipush (v := 99) hx hb d_Mod_digitOf_52 (by decide) ?_
      exact (ih.2.2.2) S (upd L 100 (99 : Int32)) M ls H locs h (lv_sub hl [0] rfl) hP hD hS
    · intro S L M ls H locs h hl hP hD hS
      simp only [f_Mod_digitOf] at h
      cases h
      exact kx_54 ls H locs hP hD hS
abbrev rm_t_Mod_digitOf : Room := { frames := 1, cells := 0, slots := 0, locals := 20 }
theorem t_Mod_digitOf (l : Launch) (g : gG) (sz : Nat) (ad : Nat → Nat) (S : sS) (v1 : Int32) (k : Nat) (r : Int32) (S9 : sS) (h : f_Mod_digitOf k 0 S (upd (fun _ => 0) 0 v1) (fun _ => 0) = some (r, S9)) : Ci l y_Mod_digitOf b_Mod_digitOf 1 rm_t_Mod_digitOf g [.int v1] (Sw shM g ad S) sz (fun r1 w => ∃ S1 : sS, w = Sw shM g ad S1 ∧ r1 = r ∧ S1 = S9) := by
  refine startI (by decide) (Nat.le_of_ble_eq_true rfl) ?_
  intro p e s m below meth c A ls hx hb hr hml hlocks hmn hown htt hN hA hP hK hD hS hl
  exact (w_Mod_digitOf hx hb hml hown htt hK hN hA (by decide +kernel) (by decide +kernel) (by decide +kernel) (by decide +kernel) r S9 (fun ls H locs hP hD hS => fin_i (g := g) (ws := Sw shM g ad S9) hx hb hr hlocks (by decide +kernel) (by decide +kernel) hP hD hS ⟨_, rfl, rfl, rfl⟩ d_Mod_digitOf_54) k).1 S (upd (fun _ => 0) 0 v1) (fun _ => 0) ls _ _ h hl hP hD hS
def f_Mod_numberOf : Nat → Nat → sS → (Nat → Int32) → (Nat → Int64) → Option (Int64 × sS)
  | 0, _, _, _, _ => none
  | k + 1, 0, S, L, M => if okI (L 1) 260000 = true then (if (S.2.1 28 (L 1 : Int32).toNatClampNeg) ≤ (2 : Int32) then (f_Mod_numberOf k 1 S (upd L 2 (S.2.1 28 (L 1 : Int32).toNatClampNeg)) M) else ((f_Mod_byteOf k 0 S (upd (upd (fun _ => 0) 1 (L 1 : Int32)) 2 (0 : Int32)) (fun _ => 0)).bind (fun (r3, T3) => if r3 = (48 : Int32) then ((f_Mod_byteOf k 0 T3 (upd (upd (fun _ => 0) 1 (L 1 : Int32)) 2 (1 : Int32)) (fun _ => 0)).bind (fun (r5, T5) => if (r5 ||| (32 : Int32)) = (120 : Int32) then (f_Mod_numberOf k 2 T5 (upd (upd L 2 (S.2.1 28 (L 1 : Int32).toNatClampNeg)) 100 (1 : Int32)) M) else (f_Mod_numberOf k 1 T5 (upd L 2 (S.2.1 28 (L 1 : Int32).toNatClampNeg)) M))) else (f_Mod_numberOf k 1 T3 (upd L 2 (S.2.1 28 (L 1 : Int32).toNatClampNeg)) M)))) else none
  | k + 1, 1, S, L, M => f_Mod_numberOf k 2 S (upd L 100 (0 : Int32)) M
  | k + 1, 2, S, L, M => if (L 100) = (0 : Int32) then ((f_Mod_byteOf k 0 S (upd (upd (fun _ => 0) 1 (L 1 : Int32)) 2 (0 : Int32)) (fun _ => 0)).bind (fun (r2, T2) => if r2 = (48 : Int32) then (f_Mod_numberOf k 3 T2 (upd (upd L 3 (L 100)) 100 (8 : Int32)) M) else (f_Mod_numberOf k 3 T2 (upd (upd L 3 (L 100)) 100 (10 : Int32)) M))) else (f_Mod_numberOf k 3 S (upd (upd L 3 (L 100)) 100 (16 : Int32)) M)
  | k + 1, 3, S, L, M => if (L 3) = (0 : Int32) then (f_Mod_numberOf k 4 S (upd (upd L 4 (L 100)) 100 (0 : Int32)) M) else (f_Mod_numberOf k 4 S (upd (upd L 4 (L 100)) 100 (2 : Int32)) M)
  | k + 1, 4, S, L, M => f_Mod_numberOf k 5 S (upd (upd (upd L 5 (L 100)) 6 (L 100)) 9 (0 : Int32)) (vp_updL M 7 (0 : Int64))
  | k + 1, 5, S, L, M => if (L 2) ≤ (L 5) then (f_Mod_numberOf k 10 S L M) else ((f_Mod_byteOf k 0 S (upd (upd (fun _ => 0) 1 (L 1 : Int32)) 2 (L 5 : Int32)) (fun _ => 0)).bind (fun (r2, T2) => (f_Mod_digitOf k 0 T2 (upd (fun _ => 0) 0 (r2 : Int32)) (fun _ => 0)).bind (fun (r3, T3) => if (L 4) ≤ r3 then (f_Mod_numberOf k 10 T3 L M) else ((f_Mod_quotient k 0 T3 (upd (fun _ => 0) 4 (1 : Int32)) (vp_updL (vp_updL (fun _ => 0) 0 ((-1) : Int64)) 2 ((L 4).toInt64 : Int64))).bind (fun (r5, T5) => (f_Mod_byteOf k 0 T5 (upd (upd (fun _ => 0) 1 (L 1 : Int32)) 2 (L 5 : Int32)) (fun _ => 0)).bind (fun (r6, T6) => (f_Mod_digitOf k 0 T6 (upd (fun _ => 0) 0 (r6 : Int32)) (fun _ => 0)).bind (fun (r7, T7) => if (L 9) = (0 : Int32) then (if (0 : Int32) < (lg_cmp ((M 7) + ((-9223372036854775808) : Int64)) (r5 + ((-9223372036854775808) : Int64))) then (f_Mod_numberOf k 7 T7 (upd L 12 r7) (vp_updL M 10 r5)) else (if (lg_cmp (M 7) r5) = (0 : Int32) then (if (L 4) = (10 : Int32) then (f_Mod_numberOf k 6 T7 (upd (upd (upd L 12 r7) 101 (5 : Int32)) 100 r7) (vp_updL M 10 r5)) else (f_Mod_numberOf k 6 T7 (upd (upd (upd L 12 r7) 101 ((L 4) - (1 : Int32))) 100 r7) (vp_updL M 10 r5))) else (f_Mod_numberOf k 8 T7 (upd L 12 r7) (vp_updL M 10 r5)))) else (f_Mod_numberOf k 7 T7 (upd L 12 r7) (vp_updL M 10 r5)))))))))
  | k + 1, 6, S, L, M => if (L 100) ≤ (L 101) then (f_Mod_numberOf k 8 S L M) else (f_Mod_numberOf k 7 S L M)
  | k + 1, 7, S, L, M => f_Mod_numberOf k 9 S (upd L 100 (1 : Int32)) M
  | k + 1, 8, S, L, M => f_Mod_numberOf k 9 S (upd L 100 (0 : Int32)) M
  | k + 1, 9, S, L, M => f_Mod_numberOf k 5 S (upd (upd L 5 ((L 5) + 1)) 9 (L 100)) (vp_updL M 7 (((M 7) * ((L 4).toInt64)) + ((L 12).toInt64)))
  | k + 1, 10, S, L, M => if (L 5) = (L 6) then (f_Mod_numberOf k 11 S (upd L 100 (1 : Int32)) M) else (f_Mod_numberOf k 11 S (upd L 100 (0 : Int32)) M)
  | k + 1, 11, S, L, M => f_Mod_numberOf k 12 S (upd (upd (upd (upd L 10 (L 100)) 11 (0 : Int32)) 12 (0 : Int32)) 13 (1 : Int32)) M
  | k + 1, 12, S, L, M => if (L 2) ≤ (L 5) then (f_Mod_numberOf k 18 S L M) else (if (L 13) = (0 : Int32) then (f_Mod_numberOf k 18 S L M) else ((f_Mod_byteOf k 0 S (upd (upd (fun _ => 0) 1 (L 1 : Int32)) 2 (L 5 : Int32)) (fun _ => 0)).bind (fun (r3, T3) => if (r3 ||| (32 : Int32)) = (117 : Int32) then (if (L 11) = (0 : Int32) then (f_Mod_numberOf k 17 T3 (upd (upd (upd L 5 ((L 5) + 1)) 11 (1 : Int32)) 14 r3) M) else (f_Mod_numberOf k 13 T3 (upd L 14 r3) M)) else (f_Mod_numberOf k 13 T3 (upd L 14 r3) M))))
  | k + 1, 13, S, L, M => if ((L 14) ||| (32 : Int32)) = (108 : Int32) then (if (L 12) = (0 : Int32) then (if (L 2) ≤ ((L 5) + (1 : Int32)) then (f_Mod_numberOf k 14 S L M) else ((f_Mod_byteOf k 0 S (upd (upd (fun _ => 0) 1 (L 1 : Int32)) 2 ((L 5) + (1 : Int32) : Int32)) (fun _ => 0)).bind (fun (r4, T4) => if r4 = (L 14) then (f_Mod_numberOf k 15 T4 (upd L 100 (2 : Int32)) M) else (f_Mod_numberOf k 14 T4 L M)))) else (f_Mod_numberOf k 16 S L M)) else (f_Mod_numberOf k 16 S L M)
  | k + 1, 14, S, L, M => f_Mod_numberOf k 15 S (upd L 100 (1 : Int32)) M
  | k + 1, 15, S, L, M => f_Mod_numberOf k 17 S (upd (upd L 5 ((L 5) + (L 100))) 12 (L 100)) M
  | k + 1, 16, S, L, M => f_Mod_numberOf k 17 S (upd L 13 (0 : Int32)) M
  | k + 1, 17, S, L, M => f_Mod_numberOf k 12 S L M
  | k + 1, 18, S, L, M => if (L 11) = (0 : Int32) then (if (0 : Int32) ≤ (lg_cmp (M 7) (0 : Int64)) then (f_Mod_numberOf k 20 S (upd L 101 (0 : Int32)) M) else (f_Mod_numberOf k 19 S L M)) else (f_Mod_numberOf k 19 S L M)
  | k + 1, 19, S, L, M => f_Mod_numberOf k 20 S (upd L 101 (1 : Int32)) M
  | k + 1, 20, S, L, M => if bz (L 101) = true then (if (S.1 0 135) = (0 : Int32) then (if (L 10) = (0 : Int32) then (if (L 13) = (0 : Int32) then (f_Mod_numberOf k 21 (putI S 0 138 (L 101)) L M) else (if (L 9) = (0 : Int32) then (if (0 : Int32) ≤ (lg_cmp (M 7) (0 : Int64)) then (f_Mod_numberOf k 22 (putI S 0 138 (L 101)) L M) else (if (L 11) = (0 : Int32) then (if (L 4) = (10 : Int32) then (f_Mod_numberOf k 21 (putI S 0 138 (L 101)) L M) else (f_Mod_numberOf k 22 (putI S 0 138 (L 101)) L M)) else (f_Mod_numberOf k 22 (putI S 0 138 (L 101)) L M))) else (f_Mod_numberOf k 21 (putI S 0 138 (L 101)) L M))) else (f_Mod_numberOf k 21 (putI S 0 138 (L 101)) L M)) else (f_Mod_numberOf k 21 (putI S 0 138 (L 101)) L M)) else none
  | k + 1, 21, S, L, M => f_Mod_numberOf k 23 S (upd L 101 (1 : Int32)) M
  | k + 1, 22, S, L, M => f_Mod_numberOf k 23 S (upd L 101 (0 : Int32)) M
  | k + 1, 23, S, L, M => if bz (L 101) = true then (some (M 7, (putI S 0 135 (L 101)))) else none
  | _ + 1, _ + 24, _, _, _ => none
set_option maxHeartbeats 8000000 in
set_option maxRecDepth 100000 in
theorem w_Mod_numberOf {p : Program} {l : Launch} {e : Env} {R : Room} {s : State} {m : MethodId} {args : Array Value} {below : List Frame} {meth : Method} {c : Code} {cells slots : Nat} {Q : State → Prop} {g : gG} {A : Nat → Prop} {ad : Nat → Nat} (hx : p.tables.exec = Jvm.exec) (hb : c.code = b_Mod_numberOf) (hml : c.maxLocals = 15) (hown : s.vm.findClass "MacroMillModel" = some m.cls) (htt : ∀ w ∈ gt, w.before args s = true) (hK : va_K g.1 classes (tysG g) s) (hN : nw s) (hA : ∀ q : Nat, s.heap.size ≤ q → A q) (hRf : 2 ≤ R.frames) (hRl : 40 ≤ R.locals) (hRc : cells ≤ R.cells) (hRs : slots ≤ R.slots) (r : Int64) (S9 : sS)
    (kx_412 : ∀ (ls : Array Slot) (H : Heap) (locs : List Loc), va_P g.1 classes (Sw shM g ad S9) H → va_D A (Sw shM g ad S9) → va_S A s.heap H locs → W p l e R s m args below meth c H locs cells slots Q (F0 m 412 ls [.long r])) :
    ∀ k9 : Nat, (∀ (S : sS) (L : Nat → Int32) (M : Nat → Int64) (ls : Array Slot) (H : Heap) (locs : List Loc), f_Mod_numberOf k9 0 S L M = some (r, S9) → lv_has ls 15 [(0, .ref (ad 0)), (1, .int (L 1))] → va_P g.1 classes (Sw shM g ad S) H → va_D A (Sw shM g ad S) → va_S A s.heap H locs → W p l e R s m args below meth c H locs cells slots Q (F0 m 0 ls [])) ∧ (∀ (S : sS) (L : Nat → Int32) (M : Nat → Int64) (ls : Array Slot) (H : Heap) (locs : List Loc), f_Mod_numberOf k9 1 S L M = some (r, S9) → lv_has ls 15 [(0, .ref (ad 0)), (1, .int (L 1)), (2, .int (L 2))] → va_P g.1 classes (Sw shM g ad S) H → va_D A (Sw shM g ad S) → va_S A s.heap H locs → W p l e R s m args below meth c H locs cells slots Q (F0 m 41 ls [])) ∧ (∀ (S : sS) (L : Nat → Int32) (M : Nat → Int64) (ls : Array Slot) (H : Heap) (locs : List Loc), f_Mod_numberOf k9 2 S L M = some (r, S9) → lv_has ls 15 [(0, .ref (ad 0)), (1, .int (L 1)), (2, .int (L 2))] → va_P g.1 classes (Sw shM g ad S) H → va_D A (Sw shM g ad S) → va_S A s.heap H locs → W p l e R s m args below meth c H locs cells slots Q (F0 m 42 ls [.int (L 100)])) ∧ (∀ (S : sS) (L : Nat → Int32) (M : Nat → Int64) (ls : Array Slot) (H : Heap) (locs : List Loc), f_Mod_numberOf k9 3 S L M = some (r, S9) → lv_has ls 15 [(0, .ref (ad 0)), (1, .int (L 1)), (2, .int (L 2)), (3, .int (L 3))] → va_P g.1 classes (Sw shM g ad S) H → va_D A (Sw shM g ad S) → va_S A s.heap H locs → W p l e R s m args below meth c H locs cells slots Q (F0 m 70 ls [.int (L 100)])) ∧ (∀ (S : sS) (L : Nat → Int32) (M : Nat → Int64) (ls : Array Slot) (H : Heap) (locs : List Loc), f_Mod_numberOf k9 4 S L M = some (r, S9) → lv_has ls 15 [(0, .ref (ad 0)), (1, .int (L 1)), (2, .int (L 2)), (3, .int (L 3)), (4, .int (L 4))] → va_P g.1 classes (Sw shM g ad S) H → va_D A (Sw shM g ad S) → va_S A s.heap H locs → W p l e R s m args below meth c H locs cells slots Q (F0 m 81 ls [.int (L 100)])) ∧ (∀ (S : sS) (L : Nat → Int32) (M : Nat → Int64) (ls : Array Slot) (H : Heap) (locs : List Loc), f_Mod_numberOf k9 5 S L M = some (r, S9) → lv_has ls 15 [(0, .ref (ad 0)), (1, .int (L 1)), (2, .int (L 2)), (3, .int (L 3)), (4, .int (L 4)), (5, .int (L 5)), (6, .int (L 6)), (7, .long (M 7)), (9, .int (L 9))] → va_P g.1 classes (Sw shM g ad S) H → va_D A (Sw shM g ad S) → va_S A s.heap H locs → W p l e R s m args below meth c H locs cells slots Q (F0 m 93 ls [])) ∧ (∀ (S : sS) (L : Nat → Int32) (M : Nat → Int64) (ls : Array Slot) (H : Heap) (locs : List Loc), f_Mod_numberOf k9 6 S L M = some (r, S9) → lv_has ls 15 [(0, .ref (ad 0)), (1, .int (L 1)), (2, .int (L 2)), (3, .int (L 3)), (4, .int (L 4)), (5, .int (L 5)), (6, .int (L 6)), (7, .long (M 7)), (9, .int (L 9)), (10, .long (M 10)), (12, .int (L 12))] → va_P g.1 classes (Sw shM g ad S) H → va_D A (Sw shM g ad S) → va_S A s.heap H locs → W p l e R s m args below meth c H locs cells slots Q (F0 m 184 ls [.int (L 101), .int (L 100)])) ∧ (∀ (S : sS) (L : Nat → Int32) (M : Nat → Int64) (ls : Array Slot) (H : Heap) (locs : List Loc), f_Mod_numberOf k9 7 S L M = some (r, S9) → lv_has ls 15 [(0, .ref (ad 0)), (1, .int (L 1)), (2, .int (L 2)), (3, .int (L 3)), (4, .int (L 4)), (5, .int (L 5)), (6, .int (L 6)), (7, .long (M 7)), (9, .int (L 9)), (10, .long (M 10)), (12, .int (L 12))] → va_P g.1 classes (Sw shM g ad S) H → va_D A (Sw shM g ad S) → va_S A s.heap H locs → W p l e R s m args below meth c H locs cells slots Q (F0 m 187 ls [])) ∧ (∀ (S : sS) (L : Nat → Int32) (M : Nat → Int64) (ls : Array Slot) (H : Heap) (locs : List Loc), f_Mod_numberOf k9 8 S L M = some (r, S9) → lv_has ls 15 [(0, .ref (ad 0)), (1, .int (L 1)), (2, .int (L 2)), (3, .int (L 3)), (4, .int (L 4)), (5, .int (L 5)), (6, .int (L 6)), (7, .long (M 7)), (9, .int (L 9)), (10, .long (M 10)), (12, .int (L 12))] → va_P g.1 classes (Sw shM g ad S) H → va_D A (Sw shM g ad S) → va_S A s.heap H locs → W p l e R s m args below meth c H locs cells slots Q (F0 m 191 ls [])) ∧ (∀ (S : sS) (L : Nat → Int32) (M : Nat → Int64) (ls : Array Slot) (H : Heap) (locs : List Loc), f_Mod_numberOf k9 9 S L M = some (r, S9) → lv_has ls 15 [(0, .ref (ad 0)), (1, .int (L 1)), (2, .int (L 2)), (3, .int (L 3)), (4, .int (L 4)), (5, .int (L 5)), (6, .int (L 6)), (7, .long (M 7)), (9, .int (L 9)), (10, .long (M 10)), (12, .int (L 12))] → va_P g.1 classes (Sw shM g ad S) H → va_D A (Sw shM g ad S) → va_S A s.heap H locs → W p l e R s m args below meth c H locs cells slots Q (F0 m 192 ls [.int (L 100)])) ∧ (∀ (S : sS) (L : Nat → Int32) (M : Nat → Int64) (ls : Array Slot) (H : Heap) (locs : List Loc), f_Mod_numberOf k9 10 S L M = some (r, S9) → lv_has ls 15 [(0, .ref (ad 0)), (1, .int (L 1)), (2, .int (L 2)), (3, .int (L 3)), (4, .int (L 4)), (5, .int (L 5)), (6, .int (L 6)), (7, .long (M 7)), (9, .int (L 9))] → va_P g.1 classes (Sw shM g ad S) H → va_D A (Sw shM g ad S) → va_S A s.heap H locs → W p l e R s m args below meth c H locs cells slots Q (F0 m 212 ls [])) ∧ (∀ (S : sS) (L : Nat → Int32) (M : Nat → Int64) (ls : Array Slot) (H : Heap) (locs : List Loc), f_Mod_numberOf k9 11 S L M = some (r, S9) → lv_has ls 15 [(0, .ref (ad 0)), (1, .int (L 1)), (2, .int (L 2)), (3, .int (L 3)), (4, .int (L 4)), (5, .int (L 5)), (6, .int (L 6)), (7, .long (M 7)), (9, .int (L 9))] → va_P g.1 classes (Sw shM g ad S) H → va_D A (Sw shM g ad S) → va_S A s.heap H locs → W p l e R s m args below meth c H locs cells slots Q (F0 m 224 ls [.int (L 100)])) ∧ (∀ (S : sS) (L : Nat → Int32) (M : Nat → Int64) (ls : Array Slot) (H : Heap) (locs : List Loc), f_Mod_numberOf k9 12 S L M = some (r, S9) → lv_has ls 15 [(0, .ref (ad 0)), (1, .int (L 1)), (2, .int (L 2)), (3, .int (L 3)), (4, .int (L 4)), (5, .int (L 5)), (6, .int (L 6)), (7, .long (M 7)), (9, .int (L 9)), (10, .int (L 10)), (11, .int (L 11)), (12, .int (L 12)), (13, .int (L 13))] → va_P g.1 classes (Sw shM g ad S) H → va_D A (Sw shM g ad S) → va_S A s.heap H locs → W p l e R s m args below meth c H locs cells slots Q (F0 m 235 ls [])) ∧ (∀ (S : sS) (L : Nat → Int32) (M : Nat → Int64) (ls : Array Slot) (H : Heap) (locs : List Loc), f_Mod_numberOf k9 13 S L M = some (r, S9) → lv_has ls 15 [(0, .ref (ad 0)), (1, .int (L 1)), (2, .int (L 2)), (3, .int (L 3)), (4, .int (L 4)), (5, .int (L 5)), (6, .int (L 6)), (7, .long (M 7)), (9, .int (L 9)), (10, .int (L 10)), (11, .int (L 11)), (12, .int (L 12)), (13, .int (L 13)), (14, .int (L 14))] → va_P g.1 classes (Sw shM g ad S) H → va_D A (Sw shM g ad S) → va_S A s.heap H locs → W p l e R s m args below meth c H locs cells slots Q (F0 m 279 ls [])) ∧ (∀ (S : sS) (L : Nat → Int32) (M : Nat → Int64) (ls : Array Slot) (H : Heap) (locs : List Loc), f_Mod_numberOf k9 14 S L M = some (r, S9) → lv_has ls 15 [(0, .ref (ad 0)), (1, .int (L 1)), (2, .int (L 2)), (3, .int (L 3)), (4, .int (L 4)), (5, .int (L 5)), (6, .int (L 6)), (7, .long (M 7)), (9, .int (L 9)), (10, .int (L 10)), (11, .int (L 11)), (12, .int (L 12)), (13, .int (L 13)), (14, .int (L 14))] → va_P g.1 classes (Sw shM g ad S) H → va_D A (Sw shM g ad S) → va_S A s.heap H locs → W p l e R s m args below meth c H locs cells slots Q (F0 m 320 ls [])) ∧ (∀ (S : sS) (L : Nat → Int32) (M : Nat → Int64) (ls : Array Slot) (H : Heap) (locs : List Loc), f_Mod_numberOf k9 15 S L M = some (r, S9) → lv_has ls 15 [(0, .ref (ad 0)), (1, .int (L 1)), (2, .int (L 2)), (3, .int (L 3)), (4, .int (L 4)), (5, .int (L 5)), (6, .int (L 6)), (7, .long (M 7)), (9, .int (L 9)), (10, .int (L 10)), (11, .int (L 11)), (12, .int (L 12)), (13, .int (L 13)), (14, .int (L 14))] → va_P g.1 classes (Sw shM g ad S) H → va_D A (Sw shM g ad S) → va_S A s.heap H locs → W p l e R s m args below meth c H locs cells slots Q (F0 m 321 ls [.int (L 100)])) ∧ (∀ (S : sS) (L : Nat → Int32) (M : Nat → Int64) (ls : Array Slot) (H : Heap) (locs : List Loc), f_Mod_numberOf k9 16 S L M = some (r, S9) → lv_has ls 15 [(0, .ref (ad 0)), (1, .int (L 1)), (2, .int (L 2)), (3, .int (L 3)), (4, .int (L 4)), (5, .int (L 5)), (6, .int (L 6)), (7, .long (M 7)), (9, .int (L 9)), (10, .int (L 10)), (11, .int (L 11)), (12, .int (L 12)), (13, .int (L 13)), (14, .int (L 14))] → va_P g.1 classes (Sw shM g ad S) H → va_D A (Sw shM g ad S) → va_S A s.heap H locs → W p l e R s m args below meth c H locs cells slots Q (F0 m 333 ls [])) ∧ (∀ (S : sS) (L : Nat → Int32) (M : Nat → Int64) (ls : Array Slot) (H : Heap) (locs : List Loc), f_Mod_numberOf k9 17 S L M = some (r, S9) → lv_has ls 15 [(0, .ref (ad 0)), (1, .int (L 1)), (2, .int (L 2)), (3, .int (L 3)), (4, .int (L 4)), (5, .int (L 5)), (6, .int (L 6)), (7, .long (M 7)), (9, .int (L 9)), (10, .int (L 10)), (11, .int (L 11)), (12, .int (L 12)), (13, .int (L 13)), (14, .int (L 14))] → va_P g.1 classes (Sw shM g ad S) H → va_D A (Sw shM g ad S) → va_S A s.heap H locs → W p l e R s m args below meth c H locs cells slots Q (F0 m 336 ls [])) ∧ (∀ (S : sS) (L : Nat → Int32) (M : Nat → Int64) (ls : Array Slot) (H : Heap) (locs : List Loc), f_Mod_numberOf k9 18 S L M = some (r, S9) → lv_has ls 15 [(0, .ref (ad 0)), (1, .int (L 1)), (2, .int (L 2)), (3, .int (L 3)), (4, .int (L 4)), (5, .int (L 5)), (6, .int (L 6)), (7, .long (M 7)), (9, .int (L 9)), (10, .int (L 10)), (11, .int (L 11)), (12, .int (L 12)), (13, .int (L 13))] → va_P g.1 classes (Sw shM g ad S) H → va_D A (Sw shM g ad S) → va_S A s.heap H locs → W p l e R s m args below meth c H locs cells slots Q (F0 m 339 ls [])) ∧ (∀ (S : sS) (L : Nat → Int32) (M : Nat → Int64) (ls : Array Slot) (H : Heap) (locs : List Loc), f_Mod_numberOf k9 19 S L M = some (r, S9) → lv_has ls 15 [(0, .ref (ad 0)), (1, .int (L 1)), (2, .int (L 2)), (3, .int (L 3)), (4, .int (L 4)), (5, .int (L 5)), (6, .int (L 6)), (7, .long (M 7)), (9, .int (L 9)), (10, .int (L 10)), (11, .int (L 11)), (12, .int (L 12)), (13, .int (L 13))] → va_P g.1 classes (Sw shM g ad S) H → va_D A (Sw shM g ad S) → va_S A s.heap H locs → W p l e R s m args below meth c H locs cells slots Q (F0 m 352 ls [.ref (ad 0)])) ∧ (∀ (S : sS) (L : Nat → Int32) (M : Nat → Int64) (ls : Array Slot) (H : Heap) (locs : List Loc), f_Mod_numberOf k9 20 S L M = some (r, S9) → lv_has ls 15 [(0, .ref (ad 0)), (1, .int (L 1)), (2, .int (L 2)), (3, .int (L 3)), (4, .int (L 4)), (5, .int (L 5)), (6, .int (L 6)), (7, .long (M 7)), (9, .int (L 9)), (10, .int (L 10)), (11, .int (L 11)), (12, .int (L 12)), (13, .int (L 13))] → va_P g.1 classes (Sw shM g ad S) H → va_D A (Sw shM g ad S) → va_S A s.heap H locs → W p l e R s m args below meth c H locs cells slots Q (F0 m 357 ls [.int (L 101), .ref (ad 0)])) ∧ (∀ (S : sS) (L : Nat → Int32) (M : Nat → Int64) (ls : Array Slot) (H : Heap) (locs : List Loc), f_Mod_numberOf k9 21 S L M = some (r, S9) → lv_has ls 15 [(0, .ref (ad 0)), (1, .int (L 1)), (2, .int (L 2)), (3, .int (L 3)), (4, .int (L 4)), (5, .int (L 5)), (6, .int (L 6)), (7, .long (M 7)), (9, .int (L 9)), (10, .int (L 10)), (11, .int (L 11)), (12, .int (L 12)), (13, .int (L 13))] → va_P g.1 classes (Sw shM g ad S) H → va_D A (Sw shM g ad S) → va_S A s.heap H locs → W p l e R s m args below meth c H locs cells slots Q (F0 m 402 ls [.ref (ad 0)])) ∧ (∀ (S : sS) (L : Nat → Int32) (M : Nat → Int64) (ls : Array Slot) (H : Heap) (locs : List Loc), f_Mod_numberOf k9 22 S L M = some (r, S9) → lv_has ls 15 [(0, .ref (ad 0)), (1, .int (L 1)), (2, .int (L 2)), (3, .int (L 3)), (4, .int (L 4)), (5, .int (L 5)), (6, .int (L 6)), (7, .long (M 7)), (9, .int (L 9)), (10, .int (L 10)), (11, .int (L 11)), (12, .int (L 12)), (13, .int (L 13))] → va_P g.1 classes (Sw shM g ad S) H → va_D A (Sw shM g ad S) → va_S A s.heap H locs → W p l e R s m args below meth c H locs cells slots Q (F0 m 406 ls [.ref (ad 0)])) ∧ (∀ (S : sS) (L : Nat → Int32) (M : Nat → Int64) (ls : Array Slot) (H : Heap) (locs : List Loc), f_Mod_numberOf k9 23 S L M = some (r, S9) → lv_has ls 15 [(0, .ref (ad 0)), (1, .int (L 1)), (2, .int (L 2)), (3, .int (L 3)), (4, .int (L 4)), (5, .int (L 5)), (6, .int (L 6)), (7, .long (M 7)), (9, .int (L 9)), (10, .int (L 10)), (11, .int (L 11)), (12, .int (L 12)), (13, .int (L 13))] → va_P g.1 classes (Sw shM g ad S) H → va_D A (Sw shM g ad S) → va_S A s.heap H locs → W p l e R s m args below meth c H locs cells slots Q (F0 m 407 ls [.int (L 101), .ref (ad 0)])) := by
  intro k9
  induction k9 with
  | zero => exact ⟨(fun _ _ _ _ _ _ h => by simp [f_Mod_numberOf] at h), (fun _ _ _ _ _ _ h => by simp [f_Mod_numberOf] at h), (fun _ _ _ _ _ _ h => by simp [f_Mod_numberOf] at h), (fun _ _ _ _ _ _ h => by simp [f_Mod_numberOf] at h), (fun _ _ _ _ _ _ h => by simp [f_Mod_numberOf] at h), (fun _ _ _ _ _ _ h => by simp [f_Mod_numberOf] at h), (fun _ _ _ _ _ _ h => by simp [f_Mod_numberOf] at h), (fun _ _ _ _ _ _ h => by simp [f_Mod_numberOf] at h), (fun _ _ _ _ _ _ h => by simp [f_Mod_numberOf] at h), (fun _ _ _ _ _ _ h => by simp [f_Mod_numberOf] at h), (fun _ _ _ _ _ _ h => by simp [f_Mod_numberOf] at h), (fun _ _ _ _ _ _ h => by simp [f_Mod_numberOf] at h), (fun _ _ _ _ _ _ h => by simp [f_Mod_numberOf] at h), (fun _ _ _ _ _ _ h => by simp [f_Mod_numberOf] at h), (fun _ _ _ _ _ _ h => by simp [f_Mod_numberOf] at h), (fun _ _ _ _ _ _ h => by simp [f_Mod_numberOf] at h), (fun _ _ _ _ _ _ h => by simp [f_Mod_numberOf] at h), (fun _ _ _ _ _ _ h => by simp [f_Mod_numberOf] at h), (fun _ _ _ _ _ _ h => by simp [f_Mod_numberOf] at h), (fun _ _ _ _ _ _ h => by simp [f_Mod_numberOf] at h), (fun _ _ _ _ _ _ h => by simp [f_Mod_numberOf] at h), (fun _ _ _ _ _ _ h => by simp [f_Mod_numberOf] at h), (fun _ _ _ _ _ _ h => by simp [f_Mod_numberOf] at h), (fun _ _ _ _ _ _ h => by simp [f_Mod_numberOf] at h)⟩
  | succ k9 ih =>
    refine ⟨?_, ?_, ?_, ?_, ?_, ?_, ?_, ?_, ?_, ?_, ?_, ?_, ?_, ?_, ?_, ?_, ?_, ?_, ?_, ?_, ?_, ?_, ?_, ?_⟩
    · intro S L M ls H locs h hl hP hD hS
      simp only [f_Mod_numberOf] at h
      refine lv_aload_n hx hb d_Mod_numberOf_0 rfl (lv_at hl 0 rfl) ?_
      refine S_getR (h := shM) (C := "MacroMillModel") (T := F_Mod) hx hb htt in_Mod hown hK hP 0 69 rfl 29 rfl rfl (by decide) (htt _ k_2305) (fun _ h9 => h9) d_Mod_numberOf_1 ?_
      refine lv_iload_n hx hb d_Mod_numberOf_4 rfl (lv_at hl 1 rfl) ?_
      obtain ⟨hv1, h⟩ := chk h
      refine S_iald (h := shM) (i := L 1) hx hb hK hP 28 rfl (okI_in hv1) d_Mod_numberOf_5 ?_
      refine lv_istore_n (lv' := [(2, .int (S.2.1 28 (L 1 : Int32).toNatClampNeg)), (0, .ref (ad 0)), (1, .int (L 1))]) hx hb d_Mod_numberOf_6 rfl hl (by decide) rfl (fun ls hl => ?_)
      refine lv_iload_n hx hb d_Mod_numberOf_7 rfl (lv_at hl 0 rfl) ?_
      refine lv_iconst (v := 2) hx hb d_Mod_numberOf_8 (by decide) ?_
      refine lv_icmp_le (tgt := 41) hx hb d_Mod_numberOf_9 (by decide) (fun hc2 => ?_) (fun hc2 => ?_)
      · rw [if_pos hc2] at h
        exact (ih.2.1) S (upd L 2 (S.2.1 28 (L 1 : Int32).toNatClampNeg)) M ls H locs h (lv_sub hl [1, 2, 0] rfl) hP hD hS
      · rw [if_neg hc2] at h
        refine lv_aload_n hx hb d_Mod_numberOf_12 rfl (lv_at hl 1 rfl) ?_
        refine lv_iload_n hx hb d_Mod_numberOf_13 rfl (lv_at hl 2 rfl) ?_
        refine lv_iconst (v := 0) hx hb d_Mod_numberOf_14 (by decide) ?_
        obtain ⟨⟨r3, T3⟩, hq3, h⟩ := Option.bind_eq_some_iff.mp h
        try dsimp only at h
        refine go_iS (As := [.ref (ad 0), .int (L 1), .int 0]) (g := g) (A := A) (h := shM) hP hK hD hS hA hN (fun hp => va_runV (As := [.int (L 1), .int 0]) (rest := []) ⟨hx, hb, hml, hown, htt⟩ (t_Mod_byteOf l g _ ad S (L 1 : Int32) (0 : Int32) k9 r3 T3 hq3) ⟨(cb_L htt k_3016 k_276 k_3013 hd_Mod_byteOf ⟨(Nat.le_trans (by decide +kernel) hRf), (Nat.le_trans (by decide +kernel) hRl)⟩), htt _ k_3015, htt _ k_193⟩ ⟨hp.1, S_recv hK hP 0 rfl rfl, hp.2⟩ rfl rfl hl.1 rfl (lv_room (Nat.le_of_ble_eq_true rfl)) d_Mod_numberOf_15 ⟨hRc, hRs⟩) (fun r0 Sn H locs hw9 hP hD hS => ?_)
        obtain ⟨e9, e8⟩ := hw9
        rw [e8] at hP hD
        refine W.widen (k := cells) (n := slots) (Nat.le_refl _) (Nat.le_refl _) ?_
        refine toI (y := r3) e9 ?_
        refine lv_bipush (v := 48) hx hb d_Mod_numberOf_18 (by decide) ?_
        refine lv_icmp_ne (tgt := 41) hx hb d_Mod_numberOf_20 (by decide) (fun hc4 => ?_) (fun hc4 => ?_)
        · rw [if_neg hc4] at h
          exact (ih.2.1) T3 (upd L 2 (S.2.1 28 (L 1 : Int32).toNatClampNeg)) M ls H locs h (lv_sub hl [1, 2, 0] rfl) hP hD hS
        · rw [if_pos hc4] at h
          show W _ _ _ _ _ _ _ _ _ _ _ _ _ _ _ (F0 _ 23 _ _)
          refine lv_aload_n hx hb d_Mod_numberOf_23 rfl (lv_at hl 1 rfl) ?_
          refine lv_iload_n hx hb d_Mod_numberOf_24 rfl (lv_at hl 2 rfl) ?_
          refine lv_iconst (v := 1) hx hb d_Mod_numberOf_25 (by decide) ?_
          obtain ⟨⟨r5, T5⟩, hq5, h⟩ := Option.bind_eq_some_iff.mp h
          try dsimp only at h
          refine go_iS (As := [.ref (ad 0), .int (L 1), .int 1]) (g := g) (A := A) (h := shM) hP hK hD hS hA hN (fun hp => va_runV (As := [.int (L 1), .int 1]) (rest := []) ⟨hx, hb, hml, hown, htt⟩ (t_Mod_byteOf l g _ ad T3 (L 1 : Int32) (1 : Int32) k9 r5 T5 hq5) ⟨(cb_L htt k_3016 k_276 k_3013 hd_Mod_byteOf ⟨(Nat.le_trans (by decide +kernel) hRf), (Nat.le_trans (by decide +kernel) hRl)⟩), htt _ k_3015, htt _ k_193⟩ ⟨hp.1, S_recv hK hP 0 rfl rfl, hp.2⟩ rfl rfl hl.1 rfl (lv_room (Nat.le_of_ble_eq_true rfl)) d_Mod_numberOf_26 ⟨hRc, hRs⟩) (fun r0 Sn H locs hw9 hP hD hS => ?_)
          obtain ⟨e9, e8⟩ := hw9
          rw [e8] at hP hD
          refine W.widen (k := cells) (n := slots) (Nat.le_refl _) (Nat.le_refl _) ?_
          refine toI (y := r5) e9 ?_
          refine lv_bipush (v := 32) hx hb d_Mod_numberOf_29 (by decide) ?_
          refine lv_ior hx hb d_Mod_numberOf_31 ?_
          refine lv_bipush (v := 120) hx hb d_Mod_numberOf_32 (by decide) ?_
          refine lv_icmp_ne (tgt := 41) hx hb d_Mod_numberOf_34 (by decide) (fun hc6 => ?_) (fun hc6 => ?_)
          · rw [if_neg hc6] at h
            exact (ih.2.1) T5 (upd L 2 (S.2.1 28 (L 1 : Int32).toNatClampNeg)) M ls H locs h (lv_sub hl [1, 2, 0] rfl) hP hD hS
          · rw [if_pos hc6] at h
            refine lv_iconst (v := 1) hx hb d_Mod_numberOf_37 (by decide) ?_
            refine lv_goto (tgt := 42) hx hb d_Mod_numberOf_38 (by decide) ?_
            exact (ih.2.2.1) T5 (upd (upd L 2 (S.2.1 28 (L 1 : Int32).toNatClampNeg)) 100 (1 : Int32)) M ls H locs h (lv_sub hl [1, 2, 0] rfl) hP hD hS
    · intro S L M ls H locs h hl hP hD hS
      simp only [f_Mod_numberOf] at h
      refine lv_iconst (v := 0) hx hb d_Mod_numberOf_41 (by decide) ?_
      exact (ih.2.2.1) S (upd L 100 (0 : Int32)) M ls H locs h (lv_sub hl [0, 1, 2] rfl) hP hD hS
    · intro S L M ls H locs h hl hP hD hS
      simp only [f_Mod_numberOf] at h
      refine lv_istore_n (lv' := [(3, .int (L 100)), (0, .ref (ad 0)), (1, .int (L 1)), (2, .int (L 2))]) hx hb d_Mod_numberOf_42 rfl hl (by decide) rfl (fun ls hl => ?_)
      refine lv_iload_n hx hb d_Mod_numberOf_43 rfl (lv_at hl 0 rfl) ?_
      refine lv_if_eq (tgt := 52) hx hb d_Mod_numberOf_44 (by decide) (fun hc1 => ?_) (fun hc1 => ?_)
      · rw [if_pos hc1] at h
        refine lv_aload_n hx hb d_Mod_numberOf_52 rfl (lv_at hl 1 rfl) ?_
        refine lv_iload_n hx hb d_Mod_numberOf_53 rfl (lv_at hl 2 rfl) ?_
        refine lv_iconst (v := 0) hx hb d_Mod_numberOf_54 (by decide) ?_
        obtain ⟨⟨r2, T2⟩, hq2, h⟩ := Option.bind_eq_some_iff.mp h
        try dsimp only at h
        refine go_iS (As := [.ref (ad 0), .int (L 1), .int 0]) (g := g) (A := A) (h := shM) hP hK hD hS hA hN (fun hp => va_runV (As := [.int (L 1), .int 0]) (rest := []) ⟨hx, hb, hml, hown, htt⟩ (t_Mod_byteOf l g _ ad S (L 1 : Int32) (0 : Int32) k9 r2 T2 hq2) ⟨(cb_L htt k_3016 k_276 k_3013 hd_Mod_byteOf ⟨(Nat.le_trans (by decide +kernel) hRf), (Nat.le_trans (by decide +kernel) hRl)⟩), htt _ k_3015, htt _ k_193⟩ ⟨hp.1, S_recv hK hP 0 rfl rfl, hp.2⟩ rfl rfl hl.1 rfl (lv_room (Nat.le_of_ble_eq_true rfl)) d_Mod_numberOf_55 ⟨hRc, hRs⟩) (fun r0 Sn H locs hw9 hP hD hS => ?_)
        obtain ⟨e9, e8⟩ := hw9
        rw [e8] at hP hD
        refine W.widen (k := cells) (n := slots) (Nat.le_refl _) (Nat.le_refl _) ?_
        refine toI (y := r2) e9 ?_
        refine lv_bipush (v := 48) hx hb d_Mod_numberOf_58 (by decide) ?_
        refine lv_icmp_ne (tgt := 68) hx hb d_Mod_numberOf_60 (by decide) (fun hc3 => ?_) (fun hc3 => ?_)
        · rw [if_neg hc3] at h
          refine lv_bipush (v := 10) hx hb d_Mod_numberOf_68 (by decide) ?_
          exact (ih.2.2.2.1) T2 (upd (upd L 3 (L 100)) 100 (10 : Int32)) M ls H locs h (lv_sub hl [1, 2, 3, 0] rfl) hP hD hS
        · rw [if_pos hc3] at h
          refine lv_bipush (v := 8) hx hb d_Mod_numberOf_63 (by decide) ?_
          refine lv_goto (tgt := 70) hx hb d_Mod_numberOf_65 (by decide) ?_
          exact (ih.2.2.2.1) T2 (upd (upd L 3 (L 100)) 100 (8 : Int32)) M ls H locs h (lv_sub hl [1, 2, 3, 0] rfl) hP hD hS
      · rw [if_neg hc1] at h
        refine lv_bipush (v := 16) hx hb d_Mod_numberOf_47 (by decide) ?_
        refine lv_goto (tgt := 70) hx hb d_Mod_numberOf_49 (by decide) ?_
        exact (ih.2.2.2.1) S (upd (upd L 3 (L 100)) 100 (16 : Int32)) M ls H locs h (lv_sub hl [1, 2, 3, 0] rfl) hP hD hS
    · intro S L M ls H locs h hl hP hD hS
      simp only [f_Mod_numberOf] at h
      refine lv_istore (lv' := [(4, .int (L 100)), (0, .ref (ad 0)), (1, .int (L 1)), (2, .int (L 2)), (3, .int (L 3))]) hx hb d_Mod_numberOf_70 hl (by decide) rfl (fun ls hl => ?_)
      refine lv_iload_n hx hb d_Mod_numberOf_72 rfl (lv_at hl 4 rfl) ?_
      refine lv_if_eq (tgt := 80) hx hb d_Mod_numberOf_73 (by decide) (fun hc1 => ?_) (fun hc1 => ?_)
      · rw [if_pos hc1] at h
        refine lv_iconst (v := 0) hx hb d_Mod_numberOf_80 (by decide) ?_
        exact (ih.2.2.2.2.1) S (upd (upd L 4 (L 100)) 100 (0 : Int32)) M ls H locs h (lv_sub hl [1, 2, 3, 4, 0] rfl) hP hD hS
      · rw [if_neg hc1] at h
        refine lv_iconst (v := 2) hx hb d_Mod_numberOf_76 (by decide) ?_
        refine lv_goto (tgt := 81) hx hb d_Mod_numberOf_77 (by decide) ?_
        exact (ih.2.2.2.2.1) S (upd (upd L 4 (L 100)) 100 (2 : Int32)) M ls H locs h (lv_sub hl [1, 2, 3, 4, 0] rfl) hP hD hS
    · intro S L M ls H locs h hl hP hD hS
      simp only [f_Mod_numberOf] at h
      refine lv_istore (lv' := [(5, .int (L 100)), (0, .ref (ad 0)), (1, .int (L 1)), (2, .int (L 2)), (3, .int (L 3)), (4, .int (L 4))]) hx hb d_Mod_numberOf_81 hl (by decide) rfl (fun ls hl => ?_)
      refine lv_iload hx hb d_Mod_numberOf_83 (lv_at hl 0 rfl) ?_
      refine lv_istore (lv' := [(6, .int (L 100)), (5, .int (L 100)), (0, .ref (ad 0)), (1, .int (L 1)), (2, .int (L 2)), (3, .int (L 3)), (4, .int (L 4))]) hx hb d_Mod_numberOf_85 hl (by decide) rfl (fun ls hl => ?_)
      refine lv_lconst (v := 0) hx hb d_Mod_numberOf_87 (by decide) ?_
      refine lv_lstore (lv' := [(7, .long 0), (6, .int (L 100)), (5, .int (L 100)), (0, .ref (ad 0)), (1, .int (L 1)), (2, .int (L 2)), (3, .int (L 3)), (4, .int (L 4))]) hx hb d_Mod_numberOf_88 hl (by decide) rfl (fun ls hl => ?_)
      refine lv_iconst (v := 0) hx hb d_Mod_numberOf_90 (by decide) ?_
      refine lv_istore (lv' := [(9, .int 0), (7, .long 0), (6, .int (L 100)), (5, .int (L 100)), (0, .ref (ad 0)), (1, .int (L 1)), (2, .int (L 2)), (3, .int (L 3)), (4, .int (L 4))]) hx hb d_Mod_numberOf_91 hl (by decide) rfl (fun ls hl => ?_)
      exact (ih.2.2.2.2.2.1) S (upd (upd (upd L 5 (L 100)) 6 (L 100)) 9 (0 : Int32)) (vp_updL M 7 (0 : Int64)) ls H locs h (lv_sub hl [4, 5, 6, 7, 8, 3, 2, 1, 0] rfl) hP hD hS
    · intro S L M ls H locs h hl hP hD hS
      simp only [f_Mod_numberOf] at h
      refine lv_iload hx hb d_Mod_numberOf_93 (lv_at hl 5 rfl) ?_
      refine lv_iload_n hx hb d_Mod_numberOf_95 rfl (lv_at hl 2 rfl) ?_
      refine lv_icmp_ge (tgt := 212) hx hb d_Mod_numberOf_96 (by decide) (fun hc1 => ?_) (fun hc1 => ?_)
      · rw [if_pos hc1] at h
        exact (ih.2.2.2.2.2.2.2.2.2.2.1) S L M ls H locs h (lv_sub hl [0, 1, 2, 3, 4, 5, 6, 7, 8] rfl) hP hD hS
      · rw [if_neg hc1] at h
        refine lv_aload_n hx hb d_Mod_numberOf_99 rfl (lv_at hl 0 rfl) ?_
        refine lv_iload_n hx hb d_Mod_numberOf_100 rfl (lv_at hl 1 rfl) ?_
        refine lv_iload hx hb d_Mod_numberOf_101 (lv_at hl 5 rfl) ?_
        obtain ⟨⟨r2, T2⟩, hq2, h⟩ := Option.bind_eq_some_iff.mp h
        try dsimp only at h
        refine go_iS (As := [.ref (ad 0), .int (L 1), .int (L 5)]) (g := g) (A := A) (h := shM) hP hK hD hS hA hN (fun hp => va_runV (As := [.int (L 1), .int (L 5)]) (rest := []) ⟨hx, hb, hml, hown, htt⟩ (t_Mod_byteOf l g _ ad S (L 1 : Int32) (L 5 : Int32) k9 r2 T2 hq2) ⟨(cb_L htt k_3016 k_276 k_3013 hd_Mod_byteOf ⟨(Nat.le_trans (by decide +kernel) hRf), (Nat.le_trans (by decide +kernel) hRl)⟩), htt _ k_3015, htt _ k_193⟩ ⟨hp.1, S_recv hK hP 0 rfl rfl, hp.2⟩ rfl rfl hl.1 rfl (lv_room (Nat.le_of_ble_eq_true rfl)) d_Mod_numberOf_103 ⟨hRc, hRs⟩) (fun r0 Sn H locs hw9 hP hD hS => ?_)
        obtain ⟨e9, e8⟩ := hw9
        rw [e8] at hP hD
        refine W.widen (k := cells) (n := slots) (Nat.le_refl _) (Nat.le_refl _) ?_
        refine toI (y := r2) e9 ?_
        obtain ⟨⟨r3, T3⟩, hq3, h⟩ := Option.bind_eq_some_iff.mp h
        try dsimp only at h
        refine go_iS (As := [.int r2]) (g := g) (A := A) (h := shM) hP hK hD hS hA hN (fun hp => va_runS (As := [.int r2]) (rest := []) ⟨hx, hb, hml, hown, htt⟩ (t_Mod_digitOf l g _ ad T2 (r2 : Int32) k9 r3 T3 hq3) ⟨(cb_L htt k_3207 k_276 k_3205 hd_Mod_digitOf ⟨(Nat.le_trans (by decide +kernel) hRf), (Nat.le_trans (by decide +kernel) hRl)⟩), htt _ k_3206⟩ hp rfl rfl hl.1 rfl (lv_room (Nat.le_of_ble_eq_true rfl)) d_Mod_numberOf_106 ⟨hRc, hRs⟩) (fun r0 Sn H locs hw9 hP hD hS => ?_)
        obtain ⟨e9, e8⟩ := hw9
        rw [e8] at hP hD
        refine W.widen (k := cells) (n := slots) (Nat.le_refl _) (Nat.le_refl _) ?_
        refine toI (y := r3) e9 ?_
        refine lv_iload hx hb d_Mod_numberOf_109 (lv_at hl 4 rfl) ?_
        refine lv_icmp_ge (tgt := 212) hx hb d_Mod_numberOf_111 (by decide) (fun hc4 => ?_) (fun hc4 => ?_)
        · rw [if_pos hc4] at h
          exact (ih.2.2.2.2.2.2.2.2.2.2.1) T3 L M ls H locs h (lv_sub hl [0, 1, 2, 3, 4, 5, 6, 7, 8] rfl) hP hD hS
        · rw [if_neg hc4] at h
          refine lv_ldc2 (v := (-1)) hx hb hown (htt _ k_3208) d_Mod_numberOf_114 ?_
          refine lv_iload hx hb d_Mod_numberOf_117 (lv_at hl 4 rfl) ?_
          refine lv_i2l (v := (L 4).toInt64) hx hb d_Mod_numberOf_119 rfl ?_
          refine lv_iconst (v := 1) hx hb d_Mod_numberOf_120 (by decide) ?_
          obtain ⟨⟨r5, T5⟩, hq5, h⟩ := Option.bind_eq_some_iff.mp h
          try dsimp only at h
          refine go_lS (As := [.long (-1), .long ((L 4).toInt64), .int 1]) (g := g) (A := A) (h := shM) hP hK hD hS hA hN (fun hp => va_runS (As := [.long (-1), .long ((L 4).toInt64), .int 1]) (rest := []) ⟨hx, hb, hml, hown, htt⟩ (t_Mod_quotient l g _ ad T3 ((-1) : Int64) ((L 4).toInt64 : Int64) (1 : Int32) k9 r5 T5 hq5) ⟨(cb_L htt k_3211 k_276 k_3209 hd_Mod_quotient ⟨(Nat.le_trans (by decide +kernel) hRf), (Nat.le_trans (by decide +kernel) hRl)⟩), htt _ k_3210⟩ hp rfl rfl hl.1 rfl (lv_room (Nat.le_of_ble_eq_true rfl)) d_Mod_numberOf_121 ⟨hRc, hRs⟩) (fun r0 Sn H locs hw9 hP hD hS => ?_)
          obtain ⟨e9, e8⟩ := hw9
          rw [e8] at hP hD
          refine W.widen (k := cells) (n := slots) (Nat.le_refl _) (Nat.le_refl _) ?_
          refine toL (y := r5) e9 ?_
          refine lv_lstore (lv' := [(10, .long r5), (0, .ref (ad 0)), (1, .int (L 1)), (2, .int (L 2)), (3, .int (L 3)), (4, .int (L 4)), (5, .int (L 5)), (6, .int (L 6)), (7, .long (M 7)), (9, .int (L 9))]) hx hb d_Mod_numberOf_124 hl (by decide) rfl (fun ls hl => ?_)
          show W _ _ _ _ _ _ _ _ _ _ _ _ _ _ _ (F0 _ 126 _ _)
          refine lv_aload_n hx hb d_Mod_numberOf_126 rfl (lv_at hl 1 rfl) ?_
          refine lv_iload_n hx hb d_Mod_numberOf_127 rfl (lv_at hl 2 rfl) ?_
          refine lv_iload hx hb d_Mod_numberOf_128 (lv_at hl 6 rfl) ?_
          obtain ⟨⟨r6, T6⟩, hq6, h⟩ := Option.bind_eq_some_iff.mp h
          try dsimp only at h
          refine go_iS (As := [.ref (ad 0), .int (L 1), .int (L 5)]) (g := g) (A := A) (h := shM) hP hK hD hS hA hN (fun hp => va_runV (As := [.int (L 1), .int (L 5)]) (rest := []) ⟨hx, hb, hml, hown, htt⟩ (t_Mod_byteOf l g _ ad T5 (L 1 : Int32) (L 5 : Int32) k9 r6 T6 hq6) ⟨(cb_L htt k_3016 k_276 k_3013 hd_Mod_byteOf ⟨(Nat.le_trans (by decide +kernel) hRf), (Nat.le_trans (by decide +kernel) hRl)⟩), htt _ k_3015, htt _ k_193⟩ ⟨hp.1, S_recv hK hP 0 rfl rfl, hp.2⟩ rfl rfl hl.1 rfl (lv_room (Nat.le_of_ble_eq_true rfl)) d_Mod_numberOf_130 ⟨hRc, hRs⟩) (fun r0 Sn H locs hw9 hP hD hS => ?_)
          obtain ⟨e9, e8⟩ := hw9
          rw [e8] at hP hD
          refine W.widen (k := cells) (n := slots) (Nat.le_refl _) (Nat.le_refl _) ?_
          refine toI (y := r6) e9 ?_
          obtain ⟨⟨r7, T7⟩, hq7, h⟩ := Option.bind_eq_some_iff.mp h
          try dsimp only at h
          refine go_iS (As := [.int r6]) (g := g) (A := A) (h := shM) hP hK hD hS hA hN (fun hp => va_runS (As := [.int r6]) (rest := []) ⟨hx, hb, hml, hown, htt⟩ (t_Mod_digitOf l g _ ad T6 (r6 : Int32) k9 r7 T7 hq7) ⟨(cb_L htt k_3207 k_276 k_3205 hd_Mod_digitOf ⟨(Nat.le_trans (by decide +kernel) hRf), (Nat.le_trans (by decide +kernel) hRl)⟩), htt _ k_3206⟩ hp rfl rfl hl.1 rfl (lv_room (Nat.le_of_ble_eq_true rfl)) d_Mod_numberOf_133 ⟨hRc, hRs⟩) (fun r0 Sn H locs hw9 hP hD hS => ?_)
          obtain ⟨e9, e8⟩ := hw9
          rw [e8] at hP hD
          refine W.widen (k := cells) (n := slots) (Nat.le_refl _) (Nat.le_refl _) ?_
          refine toI (y := r7) e9 ?_
          refine lv_istore (lv' := [(12, .int r7), (10, .long r5), (0, .ref (ad 0)), (1, .int (L 1)), (2, .int (L 2)), (3, .int (L 3)), (4, .int (L 4)), (5, .int (L 5)), (6, .int (L 6)), (7, .long (M 7)), (9, .int (L 9))]) hx hb d_Mod_numberOf_136 hl (by decide) rfl (fun ls hl => ?_)
          refine lv_iload hx hb d_Mod_numberOf_138 (lv_at hl 10 rfl) ?_
          refine lv_if_ne (tgt := 187) hx hb d_Mod_numberOf_140 (by decide) (fun hc8 => ?_) (fun hc8 => ?_)
          · rw [if_neg hc8] at h
            exact (ih.2.2.2.2.2.2.2.1) T7 (upd L 12 r7) (vp_updL M 10 r5) ls H locs h (lv_sub hl [2, 3, 4, 5, 6, 7, 8, 9, 10, 1, 0] rfl) hP hD hS
          · rw [if_pos hc8] at h
            refine lv_lload hx hb d_Mod_numberOf_143 (lv_at hl 9 rfl) ?_
            refine lv_ldc2 (v := (-9223372036854775808)) hx hb hown (htt _ k_3212) d_Mod_numberOf_145 ?_
            refine lv_ladd hx hb d_Mod_numberOf_148 ?_
            refine lv_lload hx hb d_Mod_numberOf_149 (lv_at hl 1 rfl) ?_
            refine lv_ldc2 (v := (-9223372036854775808)) hx hb hown (htt _ k_3212) d_Mod_numberOf_151 ?_
            refine lv_ladd hx hb d_Mod_numberOf_154 ?_
            refine W.lcmp hx hb d_Mod_numberOf_155 ?_
            refine lv_if_gt (tgt := 187) hx hb d_Mod_numberOf_156 (by decide) (fun hc9 => ?_) (fun hc9 => ?_)
            · rw [if_pos hc9] at h
              exact (ih.2.2.2.2.2.2.2.1) T7 (upd L 12 r7) (vp_updL M 10 r5) ls H locs h (lv_sub hl [2, 3, 4, 5, 6, 7, 8, 9, 10, 1, 0] rfl) hP hD hS
            · rw [if_neg hc9] at h
              show W _ _ _ _ _ _ _ _ _ _ _ _ _ _ _ (F0 _ 159 _ _)
              refine lv_lload hx hb d_Mod_numberOf_159 (lv_at hl 9 rfl) ?_
              refine lv_lload hx hb d_Mod_numberOf_161 (lv_at hl 1 rfl) ?_
              refine W.lcmp hx hb d_Mod_numberOf_163 ?_
              refine lv_if_ne (tgt := 191) hx hb d_Mod_numberOf_164 (by decide) (fun hc10 => ?_) (fun hc10 => ?_)
              · rw [if_neg hc10] at h
                exact (ih.2.2.2.2.2.2.2.2.1) T7 (upd L 12 r7) (vp_updL M 10 r5) ls H locs h (lv_sub hl [2, 3, 4, 5, 6, 7, 8, 9, 10, 1, 0] rfl) hP hD hS
              · rw [if_pos hc10] at h
                refine lv_iload hx hb d_Mod_numberOf_167 (lv_at hl 0 rfl) ?_
                refine lv_iload hx hb d_Mod_numberOf_169 (lv_at hl 6 rfl) ?_
                refine lv_bipush (v := 10) hx hb d_Mod_numberOf_171 (by decide) ?_
                refine lv_icmp_ne (tgt := 180) hx hb d_Mod_numberOf_173 (by decide) (fun hc11 => ?_) (fun hc11 => ?_)
                · rw [if_neg hc11] at h
                  refine lv_iload hx hb d_Mod_numberOf_180 (lv_at hl 6 rfl) ?_
                  refine lv_iconst (v := 1) hx hb d_Mod_numberOf_182 (by decide) ?_
                  refine lv_isub hx hb d_Mod_numberOf_183 ?_
                  exact (ih.2.2.2.2.2.2.1) T7 (upd (upd (upd L 12 r7) 101 ((L 4) - (1 : Int32))) 100 r7) (vp_updL M 10 r5) ls H locs h (lv_sub hl [2, 3, 4, 5, 6, 7, 8, 9, 10, 1, 0] rfl) hP hD hS
                · rw [if_pos hc11] at h
                  refine lv_iconst (v := 5) hx hb d_Mod_numberOf_176 (by decide) ?_
                  refine lv_goto (tgt := 184) hx hb d_Mod_numberOf_177 (by decide) ?_
                  exact (ih.2.2.2.2.2.2.1) T7 (upd (upd (upd L 12 r7) 101 (5 : Int32)) 100 r7) (vp_updL M 10 r5) ls H locs h (lv_sub hl [2, 3, 4, 5, 6, 7, 8, 9, 10, 1, 0] rfl) hP hD hS
    · intro S L M ls H locs h hl hP hD hS
      simp only [f_Mod_numberOf] at h
      refine lv_icmp_le (tgt := 191) hx hb d_Mod_numberOf_184 (by decide) (fun hc1 => ?_) (fun hc1 => ?_)
      · rw [if_pos hc1] at h
        exact (ih.2.2.2.2.2.2.2.2.1) S L M ls H locs h (lv_sub hl [0, 1, 2, 3, 4, 5, 6, 7, 8, 9, 10] rfl) hP hD hS
      · rw [if_neg hc1] at h
        exact (ih.2.2.2.2.2.2.2.1) S L M ls H locs h (lv_sub hl [0, 1, 2, 3, 4, 5, 6, 7, 8, 9, 10] rfl) hP hD hS
    · intro S L M ls H locs h hl hP hD hS
      simp only [f_Mod_numberOf] at h
      refine lv_iconst (v := 1) hx hb d_Mod_numberOf_187 (by decide) ?_
      refine lv_goto (tgt := 192) hx hb d_Mod_numberOf_188 (by decide) ?_
      exact (ih.2.2.2.2.2.2.2.2.2.1) S (upd L 100 (1 : Int32)) M ls H locs h (lv_sub hl [0, 1, 2, 3, 4, 5, 6, 7, 8, 9, 10] rfl) hP hD hS
    · intro S L M ls H locs h hl hP hD hS
      simp only [f_Mod_numberOf] at h
      refine lv_iconst (v := 0) hx hb d_Mod_numberOf_191 (by decide) ?_
      exact (ih.2.2.2.2.2.2.2.2.2.1) S (upd L 100 (0 : Int32)) M ls H locs h (lv_sub hl [0, 1, 2, 3, 4, 5, 6, 7, 8, 9, 10] rfl) hP hD hS
    · intro S L M ls H locs h hl hP hD hS
      simp only [f_Mod_numberOf] at h
      refine lv_istore (lv' := [(9, .int (L 100)), (0, .ref (ad 0)), (1, .int (L 1)), (2, .int (L 2)), (3, .int (L 3)), (4, .int (L 4)), (5, .int (L 5)), (6, .int (L 6)), (7, .long (M 7)), (10, .long (M 10)), (12, .int (L 12))]) hx hb d_Mod_numberOf_192 hl (by decide) rfl (fun ls hl => ?_)
      refine lv_lload hx hb d_Mod_numberOf_194 (lv_at hl 8 rfl) ?_
      refine lv_iload hx hb d_Mod_numberOf_196 (lv_at hl 5 rfl) ?_
      refine lv_i2l (v := (L 4).toInt64) hx hb d_Mod_numberOf_198 rfl ?_
      refine lv_lmul hx hb d_Mod_numberOf_199 ?_
      refine lv_iload hx hb d_Mod_numberOf_200 (lv_at hl 10 rfl) ?_
      refine lv_i2l (v := (L 12).toInt64) hx hb d_Mod_numberOf_202 rfl ?_
      refine lv_ladd hx hb d_Mod_numberOf_203 ?_
      refine lv_lstore (lv' := [(7, .long (((M 7) * ((L 4).toInt64)) + ((L 12).toInt64))), (9, .int (L 100)), (0, .ref (ad 0)), (1, .int (L 1)), (2, .int (L 2)), (3, .int (L 3)), (4, .int (L 4)), (5, .int (L 5)), (6, .int (L 6)), (10, .long (M 10)), (12, .int (L 12))]) hx hb d_Mod_numberOf_204 hl (by decide) rfl (fun ls hl => ?_)
      refine lv_iinc (k := 7) (v := (L 5) + 1) (lv' := [(5, .int ((L 5) + 1)), (7, .long (((M 7) * ((L 4).toInt64)) + ((L 12).toInt64))), (9, .int (L 100)), (0, .ref (ad 0)), (1, .int (L 1)), (2, .int (L 2)), (3, .int (L 3)), (4, .int (L 4)), (6, .int (L 6)), (10, .long (M 10)), (12, .int (L 12))]) hx hb d_Mod_numberOf_206 hl rfl rfl (by decide) rfl (fun ls hl => ?_)
      refine lv_goto (tgt := 93) hx hb d_Mod_numberOf_209 (by decide) ?_
      exact (ih.2.2.2.2.2.1) S (upd (upd L 5 ((L 5) + 1)) 9 (L 100)) (vp_updL M 7 (((M 7) * ((L 4).toInt64)) + ((L 12).toInt64))) ls H locs h (lv_sub hl [3, 4, 5, 6, 7, 0, 8, 1, 2] rfl) hP hD hS
    · intro S L M ls H locs h hl hP hD hS
      simp only [f_Mod_numberOf] at h
      refine lv_iload hx hb d_Mod_numberOf_212 (lv_at hl 5 rfl) ?_
      refine lv_iload hx hb d_Mod_numberOf_214 (lv_at hl 6 rfl) ?_
      refine lv_icmp_ne (tgt := 223) hx hb d_Mod_numberOf_216 (by decide) (fun hc1 => ?_) (fun hc1 => ?_)
      · rw [if_neg hc1] at h
        refine lv_iconst (v := 0) hx hb d_Mod_numberOf_223 (by decide) ?_
        exact (ih.2.2.2.2.2.2.2.2.2.2.2.1) S (upd L 100 (0 : Int32)) M ls H locs h (lv_sub hl [0, 1, 2, 3, 4, 5, 6, 7, 8] rfl) hP hD hS
      · rw [if_pos hc1] at h
        refine lv_iconst (v := 1) hx hb d_Mod_numberOf_219 (by decide) ?_
        refine lv_goto (tgt := 224) hx hb d_Mod_numberOf_220 (by decide) ?_
        exact (ih.2.2.2.2.2.2.2.2.2.2.2.1) S (upd L 100 (1 : Int32)) M ls H locs h (lv_sub hl [0, 1, 2, 3, 4, 5, 6, 7, 8] rfl) hP hD hS
    · intro S L M ls H locs h hl hP hD hS
      simp only [f_Mod_numberOf] at h
      refine lv_istore (lv' := [(10, .int (L 100)), (0, .ref (ad 0)), (1, .int (L 1)), (2, .int (L 2)), (3, .int (L 3)), (4, .int (L 4)), (5, .int (L 5)), (6, .int (L 6)), (7, .long (M 7)), (9, .int (L 9))]) hx hb d_Mod_numberOf_224 hl (by decide) rfl (fun ls hl => ?_)
      refine lv_iconst (v := 0) hx hb d_Mod_numberOf_226 (by decide) ?_
      refine lv_istore (lv' := [(11, .int 0), (10, .int (L 100)), (0, .ref (ad 0)), (1, .int (L 1)), (2, .int (L 2)), (3, .int (L 3)), (4, .int (L 4)), (5, .int (L 5)), (6, .int (L 6)), (7, .long (M 7)), (9, .int (L 9))]) hx hb d_Mod_numberOf_227 hl (by decide) rfl (fun ls hl => ?_)
      refine lv_iconst (v := 0) hx hb d_Mod_numberOf_229 (by decide) ?_
      refine lv_istore (lv' := [(12, .int 0), (11, .int 0), (10, .int (L 100)), (0, .ref (ad 0)), (1, .int (L 1)), (2, .int (L 2)), (3, .int (L 3)), (4, .int (L 4)), (5, .int (L 5)), (6, .int (L 6)), (7, .long (M 7)), (9, .int (L 9))]) hx hb d_Mod_numberOf_230 hl (by decide) rfl (fun ls hl => ?_)
      refine lv_iconst (v := 1) hx hb d_Mod_numberOf_232 (by decide) ?_
      refine lv_istore (lv' := [(13, .int 1), (12, .int 0), (11, .int 0), (10, .int (L 100)), (0, .ref (ad 0)), (1, .int (L 1)), (2, .int (L 2)), (3, .int (L 3)), (4, .int (L 4)), (5, .int (L 5)), (6, .int (L 6)), (7, .long (M 7)), (9, .int (L 9))]) hx hb d_Mod_numberOf_233 hl (by decide) rfl (fun ls hl => ?_)
      exact (ih.2.2.2.2.2.2.2.2.2.2.2.2.1) S (upd (upd (upd (upd L 10 (L 100)) 11 (0 : Int32)) 12 (0 : Int32)) 13 (1 : Int32)) M ls H locs h (lv_sub hl [4, 5, 6, 7, 8, 9, 10, 11, 12, 3, 2, 1, 0] rfl) hP hD hS
    · intro S L M ls H locs h hl hP hD hS
      simp only [f_Mod_numberOf] at h
      refine lv_iload hx hb d_Mod_numberOf_235 (lv_at hl 5 rfl) ?_
      refine lv_iload_n hx hb d_Mod_numberOf_237 rfl (lv_at hl 2 rfl) ?_
      refine lv_icmp_ge (tgt := 339) hx hb d_Mod_numberOf_238 (by decide) (fun hc1 => ?_) (fun hc1 => ?_)
      · rw [if_pos hc1] at h
        exact (ih.2.2.2.2.2.2.2.2.2.2.2.2.2.2.2.2.2.2.1) S L M ls H locs h (lv_sub hl [0, 1, 2, 3, 4, 5, 6, 7, 8, 9, 10, 11, 12] rfl) hP hD hS
      · rw [if_neg hc1] at h
        refine lv_iload hx hb d_Mod_numberOf_241 (lv_at hl 12 rfl) ?_
        refine lv_if_eq (tgt := 339) hx hb d_Mod_numberOf_243 (by decide) (fun hc2 => ?_) (fun hc2 => ?_)
        · rw [if_pos hc2] at h
          exact (ih.2.2.2.2.2.2.2.2.2.2.2.2.2.2.2.2.2.2.1) S L M ls H locs h (lv_sub hl [0, 1, 2, 3, 4, 5, 6, 7, 8, 9, 10, 11, 12] rfl) hP hD hS
        · rw [if_neg hc2] at h
          refine lv_aload_n hx hb d_Mod_numberOf_246 rfl (lv_at hl 0 rfl) ?_
          refine lv_iload_n hx hb d_Mod_numberOf_247 rfl (lv_at hl 1 rfl) ?_
          refine lv_iload hx hb d_Mod_numberOf_248 (lv_at hl 5 rfl) ?_
          obtain ⟨⟨r3, T3⟩, hq3, h⟩ := Option.bind_eq_some_iff.mp h
          try dsimp only at h
          refine go_iS (As := [.ref (ad 0), .int (L 1), .int (L 5)]) (g := g) (A := A) (h := shM) hP hK hD hS hA hN (fun hp => va_runV (As := [.int (L 1), .int (L 5)]) (rest := []) ⟨hx, hb, hml, hown, htt⟩ (t_Mod_byteOf l g _ ad S (L 1 : Int32) (L 5 : Int32) k9 r3 T3 hq3) ⟨(cb_L htt k_3016 k_276 k_3013 hd_Mod_byteOf ⟨(Nat.le_trans (by decide +kernel) hRf), (Nat.le_trans (by decide +kernel) hRl)⟩), htt _ k_3015, htt _ k_193⟩ ⟨hp.1, S_recv hK hP 0 rfl rfl, hp.2⟩ rfl rfl hl.1 rfl (lv_room (Nat.le_of_ble_eq_true rfl)) d_Mod_numberOf_250 ⟨hRc, hRs⟩) (fun r0 Sn H locs hw9 hP hD hS => ?_)
          obtain ⟨e9, e8⟩ := hw9
          rw [e8] at hP hD
          refine W.widen (k := cells) (n := slots) (Nat.le_refl _) (Nat.le_refl _) ?_
          refine toI (y := r3) e9 ?_
          refine lv_istore (lv' := [(14, .int r3), (0, .ref (ad 0)), (1, .int (L 1)), (2, .int (L 2)), (3, .int (L 3)), (4, .int (L 4)), (5, .int (L 5)), (6, .int (L 6)), (7, .long (M 7)), (9, .int (L 9)), (10, .int (L 10)), (11, .int (L 11)), (12, .int (L 12)), (13, .int (L 13))]) hx hb d_Mod_numberOf_253 hl (by decide) rfl (fun ls hl => ?_)
          refine lv_iload hx hb d_Mod_numberOf_255 (lv_at hl 0 rfl) ?_
          refine lv_bipush (v := 32) hx hb d_Mod_numberOf_257 (by decide) ?_
          refine lv_ior hx hb d_Mod_numberOf_259 ?_
          refine lv_bipush (v := 117) hx hb d_Mod_numberOf_260 (by decide) ?_
          refine lv_icmp_ne (tgt := 279) hx hb d_Mod_numberOf_262 (by decide) (fun hc4 => ?_) (fun hc4 => ?_)
          · rw [if_neg hc4] at h
            exact (ih.2.2.2.2.2.2.2.2.2.2.2.2.2.1) T3 (upd L 14 r3) M ls H locs h (lv_sub hl [1, 2, 3, 4, 5, 6, 7, 8, 9, 10, 11, 12, 13, 0] rfl) hP hD hS
          · rw [if_pos hc4] at h
            show W _ _ _ _ _ _ _ _ _ _ _ _ _ _ _ (F0 _ 265 _ _)
            refine lv_iload hx hb d_Mod_numberOf_265 (lv_at hl 11 rfl) ?_
            refine lv_if_ne (tgt := 279) hx hb d_Mod_numberOf_267 (by decide) (fun hc5 => ?_) (fun hc5 => ?_)
            · rw [if_neg hc5] at h
              exact (ih.2.2.2.2.2.2.2.2.2.2.2.2.2.1) T3 (upd L 14 r3) M ls H locs h (lv_sub hl [1, 2, 3, 4, 5, 6, 7, 8, 9, 10, 11, 12, 13, 0] rfl) hP hD hS
            · rw [if_pos hc5] at h
              refine lv_iconst (v := 1) hx hb d_Mod_numberOf_270 (by decide) ?_
              refine lv_istore (lv' := [(11, .int 1), (14, .int r3), (0, .ref (ad 0)), (1, .int (L 1)), (2, .int (L 2)), (3, .int (L 3)), (4, .int (L 4)), (5, .int (L 5)), (6, .int (L 6)), (7, .long (M 7)), (9, .int (L 9)), (10, .int (L 10)), (12, .int (L 12)), (13, .int (L 13))]) hx hb d_Mod_numberOf_271 hl (by decide) rfl (fun ls hl => ?_)
              refine lv_iinc (k := 7) (v := (L 5) + 1) (lv' := [(5, .int ((L 5) + 1)), (11, .int 1), (14, .int r3), (0, .ref (ad 0)), (1, .int (L 1)), (2, .int (L 2)), (3, .int (L 3)), (4, .int (L 4)), (6, .int (L 6)), (7, .long (M 7)), (9, .int (L 9)), (10, .int (L 10)), (12, .int (L 12)), (13, .int (L 13))]) hx hb d_Mod_numberOf_273 hl rfl rfl (by decide) rfl (fun ls hl => ?_)
              refine lv_goto (tgt := 336) hx hb d_Mod_numberOf_276 (by decide) ?_
              exact (ih.2.2.2.2.2.2.2.2.2.2.2.2.2.2.2.2.2.1) T3 (upd (upd (upd L 5 ((L 5) + 1)) 11 (1 : Int32)) 14 r3) M ls H locs h (lv_sub hl [3, 4, 5, 6, 7, 0, 8, 9, 10, 11, 1, 12, 13, 2] rfl) hP hD hS
    · intro S L M ls H locs h hl hP hD hS
      simp only [f_Mod_numberOf] at h
      refine lv_iload hx hb d_Mod_numberOf_279 (lv_at hl 13 rfl) ?_
      refine lv_bipush (v := 32) hx hb d_Mod_numberOf_281 (by decide) ?_
      refine lv_ior hx hb d_Mod_numberOf_283 ?_
      refine lv_bipush (v := 108) hx hb d_Mod_numberOf_284 (by decide) ?_
      refine lv_icmp_ne (tgt := 333) hx hb d_Mod_numberOf_286 (by decide) (fun hc1 => ?_) (fun hc1 => ?_)
      · rw [if_neg hc1] at h
        exact (ih.2.2.2.2.2.2.2.2.2.2.2.2.2.2.2.2.1) S L M ls H locs h (lv_sub hl [0, 1, 2, 3, 4, 5, 6, 7, 8, 9, 10, 11, 12, 13] rfl) hP hD hS
      · rw [if_pos hc1] at h
        refine lv_iload hx hb d_Mod_numberOf_289 (lv_at hl 11 rfl) ?_
        refine lv_if_ne (tgt := 333) hx hb d_Mod_numberOf_291 (by decide) (fun hc2 => ?_) (fun hc2 => ?_)
        · rw [if_neg hc2] at h
          exact (ih.2.2.2.2.2.2.2.2.2.2.2.2.2.2.2.2.1) S L M ls H locs h (lv_sub hl [0, 1, 2, 3, 4, 5, 6, 7, 8, 9, 10, 11, 12, 13] rfl) hP hD hS
        · rw [if_pos hc2] at h
          refine lv_iload hx hb d_Mod_numberOf_294 (lv_at hl 5 rfl) ?_
          refine lv_iconst (v := 1) hx hb d_Mod_numberOf_296 (by decide) ?_
          refine lv_iadd hx hb d_Mod_numberOf_297 ?_
          refine lv_iload_n hx hb d_Mod_numberOf_298 rfl (lv_at hl 2 rfl) ?_
          refine lv_icmp_ge (tgt := 320) hx hb d_Mod_numberOf_299 (by decide) (fun hc3 => ?_) (fun hc3 => ?_)
          · rw [if_pos hc3] at h
            exact (ih.2.2.2.2.2.2.2.2.2.2.2.2.2.2.1) S L M ls H locs h (lv_sub hl [0, 1, 2, 3, 4, 5, 6, 7, 8, 9, 10, 11, 12, 13] rfl) hP hD hS
          · rw [if_neg hc3] at h
            refine lv_aload_n hx hb d_Mod_numberOf_302 rfl (lv_at hl 0 rfl) ?_
            refine lv_iload_n hx hb d_Mod_numberOf_303 rfl (lv_at hl 1 rfl) ?_
            show W _ _ _ _ _ _ _ _ _ _ _ _ _ _ _ (F0 _ 304 _ _)
            refine lv_iload hx hb d_Mod_numberOf_304 (lv_at hl 5 rfl) ?_
            refine lv_iconst (v := 1) hx hb d_Mod_numberOf_306 (by decide) ?_
            refine lv_iadd hx hb d_Mod_numberOf_307 ?_
            obtain ⟨⟨r4, T4⟩, hq4, h⟩ := Option.bind_eq_some_iff.mp h
            try dsimp only at h
            refine go_iS (As := [.ref (ad 0), .int (L 1), .int ((L 5) + (1 : Int32))]) (g := g) (A := A) (h := shM) hP hK hD hS hA hN (fun hp => va_runV (As := [.int (L 1), .int ((L 5) + (1 : Int32))]) (rest := []) ⟨hx, hb, hml, hown, htt⟩ (t_Mod_byteOf l g _ ad S (L 1 : Int32) ((L 5) + (1 : Int32) : Int32) k9 r4 T4 hq4) ⟨(cb_L htt k_3016 k_276 k_3013 hd_Mod_byteOf ⟨(Nat.le_trans (by decide +kernel) hRf), (Nat.le_trans (by decide +kernel) hRl)⟩), htt _ k_3015, htt _ k_193⟩ ⟨hp.1, S_recv hK hP 0 rfl rfl, hp.2⟩ rfl rfl hl.1 rfl (lv_room (Nat.le_of_ble_eq_true rfl)) d_Mod_numberOf_308 ⟨hRc, hRs⟩) (fun r0 Sn H locs hw9 hP hD hS => ?_)
            obtain ⟨e9, e8⟩ := hw9
            rw [e8] at hP hD
            refine W.widen (k := cells) (n := slots) (Nat.le_refl _) (Nat.le_refl _) ?_
            refine toI (y := r4) e9 ?_
            refine lv_iload hx hb d_Mod_numberOf_311 (lv_at hl 13 rfl) ?_
            refine lv_icmp_ne (tgt := 320) hx hb d_Mod_numberOf_313 (by decide) (fun hc5 => ?_) (fun hc5 => ?_)
            · rw [if_neg hc5] at h
              exact (ih.2.2.2.2.2.2.2.2.2.2.2.2.2.2.1) T4 L M ls H locs h (lv_sub hl [0, 1, 2, 3, 4, 5, 6, 7, 8, 9, 10, 11, 12, 13] rfl) hP hD hS
            · rw [if_pos hc5] at h
              refine lv_iconst (v := 2) hx hb d_Mod_numberOf_316 (by decide) ?_
              refine lv_goto (tgt := 321) hx hb d_Mod_numberOf_317 (by decide) ?_
              exact (ih.2.2.2.2.2.2.2.2.2.2.2.2.2.2.2.1) T4 (upd L 100 (2 : Int32)) M ls H locs h (lv_sub hl [0, 1, 2, 3, 4, 5, 6, 7, 8, 9, 10, 11, 12, 13] rfl) hP hD hS
    · intro S L M ls H locs h hl hP hD hS
      simp only [f_Mod_numberOf] at h
      refine lv_iconst (v := 1) hx hb d_Mod_numberOf_320 (by decide) ?_
      exact (ih.2.2.2.2.2.2.2.2.2.2.2.2.2.2.2.1) S (upd L 100 (1 : Int32)) M ls H locs h (lv_sub hl [0, 1, 2, 3, 4, 5, 6, 7, 8, 9, 10, 11, 12, 13] rfl) hP hD hS
    · intro S L M ls H locs h hl hP hD hS
      simp only [f_Mod_numberOf] at h
      refine lv_istore (lv' := [(12, .int (L 100)), (0, .ref (ad 0)), (1, .int (L 1)), (2, .int (L 2)), (3, .int (L 3)), (4, .int (L 4)), (5, .int (L 5)), (6, .int (L 6)), (7, .long (M 7)), (9, .int (L 9)), (10, .int (L 10)), (11, .int (L 11)), (13, .int (L 13)), (14, .int (L 14))]) hx hb d_Mod_numberOf_321 hl (by decide) rfl (fun ls hl => ?_)
      refine lv_iload hx hb d_Mod_numberOf_323 (lv_at hl 6 rfl) ?_
      refine lv_iload hx hb d_Mod_numberOf_325 (lv_at hl 0 rfl) ?_
      refine lv_iadd hx hb d_Mod_numberOf_327 ?_
      refine lv_istore (lv' := [(5, .int ((L 5) + (L 100))), (12, .int (L 100)), (0, .ref (ad 0)), (1, .int (L 1)), (2, .int (L 2)), (3, .int (L 3)), (4, .int (L 4)), (6, .int (L 6)), (7, .long (M 7)), (9, .int (L 9)), (10, .int (L 10)), (11, .int (L 11)), (13, .int (L 13)), (14, .int (L 14))]) hx hb d_Mod_numberOf_328 hl (by decide) rfl (fun ls hl => ?_)
      refine lv_goto (tgt := 336) hx hb d_Mod_numberOf_330 (by decide) ?_
      exact (ih.2.2.2.2.2.2.2.2.2.2.2.2.2.2.2.2.2.1) S (upd (upd L 5 ((L 5) + (L 100))) 12 (L 100)) M ls H locs h (lv_sub hl [2, 3, 4, 5, 6, 0, 7, 8, 9, 10, 11, 1, 12, 13] rfl) hP hD hS
    · intro S L M ls H locs h hl hP hD hS
      simp only [f_Mod_numberOf] at h
      refine lv_iconst (v := 0) hx hb d_Mod_numberOf_333 (by decide) ?_
      refine lv_istore (lv' := [(13, .int 0), (0, .ref (ad 0)), (1, .int (L 1)), (2, .int (L 2)), (3, .int (L 3)), (4, .int (L 4)), (5, .int (L 5)), (6, .int (L 6)), (7, .long (M 7)), (9, .int (L 9)), (10, .int (L 10)), (11, .int (L 11)), (12, .int (L 12)), (14, .int (L 14))]) hx hb d_Mod_numberOf_334 hl (by decide) rfl (fun ls hl => ?_)
      exact (ih.2.2.2.2.2.2.2.2.2.2.2.2.2.2.2.2.2.1) S (upd L 13 (0 : Int32)) M ls H locs h (lv_sub hl [1, 2, 3, 4, 5, 6, 7, 8, 9, 10, 11, 12, 0, 13] rfl) hP hD hS
    · intro S L M ls H locs h hl hP hD hS
      simp only [f_Mod_numberOf] at h
      refine lv_goto (tgt := 235) hx hb d_Mod_numberOf_336 (by decide) ?_
      exact (ih.2.2.2.2.2.2.2.2.2.2.2.2.1) S L M ls H locs h (lv_sub hl [0, 1, 2, 3, 4, 5, 6, 7, 8, 9, 10, 11, 12] rfl) hP hD hS
    · intro S L M ls H locs h hl hP hD hS
      simp only [f_Mod_numberOf] at h
      refine lv_aload_n hx hb d_Mod_numberOf_339 rfl (lv_at hl 0 rfl) ?_
      refine lv_iload hx hb d_Mod_numberOf_340 (lv_at hl 10 rfl) ?_
      refine lv_if_ne (tgt := 352) hx hb d_Mod_numberOf_342 (by decide) (fun hc1 => ?_) (fun hc1 => ?_)
      · rw [if_neg hc1] at h
        exact (ih.2.2.2.2.2.2.2.2.2.2.2.2.2.2.2.2.2.2.2.1) S L M ls H locs h (lv_sub hl [0, 1, 2, 3, 4, 5, 6, 7, 8, 9, 10, 11, 12] rfl) hP hD hS
      · rw [if_pos hc1] at h
        refine lv_lload hx hb d_Mod_numberOf_345 (lv_at hl 7 rfl) ?_
        refine lv_lconst (v := 0) hx hb d_Mod_numberOf_347 (by decide) ?_
        refine W.lcmp hx hb d_Mod_numberOf_348 ?_
        refine lv_if_ge (tgt := 356) hx hb d_Mod_numberOf_349 (by decide) (fun hc2 => ?_) (fun hc2 => ?_)
        · rw [if_pos hc2] at h
          refine lv_iconst (v := 0) hx hb d_Mod_numberOf_356 (by decide) ?_
          exact (ih.2.2.2.2.2.2.2.2.2.2.2.2.2.2.2.2.2.2.2.2.1) S (upd L 101 (0 : Int32)) M ls H locs h (lv_sub hl [0, 1, 2, 3, 4, 5, 6, 7, 8, 9, 10, 11, 12] rfl) hP hD hS
        · rw [if_neg hc2] at h
          exact (ih.2.2.2.2.2.2.2.2.2.2.2.2.2.2.2.2.2.2.2.1) S L M ls H locs h (lv_sub hl [0, 1, 2, 3, 4, 5, 6, 7, 8, 9, 10, 11, 12] rfl) hP hD hS
    · intro S L M ls H locs h hl hP hD hS
      simp only [f_Mod_numberOf] at h
      refine lv_iconst (v := 1) hx hb d_Mod_numberOf_352 (by decide) ?_
      refine lv_goto (tgt := 357) hx hb d_Mod_numberOf_353 (by decide) ?_
      exact (ih.2.2.2.2.2.2.2.2.2.2.2.2.2.2.2.2.2.2.2.2.1) S (upd L 101 (1 : Int32)) M ls H locs h (lv_sub hl [0, 1, 2, 3, 4, 5, 6, 7, 8, 9, 10, 11, 12] rfl) hP hD hS
    · intro S L M ls H locs h hl hP hD hS
      simp only [f_Mod_numberOf] at h
      obtain ⟨hv1, h⟩ := chk h
      refine S_put (h := shM) (C := "MacroMillModel") (T := F_Mod) (v := L 101) hx hb htt in_Mod t_Mod t_Mod_ok n_Mod hown hK hP hD hS 0 138 rfl rfl rfl (by decide) (htt _ k_2374) (fun _ h9 => h9) rfl (bz_n hv1) (bz_f hv1) d_Mod_numberOf_357 (fun H locs hP hD hS => ?_)
      refine lv_aload_n hx hb d_Mod_numberOf_360 rfl (lv_at hl 0 rfl) ?_
      refine lv_aload_n hx hb d_Mod_numberOf_361 rfl (lv_at hl 0 rfl) ?_
      refine S_getI (h := shM) (C := "MacroMillModel") (T := F_Mod) hx hb htt in_Mod hown hK hP 0 135 rfl rfl rfl (by decide) (htt _ k_2371) (fun _ h9 => h9) d_Mod_numberOf_362 ?_
      refine toI (y := S.1 0 135) rfl ?_
      refine lv_if_ne (tgt := 402) hx hb d_Mod_numberOf_365 (by decide) (fun hc2 => ?_) (fun hc2 => ?_)
      · rw [if_neg hc2] at h
        exact (ih.2.2.2.2.2.2.2.2.2.2.2.2.2.2.2.2.2.2.2.2.2.1) (putI S 0 138 (L 101)) L M ls H locs h (lv_sub hl [0, 1, 2, 3, 4, 5, 6, 7, 8, 9, 10, 11, 12] rfl) hP hD hS
      · rw [if_pos hc2] at h
        refine lv_iload hx hb d_Mod_numberOf_368 (lv_at hl 9 rfl) ?_
        refine lv_if_ne (tgt := 402) hx hb d_Mod_numberOf_370 (by decide) (fun hc3 => ?_) (fun hc3 => ?_)
        · rw [if_neg hc3] at h
          exact (ih.2.2.2.2.2.2.2.2.2.2.2.2.2.2.2.2.2.2.2.2.2.1) (putI S 0 138 (L 101)) L M ls H locs h (lv_sub hl [0, 1, 2, 3, 4, 5, 6, 7, 8, 9, 10, 11, 12] rfl) hP hD hS
        · rw [if_pos hc3] at h
          refine lv_iload hx hb d_Mod_numberOf_373 (lv_at hl 12 rfl) ?_
          refine lv_if_eq (tgt := 402) hx hb d_Mod_numberOf_375 (by decide) (fun hc4 => ?_) (fun hc4 => ?_)
          · rw [if_pos hc4] at h
            exact (ih.2.2.2.2.2.2.2.2.2.2.2.2.2.2.2.2.2.2.2.2.2.1) (putI S 0 138 (L 101)) L M ls H locs h (lv_sub hl [0, 1, 2, 3, 4, 5, 6, 7, 8, 9, 10, 11, 12] rfl) hP hD hS
          · rw [if_neg hc4] at h
            refine lv_iload hx hb d_Mod_numberOf_378 (lv_at hl 8 rfl) ?_
            refine lv_if_ne (tgt := 402) hx hb d_Mod_numberOf_380 (by decide) (fun hc5 => ?_) (fun hc5 => ?_)
            · rw [if_neg hc5] at h
              exact (ih.2.2.2.2.2.2.2.2.2.2.2.2.2.2.2.2.2.2.2.2.2.1) (putI S 0 138 (L 101)) L M ls H locs h (lv_sub hl [0, 1, 2, 3, 4, 5, 6, 7, 8, 9, 10, 11, 12] rfl) hP hD hS
            · rw [if_pos hc5] at h
              refine lv_lload hx hb d_Mod_numberOf_383 (lv_at hl 7 rfl) ?_
              refine lv_lconst (v := 0) hx hb d_Mod_numberOf_385 (by decide) ?_
              refine W.lcmp hx hb d_Mod_numberOf_386 ?_
              refine lv_if_ge (tgt := 406) hx hb d_Mod_numberOf_387 (by decide) (fun hc6 => ?_) (fun hc6 => ?_)
              · rw [if_pos hc6] at h
                exact (ih.2.2.2.2.2.2.2.2.2.2.2.2.2.2.2.2.2.2.2.2.2.2.1) (putI S 0 138 (L 101)) L M ls H locs h (lv_sub hl [0, 1, 2, 3, 4, 5, 6, 7, 8, 9, 10, 11, 12] rfl) hP hD hS
              · rw [if_neg hc6] at h
                refine lv_iload hx hb d_Mod_numberOf_390 (lv_at hl 10 rfl) ?_
                refine lv_if_ne (tgt := 406) hx hb d_Mod_numberOf_392 (by decide) (fun hc7 => ?_) (fun hc7 => ?_)
                · rw [if_neg hc7] at h
                  exact (ih.2.2.2.2.2.2.2.2.2.2.2.2.2.2.2.2.2.2.2.2.2.2.1) (putI S 0 138 (L 101)) L M ls H locs h (lv_sub hl [0, 1, 2, 3, 4, 5, 6, 7, 8, 9, 10, 11, 12] rfl) hP hD hS
                · rw [if_pos hc7] at h
                  show W _ _ _ _ _ _ _ _ _ _ _ _ _ _ _ (F0 _ 395 _ _)
                  refine lv_iload hx hb d_Mod_numberOf_395 (lv_at hl 4 rfl) ?_
                  refine lv_bipush (v := 10) hx hb d_Mod_numberOf_397 (by decide) ?_
                  refine lv_icmp_ne (tgt := 406) hx hb d_Mod_numberOf_399 (by decide) (fun hc8 => ?_) (fun hc8 => ?_)
                  · rw [if_neg hc8] at h
                    exact (ih.2.2.2.2.2.2.2.2.2.2.2.2.2.2.2.2.2.2.2.2.2.2.1) (putI S 0 138 (L 101)) L M ls H locs h (lv_sub hl [0, 1, 2, 3, 4, 5, 6, 7, 8, 9, 10, 11, 12] rfl) hP hD hS
                  · rw [if_pos hc8] at h
                    exact (ih.2.2.2.2.2.2.2.2.2.2.2.2.2.2.2.2.2.2.2.2.2.1) (putI S 0 138 (L 101)) L M ls H locs h (lv_sub hl [0, 1, 2, 3, 4, 5, 6, 7, 8, 9, 10, 11, 12] rfl) hP hD hS
    · intro S L M ls H locs h hl hP hD hS
      simp only [f_Mod_numberOf] at h
      refine lv_iconst (v := 1) hx hb d_Mod_numberOf_402 (by decide) ?_
      refine lv_goto (tgt := 407) hx hb d_Mod_numberOf_403 (by decide) ?_
      exact (ih.2.2.2.2.2.2.2.2.2.2.2.2.2.2.2.2.2.2.2.2.2.2.2) S (upd L 101 (1 : Int32)) M ls H locs h (lv_sub hl [0, 1, 2, 3, 4, 5, 6, 7, 8, 9, 10, 11, 12] rfl) hP hD hS
    · intro S L M ls H locs h hl hP hD hS
      simp only [f_Mod_numberOf] at h
      refine lv_iconst (v := 0) hx hb d_Mod_numberOf_406 (by decide) ?_
      exact (ih.2.2.2.2.2.2.2.2.2.2.2.2.2.2.2.2.2.2.2.2.2.2.2) S (upd L 101 (0 : Int32)) M ls H locs h (lv_sub hl [0, 1, 2, 3, 4, 5, 6, 7, 8, 9, 10, 11, 12] rfl) hP hD hS
    · intro S L M ls H locs h hl hP hD hS
      simp only [f_Mod_numberOf] at h
      obtain ⟨hv1, h⟩ := chk h
      refine S_put (h := shM) (C := "MacroMillModel") (T := F_Mod) (v := L 101) hx hb htt in_Mod t_Mod t_Mod_ok n_Mod hown hK hP hD hS 0 135 rfl rfl rfl (by decide) (htt _ k_2371) (fun _ h9 => h9) rfl (bz_n hv1) (bz_f hv1) d_Mod_numberOf_407 (fun H locs hP hD hS => ?_)
      refine lv_lload hx hb d_Mod_numberOf_410 (lv_at hl 7 rfl) ?_
      cases h
      exact kx_412 ls H locs hP hD hS
abbrev rm_t_Mod_numberOf : Room := { frames := 2, cells := 0, slots := 0, locals := 40 }
theorem t_Mod_numberOf (l : Launch) (g : gG) (sz : Nat) (ad : Nat → Nat) (S : sS) (v1 : Int32) (k : Nat) (r : Int64) (S9 : sS) (h : f_Mod_numberOf k 0 S (upd (fun _ => 0) 1 v1) (fun _ => 0) = some (r, S9)) : Cl l y_Mod_numberOf b_Mod_numberOf 15 rm_t_Mod_numberOf g [.ref (ad 0), .int v1] (Sw shM g ad S) sz (fun r1 w => ∃ S1 : sS, w = Sw shM g ad S1 ∧ r1 = r ∧ S1 = S9) := by
  refine startL (by decide) (Nat.le_of_ble_eq_true rfl) ?_
  intro p e s m below meth c A ls hx hb hr hml hlocks hmn hown htt hN hA hP hK hD hS hl
  exact (w_Mod_numberOf hx hb hml hown htt hK hN hA (by decide +kernel) (by decide +kernel) (by decide +kernel) (by decide +kernel) r S9 (fun ls H locs hP hD hS => fin_l (g := g) (ws := Sw shM g ad S9) hx hb hr hlocks (by decide +kernel) (by decide +kernel) hP hD hS ⟨_, rfl, rfl, rfl⟩ d_Mod_numberOf_412) k).1 S (upd (fun _ => 0) 1 v1) (fun _ => 0) ls _ _ h hl hP hD hS
def f_Mod_characterOf : Nat → Nat → sS → (Nat → Int32) → (Nat → Int64) → Option (Int64 × sS)
  | 0, _, _, _, _ => none
  | k + 1, 0, S, L, M => if okI (L 1) 260000 = true then (if (S.2.1 28 (L 1 : Int32).toNatClampNeg) = (3 : Int32) then ((f_Mod_byteOf k 0 S (upd (upd (fun _ => 0) 1 (L 1 : Int32)) 2 (0 : Int32)) (fun _ => 0)).bind (fun (r3, T3) => if r3 = (39 : Int32) then ((f_Mod_byteOf k 0 T3 (upd (upd (fun _ => 0) 1 (L 1 : Int32)) 2 (1 : Int32)) (fun _ => 0)).bind (fun (r5, T5) => if r5 = (92 : Int32) then (f_Mod_characterOf k 1 T5 (upd L 2 (S.2.1 28 (L 1 : Int32).toNatClampNeg)) M) else (f_Mod_characterOf k 2 T5 (upd (upd L 2 (S.2.1 28 (L 1 : Int32).toNatClampNeg)) 100 (1 : Int32)) M))) else (f_Mod_characterOf k 1 T3 (upd L 2 (S.2.1 28 (L 1 : Int32).toNatClampNeg)) M))) else (f_Mod_characterOf k 1 S (upd L 2 (S.2.1 28 (L 1 : Int32).toNatClampNeg)) M)) else none
  | k + 1, 1, S, L, M => f_Mod_characterOf k 2 S (upd L 100 (0 : Int32)) M
  | k + 1, 2, S, L, M => if (L 100) = (0 : Int32) then (if (L 2) = (4 : Int32) then ((f_Mod_byteOf k 0 S (upd (upd (fun _ => 0) 1 (L 1 : Int32)) 2 (0 : Int32)) (fun _ => 0)).bind (fun (r3, T3) => if r3 = (39 : Int32) then ((f_Mod_byteOf k 0 T3 (upd (upd (fun _ => 0) 1 (L 1 : Int32)) 2 (1 : Int32)) (fun _ => 0)).bind (fun (r5, T5) => if r5 = (92 : Int32) then ((f_Mod_byteOf k 0 T5 (upd (upd (fun _ => 0) 1 (L 1 : Int32)) 2 (2 : Int32)) (fun _ => 0)).bind (fun (r7, T7) => f_Mod_characterOf k 4 T7 (upd (upd L 3 (L 100)) 100 r7) M)) else (f_Mod_characterOf k 3 T5 (upd L 3 (L 100)) M))) else (f_Mod_characterOf k 3 T3 (upd L 3 (L 100)) M))) else (f_Mod_characterOf k 3 S (upd L 3 (L 100)) M)) else ((f_Mod_byteOf k 0 S (upd (upd (fun _ => 0) 1 (L 1 : Int32)) 2 (1 : Int32)) (fun _ => 0)).bind (fun (r8, T8) => some (r8.toInt64, T8)))
  | k + 1, 3, S, L, M => f_Mod_characterOf k 4 S (upd L 100 ((-1) : Int32)) M
  | k + 1, 4, S, L, M => if (L 100) = (34 : Int32) then (some ((L 100).toInt64, S)) else (if (L 100) = (39 : Int32) then (some ((L 100).toInt64, S)) else (if (L 100) = (48 : Int32) then (some ((0 : Int64), S)) else (if (L 100) = (63 : Int32) then (some ((L 100).toInt64, S)) else (if (L 100) = (92 : Int32) then (some ((L 100).toInt64, S)) else (if (L 100) = (97 : Int32) then (some ((7 : Int64), S)) else (if (L 100) = (98 : Int32) then (some ((8 : Int64), S)) else (if (L 100) = (102 : Int32) then (some ((12 : Int64), S)) else (if (L 100) = (110 : Int32) then (some ((10 : Int64), S)) else (if (L 100) = (114 : Int32) then (some ((13 : Int64), S)) else (if (L 100) = (116 : Int32) then (some ((9 : Int64), S)) else (if (L 100) = (118 : Int32) then (some ((11 : Int64), S)) else (some ((0 : Int64), (putI S 0 135 1))))))))))))))
  | _ + 1, _ + 5, _, _, _ => none
set_option maxHeartbeats 8000000 in
set_option maxRecDepth 100000 in
theorem w_Mod_characterOf {p : Program} {l : Launch} {e : Env} {R : Room} {s : State} {m : MethodId} {args : Array Value} {below : List Frame} {meth : Method} {c : Code} {cells slots : Nat} {Q : State → Prop} {g : gG} {A : Nat → Prop} {ad : Nat → Nat} (hx : p.tables.exec = Jvm.exec) (hb : c.code = b_Mod_characterOf) (hml : c.maxLocals = 5) (hown : s.vm.findClass "MacroMillModel" = some m.cls) (htt : ∀ w ∈ gt, w.before args s = true) (hK : va_K g.1 classes (tysG g) s) (hN : nw s) (hA : ∀ q : Nat, s.heap.size ≤ q → A q) (hRf : 1 ≤ R.frames) (hRl : 22 ≤ R.locals) (hRc : cells ≤ R.cells) (hRs : slots ≤ R.slots) (r : Int64) (S9 : sS)
    (kx_51 : ∀ (ls : Array Slot) (H : Heap) (locs : List Loc), va_P g.1 classes (Sw shM g ad S9) H → va_D A (Sw shM g ad S9) → va_S A s.heap H locs → W p l e R s m args below meth c H locs cells slots Q (F0 m 51 ls [.long r]))
    (kx_203 : ∀ (ls : Array Slot) (H : Heap) (locs : List Loc), va_P g.1 classes (Sw shM g ad S9) H → va_D A (Sw shM g ad S9) → va_S A s.heap H locs → W p l e R s m args below meth c H locs cells slots Q (F0 m 203 ls [.long r]))
    (kx_207 : ∀ (ls : Array Slot) (H : Heap) (locs : List Loc), va_P g.1 classes (Sw shM g ad S9) H → va_D A (Sw shM g ad S9) → va_S A s.heap H locs → W p l e R s m args below meth c H locs cells slots Q (F0 m 207 ls [.long r]))
    (kx_211 : ∀ (ls : Array Slot) (H : Heap) (locs : List Loc), va_P g.1 classes (Sw shM g ad S9) H → va_D A (Sw shM g ad S9) → va_S A s.heap H locs → W p l e R s m args below meth c H locs cells slots Q (F0 m 211 ls [.long r]))
    (kx_215 : ∀ (ls : Array Slot) (H : Heap) (locs : List Loc), va_P g.1 classes (Sw shM g ad S9) H → va_D A (Sw shM g ad S9) → va_S A s.heap H locs → W p l e R s m args below meth c H locs cells slots Q (F0 m 215 ls [.long r]))
    (kx_219 : ∀ (ls : Array Slot) (H : Heap) (locs : List Loc), va_P g.1 classes (Sw shM g ad S9) H → va_D A (Sw shM g ad S9) → va_S A s.heap H locs → W p l e R s m args below meth c H locs cells slots Q (F0 m 219 ls [.long r]))
    (kx_223 : ∀ (ls : Array Slot) (H : Heap) (locs : List Loc), va_P g.1 classes (Sw shM g ad S9) H → va_D A (Sw shM g ad S9) → va_S A s.heap H locs → W p l e R s m args below meth c H locs cells slots Q (F0 m 223 ls [.long r]))
    (kx_227 : ∀ (ls : Array Slot) (H : Heap) (locs : List Loc), va_P g.1 classes (Sw shM g ad S9) H → va_D A (Sw shM g ad S9) → va_S A s.heap H locs → W p l e R s m args below meth c H locs cells slots Q (F0 m 227 ls [.long r]))
    (kx_229 : ∀ (ls : Array Slot) (H : Heap) (locs : List Loc), va_P g.1 classes (Sw shM g ad S9) H → va_D A (Sw shM g ad S9) → va_S A s.heap H locs → W p l e R s m args below meth c H locs cells slots Q (F0 m 229 ls [.long r]))
    (kx_233 : ∀ (ls : Array Slot) (H : Heap) (locs : List Loc), va_P g.1 classes (Sw shM g ad S9) H → va_D A (Sw shM g ad S9) → va_S A s.heap H locs → W p l e R s m args below meth c H locs cells slots Q (F0 m 233 ls [.long r]))
    (kx_240 : ∀ (ls : Array Slot) (H : Heap) (locs : List Loc), va_P g.1 classes (Sw shM g ad S9) H → va_D A (Sw shM g ad S9) → va_S A s.heap H locs → W p l e R s m args below meth c H locs cells slots Q (F0 m 240 ls [.long r])) :
    ∀ k9 : Nat, (∀ (S : sS) (L : Nat → Int32) (M : Nat → Int64) (ls : Array Slot) (H : Heap) (locs : List Loc), f_Mod_characterOf k9 0 S L M = some (r, S9) → lv_has ls 5 [(0, .ref (ad 0)), (1, .int (L 1))] → va_P g.1 classes (Sw shM g ad S) H → va_D A (Sw shM g ad S) → va_S A s.heap H locs → W p l e R s m args below meth c H locs cells slots Q (F0 m 0 ls [])) ∧ (∀ (S : sS) (L : Nat → Int32) (M : Nat → Int64) (ls : Array Slot) (H : Heap) (locs : List Loc), f_Mod_characterOf k9 1 S L M = some (r, S9) → lv_has ls 5 [(0, .ref (ad 0)), (1, .int (L 1)), (2, .int (L 2))] → va_P g.1 classes (Sw shM g ad S) H → va_D A (Sw shM g ad S) → va_S A s.heap H locs → W p l e R s m args below meth c H locs cells slots Q (F0 m 38 ls [])) ∧ (∀ (S : sS) (L : Nat → Int32) (M : Nat → Int64) (ls : Array Slot) (H : Heap) (locs : List Loc), f_Mod_characterOf k9 2 S L M = some (r, S9) → lv_has ls 5 [(0, .ref (ad 0)), (1, .int (L 1)), (2, .int (L 2))] → va_P g.1 classes (Sw shM g ad S) H → va_D A (Sw shM g ad S) → va_S A s.heap H locs → W p l e R s m args below meth c H locs cells slots Q (F0 m 39 ls [.int (L 100)])) ∧ (∀ (S : sS) (L : Nat → Int32) (M : Nat → Int64) (ls : Array Slot) (H : Heap) (locs : List Loc), f_Mod_characterOf k9 3 S L M = some (r, S9) → lv_has ls 5 [(0, .ref (ad 0)), (1, .int (L 1)), (2, .int (L 2)), (3, .int (L 3))] → va_P g.1 classes (Sw shM g ad S) H → va_D A (Sw shM g ad S) → va_S A s.heap H locs → W p l e R s m args below meth c H locs cells slots Q (F0 m 88 ls [])) ∧ (∀ (S : sS) (L : Nat → Int32) (M : Nat → Int64) (ls : Array Slot) (H : Heap) (locs : List Loc), f_Mod_characterOf k9 4 S L M = some (r, S9) → lv_has ls 5 [(0, .ref (ad 0)), (1, .int (L 1)), (2, .int (L 2)), (3, .int (L 3))] → va_P g.1 classes (Sw shM g ad S) H → va_D A (Sw shM g ad S) → va_S A s.heap H locs → W p l e R s m args below meth c H locs cells slots Q (F0 m 89 ls [.int (L 100)])) := by
  intro k9
  induction k9 with
  | zero => exact ⟨(fun _ _ _ _ _ _ h => by simp [f_Mod_characterOf] at h), (fun _ _ _ _ _ _ h => by simp [f_Mod_characterOf] at h), (fun _ _ _ _ _ _ h => by simp [f_Mod_characterOf] at h), (fun _ _ _ _ _ _ h => by simp [f_Mod_characterOf] at h), (fun _ _ _ _ _ _ h => by simp [f_Mod_characterOf] at h)⟩
  | succ k9 ih =>
    refine ⟨?_, ?_, ?_, ?_, ?_⟩
    · intro S L M ls H locs h hl hP hD hS
      simp only [f_Mod_characterOf] at h
      refine lv_aload_n hx hb d_Mod_characterOf_0 rfl (lv_at hl 0 rfl) ?_
      refine S_getR (h := shM) (C := "MacroMillModel") (T := F_Mod) hx hb htt in_Mod hown hK hP 0 69 rfl 29 rfl rfl (by decide) (htt _ k_2305) (fun _ h9 => h9) d_Mod_characterOf_1 ?_
      refine lv_iload_n hx hb d_Mod_characterOf_4 rfl (lv_at hl 1 rfl) ?_
      obtain ⟨hv1, h⟩ := chk h
      refine S_iald (h := shM) (i := L 1) hx hb hK hP 28 rfl (okI_in hv1) d_Mod_characterOf_5 ?_
      refine lv_istore_n (lv' := [(2, .int (S.2.1 28 (L 1 : Int32).toNatClampNeg)), (0, .ref (ad 0)), (1, .int (L 1))]) hx hb d_Mod_characterOf_6 rfl hl (by decide) rfl (fun ls hl => ?_)
      refine lv_iload_n hx hb d_Mod_characterOf_7 rfl (lv_at hl 0 rfl) ?_
      refine lv_iconst (v := 3) hx hb d_Mod_characterOf_8 (by decide) ?_
      refine lv_icmp_ne (tgt := 38) hx hb d_Mod_characterOf_9 (by decide) (fun hc2 => ?_) (fun hc2 => ?_)
      · rw [if_neg hc2] at h
        exact (ih.2.1) S (upd L 2 (S.2.1 28 (L 1 : Int32).toNatClampNeg)) M ls H locs h (lv_sub hl [1, 2, 0] rfl) hP hD hS
      · rw [if_pos hc2] at h
        refine lv_aload_n hx hb d_Mod_characterOf_12 rfl (lv_at hl 1 rfl) ?_
        refine lv_iload_n hx hb d_Mod_characterOf_13 rfl (lv_at hl 2 rfl) ?_
        refine lv_iconst (v := 0) hx hb d_Mod_characterOf_14 (by decide) ?_
        obtain ⟨⟨r3, T3⟩, hq3, h⟩ := Option.bind_eq_some_iff.mp h
        try dsimp only at h
        refine go_iS (As := [.ref (ad 0), .int (L 1), .int 0]) (g := g) (A := A) (h := shM) hP hK hD hS hA hN (fun hp => va_runV (As := [.int (L 1), .int 0]) (rest := []) ⟨hx, hb, hml, hown, htt⟩ (t_Mod_byteOf l g _ ad S (L 1 : Int32) (0 : Int32) k9 r3 T3 hq3) ⟨(cb_L htt k_3016 k_276 k_3013 hd_Mod_byteOf ⟨(Nat.le_trans (by decide +kernel) hRf), (Nat.le_trans (by decide +kernel) hRl)⟩), htt _ k_3015, htt _ k_193⟩ ⟨hp.1, S_recv hK hP 0 rfl rfl, hp.2⟩ rfl rfl hl.1 rfl (lv_room (Nat.le_of_ble_eq_true rfl)) d_Mod_characterOf_15 ⟨hRc, hRs⟩) (fun r0 Sn H locs hw9 hP hD hS => ?_)
        obtain ⟨e9, e8⟩ := hw9
        rw [e8] at hP hD
        refine W.widen (k := cells) (n := slots) (Nat.le_refl _) (Nat.le_refl _) ?_
        refine toI (y := r3) e9 ?_
        refine lv_bipush (v := 39) hx hb d_Mod_characterOf_18 (by decide) ?_
        refine lv_icmp_ne (tgt := 38) hx hb d_Mod_characterOf_20 (by decide) (fun hc4 => ?_) (fun hc4 => ?_)
        · rw [if_neg hc4] at h
          exact (ih.2.1) T3 (upd L 2 (S.2.1 28 (L 1 : Int32).toNatClampNeg)) M ls H locs h (lv_sub hl [1, 2, 0] rfl) hP hD hS
        · rw [if_pos hc4] at h
          show W _ _ _ _ _ _ _ _ _ _ _ _ _ _ _ (F0 _ 23 _ _)
          refine lv_aload_n hx hb d_Mod_characterOf_23 rfl (lv_at hl 1 rfl) ?_
          refine lv_iload_n hx hb d_Mod_characterOf_24 rfl (lv_at hl 2 rfl) ?_
          refine lv_iconst (v := 1) hx hb d_Mod_characterOf_25 (by decide) ?_
          obtain ⟨⟨r5, T5⟩, hq5, h⟩ := Option.bind_eq_some_iff.mp h
          try dsimp only at h
          refine go_iS (As := [.ref (ad 0), .int (L 1), .int 1]) (g := g) (A := A) (h := shM) hP hK hD hS hA hN (fun hp => va_runV (As := [.int (L 1), .int 1]) (rest := []) ⟨hx, hb, hml, hown, htt⟩ (t_Mod_byteOf l g _ ad T3 (L 1 : Int32) (1 : Int32) k9 r5 T5 hq5) ⟨(cb_L htt k_3016 k_276 k_3013 hd_Mod_byteOf ⟨(Nat.le_trans (by decide +kernel) hRf), (Nat.le_trans (by decide +kernel) hRl)⟩), htt _ k_3015, htt _ k_193⟩ ⟨hp.1, S_recv hK hP 0 rfl rfl, hp.2⟩ rfl rfl hl.1 rfl (lv_room (Nat.le_of_ble_eq_true rfl)) d_Mod_characterOf_26 ⟨hRc, hRs⟩) (fun r0 Sn H locs hw9 hP hD hS => ?_)
          obtain ⟨e9, e8⟩ := hw9
          rw [e8] at hP hD
          refine W.widen (k := cells) (n := slots) (Nat.le_refl _) (Nat.le_refl _) ?_
          refine toI (y := r5) e9 ?_
          refine lv_bipush (v := 92) hx hb d_Mod_characterOf_29 (by decide) ?_
          refine lv_icmp_eq (tgt := 38) hx hb d_Mod_characterOf_31 (by decide) (fun hc6 => ?_) (fun hc6 => ?_)
          · rw [if_pos hc6] at h
            exact (ih.2.1) T5 (upd L 2 (S.2.1 28 (L 1 : Int32).toNatClampNeg)) M ls H locs h (lv_sub hl [1, 2, 0] rfl) hP hD hS
          · rw [if_neg hc6] at h
            refine lv_iconst (v := 1) hx hb d_Mod_characterOf_34 (by decide) ?_
            refine lv_goto (tgt := 39) hx hb d_Mod_characterOf_35 (by decide) ?_
            exact (ih.2.2.1) T5 (upd (upd L 2 (S.2.1 28 (L 1 : Int32).toNatClampNeg)) 100 (1 : Int32)) M ls H locs h (lv_sub hl [1, 2, 0] rfl) hP hD hS
    · intro S L M ls H locs h hl hP hD hS
      simp only [f_Mod_characterOf] at h
      refine lv_iconst (v := 0) hx hb d_Mod_characterOf_38 (by decide) ?_
      exact (ih.2.2.1) S (upd L 100 (0 : Int32)) M ls H locs h (lv_sub hl [0, 1, 2] rfl) hP hD hS
    · intro S L M ls H locs h hl hP hD hS
      simp only [f_Mod_characterOf] at h
      refine lv_istore_n (lv' := [(3, .int (L 100)), (0, .ref (ad 0)), (1, .int (L 1)), (2, .int (L 2))]) hx hb d_Mod_characterOf_39 rfl hl (by decide) rfl (fun ls hl => ?_)
      refine lv_iload_n hx hb d_Mod_characterOf_40 rfl (lv_at hl 0 rfl) ?_
      refine lv_if_eq (tgt := 52) hx hb d_Mod_characterOf_41 (by decide) (fun hc1 => ?_) (fun hc1 => ?_)
      · rw [if_pos hc1] at h
        refine lv_iload_n hx hb d_Mod_characterOf_52 rfl (lv_at hl 3 rfl) ?_
        refine lv_iconst (v := 4) hx hb d_Mod_characterOf_53 (by decide) ?_
        refine lv_icmp_ne (tgt := 88) hx hb d_Mod_characterOf_54 (by decide) (fun hc2 => ?_) (fun hc2 => ?_)
        · rw [if_neg hc2] at h
          exact (ih.2.2.2.1) S (upd L 3 (L 100)) M ls H locs h (lv_sub hl [1, 2, 3, 0] rfl) hP hD hS
        · rw [if_pos hc2] at h
          refine lv_aload_n hx hb d_Mod_characterOf_57 rfl (lv_at hl 1 rfl) ?_
          refine lv_iload_n hx hb d_Mod_characterOf_58 rfl (lv_at hl 2 rfl) ?_
          refine lv_iconst (v := 0) hx hb d_Mod_characterOf_59 (by decide) ?_
          obtain ⟨⟨r3, T3⟩, hq3, h⟩ := Option.bind_eq_some_iff.mp h
          try dsimp only at h
          refine go_iS (As := [.ref (ad 0), .int (L 1), .int 0]) (g := g) (A := A) (h := shM) hP hK hD hS hA hN (fun hp => va_runV (As := [.int (L 1), .int 0]) (rest := []) ⟨hx, hb, hml, hown, htt⟩ (t_Mod_byteOf l g _ ad S (L 1 : Int32) (0 : Int32) k9 r3 T3 hq3) ⟨(cb_L htt k_3016 k_276 k_3013 hd_Mod_byteOf ⟨(Nat.le_trans (by decide +kernel) hRf), (Nat.le_trans (by decide +kernel) hRl)⟩), htt _ k_3015, htt _ k_193⟩ ⟨hp.1, S_recv hK hP 0 rfl rfl, hp.2⟩ rfl rfl hl.1 rfl (lv_room (Nat.le_of_ble_eq_true rfl)) d_Mod_characterOf_60 ⟨hRc, hRs⟩) (fun r0 Sn H locs hw9 hP hD hS => ?_)
          obtain ⟨e9, e8⟩ := hw9
          rw [e8] at hP hD
          refine W.widen (k := cells) (n := slots) (Nat.le_refl _) (Nat.le_refl _) ?_
          refine toI (y := r3) e9 ?_
          refine lv_bipush (v := 39) hx hb d_Mod_characterOf_63 (by decide) ?_
          refine lv_icmp_ne (tgt := 88) hx hb d_Mod_characterOf_65 (by decide) (fun hc4 => ?_) (fun hc4 => ?_)
          · rw [if_neg hc4] at h
            exact (ih.2.2.2.1) T3 (upd L 3 (L 100)) M ls H locs h (lv_sub hl [1, 2, 3, 0] rfl) hP hD hS
          · rw [if_pos hc4] at h
            refine lv_aload_n hx hb d_Mod_characterOf_68 rfl (lv_at hl 1 rfl) ?_
            refine lv_iload_n hx hb d_Mod_characterOf_69 rfl (lv_at hl 2 rfl) ?_
            refine lv_iconst (v := 1) hx hb d_Mod_characterOf_70 (by decide) ?_
            obtain ⟨⟨r5, T5⟩, hq5, h⟩ := Option.bind_eq_some_iff.mp h
            try dsimp only at h
            refine go_iS (As := [.ref (ad 0), .int (L 1), .int 1]) (g := g) (A := A) (h := shM) hP hK hD hS hA hN (fun hp => va_runV (As := [.int (L 1), .int 1]) (rest := []) ⟨hx, hb, hml, hown, htt⟩ (t_Mod_byteOf l g _ ad T3 (L 1 : Int32) (1 : Int32) k9 r5 T5 hq5) ⟨(cb_L htt k_3016 k_276 k_3013 hd_Mod_byteOf ⟨(Nat.le_trans (by decide +kernel) hRf), (Nat.le_trans (by decide +kernel) hRl)⟩), htt _ k_3015, htt _ k_193⟩ ⟨hp.1, S_recv hK hP 0 rfl rfl, hp.2⟩ rfl rfl hl.1 rfl (lv_room (Nat.le_of_ble_eq_true rfl)) d_Mod_characterOf_71 ⟨hRc, hRs⟩) (fun r0 Sn H locs hw9 hP hD hS => ?_)
            obtain ⟨e9, e8⟩ := hw9
            rw [e8] at hP hD
            refine W.widen (k := cells) (n := slots) (Nat.le_refl _) (Nat.le_refl _) ?_
            refine toI (y := r5) e9 ?_
            show W _ _ _ _ _ _ _ _ _ _ _ _ _ _ _ (F0 _ 74 _ _)
            refine lv_bipush (v := 92) hx hb d_Mod_characterOf_74 (by decide) ?_
            refine lv_icmp_ne (tgt := 88) hx hb d_Mod_characterOf_76 (by decide) (fun hc6 => ?_) (fun hc6 => ?_)
            · rw [if_neg hc6] at h
              exact (ih.2.2.2.1) T5 (upd L 3 (L 100)) M ls H locs h (lv_sub hl [1, 2, 3, 0] rfl) hP hD hS
            · rw [if_pos hc6] at h
              refine lv_aload_n hx hb d_Mod_characterOf_79 rfl (lv_at hl 1 rfl) ?_
              refine lv_iload_n hx hb d_Mod_characterOf_80 rfl (lv_at hl 2 rfl) ?_
              refine lv_iconst (v := 2) hx hb d_Mod_characterOf_81 (by decide) ?_
              obtain ⟨⟨r7, T7⟩, hq7, h⟩ := Option.bind_eq_some_iff.mp h
              try dsimp only at h
              refine go_iS (As := [.ref (ad 0), .int (L 1), .int 2]) (g := g) (A := A) (h := shM) hP hK hD hS hA hN (fun hp => va_runV (As := [.int (L 1), .int 2]) (rest := []) ⟨hx, hb, hml, hown, htt⟩ (t_Mod_byteOf l g _ ad T5 (L 1 : Int32) (2 : Int32) k9 r7 T7 hq7) ⟨(cb_L htt k_3016 k_276 k_3013 hd_Mod_byteOf ⟨(Nat.le_trans (by decide +kernel) hRf), (Nat.le_trans (by decide +kernel) hRl)⟩), htt _ k_3015, htt _ k_193⟩ ⟨hp.1, S_recv hK hP 0 rfl rfl, hp.2⟩ rfl rfl hl.1 rfl (lv_room (Nat.le_of_ble_eq_true rfl)) d_Mod_characterOf_82 ⟨hRc, hRs⟩) (fun r0 Sn H locs hw9 hP hD hS => ?_)
              obtain ⟨e9, e8⟩ := hw9
              rw [e8] at hP hD
              refine W.widen (k := cells) (n := slots) (Nat.le_refl _) (Nat.le_refl _) ?_
              refine toI (y := r7) e9 ?_
              refine lv_goto (tgt := 89) hx hb d_Mod_characterOf_85 (by decide) ?_
              exact (ih.2.2.2.2) T7 (upd (upd L 3 (L 100)) 100 r7) M ls H locs h (lv_sub hl [1, 2, 3, 0] rfl) hP hD hS
      · rw [if_neg hc1] at h
        refine lv_aload_n hx hb d_Mod_characterOf_44 rfl (lv_at hl 1 rfl) ?_
        refine lv_iload_n hx hb d_Mod_characterOf_45 rfl (lv_at hl 2 rfl) ?_
        refine lv_iconst (v := 1) hx hb d_Mod_characterOf_46 (by decide) ?_
        obtain ⟨⟨r8, T8⟩, hq8, h⟩ := Option.bind_eq_some_iff.mp h
        try dsimp only at h
        refine go_iS (As := [.ref (ad 0), .int (L 1), .int 1]) (g := g) (A := A) (h := shM) hP hK hD hS hA hN (fun hp => va_runV (As := [.int (L 1), .int 1]) (rest := []) ⟨hx, hb, hml, hown, htt⟩ (t_Mod_byteOf l g _ ad S (L 1 : Int32) (1 : Int32) k9 r8 T8 hq8) ⟨(cb_L htt k_3016 k_276 k_3013 hd_Mod_byteOf ⟨(Nat.le_trans (by decide +kernel) hRf), (Nat.le_trans (by decide +kernel) hRl)⟩), htt _ k_3015, htt _ k_193⟩ ⟨hp.1, S_recv hK hP 0 rfl rfl, hp.2⟩ rfl rfl hl.1 rfl (lv_room (Nat.le_of_ble_eq_true rfl)) d_Mod_characterOf_47 ⟨hRc, hRs⟩) (fun r0 Sn H locs hw9 hP hD hS => ?_)
        obtain ⟨e9, e8⟩ := hw9
        rw [e8] at hP hD
        refine W.widen (k := cells) (n := slots) (Nat.le_refl _) (Nat.le_refl _) ?_
        refine toI (y := r8) e9 ?_
        refine lv_i2l (v := r8.toInt64) hx hb d_Mod_characterOf_50 rfl ?_
        cases h
        exact kx_51 ls H locs hP hD hS
    · intro S L M ls H locs h hl hP hD hS
      simp only [f_Mod_characterOf] at h
      refine lv_iconst (v := (-1)) hx hb d_Mod_characterOf_88 (by decide) ?_
      exact (ih.2.2.2.2) S (upd L 100 ((-1) : Int32)) M ls H locs h (lv_sub hl [0, 1, 2, 3] rfl) hP hD hS
    · intro S L M ls H locs h hl hP hD hS
      simp only [f_Mod_characterOf] at h
      refine lv_istore (lv' := [(4, .int (L 100)), (0, .ref (ad 0)), (1, .int (L 1)), (2, .int (L 2)), (3, .int (L 3))]) hx hb d_Mod_characterOf_89 hl (by decide) rfl (fun ls hl => ?_)
      refine lv_iload hx hb d_Mod_characterOf_91 (lv_at hl 0 rfl) ?_
      by_cases hc1_0 : (L 100) = (34 : Int32)
      · rw [if_pos hc1_0] at h
        refine lv_lookup (tgt := 230) (off := 137) hx hb d_Mod_characterOf_93 (by decide) (by rw [hc1_0]; decide) (by decide) ?_
        refine lv_iload hx hb d_Mod_characterOf_230 (lv_at hl 0 rfl) ?_
        refine lv_i2l (v := (L 100).toInt64) hx hb d_Mod_characterOf_232 rfl ?_
        cases h
        exact kx_233 ls H locs hP hD hS
      rw [if_neg hc1_0] at h
      by_cases hc1_1 : (L 100) = (39 : Int32)
      · rw [if_pos hc1_1] at h
        refine lv_lookup (tgt := 230) (off := 137) hx hb d_Mod_characterOf_93 (by decide) (by rw [hc1_1]; decide) (by decide) ?_
        refine lv_iload hx hb d_Mod_characterOf_230 (lv_at hl 0 rfl) ?_
        refine lv_i2l (v := (L 100).toInt64) hx hb d_Mod_characterOf_232 rfl ?_
        cases h
        exact kx_233 ls H locs hP hD hS
      rw [if_neg hc1_1] at h
      by_cases hc1_2 : (L 100) = (48 : Int32)
      · rw [if_pos hc1_2] at h
        refine lv_lookup (tgt := 228) (off := 135) hx hb d_Mod_characterOf_93 (by decide) (by rw [hc1_2]; decide) (by decide) ?_
        refine lv_lconst (v := 0) hx hb d_Mod_characterOf_228 (by decide) ?_
        cases h
        exact kx_229 ls H locs hP hD hS
      rw [if_neg hc1_2] at h
      by_cases hc1_3 : (L 100) = (63 : Int32)
      · rw [if_pos hc1_3] at h
        refine lv_lookup (tgt := 230) (off := 137) hx hb d_Mod_characterOf_93 (by decide) (by rw [hc1_3]; decide) (by decide) ?_
        refine lv_iload hx hb d_Mod_characterOf_230 (lv_at hl 0 rfl) ?_
        refine lv_i2l (v := (L 100).toInt64) hx hb d_Mod_characterOf_232 rfl ?_
        cases h
        exact kx_233 ls H locs hP hD hS
      rw [if_neg hc1_3] at h
      by_cases hc1_4 : (L 100) = (92 : Int32)
      · rw [if_pos hc1_4] at h
        refine lv_lookup (tgt := 230) (off := 137) hx hb d_Mod_characterOf_93 (by decide) (by rw [hc1_4]; decide) (by decide) ?_
        refine lv_iload hx hb d_Mod_characterOf_230 (lv_at hl 0 rfl) ?_
        refine lv_i2l (v := (L 100).toInt64) hx hb d_Mod_characterOf_232 rfl ?_
        cases h
        exact kx_233 ls H locs hP hD hS
      rw [if_neg hc1_4] at h
      by_cases hc1_5 : (L 100) = (97 : Int32)
      · rw [if_pos hc1_5] at h
        refine lv_lookup (tgt := 212) (off := 119) hx hb d_Mod_characterOf_93 (by decide) (by rw [hc1_5]; decide) (by decide) ?_
        refine lv_ldc2 (v := 7) hx hb hown (htt _ k_3218) d_Mod_characterOf_212 ?_
        cases h
        exact kx_215 ls H locs hP hD hS
      rw [if_neg hc1_5] at h
      by_cases hc1_6 : (L 100) = (98 : Int32)
      · rw [if_pos hc1_6] at h
        refine lv_lookup (tgt := 216) (off := 123) hx hb d_Mod_characterOf_93 (by decide) (by rw [hc1_6]; decide) (by decide) ?_
        refine lv_ldc2 (v := 8) hx hb hown (htt _ k_3219) d_Mod_characterOf_216 ?_
        cases h
        exact kx_219 ls H locs hP hD hS
      rw [if_neg hc1_6] at h
      by_cases hc1_7 : (L 100) = (102 : Int32)
      · rw [if_pos hc1_7] at h
        refine lv_lookup (tgt := 220) (off := 127) hx hb d_Mod_characterOf_93 (by decide) (by rw [hc1_7]; decide) (by decide) ?_
        refine lv_ldc2 (v := 12) hx hb hown (htt _ k_3220) d_Mod_characterOf_220 ?_
        cases h
        exact kx_223 ls H locs hP hD hS
      rw [if_neg hc1_7] at h
      by_cases hc1_8 : (L 100) = (110 : Int32)
      · rw [if_pos hc1_8] at h
        refine lv_lookup (tgt := 200) (off := 107) hx hb d_Mod_characterOf_93 (by decide) (by rw [hc1_8]; decide) (by decide) ?_
        refine lv_ldc2 (v := 10) hx hb hown (htt _ k_2846) d_Mod_characterOf_200 ?_
        cases h
        exact kx_203 ls H locs hP hD hS
      rw [if_neg hc1_8] at h
      by_cases hc1_9 : (L 100) = (114 : Int32)
      · rw [if_pos hc1_9] at h
        refine lv_lookup (tgt := 208) (off := 115) hx hb d_Mod_characterOf_93 (by decide) (by rw [hc1_9]; decide) (by decide) ?_
        refine lv_ldc2 (v := 13) hx hb hown (htt _ k_3217) d_Mod_characterOf_208 ?_
        cases h
        exact kx_211 ls H locs hP hD hS
      rw [if_neg hc1_9] at h
      by_cases hc1_10 : (L 100) = (116 : Int32)
      · rw [if_pos hc1_10] at h
        refine lv_lookup (tgt := 204) (off := 111) hx hb d_Mod_characterOf_93 (by decide) (by rw [hc1_10]; decide) (by decide) ?_
        refine lv_ldc2 (v := 9) hx hb hown (htt _ k_2845) d_Mod_characterOf_204 ?_
        cases h
        exact kx_207 ls H locs hP hD hS
      rw [if_neg hc1_10] at h
      by_cases hc1_11 : (L 100) = (118 : Int32)
      · rw [if_pos hc1_11] at h
        refine lv_lookup (tgt := 224) (off := 131) hx hb d_Mod_characterOf_93 (by decide) (by rw [hc1_11]; decide) (by decide) ?_
        refine lv_ldc2 (v := 11) hx hb hown (htt _ k_3221) d_Mod_characterOf_224 ?_
        cases h
        exact kx_227 ls H locs hP hD hS
      rw [if_neg hc1_11] at h
      refine lv_lookup (tgt := 234) (off := 141) hx hb d_Mod_characterOf_93 (by decide) (by rw [lv_osw hc1_0 (k := 34) (by decide), lv_osw hc1_1 (k := 39) (by decide), lv_osw hc1_2 (k := 48) (by decide), lv_osw hc1_3 (k := 63) (by decide), lv_osw hc1_4 (k := 92) (by decide), lv_osw hc1_5 (k := 97) (by decide), lv_osw hc1_6 (k := 98) (by decide), lv_osw hc1_7 (k := 102) (by decide), lv_osw hc1_8 (k := 110) (by decide), lv_osw hc1_9 (k := 114) (by decide), lv_osw hc1_10 (k := 116) (by decide), lv_osw hc1_11 (k := 118) (by decide)]; rfl) (by decide) ?_
      refine lv_aload_n hx hb d_Mod_characterOf_234 rfl (lv_at hl 1 rfl) ?_
      refine lv_iconst (v := 1) hx hb d_Mod_characterOf_235 (by decide) ?_
      refine S_put (h := shM) (C := "MacroMillModel") (T := F_Mod) (v := 1) hx hb htt in_Mod t_Mod t_Mod_ok n_Mod hown hK hP hD hS 0 135 rfl rfl rfl (by decide) (htt _ k_2371) (fun _ h9 => h9) rfl rfl rfl d_Mod_characterOf_236 (fun H locs hP hD hS => ?_)
      refine lv_lconst (v := 0) hx hb d_Mod_characterOf_239 (by decide) ?_
      cases h
      exact kx_240 ls H locs hP hD hS
abbrev rm_t_Mod_characterOf : Room := { frames := 1, cells := 0, slots := 0, locals := 22 }
theorem t_Mod_characterOf (l : Launch) (g : gG) (sz : Nat) (ad : Nat → Nat) (S : sS) (v1 : Int32) (k : Nat) (r : Int64) (S9 : sS) (h : f_Mod_characterOf k 0 S (upd (fun _ => 0) 1 v1) (fun _ => 0) = some (r, S9)) : Cl l y_Mod_characterOf b_Mod_characterOf 5 rm_t_Mod_characterOf g [.ref (ad 0), .int v1] (Sw shM g ad S) sz (fun r1 w => ∃ S1 : sS, w = Sw shM g ad S1 ∧ r1 = r ∧ S1 = S9) := by
  refine startL (by decide) (Nat.le_of_ble_eq_true rfl) ?_
  intro p e s m below meth c A ls hx hb hr hml hlocks hmn hown htt hN hA hP hK hD hS hl
  exact (w_Mod_characterOf hx hb hml hown htt hK hN hA (by decide +kernel) (by decide +kernel) (by decide +kernel) (by decide +kernel) r S9 (fun ls H locs hP hD hS => fin_l (g := g) (ws := Sw shM g ad S9) hx hb hr hlocks (by decide +kernel) (by decide +kernel) hP hD hS ⟨_, rfl, rfl, rfl⟩ d_Mod_characterOf_51) (fun ls H locs hP hD hS => fin_l (g := g) (ws := Sw shM g ad S9) hx hb hr hlocks (by decide +kernel) (by decide +kernel) hP hD hS ⟨_, rfl, rfl, rfl⟩ d_Mod_characterOf_203) (fun ls H locs hP hD hS => fin_l (g := g) (ws := Sw shM g ad S9) hx hb hr hlocks (by decide +kernel) (by decide +kernel) hP hD hS ⟨_, rfl, rfl, rfl⟩ d_Mod_characterOf_207) (fun ls H locs hP hD hS => fin_l (g := g) (ws := Sw shM g ad S9) hx hb hr hlocks (by decide +kernel) (by decide +kernel) hP hD hS ⟨_, rfl, rfl, rfl⟩ d_Mod_characterOf_211) (fun ls H locs hP hD hS => fin_l (g := g) (ws := Sw shM g ad S9) hx hb hr hlocks (by decide +kernel) (by decide +kernel) hP hD hS ⟨_, rfl, rfl, rfl⟩ d_Mod_characterOf_215) (fun ls H locs hP hD hS => fin_l (g := g) (ws := Sw shM g ad S9) hx hb hr hlocks (by decide +kernel) (by decide +kernel) hP hD hS ⟨_, rfl, rfl, rfl⟩ d_Mod_characterOf_219) (fun ls H locs hP hD hS => fin_l (g := g) (ws := Sw shM g ad S9) hx hb hr hlocks (by decide +kernel) (by decide +kernel) hP hD hS ⟨_, rfl, rfl, rfl⟩ d_Mod_characterOf_223) (fun ls H locs hP hD hS => fin_l (g := g) (ws := Sw shM g ad S9) hx hb hr hlocks (by decide +kernel) (by decide +kernel) hP hD hS ⟨_, rfl, rfl, rfl⟩ d_Mod_characterOf_227) (fun ls H locs hP hD hS => fin_l (g := g) (ws := Sw shM g ad S9) hx hb hr hlocks (by decide +kernel) (by decide +kernel) hP hD hS ⟨_, rfl, rfl, rfl⟩ d_Mod_characterOf_229) (fun ls H locs hP hD hS => fin_l (g := g) (ws := Sw shM g ad S9) hx hb hr hlocks (by decide +kernel) (by decide +kernel) hP hD hS ⟨_, rfl, rfl, rfl⟩ d_Mod_characterOf_233) (fun ls H locs hP hD hS => fin_l (g := g) (ws := Sw shM g ad S9) hx hb hr hlocks (by decide +kernel) (by decide +kernel) hP hD hS ⟨_, rfl, rfl, rfl⟩ d_Mod_characterOf_240) k).1 S (upd (fun _ => 0) 1 v1) (fun _ => 0) ls _ _ h hl hP hD hS
def f_Mod_macrosEnd : Nat → Nat → sS → (Nat → Int32) → (Nat → Int64) → Option (Int32 × sS)
  | 0, _, _, _, _ => none
  | k + 1, 0, S, L, M => f_Mod_macrosEnd k 1 S (upd L 1 (0 : Int32)) M
  | k + 1, 1, S, L, M => if (400 : Int32) ≤ (L 1) then (some ((0 : Int32), S)) else (if okI (L 1) 400 = true then (f_Mod_macrosEnd k 1 (putA S 36 (L 1 : Int32).toNatClampNeg (vp_nar .boolean 0)) (upd L 1 ((L 1) + 1)) M) else none)
  | _ + 1, _ + 2, _, _, _ => none
set_option maxHeartbeats 8000000 in
set_option maxRecDepth 100000 in
theorem w_Mod_macrosEnd {p : Program} {l : Launch} {e : Env} {R : Room} {s : State} {m : MethodId} {args : Array Value} {below : List Frame} {meth : Method} {c : Code} {cells slots : Nat} {Q : State → Prop} {g : gG} {A : Nat → Prop} {ad : Nat → Nat} (hx : p.tables.exec = Jvm.exec) (hb : c.code = b_Mod_macrosEnd) (hml : c.maxLocals = 2) (hown : s.vm.findClass "MacroMillModel" = some m.cls) (htt : ∀ w ∈ gt, w.before args s = true) (hK : va_K g.1 classes (tysG g) s) (hN : nw s) (hA : ∀ q : Nat, s.heap.size ≤ q → A q) (r : Int32) (S9 : sS)
    (kx_22 : ∀ (ls : Array Slot) (H : Heap) (locs : List Loc), va_P g.1 classes (Sw shM g ad S9) H → va_D A (Sw shM g ad S9) → va_S A s.heap H locs → W p l e R s m args below meth c H locs cells slots Q (F0 m 22 ls [])) :
    ∀ k9 : Nat, (∀ (S : sS) (L : Nat → Int32) (M : Nat → Int64) (ls : Array Slot) (H : Heap) (locs : List Loc), f_Mod_macrosEnd k9 0 S L M = some (r, S9) → lv_has ls 2 [(0, .ref (ad 0))] → va_P g.1 classes (Sw shM g ad S) H → va_D A (Sw shM g ad S) → va_S A s.heap H locs → W p l e R s m args below meth c H locs cells slots Q (F0 m 0 ls [])) ∧ (∀ (S : sS) (L : Nat → Int32) (M : Nat → Int64) (ls : Array Slot) (H : Heap) (locs : List Loc), f_Mod_macrosEnd k9 1 S L M = some (r, S9) → lv_has ls 2 [(0, .ref (ad 0)), (1, .int (L 1))] → va_P g.1 classes (Sw shM g ad S) H → va_D A (Sw shM g ad S) → va_S A s.heap H locs → W p l e R s m args below meth c H locs cells slots Q (F0 m 2 ls [])) := by
  intro k9
  induction k9 with
  | zero => exact ⟨(fun _ _ _ _ _ _ h => by simp [f_Mod_macrosEnd] at h), (fun _ _ _ _ _ _ h => by simp [f_Mod_macrosEnd] at h)⟩
  | succ k9 ih =>
    refine ⟨?_, ?_⟩
    · intro S L M ls H locs h hl hP hD hS
      simp only [f_Mod_macrosEnd] at h
      refine lv_iconst (v := 0) hx hb d_Mod_macrosEnd_0 (by decide) ?_
      refine lv_istore_n (lv' := [(1, .int 0), (0, .ref (ad 0))]) hx hb d_Mod_macrosEnd_1 rfl hl (by decide) rfl (fun ls hl => ?_)
      exact (ih.2) S (upd L 1 (0 : Int32)) M ls H locs h (lv_sub hl [1, 0] rfl) hP hD hS
    · intro S L M ls H locs h hl hP hD hS
      simp only [f_Mod_macrosEnd] at h
      refine lv_iload_n hx hb d_Mod_macrosEnd_2 rfl (lv_at hl 1 rfl) ?_
      refine lv_sipush (v := 400) hx hb d_Mod_macrosEnd_3 (by decide) ?_
      refine lv_icmp_ge (tgt := 22) hx hb d_Mod_macrosEnd_6 (by decide) (fun hc1 => ?_) (fun hc1 => ?_)
      · rw [if_pos hc1] at h
        cases h
        exact kx_22 ls H locs hP hD hS
      · rw [if_neg hc1] at h
        refine lv_aload_n hx hb d_Mod_macrosEnd_9 rfl (lv_at hl 0 rfl) ?_
        refine S_getR (h := shM) (C := "MacroMillModel") (T := F_Mod) hx hb htt in_Mod hown hK hP 0 78 rfl 37 rfl rfl (by decide) (htt _ k_2314) (fun _ h9 => h9) d_Mod_macrosEnd_10 ?_
        refine lv_iload_n hx hb d_Mod_macrosEnd_13 rfl (lv_at hl 1 rfl) ?_
        refine lv_iconst (v := 0) hx hb d_Mod_macrosEnd_14 (by decide) ?_
        obtain ⟨hv2, h⟩ := chk h
        refine S_zast (h := shM) (i := L 1) (v := 0) hx hb hK hP hD hS 36 rfl (okI_in hv2) d_Mod_macrosEnd_15 (fun H locs hP hD hS => ?_)
        refine lv_iinc (k := 1) (v := (L 1) + 1) (lv' := [(1, .int ((L 1) + 1)), (0, .ref (ad 0))]) hx hb d_Mod_macrosEnd_16 hl rfl rfl (by decide) rfl (fun ls hl => ?_)
        refine lv_goto (tgt := 2) hx hb d_Mod_macrosEnd_19 (by decide) ?_
        exact (ih.2) (putA S 36 (L 1 : Int32).toNatClampNeg (vp_nar .boolean 0)) (upd L 1 ((L 1) + 1)) M ls H locs h (lv_sub hl [1, 0] rfl) hP hD hS
abbrev rm_t_Mod_macrosEnd : Room := { frames := 0, cells := 0, slots := 0, locals := 0 }
theorem t_Mod_macrosEnd (l : Launch) (g : gG) (sz : Nat) (ad : Nat → Nat) (S : sS) (k : Nat) (r : Int32) (S9 : sS) (h : f_Mod_macrosEnd k 0 S (fun _ => 0) (fun _ => 0) = some (r, S9)) : Cv l y_Mod_macrosEnd b_Mod_macrosEnd 2 rm_t_Mod_macrosEnd g [.ref (ad 0)] (Sw shM g ad S) sz (fun w => ∃ S1 : sS, w = Sw shM g ad S1 ∧ S1 = S9) := by
  refine startV (by decide) (Nat.le_of_ble_eq_true rfl) ?_
  intro p e s m below meth c A ls hx hb hr hml hlocks hmn hown htt hN hA hP hK hD hS hl
  exact (w_Mod_macrosEnd hx hb hml hown htt hK hN hA r S9 (fun ls H locs hP hD hS => fin_v (g := g) (ws := Sw shM g ad S9) hx hb hr hlocks (by decide +kernel) (by decide +kernel) hP hD hS ⟨_, rfl, rfl⟩ d_Mod_macrosEnd_22) k).1 S (fun _ => 0) (fun _ => 0) ls _ _ h hl hP hD hS
def f_Mod_told : Nat → Nat → sS → (Nat → Int32) → (Nat → Int64) → Option (Int32 × sS)
  | 0, _, _, _, _ => none
  | k + 1, 0, S, L, M => f_Mod_told k 1 S (upd (upd L 2 (0 : Int32)) 3 (0 : Int32)) M
  | k + 1, 1, S, L, M => if (S.1 0 75) ≤ (L 3) then (if (L 1) = (0 : Int32) then (some (S.1 0 11, S)) else (if (L 1) = (1 : Int32) then (some (S.1 0 12, S)) else (if (L 1) = (2 : Int32) then (some (S.1 0 13, S)) else (if (L 1) = (3 : Int32) then (some (S.1 0 14, S)) else (if (L 1) = (4 : Int32) then (some (S.1 0 15, S)) else (if (L 1) = (5 : Int32) then (some (L 2, S)) else (some (((-1) : Int32), S)))))))) else (if okI (L 3) 400 = true then (if (S.2.1 36 (L 3 : Int32).toNatClampNeg) = (0 : Int32) then (f_Mod_told k 2 S (upd L 100 (L 2)) M) else (f_Mod_told k 2 S (upd L 100 ((L 2) + (1 : Int32))) M)) else none)
  | k + 1, 2, S, L, M => f_Mod_told k 1 S (upd (upd L 2 (L 100)) 3 ((L 3) + 1)) M
  | _ + 1, _ + 3, _, _, _ => none
set_option maxHeartbeats 8000000 in
set_option maxRecDepth 100000 in
theorem w_Mod_told {p : Program} {l : Launch} {e : Env} {R : Room} {s : State} {m : MethodId} {args : Array Value} {below : List Frame} {meth : Method} {c : Code} {cells slots : Nat} {Q : State → Prop} {g : gG} {A : Nat → Prop} {ad : Nat → Nat} (hx : p.tables.exec = Jvm.exec) (hb : c.code = b_Mod_told) (hml : c.maxLocals = 4) (hown : s.vm.findClass "MacroMillModel" = some m.cls) (htt : ∀ w ∈ gt, w.before args s = true) (hK : va_K g.1 classes (tysG g) s) (hN : nw s) (hA : ∀ q : Nat, s.heap.size ≤ q → A q) (r : Int32) (S9 : sS)
    (kx_80 : ∀ (ls : Array Slot) (H : Heap) (locs : List Loc), va_P g.1 classes (Sw shM g ad S9) H → va_D A (Sw shM g ad S9) → va_S A s.heap H locs → W p l e R s m args below meth c H locs cells slots Q (F0 m 80 ls [.int r]))
    (kx_85 : ∀ (ls : Array Slot) (H : Heap) (locs : List Loc), va_P g.1 classes (Sw shM g ad S9) H → va_D A (Sw shM g ad S9) → va_S A s.heap H locs → W p l e R s m args below meth c H locs cells slots Q (F0 m 85 ls [.int r]))
    (kx_90 : ∀ (ls : Array Slot) (H : Heap) (locs : List Loc), va_P g.1 classes (Sw shM g ad S9) H → va_D A (Sw shM g ad S9) → va_S A s.heap H locs → W p l e R s m args below meth c H locs cells slots Q (F0 m 90 ls [.int r]))
    (kx_95 : ∀ (ls : Array Slot) (H : Heap) (locs : List Loc), va_P g.1 classes (Sw shM g ad S9) H → va_D A (Sw shM g ad S9) → va_S A s.heap H locs → W p l e R s m args below meth c H locs cells slots Q (F0 m 95 ls [.int r]))
    (kx_100 : ∀ (ls : Array Slot) (H : Heap) (locs : List Loc), va_P g.1 classes (Sw shM g ad S9) H → va_D A (Sw shM g ad S9) → va_S A s.heap H locs → W p l e R s m args below meth c H locs cells slots Q (F0 m 100 ls [.int r]))
    (kx_102 : ∀ (ls : Array Slot) (H : Heap) (locs : List Loc), va_P g.1 classes (Sw shM g ad S9) H → va_D A (Sw shM g ad S9) → va_S A s.heap H locs → W p l e R s m args below meth c H locs cells slots Q (F0 m 102 ls [.int r]))
    (kx_104 : ∀ (ls : Array Slot) (H : Heap) (locs : List Loc), va_P g.1 classes (Sw shM g ad S9) H → va_D A (Sw shM g ad S9) → va_S A s.heap H locs → W p l e R s m args below meth c H locs cells slots Q (F0 m 104 ls [.int r])) :
    ∀ k9 : Nat, (∀ (S : sS) (L : Nat → Int32) (M : Nat → Int64) (ls : Array Slot) (H : Heap) (locs : List Loc), f_Mod_told k9 0 S L M = some (r, S9) → lv_has ls 4 [(0, .ref (ad 0)), (1, .int (L 1))] → va_P g.1 classes (Sw shM g ad S) H → va_D A (Sw shM g ad S) → va_S A s.heap H locs → W p l e R s m args below meth c H locs cells slots Q (F0 m 0 ls [])) ∧ (∀ (S : sS) (L : Nat → Int32) (M : Nat → Int64) (ls : Array Slot) (H : Heap) (locs : List Loc), f_Mod_told k9 1 S L M = some (r, S9) → lv_has ls 4 [(0, .ref (ad 0)), (1, .int (L 1)), (2, .int (L 2)), (3, .int (L 3))] → va_P g.1 classes (Sw shM g ad S) H → va_D A (Sw shM g ad S) → va_S A s.heap H locs → W p l e R s m args below meth c H locs cells slots Q (F0 m 4 ls [])) ∧ (∀ (S : sS) (L : Nat → Int32) (M : Nat → Int64) (ls : Array Slot) (H : Heap) (locs : List Loc), f_Mod_told k9 2 S L M = some (r, S9) → lv_has ls 4 [(0, .ref (ad 0)), (1, .int (L 1)), (2, .int (L 2)), (3, .int (L 3))] → va_P g.1 classes (Sw shM g ad S) H → va_D A (Sw shM g ad S) → va_S A s.heap H locs → W p l e R s m args below meth c H locs cells slots Q (F0 m 28 ls [.int (L 100)])) := by
  intro k9
  induction k9 with
  | zero => exact ⟨(fun _ _ _ _ _ _ h => by simp [f_Mod_told] at h), (fun _ _ _ _ _ _ h => by simp [f_Mod_told] at h), (fun _ _ _ _ _ _ h => by simp [f_Mod_told] at h)⟩
  | succ k9 ih =>
    refine ⟨?_, ?_, ?_⟩
    · intro S L M ls H locs h hl hP hD hS
      simp only [f_Mod_told] at h
      refine lv_iconst (v := 0) hx hb d_Mod_told_0 (by decide) ?_
      refine lv_istore_n (lv' := [(2, .int 0), (0, .ref (ad 0)), (1, .int (L 1))]) hx hb d_Mod_told_1 rfl hl (by decide) rfl (fun ls hl => ?_)
      refine lv_iconst (v := 0) hx hb d_Mod_told_2 (by decide) ?_
      refine lv_istore_n (lv' := [(3, .int 0), (2, .int 0), (0, .ref (ad 0)), (1, .int (L 1))]) hx hb d_Mod_told_3 rfl hl (by decide) rfl (fun ls hl => ?_)
      exact (ih.2.1) S (upd (upd L 2 (0 : Int32)) 3 (0 : Int32)) M ls H locs h (lv_sub hl [2, 3, 1, 0] rfl) hP hD hS
    · intro S L M ls H locs h hl hP hD hS
      simp only [f_Mod_told] at h
      refine lv_iload_n hx hb d_Mod_told_4 rfl (lv_at hl 3 rfl) ?_
      refine lv_aload_n hx hb d_Mod_told_5 rfl (lv_at hl 0 rfl) ?_
      refine S_getI (h := shM) (C := "MacroMillModel") (T := F_Mod) hx hb htt in_Mod hown hK hP 0 75 rfl rfl rfl (by decide) (htt _ k_2311) (fun _ h9 => h9) d_Mod_told_6 ?_
      refine lv_icmp_ge (tgt := 35) hx hb d_Mod_told_9 (by decide) (fun hc1 => ?_) (fun hc1 => ?_)
      · rw [if_pos hc1] at h
        refine lv_iload_n hx hb d_Mod_told_35 rfl (lv_at hl 1 rfl) ?_
        by_cases hc2_0 : (L 1) = (0 : Int32)
        · rw [if_pos hc2_0] at h
          refine lv_tableIn (tgt := 76) (off := 40) hx hb d_Mod_told_36 (by rw [hc2_0]; decide) (by rw [hc2_0]; decide) (by rw [hc2_0]; decide) (by decide) ?_
          refine lv_aload_n hx hb d_Mod_told_76 rfl (lv_at hl 0 rfl) ?_
          refine S_getI (h := shM) (C := "MacroMillModel") (T := F_Mod) hx hb htt in_Mod hown hK hP 0 11 rfl rfl rfl (by decide) (htt _ k_2247) (fun _ h9 => h9) d_Mod_told_77 ?_
          cases h
          exact kx_80 ls H locs hP hD hS
        rw [if_neg hc2_0] at h
        by_cases hc2_1 : (L 1) = (1 : Int32)
        · rw [if_pos hc2_1] at h
          refine lv_tableIn (tgt := 81) (off := 45) hx hb d_Mod_told_36 (by rw [hc2_1]; decide) (by rw [hc2_1]; decide) (by rw [hc2_1]; decide) (by decide) ?_
          refine lv_aload_n hx hb d_Mod_told_81 rfl (lv_at hl 0 rfl) ?_
          refine S_getI (h := shM) (C := "MacroMillModel") (T := F_Mod) hx hb htt in_Mod hown hK hP 0 12 rfl rfl rfl (by decide) (htt _ k_2248) (fun _ h9 => h9) d_Mod_told_82 ?_
          cases h
          exact kx_85 ls H locs hP hD hS
        rw [if_neg hc2_1] at h
        by_cases hc2_2 : (L 1) = (2 : Int32)
        · rw [if_pos hc2_2] at h
          refine lv_tableIn (tgt := 86) (off := 50) hx hb d_Mod_told_36 (by rw [hc2_2]; decide) (by rw [hc2_2]; decide) (by rw [hc2_2]; decide) (by decide) ?_
          refine lv_aload_n hx hb d_Mod_told_86 rfl (lv_at hl 0 rfl) ?_
          refine S_getI (h := shM) (C := "MacroMillModel") (T := F_Mod) hx hb htt in_Mod hown hK hP 0 13 rfl rfl rfl (by decide) (htt _ k_2249) (fun _ h9 => h9) d_Mod_told_87 ?_
          cases h
          exact kx_90 ls H locs hP hD hS
        rw [if_neg hc2_2] at h
        by_cases hc2_3 : (L 1) = (3 : Int32)
        · rw [if_pos hc2_3] at h
          refine lv_tableIn (tgt := 91) (off := 55) hx hb d_Mod_told_36 (by rw [hc2_3]; decide) (by rw [hc2_3]; decide) (by rw [hc2_3]; decide) (by decide) ?_
          refine lv_aload_n hx hb d_Mod_told_91 rfl (lv_at hl 0 rfl) ?_
          refine S_getI (h := shM) (C := "MacroMillModel") (T := F_Mod) hx hb htt in_Mod hown hK hP 0 14 rfl rfl rfl (by decide) (htt _ k_2250) (fun _ h9 => h9) d_Mod_told_92 ?_
          cases h
          exact kx_95 ls H locs hP hD hS
        rw [if_neg hc2_3] at h
        by_cases hc2_4 : (L 1) = (4 : Int32)
        · rw [if_pos hc2_4] at h
          refine lv_tableIn (tgt := 96) (off := 60) hx hb d_Mod_told_36 (by rw [hc2_4]; decide) (by rw [hc2_4]; decide) (by rw [hc2_4]; decide) (by decide) ?_
          refine lv_aload_n hx hb d_Mod_told_96 rfl (lv_at hl 0 rfl) ?_
          refine S_getI (h := shM) (C := "MacroMillModel") (T := F_Mod) hx hb htt in_Mod hown hK hP 0 15 rfl rfl rfl (by decide) (htt _ k_2251) (fun _ h9 => h9) d_Mod_told_97 ?_
          cases h
          exact kx_100 ls H locs hP hD hS
        rw [if_neg hc2_4] at h
        by_cases hc2_5 : (L 1) = (5 : Int32)
        · rw [if_pos hc2_5] at h
          refine lv_tableIn (tgt := 101) (off := 65) hx hb d_Mod_told_36 (by rw [hc2_5]; decide) (by rw [hc2_5]; decide) (by rw [hc2_5]; decide) (by decide) ?_
          refine lv_iload_n hx hb d_Mod_told_101 rfl (lv_at hl 2 rfl) ?_
          cases h
          exact kx_102 ls H locs hP hD hS
        rw [if_neg hc2_5] at h
        have ho9 : (L 1).toInt < 0 ∨ 5 < (L 1).toInt := by
          by_cases q9 : (L 1).toInt < 0 ∨ 5 < (L 1).toInt
          · exact q9
          · exfalso
            have q8 : (L 1).toInt = 0 ∨ (L 1).toInt = 1 ∨ (L 1).toInt = 2 ∨ (L 1).toInt = 3 ∨ (L 1).toInt = 4 ∨ (L 1).toInt = 5 := by omega
            rcases q8 with q7 | q7 | q7 | q7 | q7 | q7
            · exact hc2_0 (Int32.toInt_inj.mp (q7.trans (by decide)))
            · exact hc2_1 (Int32.toInt_inj.mp (q7.trans (by decide)))
            · exact hc2_2 (Int32.toInt_inj.mp (q7.trans (by decide)))
            · exact hc2_3 (Int32.toInt_inj.mp (q7.trans (by decide)))
            · exact hc2_4 (Int32.toInt_inj.mp (q7.trans (by decide)))
            · exact hc2_5 (Int32.toInt_inj.mp (q7.trans (by decide)))
        refine lv_tableOut (tgt := 103) hx hb d_Mod_told_36 ho9 (by decide) ?_
        refine lv_iconst (v := (-1)) hx hb d_Mod_told_103 (by decide) ?_
        cases h
        exact kx_104 ls H locs hP hD hS
      · rw [if_neg hc1] at h
        refine lv_aload_n hx hb d_Mod_told_12 rfl (lv_at hl 0 rfl) ?_
        refine S_getR (h := shM) (C := "MacroMillModel") (T := F_Mod) hx hb htt in_Mod hown hK hP 0 78 rfl 37 rfl rfl (by decide) (htt _ k_2314) (fun _ h9 => h9) d_Mod_told_13 ?_
        refine lv_iload_n hx hb d_Mod_told_16 rfl (lv_at hl 3 rfl) ?_
        obtain ⟨hv3, h⟩ := chk h
        refine S_zald (h := shM) (i := L 3) hx hb hK hP 36 rfl (okI_in hv3) d_Mod_told_17 ?_
        refine lv_if_eq (tgt := 27) hx hb d_Mod_told_18 (by decide) (fun hc4 => ?_) (fun hc4 => ?_)
        · rw [if_pos hc4] at h
          refine lv_iload_n hx hb d_Mod_told_27 rfl (lv_at hl 2 rfl) ?_
          exact (ih.2.2) S (upd L 100 (L 2)) M ls H locs h (lv_sub hl [0, 1, 2, 3] rfl) hP hD hS
        · rw [if_neg hc4] at h
          refine lv_iload_n hx hb d_Mod_told_21 rfl (lv_at hl 2 rfl) ?_
          refine lv_iconst (v := 1) hx hb d_Mod_told_22 (by decide) ?_
          refine lv_iadd hx hb d_Mod_told_23 ?_
          refine lv_goto (tgt := 28) hx hb d_Mod_told_24 (by decide) ?_
          exact (ih.2.2) S (upd L 100 ((L 2) + (1 : Int32))) M ls H locs h (lv_sub hl [0, 1, 2, 3] rfl) hP hD hS
    · intro S L M ls H locs h hl hP hD hS
      simp only [f_Mod_told] at h
      refine lv_istore_n (lv' := [(2, .int (L 100)), (0, .ref (ad 0)), (1, .int (L 1)), (3, .int (L 3))]) hx hb d_Mod_told_28 rfl hl (by decide) rfl (fun ls hl => ?_)
      refine lv_iinc (k := 3) (v := (L 3) + 1) (lv' := [(3, .int ((L 3) + 1)), (2, .int (L 100)), (0, .ref (ad 0)), (1, .int (L 1))]) hx hb d_Mod_told_29 hl rfl rfl (by decide) rfl (fun ls hl => ?_)
      refine lv_goto (tgt := 4) hx hb d_Mod_told_32 (by decide) ?_
      exact (ih.2.1) S (upd (upd L 2 (L 100)) 3 ((L 3) + 1)) M ls H locs h (lv_sub hl [2, 3, 1, 0] rfl) hP hD hS
abbrev rm_t_Mod_told : Room := { frames := 0, cells := 0, slots := 0, locals := 0 }
theorem t_Mod_told (l : Launch) (g : gG) (sz : Nat) (ad : Nat → Nat) (S : sS) (v1 : Int32) (k : Nat) (r : Int32) (S9 : sS) (h : f_Mod_told k 0 S (upd (fun _ => 0) 1 v1) (fun _ => 0) = some (r, S9)) : Ci l y_Mod_told b_Mod_told 4 rm_t_Mod_told g [.ref (ad 0), .int v1] (Sw shM g ad S) sz (fun r1 w => ∃ S1 : sS, w = Sw shM g ad S1 ∧ r1 = r ∧ S1 = S9) := by
  refine startI (by decide) (Nat.le_of_ble_eq_true rfl) ?_
  intro p e s m below meth c A ls hx hb hr hml hlocks hmn hown htt hN hA hP hK hD hS hl
  exact (w_Mod_told hx hb hml hown htt hK hN hA r S9 (fun ls H locs hP hD hS => fin_i (g := g) (ws := Sw shM g ad S9) hx hb hr hlocks (by decide +kernel) (by decide +kernel) hP hD hS ⟨_, rfl, rfl, rfl⟩ d_Mod_told_80) (fun ls H locs hP hD hS => fin_i (g := g) (ws := Sw shM g ad S9) hx hb hr hlocks (by decide +kernel) (by decide +kernel) hP hD hS ⟨_, rfl, rfl, rfl⟩ d_Mod_told_85) (fun ls H locs hP hD hS => fin_i (g := g) (ws := Sw shM g ad S9) hx hb hr hlocks (by decide +kernel) (by decide +kernel) hP hD hS ⟨_, rfl, rfl, rfl⟩ d_Mod_told_90) (fun ls H locs hP hD hS => fin_i (g := g) (ws := Sw shM g ad S9) hx hb hr hlocks (by decide +kernel) (by decide +kernel) hP hD hS ⟨_, rfl, rfl, rfl⟩ d_Mod_told_95) (fun ls H locs hP hD hS => fin_i (g := g) (ws := Sw shM g ad S9) hx hb hr hlocks (by decide +kernel) (by decide +kernel) hP hD hS ⟨_, rfl, rfl, rfl⟩ d_Mod_told_100) (fun ls H locs hP hD hS => fin_i (g := g) (ws := Sw shM g ad S9) hx hb hr hlocks (by decide +kernel) (by decide +kernel) hP hD hS ⟨_, rfl, rfl, rfl⟩ d_Mod_told_102) (fun ls H locs hP hD hS => fin_i (g := g) (ws := Sw shM g ad S9) hx hb hr hlocks (by decide +kernel) (by decide +kernel) hP hD hS ⟨_, rfl, rfl, rfl⟩ d_Mod_told_104) k).1 S (upd (fun _ => 0) 1 v1) (fun _ => 0) ls _ _ h hl hP hD hS
