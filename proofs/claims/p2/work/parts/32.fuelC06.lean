def f_First_undivert : Nat → Nat → sS → (Nat → Int32) → (Nat → Int64) → Option (Int32 × sS)
  | 0, _, _, _, _ => none
  | k + 1, 0, S, L, M => (f_Calls_arguments k 0 S (fun _ => 0) (fun _ => 0)).bind (fun (r1, T1) => if r1 = (0 : Int32) then (f_First_undivert k 1 T1 (upd L 1 r1) M) else (if r1 = (1 : Int32) then ((f_Calls_argumentSize k 0 T1 (upd (fun _ => 0) 1 (0 : Int32)) (fun _ => 0)).bind (fun (r4, T4) => if r4 = (0 : Int32) then (f_First_undivert k 1 T4 (upd L 1 r1) M) else (f_First_undivert k 3 T4 (upd L 1 r1) M))) else (f_First_undivert k 3 T1 (upd L 1 r1) M)))
  | k + 1, 1, S, L, M => f_First_undivert k 2 S (upd L 2 (1 : Int32)) M
  | k + 1, 2, S, L, M => if (9 : Int32) < (L 2) then (some ((0 : Int32), S)) else ((f_First_undivertOne k 0 S (upd (fun _ => 0) 1 (L 2 : Int32)) (fun _ => 0)).bind (fun (r2, T2) => f_First_undivert k 2 T2 (upd L 2 ((L 2) + 1)) M))
  | k + 1, 3, S, L, M => f_First_undivert k 4 S (upd L 2 (0 : Int32)) M
  | k + 1, 4, S, L, M => if (L 1) ≤ (L 2) then (f_First_undivert k 5 S L M) else ((f_Outcome_isFine k 0 S (fun _ => 0) (fun _ => 0)).bind (fun (r2, T2) => if r2 = (0 : Int32) then (f_First_undivert k 5 T2 L M) else ((f_First_number k 0 T2 (upd (fun _ => 0) 1 (L 2 : Int32)) (fun _ => 0)).bind (fun (r4, T4) => (f_First_undivertOne k 0 T4 (upd (fun _ => 0) 1 (r4 : Int32)) (fun _ => 0)).bind (fun (r5, T5) => f_First_undivert k 4 T5 (upd L 2 ((L 2) + 1)) M)))))
  | k + 1, 5, S, L, M => some ((0 : Int32), S)
  | _ + 1, _ + 6, _, _, _ => none
set_option maxHeartbeats 8000000 in
set_option maxRecDepth 100000 in
theorem w_First_undivert {p : Program} {l : Launch} {e : Env} {R : Room} {s : State} {m : MethodId} {args : Array Value} {below : List Frame} {meth : Method} {c : Code} {cells slots : Nat} {Q : State → Prop} {g : gG} {A : Nat → Prop} {ad : Nat → Nat} (hx : p.tables.exec = Jvm.exec) (hb : c.code = b_First_undivert) (hml : c.maxLocals = 3) (hown : s.vm.findClass "MacroMill$First" = some m.cls) (htt : ∀ w ∈ gt, w.before args s = true) (hK : va_K g.1 classes (tysG g) s) (hN : nw s) (hA : ∀ q : Nat, s.heap.size ≤ q → A q) (hRf : 3 ≤ R.frames) (hRl : 70 ≤ R.locals) (hRc : cells ≤ R.cells) (hRs : slots ≤ R.slots) (r : Int32) (S9 : sS)
    (kx_47 : ∀ (ls : Array Slot) (H : Heap) (locs : List Loc), va_P g.1 classes (Sw shC g ad S9) H → va_D A (Sw shC g ad S9) → va_S A s.heap H locs → W p l e R s m args below meth c H locs cells slots Q (F0 m 47 ls []))
    (kx_80 : ∀ (ls : Array Slot) (H : Heap) (locs : List Loc), va_P g.1 classes (Sw shC g ad S9) H → va_D A (Sw shC g ad S9) → va_S A s.heap H locs → W p l e R s m args below meth c H locs cells slots Q (F0 m 80 ls [])) :
    ∀ k9 : Nat, (∀ (S : sS) (L : Nat → Int32) (M : Nat → Int64) (ls : Array Slot) (H : Heap) (locs : List Loc), f_First_undivert k9 0 S L M = some (r, S9) → lv_has ls 3 [(0, .ref (ad 4))] → va_P g.1 classes (Sw shC g ad S) H → va_D A (Sw shC g ad S) → va_S A s.heap H locs → W p l e R s m args below meth c H locs cells slots Q (F0 m 0 ls [])) ∧ (∀ (S : sS) (L : Nat → Int32) (M : Nat → Int64) (ls : Array Slot) (H : Heap) (locs : List Loc), f_First_undivert k9 1 S L M = some (r, S9) → lv_has ls 3 [(0, .ref (ad 4)), (1, .int (L 1))] → va_P g.1 classes (Sw shC g ad S) H → va_D A (Sw shC g ad S) → va_S A s.heap H locs → W p l e R s m args below meth c H locs cells slots Q (F0 m 28 ls [])) ∧ (∀ (S : sS) (L : Nat → Int32) (M : Nat → Int64) (ls : Array Slot) (H : Heap) (locs : List Loc), f_First_undivert k9 2 S L M = some (r, S9) → lv_has ls 3 [(0, .ref (ad 4)), (1, .int (L 1)), (2, .int (L 2))] → va_P g.1 classes (Sw shC g ad S) H → va_D A (Sw shC g ad S) → va_S A s.heap H locs → W p l e R s m args below meth c H locs cells slots Q (F0 m 30 ls [])) ∧ (∀ (S : sS) (L : Nat → Int32) (M : Nat → Int64) (ls : Array Slot) (H : Heap) (locs : List Loc), f_First_undivert k9 3 S L M = some (r, S9) → lv_has ls 3 [(0, .ref (ad 4)), (1, .int (L 1))] → va_P g.1 classes (Sw shC g ad S) H → va_D A (Sw shC g ad S) → va_S A s.heap H locs → W p l e R s m args below meth c H locs cells slots Q (F0 m 48 ls [])) ∧ (∀ (S : sS) (L : Nat → Int32) (M : Nat → Int64) (ls : Array Slot) (H : Heap) (locs : List Loc), f_First_undivert k9 4 S L M = some (r, S9) → lv_has ls 3 [(0, .ref (ad 4)), (1, .int (L 1)), (2, .int (L 2))] → va_P g.1 classes (Sw shC g ad S) H → va_D A (Sw shC g ad S) → va_S A s.heap H locs → W p l e R s m args below meth c H locs cells slots Q (F0 m 50 ls [])) ∧ (∀ (S : sS) (L : Nat → Int32) (M : Nat → Int64) (ls : Array Slot) (H : Heap) (locs : List Loc), f_First_undivert k9 5 S L M = some (r, S9) → lv_has ls 3 [(0, .ref (ad 4)), (1, .int (L 1)), (2, .int (L 2))] → va_P g.1 classes (Sw shC g ad S) H → va_D A (Sw shC g ad S) → va_S A s.heap H locs → W p l e R s m args below meth c H locs cells slots Q (F0 m 80 ls [])) := by
  intro k9
  induction k9 with
  | zero => exact ⟨(fun _ _ _ _ _ _ h => by simp [f_First_undivert] at h), (fun _ _ _ _ _ _ h => by simp [f_First_undivert] at h), (fun _ _ _ _ _ _ h => by simp [f_First_undivert] at h), (fun _ _ _ _ _ _ h => by simp [f_First_undivert] at h), (fun _ _ _ _ _ _ h => by simp [f_First_undivert] at h), (fun _ _ _ _ _ _ h => by simp [f_First_undivert] at h)⟩
  | succ k9 ih =>
    refine ⟨?_, ?_, ?_, ?_, ?_, ?_⟩
    · intro S L M ls H locs h hl hP hD hS
      simp only [f_First_undivert] at h
      refine lv_aload_n hx hb d_First_undivert_0 rfl (lv_at hl 0 rfl) ?_
      refine S_getR (h := shC) (C := "MacroMill$First") (T := F_First) hx hb htt in_First hown hK hP 4 3 rfl 6 rfl rfl (by decide) (htt _ k_573) (fun _ h9 => h9) d_First_undivert_1 ?_
      obtain ⟨⟨r1, T1⟩, hq1, h⟩ := Option.bind_eq_some_iff.mp h
      try dsimp only at h
      refine go_iS (As := [.ref (ad 6)]) (g := g) (A := A) (h := shC) hP hK hD hS hA hN (fun hp => va_runV (As := []) (rest := []) ⟨hx, hb, hml, hown, htt⟩ (t_Calls_arguments l g _ ad S k9 r1 T1 hq1) ⟨(cb_L htt k_1325 k_267 k_1322 hd_Calls_arguments ⟨(Nat.le_trans (by decide +kernel) hRf), (Nat.le_trans (by decide +kernel) hRl)⟩), htt _ k_1323, htt _ k_1324⟩ ⟨hp.1, S_recv hK hP 6 rfl rfl, hp.2⟩ rfl rfl hl.1 rfl (lv_room (Nat.le_of_ble_eq_true rfl)) d_First_undivert_4 ⟨hRc, hRs⟩) (fun r0 Sn H locs hw9 hP hD hS => ?_)
      obtain ⟨e9, e8⟩ := hw9
      rw [e8] at hP hD
      refine W.widen (k := cells) (n := slots) (Nat.le_refl _) (Nat.le_refl _) ?_
      refine toI (y := r1) e9 ?_
      refine lv_istore_n (lv' := [(1, .int r1), (0, .ref (ad 4))]) hx hb d_First_undivert_7 rfl hl (by decide) rfl (fun ls hl => ?_)
      refine lv_iload_n hx hb d_First_undivert_8 rfl (lv_at hl 0 rfl) ?_
      refine lv_if_eq (tgt := 28) hx hb d_First_undivert_9 (by decide) (fun hc2 => ?_) (fun hc2 => ?_)
      · rw [if_pos hc2] at h
        exact (ih.2.1) T1 (upd L 1 r1) M ls H locs h (lv_sub hl [1, 0] rfl) hP hD hS
      · rw [if_neg hc2] at h
        refine lv_iload_n hx hb d_First_undivert_12 rfl (lv_at hl 0 rfl) ?_
        refine lv_iconst (v := 1) hx hb d_First_undivert_13 (by decide) ?_
        refine lv_icmp_ne (tgt := 48) hx hb d_First_undivert_14 (by decide) (fun hc3 => ?_) (fun hc3 => ?_)
        · rw [if_neg hc3] at h
          exact (ih.2.2.2.1) T1 (upd L 1 r1) M ls H locs h (lv_sub hl [1, 0] rfl) hP hD hS
        · rw [if_pos hc3] at h
          refine lv_aload_n hx hb d_First_undivert_17 rfl (lv_at hl 1 rfl) ?_
          refine S_getR (h := shC) (C := "MacroMill$First") (T := F_First) hx hb htt in_First hown hK hP 4 3 rfl 6 rfl rfl (by decide) (htt _ k_573) (fun _ h9 => h9) d_First_undivert_18 ?_
          refine lv_iconst (v := 0) hx hb d_First_undivert_21 (by decide) ?_
          obtain ⟨⟨r4, T4⟩, hq4, h⟩ := Option.bind_eq_some_iff.mp h
          try dsimp only at h
          refine go_iS (As := [.ref (ad 6), .int 0]) (g := g) (A := A) (h := shC) hP hK hD hS hA hN (fun hp => va_runV (As := [.int 0]) (rest := []) ⟨hx, hb, hml, hown, htt⟩ (t_Calls_argumentSize l g _ ad T1 (0 : Int32) k9 r4 T4 hq4) ⟨(cb_L htt k_1320 k_267 k_1317 hd_Calls_argumentSize ⟨(Nat.le_trans (by decide +kernel) hRf), (Nat.le_trans (by decide +kernel) hRl)⟩), htt _ k_1318, htt _ k_1319⟩ ⟨hp.1, S_recv hK hP 6 rfl rfl, hp.2⟩ rfl rfl hl.1 rfl (lv_room (Nat.le_of_ble_eq_true rfl)) d_First_undivert_22 ⟨hRc, hRs⟩) (fun r0 Sn H locs hw9 hP hD hS => ?_)
          obtain ⟨e9, e8⟩ := hw9
          rw [e8] at hP hD
          refine W.widen (k := cells) (n := slots) (Nat.le_refl _) (Nat.le_refl _) ?_
          refine toI (y := r4) e9 ?_
          refine lv_if_ne (tgt := 48) hx hb d_First_undivert_25 (by decide) (fun hc5 => ?_) (fun hc5 => ?_)
          · rw [if_neg hc5] at h
            exact (ih.2.2.2.1) T4 (upd L 1 r1) M ls H locs h (lv_sub hl [1, 0] rfl) hP hD hS
          · rw [if_pos hc5] at h
            exact (ih.2.1) T4 (upd L 1 r1) M ls H locs h (lv_sub hl [1, 0] rfl) hP hD hS
    · intro S L M ls H locs h hl hP hD hS
      simp only [f_First_undivert] at h
      refine lv_iconst (v := 1) hx hb d_First_undivert_28 (by decide) ?_
      refine lv_istore_n (lv' := [(2, .int 1), (0, .ref (ad 4)), (1, .int (L 1))]) hx hb d_First_undivert_29 rfl hl (by decide) rfl (fun ls hl => ?_)
      exact (ih.2.2.1) S (upd L 2 (1 : Int32)) M ls H locs h (lv_sub hl [1, 2, 0] rfl) hP hD hS
    · intro S L M ls H locs h hl hP hD hS
      simp only [f_First_undivert] at h
      refine lv_iload_n hx hb d_First_undivert_30 rfl (lv_at hl 2 rfl) ?_
      refine lv_bipush (v := 9) hx hb d_First_undivert_31 (by decide) ?_
      refine lv_icmp_gt (tgt := 47) hx hb d_First_undivert_33 (by decide) (fun hc1 => ?_) (fun hc1 => ?_)
      · rw [if_pos hc1] at h
        cases h
        exact kx_47 ls H locs hP hD hS
      · rw [if_neg hc1] at h
        refine lv_aload_n hx hb d_First_undivert_36 rfl (lv_at hl 0 rfl) ?_
        refine lv_iload_n hx hb d_First_undivert_37 rfl (lv_at hl 2 rfl) ?_
        obtain ⟨⟨r2, T2⟩, hq2, h⟩ := Option.bind_eq_some_iff.mp h
        try dsimp only at h
        refine go_vS (As := [.ref (ad 4), .int (L 2)]) (g := g) (A := A) (h := shC) hP hK hD hS hA hN (fun hp => va_runV (As := [.int (L 2)]) (rest := []) ⟨hx, hb, hml, hown, htt⟩ (t_First_undivertOne l g _ ad S (L 2 : Int32) k9 r2 T2 hq2) ⟨(cb_L htt k_1526 k_266 k_1523 hd_First_undivertOne ⟨(Nat.le_trans (by decide +kernel) hRf), (Nat.le_trans (by decide +kernel) hRl)⟩), htt _ k_1525, htt _ k_53⟩ ⟨hp.1, S_recv hK hP 4 rfl rfl, hp.2⟩ rfl rfl hl.1 rfl (lv_room (Nat.le_of_ble_eq_true rfl)) d_First_undivert_38 ⟨hRc, hRs⟩) (fun Sn H locs hw9 hP hD hS => ?_)
        have e8 := hw9
        rw [e8] at hP hD
        refine W.widen (k := cells) (n := slots) (Nat.le_refl _) (Nat.le_refl _) ?_
        refine lv_iinc (k := 2) (v := (L 2) + 1) (lv' := [(2, .int ((L 2) + 1)), (0, .ref (ad 4)), (1, .int (L 1))]) hx hb d_First_undivert_41 hl rfl rfl (by decide) rfl (fun ls hl => ?_)
        refine lv_goto (tgt := 30) hx hb d_First_undivert_44 (by decide) ?_
        exact (ih.2.2.1) T2 (upd L 2 ((L 2) + 1)) M ls H locs h (lv_sub hl [1, 2, 0] rfl) hP hD hS
    · intro S L M ls H locs h hl hP hD hS
      simp only [f_First_undivert] at h
      refine lv_iconst (v := 0) hx hb d_First_undivert_48 (by decide) ?_
      refine lv_istore_n (lv' := [(2, .int 0), (0, .ref (ad 4)), (1, .int (L 1))]) hx hb d_First_undivert_49 rfl hl (by decide) rfl (fun ls hl => ?_)
      exact (ih.2.2.2.2.1) S (upd L 2 (0 : Int32)) M ls H locs h (lv_sub hl [1, 2, 0] rfl) hP hD hS
    · intro S L M ls H locs h hl hP hD hS
      simp only [f_First_undivert] at h
      refine lv_iload_n hx hb d_First_undivert_50 rfl (lv_at hl 2 rfl) ?_
      refine lv_iload_n hx hb d_First_undivert_51 rfl (lv_at hl 1 rfl) ?_
      refine lv_icmp_ge (tgt := 80) hx hb d_First_undivert_52 (by decide) (fun hc1 => ?_) (fun hc1 => ?_)
      · rw [if_pos hc1] at h
        exact (ih.2.2.2.2.2) S L M ls H locs h (lv_sub hl [0, 1, 2] rfl) hP hD hS
      · rw [if_neg hc1] at h
        refine lv_aload_n hx hb d_First_undivert_55 rfl (lv_at hl 0 rfl) ?_
        refine S_getR (h := shC) (C := "MacroMill$First") (T := F_First) hx hb htt in_First hown hK hP 4 0 rfl 2 rfl rfl (by decide) (htt _ k_570) (fun _ h9 => h9) d_First_undivert_56 ?_
        obtain ⟨⟨r2, T2⟩, hq2, h⟩ := Option.bind_eq_some_iff.mp h
        try dsimp only at h
        refine go_iS (As := [.ref (ad 2)]) (g := g) (A := A) (h := shC) hP hK hD hS hA hN (fun hp => va_runV (As := []) (rest := []) ⟨hx, hb, hml, hown, htt⟩ (t_Outcome_isFine l g _ ad S k9 r2 T2 hq2) ⟨(cb_L htt k_1181 k_264 k_1178 hd_Outcome_isFine ⟨(Nat.le_trans (by decide +kernel) hRf), (Nat.le_trans (by decide +kernel) hRl)⟩), htt _ k_1179, htt _ k_1180⟩ ⟨hp.1, S_recv hK hP 2 rfl rfl, hp.2⟩ rfl rfl hl.1 rfl (lv_room (Nat.le_of_ble_eq_true rfl)) d_First_undivert_59 ⟨hRc, hRs⟩) (fun r0 Sn H locs hw9 hP hD hS => ?_)
        obtain ⟨e9, e8⟩ := hw9
        rw [e8] at hP hD
        refine W.widen (k := cells) (n := slots) (Nat.le_refl _) (Nat.le_refl _) ?_
        refine toI (y := r2) e9 ?_
        refine lv_if_eq (tgt := 80) hx hb d_First_undivert_62 (by decide) (fun hc3 => ?_) (fun hc3 => ?_)
        · rw [if_pos hc3] at h
          exact (ih.2.2.2.2.2) T2 L M ls H locs h (lv_sub hl [0, 1, 2] rfl) hP hD hS
        · rw [if_neg hc3] at h
          refine lv_aload_n hx hb d_First_undivert_65 rfl (lv_at hl 0 rfl) ?_
          refine lv_aload_n hx hb d_First_undivert_66 rfl (lv_at hl 0 rfl) ?_
          refine lv_iload_n hx hb d_First_undivert_67 rfl (lv_at hl 2 rfl) ?_
          obtain ⟨⟨r4, T4⟩, hq4, h⟩ := Option.bind_eq_some_iff.mp h
          try dsimp only at h
          refine go_iS (As := [.ref (ad 4), .int (L 2)]) (g := g) (A := A) (h := shC) hP hK hD hS hA hN (fun hp => va_runV (As := [.int (L 2)]) (rest := [.ref (ad 4)]) ⟨hx, hb, hml, hown, htt⟩ (t_First_number l g _ ad T2 (L 2 : Int32) k9 r4 T4 hq4) ⟨(cb_L htt k_1497 k_266 k_1494 hd_First_number ⟨(Nat.le_trans (by decide +kernel) hRf), (Nat.le_trans (by decide +kernel) hRl)⟩), htt _ k_1496, htt _ k_47⟩ ⟨hp.1, S_recv hK hP 4 rfl rfl, hp.2⟩ rfl rfl hl.1 rfl (lv_room (Nat.le_of_ble_eq_true rfl)) d_First_undivert_68 ⟨hRc, hRs⟩) (fun r0 Sn H locs hw9 hP hD hS => ?_)
          obtain ⟨e9, e8⟩ := hw9
          rw [e8] at hP hD
          refine W.widen (k := cells) (n := slots) (Nat.le_refl _) (Nat.le_refl _) ?_
          refine toI (y := r4) e9 ?_
          obtain ⟨⟨r5, T5⟩, hq5, h⟩ := Option.bind_eq_some_iff.mp h
          try dsimp only at h
          refine go_vS (As := [.ref (ad 4), .int r4]) (g := g) (A := A) (h := shC) hP hK hD hS hA hN (fun hp => va_runV (As := [.int r4]) (rest := []) ⟨hx, hb, hml, hown, htt⟩ (t_First_undivertOne l g _ ad T4 (r4 : Int32) k9 r5 T5 hq5) ⟨(cb_L htt k_1526 k_266 k_1523 hd_First_undivertOne ⟨(Nat.le_trans (by decide +kernel) hRf), (Nat.le_trans (by decide +kernel) hRl)⟩), htt _ k_1525, htt _ k_53⟩ ⟨hp.1, S_recv hK hP 4 rfl rfl, hp.2⟩ rfl rfl hl.1 rfl (lv_room (Nat.le_of_ble_eq_true rfl)) d_First_undivert_71 ⟨hRc, hRs⟩) (fun Sn H locs hw9 hP hD hS => ?_)
          have e8 := hw9
          rw [e8] at hP hD
          refine W.widen (k := cells) (n := slots) (Nat.le_refl _) (Nat.le_refl _) ?_
          refine lv_iinc (k := 2) (v := (L 2) + 1) (lv' := [(2, .int ((L 2) + 1)), (0, .ref (ad 4)), (1, .int (L 1))]) hx hb d_First_undivert_74 hl rfl rfl (by decide) rfl (fun ls hl => ?_)
          refine lv_goto (tgt := 50) hx hb d_First_undivert_77 (by decide) ?_
          exact (ih.2.2.2.2.1) T5 (upd L 2 ((L 2) + 1)) M ls H locs h (lv_sub hl [1, 2, 0] rfl) hP hD hS
    · intro S L M ls H locs h hl hP hD hS
      simp only [f_First_undivert] at h
      cases h
      exact kx_80 ls H locs hP hD hS
abbrev rm_t_First_undivert : Room := { frames := 3, cells := 0, slots := 0, locals := 70 }
theorem t_First_undivert (l : Launch) (g : gG) (sz : Nat) (ad : Nat → Nat) (S : sS) (k : Nat) (r : Int32) (S9 : sS) (h : f_First_undivert k 0 S (fun _ => 0) (fun _ => 0) = some (r, S9)) : Cv l y_First_undivert b_First_undivert 3 rm_t_First_undivert g [.ref (ad 4)] (Sw shC g ad S) sz (fun w => ∃ S1 : sS, w = Sw shC g ad S1 ∧ S1 = S9) := by
  refine startV (by decide) (Nat.le_of_ble_eq_true rfl) ?_
  intro p e s m below meth c A ls hx hb hr hml hlocks hmn hown htt hN hA hP hK hD hS hl
  exact (w_First_undivert hx hb hml hown htt hK hN hA (by decide +kernel) (by decide +kernel) (by decide +kernel) (by decide +kernel) r S9 (fun ls H locs hP hD hS => fin_v (g := g) (ws := Sw shC g ad S9) hx hb hr hlocks (by decide +kernel) (by decide +kernel) hP hD hS ⟨_, rfl, rfl⟩ d_First_undivert_47) (fun ls H locs hP hD hS => fin_v (g := g) (ws := Sw shC g ad S9) hx hb hr hlocks (by decide +kernel) (by decide +kernel) hP hD hS ⟨_, rfl, rfl⟩ d_First_undivert_80) k).1 S (fun _ => 0) (fun _ => 0) ls _ _ h hl hP hD hS
def f_Input_readToken : Nat → Nat → sS → (Nat → Int32) → (Nat → Int64) → Option (Int32 × sS)
  | 0, _, _, _, _ => none
  | k + 1, 0, S, L, M => if (S.1 5 2) < (32768 : Int32) then ((f_Input_isAt k 0 (putI (putI (putI S 5 9 0) 5 10 (S.1 5 2)) 5 11 (S.1 5 2)) (upd (fun _ => 0) 1 (0 : Int32)) (fun _ => 0)).bind (fun (r2, T2) => if r2 = (0 : Int32) then (if okI (T2.1 5 2) 32768 = true then (if (T2.2.1 16 (T2.1 5 2 : Int32).toNatClampNeg) = (35 : Int32) then ((f_Input_takeLine k 0 (putI T2 5 9 2) (fun _ => 0) (fun _ => 0)).bind (fun (r11, T11) => f_Input_readToken k 1 (putI T11 5 11 (T11.1 5 2)) L M)) else (if okI (T2.1 5 2) 32768 = true then ((f_MM_isLetter k 0 T2 (upd (fun _ => 0) 0 (T2.2.1 16 (T2.1 5 2 : Int32).toNatClampNeg : Int32)) (fun _ => 0)).bind (fun (r7, T7) => if r7 = (0 : Int32) then ((f_Input_take k 0 (putI T7 5 9 4) (fun _ => 0) (fun _ => 0)).bind (fun (r9, T9) => f_Input_readToken k 1 (putI T9 5 11 (T9.1 5 2)) L M)) else ((f_Input_readName k 0 T7 (fun _ => 0) (fun _ => 0)).bind (fun (r10, T10) => f_Input_readToken k 1 T10 L M)))) else none)) else none) else ((f_Input_readQuoted k 0 T2 (fun _ => 0) (fun _ => 0)).bind (fun (r12, T12) => f_Input_readToken k 1 T12 L M)))) else (some ((0 : Int32), (putI (putI (putI S 5 9 0) 5 10 (S.1 5 2)) 5 11 (S.1 5 2))))
  | k + 1, 1, S, L, M => some ((0 : Int32), S)
  | _ + 1, _ + 2, _, _, _ => none
set_option maxHeartbeats 8000000 in
set_option maxRecDepth 100000 in
theorem w_Input_readToken {p : Program} {l : Launch} {e : Env} {R : Room} {s : State} {m : MethodId} {args : Array Value} {below : List Frame} {meth : Method} {c : Code} {cells slots : Nat} {Q : State → Prop} {g : gG} {A : Nat → Prop} {ad : Nat → Nat} (hx : p.tables.exec = Jvm.exec) (hb : c.code = b_Input_readToken) (hml : c.maxLocals = 1) (hown : s.vm.findClass "MacroMill$Input" = some m.cls) (htt : ∀ w ∈ gt, w.before args s = true) (hK : va_K g.1 classes (tysG g) s) (hN : nw s) (hA : ∀ q : Nat, s.heap.size ≤ q → A q) (hRf : 4 ≤ R.frames) (hRl : 87 ≤ R.locals) (hRc : cells ≤ R.cells) (hRs : slots ≤ R.slots) (r : Int32) (S9 : sS)
    (kx_30 : ∀ (ls : Array Slot) (H : Heap) (locs : List Loc), va_P g.1 classes (Sw shC g ad S9) H → va_D A (Sw shC g ad S9) → va_S A s.heap H locs → W p l e R s m args below meth c H locs cells slots Q (F0 m 30 ls []))
    (kx_120 : ∀ (ls : Array Slot) (H : Heap) (locs : List Loc), va_P g.1 classes (Sw shC g ad S9) H → va_D A (Sw shC g ad S9) → va_S A s.heap H locs → W p l e R s m args below meth c H locs cells slots Q (F0 m 120 ls [])) :
    ∀ k9 : Nat, (∀ (S : sS) (L : Nat → Int32) (M : Nat → Int64) (ls : Array Slot) (H : Heap) (locs : List Loc), f_Input_readToken k9 0 S L M = some (r, S9) → lv_has ls 1 [(0, .ref (ad 5))] → va_P g.1 classes (Sw shC g ad S) H → va_D A (Sw shC g ad S) → va_S A s.heap H locs → W p l e R s m args below meth c H locs cells slots Q (F0 m 0 ls [])) ∧ (∀ (S : sS) (L : Nat → Int32) (M : Nat → Int64) (ls : Array Slot) (H : Heap) (locs : List Loc), f_Input_readToken k9 1 S L M = some (r, S9) → lv_has ls 1 [(0, .ref (ad 5))] → va_P g.1 classes (Sw shC g ad S) H → va_D A (Sw shC g ad S) → va_S A s.heap H locs → W p l e R s m args below meth c H locs cells slots Q (F0 m 120 ls [])) := by
  intro k9
  induction k9 with
  | zero => exact ⟨(fun _ _ _ _ _ _ h => by simp [f_Input_readToken] at h), (fun _ _ _ _ _ _ h => by simp [f_Input_readToken] at h)⟩
  | succ k9 ih =>
    refine ⟨?_, ?_⟩
    · intro S L M ls H locs h hl hP hD hS
      simp only [f_Input_readToken] at h
      refine lv_aload_n hx hb d_Input_readToken_0 rfl (lv_at hl 0 rfl) ?_
      refine lv_iconst (v := 0) hx hb d_Input_readToken_1 (by decide) ?_
      refine S_put (h := shC) (C := "MacroMill$Input") (T := F_Input) (v := 0) hx hb htt in_Input t_Input t_Input_ok n_Input hown hK hP hD hS 5 9 rfl rfl rfl (by decide) (htt _ k_540) (fun _ h9 => h9) rfl rfl rfl d_Input_readToken_2 (fun H locs hP hD hS => ?_)
      refine lv_aload_n hx hb d_Input_readToken_5 rfl (lv_at hl 0 rfl) ?_
      refine lv_aload_n hx hb d_Input_readToken_6 rfl (lv_at hl 0 rfl) ?_
      refine S_getI (h := shC) (C := "MacroMill$Input") (T := F_Input) hx hb htt in_Input hown hK hP 5 2 rfl rfl rfl (by decide) (htt _ k_531) (fun _ h9 => h9) d_Input_readToken_7 ?_
      refine toI (y := S.1 5 2) rfl ?_
      refine S_put (h := shC) (C := "MacroMill$Input") (T := F_Input) (v := S.1 5 2) hx hb htt in_Input t_Input t_Input_ok n_Input hown hK hP hD hS 5 10 rfl rfl rfl (by decide) (htt _ k_542) (fun _ h9 => h9) rfl rfl rfl d_Input_readToken_10 (fun H locs hP hD hS => ?_)
      refine lv_aload_n hx hb d_Input_readToken_13 rfl (lv_at hl 0 rfl) ?_
      refine lv_aload_n hx hb d_Input_readToken_14 rfl (lv_at hl 0 rfl) ?_
      refine S_getI (h := shC) (C := "MacroMill$Input") (T := F_Input) hx hb htt in_Input hown hK hP 5 2 rfl rfl rfl (by decide) (htt _ k_531) (fun _ h9 => h9) d_Input_readToken_15 ?_
      refine toI (y := S.1 5 2) rfl ?_
      refine S_put (h := shC) (C := "MacroMill$Input") (T := F_Input) (v := S.1 5 2) hx hb htt in_Input t_Input t_Input_ok n_Input hown hK hP hD hS 5 11 rfl rfl rfl (by decide) (htt _ k_544) (fun _ h9 => h9) rfl rfl rfl d_Input_readToken_18 (fun H locs hP hD hS => ?_)
      show W _ _ _ _ _ _ _ _ _ _ _ _ _ _ _ (F0 _ 21 _ _)
      refine lv_aload_n hx hb d_Input_readToken_21 rfl (lv_at hl 0 rfl) ?_
      refine S_getI (h := shC) (C := "MacroMill$Input") (T := F_Input) hx hb htt in_Input hown hK hP 5 2 rfl rfl rfl (by decide) (htt _ k_531) (fun _ h9 => h9) d_Input_readToken_22 ?_
      refine toI (y := S.1 5 2) rfl ?_
      refine lv_ldc (v := 32768) hx hb hown (htt _ k_527) d_Input_readToken_25 ?_
      refine lv_icmp_lt (tgt := 31) hx hb d_Input_readToken_27 (by decide) (fun hc1 => ?_) (fun hc1 => ?_)
      · rw [if_pos hc1] at h
        refine lv_aload_n hx hb d_Input_readToken_31 rfl (lv_at hl 0 rfl) ?_
        refine lv_iconst (v := 0) hx hb d_Input_readToken_32 (by decide) ?_
        obtain ⟨⟨r2, T2⟩, hq2, h⟩ := Option.bind_eq_some_iff.mp h
        try dsimp only at h
        refine go_iS (As := [.ref (ad 5), .int 0]) (g := g) (A := A) (h := shC) hP hK hD hS hA hN (fun hp => va_runV (As := [.int 0]) (rest := []) ⟨hx, hb, hml, hown, htt⟩ (t_Input_isAt l g _ ad (putI (putI (putI S 5 9 0) 5 10 (S.1 5 2)) 5 11 (S.1 5 2)) (0 : Int32) k9 r2 T2 hq2) ⟨(cb_L htt k_1142 k_269 k_1139 hd_Input_isAt ⟨(Nat.le_trans (by decide +kernel) hRf), (Nat.le_trans (by decide +kernel) hRl)⟩), htt _ k_1141, htt _ k_5⟩ ⟨hp.1, S_recv hK hP 5 rfl rfl, hp.2⟩ rfl rfl hl.1 rfl (lv_room (Nat.le_of_ble_eq_true rfl)) d_Input_readToken_33 ⟨hRc, hRs⟩) (fun r0 Sn H locs hw9 hP hD hS => ?_)
        obtain ⟨e9, e8⟩ := hw9
        rw [e8] at hP hD
        refine W.widen (k := cells) (n := slots) (Nat.le_refl _) (Nat.le_refl _) ?_
        refine toI (y := r2) e9 ?_
        refine lv_if_eq (tgt := 46) hx hb d_Input_readToken_36 (by decide) (fun hc3 => ?_) (fun hc3 => ?_)
        · rw [if_pos hc3] at h
          refine lv_aload_n hx hb d_Input_readToken_46 rfl (lv_at hl 0 rfl) ?_
          refine S_getR (h := shC) (C := "MacroMill$Input") (T := F_Input) hx hb htt in_Input hown hK hP 5 0 rfl 29 rfl rfl (by decide) (htt _ k_528) (fun _ h9 => h9) d_Input_readToken_47 ?_
          refine lv_aload_n hx hb d_Input_readToken_50 rfl (lv_at hl 0 rfl) ?_
          refine S_getI (h := shC) (C := "MacroMill$Input") (T := F_Input) hx hb htt in_Input hown hK hP 5 2 rfl rfl rfl (by decide) (htt _ k_531) (fun _ h9 => h9) d_Input_readToken_51 ?_
          obtain ⟨hv4, h⟩ := chk h
          refine S_bald (h := shC) (i := T2.1 5 2) hx hb hK hP 16 rfl (okI_in hv4) d_Input_readToken_54 ?_
          refine lv_bipush (v := 35) hx hb d_Input_readToken_55 (by decide) ?_
          refine lv_icmp_ne (tgt := 80) hx hb d_Input_readToken_57 (by decide) (fun hc5 => ?_) (fun hc5 => ?_)
          · rw [if_neg hc5] at h
            refine lv_aload_n hx hb d_Input_readToken_80 rfl (lv_at hl 0 rfl) ?_
            show W _ _ _ _ _ _ _ _ _ _ _ _ _ _ _ (F0 _ 81 _ _)
            refine S_getR (h := shC) (C := "MacroMill$Input") (T := F_Input) hx hb htt in_Input hown hK hP 5 0 rfl 29 rfl rfl (by decide) (htt _ k_528) (fun _ h9 => h9) d_Input_readToken_81 ?_
            refine lv_aload_n hx hb d_Input_readToken_84 rfl (lv_at hl 0 rfl) ?_
            refine S_getI (h := shC) (C := "MacroMill$Input") (T := F_Input) hx hb htt in_Input hown hK hP 5 2 rfl rfl rfl (by decide) (htt _ k_531) (fun _ h9 => h9) d_Input_readToken_85 ?_
            obtain ⟨hv6, h⟩ := chk h
            refine S_bald (h := shC) (i := T2.1 5 2) hx hb hK hP 16 rfl (okI_in hv6) d_Input_readToken_88 ?_
            obtain ⟨⟨r7, T7⟩, hq7, h⟩ := Option.bind_eq_some_iff.mp h
            try dsimp only at h
            refine go_iS (As := [.int (T2.2.1 16 (T2.1 5 2 : Int32).toNatClampNeg)]) (g := g) (A := A) (h := shC) hP hK hD hS hA hN (fun hp => va_runSN (As := [.int (T2.2.1 16 (T2.1 5 2 : Int32).toNatClampNeg)]) (rest := []) ⟨hx, hb, hml, hown, htt⟩ (t_MM_isLetter l g _ ad T2 (T2.2.1 16 (T2.1 5 2 : Int32).toNatClampNeg : Int32) k9 r7 T7 hq7) ⟨(cb_N (host := "MacroMill") htt k_1170 k_262 hN nM_8 hd_MM_isLetter ⟨(Nat.le_trans (by decide +kernel) hRf), (Nat.le_trans (by decide +kernel) hRl)⟩), htt _ k_1169, trivial⟩ hp rfl rfl hl.1 rfl (lv_room (Nat.le_of_ble_eq_true rfl)) d_Input_readToken_89 ⟨hRc, hRs⟩) (fun r0 Sn H locs hw9 hP hD hS => ?_)
            obtain ⟨e9, e8⟩ := hw9
            rw [e8] at hP hD
            refine W.widen (k := cells) (n := slots) (Nat.le_refl _) (Nat.le_refl _) ?_
            refine toI (y := r7) e9 ?_
            refine lv_if_eq (tgt := 102) hx hb d_Input_readToken_92 (by decide) (fun hc8 => ?_) (fun hc8 => ?_)
            · rw [if_pos hc8] at h
              refine lv_aload_n hx hb d_Input_readToken_102 rfl (lv_at hl 0 rfl) ?_
              refine lv_iconst (v := 4) hx hb d_Input_readToken_103 (by decide) ?_
              refine S_put (h := shC) (C := "MacroMill$Input") (T := F_Input) (v := 4) hx hb htt in_Input t_Input t_Input_ok n_Input hown hK hP hD hS 5 9 rfl rfl rfl (by decide) (htt _ k_540) (fun _ h9 => h9) rfl rfl rfl d_Input_readToken_104 (fun H locs hP hD hS => ?_)
              refine lv_aload_n hx hb d_Input_readToken_107 rfl (lv_at hl 0 rfl) ?_
              obtain ⟨⟨r9, T9⟩, hq9, h⟩ := Option.bind_eq_some_iff.mp h
              try dsimp only at h
              refine go_iS (As := [.ref (ad 5)]) (g := g) (A := A) (h := shC) hP hK hD hS hA hN (fun hp => va_runV (As := []) (rest := []) ⟨hx, hb, hml, hown, htt⟩ (t_Input_take l g _ ad (putI T7 5 9 4) k9 r9 T9 hq9) ⟨(cb_L htt k_1159 k_269 k_1156 hd_Input_take ⟨(Nat.le_trans (by decide +kernel) hRf), (Nat.le_trans (by decide +kernel) hRl)⟩), htt _ k_1157, htt _ k_1158⟩ ⟨hp.1, S_recv hK hP 5 rfl rfl, hp.2⟩ rfl rfl hl.1 rfl (lv_room (Nat.le_of_ble_eq_true rfl)) d_Input_readToken_108 ⟨hRc, hRs⟩) (fun r0 Sn H locs hw9 hP hD hS => ?_)
              obtain ⟨e9, e8⟩ := hw9
              rw [e8] at hP hD
              refine W.widen (k := cells) (n := slots) (Nat.le_refl _) (Nat.le_refl _) ?_
              refine toI (y := r9) e9 ?_
              refine lv_pop hx hb d_Input_readToken_111 rfl ?_
              refine lv_aload_n hx hb d_Input_readToken_112 rfl (lv_at hl 0 rfl) ?_
              refine lv_aload_n hx hb d_Input_readToken_113 rfl (lv_at hl 0 rfl) ?_
              refine S_getI (h := shC) (C := "MacroMill$Input") (T := F_Input) hx hb htt in_Input hown hK hP 5 2 rfl rfl rfl (by decide) (htt _ k_531) (fun _ h9 => h9) d_Input_readToken_114 ?_
              show W _ _ _ _ _ _ _ _ _ _ _ _ _ _ _ (F0 _ 117 _ _)
              refine S_put (h := shC) (C := "MacroMill$Input") (T := F_Input) (v := T9.1 5 2) hx hb htt in_Input t_Input t_Input_ok n_Input hown hK hP hD hS 5 11 rfl rfl rfl (by decide) (htt _ k_544) (fun _ h9 => h9) rfl rfl rfl d_Input_readToken_117 (fun H locs hP hD hS => ?_)
              exact (ih.2) (putI T9 5 11 (T9.1 5 2)) L M ls H locs h (lv_sub hl [0] rfl) hP hD hS
            · rw [if_neg hc8] at h
              refine lv_aload_n hx hb d_Input_readToken_95 rfl (lv_at hl 0 rfl) ?_
              obtain ⟨⟨r10, T10⟩, hq10, h⟩ := Option.bind_eq_some_iff.mp h
              try dsimp only at h
              refine go_vS (As := [.ref (ad 5)]) (g := g) (A := A) (h := shC) hP hK hD hS hA hN (fun hp => va_runV (As := []) (rest := []) ⟨hx, hb, hml, hown, htt⟩ (t_Input_readName l g _ ad T7 k9 r10 T10 hq10) ⟨(cb_L htt k_1174 k_269 k_1171 hd_Input_readName ⟨(Nat.le_trans (by decide +kernel) hRf), (Nat.le_trans (by decide +kernel) hRl)⟩), htt _ k_1173, htt _ k_8⟩ ⟨hp.1, S_recv hK hP 5 rfl rfl, hp.2⟩ rfl rfl hl.1 rfl (lv_room (Nat.le_of_ble_eq_true rfl)) d_Input_readToken_96 ⟨hRc, hRs⟩) (fun Sn H locs hw9 hP hD hS => ?_)
              have e8 := hw9
              rw [e8] at hP hD
              refine W.widen (k := cells) (n := slots) (Nat.le_refl _) (Nat.le_refl _) ?_
              refine lv_goto (tgt := 120) hx hb d_Input_readToken_99 (by decide) ?_
              exact (ih.2) T10 L M ls H locs h (lv_sub hl [0] rfl) hP hD hS
          · rw [if_pos hc5] at h
            refine lv_aload_n hx hb d_Input_readToken_60 rfl (lv_at hl 0 rfl) ?_
            show W _ _ _ _ _ _ _ _ _ _ _ _ _ _ _ (F0 _ 61 _ _)
            refine lv_iconst (v := 2) hx hb d_Input_readToken_61 (by decide) ?_
            refine S_put (h := shC) (C := "MacroMill$Input") (T := F_Input) (v := 2) hx hb htt in_Input t_Input t_Input_ok n_Input hown hK hP hD hS 5 9 rfl rfl rfl (by decide) (htt _ k_540) (fun _ h9 => h9) rfl rfl rfl d_Input_readToken_62 (fun H locs hP hD hS => ?_)
            refine lv_aload_n hx hb d_Input_readToken_65 rfl (lv_at hl 0 rfl) ?_
            obtain ⟨⟨r11, T11⟩, hq11, h⟩ := Option.bind_eq_some_iff.mp h
            try dsimp only at h
            refine go_vS (As := [.ref (ad 5)]) (g := g) (A := A) (h := shC) hP hK hD hS hA hN (fun hp => va_runV (As := []) (rest := []) ⟨hx, hb, hml, hown, htt⟩ (t_Input_takeLine l g _ ad (putI T2 5 9 2) k9 r11 T11 hq11) ⟨(cb_L htt k_1167 k_269 k_1164 hd_Input_takeLine ⟨(Nat.le_trans (by decide +kernel) hRf), (Nat.le_trans (by decide +kernel) hRl)⟩), htt _ k_1165, htt _ k_1166⟩ ⟨hp.1, S_recv hK hP 5 rfl rfl, hp.2⟩ rfl rfl hl.1 rfl (lv_room (Nat.le_of_ble_eq_true rfl)) d_Input_readToken_66 ⟨hRc, hRs⟩) (fun Sn H locs hw9 hP hD hS => ?_)
            have e8 := hw9
            rw [e8] at hP hD
            refine W.widen (k := cells) (n := slots) (Nat.le_refl _) (Nat.le_refl _) ?_
            refine lv_aload_n hx hb d_Input_readToken_69 rfl (lv_at hl 0 rfl) ?_
            refine lv_aload_n hx hb d_Input_readToken_70 rfl (lv_at hl 0 rfl) ?_
            refine S_getI (h := shC) (C := "MacroMill$Input") (T := F_Input) hx hb htt in_Input hown hK hP 5 2 rfl rfl rfl (by decide) (htt _ k_531) (fun _ h9 => h9) d_Input_readToken_71 ?_
            refine S_put (h := shC) (C := "MacroMill$Input") (T := F_Input) (v := T11.1 5 2) hx hb htt in_Input t_Input t_Input_ok n_Input hown hK hP hD hS 5 11 rfl rfl rfl (by decide) (htt _ k_544) (fun _ h9 => h9) rfl rfl rfl d_Input_readToken_74 (fun H locs hP hD hS => ?_)
            refine lv_goto (tgt := 120) hx hb d_Input_readToken_77 (by decide) ?_
            exact (ih.2) (putI T11 5 11 (T11.1 5 2)) L M ls H locs h (lv_sub hl [0] rfl) hP hD hS
        · rw [if_neg hc3] at h
          refine lv_aload_n hx hb d_Input_readToken_39 rfl (lv_at hl 0 rfl) ?_
          obtain ⟨⟨r12, T12⟩, hq12, h⟩ := Option.bind_eq_some_iff.mp h
          try dsimp only at h
          refine go_vS (As := [.ref (ad 5)]) (g := g) (A := A) (h := shC) hP hK hD hS hA hN (fun hp => va_runV (As := []) (rest := []) ⟨hx, hb, hml, hown, htt⟩ (t_Input_readQuoted l g _ ad T2 k9 r12 T12 hq12) ⟨(cb_L htt k_1151 k_269 k_1148 hd_Input_readQuoted ⟨(Nat.le_trans (by decide +kernel) hRf), (Nat.le_trans (by decide +kernel) hRl)⟩), htt _ k_1150, htt _ k_6⟩ ⟨hp.1, S_recv hK hP 5 rfl rfl, hp.2⟩ rfl rfl hl.1 rfl (lv_room (Nat.le_of_ble_eq_true rfl)) d_Input_readToken_40 ⟨hRc, hRs⟩) (fun Sn H locs hw9 hP hD hS => ?_)
          have e8 := hw9
          rw [e8] at hP hD
          refine W.widen (k := cells) (n := slots) (Nat.le_refl _) (Nat.le_refl _) ?_
          refine lv_goto (tgt := 120) hx hb d_Input_readToken_43 (by decide) ?_
          exact (ih.2) T12 L M ls H locs h (lv_sub hl [0] rfl) hP hD hS
      · rw [if_neg hc1] at h
        cases h
        exact kx_30 ls H locs hP hD hS
    · intro S L M ls H locs h hl hP hD hS
      simp only [f_Input_readToken] at h
      cases h
      exact kx_120 ls H locs hP hD hS
abbrev rm_t_Input_readToken : Room := { frames := 4, cells := 0, slots := 0, locals := 87 }
theorem t_Input_readToken (l : Launch) (g : gG) (sz : Nat) (ad : Nat → Nat) (S : sS) (k : Nat) (r : Int32) (S9 : sS) (h : f_Input_readToken k 0 S (fun _ => 0) (fun _ => 0) = some (r, S9)) : Cv l y_Input_readToken b_Input_readToken 1 rm_t_Input_readToken g [.ref (ad 5)] (Sw shC g ad S) sz (fun w => ∃ S1 : sS, w = Sw shC g ad S1 ∧ S1 = S9) := by
  refine startV (by decide) (Nat.le_of_ble_eq_true rfl) ?_
  intro p e s m below meth c A ls hx hb hr hml hlocks hmn hown htt hN hA hP hK hD hS hl
  exact (w_Input_readToken hx hb hml hown htt hK hN hA (by decide +kernel) (by decide +kernel) (by decide +kernel) (by decide +kernel) r S9 (fun ls H locs hP hD hS => fin_v (g := g) (ws := Sw shC g ad S9) hx hb hr hlocks (by decide +kernel) (by decide +kernel) hP hD hS ⟨_, rfl, rfl⟩ d_Input_readToken_30) (fun ls H locs hP hD hS => fin_v (g := g) (ws := Sw shC g ad S9) hx hb hr hlocks (by decide +kernel) (by decide +kernel) hP hD hS ⟨_, rfl, rfl⟩ d_Input_readToken_120) k).1 S (fun _ => 0) (fun _ => 0) ls _ _ h hl hP hD hS
