def f_First_place : Nat → Nat → sS → (Nat → Int32) → (Nat → Int64) → Option (Int32 × sS)
  | 0, _, _, _, _ => none
  | k + 1, 0, S, L, M => (f_Calls_argumentFrom k 0 S (upd (fun _ => 0) 1 (0 : Int32)) (fun _ => 0)).bind (fun (r1, T1) => (f_Calls_argumentFrom k 0 T1 (upd (fun _ => 0) 1 (1 : Int32)) (fun _ => 0)).bind (fun (r2, T2) => (f_Calls_argumentSize k 0 T2 (upd (fun _ => 0) 1 (1 : Int32)) (fun _ => 0)).bind (fun (r3, T3) => (f_Calls_argumentSize k 0 T3 (upd (fun _ => 0) 1 (0 : Int32)) (fun _ => 0)).bind (fun (r4, T4) => f_First_place k 1 T4 (upd (upd (upd (upd (upd L 1 r1) 2 r2) 3 r3) 4 (r4 - r3)) 5 (0 : Int32)) M))))
  | k + 1, 1, S, L, M => if (L 4) < (L 5) then (some (((-1) : Int32), S)) else ((f_MM_areSame 18 16384 18 16384 k 0 S (upd (upd (upd (fun _ => 0) 1 ((L 1) + (L 5) : Int32)) 3 (L 2 : Int32)) 4 (L 3 : Int32)) (fun _ => 0)).bind (fun (r2, T2) => if r2 = (0 : Int32) then (f_First_place k 1 T2 (upd L 5 ((L 5) + 1)) M) else (some (L 5, T2))))
  | _ + 1, _ + 2, _, _, _ => none
set_option maxHeartbeats 8000000 in
set_option maxRecDepth 100000 in
theorem w_First_place {p : Program} {l : Launch} {e : Env} {R : Room} {s : State} {m : MethodId} {args : Array Value} {below : List Frame} {meth : Method} {c : Code} {cells slots : Nat} {Q : State → Prop} {g : gG} {A : Nat → Prop} {ad : Nat → Nat} (hx : p.tables.exec = Jvm.exec) (hb : c.code = b_First_place) (hml : c.maxLocals = 6) (hown : s.vm.findClass "MacroMill$First" = some m.cls) (htt : ∀ w ∈ gt, w.before args s = true) (hK : va_K g.1 classes (tysG g) s) (hN : nw s) (hA : ∀ q : Nat, s.heap.size ≤ q → A q) (hRf : 2 ≤ R.frames) (hRl : 43 ≤ R.locals) (hRc : cells ≤ R.cells) (hRs : slots ≤ R.slots) (r : Int32) (S9 : sS)
    (kx_77 : ∀ (ls : Array Slot) (H : Heap) (locs : List Loc), va_P g.1 classes (Sw shC g ad S9) H → va_D A (Sw shC g ad S9) → va_S A s.heap H locs → W p l e R s m args below meth c H locs cells slots Q (F0 m 77 ls [.int r]))
    (kx_85 : ∀ (ls : Array Slot) (H : Heap) (locs : List Loc), va_P g.1 classes (Sw shC g ad S9) H → va_D A (Sw shC g ad S9) → va_S A s.heap H locs → W p l e R s m args below meth c H locs cells slots Q (F0 m 85 ls [.int r])) :
    ∀ k9 : Nat, (∀ (S : sS) (L : Nat → Int32) (M : Nat → Int64) (ls : Array Slot) (H : Heap) (locs : List Loc), f_First_place k9 0 S L M = some (r, S9) → lv_has ls 6 [(0, .ref (ad 4))] → va_P g.1 classes (Sw shC g ad S) H → va_D A (Sw shC g ad S) → va_S A s.heap H locs → W p l e R s m args below meth c H locs cells slots Q (F0 m 0 ls [])) ∧ (∀ (S : sS) (L : Nat → Int32) (M : Nat → Int64) (ls : Array Slot) (H : Heap) (locs : List Loc), f_First_place k9 1 S L M = some (r, S9) → lv_has ls 6 [(0, .ref (ad 4)), (1, .int (L 1)), (2, .int (L 2)), (3, .int (L 3)), (4, .int (L 4)), (5, .int (L 5))] → va_P g.1 classes (Sw shC g ad S) H → va_D A (Sw shC g ad S) → va_S A s.heap H locs → W p l e R s m args below meth c H locs cells slots Q (F0 m 42 ls [])) := by
  intro k9
  induction k9 with
  | zero => exact ⟨(fun _ _ _ _ _ _ h => by simp [f_First_place] at h), (fun _ _ _ _ _ _ h => by simp [f_First_place] at h)⟩
  | succ k9 ih =>
    refine ⟨?_, ?_⟩
    · intro S L M ls H locs h hl hP hD hS
      simp only [f_First_place] at h
      refine lv_aload_n hx hb d_First_place_0 rfl (lv_at hl 0 rfl) ?_
      refine S_getR (h := shC) (C := "MacroMill$First") (T := F_First) hx hb htt in_First hown hK hP 4 3 rfl 6 rfl rfl (by decide) (htt _ k_573) (fun _ h9 => h9) d_First_place_1 ?_
      refine lv_iconst (v := 0) hx hb d_First_place_4 (by decide) ?_
      obtain ⟨⟨r1, T1⟩, hq1, h⟩ := Option.bind_eq_some_iff.mp h
      try dsimp only at h
      refine go_iS (As := [.ref (ad 6), .int 0]) (g := g) (A := A) (h := shC) hP hK hD hS hA hN (fun hp => va_runV (As := [.int 0]) (rest := []) ⟨hx, hb, hml, hown, htt⟩ (t_Calls_argumentFrom l g _ ad S (0 : Int32) k9 r1 T1 hq1) ⟨(cb_L htt k_1316 k_267 k_1313 hd_Calls_argumentFrom ⟨(Nat.le_trans (by decide +kernel) hRf), (Nat.le_trans (by decide +kernel) hRl)⟩), htt _ k_1314, htt _ k_1315⟩ ⟨hp.1, S_recv hK hP 6 rfl rfl, hp.2⟩ rfl rfl hl.1 rfl (lv_room (Nat.le_of_ble_eq_true rfl)) d_First_place_5 ⟨hRc, hRs⟩) (fun r0 Sn H locs hw9 hP hD hS => ?_)
      obtain ⟨e9, e8⟩ := hw9
      rw [e8] at hP hD
      refine W.widen (k := cells) (n := slots) (Nat.le_refl _) (Nat.le_refl _) ?_
      refine toI (y := r1) e9 ?_
      refine lv_istore_n (lv' := [(1, .int r1), (0, .ref (ad 4))]) hx hb d_First_place_8 rfl hl (by decide) rfl (fun ls hl => ?_)
      refine lv_aload_n hx hb d_First_place_9 rfl (lv_at hl 1 rfl) ?_
      refine S_getR (h := shC) (C := "MacroMill$First") (T := F_First) hx hb htt in_First hown hK hP 4 3 rfl 6 rfl rfl (by decide) (htt _ k_573) (fun _ h9 => h9) d_First_place_10 ?_
      refine lv_iconst (v := 1) hx hb d_First_place_13 (by decide) ?_
      obtain ⟨⟨r2, T2⟩, hq2, h⟩ := Option.bind_eq_some_iff.mp h
      try dsimp only at h
      refine go_iS (As := [.ref (ad 6), .int 1]) (g := g) (A := A) (h := shC) hP hK hD hS hA hN (fun hp => va_runV (As := [.int 1]) (rest := []) ⟨hx, hb, hml, hown, htt⟩ (t_Calls_argumentFrom l g _ ad T1 (1 : Int32) k9 r2 T2 hq2) ⟨(cb_L htt k_1316 k_267 k_1313 hd_Calls_argumentFrom ⟨(Nat.le_trans (by decide +kernel) hRf), (Nat.le_trans (by decide +kernel) hRl)⟩), htt _ k_1314, htt _ k_1315⟩ ⟨hp.1, S_recv hK hP 6 rfl rfl, hp.2⟩ rfl rfl hl.1 rfl (lv_room (Nat.le_of_ble_eq_true rfl)) d_First_place_14 ⟨hRc, hRs⟩) (fun r0 Sn H locs hw9 hP hD hS => ?_)
      obtain ⟨e9, e8⟩ := hw9
      rw [e8] at hP hD
      refine W.widen (k := cells) (n := slots) (Nat.le_refl _) (Nat.le_refl _) ?_
      refine toI (y := r2) e9 ?_
      refine lv_istore_n (lv' := [(2, .int r2), (1, .int r1), (0, .ref (ad 4))]) hx hb d_First_place_17 rfl hl (by decide) rfl (fun ls hl => ?_)
      refine lv_aload_n hx hb d_First_place_18 rfl (lv_at hl 2 rfl) ?_
      refine S_getR (h := shC) (C := "MacroMill$First") (T := F_First) hx hb htt in_First hown hK hP 4 3 rfl 6 rfl rfl (by decide) (htt _ k_573) (fun _ h9 => h9) d_First_place_19 ?_
      refine lv_iconst (v := 1) hx hb d_First_place_22 (by decide) ?_
      obtain ⟨⟨r3, T3⟩, hq3, h⟩ := Option.bind_eq_some_iff.mp h
      try dsimp only at h
      refine go_iS (As := [.ref (ad 6), .int 1]) (g := g) (A := A) (h := shC) hP hK hD hS hA hN (fun hp => va_runV (As := [.int 1]) (rest := []) ⟨hx, hb, hml, hown, htt⟩ (t_Calls_argumentSize l g _ ad T2 (1 : Int32) k9 r3 T3 hq3) ⟨(cb_L htt k_1320 k_267 k_1317 hd_Calls_argumentSize ⟨(Nat.le_trans (by decide +kernel) hRf), (Nat.le_trans (by decide +kernel) hRl)⟩), htt _ k_1318, htt _ k_1319⟩ ⟨hp.1, S_recv hK hP 6 rfl rfl, hp.2⟩ rfl rfl hl.1 rfl (lv_room (Nat.le_of_ble_eq_true rfl)) d_First_place_23 ⟨hRc, hRs⟩) (fun r0 Sn H locs hw9 hP hD hS => ?_)
      obtain ⟨e9, e8⟩ := hw9
      rw [e8] at hP hD
      refine W.widen (k := cells) (n := slots) (Nat.le_refl _) (Nat.le_refl _) ?_
      refine toI (y := r3) e9 ?_
      show W _ _ _ _ _ _ _ _ _ _ _ _ _ _ _ (F0 _ 26 _ _)
      refine lv_istore_n (lv' := [(3, .int r3), (2, .int r2), (1, .int r1), (0, .ref (ad 4))]) hx hb d_First_place_26 rfl hl (by decide) rfl (fun ls hl => ?_)
      refine lv_aload_n hx hb d_First_place_27 rfl (lv_at hl 3 rfl) ?_
      refine S_getR (h := shC) (C := "MacroMill$First") (T := F_First) hx hb htt in_First hown hK hP 4 3 rfl 6 rfl rfl (by decide) (htt _ k_573) (fun _ h9 => h9) d_First_place_28 ?_
      refine lv_iconst (v := 0) hx hb d_First_place_31 (by decide) ?_
      obtain ⟨⟨r4, T4⟩, hq4, h⟩ := Option.bind_eq_some_iff.mp h
      try dsimp only at h
      refine go_iS (As := [.ref (ad 6), .int 0]) (g := g) (A := A) (h := shC) hP hK hD hS hA hN (fun hp => va_runV (As := [.int 0]) (rest := []) ⟨hx, hb, hml, hown, htt⟩ (t_Calls_argumentSize l g _ ad T3 (0 : Int32) k9 r4 T4 hq4) ⟨(cb_L htt k_1320 k_267 k_1317 hd_Calls_argumentSize ⟨(Nat.le_trans (by decide +kernel) hRf), (Nat.le_trans (by decide +kernel) hRl)⟩), htt _ k_1318, htt _ k_1319⟩ ⟨hp.1, S_recv hK hP 6 rfl rfl, hp.2⟩ rfl rfl hl.1 rfl (lv_room (Nat.le_of_ble_eq_true rfl)) d_First_place_32 ⟨hRc, hRs⟩) (fun r0 Sn H locs hw9 hP hD hS => ?_)
      obtain ⟨e9, e8⟩ := hw9
      rw [e8] at hP hD
      refine W.widen (k := cells) (n := slots) (Nat.le_refl _) (Nat.le_refl _) ?_
      refine toI (y := r4) e9 ?_
      refine lv_iload_n hx hb d_First_place_35 rfl (lv_at hl 0 rfl) ?_
      refine lv_isub hx hb d_First_place_36 ?_
      refine lv_istore (lv' := [(4, .int (r4 - r3)), (3, .int r3), (2, .int r2), (1, .int r1), (0, .ref (ad 4))]) hx hb d_First_place_37 hl (by decide) rfl (fun ls hl => ?_)
      refine lv_iconst (v := 0) hx hb d_First_place_39 (by decide) ?_
      refine lv_istore (lv' := [(5, .int 0), (4, .int (r4 - r3)), (3, .int r3), (2, .int r2), (1, .int r1), (0, .ref (ad 4))]) hx hb d_First_place_40 hl (by decide) rfl (fun ls hl => ?_)
      exact (ih.2) T4 (upd (upd (upd (upd (upd L 1 r1) 2 r2) 3 r3) 4 (r4 - r3)) 5 (0 : Int32)) M ls H locs h (lv_sub hl [5, 4, 3, 2, 1, 0] rfl) hP hD hS
    · intro S L M ls H locs h hl hP hD hS
      simp only [f_First_place] at h
      refine lv_iload hx hb d_First_place_42 (lv_at hl 5 rfl) ?_
      refine lv_iload hx hb d_First_place_44 (lv_at hl 4 rfl) ?_
      refine lv_icmp_gt (tgt := 84) hx hb d_First_place_46 (by decide) (fun hc1 => ?_) (fun hc1 => ?_)
      · rw [if_pos hc1] at h
        refine lv_iconst (v := (-1)) hx hb d_First_place_84 (by decide) ?_
        cases h
        exact kx_85 ls H locs hP hD hS
      · rw [if_neg hc1] at h
        refine lv_aload_n hx hb d_First_place_49 rfl (lv_at hl 0 rfl) ?_
        refine S_getR (h := shC) (C := "MacroMill$First") (T := F_First) hx hb htt in_First hown hK hP 4 3 rfl 6 rfl rfl (by decide) (htt _ k_573) (fun _ h9 => h9) d_First_place_50 ?_
        refine S_getR (h := shC) (C := "MacroMill$Calls") (T := F_Calls) hx hb htt in_Calls hown hK hP 6 0 rfl 31 rfl rfl (by decide) (htt _ k_446) (fun _ h9 => h9) d_First_place_53 ?_
        refine lv_iload_n hx hb d_First_place_56 rfl (lv_at hl 1 rfl) ?_
        refine lv_iload hx hb d_First_place_57 (lv_at hl 5 rfl) ?_
        refine lv_iadd hx hb d_First_place_59 ?_
        refine lv_aload_n hx hb d_First_place_60 rfl (lv_at hl 0 rfl) ?_
        refine S_getR (h := shC) (C := "MacroMill$First") (T := F_First) hx hb htt in_First hown hK hP 4 3 rfl 6 rfl rfl (by decide) (htt _ k_573) (fun _ h9 => h9) d_First_place_61 ?_
        refine S_getR (h := shC) (C := "MacroMill$Calls") (T := F_Calls) hx hb htt in_Calls hown hK hP 6 0 rfl 31 rfl rfl (by decide) (htt _ k_446) (fun _ h9 => h9) d_First_place_64 ?_
        show W _ _ _ _ _ _ _ _ _ _ _ _ _ _ _ (F0 _ 67 _ _)
        refine lv_iload_n hx hb d_First_place_67 rfl (lv_at hl 2 rfl) ?_
        refine lv_iload_n hx hb d_First_place_68 rfl (lv_at hl 3 rfl) ?_
        obtain ⟨⟨r2, T2⟩, hq2, h⟩ := Option.bind_eq_some_iff.mp h
        try dsimp only at h
        refine go_iS (As := [.ref (ad 31), .int ((L 1) + (L 5)), .ref (ad 31), .int (L 2), .int (L 3)]) (g := g) (A := A) (h := shC) hP hK hD hS hA hN (fun hp => va_runSN (As := [.ref (ad 31), .int ((L 1) + (L 5)), .ref (ad 31), .int (L 2), .int (L 3)]) (rest := []) ⟨hx, hb, hml, hown, htt⟩ (t_MM_areSame l g _ ad S 18 16384 18 16384 ((L 1) + (L 5) : Int32) (L 2 : Int32) (L 3 : Int32) rfl rfl k9 r2 T2 hq2) ⟨(cb_N (host := "MacroMill") htt k_1012 k_262 hN nM_16 hd_MM_areSame ⟨(Nat.le_trans (by decide +kernel) hRf), (Nat.le_trans (by decide +kernel) hRl)⟩), htt _ k_1011, trivial⟩ hp rfl rfl hl.1 rfl (lv_room (Nat.le_of_ble_eq_true rfl)) d_First_place_69 ⟨hRc, hRs⟩) (fun r0 Sn H locs hw9 hP hD hS => ?_)
        obtain ⟨e9, e8⟩ := hw9
        rw [e8] at hP hD
        refine W.widen (k := cells) (n := slots) (Nat.le_refl _) (Nat.le_refl _) ?_
        refine toI (y := r2) e9 ?_
        refine lv_if_eq (tgt := 78) hx hb d_First_place_72 (by decide) (fun hc3 => ?_) (fun hc3 => ?_)
        · rw [if_pos hc3] at h
          refine lv_iinc (k := 5) (v := (L 5) + 1) (lv' := [(5, .int ((L 5) + 1)), (0, .ref (ad 4)), (1, .int (L 1)), (2, .int (L 2)), (3, .int (L 3)), (4, .int (L 4))]) hx hb d_First_place_78 hl rfl rfl (by decide) rfl (fun ls hl => ?_)
          refine lv_goto (tgt := 42) hx hb d_First_place_81 (by decide) ?_
          exact (ih.2) T2 (upd L 5 ((L 5) + 1)) M ls H locs h (lv_sub hl [1, 2, 3, 4, 5, 0] rfl) hP hD hS
        · rw [if_neg hc3] at h
          refine lv_iload hx hb d_First_place_75 (lv_at hl 5 rfl) ?_
          cases h
          exact kx_77 ls H locs hP hD hS
abbrev rm_t_First_place : Room := { frames := 2, cells := 0, slots := 0, locals := 43 }
theorem t_First_place (l : Launch) (g : gG) (sz : Nat) (ad : Nat → Nat) (S : sS) (k : Nat) (r : Int32) (S9 : sS) (h : f_First_place k 0 S (fun _ => 0) (fun _ => 0) = some (r, S9)) : Ci l y_First_place b_First_place 6 rm_t_First_place g [.ref (ad 4)] (Sw shC g ad S) sz (fun r1 w => ∃ S1 : sS, w = Sw shC g ad S1 ∧ r1 = r ∧ S1 = S9) := by
  refine startI (by decide) (Nat.le_of_ble_eq_true rfl) ?_
  intro p e s m below meth c A ls hx hb hr hml hlocks hmn hown htt hN hA hP hK hD hS hl
  exact (w_First_place hx hb hml hown htt hK hN hA (by decide +kernel) (by decide +kernel) (by decide +kernel) (by decide +kernel) r S9 (fun ls H locs hP hD hS => fin_i (g := g) (ws := Sw shC g ad S9) hx hb hr hlocks (by decide +kernel) (by decide +kernel) hP hD hS ⟨_, rfl, rfl, rfl⟩ d_First_place_77) (fun ls H locs hP hD hS => fin_i (g := g) (ws := Sw shC g ad S9) hx hb hr hlocks (by decide +kernel) (by decide +kernel) hP hD hS ⟨_, rfl, rfl, rfl⟩ d_First_place_85) k).1 S (fun _ => 0) (fun _ => 0) ls _ _ h hl hP hD hS
def f_First_number : Nat → Nat → sS → (Nat → Int32) → (Nat → Int64) → Option (Int32 × sS)
  | 0, _, _, _, _ => none
  | k + 1, 0, S, L, M => (f_Calls_argumentFrom k 0 S (upd (fun _ => 0) 1 (L 1 : Int32)) (fun _ => 0)).bind (fun (r1, T1) => (f_Calls_argumentSize k 0 T1 (upd (fun _ => 0) 1 (L 1 : Int32)) (fun _ => 0)).bind (fun (r2, T2) => if r2 = (0 : Int32) then (some ((0 : Int32), T2)) else (if okI (r1) 16384 = true then (if (T2.2.1 18 (r1 : Int32).toNatClampNeg) = (45 : Int32) then (f_First_number k 1 T2 (upd (upd (upd L 2 r1) 3 r2) 100 (1 : Int32)) M) else (f_First_number k 1 T2 (upd (upd (upd L 2 r1) 3 r2) 100 (0 : Int32)) M)) else none)))
  | k + 1, 1, S, L, M => if (L 100) = (0 : Int32) then (f_First_number k 2 S (upd (upd L 4 (L 100)) 100 (L 3)) M) else (f_First_number k 2 S (upd (upd L 4 (L 100)) 100 ((L 3) - (1 : Int32))) M)
  | k + 1, 2, S, L, M => if (L 100) < (1 : Int32) then (f_First_number k 3 S (upd L 5 (L 100)) M) else (if (L 100) ≤ (9 : Int32) then (f_First_number k 4 S (upd (upd (upd L 5 (L 100)) 6 (0 : Int32)) 7 (((L 2) + (L 3)) - (L 100))) M) else (f_First_number k 3 S (upd L 5 (L 100)) M))
  | k + 1, 3, S, L, M => (f_First_fail k 0 S (upd (fun _ => 0) 1 (36 : Int32)) (fun _ => 0)).bind (fun (r1, T1) => some ((0 : Int32), T1))
  | k + 1, 4, S, L, M => if ((L 2) + (L 3)) ≤ (L 7) then (if (L 4) = (0 : Int32) then (f_First_number k 5 S (upd L 100 (L 6)) M) else (f_First_number k 5 S (upd L 100 (-(L 6))) M)) else (if okI (L 7) 16384 = true then ((f_MM_isDigit k 0 S (upd (fun _ => 0) 0 (S.2.1 18 (L 7 : Int32).toNatClampNeg : Int32)) (fun _ => 0)).bind (fun (r4, T4) => if r4 = (0 : Int32) then ((f_First_fail k 0 T4 (upd (fun _ => 0) 1 (36 : Int32)) (fun _ => 0)).bind (fun (r7, T7) => some ((0 : Int32), T7))) else (if okI (L 7) 16384 = true then (f_First_number k 4 T4 (upd (upd L 6 ((((L 6) * (10 : Int32)) + (T4.2.1 18 (L 7 : Int32).toNatClampNeg)) - (48 : Int32))) 7 ((L 7) + 1)) M) else none))) else none)
  | k + 1, 5, S, L, M => some (L 100, S)
  | _ + 1, _ + 6, _, _, _ => none
set_option maxHeartbeats 8000000 in
set_option maxRecDepth 100000 in
theorem w_First_number {p : Program} {l : Launch} {e : Env} {R : Room} {s : State} {m : MethodId} {args : Array Value} {below : List Frame} {meth : Method} {c : Code} {cells slots : Nat} {Q : State → Prop} {g : gG} {A : Nat → Prop} {ad : Nat → Nat} (hx : p.tables.exec = Jvm.exec) (hb : c.code = b_First_number) (hml : c.maxLocals = 8) (hown : s.vm.findClass "MacroMill$First" = some m.cls) (htt : ∀ w ∈ gt, w.before args s = true) (hK : va_K g.1 classes (tysG g) s) (hN : nw s) (hA : ∀ q : Nat, s.heap.size ≤ q → A q) (hRf : 2 ≤ R.frames) (hRl : 43 ≤ R.locals) (hRc : cells ≤ R.cells) (hRs : slots ≤ R.slots) (r : Int32) (S9 : sS)
    (kx_23 : ∀ (ls : Array Slot) (H : Heap) (locs : List Loc), va_P g.1 classes (Sw shC g ad S9) H → va_D A (Sw shC g ad S9) → va_S A s.heap H locs → W p l e R s m args below meth c H locs cells slots Q (F0 m 23 ls [.int r]))
    (kx_79 : ∀ (ls : Array Slot) (H : Heap) (locs : List Loc), va_P g.1 classes (Sw shC g ad S9) H → va_D A (Sw shC g ad S9) → va_S A s.heap H locs → W p l e R s m args below meth c H locs cells slots Q (F0 m 79 ls [.int r]))
    (kx_122 : ∀ (ls : Array Slot) (H : Heap) (locs : List Loc), va_P g.1 classes (Sw shC g ad S9) H → va_D A (Sw shC g ad S9) → va_S A s.heap H locs → W p l e R s m args below meth c H locs cells slots Q (F0 m 122 ls [.int r]))
    (kx_163 : ∀ (ls : Array Slot) (H : Heap) (locs : List Loc), va_P g.1 classes (Sw shC g ad S9) H → va_D A (Sw shC g ad S9) → va_S A s.heap H locs → W p l e R s m args below meth c H locs cells slots Q (F0 m 163 ls [.int r])) :
    ∀ k9 : Nat, (∀ (S : sS) (L : Nat → Int32) (M : Nat → Int64) (ls : Array Slot) (H : Heap) (locs : List Loc), f_First_number k9 0 S L M = some (r, S9) → lv_has ls 8 [(0, .ref (ad 4)), (1, .int (L 1))] → va_P g.1 classes (Sw shC g ad S) H → va_D A (Sw shC g ad S) → va_S A s.heap H locs → W p l e R s m args below meth c H locs cells slots Q (F0 m 0 ls [])) ∧ (∀ (S : sS) (L : Nat → Int32) (M : Nat → Int64) (ls : Array Slot) (H : Heap) (locs : List Loc), f_First_number k9 1 S L M = some (r, S9) → lv_has ls 8 [(0, .ref (ad 4)), (1, .int (L 1)), (2, .int (L 2)), (3, .int (L 3))] → va_P g.1 classes (Sw shC g ad S) H → va_D A (Sw shC g ad S) → va_S A s.heap H locs → W p l e R s m args below meth c H locs cells slots Q (F0 m 43 ls [.int (L 100)])) ∧ (∀ (S : sS) (L : Nat → Int32) (M : Nat → Int64) (ls : Array Slot) (H : Heap) (locs : List Loc), f_First_number k9 2 S L M = some (r, S9) → lv_has ls 8 [(0, .ref (ad 4)), (1, .int (L 1)), (2, .int (L 2)), (3, .int (L 3)), (4, .int (L 4))] → va_P g.1 classes (Sw shC g ad S) H → va_D A (Sw shC g ad S) → va_S A s.heap H locs → W p l e R s m args below meth c H locs cells slots Q (F0 m 57 ls [.int (L 100)])) ∧ (∀ (S : sS) (L : Nat → Int32) (M : Nat → Int64) (ls : Array Slot) (H : Heap) (locs : List Loc), f_First_number k9 3 S L M = some (r, S9) → lv_has ls 8 [(0, .ref (ad 4)), (1, .int (L 1)), (2, .int (L 2)), (3, .int (L 3)), (4, .int (L 4)), (5, .int (L 5))] → va_P g.1 classes (Sw shC g ad S) H → va_D A (Sw shC g ad S) → va_S A s.heap H locs → W p l e R s m args below meth c H locs cells slots Q (F0 m 72 ls [])) ∧ (∀ (S : sS) (L : Nat → Int32) (M : Nat → Int64) (ls : Array Slot) (H : Heap) (locs : List Loc), f_First_number k9 4 S L M = some (r, S9) → lv_has ls 8 [(0, .ref (ad 4)), (1, .int (L 1)), (2, .int (L 2)), (3, .int (L 3)), (4, .int (L 4)), (5, .int (L 5)), (6, .int (L 6)), (7, .int (L 7))] → va_P g.1 classes (Sw shC g ad S) H → va_D A (Sw shC g ad S) → va_S A s.heap H locs → W p l e R s m args below meth c H locs cells slots Q (F0 m 91 ls [])) ∧ (∀ (S : sS) (L : Nat → Int32) (M : Nat → Int64) (ls : Array Slot) (H : Heap) (locs : List Loc), f_First_number k9 5 S L M = some (r, S9) → lv_has ls 8 [(0, .ref (ad 4)), (1, .int (L 1)), (2, .int (L 2)), (3, .int (L 3)), (4, .int (L 4)), (5, .int (L 5)), (6, .int (L 6)), (7, .int (L 7))] → va_P g.1 classes (Sw shC g ad S) H → va_D A (Sw shC g ad S) → va_S A s.heap H locs → W p l e R s m args below meth c H locs cells slots Q (F0 m 163 ls [.int (L 100)])) := by
  intro k9
  induction k9 with
  | zero => exact ⟨(fun _ _ _ _ _ _ h => by simp [f_First_number] at h), (fun _ _ _ _ _ _ h => by simp [f_First_number] at h), (fun _ _ _ _ _ _ h => by simp [f_First_number] at h), (fun _ _ _ _ _ _ h => by simp [f_First_number] at h), (fun _ _ _ _ _ _ h => by simp [f_First_number] at h), (fun _ _ _ _ _ _ h => by simp [f_First_number] at h)⟩
  | succ k9 ih =>
    refine ⟨?_, ?_, ?_, ?_, ?_, ?_⟩
    · intro S L M ls H locs h hl hP hD hS
      simp only [f_First_number] at h
      refine lv_aload_n hx hb d_First_number_0 rfl (lv_at hl 0 rfl) ?_
      refine S_getR (h := shC) (C := "MacroMill$First") (T := F_First) hx hb htt in_First hown hK hP 4 3 rfl 6 rfl rfl (by decide) (htt _ k_573) (fun _ h9 => h9) d_First_number_1 ?_
      refine lv_iload_n hx hb d_First_number_4 rfl (lv_at hl 1 rfl) ?_
      obtain ⟨⟨r1, T1⟩, hq1, h⟩ := Option.bind_eq_some_iff.mp h
      try dsimp only at h
      refine go_iS (As := [.ref (ad 6), .int (L 1)]) (g := g) (A := A) (h := shC) hP hK hD hS hA hN (fun hp => va_runV (As := [.int (L 1)]) (rest := []) ⟨hx, hb, hml, hown, htt⟩ (t_Calls_argumentFrom l g _ ad S (L 1 : Int32) k9 r1 T1 hq1) ⟨(cb_L htt k_1316 k_267 k_1313 hd_Calls_argumentFrom ⟨(Nat.le_trans (by decide +kernel) hRf), (Nat.le_trans (by decide +kernel) hRl)⟩), htt _ k_1314, htt _ k_1315⟩ ⟨hp.1, S_recv hK hP 6 rfl rfl, hp.2⟩ rfl rfl hl.1 rfl (lv_room (Nat.le_of_ble_eq_true rfl)) d_First_number_5 ⟨hRc, hRs⟩) (fun r0 Sn H locs hw9 hP hD hS => ?_)
      obtain ⟨e9, e8⟩ := hw9
      rw [e8] at hP hD
      refine W.widen (k := cells) (n := slots) (Nat.le_refl _) (Nat.le_refl _) ?_
      refine toI (y := r1) e9 ?_
      refine lv_istore_n (lv' := [(2, .int r1), (0, .ref (ad 4)), (1, .int (L 1))]) hx hb d_First_number_8 rfl hl (by decide) rfl (fun ls hl => ?_)
      refine lv_aload_n hx hb d_First_number_9 rfl (lv_at hl 1 rfl) ?_
      refine S_getR (h := shC) (C := "MacroMill$First") (T := F_First) hx hb htt in_First hown hK hP 4 3 rfl 6 rfl rfl (by decide) (htt _ k_573) (fun _ h9 => h9) d_First_number_10 ?_
      refine lv_iload_n hx hb d_First_number_13 rfl (lv_at hl 2 rfl) ?_
      obtain ⟨⟨r2, T2⟩, hq2, h⟩ := Option.bind_eq_some_iff.mp h
      try dsimp only at h
      refine go_iS (As := [.ref (ad 6), .int (L 1)]) (g := g) (A := A) (h := shC) hP hK hD hS hA hN (fun hp => va_runV (As := [.int (L 1)]) (rest := []) ⟨hx, hb, hml, hown, htt⟩ (t_Calls_argumentSize l g _ ad T1 (L 1 : Int32) k9 r2 T2 hq2) ⟨(cb_L htt k_1320 k_267 k_1317 hd_Calls_argumentSize ⟨(Nat.le_trans (by decide +kernel) hRf), (Nat.le_trans (by decide +kernel) hRl)⟩), htt _ k_1318, htt _ k_1319⟩ ⟨hp.1, S_recv hK hP 6 rfl rfl, hp.2⟩ rfl rfl hl.1 rfl (lv_room (Nat.le_of_ble_eq_true rfl)) d_First_number_14 ⟨hRc, hRs⟩) (fun r0 Sn H locs hw9 hP hD hS => ?_)
      obtain ⟨e9, e8⟩ := hw9
      rw [e8] at hP hD
      refine W.widen (k := cells) (n := slots) (Nat.le_refl _) (Nat.le_refl _) ?_
      refine toI (y := r2) e9 ?_
      refine lv_istore_n (lv' := [(3, .int r2), (2, .int r1), (0, .ref (ad 4)), (1, .int (L 1))]) hx hb d_First_number_17 rfl hl (by decide) rfl (fun ls hl => ?_)
      refine lv_iload_n hx hb d_First_number_18 rfl (lv_at hl 0 rfl) ?_
      refine lv_if_ne (tgt := 24) hx hb d_First_number_19 (by decide) (fun hc3 => ?_) (fun hc3 => ?_)
      · rw [if_neg hc3] at h
        refine lv_aload_n hx hb d_First_number_24 rfl (lv_at hl 2 rfl) ?_
        refine S_getR (h := shC) (C := "MacroMill$First") (T := F_First) hx hb htt in_First hown hK hP 4 3 rfl 6 rfl rfl (by decide) (htt _ k_573) (fun _ h9 => h9) d_First_number_25 ?_
        show W _ _ _ _ _ _ _ _ _ _ _ _ _ _ _ (F0 _ 28 _ _)
        refine S_getR (h := shC) (C := "MacroMill$Calls") (T := F_Calls) hx hb htt in_Calls hown hK hP 6 0 rfl 31 rfl rfl (by decide) (htt _ k_446) (fun _ h9 => h9) d_First_number_28 ?_
        refine lv_iload_n hx hb d_First_number_31 rfl (lv_at hl 1 rfl) ?_
        obtain ⟨hv4, h⟩ := chk h
        refine S_bald (h := shC) (i := r1) hx hb hK hP 18 rfl (okI_in hv4) d_First_number_32 ?_
        refine lv_bipush (v := 45) hx hb d_First_number_33 (by decide) ?_
        refine lv_icmp_ne (tgt := 42) hx hb d_First_number_35 (by decide) (fun hc5 => ?_) (fun hc5 => ?_)
        · rw [if_neg hc5] at h
          refine lv_iconst (v := 0) hx hb d_First_number_42 (by decide) ?_
          exact (ih.2.1) T2 (upd (upd (upd L 2 r1) 3 r2) 100 (0 : Int32)) M ls H locs h (lv_sub hl [2, 3, 1, 0] rfl) hP hD hS
        · rw [if_pos hc5] at h
          refine lv_iconst (v := 1) hx hb d_First_number_38 (by decide) ?_
          refine lv_goto (tgt := 43) hx hb d_First_number_39 (by decide) ?_
          exact (ih.2.1) T2 (upd (upd (upd L 2 r1) 3 r2) 100 (1 : Int32)) M ls H locs h (lv_sub hl [2, 3, 1, 0] rfl) hP hD hS
      · rw [if_pos hc3] at h
        refine lv_iconst (v := 0) hx hb d_First_number_22 (by decide) ?_
        cases h
        exact kx_23 ls H locs hP hD hS
    · intro S L M ls H locs h hl hP hD hS
      simp only [f_First_number] at h
      refine lv_istore (lv' := [(4, .int (L 100)), (0, .ref (ad 4)), (1, .int (L 1)), (2, .int (L 2)), (3, .int (L 3))]) hx hb d_First_number_43 hl (by decide) rfl (fun ls hl => ?_)
      refine lv_iload hx hb d_First_number_45 (lv_at hl 0 rfl) ?_
      refine lv_if_eq (tgt := 56) hx hb d_First_number_47 (by decide) (fun hc1 => ?_) (fun hc1 => ?_)
      · rw [if_pos hc1] at h
        refine lv_iload_n hx hb d_First_number_56 rfl (lv_at hl 4 rfl) ?_
        exact (ih.2.2.1) S (upd (upd L 4 (L 100)) 100 (L 3)) M ls H locs h (lv_sub hl [1, 2, 3, 4, 0] rfl) hP hD hS
      · rw [if_neg hc1] at h
        refine lv_iload_n hx hb d_First_number_50 rfl (lv_at hl 4 rfl) ?_
        refine lv_iconst (v := 1) hx hb d_First_number_51 (by decide) ?_
        refine lv_isub hx hb d_First_number_52 ?_
        refine lv_goto (tgt := 57) hx hb d_First_number_53 (by decide) ?_
        exact (ih.2.2.1) S (upd (upd L 4 (L 100)) 100 ((L 3) - (1 : Int32))) M ls H locs h (lv_sub hl [1, 2, 3, 4, 0] rfl) hP hD hS
    · intro S L M ls H locs h hl hP hD hS
      simp only [f_First_number] at h
      refine lv_istore (lv' := [(5, .int (L 100)), (0, .ref (ad 4)), (1, .int (L 1)), (2, .int (L 2)), (3, .int (L 3)), (4, .int (L 4))]) hx hb d_First_number_57 hl (by decide) rfl (fun ls hl => ?_)
      refine lv_iload hx hb d_First_number_59 (lv_at hl 0 rfl) ?_
      refine lv_iconst (v := 1) hx hb d_First_number_61 (by decide) ?_
      refine lv_icmp_lt (tgt := 72) hx hb d_First_number_62 (by decide) (fun hc1 => ?_) (fun hc1 => ?_)
      · rw [if_pos hc1] at h
        exact (ih.2.2.2.1) S (upd L 5 (L 100)) M ls H locs h (lv_sub hl [1, 2, 3, 4, 5, 0] rfl) hP hD hS
      · rw [if_neg hc1] at h
        refine lv_iload hx hb d_First_number_65 (lv_at hl 0 rfl) ?_
        refine lv_bipush (v := 9) hx hb d_First_number_67 (by decide) ?_
        refine lv_icmp_le (tgt := 80) hx hb d_First_number_69 (by decide) (fun hc2 => ?_) (fun hc2 => ?_)
        · rw [if_pos hc2] at h
          refine lv_iconst (v := 0) hx hb d_First_number_80 (by decide) ?_
          refine lv_istore (lv' := [(6, .int 0), (5, .int (L 100)), (0, .ref (ad 4)), (1, .int (L 1)), (2, .int (L 2)), (3, .int (L 3)), (4, .int (L 4))]) hx hb d_First_number_81 hl (by decide) rfl (fun ls hl => ?_)
          refine lv_iload_n hx hb d_First_number_83 rfl (lv_at hl 4 rfl) ?_
          refine lv_iload_n hx hb d_First_number_84 rfl (lv_at hl 5 rfl) ?_
          refine lv_iadd hx hb d_First_number_85 ?_
          refine lv_iload hx hb d_First_number_86 (lv_at hl 1 rfl) ?_
          show W _ _ _ _ _ _ _ _ _ _ _ _ _ _ _ (F0 _ 88 _ _)
          refine lv_isub hx hb d_First_number_88 ?_
          refine lv_istore (lv' := [(7, .int (((L 2) + (L 3)) - (L 100))), (6, .int 0), (5, .int (L 100)), (0, .ref (ad 4)), (1, .int (L 1)), (2, .int (L 2)), (3, .int (L 3)), (4, .int (L 4))]) hx hb d_First_number_89 hl (by decide) rfl (fun ls hl => ?_)
          exact (ih.2.2.2.2.1) S (upd (upd (upd L 5 (L 100)) 6 (0 : Int32)) 7 (((L 2) + (L 3)) - (L 100))) M ls H locs h (lv_sub hl [3, 4, 5, 6, 7, 2, 1, 0] rfl) hP hD hS
        · rw [if_neg hc2] at h
          exact (ih.2.2.2.1) S (upd L 5 (L 100)) M ls H locs h (lv_sub hl [1, 2, 3, 4, 5, 0] rfl) hP hD hS
    · intro S L M ls H locs h hl hP hD hS
      simp only [f_First_number] at h
      refine lv_aload_n hx hb d_First_number_72 rfl (lv_at hl 0 rfl) ?_
      refine lv_bipush (v := 36) hx hb d_First_number_73 (by decide) ?_
      obtain ⟨⟨r1, T1⟩, hq1, h⟩ := Option.bind_eq_some_iff.mp h
      try dsimp only at h
      refine go_vS (As := [.ref (ad 4), .int 36]) (g := g) (A := A) (h := shC) hP hK hD hS hA hN (fun hp => va_runV (As := [.int 36]) (rest := []) ⟨hx, hb, hml, hown, htt⟩ (t_First_fail l g _ ad S (36 : Int32) k9 r1 T1 hq1) ⟨(cb_L htt k_1189 k_266 k_1186 hd_First_fail ⟨(Nat.le_trans (by decide +kernel) hRf), (Nat.le_trans (by decide +kernel) hRl)⟩), htt _ k_1188, htt _ k_10⟩ ⟨hp.1, S_recv hK hP 4 rfl rfl, hp.2⟩ rfl rfl hl.1 rfl (lv_room (Nat.le_of_ble_eq_true rfl)) d_First_number_75 ⟨hRc, hRs⟩) (fun Sn H locs hw9 hP hD hS => ?_)
      have e8 := hw9
      rw [e8] at hP hD
      refine W.widen (k := cells) (n := slots) (Nat.le_refl _) (Nat.le_refl _) ?_
      refine lv_iconst (v := 0) hx hb d_First_number_78 (by decide) ?_
      cases h
      exact kx_79 ls H locs hP hD hS
    · intro S L M ls H locs h hl hP hD hS
      simp only [f_First_number] at h
      refine lv_iload hx hb d_First_number_91 (lv_at hl 7 rfl) ?_
      refine lv_iload_n hx hb d_First_number_93 rfl (lv_at hl 2 rfl) ?_
      refine lv_iload_n hx hb d_First_number_94 rfl (lv_at hl 3 rfl) ?_
      refine lv_iadd hx hb d_First_number_95 ?_
      refine lv_icmp_ge (tgt := 150) hx hb d_First_number_96 (by decide) (fun hc1 => ?_) (fun hc1 => ?_)
      · rw [if_pos hc1] at h
        refine lv_iload hx hb d_First_number_150 (lv_at hl 4 rfl) ?_
        refine lv_if_eq (tgt := 161) hx hb d_First_number_152 (by decide) (fun hc2 => ?_) (fun hc2 => ?_)
        · rw [if_pos hc2] at h
          refine lv_iload hx hb d_First_number_161 (lv_at hl 6 rfl) ?_
          exact (ih.2.2.2.2.2) S (upd L 100 (L 6)) M ls H locs h (lv_sub hl [0, 1, 2, 3, 4, 5, 6, 7] rfl) hP hD hS
        · rw [if_neg hc2] at h
          refine lv_iload hx hb d_First_number_155 (lv_at hl 6 rfl) ?_
          refine lv_ineg hx hb d_First_number_157 ?_
          refine lv_goto (tgt := 163) hx hb d_First_number_158 (by decide) ?_
          exact (ih.2.2.2.2.2) S (upd L 100 (-(L 6))) M ls H locs h (lv_sub hl [0, 1, 2, 3, 4, 5, 6, 7] rfl) hP hD hS
      · rw [if_neg hc1] at h
        refine lv_aload_n hx hb d_First_number_99 rfl (lv_at hl 0 rfl) ?_
        refine S_getR (h := shC) (C := "MacroMill$First") (T := F_First) hx hb htt in_First hown hK hP 4 3 rfl 6 rfl rfl (by decide) (htt _ k_573) (fun _ h9 => h9) d_First_number_100 ?_
        refine S_getR (h := shC) (C := "MacroMill$Calls") (T := F_Calls) hx hb htt in_Calls hown hK hP 6 0 rfl 31 rfl rfl (by decide) (htt _ k_446) (fun _ h9 => h9) d_First_number_103 ?_
        refine lv_iload hx hb d_First_number_106 (lv_at hl 7 rfl) ?_
        obtain ⟨hv3, h⟩ := chk h
        refine S_bald (h := shC) (i := L 7) hx hb hK hP 18 rfl (okI_in hv3) d_First_number_108 ?_
        obtain ⟨⟨r4, T4⟩, hq4, h⟩ := Option.bind_eq_some_iff.mp h
        try dsimp only at h
        refine go_iS (As := [.int (S.2.1 18 (L 7 : Int32).toNatClampNeg)]) (g := g) (A := A) (h := shC) hP hK hD hS hA hN (fun hp => va_runSN (As := [.int (S.2.1 18 (L 7 : Int32).toNatClampNeg)]) (rest := []) ⟨hx, hb, hml, hown, htt⟩ (t_MM_isDigit l g _ ad S (S.2.1 18 (L 7 : Int32).toNatClampNeg : Int32) k9 r4 T4 hq4) ⟨(cb_N (host := "MacroMill") htt k_1177 k_262 hN nM_12 hd_MM_isDigit ⟨(Nat.le_trans (by decide +kernel) hRf), (Nat.le_trans (by decide +kernel) hRl)⟩), htt _ k_1176, trivial⟩ hp rfl rfl hl.1 rfl (lv_room (Nat.le_of_ble_eq_true rfl)) d_First_number_109 ⟨hRc, hRs⟩) (fun r0 Sn H locs hw9 hP hD hS => ?_)
        obtain ⟨e9, e8⟩ := hw9
        rw [e8] at hP hD
        refine W.widen (k := cells) (n := slots) (Nat.le_refl _) (Nat.le_refl _) ?_
        refine toI (y := r4) e9 ?_
        refine lv_if_ne (tgt := 123) hx hb d_First_number_112 (by decide) (fun hc5 => ?_) (fun hc5 => ?_)
        · rw [if_neg hc5] at h
          refine lv_iload hx hb d_First_number_123 (lv_at hl 6 rfl) ?_
          refine lv_bipush (v := 10) hx hb d_First_number_125 (by decide) ?_
          show W _ _ _ _ _ _ _ _ _ _ _ _ _ _ _ (F0 _ 127 _ _)
          refine lv_imul hx hb d_First_number_127 ?_
          refine lv_aload_n hx hb d_First_number_128 rfl (lv_at hl 0 rfl) ?_
          refine S_getR (h := shC) (C := "MacroMill$First") (T := F_First) hx hb htt in_First hown hK hP 4 3 rfl 6 rfl rfl (by decide) (htt _ k_573) (fun _ h9 => h9) d_First_number_129 ?_
          refine S_getR (h := shC) (C := "MacroMill$Calls") (T := F_Calls) hx hb htt in_Calls hown hK hP 6 0 rfl 31 rfl rfl (by decide) (htt _ k_446) (fun _ h9 => h9) d_First_number_132 ?_
          refine lv_iload hx hb d_First_number_135 (lv_at hl 7 rfl) ?_
          obtain ⟨hv6, h⟩ := chk h
          refine S_bald (h := shC) (i := L 7) hx hb hK hP 18 rfl (okI_in hv6) d_First_number_137 ?_
          refine lv_iadd hx hb d_First_number_138 ?_
          refine lv_bipush (v := 48) hx hb d_First_number_139 (by decide) ?_
          refine lv_isub hx hb d_First_number_141 ?_
          refine lv_istore (lv' := [(6, .int ((((L 6) * (10 : Int32)) + (T4.2.1 18 (L 7 : Int32).toNatClampNeg)) - (48 : Int32))), (0, .ref (ad 4)), (1, .int (L 1)), (2, .int (L 2)), (3, .int (L 3)), (4, .int (L 4)), (5, .int (L 5)), (7, .int (L 7))]) hx hb d_First_number_142 hl (by decide) rfl (fun ls hl => ?_)
          refine lv_iinc (k := 7) (v := (L 7) + 1) (lv' := [(7, .int ((L 7) + 1)), (6, .int ((((L 6) * (10 : Int32)) + (T4.2.1 18 (L 7 : Int32).toNatClampNeg)) - (48 : Int32))), (0, .ref (ad 4)), (1, .int (L 1)), (2, .int (L 2)), (3, .int (L 3)), (4, .int (L 4)), (5, .int (L 5))]) hx hb d_First_number_144 hl rfl rfl (by decide) rfl (fun ls hl => ?_)
          refine lv_goto (tgt := 91) hx hb d_First_number_147 (by decide) ?_
          exact (ih.2.2.2.2.1) T4 (upd (upd L 6 ((((L 6) * (10 : Int32)) + (T4.2.1 18 (L 7 : Int32).toNatClampNeg)) - (48 : Int32))) 7 ((L 7) + 1)) M ls H locs h (lv_sub hl [2, 3, 4, 5, 6, 7, 1, 0] rfl) hP hD hS
        · rw [if_pos hc5] at h
          refine lv_aload_n hx hb d_First_number_115 rfl (lv_at hl 0 rfl) ?_
          refine lv_bipush (v := 36) hx hb d_First_number_116 (by decide) ?_
          obtain ⟨⟨r7, T7⟩, hq7, h⟩ := Option.bind_eq_some_iff.mp h
          try dsimp only at h
          refine go_vS (As := [.ref (ad 4), .int 36]) (g := g) (A := A) (h := shC) hP hK hD hS hA hN (fun hp => va_runV (As := [.int 36]) (rest := []) ⟨hx, hb, hml, hown, htt⟩ (t_First_fail l g _ ad T4 (36 : Int32) k9 r7 T7 hq7) ⟨(cb_L htt k_1189 k_266 k_1186 hd_First_fail ⟨(Nat.le_trans (by decide +kernel) hRf), (Nat.le_trans (by decide +kernel) hRl)⟩), htt _ k_1188, htt _ k_10⟩ ⟨hp.1, S_recv hK hP 4 rfl rfl, hp.2⟩ rfl rfl hl.1 rfl (lv_room (Nat.le_of_ble_eq_true rfl)) d_First_number_118 ⟨hRc, hRs⟩) (fun Sn H locs hw9 hP hD hS => ?_)
          have e8 := hw9
          rw [e8] at hP hD
          refine W.widen (k := cells) (n := slots) (Nat.le_refl _) (Nat.le_refl _) ?_
          show W _ _ _ _ _ _ _ _ _ _ _ _ _ _ _ (F0 _ 121 _ _)
          refine lv_iconst (v := 0) hx hb d_First_number_121 (by decide) ?_
          cases h
          exact kx_122 ls H locs hP hD hS
    · intro S L M ls H locs h hl hP hD hS
      simp only [f_First_number] at h
      cases h
      exact kx_163 ls H locs hP hD hS
abbrev rm_t_First_number : Room := { frames := 2, cells := 0, slots := 0, locals := 43 }
theorem t_First_number (l : Launch) (g : gG) (sz : Nat) (ad : Nat → Nat) (S : sS) (v1 : Int32) (k : Nat) (r : Int32) (S9 : sS) (h : f_First_number k 0 S (upd (fun _ => 0) 1 v1) (fun _ => 0) = some (r, S9)) : Ci l y_First_number b_First_number 8 rm_t_First_number g [.ref (ad 4), .int v1] (Sw shC g ad S) sz (fun r1 w => ∃ S1 : sS, w = Sw shC g ad S1 ∧ r1 = r ∧ S1 = S9) := by
  refine startI (by decide) (Nat.le_of_ble_eq_true rfl) ?_
  intro p e s m below meth c A ls hx hb hr hml hlocks hmn hown htt hN hA hP hK hD hS hl
  exact (w_First_number hx hb hml hown htt hK hN hA (by decide +kernel) (by decide +kernel) (by decide +kernel) (by decide +kernel) r S9 (fun ls H locs hP hD hS => fin_i (g := g) (ws := Sw shC g ad S9) hx hb hr hlocks (by decide +kernel) (by decide +kernel) hP hD hS ⟨_, rfl, rfl, rfl⟩ d_First_number_23) (fun ls H locs hP hD hS => fin_i (g := g) (ws := Sw shC g ad S9) hx hb hr hlocks (by decide +kernel) (by decide +kernel) hP hD hS ⟨_, rfl, rfl, rfl⟩ d_First_number_79) (fun ls H locs hP hD hS => fin_i (g := g) (ws := Sw shC g ad S9) hx hb hr hlocks (by decide +kernel) (by decide +kernel) hP hD hS ⟨_, rfl, rfl, rfl⟩ d_First_number_122) (fun ls H locs hP hD hS => fin_i (g := g) (ws := Sw shC g ad S9) hx hb hr hlocks (by decide +kernel) (by decide +kernel) hP hD hS ⟨_, rfl, rfl, rfl⟩ d_First_number_163) k).1 S (upd (fun _ => 0) 1 v1) (fun _ => 0) ls _ _ h hl hP hD hS
def f_First_takeNumber : Nat → Nat → sS → (Nat → Int32) → (Nat → Int64) → Option (Int32 × sS)
  | 0, _, _, _, _ => none
  | k + 1, 0, S, L, M => f_First_takeNumber k 1 S (upd L 3 (L 1)) (vp_updL M 4 (0 : Int64))
  | k + 1, 1, S, L, M => if (L 2) ≤ (L 3) then (f_First_takeNumber k 2 S L M) else (if okI (L 3) 16384 = true then ((f_MM_isDigit k 0 S (upd (fun _ => 0) 0 (S.2.1 18 (L 3 : Int32).toNatClampNeg : Int32)) (fun _ => 0)).bind (fun (r3, T3) => if r3 = (0 : Int32) then (f_First_takeNumber k 2 T3 L M) else (if okI (L 3) 16384 = true then (f_First_takeNumber k 1 T3 (upd L 3 ((L 3) + 1)) (vp_updL M 4 ((((M 4) * (10 : Int64)) + ((T3.2.1 18 (L 3 : Int32).toNatClampNeg).toInt64)) - (48 : Int64)))) else none))) else none)
  | k + 1, 2, S, L, M => if ((L 3) - (L 1)) ≤ (9 : Int32) then (f_First_takeNumber k 3 S L M) else ((f_Reckoner_spoil k 0 S (fun _ => 0) (fun _ => 0)).bind (fun (r2, T2) => f_First_takeNumber k 3 T2 L M))
  | k + 1, 3, S, L, M => (f_Reckoner_takeNumber k 0 S (upd (fun _ => 0) 3 (0 : Int32)) (vp_updL (fun _ => 0) 1 (M 4 : Int64))).bind (fun (r1, T1) => some (L 3, T1))
  | _ + 1, _ + 4, _, _, _ => none
set_option maxHeartbeats 8000000 in
set_option maxRecDepth 100000 in
theorem w_First_takeNumber {p : Program} {l : Launch} {e : Env} {R : Room} {s : State} {m : MethodId} {args : Array Value} {below : List Frame} {meth : Method} {c : Code} {cells slots : Nat} {Q : State → Prop} {g : gG} {A : Nat → Prop} {ad : Nat → Nat} (hx : p.tables.exec = Jvm.exec) (hb : c.code = b_First_takeNumber) (hml : c.maxLocals = 6) (hown : s.vm.findClass "MacroMill$First" = some m.cls) (htt : ∀ w ∈ gt, w.before args s = true) (hK : va_K g.1 classes (tysG g) s) (hN : nw s) (hA : ∀ q : Nat, s.heap.size ≤ q → A q) (hRf : 3 ≤ R.frames) (hRl : 67 ≤ R.locals) (hRc : cells ≤ R.cells) (hRs : slots ≤ R.slots) (r : Int32) (S9 : sS)
    (kx_80 : ∀ (ls : Array Slot) (H : Heap) (locs : List Loc), va_P g.1 classes (Sw shC g ad S9) H → va_D A (Sw shC g ad S9) → va_S A s.heap H locs → W p l e R s m args below meth c H locs cells slots Q (F0 m 80 ls [.int r])) :
    ∀ k9 : Nat, (∀ (S : sS) (L : Nat → Int32) (M : Nat → Int64) (ls : Array Slot) (H : Heap) (locs : List Loc), f_First_takeNumber k9 0 S L M = some (r, S9) → lv_has ls 6 [(0, .ref (ad 4)), (1, .int (L 1)), (2, .int (L 2))] → va_P g.1 classes (Sw shC g ad S) H → va_D A (Sw shC g ad S) → va_S A s.heap H locs → W p l e R s m args below meth c H locs cells slots Q (F0 m 0 ls [])) ∧ (∀ (S : sS) (L : Nat → Int32) (M : Nat → Int64) (ls : Array Slot) (H : Heap) (locs : List Loc), f_First_takeNumber k9 1 S L M = some (r, S9) → lv_has ls 6 [(0, .ref (ad 4)), (1, .int (L 1)), (2, .int (L 2)), (3, .int (L 3)), (4, .long (M 4))] → va_P g.1 classes (Sw shC g ad S) H → va_D A (Sw shC g ad S) → va_S A s.heap H locs → W p l e R s m args below meth c H locs cells slots Q (F0 m 5 ls [])) ∧ (∀ (S : sS) (L : Nat → Int32) (M : Nat → Int64) (ls : Array Slot) (H : Heap) (locs : List Loc), f_First_takeNumber k9 2 S L M = some (r, S9) → lv_has ls 6 [(0, .ref (ad 4)), (1, .int (L 1)), (2, .int (L 2)), (3, .int (L 3)), (4, .long (M 4))] → va_P g.1 classes (Sw shC g ad S) H → va_D A (Sw shC g ad S) → va_S A s.heap H locs → W p l e R s m args below meth c H locs cells slots Q (F0 m 54 ls [])) ∧ (∀ (S : sS) (L : Nat → Int32) (M : Nat → Int64) (ls : Array Slot) (H : Heap) (locs : List Loc), f_First_takeNumber k9 3 S L M = some (r, S9) → lv_has ls 6 [(0, .ref (ad 4)), (1, .int (L 1)), (2, .int (L 2)), (3, .int (L 3)), (4, .long (M 4))] → va_P g.1 classes (Sw shC g ad S) H → va_D A (Sw shC g ad S) → va_S A s.heap H locs → W p l e R s m args below meth c H locs cells slots Q (F0 m 69 ls [])) := by
  intro k9
  induction k9 with
  | zero => exact ⟨(fun _ _ _ _ _ _ h => by simp [f_First_takeNumber] at h), (fun _ _ _ _ _ _ h => by simp [f_First_takeNumber] at h), (fun _ _ _ _ _ _ h => by simp [f_First_takeNumber] at h), (fun _ _ _ _ _ _ h => by simp [f_First_takeNumber] at h)⟩
  | succ k9 ih =>
    refine ⟨?_, ?_, ?_, ?_⟩
    · intro S L M ls H locs h hl hP hD hS
      simp only [f_First_takeNumber] at h
      refine lv_iload_n hx hb d_First_takeNumber_0 rfl (lv_at hl 1 rfl) ?_
      refine lv_istore_n (lv' := [(3, .int (L 1)), (0, .ref (ad 4)), (1, .int (L 1)), (2, .int (L 2))]) hx hb d_First_takeNumber_1 rfl hl (by decide) rfl (fun ls hl => ?_)
      refine lv_lconst (v := 0) hx hb d_First_takeNumber_2 (by decide) ?_
      refine lv_lstore (lv' := [(4, .long 0), (3, .int (L 1)), (0, .ref (ad 4)), (1, .int (L 1)), (2, .int (L 2))]) hx hb d_First_takeNumber_3 hl (by decide) rfl (fun ls hl => ?_)
      exact (ih.2.1) S (upd L 3 (L 1)) (vp_updL M 4 (0 : Int64)) ls H locs h (lv_sub hl [2, 3, 4, 1, 0] rfl) hP hD hS
    · intro S L M ls H locs h hl hP hD hS
      simp only [f_First_takeNumber] at h
      refine lv_iload_n hx hb d_First_takeNumber_5 rfl (lv_at hl 3 rfl) ?_
      refine lv_iload_n hx hb d_First_takeNumber_6 rfl (lv_at hl 2 rfl) ?_
      refine lv_icmp_ge (tgt := 54) hx hb d_First_takeNumber_7 (by decide) (fun hc1 => ?_) (fun hc1 => ?_)
      · rw [if_pos hc1] at h
        exact (ih.2.2.1) S L M ls H locs h (lv_sub hl [0, 1, 2, 3, 4] rfl) hP hD hS
      · rw [if_neg hc1] at h
        refine lv_aload_n hx hb d_First_takeNumber_10 rfl (lv_at hl 0 rfl) ?_
        refine S_getR (h := shC) (C := "MacroMill$First") (T := F_First) hx hb htt in_First hown hK hP 4 3 rfl 6 rfl rfl (by decide) (htt _ k_573) (fun _ h9 => h9) d_First_takeNumber_11 ?_
        refine S_getR (h := shC) (C := "MacroMill$Calls") (T := F_Calls) hx hb htt in_Calls hown hK hP 6 0 rfl 31 rfl rfl (by decide) (htt _ k_446) (fun _ h9 => h9) d_First_takeNumber_14 ?_
        refine lv_iload_n hx hb d_First_takeNumber_17 rfl (lv_at hl 3 rfl) ?_
        obtain ⟨hv2, h⟩ := chk h
        refine S_bald (h := shC) (i := L 3) hx hb hK hP 18 rfl (okI_in hv2) d_First_takeNumber_18 ?_
        obtain ⟨⟨r3, T3⟩, hq3, h⟩ := Option.bind_eq_some_iff.mp h
        try dsimp only at h
        refine go_iS (As := [.int (S.2.1 18 (L 3 : Int32).toNatClampNeg)]) (g := g) (A := A) (h := shC) hP hK hD hS hA hN (fun hp => va_runSN (As := [.int (S.2.1 18 (L 3 : Int32).toNatClampNeg)]) (rest := []) ⟨hx, hb, hml, hown, htt⟩ (t_MM_isDigit l g _ ad S (S.2.1 18 (L 3 : Int32).toNatClampNeg : Int32) k9 r3 T3 hq3) ⟨(cb_N (host := "MacroMill") htt k_1177 k_262 hN nM_12 hd_MM_isDigit ⟨(Nat.le_trans (by decide +kernel) hRf), (Nat.le_trans (by decide +kernel) hRl)⟩), htt _ k_1176, trivial⟩ hp rfl rfl hl.1 rfl (lv_room (Nat.le_of_ble_eq_true rfl)) d_First_takeNumber_19 ⟨hRc, hRs⟩) (fun r0 Sn H locs hw9 hP hD hS => ?_)
        obtain ⟨e9, e8⟩ := hw9
        rw [e8] at hP hD
        refine W.widen (k := cells) (n := slots) (Nat.le_refl _) (Nat.le_refl _) ?_
        refine toI (y := r3) e9 ?_
        refine lv_if_eq (tgt := 54) hx hb d_First_takeNumber_22 (by decide) (fun hc4 => ?_) (fun hc4 => ?_)
        · rw [if_pos hc4] at h
          exact (ih.2.2.1) T3 L M ls H locs h (lv_sub hl [0, 1, 2, 3, 4] rfl) hP hD hS
        · rw [if_neg hc4] at h
          refine lv_lload hx hb d_First_takeNumber_25 (lv_at hl 4 rfl) ?_
          refine lv_ldc2 (v := 10) hx hb hown (htt _ k_1336) d_First_takeNumber_27 ?_
          refine lv_lmul hx hb d_First_takeNumber_30 ?_
          refine lv_aload_n hx hb d_First_takeNumber_31 rfl (lv_at hl 0 rfl) ?_
          show W _ _ _ _ _ _ _ _ _ _ _ _ _ _ _ (F0 _ 32 _ _)
          refine S_getR (h := shC) (C := "MacroMill$First") (T := F_First) hx hb htt in_First hown hK hP 4 3 rfl 6 rfl rfl (by decide) (htt _ k_573) (fun _ h9 => h9) d_First_takeNumber_32 ?_
          refine S_getR (h := shC) (C := "MacroMill$Calls") (T := F_Calls) hx hb htt in_Calls hown hK hP 6 0 rfl 31 rfl rfl (by decide) (htt _ k_446) (fun _ h9 => h9) d_First_takeNumber_35 ?_
          refine lv_iload_n hx hb d_First_takeNumber_38 rfl (lv_at hl 3 rfl) ?_
          obtain ⟨hv5, h⟩ := chk h
          refine S_bald (h := shC) (i := L 3) hx hb hK hP 18 rfl (okI_in hv5) d_First_takeNumber_39 ?_
          refine lv_i2l (v := (T3.2.1 18 (L 3 : Int32).toNatClampNeg).toInt64) hx hb d_First_takeNumber_40 rfl ?_
          refine lv_ladd hx hb d_First_takeNumber_41 ?_
          refine lv_ldc2 (v := 48) hx hb hown (htt _ k_1335) d_First_takeNumber_42 ?_
          refine lv_lsub hx hb d_First_takeNumber_45 ?_
          refine lv_lstore (lv' := [(4, .long ((((M 4) * (10 : Int64)) + ((T3.2.1 18 (L 3 : Int32).toNatClampNeg).toInt64)) - (48 : Int64))), (0, .ref (ad 4)), (1, .int (L 1)), (2, .int (L 2)), (3, .int (L 3))]) hx hb d_First_takeNumber_46 hl (by decide) rfl (fun ls hl => ?_)
          refine lv_iinc (k := 4) (v := (L 3) + 1) (lv' := [(3, .int ((L 3) + 1)), (4, .long ((((M 4) * (10 : Int64)) + ((T3.2.1 18 (L 3 : Int32).toNatClampNeg).toInt64)) - (48 : Int64))), (0, .ref (ad 4)), (1, .int (L 1)), (2, .int (L 2))]) hx hb d_First_takeNumber_48 hl rfl rfl (by decide) rfl (fun ls hl => ?_)
          refine lv_goto (tgt := 5) hx hb d_First_takeNumber_51 (by decide) ?_
          exact (ih.2.1) T3 (upd L 3 ((L 3) + 1)) (vp_updL M 4 ((((M 4) * (10 : Int64)) + ((T3.2.1 18 (L 3 : Int32).toNatClampNeg).toInt64)) - (48 : Int64))) ls H locs h (lv_sub hl [2, 3, 4, 0, 1] rfl) hP hD hS
    · intro S L M ls H locs h hl hP hD hS
      simp only [f_First_takeNumber] at h
      refine lv_iload_n hx hb d_First_takeNumber_54 rfl (lv_at hl 3 rfl) ?_
      refine lv_iload_n hx hb d_First_takeNumber_55 rfl (lv_at hl 1 rfl) ?_
      refine lv_isub hx hb d_First_takeNumber_56 ?_
      refine lv_bipush (v := 9) hx hb d_First_takeNumber_57 (by decide) ?_
      refine lv_icmp_le (tgt := 69) hx hb d_First_takeNumber_59 (by decide) (fun hc1 => ?_) (fun hc1 => ?_)
      · rw [if_pos hc1] at h
        exact (ih.2.2.2) S L M ls H locs h (lv_sub hl [0, 1, 2, 3, 4] rfl) hP hD hS
      · rw [if_neg hc1] at h
        refine lv_aload_n hx hb d_First_takeNumber_62 rfl (lv_at hl 0 rfl) ?_
        refine S_getR (h := shC) (C := "MacroMill$First") (T := F_First) hx hb htt in_First hown hK hP 4 1 rfl 3 rfl rfl (by decide) (htt _ k_571) (fun _ h9 => h9) d_First_takeNumber_63 ?_
        obtain ⟨⟨r2, T2⟩, hq2, h⟩ := Option.bind_eq_some_iff.mp h
        try dsimp only at h
        refine go_vS (As := [.ref (ad 3)]) (g := g) (A := A) (h := shC) hP hK hD hS hA hN (fun hp => va_runV (As := []) (rest := []) ⟨hx, hb, hml, hown, htt⟩ (t_Reckoner_spoil l g _ ad S k9 r2 T2 hq2) ⟨(cb_L htt k_1365 k_265 k_1362 hd_Reckoner_spoil ⟨(Nat.le_trans (by decide +kernel) hRf), (Nat.le_trans (by decide +kernel) hRl)⟩), htt _ k_1363, htt _ k_1364⟩ ⟨hp.1, S_recv hK hP 3 rfl rfl, hp.2⟩ rfl rfl hl.1 rfl (lv_room (Nat.le_of_ble_eq_true rfl)) d_First_takeNumber_66 ⟨hRc, hRs⟩) (fun Sn H locs hw9 hP hD hS => ?_)
        have e8 := hw9
        rw [e8] at hP hD
        refine W.widen (k := cells) (n := slots) (Nat.le_refl _) (Nat.le_refl _) ?_
        exact (ih.2.2.2) T2 L M ls H locs h (lv_sub hl [0, 1, 2, 3, 4] rfl) hP hD hS
    · intro S L M ls H locs h hl hP hD hS
      simp only [f_First_takeNumber] at h
      refine lv_aload_n hx hb d_First_takeNumber_69 rfl (lv_at hl 0 rfl) ?_
      refine S_getR (h := shC) (C := "MacroMill$First") (T := F_First) hx hb htt in_First hown hK hP 4 1 rfl 3 rfl rfl (by decide) (htt _ k_571) (fun _ h9 => h9) d_First_takeNumber_70 ?_
      refine lv_lload hx hb d_First_takeNumber_73 (lv_at hl 4 rfl) ?_
      refine lv_iconst (v := 0) hx hb d_First_takeNumber_75 (by decide) ?_
      obtain ⟨⟨r1, T1⟩, hq1, h⟩ := Option.bind_eq_some_iff.mp h
      try dsimp only at h
      refine go_vS (As := [.ref (ad 3), .long (M 4), .int 0]) (g := g) (A := A) (h := shC) hP hK hD hS hA hN (fun hp => va_runV (As := [.long (M 4), .int 0]) (rest := []) ⟨hx, hb, hml, hown, htt⟩ (t_Reckoner_takeNumber l g _ ad S (M 4 : Int64) (0 : Int32) k9 r1 T1 hq1) ⟨(cb_L htt k_1369 k_265 k_1366 hd_Reckoner_takeNumber ⟨(Nat.le_trans (by decide +kernel) hRf), (Nat.le_trans (by decide +kernel) hRl)⟩), htt _ k_1367, htt _ k_1368⟩ ⟨hp.1, S_recv hK hP 3 rfl rfl, hp.2⟩ rfl rfl hl.1 rfl (lv_room (Nat.le_of_ble_eq_true rfl)) d_First_takeNumber_76 ⟨hRc, hRs⟩) (fun Sn H locs hw9 hP hD hS => ?_)
      have e8 := hw9
      rw [e8] at hP hD
      refine W.widen (k := cells) (n := slots) (Nat.le_refl _) (Nat.le_refl _) ?_
      refine lv_iload_n hx hb d_First_takeNumber_79 rfl (lv_at hl 3 rfl) ?_
      cases h
      exact kx_80 ls H locs hP hD hS
abbrev rm_t_First_takeNumber : Room := { frames := 3, cells := 0, slots := 0, locals := 67 }
theorem t_First_takeNumber (l : Launch) (g : gG) (sz : Nat) (ad : Nat → Nat) (S : sS) (v1 : Int32) (v2 : Int32) (k : Nat) (r : Int32) (S9 : sS) (h : f_First_takeNumber k 0 S (upd (upd (fun _ => 0) 1 v1) 2 v2) (fun _ => 0) = some (r, S9)) : Ci l y_First_takeNumber b_First_takeNumber 6 rm_t_First_takeNumber g [.ref (ad 4), .int v1, .int v2] (Sw shC g ad S) sz (fun r1 w => ∃ S1 : sS, w = Sw shC g ad S1 ∧ r1 = r ∧ S1 = S9) := by
  refine startI (by decide) (Nat.le_of_ble_eq_true rfl) ?_
  intro p e s m below meth c A ls hx hb hr hml hlocks hmn hown htt hN hA hP hK hD hS hl
  exact (w_First_takeNumber hx hb hml hown htt hK hN hA (by decide +kernel) (by decide +kernel) (by decide +kernel) (by decide +kernel) r S9 (fun ls H locs hP hD hS => fin_i (g := g) (ws := Sw shC g ad S9) hx hb hr hlocks (by decide +kernel) (by decide +kernel) hP hD hS ⟨_, rfl, rfl, rfl⟩ d_First_takeNumber_80) k).1 S (upd (upd (fun _ => 0) 1 v1) 2 v2) (fun _ => 0) ls _ _ h hl hP hD hS
def f_First_divert (x1 : Nat) (nx1 : Nat) : Nat → Nat → sS → (Nat → Int32) → (Nat → Int64) → Option (Int32 × sS)
  | 0, _, _, _, _ => none
  | k + 1, 0, S, L, M => if (S.1 4 14) = ((-1) : Int32) then (some ((0 : Int32), S)) else (if (((S.1 4 13) + (L 3)) - (L 2)) ≤ (32768 : Int32) then (f_First_divert x1 nx1 k 1 S (upd L 4 (L 2)) M) else ((f_First_fail k 0 S (upd (fun _ => 0) 1 (40 : Int32)) (fun _ => 0)).bind (fun (r3, T3) => some ((0 : Int32), T3))))
  | k + 1, 1, S, L, M => if (L 3) ≤ (L 4) then (some ((0 : Int32), S)) else ((f_First_takePlace k 0 S (fun _ => 0) (fun _ => 0)).bind (fun (r2, T2) => if okI (L 4) nx1 = true then (if okI (r2) 32768 = true then (if okI (r2) 32768 = true then ((f_First_join k 0 (putA (putA T2 12 (r2 : Int32).toNatClampNeg (vp_nar .byte (T2.2.1 x1 (L 4 : Int32).toNatClampNeg))) 13 (r2 : Int32).toNatClampNeg (-1)) (upd (upd (upd (fun _ => 0) 1 (T2.1 4 14 : Int32)) 2 (r2 : Int32)) 3 (r2 : Int32)) (fun _ => 0)).bind (fun (r6, T6) => f_First_divert x1 nx1 k 1 T6 (upd L 4 ((L 4) + 1)) M)) else none) else none) else none))
  | _ + 1, _ + 2, _, _, _ => none
set_option maxHeartbeats 8000000 in
set_option maxRecDepth 100000 in
theorem w_First_divert {p : Program} {l : Launch} {e : Env} {R : Room} {s : State} {m : MethodId} {args : Array Value} {below : List Frame} {meth : Method} {c : Code} {cells slots : Nat} {Q : State → Prop} {g : gG} {A : Nat → Prop} {ad : Nat → Nat} (hx : p.tables.exec = Jvm.exec) (hb : c.code = b_First_divert) (hml : c.maxLocals = 6) (hown : s.vm.findClass "MacroMill$First" = some m.cls) (htt : ∀ w ∈ gt, w.before args s = true) (hK : va_K g.1 classes (tysG g) s) (hN : nw s) (hA : ∀ q : Nat, s.heap.size ≤ q → A q) (hRf : 2 ≤ R.frames) (hRl : 43 ≤ R.locals) (hRc : cells ≤ R.cells) (hRs : slots ≤ R.slots) (x1 : Nat) (nx1 : Nat) (hx1 : shC.2[x1]? = some (0, nx1)) (r : Int32) (S9 : sS)
    (kx_8 : ∀ (ls : Array Slot) (H : Heap) (locs : List Loc), va_P g.1 classes (Sw shC g ad S9) H → va_D A (Sw shC g ad S9) → va_S A s.heap H locs → W p l e R s m args below meth c H locs cells slots Q (F0 m 8 ls []))
    (kx_28 : ∀ (ls : Array Slot) (H : Heap) (locs : List Loc), va_P g.1 classes (Sw shC g ad S9) H → va_D A (Sw shC g ad S9) → va_S A s.heap H locs → W p l e R s m args below meth c H locs cells slots Q (F0 m 28 ls []))
    (kx_81 : ∀ (ls : Array Slot) (H : Heap) (locs : List Loc), va_P g.1 classes (Sw shC g ad S9) H → va_D A (Sw shC g ad S9) → va_S A s.heap H locs → W p l e R s m args below meth c H locs cells slots Q (F0 m 81 ls [])) :
    ∀ k9 : Nat, (∀ (S : sS) (L : Nat → Int32) (M : Nat → Int64) (ls : Array Slot) (H : Heap) (locs : List Loc), f_First_divert x1 nx1 k9 0 S L M = some (r, S9) → lv_has ls 6 [(0, .ref (ad 4)), (1, .ref (ad (shC.1.length + x1))), (2, .int (L 2)), (3, .int (L 3))] → va_P g.1 classes (Sw shC g ad S) H → va_D A (Sw shC g ad S) → va_S A s.heap H locs → W p l e R s m args below meth c H locs cells slots Q (F0 m 0 ls [])) ∧ (∀ (S : sS) (L : Nat → Int32) (M : Nat → Int64) (ls : Array Slot) (H : Heap) (locs : List Loc), f_First_divert x1 nx1 k9 1 S L M = some (r, S9) → lv_has ls 6 [(0, .ref (ad 4)), (1, .ref (ad (shC.1.length + x1))), (2, .int (L 2)), (3, .int (L 3)), (4, .int (L 4))] → va_P g.1 classes (Sw shC g ad S) H → va_D A (Sw shC g ad S) → va_S A s.heap H locs → W p l e R s m args below meth c H locs cells slots Q (F0 m 32 ls [])) := by
  intro k9
  induction k9 with
  | zero => exact ⟨(fun _ _ _ _ _ _ h => by simp [f_First_divert] at h), (fun _ _ _ _ _ _ h => by simp [f_First_divert] at h)⟩
  | succ k9 ih =>
    refine ⟨?_, ?_⟩
    · intro S L M ls H locs h hl hP hD hS
      simp only [f_First_divert] at h
      refine lv_aload_n hx hb d_First_divert_0 rfl (lv_at hl 0 rfl) ?_
      refine S_getI (h := shC) (C := "MacroMill$First") (T := F_First) hx hb htt in_First hown hK hP 4 14 rfl rfl rfl (by decide) (htt _ k_584) (fun _ h9 => h9) d_First_divert_1 ?_
      refine lv_iconst (v := (-1)) hx hb d_First_divert_4 (by decide) ?_
      refine lv_icmp_ne (tgt := 9) hx hb d_First_divert_5 (by decide) (fun hc1 => ?_) (fun hc1 => ?_)
      · rw [if_neg hc1] at h
        refine lv_aload_n hx hb d_First_divert_9 rfl (lv_at hl 0 rfl) ?_
        refine S_getI (h := shC) (C := "MacroMill$First") (T := F_First) hx hb htt in_First hown hK hP 4 13 rfl rfl rfl (by decide) (htt _ k_583) (fun _ h9 => h9) d_First_divert_10 ?_
        refine lv_iload_n hx hb d_First_divert_13 rfl (lv_at hl 3 rfl) ?_
        refine lv_iadd hx hb d_First_divert_14 ?_
        refine lv_iload_n hx hb d_First_divert_15 rfl (lv_at hl 2 rfl) ?_
        refine lv_isub hx hb d_First_divert_16 ?_
        refine lv_ldc (v := 32768) hx hb hown (htt _ k_520) d_First_divert_17 ?_
        refine lv_icmp_le (tgt := 29) hx hb d_First_divert_19 (by decide) (fun hc2 => ?_) (fun hc2 => ?_)
        · rw [if_pos hc2] at h
          refine lv_iload_n hx hb d_First_divert_29 rfl (lv_at hl 2 rfl) ?_
          show W _ _ _ _ _ _ _ _ _ _ _ _ _ _ _ (F0 _ 30 _ _)
          refine lv_istore (lv' := [(4, .int (L 2)), (0, .ref (ad 4)), (1, .ref (ad (shC.1.length + x1))), (2, .int (L 2)), (3, .int (L 3))]) hx hb d_First_divert_30 hl (by decide) rfl (fun ls hl => ?_)
          exact (ih.2) S (upd L 4 (L 2)) M ls H locs h (lv_sub hl [1, 2, 3, 4, 0] rfl) hP hD hS
        · rw [if_neg hc2] at h
          refine lv_aload_n hx hb d_First_divert_22 rfl (lv_at hl 0 rfl) ?_
          show W _ _ _ _ _ _ _ _ _ _ _ _ _ _ _ (F0 _ 23 _ _)
          refine lv_bipush (v := 40) hx hb d_First_divert_23 (by decide) ?_
          obtain ⟨⟨r3, T3⟩, hq3, h⟩ := Option.bind_eq_some_iff.mp h
          try dsimp only at h
          refine go_vS (As := [.ref (ad 4), .int 40]) (g := g) (A := A) (h := shC) hP hK hD hS hA hN (fun hp => va_runV (As := [.int 40]) (rest := []) ⟨hx, hb, hml, hown, htt⟩ (t_First_fail l g _ ad S (40 : Int32) k9 r3 T3 hq3) ⟨(cb_L htt k_1189 k_266 k_1186 hd_First_fail ⟨(Nat.le_trans (by decide +kernel) hRf), (Nat.le_trans (by decide +kernel) hRl)⟩), htt _ k_1188, htt _ k_10⟩ ⟨hp.1, S_recv hK hP 4 rfl rfl, hp.2⟩ rfl rfl hl.1 rfl (lv_room (Nat.le_of_ble_eq_true rfl)) d_First_divert_25 ⟨hRc, hRs⟩) (fun Sn H locs hw9 hP hD hS => ?_)
          have e8 := hw9
          rw [e8] at hP hD
          refine W.widen (k := cells) (n := slots) (Nat.le_refl _) (Nat.le_refl _) ?_
          cases h
          exact kx_28 ls H locs hP hD hS
      · rw [if_pos hc1] at h
        cases h
        exact kx_8 ls H locs hP hD hS
    · intro S L M ls H locs h hl hP hD hS
      simp only [f_First_divert] at h
      refine lv_iload hx hb d_First_divert_32 (lv_at hl 4 rfl) ?_
      refine lv_iload_n hx hb d_First_divert_34 rfl (lv_at hl 3 rfl) ?_
      refine lv_icmp_ge (tgt := 81) hx hb d_First_divert_35 (by decide) (fun hc1 => ?_) (fun hc1 => ?_)
      · rw [if_pos hc1] at h
        cases h
        exact kx_81 ls H locs hP hD hS
      · rw [if_neg hc1] at h
        refine lv_aload_n hx hb d_First_divert_38 rfl (lv_at hl 0 rfl) ?_
        obtain ⟨⟨r2, T2⟩, hq2, h⟩ := Option.bind_eq_some_iff.mp h
        try dsimp only at h
        refine go_iS (As := [.ref (ad 4)]) (g := g) (A := A) (h := shC) hP hK hD hS hA hN (fun hp => va_runV (As := []) (rest := []) ⟨hx, hb, hml, hown, htt⟩ (t_First_takePlace l g _ ad S k9 r2 T2 hq2) ⟨(cb_L htt k_1270 k_266 k_1267 hd_First_takePlace ⟨(Nat.le_trans (by decide +kernel) hRf), (Nat.le_trans (by decide +kernel) hRl)⟩), htt _ k_1269, htt _ k_17⟩ ⟨hp.1, S_recv hK hP 4 rfl rfl, hp.2⟩ rfl rfl hl.1 rfl (lv_room (Nat.le_of_ble_eq_true rfl)) d_First_divert_39 ⟨hRc, hRs⟩) (fun r0 Sn H locs hw9 hP hD hS => ?_)
        obtain ⟨e9, e8⟩ := hw9
        rw [e8] at hP hD
        refine W.widen (k := cells) (n := slots) (Nat.le_refl _) (Nat.le_refl _) ?_
        refine toI (y := r2) e9 ?_
        refine lv_istore (lv' := [(5, .int r2), (0, .ref (ad 4)), (1, .ref (ad (shC.1.length + x1))), (2, .int (L 2)), (3, .int (L 3)), (4, .int (L 4))]) hx hb d_First_divert_42 hl (by decide) rfl (fun ls hl => ?_)
        refine lv_aload_n hx hb d_First_divert_44 rfl (lv_at hl 1 rfl) ?_
        refine S_getR (h := shC) (C := "MacroMill$First") (T := F_First) hx hb htt in_First hown hK hP 4 7 rfl 25 rfl rfl (by decide) (htt _ k_577) (fun _ h9 => h9) d_First_divert_45 ?_
        refine lv_iload hx hb d_First_divert_48 (lv_at hl 0 rfl) ?_
        refine lv_aload_n hx hb d_First_divert_50 rfl (lv_at hl 2 rfl) ?_
        refine lv_iload hx hb d_First_divert_51 (lv_at hl 5 rfl) ?_
        obtain ⟨hv3, h⟩ := chk h
        refine S_bald (h := shC) (i := L 4) hx hb hK hP x1 hx1 (okI_in hv3) d_First_divert_53 ?_
        obtain ⟨hv4, h⟩ := chk h
        refine S_bast (h := shC) (i := r2) (v := T2.2.1 x1 (L 4 : Int32).toNatClampNeg) hx hb hK hP hD hS 12 rfl (okI_in hv4) d_First_divert_54 (fun H locs hP hD hS => ?_)
        show W _ _ _ _ _ _ _ _ _ _ _ _ _ _ _ (F0 _ 55 _ _)
        refine lv_aload_n hx hb d_First_divert_55 rfl (lv_at hl 1 rfl) ?_
        refine S_getR (h := shC) (C := "MacroMill$First") (T := F_First) hx hb htt in_First hown hK hP 4 8 rfl 26 rfl rfl (by decide) (htt _ k_578) (fun _ h9 => h9) d_First_divert_56 ?_
        refine lv_iload hx hb d_First_divert_59 (lv_at hl 0 rfl) ?_
        refine lv_iconst (v := (-1)) hx hb d_First_divert_61 (by decide) ?_
        obtain ⟨hv5, h⟩ := chk h
        refine S_iast (h := shC) (i := r2) (v := (-1)) hx hb hK hP hD hS 13 rfl (okI_in hv5) d_First_divert_62 (fun H locs hP hD hS => ?_)
        refine lv_aload_n hx hb d_First_divert_63 rfl (lv_at hl 1 rfl) ?_
        refine lv_aload_n hx hb d_First_divert_64 rfl (lv_at hl 1 rfl) ?_
        refine S_getI (h := shC) (C := "MacroMill$First") (T := F_First) hx hb htt in_First hown hK hP 4 14 rfl rfl rfl (by decide) (htt _ k_584) (fun _ h9 => h9) d_First_divert_65 ?_
        refine toI (y := T2.1 4 14) rfl ?_
        refine lv_iload hx hb d_First_divert_68 (lv_at hl 0 rfl) ?_
        refine lv_iload hx hb d_First_divert_70 (lv_at hl 0 rfl) ?_
        obtain ⟨⟨r6, T6⟩, hq6, h⟩ := Option.bind_eq_some_iff.mp h
        try dsimp only at h
        refine go_vS (As := [.ref (ad 4), .int (T2.1 4 14), .int r2, .int r2]) (g := g) (A := A) (h := shC) hP hK hD hS hA hN (fun hp => va_runV (As := [.int (T2.1 4 14), .int r2, .int r2]) (rest := []) ⟨hx, hb, hml, hown, htt⟩ (t_First_join l g _ ad (putA (putA T2 12 (r2 : Int32).toNatClampNeg (vp_nar .byte (T2.2.1 x1 (L 4 : Int32).toNatClampNeg))) 13 (r2 : Int32).toNatClampNeg (-1)) (T2.1 4 14 : Int32) (r2 : Int32) (r2 : Int32) k9 r6 T6 hq6) ⟨(cb_L htt k_1274 k_266 k_1271 hd_First_join ⟨(Nat.le_trans (by decide +kernel) hRf), (Nat.le_trans (by decide +kernel) hRl)⟩), htt _ k_1273, htt _ k_18⟩ ⟨hp.1, S_recv hK hP 4 rfl rfl, hp.2⟩ rfl rfl hl.1 rfl (lv_room (Nat.le_of_ble_eq_true rfl)) d_First_divert_72 ⟨hRc, hRs⟩) (fun Sn H locs hw9 hP hD hS => ?_)
        have e8 := hw9
        rw [e8] at hP hD
        refine W.widen (k := cells) (n := slots) (Nat.le_refl _) (Nat.le_refl _) ?_
        refine lv_iinc (k := 5) (v := (L 4) + 1) (lv' := [(4, .int ((L 4) + 1)), (5, .int r2), (0, .ref (ad 4)), (1, .ref (ad (shC.1.length + x1))), (2, .int (L 2)), (3, .int (L 3))]) hx hb d_First_divert_75 hl rfl rfl (by decide) rfl (fun ls hl => ?_)
        refine lv_goto (tgt := 32) hx hb d_First_divert_78 (by decide) ?_
        exact (ih.2) T6 (upd L 4 ((L 4) + 1)) M ls H locs h (lv_sub hl [2, 3, 4, 5, 0] rfl) hP hD hS
abbrev rm_t_First_divert : Room := { frames := 2, cells := 0, slots := 0, locals := 43 }
theorem t_First_divert (l : Launch) (g : gG) (sz : Nat) (ad : Nat → Nat) (S : sS) (x1 : Nat) (nx1 : Nat) (v2 : Int32) (v3 : Int32) (hx1 : shC.2[x1]? = some (0, nx1)) (k : Nat) (r : Int32) (S9 : sS) (h : f_First_divert x1 nx1 k 0 S (upd (upd (fun _ => 0) 2 v2) 3 v3) (fun _ => 0) = some (r, S9)) : Cv l y_First_divert b_First_divert 6 rm_t_First_divert g [.ref (ad 4), .ref (ad (shC.1.length + x1)), .int v2, .int v3] (Sw shC g ad S) sz (fun w => ∃ S1 : sS, w = Sw shC g ad S1 ∧ S1 = S9) := by
  refine startV (by decide) (Nat.le_of_ble_eq_true rfl) ?_
  intro p e s m below meth c A ls hx hb hr hml hlocks hmn hown htt hN hA hP hK hD hS hl
  exact (w_First_divert hx hb hml hown htt hK hN hA (by decide +kernel) (by decide +kernel) (by decide +kernel) (by decide +kernel) x1 nx1 hx1 r S9 (fun ls H locs hP hD hS => fin_v (g := g) (ws := Sw shC g ad S9) hx hb hr hlocks (by decide +kernel) (by decide +kernel) hP hD hS ⟨_, rfl, rfl⟩ d_First_divert_8) (fun ls H locs hP hD hS => fin_v (g := g) (ws := Sw shC g ad S9) hx hb hr hlocks (by decide +kernel) (by decide +kernel) hP hD hS ⟨_, rfl, rfl⟩ d_First_divert_28) (fun ls H locs hP hD hS => fin_v (g := g) (ws := Sw shC g ad S9) hx hb hr hlocks (by decide +kernel) (by decide +kernel) hP hD hS ⟨_, rfl, rfl⟩ d_First_divert_81) k).1 S (upd (upd (fun _ => 0) 2 v2) 3 v3) (fun _ => 0) ls _ _ h hl hP hD hS
def f_First_undivertOne : Nat → Nat → sS → (Nat → Int32) → (Nat → Int64) → Option (Int32 × sS)
  | 0, _, _, _, _ => none
  | k + 1, 0, S, L, M => if (L 1) < (1 : Int32) then (f_First_undivertOne k 1 S L M) else (if (9 : Int32) < (L 1) then (f_First_undivertOne k 1 S L M) else (if (L 1) = (S.1 4 14) then (f_First_undivertOne k 1 S L M) else (if okI (L 1) 10 = true then (if (0 : Int32) ≤ (S.2.1 14 (L 1 : Int32).toNatClampNeg) then (if (S.1 4 14) = ((-1) : Int32) then ((f_First_release k 0 S (upd (fun _ => 0) 1 (L 1 : Int32)) (fun _ => 0)).bind (fun (r10, T10) => f_First_undivertOne k 2 T10 L M)) else (if okI (L 1) 10 = true then (if okI (L 1) 10 = true then ((f_First_join k 0 S (upd (upd (upd (fun _ => 0) 1 (S.1 4 14 : Int32)) 2 (S.2.1 14 (L 1 : Int32).toNatClampNeg : Int32)) 3 (S.2.1 15 (L 1 : Int32).toNatClampNeg : Int32)) (fun _ => 0)).bind (fun (r9, T9) => f_First_undivertOne k 2 T9 L M)) else none) else none)) else (f_First_undivertOne k 1 S L M)) else none)))
  | k + 1, 1, S, L, M => some ((0 : Int32), S)
  | k + 1, 2, S, L, M => if okI (L 1) 10 = true then (if okI (L 1) 10 = true then (some ((0 : Int32), (putA (putA S 14 (L 1 : Int32).toNatClampNeg (-1)) 15 (L 1 : Int32).toNatClampNeg (-1)))) else none) else none
  | _ + 1, _ + 3, _, _, _ => none
set_option maxHeartbeats 8000000 in
set_option maxRecDepth 100000 in
theorem w_First_undivertOne {p : Program} {l : Launch} {e : Env} {R : Room} {s : State} {m : MethodId} {args : Array Value} {below : List Frame} {meth : Method} {c : Code} {cells slots : Nat} {Q : State → Prop} {g : gG} {A : Nat → Prop} {ad : Nat → Nat} (hx : p.tables.exec = Jvm.exec) (hb : c.code = b_First_undivertOne) (hml : c.maxLocals = 2) (hown : s.vm.findClass "MacroMill$First" = some m.cls) (htt : ∀ w ∈ gt, w.before args s = true) (hK : va_K g.1 classes (tysG g) s) (hN : nw s) (hA : ∀ q : Nat, s.heap.size ≤ q → A q) (hRf : 1 ≤ R.frames) (hRl : 23 ≤ R.locals) (hRc : cells ≤ R.cells) (hRs : slots ≤ R.slots) (r : Int32) (S9 : sS)
    (kx_28 : ∀ (ls : Array Slot) (H : Heap) (locs : List Loc), va_P g.1 classes (Sw shC g ad S9) H → va_D A (Sw shC g ad S9) → va_S A s.heap H locs → W p l e R s m args below meth c H locs cells slots Q (F0 m 28 ls []))
    (kx_79 : ∀ (ls : Array Slot) (H : Heap) (locs : List Loc), va_P g.1 classes (Sw shC g ad S9) H → va_D A (Sw shC g ad S9) → va_S A s.heap H locs → W p l e R s m args below meth c H locs cells slots Q (F0 m 79 ls [])) :
    ∀ k9 : Nat, (∀ (S : sS) (L : Nat → Int32) (M : Nat → Int64) (ls : Array Slot) (H : Heap) (locs : List Loc), f_First_undivertOne k9 0 S L M = some (r, S9) → lv_has ls 2 [(0, .ref (ad 4)), (1, .int (L 1))] → va_P g.1 classes (Sw shC g ad S) H → va_D A (Sw shC g ad S) → va_S A s.heap H locs → W p l e R s m args below meth c H locs cells slots Q (F0 m 0 ls [])) ∧ (∀ (S : sS) (L : Nat → Int32) (M : Nat → Int64) (ls : Array Slot) (H : Heap) (locs : List Loc), f_First_undivertOne k9 1 S L M = some (r, S9) → lv_has ls 2 [(0, .ref (ad 4)), (1, .int (L 1))] → va_P g.1 classes (Sw shC g ad S) H → va_D A (Sw shC g ad S) → va_S A s.heap H locs → W p l e R s m args below meth c H locs cells slots Q (F0 m 28 ls [])) ∧ (∀ (S : sS) (L : Nat → Int32) (M : Nat → Int64) (ls : Array Slot) (H : Heap) (locs : List Loc), f_First_undivertOne k9 2 S L M = some (r, S9) → lv_has ls 2 [(0, .ref (ad 4)), (1, .int (L 1))] → va_P g.1 classes (Sw shC g ad S) H → va_D A (Sw shC g ad S) → va_S A s.heap H locs → W p l e R s m args below meth c H locs cells slots Q (F0 m 65 ls [])) := by
  intro k9
  induction k9 with
  | zero => exact ⟨(fun _ _ _ _ _ _ h => by simp [f_First_undivertOne] at h), (fun _ _ _ _ _ _ h => by simp [f_First_undivertOne] at h), (fun _ _ _ _ _ _ h => by simp [f_First_undivertOne] at h)⟩
  | succ k9 ih =>
    refine ⟨?_, ?_, ?_⟩
    · intro S L M ls H locs h hl hP hD hS
      simp only [f_First_undivertOne] at h
      refine lv_iload_n hx hb d_First_undivertOne_0 rfl (lv_at hl 1 rfl) ?_
      refine lv_iconst (v := 1) hx hb d_First_undivertOne_1 (by decide) ?_
      refine lv_icmp_lt (tgt := 28) hx hb d_First_undivertOne_2 (by decide) (fun hc1 => ?_) (fun hc1 => ?_)
      · rw [if_pos hc1] at h
        exact (ih.2.1) S L M ls H locs h (lv_sub hl [0, 1] rfl) hP hD hS
      · rw [if_neg hc1] at h
        refine lv_iload_n hx hb d_First_undivertOne_5 rfl (lv_at hl 1 rfl) ?_
        refine lv_bipush (v := 9) hx hb d_First_undivertOne_6 (by decide) ?_
        refine lv_icmp_gt (tgt := 28) hx hb d_First_undivertOne_8 (by decide) (fun hc2 => ?_) (fun hc2 => ?_)
        · rw [if_pos hc2] at h
          exact (ih.2.1) S L M ls H locs h (lv_sub hl [0, 1] rfl) hP hD hS
        · rw [if_neg hc2] at h
          refine lv_iload_n hx hb d_First_undivertOne_11 rfl (lv_at hl 1 rfl) ?_
          refine lv_aload_n hx hb d_First_undivertOne_12 rfl (lv_at hl 0 rfl) ?_
          refine S_getI (h := shC) (C := "MacroMill$First") (T := F_First) hx hb htt in_First hown hK hP 4 14 rfl rfl rfl (by decide) (htt _ k_584) (fun _ h9 => h9) d_First_undivertOne_13 ?_
          refine lv_icmp_eq (tgt := 28) hx hb d_First_undivertOne_16 (by decide) (fun hc3 => ?_) (fun hc3 => ?_)
          · rw [if_pos hc3] at h
            exact (ih.2.1) S L M ls H locs h (lv_sub hl [0, 1] rfl) hP hD hS
          · rw [if_neg hc3] at h
            refine lv_aload_n hx hb d_First_undivertOne_19 rfl (lv_at hl 0 rfl) ?_
            refine S_getR (h := shC) (C := "MacroMill$First") (T := F_First) hx hb htt in_First hown hK hP 4 9 rfl 27 rfl rfl (by decide) (htt _ k_579) (fun _ h9 => h9) d_First_undivertOne_20 ?_
            refine lv_iload_n hx hb d_First_undivertOne_23 rfl (lv_at hl 1 rfl) ?_
            obtain ⟨hv4, h⟩ := chk h
            refine S_iald (h := shC) (i := L 1) hx hb hK hP 14 rfl (okI_in hv4) d_First_undivertOne_24 ?_
            refine lv_if_ge (tgt := 29) hx hb d_First_undivertOne_25 (by decide) (fun hc5 => ?_) (fun hc5 => ?_)
            · rw [if_pos hc5] at h
              show W _ _ _ _ _ _ _ _ _ _ _ _ _ _ _ (F0 _ 29 _ _)
              refine lv_aload_n hx hb d_First_undivertOne_29 rfl (lv_at hl 0 rfl) ?_
              refine S_getI (h := shC) (C := "MacroMill$First") (T := F_First) hx hb htt in_First hown hK hP 4 14 rfl rfl rfl (by decide) (htt _ k_584) (fun _ h9 => h9) d_First_undivertOne_30 ?_
              refine lv_iconst (v := (-1)) hx hb d_First_undivertOne_33 (by decide) ?_
              refine lv_icmp_ne (tgt := 45) hx hb d_First_undivertOne_34 (by decide) (fun hc6 => ?_) (fun hc6 => ?_)
              · rw [if_neg hc6] at h
                refine lv_aload_n hx hb d_First_undivertOne_45 rfl (lv_at hl 0 rfl) ?_
                refine lv_aload_n hx hb d_First_undivertOne_46 rfl (lv_at hl 0 rfl) ?_
                refine S_getI (h := shC) (C := "MacroMill$First") (T := F_First) hx hb htt in_First hown hK hP 4 14 rfl rfl rfl (by decide) (htt _ k_584) (fun _ h9 => h9) d_First_undivertOne_47 ?_
                refine lv_aload_n hx hb d_First_undivertOne_50 rfl (lv_at hl 0 rfl) ?_
                refine S_getR (h := shC) (C := "MacroMill$First") (T := F_First) hx hb htt in_First hown hK hP 4 9 rfl 27 rfl rfl (by decide) (htt _ k_579) (fun _ h9 => h9) d_First_undivertOne_51 ?_
                refine lv_iload_n hx hb d_First_undivertOne_54 rfl (lv_at hl 1 rfl) ?_
                obtain ⟨hv7, h⟩ := chk h
                refine S_iald (h := shC) (i := L 1) hx hb hK hP 14 rfl (okI_in hv7) d_First_undivertOne_55 ?_
                refine lv_aload_n hx hb d_First_undivertOne_56 rfl (lv_at hl 0 rfl) ?_
                refine S_getR (h := shC) (C := "MacroMill$First") (T := F_First) hx hb htt in_First hown hK hP 4 10 rfl 28 rfl rfl (by decide) (htt _ k_580) (fun _ h9 => h9) d_First_undivertOne_57 ?_
                show W _ _ _ _ _ _ _ _ _ _ _ _ _ _ _ (F0 _ 60 _ _)
                refine lv_iload_n hx hb d_First_undivertOne_60 rfl (lv_at hl 1 rfl) ?_
                obtain ⟨hv8, h⟩ := chk h
                refine S_iald (h := shC) (i := L 1) hx hb hK hP 15 rfl (okI_in hv8) d_First_undivertOne_61 ?_
                obtain ⟨⟨r9, T9⟩, hq9, h⟩ := Option.bind_eq_some_iff.mp h
                try dsimp only at h
                refine go_vS (As := [.ref (ad 4), .int (S.1 4 14), .int (S.2.1 14 (L 1 : Int32).toNatClampNeg), .int (S.2.1 15 (L 1 : Int32).toNatClampNeg)]) (g := g) (A := A) (h := shC) hP hK hD hS hA hN (fun hp => va_runV (As := [.int (S.1 4 14), .int (S.2.1 14 (L 1 : Int32).toNatClampNeg), .int (S.2.1 15 (L 1 : Int32).toNatClampNeg)]) (rest := []) ⟨hx, hb, hml, hown, htt⟩ (t_First_join l g _ ad S (S.1 4 14 : Int32) (S.2.1 14 (L 1 : Int32).toNatClampNeg : Int32) (S.2.1 15 (L 1 : Int32).toNatClampNeg : Int32) k9 r9 T9 hq9) ⟨(cb_L htt k_1274 k_266 k_1271 hd_First_join ⟨(Nat.le_trans (by decide +kernel) hRf), (Nat.le_trans (by decide +kernel) hRl)⟩), htt _ k_1273, htt _ k_18⟩ ⟨hp.1, S_recv hK hP 4 rfl rfl, hp.2⟩ rfl rfl hl.1 rfl (lv_room (Nat.le_of_ble_eq_true rfl)) d_First_undivertOne_62 ⟨hRc, hRs⟩) (fun Sn H locs hw9 hP hD hS => ?_)
                have e8 := hw9
                rw [e8] at hP hD
                refine W.widen (k := cells) (n := slots) (Nat.le_refl _) (Nat.le_refl _) ?_
                exact (ih.2.2) T9 L M ls H locs h (lv_sub hl [0, 1] rfl) hP hD hS
              · rw [if_pos hc6] at h
                refine lv_aload_n hx hb d_First_undivertOne_37 rfl (lv_at hl 0 rfl) ?_
                refine lv_iload_n hx hb d_First_undivertOne_38 rfl (lv_at hl 1 rfl) ?_
                obtain ⟨⟨r10, T10⟩, hq10, h⟩ := Option.bind_eq_some_iff.mp h
                try dsimp only at h
                refine go_vS (As := [.ref (ad 4), .int (L 1)]) (g := g) (A := A) (h := shC) hP hK hD hS hA hN (fun hp => va_runV (As := [.int (L 1)]) (rest := []) ⟨hx, hb, hml, hown, htt⟩ (t_First_release l g _ ad S (L 1 : Int32) k9 r10 T10 hq10) ⟨(cb_L htt k_1530 k_266 k_1527 hd_First_release ⟨(Nat.le_trans (by decide +kernel) hRf), (Nat.le_trans (by decide +kernel) hRl)⟩), htt _ k_1529, htt _ k_54⟩ ⟨hp.1, S_recv hK hP 4 rfl rfl, hp.2⟩ rfl rfl hl.1 rfl (lv_room (Nat.le_of_ble_eq_true rfl)) d_First_undivertOne_39 ⟨hRc, hRs⟩) (fun Sn H locs hw9 hP hD hS => ?_)
                have e8 := hw9
                rw [e8] at hP hD
                refine W.widen (k := cells) (n := slots) (Nat.le_refl _) (Nat.le_refl _) ?_
                refine lv_goto (tgt := 65) hx hb d_First_undivertOne_42 (by decide) ?_
                exact (ih.2.2) T10 L M ls H locs h (lv_sub hl [0, 1] rfl) hP hD hS
            · rw [if_neg hc5] at h
              exact (ih.2.1) S L M ls H locs h (lv_sub hl [0, 1] rfl) hP hD hS
    · intro S L M ls H locs h hl hP hD hS
      simp only [f_First_undivertOne] at h
      cases h
      exact kx_28 ls H locs hP hD hS
    · intro S L M ls H locs h hl hP hD hS
      simp only [f_First_undivertOne] at h
      refine lv_aload_n hx hb d_First_undivertOne_65 rfl (lv_at hl 0 rfl) ?_
      refine S_getR (h := shC) (C := "MacroMill$First") (T := F_First) hx hb htt in_First hown hK hP 4 9 rfl 27 rfl rfl (by decide) (htt _ k_579) (fun _ h9 => h9) d_First_undivertOne_66 ?_
      refine lv_iload_n hx hb d_First_undivertOne_69 rfl (lv_at hl 1 rfl) ?_
      refine lv_iconst (v := (-1)) hx hb d_First_undivertOne_70 (by decide) ?_
      obtain ⟨hv1, h⟩ := chk h
      refine S_iast (h := shC) (i := L 1) (v := (-1)) hx hb hK hP hD hS 14 rfl (okI_in hv1) d_First_undivertOne_71 (fun H locs hP hD hS => ?_)
      refine lv_aload_n hx hb d_First_undivertOne_72 rfl (lv_at hl 0 rfl) ?_
      refine S_getR (h := shC) (C := "MacroMill$First") (T := F_First) hx hb htt in_First hown hK hP 4 10 rfl 28 rfl rfl (by decide) (htt _ k_580) (fun _ h9 => h9) d_First_undivertOne_73 ?_
      refine lv_iload_n hx hb d_First_undivertOne_76 rfl (lv_at hl 1 rfl) ?_
      refine lv_iconst (v := (-1)) hx hb d_First_undivertOne_77 (by decide) ?_
      obtain ⟨hv2, h⟩ := chk h
      refine S_iast (h := shC) (i := L 1) (v := (-1)) hx hb hK hP hD hS 15 rfl (okI_in hv2) d_First_undivertOne_78 (fun H locs hP hD hS => ?_)
      cases h
      exact kx_79 ls H locs hP hD hS
abbrev rm_t_First_undivertOne : Room := { frames := 1, cells := 0, slots := 0, locals := 23 }
theorem t_First_undivertOne (l : Launch) (g : gG) (sz : Nat) (ad : Nat → Nat) (S : sS) (v1 : Int32) (k : Nat) (r : Int32) (S9 : sS) (h : f_First_undivertOne k 0 S (upd (fun _ => 0) 1 v1) (fun _ => 0) = some (r, S9)) : Cv l y_First_undivertOne b_First_undivertOne 2 rm_t_First_undivertOne g [.ref (ad 4), .int v1] (Sw shC g ad S) sz (fun w => ∃ S1 : sS, w = Sw shC g ad S1 ∧ S1 = S9) := by
  refine startV (by decide) (Nat.le_of_ble_eq_true rfl) ?_
  intro p e s m below meth c A ls hx hb hr hml hlocks hmn hown htt hN hA hP hK hD hS hl
  exact (w_First_undivertOne hx hb hml hown htt hK hN hA (by decide +kernel) (by decide +kernel) (by decide +kernel) (by decide +kernel) r S9 (fun ls H locs hP hD hS => fin_v (g := g) (ws := Sw shC g ad S9) hx hb hr hlocks (by decide +kernel) (by decide +kernel) hP hD hS ⟨_, rfl, rfl⟩ d_First_undivertOne_28) (fun ls H locs hP hD hS => fin_v (g := g) (ws := Sw shC g ad S9) hx hb hr hlocks (by decide +kernel) (by decide +kernel) hP hD hS ⟨_, rfl, rfl⟩ d_First_undivertOne_79) k).1 S (upd (fun _ => 0) 1 v1) (fun _ => 0) ls _ _ h hl hP hD hS
def f_Input_readQuoted : Nat → Nat → sS → (Nat → Int32) → (Nat → Int64) → Option (Int32 × sS)
  | 0, _, _, _, _ => none
  | k + 1, 0, S, L, M => (f_Input_takeQuote k 0 (putI S 5 9 1) (upd (fun _ => 0) 1 (0 : Int32)) (fun _ => 0)).bind (fun (r1, T1) => if r1 = (0 : Int32) then (some ((0 : Int32), T1)) else (f_Input_readQuoted k 1 (putI T1 5 10 (T1.1 5 2)) (upd (upd (upd L 1 (S.1 5 4)) 2 (1 : Int32)) 3 (0 : Int32)) M))
  | k + 1, 1, S, L, M => if (32768 : Int32) ≤ (L 3) then (f_Input_readQuoted k 4 S L M) else (if (32768 : Int32) ≤ (S.1 5 2) then (f_Input_readQuoted k 4 S L M) else ((f_Input_isAt k 0 (putI S 5 11 (S.1 5 2)) (upd (fun _ => 0) 1 (1 : Int32)) (fun _ => 0)).bind (fun (r3, T3) => if r3 = (0 : Int32) then ((f_Input_isAt k 0 T3 (upd (fun _ => 0) 1 (0 : Int32)) (fun _ => 0)).bind (fun (r5, T5) => if r5 = (0 : Int32) then ((f_Input_take k 0 T5 (fun _ => 0) (fun _ => 0)).bind (fun (r7, T7) => if r7 = (0 : Int32) then (some ((0 : Int32), T7)) else (f_Input_readQuoted k 3 T7 L M))) else ((f_Input_takeQuote k 0 T5 (upd (fun _ => 0) 1 (0 : Int32)) (fun _ => 0)).bind (fun (r9, T9) => if r9 = (0 : Int32) then (some ((0 : Int32), T9)) else (f_Input_readQuoted k 3 T9 (upd L 2 ((L 2) + 1)) M))))) else ((f_Input_takeQuote k 0 T3 (upd (fun _ => 0) 1 (1 : Int32)) (fun _ => 0)).bind (fun (r11, T11) => if r11 = (0 : Int32) then (f_Input_readQuoted k 2 T11 (upd L 2 ((L 2) + (-1))) M) else (if ((L 2) + (-1)) = (0 : Int32) then (f_Input_readQuoted k 2 T11 (upd L 2 ((L 2) + (-1))) M) else (f_Input_readQuoted k 3 T11 (upd L 2 ((L 2) + (-1))) M)))))))
  | k + 1, 2, S, L, M => some ((0 : Int32), S)
  | k + 1, 3, S, L, M => f_Input_readQuoted k 1 S (upd L 3 ((L 3) + 1)) M
  | k + 1, 4, S, L, M => (f_Outcome_fail k 0 S (upd (upd (fun _ => 0) 1 (32 : Int32)) 2 (L 1 : Int32)) (fun _ => 0)).bind (fun (r1, T1) => some ((0 : Int32), T1))
  | _ + 1, _ + 5, _, _, _ => none
set_option maxHeartbeats 8000000 in
set_option maxRecDepth 100000 in
theorem w_Input_readQuoted {p : Program} {l : Launch} {e : Env} {R : Room} {s : State} {m : MethodId} {args : Array Value} {below : List Frame} {meth : Method} {c : Code} {cells slots : Nat} {Q : State → Prop} {g : gG} {A : Nat → Prop} {ad : Nat → Nat} (hx : p.tables.exec = Jvm.exec) (hb : c.code = b_Input_readQuoted) (hml : c.maxLocals = 4) (hown : s.vm.findClass "MacroMill$Input" = some m.cls) (htt : ∀ w ∈ gt, w.before args s = true) (hK : va_K g.1 classes (tysG g) s) (hN : nw s) (hA : ∀ q : Nat, s.heap.size ≤ q → A q) (hRf : 3 ≤ R.frames) (hRl : 64 ≤ R.locals) (hRc : cells ≤ R.cells) (hRs : slots ≤ R.slots) (r : Int32) (S9 : sS)
    (kx_20 : ∀ (ls : Array Slot) (H : Heap) (locs : List Loc), va_P g.1 classes (Sw shC g ad S9) H → va_D A (Sw shC g ad S9) → va_S A s.heap H locs → W p l e R s m args below meth c H locs cells slots Q (F0 m 20 ls []))
    (kx_77 : ∀ (ls : Array Slot) (H : Heap) (locs : List Loc), va_P g.1 classes (Sw shC g ad S9) H → va_D A (Sw shC g ad S9) → va_S A s.heap H locs → W p l e R s m args below meth c H locs cells slots Q (F0 m 77 ls []))
    (kx_97 : ∀ (ls : Array Slot) (H : Heap) (locs : List Loc), va_P g.1 classes (Sw shC g ad S9) H → va_D A (Sw shC g ad S9) → va_S A s.heap H locs → W p l e R s m args below meth c H locs cells slots Q (F0 m 97 ls []))
    (kx_105 : ∀ (ls : Array Slot) (H : Heap) (locs : List Loc), va_P g.1 classes (Sw shC g ad S9) H → va_D A (Sw shC g ad S9) → va_S A s.heap H locs → W p l e R s m args below meth c H locs cells slots Q (F0 m 105 ls []))
    (kx_122 : ∀ (ls : Array Slot) (H : Heap) (locs : List Loc), va_P g.1 classes (Sw shC g ad S9) H → va_D A (Sw shC g ad S9) → va_S A s.heap H locs → W p l e R s m args below meth c H locs cells slots Q (F0 m 122 ls [])) :
    ∀ k9 : Nat, (∀ (S : sS) (L : Nat → Int32) (M : Nat → Int64) (ls : Array Slot) (H : Heap) (locs : List Loc), f_Input_readQuoted k9 0 S L M = some (r, S9) → lv_has ls 4 [(0, .ref (ad 5))] → va_P g.1 classes (Sw shC g ad S) H → va_D A (Sw shC g ad S) → va_S A s.heap H locs → W p l e R s m args below meth c H locs cells slots Q (F0 m 0 ls [])) ∧ (∀ (S : sS) (L : Nat → Int32) (M : Nat → Int64) (ls : Array Slot) (H : Heap) (locs : List Loc), f_Input_readQuoted k9 1 S L M = some (r, S9) → lv_has ls 4 [(0, .ref (ad 5)), (1, .int (L 1)), (2, .int (L 2)), (3, .int (L 3))] → va_P g.1 classes (Sw shC g ad S) H → va_D A (Sw shC g ad S) → va_S A s.heap H locs → W p l e R s m args below meth c H locs cells slots Q (F0 m 31 ls [])) ∧ (∀ (S : sS) (L : Nat → Int32) (M : Nat → Int64) (ls : Array Slot) (H : Heap) (locs : List Loc), f_Input_readQuoted k9 2 S L M = some (r, S9) → lv_has ls 4 [(0, .ref (ad 5)), (1, .int (L 1)), (2, .int (L 2)), (3, .int (L 3))] → va_P g.1 classes (Sw shC g ad S) H → va_D A (Sw shC g ad S) → va_S A s.heap H locs → W p l e R s m args below meth c H locs cells slots Q (F0 m 77 ls [])) ∧ (∀ (S : sS) (L : Nat → Int32) (M : Nat → Int64) (ls : Array Slot) (H : Heap) (locs : List Loc), f_Input_readQuoted k9 3 S L M = some (r, S9) → lv_has ls 4 [(0, .ref (ad 5)), (1, .int (L 1)), (2, .int (L 2)), (3, .int (L 3))] → va_P g.1 classes (Sw shC g ad S) H → va_D A (Sw shC g ad S) → va_S A s.heap H locs → W p l e R s m args below meth c H locs cells slots Q (F0 m 106 ls [])) ∧ (∀ (S : sS) (L : Nat → Int32) (M : Nat → Int64) (ls : Array Slot) (H : Heap) (locs : List Loc), f_Input_readQuoted k9 4 S L M = some (r, S9) → lv_has ls 4 [(0, .ref (ad 5)), (1, .int (L 1)), (2, .int (L 2)), (3, .int (L 3))] → va_P g.1 classes (Sw shC g ad S) H → va_D A (Sw shC g ad S) → va_S A s.heap H locs → W p l e R s m args below meth c H locs cells slots Q (F0 m 112 ls [])) := by
  intro k9
  induction k9 with
  | zero => exact ⟨(fun _ _ _ _ _ _ h => by simp [f_Input_readQuoted] at h), (fun _ _ _ _ _ _ h => by simp [f_Input_readQuoted] at h), (fun _ _ _ _ _ _ h => by simp [f_Input_readQuoted] at h), (fun _ _ _ _ _ _ h => by simp [f_Input_readQuoted] at h), (fun _ _ _ _ _ _ h => by simp [f_Input_readQuoted] at h)⟩
  | succ k9 ih =>
    refine ⟨?_, ?_, ?_, ?_, ?_⟩
    · intro S L M ls H locs h hl hP hD hS
      simp only [f_Input_readQuoted] at h
      refine lv_aload_n hx hb d_Input_readQuoted_0 rfl (lv_at hl 0 rfl) ?_
      refine lv_iconst (v := 1) hx hb d_Input_readQuoted_1 (by decide) ?_
      refine S_put (h := shC) (C := "MacroMill$Input") (T := F_Input) (v := 1) hx hb htt in_Input t_Input t_Input_ok n_Input hown hK hP hD hS 5 9 rfl rfl rfl (by decide) (htt _ k_540) (fun _ h9 => h9) rfl rfl rfl d_Input_readQuoted_2 (fun H locs hP hD hS => ?_)
      refine lv_aload_n hx hb d_Input_readQuoted_5 rfl (lv_at hl 0 rfl) ?_
      refine S_getI (h := shC) (C := "MacroMill$Input") (T := F_Input) hx hb htt in_Input hown hK hP 5 4 rfl rfl rfl (by decide) (htt _ k_533) (fun _ h9 => h9) d_Input_readQuoted_6 ?_
      refine toI (y := S.1 5 4) rfl ?_
      refine lv_istore_n (lv' := [(1, .int (S.1 5 4)), (0, .ref (ad 5))]) hx hb d_Input_readQuoted_9 rfl hl (by decide) rfl (fun ls hl => ?_)
      refine lv_iconst (v := 1) hx hb d_Input_readQuoted_10 (by decide) ?_
      refine lv_istore_n (lv' := [(2, .int 1), (1, .int (S.1 5 4)), (0, .ref (ad 5))]) hx hb d_Input_readQuoted_11 rfl hl (by decide) rfl (fun ls hl => ?_)
      refine lv_aload_n hx hb d_Input_readQuoted_12 rfl (lv_at hl 2 rfl) ?_
      refine lv_iconst (v := 0) hx hb d_Input_readQuoted_13 (by decide) ?_
      obtain ⟨⟨r1, T1⟩, hq1, h⟩ := Option.bind_eq_some_iff.mp h
      try dsimp only at h
      refine go_iS (As := [.ref (ad 5), .int 0]) (g := g) (A := A) (h := shC) hP hK hD hS hA hN (fun hp => va_runV (As := [.int 0]) (rest := []) ⟨hx, hb, hml, hown, htt⟩ (t_Input_takeQuote l g _ ad (putI S 5 9 1) (0 : Int32) k9 r1 T1 hq1) ⟨(cb_L htt k_1155 k_269 k_1152 hd_Input_takeQuote ⟨(Nat.le_trans (by decide +kernel) hRf), (Nat.le_trans (by decide +kernel) hRl)⟩), htt _ k_1154, htt _ k_7⟩ ⟨hp.1, S_recv hK hP 5 rfl rfl, hp.2⟩ rfl rfl hl.1 rfl (lv_room (Nat.le_of_ble_eq_true rfl)) d_Input_readQuoted_14 ⟨hRc, hRs⟩) (fun r0 Sn H locs hw9 hP hD hS => ?_)
      obtain ⟨e9, e8⟩ := hw9
      rw [e8] at hP hD
      refine W.widen (k := cells) (n := slots) (Nat.le_refl _) (Nat.le_refl _) ?_
      refine toI (y := r1) e9 ?_
      refine lv_if_ne (tgt := 21) hx hb d_Input_readQuoted_17 (by decide) (fun hc2 => ?_) (fun hc2 => ?_)
      · rw [if_neg hc2] at h
        refine lv_aload_n hx hb d_Input_readQuoted_21 rfl (lv_at hl 2 rfl) ?_
        show W _ _ _ _ _ _ _ _ _ _ _ _ _ _ _ (F0 _ 22 _ _)
        refine lv_aload_n hx hb d_Input_readQuoted_22 rfl (lv_at hl 2 rfl) ?_
        refine S_getI (h := shC) (C := "MacroMill$Input") (T := F_Input) hx hb htt in_Input hown hK hP 5 2 rfl rfl rfl (by decide) (htt _ k_531) (fun _ h9 => h9) d_Input_readQuoted_23 ?_
        refine S_put (h := shC) (C := "MacroMill$Input") (T := F_Input) (v := T1.1 5 2) hx hb htt in_Input t_Input t_Input_ok n_Input hown hK hP hD hS 5 10 rfl rfl rfl (by decide) (htt _ k_542) (fun _ h9 => h9) rfl rfl rfl d_Input_readQuoted_26 (fun H locs hP hD hS => ?_)
        refine lv_iconst (v := 0) hx hb d_Input_readQuoted_29 (by decide) ?_
        refine lv_istore_n (lv' := [(3, .int 0), (2, .int 1), (1, .int (S.1 5 4)), (0, .ref (ad 5))]) hx hb d_Input_readQuoted_30 rfl hl (by decide) rfl (fun ls hl => ?_)
        exact (ih.2.1) (putI T1 5 10 (T1.1 5 2)) (upd (upd (upd L 1 (S.1 5 4)) 2 (1 : Int32)) 3 (0 : Int32)) M ls H locs h (lv_sub hl [3, 2, 1, 0] rfl) hP hD hS
      · rw [if_pos hc2] at h
        cases h
        exact kx_20 ls H locs hP hD hS
    · intro S L M ls H locs h hl hP hD hS
      simp only [f_Input_readQuoted] at h
      refine lv_iload_n hx hb d_Input_readQuoted_31 rfl (lv_at hl 3 rfl) ?_
      refine lv_ldc (v := 32768) hx hb hown (htt _ k_527) d_Input_readQuoted_32 ?_
      refine lv_icmp_ge (tgt := 112) hx hb d_Input_readQuoted_34 (by decide) (fun hc1 => ?_) (fun hc1 => ?_)
      · rw [if_pos hc1] at h
        exact (ih.2.2.2.2) S L M ls H locs h (lv_sub hl [0, 1, 2, 3] rfl) hP hD hS
      · rw [if_neg hc1] at h
        refine lv_aload_n hx hb d_Input_readQuoted_37 rfl (lv_at hl 0 rfl) ?_
        refine S_getI (h := shC) (C := "MacroMill$Input") (T := F_Input) hx hb htt in_Input hown hK hP 5 2 rfl rfl rfl (by decide) (htt _ k_531) (fun _ h9 => h9) d_Input_readQuoted_38 ?_
        refine lv_ldc (v := 32768) hx hb hown (htt _ k_527) d_Input_readQuoted_41 ?_
        refine lv_icmp_ge (tgt := 112) hx hb d_Input_readQuoted_43 (by decide) (fun hc2 => ?_) (fun hc2 => ?_)
        · rw [if_pos hc2] at h
          exact (ih.2.2.2.2) S L M ls H locs h (lv_sub hl [0, 1, 2, 3] rfl) hP hD hS
        · rw [if_neg hc2] at h
          refine lv_aload_n hx hb d_Input_readQuoted_46 rfl (lv_at hl 0 rfl) ?_
          refine lv_aload_n hx hb d_Input_readQuoted_47 rfl (lv_at hl 0 rfl) ?_
          refine S_getI (h := shC) (C := "MacroMill$Input") (T := F_Input) hx hb htt in_Input hown hK hP 5 2 rfl rfl rfl (by decide) (htt _ k_531) (fun _ h9 => h9) d_Input_readQuoted_48 ?_
          refine S_put (h := shC) (C := "MacroMill$Input") (T := F_Input) (v := S.1 5 2) hx hb htt in_Input t_Input t_Input_ok n_Input hown hK hP hD hS 5 11 rfl rfl rfl (by decide) (htt _ k_544) (fun _ h9 => h9) rfl rfl rfl d_Input_readQuoted_51 (fun H locs hP hD hS => ?_)
          refine lv_aload_n hx hb d_Input_readQuoted_54 rfl (lv_at hl 0 rfl) ?_
          refine lv_iconst (v := 1) hx hb d_Input_readQuoted_55 (by decide) ?_
          obtain ⟨⟨r3, T3⟩, hq3, h⟩ := Option.bind_eq_some_iff.mp h
          try dsimp only at h
          refine go_iS (As := [.ref (ad 5), .int 1]) (g := g) (A := A) (h := shC) hP hK hD hS hA hN (fun hp => va_runV (As := [.int 1]) (rest := []) ⟨hx, hb, hml, hown, htt⟩ (t_Input_isAt l g _ ad (putI S 5 11 (S.1 5 2)) (1 : Int32) k9 r3 T3 hq3) ⟨(cb_L htt k_1142 k_269 k_1139 hd_Input_isAt ⟨(Nat.le_trans (by decide +kernel) hRf), (Nat.le_trans (by decide +kernel) hRl)⟩), htt _ k_1141, htt _ k_5⟩ ⟨hp.1, S_recv hK hP 5 rfl rfl, hp.2⟩ rfl rfl hl.1 rfl (lv_room (Nat.le_of_ble_eq_true rfl)) d_Input_readQuoted_56 ⟨hRc, hRs⟩) (fun r0 Sn H locs hw9 hP hD hS => ?_)
          obtain ⟨e9, e8⟩ := hw9
          rw [e8] at hP hD
          refine W.widen (k := cells) (n := slots) (Nat.le_refl _) (Nat.le_refl _) ?_
          refine toI (y := r3) e9 ?_
          refine lv_if_eq (tgt := 78) hx hb d_Input_readQuoted_59 (by decide) (fun hc4 => ?_) (fun hc4 => ?_)
          · rw [if_pos hc4] at h
            show W _ _ _ _ _ _ _ _ _ _ _ _ _ _ _ (F0 _ 78 _ _)
            refine lv_aload_n hx hb d_Input_readQuoted_78 rfl (lv_at hl 0 rfl) ?_
            refine lv_iconst (v := 0) hx hb d_Input_readQuoted_79 (by decide) ?_
            obtain ⟨⟨r5, T5⟩, hq5, h⟩ := Option.bind_eq_some_iff.mp h
            try dsimp only at h
            refine go_iS (As := [.ref (ad 5), .int 0]) (g := g) (A := A) (h := shC) hP hK hD hS hA hN (fun hp => va_runV (As := [.int 0]) (rest := []) ⟨hx, hb, hml, hown, htt⟩ (t_Input_isAt l g _ ad T3 (0 : Int32) k9 r5 T5 hq5) ⟨(cb_L htt k_1142 k_269 k_1139 hd_Input_isAt ⟨(Nat.le_trans (by decide +kernel) hRf), (Nat.le_trans (by decide +kernel) hRl)⟩), htt _ k_1141, htt _ k_5⟩ ⟨hp.1, S_recv hK hP 5 rfl rfl, hp.2⟩ rfl rfl hl.1 rfl (lv_room (Nat.le_of_ble_eq_true rfl)) d_Input_readQuoted_80 ⟨hRc, hRs⟩) (fun r0 Sn H locs hw9 hP hD hS => ?_)
            obtain ⟨e9, e8⟩ := hw9
            rw [e8] at hP hD
            refine W.widen (k := cells) (n := slots) (Nat.le_refl _) (Nat.le_refl _) ?_
            refine toI (y := r5) e9 ?_
            refine lv_if_eq (tgt := 98) hx hb d_Input_readQuoted_83 (by decide) (fun hc6 => ?_) (fun hc6 => ?_)
            · rw [if_pos hc6] at h
              refine lv_aload_n hx hb d_Input_readQuoted_98 rfl (lv_at hl 0 rfl) ?_
              obtain ⟨⟨r7, T7⟩, hq7, h⟩ := Option.bind_eq_some_iff.mp h
              try dsimp only at h
              refine go_iS (As := [.ref (ad 5)]) (g := g) (A := A) (h := shC) hP hK hD hS hA hN (fun hp => va_runV (As := []) (rest := []) ⟨hx, hb, hml, hown, htt⟩ (t_Input_take l g _ ad T5 k9 r7 T7 hq7) ⟨(cb_L htt k_1159 k_269 k_1156 hd_Input_take ⟨(Nat.le_trans (by decide +kernel) hRf), (Nat.le_trans (by decide +kernel) hRl)⟩), htt _ k_1157, htt _ k_1158⟩ ⟨hp.1, S_recv hK hP 5 rfl rfl, hp.2⟩ rfl rfl hl.1 rfl (lv_room (Nat.le_of_ble_eq_true rfl)) d_Input_readQuoted_99 ⟨hRc, hRs⟩) (fun r0 Sn H locs hw9 hP hD hS => ?_)
              obtain ⟨e9, e8⟩ := hw9
              rw [e8] at hP hD
              refine W.widen (k := cells) (n := slots) (Nat.le_refl _) (Nat.le_refl _) ?_
              refine toI (y := r7) e9 ?_
              refine lv_if_ne (tgt := 106) hx hb d_Input_readQuoted_102 (by decide) (fun hc8 => ?_) (fun hc8 => ?_)
              · rw [if_neg hc8] at h
                exact (ih.2.2.2.1) T7 L M ls H locs h (lv_sub hl [0, 1, 2, 3] rfl) hP hD hS
              · rw [if_pos hc8] at h
                cases h
                exact kx_105 ls H locs hP hD hS
            · rw [if_neg hc6] at h
              refine lv_iinc (k := 2) (v := (L 2) + 1) (lv' := [(2, .int ((L 2) + 1)), (0, .ref (ad 5)), (1, .int (L 1)), (3, .int (L 3))]) hx hb d_Input_readQuoted_86 hl rfl rfl (by decide) rfl (fun ls hl => ?_)
              refine lv_aload_n hx hb d_Input_readQuoted_89 rfl (lv_at hl 1 rfl) ?_
              refine lv_iconst (v := 0) hx hb d_Input_readQuoted_90 (by decide) ?_
              obtain ⟨⟨r9, T9⟩, hq9, h⟩ := Option.bind_eq_some_iff.mp h
              try dsimp only at h
              refine go_iS (As := [.ref (ad 5), .int 0]) (g := g) (A := A) (h := shC) hP hK hD hS hA hN (fun hp => va_runV (As := [.int 0]) (rest := []) ⟨hx, hb, hml, hown, htt⟩ (t_Input_takeQuote l g _ ad T5 (0 : Int32) k9 r9 T9 hq9) ⟨(cb_L htt k_1155 k_269 k_1152 hd_Input_takeQuote ⟨(Nat.le_trans (by decide +kernel) hRf), (Nat.le_trans (by decide +kernel) hRl)⟩), htt _ k_1154, htt _ k_7⟩ ⟨hp.1, S_recv hK hP 5 rfl rfl, hp.2⟩ rfl rfl hl.1 rfl (lv_room (Nat.le_of_ble_eq_true rfl)) d_Input_readQuoted_91 ⟨hRc, hRs⟩) (fun r0 Sn H locs hw9 hP hD hS => ?_)
              obtain ⟨e9, e8⟩ := hw9
              rw [e8] at hP hD
              refine W.widen (k := cells) (n := slots) (Nat.le_refl _) (Nat.le_refl _) ?_
              refine toI (y := r9) e9 ?_
              refine lv_if_ne (tgt := 106) hx hb d_Input_readQuoted_94 (by decide) (fun hc10 => ?_) (fun hc10 => ?_)
              · rw [if_neg hc10] at h
                exact (ih.2.2.2.1) T9 (upd L 2 ((L 2) + 1)) M ls H locs h (lv_sub hl [1, 2, 0, 3] rfl) hP hD hS
              · rw [if_pos hc10] at h
                cases h
                exact kx_97 ls H locs hP hD hS
          · rw [if_neg hc4] at h
            show W _ _ _ _ _ _ _ _ _ _ _ _ _ _ _ (F0 _ 62 _ _)
            refine lv_iinc (k := 2) (v := (L 2) + (-1)) (lv' := [(2, .int ((L 2) + (-1))), (0, .ref (ad 5)), (1, .int (L 1)), (3, .int (L 3))]) hx hb d_Input_readQuoted_62 hl rfl rfl (by decide) rfl (fun ls hl => ?_)
            refine lv_aload_n hx hb d_Input_readQuoted_65 rfl (lv_at hl 1 rfl) ?_
            refine lv_iconst (v := 1) hx hb d_Input_readQuoted_66 (by decide) ?_
            obtain ⟨⟨r11, T11⟩, hq11, h⟩ := Option.bind_eq_some_iff.mp h
            try dsimp only at h
            refine go_iS (As := [.ref (ad 5), .int 1]) (g := g) (A := A) (h := shC) hP hK hD hS hA hN (fun hp => va_runV (As := [.int 1]) (rest := []) ⟨hx, hb, hml, hown, htt⟩ (t_Input_takeQuote l g _ ad T3 (1 : Int32) k9 r11 T11 hq11) ⟨(cb_L htt k_1155 k_269 k_1152 hd_Input_takeQuote ⟨(Nat.le_trans (by decide +kernel) hRf), (Nat.le_trans (by decide +kernel) hRl)⟩), htt _ k_1154, htt _ k_7⟩ ⟨hp.1, S_recv hK hP 5 rfl rfl, hp.2⟩ rfl rfl hl.1 rfl (lv_room (Nat.le_of_ble_eq_true rfl)) d_Input_readQuoted_67 ⟨hRc, hRs⟩) (fun r0 Sn H locs hw9 hP hD hS => ?_)
            obtain ⟨e9, e8⟩ := hw9
            rw [e8] at hP hD
            refine W.widen (k := cells) (n := slots) (Nat.le_refl _) (Nat.le_refl _) ?_
            refine toI (y := r11) e9 ?_
            refine lv_if_eq (tgt := 77) hx hb d_Input_readQuoted_70 (by decide) (fun hc12 => ?_) (fun hc12 => ?_)
            · rw [if_pos hc12] at h
              exact (ih.2.2.1) T11 (upd L 2 ((L 2) + (-1))) M ls H locs h (lv_sub hl [1, 2, 0, 3] rfl) hP hD hS
            · rw [if_neg hc12] at h
              refine lv_iload_n hx hb d_Input_readQuoted_73 rfl (lv_at hl 0 rfl) ?_
              refine lv_if_ne (tgt := 106) hx hb d_Input_readQuoted_74 (by decide) (fun hc13 => ?_) (fun hc13 => ?_)
              · rw [if_neg hc13] at h
                exact (ih.2.2.2.1) T11 (upd L 2 ((L 2) + (-1))) M ls H locs h (lv_sub hl [1, 2, 0, 3] rfl) hP hD hS
              · rw [if_pos hc13] at h
                exact (ih.2.2.1) T11 (upd L 2 ((L 2) + (-1))) M ls H locs h (lv_sub hl [1, 2, 0, 3] rfl) hP hD hS
    · intro S L M ls H locs h hl hP hD hS
      simp only [f_Input_readQuoted] at h
      cases h
      exact kx_77 ls H locs hP hD hS
    · intro S L M ls H locs h hl hP hD hS
      simp only [f_Input_readQuoted] at h
      refine lv_iinc (k := 3) (v := (L 3) + 1) (lv' := [(3, .int ((L 3) + 1)), (0, .ref (ad 5)), (1, .int (L 1)), (2, .int (L 2))]) hx hb d_Input_readQuoted_106 hl rfl rfl (by decide) rfl (fun ls hl => ?_)
      refine lv_goto (tgt := 31) hx hb d_Input_readQuoted_109 (by decide) ?_
      exact (ih.2.1) S (upd L 3 ((L 3) + 1)) M ls H locs h (lv_sub hl [1, 2, 3, 0] rfl) hP hD hS
    · intro S L M ls H locs h hl hP hD hS
      simp only [f_Input_readQuoted] at h
      refine lv_aload_n hx hb d_Input_readQuoted_112 rfl (lv_at hl 0 rfl) ?_
      refine S_getR (h := shC) (C := "MacroMill$Input") (T := F_Input) hx hb htt in_Input hown hK hP 5 1 rfl 2 rfl rfl (by decide) (htt _ k_530) (fun _ h9 => h9) d_Input_readQuoted_113 ?_
      refine lv_bipush (v := 32) hx hb d_Input_readQuoted_116 (by decide) ?_
      refine lv_iload_n hx hb d_Input_readQuoted_118 rfl (lv_at hl 1 rfl) ?_
      obtain ⟨⟨r1, T1⟩, hq1, h⟩ := Option.bind_eq_some_iff.mp h
      try dsimp only at h
      refine go_vS (As := [.ref (ad 2), .int 32, .int (L 1)]) (g := g) (A := A) (h := shC) hP hK hD hS hA hN (fun hp => va_runV (As := [.int 32, .int (L 1)]) (rest := []) ⟨hx, hb, hml, hown, htt⟩ (t_Outcome_fail l g _ ad S (32 : Int32) (L 1 : Int32) k9 r1 T1 hq1) ⟨(cb_L htt k_1163 k_264 k_1160 hd_Outcome_fail ⟨(Nat.le_trans (by decide +kernel) hRf), (Nat.le_trans (by decide +kernel) hRl)⟩), htt _ k_1161, htt _ k_1162⟩ ⟨hp.1, S_recv hK hP 2 rfl rfl, hp.2⟩ rfl rfl hl.1 rfl (lv_room (Nat.le_of_ble_eq_true rfl)) d_Input_readQuoted_119 ⟨hRc, hRs⟩) (fun Sn H locs hw9 hP hD hS => ?_)
      have e8 := hw9
      rw [e8] at hP hD
      refine W.widen (k := cells) (n := slots) (Nat.le_refl _) (Nat.le_refl _) ?_
      cases h
      exact kx_122 ls H locs hP hD hS
abbrev rm_t_Input_readQuoted : Room := { frames := 3, cells := 0, slots := 0, locals := 64 }
theorem t_Input_readQuoted (l : Launch) (g : gG) (sz : Nat) (ad : Nat → Nat) (S : sS) (k : Nat) (r : Int32) (S9 : sS) (h : f_Input_readQuoted k 0 S (fun _ => 0) (fun _ => 0) = some (r, S9)) : Cv l y_Input_readQuoted b_Input_readQuoted 4 rm_t_Input_readQuoted g [.ref (ad 5)] (Sw shC g ad S) sz (fun w => ∃ S1 : sS, w = Sw shC g ad S1 ∧ S1 = S9) := by
  refine startV (by decide) (Nat.le_of_ble_eq_true rfl) ?_
  intro p e s m below meth c A ls hx hb hr hml hlocks hmn hown htt hN hA hP hK hD hS hl
  exact (w_Input_readQuoted hx hb hml hown htt hK hN hA (by decide +kernel) (by decide +kernel) (by decide +kernel) (by decide +kernel) r S9 (fun ls H locs hP hD hS => fin_v (g := g) (ws := Sw shC g ad S9) hx hb hr hlocks (by decide +kernel) (by decide +kernel) hP hD hS ⟨_, rfl, rfl⟩ d_Input_readQuoted_20) (fun ls H locs hP hD hS => fin_v (g := g) (ws := Sw shC g ad S9) hx hb hr hlocks (by decide +kernel) (by decide +kernel) hP hD hS ⟨_, rfl, rfl⟩ d_Input_readQuoted_77) (fun ls H locs hP hD hS => fin_v (g := g) (ws := Sw shC g ad S9) hx hb hr hlocks (by decide +kernel) (by decide +kernel) hP hD hS ⟨_, rfl, rfl⟩ d_Input_readQuoted_97) (fun ls H locs hP hD hS => fin_v (g := g) (ws := Sw shC g ad S9) hx hb hr hlocks (by decide +kernel) (by decide +kernel) hP hD hS ⟨_, rfl, rfl⟩ d_Input_readQuoted_105) (fun ls H locs hP hD hS => fin_v (g := g) (ws := Sw shC g ad S9) hx hb hr hlocks (by decide +kernel) (by decide +kernel) hP hD hS ⟨_, rfl, rfl⟩ d_Input_readQuoted_122) k).1 S (fun _ => 0) (fun _ => 0) ls _ _ h hl hP hD hS
def f_Meanings_find (x1 : Nat) (nx1 : Nat) : Nat → Nat → sS → (Nat → Int32) → (Nat → Int64) → Option (Int32 × sS)
  | 0, _, _, _, _ => none
  | k + 1, 0, S, L, M => (f_MM_hashOf x1 nx1 k 0 S (upd (upd (fun _ => 0) 1 (L 2 : Int32)) 2 (L 3 : Int32)) (fun _ => 0)).bind (fun (r1, T1) => if okI (r1 &&& (255 : Int32)) 256 = true then (f_Meanings_find x1 nx1 k 1 T1 (upd (upd L 4 (T1.2.1 26 (r1 &&& (255 : Int32) : Int32).toNatClampNeg)) 5 (0 : Int32)) M) else none)
  | k + 1, 1, S, L, M => if (317 : Int32) ≤ (L 5) then (f_Meanings_find x1 nx1 k 2 S L M) else (if (L 4) < (0 : Int32) then (f_Meanings_find x1 nx1 k 2 S L M) else ((f_Meanings_isNamed x1 nx1 k 0 S (upd (upd (upd (fun _ => 0) 1 (L 4 : Int32)) 3 (L 2 : Int32)) 4 (L 3 : Int32)) (fun _ => 0)).bind (fun (r3, T3) => if r3 = (0 : Int32) then (if okI (L 4) 317 = true then (f_Meanings_find x1 nx1 k 1 T3 (upd (upd L 4 (T3.2.1 27 (L 4 : Int32).toNatClampNeg)) 5 ((L 5) + 1)) M) else none) else (some (L 4, T3)))))
  | k + 1, 2, S, L, M => some (((-1) : Int32), S)
  | _ + 1, _ + 3, _, _, _ => none
set_option maxHeartbeats 8000000 in
set_option maxRecDepth 100000 in
theorem w_Meanings_find {p : Program} {l : Launch} {e : Env} {R : Room} {s : State} {m : MethodId} {args : Array Value} {below : List Frame} {meth : Method} {c : Code} {cells slots : Nat} {Q : State → Prop} {g : gG} {A : Nat → Prop} {ad : Nat → Nat} (hx : p.tables.exec = Jvm.exec) (hb : c.code = b_Meanings_find) (hml : c.maxLocals = 6) (hown : s.vm.findClass "MacroMill$Meanings" = some m.cls) (htt : ∀ w ∈ gt, w.before args s = true) (hK : va_K g.1 classes (tysG g) s) (hN : nw s) (hA : ∀ q : Nat, s.heap.size ≤ q → A q) (hRf : 2 ≤ R.frames) (hRl : 49 ≤ R.locals) (hRc : cells ≤ R.cells) (hRs : slots ≤ R.slots) (x1 : Nat) (nx1 : Nat) (hx1 : shC.2[x1]? = some (0, nx1)) (r : Int32) (S9 : sS)
    (kx_47 : ∀ (ls : Array Slot) (H : Heap) (locs : List Loc), va_P g.1 classes (Sw shC g ad S9) H → va_D A (Sw shC g ad S9) → va_S A s.heap H locs → W p l e R s m args below meth c H locs cells slots Q (F0 m 47 ls [.int r]))
    (kx_64 : ∀ (ls : Array Slot) (H : Heap) (locs : List Loc), va_P g.1 classes (Sw shC g ad S9) H → va_D A (Sw shC g ad S9) → va_S A s.heap H locs → W p l e R s m args below meth c H locs cells slots Q (F0 m 64 ls [.int r])) :
    ∀ k9 : Nat, (∀ (S : sS) (L : Nat → Int32) (M : Nat → Int64) (ls : Array Slot) (H : Heap) (locs : List Loc), f_Meanings_find x1 nx1 k9 0 S L M = some (r, S9) → lv_has ls 6 [(0, .ref (ad 7)), (1, .ref (ad (shC.1.length + x1))), (2, .int (L 2)), (3, .int (L 3))] → va_P g.1 classes (Sw shC g ad S) H → va_D A (Sw shC g ad S) → va_S A s.heap H locs → W p l e R s m args below meth c H locs cells slots Q (F0 m 0 ls [])) ∧ (∀ (S : sS) (L : Nat → Int32) (M : Nat → Int64) (ls : Array Slot) (H : Heap) (locs : List Loc), f_Meanings_find x1 nx1 k9 1 S L M = some (r, S9) → lv_has ls 6 [(0, .ref (ad 7)), (1, .ref (ad (shC.1.length + x1))), (2, .int (L 2)), (3, .int (L 3)), (4, .int (L 4)), (5, .int (L 5))] → va_P g.1 classes (Sw shC g ad S) H → va_D A (Sw shC g ad S) → va_S A s.heap H locs → W p l e R s m args below meth c H locs cells slots Q (F0 m 20 ls [])) ∧ (∀ (S : sS) (L : Nat → Int32) (M : Nat → Int64) (ls : Array Slot) (H : Heap) (locs : List Loc), f_Meanings_find x1 nx1 k9 2 S L M = some (r, S9) → lv_has ls 6 [(0, .ref (ad 7)), (1, .ref (ad (shC.1.length + x1))), (2, .int (L 2)), (3, .int (L 3)), (4, .int (L 4)), (5, .int (L 5))] → va_P g.1 classes (Sw shC g ad S) H → va_D A (Sw shC g ad S) → va_S A s.heap H locs → W p l e R s m args below meth c H locs cells slots Q (F0 m 63 ls [])) := by
  intro k9
  induction k9 with
  | zero => exact ⟨(fun _ _ _ _ _ _ h => by simp [f_Meanings_find] at h), (fun _ _ _ _ _ _ h => by simp [f_Meanings_find] at h), (fun _ _ _ _ _ _ h => by simp [f_Meanings_find] at h)⟩
  | succ k9 ih =>
    refine ⟨?_, ?_, ?_⟩
    · intro S L M ls H locs h hl hP hD hS
      simp only [f_Meanings_find] at h
      refine lv_aload_n hx hb d_Meanings_find_0 rfl (lv_at hl 0 rfl) ?_
      refine S_getR (h := shC) (C := "MacroMill$Meanings") (T := F_Meanings) hx hb htt in_Meanings hown hK hP 7 2 rfl 39 rfl rfl (by decide) (htt _ k_488) (fun _ h9 => h9) d_Meanings_find_1 ?_
      refine lv_aload_n hx hb d_Meanings_find_4 rfl (lv_at hl 1 rfl) ?_
      refine lv_iload_n hx hb d_Meanings_find_5 rfl (lv_at hl 2 rfl) ?_
      refine lv_iload_n hx hb d_Meanings_find_6 rfl (lv_at hl 3 rfl) ?_
      obtain ⟨⟨r1, T1⟩, hq1, h⟩ := Option.bind_eq_some_iff.mp h
      try dsimp only at h
      refine go_iS (As := [.ref (ad (shC.1.length + x1)), .int (L 2), .int (L 3)]) (g := g) (A := A) (h := shC) hP hK hD hS hA hN (fun hp => va_runSN (As := [.ref (ad (shC.1.length + x1)), .int (L 2), .int (L 3)]) (rest := [.ref (ad 39)]) ⟨hx, hb, hml, hown, htt⟩ (t_MM_hashOf l g _ ad S x1 nx1 (L 2 : Int32) (L 3 : Int32) hx1 k9 r1 T1 hq1) ⟨(cb_N (host := "MacroMill") htt k_1124 k_262 hN nM_6 hd_MM_hashOf ⟨(Nat.le_trans (by decide +kernel) hRf), (Nat.le_trans (by decide +kernel) hRl)⟩), htt _ k_1123, trivial⟩ hp rfl rfl hl.1 rfl (lv_room (Nat.le_of_ble_eq_true rfl)) d_Meanings_find_7 ⟨hRc, hRs⟩) (fun r0 Sn H locs hw9 hP hD hS => ?_)
      obtain ⟨e9, e8⟩ := hw9
      rw [e8] at hP hD
      refine W.widen (k := cells) (n := slots) (Nat.le_refl _) (Nat.le_refl _) ?_
      refine toI (y := r1) e9 ?_
      refine lv_sipush (v := 255) hx hb d_Meanings_find_10 (by decide) ?_
      refine lv_iand hx hb d_Meanings_find_13 ?_
      obtain ⟨hv2, h⟩ := chk h
      refine S_iald (h := shC) (i := r1 &&& (255 : Int32)) hx hb hK hP 26 rfl (okI_in hv2) d_Meanings_find_14 ?_
      refine lv_istore (lv' := [(4, .int (T1.2.1 26 (r1 &&& (255 : Int32) : Int32).toNatClampNeg)), (0, .ref (ad 7)), (1, .ref (ad (shC.1.length + x1))), (2, .int (L 2)), (3, .int (L 3))]) hx hb d_Meanings_find_15 hl (by decide) rfl (fun ls hl => ?_)
      refine lv_iconst (v := 0) hx hb d_Meanings_find_17 (by decide) ?_
      refine lv_istore (lv' := [(5, .int 0), (4, .int (T1.2.1 26 (r1 &&& (255 : Int32) : Int32).toNatClampNeg)), (0, .ref (ad 7)), (1, .ref (ad (shC.1.length + x1))), (2, .int (L 2)), (3, .int (L 3))]) hx hb d_Meanings_find_18 hl (by decide) rfl (fun ls hl => ?_)
      exact (ih.2.1) T1 (upd (upd L 4 (T1.2.1 26 (r1 &&& (255 : Int32) : Int32).toNatClampNeg)) 5 (0 : Int32)) M ls H locs h (lv_sub hl [2, 3, 4, 5, 1, 0] rfl) hP hD hS
    · intro S L M ls H locs h hl hP hD hS
      simp only [f_Meanings_find] at h
      refine lv_iload hx hb d_Meanings_find_20 (lv_at hl 5 rfl) ?_
      refine lv_sipush (v := 317) hx hb d_Meanings_find_22 (by decide) ?_
      refine lv_icmp_ge (tgt := 63) hx hb d_Meanings_find_25 (by decide) (fun hc1 => ?_) (fun hc1 => ?_)
      · rw [if_pos hc1] at h
        exact (ih.2.2) S L M ls H locs h (lv_sub hl [0, 1, 2, 3, 4, 5] rfl) hP hD hS
      · rw [if_neg hc1] at h
        refine lv_iload hx hb d_Meanings_find_28 (lv_at hl 4 rfl) ?_
        refine lv_if_lt (tgt := 63) hx hb d_Meanings_find_30 (by decide) (fun hc2 => ?_) (fun hc2 => ?_)
        · rw [if_pos hc2] at h
          exact (ih.2.2) S L M ls H locs h (lv_sub hl [0, 1, 2, 3, 4, 5] rfl) hP hD hS
        · rw [if_neg hc2] at h
          refine lv_aload_n hx hb d_Meanings_find_33 rfl (lv_at hl 0 rfl) ?_
          refine lv_iload hx hb d_Meanings_find_34 (lv_at hl 4 rfl) ?_
          refine lv_aload_n hx hb d_Meanings_find_36 rfl (lv_at hl 1 rfl) ?_
          refine lv_iload_n hx hb d_Meanings_find_37 rfl (lv_at hl 2 rfl) ?_
          refine lv_iload_n hx hb d_Meanings_find_38 rfl (lv_at hl 3 rfl) ?_
          obtain ⟨⟨r3, T3⟩, hq3, h⟩ := Option.bind_eq_some_iff.mp h
          try dsimp only at h
          refine go_iS (As := [.ref (ad 7), .int (L 4), .ref (ad (shC.1.length + x1)), .int (L 2), .int (L 3)]) (g := g) (A := A) (h := shC) hP hK hD hS hA hN (fun hp => va_runV (As := [.int (L 4), .ref (ad (shC.1.length + x1)), .int (L 2), .int (L 3)]) (rest := []) ⟨hx, hb, hml, hown, htt⟩ (t_Meanings_isNamed l g _ ad S x1 nx1 (L 4 : Int32) (L 2 : Int32) (L 3 : Int32) hx1 k9 r3 T3 hq3) ⟨(cb_L htt k_1207 k_268 k_1204 hd_Meanings_isNamed ⟨(Nat.le_trans (by decide +kernel) hRf), (Nat.le_trans (by decide +kernel) hRl)⟩), htt _ k_1206, htt _ k_13⟩ ⟨hp.1, S_recv hK hP 7 rfl rfl, hp.2⟩ rfl rfl hl.1 rfl (lv_room (Nat.le_of_ble_eq_true rfl)) d_Meanings_find_39 ⟨hRc, hRs⟩) (fun r0 Sn H locs hw9 hP hD hS => ?_)
          obtain ⟨e9, e8⟩ := hw9
          rw [e8] at hP hD
          refine W.widen (k := cells) (n := slots) (Nat.le_refl _) (Nat.le_refl _) ?_
          refine toI (y := r3) e9 ?_
          refine lv_if_eq (tgt := 48) hx hb d_Meanings_find_42 (by decide) (fun hc4 => ?_) (fun hc4 => ?_)
          · rw [if_pos hc4] at h
            refine lv_aload_n hx hb d_Meanings_find_48 rfl (lv_at hl 0 rfl) ?_
            refine S_getR (h := shC) (C := "MacroMill$Meanings") (T := F_Meanings) hx hb htt in_Meanings hown hK hP 7 3 rfl 40 rfl rfl (by decide) (htt _ k_489) (fun _ h9 => h9) d_Meanings_find_49 ?_
            refine lv_iload hx hb d_Meanings_find_52 (lv_at hl 4 rfl) ?_
            obtain ⟨hv5, h⟩ := chk h
            show W _ _ _ _ _ _ _ _ _ _ _ _ _ _ _ (F0 _ 54 _ _)
            refine S_iald (h := shC) (i := L 4) hx hb hK hP 27 rfl (okI_in hv5) d_Meanings_find_54 ?_
            refine lv_istore (lv' := [(4, .int (T3.2.1 27 (L 4 : Int32).toNatClampNeg)), (0, .ref (ad 7)), (1, .ref (ad (shC.1.length + x1))), (2, .int (L 2)), (3, .int (L 3)), (5, .int (L 5))]) hx hb d_Meanings_find_55 hl (by decide) rfl (fun ls hl => ?_)
            refine lv_iinc (k := 5) (v := (L 5) + 1) (lv' := [(5, .int ((L 5) + 1)), (4, .int (T3.2.1 27 (L 4 : Int32).toNatClampNeg)), (0, .ref (ad 7)), (1, .ref (ad (shC.1.length + x1))), (2, .int (L 2)), (3, .int (L 3))]) hx hb d_Meanings_find_57 hl rfl rfl (by decide) rfl (fun ls hl => ?_)
            refine lv_goto (tgt := 20) hx hb d_Meanings_find_60 (by decide) ?_
            exact (ih.2.1) T3 (upd (upd L 4 (T3.2.1 27 (L 4 : Int32).toNatClampNeg)) 5 ((L 5) + 1)) M ls H locs h (lv_sub hl [2, 3, 4, 5, 1, 0] rfl) hP hD hS
          · rw [if_neg hc4] at h
            refine lv_iload hx hb d_Meanings_find_45 (lv_at hl 4 rfl) ?_
            cases h
            exact kx_47 ls H locs hP hD hS
    · intro S L M ls H locs h hl hP hD hS
      simp only [f_Meanings_find] at h
      refine lv_iconst (v := (-1)) hx hb d_Meanings_find_63 (by decide) ?_
      cases h
      exact kx_64 ls H locs hP hD hS
abbrev rm_t_Meanings_find : Room := { frames := 2, cells := 0, slots := 0, locals := 49 }
theorem t_Meanings_find (l : Launch) (g : gG) (sz : Nat) (ad : Nat → Nat) (S : sS) (x1 : Nat) (nx1 : Nat) (v2 : Int32) (v3 : Int32) (hx1 : shC.2[x1]? = some (0, nx1)) (k : Nat) (r : Int32) (S9 : sS) (h : f_Meanings_find x1 nx1 k 0 S (upd (upd (fun _ => 0) 2 v2) 3 v3) (fun _ => 0) = some (r, S9)) : Ci l y_Meanings_find b_Meanings_find 6 rm_t_Meanings_find g [.ref (ad 7), .ref (ad (shC.1.length + x1)), .int v2, .int v3] (Sw shC g ad S) sz (fun r1 w => ∃ S1 : sS, w = Sw shC g ad S1 ∧ r1 = r ∧ S1 = S9) := by
  refine startI (by decide) (Nat.le_of_ble_eq_true rfl) ?_
  intro p e s m below meth c A ls hx hb hr hml hlocks hmn hown htt hN hA hP hK hD hS hl
  exact (w_Meanings_find hx hb hml hown htt hK hN hA (by decide +kernel) (by decide +kernel) (by decide +kernel) (by decide +kernel) x1 nx1 hx1 r S9 (fun ls H locs hP hD hS => fin_i (g := g) (ws := Sw shC g ad S9) hx hb hr hlocks (by decide +kernel) (by decide +kernel) hP hD hS ⟨_, rfl, rfl, rfl⟩ d_Meanings_find_47) (fun ls H locs hP hD hS => fin_i (g := g) (ws := Sw shC g ad S9) hx hb hr hlocks (by decide +kernel) (by decide +kernel) hP hD hS ⟨_, rfl, rfl, rfl⟩ d_Meanings_find_64) k).1 S (upd (upd (fun _ => 0) 2 v2) 3 v3) (fun _ => 0) ls _ _ h hl hP hD hS
def f_Meanings_remove (x1 : Nat) (nx1 : Nat) : Nat → Nat → sS → (Nat → Int32) → (Nat → Int64) → Option (Int32 × sS)
  | 0, _, _, _, _ => none
  | k + 1, 0, S, L, M => (f_MM_hashOf x1 nx1 k 0 S (upd (upd (fun _ => 0) 1 (L 2 : Int32)) 2 (L 3 : Int32)) (fun _ => 0)).bind (fun (r1, T1) => if okI (r1 &&& (255 : Int32)) 256 = true then (f_Meanings_remove x1 nx1 k 1 T1 (upd (upd (upd (upd L 5 (r1 &&& (255 : Int32))) 6 ((-1) : Int32)) 7 (T1.2.1 26 (r1 &&& (255 : Int32) : Int32).toNatClampNeg)) 8 (0 : Int32)) M) else none)
  | k + 1, 1, S, L, M => if (317 : Int32) ≤ (L 8) then (f_Meanings_remove x1 nx1 k 4 S L M) else (if (L 7) < (0 : Int32) then (f_Meanings_remove x1 nx1 k 4 S L M) else (if okI (L 7) 317 = true then ((f_Meanings_isNamed x1 nx1 k 0 S (upd (upd (upd (fun _ => 0) 1 (L 7 : Int32)) 3 (L 2 : Int32)) 4 (L 3 : Int32)) (fun _ => 0)).bind (fun (r4, T4) => if r4 = (0 : Int32) then (f_Meanings_remove x1 nx1 k 3 T4 (upd (upd L 6 (L 7)) 9 (S.2.1 27 (L 7 : Int32).toNatClampNeg)) M) else (if (0 : Int32) ≤ (L 6) then (if okI (L 6) 317 = true then (f_Meanings_remove x1 nx1 k 2 (putA T4 27 (L 6 : Int32).toNatClampNeg (S.2.1 27 (L 7 : Int32).toNatClampNeg)) (upd L 9 (S.2.1 27 (L 7 : Int32).toNatClampNeg)) M) else none) else (if okI (L 5) 256 = true then (f_Meanings_remove x1 nx1 k 2 (putA T4 26 (L 5 : Int32).toNatClampNeg (S.2.1 27 (L 7 : Int32).toNatClampNeg)) (upd L 9 (S.2.1 27 (L 7 : Int32).toNatClampNeg)) M) else none)))) else none))
  | k + 1, 2, S, L, M => (f_Meanings_release k 0 S (upd (fun _ => 0) 1 (L 7 : Int32)) (fun _ => 0)).bind (fun (r1, T1) => if (L 4) = (0 : Int32) then (some ((0 : Int32), T1)) else (f_Meanings_remove x1 nx1 k 3 T1 L M))
  | k + 1, 3, S, L, M => f_Meanings_remove x1 nx1 k 1 S (upd (upd L 7 (L 9)) 8 ((L 8) + 1)) M
  | k + 1, 4, S, L, M => some ((0 : Int32), S)
  | _ + 1, _ + 5, _, _, _ => none
set_option maxHeartbeats 8000000 in
set_option maxRecDepth 100000 in
theorem w_Meanings_remove {p : Program} {l : Launch} {e : Env} {R : Room} {s : State} {m : MethodId} {args : Array Value} {below : List Frame} {meth : Method} {c : Code} {cells slots : Nat} {Q : State → Prop} {g : gG} {A : Nat → Prop} {ad : Nat → Nat} (hx : p.tables.exec = Jvm.exec) (hb : c.code = b_Meanings_remove) (hml : c.maxLocals = 10) (hown : s.vm.findClass "MacroMill$Meanings" = some m.cls) (htt : ∀ w ∈ gt, w.before args s = true) (hK : va_K g.1 classes (tysG g) s) (hN : nw s) (hA : ∀ q : Nat, s.heap.size ≤ q → A q) (hRf : 2 ≤ R.frames) (hRl : 49 ≤ R.locals) (hRc : cells ≤ R.cells) (hRs : slots ≤ R.slots) (x1 : Nat) (nx1 : Nat) (hx1 : shC.2[x1]? = some (0, nx1)) (r : Int32) (S9 : sS)
    (kx_98 : ∀ (ls : Array Slot) (H : Heap) (locs : List Loc), va_P g.1 classes (Sw shC g ad S9) H → va_D A (Sw shC g ad S9) → va_S A s.heap H locs → W p l e R s m args below meth c H locs cells slots Q (F0 m 98 ls []))
    (kx_113 : ∀ (ls : Array Slot) (H : Heap) (locs : List Loc), va_P g.1 classes (Sw shC g ad S9) H → va_D A (Sw shC g ad S9) → va_S A s.heap H locs → W p l e R s m args below meth c H locs cells slots Q (F0 m 113 ls [])) :
    ∀ k9 : Nat, (∀ (S : sS) (L : Nat → Int32) (M : Nat → Int64) (ls : Array Slot) (H : Heap) (locs : List Loc), f_Meanings_remove x1 nx1 k9 0 S L M = some (r, S9) → lv_has ls 10 [(0, .ref (ad 7)), (1, .ref (ad (shC.1.length + x1))), (2, .int (L 2)), (3, .int (L 3)), (4, .int (L 4))] → va_P g.1 classes (Sw shC g ad S) H → va_D A (Sw shC g ad S) → va_S A s.heap H locs → W p l e R s m args below meth c H locs cells slots Q (F0 m 0 ls [])) ∧ (∀ (S : sS) (L : Nat → Int32) (M : Nat → Int64) (ls : Array Slot) (H : Heap) (locs : List Loc), f_Meanings_remove x1 nx1 k9 1 S L M = some (r, S9) → lv_has ls 10 [(0, .ref (ad 7)), (1, .ref (ad (shC.1.length + x1))), (2, .int (L 2)), (3, .int (L 3)), (4, .int (L 4)), (5, .int (L 5)), (6, .int (L 6)), (7, .int (L 7)), (8, .int (L 8))] → va_P g.1 classes (Sw shC g ad S) H → va_D A (Sw shC g ad S) → va_S A s.heap H locs → W p l e R s m args below meth c H locs cells slots Q (F0 m 27 ls [])) ∧ (∀ (S : sS) (L : Nat → Int32) (M : Nat → Int64) (ls : Array Slot) (H : Heap) (locs : List Loc), f_Meanings_remove x1 nx1 k9 2 S L M = some (r, S9) → lv_has ls 10 [(0, .ref (ad 7)), (1, .ref (ad (shC.1.length + x1))), (2, .int (L 2)), (3, .int (L 3)), (4, .int (L 4)), (5, .int (L 5)), (6, .int (L 6)), (7, .int (L 7)), (8, .int (L 8)), (9, .int (L 9))] → va_P g.1 classes (Sw shC g ad S) H → va_D A (Sw shC g ad S) → va_S A s.heap H locs → W p l e R s m args below meth c H locs cells slots Q (F0 m 87 ls [])) ∧ (∀ (S : sS) (L : Nat → Int32) (M : Nat → Int64) (ls : Array Slot) (H : Heap) (locs : List Loc), f_Meanings_remove x1 nx1 k9 3 S L M = some (r, S9) → lv_has ls 10 [(0, .ref (ad 7)), (1, .ref (ad (shC.1.length + x1))), (2, .int (L 2)), (3, .int (L 3)), (4, .int (L 4)), (5, .int (L 5)), (6, .int (L 6)), (7, .int (L 7)), (8, .int (L 8)), (9, .int (L 9))] → va_P g.1 classes (Sw shC g ad S) H → va_D A (Sw shC g ad S) → va_S A s.heap H locs → W p l e R s m args below meth c H locs cells slots Q (F0 m 103 ls [])) ∧ (∀ (S : sS) (L : Nat → Int32) (M : Nat → Int64) (ls : Array Slot) (H : Heap) (locs : List Loc), f_Meanings_remove x1 nx1 k9 4 S L M = some (r, S9) → lv_has ls 10 [(0, .ref (ad 7)), (1, .ref (ad (shC.1.length + x1))), (2, .int (L 2)), (3, .int (L 3)), (4, .int (L 4)), (5, .int (L 5)), (6, .int (L 6)), (7, .int (L 7)), (8, .int (L 8))] → va_P g.1 classes (Sw shC g ad S) H → va_D A (Sw shC g ad S) → va_S A s.heap H locs → W p l e R s m args below meth c H locs cells slots Q (F0 m 113 ls [])) := by
  intro k9
  induction k9 with
  | zero => exact ⟨(fun _ _ _ _ _ _ h => by simp [f_Meanings_remove] at h), (fun _ _ _ _ _ _ h => by simp [f_Meanings_remove] at h), (fun _ _ _ _ _ _ h => by simp [f_Meanings_remove] at h), (fun _ _ _ _ _ _ h => by simp [f_Meanings_remove] at h), (fun _ _ _ _ _ _ h => by simp [f_Meanings_remove] at h)⟩
  | succ k9 ih =>
    refine ⟨?_, ?_, ?_, ?_, ?_⟩
    · intro S L M ls H locs h hl hP hD hS
      simp only [f_Meanings_remove] at h
      refine lv_aload_n hx hb d_Meanings_remove_0 rfl (lv_at hl 1 rfl) ?_
      refine lv_iload_n hx hb d_Meanings_remove_1 rfl (lv_at hl 2 rfl) ?_
      refine lv_iload_n hx hb d_Meanings_remove_2 rfl (lv_at hl 3 rfl) ?_
      obtain ⟨⟨r1, T1⟩, hq1, h⟩ := Option.bind_eq_some_iff.mp h
      try dsimp only at h
      refine go_iS (As := [.ref (ad (shC.1.length + x1)), .int (L 2), .int (L 3)]) (g := g) (A := A) (h := shC) hP hK hD hS hA hN (fun hp => va_runSN (As := [.ref (ad (shC.1.length + x1)), .int (L 2), .int (L 3)]) (rest := []) ⟨hx, hb, hml, hown, htt⟩ (t_MM_hashOf l g _ ad S x1 nx1 (L 2 : Int32) (L 3 : Int32) hx1 k9 r1 T1 hq1) ⟨(cb_N (host := "MacroMill") htt k_1124 k_262 hN nM_6 hd_MM_hashOf ⟨(Nat.le_trans (by decide +kernel) hRf), (Nat.le_trans (by decide +kernel) hRl)⟩), htt _ k_1123, trivial⟩ hp rfl rfl hl.1 rfl (lv_room (Nat.le_of_ble_eq_true rfl)) d_Meanings_remove_3 ⟨hRc, hRs⟩) (fun r0 Sn H locs hw9 hP hD hS => ?_)
      obtain ⟨e9, e8⟩ := hw9
      rw [e8] at hP hD
      refine W.widen (k := cells) (n := slots) (Nat.le_refl _) (Nat.le_refl _) ?_
      refine toI (y := r1) e9 ?_
      refine lv_sipush (v := 255) hx hb d_Meanings_remove_6 (by decide) ?_
      refine lv_iand hx hb d_Meanings_remove_9 ?_
      refine lv_istore (lv' := [(5, .int (r1 &&& (255 : Int32))), (0, .ref (ad 7)), (1, .ref (ad (shC.1.length + x1))), (2, .int (L 2)), (3, .int (L 3)), (4, .int (L 4))]) hx hb d_Meanings_remove_10 hl (by decide) rfl (fun ls hl => ?_)
      refine lv_iconst (v := (-1)) hx hb d_Meanings_remove_12 (by decide) ?_
      refine lv_istore (lv' := [(6, .int (-1)), (5, .int (r1 &&& (255 : Int32))), (0, .ref (ad 7)), (1, .ref (ad (shC.1.length + x1))), (2, .int (L 2)), (3, .int (L 3)), (4, .int (L 4))]) hx hb d_Meanings_remove_13 hl (by decide) rfl (fun ls hl => ?_)
      refine lv_aload_n hx hb d_Meanings_remove_15 rfl (lv_at hl 2 rfl) ?_
      refine S_getR (h := shC) (C := "MacroMill$Meanings") (T := F_Meanings) hx hb htt in_Meanings hown hK hP 7 2 rfl 39 rfl rfl (by decide) (htt _ k_488) (fun _ h9 => h9) d_Meanings_remove_16 ?_
      refine lv_iload hx hb d_Meanings_remove_19 (lv_at hl 1 rfl) ?_
      obtain ⟨hv2, h⟩ := chk h
      show W _ _ _ _ _ _ _ _ _ _ _ _ _ _ _ (F0 _ 21 _ _)
      refine S_iald (h := shC) (i := r1 &&& (255 : Int32)) hx hb hK hP 26 rfl (okI_in hv2) d_Meanings_remove_21 ?_
      refine lv_istore (lv' := [(7, .int (T1.2.1 26 (r1 &&& (255 : Int32) : Int32).toNatClampNeg)), (6, .int (-1)), (5, .int (r1 &&& (255 : Int32))), (0, .ref (ad 7)), (1, .ref (ad (shC.1.length + x1))), (2, .int (L 2)), (3, .int (L 3)), (4, .int (L 4))]) hx hb d_Meanings_remove_22 hl (by decide) rfl (fun ls hl => ?_)
      refine lv_iconst (v := 0) hx hb d_Meanings_remove_24 (by decide) ?_
      refine lv_istore (lv' := [(8, .int 0), (7, .int (T1.2.1 26 (r1 &&& (255 : Int32) : Int32).toNatClampNeg)), (6, .int (-1)), (5, .int (r1 &&& (255 : Int32))), (0, .ref (ad 7)), (1, .ref (ad (shC.1.length + x1))), (2, .int (L 2)), (3, .int (L 3)), (4, .int (L 4))]) hx hb d_Meanings_remove_25 hl (by decide) rfl (fun ls hl => ?_)
      exact (ih.2.1) T1 (upd (upd (upd (upd L 5 (r1 &&& (255 : Int32))) 6 ((-1) : Int32)) 7 (T1.2.1 26 (r1 &&& (255 : Int32) : Int32).toNatClampNeg)) 8 (0 : Int32)) M ls H locs h (lv_sub hl [4, 5, 6, 7, 8, 3, 2, 1, 0] rfl) hP hD hS
    · intro S L M ls H locs h hl hP hD hS
      simp only [f_Meanings_remove] at h
      refine lv_iload hx hb d_Meanings_remove_27 (lv_at hl 8 rfl) ?_
      refine lv_sipush (v := 317) hx hb d_Meanings_remove_29 (by decide) ?_
      refine lv_icmp_ge (tgt := 113) hx hb d_Meanings_remove_32 (by decide) (fun hc1 => ?_) (fun hc1 => ?_)
      · rw [if_pos hc1] at h
        exact (ih.2.2.2.2) S L M ls H locs h (lv_sub hl [0, 1, 2, 3, 4, 5, 6, 7, 8] rfl) hP hD hS
      · rw [if_neg hc1] at h
        refine lv_iload hx hb d_Meanings_remove_35 (lv_at hl 7 rfl) ?_
        refine lv_if_lt (tgt := 113) hx hb d_Meanings_remove_37 (by decide) (fun hc2 => ?_) (fun hc2 => ?_)
        · rw [if_pos hc2] at h
          exact (ih.2.2.2.2) S L M ls H locs h (lv_sub hl [0, 1, 2, 3, 4, 5, 6, 7, 8] rfl) hP hD hS
        · rw [if_neg hc2] at h
          refine lv_aload_n hx hb d_Meanings_remove_40 rfl (lv_at hl 0 rfl) ?_
          refine S_getR (h := shC) (C := "MacroMill$Meanings") (T := F_Meanings) hx hb htt in_Meanings hown hK hP 7 3 rfl 40 rfl rfl (by decide) (htt _ k_489) (fun _ h9 => h9) d_Meanings_remove_41 ?_
          refine lv_iload hx hb d_Meanings_remove_44 (lv_at hl 7 rfl) ?_
          obtain ⟨hv3, h⟩ := chk h
          refine S_iald (h := shC) (i := L 7) hx hb hK hP 27 rfl (okI_in hv3) d_Meanings_remove_46 ?_
          refine lv_istore (lv' := [(9, .int (S.2.1 27 (L 7 : Int32).toNatClampNeg)), (0, .ref (ad 7)), (1, .ref (ad (shC.1.length + x1))), (2, .int (L 2)), (3, .int (L 3)), (4, .int (L 4)), (5, .int (L 5)), (6, .int (L 6)), (7, .int (L 7)), (8, .int (L 8))]) hx hb d_Meanings_remove_47 hl (by decide) rfl (fun ls hl => ?_)
          refine lv_aload_n hx hb d_Meanings_remove_49 rfl (lv_at hl 1 rfl) ?_
          refine lv_iload hx hb d_Meanings_remove_50 (lv_at hl 8 rfl) ?_
          refine lv_aload_n hx hb d_Meanings_remove_52 rfl (lv_at hl 2 rfl) ?_
          show W _ _ _ _ _ _ _ _ _ _ _ _ _ _ _ (F0 _ 53 _ _)
          refine lv_iload_n hx hb d_Meanings_remove_53 rfl (lv_at hl 3 rfl) ?_
          refine lv_iload_n hx hb d_Meanings_remove_54 rfl (lv_at hl 4 rfl) ?_
          obtain ⟨⟨r4, T4⟩, hq4, h⟩ := Option.bind_eq_some_iff.mp h
          try dsimp only at h
          refine go_iS (As := [.ref (ad 7), .int (L 7), .ref (ad (shC.1.length + x1)), .int (L 2), .int (L 3)]) (g := g) (A := A) (h := shC) hP hK hD hS hA hN (fun hp => va_runV (As := [.int (L 7), .ref (ad (shC.1.length + x1)), .int (L 2), .int (L 3)]) (rest := []) ⟨hx, hb, hml, hown, htt⟩ (t_Meanings_isNamed l g _ ad S x1 nx1 (L 7 : Int32) (L 2 : Int32) (L 3 : Int32) hx1 k9 r4 T4 hq4) ⟨(cb_L htt k_1207 k_268 k_1204 hd_Meanings_isNamed ⟨(Nat.le_trans (by decide +kernel) hRf), (Nat.le_trans (by decide +kernel) hRl)⟩), htt _ k_1206, htt _ k_13⟩ ⟨hp.1, S_recv hK hP 7 rfl rfl, hp.2⟩ rfl rfl hl.1 rfl (lv_room (Nat.le_of_ble_eq_true rfl)) d_Meanings_remove_55 ⟨hRc, hRs⟩) (fun r0 Sn H locs hw9 hP hD hS => ?_)
          obtain ⟨e9, e8⟩ := hw9
          rw [e8] at hP hD
          refine W.widen (k := cells) (n := slots) (Nat.le_refl _) (Nat.le_refl _) ?_
          refine toI (y := r4) e9 ?_
          refine lv_if_eq (tgt := 99) hx hb d_Meanings_remove_58 (by decide) (fun hc5 => ?_) (fun hc5 => ?_)
          · rw [if_pos hc5] at h
            refine lv_iload hx hb d_Meanings_remove_99 (lv_at hl 8 rfl) ?_
            refine lv_istore (lv' := [(6, .int (L 7)), (9, .int (S.2.1 27 (L 7 : Int32).toNatClampNeg)), (0, .ref (ad 7)), (1, .ref (ad (shC.1.length + x1))), (2, .int (L 2)), (3, .int (L 3)), (4, .int (L 4)), (5, .int (L 5)), (7, .int (L 7)), (8, .int (L 8))]) hx hb d_Meanings_remove_101 hl (by decide) rfl (fun ls hl => ?_)
            exact (ih.2.2.2.1) T4 (upd (upd L 6 (L 7)) 9 (S.2.1 27 (L 7 : Int32).toNatClampNeg)) M ls H locs h (lv_sub hl [2, 3, 4, 5, 6, 7, 0, 8, 9, 1] rfl) hP hD hS
          · rw [if_neg hc5] at h
            refine lv_iload hx hb d_Meanings_remove_61 (lv_at hl 7 rfl) ?_
            refine lv_if_ge (tgt := 78) hx hb d_Meanings_remove_63 (by decide) (fun hc6 => ?_) (fun hc6 => ?_)
            · rw [if_pos hc6] at h
              refine lv_aload_n hx hb d_Meanings_remove_78 rfl (lv_at hl 1 rfl) ?_
              refine S_getR (h := shC) (C := "MacroMill$Meanings") (T := F_Meanings) hx hb htt in_Meanings hown hK hP 7 3 rfl 40 rfl rfl (by decide) (htt _ k_489) (fun _ h9 => h9) d_Meanings_remove_79 ?_
              refine lv_iload hx hb d_Meanings_remove_82 (lv_at hl 7 rfl) ?_
              refine lv_iload hx hb d_Meanings_remove_84 (lv_at hl 0 rfl) ?_
              obtain ⟨hv7, h⟩ := chk h
              refine S_iast (h := shC) (i := L 6) (v := S.2.1 27 (L 7 : Int32).toNatClampNeg) hx hb hK hP hD hS 27 rfl (okI_in hv7) d_Meanings_remove_86 (fun H locs hP hD hS => ?_)
              exact (ih.2.2.1) (putA T4 27 (L 6 : Int32).toNatClampNeg (S.2.1 27 (L 7 : Int32).toNatClampNeg)) (upd L 9 (S.2.1 27 (L 7 : Int32).toNatClampNeg)) M ls H locs h (lv_sub hl [1, 2, 3, 4, 5, 6, 7, 8, 9, 0] rfl) hP hD hS
            · rw [if_neg hc6] at h
              refine lv_aload_n hx hb d_Meanings_remove_66 rfl (lv_at hl 1 rfl) ?_
              refine S_getR (h := shC) (C := "MacroMill$Meanings") (T := F_Meanings) hx hb htt in_Meanings hown hK hP 7 2 rfl 39 rfl rfl (by decide) (htt _ k_488) (fun _ h9 => h9) d_Meanings_remove_67 ?_
              refine lv_iload hx hb d_Meanings_remove_70 (lv_at hl 6 rfl) ?_
              refine lv_iload hx hb d_Meanings_remove_72 (lv_at hl 0 rfl) ?_
              obtain ⟨hv8, h⟩ := chk h
              refine S_iast (h := shC) (i := L 5) (v := S.2.1 27 (L 7 : Int32).toNatClampNeg) hx hb hK hP hD hS 26 rfl (okI_in hv8) d_Meanings_remove_74 (fun H locs hP hD hS => ?_)
              refine lv_goto (tgt := 87) hx hb d_Meanings_remove_75 (by decide) ?_
              exact (ih.2.2.1) (putA T4 26 (L 5 : Int32).toNatClampNeg (S.2.1 27 (L 7 : Int32).toNatClampNeg)) (upd L 9 (S.2.1 27 (L 7 : Int32).toNatClampNeg)) M ls H locs h (lv_sub hl [1, 2, 3, 4, 5, 6, 7, 8, 9, 0] rfl) hP hD hS
    · intro S L M ls H locs h hl hP hD hS
      simp only [f_Meanings_remove] at h
      refine lv_aload_n hx hb d_Meanings_remove_87 rfl (lv_at hl 0 rfl) ?_
      refine lv_iload hx hb d_Meanings_remove_88 (lv_at hl 7 rfl) ?_
      obtain ⟨⟨r1, T1⟩, hq1, h⟩ := Option.bind_eq_some_iff.mp h
      try dsimp only at h
      refine go_vS (As := [.ref (ad 7), .int (L 7)]) (g := g) (A := A) (h := shC) hP hK hD hS hA hN (fun hp => va_runV (As := [.int (L 7)]) (rest := []) ⟨hx, hb, hml, hown, htt⟩ (t_Meanings_release l g _ ad S (L 7 : Int32) k9 r1 T1 hq1) ⟨(cb_L htt k_1480 k_268 k_1477 hd_Meanings_release ⟨(Nat.le_trans (by decide +kernel) hRf), (Nat.le_trans (by decide +kernel) hRl)⟩), htt _ k_1479, htt _ k_44⟩ ⟨hp.1, S_recv hK hP 7 rfl rfl, hp.2⟩ rfl rfl hl.1 rfl (lv_room (Nat.le_of_ble_eq_true rfl)) d_Meanings_remove_90 ⟨hRc, hRs⟩) (fun Sn H locs hw9 hP hD hS => ?_)
      have e8 := hw9
      rw [e8] at hP hD
      refine W.widen (k := cells) (n := slots) (Nat.le_refl _) (Nat.le_refl _) ?_
      refine lv_iload hx hb d_Meanings_remove_93 (lv_at hl 4 rfl) ?_
      refine lv_if_ne (tgt := 103) hx hb d_Meanings_remove_95 (by decide) (fun hc2 => ?_) (fun hc2 => ?_)
      · rw [if_neg hc2] at h
        exact (ih.2.2.2.1) T1 L M ls H locs h (lv_sub hl [0, 1, 2, 3, 4, 5, 6, 7, 8, 9] rfl) hP hD hS
      · rw [if_pos hc2] at h
        cases h
        exact kx_98 ls H locs hP hD hS
    · intro S L M ls H locs h hl hP hD hS
      simp only [f_Meanings_remove] at h
      refine lv_iload hx hb d_Meanings_remove_103 (lv_at hl 9 rfl) ?_
      refine lv_istore (lv' := [(7, .int (L 9)), (0, .ref (ad 7)), (1, .ref (ad (shC.1.length + x1))), (2, .int (L 2)), (3, .int (L 3)), (4, .int (L 4)), (5, .int (L 5)), (6, .int (L 6)), (8, .int (L 8)), (9, .int (L 9))]) hx hb d_Meanings_remove_105 hl (by decide) rfl (fun ls hl => ?_)
      refine lv_iinc (k := 8) (v := (L 8) + 1) (lv' := [(8, .int ((L 8) + 1)), (7, .int (L 9)), (0, .ref (ad 7)), (1, .ref (ad (shC.1.length + x1))), (2, .int (L 2)), (3, .int (L 3)), (4, .int (L 4)), (5, .int (L 5)), (6, .int (L 6)), (9, .int (L 9))]) hx hb d_Meanings_remove_107 hl rfl rfl (by decide) rfl (fun ls hl => ?_)
      refine lv_goto (tgt := 27) hx hb d_Meanings_remove_110 (by decide) ?_
      exact (ih.2.1) S (upd (upd L 7 (L 9)) 8 ((L 8) + 1)) M ls H locs h (lv_sub hl [2, 3, 4, 5, 6, 7, 8, 1, 0] rfl) hP hD hS
    · intro S L M ls H locs h hl hP hD hS
      simp only [f_Meanings_remove] at h
      cases h
      exact kx_113 ls H locs hP hD hS
abbrev rm_t_Meanings_remove : Room := { frames := 2, cells := 0, slots := 0, locals := 49 }
theorem t_Meanings_remove (l : Launch) (g : gG) (sz : Nat) (ad : Nat → Nat) (S : sS) (x1 : Nat) (nx1 : Nat) (v2 : Int32) (v3 : Int32) (v4 : Int32) (hx1 : shC.2[x1]? = some (0, nx1)) (k : Nat) (r : Int32) (S9 : sS) (h : f_Meanings_remove x1 nx1 k 0 S (upd (upd (upd (fun _ => 0) 2 v2) 3 v3) 4 v4) (fun _ => 0) = some (r, S9)) : Cv l y_Meanings_remove b_Meanings_remove 10 rm_t_Meanings_remove g [.ref (ad 7), .ref (ad (shC.1.length + x1)), .int v2, .int v3, .int v4] (Sw shC g ad S) sz (fun w => ∃ S1 : sS, w = Sw shC g ad S1 ∧ S1 = S9) := by
  refine startV (by decide) (Nat.le_of_ble_eq_true rfl) ?_
  intro p e s m below meth c A ls hx hb hr hml hlocks hmn hown htt hN hA hP hK hD hS hl
  exact (w_Meanings_remove hx hb hml hown htt hK hN hA (by decide +kernel) (by decide +kernel) (by decide +kernel) (by decide +kernel) x1 nx1 hx1 r S9 (fun ls H locs hP hD hS => fin_v (g := g) (ws := Sw shC g ad S9) hx hb hr hlocks (by decide +kernel) (by decide +kernel) hP hD hS ⟨_, rfl, rfl⟩ d_Meanings_remove_98) (fun ls H locs hP hD hS => fin_v (g := g) (ws := Sw shC g ad S9) hx hb hr hlocks (by decide +kernel) (by decide +kernel) hP hD hS ⟨_, rfl, rfl⟩ d_Meanings_remove_113) k).1 S (upd (upd (upd (fun _ => 0) 2 v2) 3 v3) 4 v4) (fun _ => 0) ls _ _ h hl hP hD hS
def f_Second_keepText : Nat → Nat → sS → (Nat → Int32) → (Nat → Int64) → Option (Int32 × sS)
  | 0, _, _, _, _ => none
  | k + 1, 0, S, L, M => (f_Second_isCounting k 0 S (fun _ => 0) (fun _ => 0)).bind (fun (r1, T1) => if r1 = (0 : Int32) then (some ((0 : Int32), T1)) else (if (T1.1 8 13) ≤ (8000 : Int32) then (some ((0 : Int32), (putI T1 11 16 (T1.1 8 13)))) else ((f_Tokens_line k 0 T1 (upd (fun _ => 0) 1 (8000 : Int32)) (fun _ => 0)).bind (fun (r4, T4) => (f_Outcome_fail k 0 T4 (upd (upd (fun _ => 0) 1 (21 : Int32)) 2 (r4 : Int32)) (fun _ => 0)).bind (fun (r5, T5) => some ((0 : Int32), T5))))))
  | _ + 1, _ + 1, _, _, _ => none
set_option maxHeartbeats 8000000 in
set_option maxRecDepth 100000 in
theorem w_Second_keepText {p : Program} {l : Launch} {e : Env} {R : Room} {s : State} {m : MethodId} {args : Array Value} {below : List Frame} {meth : Method} {c : Code} {cells slots : Nat} {Q : State → Prop} {g : gG} {A : Nat → Prop} {ad : Nat → Nat} (hx : p.tables.exec = Jvm.exec) (hb : c.code = b_Second_keepText) (hml : c.maxLocals = 1) (hown : s.vm.findClass "MacroMill$Second" = some m.cls) (htt : ∀ w ∈ gt, w.before args s = true) (hK : va_K g.1 classes (tysG g) s) (hN : nw s) (hA : ∀ q : Nat, s.heap.size ≤ q → A q) (hRf : 1 ≤ R.frames) (hRl : 22 ≤ R.locals) (hRc : cells ≤ R.cells) (hRs : slots ≤ R.slots) (r : Int32) (S9 : sS)
    (kx_7 : ∀ (ls : Array Slot) (H : Heap) (locs : List Loc), va_P g.1 classes (Sw shC g ad S9) H → va_D A (Sw shC g ad S9) → va_S A s.heap H locs → W p l e R s m args below meth c H locs cells slots Q (F0 m 7 ls []))
    (kx_37 : ∀ (ls : Array Slot) (H : Heap) (locs : List Loc), va_P g.1 classes (Sw shC g ad S9) H → va_D A (Sw shC g ad S9) → va_S A s.heap H locs → W p l e R s m args below meth c H locs cells slots Q (F0 m 37 ls []))
    (kx_49 : ∀ (ls : Array Slot) (H : Heap) (locs : List Loc), va_P g.1 classes (Sw shC g ad S9) H → va_D A (Sw shC g ad S9) → va_S A s.heap H locs → W p l e R s m args below meth c H locs cells slots Q (F0 m 49 ls [])) :
    ∀ k9 : Nat, (∀ (S : sS) (L : Nat → Int32) (M : Nat → Int64) (ls : Array Slot) (H : Heap) (locs : List Loc), f_Second_keepText k9 0 S L M = some (r, S9) → lv_has ls 1 [(0, .ref (ad 8))] → va_P g.1 classes (Sw shC g ad S) H → va_D A (Sw shC g ad S) → va_S A s.heap H locs → W p l e R s m args below meth c H locs cells slots Q (F0 m 0 ls [])) := by
  intro k9
  induction k9 with
  | zero => exact (fun _ _ _ _ _ _ h => by simp [f_Second_keepText] at h)
  | succ k9 ih =>
    · intro S L M ls H locs h hl hP hD hS
      simp only [f_Second_keepText] at h
      refine lv_aload_n hx hb d_Second_keepText_0 rfl (lv_at hl 0 rfl) ?_
      obtain ⟨⟨r1, T1⟩, hq1, h⟩ := Option.bind_eq_some_iff.mp h
      try dsimp only at h
      refine go_iS (As := [.ref (ad 8)]) (g := g) (A := A) (h := shC) hP hK hD hS hA hN (fun hp => va_runV (As := []) (rest := []) ⟨hx, hb, hml, hown, htt⟩ (t_Second_isCounting l g _ ad S k9 r1 T1 hq1) ⟨(cb_L htt k_1992 k_270 k_1989 hd_Second_isCounting ⟨(Nat.le_trans (by decide +kernel) hRf), (Nat.le_trans (by decide +kernel) hRl)⟩), htt _ k_1991, htt _ k_94⟩ ⟨hp.1, S_recv hK hP 8 rfl rfl, hp.2⟩ rfl rfl hl.1 rfl (lv_room (Nat.le_of_ble_eq_true rfl)) d_Second_keepText_1 ⟨hRc, hRs⟩) (fun r0 Sn H locs hw9 hP hD hS => ?_)
      obtain ⟨e9, e8⟩ := hw9
      rw [e8] at hP hD
      refine W.widen (k := cells) (n := slots) (Nat.le_refl _) (Nat.le_refl _) ?_
      refine toI (y := r1) e9 ?_
      refine lv_if_ne (tgt := 8) hx hb d_Second_keepText_4 (by decide) (fun hc2 => ?_) (fun hc2 => ?_)
      · rw [if_neg hc2] at h
        refine lv_aload_n hx hb d_Second_keepText_8 rfl (lv_at hl 0 rfl) ?_
        refine S_getI (h := shC) (C := "MacroMill$Second") (T := F_Second) hx hb htt in_Second hown hK hP 8 13 rfl rfl rfl (by decide) (htt _ k_910) (fun _ h9 => h9) d_Second_keepText_9 ?_
        refine lv_sipush (v := 8000) hx hb d_Second_keepText_12 (by decide) ?_
        refine lv_icmp_le (tgt := 38) hx hb d_Second_keepText_15 (by decide) (fun hc3 => ?_) (fun hc3 => ?_)
        · rw [if_pos hc3] at h
          refine lv_aload_n hx hb d_Second_keepText_38 rfl (lv_at hl 0 rfl) ?_
          refine S_getR (h := shC) (C := "MacroMill$Second") (T := F_Second) hx hb htt in_Second hown hK hP 8 5 rfl 11 rfl rfl (by decide) (htt _ k_902) (fun _ h9 => h9) d_Second_keepText_39 ?_
          refine lv_aload_n hx hb d_Second_keepText_42 rfl (lv_at hl 0 rfl) ?_
          refine S_getI (h := shC) (C := "MacroMill$Second") (T := F_Second) hx hb htt in_Second hown hK hP 8 13 rfl rfl rfl (by decide) (htt _ k_910) (fun _ h9 => h9) d_Second_keepText_43 ?_
          refine S_put (h := shC) (C := "MacroMill$Lines") (T := F_Lines) (v := T1.1 8 13) hx hb htt in_Lines t_Lines t_Lines_ok n_Lines hown hK hP hD hS 11 16 rfl rfl rfl (by decide) (htt _ k_777) (fun _ h9 => h9) rfl rfl rfl d_Second_keepText_46 (fun H locs hP hD hS => ?_)
          cases h
          exact kx_49 ls H locs hP hD hS
        · rw [if_neg hc3] at h
          refine lv_aload_n hx hb d_Second_keepText_18 rfl (lv_at hl 0 rfl) ?_
          refine S_getR (h := shC) (C := "MacroMill$Second") (T := F_Second) hx hb htt in_Second hown hK hP 8 1 rfl 2 rfl rfl (by decide) (htt _ k_897) (fun _ h9 => h9) d_Second_keepText_19 ?_
          refine lv_bipush (v := 21) hx hb d_Second_keepText_22 (by decide) ?_
          refine lv_aload_n hx hb d_Second_keepText_24 rfl (lv_at hl 0 rfl) ?_
          refine S_getR (h := shC) (C := "MacroMill$Second") (T := F_Second) hx hb htt in_Second hown hK hP 8 3 rfl 9 rfl rfl (by decide) (htt _ k_899) (fun _ h9 => h9) d_Second_keepText_25 ?_
          refine lv_sipush (v := 8000) hx hb d_Second_keepText_28 (by decide) ?_
          obtain ⟨⟨r4, T4⟩, hq4, h⟩ := Option.bind_eq_some_iff.mp h
          try dsimp only at h
          refine go_iS (As := [.ref (ad 9), .int 8000]) (g := g) (A := A) (h := shC) hP hK hD hS hA hN (fun hp => va_runV (As := [.int 8000]) (rest := [.int 21, .ref (ad 2)]) ⟨hx, hb, hml, hown, htt⟩ (t_Tokens_line l g _ ad T1 (8000 : Int32) k9 r4 T4 hq4) ⟨(cb_L htt k_1704 k_271 k_1974 hd_Tokens_line ⟨(Nat.le_trans (by decide +kernel) hRf), (Nat.le_trans (by decide +kernel) hRl)⟩), htt _ k_1702, htt _ k_1703⟩ ⟨hp.1, S_recv hK hP 9 rfl rfl, hp.2⟩ rfl rfl hl.1 rfl (lv_room (Nat.le_of_ble_eq_true rfl)) d_Second_keepText_31 ⟨hRc, hRs⟩) (fun r0 Sn H locs hw9 hP hD hS => ?_)
          obtain ⟨e9, e8⟩ := hw9
          rw [e8] at hP hD
          refine W.widen (k := cells) (n := slots) (Nat.le_refl _) (Nat.le_refl _) ?_
          refine toI (y := r4) e9 ?_
          obtain ⟨⟨r5, T5⟩, hq5, h⟩ := Option.bind_eq_some_iff.mp h
          try dsimp only at h
          refine go_vS (As := [.ref (ad 2), .int 21, .int r4]) (g := g) (A := A) (h := shC) hP hK hD hS hA hN (fun hp => va_runV (As := [.int 21, .int r4]) (rest := []) ⟨hx, hb, hml, hown, htt⟩ (t_Outcome_fail l g _ ad T4 (21 : Int32) (r4 : Int32) k9 r5 T5 hq5) ⟨(cb_L htt k_1163 k_264 k_2001 hd_Outcome_fail ⟨(Nat.le_trans (by decide +kernel) hRf), (Nat.le_trans (by decide +kernel) hRl)⟩), htt _ k_1161, htt _ k_1162⟩ ⟨hp.1, S_recv hK hP 2 rfl rfl, hp.2⟩ rfl rfl hl.1 rfl (lv_room (Nat.le_of_ble_eq_true rfl)) d_Second_keepText_34 ⟨hRc, hRs⟩) (fun Sn H locs hw9 hP hD hS => ?_)
          have e8 := hw9
          rw [e8] at hP hD
          refine W.widen (k := cells) (n := slots) (Nat.le_refl _) (Nat.le_refl _) ?_
          cases h
          exact kx_37 ls H locs hP hD hS
      · rw [if_pos hc2] at h
        cases h
        exact kx_7 ls H locs hP hD hS
abbrev rm_t_Second_keepText : Room := { frames := 1, cells := 0, slots := 0, locals := 22 }
theorem t_Second_keepText (l : Launch) (g : gG) (sz : Nat) (ad : Nat → Nat) (S : sS) (k : Nat) (r : Int32) (S9 : sS) (h : f_Second_keepText k 0 S (fun _ => 0) (fun _ => 0) = some (r, S9)) : Cv l y_Second_keepText b_Second_keepText 1 rm_t_Second_keepText g [.ref (ad 8)] (Sw shC g ad S) sz (fun w => ∃ S1 : sS, w = Sw shC g ad S1 ∧ S1 = S9) := by
  refine startV (by decide) (Nat.le_of_ble_eq_true rfl) ?_
  intro p e s m below meth c A ls hx hb hr hml hlocks hmn hown htt hN hA hP hK hD hS hl
  exact (w_Second_keepText hx hb hml hown htt hK hN hA (by decide +kernel) (by decide +kernel) (by decide +kernel) (by decide +kernel) r S9 (fun ls H locs hP hD hS => fin_v (g := g) (ws := Sw shC g ad S9) hx hb hr hlocks (by decide +kernel) (by decide +kernel) hP hD hS ⟨_, rfl, rfl⟩ d_Second_keepText_7) (fun ls H locs hP hD hS => fin_v (g := g) (ws := Sw shC g ad S9) hx hb hr hlocks (by decide +kernel) (by decide +kernel) hP hD hS ⟨_, rfl, rfl⟩ d_Second_keepText_37) (fun ls H locs hP hD hS => fin_v (g := g) (ws := Sw shC g ad S9) hx hb hr hlocks (by decide +kernel) (by decide +kernel) hP hD hS ⟨_, rfl, rfl⟩ d_Second_keepText_49) k) S (fun _ => 0) (fun _ => 0) ls _ _ h hl hP hD hS
def f_Second_endFile : Nat → Nat → sS → (Nat → Int32) → (Nat → Int64) → Option (Int32 × sS)
  | 0, _, _, _, _ => none
  | k + 1, 0, S, L, M => if okI ((S.1 11 11) - (1 : Int32)) 22 = true then (if (S.1 8 9) ≤ ((putI S 11 16 0).2.1 34 ((S.1 11 11) - (1 : Int32) : Int32).toNatClampNeg) then ((f_Lines_endFile k 0 (putI S 11 16 0) (fun _ => 0) (fun _ => 0)).bind (fun (r3, T3) => some ((0 : Int32), T3))) else (if okI ((S.1 8 9) - (1 : Int32)) 100 = true then ((f_Outcome_fail k 0 (putI S 11 16 0) (upd (upd (fun _ => 0) 1 (14 : Int32)) 2 ((putI S 11 16 0).2.1 32 ((S.1 8 9) - (1 : Int32) : Int32).toNatClampNeg : Int32)) (fun _ => 0)).bind (fun (r5, T5) => some ((0 : Int32), T5))) else none)) else none
  | _ + 1, _ + 1, _, _, _ => none
set_option maxHeartbeats 8000000 in
set_option maxRecDepth 100000 in
theorem w_Second_endFile {p : Program} {l : Launch} {e : Env} {R : Room} {s : State} {m : MethodId} {args : Array Value} {below : List Frame} {meth : Method} {c : Code} {cells slots : Nat} {Q : State → Prop} {g : gG} {A : Nat → Prop} {ad : Nat → Nat} (hx : p.tables.exec = Jvm.exec) (hb : c.code = b_Second_endFile) (hml : c.maxLocals = 1) (hown : s.vm.findClass "MacroMill$Second" = some m.cls) (htt : ∀ w ∈ gt, w.before args s = true) (hK : va_K g.1 classes (tysG g) s) (hN : nw s) (hA : ∀ q : Nat, s.heap.size ≤ q → A q) (hRf : 1 ≤ R.frames) (hRl : 22 ≤ R.locals) (hRc : cells ≤ R.cells) (hRs : slots ≤ R.slots) (r : Int32) (S9 : sS)
    (kx_49 : ∀ (ls : Array Slot) (H : Heap) (locs : List Loc), va_P g.1 classes (Sw shC g ad S9) H → va_D A (Sw shC g ad S9) → va_S A s.heap H locs → W p l e R s m args below meth c H locs cells slots Q (F0 m 49 ls []))
    (kx_57 : ∀ (ls : Array Slot) (H : Heap) (locs : List Loc), va_P g.1 classes (Sw shC g ad S9) H → va_D A (Sw shC g ad S9) → va_S A s.heap H locs → W p l e R s m args below meth c H locs cells slots Q (F0 m 57 ls [])) :
    ∀ k9 : Nat, (∀ (S : sS) (L : Nat → Int32) (M : Nat → Int64) (ls : Array Slot) (H : Heap) (locs : List Loc), f_Second_endFile k9 0 S L M = some (r, S9) → lv_has ls 1 [(0, .ref (ad 8))] → va_P g.1 classes (Sw shC g ad S) H → va_D A (Sw shC g ad S) → va_S A s.heap H locs → W p l e R s m args below meth c H locs cells slots Q (F0 m 0 ls [])) := by
  intro k9
  induction k9 with
  | zero => exact (fun _ _ _ _ _ _ h => by simp [f_Second_endFile] at h)
  | succ k9 ih =>
    · intro S L M ls H locs h hl hP hD hS
      simp only [f_Second_endFile] at h
      refine lv_aload_n hx hb d_Second_endFile_0 rfl (lv_at hl 0 rfl) ?_
      refine S_getR (h := shC) (C := "MacroMill$Second") (T := F_Second) hx hb htt in_Second hown hK hP 8 5 rfl 11 rfl rfl (by decide) (htt _ k_902) (fun _ h9 => h9) d_Second_endFile_1 ?_
      refine lv_iconst (v := 0) hx hb d_Second_endFile_4 (by decide) ?_
      refine S_put (h := shC) (C := "MacroMill$Lines") (T := F_Lines) (v := 0) hx hb htt in_Lines t_Lines t_Lines_ok n_Lines hown hK hP hD hS 11 16 rfl rfl rfl (by decide) (htt _ k_777) (fun _ h9 => h9) rfl rfl rfl d_Second_endFile_5 (fun H locs hP hD hS => ?_)
      refine lv_aload_n hx hb d_Second_endFile_8 rfl (lv_at hl 0 rfl) ?_
      refine S_getI (h := shC) (C := "MacroMill$Second") (T := F_Second) hx hb htt in_Second hown hK hP 8 9 rfl rfl rfl (by decide) (htt _ k_906) (fun _ h9 => h9) d_Second_endFile_9 ?_
      refine toI (y := S.1 8 9) rfl ?_
      refine lv_aload_n hx hb d_Second_endFile_12 rfl (lv_at hl 0 rfl) ?_
      refine S_getR (h := shC) (C := "MacroMill$Second") (T := F_Second) hx hb htt in_Second hown hK hP 8 10 rfl 47 rfl rfl (by decide) (htt _ k_907) (fun _ h9 => h9) d_Second_endFile_13 ?_
      refine lv_aload_n hx hb d_Second_endFile_16 rfl (lv_at hl 0 rfl) ?_
      refine S_getR (h := shC) (C := "MacroMill$Second") (T := F_Second) hx hb htt in_Second hown hK hP 8 5 rfl 11 rfl rfl (by decide) (htt _ k_902) (fun _ h9 => h9) d_Second_endFile_17 ?_
      refine S_getI (h := shC) (C := "MacroMill$Lines") (T := F_Lines) hx hb htt in_Lines hown hK hP 11 11 rfl rfl rfl (by decide) (htt _ k_771) (fun _ h9 => h9) d_Second_endFile_20 ?_
      refine toI (y := S.1 11 11) rfl ?_
      show W _ _ _ _ _ _ _ _ _ _ _ _ _ _ _ (F0 _ 23 _ _)
      refine lv_iconst (v := 1) hx hb d_Second_endFile_23 (by decide) ?_
      refine lv_isub hx hb d_Second_endFile_24 ?_
      obtain ⟨hv1, h⟩ := chk h
      refine S_iald (h := shC) (i := (S.1 11 11) - (1 : Int32)) hx hb hK hP 34 rfl (okI_in hv1) d_Second_endFile_25 ?_
      refine lv_icmp_le (tgt := 50) hx hb d_Second_endFile_26 (by decide) (fun hc2 => ?_) (fun hc2 => ?_)
      · rw [if_pos hc2] at h
        refine lv_aload_n hx hb d_Second_endFile_50 rfl (lv_at hl 0 rfl) ?_
        refine S_getR (h := shC) (C := "MacroMill$Second") (T := F_Second) hx hb htt in_Second hown hK hP 8 5 rfl 11 rfl rfl (by decide) (htt _ k_902) (fun _ h9 => h9) d_Second_endFile_51 ?_
        obtain ⟨⟨r3, T3⟩, hq3, h⟩ := Option.bind_eq_some_iff.mp h
        try dsimp only at h
        refine go_vS (As := [.ref (ad 11)]) (g := g) (A := A) (h := shC) hP hK hD hS hA hN (fun hp => va_runV (As := []) (rest := []) ⟨hx, hb, hml, hown, htt⟩ (t_Lines_endFile l g _ ad (putI S 11 16 0) k9 r3 T3 hq3) ⟨(cb_L htt k_2147 k_273 k_2144 hd_Lines_endFile ⟨(Nat.le_trans (by decide +kernel) hRf), (Nat.le_trans (by decide +kernel) hRl)⟩), htt _ k_2145, htt _ k_2146⟩ ⟨hp.1, S_recv hK hP 11 rfl rfl, hp.2⟩ rfl rfl hl.1 rfl (lv_room (Nat.le_of_ble_eq_true rfl)) d_Second_endFile_54 ⟨hRc, hRs⟩) (fun Sn H locs hw9 hP hD hS => ?_)
        have e8 := hw9
        rw [e8] at hP hD
        refine W.widen (k := cells) (n := slots) (Nat.le_refl _) (Nat.le_refl _) ?_
        cases h
        exact kx_57 ls H locs hP hD hS
      · rw [if_neg hc2] at h
        refine lv_aload_n hx hb d_Second_endFile_29 rfl (lv_at hl 0 rfl) ?_
        refine S_getR (h := shC) (C := "MacroMill$Second") (T := F_Second) hx hb htt in_Second hown hK hP 8 1 rfl 2 rfl rfl (by decide) (htt _ k_897) (fun _ h9 => h9) d_Second_endFile_30 ?_
        refine lv_bipush (v := 14) hx hb d_Second_endFile_33 (by decide) ?_
        refine lv_aload_n hx hb d_Second_endFile_35 rfl (lv_at hl 0 rfl) ?_
        refine S_getR (h := shC) (C := "MacroMill$Second") (T := F_Second) hx hb htt in_Second hown hK hP 8 7 rfl 45 rfl rfl (by decide) (htt _ k_904) (fun _ h9 => h9) d_Second_endFile_36 ?_
        refine lv_aload_n hx hb d_Second_endFile_39 rfl (lv_at hl 0 rfl) ?_
        refine S_getI (h := shC) (C := "MacroMill$Second") (T := F_Second) hx hb htt in_Second hown hK hP 8 9 rfl rfl rfl (by decide) (htt _ k_906) (fun _ h9 => h9) d_Second_endFile_40 ?_
        refine toI (y := S.1 8 9) rfl ?_
        refine lv_iconst (v := 1) hx hb d_Second_endFile_43 (by decide) ?_
        refine lv_isub hx hb d_Second_endFile_44 ?_
        obtain ⟨hv4, h⟩ := chk h
        show W _ _ _ _ _ _ _ _ _ _ _ _ _ _ _ (F0 _ 45 _ _)
        refine S_iald (h := shC) (i := (S.1 8 9) - (1 : Int32)) hx hb hK hP 32 rfl (okI_in hv4) d_Second_endFile_45 ?_
        obtain ⟨⟨r5, T5⟩, hq5, h⟩ := Option.bind_eq_some_iff.mp h
        try dsimp only at h
        refine go_vS (As := [.ref (ad 2), .int 14, .int ((putI S 11 16 0).2.1 32 ((S.1 8 9) - (1 : Int32) : Int32).toNatClampNeg)]) (g := g) (A := A) (h := shC) hP hK hD hS hA hN (fun hp => va_runV (As := [.int 14, .int ((putI S 11 16 0).2.1 32 ((S.1 8 9) - (1 : Int32) : Int32).toNatClampNeg)]) (rest := []) ⟨hx, hb, hml, hown, htt⟩ (t_Outcome_fail l g _ ad (putI S 11 16 0) (14 : Int32) ((putI S 11 16 0).2.1 32 ((S.1 8 9) - (1 : Int32) : Int32).toNatClampNeg : Int32) k9 r5 T5 hq5) ⟨(cb_L htt k_1163 k_264 k_2001 hd_Outcome_fail ⟨(Nat.le_trans (by decide +kernel) hRf), (Nat.le_trans (by decide +kernel) hRl)⟩), htt _ k_1161, htt _ k_1162⟩ ⟨hp.1, S_recv hK hP 2 rfl rfl, hp.2⟩ rfl rfl hl.1 rfl (lv_room (Nat.le_of_ble_eq_true rfl)) d_Second_endFile_46 ⟨hRc, hRs⟩) (fun Sn H locs hw9 hP hD hS => ?_)
        have e8 := hw9
        rw [e8] at hP hD
        refine W.widen (k := cells) (n := slots) (Nat.le_refl _) (Nat.le_refl _) ?_
        cases h
        exact kx_49 ls H locs hP hD hS
abbrev rm_t_Second_endFile : Room := { frames := 1, cells := 0, slots := 0, locals := 22 }
theorem t_Second_endFile (l : Launch) (g : gG) (sz : Nat) (ad : Nat → Nat) (S : sS) (k : Nat) (r : Int32) (S9 : sS) (h : f_Second_endFile k 0 S (fun _ => 0) (fun _ => 0) = some (r, S9)) : Cv l y_Second_endFile b_Second_endFile 1 rm_t_Second_endFile g [.ref (ad 8)] (Sw shC g ad S) sz (fun w => ∃ S1 : sS, w = Sw shC g ad S1 ∧ S1 = S9) := by
  refine startV (by decide) (Nat.le_of_ble_eq_true rfl) ?_
  intro p e s m below meth c A ls hx hb hr hml hlocks hmn hown htt hN hA hP hK hD hS hl
  exact (w_Second_endFile hx hb hml hown htt hK hN hA (by decide +kernel) (by decide +kernel) (by decide +kernel) (by decide +kernel) r S9 (fun ls H locs hP hD hS => fin_v (g := g) (ws := Sw shC g ad S9) hx hb hr hlocks (by decide +kernel) (by decide +kernel) hP hD hS ⟨_, rfl, rfl⟩ d_Second_endFile_49) (fun ls H locs hP hD hS => fin_v (g := g) (ws := Sw shC g ad S9) hx hb hr hlocks (by decide +kernel) (by decide +kernel) hP hD hS ⟨_, rfl, rfl⟩ d_Second_endFile_57) k) S (fun _ => 0) (fun _ => 0) ls _ _ h hl hP hD hS
def f_Second_findMacro : Nat → Nat → sS → (Nat → Int32) → (Nat → Int64) → Option (Int32 × sS)
  | 0, _, _, _, _ => none
  | k + 1, 0, S, L, M => (f_Tokens_from k 0 S (upd (fun _ => 0) 1 (L 1 : Int32)) (fun _ => 0)).bind (fun (r1, T1) => (f_Tokens_length k 0 T1 (upd (fun _ => 0) 1 (L 1 : Int32)) (fun _ => 0)).bind (fun (r2, T2) => (f_Macros_find 37 125538 k 0 T2 (upd (upd (fun _ => 0) 2 (r1 : Int32)) 3 (r2 : Int32)) (fun _ => 0)).bind (fun (r3, T3) => some (r3, T3))))
  | _ + 1, _ + 1, _, _, _ => none
set_option maxHeartbeats 8000000 in
set_option maxRecDepth 100000 in
theorem w_Second_findMacro {p : Program} {l : Launch} {e : Env} {R : Room} {s : State} {m : MethodId} {args : Array Value} {below : List Frame} {meth : Method} {c : Code} {cells slots : Nat} {Q : State → Prop} {g : gG} {A : Nat → Prop} {ad : Nat → Nat} (hx : p.tables.exec = Jvm.exec) (hb : c.code = b_Second_findMacro) (hml : c.maxLocals = 2) (hown : s.vm.findClass "MacroMill$Second" = some m.cls) (htt : ∀ w ∈ gt, w.before args s = true) (hK : va_K g.1 classes (tysG g) s) (hN : nw s) (hA : ∀ q : Nat, s.heap.size ≤ q → A q) (hRf : 2 ≤ R.frames) (hRl : 51 ≤ R.locals) (hRc : cells ≤ R.cells) (hRs : slots ≤ R.slots) (r : Int32) (S9 : sS)
    (kx_30 : ∀ (ls : Array Slot) (H : Heap) (locs : List Loc), va_P g.1 classes (Sw shC g ad S9) H → va_D A (Sw shC g ad S9) → va_S A s.heap H locs → W p l e R s m args below meth c H locs cells slots Q (F0 m 30 ls [.int r])) :
    ∀ k9 : Nat, (∀ (S : sS) (L : Nat → Int32) (M : Nat → Int64) (ls : Array Slot) (H : Heap) (locs : List Loc), f_Second_findMacro k9 0 S L M = some (r, S9) → lv_has ls 2 [(0, .ref (ad 8)), (1, .int (L 1))] → va_P g.1 classes (Sw shC g ad S) H → va_D A (Sw shC g ad S) → va_S A s.heap H locs → W p l e R s m args below meth c H locs cells slots Q (F0 m 0 ls [])) := by
  intro k9
  induction k9 with
  | zero => exact (fun _ _ _ _ _ _ h => by simp [f_Second_findMacro] at h)
  | succ k9 ih =>
    · intro S L M ls H locs h hl hP hD hS
      simp only [f_Second_findMacro] at h
      refine lv_aload_n hx hb d_Second_findMacro_0 rfl (lv_at hl 0 rfl) ?_
      refine S_getR (h := shC) (C := "MacroMill$Second") (T := F_Second) hx hb htt in_Second hown hK hP 8 4 rfl 10 rfl rfl (by decide) (htt _ k_900) (fun _ h9 => h9) d_Second_findMacro_1 ?_
      refine lv_aload_n hx hb d_Second_findMacro_4 rfl (lv_at hl 0 rfl) ?_
      refine S_getR (h := shC) (C := "MacroMill$Second") (T := F_Second) hx hb htt in_Second hown hK hP 8 3 rfl 9 rfl rfl (by decide) (htt _ k_899) (fun _ h9 => h9) d_Second_findMacro_5 ?_
      refine S_getR (h := shC) (C := "MacroMill$Tokens") (T := F_Tokens) hx hb htt in_Tokens hown hK hP 9 0 rfl 50 rfl rfl (by decide) (htt _ k_636) (fun _ h9 => h9) d_Second_findMacro_8 ?_
      refine lv_aload_n hx hb d_Second_findMacro_11 rfl (lv_at hl 0 rfl) ?_
      refine S_getR (h := shC) (C := "MacroMill$Second") (T := F_Second) hx hb htt in_Second hown hK hP 8 3 rfl 9 rfl rfl (by decide) (htt _ k_899) (fun _ h9 => h9) d_Second_findMacro_12 ?_
      refine lv_iload_n hx hb d_Second_findMacro_15 rfl (lv_at hl 1 rfl) ?_
      obtain ⟨⟨r1, T1⟩, hq1, h⟩ := Option.bind_eq_some_iff.mp h
      try dsimp only at h
      refine go_iS (As := [.ref (ad 9), .int (L 1)]) (g := g) (A := A) (h := shC) hP hK hD hS hA hN (fun hp => va_runV (As := [.int (L 1)]) (rest := [.ref (ad 50), .ref (ad 10)]) ⟨hx, hb, hml, hown, htt⟩ (t_Tokens_from l g _ ad S (L 1 : Int32) k9 r1 T1 hq1) ⟨(cb_L htt k_1716 k_271 k_1984 hd_Tokens_from ⟨(Nat.le_trans (by decide +kernel) hRf), (Nat.le_trans (by decide +kernel) hRl)⟩), htt _ k_1714, htt _ k_1715⟩ ⟨hp.1, S_recv hK hP 9 rfl rfl, hp.2⟩ rfl rfl hl.1 rfl (lv_room (Nat.le_of_ble_eq_true rfl)) d_Second_findMacro_16 ⟨hRc, hRs⟩) (fun r0 Sn H locs hw9 hP hD hS => ?_)
      obtain ⟨e9, e8⟩ := hw9
      rw [e8] at hP hD
      refine W.widen (k := cells) (n := slots) (Nat.le_refl _) (Nat.le_refl _) ?_
      refine toI (y := r1) e9 ?_
      refine lv_aload_n hx hb d_Second_findMacro_19 rfl (lv_at hl 0 rfl) ?_
      refine S_getR (h := shC) (C := "MacroMill$Second") (T := F_Second) hx hb htt in_Second hown hK hP 8 3 rfl 9 rfl rfl (by decide) (htt _ k_899) (fun _ h9 => h9) d_Second_findMacro_20 ?_
      refine lv_iload_n hx hb d_Second_findMacro_23 rfl (lv_at hl 1 rfl) ?_
      obtain ⟨⟨r2, T2⟩, hq2, h⟩ := Option.bind_eq_some_iff.mp h
      try dsimp only at h
      refine go_iS (As := [.ref (ad 9), .int (L 1)]) (g := g) (A := A) (h := shC) hP hK hD hS hA hN (fun hp => va_runV (As := [.int (L 1)]) (rest := [.int r1, .ref (ad 50), .ref (ad 10)]) ⟨hx, hb, hml, hown, htt⟩ (t_Tokens_length l g _ ad T1 (L 1 : Int32) k9 r2 T2 hq2) ⟨(cb_L htt k_1712 k_271 k_1983 hd_Tokens_length ⟨(Nat.le_trans (by decide +kernel) hRf), (Nat.le_trans (by decide +kernel) hRl)⟩), htt _ k_1710, htt _ k_1711⟩ ⟨hp.1, S_recv hK hP 9 rfl rfl, hp.2⟩ rfl rfl hl.1 rfl (lv_room (Nat.le_of_ble_eq_true rfl)) d_Second_findMacro_24 ⟨hRc, hRs⟩) (fun r0 Sn H locs hw9 hP hD hS => ?_)
      obtain ⟨e9, e8⟩ := hw9
      rw [e8] at hP hD
      refine W.widen (k := cells) (n := slots) (Nat.le_refl _) (Nat.le_refl _) ?_
      refine toI (y := r2) e9 ?_
      obtain ⟨⟨r3, T3⟩, hq3, h⟩ := Option.bind_eq_some_iff.mp h
      try dsimp only at h
      refine go_iS (As := [.ref (ad 10), .ref (ad 50), .int r1, .int r2]) (g := g) (A := A) (h := shC) hP hK hD hS hA hN (fun hp => va_runV (As := [.ref (ad 50), .int r1, .int r2]) (rest := []) ⟨hx, hb, hml, hown, htt⟩ (t_Macros_find l g _ ad T2 37 125538 (r1 : Int32) (r2 : Int32) rfl k9 r3 T3 hq3) ⟨(cb_L htt k_1739 k_272 k_2016 hd_Macros_find ⟨(Nat.le_trans (by decide +kernel) hRf), (Nat.le_trans (by decide +kernel) hRl)⟩), htt _ k_1737, htt _ k_1738⟩ ⟨hp.1, S_recv hK hP 10 rfl rfl, hp.2⟩ rfl rfl hl.1 rfl (lv_room (Nat.le_of_ble_eq_true rfl)) d_Second_findMacro_27 ⟨hRc, hRs⟩) (fun r0 Sn H locs hw9 hP hD hS => ?_)
      obtain ⟨e9, e8⟩ := hw9
      rw [e8] at hP hD
      refine W.widen (k := cells) (n := slots) (Nat.le_refl _) (Nat.le_refl _) ?_
      refine toI (y := r3) e9 ?_
      cases h
      exact kx_30 ls H locs hP hD hS
abbrev rm_t_Second_findMacro : Room := { frames := 2, cells := 0, slots := 0, locals := 51 }
theorem t_Second_findMacro (l : Launch) (g : gG) (sz : Nat) (ad : Nat → Nat) (S : sS) (v1 : Int32) (k : Nat) (r : Int32) (S9 : sS) (h : f_Second_findMacro k 0 S (upd (fun _ => 0) 1 v1) (fun _ => 0) = some (r, S9)) : Ci l y_Second_findMacro b_Second_findMacro 2 rm_t_Second_findMacro g [.ref (ad 8), .int v1] (Sw shC g ad S) sz (fun r1 w => ∃ S1 : sS, w = Sw shC g ad S1 ∧ r1 = r ∧ S1 = S9) := by
  refine startI (by decide) (Nat.le_of_ble_eq_true rfl) ?_
  intro p e s m below meth c A ls hx hb hr hml hlocks hmn hown htt hN hA hP hK hD hS hl
  exact (w_Second_findMacro hx hb hml hown htt hK hN hA (by decide +kernel) (by decide +kernel) (by decide +kernel) (by decide +kernel) r S9 (fun ls H locs hP hD hS => fin_i (g := g) (ws := Sw shC g ad S9) hx hb hr hlocks (by decide +kernel) (by decide +kernel) hP hD hS ⟨_, rfl, rfl, rfl⟩ d_Second_findMacro_30) k) S (upd (fun _ => 0) 1 v1) (fun _ => 0) ls _ _ h hl hP hD hS
def f_Second_isMacro : Nat → Nat → sS → (Nat → Int32) → (Nat → Int64) → Option (Int32 × sS)
  | 0, _, _, _, _ => none
  | k + 1, 0, S, L, M => (f_Second_findMacro k 0 S (upd (fun _ => 0) 1 (L 1 : Int32)) (fun _ => 0)).bind (fun (r1, T1) => if r1 < (0 : Int32) then (f_Second_isMacro k 1 T1 (upd L 2 r1) M) else ((f_Macros_isThere k 0 T1 (upd (fun _ => 0) 1 (r1 : Int32)) (fun _ => 0)).bind (fun (r3, T3) => if r3 = (0 : Int32) then (f_Second_isMacro k 1 T3 (upd L 2 r1) M) else (f_Second_isMacro k 2 T3 (upd (upd L 2 r1) 100 (1 : Int32)) M))))
  | k + 1, 1, S, L, M => f_Second_isMacro k 2 S (upd L 100 (0 : Int32)) M
  | k + 1, 2, S, L, M => if bz (L 100) = true then some (L 100, S) else none
  | _ + 1, _ + 3, _, _, _ => none
set_option maxHeartbeats 8000000 in
set_option maxRecDepth 100000 in
theorem w_Second_isMacro {p : Program} {l : Launch} {e : Env} {R : Room} {s : State} {m : MethodId} {args : Array Value} {below : List Frame} {meth : Method} {c : Code} {cells slots : Nat} {Q : State → Prop} {g : gG} {A : Nat → Prop} {ad : Nat → Nat} (hx : p.tables.exec = Jvm.exec) (hb : c.code = b_Second_isMacro) (hml : c.maxLocals = 3) (hown : s.vm.findClass "MacroMill$Second" = some m.cls) (htt : ∀ w ∈ gt, w.before args s = true) (hK : va_K g.1 classes (tysG g) s) (hN : nw s) (hA : ∀ q : Nat, s.heap.size ≤ q → A q) (hRf : 3 ≤ R.frames) (hRl : 72 ≤ R.locals) (hRc : cells ≤ R.cells) (hRs : slots ≤ R.slots) (r : Int32) (S9 : sS)
    (kx_26 : ∀ (ls : Array Slot) (H : Heap) (locs : List Loc), narrow .boolean (.int r) = .int r → va_P g.1 classes (Sw shC g ad S9) H → va_D A (Sw shC g ad S9) → va_S A s.heap H locs → W p l e R s m args below meth c H locs cells slots Q (F0 m 26 ls [.int r])) :
    ∀ k9 : Nat, (∀ (S : sS) (L : Nat → Int32) (M : Nat → Int64) (ls : Array Slot) (H : Heap) (locs : List Loc), f_Second_isMacro k9 0 S L M = some (r, S9) → lv_has ls 3 [(0, .ref (ad 8)), (1, .int (L 1))] → va_P g.1 classes (Sw shC g ad S) H → va_D A (Sw shC g ad S) → va_S A s.heap H locs → W p l e R s m args below meth c H locs cells slots Q (F0 m 0 ls [])) ∧ (∀ (S : sS) (L : Nat → Int32) (M : Nat → Int64) (ls : Array Slot) (H : Heap) (locs : List Loc), f_Second_isMacro k9 1 S L M = some (r, S9) → lv_has ls 3 [(0, .ref (ad 8)), (1, .int (L 1)), (2, .int (L 2))] → va_P g.1 classes (Sw shC g ad S) H → va_D A (Sw shC g ad S) → va_S A s.heap H locs → W p l e R s m args below meth c H locs cells slots Q (F0 m 25 ls [])) ∧ (∀ (S : sS) (L : Nat → Int32) (M : Nat → Int64) (ls : Array Slot) (H : Heap) (locs : List Loc), f_Second_isMacro k9 2 S L M = some (r, S9) → lv_has ls 3 [(0, .ref (ad 8)), (1, .int (L 1)), (2, .int (L 2))] → va_P g.1 classes (Sw shC g ad S) H → va_D A (Sw shC g ad S) → va_S A s.heap H locs → W p l e R s m args below meth c H locs cells slots Q (F0 m 26 ls [.int (L 100)])) := by
  intro k9
  induction k9 with
  | zero => exact ⟨(fun _ _ _ _ _ _ h => by simp [f_Second_isMacro] at h), (fun _ _ _ _ _ _ h => by simp [f_Second_isMacro] at h), (fun _ _ _ _ _ _ h => by simp [f_Second_isMacro] at h)⟩
  | succ k9 ih =>
    refine ⟨?_, ?_, ?_⟩
    · intro S L M ls H locs h hl hP hD hS
      simp only [f_Second_isMacro] at h
      refine lv_aload_n hx hb d_Second_isMacro_0 rfl (lv_at hl 0 rfl) ?_
      refine lv_iload_n hx hb d_Second_isMacro_1 rfl (lv_at hl 1 rfl) ?_
      obtain ⟨⟨r1, T1⟩, hq1, h⟩ := Option.bind_eq_some_iff.mp h
      try dsimp only at h
      refine go_iS (As := [.ref (ad 8), .int (L 1)]) (g := g) (A := A) (h := shC) hP hK hD hS hA hN (fun hp => va_runV (As := [.int (L 1)]) (rest := []) ⟨hx, hb, hml, hown, htt⟩ (t_Second_findMacro l g _ ad S (L 1 : Int32) k9 r1 T1 hq1) ⟨(cb_L htt k_2015 k_270 k_2012 hd_Second_findMacro ⟨(Nat.le_trans (by decide +kernel) hRf), (Nat.le_trans (by decide +kernel) hRl)⟩), htt _ k_2014, htt _ k_99⟩ ⟨hp.1, S_recv hK hP 8 rfl rfl, hp.2⟩ rfl rfl hl.1 rfl (lv_room (Nat.le_of_ble_eq_true rfl)) d_Second_isMacro_2 ⟨hRc, hRs⟩) (fun r0 Sn H locs hw9 hP hD hS => ?_)
      obtain ⟨e9, e8⟩ := hw9
      rw [e8] at hP hD
      refine W.widen (k := cells) (n := slots) (Nat.le_refl _) (Nat.le_refl _) ?_
      refine toI (y := r1) e9 ?_
      refine lv_istore_n (lv' := [(2, .int r1), (0, .ref (ad 8)), (1, .int (L 1))]) hx hb d_Second_isMacro_5 rfl hl (by decide) rfl (fun ls hl => ?_)
      refine lv_iload_n hx hb d_Second_isMacro_6 rfl (lv_at hl 0 rfl) ?_
      refine lv_if_lt (tgt := 25) hx hb d_Second_isMacro_7 (by decide) (fun hc2 => ?_) (fun hc2 => ?_)
      · rw [if_pos hc2] at h
        exact (ih.2.1) T1 (upd L 2 r1) M ls H locs h (lv_sub hl [1, 2, 0] rfl) hP hD hS
      · rw [if_neg hc2] at h
        refine lv_aload_n hx hb d_Second_isMacro_10 rfl (lv_at hl 1 rfl) ?_
        refine S_getR (h := shC) (C := "MacroMill$Second") (T := F_Second) hx hb htt in_Second hown hK hP 8 4 rfl 10 rfl rfl (by decide) (htt _ k_900) (fun _ h9 => h9) d_Second_isMacro_11 ?_
        refine lv_iload_n hx hb d_Second_isMacro_14 rfl (lv_at hl 0 rfl) ?_
        obtain ⟨⟨r3, T3⟩, hq3, h⟩ := Option.bind_eq_some_iff.mp h
        try dsimp only at h
        refine go_iS (As := [.ref (ad 10), .int r1]) (g := g) (A := A) (h := shC) hP hK hD hS hA hN (fun hp => va_runV (As := [.int r1]) (rest := []) ⟨hx, hb, hml, hown, htt⟩ (t_Macros_isThere l g _ ad T1 (r1 : Int32) k9 r3 T3 hq3) ⟨(cb_L htt k_1751 k_272 k_2017 hd_Macros_isThere ⟨(Nat.le_trans (by decide +kernel) hRf), (Nat.le_trans (by decide +kernel) hRl)⟩), htt _ k_1749, htt _ k_1750⟩ ⟨hp.1, S_recv hK hP 10 rfl rfl, hp.2⟩ rfl rfl hl.1 rfl (lv_room (Nat.le_of_ble_eq_true rfl)) d_Second_isMacro_15 ⟨hRc, hRs⟩) (fun r0 Sn H locs hw9 hP hD hS => ?_)
        obtain ⟨e9, e8⟩ := hw9
        rw [e8] at hP hD
        refine W.widen (k := cells) (n := slots) (Nat.le_refl _) (Nat.le_refl _) ?_
        refine toI (y := r3) e9 ?_
        refine lv_if_eq (tgt := 25) hx hb d_Second_isMacro_18 (by decide) (fun hc4 => ?_) (fun hc4 => ?_)
        · rw [if_pos hc4] at h
          exact (ih.2.1) T3 (upd L 2 r1) M ls H locs h (lv_sub hl [1, 2, 0] rfl) hP hD hS
        · rw [if_neg hc4] at h
          refine lv_iconst (v := 1) hx hb d_Second_isMacro_21 (by decide) ?_
          refine lv_goto (tgt := 26) hx hb d_Second_isMacro_22 (by decide) ?_
          exact (ih.2.2) T3 (upd (upd L 2 r1) 100 (1 : Int32)) M ls H locs h (lv_sub hl [1, 2, 0] rfl) hP hD hS
    · intro S L M ls H locs h hl hP hD hS
      simp only [f_Second_isMacro] at h
      refine lv_iconst (v := 0) hx hb d_Second_isMacro_25 (by decide) ?_
      exact (ih.2.2) S (upd L 100 (0 : Int32)) M ls H locs h (lv_sub hl [0, 1, 2] rfl) hP hD hS
    · intro S L M ls H locs h hl hP hD hS
      simp only [f_Second_isMacro] at h
      obtain ⟨hv1, h⟩ := chk h
      cases h
      exact kx_26 ls H locs (bz_n hv1) hP hD hS
abbrev rm_t_Second_isMacro : Room := { frames := 3, cells := 0, slots := 0, locals := 72 }
theorem t_Second_isMacro (l : Launch) (g : gG) (sz : Nat) (ad : Nat → Nat) (S : sS) (v1 : Int32) (k : Nat) (r : Int32) (S9 : sS) (h : f_Second_isMacro k 0 S (upd (fun _ => 0) 1 v1) (fun _ => 0) = some (r, S9)) : Cz l y_Second_isMacro b_Second_isMacro 3 rm_t_Second_isMacro g [.ref (ad 8), .int v1] (Sw shC g ad S) sz (fun r1 w => ∃ S1 : sS, w = Sw shC g ad S1 ∧ r1 = r ∧ S1 = S9) := by
  refine startZ (by decide) (Nat.le_of_ble_eq_true rfl) ?_
  intro p e s m below meth c A ls hx hb hr hml hlocks hmn hown htt hN hA hP hK hD hS hl
  exact (w_Second_isMacro hx hb hml hown htt hK hN hA (by decide +kernel) (by decide +kernel) (by decide +kernel) (by decide +kernel) r S9 (fun ls H locs hz hP hD hS => fin_z (g := g) (ws := Sw shC g ad S9) hx hb hr hlocks hz (by decide +kernel) (by decide +kernel) hP hD hS ⟨_, rfl, rfl, rfl⟩ d_Second_isMacro_26) k).1 S (upd (fun _ => 0) 1 v1) (fun _ => 0) ls _ _ h hl hP hD hS
def f_Second_takeNumber : Nat → Nat → sS → (Nat → Int32) → (Nat → Int64) → Option (Int32 × sS)
  | 0, _, _, _, _ => none
  | k + 1, 0, S, L, M => if okI (L 1) 125538 = true then (if (S.2.1 37 (L 1 : Int32).toNatClampNeg) = (48 : Int32) then (f_Second_takeNumber k 1 S (upd L 100 (1 : Int32)) M) else (f_Second_takeNumber k 1 S (upd L 100 (0 : Int32)) M)) else none
  | k + 1, 1, S, L, M => if (L 100) = (0 : Int32) then (f_Second_takeNumber k 2 S (upd L 4 (L 100)) M) else (if (L 2) ≤ ((L 1) + (1 : Int32)) then (f_Second_takeNumber k 2 S (upd L 4 (L 100)) M) else (if okI ((L 1) + (1 : Int32)) 125538 = true then (if ((S.2.1 37 ((L 1) + (1 : Int32) : Int32).toNatClampNeg) ||| (32 : Int32)) = (120 : Int32) then (f_Second_takeNumber k 3 S (upd (upd L 4 (L 100)) 100 (1 : Int32)) M) else (f_Second_takeNumber k 2 S (upd L 4 (L 100)) M)) else none))
  | k + 1, 2, S, L, M => f_Second_takeNumber k 3 S (upd L 100 (0 : Int32)) M
  | k + 1, 3, S, L, M => if (L 100) = (0 : Int32) then (if (L 4) = (0 : Int32) then (f_Second_takeNumber k 4 S (upd (upd L 5 (L 100)) 100 (10 : Int32)) M) else (f_Second_takeNumber k 4 S (upd (upd L 5 (L 100)) 100 (8 : Int32)) M)) else (f_Second_takeNumber k 4 S (upd (upd L 5 (L 100)) 100 (16 : Int32)) M)
  | k + 1, 4, S, L, M => if (L 5) = (0 : Int32) then (f_Second_takeNumber k 5 S (upd (upd L 6 (L 100)) 100 (L 1)) M) else (f_Second_takeNumber k 5 S (upd (upd L 6 (L 100)) 100 ((L 1) + (2 : Int32))) M)
  | k + 1, 5, S, L, M => f_Second_takeNumber k 6 S (upd (upd L 7 (L 100)) 8 (L 100)) (vp_updL M 9 (0 : Int64))
  | k + 1, 6, S, L, M => if (L 2) ≤ (L 8) then (f_Second_takeNumber k 8 S L M) else (if okI (L 8) 125538 = true then ((f_Second_digitOf k 0 S (upd (fun _ => 0) 0 (S.2.1 37 (L 8 : Int32).toNatClampNeg : Int32)) (fun _ => 0)).bind (fun (r3, T3) => if (L 6) ≤ r3 then (f_Second_takeNumber k 8 T3 L M) else (if okI (L 8) 125538 = true then ((f_Second_digitOf k 0 T3 (upd (fun _ => 0) 0 (T3.2.1 37 (L 8 : Int32).toNatClampNeg : Int32)) (fun _ => 0)).bind (fun (r6, T6) => (f_Second_isTooLarge k 0 T6 (upd (upd (fun _ => 0) 2 (L 6 : Int32)) 3 (r6 : Int32)) (vp_updL (fun _ => 0) 0 (M 9 : Int64))).bind (fun (r7, T7) => if r7 = (0 : Int32) then (f_Second_takeNumber k 7 T7 L M) else ((f_Reckoner_spoil k 0 T7 (fun _ => 0) (fun _ => 0)).bind (fun (r9, T9) => f_Second_takeNumber k 7 T9 L M))))) else none))) else none)
  | k + 1, 7, S, L, M => if okI (L 8) 125538 = true then ((f_Second_digitOf k 0 S (upd (fun _ => 0) 0 (S.2.1 37 (L 8 : Int32).toNatClampNeg : Int32)) (fun _ => 0)).bind (fun (r2, T2) => f_Second_takeNumber k 6 T2 (upd L 8 ((L 8) + 1)) (vp_updL M 9 (((M 9) * ((L 6).toInt64)) + r2.toInt64)))) else none
  | k + 1, 8, S, L, M => (f_Second_suffixOf k 0 S (upd (upd (fun _ => 0) 1 (L 8 : Int32)) 2 (L 2 : Int32)) (fun _ => 0)).bind (fun (r1, T1) => if (L 8) = (L 7) then (f_Second_takeNumber k 9 T1 (upd L 11 r1) M) else (if r1 < (0 : Int32) then (f_Second_takeNumber k 9 T1 (upd L 11 r1) M) else (if r1 = (0 : Int32) then (if (L 6) = (10 : Int32) then (if (0 : Int32) ≤ (lg_cmp (M 9) (0 : Int64)) then (f_Second_takeNumber k 10 T1 (upd L 11 r1) M) else (f_Second_takeNumber k 9 T1 (upd L 11 r1) M)) else (f_Second_takeNumber k 10 T1 (upd L 11 r1) M)) else (f_Second_takeNumber k 10 T1 (upd L 11 r1) M))))
  | k + 1, 9, S, L, M => (f_Reckoner_spoil k 0 S (fun _ => 0) (fun _ => 0)).bind (fun (r1, T1) => f_Second_takeNumber k 10 T1 L M)
  | k + 1, 10, S, L, M => if (0 : Int32) < (L 11) then (f_Second_takeNumber k 11 S L (vp_updL M 101 (M 9))) else (if (0 : Int32) ≤ (lg_cmp (M 9) (0 : Int64)) then (f_Second_takeNumber k 12 S (upd L 102 (0 : Int32)) (vp_updL M 101 (M 9))) else (f_Second_takeNumber k 11 S L (vp_updL M 101 (M 9))))
  | k + 1, 11, S, L, M => f_Second_takeNumber k 12 S (upd L 102 (1 : Int32)) M
  | k + 1, 12, S, L, M => (f_Reckoner_takeNumber k 0 S (upd (fun _ => 0) 3 (L 102 : Int32)) (vp_updL (fun _ => 0) 1 (M 101 : Int64))).bind (fun (r1, T1) => some ((0 : Int32), T1))
  | _ + 1, _ + 13, _, _, _ => none
set_option maxHeartbeats 8000000 in
set_option maxRecDepth 100000 in
theorem w_Second_takeNumber {p : Program} {l : Launch} {e : Env} {R : Room} {s : State} {m : MethodId} {args : Array Value} {below : List Frame} {meth : Method} {c : Code} {cells slots : Nat} {Q : State → Prop} {g : gG} {A : Nat → Prop} {ad : Nat → Nat} (hx : p.tables.exec = Jvm.exec) (hb : c.code = b_Second_takeNumber) (hml : c.maxLocals = 12) (hown : s.vm.findClass "MacroMill$Second" = some m.cls) (htt : ∀ w ∈ gt, w.before args s = true) (hK : va_K g.1 classes (tysG g) s) (hN : nw s) (hA : ∀ q : Nat, s.heap.size ≤ q → A q) (hRf : 3 ≤ R.frames) (hRl : 67 ≤ R.locals) (hRc : cells ≤ R.cells) (hRs : slots ≤ R.slots) (r : Int32) (S9 : sS)
    (kx_238 : ∀ (ls : Array Slot) (H : Heap) (locs : List Loc), va_P g.1 classes (Sw shC g ad S9) H → va_D A (Sw shC g ad S9) → va_S A s.heap H locs → W p l e R s m args below meth c H locs cells slots Q (F0 m 238 ls [])) :
    ∀ k9 : Nat, (∀ (S : sS) (L : Nat → Int32) (M : Nat → Int64) (ls : Array Slot) (H : Heap) (locs : List Loc), f_Second_takeNumber k9 0 S L M = some (r, S9) → lv_has ls 12 [(0, .ref (ad 8)), (1, .int (L 1)), (2, .int (L 2))] → va_P g.1 classes (Sw shC g ad S) H → va_D A (Sw shC g ad S) → va_S A s.heap H locs → W p l e R s m args below meth c H locs cells slots Q (F0 m 0 ls [])) ∧ (∀ (S : sS) (L : Nat → Int32) (M : Nat → Int64) (ls : Array Slot) (H : Heap) (locs : List Loc), f_Second_takeNumber k9 1 S L M = some (r, S9) → lv_has ls 12 [(0, .ref (ad 8)), (1, .int (L 1)), (2, .int (L 2)), (3, .ref (ad 50))] → va_P g.1 classes (Sw shC g ad S) H → va_D A (Sw shC g ad S) → va_S A s.heap H locs → W p l e R s m args below meth c H locs cells slots Q (F0 m 21 ls [.int (L 100)])) ∧ (∀ (S : sS) (L : Nat → Int32) (M : Nat → Int64) (ls : Array Slot) (H : Heap) (locs : List Loc), f_Second_takeNumber k9 2 S L M = some (r, S9) → lv_has ls 12 [(0, .ref (ad 8)), (1, .int (L 1)), (2, .int (L 2)), (3, .ref (ad 50)), (4, .int (L 4))] → va_P g.1 classes (Sw shC g ad S) H → va_D A (Sw shC g ad S) → va_S A s.heap H locs → W p l e R s m args below meth c H locs cells slots Q (F0 m 52 ls [])) ∧ (∀ (S : sS) (L : Nat → Int32) (M : Nat → Int64) (ls : Array Slot) (H : Heap) (locs : List Loc), f_Second_takeNumber k9 3 S L M = some (r, S9) → lv_has ls 12 [(0, .ref (ad 8)), (1, .int (L 1)), (2, .int (L 2)), (3, .ref (ad 50)), (4, .int (L 4))] → va_P g.1 classes (Sw shC g ad S) H → va_D A (Sw shC g ad S) → va_S A s.heap H locs → W p l e R s m args below meth c H locs cells slots Q (F0 m 53 ls [.int (L 100)])) ∧ (∀ (S : sS) (L : Nat → Int32) (M : Nat → Int64) (ls : Array Slot) (H : Heap) (locs : List Loc), f_Second_takeNumber k9 4 S L M = some (r, S9) → lv_has ls 12 [(0, .ref (ad 8)), (1, .int (L 1)), (2, .int (L 2)), (3, .ref (ad 50)), (4, .int (L 4)), (5, .int (L 5))] → va_P g.1 classes (Sw shC g ad S) H → va_D A (Sw shC g ad S) → va_S A s.heap H locs → W p l e R s m args below meth c H locs cells slots Q (F0 m 77 ls [.int (L 100)])) ∧ (∀ (S : sS) (L : Nat → Int32) (M : Nat → Int64) (ls : Array Slot) (H : Heap) (locs : List Loc), f_Second_takeNumber k9 5 S L M = some (r, S9) → lv_has ls 12 [(0, .ref (ad 8)), (1, .int (L 1)), (2, .int (L 2)), (3, .ref (ad 50)), (4, .int (L 4)), (5, .int (L 5)), (6, .int (L 6))] → va_P g.1 classes (Sw shC g ad S) H → va_D A (Sw shC g ad S) → va_S A s.heap H locs → W p l e R s m args below meth c H locs cells slots Q (F0 m 91 ls [.int (L 100)])) ∧ (∀ (S : sS) (L : Nat → Int32) (M : Nat → Int64) (ls : Array Slot) (H : Heap) (locs : List Loc), f_Second_takeNumber k9 6 S L M = some (r, S9) → lv_has ls 12 [(0, .ref (ad 8)), (1, .int (L 1)), (2, .int (L 2)), (3, .ref (ad 50)), (4, .int (L 4)), (5, .int (L 5)), (6, .int (L 6)), (7, .int (L 7)), (8, .int (L 8)), (9, .long (M 9))] → va_P g.1 classes (Sw shC g ad S) H → va_D A (Sw shC g ad S) → va_S A s.heap H locs → W p l e R s m args below meth c H locs cells slots Q (F0 m 100 ls [])) ∧ (∀ (S : sS) (L : Nat → Int32) (M : Nat → Int64) (ls : Array Slot) (H : Heap) (locs : List Loc), f_Second_takeNumber k9 7 S L M = some (r, S9) → lv_has ls 12 [(0, .ref (ad 8)), (1, .int (L 1)), (2, .int (L 2)), (3, .ref (ad 50)), (4, .int (L 4)), (5, .int (L 5)), (6, .int (L 6)), (7, .int (L 7)), (8, .int (L 8)), (9, .long (M 9))] → va_P g.1 classes (Sw shC g ad S) H → va_D A (Sw shC g ad S) → va_S A s.heap H locs → W p l e R s m args below meth c H locs cells slots Q (F0 m 142 ls [])) ∧ (∀ (S : sS) (L : Nat → Int32) (M : Nat → Int64) (ls : Array Slot) (H : Heap) (locs : List Loc), f_Second_takeNumber k9 8 S L M = some (r, S9) → lv_has ls 12 [(0, .ref (ad 8)), (1, .int (L 1)), (2, .int (L 2)), (3, .ref (ad 50)), (4, .int (L 4)), (5, .int (L 5)), (6, .int (L 6)), (7, .int (L 7)), (8, .int (L 8)), (9, .long (M 9))] → va_P g.1 classes (Sw shC g ad S) H → va_D A (Sw shC g ad S) → va_S A s.heap H locs → W p l e R s m args below meth c H locs cells slots Q (F0 m 165 ls [])) ∧ (∀ (S : sS) (L : Nat → Int32) (M : Nat → Int64) (ls : Array Slot) (H : Heap) (locs : List Loc), f_Second_takeNumber k9 9 S L M = some (r, S9) → lv_has ls 12 [(0, .ref (ad 8)), (1, .int (L 1)), (2, .int (L 2)), (3, .ref (ad 50)), (4, .int (L 4)), (5, .int (L 5)), (6, .int (L 6)), (7, .int (L 7)), (8, .int (L 8)), (9, .long (M 9)), (11, .int (L 11))] → va_P g.1 classes (Sw shC g ad S) H → va_D A (Sw shC g ad S) → va_S A s.heap H locs → W p l e R s m args below meth c H locs cells slots Q (F0 m 205 ls [])) ∧ (∀ (S : sS) (L : Nat → Int32) (M : Nat → Int64) (ls : Array Slot) (H : Heap) (locs : List Loc), f_Second_takeNumber k9 10 S L M = some (r, S9) → lv_has ls 12 [(0, .ref (ad 8)), (1, .int (L 1)), (2, .int (L 2)), (3, .ref (ad 50)), (4, .int (L 4)), (5, .int (L 5)), (6, .int (L 6)), (7, .int (L 7)), (8, .int (L 8)), (9, .long (M 9)), (11, .int (L 11))] → va_P g.1 classes (Sw shC g ad S) H → va_D A (Sw shC g ad S) → va_S A s.heap H locs → W p l e R s m args below meth c H locs cells slots Q (F0 m 212 ls [])) ∧ (∀ (S : sS) (L : Nat → Int32) (M : Nat → Int64) (ls : Array Slot) (H : Heap) (locs : List Loc), f_Second_takeNumber k9 11 S L M = some (r, S9) → lv_has ls 12 [(0, .ref (ad 8)), (1, .int (L 1)), (2, .int (L 2)), (3, .ref (ad 50)), (4, .int (L 4)), (5, .int (L 5)), (6, .int (L 6)), (7, .int (L 7)), (8, .int (L 8)), (9, .long (M 9)), (11, .int (L 11))] → va_P g.1 classes (Sw shC g ad S) H → va_D A (Sw shC g ad S) → va_S A s.heap H locs → W p l e R s m args below meth c H locs cells slots Q (F0 m 230 ls [.long (M 101), .ref (ad 3)])) ∧ (∀ (S : sS) (L : Nat → Int32) (M : Nat → Int64) (ls : Array Slot) (H : Heap) (locs : List Loc), f_Second_takeNumber k9 12 S L M = some (r, S9) → lv_has ls 12 [(0, .ref (ad 8)), (1, .int (L 1)), (2, .int (L 2)), (3, .ref (ad 50)), (4, .int (L 4)), (5, .int (L 5)), (6, .int (L 6)), (7, .int (L 7)), (8, .int (L 8)), (9, .long (M 9)), (11, .int (L 11))] → va_P g.1 classes (Sw shC g ad S) H → va_D A (Sw shC g ad S) → va_S A s.heap H locs → W p l e R s m args below meth c H locs cells slots Q (F0 m 235 ls [.int (L 102), .long (M 101), .ref (ad 3)])) := by
  intro k9
  induction k9 with
  | zero => exact ⟨(fun _ _ _ _ _ _ h => by simp [f_Second_takeNumber] at h), (fun _ _ _ _ _ _ h => by simp [f_Second_takeNumber] at h), (fun _ _ _ _ _ _ h => by simp [f_Second_takeNumber] at h), (fun _ _ _ _ _ _ h => by simp [f_Second_takeNumber] at h), (fun _ _ _ _ _ _ h => by simp [f_Second_takeNumber] at h), (fun _ _ _ _ _ _ h => by simp [f_Second_takeNumber] at h), (fun _ _ _ _ _ _ h => by simp [f_Second_takeNumber] at h), (fun _ _ _ _ _ _ h => by simp [f_Second_takeNumber] at h), (fun _ _ _ _ _ _ h => by simp [f_Second_takeNumber] at h), (fun _ _ _ _ _ _ h => by simp [f_Second_takeNumber] at h), (fun _ _ _ _ _ _ h => by simp [f_Second_takeNumber] at h), (fun _ _ _ _ _ _ h => by simp [f_Second_takeNumber] at h), (fun _ _ _ _ _ _ h => by simp [f_Second_takeNumber] at h)⟩
  | succ k9 ih =>
    refine ⟨?_, ?_, ?_, ?_, ?_, ?_, ?_, ?_, ?_, ?_, ?_, ?_, ?_⟩
    · intro S L M ls H locs h hl hP hD hS
      simp only [f_Second_takeNumber] at h
      refine lv_aload_n hx hb d_Second_takeNumber_0 rfl (lv_at hl 0 rfl) ?_
      refine S_getR (h := shC) (C := "MacroMill$Second") (T := F_Second) hx hb htt in_Second hown hK hP 8 3 rfl 9 rfl rfl (by decide) (htt _ k_899) (fun _ h9 => h9) d_Second_takeNumber_1 ?_
      refine S_getR (h := shC) (C := "MacroMill$Tokens") (T := F_Tokens) hx hb htt in_Tokens hown hK hP 9 0 rfl 50 rfl rfl (by decide) (htt _ k_636) (fun _ h9 => h9) d_Second_takeNumber_4 ?_
      refine lv_astore_n (lv' := [(3, .ref (ad 50)), (0, .ref (ad 8)), (1, .int (L 1)), (2, .int (L 2))]) hx hb d_Second_takeNumber_7 rfl hl (by decide) rfl (fun ls hl => ?_)
      refine lv_aload_n hx hb d_Second_takeNumber_8 rfl (lv_at hl 0 rfl) ?_
      refine lv_iload_n hx hb d_Second_takeNumber_9 rfl (lv_at hl 2 rfl) ?_
      obtain ⟨hv1, h⟩ := chk h
      refine S_bald (h := shC) (i := L 1) hx hb hK hP 37 rfl (okI_in hv1) d_Second_takeNumber_10 ?_
      refine lv_bipush (v := 48) hx hb d_Second_takeNumber_11 (by decide) ?_
      refine lv_icmp_ne (tgt := 20) hx hb d_Second_takeNumber_13 (by decide) (fun hc2 => ?_) (fun hc2 => ?_)
      · rw [if_neg hc2] at h
        refine lv_iconst (v := 0) hx hb d_Second_takeNumber_20 (by decide) ?_
        exact (ih.2.1) S (upd L 100 (0 : Int32)) M ls H locs h (lv_sub hl [1, 2, 3, 0] rfl) hP hD hS
      · rw [if_pos hc2] at h
        refine lv_iconst (v := 1) hx hb d_Second_takeNumber_16 (by decide) ?_
        refine lv_goto (tgt := 21) hx hb d_Second_takeNumber_17 (by decide) ?_
        exact (ih.2.1) S (upd L 100 (1 : Int32)) M ls H locs h (lv_sub hl [1, 2, 3, 0] rfl) hP hD hS
    · intro S L M ls H locs h hl hP hD hS
      simp only [f_Second_takeNumber] at h
      refine lv_istore (lv' := [(4, .int (L 100)), (0, .ref (ad 8)), (1, .int (L 1)), (2, .int (L 2)), (3, .ref (ad 50))]) hx hb d_Second_takeNumber_21 hl (by decide) rfl (fun ls hl => ?_)
      refine lv_iload hx hb d_Second_takeNumber_23 (lv_at hl 0 rfl) ?_
      refine lv_if_eq (tgt := 52) hx hb d_Second_takeNumber_25 (by decide) (fun hc1 => ?_) (fun hc1 => ?_)
      · rw [if_pos hc1] at h
        exact (ih.2.2.1) S (upd L 4 (L 100)) M ls H locs h (lv_sub hl [1, 2, 3, 4, 0] rfl) hP hD hS
      · rw [if_neg hc1] at h
        refine lv_iload_n hx hb d_Second_takeNumber_28 rfl (lv_at hl 2 rfl) ?_
        refine lv_iconst (v := 1) hx hb d_Second_takeNumber_29 (by decide) ?_
        refine lv_iadd hx hb d_Second_takeNumber_30 ?_
        refine lv_iload_n hx hb d_Second_takeNumber_31 rfl (lv_at hl 3 rfl) ?_
        refine lv_icmp_ge (tgt := 52) hx hb d_Second_takeNumber_32 (by decide) (fun hc2 => ?_) (fun hc2 => ?_)
        · rw [if_pos hc2] at h
          exact (ih.2.2.1) S (upd L 4 (L 100)) M ls H locs h (lv_sub hl [1, 2, 3, 4, 0] rfl) hP hD hS
        · rw [if_neg hc2] at h
          refine lv_aload_n hx hb d_Second_takeNumber_35 rfl (lv_at hl 4 rfl) ?_
          refine lv_iload_n hx hb d_Second_takeNumber_36 rfl (lv_at hl 2 rfl) ?_
          refine lv_iconst (v := 1) hx hb d_Second_takeNumber_37 (by decide) ?_
          refine lv_iadd hx hb d_Second_takeNumber_38 ?_
          obtain ⟨hv3, h⟩ := chk h
          refine S_bald (h := shC) (i := (L 1) + (1 : Int32)) hx hb hK hP 37 rfl (okI_in hv3) d_Second_takeNumber_39 ?_
          show W _ _ _ _ _ _ _ _ _ _ _ _ _ _ _ (F0 _ 40 _ _)
          refine lv_bipush (v := 32) hx hb d_Second_takeNumber_40 (by decide) ?_
          refine lv_ior hx hb d_Second_takeNumber_42 ?_
          refine lv_bipush (v := 120) hx hb d_Second_takeNumber_43 (by decide) ?_
          refine lv_icmp_ne (tgt := 52) hx hb d_Second_takeNumber_45 (by decide) (fun hc4 => ?_) (fun hc4 => ?_)
          · rw [if_neg hc4] at h
            exact (ih.2.2.1) S (upd L 4 (L 100)) M ls H locs h (lv_sub hl [1, 2, 3, 4, 0] rfl) hP hD hS
          · rw [if_pos hc4] at h
            refine lv_iconst (v := 1) hx hb d_Second_takeNumber_48 (by decide) ?_
            refine lv_goto (tgt := 53) hx hb d_Second_takeNumber_49 (by decide) ?_
            exact (ih.2.2.2.1) S (upd (upd L 4 (L 100)) 100 (1 : Int32)) M ls H locs h (lv_sub hl [1, 2, 3, 4, 0] rfl) hP hD hS
    · intro S L M ls H locs h hl hP hD hS
      simp only [f_Second_takeNumber] at h
      refine lv_iconst (v := 0) hx hb d_Second_takeNumber_52 (by decide) ?_
      exact (ih.2.2.2.1) S (upd L 100 (0 : Int32)) M ls H locs h (lv_sub hl [0, 1, 2, 3, 4] rfl) hP hD hS
    · intro S L M ls H locs h hl hP hD hS
      simp only [f_Second_takeNumber] at h
      refine lv_istore (lv' := [(5, .int (L 100)), (0, .ref (ad 8)), (1, .int (L 1)), (2, .int (L 2)), (3, .ref (ad 50)), (4, .int (L 4))]) hx hb d_Second_takeNumber_53 hl (by decide) rfl (fun ls hl => ?_)
      refine lv_iload hx hb d_Second_takeNumber_55 (lv_at hl 0 rfl) ?_
      refine lv_if_eq (tgt := 65) hx hb d_Second_takeNumber_57 (by decide) (fun hc1 => ?_) (fun hc1 => ?_)
      · rw [if_pos hc1] at h
        refine lv_iload hx hb d_Second_takeNumber_65 (lv_at hl 5 rfl) ?_
        refine lv_if_eq (tgt := 75) hx hb d_Second_takeNumber_67 (by decide) (fun hc2 => ?_) (fun hc2 => ?_)
        · rw [if_pos hc2] at h
          refine lv_bipush (v := 10) hx hb d_Second_takeNumber_75 (by decide) ?_
          exact (ih.2.2.2.2.1) S (upd (upd L 5 (L 100)) 100 (10 : Int32)) M ls H locs h (lv_sub hl [1, 2, 3, 4, 5, 0] rfl) hP hD hS
        · rw [if_neg hc2] at h
          refine lv_bipush (v := 8) hx hb d_Second_takeNumber_70 (by decide) ?_
          refine lv_goto (tgt := 77) hx hb d_Second_takeNumber_72 (by decide) ?_
          exact (ih.2.2.2.2.1) S (upd (upd L 5 (L 100)) 100 (8 : Int32)) M ls H locs h (lv_sub hl [1, 2, 3, 4, 5, 0] rfl) hP hD hS
      · rw [if_neg hc1] at h
        refine lv_bipush (v := 16) hx hb d_Second_takeNumber_60 (by decide) ?_
        refine lv_goto (tgt := 77) hx hb d_Second_takeNumber_62 (by decide) ?_
        exact (ih.2.2.2.2.1) S (upd (upd L 5 (L 100)) 100 (16 : Int32)) M ls H locs h (lv_sub hl [1, 2, 3, 4, 5, 0] rfl) hP hD hS
    · intro S L M ls H locs h hl hP hD hS
      simp only [f_Second_takeNumber] at h
      refine lv_istore (lv' := [(6, .int (L 100)), (0, .ref (ad 8)), (1, .int (L 1)), (2, .int (L 2)), (3, .ref (ad 50)), (4, .int (L 4)), (5, .int (L 5))]) hx hb d_Second_takeNumber_77 hl (by decide) rfl (fun ls hl => ?_)
      refine lv_iload hx hb d_Second_takeNumber_79 (lv_at hl 6 rfl) ?_
      refine lv_if_eq (tgt := 90) hx hb d_Second_takeNumber_81 (by decide) (fun hc1 => ?_) (fun hc1 => ?_)
      · rw [if_pos hc1] at h
        refine lv_iload_n hx hb d_Second_takeNumber_90 rfl (lv_at hl 2 rfl) ?_
        exact (ih.2.2.2.2.2.1) S (upd (upd L 6 (L 100)) 100 (L 1)) M ls H locs h (lv_sub hl [1, 2, 3, 4, 5, 6, 0] rfl) hP hD hS
      · rw [if_neg hc1] at h
        refine lv_iload_n hx hb d_Second_takeNumber_84 rfl (lv_at hl 2 rfl) ?_
        refine lv_iconst (v := 2) hx hb d_Second_takeNumber_85 (by decide) ?_
        refine lv_iadd hx hb d_Second_takeNumber_86 ?_
        refine lv_goto (tgt := 91) hx hb d_Second_takeNumber_87 (by decide) ?_
        exact (ih.2.2.2.2.2.1) S (upd (upd L 6 (L 100)) 100 ((L 1) + (2 : Int32))) M ls H locs h (lv_sub hl [1, 2, 3, 4, 5, 6, 0] rfl) hP hD hS
    · intro S L M ls H locs h hl hP hD hS
      simp only [f_Second_takeNumber] at h
      refine lv_istore (lv' := [(7, .int (L 100)), (0, .ref (ad 8)), (1, .int (L 1)), (2, .int (L 2)), (3, .ref (ad 50)), (4, .int (L 4)), (5, .int (L 5)), (6, .int (L 6))]) hx hb d_Second_takeNumber_91 hl (by decide) rfl (fun ls hl => ?_)
      refine lv_iload hx hb d_Second_takeNumber_93 (lv_at hl 0 rfl) ?_
      refine lv_istore (lv' := [(8, .int (L 100)), (7, .int (L 100)), (0, .ref (ad 8)), (1, .int (L 1)), (2, .int (L 2)), (3, .ref (ad 50)), (4, .int (L 4)), (5, .int (L 5)), (6, .int (L 6))]) hx hb d_Second_takeNumber_95 hl (by decide) rfl (fun ls hl => ?_)
      refine lv_lconst (v := 0) hx hb d_Second_takeNumber_97 (by decide) ?_
      refine lv_lstore (lv' := [(9, .long 0), (8, .int (L 100)), (7, .int (L 100)), (0, .ref (ad 8)), (1, .int (L 1)), (2, .int (L 2)), (3, .ref (ad 50)), (4, .int (L 4)), (5, .int (L 5)), (6, .int (L 6))]) hx hb d_Second_takeNumber_98 hl (by decide) rfl (fun ls hl => ?_)
      exact (ih.2.2.2.2.2.2.1) S (upd (upd L 7 (L 100)) 8 (L 100)) (vp_updL M 9 (0 : Int64)) ls H locs h (lv_sub hl [3, 4, 5, 6, 7, 8, 9, 2, 1, 0] rfl) hP hD hS
    · intro S L M ls H locs h hl hP hD hS
      simp only [f_Second_takeNumber] at h
      refine lv_iload hx hb d_Second_takeNumber_100 (lv_at hl 8 rfl) ?_
      refine lv_iload_n hx hb d_Second_takeNumber_102 rfl (lv_at hl 2 rfl) ?_
      refine lv_icmp_ge (tgt := 165) hx hb d_Second_takeNumber_103 (by decide) (fun hc1 => ?_) (fun hc1 => ?_)
      · rw [if_pos hc1] at h
        exact (ih.2.2.2.2.2.2.2.2.1) S L M ls H locs h (lv_sub hl [0, 1, 2, 3, 4, 5, 6, 7, 8, 9] rfl) hP hD hS
      · rw [if_neg hc1] at h
        refine lv_aload_n hx hb d_Second_takeNumber_106 rfl (lv_at hl 3 rfl) ?_
        refine lv_iload hx hb d_Second_takeNumber_107 (lv_at hl 8 rfl) ?_
        obtain ⟨hv2, h⟩ := chk h
        refine S_bald (h := shC) (i := L 8) hx hb hK hP 37 rfl (okI_in hv2) d_Second_takeNumber_109 ?_
        obtain ⟨⟨r3, T3⟩, hq3, h⟩ := Option.bind_eq_some_iff.mp h
        try dsimp only at h
        refine go_iS (As := [.int (S.2.1 37 (L 8 : Int32).toNatClampNeg)]) (g := g) (A := A) (h := shC) hP hK hD hS hA hN (fun hp => va_runS (As := [.int (S.2.1 37 (L 8 : Int32).toNatClampNeg)]) (rest := []) ⟨hx, hb, hml, hown, htt⟩ (t_Second_digitOf l g _ ad S (S.2.1 37 (L 8 : Int32).toNatClampNeg : Int32) k9 r3 T3 hq3) ⟨(cb_L htt k_2178 k_270 k_2176 hd_Second_digitOf ⟨(Nat.le_trans (by decide +kernel) hRf), (Nat.le_trans (by decide +kernel) hRl)⟩), htt _ k_2177⟩ hp rfl rfl hl.1 rfl (lv_room (Nat.le_of_ble_eq_true rfl)) d_Second_takeNumber_110 ⟨hRc, hRs⟩) (fun r0 Sn H locs hw9 hP hD hS => ?_)
        obtain ⟨e9, e8⟩ := hw9
        rw [e8] at hP hD
        refine W.widen (k := cells) (n := slots) (Nat.le_refl _) (Nat.le_refl _) ?_
        refine toI (y := r3) e9 ?_
        refine lv_iload hx hb d_Second_takeNumber_113 (lv_at hl 6 rfl) ?_
        refine lv_icmp_ge (tgt := 165) hx hb d_Second_takeNumber_115 (by decide) (fun hc4 => ?_) (fun hc4 => ?_)
        · rw [if_pos hc4] at h
          exact (ih.2.2.2.2.2.2.2.2.1) T3 L M ls H locs h (lv_sub hl [0, 1, 2, 3, 4, 5, 6, 7, 8, 9] rfl) hP hD hS
        · rw [if_neg hc4] at h
          refine lv_lload hx hb d_Second_takeNumber_118 (lv_at hl 9 rfl) ?_
          refine lv_iload hx hb d_Second_takeNumber_120 (lv_at hl 6 rfl) ?_
          refine lv_aload_n hx hb d_Second_takeNumber_122 rfl (lv_at hl 3 rfl) ?_
          refine lv_iload hx hb d_Second_takeNumber_123 (lv_at hl 8 rfl) ?_
          obtain ⟨hv5, h⟩ := chk h
          refine S_bald (h := shC) (i := L 8) hx hb hK hP 37 rfl (okI_in hv5) d_Second_takeNumber_125 ?_
          obtain ⟨⟨r6, T6⟩, hq6, h⟩ := Option.bind_eq_some_iff.mp h
          try dsimp only at h
          refine go_iS (As := [.int (T3.2.1 37 (L 8 : Int32).toNatClampNeg)]) (g := g) (A := A) (h := shC) hP hK hD hS hA hN (fun hp => va_runS (As := [.int (T3.2.1 37 (L 8 : Int32).toNatClampNeg)]) (rest := [.int (L 6), .long (M 9)]) ⟨hx, hb, hml, hown, htt⟩ (t_Second_digitOf l g _ ad T3 (T3.2.1 37 (L 8 : Int32).toNatClampNeg : Int32) k9 r6 T6 hq6) ⟨(cb_L htt k_2178 k_270 k_2176 hd_Second_digitOf ⟨(Nat.le_trans (by decide +kernel) hRf), (Nat.le_trans (by decide +kernel) hRl)⟩), htt _ k_2177⟩ hp rfl rfl hl.1 rfl (lv_room (Nat.le_of_ble_eq_true rfl)) d_Second_takeNumber_126 ⟨hRc, hRs⟩) (fun r0 Sn H locs hw9 hP hD hS => ?_)
          obtain ⟨e9, e8⟩ := hw9
          rw [e8] at hP hD
          refine W.widen (k := cells) (n := slots) (Nat.le_refl _) (Nat.le_refl _) ?_
          refine toI (y := r6) e9 ?_
          obtain ⟨⟨r7, T7⟩, hq7, h⟩ := Option.bind_eq_some_iff.mp h
          try dsimp only at h
          refine go_iS (As := [.long (M 9), .int (L 6), .int r6]) (g := g) (A := A) (h := shC) hP hK hD hS hA hN (fun hp => va_runS (As := [.long (M 9), .int (L 6), .int r6]) (rest := []) ⟨hx, hb, hml, hown, htt⟩ (t_Second_isTooLarge l g _ ad T6 (M 9 : Int64) (L 6 : Int32) (r6 : Int32) k9 r7 T7 hq7) ⟨(cb_L htt k_2181 k_270 k_2179 hd_Second_isTooLarge ⟨(Nat.le_trans (by decide +kernel) hRf), (Nat.le_trans (by decide +kernel) hRl)⟩), htt _ k_2180⟩ hp rfl rfl hl.1 rfl (lv_room (Nat.le_of_ble_eq_true rfl)) d_Second_takeNumber_129 ⟨hRc, hRs⟩) (fun r0 Sn H locs hw9 hP hD hS => ?_)
          obtain ⟨e9, e8⟩ := hw9
          rw [e8] at hP hD
          refine W.widen (k := cells) (n := slots) (Nat.le_refl _) (Nat.le_refl _) ?_
          refine toI (y := r7) e9 ?_
          refine lv_if_eq (tgt := 142) hx hb d_Second_takeNumber_132 (by decide) (fun hc8 => ?_) (fun hc8 => ?_)
          · rw [if_pos hc8] at h
            exact (ih.2.2.2.2.2.2.2.1) T7 L M ls H locs h (lv_sub hl [0, 1, 2, 3, 4, 5, 6, 7, 8, 9] rfl) hP hD hS
          · rw [if_neg hc8] at h
            show W _ _ _ _ _ _ _ _ _ _ _ _ _ _ _ (F0 _ 135 _ _)
            refine lv_aload_n hx hb d_Second_takeNumber_135 rfl (lv_at hl 0 rfl) ?_
            refine S_getR (h := shC) (C := "MacroMill$Second") (T := F_Second) hx hb htt in_Second hown hK hP 8 2 rfl 3 rfl rfl (by decide) (htt _ k_898) (fun _ h9 => h9) d_Second_takeNumber_136 ?_
            obtain ⟨⟨r9, T9⟩, hq9, h⟩ := Option.bind_eq_some_iff.mp h
            try dsimp only at h
            refine go_vS (As := [.ref (ad 3)]) (g := g) (A := A) (h := shC) hP hK hD hS hA hN (fun hp => va_runV (As := []) (rest := []) ⟨hx, hb, hml, hown, htt⟩ (t_Reckoner_spoil l g _ ad T7 k9 r9 T9 hq9) ⟨(cb_L htt k_1365 k_265 k_2183 hd_Reckoner_spoil ⟨(Nat.le_trans (by decide +kernel) hRf), (Nat.le_trans (by decide +kernel) hRl)⟩), htt _ k_1363, htt _ k_1364⟩ ⟨hp.1, S_recv hK hP 3 rfl rfl, hp.2⟩ rfl rfl hl.1 rfl (lv_room (Nat.le_of_ble_eq_true rfl)) d_Second_takeNumber_139 ⟨hRc, hRs⟩) (fun Sn H locs hw9 hP hD hS => ?_)
            have e8 := hw9
            rw [e8] at hP hD
            refine W.widen (k := cells) (n := slots) (Nat.le_refl _) (Nat.le_refl _) ?_
            exact (ih.2.2.2.2.2.2.2.1) T9 L M ls H locs h (lv_sub hl [0, 1, 2, 3, 4, 5, 6, 7, 8, 9] rfl) hP hD hS
    · intro S L M ls H locs h hl hP hD hS
      simp only [f_Second_takeNumber] at h
      refine lv_lload hx hb d_Second_takeNumber_142 (lv_at hl 9 rfl) ?_
      refine lv_iload hx hb d_Second_takeNumber_144 (lv_at hl 6 rfl) ?_
      refine lv_i2l (v := (L 6).toInt64) hx hb d_Second_takeNumber_146 rfl ?_
      refine lv_lmul hx hb d_Second_takeNumber_147 ?_
      refine lv_aload_n hx hb d_Second_takeNumber_148 rfl (lv_at hl 3 rfl) ?_
      refine lv_iload hx hb d_Second_takeNumber_149 (lv_at hl 8 rfl) ?_
      obtain ⟨hv1, h⟩ := chk h
      refine S_bald (h := shC) (i := L 8) hx hb hK hP 37 rfl (okI_in hv1) d_Second_takeNumber_151 ?_
      obtain ⟨⟨r2, T2⟩, hq2, h⟩ := Option.bind_eq_some_iff.mp h
      try dsimp only at h
      refine go_iS (As := [.int (S.2.1 37 (L 8 : Int32).toNatClampNeg)]) (g := g) (A := A) (h := shC) hP hK hD hS hA hN (fun hp => va_runS (As := [.int (S.2.1 37 (L 8 : Int32).toNatClampNeg)]) (rest := [.long ((M 9) * ((L 6).toInt64))]) ⟨hx, hb, hml, hown, htt⟩ (t_Second_digitOf l g _ ad S (S.2.1 37 (L 8 : Int32).toNatClampNeg : Int32) k9 r2 T2 hq2) ⟨(cb_L htt k_2178 k_270 k_2176 hd_Second_digitOf ⟨(Nat.le_trans (by decide +kernel) hRf), (Nat.le_trans (by decide +kernel) hRl)⟩), htt _ k_2177⟩ hp rfl rfl hl.1 rfl (lv_room (Nat.le_of_ble_eq_true rfl)) d_Second_takeNumber_152 ⟨hRc, hRs⟩) (fun r0 Sn H locs hw9 hP hD hS => ?_)
      obtain ⟨e9, e8⟩ := hw9
      rw [e8] at hP hD
      refine W.widen (k := cells) (n := slots) (Nat.le_refl _) (Nat.le_refl _) ?_
      refine toI (y := r2) e9 ?_
      refine lv_i2l (v := r2.toInt64) hx hb d_Second_takeNumber_155 rfl ?_
      refine lv_ladd hx hb d_Second_takeNumber_156 ?_
      refine lv_lstore (lv' := [(9, .long (((M 9) * ((L 6).toInt64)) + r2.toInt64)), (0, .ref (ad 8)), (1, .int (L 1)), (2, .int (L 2)), (3, .ref (ad 50)), (4, .int (L 4)), (5, .int (L 5)), (6, .int (L 6)), (7, .int (L 7)), (8, .int (L 8))]) hx hb d_Second_takeNumber_157 hl (by decide) rfl (fun ls hl => ?_)
      refine lv_iinc (k := 9) (v := (L 8) + 1) (lv' := [(8, .int ((L 8) + 1)), (9, .long (((M 9) * ((L 6).toInt64)) + r2.toInt64)), (0, .ref (ad 8)), (1, .int (L 1)), (2, .int (L 2)), (3, .ref (ad 50)), (4, .int (L 4)), (5, .int (L 5)), (6, .int (L 6)), (7, .int (L 7))]) hx hb d_Second_takeNumber_159 hl rfl rfl (by decide) rfl (fun ls hl => ?_)
      show W _ _ _ _ _ _ _ _ _ _ _ _ _ _ _ (F0 _ 162 _ _)
      refine lv_goto (tgt := 100) hx hb d_Second_takeNumber_162 (by decide) ?_
      exact (ih.2.2.2.2.2.2.1) T2 (upd L 8 ((L 8) + 1)) (vp_updL M 9 (((M 9) * ((L 6).toInt64)) + r2.toInt64)) ls H locs h (lv_sub hl [2, 3, 4, 5, 6, 7, 8, 9, 0, 1] rfl) hP hD hS
    · intro S L M ls H locs h hl hP hD hS
      simp only [f_Second_takeNumber] at h
      refine lv_aload_n hx hb d_Second_takeNumber_165 rfl (lv_at hl 0 rfl) ?_
      refine lv_iload hx hb d_Second_takeNumber_166 (lv_at hl 8 rfl) ?_
      refine lv_iload_n hx hb d_Second_takeNumber_168 rfl (lv_at hl 2 rfl) ?_
      obtain ⟨⟨r1, T1⟩, hq1, h⟩ := Option.bind_eq_some_iff.mp h
      try dsimp only at h
      refine go_iS (As := [.ref (ad 8), .int (L 8), .int (L 2)]) (g := g) (A := A) (h := shC) hP hK hD hS hA hN (fun hp => va_runV (As := [.int (L 8), .int (L 2)]) (rest := []) ⟨hx, hb, hml, hown, htt⟩ (t_Second_suffixOf l g _ ad S (L 8 : Int32) (L 2 : Int32) k9 r1 T1 hq1) ⟨(cb_L htt k_2187 k_270 k_2184 hd_Second_suffixOf ⟨(Nat.le_trans (by decide +kernel) hRf), (Nat.le_trans (by decide +kernel) hRl)⟩), htt _ k_2186, htt _ k_124⟩ ⟨hp.1, S_recv hK hP 8 rfl rfl, hp.2⟩ rfl rfl hl.1 rfl (lv_room (Nat.le_of_ble_eq_true rfl)) d_Second_takeNumber_169 ⟨hRc, hRs⟩) (fun r0 Sn H locs hw9 hP hD hS => ?_)
      obtain ⟨e9, e8⟩ := hw9
      rw [e8] at hP hD
      refine W.widen (k := cells) (n := slots) (Nat.le_refl _) (Nat.le_refl _) ?_
      refine toI (y := r1) e9 ?_
      refine lv_istore (lv' := [(11, .int r1), (0, .ref (ad 8)), (1, .int (L 1)), (2, .int (L 2)), (3, .ref (ad 50)), (4, .int (L 4)), (5, .int (L 5)), (6, .int (L 6)), (7, .int (L 7)), (8, .int (L 8)), (9, .long (M 9))]) hx hb d_Second_takeNumber_172 hl (by decide) rfl (fun ls hl => ?_)
      refine lv_iload hx hb d_Second_takeNumber_174 (lv_at hl 9 rfl) ?_
      refine lv_iload hx hb d_Second_takeNumber_176 (lv_at hl 8 rfl) ?_
      refine lv_icmp_eq (tgt := 205) hx hb d_Second_takeNumber_178 (by decide) (fun hc2 => ?_) (fun hc2 => ?_)
      · rw [if_pos hc2] at h
        exact (ih.2.2.2.2.2.2.2.2.2.1) T1 (upd L 11 r1) M ls H locs h (lv_sub hl [1, 2, 3, 4, 5, 6, 7, 8, 9, 10, 0] rfl) hP hD hS
      · rw [if_neg hc2] at h
        refine lv_iload hx hb d_Second_takeNumber_181 (lv_at hl 0 rfl) ?_
        refine lv_if_lt (tgt := 205) hx hb d_Second_takeNumber_183 (by decide) (fun hc3 => ?_) (fun hc3 => ?_)
        · rw [if_pos hc3] at h
          exact (ih.2.2.2.2.2.2.2.2.2.1) T1 (upd L 11 r1) M ls H locs h (lv_sub hl [1, 2, 3, 4, 5, 6, 7, 8, 9, 10, 0] rfl) hP hD hS
        · rw [if_neg hc3] at h
          refine lv_iload hx hb d_Second_takeNumber_186 (lv_at hl 0 rfl) ?_
          refine lv_if_ne (tgt := 212) hx hb d_Second_takeNumber_188 (by decide) (fun hc4 => ?_) (fun hc4 => ?_)
          · rw [if_neg hc4] at h
            exact (ih.2.2.2.2.2.2.2.2.2.2.1) T1 (upd L 11 r1) M ls H locs h (lv_sub hl [1, 2, 3, 4, 5, 6, 7, 8, 9, 10, 0] rfl) hP hD hS
          · rw [if_pos hc4] at h
            refine lv_iload hx hb d_Second_takeNumber_191 (lv_at hl 7 rfl) ?_
            refine lv_bipush (v := 10) hx hb d_Second_takeNumber_193 (by decide) ?_
            refine lv_icmp_ne (tgt := 212) hx hb d_Second_takeNumber_195 (by decide) (fun hc5 => ?_) (fun hc5 => ?_)
            · rw [if_neg hc5] at h
              exact (ih.2.2.2.2.2.2.2.2.2.2.1) T1 (upd L 11 r1) M ls H locs h (lv_sub hl [1, 2, 3, 4, 5, 6, 7, 8, 9, 10, 0] rfl) hP hD hS
            · rw [if_pos hc5] at h
              refine lv_lload hx hb d_Second_takeNumber_198 (lv_at hl 10 rfl) ?_
              show W _ _ _ _ _ _ _ _ _ _ _ _ _ _ _ (F0 _ 200 _ _)
              refine lv_lconst (v := 0) hx hb d_Second_takeNumber_200 (by decide) ?_
              refine W.lcmp hx hb d_Second_takeNumber_201 ?_
              refine lv_if_ge (tgt := 212) hx hb d_Second_takeNumber_202 (by decide) (fun hc6 => ?_) (fun hc6 => ?_)
              · rw [if_pos hc6] at h
                exact (ih.2.2.2.2.2.2.2.2.2.2.1) T1 (upd L 11 r1) M ls H locs h (lv_sub hl [1, 2, 3, 4, 5, 6, 7, 8, 9, 10, 0] rfl) hP hD hS
              · rw [if_neg hc6] at h
                exact (ih.2.2.2.2.2.2.2.2.2.1) T1 (upd L 11 r1) M ls H locs h (lv_sub hl [1, 2, 3, 4, 5, 6, 7, 8, 9, 10, 0] rfl) hP hD hS
    · intro S L M ls H locs h hl hP hD hS
      simp only [f_Second_takeNumber] at h
      refine lv_aload_n hx hb d_Second_takeNumber_205 rfl (lv_at hl 0 rfl) ?_
      refine S_getR (h := shC) (C := "MacroMill$Second") (T := F_Second) hx hb htt in_Second hown hK hP 8 2 rfl 3 rfl rfl (by decide) (htt _ k_898) (fun _ h9 => h9) d_Second_takeNumber_206 ?_
      obtain ⟨⟨r1, T1⟩, hq1, h⟩ := Option.bind_eq_some_iff.mp h
      try dsimp only at h
      refine go_vS (As := [.ref (ad 3)]) (g := g) (A := A) (h := shC) hP hK hD hS hA hN (fun hp => va_runV (As := []) (rest := []) ⟨hx, hb, hml, hown, htt⟩ (t_Reckoner_spoil l g _ ad S k9 r1 T1 hq1) ⟨(cb_L htt k_1365 k_265 k_2183 hd_Reckoner_spoil ⟨(Nat.le_trans (by decide +kernel) hRf), (Nat.le_trans (by decide +kernel) hRl)⟩), htt _ k_1363, htt _ k_1364⟩ ⟨hp.1, S_recv hK hP 3 rfl rfl, hp.2⟩ rfl rfl hl.1 rfl (lv_room (Nat.le_of_ble_eq_true rfl)) d_Second_takeNumber_209 ⟨hRc, hRs⟩) (fun Sn H locs hw9 hP hD hS => ?_)
      have e8 := hw9
      rw [e8] at hP hD
      refine W.widen (k := cells) (n := slots) (Nat.le_refl _) (Nat.le_refl _) ?_
      exact (ih.2.2.2.2.2.2.2.2.2.2.1) T1 L M ls H locs h (lv_sub hl [0, 1, 2, 3, 4, 5, 6, 7, 8, 9, 10] rfl) hP hD hS
    · intro S L M ls H locs h hl hP hD hS
      simp only [f_Second_takeNumber] at h
      refine lv_aload_n hx hb d_Second_takeNumber_212 rfl (lv_at hl 0 rfl) ?_
      refine S_getR (h := shC) (C := "MacroMill$Second") (T := F_Second) hx hb htt in_Second hown hK hP 8 2 rfl 3 rfl rfl (by decide) (htt _ k_898) (fun _ h9 => h9) d_Second_takeNumber_213 ?_
      refine lv_lload hx hb d_Second_takeNumber_216 (lv_at hl 9 rfl) ?_
      refine lv_iload hx hb d_Second_takeNumber_218 (lv_at hl 10 rfl) ?_
      refine lv_if_gt (tgt := 230) hx hb d_Second_takeNumber_220 (by decide) (fun hc1 => ?_) (fun hc1 => ?_)
      · rw [if_pos hc1] at h
        exact (ih.2.2.2.2.2.2.2.2.2.2.2.1) S L (vp_updL M 101 (M 9)) ls H locs h (lv_sub hl [0, 1, 2, 3, 4, 5, 6, 7, 8, 9, 10] rfl) hP hD hS
      · rw [if_neg hc1] at h
        refine lv_lload hx hb d_Second_takeNumber_223 (lv_at hl 9 rfl) ?_
        refine lv_lconst (v := 0) hx hb d_Second_takeNumber_225 (by decide) ?_
        refine W.lcmp hx hb d_Second_takeNumber_226 ?_
        refine lv_if_ge (tgt := 234) hx hb d_Second_takeNumber_227 (by decide) (fun hc2 => ?_) (fun hc2 => ?_)
        · rw [if_pos hc2] at h
          refine lv_iconst (v := 0) hx hb d_Second_takeNumber_234 (by decide) ?_
          exact (ih.2.2.2.2.2.2.2.2.2.2.2.2) S (upd L 102 (0 : Int32)) (vp_updL M 101 (M 9)) ls H locs h (lv_sub hl [0, 1, 2, 3, 4, 5, 6, 7, 8, 9, 10] rfl) hP hD hS
        · rw [if_neg hc2] at h
          exact (ih.2.2.2.2.2.2.2.2.2.2.2.1) S L (vp_updL M 101 (M 9)) ls H locs h (lv_sub hl [0, 1, 2, 3, 4, 5, 6, 7, 8, 9, 10] rfl) hP hD hS
    · intro S L M ls H locs h hl hP hD hS
      simp only [f_Second_takeNumber] at h
      refine lv_iconst (v := 1) hx hb d_Second_takeNumber_230 (by decide) ?_
      refine lv_goto (tgt := 235) hx hb d_Second_takeNumber_231 (by decide) ?_
      exact (ih.2.2.2.2.2.2.2.2.2.2.2.2) S (upd L 102 (1 : Int32)) M ls H locs h (lv_sub hl [0, 1, 2, 3, 4, 5, 6, 7, 8, 9, 10] rfl) hP hD hS
    · intro S L M ls H locs h hl hP hD hS
      simp only [f_Second_takeNumber] at h
      obtain ⟨⟨r1, T1⟩, hq1, h⟩ := Option.bind_eq_some_iff.mp h
      try dsimp only at h
      refine go_vS (As := [.ref (ad 3), .long (M 101), .int (L 102)]) (g := g) (A := A) (h := shC) hP hK hD hS hA hN (fun hp => va_runV (As := [.long (M 101), .int (L 102)]) (rest := []) ⟨hx, hb, hml, hown, htt⟩ (t_Reckoner_takeNumber l g _ ad S (M 101 : Int64) (L 102 : Int32) k9 r1 T1 hq1) ⟨(cb_L htt k_1369 k_265 k_2171 hd_Reckoner_takeNumber ⟨(Nat.le_trans (by decide +kernel) hRf), (Nat.le_trans (by decide +kernel) hRl)⟩), htt _ k_1367, htt _ k_1368⟩ ⟨hp.1, S_recv hK hP 3 rfl rfl, hp.2⟩ rfl rfl hl.1 rfl (lv_room (Nat.le_of_ble_eq_true rfl)) d_Second_takeNumber_235 ⟨hRc, hRs⟩) (fun Sn H locs hw9 hP hD hS => ?_)
      have e8 := hw9
      rw [e8] at hP hD
      refine W.widen (k := cells) (n := slots) (Nat.le_refl _) (Nat.le_refl _) ?_
      cases h
      exact kx_238 ls H locs hP hD hS
abbrev rm_t_Second_takeNumber : Room := { frames := 3, cells := 0, slots := 0, locals := 67 }
theorem t_Second_takeNumber (l : Launch) (g : gG) (sz : Nat) (ad : Nat → Nat) (S : sS) (v1 : Int32) (v2 : Int32) (k : Nat) (r : Int32) (S9 : sS) (h : f_Second_takeNumber k 0 S (upd (upd (fun _ => 0) 1 v1) 2 v2) (fun _ => 0) = some (r, S9)) : Cv l y_Second_takeNumber b_Second_takeNumber 12 rm_t_Second_takeNumber g [.ref (ad 8), .int v1, .int v2] (Sw shC g ad S) sz (fun w => ∃ S1 : sS, w = Sw shC g ad S1 ∧ S1 = S9) := by
  refine startV (by decide) (Nat.le_of_ble_eq_true rfl) ?_
  intro p e s m below meth c A ls hx hb hr hml hlocks hmn hown htt hN hA hP hK hD hS hl
  exact (w_Second_takeNumber hx hb hml hown htt hK hN hA (by decide +kernel) (by decide +kernel) (by decide +kernel) (by decide +kernel) r S9 (fun ls H locs hP hD hS => fin_v (g := g) (ws := Sw shC g ad S9) hx hb hr hlocks (by decide +kernel) (by decide +kernel) hP hD hS ⟨_, rfl, rfl⟩ d_Second_takeNumber_238) k).1 S (upd (upd (fun _ => 0) 1 v1) 2 v2) (fun _ => 0) ls _ _ h hl hP hD hS
def f_Second_parameterOf : Nat → Nat → sS → (Nat → Int32) → (Nat → Int64) → Option (Int32 × sS)
  | 0, _, _, _, _ => none
  | k + 1, 0, S, L, M => f_Second_parameterOf k 1 S (upd L 2 (0 : Int32)) M
  | k + 1, 1, S, L, M => if (S.1 8 18) ≤ (L 2) then (some (((-1) : Int32), S)) else (if okI (L 1) 120784 = true then (if okI (L 2) 30 = true then (if okI (S.2.1 35 (L 2 : Int32).toNatClampNeg) 120784 = true then ((f_Tokens_areSpelledSame k 0 S (fun _ => 0) (vp_updL (vp_updL (fun _ => 0) 1 (S.2.2 39 (L 1 : Int32).toNatClampNeg : Int64)) 3 (S.2.2 39 (S.2.1 35 (L 2 : Int32).toNatClampNeg : Int32).toNatClampNeg : Int64))).bind (fun (r5, T5) => if r5 = (0 : Int32) then (f_Second_parameterOf k 1 T5 (upd L 2 ((L 2) + 1)) M) else (some (L 2, T5)))) else none) else none) else none)
  | _ + 1, _ + 2, _, _, _ => none
set_option maxHeartbeats 8000000 in
set_option maxRecDepth 100000 in
theorem w_Second_parameterOf {p : Program} {l : Launch} {e : Env} {R : Room} {s : State} {m : MethodId} {args : Array Value} {below : List Frame} {meth : Method} {c : Code} {cells slots : Nat} {Q : State → Prop} {g : gG} {A : Nat → Prop} {ad : Nat → Nat} (hx : p.tables.exec = Jvm.exec) (hb : c.code = b_Second_parameterOf) (hml : c.maxLocals = 3) (hown : s.vm.findClass "MacroMill$Second" = some m.cls) (htt : ∀ w ∈ gt, w.before args s = true) (hK : va_K g.1 classes (tysG g) s) (hN : nw s) (hA : ∀ q : Nat, s.heap.size ≤ q → A q) (hRf : 2 ≤ R.frames) (hRl : 49 ≤ R.locals) (hRc : cells ≤ R.cells) (hRs : slots ≤ R.slots) (r : Int32) (S9 : sS)
    (kx_44 : ∀ (ls : Array Slot) (H : Heap) (locs : List Loc), va_P g.1 classes (Sw shC g ad S9) H → va_D A (Sw shC g ad S9) → va_S A s.heap H locs → W p l e R s m args below meth c H locs cells slots Q (F0 m 44 ls [.int r]))
    (kx_52 : ∀ (ls : Array Slot) (H : Heap) (locs : List Loc), va_P g.1 classes (Sw shC g ad S9) H → va_D A (Sw shC g ad S9) → va_S A s.heap H locs → W p l e R s m args below meth c H locs cells slots Q (F0 m 52 ls [.int r])) :
    ∀ k9 : Nat, (∀ (S : sS) (L : Nat → Int32) (M : Nat → Int64) (ls : Array Slot) (H : Heap) (locs : List Loc), f_Second_parameterOf k9 0 S L M = some (r, S9) → lv_has ls 3 [(0, .ref (ad 8)), (1, .int (L 1))] → va_P g.1 classes (Sw shC g ad S) H → va_D A (Sw shC g ad S) → va_S A s.heap H locs → W p l e R s m args below meth c H locs cells slots Q (F0 m 0 ls [])) ∧ (∀ (S : sS) (L : Nat → Int32) (M : Nat → Int64) (ls : Array Slot) (H : Heap) (locs : List Loc), f_Second_parameterOf k9 1 S L M = some (r, S9) → lv_has ls 3 [(0, .ref (ad 8)), (1, .int (L 1)), (2, .int (L 2))] → va_P g.1 classes (Sw shC g ad S) H → va_D A (Sw shC g ad S) → va_S A s.heap H locs → W p l e R s m args below meth c H locs cells slots Q (F0 m 2 ls [])) := by
  intro k9
  induction k9 with
  | zero => exact ⟨(fun _ _ _ _ _ _ h => by simp [f_Second_parameterOf] at h), (fun _ _ _ _ _ _ h => by simp [f_Second_parameterOf] at h)⟩
  | succ k9 ih =>
    refine ⟨?_, ?_⟩
    · intro S L M ls H locs h hl hP hD hS
      simp only [f_Second_parameterOf] at h
      refine lv_iconst (v := 0) hx hb d_Second_parameterOf_0 (by decide) ?_
      refine lv_istore_n (lv' := [(2, .int 0), (0, .ref (ad 8)), (1, .int (L 1))]) hx hb d_Second_parameterOf_1 rfl hl (by decide) rfl (fun ls hl => ?_)
      exact (ih.2) S (upd L 2 (0 : Int32)) M ls H locs h (lv_sub hl [1, 2, 0] rfl) hP hD hS
    · intro S L M ls H locs h hl hP hD hS
      simp only [f_Second_parameterOf] at h
      refine lv_iload_n hx hb d_Second_parameterOf_2 rfl (lv_at hl 2 rfl) ?_
      refine lv_aload_n hx hb d_Second_parameterOf_3 rfl (lv_at hl 0 rfl) ?_
      refine S_getI (h := shC) (C := "MacroMill$Second") (T := F_Second) hx hb htt in_Second hown hK hP 8 18 rfl rfl rfl (by decide) (htt _ k_915) (fun _ h9 => h9) d_Second_parameterOf_4 ?_
      refine lv_icmp_ge (tgt := 51) hx hb d_Second_parameterOf_7 (by decide) (fun hc1 => ?_) (fun hc1 => ?_)
      · rw [if_pos hc1] at h
        refine lv_iconst (v := (-1)) hx hb d_Second_parameterOf_51 (by decide) ?_
        cases h
        exact kx_52 ls H locs hP hD hS
      · rw [if_neg hc1] at h
        refine lv_aload_n hx hb d_Second_parameterOf_10 rfl (lv_at hl 0 rfl) ?_
        refine S_getR (h := shC) (C := "MacroMill$Second") (T := F_Second) hx hb htt in_Second hown hK hP 8 3 rfl 9 rfl rfl (by decide) (htt _ k_899) (fun _ h9 => h9) d_Second_parameterOf_11 ?_
        refine lv_aload_n hx hb d_Second_parameterOf_14 rfl (lv_at hl 0 rfl) ?_
        refine S_getR (h := shC) (C := "MacroMill$Second") (T := F_Second) hx hb htt in_Second hown hK hP 8 3 rfl 9 rfl rfl (by decide) (htt _ k_899) (fun _ h9 => h9) d_Second_parameterOf_15 ?_
        refine S_getR (h := shC) (C := "MacroMill$Tokens") (T := F_Tokens) hx hb htt in_Tokens hown hK hP 9 5 rfl 52 rfl rfl (by decide) (htt _ k_648) (fun _ h9 => h9) d_Second_parameterOf_18 ?_
        refine lv_iload_n hx hb d_Second_parameterOf_21 rfl (lv_at hl 1 rfl) ?_
        obtain ⟨hv2, h⟩ := chk h
        refine S_lald (h := shC) (i := L 1) hx hb hK hP 39 rfl (okI_in hv2) d_Second_parameterOf_22 ?_
        refine lv_aload_n hx hb d_Second_parameterOf_23 rfl (lv_at hl 0 rfl) ?_
        show W _ _ _ _ _ _ _ _ _ _ _ _ _ _ _ (F0 _ 24 _ _)
        refine S_getR (h := shC) (C := "MacroMill$Second") (T := F_Second) hx hb htt in_Second hown hK hP 8 3 rfl 9 rfl rfl (by decide) (htt _ k_899) (fun _ h9 => h9) d_Second_parameterOf_24 ?_
        refine S_getR (h := shC) (C := "MacroMill$Tokens") (T := F_Tokens) hx hb htt in_Tokens hown hK hP 9 5 rfl 52 rfl rfl (by decide) (htt _ k_648) (fun _ h9 => h9) d_Second_parameterOf_27 ?_
        refine lv_aload_n hx hb d_Second_parameterOf_30 rfl (lv_at hl 0 rfl) ?_
        refine S_getR (h := shC) (C := "MacroMill$Second") (T := F_Second) hx hb htt in_Second hown hK hP 8 17 rfl 48 rfl rfl (by decide) (htt _ k_914) (fun _ h9 => h9) d_Second_parameterOf_31 ?_
        refine lv_iload_n hx hb d_Second_parameterOf_34 rfl (lv_at hl 2 rfl) ?_
        obtain ⟨hv3, h⟩ := chk h
        refine S_iald (h := shC) (i := L 2) hx hb hK hP 35 rfl (okI_in hv3) d_Second_parameterOf_35 ?_
        obtain ⟨hv4, h⟩ := chk h
        refine S_lald (h := shC) (i := S.2.1 35 (L 2 : Int32).toNatClampNeg) hx hb hK hP 39 rfl (okI_in hv4) d_Second_parameterOf_36 ?_
        obtain ⟨⟨r5, T5⟩, hq5, h⟩ := Option.bind_eq_some_iff.mp h
        try dsimp only at h
        refine go_iS (As := [.ref (ad 9), .long (S.2.2 39 (L 1 : Int32).toNatClampNeg), .long (S.2.2 39 (S.2.1 35 (L 2 : Int32).toNatClampNeg : Int32).toNatClampNeg)]) (g := g) (A := A) (h := shC) hP hK hD hS hA hN (fun hp => va_runV (As := [.long (S.2.2 39 (L 1 : Int32).toNatClampNeg), .long (S.2.2 39 (S.2.1 35 (L 2 : Int32).toNatClampNeg : Int32).toNatClampNeg)]) (rest := []) ⟨hx, hb, hml, hown, htt⟩ (t_Tokens_areSpelledSame l g _ ad S (S.2.2 39 (L 1 : Int32).toNatClampNeg : Int64) (S.2.2 39 (S.2.1 35 (L 2 : Int32).toNatClampNeg : Int32).toNatClampNeg : Int64) k9 r5 T5 hq5) ⟨(cb_L htt k_2059 k_271 k_2056 hd_Tokens_areSpelledSame ⟨(Nat.le_trans (by decide +kernel) hRf), (Nat.le_trans (by decide +kernel) hRl)⟩), htt _ k_2057, htt _ k_2058⟩ ⟨hp.1, S_recv hK hP 9 rfl rfl, hp.2⟩ rfl rfl hl.1 rfl (lv_room (Nat.le_of_ble_eq_true rfl)) d_Second_parameterOf_37 ⟨hRc, hRs⟩) (fun r0 Sn H locs hw9 hP hD hS => ?_)
        obtain ⟨e9, e8⟩ := hw9
        rw [e8] at hP hD
        refine W.widen (k := cells) (n := slots) (Nat.le_refl _) (Nat.le_refl _) ?_
        refine toI (y := r5) e9 ?_
        refine lv_if_eq (tgt := 45) hx hb d_Second_parameterOf_40 (by decide) (fun hc6 => ?_) (fun hc6 => ?_)
        · rw [if_pos hc6] at h
          refine lv_iinc (k := 2) (v := (L 2) + 1) (lv' := [(2, .int ((L 2) + 1)), (0, .ref (ad 8)), (1, .int (L 1))]) hx hb d_Second_parameterOf_45 hl rfl rfl (by decide) rfl (fun ls hl => ?_)
          refine lv_goto (tgt := 2) hx hb d_Second_parameterOf_48 (by decide) ?_
          exact (ih.2) T5 (upd L 2 ((L 2) + 1)) M ls H locs h (lv_sub hl [1, 2, 0] rfl) hP hD hS
        · rw [if_neg hc6] at h
          refine lv_iload_n hx hb d_Second_parameterOf_43 rfl (lv_at hl 2 rfl) ?_
          cases h
          exact kx_44 ls H locs hP hD hS
abbrev rm_t_Second_parameterOf : Room := { frames := 2, cells := 0, slots := 0, locals := 49 }
theorem t_Second_parameterOf (l : Launch) (g : gG) (sz : Nat) (ad : Nat → Nat) (S : sS) (v1 : Int32) (k : Nat) (r : Int32) (S9 : sS) (h : f_Second_parameterOf k 0 S (upd (fun _ => 0) 1 v1) (fun _ => 0) = some (r, S9)) : Ci l y_Second_parameterOf b_Second_parameterOf 3 rm_t_Second_parameterOf g [.ref (ad 8), .int v1] (Sw shC g ad S) sz (fun r1 w => ∃ S1 : sS, w = Sw shC g ad S1 ∧ r1 = r ∧ S1 = S9) := by
  refine startI (by decide) (Nat.le_of_ble_eq_true rfl) ?_
  intro p e s m below meth c A ls hx hb hr hml hlocks hmn hown htt hN hA hP hK hD hS hl
  exact (w_Second_parameterOf hx hb hml hown htt hK hN hA (by decide +kernel) (by decide +kernel) (by decide +kernel) (by decide +kernel) r S9 (fun ls H locs hP hD hS => fin_i (g := g) (ws := Sw shC g ad S9) hx hb hr hlocks (by decide +kernel) (by decide +kernel) hP hD hS ⟨_, rfl, rfl, rfl⟩ d_Second_parameterOf_44) (fun ls H locs hP hD hS => fin_i (g := g) (ws := Sw shC g ad S9) hx hb hr hlocks (by decide +kernel) (by decide +kernel) hP hD hS ⟨_, rfl, rfl, rfl⟩ d_Second_parameterOf_52) k).1 S (upd (fun _ => 0) 1 v1) (fun _ => 0) ls _ _ h hl hP hD hS
def f_Replacer_spellLine : Nat → Nat → sS → (Nat → Int32) → (Nat → Int64) → Option (Int64 × sS)
  | 0, _, _, _, _ => none
  | k + 1, 0, S, L, M => (f_Tokens_line k 0 S (upd (fun _ => 0) 1 (L 1 : Int32)) (fun _ => 0)).bind (fun (r1, T1) => (f_Lines_toldLine k 0 T1 (upd (fun _ => 0) 1 (r1 : Int32)) (fun _ => 0)).bind (fun (r2, T2) => (f_Tokens_makeNumber k 0 T2 (upd (fun _ => 0) 1 (r2 : Int32)) (fun _ => 0)).bind (fun (r3, T3) => (f_Tokens_line k 0 T3 (upd (fun _ => 0) 1 (L 1 : Int32)) (fun _ => 0)).bind (fun (r4, T4) => (f_Replacer_spelledSince k 0 T4 (upd (upd (fun _ => 0) 1 (S.1 9 2 : Int32)) 2 (r4 : Int32)) (fun _ => 0)).bind (fun (r5, T5) => some (r5, T5))))))
  | _ + 1, _ + 1, _, _, _ => none
set_option maxHeartbeats 8000000 in
set_option maxRecDepth 100000 in
theorem w_Replacer_spellLine {p : Program} {l : Launch} {e : Env} {R : Room} {s : State} {m : MethodId} {args : Array Value} {below : List Frame} {meth : Method} {c : Code} {cells slots : Nat} {Q : State → Prop} {g : gG} {A : Nat → Prop} {ad : Nat → Nat} (hx : p.tables.exec = Jvm.exec) (hb : c.code = b_Replacer_spellLine) (hml : c.maxLocals = 3) (hown : s.vm.findClass "MacroMill$Replacer" = some m.cls) (htt : ∀ w ∈ gt, w.before args s = true) (hK : va_K g.1 classes (tysG g) s) (hN : nw s) (hA : ∀ q : Nat, s.heap.size ≤ q → A q) (hRf : 2 ≤ R.frames) (hRl : 44 ≤ R.locals) (hRc : cells ≤ R.cells) (hRs : slots ≤ R.slots) (r : Int64) (S9 : sS)
    (kx_43 : ∀ (ls : Array Slot) (H : Heap) (locs : List Loc), va_P g.1 classes (Sw shC g ad S9) H → va_D A (Sw shC g ad S9) → va_S A s.heap H locs → W p l e R s m args below meth c H locs cells slots Q (F0 m 43 ls [.long r])) :
    ∀ k9 : Nat, (∀ (S : sS) (L : Nat → Int32) (M : Nat → Int64) (ls : Array Slot) (H : Heap) (locs : List Loc), f_Replacer_spellLine k9 0 S L M = some (r, S9) → lv_has ls 3 [(0, .ref (ad 12)), (1, .int (L 1))] → va_P g.1 classes (Sw shC g ad S) H → va_D A (Sw shC g ad S) → va_S A s.heap H locs → W p l e R s m args below meth c H locs cells slots Q (F0 m 0 ls [])) := by
  intro k9
  induction k9 with
  | zero => exact (fun _ _ _ _ _ _ h => by simp [f_Replacer_spellLine] at h)
  | succ k9 ih =>
    · intro S L M ls H locs h hl hP hD hS
      simp only [f_Replacer_spellLine] at h
      refine lv_aload_n hx hb d_Replacer_spellLine_0 rfl (lv_at hl 0 rfl) ?_
      refine S_getR (h := shC) (C := "MacroMill$Replacer") (T := F_Replacer) hx hb htt in_Replacer hown hK hP 12 0 rfl 9 rfl rfl (by decide) (htt _ k_826) (fun _ h9 => h9) d_Replacer_spellLine_1 ?_
      refine S_getI (h := shC) (C := "MacroMill$Tokens") (T := F_Tokens) hx hb htt in_Tokens hown hK hP 9 2 rfl rfl rfl (by decide) (htt _ k_640) (fun _ h9 => h9) d_Replacer_spellLine_4 ?_
      refine lv_istore_n (lv' := [(2, .int (S.1 9 2)), (0, .ref (ad 12)), (1, .int (L 1))]) hx hb d_Replacer_spellLine_7 rfl hl (by decide) rfl (fun ls hl => ?_)
      refine lv_aload_n hx hb d_Replacer_spellLine_8 rfl (lv_at hl 1 rfl) ?_
      refine S_getR (h := shC) (C := "MacroMill$Replacer") (T := F_Replacer) hx hb htt in_Replacer hown hK hP 12 0 rfl 9 rfl rfl (by decide) (htt _ k_826) (fun _ h9 => h9) d_Replacer_spellLine_9 ?_
      refine lv_aload_n hx hb d_Replacer_spellLine_12 rfl (lv_at hl 1 rfl) ?_
      refine S_getR (h := shC) (C := "MacroMill$Replacer") (T := F_Replacer) hx hb htt in_Replacer hown hK hP 12 2 rfl 11 rfl rfl (by decide) (htt _ k_828) (fun _ h9 => h9) d_Replacer_spellLine_13 ?_
      refine lv_aload_n hx hb d_Replacer_spellLine_16 rfl (lv_at hl 1 rfl) ?_
      refine S_getR (h := shC) (C := "MacroMill$Replacer") (T := F_Replacer) hx hb htt in_Replacer hown hK hP 12 0 rfl 9 rfl rfl (by decide) (htt _ k_826) (fun _ h9 => h9) d_Replacer_spellLine_17 ?_
      refine lv_iload_n hx hb d_Replacer_spellLine_20 rfl (lv_at hl 2 rfl) ?_
      obtain ⟨⟨r1, T1⟩, hq1, h⟩ := Option.bind_eq_some_iff.mp h
      try dsimp only at h
      refine go_iS (As := [.ref (ad 9), .int (L 1)]) (g := g) (A := A) (h := shC) hP hK hD hS hA hN (fun hp => va_runV (As := [.int (L 1)]) (rest := [.ref (ad 11), .ref (ad 9)]) ⟨hx, hb, hml, hown, htt⟩ (t_Tokens_line l g _ ad S (L 1 : Int32) k9 r1 T1 hq1) ⟨(cb_L htt k_1704 k_271 k_1768 hd_Tokens_line ⟨(Nat.le_trans (by decide +kernel) hRf), (Nat.le_trans (by decide +kernel) hRl)⟩), htt _ k_1702, htt _ k_1703⟩ ⟨hp.1, S_recv hK hP 9 rfl rfl, hp.2⟩ rfl rfl hl.1 rfl (lv_room (Nat.le_of_ble_eq_true rfl)) d_Replacer_spellLine_21 ⟨hRc, hRs⟩) (fun r0 Sn H locs hw9 hP hD hS => ?_)
      obtain ⟨e9, e8⟩ := hw9
      rw [e8] at hP hD
      refine W.widen (k := cells) (n := slots) (Nat.le_refl _) (Nat.le_refl _) ?_
      refine toI (y := r1) e9 ?_
      obtain ⟨⟨r2, T2⟩, hq2, h⟩ := Option.bind_eq_some_iff.mp h
      try dsimp only at h
      refine go_iS (As := [.ref (ad 11), .int r1]) (g := g) (A := A) (h := shC) hP hK hD hS hA hN (fun hp => va_runV (As := [.int r1]) (rest := [.ref (ad 9)]) ⟨hx, hb, hml, hown, htt⟩ (t_Lines_toldLine l g _ ad T1 (r1 : Int32) k9 r2 T2 hq2) ⟨(cb_L htt k_1945 k_273 k_1942 hd_Lines_toldLine ⟨(Nat.le_trans (by decide +kernel) hRf), (Nat.le_trans (by decide +kernel) hRl)⟩), htt _ k_1943, htt _ k_1944⟩ ⟨hp.1, S_recv hK hP 11 rfl rfl, hp.2⟩ rfl rfl hl.1 rfl (lv_room (Nat.le_of_ble_eq_true rfl)) d_Replacer_spellLine_24 ⟨hRc, hRs⟩) (fun r0 Sn H locs hw9 hP hD hS => ?_)
      obtain ⟨e9, e8⟩ := hw9
      rw [e8] at hP hD
      refine W.widen (k := cells) (n := slots) (Nat.le_refl _) (Nat.le_refl _) ?_
      refine toI (y := r2) e9 ?_
      obtain ⟨⟨r3, T3⟩, hq3, h⟩ := Option.bind_eq_some_iff.mp h
      try dsimp only at h
      refine go_vS (As := [.ref (ad 9), .int r2]) (g := g) (A := A) (h := shC) hP hK hD hS hA hN (fun hp => va_runV (As := [.int r2]) (rest := []) ⟨hx, hb, hml, hown, htt⟩ (t_Tokens_makeNumber l g _ ad T2 (r2 : Int32) k9 r3 T3 hq3) ⟨(cb_L htt k_1949 k_271 k_1946 hd_Tokens_makeNumber ⟨(Nat.le_trans (by decide +kernel) hRf), (Nat.le_trans (by decide +kernel) hRl)⟩), htt _ k_1947, htt _ k_1948⟩ ⟨hp.1, S_recv hK hP 9 rfl rfl, hp.2⟩ rfl rfl hl.1 rfl (lv_room (Nat.le_of_ble_eq_true rfl)) d_Replacer_spellLine_27 ⟨hRc, hRs⟩) (fun Sn H locs hw9 hP hD hS => ?_)
      have e8 := hw9
      rw [e8] at hP hD
      refine W.widen (k := cells) (n := slots) (Nat.le_refl _) (Nat.le_refl _) ?_
      show W _ _ _ _ _ _ _ _ _ _ _ _ _ _ _ (F0 _ 30 _ _)
      refine lv_aload_n hx hb d_Replacer_spellLine_30 rfl (lv_at hl 1 rfl) ?_
      refine lv_iload_n hx hb d_Replacer_spellLine_31 rfl (lv_at hl 0 rfl) ?_
      refine lv_aload_n hx hb d_Replacer_spellLine_32 rfl (lv_at hl 1 rfl) ?_
      refine S_getR (h := shC) (C := "MacroMill$Replacer") (T := F_Replacer) hx hb htt in_Replacer hown hK hP 12 0 rfl 9 rfl rfl (by decide) (htt _ k_826) (fun _ h9 => h9) d_Replacer_spellLine_33 ?_
      refine lv_iload_n hx hb d_Replacer_spellLine_36 rfl (lv_at hl 2 rfl) ?_
      obtain ⟨⟨r4, T4⟩, hq4, h⟩ := Option.bind_eq_some_iff.mp h
      try dsimp only at h
      refine go_iS (As := [.ref (ad 9), .int (L 1)]) (g := g) (A := A) (h := shC) hP hK hD hS hA hN (fun hp => va_runV (As := [.int (L 1)]) (rest := [.int (S.1 9 2), .ref (ad 12)]) ⟨hx, hb, hml, hown, htt⟩ (t_Tokens_line l g _ ad T3 (L 1 : Int32) k9 r4 T4 hq4) ⟨(cb_L htt k_1704 k_271 k_1768 hd_Tokens_line ⟨(Nat.le_trans (by decide +kernel) hRf), (Nat.le_trans (by decide +kernel) hRl)⟩), htt _ k_1702, htt _ k_1703⟩ ⟨hp.1, S_recv hK hP 9 rfl rfl, hp.2⟩ rfl rfl hl.1 rfl (lv_room (Nat.le_of_ble_eq_true rfl)) d_Replacer_spellLine_37 ⟨hRc, hRs⟩) (fun r0 Sn H locs hw9 hP hD hS => ?_)
      obtain ⟨e9, e8⟩ := hw9
      rw [e8] at hP hD
      refine W.widen (k := cells) (n := slots) (Nat.le_refl _) (Nat.le_refl _) ?_
      refine toI (y := r4) e9 ?_
      obtain ⟨⟨r5, T5⟩, hq5, h⟩ := Option.bind_eq_some_iff.mp h
      try dsimp only at h
      refine go_lS (As := [.ref (ad 12), .int (S.1 9 2), .int r4]) (g := g) (A := A) (h := shC) hP hK hD hS hA hN (fun hp => va_runV (As := [.int (S.1 9 2), .int r4]) (rest := []) ⟨hx, hb, hml, hown, htt⟩ (t_Replacer_spelledSince l g _ ad T4 (S.1 9 2 : Int32) (r4 : Int32) k9 r5 T5 hq5) ⟨(cb_L htt k_1827 k_274 k_1824 hd_Replacer_spelledSince ⟨(Nat.le_trans (by decide +kernel) hRf), (Nat.le_trans (by decide +kernel) hRl)⟩), htt _ k_1826, htt _ k_73⟩ ⟨hp.1, S_recv hK hP 12 rfl rfl, hp.2⟩ rfl rfl hl.1 rfl (lv_room (Nat.le_of_ble_eq_true rfl)) d_Replacer_spellLine_40 ⟨hRc, hRs⟩) (fun r0 Sn H locs hw9 hP hD hS => ?_)
      obtain ⟨e9, e8⟩ := hw9
      rw [e8] at hP hD
      refine W.widen (k := cells) (n := slots) (Nat.le_refl _) (Nat.le_refl _) ?_
      refine toL (y := r5) e9 ?_
      cases h
      exact kx_43 ls H locs hP hD hS
abbrev rm_t_Replacer_spellLine : Room := { frames := 2, cells := 0, slots := 0, locals := 44 }
theorem t_Replacer_spellLine (l : Launch) (g : gG) (sz : Nat) (ad : Nat → Nat) (S : sS) (v1 : Int32) (k : Nat) (r : Int64) (S9 : sS) (h : f_Replacer_spellLine k 0 S (upd (fun _ => 0) 1 v1) (fun _ => 0) = some (r, S9)) : Cl l y_Replacer_spellLine b_Replacer_spellLine 3 rm_t_Replacer_spellLine g [.ref (ad 12), .int v1] (Sw shC g ad S) sz (fun r1 w => ∃ S1 : sS, w = Sw shC g ad S1 ∧ r1 = r ∧ S1 = S9) := by
  refine startL (by decide) (Nat.le_of_ble_eq_true rfl) ?_
  intro p e s m below meth c A ls hx hb hr hml hlocks hmn hown htt hN hA hP hK hD hS hl
  exact (w_Replacer_spellLine hx hb hml hown htt hK hN hA (by decide +kernel) (by decide +kernel) (by decide +kernel) (by decide +kernel) r S9 (fun ls H locs hP hD hS => fin_l (g := g) (ws := Sw shC g ad S9) hx hb hr hlocks (by decide +kernel) (by decide +kernel) hP hD hS ⟨_, rfl, rfl, rfl⟩ d_Replacer_spellLine_43) k) S (upd (fun _ => 0) 1 v1) (fun _ => 0) ls _ _ h hl hP hD hS
def f_Replacer_spellFile : Nat → Nat → sS → (Nat → Int32) → (Nat → Int64) → Option (Int64 × sS)
  | 0, _, _, _, _ => none
  | k + 1, 0, S, L, M => (f_Tokens_make k 0 S (upd (fun _ => 0) 1 (34 : Int32)) (fun _ => 0)).bind (fun (r1, T1) => f_Replacer_spellFile k 1 T1 (upd (upd L 2 (S.1 9 2)) 3 (0 : Int32)) M)
  | k + 1, 1, S, L, M => if (64 : Int32) ≤ (L 3) then (f_Replacer_spellFile k 4 S L M) else ((f_Lines_titleByte k 0 S (upd (fun _ => 0) 1 (L 3 : Int32)) (fun _ => 0)).bind (fun (r2, T2) => if r2 < (0 : Int32) then (f_Replacer_spellFile k 4 T2 L M) else ((f_Lines_titleByte k 0 T2 (upd (fun _ => 0) 1 (L 3 : Int32)) (fun _ => 0)).bind (fun (r4, T4) => if r4 = (92 : Int32) then (f_Replacer_spellFile k 2 T4 (upd L 4 r4) M) else (if r4 = (34 : Int32) then (f_Replacer_spellFile k 2 T4 (upd L 4 r4) M) else (f_Replacer_spellFile k 3 T4 (upd L 4 r4) M))))))
  | k + 1, 2, S, L, M => (f_Tokens_make k 0 S (upd (fun _ => 0) 1 (92 : Int32)) (fun _ => 0)).bind (fun (r1, T1) => f_Replacer_spellFile k 3 T1 L M)
  | k + 1, 3, S, L, M => (f_Tokens_make k 0 S (upd (fun _ => 0) 1 (L 4 : Int32)) (fun _ => 0)).bind (fun (r1, T1) => f_Replacer_spellFile k 1 T1 (upd L 3 ((L 3) + 1)) M)
  | k + 1, 4, S, L, M => (f_Tokens_make k 0 S (upd (fun _ => 0) 1 (34 : Int32)) (fun _ => 0)).bind (fun (r1, T1) => (f_Tokens_line k 0 T1 (upd (fun _ => 0) 1 (L 1 : Int32)) (fun _ => 0)).bind (fun (r2, T2) => (f_Replacer_spelledSince k 0 T2 (upd (upd (fun _ => 0) 1 (L 2 : Int32)) 2 (r2 : Int32)) (fun _ => 0)).bind (fun (r3, T3) => some (r3, T3))))
  | _ + 1, _ + 5, _, _, _ => none
set_option maxHeartbeats 8000000 in
set_option maxRecDepth 100000 in
theorem w_Replacer_spellFile {p : Program} {l : Launch} {e : Env} {R : Room} {s : State} {m : MethodId} {args : Array Value} {below : List Frame} {meth : Method} {c : Code} {cells slots : Nat} {Q : State → Prop} {g : gG} {A : Nat → Prop} {ad : Nat → Nat} (hx : p.tables.exec = Jvm.exec) (hb : c.code = b_Replacer_spellFile) (hml : c.maxLocals = 5) (hown : s.vm.findClass "MacroMill$Replacer" = some m.cls) (htt : ∀ w ∈ gt, w.before args s = true) (hK : va_K g.1 classes (tysG g) s) (hN : nw s) (hA : ∀ q : Nat, s.heap.size ≤ q → A q) (hRf : 2 ≤ R.frames) (hRl : 44 ≤ R.locals) (hRc : cells ≤ R.cells) (hRs : slots ≤ R.slots) (r : Int64) (S9 : sS)
    (kx_106 : ∀ (ls : Array Slot) (H : Heap) (locs : List Loc), va_P g.1 classes (Sw shC g ad S9) H → va_D A (Sw shC g ad S9) → va_S A s.heap H locs → W p l e R s m args below meth c H locs cells slots Q (F0 m 106 ls [.long r])) :
    ∀ k9 : Nat, (∀ (S : sS) (L : Nat → Int32) (M : Nat → Int64) (ls : Array Slot) (H : Heap) (locs : List Loc), f_Replacer_spellFile k9 0 S L M = some (r, S9) → lv_has ls 5 [(0, .ref (ad 12)), (1, .int (L 1))] → va_P g.1 classes (Sw shC g ad S) H → va_D A (Sw shC g ad S) → va_S A s.heap H locs → W p l e R s m args below meth c H locs cells slots Q (F0 m 0 ls [])) ∧ (∀ (S : sS) (L : Nat → Int32) (M : Nat → Int64) (ls : Array Slot) (H : Heap) (locs : List Loc), f_Replacer_spellFile k9 1 S L M = some (r, S9) → lv_has ls 5 [(0, .ref (ad 12)), (1, .int (L 1)), (2, .int (L 2)), (3, .int (L 3))] → va_P g.1 classes (Sw shC g ad S) H → va_D A (Sw shC g ad S) → va_S A s.heap H locs → W p l e R s m args below meth c H locs cells slots Q (F0 m 19 ls [])) ∧ (∀ (S : sS) (L : Nat → Int32) (M : Nat → Int64) (ls : Array Slot) (H : Heap) (locs : List Loc), f_Replacer_spellFile k9 2 S L M = some (r, S9) → lv_has ls 5 [(0, .ref (ad 12)), (1, .int (L 1)), (2, .int (L 2)), (3, .int (L 3)), (4, .int (L 4))] → va_P g.1 classes (Sw shC g ad S) H → va_D A (Sw shC g ad S) → va_S A s.heap H locs → W p l e R s m args below meth c H locs cells slots Q (F0 m 60 ls [])) ∧ (∀ (S : sS) (L : Nat → Int32) (M : Nat → Int64) (ls : Array Slot) (H : Heap) (locs : List Loc), f_Replacer_spellFile k9 3 S L M = some (r, S9) → lv_has ls 5 [(0, .ref (ad 12)), (1, .int (L 1)), (2, .int (L 2)), (3, .int (L 3)), (4, .int (L 4))] → va_P g.1 classes (Sw shC g ad S) H → va_D A (Sw shC g ad S) → va_S A s.heap H locs → W p l e R s m args below meth c H locs cells slots Q (F0 m 69 ls [])) ∧ (∀ (S : sS) (L : Nat → Int32) (M : Nat → Int64) (ls : Array Slot) (H : Heap) (locs : List Loc), f_Replacer_spellFile k9 4 S L M = some (r, S9) → lv_has ls 5 [(0, .ref (ad 12)), (1, .int (L 1)), (2, .int (L 2)), (3, .int (L 3))] → va_P g.1 classes (Sw shC g ad S) H → va_D A (Sw shC g ad S) → va_S A s.heap H locs → W p l e R s m args below meth c H locs cells slots Q (F0 m 84 ls [])) := by
  intro k9
  induction k9 with
  | zero => exact ⟨(fun _ _ _ _ _ _ h => by simp [f_Replacer_spellFile] at h), (fun _ _ _ _ _ _ h => by simp [f_Replacer_spellFile] at h), (fun _ _ _ _ _ _ h => by simp [f_Replacer_spellFile] at h), (fun _ _ _ _ _ _ h => by simp [f_Replacer_spellFile] at h), (fun _ _ _ _ _ _ h => by simp [f_Replacer_spellFile] at h)⟩
  | succ k9 ih =>
    refine ⟨?_, ?_, ?_, ?_, ?_⟩
    · intro S L M ls H locs h hl hP hD hS
      simp only [f_Replacer_spellFile] at h
      refine lv_aload_n hx hb d_Replacer_spellFile_0 rfl (lv_at hl 0 rfl) ?_
      refine S_getR (h := shC) (C := "MacroMill$Replacer") (T := F_Replacer) hx hb htt in_Replacer hown hK hP 12 0 rfl 9 rfl rfl (by decide) (htt _ k_826) (fun _ h9 => h9) d_Replacer_spellFile_1 ?_
      refine S_getI (h := shC) (C := "MacroMill$Tokens") (T := F_Tokens) hx hb htt in_Tokens hown hK hP 9 2 rfl rfl rfl (by decide) (htt _ k_640) (fun _ h9 => h9) d_Replacer_spellFile_4 ?_
      refine lv_istore_n (lv' := [(2, .int (S.1 9 2)), (0, .ref (ad 12)), (1, .int (L 1))]) hx hb d_Replacer_spellFile_7 rfl hl (by decide) rfl (fun ls hl => ?_)
      refine lv_aload_n hx hb d_Replacer_spellFile_8 rfl (lv_at hl 1 rfl) ?_
      refine S_getR (h := shC) (C := "MacroMill$Replacer") (T := F_Replacer) hx hb htt in_Replacer hown hK hP 12 0 rfl 9 rfl rfl (by decide) (htt _ k_826) (fun _ h9 => h9) d_Replacer_spellFile_9 ?_
      refine lv_bipush (v := 34) hx hb d_Replacer_spellFile_12 (by decide) ?_
      obtain ⟨⟨r1, T1⟩, hq1, h⟩ := Option.bind_eq_some_iff.mp h
      try dsimp only at h
      refine go_vS (As := [.ref (ad 9), .int 34]) (g := g) (A := A) (h := shC) hP hK hD hS hA hN (fun hp => va_runV (As := [.int 34]) (rest := []) ⟨hx, hb, hml, hown, htt⟩ (t_Tokens_make l g _ ad S (34 : Int32) k9 r1 T1 hq1) ⟨(cb_L htt k_1808 k_271 k_1805 hd_Tokens_make ⟨(Nat.le_trans (by decide +kernel) hRf), (Nat.le_trans (by decide +kernel) hRl)⟩), htt _ k_1806, htt _ k_1807⟩ ⟨hp.1, S_recv hK hP 9 rfl rfl, hp.2⟩ rfl rfl hl.1 rfl (lv_room (Nat.le_of_ble_eq_true rfl)) d_Replacer_spellFile_14 ⟨hRc, hRs⟩) (fun Sn H locs hw9 hP hD hS => ?_)
      have e8 := hw9
      rw [e8] at hP hD
      refine W.widen (k := cells) (n := slots) (Nat.le_refl _) (Nat.le_refl _) ?_
      refine lv_iconst (v := 0) hx hb d_Replacer_spellFile_17 (by decide) ?_
      refine lv_istore_n (lv' := [(3, .int 0), (2, .int (S.1 9 2)), (0, .ref (ad 12)), (1, .int (L 1))]) hx hb d_Replacer_spellFile_18 rfl hl (by decide) rfl (fun ls hl => ?_)
      exact (ih.2.1) T1 (upd (upd L 2 (S.1 9 2)) 3 (0 : Int32)) M ls H locs h (lv_sub hl [2, 3, 1, 0] rfl) hP hD hS
    · intro S L M ls H locs h hl hP hD hS
      simp only [f_Replacer_spellFile] at h
      refine lv_iload_n hx hb d_Replacer_spellFile_19 rfl (lv_at hl 3 rfl) ?_
      refine lv_bipush (v := 64) hx hb d_Replacer_spellFile_20 (by decide) ?_
      refine lv_icmp_ge (tgt := 84) hx hb d_Replacer_spellFile_22 (by decide) (fun hc1 => ?_) (fun hc1 => ?_)
      · rw [if_pos hc1] at h
        exact (ih.2.2.2.2) S L M ls H locs h (lv_sub hl [0, 1, 2, 3] rfl) hP hD hS
      · rw [if_neg hc1] at h
        refine lv_aload_n hx hb d_Replacer_spellFile_25 rfl (lv_at hl 0 rfl) ?_
        refine S_getR (h := shC) (C := "MacroMill$Replacer") (T := F_Replacer) hx hb htt in_Replacer hown hK hP 12 2 rfl 11 rfl rfl (by decide) (htt _ k_828) (fun _ h9 => h9) d_Replacer_spellFile_26 ?_
        refine lv_iload_n hx hb d_Replacer_spellFile_29 rfl (lv_at hl 3 rfl) ?_
        obtain ⟨⟨r2, T2⟩, hq2, h⟩ := Option.bind_eq_some_iff.mp h
        try dsimp only at h
        refine go_iS (As := [.ref (ad 11), .int (L 3)]) (g := g) (A := A) (h := shC) hP hK hD hS hA hN (fun hp => va_runV (As := [.int (L 3)]) (rest := []) ⟨hx, hb, hml, hown, htt⟩ (t_Lines_titleByte l g _ ad S (L 3 : Int32) k9 r2 T2 hq2) ⟨(cb_L htt k_1960 k_273 k_1957 hd_Lines_titleByte ⟨(Nat.le_trans (by decide +kernel) hRf), (Nat.le_trans (by decide +kernel) hRl)⟩), htt _ k_1958, htt _ k_1959⟩ ⟨hp.1, S_recv hK hP 11 rfl rfl, hp.2⟩ rfl rfl hl.1 rfl (lv_room (Nat.le_of_ble_eq_true rfl)) d_Replacer_spellFile_30 ⟨hRc, hRs⟩) (fun r0 Sn H locs hw9 hP hD hS => ?_)
        obtain ⟨e9, e8⟩ := hw9
        rw [e8] at hP hD
        refine W.widen (k := cells) (n := slots) (Nat.le_refl _) (Nat.le_refl _) ?_
        refine toI (y := r2) e9 ?_
        refine lv_if_lt (tgt := 84) hx hb d_Replacer_spellFile_33 (by decide) (fun hc3 => ?_) (fun hc3 => ?_)
        · rw [if_pos hc3] at h
          exact (ih.2.2.2.2) T2 L M ls H locs h (lv_sub hl [0, 1, 2, 3] rfl) hP hD hS
        · rw [if_neg hc3] at h
          refine lv_aload_n hx hb d_Replacer_spellFile_36 rfl (lv_at hl 0 rfl) ?_
          refine S_getR (h := shC) (C := "MacroMill$Replacer") (T := F_Replacer) hx hb htt in_Replacer hown hK hP 12 2 rfl 11 rfl rfl (by decide) (htt _ k_828) (fun _ h9 => h9) d_Replacer_spellFile_37 ?_
          refine lv_iload_n hx hb d_Replacer_spellFile_40 rfl (lv_at hl 3 rfl) ?_
          obtain ⟨⟨r4, T4⟩, hq4, h⟩ := Option.bind_eq_some_iff.mp h
          try dsimp only at h
          refine go_iS (As := [.ref (ad 11), .int (L 3)]) (g := g) (A := A) (h := shC) hP hK hD hS hA hN (fun hp => va_runV (As := [.int (L 3)]) (rest := []) ⟨hx, hb, hml, hown, htt⟩ (t_Lines_titleByte l g _ ad T2 (L 3 : Int32) k9 r4 T4 hq4) ⟨(cb_L htt k_1960 k_273 k_1957 hd_Lines_titleByte ⟨(Nat.le_trans (by decide +kernel) hRf), (Nat.le_trans (by decide +kernel) hRl)⟩), htt _ k_1958, htt _ k_1959⟩ ⟨hp.1, S_recv hK hP 11 rfl rfl, hp.2⟩ rfl rfl hl.1 rfl (lv_room (Nat.le_of_ble_eq_true rfl)) d_Replacer_spellFile_41 ⟨hRc, hRs⟩) (fun r0 Sn H locs hw9 hP hD hS => ?_)
          obtain ⟨e9, e8⟩ := hw9
          rw [e8] at hP hD
          refine W.widen (k := cells) (n := slots) (Nat.le_refl _) (Nat.le_refl _) ?_
          refine toI (y := r4) e9 ?_
          refine lv_istore (lv' := [(4, .int r4), (0, .ref (ad 12)), (1, .int (L 1)), (2, .int (L 2)), (3, .int (L 3))]) hx hb d_Replacer_spellFile_44 hl (by decide) rfl (fun ls hl => ?_)
          refine lv_iload hx hb d_Replacer_spellFile_46 (lv_at hl 0 rfl) ?_
          refine lv_bipush (v := 92) hx hb d_Replacer_spellFile_48 (by decide) ?_
          refine lv_icmp_eq (tgt := 60) hx hb d_Replacer_spellFile_50 (by decide) (fun hc5 => ?_) (fun hc5 => ?_)
          · rw [if_pos hc5] at h
            exact (ih.2.2.1) T4 (upd L 4 r4) M ls H locs h (lv_sub hl [1, 2, 3, 4, 0] rfl) hP hD hS
          · rw [if_neg hc5] at h
            show W _ _ _ _ _ _ _ _ _ _ _ _ _ _ _ (F0 _ 53 _ _)
            refine lv_iload hx hb d_Replacer_spellFile_53 (lv_at hl 0 rfl) ?_
            refine lv_bipush (v := 34) hx hb d_Replacer_spellFile_55 (by decide) ?_
            refine lv_icmp_ne (tgt := 69) hx hb d_Replacer_spellFile_57 (by decide) (fun hc6 => ?_) (fun hc6 => ?_)
            · rw [if_neg hc6] at h
              exact (ih.2.2.2.1) T4 (upd L 4 r4) M ls H locs h (lv_sub hl [1, 2, 3, 4, 0] rfl) hP hD hS
            · rw [if_pos hc6] at h
              exact (ih.2.2.1) T4 (upd L 4 r4) M ls H locs h (lv_sub hl [1, 2, 3, 4, 0] rfl) hP hD hS
    · intro S L M ls H locs h hl hP hD hS
      simp only [f_Replacer_spellFile] at h
      refine lv_aload_n hx hb d_Replacer_spellFile_60 rfl (lv_at hl 0 rfl) ?_
      refine S_getR (h := shC) (C := "MacroMill$Replacer") (T := F_Replacer) hx hb htt in_Replacer hown hK hP 12 0 rfl 9 rfl rfl (by decide) (htt _ k_826) (fun _ h9 => h9) d_Replacer_spellFile_61 ?_
      refine lv_bipush (v := 92) hx hb d_Replacer_spellFile_64 (by decide) ?_
      obtain ⟨⟨r1, T1⟩, hq1, h⟩ := Option.bind_eq_some_iff.mp h
      try dsimp only at h
      refine go_vS (As := [.ref (ad 9), .int 92]) (g := g) (A := A) (h := shC) hP hK hD hS hA hN (fun hp => va_runV (As := [.int 92]) (rest := []) ⟨hx, hb, hml, hown, htt⟩ (t_Tokens_make l g _ ad S (92 : Int32) k9 r1 T1 hq1) ⟨(cb_L htt k_1808 k_271 k_1805 hd_Tokens_make ⟨(Nat.le_trans (by decide +kernel) hRf), (Nat.le_trans (by decide +kernel) hRl)⟩), htt _ k_1806, htt _ k_1807⟩ ⟨hp.1, S_recv hK hP 9 rfl rfl, hp.2⟩ rfl rfl hl.1 rfl (lv_room (Nat.le_of_ble_eq_true rfl)) d_Replacer_spellFile_66 ⟨hRc, hRs⟩) (fun Sn H locs hw9 hP hD hS => ?_)
      have e8 := hw9
      rw [e8] at hP hD
      refine W.widen (k := cells) (n := slots) (Nat.le_refl _) (Nat.le_refl _) ?_
      exact (ih.2.2.2.1) T1 L M ls H locs h (lv_sub hl [0, 1, 2, 3, 4] rfl) hP hD hS
    · intro S L M ls H locs h hl hP hD hS
      simp only [f_Replacer_spellFile] at h
      refine lv_aload_n hx hb d_Replacer_spellFile_69 rfl (lv_at hl 0 rfl) ?_
      refine S_getR (h := shC) (C := "MacroMill$Replacer") (T := F_Replacer) hx hb htt in_Replacer hown hK hP 12 0 rfl 9 rfl rfl (by decide) (htt _ k_826) (fun _ h9 => h9) d_Replacer_spellFile_70 ?_
      refine lv_iload hx hb d_Replacer_spellFile_73 (lv_at hl 4 rfl) ?_
      obtain ⟨⟨r1, T1⟩, hq1, h⟩ := Option.bind_eq_some_iff.mp h
      try dsimp only at h
      refine go_vS (As := [.ref (ad 9), .int (L 4)]) (g := g) (A := A) (h := shC) hP hK hD hS hA hN (fun hp => va_runV (As := [.int (L 4)]) (rest := []) ⟨hx, hb, hml, hown, htt⟩ (t_Tokens_make l g _ ad S (L 4 : Int32) k9 r1 T1 hq1) ⟨(cb_L htt k_1808 k_271 k_1805 hd_Tokens_make ⟨(Nat.le_trans (by decide +kernel) hRf), (Nat.le_trans (by decide +kernel) hRl)⟩), htt _ k_1806, htt _ k_1807⟩ ⟨hp.1, S_recv hK hP 9 rfl rfl, hp.2⟩ rfl rfl hl.1 rfl (lv_room (Nat.le_of_ble_eq_true rfl)) d_Replacer_spellFile_75 ⟨hRc, hRs⟩) (fun Sn H locs hw9 hP hD hS => ?_)
      have e8 := hw9
      rw [e8] at hP hD
      refine W.widen (k := cells) (n := slots) (Nat.le_refl _) (Nat.le_refl _) ?_
      refine lv_iinc (k := 3) (v := (L 3) + 1) (lv' := [(3, .int ((L 3) + 1)), (0, .ref (ad 12)), (1, .int (L 1)), (2, .int (L 2)), (4, .int (L 4))]) hx hb d_Replacer_spellFile_78 hl rfl rfl (by decide) rfl (fun ls hl => ?_)
      refine lv_goto (tgt := 19) hx hb d_Replacer_spellFile_81 (by decide) ?_
      exact (ih.2.1) T1 (upd L 3 ((L 3) + 1)) M ls H locs h (lv_sub hl [1, 2, 3, 0] rfl) hP hD hS
    · intro S L M ls H locs h hl hP hD hS
      simp only [f_Replacer_spellFile] at h
      refine lv_aload_n hx hb d_Replacer_spellFile_84 rfl (lv_at hl 0 rfl) ?_
      refine S_getR (h := shC) (C := "MacroMill$Replacer") (T := F_Replacer) hx hb htt in_Replacer hown hK hP 12 0 rfl 9 rfl rfl (by decide) (htt _ k_826) (fun _ h9 => h9) d_Replacer_spellFile_85 ?_
      refine lv_bipush (v := 34) hx hb d_Replacer_spellFile_88 (by decide) ?_
      obtain ⟨⟨r1, T1⟩, hq1, h⟩ := Option.bind_eq_some_iff.mp h
      try dsimp only at h
      refine go_vS (As := [.ref (ad 9), .int 34]) (g := g) (A := A) (h := shC) hP hK hD hS hA hN (fun hp => va_runV (As := [.int 34]) (rest := []) ⟨hx, hb, hml, hown, htt⟩ (t_Tokens_make l g _ ad S (34 : Int32) k9 r1 T1 hq1) ⟨(cb_L htt k_1808 k_271 k_1805 hd_Tokens_make ⟨(Nat.le_trans (by decide +kernel) hRf), (Nat.le_trans (by decide +kernel) hRl)⟩), htt _ k_1806, htt _ k_1807⟩ ⟨hp.1, S_recv hK hP 9 rfl rfl, hp.2⟩ rfl rfl hl.1 rfl (lv_room (Nat.le_of_ble_eq_true rfl)) d_Replacer_spellFile_90 ⟨hRc, hRs⟩) (fun Sn H locs hw9 hP hD hS => ?_)
      have e8 := hw9
      rw [e8] at hP hD
      refine W.widen (k := cells) (n := slots) (Nat.le_refl _) (Nat.le_refl _) ?_
      refine lv_aload_n hx hb d_Replacer_spellFile_93 rfl (lv_at hl 0 rfl) ?_
      refine lv_iload_n hx hb d_Replacer_spellFile_94 rfl (lv_at hl 2 rfl) ?_
      refine lv_aload_n hx hb d_Replacer_spellFile_95 rfl (lv_at hl 0 rfl) ?_
      refine S_getR (h := shC) (C := "MacroMill$Replacer") (T := F_Replacer) hx hb htt in_Replacer hown hK hP 12 0 rfl 9 rfl rfl (by decide) (htt _ k_826) (fun _ h9 => h9) d_Replacer_spellFile_96 ?_
      refine lv_iload_n hx hb d_Replacer_spellFile_99 rfl (lv_at hl 1 rfl) ?_
      obtain ⟨⟨r2, T2⟩, hq2, h⟩ := Option.bind_eq_some_iff.mp h
      try dsimp only at h
      refine go_iS (As := [.ref (ad 9), .int (L 1)]) (g := g) (A := A) (h := shC) hP hK hD hS hA hN (fun hp => va_runV (As := [.int (L 1)]) (rest := [.int (L 2), .ref (ad 12)]) ⟨hx, hb, hml, hown, htt⟩ (t_Tokens_line l g _ ad T1 (L 1 : Int32) k9 r2 T2 hq2) ⟨(cb_L htt k_1704 k_271 k_1768 hd_Tokens_line ⟨(Nat.le_trans (by decide +kernel) hRf), (Nat.le_trans (by decide +kernel) hRl)⟩), htt _ k_1702, htt _ k_1703⟩ ⟨hp.1, S_recv hK hP 9 rfl rfl, hp.2⟩ rfl rfl hl.1 rfl (lv_room (Nat.le_of_ble_eq_true rfl)) d_Replacer_spellFile_100 ⟨hRc, hRs⟩) (fun r0 Sn H locs hw9 hP hD hS => ?_)
      obtain ⟨e9, e8⟩ := hw9
      rw [e8] at hP hD
      refine W.widen (k := cells) (n := slots) (Nat.le_refl _) (Nat.le_refl _) ?_
      refine toI (y := r2) e9 ?_
      obtain ⟨⟨r3, T3⟩, hq3, h⟩ := Option.bind_eq_some_iff.mp h
      try dsimp only at h
      refine go_lS (As := [.ref (ad 12), .int (L 2), .int r2]) (g := g) (A := A) (h := shC) hP hK hD hS hA hN (fun hp => va_runV (As := [.int (L 2), .int r2]) (rest := []) ⟨hx, hb, hml, hown, htt⟩ (t_Replacer_spelledSince l g _ ad T2 (L 2 : Int32) (r2 : Int32) k9 r3 T3 hq3) ⟨(cb_L htt k_1827 k_274 k_1824 hd_Replacer_spelledSince ⟨(Nat.le_trans (by decide +kernel) hRf), (Nat.le_trans (by decide +kernel) hRl)⟩), htt _ k_1826, htt _ k_73⟩ ⟨hp.1, S_recv hK hP 12 rfl rfl, hp.2⟩ rfl rfl hl.1 rfl (lv_room (Nat.le_of_ble_eq_true rfl)) d_Replacer_spellFile_103 ⟨hRc, hRs⟩) (fun r0 Sn H locs hw9 hP hD hS => ?_)
      obtain ⟨e9, e8⟩ := hw9
      rw [e8] at hP hD
      refine W.widen (k := cells) (n := slots) (Nat.le_refl _) (Nat.le_refl _) ?_
      refine toL (y := r3) e9 ?_
      cases h
      exact kx_106 ls H locs hP hD hS
abbrev rm_t_Replacer_spellFile : Room := { frames := 2, cells := 0, slots := 0, locals := 44 }
theorem t_Replacer_spellFile (l : Launch) (g : gG) (sz : Nat) (ad : Nat → Nat) (S : sS) (v1 : Int32) (k : Nat) (r : Int64) (S9 : sS) (h : f_Replacer_spellFile k 0 S (upd (fun _ => 0) 1 v1) (fun _ => 0) = some (r, S9)) : Cl l y_Replacer_spellFile b_Replacer_spellFile 5 rm_t_Replacer_spellFile g [.ref (ad 12), .int v1] (Sw shC g ad S) sz (fun r1 w => ∃ S1 : sS, w = Sw shC g ad S1 ∧ r1 = r ∧ S1 = S9) := by
  refine startL (by decide) (Nat.le_of_ble_eq_true rfl) ?_
  intro p e s m below meth c A ls hx hb hr hml hlocks hmn hown htt hN hA hP hK hD hS hl
  exact (w_Replacer_spellFile hx hb hml hown htt hK hN hA (by decide +kernel) (by decide +kernel) (by decide +kernel) (by decide +kernel) r S9 (fun ls H locs hP hD hS => fin_l (g := g) (ws := Sw shC g ad S9) hx hb hr hlocks (by decide +kernel) (by decide +kernel) hP hD hS ⟨_, rfl, rfl, rfl⟩ d_Replacer_spellFile_106) k).1 S (upd (fun _ => 0) 1 v1) (fun _ => 0) ls _ _ h hl hP hD hS
def f_Replacer_keepForDirective : Nat → Nat → sS → (Nat → Int32) → (Nat → Int64) → Option (Int32 × sS)
  | 0, _, _, _, _ => none
  | k + 1, 0, S, L, M => if okI (61) 62 = true then (if (S.2.1 73 (61 : Int32).toNatClampNeg) < (8000 : Int32) then ((f_Replacer_append k 0 S (upd (upd (fun _ => 0) 1 (61 : Int32)) 4 (L 3 : Int32)) (vp_updL (fun _ => 0) 2 (M 1 : Int64))).bind (fun (r3, T3) => f_Replacer_keepForDirective k 1 T3 L M)) else ((f_Outcome_fail k 0 S (upd (upd (fun _ => 0) 1 (21 : Int32)) 2 (S.1 12 15 : Int32)) (fun _ => 0)).bind (fun (r4, T4) => f_Replacer_keepForDirective k 1 T4 L M))) else none
  | k + 1, 1, S, L, M => some ((0 : Int32), S)
  | _ + 1, _ + 2, _, _, _ => none
set_option maxHeartbeats 8000000 in
set_option maxRecDepth 100000 in
theorem w_Replacer_keepForDirective {p : Program} {l : Launch} {e : Env} {R : Room} {s : State} {m : MethodId} {args : Array Value} {below : List Frame} {meth : Method} {c : Code} {cells slots : Nat} {Q : State → Prop} {g : gG} {A : Nat → Prop} {ad : Nat → Nat} (hx : p.tables.exec = Jvm.exec) (hb : c.code = b_Replacer_keepForDirective) (hml : c.maxLocals = 4) (hown : s.vm.findClass "MacroMill$Replacer" = some m.cls) (htt : ∀ w ∈ gt, w.before args s = true) (hK : va_K g.1 classes (tysG g) s) (hN : nw s) (hA : ∀ q : Nat, s.heap.size ≤ q → A q) (hRf : 2 ≤ R.frames) (hRl : 48 ≤ R.locals) (hRc : cells ≤ R.cells) (hRs : slots ≤ R.slots) (r : Int32) (S9 : sS)
    (kx_37 : ∀ (ls : Array Slot) (H : Heap) (locs : List Loc), va_P g.1 classes (Sw shC g ad S9) H → va_D A (Sw shC g ad S9) → va_S A s.heap H locs → W p l e R s m args below meth c H locs cells slots Q (F0 m 37 ls [])) :
    ∀ k9 : Nat, (∀ (S : sS) (L : Nat → Int32) (M : Nat → Int64) (ls : Array Slot) (H : Heap) (locs : List Loc), f_Replacer_keepForDirective k9 0 S L M = some (r, S9) → lv_has ls 4 [(0, .ref (ad 12)), (1, .long (M 1)), (3, .int (L 3))] → va_P g.1 classes (Sw shC g ad S) H → va_D A (Sw shC g ad S) → va_S A s.heap H locs → W p l e R s m args below meth c H locs cells slots Q (F0 m 0 ls [])) ∧ (∀ (S : sS) (L : Nat → Int32) (M : Nat → Int64) (ls : Array Slot) (H : Heap) (locs : List Loc), f_Replacer_keepForDirective k9 1 S L M = some (r, S9) → lv_has ls 4 [(0, .ref (ad 12)), (1, .long (M 1)), (3, .int (L 3))] → va_P g.1 classes (Sw shC g ad S) H → va_D A (Sw shC g ad S) → va_S A s.heap H locs → W p l e R s m args below meth c H locs cells slots Q (F0 m 37 ls [])) := by
  intro k9
  induction k9 with
  | zero => exact ⟨(fun _ _ _ _ _ _ h => by simp [f_Replacer_keepForDirective] at h), (fun _ _ _ _ _ _ h => by simp [f_Replacer_keepForDirective] at h)⟩
  | succ k9 ih =>
    refine ⟨?_, ?_⟩
    · intro S L M ls H locs h hl hP hD hS
      simp only [f_Replacer_keepForDirective] at h
      refine lv_aload_n hx hb d_Replacer_keepForDirective_0 rfl (lv_at hl 0 rfl) ?_
      refine S_getR (h := shC) (C := "MacroMill$Replacer") (T := F_Replacer) hx hb htt in_Replacer hown hK hP 12 13 rfl 86 rfl rfl (by decide) (htt _ k_839) (fun _ h9 => h9) d_Replacer_keepForDirective_1 ?_
      refine lv_bipush (v := 61) hx hb d_Replacer_keepForDirective_4 (by decide) ?_
      obtain ⟨hv1, h⟩ := chk h
      refine S_iald (h := shC) (i := 61) hx hb hK hP 73 rfl (okI_in hv1) d_Replacer_keepForDirective_6 ?_
      refine lv_sipush (v := 8000) hx hb d_Replacer_keepForDirective_7 (by decide) ?_
      refine lv_icmp_lt (tgt := 29) hx hb d_Replacer_keepForDirective_10 (by decide) (fun hc2 => ?_) (fun hc2 => ?_)
      · rw [if_pos hc2] at h
        refine lv_aload_n hx hb d_Replacer_keepForDirective_29 rfl (lv_at hl 0 rfl) ?_
        refine lv_bipush (v := 61) hx hb d_Replacer_keepForDirective_30 (by decide) ?_
        refine lv_lload_n hx hb d_Replacer_keepForDirective_32 rfl (lv_at hl 1 rfl) ?_
        refine lv_iload_n hx hb d_Replacer_keepForDirective_33 rfl (lv_at hl 2 rfl) ?_
        obtain ⟨⟨r3, T3⟩, hq3, h⟩ := Option.bind_eq_some_iff.mp h
        try dsimp only at h
        refine go_vS (As := [.ref (ad 12), .int 61, .long (M 1), .int (L 3)]) (g := g) (A := A) (h := shC) hP hK hD hS hA hN (fun hp => va_runV (As := [.int 61, .long (M 1), .int (L 3)]) (rest := []) ⟨hx, hb, hml, hown, htt⟩ (t_Replacer_append l g _ ad S (61 : Int32) (M 1 : Int64) (L 3 : Int32) k9 r3 T3 hq3) ⟨(cb_L htt k_1849 k_274 k_1846 hd_Replacer_append ⟨(Nat.le_trans (by decide +kernel) hRf), (Nat.le_trans (by decide +kernel) hRl)⟩), htt _ k_1848, htt _ k_75⟩ ⟨hp.1, S_recv hK hP 12 rfl rfl, hp.2⟩ rfl rfl hl.1 rfl (lv_room (Nat.le_of_ble_eq_true rfl)) d_Replacer_keepForDirective_34 ⟨hRc, hRs⟩) (fun Sn H locs hw9 hP hD hS => ?_)
        have e8 := hw9
        rw [e8] at hP hD
        refine W.widen (k := cells) (n := slots) (Nat.le_refl _) (Nat.le_refl _) ?_
        exact (ih.2) T3 L M ls H locs h (lv_sub hl [0, 1, 2] rfl) hP hD hS
      · rw [if_neg hc2] at h
        refine lv_aload_n hx hb d_Replacer_keepForDirective_13 rfl (lv_at hl 0 rfl) ?_
        refine S_getR (h := shC) (C := "MacroMill$Replacer") (T := F_Replacer) hx hb htt in_Replacer hown hK hP 12 3 rfl 2 rfl rfl (by decide) (htt _ k_829) (fun _ h9 => h9) d_Replacer_keepForDirective_14 ?_
        refine lv_bipush (v := 21) hx hb d_Replacer_keepForDirective_17 (by decide) ?_
        refine lv_aload_n hx hb d_Replacer_keepForDirective_19 rfl (lv_at hl 0 rfl) ?_
        refine S_getI (h := shC) (C := "MacroMill$Replacer") (T := F_Replacer) hx hb htt in_Replacer hown hK hP 12 15 rfl rfl rfl (by decide) (htt _ k_841) (fun _ h9 => h9) d_Replacer_keepForDirective_20 ?_
        obtain ⟨⟨r4, T4⟩, hq4, h⟩ := Option.bind_eq_some_iff.mp h
        try dsimp only at h
        refine go_vS (As := [.ref (ad 2), .int 21, .int (S.1 12 15)]) (g := g) (A := A) (h := shC) hP hK hD hS hA hN (fun hp => va_runV (As := [.int 21, .int (S.1 12 15)]) (rest := []) ⟨hx, hb, hml, hown, htt⟩ (t_Outcome_fail l g _ ad S (21 : Int32) (S.1 12 15 : Int32) k9 r4 T4 hq4) ⟨(cb_L htt k_1163 k_264 k_1777 hd_Outcome_fail ⟨(Nat.le_trans (by decide +kernel) hRf), (Nat.le_trans (by decide +kernel) hRl)⟩), htt _ k_1161, htt _ k_1162⟩ ⟨hp.1, S_recv hK hP 2 rfl rfl, hp.2⟩ rfl rfl hl.1 rfl (lv_room (Nat.le_of_ble_eq_true rfl)) d_Replacer_keepForDirective_23 ⟨hRc, hRs⟩) (fun Sn H locs hw9 hP hD hS => ?_)
        have e8 := hw9
        rw [e8] at hP hD
        refine W.widen (k := cells) (n := slots) (Nat.le_refl _) (Nat.le_refl _) ?_
        refine lv_goto (tgt := 37) hx hb d_Replacer_keepForDirective_26 (by decide) ?_
        exact (ih.2) T4 L M ls H locs h (lv_sub hl [0, 1, 2] rfl) hP hD hS
    · intro S L M ls H locs h hl hP hD hS
      simp only [f_Replacer_keepForDirective] at h
      cases h
      exact kx_37 ls H locs hP hD hS
abbrev rm_t_Replacer_keepForDirective : Room := { frames := 2, cells := 0, slots := 0, locals := 48 }
theorem t_Replacer_keepForDirective (l : Launch) (g : gG) (sz : Nat) (ad : Nat → Nat) (S : sS) (v1 : Int64) (v2 : Int32) (k : Nat) (r : Int32) (S9 : sS) (h : f_Replacer_keepForDirective k 0 S (upd (fun _ => 0) 3 v2) (vp_updL (fun _ => 0) 1 v1) = some (r, S9)) : Cv l y_Replacer_keepForDirective b_Replacer_keepForDirective 4 rm_t_Replacer_keepForDirective g [.ref (ad 12), .long v1, .int v2] (Sw shC g ad S) sz (fun w => ∃ S1 : sS, w = Sw shC g ad S1 ∧ S1 = S9) := by
  refine startV (by decide) (Nat.le_of_ble_eq_true rfl) ?_
  intro p e s m below meth c A ls hx hb hr hml hlocks hmn hown htt hN hA hP hK hD hS hl
  exact (w_Replacer_keepForDirective hx hb hml hown htt hK hN hA (by decide +kernel) (by decide +kernel) (by decide +kernel) (by decide +kernel) r S9 (fun ls H locs hP hD hS => fin_v (g := g) (ws := Sw shC g ad S9) hx hb hr hlocks (by decide +kernel) (by decide +kernel) hP hD hS ⟨_, rfl, rfl⟩ d_Replacer_keepForDirective_37) k).1 S (upd (fun _ => 0) 3 v2) (vp_updL (fun _ => 0) 1 v1) ls _ _ h hl hP hD hS
def f_Replacer_gatherArguments : Nat → Nat → sS → (Nat → Int32) → (Nat → Int64) → Option (Int32 × sS)
  | 0, _, _, _, _ => none
  | k + 1, 0, S, L, M => if okI (L 3) 400 = true then (if okI (L 3) 400 = true then (if (S.2.1 46 (L 3 : Int32).toNatClampNeg) = (0 : Int32) then (f_Replacer_gatherArguments k 1 S (upd (upd L 5 (S.2.1 45 (L 3 : Int32).toNatClampNeg)) 100 (1000000 : Int32)) M) else (f_Replacer_gatherArguments k 1 S (upd (upd L 5 (S.2.1 45 (L 3 : Int32).toNatClampNeg)) 100 ((S.2.1 45 (L 3 : Int32).toNatClampNeg) - (1 : Int32))) M)) else none) else none
  | k + 1, 1, S, L, M => if okI (L 1) 120784 = true then (if okI (S.2.1 41 (L 1 : Int32).toNatClampNeg) 120784 = true then (if okI ((L 4) * (30 : Int32)) 1830 = true then (f_Replacer_gatherArguments k 2 (putA S 64 ((L 4) * (30 : Int32) : Int32).toNatClampNeg (S.2.1 41 (S.2.1 41 (L 1 : Int32).toNatClampNeg : Int32).toNatClampNeg)) (upd (upd (upd (upd (upd (upd (upd L 6 (L 100)) 7 ((L 4) * (30 : Int32))) 8 (S.2.1 41 (S.2.1 41 (L 1 : Int32).toNatClampNeg : Int32).toNatClampNeg)) 9 (S.2.1 41 (S.2.1 41 (L 1 : Int32).toNatClampNeg : Int32).toNatClampNeg)) 10 (0 : Int32)) 11 (0 : Int32)) 12 (0 : Int32)) M) else none) else none) else none
  | k + 1, 2, S, L, M => if (1000000 : Int32) ≤ (L 12) then (f_Replacer_gatherArguments k 5 S L M) else (if (L 9) = (L 2) then (f_Replacer_gatherArguments k 5 S L M) else (if (0 : Int32) < (L 10) then (f_Replacer_gatherArguments k 3 S L M) else ((f_Tokens_isSign k 0 S (upd (upd (fun _ => 0) 1 (L 9 : Int32)) 2 (41 : Int32)) (fun _ => 0)).bind (fun (r4, T4) => if r4 = (0 : Int32) then (f_Replacer_gatherArguments k 3 T4 L M) else (f_Replacer_gatherArguments k 5 T4 L M)))))
  | k + 1, 3, S, L, M => (f_Tokens_isSign k 0 S (upd (upd (fun _ => 0) 1 (L 9 : Int32)) 2 (40 : Int32)) (fun _ => 0)).bind (fun (r1, T1) => if r1 = (0 : Int32) then ((f_Tokens_isSign k 0 T1 (upd (upd (fun _ => 0) 1 (L 9 : Int32)) 2 (41 : Int32)) (fun _ => 0)).bind (fun (r3, T3) => if r3 = (0 : Int32) then ((f_Tokens_isSign k 0 T3 (upd (upd (fun _ => 0) 1 (L 9 : Int32)) 2 (44 : Int32)) (fun _ => 0)).bind (fun (r5, T5) => if r5 = (0 : Int32) then (f_Replacer_gatherArguments k 4 T5 L M) else (if (L 10) = (0 : Int32) then (if (L 6) ≤ (L 11) then (f_Replacer_gatherArguments k 4 T5 L M) else ((f_Replacer_endArgument k 0 T5 (upd (upd (upd (fun _ => 0) 1 (L 7 : Int32)) 2 (L 11 : Int32)) 3 (L 9 : Int32)) (fun _ => 0)).bind (fun (r9, T9) => f_Replacer_gatherArguments k 4 T9 (upd L 11 ((L 11) + 1)) M))) else (f_Replacer_gatherArguments k 4 T5 L M)))) else (f_Replacer_gatherArguments k 4 T3 (upd L 10 ((L 10) + (-1))) M))) else (f_Replacer_gatherArguments k 4 T1 (upd L 10 ((L 10) + 1)) M))
  | k + 1, 4, S, L, M => if okI (L 9) 120784 = true then (f_Replacer_gatherArguments k 2 S (upd (upd L 9 (S.2.1 41 (L 9 : Int32).toNatClampNeg)) 12 ((L 12) + 1)) M) else none
  | k + 1, 5, S, L, M => if (L 9) = (L 2) then ((f_Tokens_line k 0 S (upd (fun _ => 0) 1 (L 1 : Int32)) (fun _ => 0)).bind (fun (r5, T5) => (f_Outcome_fail k 0 T5 (upd (upd (fun _ => 0) 1 (18 : Int32)) 2 (r5 : Int32)) (fun _ => 0)).bind (fun (r6, T6) => some (L 1, T6)))) else ((f_Replacer_endArgument k 0 S (upd (upd (upd (fun _ => 0) 1 (L 7 : Int32)) 2 (L 11 : Int32)) 3 (L 9 : Int32)) (fun _ => 0)).bind (fun (r2, T2) => if (L 5) = (0 : Int32) then (if (L 8) = (L 9) then (f_Replacer_gatherArguments k 6 T2 (upd L 11 (0 : Int32)) M) else (f_Replacer_gatherArguments k 6 T2 (upd L 11 ((L 11) + 1)) M)) else (f_Replacer_gatherArguments k 6 T2 (upd L 11 ((L 11) + 1)) M)))
  | k + 1, 6, S, L, M => if (L 11) = (L 5) then (f_Replacer_gatherArguments k 7 S L M) else ((f_Tokens_line k 0 S (upd (fun _ => 0) 1 (L 1 : Int32)) (fun _ => 0)).bind (fun (r2, T2) => (f_Outcome_fail k 0 T2 (upd (upd (fun _ => 0) 1 (17 : Int32)) 2 (r2 : Int32)) (fun _ => 0)).bind (fun (r3, T3) => f_Replacer_gatherArguments k 7 T3 L M)))
  | k + 1, 7, S, L, M => some (L 9, S)
  | _ + 1, _ + 8, _, _, _ => none
set_option maxHeartbeats 8000000 in
set_option maxRecDepth 100000 in
theorem w_Replacer_gatherArguments {p : Program} {l : Launch} {e : Env} {R : Room} {s : State} {m : MethodId} {args : Array Value} {below : List Frame} {meth : Method} {c : Code} {cells slots : Nat} {Q : State → Prop} {g : gG} {A : Nat → Prop} {ad : Nat → Nat} (hx : p.tables.exec = Jvm.exec) (hb : c.code = b_Replacer_gatherArguments) (hml : c.maxLocals = 13) (hown : s.vm.findClass "MacroMill$Replacer" = some m.cls) (htt : ∀ w ∈ gt, w.before args s = true) (hK : va_K g.1 classes (tysG g) s) (hN : nw s) (hA : ∀ q : Nat, s.heap.size ≤ q → A q) (hRf : 2 ≤ R.frames) (hRl : 43 ≤ R.locals) (hRc : cells ≤ R.cells) (hRs : slots ≤ R.slots) (r : Int32) (S9 : sS)
    (kx_235 : ∀ (ls : Array Slot) (H : Heap) (locs : List Loc), va_P g.1 classes (Sw shC g ad S9) H → va_D A (Sw shC g ad S9) → va_S A s.heap H locs → W p l e R s m args below meth c H locs cells slots Q (F0 m 235 ls [.int r]))
    (kx_290 : ∀ (ls : Array Slot) (H : Heap) (locs : List Loc), va_P g.1 classes (Sw shC g ad S9) H → va_D A (Sw shC g ad S9) → va_S A s.heap H locs → W p l e R s m args below meth c H locs cells slots Q (F0 m 290 ls [.int r])) :
    ∀ k9 : Nat, (∀ (S : sS) (L : Nat → Int32) (M : Nat → Int64) (ls : Array Slot) (H : Heap) (locs : List Loc), f_Replacer_gatherArguments k9 0 S L M = some (r, S9) → lv_has ls 13 [(0, .ref (ad 12)), (1, .int (L 1)), (2, .int (L 2)), (3, .int (L 3)), (4, .int (L 4))] → va_P g.1 classes (Sw shC g ad S) H → va_D A (Sw shC g ad S) → va_S A s.heap H locs → W p l e R s m args below meth c H locs cells slots Q (F0 m 0 ls [])) ∧ (∀ (S : sS) (L : Nat → Int32) (M : Nat → Int64) (ls : Array Slot) (H : Heap) (locs : List Loc), f_Replacer_gatherArguments k9 1 S L M = some (r, S9) → lv_has ls 13 [(0, .ref (ad 12)), (1, .int (L 1)), (2, .int (L 2)), (3, .int (L 3)), (4, .int (L 4)), (5, .int (L 5))] → va_P g.1 classes (Sw shC g ad S) H → va_D A (Sw shC g ad S) → va_S A s.heap H locs → W p l e R s m args below meth c H locs cells slots Q (F0 m 32 ls [.int (L 100)])) ∧ (∀ (S : sS) (L : Nat → Int32) (M : Nat → Int64) (ls : Array Slot) (H : Heap) (locs : List Loc), f_Replacer_gatherArguments k9 2 S L M = some (r, S9) → lv_has ls 13 [(0, .ref (ad 12)), (1, .int (L 1)), (2, .int (L 2)), (3, .int (L 3)), (4, .int (L 4)), (5, .int (L 5)), (6, .int (L 6)), (7, .int (L 7)), (8, .int (L 8)), (9, .int (L 9)), (10, .int (L 10)), (11, .int (L 11)), (12, .int (L 12))] → va_P g.1 classes (Sw shC g ad S) H → va_D A (Sw shC g ad S) → va_S A s.heap H locs → W p l e R s m args below meth c H locs cells slots Q (F0 m 82 ls [])) ∧ (∀ (S : sS) (L : Nat → Int32) (M : Nat → Int64) (ls : Array Slot) (H : Heap) (locs : List Loc), f_Replacer_gatherArguments k9 3 S L M = some (r, S9) → lv_has ls 13 [(0, .ref (ad 12)), (1, .int (L 1)), (2, .int (L 2)), (3, .int (L 3)), (4, .int (L 4)), (5, .int (L 5)), (6, .int (L 6)), (7, .int (L 7)), (8, .int (L 8)), (9, .int (L 9)), (10, .int (L 10)), (11, .int (L 11)), (12, .int (L 12))] → va_P g.1 classes (Sw shC g ad S) H → va_D A (Sw shC g ad S) → va_S A s.heap H locs → W p l e R s m args below meth c H locs cells slots Q (F0 m 114 ls [])) ∧ (∀ (S : sS) (L : Nat → Int32) (M : Nat → Int64) (ls : Array Slot) (H : Heap) (locs : List Loc), f_Replacer_gatherArguments k9 4 S L M = some (r, S9) → lv_has ls 13 [(0, .ref (ad 12)), (1, .int (L 1)), (2, .int (L 2)), (3, .int (L 3)), (4, .int (L 4)), (5, .int (L 5)), (6, .int (L 6)), (7, .int (L 7)), (8, .int (L 8)), (9, .int (L 9)), (10, .int (L 10)), (11, .int (L 11)), (12, .int (L 12))] → va_P g.1 classes (Sw shC g ad S) H → va_D A (Sw shC g ad S) → va_S A s.heap H locs → W p l e R s m args below meth c H locs cells slots Q (F0 m 193 ls [])) ∧ (∀ (S : sS) (L : Nat → Int32) (M : Nat → Int64) (ls : Array Slot) (H : Heap) (locs : List Loc), f_Replacer_gatherArguments k9 5 S L M = some (r, S9) → lv_has ls 13 [(0, .ref (ad 12)), (1, .int (L 1)), (2, .int (L 2)), (3, .int (L 3)), (4, .int (L 4)), (5, .int (L 5)), (6, .int (L 6)), (7, .int (L 7)), (8, .int (L 8)), (9, .int (L 9)), (10, .int (L 10)), (11, .int (L 11)), (12, .int (L 12))] → va_P g.1 classes (Sw shC g ad S) H → va_D A (Sw shC g ad S) → va_S A s.heap H locs → W p l e R s m args below meth c H locs cells slots Q (F0 m 211 ls [])) ∧ (∀ (S : sS) (L : Nat → Int32) (M : Nat → Int64) (ls : Array Slot) (H : Heap) (locs : List Loc), f_Replacer_gatherArguments k9 6 S L M = some (r, S9) → lv_has ls 13 [(0, .ref (ad 12)), (1, .int (L 1)), (2, .int (L 2)), (3, .int (L 3)), (4, .int (L 4)), (5, .int (L 5)), (6, .int (L 6)), (7, .int (L 7)), (8, .int (L 8)), (9, .int (L 9)), (10, .int (L 10)), (11, .int (L 11)), (12, .int (L 12))] → va_P g.1 classes (Sw shC g ad S) H → va_D A (Sw shC g ad S) → va_S A s.heap H locs → W p l e R s m args below meth c H locs cells slots Q (F0 m 264 ls [])) ∧ (∀ (S : sS) (L : Nat → Int32) (M : Nat → Int64) (ls : Array Slot) (H : Heap) (locs : List Loc), f_Replacer_gatherArguments k9 7 S L M = some (r, S9) → lv_has ls 13 [(0, .ref (ad 12)), (1, .int (L 1)), (2, .int (L 2)), (3, .int (L 3)), (4, .int (L 4)), (5, .int (L 5)), (6, .int (L 6)), (7, .int (L 7)), (8, .int (L 8)), (9, .int (L 9)), (10, .int (L 10)), (11, .int (L 11)), (12, .int (L 12))] → va_P g.1 classes (Sw shC g ad S) H → va_D A (Sw shC g ad S) → va_S A s.heap H locs → W p l e R s m args below meth c H locs cells slots Q (F0 m 288 ls [])) := by
  intro k9
  induction k9 with
  | zero => exact ⟨(fun _ _ _ _ _ _ h => by simp [f_Replacer_gatherArguments] at h), (fun _ _ _ _ _ _ h => by simp [f_Replacer_gatherArguments] at h), (fun _ _ _ _ _ _ h => by simp [f_Replacer_gatherArguments] at h), (fun _ _ _ _ _ _ h => by simp [f_Replacer_gatherArguments] at h), (fun _ _ _ _ _ _ h => by simp [f_Replacer_gatherArguments] at h), (fun _ _ _ _ _ _ h => by simp [f_Replacer_gatherArguments] at h), (fun _ _ _ _ _ _ h => by simp [f_Replacer_gatherArguments] at h), (fun _ _ _ _ _ _ h => by simp [f_Replacer_gatherArguments] at h)⟩
  | succ k9 ih =>
    refine ⟨?_, ?_, ?_, ?_, ?_, ?_, ?_, ?_⟩
    · intro S L M ls H locs h hl hP hD hS
      simp only [f_Replacer_gatherArguments] at h
      refine lv_aload_n hx hb d_Replacer_gatherArguments_0 rfl (lv_at hl 0 rfl) ?_
      refine S_getR (h := shC) (C := "MacroMill$Replacer") (T := F_Replacer) hx hb htt in_Replacer hown hK hP 12 1 rfl 10 rfl rfl (by decide) (htt _ k_827) (fun _ h9 => h9) d_Replacer_gatherArguments_1 ?_
      refine S_getR (h := shC) (C := "MacroMill$Macros") (T := F_Macros) hx hb htt in_Macros hown hK hP 10 6 rfl 58 rfl rfl (by decide) (htt _ k_698) (fun _ h9 => h9) d_Replacer_gatherArguments_4 ?_
      refine lv_iload_n hx hb d_Replacer_gatherArguments_7 rfl (lv_at hl 3 rfl) ?_
      obtain ⟨hv1, h⟩ := chk h
      refine S_iald (h := shC) (i := L 3) hx hb hK hP 45 rfl (okI_in hv1) d_Replacer_gatherArguments_8 ?_
      refine lv_istore (lv' := [(5, .int (S.2.1 45 (L 3 : Int32).toNatClampNeg)), (0, .ref (ad 12)), (1, .int (L 1)), (2, .int (L 2)), (3, .int (L 3)), (4, .int (L 4))]) hx hb d_Replacer_gatherArguments_9 hl (by decide) rfl (fun ls hl => ?_)
      refine lv_aload_n hx hb d_Replacer_gatherArguments_11 rfl (lv_at hl 1 rfl) ?_
      refine S_getR (h := shC) (C := "MacroMill$Replacer") (T := F_Replacer) hx hb htt in_Replacer hown hK hP 12 1 rfl 10 rfl rfl (by decide) (htt _ k_827) (fun _ h9 => h9) d_Replacer_gatherArguments_12 ?_
      refine S_getR (h := shC) (C := "MacroMill$Macros") (T := F_Macros) hx hb htt in_Macros hown hK hP 10 7 rfl 59 rfl rfl (by decide) (htt _ k_700) (fun _ h9 => h9) d_Replacer_gatherArguments_15 ?_
      refine lv_iload_n hx hb d_Replacer_gatherArguments_18 rfl (lv_at hl 4 rfl) ?_
      obtain ⟨hv2, h⟩ := chk h
      refine S_zald (h := shC) (i := L 3) hx hb hK hP 46 rfl (okI_in hv2) d_Replacer_gatherArguments_19 ?_
      refine lv_if_eq (tgt := 30) hx hb d_Replacer_gatherArguments_20 (by decide) (fun hc3 => ?_) (fun hc3 => ?_)
      · rw [if_pos hc3] at h
        show W _ _ _ _ _ _ _ _ _ _ _ _ _ _ _ (F0 _ 30 _ _)
        refine lv_ldc (v := 1000000) hx hb hown (htt _ k_1725) d_Replacer_gatherArguments_30 ?_
        exact (ih.2.1) S (upd (upd L 5 (S.2.1 45 (L 3 : Int32).toNatClampNeg)) 100 (1000000 : Int32)) M ls H locs h (lv_sub hl [1, 2, 3, 4, 5, 0] rfl) hP hD hS
      · rw [if_neg hc3] at h
        show W _ _ _ _ _ _ _ _ _ _ _ _ _ _ _ (F0 _ 23 _ _)
        refine lv_iload hx hb d_Replacer_gatherArguments_23 (lv_at hl 0 rfl) ?_
        refine lv_iconst (v := 1) hx hb d_Replacer_gatherArguments_25 (by decide) ?_
        refine lv_isub hx hb d_Replacer_gatherArguments_26 ?_
        refine lv_goto (tgt := 32) hx hb d_Replacer_gatherArguments_27 (by decide) ?_
        exact (ih.2.1) S (upd (upd L 5 (S.2.1 45 (L 3 : Int32).toNatClampNeg)) 100 ((S.2.1 45 (L 3 : Int32).toNatClampNeg) - (1 : Int32))) M ls H locs h (lv_sub hl [1, 2, 3, 4, 5, 0] rfl) hP hD hS
    · intro S L M ls H locs h hl hP hD hS
      simp only [f_Replacer_gatherArguments] at h
      refine lv_istore (lv' := [(6, .int (L 100)), (0, .ref (ad 12)), (1, .int (L 1)), (2, .int (L 2)), (3, .int (L 3)), (4, .int (L 4)), (5, .int (L 5))]) hx hb d_Replacer_gatherArguments_32 hl (by decide) rfl (fun ls hl => ?_)
      refine lv_iload hx hb d_Replacer_gatherArguments_34 (lv_at hl 5 rfl) ?_
      refine lv_bipush (v := 30) hx hb d_Replacer_gatherArguments_36 (by decide) ?_
      refine lv_imul hx hb d_Replacer_gatherArguments_38 ?_
      refine lv_istore (lv' := [(7, .int ((L 4) * (30 : Int32))), (6, .int (L 100)), (0, .ref (ad 12)), (1, .int (L 1)), (2, .int (L 2)), (3, .int (L 3)), (4, .int (L 4)), (5, .int (L 5))]) hx hb d_Replacer_gatherArguments_39 hl (by decide) rfl (fun ls hl => ?_)
      refine lv_aload_n hx hb d_Replacer_gatherArguments_41 rfl (lv_at hl 2 rfl) ?_
      refine S_getR (h := shC) (C := "MacroMill$Replacer") (T := F_Replacer) hx hb htt in_Replacer hown hK hP 12 0 rfl 9 rfl rfl (by decide) (htt _ k_826) (fun _ h9 => h9) d_Replacer_gatherArguments_42 ?_
      refine S_getR (h := shC) (C := "MacroMill$Tokens") (T := F_Tokens) hx hb htt in_Tokens hown hK hP 9 7 rfl 54 rfl rfl (by decide) (htt _ k_655) (fun _ h9 => h9) d_Replacer_gatherArguments_45 ?_
      refine lv_aload_n hx hb d_Replacer_gatherArguments_48 rfl (lv_at hl 2 rfl) ?_
      refine S_getR (h := shC) (C := "MacroMill$Replacer") (T := F_Replacer) hx hb htt in_Replacer hown hK hP 12 0 rfl 9 rfl rfl (by decide) (htt _ k_826) (fun _ h9 => h9) d_Replacer_gatherArguments_49 ?_
      refine S_getR (h := shC) (C := "MacroMill$Tokens") (T := F_Tokens) hx hb htt in_Tokens hown hK hP 9 7 rfl 54 rfl rfl (by decide) (htt _ k_655) (fun _ h9 => h9) d_Replacer_gatherArguments_52 ?_
      show W _ _ _ _ _ _ _ _ _ _ _ _ _ _ _ (F0 _ 55 _ _)
      refine lv_iload_n hx hb d_Replacer_gatherArguments_55 rfl (lv_at hl 3 rfl) ?_
      obtain ⟨hv1, h⟩ := chk h
      refine S_iald (h := shC) (i := L 1) hx hb hK hP 41 rfl (okI_in hv1) d_Replacer_gatherArguments_56 ?_
      obtain ⟨hv2, h⟩ := chk h
      refine S_iald (h := shC) (i := S.2.1 41 (L 1 : Int32).toNatClampNeg) hx hb hK hP 41 rfl (okI_in hv2) d_Replacer_gatherArguments_57 ?_
      refine lv_istore (lv' := [(8, .int (S.2.1 41 (S.2.1 41 (L 1 : Int32).toNatClampNeg : Int32).toNatClampNeg)), (7, .int ((L 4) * (30 : Int32))), (6, .int (L 100)), (0, .ref (ad 12)), (1, .int (L 1)), (2, .int (L 2)), (3, .int (L 3)), (4, .int (L 4)), (5, .int (L 5))]) hx hb d_Replacer_gatherArguments_58 hl (by decide) rfl (fun ls hl => ?_)
      refine lv_iload hx hb d_Replacer_gatherArguments_60 (lv_at hl 0 rfl) ?_
      refine lv_istore (lv' := [(9, .int (S.2.1 41 (S.2.1 41 (L 1 : Int32).toNatClampNeg : Int32).toNatClampNeg)), (8, .int (S.2.1 41 (S.2.1 41 (L 1 : Int32).toNatClampNeg : Int32).toNatClampNeg)), (7, .int ((L 4) * (30 : Int32))), (6, .int (L 100)), (0, .ref (ad 12)), (1, .int (L 1)), (2, .int (L 2)), (3, .int (L 3)), (4, .int (L 4)), (5, .int (L 5))]) hx hb d_Replacer_gatherArguments_62 hl (by decide) rfl (fun ls hl => ?_)
      refine lv_iconst (v := 0) hx hb d_Replacer_gatherArguments_64 (by decide) ?_
      refine lv_istore (lv' := [(10, .int 0), (9, .int (S.2.1 41 (S.2.1 41 (L 1 : Int32).toNatClampNeg : Int32).toNatClampNeg)), (8, .int (S.2.1 41 (S.2.1 41 (L 1 : Int32).toNatClampNeg : Int32).toNatClampNeg)), (7, .int ((L 4) * (30 : Int32))), (6, .int (L 100)), (0, .ref (ad 12)), (1, .int (L 1)), (2, .int (L 2)), (3, .int (L 3)), (4, .int (L 4)), (5, .int (L 5))]) hx hb d_Replacer_gatherArguments_65 hl (by decide) rfl (fun ls hl => ?_)
      refine lv_iconst (v := 0) hx hb d_Replacer_gatherArguments_67 (by decide) ?_
      refine lv_istore (lv' := [(11, .int 0), (10, .int 0), (9, .int (S.2.1 41 (S.2.1 41 (L 1 : Int32).toNatClampNeg : Int32).toNatClampNeg)), (8, .int (S.2.1 41 (S.2.1 41 (L 1 : Int32).toNatClampNeg : Int32).toNatClampNeg)), (7, .int ((L 4) * (30 : Int32))), (6, .int (L 100)), (0, .ref (ad 12)), (1, .int (L 1)), (2, .int (L 2)), (3, .int (L 3)), (4, .int (L 4)), (5, .int (L 5))]) hx hb d_Replacer_gatherArguments_68 hl (by decide) rfl (fun ls hl => ?_)
      refine lv_aload_n hx hb d_Replacer_gatherArguments_70 rfl (lv_at hl 6 rfl) ?_
      refine S_getR (h := shC) (C := "MacroMill$Replacer") (T := F_Replacer) hx hb htt in_Replacer hown hK hP 12 4 rfl 77 rfl rfl (by decide) (htt _ k_830) (fun _ h9 => h9) d_Replacer_gatherArguments_71 ?_
      show W _ _ _ _ _ _ _ _ _ _ _ _ _ _ _ (F0 _ 74 _ _)
      refine lv_iload hx hb d_Replacer_gatherArguments_74 (lv_at hl 4 rfl) ?_
      refine lv_iload hx hb d_Replacer_gatherArguments_76 (lv_at hl 2 rfl) ?_
      obtain ⟨hv3, h⟩ := chk h
      refine S_iast (h := shC) (i := (L 4) * (30 : Int32)) (v := S.2.1 41 (S.2.1 41 (L 1 : Int32).toNatClampNeg : Int32).toNatClampNeg) hx hb hK hP hD hS 64 rfl (okI_in hv3) d_Replacer_gatherArguments_78 (fun H locs hP hD hS => ?_)
      refine lv_iconst (v := 0) hx hb d_Replacer_gatherArguments_79 (by decide) ?_
      refine lv_istore (lv' := [(12, .int 0), (11, .int 0), (10, .int 0), (9, .int (S.2.1 41 (S.2.1 41 (L 1 : Int32).toNatClampNeg : Int32).toNatClampNeg)), (8, .int (S.2.1 41 (S.2.1 41 (L 1 : Int32).toNatClampNeg : Int32).toNatClampNeg)), (7, .int ((L 4) * (30 : Int32))), (6, .int (L 100)), (0, .ref (ad 12)), (1, .int (L 1)), (2, .int (L 2)), (3, .int (L 3)), (4, .int (L 4)), (5, .int (L 5))]) hx hb d_Replacer_gatherArguments_80 hl (by decide) rfl (fun ls hl => ?_)
      exact (ih.2.2.1) (putA S 64 ((L 4) * (30 : Int32) : Int32).toNatClampNeg (S.2.1 41 (S.2.1 41 (L 1 : Int32).toNatClampNeg : Int32).toNatClampNeg)) (upd (upd (upd (upd (upd (upd (upd L 6 (L 100)) 7 ((L 4) * (30 : Int32))) 8 (S.2.1 41 (S.2.1 41 (L 1 : Int32).toNatClampNeg : Int32).toNatClampNeg)) 9 (S.2.1 41 (S.2.1 41 (L 1 : Int32).toNatClampNeg : Int32).toNatClampNeg)) 10 (0 : Int32)) 11 (0 : Int32)) 12 (0 : Int32)) M ls H locs h (lv_sub hl [7, 8, 9, 10, 11, 12, 6, 5, 4, 3, 2, 1, 0] rfl) hP hD hS
    · intro S L M ls H locs h hl hP hD hS
      simp only [f_Replacer_gatherArguments] at h
      refine lv_iload hx hb d_Replacer_gatherArguments_82 (lv_at hl 12 rfl) ?_
      refine lv_ldc (v := 1000000) hx hb hown (htt _ k_1725) d_Replacer_gatherArguments_84 ?_
      refine lv_icmp_ge (tgt := 211) hx hb d_Replacer_gatherArguments_86 (by decide) (fun hc1 => ?_) (fun hc1 => ?_)
      · rw [if_pos hc1] at h
        exact (ih.2.2.2.2.2.1) S L M ls H locs h (lv_sub hl [0, 1, 2, 3, 4, 5, 6, 7, 8, 9, 10, 11, 12] rfl) hP hD hS
      · rw [if_neg hc1] at h
        refine lv_iload hx hb d_Replacer_gatherArguments_89 (lv_at hl 9 rfl) ?_
        refine lv_iload_n hx hb d_Replacer_gatherArguments_91 rfl (lv_at hl 2 rfl) ?_
        refine lv_icmp_eq (tgt := 211) hx hb d_Replacer_gatherArguments_92 (by decide) (fun hc2 => ?_) (fun hc2 => ?_)
        · rw [if_pos hc2] at h
          exact (ih.2.2.2.2.2.1) S L M ls H locs h (lv_sub hl [0, 1, 2, 3, 4, 5, 6, 7, 8, 9, 10, 11, 12] rfl) hP hD hS
        · rw [if_neg hc2] at h
          refine lv_iload hx hb d_Replacer_gatherArguments_95 (lv_at hl 10 rfl) ?_
          refine lv_if_gt (tgt := 114) hx hb d_Replacer_gatherArguments_97 (by decide) (fun hc3 => ?_) (fun hc3 => ?_)
          · rw [if_pos hc3] at h
            exact (ih.2.2.2.1) S L M ls H locs h (lv_sub hl [0, 1, 2, 3, 4, 5, 6, 7, 8, 9, 10, 11, 12] rfl) hP hD hS
          · rw [if_neg hc3] at h
            refine lv_aload_n hx hb d_Replacer_gatherArguments_100 rfl (lv_at hl 0 rfl) ?_
            refine S_getR (h := shC) (C := "MacroMill$Replacer") (T := F_Replacer) hx hb htt in_Replacer hown hK hP 12 0 rfl 9 rfl rfl (by decide) (htt _ k_826) (fun _ h9 => h9) d_Replacer_gatherArguments_101 ?_
            refine lv_iload hx hb d_Replacer_gatherArguments_104 (lv_at hl 9 rfl) ?_
            refine lv_bipush (v := 41) hx hb d_Replacer_gatherArguments_106 (by decide) ?_
            obtain ⟨⟨r4, T4⟩, hq4, h⟩ := Option.bind_eq_some_iff.mp h
            try dsimp only at h
            refine go_iS (As := [.ref (ad 9), .int (L 9), .int 41]) (g := g) (A := A) (h := shC) hP hK hD hS hA hN (fun hp => va_runV (As := [.int (L 9), .int 41]) (rest := []) ⟨hx, hb, hml, hown, htt⟩ (t_Tokens_isSign l g _ ad S (L 9 : Int32) (41 : Int32) k9 r4 T4 hq4) ⟨(cb_L htt k_1708 k_271 k_1763 hd_Tokens_isSign ⟨(Nat.le_trans (by decide +kernel) hRf), (Nat.le_trans (by decide +kernel) hRl)⟩), htt _ k_1706, htt _ k_1707⟩ ⟨hp.1, S_recv hK hP 9 rfl rfl, hp.2⟩ rfl rfl hl.1 rfl (lv_room (Nat.le_of_ble_eq_true rfl)) d_Replacer_gatherArguments_108 ⟨hRc, hRs⟩) (fun r0 Sn H locs hw9 hP hD hS => ?_)
            obtain ⟨e9, e8⟩ := hw9
            rw [e8] at hP hD
            refine W.widen (k := cells) (n := slots) (Nat.le_refl _) (Nat.le_refl _) ?_
            refine toI (y := r4) e9 ?_
            refine lv_if_ne (tgt := 211) hx hb d_Replacer_gatherArguments_111 (by decide) (fun hc5 => ?_) (fun hc5 => ?_)
            · rw [if_neg hc5] at h
              exact (ih.2.2.2.2.2.1) T4 L M ls H locs h (lv_sub hl [0, 1, 2, 3, 4, 5, 6, 7, 8, 9, 10, 11, 12] rfl) hP hD hS
            · rw [if_pos hc5] at h
              exact (ih.2.2.2.1) T4 L M ls H locs h (lv_sub hl [0, 1, 2, 3, 4, 5, 6, 7, 8, 9, 10, 11, 12] rfl) hP hD hS
    · intro S L M ls H locs h hl hP hD hS
      simp only [f_Replacer_gatherArguments] at h
      refine lv_aload_n hx hb d_Replacer_gatherArguments_114 rfl (lv_at hl 0 rfl) ?_
      refine S_getR (h := shC) (C := "MacroMill$Replacer") (T := F_Replacer) hx hb htt in_Replacer hown hK hP 12 0 rfl 9 rfl rfl (by decide) (htt _ k_826) (fun _ h9 => h9) d_Replacer_gatherArguments_115 ?_
      refine lv_iload hx hb d_Replacer_gatherArguments_118 (lv_at hl 9 rfl) ?_
      refine lv_bipush (v := 40) hx hb d_Replacer_gatherArguments_120 (by decide) ?_
      obtain ⟨⟨r1, T1⟩, hq1, h⟩ := Option.bind_eq_some_iff.mp h
      try dsimp only at h
      refine go_iS (As := [.ref (ad 9), .int (L 9), .int 40]) (g := g) (A := A) (h := shC) hP hK hD hS hA hN (fun hp => va_runV (As := [.int (L 9), .int 40]) (rest := []) ⟨hx, hb, hml, hown, htt⟩ (t_Tokens_isSign l g _ ad S (L 9 : Int32) (40 : Int32) k9 r1 T1 hq1) ⟨(cb_L htt k_1708 k_271 k_1763 hd_Tokens_isSign ⟨(Nat.le_trans (by decide +kernel) hRf), (Nat.le_trans (by decide +kernel) hRl)⟩), htt _ k_1706, htt _ k_1707⟩ ⟨hp.1, S_recv hK hP 9 rfl rfl, hp.2⟩ rfl rfl hl.1 rfl (lv_room (Nat.le_of_ble_eq_true rfl)) d_Replacer_gatherArguments_122 ⟨hRc, hRs⟩) (fun r0 Sn H locs hw9 hP hD hS => ?_)
      obtain ⟨e9, e8⟩ := hw9
      rw [e8] at hP hD
      refine W.widen (k := cells) (n := slots) (Nat.le_refl _) (Nat.le_refl _) ?_
      refine toI (y := r1) e9 ?_
      refine lv_if_eq (tgt := 134) hx hb d_Replacer_gatherArguments_125 (by decide) (fun hc2 => ?_) (fun hc2 => ?_)
      · rw [if_pos hc2] at h
        refine lv_aload_n hx hb d_Replacer_gatherArguments_134 rfl (lv_at hl 0 rfl) ?_
        refine S_getR (h := shC) (C := "MacroMill$Replacer") (T := F_Replacer) hx hb htt in_Replacer hown hK hP 12 0 rfl 9 rfl rfl (by decide) (htt _ k_826) (fun _ h9 => h9) d_Replacer_gatherArguments_135 ?_
        refine lv_iload hx hb d_Replacer_gatherArguments_138 (lv_at hl 9 rfl) ?_
        refine lv_bipush (v := 41) hx hb d_Replacer_gatherArguments_140 (by decide) ?_
        obtain ⟨⟨r3, T3⟩, hq3, h⟩ := Option.bind_eq_some_iff.mp h
        try dsimp only at h
        refine go_iS (As := [.ref (ad 9), .int (L 9), .int 41]) (g := g) (A := A) (h := shC) hP hK hD hS hA hN (fun hp => va_runV (As := [.int (L 9), .int 41]) (rest := []) ⟨hx, hb, hml, hown, htt⟩ (t_Tokens_isSign l g _ ad T1 (L 9 : Int32) (41 : Int32) k9 r3 T3 hq3) ⟨(cb_L htt k_1708 k_271 k_1763 hd_Tokens_isSign ⟨(Nat.le_trans (by decide +kernel) hRf), (Nat.le_trans (by decide +kernel) hRl)⟩), htt _ k_1706, htt _ k_1707⟩ ⟨hp.1, S_recv hK hP 9 rfl rfl, hp.2⟩ rfl rfl hl.1 rfl (lv_room (Nat.le_of_ble_eq_true rfl)) d_Replacer_gatherArguments_142 ⟨hRc, hRs⟩) (fun r0 Sn H locs hw9 hP hD hS => ?_)
        obtain ⟨e9, e8⟩ := hw9
        rw [e8] at hP hD
        refine W.widen (k := cells) (n := slots) (Nat.le_refl _) (Nat.le_refl _) ?_
        refine toI (y := r3) e9 ?_
        refine lv_if_eq (tgt := 154) hx hb d_Replacer_gatherArguments_145 (by decide) (fun hc4 => ?_) (fun hc4 => ?_)
        · rw [if_pos hc4] at h
          refine lv_aload_n hx hb d_Replacer_gatherArguments_154 rfl (lv_at hl 0 rfl) ?_
          refine S_getR (h := shC) (C := "MacroMill$Replacer") (T := F_Replacer) hx hb htt in_Replacer hown hK hP 12 0 rfl 9 rfl rfl (by decide) (htt _ k_826) (fun _ h9 => h9) d_Replacer_gatherArguments_155 ?_
          refine lv_iload hx hb d_Replacer_gatherArguments_158 (lv_at hl 9 rfl) ?_
          show W _ _ _ _ _ _ _ _ _ _ _ _ _ _ _ (F0 _ 160 _ _)
          refine lv_bipush (v := 44) hx hb d_Replacer_gatherArguments_160 (by decide) ?_
          obtain ⟨⟨r5, T5⟩, hq5, h⟩ := Option.bind_eq_some_iff.mp h
          try dsimp only at h
          refine go_iS (As := [.ref (ad 9), .int (L 9), .int 44]) (g := g) (A := A) (h := shC) hP hK hD hS hA hN (fun hp => va_runV (As := [.int (L 9), .int 44]) (rest := []) ⟨hx, hb, hml, hown, htt⟩ (t_Tokens_isSign l g _ ad T3 (L 9 : Int32) (44 : Int32) k9 r5 T5 hq5) ⟨(cb_L htt k_1708 k_271 k_1763 hd_Tokens_isSign ⟨(Nat.le_trans (by decide +kernel) hRf), (Nat.le_trans (by decide +kernel) hRl)⟩), htt _ k_1706, htt _ k_1707⟩ ⟨hp.1, S_recv hK hP 9 rfl rfl, hp.2⟩ rfl rfl hl.1 rfl (lv_room (Nat.le_of_ble_eq_true rfl)) d_Replacer_gatherArguments_162 ⟨hRc, hRs⟩) (fun r0 Sn H locs hw9 hP hD hS => ?_)
          obtain ⟨e9, e8⟩ := hw9
          rw [e8] at hP hD
          refine W.widen (k := cells) (n := slots) (Nat.le_refl _) (Nat.le_refl _) ?_
          refine toI (y := r5) e9 ?_
          refine lv_if_eq (tgt := 193) hx hb d_Replacer_gatherArguments_165 (by decide) (fun hc6 => ?_) (fun hc6 => ?_)
          · rw [if_pos hc6] at h
            exact (ih.2.2.2.2.1) T5 L M ls H locs h (lv_sub hl [0, 1, 2, 3, 4, 5, 6, 7, 8, 9, 10, 11, 12] rfl) hP hD hS
          · rw [if_neg hc6] at h
            refine lv_iload hx hb d_Replacer_gatherArguments_168 (lv_at hl 10 rfl) ?_
            refine lv_if_ne (tgt := 193) hx hb d_Replacer_gatherArguments_170 (by decide) (fun hc7 => ?_) (fun hc7 => ?_)
            · rw [if_neg hc7] at h
              exact (ih.2.2.2.2.1) T5 L M ls H locs h (lv_sub hl [0, 1, 2, 3, 4, 5, 6, 7, 8, 9, 10, 11, 12] rfl) hP hD hS
            · rw [if_pos hc7] at h
              refine lv_iload hx hb d_Replacer_gatherArguments_173 (lv_at hl 11 rfl) ?_
              refine lv_iload hx hb d_Replacer_gatherArguments_175 (lv_at hl 6 rfl) ?_
              refine lv_icmp_ge (tgt := 193) hx hb d_Replacer_gatherArguments_177 (by decide) (fun hc8 => ?_) (fun hc8 => ?_)
              · rw [if_pos hc8] at h
                exact (ih.2.2.2.2.1) T5 L M ls H locs h (lv_sub hl [0, 1, 2, 3, 4, 5, 6, 7, 8, 9, 10, 11, 12] rfl) hP hD hS
              · rw [if_neg hc8] at h
                refine lv_aload_n hx hb d_Replacer_gatherArguments_180 rfl (lv_at hl 0 rfl) ?_
                refine lv_iload hx hb d_Replacer_gatherArguments_181 (lv_at hl 7 rfl) ?_
                refine lv_iload hx hb d_Replacer_gatherArguments_183 (lv_at hl 11 rfl) ?_
                refine lv_iload hx hb d_Replacer_gatherArguments_185 (lv_at hl 9 rfl) ?_
                obtain ⟨⟨r9, T9⟩, hq9, h⟩ := Option.bind_eq_some_iff.mp h
                try dsimp only at h
                refine go_vS (As := [.ref (ad 12), .int (L 7), .int (L 11), .int (L 9)]) (g := g) (A := A) (h := shC) hP hK hD hS hA hN (fun hp => va_runV (As := [.int (L 7), .int (L 11), .int (L 9)]) (rest := []) ⟨hx, hb, hml, hown, htt⟩ (t_Replacer_endArgument l g _ ad T5 (L 7 : Int32) (L 11 : Int32) (L 9 : Int32) k9 r9 T9 hq9) ⟨(cb_L htt k_1776 k_274 k_1773 hd_Replacer_endArgument ⟨(Nat.le_trans (by decide +kernel) hRf), (Nat.le_trans (by decide +kernel) hRl)⟩), htt _ k_1775, htt _ k_67⟩ ⟨hp.1, S_recv hK hP 12 rfl rfl, hp.2⟩ rfl rfl hl.1 rfl (lv_room (Nat.le_of_ble_eq_true rfl)) d_Replacer_gatherArguments_187 ⟨hRc, hRs⟩) (fun Sn H locs hw9 hP hD hS => ?_)
                have e8 := hw9
                rw [e8] at hP hD
                refine W.widen (k := cells) (n := slots) (Nat.le_refl _) (Nat.le_refl _) ?_
                refine lv_iinc (k := 11) (v := (L 11) + 1) (lv' := [(11, .int ((L 11) + 1)), (0, .ref (ad 12)), (1, .int (L 1)), (2, .int (L 2)), (3, .int (L 3)), (4, .int (L 4)), (5, .int (L 5)), (6, .int (L 6)), (7, .int (L 7)), (8, .int (L 8)), (9, .int (L 9)), (10, .int (L 10)), (12, .int (L 12))]) hx hb d_Replacer_gatherArguments_190 hl rfl rfl (by decide) rfl (fun ls hl => ?_)
                exact (ih.2.2.2.2.1) T9 (upd L 11 ((L 11) + 1)) M ls H locs h (lv_sub hl [1, 2, 3, 4, 5, 6, 7, 8, 9, 10, 11, 0, 12] rfl) hP hD hS
        · rw [if_neg hc4] at h
          refine lv_iinc (k := 10) (v := (L 10) + (-1)) (lv' := [(10, .int ((L 10) + (-1))), (0, .ref (ad 12)), (1, .int (L 1)), (2, .int (L 2)), (3, .int (L 3)), (4, .int (L 4)), (5, .int (L 5)), (6, .int (L 6)), (7, .int (L 7)), (8, .int (L 8)), (9, .int (L 9)), (11, .int (L 11)), (12, .int (L 12))]) hx hb d_Replacer_gatherArguments_148 hl rfl rfl (by decide) rfl (fun ls hl => ?_)
          refine lv_goto (tgt := 193) hx hb d_Replacer_gatherArguments_151 (by decide) ?_
          exact (ih.2.2.2.2.1) T3 (upd L 10 ((L 10) + (-1))) M ls H locs h (lv_sub hl [1, 2, 3, 4, 5, 6, 7, 8, 9, 10, 0, 11, 12] rfl) hP hD hS
      · rw [if_neg hc2] at h
        refine lv_iinc (k := 10) (v := (L 10) + 1) (lv' := [(10, .int ((L 10) + 1)), (0, .ref (ad 12)), (1, .int (L 1)), (2, .int (L 2)), (3, .int (L 3)), (4, .int (L 4)), (5, .int (L 5)), (6, .int (L 6)), (7, .int (L 7)), (8, .int (L 8)), (9, .int (L 9)), (11, .int (L 11)), (12, .int (L 12))]) hx hb d_Replacer_gatherArguments_128 hl rfl rfl (by decide) rfl (fun ls hl => ?_)
        refine lv_goto (tgt := 193) hx hb d_Replacer_gatherArguments_131 (by decide) ?_
        exact (ih.2.2.2.2.1) T1 (upd L 10 ((L 10) + 1)) M ls H locs h (lv_sub hl [1, 2, 3, 4, 5, 6, 7, 8, 9, 10, 0, 11, 12] rfl) hP hD hS
    · intro S L M ls H locs h hl hP hD hS
      simp only [f_Replacer_gatherArguments] at h
      refine lv_aload_n hx hb d_Replacer_gatherArguments_193 rfl (lv_at hl 0 rfl) ?_
      refine S_getR (h := shC) (C := "MacroMill$Replacer") (T := F_Replacer) hx hb htt in_Replacer hown hK hP 12 0 rfl 9 rfl rfl (by decide) (htt _ k_826) (fun _ h9 => h9) d_Replacer_gatherArguments_194 ?_
      refine S_getR (h := shC) (C := "MacroMill$Tokens") (T := F_Tokens) hx hb htt in_Tokens hown hK hP 9 7 rfl 54 rfl rfl (by decide) (htt _ k_655) (fun _ h9 => h9) d_Replacer_gatherArguments_197 ?_
      refine lv_iload hx hb d_Replacer_gatherArguments_200 (lv_at hl 9 rfl) ?_
      obtain ⟨hv1, h⟩ := chk h
      refine S_iald (h := shC) (i := L 9) hx hb hK hP 41 rfl (okI_in hv1) d_Replacer_gatherArguments_202 ?_
      refine lv_istore (lv' := [(9, .int (S.2.1 41 (L 9 : Int32).toNatClampNeg)), (0, .ref (ad 12)), (1, .int (L 1)), (2, .int (L 2)), (3, .int (L 3)), (4, .int (L 4)), (5, .int (L 5)), (6, .int (L 6)), (7, .int (L 7)), (8, .int (L 8)), (10, .int (L 10)), (11, .int (L 11)), (12, .int (L 12))]) hx hb d_Replacer_gatherArguments_203 hl (by decide) rfl (fun ls hl => ?_)
      refine lv_iinc (k := 12) (v := (L 12) + 1) (lv' := [(12, .int ((L 12) + 1)), (9, .int (S.2.1 41 (L 9 : Int32).toNatClampNeg)), (0, .ref (ad 12)), (1, .int (L 1)), (2, .int (L 2)), (3, .int (L 3)), (4, .int (L 4)), (5, .int (L 5)), (6, .int (L 6)), (7, .int (L 7)), (8, .int (L 8)), (10, .int (L 10)), (11, .int (L 11))]) hx hb d_Replacer_gatherArguments_205 hl rfl rfl (by decide) rfl (fun ls hl => ?_)
      refine lv_goto (tgt := 82) hx hb d_Replacer_gatherArguments_208 (by decide) ?_
      exact (ih.2.2.1) S (upd (upd L 9 (S.2.1 41 (L 9 : Int32).toNatClampNeg)) 12 ((L 12) + 1)) M ls H locs h (lv_sub hl [2, 3, 4, 5, 6, 7, 8, 9, 10, 1, 11, 12, 0] rfl) hP hD hS
    · intro S L M ls H locs h hl hP hD hS
      simp only [f_Replacer_gatherArguments] at h
      refine lv_iload hx hb d_Replacer_gatherArguments_211 (lv_at hl 9 rfl) ?_
      refine lv_iload_n hx hb d_Replacer_gatherArguments_213 rfl (lv_at hl 2 rfl) ?_
      refine lv_icmp_ne (tgt := 236) hx hb d_Replacer_gatherArguments_214 (by decide) (fun hc1 => ?_) (fun hc1 => ?_)
      · rw [if_neg hc1] at h
        refine lv_aload_n hx hb d_Replacer_gatherArguments_236 rfl (lv_at hl 0 rfl) ?_
        refine lv_iload hx hb d_Replacer_gatherArguments_237 (lv_at hl 7 rfl) ?_
        refine lv_iload hx hb d_Replacer_gatherArguments_239 (lv_at hl 11 rfl) ?_
        refine lv_iload hx hb d_Replacer_gatherArguments_241 (lv_at hl 9 rfl) ?_
        obtain ⟨⟨r2, T2⟩, hq2, h⟩ := Option.bind_eq_some_iff.mp h
        try dsimp only at h
        refine go_vS (As := [.ref (ad 12), .int (L 7), .int (L 11), .int (L 9)]) (g := g) (A := A) (h := shC) hP hK hD hS hA hN (fun hp => va_runV (As := [.int (L 7), .int (L 11), .int (L 9)]) (rest := []) ⟨hx, hb, hml, hown, htt⟩ (t_Replacer_endArgument l g _ ad S (L 7 : Int32) (L 11 : Int32) (L 9 : Int32) k9 r2 T2 hq2) ⟨(cb_L htt k_1776 k_274 k_1773 hd_Replacer_endArgument ⟨(Nat.le_trans (by decide +kernel) hRf), (Nat.le_trans (by decide +kernel) hRl)⟩), htt _ k_1775, htt _ k_67⟩ ⟨hp.1, S_recv hK hP 12 rfl rfl, hp.2⟩ rfl rfl hl.1 rfl (lv_room (Nat.le_of_ble_eq_true rfl)) d_Replacer_gatherArguments_243 ⟨hRc, hRs⟩) (fun Sn H locs hw9 hP hD hS => ?_)
        have e8 := hw9
        rw [e8] at hP hD
        refine W.widen (k := cells) (n := slots) (Nat.le_refl _) (Nat.le_refl _) ?_
        refine lv_iinc (k := 11) (v := (L 11) + 1) (lv' := [(11, .int ((L 11) + 1)), (0, .ref (ad 12)), (1, .int (L 1)), (2, .int (L 2)), (3, .int (L 3)), (4, .int (L 4)), (5, .int (L 5)), (6, .int (L 6)), (7, .int (L 7)), (8, .int (L 8)), (9, .int (L 9)), (10, .int (L 10)), (12, .int (L 12))]) hx hb d_Replacer_gatherArguments_246 hl rfl rfl (by decide) rfl (fun ls hl => ?_)
        refine lv_iload hx hb d_Replacer_gatherArguments_249 (lv_at hl 6 rfl) ?_
        refine lv_if_ne (tgt := 264) hx hb d_Replacer_gatherArguments_251 (by decide) (fun hc3 => ?_) (fun hc3 => ?_)
        · rw [if_neg hc3] at h
          exact (ih.2.2.2.2.2.2.1) T2 (upd L 11 ((L 11) + 1)) M ls H locs h (lv_sub hl [1, 2, 3, 4, 5, 6, 7, 8, 9, 10, 11, 0, 12] rfl) hP hD hS
        · rw [if_pos hc3] at h
          refine lv_iload hx hb d_Replacer_gatherArguments_254 (lv_at hl 9 rfl) ?_
          refine lv_iload hx hb d_Replacer_gatherArguments_256 (lv_at hl 10 rfl) ?_
          refine lv_icmp_ne (tgt := 264) hx hb d_Replacer_gatherArguments_258 (by decide) (fun hc4 => ?_) (fun hc4 => ?_)
          · rw [if_neg hc4] at h
            exact (ih.2.2.2.2.2.2.1) T2 (upd L 11 ((L 11) + 1)) M ls H locs h (lv_sub hl [1, 2, 3, 4, 5, 6, 7, 8, 9, 10, 11, 0, 12] rfl) hP hD hS
          · rw [if_pos hc4] at h
            refine lv_iconst (v := 0) hx hb d_Replacer_gatherArguments_261 (by decide) ?_
            show W _ _ _ _ _ _ _ _ _ _ _ _ _ _ _ (F0 _ 262 _ _)
            refine lv_istore (lv' := [(11, .int 0), (0, .ref (ad 12)), (1, .int (L 1)), (2, .int (L 2)), (3, .int (L 3)), (4, .int (L 4)), (5, .int (L 5)), (6, .int (L 6)), (7, .int (L 7)), (8, .int (L 8)), (9, .int (L 9)), (10, .int (L 10)), (12, .int (L 12))]) hx hb d_Replacer_gatherArguments_262 hl (by decide) rfl (fun ls hl => ?_)
            exact (ih.2.2.2.2.2.2.1) T2 (upd L 11 (0 : Int32)) M ls H locs h (lv_sub hl [1, 2, 3, 4, 5, 6, 7, 8, 9, 10, 11, 0, 12] rfl) hP hD hS
      · rw [if_pos hc1] at h
        refine lv_aload_n hx hb d_Replacer_gatherArguments_217 rfl (lv_at hl 0 rfl) ?_
        refine S_getR (h := shC) (C := "MacroMill$Replacer") (T := F_Replacer) hx hb htt in_Replacer hown hK hP 12 3 rfl 2 rfl rfl (by decide) (htt _ k_829) (fun _ h9 => h9) d_Replacer_gatherArguments_218 ?_
        refine lv_bipush (v := 18) hx hb d_Replacer_gatherArguments_221 (by decide) ?_
        refine lv_aload_n hx hb d_Replacer_gatherArguments_223 rfl (lv_at hl 0 rfl) ?_
        refine S_getR (h := shC) (C := "MacroMill$Replacer") (T := F_Replacer) hx hb htt in_Replacer hown hK hP 12 0 rfl 9 rfl rfl (by decide) (htt _ k_826) (fun _ h9 => h9) d_Replacer_gatherArguments_224 ?_
        refine lv_iload_n hx hb d_Replacer_gatherArguments_227 rfl (lv_at hl 1 rfl) ?_
        obtain ⟨⟨r5, T5⟩, hq5, h⟩ := Option.bind_eq_some_iff.mp h
        try dsimp only at h
        refine go_iS (As := [.ref (ad 9), .int (L 1)]) (g := g) (A := A) (h := shC) hP hK hD hS hA hN (fun hp => va_runV (As := [.int (L 1)]) (rest := [.int 18, .ref (ad 2)]) ⟨hx, hb, hml, hown, htt⟩ (t_Tokens_line l g _ ad S (L 1 : Int32) k9 r5 T5 hq5) ⟨(cb_L htt k_1704 k_271 k_1768 hd_Tokens_line ⟨(Nat.le_trans (by decide +kernel) hRf), (Nat.le_trans (by decide +kernel) hRl)⟩), htt _ k_1702, htt _ k_1703⟩ ⟨hp.1, S_recv hK hP 9 rfl rfl, hp.2⟩ rfl rfl hl.1 rfl (lv_room (Nat.le_of_ble_eq_true rfl)) d_Replacer_gatherArguments_228 ⟨hRc, hRs⟩) (fun r0 Sn H locs hw9 hP hD hS => ?_)
        obtain ⟨e9, e8⟩ := hw9
        rw [e8] at hP hD
        refine W.widen (k := cells) (n := slots) (Nat.le_refl _) (Nat.le_refl _) ?_
        refine toI (y := r5) e9 ?_
        obtain ⟨⟨r6, T6⟩, hq6, h⟩ := Option.bind_eq_some_iff.mp h
        try dsimp only at h
        refine go_vS (As := [.ref (ad 2), .int 18, .int r5]) (g := g) (A := A) (h := shC) hP hK hD hS hA hN (fun hp => va_runV (As := [.int 18, .int r5]) (rest := []) ⟨hx, hb, hml, hown, htt⟩ (t_Outcome_fail l g _ ad T5 (18 : Int32) (r5 : Int32) k9 r6 T6 hq6) ⟨(cb_L htt k_1163 k_264 k_1777 hd_Outcome_fail ⟨(Nat.le_trans (by decide +kernel) hRf), (Nat.le_trans (by decide +kernel) hRl)⟩), htt _ k_1161, htt _ k_1162⟩ ⟨hp.1, S_recv hK hP 2 rfl rfl, hp.2⟩ rfl rfl hl.1 rfl (lv_room (Nat.le_of_ble_eq_true rfl)) d_Replacer_gatherArguments_231 ⟨hRc, hRs⟩) (fun Sn H locs hw9 hP hD hS => ?_)
        have e8 := hw9
        rw [e8] at hP hD
        refine W.widen (k := cells) (n := slots) (Nat.le_refl _) (Nat.le_refl _) ?_
        refine lv_iload_n hx hb d_Replacer_gatherArguments_234 rfl (lv_at hl 1 rfl) ?_
        cases h
        exact kx_235 ls H locs hP hD hS
    · intro S L M ls H locs h hl hP hD hS
      simp only [f_Replacer_gatherArguments] at h
      refine lv_iload hx hb d_Replacer_gatherArguments_264 (lv_at hl 11 rfl) ?_
      refine lv_iload hx hb d_Replacer_gatherArguments_266 (lv_at hl 5 rfl) ?_
      refine lv_icmp_eq (tgt := 288) hx hb d_Replacer_gatherArguments_268 (by decide) (fun hc1 => ?_) (fun hc1 => ?_)
      · rw [if_pos hc1] at h
        exact (ih.2.2.2.2.2.2.2) S L M ls H locs h (lv_sub hl [0, 1, 2, 3, 4, 5, 6, 7, 8, 9, 10, 11, 12] rfl) hP hD hS
      · rw [if_neg hc1] at h
        refine lv_aload_n hx hb d_Replacer_gatherArguments_271 rfl (lv_at hl 0 rfl) ?_
        refine S_getR (h := shC) (C := "MacroMill$Replacer") (T := F_Replacer) hx hb htt in_Replacer hown hK hP 12 3 rfl 2 rfl rfl (by decide) (htt _ k_829) (fun _ h9 => h9) d_Replacer_gatherArguments_272 ?_
        refine lv_bipush (v := 17) hx hb d_Replacer_gatherArguments_275 (by decide) ?_
        refine lv_aload_n hx hb d_Replacer_gatherArguments_277 rfl (lv_at hl 0 rfl) ?_
        refine S_getR (h := shC) (C := "MacroMill$Replacer") (T := F_Replacer) hx hb htt in_Replacer hown hK hP 12 0 rfl 9 rfl rfl (by decide) (htt _ k_826) (fun _ h9 => h9) d_Replacer_gatherArguments_278 ?_
        refine lv_iload_n hx hb d_Replacer_gatherArguments_281 rfl (lv_at hl 1 rfl) ?_
        obtain ⟨⟨r2, T2⟩, hq2, h⟩ := Option.bind_eq_some_iff.mp h
        try dsimp only at h
        refine go_iS (As := [.ref (ad 9), .int (L 1)]) (g := g) (A := A) (h := shC) hP hK hD hS hA hN (fun hp => va_runV (As := [.int (L 1)]) (rest := [.int 17, .ref (ad 2)]) ⟨hx, hb, hml, hown, htt⟩ (t_Tokens_line l g _ ad S (L 1 : Int32) k9 r2 T2 hq2) ⟨(cb_L htt k_1704 k_271 k_1768 hd_Tokens_line ⟨(Nat.le_trans (by decide +kernel) hRf), (Nat.le_trans (by decide +kernel) hRl)⟩), htt _ k_1702, htt _ k_1703⟩ ⟨hp.1, S_recv hK hP 9 rfl rfl, hp.2⟩ rfl rfl hl.1 rfl (lv_room (Nat.le_of_ble_eq_true rfl)) d_Replacer_gatherArguments_282 ⟨hRc, hRs⟩) (fun r0 Sn H locs hw9 hP hD hS => ?_)
        obtain ⟨e9, e8⟩ := hw9
        rw [e8] at hP hD
        refine W.widen (k := cells) (n := slots) (Nat.le_refl _) (Nat.le_refl _) ?_
        refine toI (y := r2) e9 ?_
        obtain ⟨⟨r3, T3⟩, hq3, h⟩ := Option.bind_eq_some_iff.mp h
        try dsimp only at h
        refine go_vS (As := [.ref (ad 2), .int 17, .int r2]) (g := g) (A := A) (h := shC) hP hK hD hS hA hN (fun hp => va_runV (As := [.int 17, .int r2]) (rest := []) ⟨hx, hb, hml, hown, htt⟩ (t_Outcome_fail l g _ ad T2 (17 : Int32) (r2 : Int32) k9 r3 T3 hq3) ⟨(cb_L htt k_1163 k_264 k_1777 hd_Outcome_fail ⟨(Nat.le_trans (by decide +kernel) hRf), (Nat.le_trans (by decide +kernel) hRl)⟩), htt _ k_1161, htt _ k_1162⟩ ⟨hp.1, S_recv hK hP 2 rfl rfl, hp.2⟩ rfl rfl hl.1 rfl (lv_room (Nat.le_of_ble_eq_true rfl)) d_Replacer_gatherArguments_285 ⟨hRc, hRs⟩) (fun Sn H locs hw9 hP hD hS => ?_)
        have e8 := hw9
        rw [e8] at hP hD
        refine W.widen (k := cells) (n := slots) (Nat.le_refl _) (Nat.le_refl _) ?_
        exact (ih.2.2.2.2.2.2.2) T3 L M ls H locs h (lv_sub hl [0, 1, 2, 3, 4, 5, 6, 7, 8, 9, 10, 11, 12] rfl) hP hD hS
    · intro S L M ls H locs h hl hP hD hS
      simp only [f_Replacer_gatherArguments] at h
      refine lv_iload hx hb d_Replacer_gatherArguments_288 (lv_at hl 9 rfl) ?_
      cases h
      exact kx_290 ls H locs hP hD hS
abbrev rm_t_Replacer_gatherArguments : Room := { frames := 2, cells := 0, slots := 0, locals := 43 }
theorem t_Replacer_gatherArguments (l : Launch) (g : gG) (sz : Nat) (ad : Nat → Nat) (S : sS) (v1 : Int32) (v2 : Int32) (v3 : Int32) (v4 : Int32) (k : Nat) (r : Int32) (S9 : sS) (h : f_Replacer_gatherArguments k 0 S (upd (upd (upd (upd (fun _ => 0) 1 v1) 2 v2) 3 v3) 4 v4) (fun _ => 0) = some (r, S9)) : Ci l y_Replacer_gatherArguments b_Replacer_gatherArguments 13 rm_t_Replacer_gatherArguments g [.ref (ad 12), .int v1, .int v2, .int v3, .int v4] (Sw shC g ad S) sz (fun r1 w => ∃ S1 : sS, w = Sw shC g ad S1 ∧ r1 = r ∧ S1 = S9) := by
  refine startI (by decide) (Nat.le_of_ble_eq_true rfl) ?_
  intro p e s m below meth c A ls hx hb hr hml hlocks hmn hown htt hN hA hP hK hD hS hl
  exact (w_Replacer_gatherArguments hx hb hml hown htt hK hN hA (by decide +kernel) (by decide +kernel) (by decide +kernel) (by decide +kernel) r S9 (fun ls H locs hP hD hS => fin_i (g := g) (ws := Sw shC g ad S9) hx hb hr hlocks (by decide +kernel) (by decide +kernel) hP hD hS ⟨_, rfl, rfl, rfl⟩ d_Replacer_gatherArguments_235) (fun ls H locs hP hD hS => fin_i (g := g) (ws := Sw shC g ad S9) hx hb hr hlocks (by decide +kernel) (by decide +kernel) hP hD hS ⟨_, rfl, rfl, rfl⟩ d_Replacer_gatherArguments_290) k).1 S (upd (upd (upd (upd (fun _ => 0) 1 v1) 2 v2) 3 v3) 4 v4) (fun _ => 0) ls _ _ h hl hP hD hS
def f_Replacer_putText : Nat → Nat → sS → (Nat → Int32) → (Nat → Int64) → Option (Int32 × sS)
  | 0, _, _, _, _ => none
  | k + 1, 0, S, L, M => if okI (((L 1) * (30 : Int32)) + (L 2)) 1830 = true then ((f_Tokens_make k 0 S (upd (fun _ => 0) 1 (34 : Int32)) (fun _ => 0)).bind (fun (r2, T2) => f_Replacer_putText k 1 T2 (upd (upd (upd (upd L 5 (((L 1) * (30 : Int32)) + (L 2))) 6 (S.1 9 2)) 7 (S.2.1 64 (((L 1) * (30 : Int32)) + (L 2) : Int32).toNatClampNeg)) 8 (0 : Int32)) M)) else none
  | k + 1, 1, S, L, M => if (1000000 : Int32) ≤ (L 8) then (f_Replacer_putText k 3 S L M) else (if okI (L 5) 1830 = true then (if (L 7) = (S.2.1 65 (L 5 : Int32).toNatClampNeg) then (f_Replacer_putText k 3 S L M) else ((f_Tokens_isOverfull k 0 S (fun _ => 0) (fun _ => 0)).bind (fun (r4, T4) => if r4 = (0 : Int32) then (if (L 8) ≤ (0 : Int32) then (f_Replacer_putText k 2 T4 L M) else (if okI (L 7) 120784 = true then ((f_Tokens_isBehindBlank k 0 T4 (upd (fun _ => 0) 0 (T4.2.1 40 (L 7 : Int32).toNatClampNeg : Int32)) (fun _ => 0)).bind (fun (r8, T8) => if r8 = (0 : Int32) then (f_Replacer_putText k 2 T8 L M) else ((f_Tokens_make k 0 T8 (upd (fun _ => 0) 1 (32 : Int32)) (fun _ => 0)).bind (fun (r10, T10) => f_Replacer_putText k 2 T10 L M)))) else none)) else (f_Replacer_putText k 3 T4 L M)))) else none)
  | k + 1, 2, S, L, M => (f_Replacer_spellWithin k 0 S (upd (fun _ => 0) 1 (L 7 : Int32)) (fun _ => 0)).bind (fun (r1, T1) => if okI (L 7) 120784 = true then (f_Replacer_putText k 1 T1 (upd (upd L 7 (T1.2.1 41 (L 7 : Int32).toNatClampNeg)) 8 ((L 8) + 1)) M) else none)
  | k + 1, 3, S, L, M => (f_Tokens_make k 0 S (upd (fun _ => 0) 1 (34 : Int32)) (fun _ => 0)).bind (fun (r1, T1) => (f_Replacer_spelledSince k 0 T1 (upd (upd (fun _ => 0) 1 (L 6 : Int32)) 2 (L 4 : Int32)) (fun _ => 0)).bind (fun (r2, T2) => (f_Outcome_isFine k 0 T2 (fun _ => 0) (fun _ => 0)).bind (fun (r3, T3) => if r3 = (0 : Int32) then (f_Replacer_putText k 4 T3 L (vp_updL M 8 r2)) else ((f_Tokens_withSet k 0 T3 (upd (upd (fun _ => 0) 0 (L 3 : Int32)) 1 (0 : Int32)) (fun _ => 0)).bind (fun (r5, T5) => (f_Tokens_withKind k 0 T5 (upd (upd (fun _ => 0) 0 (r5 : Int32)) 1 (3 : Int32)) (fun _ => 0)).bind (fun (r6, T6) => (f_Tokens_withLine k 0 T6 (upd (upd (fun _ => 0) 0 (r6 : Int32)) 1 (L 4 : Int32)) (fun _ => 0)).bind (fun (r7, T7) => (f_Replacer_put k 0 T7 (upd (upd (upd (fun _ => 0) 1 (L 1 : Int32)) 4 (r7 : Int32)) 5 (L 4 : Int32)) (vp_updL (fun _ => 0) 2 (r2 : Int64))).bind (fun (r8, T8) => f_Replacer_putText k 4 T8 L (vp_updL M 8 r2)))))))))
  | k + 1, 4, S, L, M => some ((0 : Int32), S)
  | _ + 1, _ + 5, _, _, _ => none
set_option maxHeartbeats 8000000 in
set_option maxRecDepth 100000 in
theorem w_Replacer_putText {p : Program} {l : Launch} {e : Env} {R : Room} {s : State} {m : MethodId} {args : Array Value} {below : List Frame} {meth : Method} {c : Code} {cells slots : Nat} {Q : State → Prop} {g : gG} {A : Nat → Prop} {ad : Nat → Nat} (hx : p.tables.exec = Jvm.exec) (hb : c.code = b_Replacer_putText) (hml : c.maxLocals = 11) (hown : s.vm.findClass "MacroMill$Replacer" = some m.cls) (htt : ∀ w ∈ gt, w.before args s = true) (hK : va_K g.1 classes (tysG g) s) (hN : nw s) (hA : ∀ q : Nat, s.heap.size ≤ q → A q) (hRf : 3 ≤ R.frames) (hRl : 73 ≤ R.locals) (hRc : cells ≤ R.cells) (hRs : slots ≤ R.slots) (r : Int32) (S9 : sS)
    (kx_177 : ∀ (ls : Array Slot) (H : Heap) (locs : List Loc), va_P g.1 classes (Sw shC g ad S9) H → va_D A (Sw shC g ad S9) → va_S A s.heap H locs → W p l e R s m args below meth c H locs cells slots Q (F0 m 177 ls [])) :
    ∀ k9 : Nat, (∀ (S : sS) (L : Nat → Int32) (M : Nat → Int64) (ls : Array Slot) (H : Heap) (locs : List Loc), f_Replacer_putText k9 0 S L M = some (r, S9) → lv_has ls 11 [(0, .ref (ad 12)), (1, .int (L 1)), (2, .int (L 2)), (3, .int (L 3)), (4, .int (L 4))] → va_P g.1 classes (Sw shC g ad S) H → va_D A (Sw shC g ad S) → va_S A s.heap H locs → W p l e R s m args below meth c H locs cells slots Q (F0 m 0 ls [])) ∧ (∀ (S : sS) (L : Nat → Int32) (M : Nat → Int64) (ls : Array Slot) (H : Heap) (locs : List Loc), f_Replacer_putText k9 1 S L M = some (r, S9) → lv_has ls 11 [(0, .ref (ad 12)), (1, .int (L 1)), (2, .int (L 2)), (3, .int (L 3)), (4, .int (L 4)), (5, .int (L 5)), (6, .int (L 6)), (7, .int (L 7)), (8, .int (L 8))] → va_P g.1 classes (Sw shC g ad S) H → va_D A (Sw shC g ad S) → va_S A s.heap H locs → W p l e R s m args below meth c H locs cells slots Q (F0 m 38 ls [])) ∧ (∀ (S : sS) (L : Nat → Int32) (M : Nat → Int64) (ls : Array Slot) (H : Heap) (locs : List Loc), f_Replacer_putText k9 2 S L M = some (r, S9) → lv_has ls 11 [(0, .ref (ad 12)), (1, .int (L 1)), (2, .int (L 2)), (3, .int (L 3)), (4, .int (L 4)), (5, .int (L 5)), (6, .int (L 6)), (7, .int (L 7)), (8, .int (L 8))] → va_P g.1 classes (Sw shC g ad S) H → va_D A (Sw shC g ad S) → va_S A s.heap H locs → W p l e R s m args below meth c H locs cells slots Q (F0 m 97 ls [])) ∧ (∀ (S : sS) (L : Nat → Int32) (M : Nat → Int64) (ls : Array Slot) (H : Heap) (locs : List Loc), f_Replacer_putText k9 3 S L M = some (r, S9) → lv_has ls 11 [(0, .ref (ad 12)), (1, .int (L 1)), (2, .int (L 2)), (3, .int (L 3)), (4, .int (L 4)), (5, .int (L 5)), (6, .int (L 6)), (7, .int (L 7)), (8, .int (L 8))] → va_P g.1 classes (Sw shC g ad S) H → va_D A (Sw shC g ad S) → va_S A s.heap H locs → W p l e R s m args below meth c H locs cells slots Q (F0 m 121 ls [])) ∧ (∀ (S : sS) (L : Nat → Int32) (M : Nat → Int64) (ls : Array Slot) (H : Heap) (locs : List Loc), f_Replacer_putText k9 4 S L M = some (r, S9) → lv_has ls 11 [(0, .ref (ad 12)), (1, .int (L 1)), (2, .int (L 2)), (3, .int (L 3)), (4, .int (L 4)), (5, .int (L 5)), (6, .int (L 6)), (7, .int (L 7)), (8, .long (M 8))] → va_P g.1 classes (Sw shC g ad S) H → va_D A (Sw shC g ad S) → va_S A s.heap H locs → W p l e R s m args below meth c H locs cells slots Q (F0 m 177 ls [])) := by
  intro k9
  induction k9 with
  | zero => exact ⟨(fun _ _ _ _ _ _ h => by simp [f_Replacer_putText] at h), (fun _ _ _ _ _ _ h => by simp [f_Replacer_putText] at h), (fun _ _ _ _ _ _ h => by simp [f_Replacer_putText] at h), (fun _ _ _ _ _ _ h => by simp [f_Replacer_putText] at h), (fun _ _ _ _ _ _ h => by simp [f_Replacer_putText] at h)⟩
  | succ k9 ih =>
    refine ⟨?_, ?_, ?_, ?_, ?_⟩
    · intro S L M ls H locs h hl hP hD hS
      simp only [f_Replacer_putText] at h
      refine lv_iload_n hx hb d_Replacer_putText_0 rfl (lv_at hl 1 rfl) ?_
      refine lv_bipush (v := 30) hx hb d_Replacer_putText_1 (by decide) ?_
      refine lv_imul hx hb d_Replacer_putText_3 ?_
      refine lv_iload_n hx hb d_Replacer_putText_4 rfl (lv_at hl 2 rfl) ?_
      refine lv_iadd hx hb d_Replacer_putText_5 ?_
      refine lv_istore (lv' := [(5, .int (((L 1) * (30 : Int32)) + (L 2))), (0, .ref (ad 12)), (1, .int (L 1)), (2, .int (L 2)), (3, .int (L 3)), (4, .int (L 4))]) hx hb d_Replacer_putText_6 hl (by decide) rfl (fun ls hl => ?_)
      refine lv_aload_n hx hb d_Replacer_putText_8 rfl (lv_at hl 1 rfl) ?_
      refine S_getR (h := shC) (C := "MacroMill$Replacer") (T := F_Replacer) hx hb htt in_Replacer hown hK hP 12 0 rfl 9 rfl rfl (by decide) (htt _ k_826) (fun _ h9 => h9) d_Replacer_putText_9 ?_
      refine S_getI (h := shC) (C := "MacroMill$Tokens") (T := F_Tokens) hx hb htt in_Tokens hown hK hP 9 2 rfl rfl rfl (by decide) (htt _ k_640) (fun _ h9 => h9) d_Replacer_putText_12 ?_
      refine lv_istore (lv' := [(6, .int (S.1 9 2)), (5, .int (((L 1) * (30 : Int32)) + (L 2))), (0, .ref (ad 12)), (1, .int (L 1)), (2, .int (L 2)), (3, .int (L 3)), (4, .int (L 4))]) hx hb d_Replacer_putText_15 hl (by decide) rfl (fun ls hl => ?_)
      refine lv_aload_n hx hb d_Replacer_putText_17 rfl (lv_at hl 2 rfl) ?_
      show W _ _ _ _ _ _ _ _ _ _ _ _ _ _ _ (F0 _ 18 _ _)
      refine S_getR (h := shC) (C := "MacroMill$Replacer") (T := F_Replacer) hx hb htt in_Replacer hown hK hP 12 4 rfl 77 rfl rfl (by decide) (htt _ k_830) (fun _ h9 => h9) d_Replacer_putText_18 ?_
      refine lv_iload hx hb d_Replacer_putText_21 (lv_at hl 1 rfl) ?_
      obtain ⟨hv1, h⟩ := chk h
      refine S_iald (h := shC) (i := ((L 1) * (30 : Int32)) + (L 2)) hx hb hK hP 64 rfl (okI_in hv1) d_Replacer_putText_23 ?_
      refine lv_istore (lv' := [(7, .int (S.2.1 64 (((L 1) * (30 : Int32)) + (L 2) : Int32).toNatClampNeg)), (6, .int (S.1 9 2)), (5, .int (((L 1) * (30 : Int32)) + (L 2))), (0, .ref (ad 12)), (1, .int (L 1)), (2, .int (L 2)), (3, .int (L 3)), (4, .int (L 4))]) hx hb d_Replacer_putText_24 hl (by decide) rfl (fun ls hl => ?_)
      refine lv_aload_n hx hb d_Replacer_putText_26 rfl (lv_at hl 3 rfl) ?_
      refine S_getR (h := shC) (C := "MacroMill$Replacer") (T := F_Replacer) hx hb htt in_Replacer hown hK hP 12 0 rfl 9 rfl rfl (by decide) (htt _ k_826) (fun _ h9 => h9) d_Replacer_putText_27 ?_
      refine lv_bipush (v := 34) hx hb d_Replacer_putText_30 (by decide) ?_
      obtain ⟨⟨r2, T2⟩, hq2, h⟩ := Option.bind_eq_some_iff.mp h
      try dsimp only at h
      refine go_vS (As := [.ref (ad 9), .int 34]) (g := g) (A := A) (h := shC) hP hK hD hS hA hN (fun hp => va_runV (As := [.int 34]) (rest := []) ⟨hx, hb, hml, hown, htt⟩ (t_Tokens_make l g _ ad S (34 : Int32) k9 r2 T2 hq2) ⟨(cb_L htt k_1808 k_271 k_1805 hd_Tokens_make ⟨(Nat.le_trans (by decide +kernel) hRf), (Nat.le_trans (by decide +kernel) hRl)⟩), htt _ k_1806, htt _ k_1807⟩ ⟨hp.1, S_recv hK hP 9 rfl rfl, hp.2⟩ rfl rfl hl.1 rfl (lv_room (Nat.le_of_ble_eq_true rfl)) d_Replacer_putText_32 ⟨hRc, hRs⟩) (fun Sn H locs hw9 hP hD hS => ?_)
      have e8 := hw9
      rw [e8] at hP hD
      refine W.widen (k := cells) (n := slots) (Nat.le_refl _) (Nat.le_refl _) ?_
      refine lv_iconst (v := 0) hx hb d_Replacer_putText_35 (by decide) ?_
      refine lv_istore (lv' := [(8, .int 0), (7, .int (S.2.1 64 (((L 1) * (30 : Int32)) + (L 2) : Int32).toNatClampNeg)), (6, .int (S.1 9 2)), (5, .int (((L 1) * (30 : Int32)) + (L 2))), (0, .ref (ad 12)), (1, .int (L 1)), (2, .int (L 2)), (3, .int (L 3)), (4, .int (L 4))]) hx hb d_Replacer_putText_36 hl (by decide) rfl (fun ls hl => ?_)
      exact (ih.2.1) T2 (upd (upd (upd (upd L 5 (((L 1) * (30 : Int32)) + (L 2))) 6 (S.1 9 2)) 7 (S.2.1 64 (((L 1) * (30 : Int32)) + (L 2) : Int32).toNatClampNeg)) 8 (0 : Int32)) M ls H locs h (lv_sub hl [4, 5, 6, 7, 8, 3, 2, 1, 0] rfl) hP hD hS
    · intro S L M ls H locs h hl hP hD hS
      simp only [f_Replacer_putText] at h
      refine lv_iload hx hb d_Replacer_putText_38 (lv_at hl 8 rfl) ?_
      refine lv_ldc (v := 1000000) hx hb hown (htt _ k_1725) d_Replacer_putText_40 ?_
      refine lv_icmp_ge (tgt := 121) hx hb d_Replacer_putText_42 (by decide) (fun hc1 => ?_) (fun hc1 => ?_)
      · rw [if_pos hc1] at h
        exact (ih.2.2.2.1) S L M ls H locs h (lv_sub hl [0, 1, 2, 3, 4, 5, 6, 7, 8] rfl) hP hD hS
      · rw [if_neg hc1] at h
        refine lv_iload hx hb d_Replacer_putText_45 (lv_at hl 7 rfl) ?_
        refine lv_aload_n hx hb d_Replacer_putText_47 rfl (lv_at hl 0 rfl) ?_
        refine S_getR (h := shC) (C := "MacroMill$Replacer") (T := F_Replacer) hx hb htt in_Replacer hown hK hP 12 5 rfl 78 rfl rfl (by decide) (htt _ k_831) (fun _ h9 => h9) d_Replacer_putText_48 ?_
        refine lv_iload hx hb d_Replacer_putText_51 (lv_at hl 5 rfl) ?_
        obtain ⟨hv2, h⟩ := chk h
        refine S_iald (h := shC) (i := L 5) hx hb hK hP 65 rfl (okI_in hv2) d_Replacer_putText_53 ?_
        refine lv_icmp_eq (tgt := 121) hx hb d_Replacer_putText_54 (by decide) (fun hc3 => ?_) (fun hc3 => ?_)
        · rw [if_pos hc3] at h
          exact (ih.2.2.2.1) S L M ls H locs h (lv_sub hl [0, 1, 2, 3, 4, 5, 6, 7, 8] rfl) hP hD hS
        · rw [if_neg hc3] at h
          refine lv_aload_n hx hb d_Replacer_putText_57 rfl (lv_at hl 0 rfl) ?_
          refine S_getR (h := shC) (C := "MacroMill$Replacer") (T := F_Replacer) hx hb htt in_Replacer hown hK hP 12 0 rfl 9 rfl rfl (by decide) (htt _ k_826) (fun _ h9 => h9) d_Replacer_putText_58 ?_
          obtain ⟨⟨r4, T4⟩, hq4, h⟩ := Option.bind_eq_some_iff.mp h
          try dsimp only at h
          refine go_iS (As := [.ref (ad 9)]) (g := g) (A := A) (h := shC) hP hK hD hS hA hN (fun hp => va_runV (As := []) (rest := []) ⟨hx, hb, hml, hown, htt⟩ (t_Tokens_isOverfull l g _ ad S k9 r4 T4 hq4) ⟨(cb_L htt k_1812 k_271 k_1809 hd_Tokens_isOverfull ⟨(Nat.le_trans (by decide +kernel) hRf), (Nat.le_trans (by decide +kernel) hRl)⟩), htt _ k_1810, htt _ k_1811⟩ ⟨hp.1, S_recv hK hP 9 rfl rfl, hp.2⟩ rfl rfl hl.1 rfl (lv_room (Nat.le_of_ble_eq_true rfl)) d_Replacer_putText_61 ⟨hRc, hRs⟩) (fun r0 Sn H locs hw9 hP hD hS => ?_)
          obtain ⟨e9, e8⟩ := hw9
          rw [e8] at hP hD
          refine W.widen (k := cells) (n := slots) (Nat.le_refl _) (Nat.le_refl _) ?_
          refine toI (y := r4) e9 ?_
          refine lv_if_ne (tgt := 121) hx hb d_Replacer_putText_64 (by decide) (fun hc5 => ?_) (fun hc5 => ?_)
          · rw [if_neg hc5] at h
            exact (ih.2.2.2.1) T4 L M ls H locs h (lv_sub hl [0, 1, 2, 3, 4, 5, 6, 7, 8] rfl) hP hD hS
          · rw [if_pos hc5] at h
            refine lv_iload hx hb d_Replacer_putText_67 (lv_at hl 8 rfl) ?_
            refine lv_if_le (tgt := 97) hx hb d_Replacer_putText_69 (by decide) (fun hc6 => ?_) (fun hc6 => ?_)
            · rw [if_pos hc6] at h
              exact (ih.2.2.1) T4 L M ls H locs h (lv_sub hl [0, 1, 2, 3, 4, 5, 6, 7, 8] rfl) hP hD hS
            · rw [if_neg hc6] at h
              refine lv_aload_n hx hb d_Replacer_putText_72 rfl (lv_at hl 0 rfl) ?_
              show W _ _ _ _ _ _ _ _ _ _ _ _ _ _ _ (F0 _ 73 _ _)
              refine S_getR (h := shC) (C := "MacroMill$Replacer") (T := F_Replacer) hx hb htt in_Replacer hown hK hP 12 0 rfl 9 rfl rfl (by decide) (htt _ k_826) (fun _ h9 => h9) d_Replacer_putText_73 ?_
              refine S_getR (h := shC) (C := "MacroMill$Tokens") (T := F_Tokens) hx hb htt in_Tokens hown hK hP 9 6 rfl 53 rfl rfl (by decide) (htt _ k_650) (fun _ h9 => h9) d_Replacer_putText_76 ?_
              refine lv_iload hx hb d_Replacer_putText_79 (lv_at hl 7 rfl) ?_
              obtain ⟨hv7, h⟩ := chk h
              refine S_iald (h := shC) (i := L 7) hx hb hK hP 40 rfl (okI_in hv7) d_Replacer_putText_81 ?_
              obtain ⟨⟨r8, T8⟩, hq8, h⟩ := Option.bind_eq_some_iff.mp h
              try dsimp only at h
              refine go_iS (As := [.int (T4.2.1 40 (L 7 : Int32).toNatClampNeg)]) (g := g) (A := A) (h := shC) hP hK hD hS hA hN (fun hp => va_runS (As := [.int (T4.2.1 40 (L 7 : Int32).toNatClampNeg)]) (rest := []) ⟨hx, hb, hml, hown, htt⟩ (t_Tokens_isBehindBlank l g _ ad T4 (T4.2.1 40 (L 7 : Int32).toNatClampNeg : Int32) k9 r8 T8 hq8) ⟨(cb_L htt k_1815 k_271 k_1813 hd_Tokens_isBehindBlank ⟨(Nat.le_trans (by decide +kernel) hRf), (Nat.le_trans (by decide +kernel) hRl)⟩), htt _ k_1814⟩ hp rfl rfl hl.1 rfl (lv_room (Nat.le_of_ble_eq_true rfl)) d_Replacer_putText_82 ⟨hRc, hRs⟩) (fun r0 Sn H locs hw9 hP hD hS => ?_)
              obtain ⟨e9, e8⟩ := hw9
              rw [e8] at hP hD
              refine W.widen (k := cells) (n := slots) (Nat.le_refl _) (Nat.le_refl _) ?_
              refine toI (y := r8) e9 ?_
              refine lv_if_eq (tgt := 97) hx hb d_Replacer_putText_85 (by decide) (fun hc9 => ?_) (fun hc9 => ?_)
              · rw [if_pos hc9] at h
                exact (ih.2.2.1) T8 L M ls H locs h (lv_sub hl [0, 1, 2, 3, 4, 5, 6, 7, 8] rfl) hP hD hS
              · rw [if_neg hc9] at h
                refine lv_aload_n hx hb d_Replacer_putText_88 rfl (lv_at hl 0 rfl) ?_
                refine S_getR (h := shC) (C := "MacroMill$Replacer") (T := F_Replacer) hx hb htt in_Replacer hown hK hP 12 0 rfl 9 rfl rfl (by decide) (htt _ k_826) (fun _ h9 => h9) d_Replacer_putText_89 ?_
                refine lv_bipush (v := 32) hx hb d_Replacer_putText_92 (by decide) ?_
                obtain ⟨⟨r10, T10⟩, hq10, h⟩ := Option.bind_eq_some_iff.mp h
                try dsimp only at h
                refine go_vS (As := [.ref (ad 9), .int 32]) (g := g) (A := A) (h := shC) hP hK hD hS hA hN (fun hp => va_runV (As := [.int 32]) (rest := []) ⟨hx, hb, hml, hown, htt⟩ (t_Tokens_make l g _ ad T8 (32 : Int32) k9 r10 T10 hq10) ⟨(cb_L htt k_1808 k_271 k_1805 hd_Tokens_make ⟨(Nat.le_trans (by decide +kernel) hRf), (Nat.le_trans (by decide +kernel) hRl)⟩), htt _ k_1806, htt _ k_1807⟩ ⟨hp.1, S_recv hK hP 9 rfl rfl, hp.2⟩ rfl rfl hl.1 rfl (lv_room (Nat.le_of_ble_eq_true rfl)) d_Replacer_putText_94 ⟨hRc, hRs⟩) (fun Sn H locs hw9 hP hD hS => ?_)
                have e8 := hw9
                rw [e8] at hP hD
                refine W.widen (k := cells) (n := slots) (Nat.le_refl _) (Nat.le_refl _) ?_
                exact (ih.2.2.1) T10 L M ls H locs h (lv_sub hl [0, 1, 2, 3, 4, 5, 6, 7, 8] rfl) hP hD hS
    · intro S L M ls H locs h hl hP hD hS
      simp only [f_Replacer_putText] at h
      refine lv_aload_n hx hb d_Replacer_putText_97 rfl (lv_at hl 0 rfl) ?_
      refine lv_iload hx hb d_Replacer_putText_98 (lv_at hl 7 rfl) ?_
      obtain ⟨⟨r1, T1⟩, hq1, h⟩ := Option.bind_eq_some_iff.mp h
      try dsimp only at h
      refine go_vS (As := [.ref (ad 12), .int (L 7)]) (g := g) (A := A) (h := shC) hP hK hD hS hA hN (fun hp => va_runV (As := [.int (L 7)]) (rest := []) ⟨hx, hb, hml, hown, htt⟩ (t_Replacer_spellWithin l g _ ad S (L 7 : Int32) k9 r1 T1 hq1) ⟨(cb_L htt k_1819 k_274 k_1816 hd_Replacer_spellWithin ⟨(Nat.le_trans (by decide +kernel) hRf), (Nat.le_trans (by decide +kernel) hRl)⟩), htt _ k_1818, htt _ k_72⟩ ⟨hp.1, S_recv hK hP 12 rfl rfl, hp.2⟩ rfl rfl hl.1 rfl (lv_room (Nat.le_of_ble_eq_true rfl)) d_Replacer_putText_100 ⟨hRc, hRs⟩) (fun Sn H locs hw9 hP hD hS => ?_)
      have e8 := hw9
      rw [e8] at hP hD
      refine W.widen (k := cells) (n := slots) (Nat.le_refl _) (Nat.le_refl _) ?_
      refine lv_aload_n hx hb d_Replacer_putText_103 rfl (lv_at hl 0 rfl) ?_
      refine S_getR (h := shC) (C := "MacroMill$Replacer") (T := F_Replacer) hx hb htt in_Replacer hown hK hP 12 0 rfl 9 rfl rfl (by decide) (htt _ k_826) (fun _ h9 => h9) d_Replacer_putText_104 ?_
      refine S_getR (h := shC) (C := "MacroMill$Tokens") (T := F_Tokens) hx hb htt in_Tokens hown hK hP 9 7 rfl 54 rfl rfl (by decide) (htt _ k_655) (fun _ h9 => h9) d_Replacer_putText_107 ?_
      refine lv_iload hx hb d_Replacer_putText_110 (lv_at hl 7 rfl) ?_
      obtain ⟨hv2, h⟩ := chk h
      refine S_iald (h := shC) (i := L 7) hx hb hK hP 41 rfl (okI_in hv2) d_Replacer_putText_112 ?_
      refine lv_istore (lv' := [(7, .int (T1.2.1 41 (L 7 : Int32).toNatClampNeg)), (0, .ref (ad 12)), (1, .int (L 1)), (2, .int (L 2)), (3, .int (L 3)), (4, .int (L 4)), (5, .int (L 5)), (6, .int (L 6)), (8, .int (L 8))]) hx hb d_Replacer_putText_113 hl (by decide) rfl (fun ls hl => ?_)
      refine lv_iinc (k := 8) (v := (L 8) + 1) (lv' := [(8, .int ((L 8) + 1)), (7, .int (T1.2.1 41 (L 7 : Int32).toNatClampNeg)), (0, .ref (ad 12)), (1, .int (L 1)), (2, .int (L 2)), (3, .int (L 3)), (4, .int (L 4)), (5, .int (L 5)), (6, .int (L 6))]) hx hb d_Replacer_putText_115 hl rfl rfl (by decide) rfl (fun ls hl => ?_)
      refine lv_goto (tgt := 38) hx hb d_Replacer_putText_118 (by decide) ?_
      exact (ih.2.1) T1 (upd (upd L 7 (T1.2.1 41 (L 7 : Int32).toNatClampNeg)) 8 ((L 8) + 1)) M ls H locs h (lv_sub hl [2, 3, 4, 5, 6, 7, 8, 1, 0] rfl) hP hD hS
    · intro S L M ls H locs h hl hP hD hS
      simp only [f_Replacer_putText] at h
      refine lv_aload_n hx hb d_Replacer_putText_121 rfl (lv_at hl 0 rfl) ?_
      refine S_getR (h := shC) (C := "MacroMill$Replacer") (T := F_Replacer) hx hb htt in_Replacer hown hK hP 12 0 rfl 9 rfl rfl (by decide) (htt _ k_826) (fun _ h9 => h9) d_Replacer_putText_122 ?_
      refine lv_bipush (v := 34) hx hb d_Replacer_putText_125 (by decide) ?_
      obtain ⟨⟨r1, T1⟩, hq1, h⟩ := Option.bind_eq_some_iff.mp h
      try dsimp only at h
      refine go_vS (As := [.ref (ad 9), .int 34]) (g := g) (A := A) (h := shC) hP hK hD hS hA hN (fun hp => va_runV (As := [.int 34]) (rest := []) ⟨hx, hb, hml, hown, htt⟩ (t_Tokens_make l g _ ad S (34 : Int32) k9 r1 T1 hq1) ⟨(cb_L htt k_1808 k_271 k_1805 hd_Tokens_make ⟨(Nat.le_trans (by decide +kernel) hRf), (Nat.le_trans (by decide +kernel) hRl)⟩), htt _ k_1806, htt _ k_1807⟩ ⟨hp.1, S_recv hK hP 9 rfl rfl, hp.2⟩ rfl rfl hl.1 rfl (lv_room (Nat.le_of_ble_eq_true rfl)) d_Replacer_putText_127 ⟨hRc, hRs⟩) (fun Sn H locs hw9 hP hD hS => ?_)
      have e8 := hw9
      rw [e8] at hP hD
      refine W.widen (k := cells) (n := slots) (Nat.le_refl _) (Nat.le_refl _) ?_
      refine lv_aload_n hx hb d_Replacer_putText_130 rfl (lv_at hl 0 rfl) ?_
      refine lv_iload hx hb d_Replacer_putText_131 (lv_at hl 6 rfl) ?_
      refine lv_iload hx hb d_Replacer_putText_133 (lv_at hl 4 rfl) ?_
      obtain ⟨⟨r2, T2⟩, hq2, h⟩ := Option.bind_eq_some_iff.mp h
      try dsimp only at h
      refine go_lS (As := [.ref (ad 12), .int (L 6), .int (L 4)]) (g := g) (A := A) (h := shC) hP hK hD hS hA hN (fun hp => va_runV (As := [.int (L 6), .int (L 4)]) (rest := []) ⟨hx, hb, hml, hown, htt⟩ (t_Replacer_spelledSince l g _ ad T1 (L 6 : Int32) (L 4 : Int32) k9 r2 T2 hq2) ⟨(cb_L htt k_1827 k_274 k_1824 hd_Replacer_spelledSince ⟨(Nat.le_trans (by decide +kernel) hRf), (Nat.le_trans (by decide +kernel) hRl)⟩), htt _ k_1826, htt _ k_73⟩ ⟨hp.1, S_recv hK hP 12 rfl rfl, hp.2⟩ rfl rfl hl.1 rfl (lv_room (Nat.le_of_ble_eq_true rfl)) d_Replacer_putText_135 ⟨hRc, hRs⟩) (fun r0 Sn H locs hw9 hP hD hS => ?_)
      obtain ⟨e9, e8⟩ := hw9
      rw [e8] at hP hD
      refine W.widen (k := cells) (n := slots) (Nat.le_refl _) (Nat.le_refl _) ?_
      refine toL (y := r2) e9 ?_
      refine lv_lstore (lv' := [(8, .long r2), (0, .ref (ad 12)), (1, .int (L 1)), (2, .int (L 2)), (3, .int (L 3)), (4, .int (L 4)), (5, .int (L 5)), (6, .int (L 6)), (7, .int (L 7))]) hx hb d_Replacer_putText_138 hl (by decide) rfl (fun ls hl => ?_)
      refine lv_aload_n hx hb d_Replacer_putText_140 rfl (lv_at hl 1 rfl) ?_
      refine S_getR (h := shC) (C := "MacroMill$Replacer") (T := F_Replacer) hx hb htt in_Replacer hown hK hP 12 3 rfl 2 rfl rfl (by decide) (htt _ k_829) (fun _ h9 => h9) d_Replacer_putText_141 ?_
      obtain ⟨⟨r3, T3⟩, hq3, h⟩ := Option.bind_eq_some_iff.mp h
      try dsimp only at h
      refine go_iS (As := [.ref (ad 2)]) (g := g) (A := A) (h := shC) hP hK hD hS hA hN (fun hp => va_runV (As := []) (rest := []) ⟨hx, hb, hml, hown, htt⟩ (t_Outcome_isFine l g _ ad T2 k9 r3 T3 hq3) ⟨(cb_L htt k_1181 k_264 k_1726 hd_Outcome_isFine ⟨(Nat.le_trans (by decide +kernel) hRf), (Nat.le_trans (by decide +kernel) hRl)⟩), htt _ k_1179, htt _ k_1180⟩ ⟨hp.1, S_recv hK hP 2 rfl rfl, hp.2⟩ rfl rfl hl.1 rfl (lv_room (Nat.le_of_ble_eq_true rfl)) d_Replacer_putText_144 ⟨hRc, hRs⟩) (fun r0 Sn H locs hw9 hP hD hS => ?_)
      obtain ⟨e9, e8⟩ := hw9
      rw [e8] at hP hD
      refine W.widen (k := cells) (n := slots) (Nat.le_refl _) (Nat.le_refl _) ?_
      refine toI (y := r3) e9 ?_
      refine lv_if_eq (tgt := 177) hx hb d_Replacer_putText_147 (by decide) (fun hc4 => ?_) (fun hc4 => ?_)
      · rw [if_pos hc4] at h
        exact (ih.2.2.2.2) T3 L (vp_updL M 8 r2) ls H locs h (lv_sub hl [1, 2, 3, 4, 5, 6, 7, 8, 0] rfl) hP hD hS
      · rw [if_neg hc4] at h
        refine lv_iload_n hx hb d_Replacer_putText_150 rfl (lv_at hl 4 rfl) ?_
        refine lv_iconst (v := 0) hx hb d_Replacer_putText_151 (by decide) ?_
        obtain ⟨⟨r5, T5⟩, hq5, h⟩ := Option.bind_eq_some_iff.mp h
        try dsimp only at h
        refine go_iS (As := [.int (L 3), .int 0]) (g := g) (A := A) (h := shC) hP hK hD hS hA hN (fun hp => va_runS (As := [.int (L 3), .int 0]) (rest := []) ⟨hx, hb, hml, hown, htt⟩ (t_Tokens_withSet l g _ ad T3 (L 3 : Int32) (0 : Int32) k9 r5 T5 hq5) ⟨(cb_L htt k_1831 k_271 k_1829 hd_Tokens_withSet ⟨(Nat.le_trans (by decide +kernel) hRf), (Nat.le_trans (by decide +kernel) hRl)⟩), htt _ k_1830⟩ hp rfl rfl hl.1 rfl (lv_room (Nat.le_of_ble_eq_true rfl)) d_Replacer_putText_152 ⟨hRc, hRs⟩) (fun r0 Sn H locs hw9 hP hD hS => ?_)
        obtain ⟨e9, e8⟩ := hw9
        rw [e8] at hP hD
        refine W.widen (k := cells) (n := slots) (Nat.le_refl _) (Nat.le_refl _) ?_
        refine toI (y := r5) e9 ?_
        show W _ _ _ _ _ _ _ _ _ _ _ _ _ _ _ (F0 _ 155 _ _)
        refine lv_iconst (v := 3) hx hb d_Replacer_putText_155 (by decide) ?_
        obtain ⟨⟨r6, T6⟩, hq6, h⟩ := Option.bind_eq_some_iff.mp h
        try dsimp only at h
        refine go_iS (As := [.int r5, .int 3]) (g := g) (A := A) (h := shC) hP hK hD hS hA hN (fun hp => va_runS (As := [.int r5, .int 3]) (rest := []) ⟨hx, hb, hml, hown, htt⟩ (t_Tokens_withKind l g _ ad T5 (r5 : Int32) (3 : Int32) k9 r6 T6 hq6) ⟨(cb_L htt k_1834 k_271 k_1832 hd_Tokens_withKind ⟨(Nat.le_trans (by decide +kernel) hRf), (Nat.le_trans (by decide +kernel) hRl)⟩), htt _ k_1833⟩ hp rfl rfl hl.1 rfl (lv_room (Nat.le_of_ble_eq_true rfl)) d_Replacer_putText_156 ⟨hRc, hRs⟩) (fun r0 Sn H locs hw9 hP hD hS => ?_)
        obtain ⟨e9, e8⟩ := hw9
        rw [e8] at hP hD
        refine W.widen (k := cells) (n := slots) (Nat.le_refl _) (Nat.le_refl _) ?_
        refine toI (y := r6) e9 ?_
        refine lv_istore (lv' := [(10, .int r6), (8, .long r2), (0, .ref (ad 12)), (1, .int (L 1)), (2, .int (L 2)), (3, .int (L 3)), (4, .int (L 4)), (5, .int (L 5)), (6, .int (L 6)), (7, .int (L 7))]) hx hb d_Replacer_putText_159 hl (by decide) rfl (fun ls hl => ?_)
        refine lv_aload_n hx hb d_Replacer_putText_161 rfl (lv_at hl 2 rfl) ?_
        refine lv_iload_n hx hb d_Replacer_putText_162 rfl (lv_at hl 3 rfl) ?_
        refine lv_lload hx hb d_Replacer_putText_163 (lv_at hl 1 rfl) ?_
        refine lv_iload hx hb d_Replacer_putText_165 (lv_at hl 0 rfl) ?_
        refine lv_iload hx hb d_Replacer_putText_167 (lv_at hl 6 rfl) ?_
        obtain ⟨⟨r7, T7⟩, hq7, h⟩ := Option.bind_eq_some_iff.mp h
        try dsimp only at h
        refine go_iS (As := [.int r6, .int (L 4)]) (g := g) (A := A) (h := shC) hP hK hD hS hA hN (fun hp => va_runS (As := [.int r6, .int (L 4)]) (rest := [.long r2, .int (L 1), .ref (ad 12)]) ⟨hx, hb, hml, hown, htt⟩ (t_Tokens_withLine l g _ ad T6 (r6 : Int32) (L 4 : Int32) k9 r7 T7 hq7) ⟨(cb_L htt k_1837 k_271 k_1835 hd_Tokens_withLine ⟨(Nat.le_trans (by decide +kernel) hRf), (Nat.le_trans (by decide +kernel) hRl)⟩), htt _ k_1836⟩ hp rfl rfl hl.1 rfl (lv_room (Nat.le_of_ble_eq_true rfl)) d_Replacer_putText_169 ⟨hRc, hRs⟩) (fun r0 Sn H locs hw9 hP hD hS => ?_)
        obtain ⟨e9, e8⟩ := hw9
        rw [e8] at hP hD
        refine W.widen (k := cells) (n := slots) (Nat.le_refl _) (Nat.le_refl _) ?_
        refine toI (y := r7) e9 ?_
        refine lv_iload hx hb d_Replacer_putText_172 (lv_at hl 6 rfl) ?_
        obtain ⟨⟨r8, T8⟩, hq8, h⟩ := Option.bind_eq_some_iff.mp h
        try dsimp only at h
        refine go_vS (As := [.ref (ad 12), .int (L 1), .long r2, .int r7, .int (L 4)]) (g := g) (A := A) (h := shC) hP hK hD hS hA hN (fun hp => va_runV (As := [.int (L 1), .long r2, .int r7, .int (L 4)]) (rest := []) ⟨hx, hb, hml, hown, htt⟩ (t_Replacer_put l g _ ad T7 (L 1 : Int32) (r2 : Int64) (r7 : Int32) (L 4 : Int32) k9 r8 T8 hq8) ⟨(cb_L htt k_1841 k_274 k_1838 hd_Replacer_put ⟨(Nat.le_trans (by decide +kernel) hRf), (Nat.le_trans (by decide +kernel) hRl)⟩), htt _ k_1840, htt _ k_74⟩ ⟨hp.1, S_recv hK hP 12 rfl rfl, hp.2⟩ rfl rfl hl.1 rfl (lv_room (Nat.le_of_ble_eq_true rfl)) d_Replacer_putText_174 ⟨hRc, hRs⟩) (fun Sn H locs hw9 hP hD hS => ?_)
        have e8 := hw9
        rw [e8] at hP hD
        refine W.widen (k := cells) (n := slots) (Nat.le_refl _) (Nat.le_refl _) ?_
        exact (ih.2.2.2.2) T8 L (vp_updL M 8 r2) ls H locs h (lv_sub hl [2, 3, 4, 5, 6, 7, 8, 9, 1] rfl) hP hD hS
    · intro S L M ls H locs h hl hP hD hS
      simp only [f_Replacer_putText] at h
      cases h
      exact kx_177 ls H locs hP hD hS
abbrev rm_t_Replacer_putText : Room := { frames := 3, cells := 0, slots := 0, locals := 73 }
theorem t_Replacer_putText (l : Launch) (g : gG) (sz : Nat) (ad : Nat → Nat) (S : sS) (v1 : Int32) (v2 : Int32) (v3 : Int32) (v4 : Int32) (k : Nat) (r : Int32) (S9 : sS) (h : f_Replacer_putText k 0 S (upd (upd (upd (upd (fun _ => 0) 1 v1) 2 v2) 3 v3) 4 v4) (fun _ => 0) = some (r, S9)) : Cv l y_Replacer_putText b_Replacer_putText 11 rm_t_Replacer_putText g [.ref (ad 12), .int v1, .int v2, .int v3, .int v4] (Sw shC g ad S) sz (fun w => ∃ S1 : sS, w = Sw shC g ad S1 ∧ S1 = S9) := by
  refine startV (by decide) (Nat.le_of_ble_eq_true rfl) ?_
  intro p e s m below meth c A ls hx hb hr hml hlocks hmn hown htt hN hA hP hK hD hS hl
  exact (w_Replacer_putText hx hb hml hown htt hK hN hA (by decide +kernel) (by decide +kernel) (by decide +kernel) (by decide +kernel) r S9 (fun ls H locs hP hD hS => fin_v (g := g) (ws := Sw shC g ad S9) hx hb hr hlocks (by decide +kernel) (by decide +kernel) hP hD hS ⟨_, rfl, rfl⟩ d_Replacer_putText_177) k).1 S (upd (upd (upd (upd (fun _ => 0) 1 v1) 2 v2) 3 v3) 4 v4) (fun _ => 0) ls _ _ h hl hP hD hS
def f_First_isCalled : Nat → Nat → sS → (Nat → Int32) → (Nat → Int64) → Option (Int32 × sS)
  | 0, _, _, _, _ => none
  | k + 1, 0, S, L, M => (f_Meanings_find 16 32768 k 0 S (upd (upd (fun _ => 0) 2 (S.1 5 10 : Int32)) 3 ((S.1 5 11) - (S.1 5 10) : Int32)) (fun _ => 0)).bind (fun (r1, T1) => if r1 < (0 : Int32) then (f_First_isCalled k 2 T1 (upd L 1 r1) M) else ((f_Meanings_wantsParenthesis k 0 T1 (upd (fun _ => 0) 1 (r1 : Int32)) (fun _ => 0)).bind (fun (r3, T3) => if r3 = (0 : Int32) then (f_First_isCalled k 1 T3 (upd L 1 r1) M) else ((f_Input_isAtParenthesis k 0 T3 (fun _ => 0) (fun _ => 0)).bind (fun (r5, T5) => if r5 = (0 : Int32) then (f_First_isCalled k 2 T5 (upd L 1 r1) M) else (f_First_isCalled k 1 T5 (upd L 1 r1) M))))))
  | k + 1, 1, S, L, M => f_First_isCalled k 3 S (upd L 100 (1 : Int32)) M
  | k + 1, 2, S, L, M => f_First_isCalled k 3 S (upd L 100 (0 : Int32)) M
  | k + 1, 3, S, L, M => if bz (L 100) = true then some (L 100, S) else none
  | _ + 1, _ + 4, _, _, _ => none
set_option maxHeartbeats 8000000 in
set_option maxRecDepth 100000 in
theorem w_First_isCalled {p : Program} {l : Launch} {e : Env} {R : Room} {s : State} {m : MethodId} {args : Array Value} {below : List Frame} {meth : Method} {c : Code} {cells slots : Nat} {Q : State → Prop} {g : gG} {A : Nat → Prop} {ad : Nat → Nat} (hx : p.tables.exec = Jvm.exec) (hb : c.code = b_First_isCalled) (hml : c.maxLocals = 2) (hown : s.vm.findClass "MacroMill$First" = some m.cls) (htt : ∀ w ∈ gt, w.before args s = true) (hK : va_K g.1 classes (tysG g) s) (hN : nw s) (hA : ∀ q : Nat, s.heap.size ≤ q → A q) (hRf : 3 ≤ R.frames) (hRl : 74 ≤ R.locals) (hRc : cells ≤ R.cells) (hRs : slots ≤ R.slots) (r : Int32) (S9 : sS)
    (kx_67 : ∀ (ls : Array Slot) (H : Heap) (locs : List Loc), narrow .boolean (.int r) = .int r → va_P g.1 classes (Sw shC g ad S9) H → va_D A (Sw shC g ad S9) → va_S A s.heap H locs → W p l e R s m args below meth c H locs cells slots Q (F0 m 67 ls [.int r])) :
    ∀ k9 : Nat, (∀ (S : sS) (L : Nat → Int32) (M : Nat → Int64) (ls : Array Slot) (H : Heap) (locs : List Loc), f_First_isCalled k9 0 S L M = some (r, S9) → lv_has ls 2 [(0, .ref (ad 4))] → va_P g.1 classes (Sw shC g ad S) H → va_D A (Sw shC g ad S) → va_S A s.heap H locs → W p l e R s m args below meth c H locs cells slots Q (F0 m 0 ls [])) ∧ (∀ (S : sS) (L : Nat → Int32) (M : Nat → Int64) (ls : Array Slot) (H : Heap) (locs : List Loc), f_First_isCalled k9 1 S L M = some (r, S9) → lv_has ls 2 [(0, .ref (ad 4)), (1, .int (L 1))] → va_P g.1 classes (Sw shC g ad S) H → va_D A (Sw shC g ad S) → va_S A s.heap H locs → W p l e R s m args below meth c H locs cells slots Q (F0 m 62 ls [])) ∧ (∀ (S : sS) (L : Nat → Int32) (M : Nat → Int64) (ls : Array Slot) (H : Heap) (locs : List Loc), f_First_isCalled k9 2 S L M = some (r, S9) → lv_has ls 2 [(0, .ref (ad 4)), (1, .int (L 1))] → va_P g.1 classes (Sw shC g ad S) H → va_D A (Sw shC g ad S) → va_S A s.heap H locs → W p l e R s m args below meth c H locs cells slots Q (F0 m 66 ls [])) ∧ (∀ (S : sS) (L : Nat → Int32) (M : Nat → Int64) (ls : Array Slot) (H : Heap) (locs : List Loc), f_First_isCalled k9 3 S L M = some (r, S9) → lv_has ls 2 [(0, .ref (ad 4)), (1, .int (L 1))] → va_P g.1 classes (Sw shC g ad S) H → va_D A (Sw shC g ad S) → va_S A s.heap H locs → W p l e R s m args below meth c H locs cells slots Q (F0 m 67 ls [.int (L 100)])) := by
  intro k9
  induction k9 with
  | zero => exact ⟨(fun _ _ _ _ _ _ h => by simp [f_First_isCalled] at h), (fun _ _ _ _ _ _ h => by simp [f_First_isCalled] at h), (fun _ _ _ _ _ _ h => by simp [f_First_isCalled] at h), (fun _ _ _ _ _ _ h => by simp [f_First_isCalled] at h)⟩
  | succ k9 ih =>
    refine ⟨?_, ?_, ?_, ?_⟩
    · intro S L M ls H locs h hl hP hD hS
      simp only [f_First_isCalled] at h
      refine lv_aload_n hx hb d_First_isCalled_0 rfl (lv_at hl 0 rfl) ?_
      refine S_getR (h := shC) (C := "MacroMill$First") (T := F_First) hx hb htt in_First hown hK hP 4 4 rfl 7 rfl rfl (by decide) (htt _ k_574) (fun _ h9 => h9) d_First_isCalled_1 ?_
      refine lv_aload_n hx hb d_First_isCalled_4 rfl (lv_at hl 0 rfl) ?_
      refine S_getR (h := shC) (C := "MacroMill$First") (T := F_First) hx hb htt in_First hown hK hP 4 2 rfl 5 rfl rfl (by decide) (htt _ k_572) (fun _ h9 => h9) d_First_isCalled_5 ?_
      refine S_getR (h := shC) (C := "MacroMill$Input") (T := F_Input) hx hb htt in_Input hown hK hP 5 0 rfl 29 rfl rfl (by decide) (htt _ k_529) (fun _ h9 => h9) d_First_isCalled_8 ?_
      refine lv_aload_n hx hb d_First_isCalled_11 rfl (lv_at hl 0 rfl) ?_
      refine S_getR (h := shC) (C := "MacroMill$First") (T := F_First) hx hb htt in_First hown hK hP 4 2 rfl 5 rfl rfl (by decide) (htt _ k_572) (fun _ h9 => h9) d_First_isCalled_12 ?_
      refine S_getI (h := shC) (C := "MacroMill$Input") (T := F_Input) hx hb htt in_Input hown hK hP 5 10 rfl rfl rfl (by decide) (htt _ k_541) (fun _ h9 => h9) d_First_isCalled_15 ?_
      refine lv_aload_n hx hb d_First_isCalled_18 rfl (lv_at hl 0 rfl) ?_
      refine S_getR (h := shC) (C := "MacroMill$First") (T := F_First) hx hb htt in_First hown hK hP 4 2 rfl 5 rfl rfl (by decide) (htt _ k_572) (fun _ h9 => h9) d_First_isCalled_19 ?_
      refine S_getI (h := shC) (C := "MacroMill$Input") (T := F_Input) hx hb htt in_Input hown hK hP 5 11 rfl rfl rfl (by decide) (htt _ k_543) (fun _ h9 => h9) d_First_isCalled_22 ?_
      show W _ _ _ _ _ _ _ _ _ _ _ _ _ _ _ (F0 _ 25 _ _)
      refine lv_aload_n hx hb d_First_isCalled_25 rfl (lv_at hl 0 rfl) ?_
      refine S_getR (h := shC) (C := "MacroMill$First") (T := F_First) hx hb htt in_First hown hK hP 4 2 rfl 5 rfl rfl (by decide) (htt _ k_572) (fun _ h9 => h9) d_First_isCalled_26 ?_
      refine S_getI (h := shC) (C := "MacroMill$Input") (T := F_Input) hx hb htt in_Input hown hK hP 5 10 rfl rfl rfl (by decide) (htt _ k_541) (fun _ h9 => h9) d_First_isCalled_29 ?_
      refine lv_isub hx hb d_First_isCalled_32 ?_
      obtain ⟨⟨r1, T1⟩, hq1, h⟩ := Option.bind_eq_some_iff.mp h
      try dsimp only at h
      refine go_iS (As := [.ref (ad 7), .ref (ad 29), .int (S.1 5 10), .int ((S.1 5 11) - (S.1 5 10))]) (g := g) (A := A) (h := shC) hP hK hD hS hA hN (fun hp => va_runV (As := [.ref (ad 29), .int (S.1 5 10), .int ((S.1 5 11) - (S.1 5 10))]) (rest := []) ⟨hx, hb, hml, hown, htt⟩ (t_Meanings_find l g _ ad S 16 32768 (S.1 5 10 : Int32) ((S.1 5 11) - (S.1 5 10) : Int32) rfl k9 r1 T1 hq1) ⟨(cb_L htt k_1203 k_268 k_1200 hd_Meanings_find ⟨(Nat.le_trans (by decide +kernel) hRf), (Nat.le_trans (by decide +kernel) hRl)⟩), htt _ k_1201, htt _ k_1202⟩ ⟨hp.1, S_recv hK hP 7 rfl rfl, hp.2⟩ rfl rfl hl.1 rfl (lv_room (Nat.le_of_ble_eq_true rfl)) d_First_isCalled_33 ⟨hRc, hRs⟩) (fun r0 Sn H locs hw9 hP hD hS => ?_)
      obtain ⟨e9, e8⟩ := hw9
      rw [e8] at hP hD
      refine W.widen (k := cells) (n := slots) (Nat.le_refl _) (Nat.le_refl _) ?_
      refine toI (y := r1) e9 ?_
      refine lv_istore_n (lv' := [(1, .int r1), (0, .ref (ad 4))]) hx hb d_First_isCalled_36 rfl hl (by decide) rfl (fun ls hl => ?_)
      refine lv_iload_n hx hb d_First_isCalled_37 rfl (lv_at hl 0 rfl) ?_
      refine lv_if_lt (tgt := 66) hx hb d_First_isCalled_38 (by decide) (fun hc2 => ?_) (fun hc2 => ?_)
      · rw [if_pos hc2] at h
        exact (ih.2.2.1) T1 (upd L 1 r1) M ls H locs h (lv_sub hl [1, 0] rfl) hP hD hS
      · rw [if_neg hc2] at h
        refine lv_aload_n hx hb d_First_isCalled_41 rfl (lv_at hl 1 rfl) ?_
        refine S_getR (h := shC) (C := "MacroMill$First") (T := F_First) hx hb htt in_First hown hK hP 4 4 rfl 7 rfl rfl (by decide) (htt _ k_574) (fun _ h9 => h9) d_First_isCalled_42 ?_
        refine lv_iload_n hx hb d_First_isCalled_45 rfl (lv_at hl 0 rfl) ?_
        obtain ⟨⟨r3, T3⟩, hq3, h⟩ := Option.bind_eq_some_iff.mp h
        try dsimp only at h
        refine go_iS (As := [.ref (ad 7), .int r1]) (g := g) (A := A) (h := shC) hP hK hD hS hA hN (fun hp => va_runV (As := [.int r1]) (rest := []) ⟨hx, hb, hml, hown, htt⟩ (t_Meanings_wantsParenthesis l g _ ad T1 (r1 : Int32) k9 r3 T3 hq3) ⟨(cb_L htt k_1212 k_268 k_1209 hd_Meanings_wantsParenthesis ⟨(Nat.le_trans (by decide +kernel) hRf), (Nat.le_trans (by decide +kernel) hRl)⟩), htt _ k_1210, htt _ k_1211⟩ ⟨hp.1, S_recv hK hP 7 rfl rfl, hp.2⟩ rfl rfl hl.1 rfl (lv_room (Nat.le_of_ble_eq_true rfl)) d_First_isCalled_46 ⟨hRc, hRs⟩) (fun r0 Sn H locs hw9 hP hD hS => ?_)
        obtain ⟨e9, e8⟩ := hw9
        rw [e8] at hP hD
        refine W.widen (k := cells) (n := slots) (Nat.le_refl _) (Nat.le_refl _) ?_
        refine toI (y := r3) e9 ?_
        refine lv_if_eq (tgt := 62) hx hb d_First_isCalled_49 (by decide) (fun hc4 => ?_) (fun hc4 => ?_)
        · rw [if_pos hc4] at h
          exact (ih.2.1) T3 (upd L 1 r1) M ls H locs h (lv_sub hl [1, 0] rfl) hP hD hS
        · rw [if_neg hc4] at h
          refine lv_aload_n hx hb d_First_isCalled_52 rfl (lv_at hl 1 rfl) ?_
          refine S_getR (h := shC) (C := "MacroMill$First") (T := F_First) hx hb htt in_First hown hK hP 4 2 rfl 5 rfl rfl (by decide) (htt _ k_572) (fun _ h9 => h9) d_First_isCalled_53 ?_
          obtain ⟨⟨r5, T5⟩, hq5, h⟩ := Option.bind_eq_some_iff.mp h
          try dsimp only at h
          refine go_iS (As := [.ref (ad 5)]) (g := g) (A := A) (h := shC) hP hK hD hS hA hN (fun hp => va_runV (As := []) (rest := []) ⟨hx, hb, hml, hown, htt⟩ (t_Input_isAtParenthesis l g _ ad T3 k9 r5 T5 hq5) ⟨(cb_L htt k_1216 k_269 k_1213 hd_Input_isAtParenthesis ⟨(Nat.le_trans (by decide +kernel) hRf), (Nat.le_trans (by decide +kernel) hRl)⟩), htt _ k_1214, htt _ k_1215⟩ ⟨hp.1, S_recv hK hP 5 rfl rfl, hp.2⟩ rfl rfl hl.1 rfl (lv_room (Nat.le_of_ble_eq_true rfl)) d_First_isCalled_56 ⟨hRc, hRs⟩) (fun r0 Sn H locs hw9 hP hD hS => ?_)
          obtain ⟨e9, e8⟩ := hw9
          rw [e8] at hP hD
          refine W.widen (k := cells) (n := slots) (Nat.le_refl _) (Nat.le_refl _) ?_
          refine toI (y := r5) e9 ?_
          refine lv_if_eq (tgt := 66) hx hb d_First_isCalled_59 (by decide) (fun hc6 => ?_) (fun hc6 => ?_)
          · rw [if_pos hc6] at h
            exact (ih.2.2.1) T5 (upd L 1 r1) M ls H locs h (lv_sub hl [1, 0] rfl) hP hD hS
          · rw [if_neg hc6] at h
            exact (ih.2.1) T5 (upd L 1 r1) M ls H locs h (lv_sub hl [1, 0] rfl) hP hD hS
    · intro S L M ls H locs h hl hP hD hS
      simp only [f_First_isCalled] at h
      refine lv_iconst (v := 1) hx hb d_First_isCalled_62 (by decide) ?_
      refine lv_goto (tgt := 67) hx hb d_First_isCalled_63 (by decide) ?_
      exact (ih.2.2.2) S (upd L 100 (1 : Int32)) M ls H locs h (lv_sub hl [0, 1] rfl) hP hD hS
    · intro S L M ls H locs h hl hP hD hS
      simp only [f_First_isCalled] at h
      refine lv_iconst (v := 0) hx hb d_First_isCalled_66 (by decide) ?_
      exact (ih.2.2.2) S (upd L 100 (0 : Int32)) M ls H locs h (lv_sub hl [0, 1] rfl) hP hD hS
    · intro S L M ls H locs h hl hP hD hS
      simp only [f_First_isCalled] at h
      obtain ⟨hv1, h⟩ := chk h
      cases h
      exact kx_67 ls H locs (bz_n hv1) hP hD hS
abbrev rm_t_First_isCalled : Room := { frames := 3, cells := 0, slots := 0, locals := 74 }
theorem t_First_isCalled (l : Launch) (g : gG) (sz : Nat) (ad : Nat → Nat) (S : sS) (k : Nat) (r : Int32) (S9 : sS) (h : f_First_isCalled k 0 S (fun _ => 0) (fun _ => 0) = some (r, S9)) : Cz l y_First_isCalled b_First_isCalled 2 rm_t_First_isCalled g [.ref (ad 4)] (Sw shC g ad S) sz (fun r1 w => ∃ S1 : sS, w = Sw shC g ad S1 ∧ r1 = r ∧ S1 = S9) := by
  refine startZ (by decide) (Nat.le_of_ble_eq_true rfl) ?_
  intro p e s m below meth c A ls hx hb hr hml hlocks hmn hown htt hN hA hP hK hD hS hl
  exact (w_First_isCalled hx hb hml hown htt hK hN hA (by decide +kernel) (by decide +kernel) (by decide +kernel) (by decide +kernel) r S9 (fun ls H locs hz hP hD hS => fin_z (g := g) (ws := Sw shC g ad S9) hx hb hr hlocks hz (by decide +kernel) (by decide +kernel) hP hD hS ⟨_, rfl, rfl, rfl⟩ d_First_isCalled_67) k).1 S (fun _ => 0) (fun _ => 0) ls _ _ h hl hP hD hS
