def f_Mod_feedInt : Nat → Nat → sS → (Nat → Int32) → (Nat → Int64) → Option (Int32 × sS)
  | 0, _, _, _, _ => none
  | k + 1, 0, S, L, M => f_Mod_feedInt k 1 S (upd L 2 (24 : Int32)) M
  | k + 1, 1, S, L, M => if (L 2) < (0 : Int32) then (some ((0 : Int32), S)) else (if okI (S.1 0 1) 16384 = true then (f_Mod_feedInt k 1 (putI (putA S 0 (S.1 0 1 : Int32).toNatClampNeg (vp_nar .byte (((L 1) >>> ((L 2) &&& 31)).toInt8.toInt32))) 0 1 ((S.1 0 1) + (1 : Int32))) (upd L 2 ((L 2) + (-8))) M) else none)
  | _ + 1, _ + 2, _, _, _ => none
set_option maxHeartbeats 8000000 in
set_option maxRecDepth 100000 in
theorem w_Mod_feedInt {p : Program} {l : Launch} {e : Env} {R : Room} {s : State} {m : MethodId} {args : Array Value} {below : List Frame} {meth : Method} {c : Code} {cells slots : Nat} {Q : State → Prop} {g : gG} {A : Nat → Prop} {ad : Nat → Nat} (hx : p.tables.exec = Jvm.exec) (hb : c.code = b_Mod_feedInt) (hml : c.maxLocals = 3) (hown : s.vm.findClass "MacroMillModel" = some m.cls) (htt : ∀ w ∈ gt, w.before args s = true) (hK : va_K g.1 classes (tysG g) s) (hN : nw s) (hA : ∀ q : Nat, s.heap.size ≤ q → A q) (r : Int32) (S9 : sS)
    (kx_36 : ∀ (ls : Array Slot) (H : Heap) (locs : List Loc), va_P g.1 classes (Sw shM g ad S9) H → va_D A (Sw shM g ad S9) → va_S A s.heap H locs → W p l e R s m args below meth c H locs cells slots Q (F0 m 36 ls [])) :
    ∀ k9 : Nat, (∀ (S : sS) (L : Nat → Int32) (M : Nat → Int64) (ls : Array Slot) (H : Heap) (locs : List Loc), f_Mod_feedInt k9 0 S L M = some (r, S9) → lv_has ls 3 [(0, .ref (ad 0)), (1, .int (L 1))] → va_P g.1 classes (Sw shM g ad S) H → va_D A (Sw shM g ad S) → va_S A s.heap H locs → W p l e R s m args below meth c H locs cells slots Q (F0 m 0 ls [])) ∧ (∀ (S : sS) (L : Nat → Int32) (M : Nat → Int64) (ls : Array Slot) (H : Heap) (locs : List Loc), f_Mod_feedInt k9 1 S L M = some (r, S9) → lv_has ls 3 [(0, .ref (ad 0)), (1, .int (L 1)), (2, .int (L 2))] → va_P g.1 classes (Sw shM g ad S) H → va_D A (Sw shM g ad S) → va_S A s.heap H locs → W p l e R s m args below meth c H locs cells slots Q (F0 m 3 ls [])) := by
  intro k9
  induction k9 with
  | zero => exact ⟨(fun _ _ _ _ _ _ h => by simp [f_Mod_feedInt] at h), (fun _ _ _ _ _ _ h => by simp [f_Mod_feedInt] at h)⟩
  | succ k9 ih =>
    refine ⟨?_, ?_⟩
    · intro S L M ls H locs h hl hP hD hS
      simp only [f_Mod_feedInt] at h
      refine lv_bipush (v := 24) hx hb d_Mod_feedInt_0 (by decide) ?_
      refine lv_istore_n (lv' := [(2, .int 24), (0, .ref (ad 0)), (1, .int (L 1))]) hx hb d_Mod_feedInt_2 rfl hl (by decide) rfl (fun ls hl => ?_)
      exact (ih.2) S (upd L 2 (24 : Int32)) M ls H locs h (lv_sub hl [1, 2, 0] rfl) hP hD hS
    · intro S L M ls H locs h hl hP hD hS
      simp only [f_Mod_feedInt] at h
      refine lv_iload_n hx hb d_Mod_feedInt_3 rfl (lv_at hl 2 rfl) ?_
      refine lv_if_lt (tgt := 36) hx hb d_Mod_feedInt_4 (by decide) (fun hc1 => ?_) (fun hc1 => ?_)
      · rw [if_pos hc1] at h
        cases h
        exact kx_36 ls H locs hP hD hS
      · rw [if_neg hc1] at h
        refine lv_aload_n hx hb d_Mod_feedInt_7 rfl (lv_at hl 0 rfl) ?_
        refine S_getR (h := shM) (C := "MacroMillModel") (T := F_Mod) hx hb htt in_Mod hown hK hP 0 0 rfl 1 rfl rfl (by decide) (htt _ k_2236) (fun _ h9 => h9) d_Mod_feedInt_8 ?_
        refine lv_aload_n hx hb d_Mod_feedInt_11 rfl (lv_at hl 0 rfl) ?_
        refine S_getI (h := shM) (C := "MacroMillModel") (T := F_Mod) hx hb htt in_Mod hown hK hP 0 1 rfl rfl rfl (by decide) (htt _ k_2237) (fun _ h9 => h9) d_Mod_feedInt_12 ?_
        refine lv_iload_n hx hb d_Mod_feedInt_15 rfl (lv_at hl 1 rfl) ?_
        refine lv_iload_n hx hb d_Mod_feedInt_16 rfl (lv_at hl 2 rfl) ?_
        refine lv_ishr hx hb d_Mod_feedInt_17 ?_
        refine lv_i2b (v := ((L 1) >>> ((L 2) &&& 31)).toInt8.toInt32) hx hb d_Mod_feedInt_18 rfl ?_
        obtain ⟨hv2, h⟩ := chk h
        refine S_bast (h := shM) (i := S.1 0 1) (v := ((L 1) >>> ((L 2) &&& 31)).toInt8.toInt32) hx hb hK hP hD hS 0 rfl (okI_in hv2) d_Mod_feedInt_19 (fun H locs hP hD hS => ?_)
        refine lv_aload_n hx hb d_Mod_feedInt_20 rfl (lv_at hl 0 rfl) ?_
        show W _ _ _ _ _ _ _ _ _ _ _ _ _ _ _ (F0 _ 21 _ _)
        refine lv_dup hx hb d_Mod_feedInt_21 rfl ?_
        refine S_getI (h := shM) (C := "MacroMillModel") (T := F_Mod) hx hb htt in_Mod hown hK hP 0 1 rfl rfl rfl (by decide) (htt _ k_2237) (fun _ h9 => h9) d_Mod_feedInt_22 ?_
        refine toI (y := S.1 0 1) rfl ?_
        refine lv_iconst (v := 1) hx hb d_Mod_feedInt_25 (by decide) ?_
        refine lv_iadd hx hb d_Mod_feedInt_26 ?_
        refine S_put (h := shM) (C := "MacroMillModel") (T := F_Mod) (v := (S.1 0 1) + (1 : Int32)) hx hb htt in_Mod t_Mod t_Mod_ok n_Mod hown hK hP hD hS 0 1 rfl rfl rfl (by decide) (htt _ k_2237) (fun _ h9 => h9) rfl rfl rfl d_Mod_feedInt_27 (fun H locs hP hD hS => ?_)
        refine lv_iinc (k := 2) (v := (L 2) + (-8)) (lv' := [(2, .int ((L 2) + (-8))), (0, .ref (ad 0)), (1, .int (L 1))]) hx hb d_Mod_feedInt_30 hl rfl rfl (by decide) rfl (fun ls hl => ?_)
        refine lv_goto (tgt := 3) hx hb d_Mod_feedInt_33 (by decide) ?_
        exact (ih.2) (putI (putA S 0 (S.1 0 1 : Int32).toNatClampNeg (vp_nar .byte (((L 1) >>> ((L 2) &&& 31)).toInt8.toInt32))) 0 1 ((S.1 0 1) + (1 : Int32))) (upd L 2 ((L 2) + (-8))) M ls H locs h (lv_sub hl [1, 2, 0] rfl) hP hD hS
abbrev rm_t_Mod_feedInt : Room := { frames := 0, cells := 0, slots := 0, locals := 0 }
theorem t_Mod_feedInt (l : Launch) (g : gG) (sz : Nat) (ad : Nat → Nat) (S : sS) (v1 : Int32) (k : Nat) (r : Int32) (S9 : sS) (h : f_Mod_feedInt k 0 S (upd (fun _ => 0) 1 v1) (fun _ => 0) = some (r, S9)) : Cv l y_Mod_feedInt b_Mod_feedInt 3 rm_t_Mod_feedInt g [.ref (ad 0), .int v1] (Sw shM g ad S) sz (fun w => ∃ S1 : sS, w = Sw shM g ad S1 ∧ S1 = S9) := by
  refine startV (by decide) (Nat.le_of_ble_eq_true rfl) ?_
  intro p e s m below meth c A ls hx hb hr hml hlocks hmn hown htt hN hA hP hK hD hS hl
  exact (w_Mod_feedInt hx hb hml hown htt hK hN hA r S9 (fun ls H locs hP hD hS => fin_v (g := g) (ws := Sw shM g ad S9) hx hb hr hlocks (by decide +kernel) (by decide +kernel) hP hD hS ⟨_, rfl, rfl⟩ d_Mod_feedInt_36) k).1 S (upd (fun _ => 0) 1 v1) (fun _ => 0) ls _ _ h hl hP hD hS
def f_Mod_feed : Nat → Nat → sS → (Nat → Int32) → (Nat → Int64) → Option (Int32 × sS)
  | 0, _, _, _, _ => none
  | k + 1, 0, S, L, M => if ((S.1 0 1) + (20 : Int32)) ≤ (16384 : Int32) then ((f_Mod_feedInt k 0 S (upd (fun _ => 0) 1 (L 1 : Int32)) (fun _ => 0)).bind (fun (r2, T2) => (f_Mod_feedInt k 0 T2 (upd (fun _ => 0) 1 (L 2 : Int32)) (fun _ => 0)).bind (fun (r3, T3) => (f_Mod_feedInt k 0 T3 (upd (fun _ => 0) 1 (L 3 : Int32)) (fun _ => 0)).bind (fun (r4, T4) => (f_Mod_feedInt k 0 T4 (upd (fun _ => 0) 1 (L 4 : Int32)) (fun _ => 0)).bind (fun (r5, T5) => (f_Mod_feedInt k 0 T5 (upd (fun _ => 0) 1 (L 5 : Int32)) (fun _ => 0)).bind (fun (r6, T6) => some (T6.1 0 1, (putI T6 0 2 1)))))))) else (some (((-4) : Int32), S))
  | _ + 1, _ + 1, _, _, _ => none
set_option maxHeartbeats 8000000 in
set_option maxRecDepth 100000 in
theorem w_Mod_feed {p : Program} {l : Launch} {e : Env} {R : Room} {s : State} {m : MethodId} {args : Array Value} {below : List Frame} {meth : Method} {c : Code} {cells slots : Nat} {Q : State → Prop} {g : gG} {A : Nat → Prop} {ad : Nat → Nat} (hx : p.tables.exec = Jvm.exec) (hb : c.code = b_Mod_feed) (hml : c.maxLocals = 6) (hown : s.vm.findClass "MacroMillModel" = some m.cls) (htt : ∀ w ∈ gt, w.before args s = true) (hK : va_K g.1 classes (tysG g) s) (hN : nw s) (hA : ∀ q : Nat, s.heap.size ≤ q → A q) (hRf : 1 ≤ R.frames) (hRl : 22 ≤ R.locals) (hRc : cells ≤ R.cells) (hRs : slots ≤ R.slots) (r : Int32) (S9 : sS)
    (kx_15 : ∀ (ls : Array Slot) (H : Heap) (locs : List Loc), va_P g.1 classes (Sw shM g ad S9) H → va_D A (Sw shM g ad S9) → va_S A s.heap H locs → W p l e R s m args below meth c H locs cells slots Q (F0 m 15 ls [.int r]))
    (kx_52 : ∀ (ls : Array Slot) (H : Heap) (locs : List Loc), va_P g.1 classes (Sw shM g ad S9) H → va_D A (Sw shM g ad S9) → va_S A s.heap H locs → W p l e R s m args below meth c H locs cells slots Q (F0 m 52 ls [.int r])) :
    ∀ k9 : Nat, (∀ (S : sS) (L : Nat → Int32) (M : Nat → Int64) (ls : Array Slot) (H : Heap) (locs : List Loc), f_Mod_feed k9 0 S L M = some (r, S9) → lv_has ls 6 [(0, .ref (ad 0)), (1, .int (L 1)), (2, .int (L 2)), (3, .int (L 3)), (4, .int (L 4)), (5, .int (L 5))] → va_P g.1 classes (Sw shM g ad S) H → va_D A (Sw shM g ad S) → va_S A s.heap H locs → W p l e R s m args below meth c H locs cells slots Q (F0 m 0 ls [])) := by
  intro k9
  induction k9 with
  | zero => exact (fun _ _ _ _ _ _ h => by simp [f_Mod_feed] at h)
  | succ k9 ih =>
    · intro S L M ls H locs h hl hP hD hS
      simp only [f_Mod_feed] at h
      refine lv_aload_n hx hb d_Mod_feed_0 rfl (lv_at hl 0 rfl) ?_
      refine S_getI (h := shM) (C := "MacroMillModel") (T := F_Mod) hx hb htt in_Mod hown hK hP 0 1 rfl rfl rfl (by decide) (htt _ k_2237) (fun _ h9 => h9) d_Mod_feed_1 ?_
      refine lv_bipush (v := 20) hx hb d_Mod_feed_4 (by decide) ?_
      refine lv_iadd hx hb d_Mod_feed_6 ?_
      refine lv_sipush (v := 16384) hx hb d_Mod_feed_7 (by decide) ?_
      refine lv_icmp_le (tgt := 16) hx hb d_Mod_feed_10 (by decide) (fun hc1 => ?_) (fun hc1 => ?_)
      · rw [if_pos hc1] at h
        refine lv_aload_n hx hb d_Mod_feed_16 rfl (lv_at hl 0 rfl) ?_
        refine lv_iload_n hx hb d_Mod_feed_17 rfl (lv_at hl 1 rfl) ?_
        obtain ⟨⟨r2, T2⟩, hq2, h⟩ := Option.bind_eq_some_iff.mp h
        try dsimp only at h
        refine go_vS (As := [.ref (ad 0), .int (L 1)]) (g := g) (A := A) (h := shM) hP hK hD hS hA hN (fun hp => va_runV (As := [.int (L 1)]) (rest := []) ⟨hx, hb, hml, hown, htt⟩ (t_Mod_feedInt l g _ ad S (L 1 : Int32) k9 r2 T2 hq2) ⟨(cb_L htt k_2676 k_276 k_2673 hd_Mod_feedInt ⟨(Nat.le_trans (by decide +kernel) hRf), (Nat.le_trans (by decide +kernel) hRl)⟩), htt _ k_2675, htt _ k_126⟩ ⟨hp.1, S_recv hK hP 0 rfl rfl, hp.2⟩ rfl rfl hl.1 rfl (lv_room (Nat.le_of_ble_eq_true rfl)) d_Mod_feed_18 ⟨hRc, hRs⟩) (fun Sn H locs hw9 hP hD hS => ?_)
        have e8 := hw9
        rw [e8] at hP hD
        refine W.widen (k := cells) (n := slots) (Nat.le_refl _) (Nat.le_refl _) ?_
        refine lv_aload_n hx hb d_Mod_feed_21 rfl (lv_at hl 0 rfl) ?_
        refine lv_iload_n hx hb d_Mod_feed_22 rfl (lv_at hl 2 rfl) ?_
        obtain ⟨⟨r3, T3⟩, hq3, h⟩ := Option.bind_eq_some_iff.mp h
        try dsimp only at h
        refine go_vS (As := [.ref (ad 0), .int (L 2)]) (g := g) (A := A) (h := shM) hP hK hD hS hA hN (fun hp => va_runV (As := [.int (L 2)]) (rest := []) ⟨hx, hb, hml, hown, htt⟩ (t_Mod_feedInt l g _ ad T2 (L 2 : Int32) k9 r3 T3 hq3) ⟨(cb_L htt k_2676 k_276 k_2673 hd_Mod_feedInt ⟨(Nat.le_trans (by decide +kernel) hRf), (Nat.le_trans (by decide +kernel) hRl)⟩), htt _ k_2675, htt _ k_126⟩ ⟨hp.1, S_recv hK hP 0 rfl rfl, hp.2⟩ rfl rfl hl.1 rfl (lv_room (Nat.le_of_ble_eq_true rfl)) d_Mod_feed_23 ⟨hRc, hRs⟩) (fun Sn H locs hw9 hP hD hS => ?_)
        have e8 := hw9
        rw [e8] at hP hD
        refine W.widen (k := cells) (n := slots) (Nat.le_refl _) (Nat.le_refl _) ?_
        refine lv_aload_n hx hb d_Mod_feed_26 rfl (lv_at hl 0 rfl) ?_
        refine lv_iload_n hx hb d_Mod_feed_27 rfl (lv_at hl 3 rfl) ?_
        obtain ⟨⟨r4, T4⟩, hq4, h⟩ := Option.bind_eq_some_iff.mp h
        try dsimp only at h
        refine go_vS (As := [.ref (ad 0), .int (L 3)]) (g := g) (A := A) (h := shM) hP hK hD hS hA hN (fun hp => va_runV (As := [.int (L 3)]) (rest := []) ⟨hx, hb, hml, hown, htt⟩ (t_Mod_feedInt l g _ ad T3 (L 3 : Int32) k9 r4 T4 hq4) ⟨(cb_L htt k_2676 k_276 k_2673 hd_Mod_feedInt ⟨(Nat.le_trans (by decide +kernel) hRf), (Nat.le_trans (by decide +kernel) hRl)⟩), htt _ k_2675, htt _ k_126⟩ ⟨hp.1, S_recv hK hP 0 rfl rfl, hp.2⟩ rfl rfl hl.1 rfl (lv_room (Nat.le_of_ble_eq_true rfl)) d_Mod_feed_28 ⟨hRc, hRs⟩) (fun Sn H locs hw9 hP hD hS => ?_)
        have e8 := hw9
        rw [e8] at hP hD
        refine W.widen (k := cells) (n := slots) (Nat.le_refl _) (Nat.le_refl _) ?_
        show W _ _ _ _ _ _ _ _ _ _ _ _ _ _ _ (F0 _ 31 _ _)
        refine lv_aload_n hx hb d_Mod_feed_31 rfl (lv_at hl 0 rfl) ?_
        refine lv_iload hx hb d_Mod_feed_32 (lv_at hl 4 rfl) ?_
        obtain ⟨⟨r5, T5⟩, hq5, h⟩ := Option.bind_eq_some_iff.mp h
        try dsimp only at h
        refine go_vS (As := [.ref (ad 0), .int (L 4)]) (g := g) (A := A) (h := shM) hP hK hD hS hA hN (fun hp => va_runV (As := [.int (L 4)]) (rest := []) ⟨hx, hb, hml, hown, htt⟩ (t_Mod_feedInt l g _ ad T4 (L 4 : Int32) k9 r5 T5 hq5) ⟨(cb_L htt k_2676 k_276 k_2673 hd_Mod_feedInt ⟨(Nat.le_trans (by decide +kernel) hRf), (Nat.le_trans (by decide +kernel) hRl)⟩), htt _ k_2675, htt _ k_126⟩ ⟨hp.1, S_recv hK hP 0 rfl rfl, hp.2⟩ rfl rfl hl.1 rfl (lv_room (Nat.le_of_ble_eq_true rfl)) d_Mod_feed_34 ⟨hRc, hRs⟩) (fun Sn H locs hw9 hP hD hS => ?_)
        have e8 := hw9
        rw [e8] at hP hD
        refine W.widen (k := cells) (n := slots) (Nat.le_refl _) (Nat.le_refl _) ?_
        refine lv_aload_n hx hb d_Mod_feed_37 rfl (lv_at hl 0 rfl) ?_
        refine lv_iload hx hb d_Mod_feed_38 (lv_at hl 5 rfl) ?_
        obtain ⟨⟨r6, T6⟩, hq6, h⟩ := Option.bind_eq_some_iff.mp h
        try dsimp only at h
        refine go_vS (As := [.ref (ad 0), .int (L 5)]) (g := g) (A := A) (h := shM) hP hK hD hS hA hN (fun hp => va_runV (As := [.int (L 5)]) (rest := []) ⟨hx, hb, hml, hown, htt⟩ (t_Mod_feedInt l g _ ad T5 (L 5 : Int32) k9 r6 T6 hq6) ⟨(cb_L htt k_2676 k_276 k_2673 hd_Mod_feedInt ⟨(Nat.le_trans (by decide +kernel) hRf), (Nat.le_trans (by decide +kernel) hRl)⟩), htt _ k_2675, htt _ k_126⟩ ⟨hp.1, S_recv hK hP 0 rfl rfl, hp.2⟩ rfl rfl hl.1 rfl (lv_room (Nat.le_of_ble_eq_true rfl)) d_Mod_feed_40 ⟨hRc, hRs⟩) (fun Sn H locs hw9 hP hD hS => ?_)
        have e8 := hw9
        rw [e8] at hP hD
        refine W.widen (k := cells) (n := slots) (Nat.le_refl _) (Nat.le_refl _) ?_
        refine lv_aload_n hx hb d_Mod_feed_43 rfl (lv_at hl 0 rfl) ?_
        refine lv_iconst (v := 1) hx hb d_Mod_feed_44 (by decide) ?_
        refine S_put (h := shM) (C := "MacroMillModel") (T := F_Mod) (v := 1) hx hb htt in_Mod t_Mod t_Mod_ok n_Mod hown hK hP hD hS 0 2 rfl rfl rfl (by decide) (htt _ k_2238) (fun _ h9 => h9) rfl rfl rfl d_Mod_feed_45 (fun H locs hP hD hS => ?_)
        refine lv_aload_n hx hb d_Mod_feed_48 rfl (lv_at hl 0 rfl) ?_
        refine S_getI (h := shM) (C := "MacroMillModel") (T := F_Mod) hx hb htt in_Mod hown hK hP 0 1 rfl rfl rfl (by decide) (htt _ k_2237) (fun _ h9 => h9) d_Mod_feed_49 ?_
        refine toI (y := T6.1 0 1) rfl ?_
        cases h
        exact kx_52 ls H locs hP hD hS
      · rw [if_neg hc1] at h
        refine lv_bipush (v := (-4)) hx hb d_Mod_feed_13 (by decide) ?_
        cases h
        exact kx_15 ls H locs hP hD hS
abbrev rm_t_Mod_feed : Room := { frames := 1, cells := 0, slots := 0, locals := 22 }
theorem t_Mod_feed (l : Launch) (g : gG) (sz : Nat) (ad : Nat → Nat) (S : sS) (v1 : Int32) (v2 : Int32) (v3 : Int32) (v4 : Int32) (v5 : Int32) (k : Nat) (r : Int32) (S9 : sS) (h : f_Mod_feed k 0 S (upd (upd (upd (upd (upd (fun _ => 0) 1 v1) 2 v2) 3 v3) 4 v4) 5 v5) (fun _ => 0) = some (r, S9)) : Ci l y_Mod_feed b_Mod_feed 6 rm_t_Mod_feed g [.ref (ad 0), .int v1, .int v2, .int v3, .int v4, .int v5] (Sw shM g ad S) sz (fun r1 w => ∃ S1 : sS, w = Sw shM g ad S1 ∧ r1 = r ∧ S1 = S9) := by
  refine startI (by decide) (Nat.le_of_ble_eq_true rfl) ?_
  intro p e s m below meth c A ls hx hb hr hml hlocks hmn hown htt hN hA hP hK hD hS hl
  exact (w_Mod_feed hx hb hml hown htt hK hN hA (by decide +kernel) (by decide +kernel) (by decide +kernel) (by decide +kernel) r S9 (fun ls H locs hP hD hS => fin_i (g := g) (ws := Sw shM g ad S9) hx hb hr hlocks (by decide +kernel) (by decide +kernel) hP hD hS ⟨_, rfl, rfl, rfl⟩ d_Mod_feed_15) (fun ls H locs hP hD hS => fin_i (g := g) (ws := Sw shM g ad S9) hx hb hr hlocks (by decide +kernel) (by decide +kernel) hP hD hS ⟨_, rfl, rfl, rfl⟩ d_Mod_feed_52) k) S (upd (upd (upd (upd (upd (fun _ => 0) 1 v1) 2 v2) 3 v3) 4 v4) 5 v5) (fun _ => 0) ls _ _ h hl hP hD hS
def f_Mod_end : Nat → Nat → sS → (Nat → Int32) → (Nat → Int64) → Option (Int32 × sS)
  | 0, _, _, _, _ => none
  | k + 1, 0, S, L, M => if (S.1 0 2) = (0 : Int32) then (f_Mod_end k 1 S L M) else (if (L 1) < (0 : Int32) then (f_Mod_end k 1 S L M) else (if (L 1) ≤ (20 : Int32) then (some (((S.1 0 1) - (20 : Int32)) + (L 1), (putI (putI S 0 1 (((S.1 0 1) - (20 : Int32)) + (L 1))) 0 2 0))) else (f_Mod_end k 1 S L M)))
  | k + 1, 1, S, L, M => some (((-1) : Int32), S)
  | _ + 1, _ + 2, _, _, _ => none
set_option maxHeartbeats 8000000 in
set_option maxRecDepth 100000 in
theorem w_Mod_end {p : Program} {l : Launch} {e : Env} {R : Room} {s : State} {m : MethodId} {args : Array Value} {below : List Frame} {meth : Method} {c : Code} {cells slots : Nat} {Q : State → Prop} {g : gG} {A : Nat → Prop} {ad : Nat → Nat} (hx : p.tables.exec = Jvm.exec) (hb : c.code = b_Mod_end) (hml : c.maxLocals = 2) (hown : s.vm.findClass "MacroMillModel" = some m.cls) (htt : ∀ w ∈ gt, w.before args s = true) (hK : va_K g.1 classes (tysG g) s) (hN : nw s) (hA : ∀ q : Nat, s.heap.size ≤ q → A q) (r : Int32) (S9 : sS)
    (kx_18 : ∀ (ls : Array Slot) (H : Heap) (locs : List Loc), va_P g.1 classes (Sw shM g ad S9) H → va_D A (Sw shM g ad S9) → va_S A s.heap H locs → W p l e R s m args below meth c H locs cells slots Q (F0 m 18 ls [.int r]))
    (kx_41 : ∀ (ls : Array Slot) (H : Heap) (locs : List Loc), va_P g.1 classes (Sw shM g ad S9) H → va_D A (Sw shM g ad S9) → va_S A s.heap H locs → W p l e R s m args below meth c H locs cells slots Q (F0 m 41 ls [.int r])) :
    ∀ k9 : Nat, (∀ (S : sS) (L : Nat → Int32) (M : Nat → Int64) (ls : Array Slot) (H : Heap) (locs : List Loc), f_Mod_end k9 0 S L M = some (r, S9) → lv_has ls 2 [(0, .ref (ad 0)), (1, .int (L 1))] → va_P g.1 classes (Sw shM g ad S) H → va_D A (Sw shM g ad S) → va_S A s.heap H locs → W p l e R s m args below meth c H locs cells slots Q (F0 m 0 ls [])) ∧ (∀ (S : sS) (L : Nat → Int32) (M : Nat → Int64) (ls : Array Slot) (H : Heap) (locs : List Loc), f_Mod_end k9 1 S L M = some (r, S9) → lv_has ls 2 [(0, .ref (ad 0)), (1, .int (L 1))] → va_P g.1 classes (Sw shM g ad S) H → va_D A (Sw shM g ad S) → va_S A s.heap H locs → W p l e R s m args below meth c H locs cells slots Q (F0 m 17 ls [])) := by
  intro k9
  induction k9 with
  | zero => exact ⟨(fun _ _ _ _ _ _ h => by simp [f_Mod_end] at h), (fun _ _ _ _ _ _ h => by simp [f_Mod_end] at h)⟩
  | succ k9 ih =>
    refine ⟨?_, ?_⟩
    · intro S L M ls H locs h hl hP hD hS
      simp only [f_Mod_end] at h
      refine lv_aload_n hx hb d_Mod_end_0 rfl (lv_at hl 0 rfl) ?_
      refine S_getI (h := shM) (C := "MacroMillModel") (T := F_Mod) hx hb htt in_Mod hown hK hP 0 2 rfl rfl rfl (by decide) (htt _ k_2238) (fun _ h9 => h9) d_Mod_end_1 ?_
      refine lv_if_eq (tgt := 17) hx hb d_Mod_end_4 (by decide) (fun hc1 => ?_) (fun hc1 => ?_)
      · rw [if_pos hc1] at h
        exact (ih.2) S L M ls H locs h (lv_sub hl [0, 1] rfl) hP hD hS
      · rw [if_neg hc1] at h
        refine lv_iload_n hx hb d_Mod_end_7 rfl (lv_at hl 1 rfl) ?_
        refine lv_if_lt (tgt := 17) hx hb d_Mod_end_8 (by decide) (fun hc2 => ?_) (fun hc2 => ?_)
        · rw [if_pos hc2] at h
          exact (ih.2) S L M ls H locs h (lv_sub hl [0, 1] rfl) hP hD hS
        · rw [if_neg hc2] at h
          refine lv_iload_n hx hb d_Mod_end_11 rfl (lv_at hl 1 rfl) ?_
          refine lv_bipush (v := 20) hx hb d_Mod_end_12 (by decide) ?_
          refine lv_icmp_le (tgt := 19) hx hb d_Mod_end_14 (by decide) (fun hc3 => ?_) (fun hc3 => ?_)
          · rw [if_pos hc3] at h
            refine lv_aload_n hx hb d_Mod_end_19 rfl (lv_at hl 0 rfl) ?_
            refine lv_aload_n hx hb d_Mod_end_20 rfl (lv_at hl 0 rfl) ?_
            refine S_getI (h := shM) (C := "MacroMillModel") (T := F_Mod) hx hb htt in_Mod hown hK hP 0 1 rfl rfl rfl (by decide) (htt _ k_2237) (fun _ h9 => h9) d_Mod_end_21 ?_
            refine lv_bipush (v := 20) hx hb d_Mod_end_24 (by decide) ?_
            refine lv_isub hx hb d_Mod_end_26 ?_
            refine lv_iload_n hx hb d_Mod_end_27 rfl (lv_at hl 1 rfl) ?_
            show W _ _ _ _ _ _ _ _ _ _ _ _ _ _ _ (F0 _ 28 _ _)
            refine lv_iadd hx hb d_Mod_end_28 ?_
            refine S_put (h := shM) (C := "MacroMillModel") (T := F_Mod) (v := ((S.1 0 1) - (20 : Int32)) + (L 1)) hx hb htt in_Mod t_Mod t_Mod_ok n_Mod hown hK hP hD hS 0 1 rfl rfl rfl (by decide) (htt _ k_2237) (fun _ h9 => h9) rfl rfl rfl d_Mod_end_29 (fun H locs hP hD hS => ?_)
            refine lv_aload_n hx hb d_Mod_end_32 rfl (lv_at hl 0 rfl) ?_
            refine lv_iconst (v := 0) hx hb d_Mod_end_33 (by decide) ?_
            refine S_put (h := shM) (C := "MacroMillModel") (T := F_Mod) (v := 0) hx hb htt in_Mod t_Mod t_Mod_ok n_Mod hown hK hP hD hS 0 2 rfl rfl rfl (by decide) (htt _ k_2238) (fun _ h9 => h9) rfl rfl rfl d_Mod_end_34 (fun H locs hP hD hS => ?_)
            refine lv_aload_n hx hb d_Mod_end_37 rfl (lv_at hl 0 rfl) ?_
            refine S_getI (h := shM) (C := "MacroMillModel") (T := F_Mod) hx hb htt in_Mod hown hK hP 0 1 rfl rfl rfl (by decide) (htt _ k_2237) (fun _ h9 => h9) d_Mod_end_38 ?_
            refine toI (y := ((S.1 0 1) - (20 : Int32)) + (L 1)) rfl ?_
            cases h
            exact kx_41 ls H locs hP hD hS
          · rw [if_neg hc3] at h
            exact (ih.2) S L M ls H locs h (lv_sub hl [0, 1] rfl) hP hD hS
    · intro S L M ls H locs h hl hP hD hS
      simp only [f_Mod_end] at h
      refine lv_iconst (v := (-1)) hx hb d_Mod_end_17 (by decide) ?_
      cases h
      exact kx_18 ls H locs hP hD hS
abbrev rm_t_Mod_end : Room := { frames := 0, cells := 0, slots := 0, locals := 0 }
theorem t_Mod_end (l : Launch) (g : gG) (sz : Nat) (ad : Nat → Nat) (S : sS) (v1 : Int32) (k : Nat) (r : Int32) (S9 : sS) (h : f_Mod_end k 0 S (upd (fun _ => 0) 1 v1) (fun _ => 0) = some (r, S9)) : Ci l y_Mod_end b_Mod_end 2 rm_t_Mod_end g [.ref (ad 0), .int v1] (Sw shM g ad S) sz (fun r1 w => ∃ S1 : sS, w = Sw shM g ad S1 ∧ r1 = r ∧ S1 = S9) := by
  refine startI (by decide) (Nat.le_of_ble_eq_true rfl) ?_
  intro p e s m below meth c A ls hx hb hr hml hlocks hmn hown htt hN hA hP hK hD hS hl
  exact (w_Mod_end hx hb hml hown htt hK hN hA r S9 (fun ls H locs hP hD hS => fin_i (g := g) (ws := Sw shM g ad S9) hx hb hr hlocks (by decide +kernel) (by decide +kernel) hP hD hS ⟨_, rfl, rfl, rfl⟩ d_Mod_end_18) (fun ls H locs hP hD hS => fin_i (g := g) (ws := Sw shM g ad S9) hx hb hr hlocks (by decide +kernel) (by decide +kernel) hP hD hS ⟨_, rfl, rfl, rfl⟩ d_Mod_end_41) k).1 S (upd (fun _ => 0) 1 v1) (fun _ => 0) ls _ _ h hl hP hD hS
def f_Mod_use : Nat → Nat → sS → (Nat → Int32) → (Nat → Int64) → Option (Int32 × sS)
  | 0, _, _, _, _ => none
  | k + 1, 0, S, L, M => some (S.1 0 1, (putI (putI S 0 1 0) 0 2 0))
  | _ + 1, _ + 1, _, _, _ => none
set_option maxHeartbeats 8000000 in
set_option maxRecDepth 100000 in
theorem w_Mod_use {p : Program} {l : Launch} {e : Env} {R : Room} {s : State} {m : MethodId} {args : Array Value} {below : List Frame} {meth : Method} {c : Code} {cells slots : Nat} {Q : State → Prop} {g : gG} {A : Nat → Prop} {ad : Nat → Nat} (hx : p.tables.exec = Jvm.exec) (hb : c.code = b_Mod_use) (hml : c.maxLocals = 2) (hown : s.vm.findClass "MacroMillModel" = some m.cls) (htt : ∀ w ∈ gt, w.before args s = true) (hK : va_K g.1 classes (tysG g) s) (hN : nw s) (hA : ∀ q : Nat, s.heap.size ≤ q → A q) (r : Int32) (S9 : sS)
    (kx_16 : ∀ (ls : Array Slot) (H : Heap) (locs : List Loc), va_P g.1 classes (Sw shM g ad S9) H → va_D A (Sw shM g ad S9) → va_S A s.heap H locs → W p l e R s m args below meth c H locs cells slots Q (F0 m 16 ls [.int r])) :
    ∀ k9 : Nat, (∀ (S : sS) (L : Nat → Int32) (M : Nat → Int64) (ls : Array Slot) (H : Heap) (locs : List Loc), f_Mod_use k9 0 S L M = some (r, S9) → lv_has ls 2 [(0, .ref (ad 0))] → va_P g.1 classes (Sw shM g ad S) H → va_D A (Sw shM g ad S) → va_S A s.heap H locs → W p l e R s m args below meth c H locs cells slots Q (F0 m 0 ls [])) := by
  intro k9
  induction k9 with
  | zero => exact (fun _ _ _ _ _ _ h => by simp [f_Mod_use] at h)
  | succ k9 ih =>
    · intro S L M ls H locs h hl hP hD hS
      simp only [f_Mod_use] at h
      refine lv_aload_n hx hb d_Mod_use_0 rfl (lv_at hl 0 rfl) ?_
      refine S_getI (h := shM) (C := "MacroMillModel") (T := F_Mod) hx hb htt in_Mod hown hK hP 0 1 rfl rfl rfl (by decide) (htt _ k_2237) (fun _ h9 => h9) d_Mod_use_1 ?_
      refine lv_istore_n (lv' := [(1, .int (S.1 0 1)), (0, .ref (ad 0))]) hx hb d_Mod_use_4 rfl hl (by decide) rfl (fun ls hl => ?_)
      refine lv_aload_n hx hb d_Mod_use_5 rfl (lv_at hl 1 rfl) ?_
      refine lv_iconst (v := 0) hx hb d_Mod_use_6 (by decide) ?_
      refine S_put (h := shM) (C := "MacroMillModel") (T := F_Mod) (v := 0) hx hb htt in_Mod t_Mod t_Mod_ok n_Mod hown hK hP hD hS 0 1 rfl rfl rfl (by decide) (htt _ k_2237) (fun _ h9 => h9) rfl rfl rfl d_Mod_use_7 (fun H locs hP hD hS => ?_)
      refine lv_aload_n hx hb d_Mod_use_10 rfl (lv_at hl 1 rfl) ?_
      refine lv_iconst (v := 0) hx hb d_Mod_use_11 (by decide) ?_
      refine S_put (h := shM) (C := "MacroMillModel") (T := F_Mod) (v := 0) hx hb htt in_Mod t_Mod t_Mod_ok n_Mod hown hK hP hD hS 0 2 rfl rfl rfl (by decide) (htt _ k_2238) (fun _ h9 => h9) rfl rfl rfl d_Mod_use_12 (fun H locs hP hD hS => ?_)
      refine lv_iload_n hx hb d_Mod_use_15 rfl (lv_at hl 0 rfl) ?_
      cases h
      exact kx_16 ls H locs hP hD hS
abbrev rm_t_Mod_use : Room := { frames := 0, cells := 0, slots := 0, locals := 0 }
theorem t_Mod_use (l : Launch) (g : gG) (sz : Nat) (ad : Nat → Nat) (S : sS) (k : Nat) (r : Int32) (S9 : sS) (h : f_Mod_use k 0 S (fun _ => 0) (fun _ => 0) = some (r, S9)) : Ci l y_Mod_use b_Mod_use 2 rm_t_Mod_use g [.ref (ad 0)] (Sw shM g ad S) sz (fun r1 w => ∃ S1 : sS, w = Sw shM g ad S1 ∧ r1 = r ∧ S1 = S9) := by
  refine startI (by decide) (Nat.le_of_ble_eq_true rfl) ?_
  intro p e s m below meth c A ls hx hb hr hml hlocks hmn hown htt hN hA hP hK hD hS hl
  exact (w_Mod_use hx hb hml hown htt hK hN hA r S9 (fun ls H locs hP hD hS => fin_i (g := g) (ws := Sw shM g ad S9) hx hb hr hlocks (by decide +kernel) (by decide +kernel) hP hD hS ⟨_, rfl, rfl, rfl⟩ d_Mod_use_16) k) S (fun _ => 0) (fun _ => 0) ls _ _ h hl hP hD hS
def f_Mod_isTitle (x2 : Nat) (nx2 : Nat) : Nat → Nat → sS → (Nat → Int32) → (Nat → Int64) → Option (Int32 × sS)
  | 0, _, _, _, _ => none
  | k + 1, 0, S, L, M => if okI (L 1) 32 = true then (if (S.2.1 2 (L 1 : Int32).toNatClampNeg) = (L 4) then (f_Mod_isTitle x2 nx2 k 1 S (upd L 100 (1 : Int32)) M) else (f_Mod_isTitle x2 nx2 k 1 S (upd L 100 (0 : Int32)) M)) else none
  | k + 1, 1, S, L, M => f_Mod_isTitle x2 nx2 k 2 S (upd (upd L 5 (L 100)) 6 (0 : Int32)) M
  | k + 1, 2, S, L, M => if (L 4) ≤ (L 6) then (f_Mod_isTitle x2 nx2 k 4 S L M) else (if (L 5) = (0 : Int32) then (f_Mod_isTitle x2 nx2 k 4 S L M) else (if okI (((64 : Int32) * (L 1)) + (L 6)) 2048 = true then (if okI ((L 3) + (L 6)) nx2 = true then (if (S.2.1 1 (((64 : Int32) * (L 1)) + (L 6) : Int32).toNatClampNeg) = (S.2.1 x2 ((L 3) + (L 6) : Int32).toNatClampNeg) then (f_Mod_isTitle x2 nx2 k 3 S (upd L 100 (1 : Int32)) M) else (f_Mod_isTitle x2 nx2 k 3 S (upd L 100 (0 : Int32)) M)) else none) else none))
  | k + 1, 3, S, L, M => f_Mod_isTitle x2 nx2 k 2 S (upd (upd L 5 (L 100)) 6 ((L 6) + 1)) M
  | k + 1, 4, S, L, M => if bz (L 5) = true then some (L 5, S) else none
  | _ + 1, _ + 5, _, _, _ => none
set_option maxHeartbeats 8000000 in
set_option maxRecDepth 100000 in
theorem w_Mod_isTitle {p : Program} {l : Launch} {e : Env} {R : Room} {s : State} {m : MethodId} {args : Array Value} {below : List Frame} {meth : Method} {c : Code} {cells slots : Nat} {Q : State → Prop} {g : gG} {A : Nat → Prop} {ad : Nat → Nat} (hx : p.tables.exec = Jvm.exec) (hb : c.code = b_Mod_isTitle) (hml : c.maxLocals = 7) (hown : s.vm.findClass "MacroMillModel" = some m.cls) (htt : ∀ w ∈ gt, w.before args s = true) (hK : va_K g.1 classes (tysG g) s) (hN : nw s) (hA : ∀ q : Nat, s.heap.size ≤ q → A q) (x2 : Nat) (nx2 : Nat) (hx2 : shM.2[x2]? = some (0, nx2)) (r : Int32) (S9 : sS)
    (kx_69 : ∀ (ls : Array Slot) (H : Heap) (locs : List Loc), narrow .boolean (.int r) = .int r → va_P g.1 classes (Sw shM g ad S9) H → va_D A (Sw shM g ad S9) → va_S A s.heap H locs → W p l e R s m args below meth c H locs cells slots Q (F0 m 69 ls [.int r])) :
    ∀ k9 : Nat, (∀ (S : sS) (L : Nat → Int32) (M : Nat → Int64) (ls : Array Slot) (H : Heap) (locs : List Loc), f_Mod_isTitle x2 nx2 k9 0 S L M = some (r, S9) → lv_has ls 7 [(0, .ref (ad 0)), (1, .int (L 1)), (2, .ref (ad (shM.1.length + x2))), (3, .int (L 3)), (4, .int (L 4))] → va_P g.1 classes (Sw shM g ad S) H → va_D A (Sw shM g ad S) → va_S A s.heap H locs → W p l e R s m args below meth c H locs cells slots Q (F0 m 0 ls [])) ∧ (∀ (S : sS) (L : Nat → Int32) (M : Nat → Int64) (ls : Array Slot) (H : Heap) (locs : List Loc), f_Mod_isTitle x2 nx2 k9 1 S L M = some (r, S9) → lv_has ls 7 [(0, .ref (ad 0)), (1, .int (L 1)), (2, .ref (ad (shM.1.length + x2))), (3, .int (L 3)), (4, .int (L 4))] → va_P g.1 classes (Sw shM g ad S) H → va_D A (Sw shM g ad S) → va_S A s.heap H locs → W p l e R s m args below meth c H locs cells slots Q (F0 m 16 ls [.int (L 100)])) ∧ (∀ (S : sS) (L : Nat → Int32) (M : Nat → Int64) (ls : Array Slot) (H : Heap) (locs : List Loc), f_Mod_isTitle x2 nx2 k9 2 S L M = some (r, S9) → lv_has ls 7 [(0, .ref (ad 0)), (1, .int (L 1)), (2, .ref (ad (shM.1.length + x2))), (3, .int (L 3)), (4, .int (L 4)), (5, .int (L 5)), (6, .int (L 6))] → va_P g.1 classes (Sw shM g ad S) H → va_D A (Sw shM g ad S) → va_S A s.heap H locs → W p l e R s m args below meth c H locs cells slots Q (F0 m 21 ls [])) ∧ (∀ (S : sS) (L : Nat → Int32) (M : Nat → Int64) (ls : Array Slot) (H : Heap) (locs : List Loc), f_Mod_isTitle x2 nx2 k9 3 S L M = some (r, S9) → lv_has ls 7 [(0, .ref (ad 0)), (1, .int (L 1)), (2, .ref (ad (shM.1.length + x2))), (3, .int (L 3)), (4, .int (L 4)), (5, .int (L 5)), (6, .int (L 6))] → va_P g.1 classes (Sw shM g ad S) H → va_D A (Sw shM g ad S) → va_S A s.heap H locs → W p l e R s m args below meth c H locs cells slots Q (F0 m 59 ls [.int (L 100)])) ∧ (∀ (S : sS) (L : Nat → Int32) (M : Nat → Int64) (ls : Array Slot) (H : Heap) (locs : List Loc), f_Mod_isTitle x2 nx2 k9 4 S L M = some (r, S9) → lv_has ls 7 [(0, .ref (ad 0)), (1, .int (L 1)), (2, .ref (ad (shM.1.length + x2))), (3, .int (L 3)), (4, .int (L 4)), (5, .int (L 5)), (6, .int (L 6))] → va_P g.1 classes (Sw shM g ad S) H → va_D A (Sw shM g ad S) → va_S A s.heap H locs → W p l e R s m args below meth c H locs cells slots Q (F0 m 67 ls [])) := by
  intro k9
  induction k9 with
  | zero => exact ⟨(fun _ _ _ _ _ _ h => by simp [f_Mod_isTitle] at h), (fun _ _ _ _ _ _ h => by simp [f_Mod_isTitle] at h), (fun _ _ _ _ _ _ h => by simp [f_Mod_isTitle] at h), (fun _ _ _ _ _ _ h => by simp [f_Mod_isTitle] at h), (fun _ _ _ _ _ _ h => by simp [f_Mod_isTitle] at h)⟩
  | succ k9 ih =>
    refine ⟨?_, ?_, ?_, ?_, ?_⟩
    · intro S L M ls H locs h hl hP hD hS
      simp only [f_Mod_isTitle] at h
      refine lv_aload_n hx hb d_Mod_isTitle_0 rfl (lv_at hl 0 rfl) ?_
      refine S_getR (h := shM) (C := "MacroMillModel") (T := F_Mod) hx hb htt in_Mod hown hK hP 0 5 rfl 3 rfl rfl (by decide) (htt _ k_2241) (fun _ h9 => h9) d_Mod_isTitle_1 ?_
      refine lv_iload_n hx hb d_Mod_isTitle_4 rfl (lv_at hl 1 rfl) ?_
      obtain ⟨hv1, h⟩ := chk h
      refine S_iald (h := shM) (i := L 1) hx hb hK hP 2 rfl (okI_in hv1) d_Mod_isTitle_5 ?_
      refine lv_iload hx hb d_Mod_isTitle_6 (lv_at hl 4 rfl) ?_
      refine lv_icmp_ne (tgt := 15) hx hb d_Mod_isTitle_8 (by decide) (fun hc2 => ?_) (fun hc2 => ?_)
      · rw [if_neg hc2] at h
        refine lv_iconst (v := 0) hx hb d_Mod_isTitle_15 (by decide) ?_
        exact (ih.2.1) S (upd L 100 (0 : Int32)) M ls H locs h (lv_sub hl [0, 1, 2, 3, 4] rfl) hP hD hS
      · rw [if_pos hc2] at h
        refine lv_iconst (v := 1) hx hb d_Mod_isTitle_11 (by decide) ?_
        refine lv_goto (tgt := 16) hx hb d_Mod_isTitle_12 (by decide) ?_
        exact (ih.2.1) S (upd L 100 (1 : Int32)) M ls H locs h (lv_sub hl [0, 1, 2, 3, 4] rfl) hP hD hS
    · intro S L M ls H locs h hl hP hD hS
      simp only [f_Mod_isTitle] at h
      refine lv_istore (lv' := [(5, .int (L 100)), (0, .ref (ad 0)), (1, .int (L 1)), (2, .ref (ad (shM.1.length + x2))), (3, .int (L 3)), (4, .int (L 4))]) hx hb d_Mod_isTitle_16 hl (by decide) rfl (fun ls hl => ?_)
      refine lv_iconst (v := 0) hx hb d_Mod_isTitle_18 (by decide) ?_
      refine lv_istore (lv' := [(6, .int 0), (5, .int (L 100)), (0, .ref (ad 0)), (1, .int (L 1)), (2, .ref (ad (shM.1.length + x2))), (3, .int (L 3)), (4, .int (L 4))]) hx hb d_Mod_isTitle_19 hl (by decide) rfl (fun ls hl => ?_)
      exact (ih.2.2.1) S (upd (upd L 5 (L 100)) 6 (0 : Int32)) M ls H locs h (lv_sub hl [2, 3, 4, 5, 6, 1, 0] rfl) hP hD hS
    · intro S L M ls H locs h hl hP hD hS
      simp only [f_Mod_isTitle] at h
      refine lv_iload hx hb d_Mod_isTitle_21 (lv_at hl 6 rfl) ?_
      refine lv_iload hx hb d_Mod_isTitle_23 (lv_at hl 4 rfl) ?_
      refine lv_icmp_ge (tgt := 67) hx hb d_Mod_isTitle_25 (by decide) (fun hc1 => ?_) (fun hc1 => ?_)
      · rw [if_pos hc1] at h
        exact (ih.2.2.2.2) S L M ls H locs h (lv_sub hl [0, 1, 2, 3, 4, 5, 6] rfl) hP hD hS
      · rw [if_neg hc1] at h
        refine lv_iload hx hb d_Mod_isTitle_28 (lv_at hl 5 rfl) ?_
        refine lv_if_eq (tgt := 67) hx hb d_Mod_isTitle_30 (by decide) (fun hc2 => ?_) (fun hc2 => ?_)
        · rw [if_pos hc2] at h
          exact (ih.2.2.2.2) S L M ls H locs h (lv_sub hl [0, 1, 2, 3, 4, 5, 6] rfl) hP hD hS
        · rw [if_neg hc2] at h
          refine lv_aload_n hx hb d_Mod_isTitle_33 rfl (lv_at hl 0 rfl) ?_
          refine S_getR (h := shM) (C := "MacroMillModel") (T := F_Mod) hx hb htt in_Mod hown hK hP 0 4 rfl 2 rfl rfl (by decide) (htt _ k_2240) (fun _ h9 => h9) d_Mod_isTitle_34 ?_
          refine lv_bipush (v := 64) hx hb d_Mod_isTitle_37 (by decide) ?_
          refine lv_iload_n hx hb d_Mod_isTitle_39 rfl (lv_at hl 1 rfl) ?_
          refine lv_imul hx hb d_Mod_isTitle_40 ?_
          refine lv_iload hx hb d_Mod_isTitle_41 (lv_at hl 6 rfl) ?_
          refine lv_iadd hx hb d_Mod_isTitle_43 ?_
          obtain ⟨hv3, h⟩ := chk h
          refine S_bald (h := shM) (i := ((64 : Int32) * (L 1)) + (L 6)) hx hb hK hP 1 rfl (okI_in hv3) d_Mod_isTitle_44 ?_
          show W _ _ _ _ _ _ _ _ _ _ _ _ _ _ _ (F0 _ 45 _ _)
          refine lv_aload_n hx hb d_Mod_isTitle_45 rfl (lv_at hl 2 rfl) ?_
          refine lv_iload_n hx hb d_Mod_isTitle_46 rfl (lv_at hl 3 rfl) ?_
          refine lv_iload hx hb d_Mod_isTitle_47 (lv_at hl 6 rfl) ?_
          refine lv_iadd hx hb d_Mod_isTitle_49 ?_
          obtain ⟨hv4, h⟩ := chk h
          refine S_bald (h := shM) (i := (L 3) + (L 6)) hx hb hK hP x2 hx2 (okI_in hv4) d_Mod_isTitle_50 ?_
          refine lv_icmp_ne (tgt := 58) hx hb d_Mod_isTitle_51 (by decide) (fun hc5 => ?_) (fun hc5 => ?_)
          · rw [if_neg hc5] at h
            refine lv_iconst (v := 0) hx hb d_Mod_isTitle_58 (by decide) ?_
            exact (ih.2.2.2.1) S (upd L 100 (0 : Int32)) M ls H locs h (lv_sub hl [0, 1, 2, 3, 4, 5, 6] rfl) hP hD hS
          · rw [if_pos hc5] at h
            refine lv_iconst (v := 1) hx hb d_Mod_isTitle_54 (by decide) ?_
            refine lv_goto (tgt := 59) hx hb d_Mod_isTitle_55 (by decide) ?_
            exact (ih.2.2.2.1) S (upd L 100 (1 : Int32)) M ls H locs h (lv_sub hl [0, 1, 2, 3, 4, 5, 6] rfl) hP hD hS
    · intro S L M ls H locs h hl hP hD hS
      simp only [f_Mod_isTitle] at h
      refine lv_istore (lv' := [(5, .int (L 100)), (0, .ref (ad 0)), (1, .int (L 1)), (2, .ref (ad (shM.1.length + x2))), (3, .int (L 3)), (4, .int (L 4)), (6, .int (L 6))]) hx hb d_Mod_isTitle_59 hl (by decide) rfl (fun ls hl => ?_)
      refine lv_iinc (k := 6) (v := (L 6) + 1) (lv' := [(6, .int ((L 6) + 1)), (5, .int (L 100)), (0, .ref (ad 0)), (1, .int (L 1)), (2, .ref (ad (shM.1.length + x2))), (3, .int (L 3)), (4, .int (L 4))]) hx hb d_Mod_isTitle_61 hl rfl rfl (by decide) rfl (fun ls hl => ?_)
      refine lv_goto (tgt := 21) hx hb d_Mod_isTitle_64 (by decide) ?_
      exact (ih.2.2.1) S (upd (upd L 5 (L 100)) 6 ((L 6) + 1)) M ls H locs h (lv_sub hl [2, 3, 4, 5, 6, 1, 0] rfl) hP hD hS
    · intro S L M ls H locs h hl hP hD hS
      simp only [f_Mod_isTitle] at h
      refine lv_iload hx hb d_Mod_isTitle_67 (lv_at hl 5 rfl) ?_
      obtain ⟨hv1, h⟩ := chk h
      cases h
      exact kx_69 ls H locs (bz_n hv1) hP hD hS
abbrev rm_t_Mod_isTitle : Room := { frames := 0, cells := 0, slots := 0, locals := 0 }
theorem t_Mod_isTitle (l : Launch) (g : gG) (sz : Nat) (ad : Nat → Nat) (S : sS) (x2 : Nat) (nx2 : Nat) (v1 : Int32) (v3 : Int32) (v4 : Int32) (hx2 : shM.2[x2]? = some (0, nx2)) (k : Nat) (r : Int32) (S9 : sS) (h : f_Mod_isTitle x2 nx2 k 0 S (upd (upd (upd (fun _ => 0) 1 v1) 3 v3) 4 v4) (fun _ => 0) = some (r, S9)) : Cz l y_Mod_isTitle b_Mod_isTitle 7 rm_t_Mod_isTitle g [.ref (ad 0), .int v1, .ref (ad (shM.1.length + x2)), .int v3, .int v4] (Sw shM g ad S) sz (fun r1 w => ∃ S1 : sS, w = Sw shM g ad S1 ∧ r1 = r ∧ S1 = S9) := by
  refine startZ (by decide) (Nat.le_of_ble_eq_true rfl) ?_
  intro p e s m below meth c A ls hx hb hr hml hlocks hmn hown htt hN hA hP hK hD hS hl
  exact (w_Mod_isTitle hx hb hml hown htt hK hN hA x2 nx2 hx2 r S9 (fun ls H locs hz hP hD hS => fin_z (g := g) (ws := Sw shM g ad S9) hx hb hr hlocks hz (by decide +kernel) (by decide +kernel) hP hD hS ⟨_, rfl, rfl, rfl⟩ d_Mod_isTitle_69) k).1 S (upd (upd (upd (fun _ => 0) 1 v1) 3 v3) 4 v4) (fun _ => 0) ls _ _ h hl hP hD hS
def f_Mod_file : Nat → Nat → sS → (Nat → Int32) → (Nat → Int64) → Option (Int32 × sS)
  | 0, _, _, _, _ => none
  | k + 1, 0, S, L, M => (f_Mod_use k 0 S (fun _ => 0) (fun _ => 0)).bind (fun (r1, T1) => if (L 1) < (1 : Int32) then (f_Mod_file k 1 T1 (upd L 2 r1) M) else (if (64 : Int32) < (L 1) then (f_Mod_file k 1 T1 (upd L 2 r1) M) else (if (L 1) ≤ r1 then (f_Mod_file k 2 T1 (upd (upd L 2 r1) 3 (0 : Int32)) M) else (f_Mod_file k 1 T1 (upd L 2 r1) M))))
  | k + 1, 1, S, L, M => some (((-1) : Int32), S)
  | k + 1, 2, S, L, M => if (S.1 0 3) ≤ (L 3) then (if (S.1 0 3) = (32 : Int32) then (f_Mod_file k 3 S L M) else (if (((S.1 0 9) + (L 2)) - (L 1)) ≤ (32768 : Int32) then (f_Mod_file k 4 S (upd L 3 (0 : Int32)) M) else (f_Mod_file k 3 S L M))) else ((f_Mod_isTitle 0 16384 k 0 S (upd (upd (upd (fun _ => 0) 1 (L 3 : Int32)) 3 (0 : Int32)) 4 (L 1 : Int32)) (fun _ => 0)).bind (fun (r4, T4) => if r4 = (0 : Int32) then (f_Mod_file k 2 T4 (upd L 3 ((L 3) + 1)) M) else (some (((-3) : Int32), T4))))
  | k + 1, 3, S, L, M => some (((-4) : Int32), S)
  | k + 1, 4, S, L, M => if (L 1) ≤ (L 3) then (if okI (S.1 0 3) 32 = true then (if okI (S.1 0 3) 32 = true then (if okI (S.1 0 3) 32 = true then (f_Mod_file k 5 (putA (putA (putA S 2 (S.1 0 3 : Int32).toNatClampNeg (L 1)) 4 (S.1 0 3 : Int32).toNatClampNeg (S.1 0 9)) 5 (S.1 0 3 : Int32).toNatClampNeg ((L 2) - (L 1))) (upd L 3 (L 1)) M) else none) else none) else none) else (if okI (L 3) 16384 = true then (if okI (((64 : Int32) * (S.1 0 3)) + (L 3)) 2048 = true then (f_Mod_file k 4 (putA S 1 (((64 : Int32) * (S.1 0 3)) + (L 3) : Int32).toNatClampNeg (vp_nar .byte (S.2.1 0 (L 3 : Int32).toNatClampNeg))) (upd L 3 ((L 3) + 1)) M) else none) else none)
  | k + 1, 5, S, L, M => if (L 2) ≤ (L 3) then (some (((S.1 0 3) + (1 : Int32)) - (1 : Int32), (putI S 0 3 ((S.1 0 3) + (1 : Int32))))) else (if okI (L 3) 16384 = true then (if okI (S.1 0 9) 32768 = true then (f_Mod_file k 5 (putI (putA S 3 (S.1 0 9 : Int32).toNatClampNeg (vp_nar .byte (S.2.1 0 (L 3 : Int32).toNatClampNeg))) 0 9 ((S.1 0 9) + (1 : Int32))) (upd L 3 ((L 3) + 1)) M) else none) else none)
  | _ + 1, _ + 6, _, _, _ => none
set_option maxHeartbeats 8000000 in
set_option maxRecDepth 100000 in
theorem w_Mod_file {p : Program} {l : Launch} {e : Env} {R : Room} {s : State} {m : MethodId} {args : Array Value} {below : List Frame} {meth : Method} {c : Code} {cells slots : Nat} {Q : State → Prop} {g : gG} {A : Nat → Prop} {ad : Nat → Nat} (hx : p.tables.exec = Jvm.exec) (hb : c.code = b_Mod_file) (hml : c.maxLocals = 4) (hown : s.vm.findClass "MacroMillModel" = some m.cls) (htt : ∀ w ∈ gt, w.before args s = true) (hK : va_K g.1 classes (tysG g) s) (hN : nw s) (hA : ∀ q : Nat, s.heap.size ≤ q → A q) (hRf : 1 ≤ R.frames) (hRl : 26 ≤ R.locals) (hRc : cells ≤ R.cells) (hRs : slots ≤ R.slots) (r : Int32) (S9 : sS)
    (kx_22 : ∀ (ls : Array Slot) (H : Heap) (locs : List Loc), va_P g.1 classes (Sw shM g ad S9) H → va_D A (Sw shM g ad S9) → va_S A s.heap H locs → W p l e R s m args below meth c H locs cells slots Q (F0 m 22 ls [.int r]))
    (kx_49 : ∀ (ls : Array Slot) (H : Heap) (locs : List Loc), va_P g.1 classes (Sw shM g ad S9) H → va_D A (Sw shM g ad S9) → va_S A s.heap H locs → W p l e R s m args below meth c H locs cells slots Q (F0 m 49 ls [.int r]))
    (kx_80 : ∀ (ls : Array Slot) (H : Heap) (locs : List Loc), va_P g.1 classes (Sw shM g ad S9) H → va_D A (Sw shM g ad S9) → va_S A s.heap H locs → W p l e R s m args below meth c H locs cells slots Q (F0 m 80 ls [.int r]))
    (kx_203 : ∀ (ls : Array Slot) (H : Heap) (locs : List Loc), va_P g.1 classes (Sw shM g ad S9) H → va_D A (Sw shM g ad S9) → va_S A s.heap H locs → W p l e R s m args below meth c H locs cells slots Q (F0 m 203 ls [.int r])) :
    ∀ k9 : Nat, (∀ (S : sS) (L : Nat → Int32) (M : Nat → Int64) (ls : Array Slot) (H : Heap) (locs : List Loc), f_Mod_file k9 0 S L M = some (r, S9) → lv_has ls 4 [(0, .ref (ad 0)), (1, .int (L 1))] → va_P g.1 classes (Sw shM g ad S) H → va_D A (Sw shM g ad S) → va_S A s.heap H locs → W p l e R s m args below meth c H locs cells slots Q (F0 m 0 ls [])) ∧ (∀ (S : sS) (L : Nat → Int32) (M : Nat → Int64) (ls : Array Slot) (H : Heap) (locs : List Loc), f_Mod_file k9 1 S L M = some (r, S9) → lv_has ls 4 [(0, .ref (ad 0)), (1, .int (L 1)), (2, .int (L 2))] → va_P g.1 classes (Sw shM g ad S) H → va_D A (Sw shM g ad S) → va_S A s.heap H locs → W p l e R s m args below meth c H locs cells slots Q (F0 m 21 ls [])) ∧ (∀ (S : sS) (L : Nat → Int32) (M : Nat → Int64) (ls : Array Slot) (H : Heap) (locs : List Loc), f_Mod_file k9 2 S L M = some (r, S9) → lv_has ls 4 [(0, .ref (ad 0)), (1, .int (L 1)), (2, .int (L 2)), (3, .int (L 3))] → va_P g.1 classes (Sw shM g ad S) H → va_D A (Sw shM g ad S) → va_S A s.heap H locs → W p l e R s m args below meth c H locs cells slots Q (F0 m 25 ls [])) ∧ (∀ (S : sS) (L : Nat → Int32) (M : Nat → Int64) (ls : Array Slot) (H : Heap) (locs : List Loc), f_Mod_file k9 3 S L M = some (r, S9) → lv_has ls 4 [(0, .ref (ad 0)), (1, .int (L 1)), (2, .int (L 2)), (3, .int (L 3))] → va_P g.1 classes (Sw shM g ad S) H → va_D A (Sw shM g ad S) → va_S A s.heap H locs → W p l e R s m args below meth c H locs cells slots Q (F0 m 78 ls [])) ∧ (∀ (S : sS) (L : Nat → Int32) (M : Nat → Int64) (ls : Array Slot) (H : Heap) (locs : List Loc), f_Mod_file k9 4 S L M = some (r, S9) → lv_has ls 4 [(0, .ref (ad 0)), (1, .int (L 1)), (2, .int (L 2)), (3, .int (L 3))] → va_P g.1 classes (Sw shM g ad S) H → va_D A (Sw shM g ad S) → va_S A s.heap H locs → W p l e R s m args below meth c H locs cells slots Q (F0 m 83 ls [])) ∧ (∀ (S : sS) (L : Nat → Int32) (M : Nat → Int64) (ls : Array Slot) (H : Heap) (locs : List Loc), f_Mod_file k9 5 S L M = some (r, S9) → lv_has ls 4 [(0, .ref (ad 0)), (1, .int (L 1)), (2, .int (L 2)), (3, .int (L 3))] → va_P g.1 classes (Sw shM g ad S) H → va_D A (Sw shM g ad S) → va_S A s.heap H locs → W p l e R s m args below meth c H locs cells slots Q (F0 m 151 ls [])) := by
  intro k9
  induction k9 with
  | zero => exact ⟨(fun _ _ _ _ _ _ h => by simp [f_Mod_file] at h), (fun _ _ _ _ _ _ h => by simp [f_Mod_file] at h), (fun _ _ _ _ _ _ h => by simp [f_Mod_file] at h), (fun _ _ _ _ _ _ h => by simp [f_Mod_file] at h), (fun _ _ _ _ _ _ h => by simp [f_Mod_file] at h), (fun _ _ _ _ _ _ h => by simp [f_Mod_file] at h)⟩
  | succ k9 ih =>
    refine ⟨?_, ?_, ?_, ?_, ?_, ?_⟩
    · intro S L M ls H locs h hl hP hD hS
      simp only [f_Mod_file] at h
      refine lv_aload_n hx hb d_Mod_file_0 rfl (lv_at hl 0 rfl) ?_
      obtain ⟨⟨r1, T1⟩, hq1, h⟩ := Option.bind_eq_some_iff.mp h
      try dsimp only at h
      refine go_iS (As := [.ref (ad 0)]) (g := g) (A := A) (h := shM) hP hK hD hS hA hN (fun hp => va_runV (As := []) (rest := []) ⟨hx, hb, hml, hown, htt⟩ (t_Mod_use l g _ ad S k9 r1 T1 hq1) ⟨(cb_L htt k_2688 k_276 k_2685 hd_Mod_use ⟨(Nat.le_trans (by decide +kernel) hRf), (Nat.le_trans (by decide +kernel) hRl)⟩), htt _ k_2687, htt _ k_127⟩ ⟨hp.1, S_recv hK hP 0 rfl rfl, hp.2⟩ rfl rfl hl.1 rfl (lv_room (Nat.le_of_ble_eq_true rfl)) d_Mod_file_1 ⟨hRc, hRs⟩) (fun r0 Sn H locs hw9 hP hD hS => ?_)
      obtain ⟨e9, e8⟩ := hw9
      rw [e8] at hP hD
      refine W.widen (k := cells) (n := slots) (Nat.le_refl _) (Nat.le_refl _) ?_
      refine toI (y := r1) e9 ?_
      refine lv_istore_n (lv' := [(2, .int r1), (0, .ref (ad 0)), (1, .int (L 1))]) hx hb d_Mod_file_4 rfl hl (by decide) rfl (fun ls hl => ?_)
      refine lv_iload_n hx hb d_Mod_file_5 rfl (lv_at hl 2 rfl) ?_
      refine lv_iconst (v := 1) hx hb d_Mod_file_6 (by decide) ?_
      refine lv_icmp_lt (tgt := 21) hx hb d_Mod_file_7 (by decide) (fun hc2 => ?_) (fun hc2 => ?_)
      · rw [if_pos hc2] at h
        exact (ih.2.1) T1 (upd L 2 r1) M ls H locs h (lv_sub hl [1, 2, 0] rfl) hP hD hS
      · rw [if_neg hc2] at h
        refine lv_iload_n hx hb d_Mod_file_10 rfl (lv_at hl 2 rfl) ?_
        refine lv_bipush (v := 64) hx hb d_Mod_file_11 (by decide) ?_
        refine lv_icmp_gt (tgt := 21) hx hb d_Mod_file_13 (by decide) (fun hc3 => ?_) (fun hc3 => ?_)
        · rw [if_pos hc3] at h
          exact (ih.2.1) T1 (upd L 2 r1) M ls H locs h (lv_sub hl [1, 2, 0] rfl) hP hD hS
        · rw [if_neg hc3] at h
          refine lv_iload_n hx hb d_Mod_file_16 rfl (lv_at hl 2 rfl) ?_
          refine lv_iload_n hx hb d_Mod_file_17 rfl (lv_at hl 0 rfl) ?_
          refine lv_icmp_le (tgt := 23) hx hb d_Mod_file_18 (by decide) (fun hc4 => ?_) (fun hc4 => ?_)
          · rw [if_pos hc4] at h
            refine lv_iconst (v := 0) hx hb d_Mod_file_23 (by decide) ?_
            refine lv_istore_n (lv' := [(3, .int 0), (2, .int r1), (0, .ref (ad 0)), (1, .int (L 1))]) hx hb d_Mod_file_24 rfl hl (by decide) rfl (fun ls hl => ?_)
            exact (ih.2.2.1) T1 (upd (upd L 2 r1) 3 (0 : Int32)) M ls H locs h (lv_sub hl [2, 3, 1, 0] rfl) hP hD hS
          · rw [if_neg hc4] at h
            exact (ih.2.1) T1 (upd L 2 r1) M ls H locs h (lv_sub hl [1, 2, 0] rfl) hP hD hS
    · intro S L M ls H locs h hl hP hD hS
      simp only [f_Mod_file] at h
      refine lv_iconst (v := (-1)) hx hb d_Mod_file_21 (by decide) ?_
      cases h
      exact kx_22 ls H locs hP hD hS
    · intro S L M ls H locs h hl hP hD hS
      simp only [f_Mod_file] at h
      refine lv_iload_n hx hb d_Mod_file_25 rfl (lv_at hl 3 rfl) ?_
      refine lv_aload_n hx hb d_Mod_file_26 rfl (lv_at hl 0 rfl) ?_
      refine S_getI (h := shM) (C := "MacroMillModel") (T := F_Mod) hx hb htt in_Mod hown hK hP 0 3 rfl rfl rfl (by decide) (htt _ k_2239) (fun _ h9 => h9) d_Mod_file_27 ?_
      refine lv_icmp_ge (tgt := 56) hx hb d_Mod_file_30 (by decide) (fun hc1 => ?_) (fun hc1 => ?_)
      · rw [if_pos hc1] at h
        refine lv_aload_n hx hb d_Mod_file_56 rfl (lv_at hl 0 rfl) ?_
        refine S_getI (h := shM) (C := "MacroMillModel") (T := F_Mod) hx hb htt in_Mod hown hK hP 0 3 rfl rfl rfl (by decide) (htt _ k_2239) (fun _ h9 => h9) d_Mod_file_57 ?_
        refine lv_bipush (v := 32) hx hb d_Mod_file_60 (by decide) ?_
        refine lv_icmp_eq (tgt := 78) hx hb d_Mod_file_62 (by decide) (fun hc2 => ?_) (fun hc2 => ?_)
        · rw [if_pos hc2] at h
          exact (ih.2.2.2.1) S L M ls H locs h (lv_sub hl [0, 1, 2, 3] rfl) hP hD hS
        · rw [if_neg hc2] at h
          refine lv_aload_n hx hb d_Mod_file_65 rfl (lv_at hl 0 rfl) ?_
          refine S_getI (h := shM) (C := "MacroMillModel") (T := F_Mod) hx hb htt in_Mod hown hK hP 0 9 rfl rfl rfl (by decide) (htt _ k_2245) (fun _ h9 => h9) d_Mod_file_66 ?_
          refine lv_iload_n hx hb d_Mod_file_69 rfl (lv_at hl 2 rfl) ?_
          refine lv_iadd hx hb d_Mod_file_70 ?_
          refine lv_iload_n hx hb d_Mod_file_71 rfl (lv_at hl 1 rfl) ?_
          show W _ _ _ _ _ _ _ _ _ _ _ _ _ _ _ (F0 _ 72 _ _)
          refine lv_isub hx hb d_Mod_file_72 ?_
          refine lv_ldc (v := 32768) hx hb hown (htt _ k_2229) d_Mod_file_73 ?_
          refine lv_icmp_le (tgt := 81) hx hb d_Mod_file_75 (by decide) (fun hc3 => ?_) (fun hc3 => ?_)
          · rw [if_pos hc3] at h
            refine lv_iconst (v := 0) hx hb d_Mod_file_81 (by decide) ?_
            refine lv_istore_n (lv' := [(3, .int 0), (0, .ref (ad 0)), (1, .int (L 1)), (2, .int (L 2))]) hx hb d_Mod_file_82 rfl hl (by decide) rfl (fun ls hl => ?_)
            exact (ih.2.2.2.2.1) S (upd L 3 (0 : Int32)) M ls H locs h (lv_sub hl [1, 2, 3, 0] rfl) hP hD hS
          · rw [if_neg hc3] at h
            exact (ih.2.2.2.1) S L M ls H locs h (lv_sub hl [0, 1, 2, 3] rfl) hP hD hS
      · rw [if_neg hc1] at h
        refine lv_aload_n hx hb d_Mod_file_33 rfl (lv_at hl 0 rfl) ?_
        refine lv_iload_n hx hb d_Mod_file_34 rfl (lv_at hl 3 rfl) ?_
        refine lv_aload_n hx hb d_Mod_file_35 rfl (lv_at hl 0 rfl) ?_
        refine S_getR (h := shM) (C := "MacroMillModel") (T := F_Mod) hx hb htt in_Mod hown hK hP 0 0 rfl 1 rfl rfl (by decide) (htt _ k_2236) (fun _ h9 => h9) d_Mod_file_36 ?_
        refine lv_iconst (v := 0) hx hb d_Mod_file_39 (by decide) ?_
        refine lv_iload_n hx hb d_Mod_file_40 rfl (lv_at hl 1 rfl) ?_
        obtain ⟨⟨r4, T4⟩, hq4, h⟩ := Option.bind_eq_some_iff.mp h
        try dsimp only at h
        refine go_iS (As := [.ref (ad 0), .int (L 3), .ref (ad 1), .int 0, .int (L 1)]) (g := g) (A := A) (h := shM) hP hK hD hS hA hN (fun hp => va_runV (As := [.int (L 3), .ref (ad 1), .int 0, .int (L 1)]) (rest := []) ⟨hx, hb, hml, hown, htt⟩ (t_Mod_isTitle l g _ ad S 0 16384 (L 3 : Int32) (0 : Int32) (L 1 : Int32) rfl k9 r4 T4 hq4) ⟨(cb_L htt k_2692 k_276 k_2689 hd_Mod_isTitle ⟨(Nat.le_trans (by decide +kernel) hRf), (Nat.le_trans (by decide +kernel) hRl)⟩), htt _ k_2691, htt _ k_128⟩ ⟨hp.1, S_recv hK hP 0 rfl rfl, hp.2⟩ rfl rfl hl.1 rfl (lv_room (Nat.le_of_ble_eq_true rfl)) d_Mod_file_41 ⟨hRc, hRs⟩) (fun r0 Sn H locs hw9 hP hD hS => ?_)
        obtain ⟨e9, e8⟩ := hw9
        rw [e8] at hP hD
        refine W.widen (k := cells) (n := slots) (Nat.le_refl _) (Nat.le_refl _) ?_
        refine toI (y := r4) e9 ?_
        refine lv_if_eq (tgt := 50) hx hb d_Mod_file_44 (by decide) (fun hc5 => ?_) (fun hc5 => ?_)
        · rw [if_pos hc5] at h
          refine lv_iinc (k := 3) (v := (L 3) + 1) (lv' := [(3, .int ((L 3) + 1)), (0, .ref (ad 0)), (1, .int (L 1)), (2, .int (L 2))]) hx hb d_Mod_file_50 hl rfl rfl (by decide) rfl (fun ls hl => ?_)
          refine lv_goto (tgt := 25) hx hb d_Mod_file_53 (by decide) ?_
          exact (ih.2.2.1) T4 (upd L 3 ((L 3) + 1)) M ls H locs h (lv_sub hl [1, 2, 3, 0] rfl) hP hD hS
        · rw [if_neg hc5] at h
          refine lv_bipush (v := (-3)) hx hb d_Mod_file_47 (by decide) ?_
          cases h
          exact kx_49 ls H locs hP hD hS
    · intro S L M ls H locs h hl hP hD hS
      simp only [f_Mod_file] at h
      refine lv_bipush (v := (-4)) hx hb d_Mod_file_78 (by decide) ?_
      cases h
      exact kx_80 ls H locs hP hD hS
    · intro S L M ls H locs h hl hP hD hS
      simp only [f_Mod_file] at h
      refine lv_iload_n hx hb d_Mod_file_83 rfl (lv_at hl 3 rfl) ?_
      refine lv_iload_n hx hb d_Mod_file_84 rfl (lv_at hl 1 rfl) ?_
      refine lv_icmp_ge (tgt := 114) hx hb d_Mod_file_85 (by decide) (fun hc1 => ?_) (fun hc1 => ?_)
      · rw [if_pos hc1] at h
        refine lv_aload_n hx hb d_Mod_file_114 rfl (lv_at hl 0 rfl) ?_
        refine S_getR (h := shM) (C := "MacroMillModel") (T := F_Mod) hx hb htt in_Mod hown hK hP 0 5 rfl 3 rfl rfl (by decide) (htt _ k_2241) (fun _ h9 => h9) d_Mod_file_115 ?_
        refine lv_aload_n hx hb d_Mod_file_118 rfl (lv_at hl 0 rfl) ?_
        refine S_getI (h := shM) (C := "MacroMillModel") (T := F_Mod) hx hb htt in_Mod hown hK hP 0 3 rfl rfl rfl (by decide) (htt _ k_2239) (fun _ h9 => h9) d_Mod_file_119 ?_
        refine lv_iload_n hx hb d_Mod_file_122 rfl (lv_at hl 1 rfl) ?_
        obtain ⟨hv2, h⟩ := chk h
        refine S_iast (h := shM) (i := S.1 0 3) (v := L 1) hx hb hK hP hD hS 2 rfl (okI_in hv2) d_Mod_file_123 (fun H locs hP hD hS => ?_)
        refine lv_aload_n hx hb d_Mod_file_124 rfl (lv_at hl 0 rfl) ?_
        refine S_getR (h := shM) (C := "MacroMillModel") (T := F_Mod) hx hb htt in_Mod hown hK hP 0 7 rfl 5 rfl rfl (by decide) (htt _ k_2243) (fun _ h9 => h9) d_Mod_file_125 ?_
        refine lv_aload_n hx hb d_Mod_file_128 rfl (lv_at hl 0 rfl) ?_
        show W _ _ _ _ _ _ _ _ _ _ _ _ _ _ _ (F0 _ 129 _ _)
        refine S_getI (h := shM) (C := "MacroMillModel") (T := F_Mod) hx hb htt in_Mod hown hK hP 0 3 rfl rfl rfl (by decide) (htt _ k_2239) (fun _ h9 => h9) d_Mod_file_129 ?_
        refine toI (y := S.1 0 3) rfl ?_
        refine lv_aload_n hx hb d_Mod_file_132 rfl (lv_at hl 0 rfl) ?_
        refine S_getI (h := shM) (C := "MacroMillModel") (T := F_Mod) hx hb htt in_Mod hown hK hP 0 9 rfl rfl rfl (by decide) (htt _ k_2245) (fun _ h9 => h9) d_Mod_file_133 ?_
        refine toI (y := S.1 0 9) rfl ?_
        obtain ⟨hv3, h⟩ := chk h
        refine S_iast (h := shM) (i := S.1 0 3) (v := S.1 0 9) hx hb hK hP hD hS 4 rfl (okI_in hv3) d_Mod_file_136 (fun H locs hP hD hS => ?_)
        refine lv_aload_n hx hb d_Mod_file_137 rfl (lv_at hl 0 rfl) ?_
        refine S_getR (h := shM) (C := "MacroMillModel") (T := F_Mod) hx hb htt in_Mod hown hK hP 0 8 rfl 6 rfl rfl (by decide) (htt _ k_2244) (fun _ h9 => h9) d_Mod_file_138 ?_
        refine lv_aload_n hx hb d_Mod_file_141 rfl (lv_at hl 0 rfl) ?_
        refine S_getI (h := shM) (C := "MacroMillModel") (T := F_Mod) hx hb htt in_Mod hown hK hP 0 3 rfl rfl rfl (by decide) (htt _ k_2239) (fun _ h9 => h9) d_Mod_file_142 ?_
        refine toI (y := S.1 0 3) rfl ?_
        refine lv_iload_n hx hb d_Mod_file_145 rfl (lv_at hl 2 rfl) ?_
        refine lv_iload_n hx hb d_Mod_file_146 rfl (lv_at hl 1 rfl) ?_
        refine lv_isub hx hb d_Mod_file_147 ?_
        obtain ⟨hv4, h⟩ := chk h
        refine S_iast (h := shM) (i := S.1 0 3) (v := (L 2) - (L 1)) hx hb hK hP hD hS 5 rfl (okI_in hv4) d_Mod_file_148 (fun H locs hP hD hS => ?_)
        show W _ _ _ _ _ _ _ _ _ _ _ _ _ _ _ (F0 _ 149 _ _)
        refine lv_iload_n hx hb d_Mod_file_149 rfl (lv_at hl 1 rfl) ?_
        refine lv_istore_n (lv' := [(3, .int (L 1)), (0, .ref (ad 0)), (1, .int (L 1)), (2, .int (L 2))]) hx hb d_Mod_file_150 rfl hl (by decide) rfl (fun ls hl => ?_)
        exact (ih.2.2.2.2.2) (putA (putA (putA S 2 (S.1 0 3 : Int32).toNatClampNeg (L 1)) 4 (S.1 0 3 : Int32).toNatClampNeg (S.1 0 9)) 5 (S.1 0 3 : Int32).toNatClampNeg ((L 2) - (L 1))) (upd L 3 (L 1)) M ls H locs h (lv_sub hl [1, 2, 3, 0] rfl) hP hD hS
      · rw [if_neg hc1] at h
        refine lv_aload_n hx hb d_Mod_file_88 rfl (lv_at hl 0 rfl) ?_
        refine S_getR (h := shM) (C := "MacroMillModel") (T := F_Mod) hx hb htt in_Mod hown hK hP 0 4 rfl 2 rfl rfl (by decide) (htt _ k_2240) (fun _ h9 => h9) d_Mod_file_89 ?_
        refine lv_bipush (v := 64) hx hb d_Mod_file_92 (by decide) ?_
        refine lv_aload_n hx hb d_Mod_file_94 rfl (lv_at hl 0 rfl) ?_
        refine S_getI (h := shM) (C := "MacroMillModel") (T := F_Mod) hx hb htt in_Mod hown hK hP 0 3 rfl rfl rfl (by decide) (htt _ k_2239) (fun _ h9 => h9) d_Mod_file_95 ?_
        refine lv_imul hx hb d_Mod_file_98 ?_
        refine lv_iload_n hx hb d_Mod_file_99 rfl (lv_at hl 3 rfl) ?_
        refine lv_iadd hx hb d_Mod_file_100 ?_
        refine lv_aload_n hx hb d_Mod_file_101 rfl (lv_at hl 0 rfl) ?_
        show W _ _ _ _ _ _ _ _ _ _ _ _ _ _ _ (F0 _ 102 _ _)
        refine S_getR (h := shM) (C := "MacroMillModel") (T := F_Mod) hx hb htt in_Mod hown hK hP 0 0 rfl 1 rfl rfl (by decide) (htt _ k_2236) (fun _ h9 => h9) d_Mod_file_102 ?_
        refine lv_iload_n hx hb d_Mod_file_105 rfl (lv_at hl 3 rfl) ?_
        obtain ⟨hv5, h⟩ := chk h
        refine S_bald (h := shM) (i := L 3) hx hb hK hP 0 rfl (okI_in hv5) d_Mod_file_106 ?_
        obtain ⟨hv6, h⟩ := chk h
        refine S_bast (h := shM) (i := ((64 : Int32) * (S.1 0 3)) + (L 3)) (v := S.2.1 0 (L 3 : Int32).toNatClampNeg) hx hb hK hP hD hS 1 rfl (okI_in hv6) d_Mod_file_107 (fun H locs hP hD hS => ?_)
        refine lv_iinc (k := 3) (v := (L 3) + 1) (lv' := [(3, .int ((L 3) + 1)), (0, .ref (ad 0)), (1, .int (L 1)), (2, .int (L 2))]) hx hb d_Mod_file_108 hl rfl rfl (by decide) rfl (fun ls hl => ?_)
        refine lv_goto (tgt := 83) hx hb d_Mod_file_111 (by decide) ?_
        exact (ih.2.2.2.2.1) (putA S 1 (((64 : Int32) * (S.1 0 3)) + (L 3) : Int32).toNatClampNeg (vp_nar .byte (S.2.1 0 (L 3 : Int32).toNatClampNeg))) (upd L 3 ((L 3) + 1)) M ls H locs h (lv_sub hl [1, 2, 3, 0] rfl) hP hD hS
    · intro S L M ls H locs h hl hP hD hS
      simp only [f_Mod_file] at h
      refine lv_iload_n hx hb d_Mod_file_151 rfl (lv_at hl 3 rfl) ?_
      refine lv_iload_n hx hb d_Mod_file_152 rfl (lv_at hl 2 rfl) ?_
      refine lv_icmp_ge (tgt := 187) hx hb d_Mod_file_153 (by decide) (fun hc1 => ?_) (fun hc1 => ?_)
      · rw [if_pos hc1] at h
        refine lv_aload_n hx hb d_Mod_file_187 rfl (lv_at hl 0 rfl) ?_
        refine lv_dup hx hb d_Mod_file_188 rfl ?_
        refine S_getI (h := shM) (C := "MacroMillModel") (T := F_Mod) hx hb htt in_Mod hown hK hP 0 3 rfl rfl rfl (by decide) (htt _ k_2239) (fun _ h9 => h9) d_Mod_file_189 ?_
        refine lv_iconst (v := 1) hx hb d_Mod_file_192 (by decide) ?_
        refine lv_iadd hx hb d_Mod_file_193 ?_
        refine S_put (h := shM) (C := "MacroMillModel") (T := F_Mod) (v := (S.1 0 3) + (1 : Int32)) hx hb htt in_Mod t_Mod t_Mod_ok n_Mod hown hK hP hD hS 0 3 rfl rfl rfl (by decide) (htt _ k_2239) (fun _ h9 => h9) rfl rfl rfl d_Mod_file_194 (fun H locs hP hD hS => ?_)
        refine lv_aload_n hx hb d_Mod_file_197 rfl (lv_at hl 0 rfl) ?_
        refine S_getI (h := shM) (C := "MacroMillModel") (T := F_Mod) hx hb htt in_Mod hown hK hP 0 3 rfl rfl rfl (by decide) (htt _ k_2239) (fun _ h9 => h9) d_Mod_file_198 ?_
        refine toI (y := (S.1 0 3) + (1 : Int32)) rfl ?_
        refine lv_iconst (v := 1) hx hb d_Mod_file_201 (by decide) ?_
        show W _ _ _ _ _ _ _ _ _ _ _ _ _ _ _ (F0 _ 202 _ _)
        refine lv_isub hx hb d_Mod_file_202 ?_
        cases h
        exact kx_203 ls H locs hP hD hS
      · rw [if_neg hc1] at h
        refine lv_aload_n hx hb d_Mod_file_156 rfl (lv_at hl 0 rfl) ?_
        refine S_getR (h := shM) (C := "MacroMillModel") (T := F_Mod) hx hb htt in_Mod hown hK hP 0 6 rfl 4 rfl rfl (by decide) (htt _ k_2242) (fun _ h9 => h9) d_Mod_file_157 ?_
        refine lv_aload_n hx hb d_Mod_file_160 rfl (lv_at hl 0 rfl) ?_
        refine S_getI (h := shM) (C := "MacroMillModel") (T := F_Mod) hx hb htt in_Mod hown hK hP 0 9 rfl rfl rfl (by decide) (htt _ k_2245) (fun _ h9 => h9) d_Mod_file_161 ?_
        refine lv_aload_n hx hb d_Mod_file_164 rfl (lv_at hl 0 rfl) ?_
        refine S_getR (h := shM) (C := "MacroMillModel") (T := F_Mod) hx hb htt in_Mod hown hK hP 0 0 rfl 1 rfl rfl (by decide) (htt _ k_2236) (fun _ h9 => h9) d_Mod_file_165 ?_
        refine lv_iload_n hx hb d_Mod_file_168 rfl (lv_at hl 3 rfl) ?_
        obtain ⟨hv2, h⟩ := chk h
        refine S_bald (h := shM) (i := L 3) hx hb hK hP 0 rfl (okI_in hv2) d_Mod_file_169 ?_
        obtain ⟨hv3, h⟩ := chk h
        refine S_bast (h := shM) (i := S.1 0 9) (v := S.2.1 0 (L 3 : Int32).toNatClampNeg) hx hb hK hP hD hS 3 rfl (okI_in hv3) d_Mod_file_170 (fun H locs hP hD hS => ?_)
        show W _ _ _ _ _ _ _ _ _ _ _ _ _ _ _ (F0 _ 171 _ _)
        refine lv_aload_n hx hb d_Mod_file_171 rfl (lv_at hl 0 rfl) ?_
        refine lv_dup hx hb d_Mod_file_172 rfl ?_
        refine S_getI (h := shM) (C := "MacroMillModel") (T := F_Mod) hx hb htt in_Mod hown hK hP 0 9 rfl rfl rfl (by decide) (htt _ k_2245) (fun _ h9 => h9) d_Mod_file_173 ?_
        refine toI (y := S.1 0 9) rfl ?_
        refine lv_iconst (v := 1) hx hb d_Mod_file_176 (by decide) ?_
        refine lv_iadd hx hb d_Mod_file_177 ?_
        refine S_put (h := shM) (C := "MacroMillModel") (T := F_Mod) (v := (S.1 0 9) + (1 : Int32)) hx hb htt in_Mod t_Mod t_Mod_ok n_Mod hown hK hP hD hS 0 9 rfl rfl rfl (by decide) (htt _ k_2245) (fun _ h9 => h9) rfl rfl rfl d_Mod_file_178 (fun H locs hP hD hS => ?_)
        refine lv_iinc (k := 3) (v := (L 3) + 1) (lv' := [(3, .int ((L 3) + 1)), (0, .ref (ad 0)), (1, .int (L 1)), (2, .int (L 2))]) hx hb d_Mod_file_181 hl rfl rfl (by decide) rfl (fun ls hl => ?_)
        refine lv_goto (tgt := 151) hx hb d_Mod_file_184 (by decide) ?_
        exact (ih.2.2.2.2.2) (putI (putA S 3 (S.1 0 9 : Int32).toNatClampNeg (vp_nar .byte (S.2.1 0 (L 3 : Int32).toNatClampNeg))) 0 9 ((S.1 0 9) + (1 : Int32))) (upd L 3 ((L 3) + 1)) M ls H locs h (lv_sub hl [1, 2, 3, 0] rfl) hP hD hS
abbrev rm_t_Mod_file : Room := { frames := 1, cells := 0, slots := 0, locals := 26 }
theorem t_Mod_file (l : Launch) (g : gG) (sz : Nat) (ad : Nat → Nat) (S : sS) (v1 : Int32) (k : Nat) (r : Int32) (S9 : sS) (h : f_Mod_file k 0 S (upd (fun _ => 0) 1 v1) (fun _ => 0) = some (r, S9)) : Ci l y_Mod_file b_Mod_file 4 rm_t_Mod_file g [.ref (ad 0), .int v1] (Sw shM g ad S) sz (fun r1 w => ∃ S1 : sS, w = Sw shM g ad S1 ∧ r1 = r ∧ S1 = S9) := by
  refine startI (by decide) (Nat.le_of_ble_eq_true rfl) ?_
  intro p e s m below meth c A ls hx hb hr hml hlocks hmn hown htt hN hA hP hK hD hS hl
  exact (w_Mod_file hx hb hml hown htt hK hN hA (by decide +kernel) (by decide +kernel) (by decide +kernel) (by decide +kernel) r S9 (fun ls H locs hP hD hS => fin_i (g := g) (ws := Sw shM g ad S9) hx hb hr hlocks (by decide +kernel) (by decide +kernel) hP hD hS ⟨_, rfl, rfl, rfl⟩ d_Mod_file_22) (fun ls H locs hP hD hS => fin_i (g := g) (ws := Sw shM g ad S9) hx hb hr hlocks (by decide +kernel) (by decide +kernel) hP hD hS ⟨_, rfl, rfl, rfl⟩ d_Mod_file_49) (fun ls H locs hP hD hS => fin_i (g := g) (ws := Sw shM g ad S9) hx hb hr hlocks (by decide +kernel) (by decide +kernel) hP hD hS ⟨_, rfl, rfl, rfl⟩ d_Mod_file_80) (fun ls H locs hP hD hS => fin_i (g := g) (ws := Sw shM g ad S9) hx hb hr hlocks (by decide +kernel) (by decide +kernel) hP hD hS ⟨_, rfl, rfl, rfl⟩ d_Mod_file_203) k).1 S (upd (fun _ => 0) 1 v1) (fun _ => 0) ls _ _ h hl hP hD hS
def f_Mod_write : Nat → Nat → sS → (Nat → Int32) → (Nat → Int64) → Option (Int32 × sS)
  | 0, _, _, _, _ => none
  | k + 1, 0, S, L, M => (f_Mod_use k 0 S (fun _ => 0) (fun _ => 0)).bind (fun (r1, T1) => if (L 1) < (0 : Int32) then (f_Mod_write k 1 T1 (upd L 2 r1) M) else (if (L 1) < (T1.1 0 3) then (if ((T1.1 0 9) + r1) ≤ (32768 : Int32) then (if okI (L 1) 32 = true then (if okI (L 1) 32 = true then (f_Mod_write k 2 T1 (upd (upd (upd L 2 r1) 3 ((T1.2.1 4 (L 1 : Int32).toNatClampNeg) + (T1.2.1 5 (L 1 : Int32).toNatClampNeg))) 4 ((T1.1 0 9) - (1 : Int32))) M) else none) else none) else (some (((-4) : Int32), T1))) else (f_Mod_write k 1 T1 (upd L 2 r1) M)))
  | k + 1, 1, S, L, M => some (((-1) : Int32), S)
  | k + 1, 2, S, L, M => if (L 4) < (L 3) then (f_Mod_write k 3 S (upd L 4 (0 : Int32)) M) else (if okI (L 4) 32768 = true then (if okI ((L 4) + (L 2)) 32768 = true then (f_Mod_write k 2 (putA S 3 ((L 4) + (L 2) : Int32).toNatClampNeg (vp_nar .byte (S.2.1 3 (L 4 : Int32).toNatClampNeg))) (upd L 4 ((L 4) + (-1))) M) else none) else none)
  | k + 1, 3, S, L, M => if (L 2) ≤ (L 4) then (f_Mod_write k 4 S (upd L 4 ((L 1) + (1 : Int32))) M) else (if okI (L 4) 16384 = true then (if okI ((L 3) + (L 4)) 32768 = true then (f_Mod_write k 3 (putA S 3 ((L 3) + (L 4) : Int32).toNatClampNeg (vp_nar .byte (S.2.1 0 (L 4 : Int32).toNatClampNeg))) (upd L 4 ((L 4) + 1)) M) else none) else none)
  | k + 1, 4, S, L, M => if (S.1 0 3) ≤ (L 4) then (if okI (L 1) 32 = true then (if okI (L 1) 32 = true then (if okI (L 1) 32 = true then (some ((putI (putA S 5 (L 1 : Int32).toNatClampNeg ((S.2.1 5 (L 1 : Int32).toNatClampNeg) + (L 2))) 0 9 ((S.1 0 9) + (L 2))).2.1 5 (L 1 : Int32).toNatClampNeg, (putI (putA S 5 (L 1 : Int32).toNatClampNeg ((S.2.1 5 (L 1 : Int32).toNatClampNeg) + (L 2))) 0 9 ((S.1 0 9) + (L 2))))) else none) else none) else none) else (if okI (L 4) 32 = true then (if okI (L 4) 32 = true then (f_Mod_write k 4 (putA S 4 (L 4 : Int32).toNatClampNeg ((S.2.1 4 (L 4 : Int32).toNatClampNeg) + (L 2))) (upd L 4 ((L 4) + 1)) M) else none) else none)
  | _ + 1, _ + 5, _, _, _ => none
set_option maxHeartbeats 8000000 in
set_option maxRecDepth 100000 in
theorem w_Mod_write {p : Program} {l : Launch} {e : Env} {R : Room} {s : State} {m : MethodId} {args : Array Value} {below : List Frame} {meth : Method} {c : Code} {cells slots : Nat} {Q : State → Prop} {g : gG} {A : Nat → Prop} {ad : Nat → Nat} (hx : p.tables.exec = Jvm.exec) (hb : c.code = b_Mod_write) (hml : c.maxLocals = 5) (hown : s.vm.findClass "MacroMillModel" = some m.cls) (htt : ∀ w ∈ gt, w.before args s = true) (hK : va_K g.1 classes (tysG g) s) (hN : nw s) (hA : ∀ q : Nat, s.heap.size ≤ q → A q) (hRf : 1 ≤ R.frames) (hRl : 21 ≤ R.locals) (hRc : cells ≤ R.cells) (hRs : slots ≤ R.slots) (r : Int32) (S9 : sS)
    (kx_18 : ∀ (ls : Array Slot) (H : Heap) (locs : List Loc), va_P g.1 classes (Sw shM g ad S9) H → va_D A (Sw shM g ad S9) → va_S A s.heap H locs → W p l e R s m args below meth c H locs cells slots Q (F0 m 18 ls [.int r]))
    (kx_32 : ∀ (ls : Array Slot) (H : Heap) (locs : List Loc), va_P g.1 classes (Sw shM g ad S9) H → va_D A (Sw shM g ad S9) → va_S A s.heap H locs → W p l e R s m args below meth c H locs cells slots Q (F0 m 32 ls [.int r]))
    (kx_180 : ∀ (ls : Array Slot) (H : Heap) (locs : List Loc), va_P g.1 classes (Sw shM g ad S9) H → va_D A (Sw shM g ad S9) → va_S A s.heap H locs → W p l e R s m args below meth c H locs cells slots Q (F0 m 180 ls [.int r])) :
    ∀ k9 : Nat, (∀ (S : sS) (L : Nat → Int32) (M : Nat → Int64) (ls : Array Slot) (H : Heap) (locs : List Loc), f_Mod_write k9 0 S L M = some (r, S9) → lv_has ls 5 [(0, .ref (ad 0)), (1, .int (L 1))] → va_P g.1 classes (Sw shM g ad S) H → va_D A (Sw shM g ad S) → va_S A s.heap H locs → W p l e R s m args below meth c H locs cells slots Q (F0 m 0 ls [])) ∧ (∀ (S : sS) (L : Nat → Int32) (M : Nat → Int64) (ls : Array Slot) (H : Heap) (locs : List Loc), f_Mod_write k9 1 S L M = some (r, S9) → lv_has ls 5 [(0, .ref (ad 0)), (1, .int (L 1)), (2, .int (L 2))] → va_P g.1 classes (Sw shM g ad S) H → va_D A (Sw shM g ad S) → va_S A s.heap H locs → W p l e R s m args below meth c H locs cells slots Q (F0 m 17 ls [])) ∧ (∀ (S : sS) (L : Nat → Int32) (M : Nat → Int64) (ls : Array Slot) (H : Heap) (locs : List Loc), f_Mod_write k9 2 S L M = some (r, S9) → lv_has ls 5 [(0, .ref (ad 0)), (1, .int (L 1)), (2, .int (L 2)), (3, .int (L 3)), (4, .int (L 4))] → va_P g.1 classes (Sw shM g ad S) H → va_D A (Sw shM g ad S) → va_S A s.heap H locs → W p l e R s m args below meth c H locs cells slots Q (F0 m 55 ls [])) ∧ (∀ (S : sS) (L : Nat → Int32) (M : Nat → Int64) (ls : Array Slot) (H : Heap) (locs : List Loc), f_Mod_write k9 3 S L M = some (r, S9) → lv_has ls 5 [(0, .ref (ad 0)), (1, .int (L 1)), (2, .int (L 2)), (3, .int (L 3)), (4, .int (L 4))] → va_P g.1 classes (Sw shM g ad S) H → va_D A (Sw shM g ad S) → va_S A s.heap H locs → W p l e R s m args below meth c H locs cells slots Q (F0 m 86 ls [])) ∧ (∀ (S : sS) (L : Nat → Int32) (M : Nat → Int64) (ls : Array Slot) (H : Heap) (locs : List Loc), f_Mod_write k9 4 S L M = some (r, S9) → lv_has ls 5 [(0, .ref (ad 0)), (1, .int (L 1)), (2, .int (L 2)), (3, .int (L 3)), (4, .int (L 4))] → va_P g.1 classes (Sw shM g ad S) H → va_D A (Sw shM g ad S) → va_S A s.heap H locs → W p l e R s m args below meth c H locs cells slots Q (F0 m 119 ls [])) := by
  intro k9
  induction k9 with
  | zero => exact ⟨(fun _ _ _ _ _ _ h => by simp [f_Mod_write] at h), (fun _ _ _ _ _ _ h => by simp [f_Mod_write] at h), (fun _ _ _ _ _ _ h => by simp [f_Mod_write] at h), (fun _ _ _ _ _ _ h => by simp [f_Mod_write] at h), (fun _ _ _ _ _ _ h => by simp [f_Mod_write] at h)⟩
  | succ k9 ih =>
    refine ⟨?_, ?_, ?_, ?_, ?_⟩
    · intro S L M ls H locs h hl hP hD hS
      simp only [f_Mod_write] at h
      refine lv_aload_n hx hb d_Mod_write_0 rfl (lv_at hl 0 rfl) ?_
      obtain ⟨⟨r1, T1⟩, hq1, h⟩ := Option.bind_eq_some_iff.mp h
      try dsimp only at h
      refine go_iS (As := [.ref (ad 0)]) (g := g) (A := A) (h := shM) hP hK hD hS hA hN (fun hp => va_runV (As := []) (rest := []) ⟨hx, hb, hml, hown, htt⟩ (t_Mod_use l g _ ad S k9 r1 T1 hq1) ⟨(cb_L htt k_2688 k_276 k_2685 hd_Mod_use ⟨(Nat.le_trans (by decide +kernel) hRf), (Nat.le_trans (by decide +kernel) hRl)⟩), htt _ k_2687, htt _ k_127⟩ ⟨hp.1, S_recv hK hP 0 rfl rfl, hp.2⟩ rfl rfl hl.1 rfl (lv_room (Nat.le_of_ble_eq_true rfl)) d_Mod_write_1 ⟨hRc, hRs⟩) (fun r0 Sn H locs hw9 hP hD hS => ?_)
      obtain ⟨e9, e8⟩ := hw9
      rw [e8] at hP hD
      refine W.widen (k := cells) (n := slots) (Nat.le_refl _) (Nat.le_refl _) ?_
      refine toI (y := r1) e9 ?_
      refine lv_istore_n (lv' := [(2, .int r1), (0, .ref (ad 0)), (1, .int (L 1))]) hx hb d_Mod_write_4 rfl hl (by decide) rfl (fun ls hl => ?_)
      refine lv_iload_n hx hb d_Mod_write_5 rfl (lv_at hl 2 rfl) ?_
      refine lv_if_lt (tgt := 17) hx hb d_Mod_write_6 (by decide) (fun hc2 => ?_) (fun hc2 => ?_)
      · rw [if_pos hc2] at h
        exact (ih.2.1) T1 (upd L 2 r1) M ls H locs h (lv_sub hl [1, 2, 0] rfl) hP hD hS
      · rw [if_neg hc2] at h
        refine lv_iload_n hx hb d_Mod_write_9 rfl (lv_at hl 2 rfl) ?_
        refine lv_aload_n hx hb d_Mod_write_10 rfl (lv_at hl 1 rfl) ?_
        refine S_getI (h := shM) (C := "MacroMillModel") (T := F_Mod) hx hb htt in_Mod hown hK hP 0 3 rfl rfl rfl (by decide) (htt _ k_2239) (fun _ h9 => h9) d_Mod_write_11 ?_
        refine lv_icmp_lt (tgt := 19) hx hb d_Mod_write_14 (by decide) (fun hc3 => ?_) (fun hc3 => ?_)
        · rw [if_pos hc3] at h
          refine lv_aload_n hx hb d_Mod_write_19 rfl (lv_at hl 1 rfl) ?_
          refine S_getI (h := shM) (C := "MacroMillModel") (T := F_Mod) hx hb htt in_Mod hown hK hP 0 9 rfl rfl rfl (by decide) (htt _ k_2245) (fun _ h9 => h9) d_Mod_write_20 ?_
          refine lv_iload_n hx hb d_Mod_write_23 rfl (lv_at hl 0 rfl) ?_
          refine lv_iadd hx hb d_Mod_write_24 ?_
          refine lv_ldc (v := 32768) hx hb hown (htt _ k_2229) d_Mod_write_25 ?_
          refine lv_icmp_le (tgt := 33) hx hb d_Mod_write_27 (by decide) (fun hc4 => ?_) (fun hc4 => ?_)
          · rw [if_pos hc4] at h
            show W _ _ _ _ _ _ _ _ _ _ _ _ _ _ _ (F0 _ 33 _ _)
            refine lv_aload_n hx hb d_Mod_write_33 rfl (lv_at hl 1 rfl) ?_
            refine S_getR (h := shM) (C := "MacroMillModel") (T := F_Mod) hx hb htt in_Mod hown hK hP 0 7 rfl 5 rfl rfl (by decide) (htt _ k_2243) (fun _ h9 => h9) d_Mod_write_34 ?_
            refine lv_iload_n hx hb d_Mod_write_37 rfl (lv_at hl 2 rfl) ?_
            obtain ⟨hv5, h⟩ := chk h
            refine S_iald (h := shM) (i := L 1) hx hb hK hP 4 rfl (okI_in hv5) d_Mod_write_38 ?_
            refine lv_aload_n hx hb d_Mod_write_39 rfl (lv_at hl 1 rfl) ?_
            refine S_getR (h := shM) (C := "MacroMillModel") (T := F_Mod) hx hb htt in_Mod hown hK hP 0 8 rfl 6 rfl rfl (by decide) (htt _ k_2244) (fun _ h9 => h9) d_Mod_write_40 ?_
            refine lv_iload_n hx hb d_Mod_write_43 rfl (lv_at hl 2 rfl) ?_
            obtain ⟨hv6, h⟩ := chk h
            refine S_iald (h := shM) (i := L 1) hx hb hK hP 5 rfl (okI_in hv6) d_Mod_write_44 ?_
            refine lv_iadd hx hb d_Mod_write_45 ?_
            refine lv_istore_n (lv' := [(3, .int ((T1.2.1 4 (L 1 : Int32).toNatClampNeg) + (T1.2.1 5 (L 1 : Int32).toNatClampNeg))), (2, .int r1), (0, .ref (ad 0)), (1, .int (L 1))]) hx hb d_Mod_write_46 rfl hl (by decide) rfl (fun ls hl => ?_)
            refine lv_aload_n hx hb d_Mod_write_47 rfl (lv_at hl 2 rfl) ?_
            refine S_getI (h := shM) (C := "MacroMillModel") (T := F_Mod) hx hb htt in_Mod hown hK hP 0 9 rfl rfl rfl (by decide) (htt _ k_2245) (fun _ h9 => h9) d_Mod_write_48 ?_
            show W _ _ _ _ _ _ _ _ _ _ _ _ _ _ _ (F0 _ 51 _ _)
            refine lv_iconst (v := 1) hx hb d_Mod_write_51 (by decide) ?_
            refine lv_isub hx hb d_Mod_write_52 ?_
            refine lv_istore (lv' := [(4, .int ((T1.1 0 9) - (1 : Int32))), (3, .int ((T1.2.1 4 (L 1 : Int32).toNatClampNeg) + (T1.2.1 5 (L 1 : Int32).toNatClampNeg))), (2, .int r1), (0, .ref (ad 0)), (1, .int (L 1))]) hx hb d_Mod_write_53 hl (by decide) rfl (fun ls hl => ?_)
            exact (ih.2.2.1) T1 (upd (upd (upd L 2 r1) 3 ((T1.2.1 4 (L 1 : Int32).toNatClampNeg) + (T1.2.1 5 (L 1 : Int32).toNatClampNeg))) 4 ((T1.1 0 9) - (1 : Int32))) M ls H locs h (lv_sub hl [3, 4, 2, 1, 0] rfl) hP hD hS
          · rw [if_neg hc4] at h
            show W _ _ _ _ _ _ _ _ _ _ _ _ _ _ _ (F0 _ 30 _ _)
            refine lv_bipush (v := (-4)) hx hb d_Mod_write_30 (by decide) ?_
            cases h
            exact kx_32 ls H locs hP hD hS
        · rw [if_neg hc3] at h
          exact (ih.2.1) T1 (upd L 2 r1) M ls H locs h (lv_sub hl [1, 2, 0] rfl) hP hD hS
    · intro S L M ls H locs h hl hP hD hS
      simp only [f_Mod_write] at h
      refine lv_iconst (v := (-1)) hx hb d_Mod_write_17 (by decide) ?_
      cases h
      exact kx_18 ls H locs hP hD hS
    · intro S L M ls H locs h hl hP hD hS
      simp only [f_Mod_write] at h
      refine lv_iload hx hb d_Mod_write_55 (lv_at hl 4 rfl) ?_
      refine lv_iload_n hx hb d_Mod_write_57 rfl (lv_at hl 3 rfl) ?_
      refine lv_icmp_lt (tgt := 83) hx hb d_Mod_write_58 (by decide) (fun hc1 => ?_) (fun hc1 => ?_)
      · rw [if_pos hc1] at h
        refine lv_iconst (v := 0) hx hb d_Mod_write_83 (by decide) ?_
        refine lv_istore (lv' := [(4, .int 0), (0, .ref (ad 0)), (1, .int (L 1)), (2, .int (L 2)), (3, .int (L 3))]) hx hb d_Mod_write_84 hl (by decide) rfl (fun ls hl => ?_)
        exact (ih.2.2.2.1) S (upd L 4 (0 : Int32)) M ls H locs h (lv_sub hl [1, 2, 3, 4, 0] rfl) hP hD hS
      · rw [if_neg hc1] at h
        refine lv_aload_n hx hb d_Mod_write_61 rfl (lv_at hl 0 rfl) ?_
        refine S_getR (h := shM) (C := "MacroMillModel") (T := F_Mod) hx hb htt in_Mod hown hK hP 0 6 rfl 4 rfl rfl (by decide) (htt _ k_2242) (fun _ h9 => h9) d_Mod_write_62 ?_
        refine lv_iload hx hb d_Mod_write_65 (lv_at hl 4 rfl) ?_
        refine lv_iload_n hx hb d_Mod_write_67 rfl (lv_at hl 2 rfl) ?_
        refine lv_iadd hx hb d_Mod_write_68 ?_
        refine lv_aload_n hx hb d_Mod_write_69 rfl (lv_at hl 0 rfl) ?_
        refine S_getR (h := shM) (C := "MacroMillModel") (T := F_Mod) hx hb htt in_Mod hown hK hP 0 6 rfl 4 rfl rfl (by decide) (htt _ k_2242) (fun _ h9 => h9) d_Mod_write_70 ?_
        refine lv_iload hx hb d_Mod_write_73 (lv_at hl 4 rfl) ?_
        obtain ⟨hv2, h⟩ := chk h
        refine S_bald (h := shM) (i := L 4) hx hb hK hP 3 rfl (okI_in hv2) d_Mod_write_75 ?_
        obtain ⟨hv3, h⟩ := chk h
        show W _ _ _ _ _ _ _ _ _ _ _ _ _ _ _ (F0 _ 76 _ _)
        refine S_bast (h := shM) (i := (L 4) + (L 2)) (v := S.2.1 3 (L 4 : Int32).toNatClampNeg) hx hb hK hP hD hS 3 rfl (okI_in hv3) d_Mod_write_76 (fun H locs hP hD hS => ?_)
        refine lv_iinc (k := 4) (v := (L 4) + (-1)) (lv' := [(4, .int ((L 4) + (-1))), (0, .ref (ad 0)), (1, .int (L 1)), (2, .int (L 2)), (3, .int (L 3))]) hx hb d_Mod_write_77 hl rfl rfl (by decide) rfl (fun ls hl => ?_)
        refine lv_goto (tgt := 55) hx hb d_Mod_write_80 (by decide) ?_
        exact (ih.2.2.1) (putA S 3 ((L 4) + (L 2) : Int32).toNatClampNeg (vp_nar .byte (S.2.1 3 (L 4 : Int32).toNatClampNeg))) (upd L 4 ((L 4) + (-1))) M ls H locs h (lv_sub hl [1, 2, 3, 4, 0] rfl) hP hD hS
    · intro S L M ls H locs h hl hP hD hS
      simp only [f_Mod_write] at h
      refine lv_iload hx hb d_Mod_write_86 (lv_at hl 4 rfl) ?_
      refine lv_iload_n hx hb d_Mod_write_88 rfl (lv_at hl 2 rfl) ?_
      refine lv_icmp_ge (tgt := 114) hx hb d_Mod_write_89 (by decide) (fun hc1 => ?_) (fun hc1 => ?_)
      · rw [if_pos hc1] at h
        refine lv_iload_n hx hb d_Mod_write_114 rfl (lv_at hl 1 rfl) ?_
        refine lv_iconst (v := 1) hx hb d_Mod_write_115 (by decide) ?_
        refine lv_iadd hx hb d_Mod_write_116 ?_
        refine lv_istore (lv' := [(4, .int ((L 1) + (1 : Int32))), (0, .ref (ad 0)), (1, .int (L 1)), (2, .int (L 2)), (3, .int (L 3))]) hx hb d_Mod_write_117 hl (by decide) rfl (fun ls hl => ?_)
        exact (ih.2.2.2.2) S (upd L 4 ((L 1) + (1 : Int32))) M ls H locs h (lv_sub hl [1, 2, 3, 4, 0] rfl) hP hD hS
      · rw [if_neg hc1] at h
        refine lv_aload_n hx hb d_Mod_write_92 rfl (lv_at hl 0 rfl) ?_
        refine S_getR (h := shM) (C := "MacroMillModel") (T := F_Mod) hx hb htt in_Mod hown hK hP 0 6 rfl 4 rfl rfl (by decide) (htt _ k_2242) (fun _ h9 => h9) d_Mod_write_93 ?_
        refine lv_iload_n hx hb d_Mod_write_96 rfl (lv_at hl 3 rfl) ?_
        refine lv_iload hx hb d_Mod_write_97 (lv_at hl 4 rfl) ?_
        refine lv_iadd hx hb d_Mod_write_99 ?_
        refine lv_aload_n hx hb d_Mod_write_100 rfl (lv_at hl 0 rfl) ?_
        refine S_getR (h := shM) (C := "MacroMillModel") (T := F_Mod) hx hb htt in_Mod hown hK hP 0 0 rfl 1 rfl rfl (by decide) (htt _ k_2236) (fun _ h9 => h9) d_Mod_write_101 ?_
        refine lv_iload hx hb d_Mod_write_104 (lv_at hl 4 rfl) ?_
        obtain ⟨hv2, h⟩ := chk h
        refine S_bald (h := shM) (i := L 4) hx hb hK hP 0 rfl (okI_in hv2) d_Mod_write_106 ?_
        obtain ⟨hv3, h⟩ := chk h
        show W _ _ _ _ _ _ _ _ _ _ _ _ _ _ _ (F0 _ 107 _ _)
        refine S_bast (h := shM) (i := (L 3) + (L 4)) (v := S.2.1 0 (L 4 : Int32).toNatClampNeg) hx hb hK hP hD hS 3 rfl (okI_in hv3) d_Mod_write_107 (fun H locs hP hD hS => ?_)
        refine lv_iinc (k := 4) (v := (L 4) + 1) (lv' := [(4, .int ((L 4) + 1)), (0, .ref (ad 0)), (1, .int (L 1)), (2, .int (L 2)), (3, .int (L 3))]) hx hb d_Mod_write_108 hl rfl rfl (by decide) rfl (fun ls hl => ?_)
        refine lv_goto (tgt := 86) hx hb d_Mod_write_111 (by decide) ?_
        exact (ih.2.2.2.1) (putA S 3 ((L 3) + (L 4) : Int32).toNatClampNeg (vp_nar .byte (S.2.1 0 (L 4 : Int32).toNatClampNeg))) (upd L 4 ((L 4) + 1)) M ls H locs h (lv_sub hl [1, 2, 3, 4, 0] rfl) hP hD hS
    · intro S L M ls H locs h hl hP hD hS
      simp only [f_Mod_write] at h
      refine lv_iload hx hb d_Mod_write_119 (lv_at hl 4 rfl) ?_
      refine lv_aload_n hx hb d_Mod_write_121 rfl (lv_at hl 0 rfl) ?_
      refine S_getI (h := shM) (C := "MacroMillModel") (T := F_Mod) hx hb htt in_Mod hown hK hP 0 3 rfl rfl rfl (by decide) (htt _ k_2239) (fun _ h9 => h9) d_Mod_write_122 ?_
      refine lv_icmp_ge (tgt := 150) hx hb d_Mod_write_125 (by decide) (fun hc1 => ?_) (fun hc1 => ?_)
      · rw [if_pos hc1] at h
        refine lv_aload_n hx hb d_Mod_write_150 rfl (lv_at hl 0 rfl) ?_
        refine S_getR (h := shM) (C := "MacroMillModel") (T := F_Mod) hx hb htt in_Mod hown hK hP 0 8 rfl 6 rfl rfl (by decide) (htt _ k_2244) (fun _ h9 => h9) d_Mod_write_151 ?_
        refine lv_iload_n hx hb d_Mod_write_154 rfl (lv_at hl 1 rfl) ?_
        refine lv_aload_n hx hb d_Mod_write_155 rfl (lv_at hl 0 rfl) ?_
        refine S_getR (h := shM) (C := "MacroMillModel") (T := F_Mod) hx hb htt in_Mod hown hK hP 0 8 rfl 6 rfl rfl (by decide) (htt _ k_2244) (fun _ h9 => h9) d_Mod_write_156 ?_
        refine lv_iload_n hx hb d_Mod_write_159 rfl (lv_at hl 1 rfl) ?_
        obtain ⟨hv2, h⟩ := chk h
        refine S_iald (h := shM) (i := L 1) hx hb hK hP 5 rfl (okI_in hv2) d_Mod_write_160 ?_
        refine lv_iload_n hx hb d_Mod_write_161 rfl (lv_at hl 2 rfl) ?_
        show W _ _ _ _ _ _ _ _ _ _ _ _ _ _ _ (F0 _ 162 _ _)
        refine lv_iadd hx hb d_Mod_write_162 ?_
        obtain ⟨hv3, h⟩ := chk h
        refine S_iast (h := shM) (i := L 1) (v := (S.2.1 5 (L 1 : Int32).toNatClampNeg) + (L 2)) hx hb hK hP hD hS 5 rfl (okI_in hv3) d_Mod_write_163 (fun H locs hP hD hS => ?_)
        refine lv_aload_n hx hb d_Mod_write_164 rfl (lv_at hl 0 rfl) ?_
        refine lv_aload_n hx hb d_Mod_write_165 rfl (lv_at hl 0 rfl) ?_
        refine S_getI (h := shM) (C := "MacroMillModel") (T := F_Mod) hx hb htt in_Mod hown hK hP 0 9 rfl rfl rfl (by decide) (htt _ k_2245) (fun _ h9 => h9) d_Mod_write_166 ?_
        refine toI (y := S.1 0 9) rfl ?_
        refine lv_iload_n hx hb d_Mod_write_169 rfl (lv_at hl 2 rfl) ?_
        refine lv_iadd hx hb d_Mod_write_170 ?_
        refine S_put (h := shM) (C := "MacroMillModel") (T := F_Mod) (v := (S.1 0 9) + (L 2)) hx hb htt in_Mod t_Mod t_Mod_ok n_Mod hown hK hP hD hS 0 9 rfl rfl rfl (by decide) (htt _ k_2245) (fun _ h9 => h9) rfl rfl rfl d_Mod_write_171 (fun H locs hP hD hS => ?_)
        refine lv_aload_n hx hb d_Mod_write_174 rfl (lv_at hl 0 rfl) ?_
        refine S_getR (h := shM) (C := "MacroMillModel") (T := F_Mod) hx hb htt in_Mod hown hK hP 0 8 rfl 6 rfl rfl (by decide) (htt _ k_2244) (fun _ h9 => h9) d_Mod_write_175 ?_
        refine lv_iload_n hx hb d_Mod_write_178 rfl (lv_at hl 1 rfl) ?_
        obtain ⟨hv4, h⟩ := chk h
        refine S_iald (h := shM) (i := L 1) hx hb hK hP 5 rfl (okI_in hv4) d_Mod_write_179 ?_
        cases h
        exact kx_180 ls H locs hP hD hS
      · rw [if_neg hc1] at h
        refine lv_aload_n hx hb d_Mod_write_128 rfl (lv_at hl 0 rfl) ?_
        refine S_getR (h := shM) (C := "MacroMillModel") (T := F_Mod) hx hb htt in_Mod hown hK hP 0 7 rfl 5 rfl rfl (by decide) (htt _ k_2243) (fun _ h9 => h9) d_Mod_write_129 ?_
        refine lv_iload hx hb d_Mod_write_132 (lv_at hl 4 rfl) ?_
        refine lv_aload_n hx hb d_Mod_write_134 rfl (lv_at hl 0 rfl) ?_
        refine S_getR (h := shM) (C := "MacroMillModel") (T := F_Mod) hx hb htt in_Mod hown hK hP 0 7 rfl 5 rfl rfl (by decide) (htt _ k_2243) (fun _ h9 => h9) d_Mod_write_135 ?_
        refine lv_iload hx hb d_Mod_write_138 (lv_at hl 4 rfl) ?_
        obtain ⟨hv5, h⟩ := chk h
        refine S_iald (h := shM) (i := L 4) hx hb hK hP 4 rfl (okI_in hv5) d_Mod_write_140 ?_
        refine lv_iload_n hx hb d_Mod_write_141 rfl (lv_at hl 2 rfl) ?_
        show W _ _ _ _ _ _ _ _ _ _ _ _ _ _ _ (F0 _ 142 _ _)
        refine lv_iadd hx hb d_Mod_write_142 ?_
        obtain ⟨hv6, h⟩ := chk h
        refine S_iast (h := shM) (i := L 4) (v := (S.2.1 4 (L 4 : Int32).toNatClampNeg) + (L 2)) hx hb hK hP hD hS 4 rfl (okI_in hv6) d_Mod_write_143 (fun H locs hP hD hS => ?_)
        refine lv_iinc (k := 4) (v := (L 4) + 1) (lv' := [(4, .int ((L 4) + 1)), (0, .ref (ad 0)), (1, .int (L 1)), (2, .int (L 2)), (3, .int (L 3))]) hx hb d_Mod_write_144 hl rfl rfl (by decide) rfl (fun ls hl => ?_)
        refine lv_goto (tgt := 119) hx hb d_Mod_write_147 (by decide) ?_
        exact (ih.2.2.2.2) (putA S 4 (L 4 : Int32).toNatClampNeg ((S.2.1 4 (L 4 : Int32).toNatClampNeg) + (L 2))) (upd L 4 ((L 4) + 1)) M ls H locs h (lv_sub hl [1, 2, 3, 4, 0] rfl) hP hD hS
abbrev rm_t_Mod_write : Room := { frames := 1, cells := 0, slots := 0, locals := 21 }
theorem t_Mod_write (l : Launch) (g : gG) (sz : Nat) (ad : Nat → Nat) (S : sS) (v1 : Int32) (k : Nat) (r : Int32) (S9 : sS) (h : f_Mod_write k 0 S (upd (fun _ => 0) 1 v1) (fun _ => 0) = some (r, S9)) : Ci l y_Mod_write b_Mod_write 5 rm_t_Mod_write g [.ref (ad 0), .int v1] (Sw shM g ad S) sz (fun r1 w => ∃ S1 : sS, w = Sw shM g ad S1 ∧ r1 = r ∧ S1 = S9) := by
  refine startI (by decide) (Nat.le_of_ble_eq_true rfl) ?_
  intro p e s m below meth c A ls hx hb hr hml hlocks hmn hown htt hN hA hP hK hD hS hl
  exact (w_Mod_write hx hb hml hown htt hK hN hA (by decide +kernel) (by decide +kernel) (by decide +kernel) (by decide +kernel) r S9 (fun ls H locs hP hD hS => fin_i (g := g) (ws := Sw shM g ad S9) hx hb hr hlocks (by decide +kernel) (by decide +kernel) hP hD hS ⟨_, rfl, rfl, rfl⟩ d_Mod_write_18) (fun ls H locs hP hD hS => fin_i (g := g) (ws := Sw shM g ad S9) hx hb hr hlocks (by decide +kernel) (by decide +kernel) hP hD hS ⟨_, rfl, rfl, rfl⟩ d_Mod_write_32) (fun ls H locs hP hD hS => fin_i (g := g) (ws := Sw shM g ad S9) hx hb hr hlocks (by decide +kernel) (by decide +kernel) hP hD hS ⟨_, rfl, rfl, rfl⟩ d_Mod_write_180) k).1 S (upd (fun _ => 0) 1 v1) (fun _ => 0) ls _ _ h hl hP hD hS
def f_Mod_clear : Nat → Nat → sS → (Nat → Int32) → (Nat → Int64) → Option (Int32 × sS)
  | 0, _, _, _, _ => none
  | k + 1, 0, S, L, M => some (S.1 0 3, (putI (putI S 0 3 0) 0 9 0))
  | _ + 1, _ + 1, _, _, _ => none
set_option maxHeartbeats 8000000 in
set_option maxRecDepth 100000 in
theorem w_Mod_clear {p : Program} {l : Launch} {e : Env} {R : Room} {s : State} {m : MethodId} {args : Array Value} {below : List Frame} {meth : Method} {c : Code} {cells slots : Nat} {Q : State → Prop} {g : gG} {A : Nat → Prop} {ad : Nat → Nat} (hx : p.tables.exec = Jvm.exec) (hb : c.code = b_Mod_clear) (hml : c.maxLocals = 2) (hown : s.vm.findClass "MacroMillModel" = some m.cls) (htt : ∀ w ∈ gt, w.before args s = true) (hK : va_K g.1 classes (tysG g) s) (hN : nw s) (hA : ∀ q : Nat, s.heap.size ≤ q → A q) (r : Int32) (S9 : sS)
    (kx_16 : ∀ (ls : Array Slot) (H : Heap) (locs : List Loc), va_P g.1 classes (Sw shM g ad S9) H → va_D A (Sw shM g ad S9) → va_S A s.heap H locs → W p l e R s m args below meth c H locs cells slots Q (F0 m 16 ls [.int r])) :
    ∀ k9 : Nat, (∀ (S : sS) (L : Nat → Int32) (M : Nat → Int64) (ls : Array Slot) (H : Heap) (locs : List Loc), f_Mod_clear k9 0 S L M = some (r, S9) → lv_has ls 2 [(0, .ref (ad 0))] → va_P g.1 classes (Sw shM g ad S) H → va_D A (Sw shM g ad S) → va_S A s.heap H locs → W p l e R s m args below meth c H locs cells slots Q (F0 m 0 ls [])) := by
  intro k9
  induction k9 with
  | zero => exact (fun _ _ _ _ _ _ h => by simp [f_Mod_clear] at h)
  | succ k9 ih =>
    · intro S L M ls H locs h hl hP hD hS
      simp only [f_Mod_clear] at h
      refine lv_aload_n hx hb d_Mod_clear_0 rfl (lv_at hl 0 rfl) ?_
      refine S_getI (h := shM) (C := "MacroMillModel") (T := F_Mod) hx hb htt in_Mod hown hK hP 0 3 rfl rfl rfl (by decide) (htt _ k_2239) (fun _ h9 => h9) d_Mod_clear_1 ?_
      refine lv_istore_n (lv' := [(1, .int (S.1 0 3)), (0, .ref (ad 0))]) hx hb d_Mod_clear_4 rfl hl (by decide) rfl (fun ls hl => ?_)
      refine lv_aload_n hx hb d_Mod_clear_5 rfl (lv_at hl 1 rfl) ?_
      refine lv_iconst (v := 0) hx hb d_Mod_clear_6 (by decide) ?_
      refine S_put (h := shM) (C := "MacroMillModel") (T := F_Mod) (v := 0) hx hb htt in_Mod t_Mod t_Mod_ok n_Mod hown hK hP hD hS 0 3 rfl rfl rfl (by decide) (htt _ k_2239) (fun _ h9 => h9) rfl rfl rfl d_Mod_clear_7 (fun H locs hP hD hS => ?_)
      refine lv_aload_n hx hb d_Mod_clear_10 rfl (lv_at hl 1 rfl) ?_
      refine lv_iconst (v := 0) hx hb d_Mod_clear_11 (by decide) ?_
      refine S_put (h := shM) (C := "MacroMillModel") (T := F_Mod) (v := 0) hx hb htt in_Mod t_Mod t_Mod_ok n_Mod hown hK hP hD hS 0 9 rfl rfl rfl (by decide) (htt _ k_2245) (fun _ h9 => h9) rfl rfl rfl d_Mod_clear_12 (fun H locs hP hD hS => ?_)
      refine lv_iload_n hx hb d_Mod_clear_15 rfl (lv_at hl 0 rfl) ?_
      cases h
      exact kx_16 ls H locs hP hD hS
abbrev rm_t_Mod_clear : Room := { frames := 0, cells := 0, slots := 0, locals := 0 }
theorem t_Mod_clear (l : Launch) (g : gG) (sz : Nat) (ad : Nat → Nat) (S : sS) (k : Nat) (r : Int32) (S9 : sS) (h : f_Mod_clear k 0 S (fun _ => 0) (fun _ => 0) = some (r, S9)) : Ci l y_Mod_clear b_Mod_clear 2 rm_t_Mod_clear g [.ref (ad 0)] (Sw shM g ad S) sz (fun r1 w => ∃ S1 : sS, w = Sw shM g ad S1 ∧ r1 = r ∧ S1 = S9) := by
  refine startI (by decide) (Nat.le_of_ble_eq_true rfl) ?_
  intro p e s m below meth c A ls hx hb hr hml hlocks hmn hown htt hN hA hP hK hD hS hl
  exact (w_Mod_clear hx hb hml hown htt hK hN hA r S9 (fun ls H locs hP hD hS => fin_i (g := g) (ws := Sw shM g ad S9) hx hb hr hlocks (by decide +kernel) (by decide +kernel) hP hD hS ⟨_, rfl, rfl, rfl⟩ d_Mod_clear_16) k) S (fun _ => 0) (fun _ => 0) ls _ _ h hl hP hD hS
def f_Mod_isLetter : Nat → Nat → sS → (Nat → Int32) → (Nat → Int64) → Option (Int32 × sS)
  | 0, _, _, _, _ => none
  | k + 1, 0, S, L, M => if (L 0) < (65 : Int32) then (f_Mod_isLetter k 1 S L M) else (if (L 0) ≤ (90 : Int32) then (f_Mod_isLetter k 3 S L M) else (f_Mod_isLetter k 1 S L M))
  | k + 1, 1, S, L, M => if (L 0) < (97 : Int32) then (f_Mod_isLetter k 2 S L M) else (if (L 0) ≤ (122 : Int32) then (f_Mod_isLetter k 3 S L M) else (f_Mod_isLetter k 2 S L M))
  | k + 1, 2, S, L, M => if (L 0) = (95 : Int32) then (f_Mod_isLetter k 3 S L M) else (f_Mod_isLetter k 4 S (upd L 100 (0 : Int32)) M)
  | k + 1, 3, S, L, M => f_Mod_isLetter k 4 S (upd L 100 (1 : Int32)) M
  | k + 1, 4, S, L, M => if bz (L 100) = true then some (L 100, S) else none
  | _ + 1, _ + 5, _, _, _ => none
set_option maxHeartbeats 8000000 in
set_option maxRecDepth 100000 in
theorem w_Mod_isLetter {p : Program} {l : Launch} {e : Env} {R : Room} {s : State} {m : MethodId} {args : Array Value} {below : List Frame} {meth : Method} {c : Code} {cells slots : Nat} {Q : State → Prop} {g : gG} {A : Nat → Prop} {ad : Nat → Nat} (hx : p.tables.exec = Jvm.exec) (hb : c.code = b_Mod_isLetter) (hml : c.maxLocals = 1) (hown : s.vm.findClass "MacroMillModel" = some m.cls) (htt : ∀ w ∈ gt, w.before args s = true) (hK : va_K g.1 classes (tysG g) s) (hN : nw s) (hA : ∀ q : Nat, s.heap.size ≤ q → A q) (r : Int32) (S9 : sS)
    (kx_35 : ∀ (ls : Array Slot) (H : Heap) (locs : List Loc), narrow .boolean (.int r) = .int r → va_P g.1 classes (Sw shM g ad S9) H → va_D A (Sw shM g ad S9) → va_S A s.heap H locs → W p l e R s m args below meth c H locs cells slots Q (F0 m 35 ls [.int r])) :
    ∀ k9 : Nat, (∀ (S : sS) (L : Nat → Int32) (M : Nat → Int64) (ls : Array Slot) (H : Heap) (locs : List Loc), f_Mod_isLetter k9 0 S L M = some (r, S9) → lv_has ls 1 [(0, .int (L 0))] → va_P g.1 classes (Sw shM g ad S) H → va_D A (Sw shM g ad S) → va_S A s.heap H locs → W p l e R s m args below meth c H locs cells slots Q (F0 m 0 ls [])) ∧ (∀ (S : sS) (L : Nat → Int32) (M : Nat → Int64) (ls : Array Slot) (H : Heap) (locs : List Loc), f_Mod_isLetter k9 1 S L M = some (r, S9) → lv_has ls 1 [(0, .int (L 0))] → va_P g.1 classes (Sw shM g ad S) H → va_D A (Sw shM g ad S) → va_S A s.heap H locs → W p l e R s m args below meth c H locs cells slots Q (F0 m 12 ls [])) ∧ (∀ (S : sS) (L : Nat → Int32) (M : Nat → Int64) (ls : Array Slot) (H : Heap) (locs : List Loc), f_Mod_isLetter k9 2 S L M = some (r, S9) → lv_has ls 1 [(0, .int (L 0))] → va_P g.1 classes (Sw shM g ad S) H → va_D A (Sw shM g ad S) → va_S A s.heap H locs → W p l e R s m args below meth c H locs cells slots Q (F0 m 24 ls [])) ∧ (∀ (S : sS) (L : Nat → Int32) (M : Nat → Int64) (ls : Array Slot) (H : Heap) (locs : List Loc), f_Mod_isLetter k9 3 S L M = some (r, S9) → lv_has ls 1 [(0, .int (L 0))] → va_P g.1 classes (Sw shM g ad S) H → va_D A (Sw shM g ad S) → va_S A s.heap H locs → W p l e R s m args below meth c H locs cells slots Q (F0 m 30 ls [])) ∧ (∀ (S : sS) (L : Nat → Int32) (M : Nat → Int64) (ls : Array Slot) (H : Heap) (locs : List Loc), f_Mod_isLetter k9 4 S L M = some (r, S9) → lv_has ls 1 [(0, .int (L 0))] → va_P g.1 classes (Sw shM g ad S) H → va_D A (Sw shM g ad S) → va_S A s.heap H locs → W p l e R s m args below meth c H locs cells slots Q (F0 m 35 ls [.int (L 100)])) := by
  intro k9
  induction k9 with
  | zero => exact ⟨(fun _ _ _ _ _ _ h => by simp [f_Mod_isLetter] at h), (fun _ _ _ _ _ _ h => by simp [f_Mod_isLetter] at h), (fun _ _ _ _ _ _ h => by simp [f_Mod_isLetter] at h), (fun _ _ _ _ _ _ h => by simp [f_Mod_isLetter] at h), (fun _ _ _ _ _ _ h => by simp [f_Mod_isLetter] at h)⟩
  | succ k9 ih =>
    refine ⟨?_, ?_, ?_, ?_, ?_⟩
    · intro S L M ls H locs h hl hP hD hS
      simp only [f_Mod_isLetter] at h
      refine lv_iload_n hx hb d_Mod_isLetter_0 rfl (lv_at hl 0 rfl) ?_
      refine lv_bipush (v := 65) hx hb d_Mod_isLetter_1 (by decide) ?_
      refine lv_icmp_lt (tgt := 12) hx hb d_Mod_isLetter_3 (by decide) (fun hc1 => ?_) (fun hc1 => ?_)
      · rw [if_pos hc1] at h
        exact (ih.2.1) S L M ls H locs h (lv_sub hl [0] rfl) hP hD hS
      · rw [if_neg hc1] at h
        refine lv_iload_n hx hb d_Mod_isLetter_6 rfl (lv_at hl 0 rfl) ?_
        refine lv_bipush (v := 90) hx hb d_Mod_isLetter_7 (by decide) ?_
        refine lv_icmp_le (tgt := 30) hx hb d_Mod_isLetter_9 (by decide) (fun hc2 => ?_) (fun hc2 => ?_)
        · rw [if_pos hc2] at h
          exact (ih.2.2.2.1) S L M ls H locs h (lv_sub hl [0] rfl) hP hD hS
        · rw [if_neg hc2] at h
          exact (ih.2.1) S L M ls H locs h (lv_sub hl [0] rfl) hP hD hS
    · intro S L M ls H locs h hl hP hD hS
      simp only [f_Mod_isLetter] at h
      refine lv_iload_n hx hb d_Mod_isLetter_12 rfl (lv_at hl 0 rfl) ?_
      refine lv_bipush (v := 97) hx hb d_Mod_isLetter_13 (by decide) ?_
      refine lv_icmp_lt (tgt := 24) hx hb d_Mod_isLetter_15 (by decide) (fun hc1 => ?_) (fun hc1 => ?_)
      · rw [if_pos hc1] at h
        exact (ih.2.2.1) S L M ls H locs h (lv_sub hl [0] rfl) hP hD hS
      · rw [if_neg hc1] at h
        refine lv_iload_n hx hb d_Mod_isLetter_18 rfl (lv_at hl 0 rfl) ?_
        refine lv_bipush (v := 122) hx hb d_Mod_isLetter_19 (by decide) ?_
        refine lv_icmp_le (tgt := 30) hx hb d_Mod_isLetter_21 (by decide) (fun hc2 => ?_) (fun hc2 => ?_)
        · rw [if_pos hc2] at h
          exact (ih.2.2.2.1) S L M ls H locs h (lv_sub hl [0] rfl) hP hD hS
        · rw [if_neg hc2] at h
          exact (ih.2.2.1) S L M ls H locs h (lv_sub hl [0] rfl) hP hD hS
    · intro S L M ls H locs h hl hP hD hS
      simp only [f_Mod_isLetter] at h
      refine lv_iload_n hx hb d_Mod_isLetter_24 rfl (lv_at hl 0 rfl) ?_
      refine lv_bipush (v := 95) hx hb d_Mod_isLetter_25 (by decide) ?_
      refine lv_icmp_ne (tgt := 34) hx hb d_Mod_isLetter_27 (by decide) (fun hc1 => ?_) (fun hc1 => ?_)
      · rw [if_neg hc1] at h
        refine lv_iconst (v := 0) hx hb d_Mod_isLetter_34 (by decide) ?_
        exact (ih.2.2.2.2) S (upd L 100 (0 : Int32)) M ls H locs h (lv_sub hl [0] rfl) hP hD hS
      · rw [if_pos hc1] at h
        exact (ih.2.2.2.1) S L M ls H locs h (lv_sub hl [0] rfl) hP hD hS
    · intro S L M ls H locs h hl hP hD hS
      simp only [f_Mod_isLetter] at h
      refine lv_iconst (v := 1) hx hb d_Mod_isLetter_30 (by decide) ?_
      refine lv_goto (tgt := 35) hx hb d_Mod_isLetter_31 (by decide) ?_
      exact (ih.2.2.2.2) S (upd L 100 (1 : Int32)) M ls H locs h (lv_sub hl [0] rfl) hP hD hS
    · intro S L M ls H locs h hl hP hD hS
      simp only [f_Mod_isLetter] at h
      obtain ⟨hv1, h⟩ := chk h
      cases h
      exact kx_35 ls H locs (bz_n hv1) hP hD hS
abbrev rm_t_Mod_isLetter : Room := { frames := 0, cells := 0, slots := 0, locals := 0 }
theorem t_Mod_isLetter (l : Launch) (g : gG) (sz : Nat) (ad : Nat → Nat) (S : sS) (v1 : Int32) (k : Nat) (r : Int32) (S9 : sS) (h : f_Mod_isLetter k 0 S (upd (fun _ => 0) 0 v1) (fun _ => 0) = some (r, S9)) : Cz l y_Mod_isLetter b_Mod_isLetter 1 rm_t_Mod_isLetter g [.int v1] (Sw shM g ad S) sz (fun r1 w => ∃ S1 : sS, w = Sw shM g ad S1 ∧ r1 = r ∧ S1 = S9) := by
  refine startZ (by decide) (Nat.le_of_ble_eq_true rfl) ?_
  intro p e s m below meth c A ls hx hb hr hml hlocks hmn hown htt hN hA hP hK hD hS hl
  exact (w_Mod_isLetter hx hb hml hown htt hK hN hA r S9 (fun ls H locs hz hP hD hS => fin_z (g := g) (ws := Sw shM g ad S9) hx hb hr hlocks hz (by decide +kernel) (by decide +kernel) hP hD hS ⟨_, rfl, rfl, rfl⟩ d_Mod_isLetter_35) k).1 S (upd (fun _ => 0) 0 v1) (fun _ => 0) ls _ _ h hl hP hD hS
def f_Mod_isDigit : Nat → Nat → sS → (Nat → Int32) → (Nat → Int64) → Option (Int32 × sS)
  | 0, _, _, _, _ => none
  | k + 1, 0, S, L, M => if (L 0) < (48 : Int32) then (f_Mod_isDigit k 1 S L M) else (if (57 : Int32) < (L 0) then (f_Mod_isDigit k 1 S L M) else (f_Mod_isDigit k 2 S (upd L 100 (1 : Int32)) M))
  | k + 1, 1, S, L, M => f_Mod_isDigit k 2 S (upd L 100 (0 : Int32)) M
  | k + 1, 2, S, L, M => if bz (L 100) = true then some (L 100, S) else none
  | _ + 1, _ + 3, _, _, _ => none
set_option maxHeartbeats 8000000 in
set_option maxRecDepth 100000 in
theorem w_Mod_isDigit {p : Program} {l : Launch} {e : Env} {R : Room} {s : State} {m : MethodId} {args : Array Value} {below : List Frame} {meth : Method} {c : Code} {cells slots : Nat} {Q : State → Prop} {g : gG} {A : Nat → Prop} {ad : Nat → Nat} (hx : p.tables.exec = Jvm.exec) (hb : c.code = b_Mod_isDigit) (hml : c.maxLocals = 1) (hown : s.vm.findClass "MacroMillModel" = some m.cls) (htt : ∀ w ∈ gt, w.before args s = true) (hK : va_K g.1 classes (tysG g) s) (hN : nw s) (hA : ∀ q : Nat, s.heap.size ≤ q → A q) (r : Int32) (S9 : sS)
    (kx_17 : ∀ (ls : Array Slot) (H : Heap) (locs : List Loc), narrow .boolean (.int r) = .int r → va_P g.1 classes (Sw shM g ad S9) H → va_D A (Sw shM g ad S9) → va_S A s.heap H locs → W p l e R s m args below meth c H locs cells slots Q (F0 m 17 ls [.int r])) :
    ∀ k9 : Nat, (∀ (S : sS) (L : Nat → Int32) (M : Nat → Int64) (ls : Array Slot) (H : Heap) (locs : List Loc), f_Mod_isDigit k9 0 S L M = some (r, S9) → lv_has ls 1 [(0, .int (L 0))] → va_P g.1 classes (Sw shM g ad S) H → va_D A (Sw shM g ad S) → va_S A s.heap H locs → W p l e R s m args below meth c H locs cells slots Q (F0 m 0 ls [])) ∧ (∀ (S : sS) (L : Nat → Int32) (M : Nat → Int64) (ls : Array Slot) (H : Heap) (locs : List Loc), f_Mod_isDigit k9 1 S L M = some (r, S9) → lv_has ls 1 [(0, .int (L 0))] → va_P g.1 classes (Sw shM g ad S) H → va_D A (Sw shM g ad S) → va_S A s.heap H locs → W p l e R s m args below meth c H locs cells slots Q (F0 m 16 ls [])) ∧ (∀ (S : sS) (L : Nat → Int32) (M : Nat → Int64) (ls : Array Slot) (H : Heap) (locs : List Loc), f_Mod_isDigit k9 2 S L M = some (r, S9) → lv_has ls 1 [(0, .int (L 0))] → va_P g.1 classes (Sw shM g ad S) H → va_D A (Sw shM g ad S) → va_S A s.heap H locs → W p l e R s m args below meth c H locs cells slots Q (F0 m 17 ls [.int (L 100)])) := by
  intro k9
  induction k9 with
  | zero => exact ⟨(fun _ _ _ _ _ _ h => by simp [f_Mod_isDigit] at h), (fun _ _ _ _ _ _ h => by simp [f_Mod_isDigit] at h), (fun _ _ _ _ _ _ h => by simp [f_Mod_isDigit] at h)⟩
  | succ k9 ih =>
    refine ⟨?_, ?_, ?_⟩
    · intro S L M ls H locs h hl hP hD hS
      simp only [f_Mod_isDigit] at h
      refine lv_iload_n hx hb d_Mod_isDigit_0 rfl (lv_at hl 0 rfl) ?_
      refine lv_bipush (v := 48) hx hb d_Mod_isDigit_1 (by decide) ?_
      refine lv_icmp_lt (tgt := 16) hx hb d_Mod_isDigit_3 (by decide) (fun hc1 => ?_) (fun hc1 => ?_)
      · rw [if_pos hc1] at h
        exact (ih.2.1) S L M ls H locs h (lv_sub hl [0] rfl) hP hD hS
      · rw [if_neg hc1] at h
        refine lv_iload_n hx hb d_Mod_isDigit_6 rfl (lv_at hl 0 rfl) ?_
        refine lv_bipush (v := 57) hx hb d_Mod_isDigit_7 (by decide) ?_
        refine lv_icmp_gt (tgt := 16) hx hb d_Mod_isDigit_9 (by decide) (fun hc2 => ?_) (fun hc2 => ?_)
        · rw [if_pos hc2] at h
          exact (ih.2.1) S L M ls H locs h (lv_sub hl [0] rfl) hP hD hS
        · rw [if_neg hc2] at h
          refine lv_iconst (v := 1) hx hb d_Mod_isDigit_12 (by decide) ?_
          refine lv_goto (tgt := 17) hx hb d_Mod_isDigit_13 (by decide) ?_
          exact (ih.2.2) S (upd L 100 (1 : Int32)) M ls H locs h (lv_sub hl [0] rfl) hP hD hS
    · intro S L M ls H locs h hl hP hD hS
      simp only [f_Mod_isDigit] at h
      refine lv_iconst (v := 0) hx hb d_Mod_isDigit_16 (by decide) ?_
      exact (ih.2.2) S (upd L 100 (0 : Int32)) M ls H locs h (lv_sub hl [0] rfl) hP hD hS
    · intro S L M ls H locs h hl hP hD hS
      simp only [f_Mod_isDigit] at h
      obtain ⟨hv1, h⟩ := chk h
      cases h
      exact kx_17 ls H locs (bz_n hv1) hP hD hS
abbrev rm_t_Mod_isDigit : Room := { frames := 0, cells := 0, slots := 0, locals := 0 }
theorem t_Mod_isDigit (l : Launch) (g : gG) (sz : Nat) (ad : Nat → Nat) (S : sS) (v1 : Int32) (k : Nat) (r : Int32) (S9 : sS) (h : f_Mod_isDigit k 0 S (upd (fun _ => 0) 0 v1) (fun _ => 0) = some (r, S9)) : Cz l y_Mod_isDigit b_Mod_isDigit 1 rm_t_Mod_isDigit g [.int v1] (Sw shM g ad S) sz (fun r1 w => ∃ S1 : sS, w = Sw shM g ad S1 ∧ r1 = r ∧ S1 = S9) := by
  refine startZ (by decide) (Nat.le_of_ble_eq_true rfl) ?_
  intro p e s m below meth c A ls hx hb hr hml hlocks hmn hown htt hN hA hP hK hD hS hl
  exact (w_Mod_isDigit hx hb hml hown htt hK hN hA r S9 (fun ls H locs hz hP hD hS => fin_z (g := g) (ws := Sw shM g ad S9) hx hb hr hlocks hz (by decide +kernel) (by decide +kernel) hP hD hS ⟨_, rfl, rfl, rfl⟩ d_Mod_isDigit_17) k).1 S (upd (fun _ => 0) 0 v1) (fun _ => 0) ls _ _ h hl hP hD hS
def f_Mod_isBlank : Nat → Nat → sS → (Nat → Int32) → (Nat → Int64) → Option (Int32 × sS)
  | 0, _, _, _, _ => none
  | k + 1, 0, S, L, M => if (L 0) = (32 : Int32) then (f_Mod_isBlank k 1 S L M) else (if (L 0) = (9 : Int32) then (f_Mod_isBlank k 1 S L M) else (if (L 0) = (11 : Int32) then (f_Mod_isBlank k 1 S L M) else (if (L 0) = (12 : Int32) then (f_Mod_isBlank k 1 S L M) else (if (L 0) = (13 : Int32) then (f_Mod_isBlank k 1 S L M) else (f_Mod_isBlank k 2 S (upd L 100 (0 : Int32)) M)))))
  | k + 1, 1, S, L, M => f_Mod_isBlank k 2 S (upd L 100 (1 : Int32)) M
  | k + 1, 2, S, L, M => if bz (L 100) = true then some (L 100, S) else none
  | _ + 1, _ + 3, _, _, _ => none
set_option maxHeartbeats 8000000 in
set_option maxRecDepth 100000 in
theorem w_Mod_isBlank {p : Program} {l : Launch} {e : Env} {R : Room} {s : State} {m : MethodId} {args : Array Value} {below : List Frame} {meth : Method} {c : Code} {cells slots : Nat} {Q : State → Prop} {g : gG} {A : Nat → Prop} {ad : Nat → Nat} (hx : p.tables.exec = Jvm.exec) (hb : c.code = b_Mod_isBlank) (hml : c.maxLocals = 1) (hown : s.vm.findClass "MacroMillModel" = some m.cls) (htt : ∀ w ∈ gt, w.before args s = true) (hK : va_K g.1 classes (tysG g) s) (hN : nw s) (hA : ∀ q : Nat, s.heap.size ≤ q → A q) (r : Int32) (S9 : sS)
    (kx_35 : ∀ (ls : Array Slot) (H : Heap) (locs : List Loc), narrow .boolean (.int r) = .int r → va_P g.1 classes (Sw shM g ad S9) H → va_D A (Sw shM g ad S9) → va_S A s.heap H locs → W p l e R s m args below meth c H locs cells slots Q (F0 m 35 ls [.int r])) :
    ∀ k9 : Nat, (∀ (S : sS) (L : Nat → Int32) (M : Nat → Int64) (ls : Array Slot) (H : Heap) (locs : List Loc), f_Mod_isBlank k9 0 S L M = some (r, S9) → lv_has ls 1 [(0, .int (L 0))] → va_P g.1 classes (Sw shM g ad S) H → va_D A (Sw shM g ad S) → va_S A s.heap H locs → W p l e R s m args below meth c H locs cells slots Q (F0 m 0 ls [])) ∧ (∀ (S : sS) (L : Nat → Int32) (M : Nat → Int64) (ls : Array Slot) (H : Heap) (locs : List Loc), f_Mod_isBlank k9 1 S L M = some (r, S9) → lv_has ls 1 [(0, .int (L 0))] → va_P g.1 classes (Sw shM g ad S) H → va_D A (Sw shM g ad S) → va_S A s.heap H locs → W p l e R s m args below meth c H locs cells slots Q (F0 m 30 ls [])) ∧ (∀ (S : sS) (L : Nat → Int32) (M : Nat → Int64) (ls : Array Slot) (H : Heap) (locs : List Loc), f_Mod_isBlank k9 2 S L M = some (r, S9) → lv_has ls 1 [(0, .int (L 0))] → va_P g.1 classes (Sw shM g ad S) H → va_D A (Sw shM g ad S) → va_S A s.heap H locs → W p l e R s m args below meth c H locs cells slots Q (F0 m 35 ls [.int (L 100)])) := by
  intro k9
  induction k9 with
  | zero => exact ⟨(fun _ _ _ _ _ _ h => by simp [f_Mod_isBlank] at h), (fun _ _ _ _ _ _ h => by simp [f_Mod_isBlank] at h), (fun _ _ _ _ _ _ h => by simp [f_Mod_isBlank] at h)⟩
  | succ k9 ih =>
    refine ⟨?_, ?_, ?_⟩
    · intro S L M ls H locs h hl hP hD hS
      simp only [f_Mod_isBlank] at h
      refine lv_iload_n hx hb d_Mod_isBlank_0 rfl (lv_at hl 0 rfl) ?_
      refine lv_bipush (v := 32) hx hb d_Mod_isBlank_1 (by decide) ?_
      refine lv_icmp_eq (tgt := 30) hx hb d_Mod_isBlank_3 (by decide) (fun hc1 => ?_) (fun hc1 => ?_)
      · rw [if_pos hc1] at h
        exact (ih.2.1) S L M ls H locs h (lv_sub hl [0] rfl) hP hD hS
      · rw [if_neg hc1] at h
        refine lv_iload_n hx hb d_Mod_isBlank_6 rfl (lv_at hl 0 rfl) ?_
        refine lv_bipush (v := 9) hx hb d_Mod_isBlank_7 (by decide) ?_
        refine lv_icmp_eq (tgt := 30) hx hb d_Mod_isBlank_9 (by decide) (fun hc2 => ?_) (fun hc2 => ?_)
        · rw [if_pos hc2] at h
          exact (ih.2.1) S L M ls H locs h (lv_sub hl [0] rfl) hP hD hS
        · rw [if_neg hc2] at h
          refine lv_iload_n hx hb d_Mod_isBlank_12 rfl (lv_at hl 0 rfl) ?_
          refine lv_bipush (v := 11) hx hb d_Mod_isBlank_13 (by decide) ?_
          refine lv_icmp_eq (tgt := 30) hx hb d_Mod_isBlank_15 (by decide) (fun hc3 => ?_) (fun hc3 => ?_)
          · rw [if_pos hc3] at h
            exact (ih.2.1) S L M ls H locs h (lv_sub hl [0] rfl) hP hD hS
          · rw [if_neg hc3] at h
            refine lv_iload_n hx hb d_Mod_isBlank_18 rfl (lv_at hl 0 rfl) ?_
            refine lv_bipush (v := 12) hx hb d_Mod_isBlank_19 (by decide) ?_
            refine lv_icmp_eq (tgt := 30) hx hb d_Mod_isBlank_21 (by decide) (fun hc4 => ?_) (fun hc4 => ?_)
            · rw [if_pos hc4] at h
              exact (ih.2.1) S L M ls H locs h (lv_sub hl [0] rfl) hP hD hS
            · rw [if_neg hc4] at h
              refine lv_iload_n hx hb d_Mod_isBlank_24 rfl (lv_at hl 0 rfl) ?_
              refine lv_bipush (v := 13) hx hb d_Mod_isBlank_25 (by decide) ?_
              refine lv_icmp_ne (tgt := 34) hx hb d_Mod_isBlank_27 (by decide) (fun hc5 => ?_) (fun hc5 => ?_)
              · rw [if_neg hc5] at h
                refine lv_iconst (v := 0) hx hb d_Mod_isBlank_34 (by decide) ?_
                exact (ih.2.2) S (upd L 100 (0 : Int32)) M ls H locs h (lv_sub hl [0] rfl) hP hD hS
              · rw [if_pos hc5] at h
                exact (ih.2.1) S L M ls H locs h (lv_sub hl [0] rfl) hP hD hS
    · intro S L M ls H locs h hl hP hD hS
      simp only [f_Mod_isBlank] at h
      refine lv_iconst (v := 1) hx hb d_Mod_isBlank_30 (by decide) ?_
      refine lv_goto (tgt := 35) hx hb d_Mod_isBlank_31 (by decide) ?_
      exact (ih.2.2) S (upd L 100 (1 : Int32)) M ls H locs h (lv_sub hl [0] rfl) hP hD hS
    · intro S L M ls H locs h hl hP hD hS
      simp only [f_Mod_isBlank] at h
      obtain ⟨hv1, h⟩ := chk h
      cases h
      exact kx_35 ls H locs (bz_n hv1) hP hD hS
abbrev rm_t_Mod_isBlank : Room := { frames := 0, cells := 0, slots := 0, locals := 0 }
theorem t_Mod_isBlank (l : Launch) (g : gG) (sz : Nat) (ad : Nat → Nat) (S : sS) (v1 : Int32) (k : Nat) (r : Int32) (S9 : sS) (h : f_Mod_isBlank k 0 S (upd (fun _ => 0) 0 v1) (fun _ => 0) = some (r, S9)) : Cz l y_Mod_isBlank b_Mod_isBlank 1 rm_t_Mod_isBlank g [.int v1] (Sw shM g ad S) sz (fun r1 w => ∃ S1 : sS, w = Sw shM g ad S1 ∧ r1 = r ∧ S1 = S9) := by
  refine startZ (by decide) (Nat.le_of_ble_eq_true rfl) ?_
  intro p e s m below meth c A ls hx hb hr hml hlocks hmn hown htt hN hA hP hK hD hS hl
  exact (w_Mod_isBlank hx hb hml hown htt hK hN hA r S9 (fun ls H locs hz hP hD hS => fin_z (g := g) (ws := Sw shM g ad S9) hx hb hr hlocks hz (by decide +kernel) (by decide +kernel) hP hD hS ⟨_, rfl, rfl, rfl⟩ d_Mod_isBlank_35) k).1 S (upd (fun _ => 0) 0 v1) (fun _ => 0) ls _ _ h hl hP hD hS
def f_Mod_fail : Nat → Nat → sS → (Nat → Int32) → (Nat → Int64) → Option (Int32 × sS)
  | 0, _, _, _, _ => none
  | k + 1, 0, S, L, M => if (S.1 0 10) = (0 : Int32) then (f_Mod_fail k 1 (putI (putI (putI S 0 10 (L 1)) 0 11 (L 2)) 0 12 (L 3)) L M) else (f_Mod_fail k 1 S L M)
  | k + 1, 1, S, L, M => some ((0 : Int32), S)
  | _ + 1, _ + 2, _, _, _ => none
set_option maxHeartbeats 8000000 in
set_option maxRecDepth 100000 in
theorem w_Mod_fail {p : Program} {l : Launch} {e : Env} {R : Room} {s : State} {m : MethodId} {args : Array Value} {below : List Frame} {meth : Method} {c : Code} {cells slots : Nat} {Q : State → Prop} {g : gG} {A : Nat → Prop} {ad : Nat → Nat} (hx : p.tables.exec = Jvm.exec) (hb : c.code = b_Mod_fail) (hml : c.maxLocals = 4) (hown : s.vm.findClass "MacroMillModel" = some m.cls) (htt : ∀ w ∈ gt, w.before args s = true) (hK : va_K g.1 classes (tysG g) s) (hN : nw s) (hA : ∀ q : Nat, s.heap.size ≤ q → A q) (r : Int32) (S9 : sS)
    (kx_22 : ∀ (ls : Array Slot) (H : Heap) (locs : List Loc), va_P g.1 classes (Sw shM g ad S9) H → va_D A (Sw shM g ad S9) → va_S A s.heap H locs → W p l e R s m args below meth c H locs cells slots Q (F0 m 22 ls [])) :
    ∀ k9 : Nat, (∀ (S : sS) (L : Nat → Int32) (M : Nat → Int64) (ls : Array Slot) (H : Heap) (locs : List Loc), f_Mod_fail k9 0 S L M = some (r, S9) → lv_has ls 4 [(0, .ref (ad 0)), (1, .int (L 1)), (2, .int (L 2)), (3, .int (L 3))] → va_P g.1 classes (Sw shM g ad S) H → va_D A (Sw shM g ad S) → va_S A s.heap H locs → W p l e R s m args below meth c H locs cells slots Q (F0 m 0 ls [])) ∧ (∀ (S : sS) (L : Nat → Int32) (M : Nat → Int64) (ls : Array Slot) (H : Heap) (locs : List Loc), f_Mod_fail k9 1 S L M = some (r, S9) → lv_has ls 4 [(0, .ref (ad 0)), (1, .int (L 1)), (2, .int (L 2)), (3, .int (L 3))] → va_P g.1 classes (Sw shM g ad S) H → va_D A (Sw shM g ad S) → va_S A s.heap H locs → W p l e R s m args below meth c H locs cells slots Q (F0 m 22 ls [])) := by
  intro k9
  induction k9 with
  | zero => exact ⟨(fun _ _ _ _ _ _ h => by simp [f_Mod_fail] at h), (fun _ _ _ _ _ _ h => by simp [f_Mod_fail] at h)⟩
  | succ k9 ih =>
    refine ⟨?_, ?_⟩
    · intro S L M ls H locs h hl hP hD hS
      simp only [f_Mod_fail] at h
      refine lv_aload_n hx hb d_Mod_fail_0 rfl (lv_at hl 0 rfl) ?_
      refine S_getI (h := shM) (C := "MacroMillModel") (T := F_Mod) hx hb htt in_Mod hown hK hP 0 10 rfl rfl rfl (by decide) (htt _ k_2246) (fun _ h9 => h9) d_Mod_fail_1 ?_
      refine lv_if_ne (tgt := 22) hx hb d_Mod_fail_4 (by decide) (fun hc1 => ?_) (fun hc1 => ?_)
      · rw [if_neg hc1] at h
        exact (ih.2) S L M ls H locs h (lv_sub hl [0, 1, 2, 3] rfl) hP hD hS
      · rw [if_pos hc1] at h
        refine lv_aload_n hx hb d_Mod_fail_7 rfl (lv_at hl 0 rfl) ?_
        refine lv_iload_n hx hb d_Mod_fail_8 rfl (lv_at hl 1 rfl) ?_
        refine S_put (h := shM) (C := "MacroMillModel") (T := F_Mod) (v := L 1) hx hb htt in_Mod t_Mod t_Mod_ok n_Mod hown hK hP hD hS 0 10 rfl rfl rfl (by decide) (htt _ k_2246) (fun _ h9 => h9) rfl rfl rfl d_Mod_fail_9 (fun H locs hP hD hS => ?_)
        refine lv_aload_n hx hb d_Mod_fail_12 rfl (lv_at hl 0 rfl) ?_
        refine lv_iload_n hx hb d_Mod_fail_13 rfl (lv_at hl 2 rfl) ?_
        refine S_put (h := shM) (C := "MacroMillModel") (T := F_Mod) (v := L 2) hx hb htt in_Mod t_Mod t_Mod_ok n_Mod hown hK hP hD hS 0 11 rfl rfl rfl (by decide) (htt _ k_2247) (fun _ h9 => h9) rfl rfl rfl d_Mod_fail_14 (fun H locs hP hD hS => ?_)
        refine lv_aload_n hx hb d_Mod_fail_17 rfl (lv_at hl 0 rfl) ?_
        refine lv_iload_n hx hb d_Mod_fail_18 rfl (lv_at hl 3 rfl) ?_
        refine S_put (h := shM) (C := "MacroMillModel") (T := F_Mod) (v := L 3) hx hb htt in_Mod t_Mod t_Mod_ok n_Mod hown hK hP hD hS 0 12 rfl rfl rfl (by decide) (htt _ k_2248) (fun _ h9 => h9) rfl rfl rfl d_Mod_fail_19 (fun H locs hP hD hS => ?_)
        exact (ih.2) (putI (putI (putI S 0 10 (L 1)) 0 11 (L 2)) 0 12 (L 3)) L M ls H locs h (lv_sub hl [0, 1, 2, 3] rfl) hP hD hS
    · intro S L M ls H locs h hl hP hD hS
      simp only [f_Mod_fail] at h
      cases h
      exact kx_22 ls H locs hP hD hS
abbrev rm_t_Mod_fail : Room := { frames := 0, cells := 0, slots := 0, locals := 0 }
theorem t_Mod_fail (l : Launch) (g : gG) (sz : Nat) (ad : Nat → Nat) (S : sS) (v1 : Int32) (v2 : Int32) (v3 : Int32) (k : Nat) (r : Int32) (S9 : sS) (h : f_Mod_fail k 0 S (upd (upd (upd (fun _ => 0) 1 v1) 2 v2) 3 v3) (fun _ => 0) = some (r, S9)) : Cv l y_Mod_fail b_Mod_fail 4 rm_t_Mod_fail g [.ref (ad 0), .int v1, .int v2, .int v3] (Sw shM g ad S) sz (fun w => ∃ S1 : sS, w = Sw shM g ad S1 ∧ S1 = S9) := by
  refine startV (by decide) (Nat.le_of_ble_eq_true rfl) ?_
  intro p e s m below meth c A ls hx hb hr hml hlocks hmn hown htt hN hA hP hK hD hS hl
  exact (w_Mod_fail hx hb hml hown htt hK hN hA r S9 (fun ls H locs hP hD hS => fin_v (g := g) (ws := Sw shM g ad S9) hx hb hr hlocks (by decide +kernel) (by decide +kernel) hP hD hS ⟨_, rfl, rfl⟩ d_Mod_fail_22) k).1 S (upd (upd (upd (fun _ => 0) 1 v1) 2 v2) 3 v3) (fun _ => 0) ls _ _ h hl hP hD hS
def f_Mod_inputLeft : Nat → Nat → sS → (Nat → Int32) → (Nat → Int64) → Option (Int32 × sS)
  | 0, _, _, _, _ => none
  | k + 1, 0, S, L, M => some ((32768 : Int32) - (S.1 0 20), S)
  | _ + 1, _ + 1, _, _, _ => none
set_option maxHeartbeats 8000000 in
set_option maxRecDepth 100000 in
theorem w_Mod_inputLeft {p : Program} {l : Launch} {e : Env} {R : Room} {s : State} {m : MethodId} {args : Array Value} {below : List Frame} {meth : Method} {c : Code} {cells slots : Nat} {Q : State → Prop} {g : gG} {A : Nat → Prop} {ad : Nat → Nat} (hx : p.tables.exec = Jvm.exec) (hb : c.code = b_Mod_inputLeft) (hml : c.maxLocals = 1) (hown : s.vm.findClass "MacroMillModel" = some m.cls) (htt : ∀ w ∈ gt, w.before args s = true) (hK : va_K g.1 classes (tysG g) s) (hN : nw s) (hA : ∀ q : Nat, s.heap.size ≤ q → A q) (r : Int32) (S9 : sS)
    (kx_7 : ∀ (ls : Array Slot) (H : Heap) (locs : List Loc), va_P g.1 classes (Sw shM g ad S9) H → va_D A (Sw shM g ad S9) → va_S A s.heap H locs → W p l e R s m args below meth c H locs cells slots Q (F0 m 7 ls [.int r])) :
    ∀ k9 : Nat, (∀ (S : sS) (L : Nat → Int32) (M : Nat → Int64) (ls : Array Slot) (H : Heap) (locs : List Loc), f_Mod_inputLeft k9 0 S L M = some (r, S9) → lv_has ls 1 [(0, .ref (ad 0))] → va_P g.1 classes (Sw shM g ad S) H → va_D A (Sw shM g ad S) → va_S A s.heap H locs → W p l e R s m args below meth c H locs cells slots Q (F0 m 0 ls [])) := by
  intro k9
  induction k9 with
  | zero => exact (fun _ _ _ _ _ _ h => by simp [f_Mod_inputLeft] at h)
  | succ k9 ih =>
    · intro S L M ls H locs h hl hP hD hS
      simp only [f_Mod_inputLeft] at h
      refine lv_ldc (v := 32768) hx hb hown (htt _ k_2229) d_Mod_inputLeft_0 ?_
      refine lv_aload_n hx hb d_Mod_inputLeft_2 rfl (lv_at hl 0 rfl) ?_
      refine S_getI (h := shM) (C := "MacroMillModel") (T := F_Mod) hx hb htt in_Mod hown hK hP 0 20 rfl rfl rfl (by decide) (htt _ k_2256) (fun _ h9 => h9) d_Mod_inputLeft_3 ?_
      refine lv_isub hx hb d_Mod_inputLeft_6 ?_
      cases h
      exact kx_7 ls H locs hP hD hS
abbrev rm_t_Mod_inputLeft : Room := { frames := 0, cells := 0, slots := 0, locals := 0 }
theorem t_Mod_inputLeft (l : Launch) (g : gG) (sz : Nat) (ad : Nat → Nat) (S : sS) (k : Nat) (r : Int32) (S9 : sS) (h : f_Mod_inputLeft k 0 S (fun _ => 0) (fun _ => 0) = some (r, S9)) : Ci l y_Mod_inputLeft b_Mod_inputLeft 1 rm_t_Mod_inputLeft g [.ref (ad 0)] (Sw shM g ad S) sz (fun r1 w => ∃ S1 : sS, w = Sw shM g ad S1 ∧ r1 = r ∧ S1 = S9) := by
  refine startI (by decide) (Nat.le_of_ble_eq_true rfl) ?_
  intro p e s m below meth c A ls hx hb hr hml hlocks hmn hown htt hN hA hP hK hD hS hl
  exact (w_Mod_inputLeft hx hb hml hown htt hK hN hA r S9 (fun ls H locs hP hD hS => fin_i (g := g) (ws := Sw shM g ad S9) hx hb hr hlocks (by decide +kernel) (by decide +kernel) hP hD hS ⟨_, rfl, rfl, rfl⟩ d_Mod_inputLeft_7) k) S (fun _ => 0) (fun _ => 0) ls _ _ h hl hP hD hS
def f_Mod_peek : Nat → Nat → sS → (Nat → Int32) → (Nat → Int64) → Option (Int32 × sS)
  | 0, _, _, _, _ => none
  | k + 1, 0, S, L, M => if (32768 : Int32) ≤ ((S.1 0 20) + (L 1)) then (f_Mod_peek k 1 S (upd L 100 ((-1) : Int32)) M) else (if okI ((S.1 0 20) + (L 1)) 32768 = true then (f_Mod_peek k 1 S (upd L 100 ((S.2.1 7 ((S.1 0 20) + (L 1) : Int32).toNatClampNeg) &&& (255 : Int32))) M) else none)
  | k + 1, 1, S, L, M => some (L 100, S)
  | _ + 1, _ + 2, _, _, _ => none
set_option maxHeartbeats 8000000 in
set_option maxRecDepth 100000 in
theorem w_Mod_peek {p : Program} {l : Launch} {e : Env} {R : Room} {s : State} {m : MethodId} {args : Array Value} {below : List Frame} {meth : Method} {c : Code} {cells slots : Nat} {Q : State → Prop} {g : gG} {A : Nat → Prop} {ad : Nat → Nat} (hx : p.tables.exec = Jvm.exec) (hb : c.code = b_Mod_peek) (hml : c.maxLocals = 2) (hown : s.vm.findClass "MacroMillModel" = some m.cls) (htt : ∀ w ∈ gt, w.before args s = true) (hK : va_K g.1 classes (tysG g) s) (hN : nw s) (hA : ∀ q : Nat, s.heap.size ≤ q → A q) (r : Int32) (S9 : sS)
    (kx_30 : ∀ (ls : Array Slot) (H : Heap) (locs : List Loc), va_P g.1 classes (Sw shM g ad S9) H → va_D A (Sw shM g ad S9) → va_S A s.heap H locs → W p l e R s m args below meth c H locs cells slots Q (F0 m 30 ls [.int r])) :
    ∀ k9 : Nat, (∀ (S : sS) (L : Nat → Int32) (M : Nat → Int64) (ls : Array Slot) (H : Heap) (locs : List Loc), f_Mod_peek k9 0 S L M = some (r, S9) → lv_has ls 2 [(0, .ref (ad 0)), (1, .int (L 1))] → va_P g.1 classes (Sw shM g ad S) H → va_D A (Sw shM g ad S) → va_S A s.heap H locs → W p l e R s m args below meth c H locs cells slots Q (F0 m 0 ls [])) ∧ (∀ (S : sS) (L : Nat → Int32) (M : Nat → Int64) (ls : Array Slot) (H : Heap) (locs : List Loc), f_Mod_peek k9 1 S L M = some (r, S9) → lv_has ls 2 [(0, .ref (ad 0)), (1, .int (L 1))] → va_P g.1 classes (Sw shM g ad S) H → va_D A (Sw shM g ad S) → va_S A s.heap H locs → W p l e R s m args below meth c H locs cells slots Q (F0 m 30 ls [.int (L 100)])) := by
  intro k9
  induction k9 with
  | zero => exact ⟨(fun _ _ _ _ _ _ h => by simp [f_Mod_peek] at h), (fun _ _ _ _ _ _ h => by simp [f_Mod_peek] at h)⟩
  | succ k9 ih =>
    refine ⟨?_, ?_⟩
    · intro S L M ls H locs h hl hP hD hS
      simp only [f_Mod_peek] at h
      refine lv_aload_n hx hb d_Mod_peek_0 rfl (lv_at hl 0 rfl) ?_
      refine S_getI (h := shM) (C := "MacroMillModel") (T := F_Mod) hx hb htt in_Mod hown hK hP 0 20 rfl rfl rfl (by decide) (htt _ k_2256) (fun _ h9 => h9) d_Mod_peek_1 ?_
      refine lv_iload_n hx hb d_Mod_peek_4 rfl (lv_at hl 1 rfl) ?_
      refine lv_iadd hx hb d_Mod_peek_5 ?_
      refine lv_ldc (v := 32768) hx hb hown (htt _ k_2229) d_Mod_peek_6 ?_
      refine lv_icmp_ge (tgt := 29) hx hb d_Mod_peek_8 (by decide) (fun hc1 => ?_) (fun hc1 => ?_)
      · rw [if_pos hc1] at h
        refine lv_iconst (v := (-1)) hx hb d_Mod_peek_29 (by decide) ?_
        exact (ih.2) S (upd L 100 ((-1) : Int32)) M ls H locs h (lv_sub hl [0, 1] rfl) hP hD hS
      · rw [if_neg hc1] at h
        refine lv_aload_n hx hb d_Mod_peek_11 rfl (lv_at hl 0 rfl) ?_
        refine S_getR (h := shM) (C := "MacroMillModel") (T := F_Mod) hx hb htt in_Mod hown hK hP 0 19 rfl 8 rfl rfl (by decide) (htt _ k_2255) (fun _ h9 => h9) d_Mod_peek_12 ?_
        refine lv_aload_n hx hb d_Mod_peek_15 rfl (lv_at hl 0 rfl) ?_
        refine S_getI (h := shM) (C := "MacroMillModel") (T := F_Mod) hx hb htt in_Mod hown hK hP 0 20 rfl rfl rfl (by decide) (htt _ k_2256) (fun _ h9 => h9) d_Mod_peek_16 ?_
        refine lv_iload_n hx hb d_Mod_peek_19 rfl (lv_at hl 1 rfl) ?_
        refine lv_iadd hx hb d_Mod_peek_20 ?_
        obtain ⟨hv2, h⟩ := chk h
        show W _ _ _ _ _ _ _ _ _ _ _ _ _ _ _ (F0 _ 21 _ _)
        refine S_bald (h := shM) (i := (S.1 0 20) + (L 1)) hx hb hK hP 7 rfl (okI_in hv2) d_Mod_peek_21 ?_
        refine lv_sipush (v := 255) hx hb d_Mod_peek_22 (by decide) ?_
        refine lv_iand hx hb d_Mod_peek_25 ?_
        refine lv_goto (tgt := 30) hx hb d_Mod_peek_26 (by decide) ?_
        exact (ih.2) S (upd L 100 ((S.2.1 7 ((S.1 0 20) + (L 1) : Int32).toNatClampNeg) &&& (255 : Int32))) M ls H locs h (lv_sub hl [0, 1] rfl) hP hD hS
    · intro S L M ls H locs h hl hP hD hS
      simp only [f_Mod_peek] at h
      cases h
      exact kx_30 ls H locs hP hD hS
abbrev rm_t_Mod_peek : Room := { frames := 0, cells := 0, slots := 0, locals := 0 }
theorem t_Mod_peek (l : Launch) (g : gG) (sz : Nat) (ad : Nat → Nat) (S : sS) (v1 : Int32) (k : Nat) (r : Int32) (S9 : sS) (h : f_Mod_peek k 0 S (upd (fun _ => 0) 1 v1) (fun _ => 0) = some (r, S9)) : Ci l y_Mod_peek b_Mod_peek 2 rm_t_Mod_peek g [.ref (ad 0), .int v1] (Sw shM g ad S) sz (fun r1 w => ∃ S1 : sS, w = Sw shM g ad S1 ∧ r1 = r ∧ S1 = S9) := by
  refine startI (by decide) (Nat.le_of_ble_eq_true rfl) ?_
  intro p e s m below meth c A ls hx hb hr hml hlocks hmn hown htt hN hA hP hK hD hS hl
  exact (w_Mod_peek hx hb hml hown htt hK hN hA r S9 (fun ls H locs hP hD hS => fin_i (g := g) (ws := Sw shM g ad S9) hx hb hr hlocks (by decide +kernel) (by decide +kernel) hP hD hS ⟨_, rfl, rfl, rfl⟩ d_Mod_peek_30) k).1 S (upd (fun _ => 0) 1 v1) (fun _ => 0) ls _ _ h hl hP hD hS
def f_Mod_fail1 : Nat → Nat → sS → (Nat → Int32) → (Nat → Int64) → Option (Int32 × sS)
  | 0, _, _, _, _ => none
  | k + 1, 0, S, L, M => (f_Mod_fail k 0 S (upd (upd (upd (fun _ => 0) 1 (L 1 : Int32)) 2 (S.1 0 22 : Int32)) 3 (S.1 0 23 : Int32)) (fun _ => 0)).bind (fun (r1, T1) => some ((0 : Int32), T1))
  | _ + 1, _ + 1, _, _, _ => none
set_option maxHeartbeats 8000000 in
set_option maxRecDepth 100000 in
theorem w_Mod_fail1 {p : Program} {l : Launch} {e : Env} {R : Room} {s : State} {m : MethodId} {args : Array Value} {below : List Frame} {meth : Method} {c : Code} {cells slots : Nat} {Q : State → Prop} {g : gG} {A : Nat → Prop} {ad : Nat → Nat} (hx : p.tables.exec = Jvm.exec) (hb : c.code = b_Mod_fail1) (hml : c.maxLocals = 2) (hown : s.vm.findClass "MacroMillModel" = some m.cls) (htt : ∀ w ∈ gt, w.before args s = true) (hK : va_K g.1 classes (tysG g) s) (hN : nw s) (hA : ∀ q : Nat, s.heap.size ≤ q → A q) (hRf : 1 ≤ R.frames) (hRl : 23 ≤ R.locals) (hRc : cells ≤ R.cells) (hRs : slots ≤ R.slots) (r : Int32) (S9 : sS)
    (kx_13 : ∀ (ls : Array Slot) (H : Heap) (locs : List Loc), va_P g.1 classes (Sw shM g ad S9) H → va_D A (Sw shM g ad S9) → va_S A s.heap H locs → W p l e R s m args below meth c H locs cells slots Q (F0 m 13 ls [])) :
    ∀ k9 : Nat, (∀ (S : sS) (L : Nat → Int32) (M : Nat → Int64) (ls : Array Slot) (H : Heap) (locs : List Loc), f_Mod_fail1 k9 0 S L M = some (r, S9) → lv_has ls 2 [(0, .ref (ad 0)), (1, .int (L 1))] → va_P g.1 classes (Sw shM g ad S) H → va_D A (Sw shM g ad S) → va_S A s.heap H locs → W p l e R s m args below meth c H locs cells slots Q (F0 m 0 ls [])) := by
  intro k9
  induction k9 with
  | zero => exact (fun _ _ _ _ _ _ h => by simp [f_Mod_fail1] at h)
  | succ k9 ih =>
    · intro S L M ls H locs h hl hP hD hS
      simp only [f_Mod_fail1] at h
      refine lv_aload_n hx hb d_Mod_fail1_0 rfl (lv_at hl 0 rfl) ?_
      refine lv_iload_n hx hb d_Mod_fail1_1 rfl (lv_at hl 1 rfl) ?_
      refine lv_aload_n hx hb d_Mod_fail1_2 rfl (lv_at hl 0 rfl) ?_
      refine S_getI (h := shM) (C := "MacroMillModel") (T := F_Mod) hx hb htt in_Mod hown hK hP 0 22 rfl rfl rfl (by decide) (htt _ k_2258) (fun _ h9 => h9) d_Mod_fail1_3 ?_
      refine lv_aload_n hx hb d_Mod_fail1_6 rfl (lv_at hl 0 rfl) ?_
      refine S_getI (h := shM) (C := "MacroMillModel") (T := F_Mod) hx hb htt in_Mod hown hK hP 0 23 rfl rfl rfl (by decide) (htt _ k_2259) (fun _ h9 => h9) d_Mod_fail1_7 ?_
      obtain ⟨⟨r1, T1⟩, hq1, h⟩ := Option.bind_eq_some_iff.mp h
      try dsimp only at h
      refine go_vS (As := [.ref (ad 0), .int (L 1), .int (S.1 0 22), .int (S.1 0 23)]) (g := g) (A := A) (h := shM) hP hK hD hS hA hN (fun hp => va_runV (As := [.int (L 1), .int (S.1 0 22), .int (S.1 0 23)]) (rest := []) ⟨hx, hb, hml, hown, htt⟩ (t_Mod_fail l g _ ad S (L 1 : Int32) (S.1 0 22 : Int32) (S.1 0 23 : Int32) k9 r1 T1 hq1) ⟨(cb_L htt k_2771 k_276 k_2768 hd_Mod_fail ⟨(Nat.le_trans (by decide +kernel) hRf), (Nat.le_trans (by decide +kernel) hRl)⟩), htt _ k_2770, htt _ k_139⟩ ⟨hp.1, S_recv hK hP 0 rfl rfl, hp.2⟩ rfl rfl hl.1 rfl (lv_room (Nat.le_of_ble_eq_true rfl)) d_Mod_fail1_10 ⟨hRc, hRs⟩) (fun Sn H locs hw9 hP hD hS => ?_)
      have e8 := hw9
      rw [e8] at hP hD
      refine W.widen (k := cells) (n := slots) (Nat.le_refl _) (Nat.le_refl _) ?_
      cases h
      exact kx_13 ls H locs hP hD hS
abbrev rm_t_Mod_fail1 : Room := { frames := 1, cells := 0, slots := 0, locals := 23 }
theorem t_Mod_fail1 (l : Launch) (g : gG) (sz : Nat) (ad : Nat → Nat) (S : sS) (v1 : Int32) (k : Nat) (r : Int32) (S9 : sS) (h : f_Mod_fail1 k 0 S (upd (fun _ => 0) 1 v1) (fun _ => 0) = some (r, S9)) : Cv l y_Mod_fail1 b_Mod_fail1 2 rm_t_Mod_fail1 g [.ref (ad 0), .int v1] (Sw shM g ad S) sz (fun w => ∃ S1 : sS, w = Sw shM g ad S1 ∧ S1 = S9) := by
  refine startV (by decide) (Nat.le_of_ble_eq_true rfl) ?_
  intro p e s m below meth c A ls hx hb hr hml hlocks hmn hown htt hN hA hP hK hD hS hl
  exact (w_Mod_fail1 hx hb hml hown htt hK hN hA (by decide +kernel) (by decide +kernel) (by decide +kernel) (by decide +kernel) r S9 (fun ls H locs hP hD hS => fin_v (g := g) (ws := Sw shM g ad S9) hx hb hr hlocks (by decide +kernel) (by decide +kernel) hP hD hS ⟨_, rfl, rfl⟩ d_Mod_fail1_13) k) S (upd (fun _ => 0) 1 v1) (fun _ => 0) ls _ _ h hl hP hD hS
def f_Mod_isAhead (x1 : Nat) (nx1 : Nat) : Nat → Nat → sS → (Nat → Int32) → (Nat → Int64) → Option (Int32 × sS)
  | 0, _, _, _, _ => none
  | k + 1, 0, S, L, M => if (L 2) ≤ (0 : Int32) then (f_Mod_isAhead x1 nx1 k 1 S (upd L 100 (0 : Int32)) M) else (f_Mod_isAhead x1 nx1 k 1 S (upd L 100 (1 : Int32)) M)
  | k + 1, 1, S, L, M => f_Mod_isAhead x1 nx1 k 2 S (upd (upd L 3 (L 100)) 4 (0 : Int32)) M
  | k + 1, 2, S, L, M => if (L 2) ≤ (L 4) then (f_Mod_isAhead x1 nx1 k 4 S L M) else (if (L 3) = (0 : Int32) then (f_Mod_isAhead x1 nx1 k 4 S L M) else ((f_Mod_peek k 0 S (upd (fun _ => 0) 1 (L 4 : Int32)) (fun _ => 0)).bind (fun (r3, T3) => if okI (L 4) nx1 = true then (if r3 = (T3.2.1 x1 (L 4 : Int32).toNatClampNeg) then (f_Mod_isAhead x1 nx1 k 3 T3 (upd L 100 (1 : Int32)) M) else (f_Mod_isAhead x1 nx1 k 3 T3 (upd L 100 (0 : Int32)) M)) else none)))
  | k + 1, 3, S, L, M => f_Mod_isAhead x1 nx1 k 2 S (upd (upd L 3 (L 100)) 4 ((L 4) + 1)) M
  | k + 1, 4, S, L, M => if bz (L 3) = true then some (L 3, S) else none
  | _ + 1, _ + 5, _, _, _ => none
set_option maxHeartbeats 8000000 in
set_option maxRecDepth 100000 in
theorem w_Mod_isAhead {p : Program} {l : Launch} {e : Env} {R : Room} {s : State} {m : MethodId} {args : Array Value} {below : List Frame} {meth : Method} {c : Code} {cells slots : Nat} {Q : State → Prop} {g : gG} {A : Nat → Prop} {ad : Nat → Nat} (hx : p.tables.exec = Jvm.exec) (hb : c.code = b_Mod_isAhead) (hml : c.maxLocals = 5) (hown : s.vm.findClass "MacroMillModel" = some m.cls) (htt : ∀ w ∈ gt, w.before args s = true) (hK : va_K g.1 classes (tysG g) s) (hN : nw s) (hA : ∀ q : Nat, s.heap.size ≤ q → A q) (hRf : 1 ≤ R.frames) (hRl : 21 ≤ R.locals) (hRc : cells ≤ R.cells) (hRs : slots ≤ R.slots) (x1 : Nat) (nx1 : Nat) (hx1 : shM.2[x1]? = some (1, nx1)) (r : Int32) (S9 : sS)
    (kx_49 : ∀ (ls : Array Slot) (H : Heap) (locs : List Loc), narrow .boolean (.int r) = .int r → va_P g.1 classes (Sw shM g ad S9) H → va_D A (Sw shM g ad S9) → va_S A s.heap H locs → W p l e R s m args below meth c H locs cells slots Q (F0 m 49 ls [.int r])) :
    ∀ k9 : Nat, (∀ (S : sS) (L : Nat → Int32) (M : Nat → Int64) (ls : Array Slot) (H : Heap) (locs : List Loc), f_Mod_isAhead x1 nx1 k9 0 S L M = some (r, S9) → lv_has ls 5 [(0, .ref (ad 0)), (1, .ref (ad (shM.1.length + x1))), (2, .int (L 2))] → va_P g.1 classes (Sw shM g ad S) H → va_D A (Sw shM g ad S) → va_S A s.heap H locs → W p l e R s m args below meth c H locs cells slots Q (F0 m 0 ls [])) ∧ (∀ (S : sS) (L : Nat → Int32) (M : Nat → Int64) (ls : Array Slot) (H : Heap) (locs : List Loc), f_Mod_isAhead x1 nx1 k9 1 S L M = some (r, S9) → lv_has ls 5 [(0, .ref (ad 0)), (1, .ref (ad (shM.1.length + x1))), (2, .int (L 2))] → va_P g.1 classes (Sw shM g ad S) H → va_D A (Sw shM g ad S) → va_S A s.heap H locs → W p l e R s m args below meth c H locs cells slots Q (F0 m 9 ls [.int (L 100)])) ∧ (∀ (S : sS) (L : Nat → Int32) (M : Nat → Int64) (ls : Array Slot) (H : Heap) (locs : List Loc), f_Mod_isAhead x1 nx1 k9 2 S L M = some (r, S9) → lv_has ls 5 [(0, .ref (ad 0)), (1, .ref (ad (shM.1.length + x1))), (2, .int (L 2)), (3, .int (L 3)), (4, .int (L 4))] → va_P g.1 classes (Sw shM g ad S) H → va_D A (Sw shM g ad S) → va_S A s.heap H locs → W p l e R s m args below meth c H locs cells slots Q (F0 m 13 ls [])) ∧ (∀ (S : sS) (L : Nat → Int32) (M : Nat → Int64) (ls : Array Slot) (H : Heap) (locs : List Loc), f_Mod_isAhead x1 nx1 k9 3 S L M = some (r, S9) → lv_has ls 5 [(0, .ref (ad 0)), (1, .ref (ad (shM.1.length + x1))), (2, .int (L 2)), (3, .int (L 3)), (4, .int (L 4))] → va_P g.1 classes (Sw shM g ad S) H → va_D A (Sw shM g ad S) → va_S A s.heap H locs → W p l e R s m args below meth c H locs cells slots Q (F0 m 41 ls [.int (L 100)])) ∧ (∀ (S : sS) (L : Nat → Int32) (M : Nat → Int64) (ls : Array Slot) (H : Heap) (locs : List Loc), f_Mod_isAhead x1 nx1 k9 4 S L M = some (r, S9) → lv_has ls 5 [(0, .ref (ad 0)), (1, .ref (ad (shM.1.length + x1))), (2, .int (L 2)), (3, .int (L 3)), (4, .int (L 4))] → va_P g.1 classes (Sw shM g ad S) H → va_D A (Sw shM g ad S) → va_S A s.heap H locs → W p l e R s m args below meth c H locs cells slots Q (F0 m 48 ls [])) := by
  intro k9
  induction k9 with
  | zero => exact ⟨(fun _ _ _ _ _ _ h => by simp [f_Mod_isAhead] at h), (fun _ _ _ _ _ _ h => by simp [f_Mod_isAhead] at h), (fun _ _ _ _ _ _ h => by simp [f_Mod_isAhead] at h), (fun _ _ _ _ _ _ h => by simp [f_Mod_isAhead] at h), (fun _ _ _ _ _ _ h => by simp [f_Mod_isAhead] at h)⟩
  | succ k9 ih =>
    refine ⟨?_, ?_, ?_, ?_, ?_⟩
    · intro S L M ls H locs h hl hP hD hS
      simp only [f_Mod_isAhead] at h
      refine lv_iload_n hx hb d_Mod_isAhead_0 rfl (lv_at hl 2 rfl) ?_
      refine lv_if_le (tgt := 8) hx hb d_Mod_isAhead_1 (by decide) (fun hc1 => ?_) (fun hc1 => ?_)
      · rw [if_pos hc1] at h
        refine lv_iconst (v := 0) hx hb d_Mod_isAhead_8 (by decide) ?_
        exact (ih.2.1) S (upd L 100 (0 : Int32)) M ls H locs h (lv_sub hl [0, 1, 2] rfl) hP hD hS
      · rw [if_neg hc1] at h
        refine lv_iconst (v := 1) hx hb d_Mod_isAhead_4 (by decide) ?_
        refine lv_goto (tgt := 9) hx hb d_Mod_isAhead_5 (by decide) ?_
        exact (ih.2.1) S (upd L 100 (1 : Int32)) M ls H locs h (lv_sub hl [0, 1, 2] rfl) hP hD hS
    · intro S L M ls H locs h hl hP hD hS
      simp only [f_Mod_isAhead] at h
      refine lv_istore_n (lv' := [(3, .int (L 100)), (0, .ref (ad 0)), (1, .ref (ad (shM.1.length + x1))), (2, .int (L 2))]) hx hb d_Mod_isAhead_9 rfl hl (by decide) rfl (fun ls hl => ?_)
      refine lv_iconst (v := 0) hx hb d_Mod_isAhead_10 (by decide) ?_
      refine lv_istore (lv' := [(4, .int 0), (3, .int (L 100)), (0, .ref (ad 0)), (1, .ref (ad (shM.1.length + x1))), (2, .int (L 2))]) hx hb d_Mod_isAhead_11 hl (by decide) rfl (fun ls hl => ?_)
      exact (ih.2.2.1) S (upd (upd L 3 (L 100)) 4 (0 : Int32)) M ls H locs h (lv_sub hl [2, 3, 4, 1, 0] rfl) hP hD hS
    · intro S L M ls H locs h hl hP hD hS
      simp only [f_Mod_isAhead] at h
      refine lv_iload hx hb d_Mod_isAhead_13 (lv_at hl 4 rfl) ?_
      refine lv_iload_n hx hb d_Mod_isAhead_15 rfl (lv_at hl 2 rfl) ?_
      refine lv_icmp_ge (tgt := 48) hx hb d_Mod_isAhead_16 (by decide) (fun hc1 => ?_) (fun hc1 => ?_)
      · rw [if_pos hc1] at h
        exact (ih.2.2.2.2) S L M ls H locs h (lv_sub hl [0, 1, 2, 3, 4] rfl) hP hD hS
      · rw [if_neg hc1] at h
        refine lv_iload_n hx hb d_Mod_isAhead_19 rfl (lv_at hl 3 rfl) ?_
        refine lv_if_eq (tgt := 48) hx hb d_Mod_isAhead_20 (by decide) (fun hc2 => ?_) (fun hc2 => ?_)
        · rw [if_pos hc2] at h
          exact (ih.2.2.2.2) S L M ls H locs h (lv_sub hl [0, 1, 2, 3, 4] rfl) hP hD hS
        · rw [if_neg hc2] at h
          refine lv_aload_n hx hb d_Mod_isAhead_23 rfl (lv_at hl 0 rfl) ?_
          refine lv_iload hx hb d_Mod_isAhead_24 (lv_at hl 4 rfl) ?_
          obtain ⟨⟨r3, T3⟩, hq3, h⟩ := Option.bind_eq_some_iff.mp h
          try dsimp only at h
          refine go_iS (As := [.ref (ad 0), .int (L 4)]) (g := g) (A := A) (h := shM) hP hK hD hS hA hN (fun hp => va_runV (As := [.int (L 4)]) (rest := []) ⟨hx, hb, hml, hown, htt⟩ (t_Mod_peek l g _ ad S (L 4 : Int32) k9 r3 T3 hq3) ⟨(cb_L htt k_2747 k_276 k_2744 hd_Mod_peek ⟨(Nat.le_trans (by decide +kernel) hRf), (Nat.le_trans (by decide +kernel) hRl)⟩), htt _ k_2746, htt _ k_133⟩ ⟨hp.1, S_recv hK hP 0 rfl rfl, hp.2⟩ rfl rfl hl.1 rfl (lv_room (Nat.le_of_ble_eq_true rfl)) d_Mod_isAhead_26 ⟨hRc, hRs⟩) (fun r0 Sn H locs hw9 hP hD hS => ?_)
          obtain ⟨e9, e8⟩ := hw9
          rw [e8] at hP hD
          refine W.widen (k := cells) (n := slots) (Nat.le_refl _) (Nat.le_refl _) ?_
          refine toI (y := r3) e9 ?_
          refine lv_aload_n hx hb d_Mod_isAhead_29 rfl (lv_at hl 1 rfl) ?_
          refine lv_iload hx hb d_Mod_isAhead_30 (lv_at hl 4 rfl) ?_
          obtain ⟨hv4, h⟩ := chk h
          refine S_iald (h := shM) (i := L 4) hx hb hK hP x1 hx1 (okI_in hv4) d_Mod_isAhead_32 ?_
          refine lv_icmp_ne (tgt := 40) hx hb d_Mod_isAhead_33 (by decide) (fun hc5 => ?_) (fun hc5 => ?_)
          · rw [if_neg hc5] at h
            refine lv_iconst (v := 0) hx hb d_Mod_isAhead_40 (by decide) ?_
            exact (ih.2.2.2.1) T3 (upd L 100 (0 : Int32)) M ls H locs h (lv_sub hl [0, 1, 2, 3, 4] rfl) hP hD hS
          · rw [if_pos hc5] at h
            refine lv_iconst (v := 1) hx hb d_Mod_isAhead_36 (by decide) ?_
            refine lv_goto (tgt := 41) hx hb d_Mod_isAhead_37 (by decide) ?_
            exact (ih.2.2.2.1) T3 (upd L 100 (1 : Int32)) M ls H locs h (lv_sub hl [0, 1, 2, 3, 4] rfl) hP hD hS
    · intro S L M ls H locs h hl hP hD hS
      simp only [f_Mod_isAhead] at h
      refine lv_istore_n (lv' := [(3, .int (L 100)), (0, .ref (ad 0)), (1, .ref (ad (shM.1.length + x1))), (2, .int (L 2)), (4, .int (L 4))]) hx hb d_Mod_isAhead_41 rfl hl (by decide) rfl (fun ls hl => ?_)
      refine lv_iinc (k := 4) (v := (L 4) + 1) (lv' := [(4, .int ((L 4) + 1)), (3, .int (L 100)), (0, .ref (ad 0)), (1, .ref (ad (shM.1.length + x1))), (2, .int (L 2))]) hx hb d_Mod_isAhead_42 hl rfl rfl (by decide) rfl (fun ls hl => ?_)
      refine lv_goto (tgt := 13) hx hb d_Mod_isAhead_45 (by decide) ?_
      exact (ih.2.2.1) S (upd (upd L 3 (L 100)) 4 ((L 4) + 1)) M ls H locs h (lv_sub hl [2, 3, 4, 1, 0] rfl) hP hD hS
    · intro S L M ls H locs h hl hP hD hS
      simp only [f_Mod_isAhead] at h
      refine lv_iload_n hx hb d_Mod_isAhead_48 rfl (lv_at hl 3 rfl) ?_
      obtain ⟨hv1, h⟩ := chk h
      cases h
      exact kx_49 ls H locs (bz_n hv1) hP hD hS
abbrev rm_t_Mod_isAhead : Room := { frames := 1, cells := 0, slots := 0, locals := 21 }
theorem t_Mod_isAhead (l : Launch) (g : gG) (sz : Nat) (ad : Nat → Nat) (S : sS) (x1 : Nat) (nx1 : Nat) (v2 : Int32) (hx1 : shM.2[x1]? = some (1, nx1)) (k : Nat) (r : Int32) (S9 : sS) (h : f_Mod_isAhead x1 nx1 k 0 S (upd (fun _ => 0) 2 v2) (fun _ => 0) = some (r, S9)) : Cz l y_Mod_isAhead b_Mod_isAhead 5 rm_t_Mod_isAhead g [.ref (ad 0), .ref (ad (shM.1.length + x1)), .int v2] (Sw shM g ad S) sz (fun r1 w => ∃ S1 : sS, w = Sw shM g ad S1 ∧ r1 = r ∧ S1 = S9) := by
  refine startZ (by decide) (Nat.le_of_ble_eq_true rfl) ?_
  intro p e s m below meth c A ls hx hb hr hml hlocks hmn hown htt hN hA hP hK hD hS hl
  exact (w_Mod_isAhead hx hb hml hown htt hK hN hA (by decide +kernel) (by decide +kernel) (by decide +kernel) (by decide +kernel) x1 nx1 hx1 r S9 (fun ls H locs hz hP hD hS => fin_z (g := g) (ws := Sw shM g ad S9) hx hb hr hlocks hz (by decide +kernel) (by decide +kernel) hP hD hS ⟨_, rfl, rfl, rfl⟩ d_Mod_isAhead_49) k).1 S (upd (fun _ => 0) 2 v2) (fun _ => 0) ls _ _ h hl hP hD hS
def f_Mod_give : Nat → Nat → sS → (Nat → Int32) → (Nat → Int64) → Option (Int32 × sS)
  | 0, _, _, _, _ => none
  | k + 1, 0, S, L, M => (f_Mod_inputLeft k 0 S (fun _ => 0) (fun _ => 0)).bind (fun (r1, T1) => if ((S.1 0 33) + r1) < (32768 : Int32) then (f_Mod_give k 1 T1 L M) else ((f_Mod_fail1 k 0 T1 (upd (fun _ => 0) 1 (40 : Int32)) (fun _ => 0)).bind (fun (r3, T3) => f_Mod_give k 1 T3 L M)))
  | k + 1, 1, S, L, M => if (S.1 0 10) = (0 : Int32) then (if okI (S.1 0 33) 32769 = true then (f_Mod_give k 2 (putI (putA S 11 (S.1 0 33 : Int32).toNatClampNeg (vp_nar .byte ((L 1).toInt8.toInt32))) 0 33 ((S.1 0 33) + (1 : Int32))) L M) else none) else (f_Mod_give k 2 S L M)
  | k + 1, 2, S, L, M => some ((0 : Int32), S)
  | _ + 1, _ + 3, _, _, _ => none
set_option maxHeartbeats 8000000 in
set_option maxRecDepth 100000 in
theorem w_Mod_give {p : Program} {l : Launch} {e : Env} {R : Room} {s : State} {m : MethodId} {args : Array Value} {below : List Frame} {meth : Method} {c : Code} {cells slots : Nat} {Q : State → Prop} {g : gG} {A : Nat → Prop} {ad : Nat → Nat} (hx : p.tables.exec = Jvm.exec) (hb : c.code = b_Mod_give) (hml : c.maxLocals = 2) (hown : s.vm.findClass "MacroMillModel" = some m.cls) (htt : ∀ w ∈ gt, w.before args s = true) (hK : va_K g.1 classes (tysG g) s) (hN : nw s) (hA : ∀ q : Nat, s.heap.size ≤ q → A q) (hRf : 2 ≤ R.frames) (hRl : 44 ≤ R.locals) (hRc : cells ≤ R.cells) (hRs : slots ≤ R.slots) (r : Int32) (S9 : sS)
    (kx_48 : ∀ (ls : Array Slot) (H : Heap) (locs : List Loc), va_P g.1 classes (Sw shM g ad S9) H → va_D A (Sw shM g ad S9) → va_S A s.heap H locs → W p l e R s m args below meth c H locs cells slots Q (F0 m 48 ls [])) :
    ∀ k9 : Nat, (∀ (S : sS) (L : Nat → Int32) (M : Nat → Int64) (ls : Array Slot) (H : Heap) (locs : List Loc), f_Mod_give k9 0 S L M = some (r, S9) → lv_has ls 2 [(0, .ref (ad 0)), (1, .int (L 1))] → va_P g.1 classes (Sw shM g ad S) H → va_D A (Sw shM g ad S) → va_S A s.heap H locs → W p l e R s m args below meth c H locs cells slots Q (F0 m 0 ls [])) ∧ (∀ (S : sS) (L : Nat → Int32) (M : Nat → Int64) (ls : Array Slot) (H : Heap) (locs : List Loc), f_Mod_give k9 1 S L M = some (r, S9) → lv_has ls 2 [(0, .ref (ad 0)), (1, .int (L 1))] → va_P g.1 classes (Sw shM g ad S) H → va_D A (Sw shM g ad S) → va_S A s.heap H locs → W p l e R s m args below meth c H locs cells slots Q (F0 m 20 ls [])) ∧ (∀ (S : sS) (L : Nat → Int32) (M : Nat → Int64) (ls : Array Slot) (H : Heap) (locs : List Loc), f_Mod_give k9 2 S L M = some (r, S9) → lv_has ls 2 [(0, .ref (ad 0)), (1, .int (L 1))] → va_P g.1 classes (Sw shM g ad S) H → va_D A (Sw shM g ad S) → va_S A s.heap H locs → W p l e R s m args below meth c H locs cells slots Q (F0 m 48 ls [])) := by
  intro k9
  induction k9 with
  | zero => exact ⟨(fun _ _ _ _ _ _ h => by simp [f_Mod_give] at h), (fun _ _ _ _ _ _ h => by simp [f_Mod_give] at h), (fun _ _ _ _ _ _ h => by simp [f_Mod_give] at h)⟩
  | succ k9 ih =>
    refine ⟨?_, ?_, ?_⟩
    · intro S L M ls H locs h hl hP hD hS
      simp only [f_Mod_give] at h
      refine lv_aload_n hx hb d_Mod_give_0 rfl (lv_at hl 0 rfl) ?_
      refine S_getI (h := shM) (C := "MacroMillModel") (T := F_Mod) hx hb htt in_Mod hown hK hP 0 33 rfl rfl rfl (by decide) (htt _ k_2269) (fun _ h9 => h9) d_Mod_give_1 ?_
      refine lv_aload_n hx hb d_Mod_give_4 rfl (lv_at hl 0 rfl) ?_
      obtain ⟨⟨r1, T1⟩, hq1, h⟩ := Option.bind_eq_some_iff.mp h
      try dsimp only at h
      refine go_iS (As := [.ref (ad 0)]) (g := g) (A := A) (h := shM) hP hK hD hS hA hN (fun hp => va_runV (As := []) (rest := [.int (S.1 0 33)]) ⟨hx, hb, hml, hown, htt⟩ (t_Mod_inputLeft l g _ ad S k9 r1 T1 hq1) ⟨(cb_L htt k_2828 k_276 k_2825 hd_Mod_inputLeft ⟨(Nat.le_trans (by decide +kernel) hRf), (Nat.le_trans (by decide +kernel) hRl)⟩), htt _ k_2827, htt _ k_151⟩ ⟨hp.1, S_recv hK hP 0 rfl rfl, hp.2⟩ rfl rfl hl.1 rfl (lv_room (Nat.le_of_ble_eq_true rfl)) d_Mod_give_5 ⟨hRc, hRs⟩) (fun r0 Sn H locs hw9 hP hD hS => ?_)
      obtain ⟨e9, e8⟩ := hw9
      rw [e8] at hP hD
      refine W.widen (k := cells) (n := slots) (Nat.le_refl _) (Nat.le_refl _) ?_
      refine toI (y := r1) e9 ?_
      refine lv_iadd hx hb d_Mod_give_8 ?_
      refine lv_ldc (v := 32768) hx hb hown (htt _ k_2229) d_Mod_give_9 ?_
      refine lv_icmp_lt (tgt := 20) hx hb d_Mod_give_11 (by decide) (fun hc2 => ?_) (fun hc2 => ?_)
      · rw [if_pos hc2] at h
        exact (ih.2.1) T1 L M ls H locs h (lv_sub hl [0, 1] rfl) hP hD hS
      · rw [if_neg hc2] at h
        refine lv_aload_n hx hb d_Mod_give_14 rfl (lv_at hl 0 rfl) ?_
        refine lv_bipush (v := 40) hx hb d_Mod_give_15 (by decide) ?_
        obtain ⟨⟨r3, T3⟩, hq3, h⟩ := Option.bind_eq_some_iff.mp h
        try dsimp only at h
        refine go_vS (As := [.ref (ad 0), .int 40]) (g := g) (A := A) (h := shM) hP hK hD hS hA hN (fun hp => va_runV (As := [.int 40]) (rest := []) ⟨hx, hb, hml, hown, htt⟩ (t_Mod_fail1 l g _ ad T1 (40 : Int32) k9 r3 T3 hq3) ⟨(cb_L htt k_2767 k_276 k_2764 hd_Mod_fail1 ⟨(Nat.le_trans (by decide +kernel) hRf), (Nat.le_trans (by decide +kernel) hRl)⟩), htt _ k_2766, htt _ k_138⟩ ⟨hp.1, S_recv hK hP 0 rfl rfl, hp.2⟩ rfl rfl hl.1 rfl (lv_room (Nat.le_of_ble_eq_true rfl)) d_Mod_give_17 ⟨hRc, hRs⟩) (fun Sn H locs hw9 hP hD hS => ?_)
        have e8 := hw9
        rw [e8] at hP hD
        refine W.widen (k := cells) (n := slots) (Nat.le_refl _) (Nat.le_refl _) ?_
        exact (ih.2.1) T3 L M ls H locs h (lv_sub hl [0, 1] rfl) hP hD hS
    · intro S L M ls H locs h hl hP hD hS
      simp only [f_Mod_give] at h
      refine lv_aload_n hx hb d_Mod_give_20 rfl (lv_at hl 0 rfl) ?_
      refine S_getI (h := shM) (C := "MacroMillModel") (T := F_Mod) hx hb htt in_Mod hown hK hP 0 10 rfl rfl rfl (by decide) (htt _ k_2246) (fun _ h9 => h9) d_Mod_give_21 ?_
      refine lv_if_ne (tgt := 48) hx hb d_Mod_give_24 (by decide) (fun hc1 => ?_) (fun hc1 => ?_)
      · rw [if_neg hc1] at h
        exact (ih.2.2) S L M ls H locs h (lv_sub hl [0, 1] rfl) hP hD hS
      · rw [if_pos hc1] at h
        refine lv_aload_n hx hb d_Mod_give_27 rfl (lv_at hl 0 rfl) ?_
        refine S_getR (h := shM) (C := "MacroMillModel") (T := F_Mod) hx hb htt in_Mod hown hK hP 0 32 rfl 12 rfl rfl (by decide) (htt _ k_2268) (fun _ h9 => h9) d_Mod_give_28 ?_
        refine lv_aload_n hx hb d_Mod_give_31 rfl (lv_at hl 0 rfl) ?_
        refine S_getI (h := shM) (C := "MacroMillModel") (T := F_Mod) hx hb htt in_Mod hown hK hP 0 33 rfl rfl rfl (by decide) (htt _ k_2269) (fun _ h9 => h9) d_Mod_give_32 ?_
        refine lv_iload_n hx hb d_Mod_give_35 rfl (lv_at hl 1 rfl) ?_
        refine lv_i2b (v := (L 1).toInt8.toInt32) hx hb d_Mod_give_36 rfl ?_
        obtain ⟨hv2, h⟩ := chk h
        refine S_bast (h := shM) (i := S.1 0 33) (v := (L 1).toInt8.toInt32) hx hb hK hP hD hS 11 rfl (okI_in hv2) d_Mod_give_37 (fun H locs hP hD hS => ?_)
        refine lv_aload_n hx hb d_Mod_give_38 rfl (lv_at hl 0 rfl) ?_
        refine lv_dup hx hb d_Mod_give_39 rfl ?_
        show W _ _ _ _ _ _ _ _ _ _ _ _ _ _ _ (F0 _ 40 _ _)
        refine S_getI (h := shM) (C := "MacroMillModel") (T := F_Mod) hx hb htt in_Mod hown hK hP 0 33 rfl rfl rfl (by decide) (htt _ k_2269) (fun _ h9 => h9) d_Mod_give_40 ?_
        refine toI (y := S.1 0 33) rfl ?_
        refine lv_iconst (v := 1) hx hb d_Mod_give_43 (by decide) ?_
        refine lv_iadd hx hb d_Mod_give_44 ?_
        refine S_put (h := shM) (C := "MacroMillModel") (T := F_Mod) (v := (S.1 0 33) + (1 : Int32)) hx hb htt in_Mod t_Mod t_Mod_ok n_Mod hown hK hP hD hS 0 33 rfl rfl rfl (by decide) (htt _ k_2269) (fun _ h9 => h9) rfl rfl rfl d_Mod_give_45 (fun H locs hP hD hS => ?_)
        exact (ih.2.2) (putI (putA S 11 (S.1 0 33 : Int32).toNatClampNeg (vp_nar .byte ((L 1).toInt8.toInt32))) 0 33 ((S.1 0 33) + (1 : Int32))) L M ls H locs h (lv_sub hl [0, 1] rfl) hP hD hS
    · intro S L M ls H locs h hl hP hD hS
      simp only [f_Mod_give] at h
      cases h
      exact kx_48 ls H locs hP hD hS
abbrev rm_t_Mod_give : Room := { frames := 2, cells := 0, slots := 0, locals := 44 }
theorem t_Mod_give (l : Launch) (g : gG) (sz : Nat) (ad : Nat → Nat) (S : sS) (v1 : Int32) (k : Nat) (r : Int32) (S9 : sS) (h : f_Mod_give k 0 S (upd (fun _ => 0) 1 v1) (fun _ => 0) = some (r, S9)) : Cv l y_Mod_give b_Mod_give 2 rm_t_Mod_give g [.ref (ad 0), .int v1] (Sw shM g ad S) sz (fun w => ∃ S1 : sS, w = Sw shM g ad S1 ∧ S1 = S9) := by
  refine startV (by decide) (Nat.le_of_ble_eq_true rfl) ?_
  intro p e s m below meth c A ls hx hb hr hml hlocks hmn hown htt hN hA hP hK hD hS hl
  exact (w_Mod_give hx hb hml hown htt hK hN hA (by decide +kernel) (by decide +kernel) (by decide +kernel) (by decide +kernel) r S9 (fun ls H locs hP hD hS => fin_v (g := g) (ws := Sw shM g ad S9) hx hb hr hlocks (by decide +kernel) (by decide +kernel) hP hD hS ⟨_, rfl, rfl⟩ d_Mod_give_48) k).1 S (upd (fun _ => 0) 1 v1) (fun _ => 0) ls _ _ h hl hP hD hS
def f_Mod_giveNumber : Nat → Nat → sS → (Nat → Int32) → (Nat → Int64) → Option (Int32 × sS)
  | 0, _, _, _, _ => none
  | k + 1, 0, S, L, M => if (0 : Int32) ≤ (lg_cmp (M 1) (0 : Int64)) then (f_Mod_giveNumber k 1 S L (vp_updL M 3 (M 1))) else ((f_Mod_give k 0 S (upd (fun _ => 0) 1 (45 : Int32)) (fun _ => 0)).bind (fun (r2, T2) => f_Mod_giveNumber k 1 T2 L (vp_updL M 3 (-(M 1)))))
  | k + 1, 1, S, L, M => f_Mod_giveNumber k 2 S L (vp_updL M 5 (1 : Int64))
  | k + 1, 2, S, L, M => if ¬ (M 5) = 0 then (if (lg_cmp ((M 3) / (M 5)) (9 : Int64)) ≤ (0 : Int32) then (f_Mod_giveNumber k 3 S L M) else (f_Mod_giveNumber k 2 S L (vp_updL M 5 ((10 : Int64) * (M 5))))) else none
  | k + 1, 3, S, L, M => if (lg_cmp (M 5) (0 : Int64)) ≤ (0 : Int32) then (some ((0 : Int32), S)) else (if ¬ (M 5) = 0 then ((f_Mod_give k 0 S (upd (fun _ => 0) 1 (((48 : Int64) + (((M 3) / (M 5)) - ((M 3) / (M 5)) / (10 : Int64) * (10 : Int64))).toInt32 : Int32)) (fun _ => 0)).bind (fun (r3, T3) => f_Mod_giveNumber k 3 T3 L (vp_updL M 5 ((M 5) / (10 : Int64))))) else none)
  | _ + 1, _ + 4, _, _, _ => none
set_option maxHeartbeats 8000000 in
set_option maxRecDepth 100000 in
theorem w_Mod_giveNumber {p : Program} {l : Launch} {e : Env} {R : Room} {s : State} {m : MethodId} {args : Array Value} {below : List Frame} {meth : Method} {c : Code} {cells slots : Nat} {Q : State → Prop} {g : gG} {A : Nat → Prop} {ad : Nat → Nat} (hx : p.tables.exec = Jvm.exec) (hb : c.code = b_Mod_giveNumber) (hml : c.maxLocals = 7) (hown : s.vm.findClass "MacroMillModel" = some m.cls) (htt : ∀ w ∈ gt, w.before args s = true) (hK : va_K g.1 classes (tysG g) s) (hN : nw s) (hA : ∀ q : Nat, s.heap.size ≤ q → A q) (hRf : 3 ≤ R.frames) (hRl : 65 ≤ R.locals) (hRc : cells ≤ R.cells) (hRs : slots ≤ R.slots) (r : Int32) (S9 : sS)
    (kx_77 : ∀ (ls : Array Slot) (H : Heap) (locs : List Loc), va_P g.1 classes (Sw shM g ad S9) H → va_D A (Sw shM g ad S9) → va_S A s.heap H locs → W p l e R s m args below meth c H locs cells slots Q (F0 m 77 ls [])) :
    ∀ k9 : Nat, (∀ (S : sS) (L : Nat → Int32) (M : Nat → Int64) (ls : Array Slot) (H : Heap) (locs : List Loc), f_Mod_giveNumber k9 0 S L M = some (r, S9) → lv_has ls 7 [(0, .ref (ad 0)), (1, .long (M 1))] → va_P g.1 classes (Sw shM g ad S) H → va_D A (Sw shM g ad S) → va_S A s.heap H locs → W p l e R s m args below meth c H locs cells slots Q (F0 m 0 ls [])) ∧ (∀ (S : sS) (L : Nat → Int32) (M : Nat → Int64) (ls : Array Slot) (H : Heap) (locs : List Loc), f_Mod_giveNumber k9 1 S L M = some (r, S9) → lv_has ls 7 [(0, .ref (ad 0)), (1, .long (M 1)), (3, .long (M 3))] → va_P g.1 classes (Sw shM g ad S) H → va_D A (Sw shM g ad S) → va_S A s.heap H locs → W p l e R s m args below meth c H locs cells slots Q (F0 m 17 ls [])) ∧ (∀ (S : sS) (L : Nat → Int32) (M : Nat → Int64) (ls : Array Slot) (H : Heap) (locs : List Loc), f_Mod_giveNumber k9 2 S L M = some (r, S9) → lv_has ls 7 [(0, .ref (ad 0)), (1, .long (M 1)), (3, .long (M 3)), (5, .long (M 5))] → va_P g.1 classes (Sw shM g ad S) H → va_D A (Sw shM g ad S) → va_S A s.heap H locs → W p l e R s m args below meth c H locs cells slots Q (F0 m 20 ls [])) ∧ (∀ (S : sS) (L : Nat → Int32) (M : Nat → Int64) (ls : Array Slot) (H : Heap) (locs : List Loc), f_Mod_giveNumber k9 3 S L M = some (r, S9) → lv_has ls 7 [(0, .ref (ad 0)), (1, .long (M 1)), (3, .long (M 3)), (5, .long (M 5))] → va_P g.1 classes (Sw shM g ad S) H → va_D A (Sw shM g ad S) → va_S A s.heap H locs → W p l e R s m args below meth c H locs cells slots Q (F0 m 42 ls [])) := by
  intro k9
  induction k9 with
  | zero => exact ⟨(fun _ _ _ _ _ _ h => by simp [f_Mod_giveNumber] at h), (fun _ _ _ _ _ _ h => by simp [f_Mod_giveNumber] at h), (fun _ _ _ _ _ _ h => by simp [f_Mod_giveNumber] at h), (fun _ _ _ _ _ _ h => by simp [f_Mod_giveNumber] at h)⟩
  | succ k9 ih =>
    refine ⟨?_, ?_, ?_, ?_⟩
    · intro S L M ls H locs h hl hP hD hS
      simp only [f_Mod_giveNumber] at h
      refine lv_lload_n hx hb d_Mod_giveNumber_0 rfl (lv_at hl 1 rfl) ?_
      refine lv_lstore_n (lv' := [(3, .long (M 1)), (0, .ref (ad 0)), (1, .long (M 1))]) hx hb d_Mod_giveNumber_1 rfl hl (by decide) rfl (fun ls hl => ?_)
      refine lv_lload_n hx hb d_Mod_giveNumber_2 rfl (lv_at hl 0 rfl) ?_
      refine lv_lconst (v := 0) hx hb d_Mod_giveNumber_3 (by decide) ?_
      refine W.lcmp hx hb d_Mod_giveNumber_4 ?_
      refine lv_if_ge (tgt := 17) hx hb d_Mod_giveNumber_5 (by decide) (fun hc1 => ?_) (fun hc1 => ?_)
      · rw [if_pos hc1] at h
        exact (ih.2.1) S L (vp_updL M 3 (M 1)) ls H locs h (lv_sub hl [1, 2, 0] rfl) hP hD hS
      · rw [if_neg hc1] at h
        refine lv_aload_n hx hb d_Mod_giveNumber_8 rfl (lv_at hl 1 rfl) ?_
        refine lv_bipush (v := 45) hx hb d_Mod_giveNumber_9 (by decide) ?_
        obtain ⟨⟨r2, T2⟩, hq2, h⟩ := Option.bind_eq_some_iff.mp h
        try dsimp only at h
        refine go_vS (As := [.ref (ad 0), .int 45]) (g := g) (A := A) (h := shM) hP hK hD hS hA hN (fun hp => va_runV (As := [.int 45]) (rest := []) ⟨hx, hb, hml, hown, htt⟩ (t_Mod_give l g _ ad S (45 : Int32) k9 r2 T2 hq2) ⟨(cb_L htt k_2824 k_276 k_2821 hd_Mod_give ⟨(Nat.le_trans (by decide +kernel) hRf), (Nat.le_trans (by decide +kernel) hRl)⟩), htt _ k_2823, htt _ k_150⟩ ⟨hp.1, S_recv hK hP 0 rfl rfl, hp.2⟩ rfl rfl hl.1 rfl (lv_room (Nat.le_of_ble_eq_true rfl)) d_Mod_giveNumber_11 ⟨hRc, hRs⟩) (fun Sn H locs hw9 hP hD hS => ?_)
        have e8 := hw9
        rw [e8] at hP hD
        refine W.widen (k := cells) (n := slots) (Nat.le_refl _) (Nat.le_refl _) ?_
        refine lv_lload_n hx hb d_Mod_giveNumber_14 rfl (lv_at hl 0 rfl) ?_
        refine lv_lneg hx hb d_Mod_giveNumber_15 ?_
        refine lv_lstore_n (lv' := [(3, .long (-(M 1))), (0, .ref (ad 0)), (1, .long (M 1))]) hx hb d_Mod_giveNumber_16 rfl hl (by decide) rfl (fun ls hl => ?_)
        exact (ih.2.1) T2 L (vp_updL M 3 (-(M 1))) ls H locs h (lv_sub hl [1, 2, 0] rfl) hP hD hS
    · intro S L M ls H locs h hl hP hD hS
      simp only [f_Mod_giveNumber] at h
      refine lv_lconst (v := 1) hx hb d_Mod_giveNumber_17 (by decide) ?_
      refine lv_lstore (lv' := [(5, .long 1), (0, .ref (ad 0)), (1, .long (M 1)), (3, .long (M 3))]) hx hb d_Mod_giveNumber_18 hl (by decide) rfl (fun ls hl => ?_)
      exact (ih.2.2.1) S L (vp_updL M 5 (1 : Int64)) ls H locs h (lv_sub hl [1, 2, 3, 0] rfl) hP hD hS
    · intro S L M ls H locs h hl hP hD hS
      simp only [f_Mod_giveNumber] at h
      refine lv_lload_n hx hb d_Mod_giveNumber_20 rfl (lv_at hl 2 rfl) ?_
      refine lv_lload hx hb d_Mod_giveNumber_21 (lv_at hl 3 rfl) ?_
      obtain ⟨hv1, h⟩ := chk h
      refine lv_ldiv hx hb d_Mod_giveNumber_23 hv1 ?_
      refine lv_ldc2 (v := 9) hx hb hown (htt _ k_2845) d_Mod_giveNumber_24 ?_
      refine W.lcmp hx hb d_Mod_giveNumber_27 ?_
      refine lv_if_le (tgt := 42) hx hb d_Mod_giveNumber_28 (by decide) (fun hc2 => ?_) (fun hc2 => ?_)
      · rw [if_pos hc2] at h
        exact (ih.2.2.2) S L M ls H locs h (lv_sub hl [0, 1, 2, 3] rfl) hP hD hS
      · rw [if_neg hc2] at h
        refine lv_ldc2 (v := 10) hx hb hown (htt _ k_2846) d_Mod_giveNumber_31 ?_
        refine lv_lload hx hb d_Mod_giveNumber_34 (lv_at hl 3 rfl) ?_
        refine lv_lmul hx hb d_Mod_giveNumber_36 ?_
        refine lv_lstore (lv' := [(5, .long ((10 : Int64) * (M 5))), (0, .ref (ad 0)), (1, .long (M 1)), (3, .long (M 3))]) hx hb d_Mod_giveNumber_37 hl (by decide) rfl (fun ls hl => ?_)
        refine lv_goto (tgt := 20) hx hb d_Mod_giveNumber_39 (by decide) ?_
        exact (ih.2.2.1) S L (vp_updL M 5 ((10 : Int64) * (M 5))) ls H locs h (lv_sub hl [1, 2, 3, 0] rfl) hP hD hS
    · intro S L M ls H locs h hl hP hD hS
      simp only [f_Mod_giveNumber] at h
      refine lv_lload hx hb d_Mod_giveNumber_42 (lv_at hl 3 rfl) ?_
      refine lv_lconst (v := 0) hx hb d_Mod_giveNumber_44 (by decide) ?_
      refine W.lcmp hx hb d_Mod_giveNumber_45 ?_
      refine lv_if_le (tgt := 77) hx hb d_Mod_giveNumber_46 (by decide) (fun hc1 => ?_) (fun hc1 => ?_)
      · rw [if_pos hc1] at h
        cases h
        exact kx_77 ls H locs hP hD hS
      · rw [if_neg hc1] at h
        refine lv_aload_n hx hb d_Mod_giveNumber_49 rfl (lv_at hl 0 rfl) ?_
        refine lv_ldc2 (v := 48) hx hb hown (htt _ k_2847) d_Mod_giveNumber_50 ?_
        refine lv_lload_n hx hb d_Mod_giveNumber_53 rfl (lv_at hl 2 rfl) ?_
        refine lv_lload hx hb d_Mod_giveNumber_54 (lv_at hl 3 rfl) ?_
        obtain ⟨hv2, h⟩ := chk h
        refine lv_ldiv hx hb d_Mod_giveNumber_56 hv2 ?_
        refine lv_ldc2 (v := 10) hx hb hown (htt _ k_2846) d_Mod_giveNumber_57 ?_
        refine lv_lrem hx hb d_Mod_giveNumber_60 (by decide) ?_
        refine lv_ladd hx hb d_Mod_giveNumber_61 ?_
        refine lv_l2i (v := ((48 : Int64) + (((M 3) / (M 5)) - ((M 3) / (M 5)) / (10 : Int64) * (10 : Int64))).toInt32) hx hb d_Mod_giveNumber_62 rfl ?_
        obtain ⟨⟨r3, T3⟩, hq3, h⟩ := Option.bind_eq_some_iff.mp h
        try dsimp only at h
        refine go_vS (As := [.ref (ad 0), .int (((48 : Int64) + (((M 3) / (M 5)) - ((M 3) / (M 5)) / (10 : Int64) * (10 : Int64))).toInt32)]) (g := g) (A := A) (h := shM) hP hK hD hS hA hN (fun hp => va_runV (As := [.int (((48 : Int64) + (((M 3) / (M 5)) - ((M 3) / (M 5)) / (10 : Int64) * (10 : Int64))).toInt32)]) (rest := []) ⟨hx, hb, hml, hown, htt⟩ (t_Mod_give l g _ ad S (((48 : Int64) + (((M 3) / (M 5)) - ((M 3) / (M 5)) / (10 : Int64) * (10 : Int64))).toInt32 : Int32) k9 r3 T3 hq3) ⟨(cb_L htt k_2824 k_276 k_2821 hd_Mod_give ⟨(Nat.le_trans (by decide +kernel) hRf), (Nat.le_trans (by decide +kernel) hRl)⟩), htt _ k_2823, htt _ k_150⟩ ⟨hp.1, S_recv hK hP 0 rfl rfl, hp.2⟩ rfl rfl hl.1 rfl (lv_room (Nat.le_of_ble_eq_true rfl)) d_Mod_giveNumber_63 ⟨hRc, hRs⟩) (fun Sn H locs hw9 hP hD hS => ?_)
        have e8 := hw9
        rw [e8] at hP hD
        refine W.widen (k := cells) (n := slots) (Nat.le_refl _) (Nat.le_refl _) ?_
        refine lv_lload hx hb d_Mod_giveNumber_66 (lv_at hl 3 rfl) ?_
        show W _ _ _ _ _ _ _ _ _ _ _ _ _ _ _ (F0 _ 68 _ _)
        refine lv_ldc2 (v := 10) hx hb hown (htt _ k_2846) d_Mod_giveNumber_68 ?_
        refine lv_ldiv hx hb d_Mod_giveNumber_71 (by decide) ?_
        refine lv_lstore (lv' := [(5, .long ((M 5) / (10 : Int64))), (0, .ref (ad 0)), (1, .long (M 1)), (3, .long (M 3))]) hx hb d_Mod_giveNumber_72 hl (by decide) rfl (fun ls hl => ?_)
        refine lv_goto (tgt := 42) hx hb d_Mod_giveNumber_74 (by decide) ?_
        exact (ih.2.2.2) T3 L (vp_updL M 5 ((M 5) / (10 : Int64))) ls H locs h (lv_sub hl [1, 2, 3, 0] rfl) hP hD hS
abbrev rm_t_Mod_giveNumber : Room := { frames := 3, cells := 0, slots := 0, locals := 65 }
theorem t_Mod_giveNumber (l : Launch) (g : gG) (sz : Nat) (ad : Nat → Nat) (S : sS) (v1 : Int64) (k : Nat) (r : Int32) (S9 : sS) (h : f_Mod_giveNumber k 0 S (fun _ => 0) (vp_updL (fun _ => 0) 1 v1) = some (r, S9)) : Cv l y_Mod_giveNumber b_Mod_giveNumber 7 rm_t_Mod_giveNumber g [.ref (ad 0), .long v1] (Sw shM g ad S) sz (fun w => ∃ S1 : sS, w = Sw shM g ad S1 ∧ S1 = S9) := by
  refine startV (by decide) (Nat.le_of_ble_eq_true rfl) ?_
  intro p e s m below meth c A ls hx hb hr hml hlocks hmn hown htt hN hA hP hK hD hS hl
  exact (w_Mod_giveNumber hx hb hml hown htt hK hN hA (by decide +kernel) (by decide +kernel) (by decide +kernel) (by decide +kernel) r S9 (fun ls H locs hP hD hS => fin_v (g := g) (ws := Sw shM g ad S9) hx hb hr hlocks (by decide +kernel) (by decide +kernel) hP hD hS ⟨_, rfl, rfl⟩ d_Mod_giveNumber_77) k).1 S (fun _ => 0) (vp_updL (fun _ => 0) 1 v1) ls _ _ h hl hP hD hS
def f_Mod_putBack : Nat → Nat → sS → (Nat → Int32) → (Nat → Int64) → Option (Int32 × sS)
  | 0, _, _, _, _ => none
  | k + 1, 0, S, L, M => f_Mod_putBack k 1 S (upd L 1 ((S.1 0 33) - (1 : Int32))) M
  | k + 1, 1, S, L, M => if (L 1) < (0 : Int32) then (f_Mod_putBack k 2 S L M) else (if (S.1 0 10) = (0 : Int32) then (if okI (L 1) 32769 = true then (if okI ((S.1 0 20) - (1 : Int32)) 32768 = true then (f_Mod_putBack k 1 (putA (putI S 0 20 ((S.1 0 20) - (1 : Int32))) 7 ((S.1 0 20) - (1 : Int32) : Int32).toNatClampNeg (vp_nar .byte ((putI S 0 20 ((S.1 0 20) - (1 : Int32))).2.1 11 (L 1 : Int32).toNatClampNeg))) (upd L 1 ((L 1) + (-1))) M) else none) else none) else (f_Mod_putBack k 2 S L M))
  | k + 1, 2, S, L, M => some ((0 : Int32), (putI S 0 33 0))
  | _ + 1, _ + 3, _, _, _ => none
set_option maxHeartbeats 8000000 in
set_option maxRecDepth 100000 in
theorem w_Mod_putBack {p : Program} {l : Launch} {e : Env} {R : Room} {s : State} {m : MethodId} {args : Array Value} {below : List Frame} {meth : Method} {c : Code} {cells slots : Nat} {Q : State → Prop} {g : gG} {A : Nat → Prop} {ad : Nat → Nat} (hx : p.tables.exec = Jvm.exec) (hb : c.code = b_Mod_putBack) (hml : c.maxLocals = 2) (hown : s.vm.findClass "MacroMillModel" = some m.cls) (htt : ∀ w ∈ gt, w.before args s = true) (hK : va_K g.1 classes (tysG g) s) (hN : nw s) (hA : ∀ q : Nat, s.heap.size ≤ q → A q) (r : Int32) (S9 : sS)
    (kx_54 : ∀ (ls : Array Slot) (H : Heap) (locs : List Loc), va_P g.1 classes (Sw shM g ad S9) H → va_D A (Sw shM g ad S9) → va_S A s.heap H locs → W p l e R s m args below meth c H locs cells slots Q (F0 m 54 ls [])) :
    ∀ k9 : Nat, (∀ (S : sS) (L : Nat → Int32) (M : Nat → Int64) (ls : Array Slot) (H : Heap) (locs : List Loc), f_Mod_putBack k9 0 S L M = some (r, S9) → lv_has ls 2 [(0, .ref (ad 0))] → va_P g.1 classes (Sw shM g ad S) H → va_D A (Sw shM g ad S) → va_S A s.heap H locs → W p l e R s m args below meth c H locs cells slots Q (F0 m 0 ls [])) ∧ (∀ (S : sS) (L : Nat → Int32) (M : Nat → Int64) (ls : Array Slot) (H : Heap) (locs : List Loc), f_Mod_putBack k9 1 S L M = some (r, S9) → lv_has ls 2 [(0, .ref (ad 0)), (1, .int (L 1))] → va_P g.1 classes (Sw shM g ad S) H → va_D A (Sw shM g ad S) → va_S A s.heap H locs → W p l e R s m args below meth c H locs cells slots Q (F0 m 7 ls [])) ∧ (∀ (S : sS) (L : Nat → Int32) (M : Nat → Int64) (ls : Array Slot) (H : Heap) (locs : List Loc), f_Mod_putBack k9 2 S L M = some (r, S9) → lv_has ls 2 [(0, .ref (ad 0)), (1, .int (L 1))] → va_P g.1 classes (Sw shM g ad S) H → va_D A (Sw shM g ad S) → va_S A s.heap H locs → W p l e R s m args below meth c H locs cells slots Q (F0 m 49 ls [])) := by
  intro k9
  induction k9 with
  | zero => exact ⟨(fun _ _ _ _ _ _ h => by simp [f_Mod_putBack] at h), (fun _ _ _ _ _ _ h => by simp [f_Mod_putBack] at h), (fun _ _ _ _ _ _ h => by simp [f_Mod_putBack] at h)⟩
  | succ k9 ih =>
    refine ⟨?_, ?_, ?_⟩
    · intro S L M ls H locs h hl hP hD hS
      simp only [f_Mod_putBack] at h
      refine lv_aload_n hx hb d_Mod_putBack_0 rfl (lv_at hl 0 rfl) ?_
      refine S_getI (h := shM) (C := "MacroMillModel") (T := F_Mod) hx hb htt in_Mod hown hK hP 0 33 rfl rfl rfl (by decide) (htt _ k_2269) (fun _ h9 => h9) d_Mod_putBack_1 ?_
      refine lv_iconst (v := 1) hx hb d_Mod_putBack_4 (by decide) ?_
      refine lv_isub hx hb d_Mod_putBack_5 ?_
      refine lv_istore_n (lv' := [(1, .int ((S.1 0 33) - (1 : Int32))), (0, .ref (ad 0))]) hx hb d_Mod_putBack_6 rfl hl (by decide) rfl (fun ls hl => ?_)
      exact (ih.2.1) S (upd L 1 ((S.1 0 33) - (1 : Int32))) M ls H locs h (lv_sub hl [1, 0] rfl) hP hD hS
    · intro S L M ls H locs h hl hP hD hS
      simp only [f_Mod_putBack] at h
      refine lv_iload_n hx hb d_Mod_putBack_7 rfl (lv_at hl 1 rfl) ?_
      refine lv_if_lt (tgt := 49) hx hb d_Mod_putBack_8 (by decide) (fun hc1 => ?_) (fun hc1 => ?_)
      · rw [if_pos hc1] at h
        exact (ih.2.2) S L M ls H locs h (lv_sub hl [0, 1] rfl) hP hD hS
      · rw [if_neg hc1] at h
        refine lv_aload_n hx hb d_Mod_putBack_11 rfl (lv_at hl 0 rfl) ?_
        refine S_getI (h := shM) (C := "MacroMillModel") (T := F_Mod) hx hb htt in_Mod hown hK hP 0 10 rfl rfl rfl (by decide) (htt _ k_2246) (fun _ h9 => h9) d_Mod_putBack_12 ?_
        refine lv_if_ne (tgt := 49) hx hb d_Mod_putBack_15 (by decide) (fun hc2 => ?_) (fun hc2 => ?_)
        · rw [if_neg hc2] at h
          exact (ih.2.2) S L M ls H locs h (lv_sub hl [0, 1] rfl) hP hD hS
        · rw [if_pos hc2] at h
          refine lv_aload_n hx hb d_Mod_putBack_18 rfl (lv_at hl 0 rfl) ?_
          refine lv_dup hx hb d_Mod_putBack_19 rfl ?_
          refine S_getI (h := shM) (C := "MacroMillModel") (T := F_Mod) hx hb htt in_Mod hown hK hP 0 20 rfl rfl rfl (by decide) (htt _ k_2256) (fun _ h9 => h9) d_Mod_putBack_20 ?_
          refine lv_iconst (v := 1) hx hb d_Mod_putBack_23 (by decide) ?_
          refine lv_isub hx hb d_Mod_putBack_24 ?_
          refine S_put (h := shM) (C := "MacroMillModel") (T := F_Mod) (v := (S.1 0 20) - (1 : Int32)) hx hb htt in_Mod t_Mod t_Mod_ok n_Mod hown hK hP hD hS 0 20 rfl rfl rfl (by decide) (htt _ k_2256) (fun _ h9 => h9) rfl rfl rfl d_Mod_putBack_25 (fun H locs hP hD hS => ?_)
          refine lv_aload_n hx hb d_Mod_putBack_28 rfl (lv_at hl 0 rfl) ?_
          refine S_getR (h := shM) (C := "MacroMillModel") (T := F_Mod) hx hb htt in_Mod hown hK hP 0 19 rfl 8 rfl rfl (by decide) (htt _ k_2255) (fun _ h9 => h9) d_Mod_putBack_29 ?_
          show W _ _ _ _ _ _ _ _ _ _ _ _ _ _ _ (F0 _ 32 _ _)
          refine lv_aload_n hx hb d_Mod_putBack_32 rfl (lv_at hl 0 rfl) ?_
          refine S_getI (h := shM) (C := "MacroMillModel") (T := F_Mod) hx hb htt in_Mod hown hK hP 0 20 rfl rfl rfl (by decide) (htt _ k_2256) (fun _ h9 => h9) d_Mod_putBack_33 ?_
          refine toI (y := (S.1 0 20) - (1 : Int32)) rfl ?_
          refine lv_aload_n hx hb d_Mod_putBack_36 rfl (lv_at hl 0 rfl) ?_
          refine S_getR (h := shM) (C := "MacroMillModel") (T := F_Mod) hx hb htt in_Mod hown hK hP 0 32 rfl 12 rfl rfl (by decide) (htt _ k_2268) (fun _ h9 => h9) d_Mod_putBack_37 ?_
          refine lv_iload_n hx hb d_Mod_putBack_40 rfl (lv_at hl 1 rfl) ?_
          obtain ⟨hv3, h⟩ := chk h
          refine S_bald (h := shM) (i := L 1) hx hb hK hP 11 rfl (okI_in hv3) d_Mod_putBack_41 ?_
          obtain ⟨hv4, h⟩ := chk h
          refine S_bast (h := shM) (i := (S.1 0 20) - (1 : Int32)) (v := (putI S 0 20 ((S.1 0 20) - (1 : Int32))).2.1 11 (L 1 : Int32).toNatClampNeg) hx hb hK hP hD hS 7 rfl (okI_in hv4) d_Mod_putBack_42 (fun H locs hP hD hS => ?_)
          refine lv_iinc (k := 1) (v := (L 1) + (-1)) (lv' := [(1, .int ((L 1) + (-1))), (0, .ref (ad 0))]) hx hb d_Mod_putBack_43 hl rfl rfl (by decide) rfl (fun ls hl => ?_)
          refine lv_goto (tgt := 7) hx hb d_Mod_putBack_46 (by decide) ?_
          exact (ih.2.1) (putA (putI S 0 20 ((S.1 0 20) - (1 : Int32))) 7 ((S.1 0 20) - (1 : Int32) : Int32).toNatClampNeg (vp_nar .byte ((putI S 0 20 ((S.1 0 20) - (1 : Int32))).2.1 11 (L 1 : Int32).toNatClampNeg))) (upd L 1 ((L 1) + (-1))) M ls H locs h (lv_sub hl [1, 0] rfl) hP hD hS
    · intro S L M ls H locs h hl hP hD hS
      simp only [f_Mod_putBack] at h
      refine lv_aload_n hx hb d_Mod_putBack_49 rfl (lv_at hl 0 rfl) ?_
      refine lv_iconst (v := 0) hx hb d_Mod_putBack_50 (by decide) ?_
      refine S_put (h := shM) (C := "MacroMillModel") (T := F_Mod) (v := 0) hx hb htt in_Mod t_Mod t_Mod_ok n_Mod hown hK hP hD hS 0 33 rfl rfl rfl (by decide) (htt _ k_2269) (fun _ h9 => h9) rfl rfl rfl d_Mod_putBack_51 (fun H locs hP hD hS => ?_)
      cases h
      exact kx_54 ls H locs hP hD hS
abbrev rm_t_Mod_putBack : Room := { frames := 0, cells := 0, slots := 0, locals := 0 }
theorem t_Mod_putBack (l : Launch) (g : gG) (sz : Nat) (ad : Nat → Nat) (S : sS) (k : Nat) (r : Int32) (S9 : sS) (h : f_Mod_putBack k 0 S (fun _ => 0) (fun _ => 0) = some (r, S9)) : Cv l y_Mod_putBack b_Mod_putBack 2 rm_t_Mod_putBack g [.ref (ad 0)] (Sw shM g ad S) sz (fun w => ∃ S1 : sS, w = Sw shM g ad S1 ∧ S1 = S9) := by
  refine startV (by decide) (Nat.le_of_ble_eq_true rfl) ?_
  intro p e s m below meth c A ls hx hb hr hml hlocks hmn hown htt hN hA hP hK hD hS hl
  exact (w_Mod_putBack hx hb hml hown htt hK hN hA r S9 (fun ls H locs hP hD hS => fin_v (g := g) (ws := Sw shM g ad S9) hx hb hr hlocks (by decide +kernel) (by decide +kernel) hP hD hS ⟨_, rfl, rfl⟩ d_Mod_putBack_54) k).1 S (fun _ => 0) (fun _ => 0) ls _ _ h hl hP hD hS
def f_Mod_isNamed (x2 : Nat) (nx2 : Nat) : Nat → Nat → sS → (Nat → Int32) → (Nat → Int64) → Option (Int32 × sS)
  | 0, _, _, _, _ => none
  | k + 1, 0, S, L, M => if okI (L 1) 340 = true then (if (S.2.1 13 (L 1 : Int32).toNatClampNeg) = (L 4) then (f_Mod_isNamed x2 nx2 k 1 S (upd L 100 (1 : Int32)) M) else (f_Mod_isNamed x2 nx2 k 1 S (upd L 100 (0 : Int32)) M)) else none
  | k + 1, 1, S, L, M => f_Mod_isNamed x2 nx2 k 2 S (upd (upd L 5 (L 100)) 6 (0 : Int32)) M
  | k + 1, 2, S, L, M => if (L 4) ≤ (L 6) then (f_Mod_isNamed x2 nx2 k 4 S L M) else (if (L 5) = (0 : Int32) then (f_Mod_isNamed x2 nx2 k 4 S L M) else (if okI (L 1) 340 = true then (if okI ((S.2.1 12 (L 1 : Int32).toNatClampNeg) + (L 6)) 16684 = true then (if okI ((L 3) + (L 6)) nx2 = true then (if (S.2.1 16 ((S.2.1 12 (L 1 : Int32).toNatClampNeg) + (L 6) : Int32).toNatClampNeg) = (S.2.1 x2 ((L 3) + (L 6) : Int32).toNatClampNeg) then (f_Mod_isNamed x2 nx2 k 3 S (upd L 100 (1 : Int32)) M) else (f_Mod_isNamed x2 nx2 k 3 S (upd L 100 (0 : Int32)) M)) else none) else none) else none))
  | k + 1, 3, S, L, M => f_Mod_isNamed x2 nx2 k 2 S (upd (upd L 5 (L 100)) 6 ((L 6) + 1)) M
  | k + 1, 4, S, L, M => if bz (L 5) = true then some (L 5, S) else none
  | _ + 1, _ + 5, _, _, _ => none
set_option maxHeartbeats 8000000 in
set_option maxRecDepth 100000 in
theorem w_Mod_isNamed {p : Program} {l : Launch} {e : Env} {R : Room} {s : State} {m : MethodId} {args : Array Value} {below : List Frame} {meth : Method} {c : Code} {cells slots : Nat} {Q : State → Prop} {g : gG} {A : Nat → Prop} {ad : Nat → Nat} (hx : p.tables.exec = Jvm.exec) (hb : c.code = b_Mod_isNamed) (hml : c.maxLocals = 7) (hown : s.vm.findClass "MacroMillModel" = some m.cls) (htt : ∀ w ∈ gt, w.before args s = true) (hK : va_K g.1 classes (tysG g) s) (hN : nw s) (hA : ∀ q : Nat, s.heap.size ≤ q → A q) (x2 : Nat) (nx2 : Nat) (hx2 : shM.2[x2]? = some (0, nx2)) (r : Int32) (S9 : sS)
    (kx_71 : ∀ (ls : Array Slot) (H : Heap) (locs : List Loc), narrow .boolean (.int r) = .int r → va_P g.1 classes (Sw shM g ad S9) H → va_D A (Sw shM g ad S9) → va_S A s.heap H locs → W p l e R s m args below meth c H locs cells slots Q (F0 m 71 ls [.int r])) :
    ∀ k9 : Nat, (∀ (S : sS) (L : Nat → Int32) (M : Nat → Int64) (ls : Array Slot) (H : Heap) (locs : List Loc), f_Mod_isNamed x2 nx2 k9 0 S L M = some (r, S9) → lv_has ls 7 [(0, .ref (ad 0)), (1, .int (L 1)), (2, .ref (ad (shM.1.length + x2))), (3, .int (L 3)), (4, .int (L 4))] → va_P g.1 classes (Sw shM g ad S) H → va_D A (Sw shM g ad S) → va_S A s.heap H locs → W p l e R s m args below meth c H locs cells slots Q (F0 m 0 ls [])) ∧ (∀ (S : sS) (L : Nat → Int32) (M : Nat → Int64) (ls : Array Slot) (H : Heap) (locs : List Loc), f_Mod_isNamed x2 nx2 k9 1 S L M = some (r, S9) → lv_has ls 7 [(0, .ref (ad 0)), (1, .int (L 1)), (2, .ref (ad (shM.1.length + x2))), (3, .int (L 3)), (4, .int (L 4))] → va_P g.1 classes (Sw shM g ad S) H → va_D A (Sw shM g ad S) → va_S A s.heap H locs → W p l e R s m args below meth c H locs cells slots Q (F0 m 16 ls [.int (L 100)])) ∧ (∀ (S : sS) (L : Nat → Int32) (M : Nat → Int64) (ls : Array Slot) (H : Heap) (locs : List Loc), f_Mod_isNamed x2 nx2 k9 2 S L M = some (r, S9) → lv_has ls 7 [(0, .ref (ad 0)), (1, .int (L 1)), (2, .ref (ad (shM.1.length + x2))), (3, .int (L 3)), (4, .int (L 4)), (5, .int (L 5)), (6, .int (L 6))] → va_P g.1 classes (Sw shM g ad S) H → va_D A (Sw shM g ad S) → va_S A s.heap H locs → W p l e R s m args below meth c H locs cells slots Q (F0 m 21 ls [])) ∧ (∀ (S : sS) (L : Nat → Int32) (M : Nat → Int64) (ls : Array Slot) (H : Heap) (locs : List Loc), f_Mod_isNamed x2 nx2 k9 3 S L M = some (r, S9) → lv_has ls 7 [(0, .ref (ad 0)), (1, .int (L 1)), (2, .ref (ad (shM.1.length + x2))), (3, .int (L 3)), (4, .int (L 4)), (5, .int (L 5)), (6, .int (L 6))] → va_P g.1 classes (Sw shM g ad S) H → va_D A (Sw shM g ad S) → va_S A s.heap H locs → W p l e R s m args below meth c H locs cells slots Q (F0 m 61 ls [.int (L 100)])) ∧ (∀ (S : sS) (L : Nat → Int32) (M : Nat → Int64) (ls : Array Slot) (H : Heap) (locs : List Loc), f_Mod_isNamed x2 nx2 k9 4 S L M = some (r, S9) → lv_has ls 7 [(0, .ref (ad 0)), (1, .int (L 1)), (2, .ref (ad (shM.1.length + x2))), (3, .int (L 3)), (4, .int (L 4)), (5, .int (L 5)), (6, .int (L 6))] → va_P g.1 classes (Sw shM g ad S) H → va_D A (Sw shM g ad S) → va_S A s.heap H locs → W p l e R s m args below meth c H locs cells slots Q (F0 m 69 ls [])) := by
  intro k9
  induction k9 with
  | zero => exact ⟨(fun _ _ _ _ _ _ h => by simp [f_Mod_isNamed] at h), (fun _ _ _ _ _ _ h => by simp [f_Mod_isNamed] at h), (fun _ _ _ _ _ _ h => by simp [f_Mod_isNamed] at h), (fun _ _ _ _ _ _ h => by simp [f_Mod_isNamed] at h), (fun _ _ _ _ _ _ h => by simp [f_Mod_isNamed] at h)⟩
  | succ k9 ih =>
    refine ⟨?_, ?_, ?_, ?_, ?_⟩
    · intro S L M ls H locs h hl hP hD hS
      simp only [f_Mod_isNamed] at h
      refine lv_aload_n hx hb d_Mod_isNamed_0 rfl (lv_at hl 0 rfl) ?_
      refine S_getR (h := shM) (C := "MacroMillModel") (T := F_Mod) hx hb htt in_Mod hown hK hP 0 36 rfl 14 rfl rfl (by decide) (htt _ k_2272) (fun _ h9 => h9) d_Mod_isNamed_1 ?_
      refine lv_iload_n hx hb d_Mod_isNamed_4 rfl (lv_at hl 1 rfl) ?_
      obtain ⟨hv1, h⟩ := chk h
      refine S_iald (h := shM) (i := L 1) hx hb hK hP 13 rfl (okI_in hv1) d_Mod_isNamed_5 ?_
      refine lv_iload hx hb d_Mod_isNamed_6 (lv_at hl 4 rfl) ?_
      refine lv_icmp_ne (tgt := 15) hx hb d_Mod_isNamed_8 (by decide) (fun hc2 => ?_) (fun hc2 => ?_)
      · rw [if_neg hc2] at h
        refine lv_iconst (v := 0) hx hb d_Mod_isNamed_15 (by decide) ?_
        exact (ih.2.1) S (upd L 100 (0 : Int32)) M ls H locs h (lv_sub hl [0, 1, 2, 3, 4] rfl) hP hD hS
      · rw [if_pos hc2] at h
        refine lv_iconst (v := 1) hx hb d_Mod_isNamed_11 (by decide) ?_
        refine lv_goto (tgt := 16) hx hb d_Mod_isNamed_12 (by decide) ?_
        exact (ih.2.1) S (upd L 100 (1 : Int32)) M ls H locs h (lv_sub hl [0, 1, 2, 3, 4] rfl) hP hD hS
    · intro S L M ls H locs h hl hP hD hS
      simp only [f_Mod_isNamed] at h
      refine lv_istore (lv' := [(5, .int (L 100)), (0, .ref (ad 0)), (1, .int (L 1)), (2, .ref (ad (shM.1.length + x2))), (3, .int (L 3)), (4, .int (L 4))]) hx hb d_Mod_isNamed_16 hl (by decide) rfl (fun ls hl => ?_)
      refine lv_iconst (v := 0) hx hb d_Mod_isNamed_18 (by decide) ?_
      refine lv_istore (lv' := [(6, .int 0), (5, .int (L 100)), (0, .ref (ad 0)), (1, .int (L 1)), (2, .ref (ad (shM.1.length + x2))), (3, .int (L 3)), (4, .int (L 4))]) hx hb d_Mod_isNamed_19 hl (by decide) rfl (fun ls hl => ?_)
      exact (ih.2.2.1) S (upd (upd L 5 (L 100)) 6 (0 : Int32)) M ls H locs h (lv_sub hl [2, 3, 4, 5, 6, 1, 0] rfl) hP hD hS
    · intro S L M ls H locs h hl hP hD hS
      simp only [f_Mod_isNamed] at h
      refine lv_iload hx hb d_Mod_isNamed_21 (lv_at hl 6 rfl) ?_
      refine lv_iload hx hb d_Mod_isNamed_23 (lv_at hl 4 rfl) ?_
      refine lv_icmp_ge (tgt := 69) hx hb d_Mod_isNamed_25 (by decide) (fun hc1 => ?_) (fun hc1 => ?_)
      · rw [if_pos hc1] at h
        exact (ih.2.2.2.2) S L M ls H locs h (lv_sub hl [0, 1, 2, 3, 4, 5, 6] rfl) hP hD hS
      · rw [if_neg hc1] at h
        refine lv_iload hx hb d_Mod_isNamed_28 (lv_at hl 5 rfl) ?_
        refine lv_if_eq (tgt := 69) hx hb d_Mod_isNamed_30 (by decide) (fun hc2 => ?_) (fun hc2 => ?_)
        · rw [if_pos hc2] at h
          exact (ih.2.2.2.2) S L M ls H locs h (lv_sub hl [0, 1, 2, 3, 4, 5, 6] rfl) hP hD hS
        · rw [if_neg hc2] at h
          refine lv_aload_n hx hb d_Mod_isNamed_33 rfl (lv_at hl 0 rfl) ?_
          refine S_getR (h := shM) (C := "MacroMillModel") (T := F_Mod) hx hb htt in_Mod hown hK hP 0 39 rfl 17 rfl rfl (by decide) (htt _ k_2275) (fun _ h9 => h9) d_Mod_isNamed_34 ?_
          refine lv_aload_n hx hb d_Mod_isNamed_37 rfl (lv_at hl 0 rfl) ?_
          refine S_getR (h := shM) (C := "MacroMillModel") (T := F_Mod) hx hb htt in_Mod hown hK hP 0 35 rfl 13 rfl rfl (by decide) (htt _ k_2271) (fun _ h9 => h9) d_Mod_isNamed_38 ?_
          refine lv_iload_n hx hb d_Mod_isNamed_41 rfl (lv_at hl 1 rfl) ?_
          obtain ⟨hv3, h⟩ := chk h
          refine S_iald (h := shM) (i := L 1) hx hb hK hP 12 rfl (okI_in hv3) d_Mod_isNamed_42 ?_
          refine lv_iload hx hb d_Mod_isNamed_43 (lv_at hl 6 rfl) ?_
          refine lv_iadd hx hb d_Mod_isNamed_45 ?_
          obtain ⟨hv4, h⟩ := chk h
          show W _ _ _ _ _ _ _ _ _ _ _ _ _ _ _ (F0 _ 46 _ _)
          refine S_bald (h := shM) (i := (S.2.1 12 (L 1 : Int32).toNatClampNeg) + (L 6)) hx hb hK hP 16 rfl (okI_in hv4) d_Mod_isNamed_46 ?_
          refine lv_aload_n hx hb d_Mod_isNamed_47 rfl (lv_at hl 2 rfl) ?_
          refine lv_iload_n hx hb d_Mod_isNamed_48 rfl (lv_at hl 3 rfl) ?_
          refine lv_iload hx hb d_Mod_isNamed_49 (lv_at hl 6 rfl) ?_
          refine lv_iadd hx hb d_Mod_isNamed_51 ?_
          obtain ⟨hv5, h⟩ := chk h
          refine S_bald (h := shM) (i := (L 3) + (L 6)) hx hb hK hP x2 hx2 (okI_in hv5) d_Mod_isNamed_52 ?_
          refine lv_icmp_ne (tgt := 60) hx hb d_Mod_isNamed_53 (by decide) (fun hc6 => ?_) (fun hc6 => ?_)
          · rw [if_neg hc6] at h
            refine lv_iconst (v := 0) hx hb d_Mod_isNamed_60 (by decide) ?_
            exact (ih.2.2.2.1) S (upd L 100 (0 : Int32)) M ls H locs h (lv_sub hl [0, 1, 2, 3, 4, 5, 6] rfl) hP hD hS
          · rw [if_pos hc6] at h
            refine lv_iconst (v := 1) hx hb d_Mod_isNamed_56 (by decide) ?_
            refine lv_goto (tgt := 61) hx hb d_Mod_isNamed_57 (by decide) ?_
            exact (ih.2.2.2.1) S (upd L 100 (1 : Int32)) M ls H locs h (lv_sub hl [0, 1, 2, 3, 4, 5, 6] rfl) hP hD hS
    · intro S L M ls H locs h hl hP hD hS
      simp only [f_Mod_isNamed] at h
      refine lv_istore (lv' := [(5, .int (L 100)), (0, .ref (ad 0)), (1, .int (L 1)), (2, .ref (ad (shM.1.length + x2))), (3, .int (L 3)), (4, .int (L 4)), (6, .int (L 6))]) hx hb d_Mod_isNamed_61 hl (by decide) rfl (fun ls hl => ?_)
      refine lv_iinc (k := 6) (v := (L 6) + 1) (lv' := [(6, .int ((L 6) + 1)), (5, .int (L 100)), (0, .ref (ad 0)), (1, .int (L 1)), (2, .ref (ad (shM.1.length + x2))), (3, .int (L 3)), (4, .int (L 4))]) hx hb d_Mod_isNamed_63 hl rfl rfl (by decide) rfl (fun ls hl => ?_)
      refine lv_goto (tgt := 21) hx hb d_Mod_isNamed_66 (by decide) ?_
      exact (ih.2.2.1) S (upd (upd L 5 (L 100)) 6 ((L 6) + 1)) M ls H locs h (lv_sub hl [2, 3, 4, 5, 6, 1, 0] rfl) hP hD hS
    · intro S L M ls H locs h hl hP hD hS
      simp only [f_Mod_isNamed] at h
      refine lv_iload hx hb d_Mod_isNamed_69 (lv_at hl 5 rfl) ?_
      obtain ⟨hv1, h⟩ := chk h
      cases h
      exact kx_71 ls H locs (bz_n hv1) hP hD hS
abbrev rm_t_Mod_isNamed : Room := { frames := 0, cells := 0, slots := 0, locals := 0 }
theorem t_Mod_isNamed (l : Launch) (g : gG) (sz : Nat) (ad : Nat → Nat) (S : sS) (x2 : Nat) (nx2 : Nat) (v1 : Int32) (v3 : Int32) (v4 : Int32) (hx2 : shM.2[x2]? = some (0, nx2)) (k : Nat) (r : Int32) (S9 : sS) (h : f_Mod_isNamed x2 nx2 k 0 S (upd (upd (upd (fun _ => 0) 1 v1) 3 v3) 4 v4) (fun _ => 0) = some (r, S9)) : Cz l y_Mod_isNamed b_Mod_isNamed 7 rm_t_Mod_isNamed g [.ref (ad 0), .int v1, .ref (ad (shM.1.length + x2)), .int v3, .int v4] (Sw shM g ad S) sz (fun r1 w => ∃ S1 : sS, w = Sw shM g ad S1 ∧ r1 = r ∧ S1 = S9) := by
  refine startZ (by decide) (Nat.le_of_ble_eq_true rfl) ?_
  intro p e s m below meth c A ls hx hb hr hml hlocks hmn hown htt hN hA hP hK hD hS hl
  exact (w_Mod_isNamed hx hb hml hown htt hK hN hA x2 nx2 hx2 r S9 (fun ls H locs hz hP hD hS => fin_z (g := g) (ws := Sw shM g ad S9) hx hb hr hlocks hz (by decide +kernel) (by decide +kernel) hP hD hS ⟨_, rfl, rfl, rfl⟩ d_Mod_isNamed_71) k).1 S (upd (upd (upd (fun _ => 0) 1 v1) 3 v3) 4 v4) (fun _ => 0) ls _ _ h hl hP hD hS
def f_Mod_top (x1 : Nat) (nx1 : Nat) : Nat → Nat → sS → (Nat → Int32) → (Nat → Int64) → Option (Int32 × sS)
  | 0, _, _, _, _ => none
  | k + 1, 0, S, L, M => f_Mod_top x1 nx1 k 1 S (upd (upd L 4 ((-1) : Int32)) 5 (0 : Int32)) M
  | k + 1, 1, S, L, M => if (S.1 0 34) ≤ (L 5) then (some (L 4, S)) else ((f_Mod_isNamed x1 nx1 k 0 S (upd (upd (upd (fun _ => 0) 1 (L 5 : Int32)) 3 (L 2 : Int32)) 4 (L 3 : Int32)) (fun _ => 0)).bind (fun (r2, T2) => if r2 = (0 : Int32) then (f_Mod_top x1 nx1 k 2 T2 (upd L 100 (L 4)) M) else (f_Mod_top x1 nx1 k 2 T2 (upd L 100 (L 5)) M)))
  | k + 1, 2, S, L, M => f_Mod_top x1 nx1 k 1 S (upd (upd L 4 (L 100)) 5 ((L 5) + 1)) M
  | _ + 1, _ + 3, _, _, _ => none
set_option maxHeartbeats 8000000 in
set_option maxRecDepth 100000 in
theorem w_Mod_top {p : Program} {l : Launch} {e : Env} {R : Room} {s : State} {m : MethodId} {args : Array Value} {below : List Frame} {meth : Method} {c : Code} {cells slots : Nat} {Q : State → Prop} {g : gG} {A : Nat → Prop} {ad : Nat → Nat} (hx : p.tables.exec = Jvm.exec) (hb : c.code = b_Mod_top) (hml : c.maxLocals = 6) (hown : s.vm.findClass "MacroMillModel" = some m.cls) (htt : ∀ w ∈ gt, w.before args s = true) (hK : va_K g.1 classes (tysG g) s) (hN : nw s) (hA : ∀ q : Nat, s.heap.size ≤ q → A q) (hRf : 1 ≤ R.frames) (hRl : 26 ≤ R.locals) (hRc : cells ≤ R.cells) (hRs : slots ≤ R.slots) (x1 : Nat) (nx1 : Nat) (hx1 : shM.2[x1]? = some (0, nx1)) (r : Int32) (S9 : sS)
    (kx_44 : ∀ (ls : Array Slot) (H : Heap) (locs : List Loc), va_P g.1 classes (Sw shM g ad S9) H → va_D A (Sw shM g ad S9) → va_S A s.heap H locs → W p l e R s m args below meth c H locs cells slots Q (F0 m 44 ls [.int r])) :
    ∀ k9 : Nat, (∀ (S : sS) (L : Nat → Int32) (M : Nat → Int64) (ls : Array Slot) (H : Heap) (locs : List Loc), f_Mod_top x1 nx1 k9 0 S L M = some (r, S9) → lv_has ls 6 [(0, .ref (ad 0)), (1, .ref (ad (shM.1.length + x1))), (2, .int (L 2)), (3, .int (L 3))] → va_P g.1 classes (Sw shM g ad S) H → va_D A (Sw shM g ad S) → va_S A s.heap H locs → W p l e R s m args below meth c H locs cells slots Q (F0 m 0 ls [])) ∧ (∀ (S : sS) (L : Nat → Int32) (M : Nat → Int64) (ls : Array Slot) (H : Heap) (locs : List Loc), f_Mod_top x1 nx1 k9 1 S L M = some (r, S9) → lv_has ls 6 [(0, .ref (ad 0)), (1, .ref (ad (shM.1.length + x1))), (2, .int (L 2)), (3, .int (L 3)), (4, .int (L 4)), (5, .int (L 5))] → va_P g.1 classes (Sw shM g ad S) H → va_D A (Sw shM g ad S) → va_S A s.heap H locs → W p l e R s m args below meth c H locs cells slots Q (F0 m 6 ls [])) ∧ (∀ (S : sS) (L : Nat → Int32) (M : Nat → Int64) (ls : Array Slot) (H : Heap) (locs : List Loc), f_Mod_top x1 nx1 k9 2 S L M = some (r, S9) → lv_has ls 6 [(0, .ref (ad 0)), (1, .ref (ad (shM.1.length + x1))), (2, .int (L 2)), (3, .int (L 3)), (4, .int (L 4)), (5, .int (L 5))] → va_P g.1 classes (Sw shM g ad S) H → va_D A (Sw shM g ad S) → va_S A s.heap H locs → W p l e R s m args below meth c H locs cells slots Q (F0 m 34 ls [.int (L 100)])) := by
  intro k9
  induction k9 with
  | zero => exact ⟨(fun _ _ _ _ _ _ h => by simp [f_Mod_top] at h), (fun _ _ _ _ _ _ h => by simp [f_Mod_top] at h), (fun _ _ _ _ _ _ h => by simp [f_Mod_top] at h)⟩
  | succ k9 ih =>
    refine ⟨?_, ?_, ?_⟩
    · intro S L M ls H locs h hl hP hD hS
      simp only [f_Mod_top] at h
      refine lv_iconst (v := (-1)) hx hb d_Mod_top_0 (by decide) ?_
      refine lv_istore (lv' := [(4, .int (-1)), (0, .ref (ad 0)), (1, .ref (ad (shM.1.length + x1))), (2, .int (L 2)), (3, .int (L 3))]) hx hb d_Mod_top_1 hl (by decide) rfl (fun ls hl => ?_)
      refine lv_iconst (v := 0) hx hb d_Mod_top_3 (by decide) ?_
      refine lv_istore (lv' := [(5, .int 0), (4, .int (-1)), (0, .ref (ad 0)), (1, .ref (ad (shM.1.length + x1))), (2, .int (L 2)), (3, .int (L 3))]) hx hb d_Mod_top_4 hl (by decide) rfl (fun ls hl => ?_)
      exact (ih.2.1) S (upd (upd L 4 ((-1) : Int32)) 5 (0 : Int32)) M ls H locs h (lv_sub hl [2, 3, 4, 5, 1, 0] rfl) hP hD hS
    · intro S L M ls H locs h hl hP hD hS
      simp only [f_Mod_top] at h
      refine lv_iload hx hb d_Mod_top_6 (lv_at hl 5 rfl) ?_
      refine lv_aload_n hx hb d_Mod_top_8 rfl (lv_at hl 0 rfl) ?_
      refine S_getI (h := shM) (C := "MacroMillModel") (T := F_Mod) hx hb htt in_Mod hown hK hP 0 34 rfl rfl rfl (by decide) (htt _ k_2270) (fun _ h9 => h9) d_Mod_top_9 ?_
      refine lv_icmp_ge (tgt := 42) hx hb d_Mod_top_12 (by decide) (fun hc1 => ?_) (fun hc1 => ?_)
      · rw [if_pos hc1] at h
        refine lv_iload hx hb d_Mod_top_42 (lv_at hl 4 rfl) ?_
        cases h
        exact kx_44 ls H locs hP hD hS
      · rw [if_neg hc1] at h
        refine lv_aload_n hx hb d_Mod_top_15 rfl (lv_at hl 0 rfl) ?_
        refine lv_iload hx hb d_Mod_top_16 (lv_at hl 5 rfl) ?_
        refine lv_aload_n hx hb d_Mod_top_18 rfl (lv_at hl 1 rfl) ?_
        refine lv_iload_n hx hb d_Mod_top_19 rfl (lv_at hl 2 rfl) ?_
        refine lv_iload_n hx hb d_Mod_top_20 rfl (lv_at hl 3 rfl) ?_
        obtain ⟨⟨r2, T2⟩, hq2, h⟩ := Option.bind_eq_some_iff.mp h
        try dsimp only at h
        refine go_iS (As := [.ref (ad 0), .int (L 5), .ref (ad (shM.1.length + x1)), .int (L 2), .int (L 3)]) (g := g) (A := A) (h := shM) hP hK hD hS hA hN (fun hp => va_runV (As := [.int (L 5), .ref (ad (shM.1.length + x1)), .int (L 2), .int (L 3)]) (rest := []) ⟨hx, hb, hml, hown, htt⟩ (t_Mod_isNamed l g _ ad S x1 nx1 (L 5 : Int32) (L 2 : Int32) (L 3 : Int32) hx1 k9 r2 T2 hq2) ⟨(cb_L htt k_2789 k_276 k_2786 hd_Mod_isNamed ⟨(Nat.le_trans (by decide +kernel) hRf), (Nat.le_trans (by decide +kernel) hRl)⟩), htt _ k_2788, htt _ k_142⟩ ⟨hp.1, S_recv hK hP 0 rfl rfl, hp.2⟩ rfl rfl hl.1 rfl (lv_room (Nat.le_of_ble_eq_true rfl)) d_Mod_top_21 ⟨hRc, hRs⟩) (fun r0 Sn H locs hw9 hP hD hS => ?_)
        obtain ⟨e9, e8⟩ := hw9
        rw [e8] at hP hD
        refine W.widen (k := cells) (n := slots) (Nat.le_refl _) (Nat.le_refl _) ?_
        refine toI (y := r2) e9 ?_
        refine lv_if_eq (tgt := 32) hx hb d_Mod_top_24 (by decide) (fun hc3 => ?_) (fun hc3 => ?_)
        · rw [if_pos hc3] at h
          refine lv_iload hx hb d_Mod_top_32 (lv_at hl 4 rfl) ?_
          exact (ih.2.2) T2 (upd L 100 (L 4)) M ls H locs h (lv_sub hl [0, 1, 2, 3, 4, 5] rfl) hP hD hS
        · rw [if_neg hc3] at h
          refine lv_iload hx hb d_Mod_top_27 (lv_at hl 5 rfl) ?_
          refine lv_goto (tgt := 34) hx hb d_Mod_top_29 (by decide) ?_
          exact (ih.2.2) T2 (upd L 100 (L 5)) M ls H locs h (lv_sub hl [0, 1, 2, 3, 4, 5] rfl) hP hD hS
    · intro S L M ls H locs h hl hP hD hS
      simp only [f_Mod_top] at h
      refine lv_istore (lv' := [(4, .int (L 100)), (0, .ref (ad 0)), (1, .ref (ad (shM.1.length + x1))), (2, .int (L 2)), (3, .int (L 3)), (5, .int (L 5))]) hx hb d_Mod_top_34 hl (by decide) rfl (fun ls hl => ?_)
      refine lv_iinc (k := 5) (v := (L 5) + 1) (lv' := [(5, .int ((L 5) + 1)), (4, .int (L 100)), (0, .ref (ad 0)), (1, .ref (ad (shM.1.length + x1))), (2, .int (L 2)), (3, .int (L 3))]) hx hb d_Mod_top_36 hl rfl rfl (by decide) rfl (fun ls hl => ?_)
      refine lv_goto (tgt := 6) hx hb d_Mod_top_39 (by decide) ?_
      exact (ih.2.1) S (upd (upd L 4 (L 100)) 5 ((L 5) + 1)) M ls H locs h (lv_sub hl [2, 3, 4, 5, 1, 0] rfl) hP hD hS
abbrev rm_t_Mod_top : Room := { frames := 1, cells := 0, slots := 0, locals := 26 }
theorem t_Mod_top (l : Launch) (g : gG) (sz : Nat) (ad : Nat → Nat) (S : sS) (x1 : Nat) (nx1 : Nat) (v2 : Int32) (v3 : Int32) (hx1 : shM.2[x1]? = some (0, nx1)) (k : Nat) (r : Int32) (S9 : sS) (h : f_Mod_top x1 nx1 k 0 S (upd (upd (fun _ => 0) 2 v2) 3 v3) (fun _ => 0) = some (r, S9)) : Ci l y_Mod_top b_Mod_top 6 rm_t_Mod_top g [.ref (ad 0), .ref (ad (shM.1.length + x1)), .int v2, .int v3] (Sw shM g ad S) sz (fun r1 w => ∃ S1 : sS, w = Sw shM g ad S1 ∧ r1 = r ∧ S1 = S9) := by
  refine startI (by decide) (Nat.le_of_ble_eq_true rfl) ?_
  intro p e s m below meth c A ls hx hb hr hml hlocks hmn hown htt hN hA hP hK hD hS hl
  exact (w_Mod_top hx hb hml hown htt hK hN hA (by decide +kernel) (by decide +kernel) (by decide +kernel) (by decide +kernel) x1 nx1 hx1 r S9 (fun ls H locs hP hD hS => fin_i (g := g) (ws := Sw shM g ad S9) hx hb hr hlocks (by decide +kernel) (by decide +kernel) hP hD hS ⟨_, rfl, rfl, rfl⟩ d_Mod_top_44) k).1 S (upd (upd (fun _ => 0) 2 v2) 3 v3) (fun _ => 0) ls _ _ h hl hP hD hS
def f_Mod_forget : Nat → Nat → sS → (Nat → Int32) → (Nat → Int64) → Option (Int32 × sS)
  | 0, _, _, _, _ => none
  | k + 1, 0, S, L, M => if okI (L 1) 340 = true then (if okI (L 1) 340 = true then (if okI (L 1) 340 = true then (f_Mod_forget k 1 S (upd (upd L 2 ((S.2.1 13 (L 1 : Int32).toNatClampNeg) + (S.2.1 14 (L 1 : Int32).toNatClampNeg))) 3 (S.2.1 12 (L 1 : Int32).toNatClampNeg)) M) else none) else none) else none
  | k + 1, 1, S, L, M => if (S.1 0 40) ≤ ((L 3) + (L 2)) then (if okI (L 1) 340 = true then (if ((putI S 0 40 ((S.1 0 40) - (L 2))).2.1 15 (L 1 : Int32).toNatClampNeg) = (0 : Int32) then (f_Mod_forget k 2 (putI (putI (putI S 0 40 ((S.1 0 40) - (L 2))) 0 41 ((S.1 0 41) - (1 : Int32))) 0 42 ((S.1 0 42) - (L 2))) L M) else (f_Mod_forget k 2 (putI S 0 40 ((S.1 0 40) - (L 2))) L M)) else none) else (if okI ((L 3) + (L 2)) 16684 = true then (if okI (L 3) 16684 = true then (f_Mod_forget k 1 (putA S 16 (L 3 : Int32).toNatClampNeg (vp_nar .byte (S.2.1 16 ((L 3) + (L 2) : Int32).toNatClampNeg))) (upd L 3 ((L 3) + 1)) M) else none) else none)
  | k + 1, 2, S, L, M => f_Mod_forget k 3 (putI S 0 34 ((S.1 0 34) - (1 : Int32))) (upd L 3 (L 1)) M
  | k + 1, 3, S, L, M => if (S.1 0 34) ≤ (L 3) then (some ((0 : Int32), S)) else (if okI ((L 3) + (1 : Int32)) 340 = true then (if okI (L 3) 340 = true then (if okI ((L 3) + (1 : Int32)) 340 = true then (if okI (L 3) 340 = true then (if okI ((L 3) + (1 : Int32)) 340 = true then (if okI (L 3) 340 = true then (if okI ((L 3) + (1 : Int32)) 340 = true then (if okI (L 3) 340 = true then (f_Mod_forget k 3 (putA (putA (putA (putA S 12 (L 3 : Int32).toNatClampNeg ((S.2.1 12 ((L 3) + (1 : Int32) : Int32).toNatClampNeg) - (L 2))) 13 (L 3 : Int32).toNatClampNeg ((putA S 12 (L 3 : Int32).toNatClampNeg ((S.2.1 12 ((L 3) + (1 : Int32) : Int32).toNatClampNeg) - (L 2))).2.1 13 ((L 3) + (1 : Int32) : Int32).toNatClampNeg)) 14 (L 3 : Int32).toNatClampNeg ((putA (putA S 12 (L 3 : Int32).toNatClampNeg ((S.2.1 12 ((L 3) + (1 : Int32) : Int32).toNatClampNeg) - (L 2))) 13 (L 3 : Int32).toNatClampNeg ((putA S 12 (L 3 : Int32).toNatClampNeg ((S.2.1 12 ((L 3) + (1 : Int32) : Int32).toNatClampNeg) - (L 2))).2.1 13 ((L 3) + (1 : Int32) : Int32).toNatClampNeg)).2.1 14 ((L 3) + (1 : Int32) : Int32).toNatClampNeg)) 15 (L 3 : Int32).toNatClampNeg ((putA (putA (putA S 12 (L 3 : Int32).toNatClampNeg ((S.2.1 12 ((L 3) + (1 : Int32) : Int32).toNatClampNeg) - (L 2))) 13 (L 3 : Int32).toNatClampNeg ((putA S 12 (L 3 : Int32).toNatClampNeg ((S.2.1 12 ((L 3) + (1 : Int32) : Int32).toNatClampNeg) - (L 2))).2.1 13 ((L 3) + (1 : Int32) : Int32).toNatClampNeg)) 14 (L 3 : Int32).toNatClampNeg ((putA (putA S 12 (L 3 : Int32).toNatClampNeg ((S.2.1 12 ((L 3) + (1 : Int32) : Int32).toNatClampNeg) - (L 2))) 13 (L 3 : Int32).toNatClampNeg ((putA S 12 (L 3 : Int32).toNatClampNeg ((S.2.1 12 ((L 3) + (1 : Int32) : Int32).toNatClampNeg) - (L 2))).2.1 13 ((L 3) + (1 : Int32) : Int32).toNatClampNeg)).2.1 14 ((L 3) + (1 : Int32) : Int32).toNatClampNeg)).2.1 15 ((L 3) + (1 : Int32) : Int32).toNatClampNeg)) (upd L 3 ((L 3) + 1)) M) else none) else none) else none) else none) else none) else none) else none) else none)
  | _ + 1, _ + 4, _, _, _ => none
set_option maxHeartbeats 8000000 in
set_option maxRecDepth 100000 in
theorem w_Mod_forget {p : Program} {l : Launch} {e : Env} {R : Room} {s : State} {m : MethodId} {args : Array Value} {below : List Frame} {meth : Method} {c : Code} {cells slots : Nat} {Q : State → Prop} {g : gG} {A : Nat → Prop} {ad : Nat → Nat} (hx : p.tables.exec = Jvm.exec) (hb : c.code = b_Mod_forget) (hml : c.maxLocals = 4) (hown : s.vm.findClass "MacroMillModel" = some m.cls) (htt : ∀ w ∈ gt, w.before args s = true) (hK : va_K g.1 classes (tysG g) s) (hN : nw s) (hA : ∀ q : Nat, s.heap.size ≤ q → A q) (r : Int32) (S9 : sS)
    (kx_174 : ∀ (ls : Array Slot) (H : Heap) (locs : List Loc), va_P g.1 classes (Sw shM g ad S9) H → va_D A (Sw shM g ad S9) → va_S A s.heap H locs → W p l e R s m args below meth c H locs cells slots Q (F0 m 174 ls [])) :
    ∀ k9 : Nat, (∀ (S : sS) (L : Nat → Int32) (M : Nat → Int64) (ls : Array Slot) (H : Heap) (locs : List Loc), f_Mod_forget k9 0 S L M = some (r, S9) → lv_has ls 4 [(0, .ref (ad 0)), (1, .int (L 1))] → va_P g.1 classes (Sw shM g ad S) H → va_D A (Sw shM g ad S) → va_S A s.heap H locs → W p l e R s m args below meth c H locs cells slots Q (F0 m 0 ls [])) ∧ (∀ (S : sS) (L : Nat → Int32) (M : Nat → Int64) (ls : Array Slot) (H : Heap) (locs : List Loc), f_Mod_forget k9 1 S L M = some (r, S9) → lv_has ls 4 [(0, .ref (ad 0)), (1, .int (L 1)), (2, .int (L 2)), (3, .int (L 3))] → va_P g.1 classes (Sw shM g ad S) H → va_D A (Sw shM g ad S) → va_S A s.heap H locs → W p l e R s m args below meth c H locs cells slots Q (F0 m 21 ls [])) ∧ (∀ (S : sS) (L : Nat → Int32) (M : Nat → Int64) (ls : Array Slot) (H : Heap) (locs : List Loc), f_Mod_forget k9 2 S L M = some (r, S9) → lv_has ls 4 [(0, .ref (ad 0)), (1, .int (L 1)), (2, .int (L 2)), (3, .int (L 3))] → va_P g.1 classes (Sw shM g ad S) H → va_D A (Sw shM g ad S) → va_S A s.heap H locs → W p l e R s m args below meth c H locs cells slots Q (F0 m 90 ls [])) ∧ (∀ (S : sS) (L : Nat → Int32) (M : Nat → Int64) (ls : Array Slot) (H : Heap) (locs : List Loc), f_Mod_forget k9 3 S L M = some (r, S9) → lv_has ls 4 [(0, .ref (ad 0)), (1, .int (L 1)), (2, .int (L 2)), (3, .int (L 3))] → va_P g.1 classes (Sw shM g ad S) H → va_D A (Sw shM g ad S) → va_S A s.heap H locs → W p l e R s m args below meth c H locs cells slots Q (F0 m 102 ls [])) := by
  intro k9
  induction k9 with
  | zero => exact ⟨(fun _ _ _ _ _ _ h => by simp [f_Mod_forget] at h), (fun _ _ _ _ _ _ h => by simp [f_Mod_forget] at h), (fun _ _ _ _ _ _ h => by simp [f_Mod_forget] at h), (fun _ _ _ _ _ _ h => by simp [f_Mod_forget] at h)⟩
  | succ k9 ih =>
    refine ⟨?_, ?_, ?_, ?_⟩
    · intro S L M ls H locs h hl hP hD hS
      simp only [f_Mod_forget] at h
      refine lv_aload_n hx hb d_Mod_forget_0 rfl (lv_at hl 0 rfl) ?_
      refine S_getR (h := shM) (C := "MacroMillModel") (T := F_Mod) hx hb htt in_Mod hown hK hP 0 36 rfl 14 rfl rfl (by decide) (htt _ k_2272) (fun _ h9 => h9) d_Mod_forget_1 ?_
      refine lv_iload_n hx hb d_Mod_forget_4 rfl (lv_at hl 1 rfl) ?_
      obtain ⟨hv1, h⟩ := chk h
      refine S_iald (h := shM) (i := L 1) hx hb hK hP 13 rfl (okI_in hv1) d_Mod_forget_5 ?_
      refine lv_aload_n hx hb d_Mod_forget_6 rfl (lv_at hl 0 rfl) ?_
      refine S_getR (h := shM) (C := "MacroMillModel") (T := F_Mod) hx hb htt in_Mod hown hK hP 0 37 rfl 15 rfl rfl (by decide) (htt _ k_2273) (fun _ h9 => h9) d_Mod_forget_7 ?_
      refine lv_iload_n hx hb d_Mod_forget_10 rfl (lv_at hl 1 rfl) ?_
      obtain ⟨hv2, h⟩ := chk h
      refine S_iald (h := shM) (i := L 1) hx hb hK hP 14 rfl (okI_in hv2) d_Mod_forget_11 ?_
      refine lv_iadd hx hb d_Mod_forget_12 ?_
      refine lv_istore_n (lv' := [(2, .int ((S.2.1 13 (L 1 : Int32).toNatClampNeg) + (S.2.1 14 (L 1 : Int32).toNatClampNeg))), (0, .ref (ad 0)), (1, .int (L 1))]) hx hb d_Mod_forget_13 rfl hl (by decide) rfl (fun ls hl => ?_)
      refine lv_aload_n hx hb d_Mod_forget_14 rfl (lv_at hl 1 rfl) ?_
      show W _ _ _ _ _ _ _ _ _ _ _ _ _ _ _ (F0 _ 15 _ _)
      refine S_getR (h := shM) (C := "MacroMillModel") (T := F_Mod) hx hb htt in_Mod hown hK hP 0 35 rfl 13 rfl rfl (by decide) (htt _ k_2271) (fun _ h9 => h9) d_Mod_forget_15 ?_
      refine lv_iload_n hx hb d_Mod_forget_18 rfl (lv_at hl 2 rfl) ?_
      obtain ⟨hv3, h⟩ := chk h
      refine S_iald (h := shM) (i := L 1) hx hb hK hP 12 rfl (okI_in hv3) d_Mod_forget_19 ?_
      refine lv_istore_n (lv' := [(3, .int (S.2.1 12 (L 1 : Int32).toNatClampNeg)), (2, .int ((S.2.1 13 (L 1 : Int32).toNatClampNeg) + (S.2.1 14 (L 1 : Int32).toNatClampNeg))), (0, .ref (ad 0)), (1, .int (L 1))]) hx hb d_Mod_forget_20 rfl hl (by decide) rfl (fun ls hl => ?_)
      exact (ih.2.1) S (upd (upd L 2 ((S.2.1 13 (L 1 : Int32).toNatClampNeg) + (S.2.1 14 (L 1 : Int32).toNatClampNeg))) 3 (S.2.1 12 (L 1 : Int32).toNatClampNeg)) M ls H locs h (lv_sub hl [2, 3, 1, 0] rfl) hP hD hS
    · intro S L M ls H locs h hl hP hD hS
      simp only [f_Mod_forget] at h
      refine lv_iload_n hx hb d_Mod_forget_21 rfl (lv_at hl 3 rfl) ?_
      refine lv_iload_n hx hb d_Mod_forget_22 rfl (lv_at hl 2 rfl) ?_
      refine lv_iadd hx hb d_Mod_forget_23 ?_
      refine lv_aload_n hx hb d_Mod_forget_24 rfl (lv_at hl 0 rfl) ?_
      refine S_getI (h := shM) (C := "MacroMillModel") (T := F_Mod) hx hb htt in_Mod hown hK hP 0 40 rfl rfl rfl (by decide) (htt _ k_2276) (fun _ h9 => h9) d_Mod_forget_25 ?_
      refine lv_icmp_ge (tgt := 51) hx hb d_Mod_forget_28 (by decide) (fun hc1 => ?_) (fun hc1 => ?_)
      · rw [if_pos hc1] at h
        refine lv_aload_n hx hb d_Mod_forget_51 rfl (lv_at hl 0 rfl) ?_
        refine lv_aload_n hx hb d_Mod_forget_52 rfl (lv_at hl 0 rfl) ?_
        refine S_getI (h := shM) (C := "MacroMillModel") (T := F_Mod) hx hb htt in_Mod hown hK hP 0 40 rfl rfl rfl (by decide) (htt _ k_2276) (fun _ h9 => h9) d_Mod_forget_53 ?_
        refine lv_iload_n hx hb d_Mod_forget_56 rfl (lv_at hl 2 rfl) ?_
        refine lv_isub hx hb d_Mod_forget_57 ?_
        refine S_put (h := shM) (C := "MacroMillModel") (T := F_Mod) (v := (S.1 0 40) - (L 2)) hx hb htt in_Mod t_Mod t_Mod_ok n_Mod hown hK hP hD hS 0 40 rfl rfl rfl (by decide) (htt _ k_2276) (fun _ h9 => h9) rfl rfl rfl d_Mod_forget_58 (fun H locs hP hD hS => ?_)
        show W _ _ _ _ _ _ _ _ _ _ _ _ _ _ _ (F0 _ 61 _ _)
        refine lv_aload_n hx hb d_Mod_forget_61 rfl (lv_at hl 0 rfl) ?_
        refine S_getR (h := shM) (C := "MacroMillModel") (T := F_Mod) hx hb htt in_Mod hown hK hP 0 38 rfl 16 rfl rfl (by decide) (htt _ k_2274) (fun _ h9 => h9) d_Mod_forget_62 ?_
        refine lv_iload_n hx hb d_Mod_forget_65 rfl (lv_at hl 1 rfl) ?_
        obtain ⟨hv2, h⟩ := chk h
        refine S_iald (h := shM) (i := L 1) hx hb hK hP 15 rfl (okI_in hv2) d_Mod_forget_66 ?_
        refine lv_if_ne (tgt := 90) hx hb d_Mod_forget_67 (by decide) (fun hc3 => ?_) (fun hc3 => ?_)
        · rw [if_neg hc3] at h
          exact (ih.2.2.1) (putI S 0 40 ((S.1 0 40) - (L 2))) L M ls H locs h (lv_sub hl [0, 1, 2, 3] rfl) hP hD hS
        · rw [if_pos hc3] at h
          refine lv_aload_n hx hb d_Mod_forget_70 rfl (lv_at hl 0 rfl) ?_
          refine lv_dup hx hb d_Mod_forget_71 rfl ?_
          refine S_getI (h := shM) (C := "MacroMillModel") (T := F_Mod) hx hb htt in_Mod hown hK hP 0 41 rfl rfl rfl (by decide) (htt _ k_2277) (fun _ h9 => h9) d_Mod_forget_72 ?_
          refine toI (y := S.1 0 41) rfl ?_
          refine lv_iconst (v := 1) hx hb d_Mod_forget_75 (by decide) ?_
          refine lv_isub hx hb d_Mod_forget_76 ?_
          refine S_put (h := shM) (C := "MacroMillModel") (T := F_Mod) (v := (S.1 0 41) - (1 : Int32)) hx hb htt in_Mod t_Mod t_Mod_ok n_Mod hown hK hP hD hS 0 41 rfl rfl rfl (by decide) (htt _ k_2277) (fun _ h9 => h9) rfl rfl rfl d_Mod_forget_77 (fun H locs hP hD hS => ?_)
          refine lv_aload_n hx hb d_Mod_forget_80 rfl (lv_at hl 0 rfl) ?_
          refine lv_aload_n hx hb d_Mod_forget_81 rfl (lv_at hl 0 rfl) ?_
          show W _ _ _ _ _ _ _ _ _ _ _ _ _ _ _ (F0 _ 82 _ _)
          refine S_getI (h := shM) (C := "MacroMillModel") (T := F_Mod) hx hb htt in_Mod hown hK hP 0 42 rfl rfl rfl (by decide) (htt _ k_2278) (fun _ h9 => h9) d_Mod_forget_82 ?_
          refine toI (y := S.1 0 42) rfl ?_
          refine lv_iload_n hx hb d_Mod_forget_85 rfl (lv_at hl 2 rfl) ?_
          refine lv_isub hx hb d_Mod_forget_86 ?_
          refine S_put (h := shM) (C := "MacroMillModel") (T := F_Mod) (v := (S.1 0 42) - (L 2)) hx hb htt in_Mod t_Mod t_Mod_ok n_Mod hown hK hP hD hS 0 42 rfl rfl rfl (by decide) (htt _ k_2278) (fun _ h9 => h9) rfl rfl rfl d_Mod_forget_87 (fun H locs hP hD hS => ?_)
          exact (ih.2.2.1) (putI (putI (putI S 0 40 ((S.1 0 40) - (L 2))) 0 41 ((S.1 0 41) - (1 : Int32))) 0 42 ((S.1 0 42) - (L 2))) L M ls H locs h (lv_sub hl [0, 1, 2, 3] rfl) hP hD hS
      · rw [if_neg hc1] at h
        refine lv_aload_n hx hb d_Mod_forget_31 rfl (lv_at hl 0 rfl) ?_
        refine S_getR (h := shM) (C := "MacroMillModel") (T := F_Mod) hx hb htt in_Mod hown hK hP 0 39 rfl 17 rfl rfl (by decide) (htt _ k_2275) (fun _ h9 => h9) d_Mod_forget_32 ?_
        refine lv_iload_n hx hb d_Mod_forget_35 rfl (lv_at hl 3 rfl) ?_
        refine lv_aload_n hx hb d_Mod_forget_36 rfl (lv_at hl 0 rfl) ?_
        refine S_getR (h := shM) (C := "MacroMillModel") (T := F_Mod) hx hb htt in_Mod hown hK hP 0 39 rfl 17 rfl rfl (by decide) (htt _ k_2275) (fun _ h9 => h9) d_Mod_forget_37 ?_
        refine lv_iload_n hx hb d_Mod_forget_40 rfl (lv_at hl 3 rfl) ?_
        show W _ _ _ _ _ _ _ _ _ _ _ _ _ _ _ (F0 _ 41 _ _)
        refine lv_iload_n hx hb d_Mod_forget_41 rfl (lv_at hl 2 rfl) ?_
        refine lv_iadd hx hb d_Mod_forget_42 ?_
        obtain ⟨hv4, h⟩ := chk h
        refine S_bald (h := shM) (i := (L 3) + (L 2)) hx hb hK hP 16 rfl (okI_in hv4) d_Mod_forget_43 ?_
        obtain ⟨hv5, h⟩ := chk h
        refine S_bast (h := shM) (i := L 3) (v := S.2.1 16 ((L 3) + (L 2) : Int32).toNatClampNeg) hx hb hK hP hD hS 16 rfl (okI_in hv5) d_Mod_forget_44 (fun H locs hP hD hS => ?_)
        refine lv_iinc (k := 3) (v := (L 3) + 1) (lv' := [(3, .int ((L 3) + 1)), (0, .ref (ad 0)), (1, .int (L 1)), (2, .int (L 2))]) hx hb d_Mod_forget_45 hl rfl rfl (by decide) rfl (fun ls hl => ?_)
        refine lv_goto (tgt := 21) hx hb d_Mod_forget_48 (by decide) ?_
        exact (ih.2.1) (putA S 16 (L 3 : Int32).toNatClampNeg (vp_nar .byte (S.2.1 16 ((L 3) + (L 2) : Int32).toNatClampNeg))) (upd L 3 ((L 3) + 1)) M ls H locs h (lv_sub hl [1, 2, 3, 0] rfl) hP hD hS
    · intro S L M ls H locs h hl hP hD hS
      simp only [f_Mod_forget] at h
      refine lv_aload_n hx hb d_Mod_forget_90 rfl (lv_at hl 0 rfl) ?_
      refine lv_dup hx hb d_Mod_forget_91 rfl ?_
      refine S_getI (h := shM) (C := "MacroMillModel") (T := F_Mod) hx hb htt in_Mod hown hK hP 0 34 rfl rfl rfl (by decide) (htt _ k_2270) (fun _ h9 => h9) d_Mod_forget_92 ?_
      refine lv_iconst (v := 1) hx hb d_Mod_forget_95 (by decide) ?_
      refine lv_isub hx hb d_Mod_forget_96 ?_
      refine S_put (h := shM) (C := "MacroMillModel") (T := F_Mod) (v := (S.1 0 34) - (1 : Int32)) hx hb htt in_Mod t_Mod t_Mod_ok n_Mod hown hK hP hD hS 0 34 rfl rfl rfl (by decide) (htt _ k_2270) (fun _ h9 => h9) rfl rfl rfl d_Mod_forget_97 (fun H locs hP hD hS => ?_)
      refine lv_iload_n hx hb d_Mod_forget_100 rfl (lv_at hl 1 rfl) ?_
      refine lv_istore_n (lv' := [(3, .int (L 1)), (0, .ref (ad 0)), (1, .int (L 1)), (2, .int (L 2))]) hx hb d_Mod_forget_101 rfl hl (by decide) rfl (fun ls hl => ?_)
      exact (ih.2.2.2) (putI S 0 34 ((S.1 0 34) - (1 : Int32))) (upd L 3 (L 1)) M ls H locs h (lv_sub hl [1, 2, 3, 0] rfl) hP hD hS
    · intro S L M ls H locs h hl hP hD hS
      simp only [f_Mod_forget] at h
      refine lv_iload_n hx hb d_Mod_forget_102 rfl (lv_at hl 3 rfl) ?_
      refine lv_aload_n hx hb d_Mod_forget_103 rfl (lv_at hl 0 rfl) ?_
      refine S_getI (h := shM) (C := "MacroMillModel") (T := F_Mod) hx hb htt in_Mod hown hK hP 0 34 rfl rfl rfl (by decide) (htt _ k_2270) (fun _ h9 => h9) d_Mod_forget_104 ?_
      refine lv_icmp_ge (tgt := 174) hx hb d_Mod_forget_107 (by decide) (fun hc1 => ?_) (fun hc1 => ?_)
      · rw [if_pos hc1] at h
        cases h
        exact kx_174 ls H locs hP hD hS
      · rw [if_neg hc1] at h
        refine lv_aload_n hx hb d_Mod_forget_110 rfl (lv_at hl 0 rfl) ?_
        refine S_getR (h := shM) (C := "MacroMillModel") (T := F_Mod) hx hb htt in_Mod hown hK hP 0 35 rfl 13 rfl rfl (by decide) (htt _ k_2271) (fun _ h9 => h9) d_Mod_forget_111 ?_
        refine lv_iload_n hx hb d_Mod_forget_114 rfl (lv_at hl 3 rfl) ?_
        refine lv_aload_n hx hb d_Mod_forget_115 rfl (lv_at hl 0 rfl) ?_
        refine S_getR (h := shM) (C := "MacroMillModel") (T := F_Mod) hx hb htt in_Mod hown hK hP 0 35 rfl 13 rfl rfl (by decide) (htt _ k_2271) (fun _ h9 => h9) d_Mod_forget_116 ?_
        refine lv_iload_n hx hb d_Mod_forget_119 rfl (lv_at hl 3 rfl) ?_
        refine lv_iconst (v := 1) hx hb d_Mod_forget_120 (by decide) ?_
        refine lv_iadd hx hb d_Mod_forget_121 ?_
        obtain ⟨hv2, h⟩ := chk h
        show W _ _ _ _ _ _ _ _ _ _ _ _ _ _ _ (F0 _ 122 _ _)
        refine S_iald (h := shM) (i := (L 3) + (1 : Int32)) hx hb hK hP 12 rfl (okI_in hv2) d_Mod_forget_122 ?_
        refine lv_iload_n hx hb d_Mod_forget_123 rfl (lv_at hl 2 rfl) ?_
        refine lv_isub hx hb d_Mod_forget_124 ?_
        obtain ⟨hv3, h⟩ := chk h
        refine S_iast (h := shM) (i := L 3) (v := (S.2.1 12 ((L 3) + (1 : Int32) : Int32).toNatClampNeg) - (L 2)) hx hb hK hP hD hS 12 rfl (okI_in hv3) d_Mod_forget_125 (fun H locs hP hD hS => ?_)
        refine lv_aload_n hx hb d_Mod_forget_126 rfl (lv_at hl 0 rfl) ?_
        refine S_getR (h := shM) (C := "MacroMillModel") (T := F_Mod) hx hb htt in_Mod hown hK hP 0 36 rfl 14 rfl rfl (by decide) (htt _ k_2272) (fun _ h9 => h9) d_Mod_forget_127 ?_
        refine lv_iload_n hx hb d_Mod_forget_130 rfl (lv_at hl 3 rfl) ?_
        refine lv_aload_n hx hb d_Mod_forget_131 rfl (lv_at hl 0 rfl) ?_
        refine S_getR (h := shM) (C := "MacroMillModel") (T := F_Mod) hx hb htt in_Mod hown hK hP 0 36 rfl 14 rfl rfl (by decide) (htt _ k_2272) (fun _ h9 => h9) d_Mod_forget_132 ?_
        refine lv_iload_n hx hb d_Mod_forget_135 rfl (lv_at hl 3 rfl) ?_
        refine lv_iconst (v := 1) hx hb d_Mod_forget_136 (by decide) ?_
        refine lv_iadd hx hb d_Mod_forget_137 ?_
        obtain ⟨hv4, h⟩ := chk h
        show W _ _ _ _ _ _ _ _ _ _ _ _ _ _ _ (F0 _ 138 _ _)
        refine S_iald (h := shM) (i := (L 3) + (1 : Int32)) hx hb hK hP 13 rfl (okI_in hv4) d_Mod_forget_138 ?_
        obtain ⟨hv5, h⟩ := chk h
        refine S_iast (h := shM) (i := L 3) (v := (putA S 12 (L 3 : Int32).toNatClampNeg ((S.2.1 12 ((L 3) + (1 : Int32) : Int32).toNatClampNeg) - (L 2))).2.1 13 ((L 3) + (1 : Int32) : Int32).toNatClampNeg) hx hb hK hP hD hS 13 rfl (okI_in hv5) d_Mod_forget_139 (fun H locs hP hD hS => ?_)
        refine lv_aload_n hx hb d_Mod_forget_140 rfl (lv_at hl 0 rfl) ?_
        refine S_getR (h := shM) (C := "MacroMillModel") (T := F_Mod) hx hb htt in_Mod hown hK hP 0 37 rfl 15 rfl rfl (by decide) (htt _ k_2273) (fun _ h9 => h9) d_Mod_forget_141 ?_
        refine lv_iload_n hx hb d_Mod_forget_144 rfl (lv_at hl 3 rfl) ?_
        refine lv_aload_n hx hb d_Mod_forget_145 rfl (lv_at hl 0 rfl) ?_
        refine S_getR (h := shM) (C := "MacroMillModel") (T := F_Mod) hx hb htt in_Mod hown hK hP 0 37 rfl 15 rfl rfl (by decide) (htt _ k_2273) (fun _ h9 => h9) d_Mod_forget_146 ?_
        refine lv_iload_n hx hb d_Mod_forget_149 rfl (lv_at hl 3 rfl) ?_
        refine lv_iconst (v := 1) hx hb d_Mod_forget_150 (by decide) ?_
        refine lv_iadd hx hb d_Mod_forget_151 ?_
        obtain ⟨hv6, h⟩ := chk h
        refine S_iald (h := shM) (i := (L 3) + (1 : Int32)) hx hb hK hP 14 rfl (okI_in hv6) d_Mod_forget_152 ?_
        obtain ⟨hv7, h⟩ := chk h
        refine S_iast (h := shM) (i := L 3) (v := (putA (putA S 12 (L 3 : Int32).toNatClampNeg ((S.2.1 12 ((L 3) + (1 : Int32) : Int32).toNatClampNeg) - (L 2))) 13 (L 3 : Int32).toNatClampNeg ((putA S 12 (L 3 : Int32).toNatClampNeg ((S.2.1 12 ((L 3) + (1 : Int32) : Int32).toNatClampNeg) - (L 2))).2.1 13 ((L 3) + (1 : Int32) : Int32).toNatClampNeg)).2.1 14 ((L 3) + (1 : Int32) : Int32).toNatClampNeg) hx hb hK hP hD hS 14 rfl (okI_in hv7) d_Mod_forget_153 (fun H locs hP hD hS => ?_)
        show W _ _ _ _ _ _ _ _ _ _ _ _ _ _ _ (F0 _ 154 _ _)
        refine lv_aload_n hx hb d_Mod_forget_154 rfl (lv_at hl 0 rfl) ?_
        refine S_getR (h := shM) (C := "MacroMillModel") (T := F_Mod) hx hb htt in_Mod hown hK hP 0 38 rfl 16 rfl rfl (by decide) (htt _ k_2274) (fun _ h9 => h9) d_Mod_forget_155 ?_
        refine lv_iload_n hx hb d_Mod_forget_158 rfl (lv_at hl 3 rfl) ?_
        refine lv_aload_n hx hb d_Mod_forget_159 rfl (lv_at hl 0 rfl) ?_
        refine S_getR (h := shM) (C := "MacroMillModel") (T := F_Mod) hx hb htt in_Mod hown hK hP 0 38 rfl 16 rfl rfl (by decide) (htt _ k_2274) (fun _ h9 => h9) d_Mod_forget_160 ?_
        refine lv_iload_n hx hb d_Mod_forget_163 rfl (lv_at hl 3 rfl) ?_
        refine lv_iconst (v := 1) hx hb d_Mod_forget_164 (by decide) ?_
        refine lv_iadd hx hb d_Mod_forget_165 ?_
        obtain ⟨hv8, h⟩ := chk h
        refine S_iald (h := shM) (i := (L 3) + (1 : Int32)) hx hb hK hP 15 rfl (okI_in hv8) d_Mod_forget_166 ?_
        obtain ⟨hv9, h⟩ := chk h
        refine S_iast (h := shM) (i := L 3) (v := (putA (putA (putA S 12 (L 3 : Int32).toNatClampNeg ((S.2.1 12 ((L 3) + (1 : Int32) : Int32).toNatClampNeg) - (L 2))) 13 (L 3 : Int32).toNatClampNeg ((putA S 12 (L 3 : Int32).toNatClampNeg ((S.2.1 12 ((L 3) + (1 : Int32) : Int32).toNatClampNeg) - (L 2))).2.1 13 ((L 3) + (1 : Int32) : Int32).toNatClampNeg)) 14 (L 3 : Int32).toNatClampNeg ((putA (putA S 12 (L 3 : Int32).toNatClampNeg ((S.2.1 12 ((L 3) + (1 : Int32) : Int32).toNatClampNeg) - (L 2))) 13 (L 3 : Int32).toNatClampNeg ((putA S 12 (L 3 : Int32).toNatClampNeg ((S.2.1 12 ((L 3) + (1 : Int32) : Int32).toNatClampNeg) - (L 2))).2.1 13 ((L 3) + (1 : Int32) : Int32).toNatClampNeg)).2.1 14 ((L 3) + (1 : Int32) : Int32).toNatClampNeg)).2.1 15 ((L 3) + (1 : Int32) : Int32).toNatClampNeg) hx hb hK hP hD hS 15 rfl (okI_in hv9) d_Mod_forget_167 (fun H locs hP hD hS => ?_)
        refine lv_iinc (k := 3) (v := (L 3) + 1) (lv' := [(3, .int ((L 3) + 1)), (0, .ref (ad 0)), (1, .int (L 1)), (2, .int (L 2))]) hx hb d_Mod_forget_168 hl rfl rfl (by decide) rfl (fun ls hl => ?_)
        refine lv_goto (tgt := 102) hx hb d_Mod_forget_171 (by decide) ?_
        exact (ih.2.2.2) (putA (putA (putA (putA S 12 (L 3 : Int32).toNatClampNeg ((S.2.1 12 ((L 3) + (1 : Int32) : Int32).toNatClampNeg) - (L 2))) 13 (L 3 : Int32).toNatClampNeg ((putA S 12 (L 3 : Int32).toNatClampNeg ((S.2.1 12 ((L 3) + (1 : Int32) : Int32).toNatClampNeg) - (L 2))).2.1 13 ((L 3) + (1 : Int32) : Int32).toNatClampNeg)) 14 (L 3 : Int32).toNatClampNeg ((putA (putA S 12 (L 3 : Int32).toNatClampNeg ((S.2.1 12 ((L 3) + (1 : Int32) : Int32).toNatClampNeg) - (L 2))) 13 (L 3 : Int32).toNatClampNeg ((putA S 12 (L 3 : Int32).toNatClampNeg ((S.2.1 12 ((L 3) + (1 : Int32) : Int32).toNatClampNeg) - (L 2))).2.1 13 ((L 3) + (1 : Int32) : Int32).toNatClampNeg)).2.1 14 ((L 3) + (1 : Int32) : Int32).toNatClampNeg)) 15 (L 3 : Int32).toNatClampNeg ((putA (putA (putA S 12 (L 3 : Int32).toNatClampNeg ((S.2.1 12 ((L 3) + (1 : Int32) : Int32).toNatClampNeg) - (L 2))) 13 (L 3 : Int32).toNatClampNeg ((putA S 12 (L 3 : Int32).toNatClampNeg ((S.2.1 12 ((L 3) + (1 : Int32) : Int32).toNatClampNeg) - (L 2))).2.1 13 ((L 3) + (1 : Int32) : Int32).toNatClampNeg)) 14 (L 3 : Int32).toNatClampNeg ((putA (putA S 12 (L 3 : Int32).toNatClampNeg ((S.2.1 12 ((L 3) + (1 : Int32) : Int32).toNatClampNeg) - (L 2))) 13 (L 3 : Int32).toNatClampNeg ((putA S 12 (L 3 : Int32).toNatClampNeg ((S.2.1 12 ((L 3) + (1 : Int32) : Int32).toNatClampNeg) - (L 2))).2.1 13 ((L 3) + (1 : Int32) : Int32).toNatClampNeg)).2.1 14 ((L 3) + (1 : Int32) : Int32).toNatClampNeg)).2.1 15 ((L 3) + (1 : Int32) : Int32).toNatClampNeg)) (upd L 3 ((L 3) + 1)) M ls H locs h (lv_sub hl [1, 2, 3, 0] rfl) hP hD hS
abbrev rm_t_Mod_forget : Room := { frames := 0, cells := 0, slots := 0, locals := 0 }
theorem t_Mod_forget (l : Launch) (g : gG) (sz : Nat) (ad : Nat → Nat) (S : sS) (v1 : Int32) (k : Nat) (r : Int32) (S9 : sS) (h : f_Mod_forget k 0 S (upd (fun _ => 0) 1 v1) (fun _ => 0) = some (r, S9)) : Cv l y_Mod_forget b_Mod_forget 4 rm_t_Mod_forget g [.ref (ad 0), .int v1] (Sw shM g ad S) sz (fun w => ∃ S1 : sS, w = Sw shM g ad S1 ∧ S1 = S9) := by
  refine startV (by decide) (Nat.le_of_ble_eq_true rfl) ?_
  intro p e s m below meth c A ls hx hb hr hml hlocks hmn hown htt hN hA hP hK hD hS hl
  exact (w_Mod_forget hx hb hml hown htt hK hN hA r S9 (fun ls H locs hP hD hS => fin_v (g := g) (ws := Sw shM g ad S9) hx hb hr hlocks (by decide +kernel) (by decide +kernel) hP hD hS ⟨_, rfl, rfl⟩ d_Mod_forget_174) k).1 S (upd (fun _ => 0) 1 v1) (fun _ => 0) ls _ _ h hl hP hD hS
def f_Mod_addMeaning : Nat → Nat → sS → (Nat → Int32) → (Nat → Int64) → Option (Int32 × sS)
  | 0, _, _, _, _ => none
  | k + 1, 0, S, L, M => if okI (S.1 0 34) 340 = true then (if okI (S.1 0 34) 340 = true then (if okI (S.1 0 34) 340 = true then (if okI (S.1 0 34) 340 = true then (f_Mod_addMeaning k 1 (putA (putA (putA (putA S 12 (S.1 0 34 : Int32).toNatClampNeg (S.1 0 40)) 13 (S.1 0 34 : Int32).toNatClampNeg (L 2)) 14 (S.1 0 34 : Int32).toNatClampNeg (L 4)) 15 (S.1 0 34 : Int32).toNatClampNeg 0) (upd L 5 (0 : Int32)) M) else none) else none) else none) else none
  | k + 1, 1, S, L, M => if (L 2) ≤ (L 5) then (f_Mod_addMeaning k 2 S (upd L 5 (0 : Int32)) M) else (if okI ((L 1) + (L 5)) 16385 = true then (if okI ((S.1 0 40) + (L 5)) 16684 = true then (f_Mod_addMeaning k 1 (putA S 16 ((S.1 0 40) + (L 5) : Int32).toNatClampNeg (vp_nar .byte (S.2.1 19 ((L 1) + (L 5) : Int32).toNatClampNeg))) (upd L 5 ((L 5) + 1)) M) else none) else none)
  | k + 1, 2, S, L, M => if (L 4) ≤ (L 5) then (some ((0 : Int32), (putI (putI (putI (putI S 0 40 (((S.1 0 40) + (L 2)) + (L 4))) 0 41 ((S.1 0 41) + (1 : Int32))) 0 42 (((S.1 0 42) + (L 2)) + (L 4))) 0 34 ((S.1 0 34) + (1 : Int32))))) else (if okI ((L 3) + (L 5)) 16385 = true then (if okI (((S.1 0 40) + (L 2)) + (L 5)) 16684 = true then (f_Mod_addMeaning k 2 (putA S 16 (((S.1 0 40) + (L 2)) + (L 5) : Int32).toNatClampNeg (vp_nar .byte (S.2.1 19 ((L 3) + (L 5) : Int32).toNatClampNeg))) (upd L 5 ((L 5) + 1)) M) else none) else none)
  | _ + 1, _ + 3, _, _, _ => none
set_option maxHeartbeats 8000000 in
set_option maxRecDepth 100000 in
theorem w_Mod_addMeaning {p : Program} {l : Launch} {e : Env} {R : Room} {s : State} {m : MethodId} {args : Array Value} {below : List Frame} {meth : Method} {c : Code} {cells slots : Nat} {Q : State → Prop} {g : gG} {A : Nat → Prop} {ad : Nat → Nat} (hx : p.tables.exec = Jvm.exec) (hb : c.code = b_Mod_addMeaning) (hml : c.maxLocals = 6) (hown : s.vm.findClass "MacroMillModel" = some m.cls) (htt : ∀ w ∈ gt, w.before args s = true) (hK : va_K g.1 classes (tysG g) s) (hN : nw s) (hA : ∀ q : Nat, s.heap.size ≤ q → A q) (r : Int32) (S9 : sS)
    (kx_165 : ∀ (ls : Array Slot) (H : Heap) (locs : List Loc), va_P g.1 classes (Sw shM g ad S9) H → va_D A (Sw shM g ad S9) → va_S A s.heap H locs → W p l e R s m args below meth c H locs cells slots Q (F0 m 165 ls [])) :
    ∀ k9 : Nat, (∀ (S : sS) (L : Nat → Int32) (M : Nat → Int64) (ls : Array Slot) (H : Heap) (locs : List Loc), f_Mod_addMeaning k9 0 S L M = some (r, S9) → lv_has ls 6 [(0, .ref (ad 0)), (1, .int (L 1)), (2, .int (L 2)), (3, .int (L 3)), (4, .int (L 4))] → va_P g.1 classes (Sw shM g ad S) H → va_D A (Sw shM g ad S) → va_S A s.heap H locs → W p l e R s m args below meth c H locs cells slots Q (F0 m 0 ls [])) ∧ (∀ (S : sS) (L : Nat → Int32) (M : Nat → Int64) (ls : Array Slot) (H : Heap) (locs : List Loc), f_Mod_addMeaning k9 1 S L M = some (r, S9) → lv_has ls 6 [(0, .ref (ad 0)), (1, .int (L 1)), (2, .int (L 2)), (3, .int (L 3)), (4, .int (L 4)), (5, .int (L 5))] → va_P g.1 classes (Sw shM g ad S) H → va_D A (Sw shM g ad S) → va_S A s.heap H locs → W p l e R s m args below meth c H locs cells slots Q (F0 m 47 ls [])) ∧ (∀ (S : sS) (L : Nat → Int32) (M : Nat → Int64) (ls : Array Slot) (H : Heap) (locs : List Loc), f_Mod_addMeaning k9 2 S L M = some (r, S9) → lv_has ls 6 [(0, .ref (ad 0)), (1, .int (L 1)), (2, .int (L 2)), (3, .int (L 3)), (4, .int (L 4)), (5, .int (L 5))] → va_P g.1 classes (Sw shM g ad S) H → va_D A (Sw shM g ad S) → va_S A s.heap H locs → W p l e R s m args below meth c H locs cells slots Q (F0 m 83 ls [])) := by
  intro k9
  induction k9 with
  | zero => exact ⟨(fun _ _ _ _ _ _ h => by simp [f_Mod_addMeaning] at h), (fun _ _ _ _ _ _ h => by simp [f_Mod_addMeaning] at h), (fun _ _ _ _ _ _ h => by simp [f_Mod_addMeaning] at h)⟩
  | succ k9 ih =>
    refine ⟨?_, ?_, ?_⟩
    · intro S L M ls H locs h hl hP hD hS
      simp only [f_Mod_addMeaning] at h
      refine lv_aload_n hx hb d_Mod_addMeaning_0 rfl (lv_at hl 0 rfl) ?_
      refine S_getR (h := shM) (C := "MacroMillModel") (T := F_Mod) hx hb htt in_Mod hown hK hP 0 35 rfl 13 rfl rfl (by decide) (htt _ k_2271) (fun _ h9 => h9) d_Mod_addMeaning_1 ?_
      refine lv_aload_n hx hb d_Mod_addMeaning_4 rfl (lv_at hl 0 rfl) ?_
      refine S_getI (h := shM) (C := "MacroMillModel") (T := F_Mod) hx hb htt in_Mod hown hK hP 0 34 rfl rfl rfl (by decide) (htt _ k_2270) (fun _ h9 => h9) d_Mod_addMeaning_5 ?_
      refine lv_aload_n hx hb d_Mod_addMeaning_8 rfl (lv_at hl 0 rfl) ?_
      refine S_getI (h := shM) (C := "MacroMillModel") (T := F_Mod) hx hb htt in_Mod hown hK hP 0 40 rfl rfl rfl (by decide) (htt _ k_2276) (fun _ h9 => h9) d_Mod_addMeaning_9 ?_
      obtain ⟨hv1, h⟩ := chk h
      refine S_iast (h := shM) (i := S.1 0 34) (v := S.1 0 40) hx hb hK hP hD hS 12 rfl (okI_in hv1) d_Mod_addMeaning_12 (fun H locs hP hD hS => ?_)
      refine lv_aload_n hx hb d_Mod_addMeaning_13 rfl (lv_at hl 0 rfl) ?_
      refine S_getR (h := shM) (C := "MacroMillModel") (T := F_Mod) hx hb htt in_Mod hown hK hP 0 36 rfl 14 rfl rfl (by decide) (htt _ k_2272) (fun _ h9 => h9) d_Mod_addMeaning_14 ?_
      refine lv_aload_n hx hb d_Mod_addMeaning_17 rfl (lv_at hl 0 rfl) ?_
      refine S_getI (h := shM) (C := "MacroMillModel") (T := F_Mod) hx hb htt in_Mod hown hK hP 0 34 rfl rfl rfl (by decide) (htt _ k_2270) (fun _ h9 => h9) d_Mod_addMeaning_18 ?_
      refine toI (y := S.1 0 34) rfl ?_
      show W _ _ _ _ _ _ _ _ _ _ _ _ _ _ _ (F0 _ 21 _ _)
      refine lv_iload_n hx hb d_Mod_addMeaning_21 rfl (lv_at hl 2 rfl) ?_
      obtain ⟨hv2, h⟩ := chk h
      refine S_iast (h := shM) (i := S.1 0 34) (v := L 2) hx hb hK hP hD hS 13 rfl (okI_in hv2) d_Mod_addMeaning_22 (fun H locs hP hD hS => ?_)
      refine lv_aload_n hx hb d_Mod_addMeaning_23 rfl (lv_at hl 0 rfl) ?_
      refine S_getR (h := shM) (C := "MacroMillModel") (T := F_Mod) hx hb htt in_Mod hown hK hP 0 37 rfl 15 rfl rfl (by decide) (htt _ k_2273) (fun _ h9 => h9) d_Mod_addMeaning_24 ?_
      refine lv_aload_n hx hb d_Mod_addMeaning_27 rfl (lv_at hl 0 rfl) ?_
      refine S_getI (h := shM) (C := "MacroMillModel") (T := F_Mod) hx hb htt in_Mod hown hK hP 0 34 rfl rfl rfl (by decide) (htt _ k_2270) (fun _ h9 => h9) d_Mod_addMeaning_28 ?_
      refine toI (y := S.1 0 34) rfl ?_
      refine lv_iload hx hb d_Mod_addMeaning_31 (lv_at hl 4 rfl) ?_
      obtain ⟨hv3, h⟩ := chk h
      refine S_iast (h := shM) (i := S.1 0 34) (v := L 4) hx hb hK hP hD hS 14 rfl (okI_in hv3) d_Mod_addMeaning_33 (fun H locs hP hD hS => ?_)
      refine lv_aload_n hx hb d_Mod_addMeaning_34 rfl (lv_at hl 0 rfl) ?_
      refine S_getR (h := shM) (C := "MacroMillModel") (T := F_Mod) hx hb htt in_Mod hown hK hP 0 38 rfl 16 rfl rfl (by decide) (htt _ k_2274) (fun _ h9 => h9) d_Mod_addMeaning_35 ?_
      refine lv_aload_n hx hb d_Mod_addMeaning_38 rfl (lv_at hl 0 rfl) ?_
      refine S_getI (h := shM) (C := "MacroMillModel") (T := F_Mod) hx hb htt in_Mod hown hK hP 0 34 rfl rfl rfl (by decide) (htt _ k_2270) (fun _ h9 => h9) d_Mod_addMeaning_39 ?_
      refine toI (y := S.1 0 34) rfl ?_
      show W _ _ _ _ _ _ _ _ _ _ _ _ _ _ _ (F0 _ 42 _ _)
      refine lv_iconst (v := 0) hx hb d_Mod_addMeaning_42 (by decide) ?_
      obtain ⟨hv4, h⟩ := chk h
      refine S_iast (h := shM) (i := S.1 0 34) (v := 0) hx hb hK hP hD hS 15 rfl (okI_in hv4) d_Mod_addMeaning_43 (fun H locs hP hD hS => ?_)
      refine lv_iconst (v := 0) hx hb d_Mod_addMeaning_44 (by decide) ?_
      refine lv_istore (lv' := [(5, .int 0), (0, .ref (ad 0)), (1, .int (L 1)), (2, .int (L 2)), (3, .int (L 3)), (4, .int (L 4))]) hx hb d_Mod_addMeaning_45 hl (by decide) rfl (fun ls hl => ?_)
      exact (ih.2.1) (putA (putA (putA (putA S 12 (S.1 0 34 : Int32).toNatClampNeg (S.1 0 40)) 13 (S.1 0 34 : Int32).toNatClampNeg (L 2)) 14 (S.1 0 34 : Int32).toNatClampNeg (L 4)) 15 (S.1 0 34 : Int32).toNatClampNeg 0) (upd L 5 (0 : Int32)) M ls H locs h (lv_sub hl [1, 2, 3, 4, 5, 0] rfl) hP hD hS
    · intro S L M ls H locs h hl hP hD hS
      simp only [f_Mod_addMeaning] at h
      refine lv_iload hx hb d_Mod_addMeaning_47 (lv_at hl 5 rfl) ?_
      refine lv_iload_n hx hb d_Mod_addMeaning_49 rfl (lv_at hl 2 rfl) ?_
      refine lv_icmp_ge (tgt := 80) hx hb d_Mod_addMeaning_50 (by decide) (fun hc1 => ?_) (fun hc1 => ?_)
      · rw [if_pos hc1] at h
        refine lv_iconst (v := 0) hx hb d_Mod_addMeaning_80 (by decide) ?_
        refine lv_istore (lv' := [(5, .int 0), (0, .ref (ad 0)), (1, .int (L 1)), (2, .int (L 2)), (3, .int (L 3)), (4, .int (L 4))]) hx hb d_Mod_addMeaning_81 hl (by decide) rfl (fun ls hl => ?_)
        exact (ih.2.2) S (upd L 5 (0 : Int32)) M ls H locs h (lv_sub hl [1, 2, 3, 4, 5, 0] rfl) hP hD hS
      · rw [if_neg hc1] at h
        refine lv_aload_n hx hb d_Mod_addMeaning_53 rfl (lv_at hl 0 rfl) ?_
        refine S_getR (h := shM) (C := "MacroMillModel") (T := F_Mod) hx hb htt in_Mod hown hK hP 0 39 rfl 17 rfl rfl (by decide) (htt _ k_2275) (fun _ h9 => h9) d_Mod_addMeaning_54 ?_
        refine lv_aload_n hx hb d_Mod_addMeaning_57 rfl (lv_at hl 0 rfl) ?_
        refine S_getI (h := shM) (C := "MacroMillModel") (T := F_Mod) hx hb htt in_Mod hown hK hP 0 40 rfl rfl rfl (by decide) (htt _ k_2276) (fun _ h9 => h9) d_Mod_addMeaning_58 ?_
        refine lv_iload hx hb d_Mod_addMeaning_61 (lv_at hl 5 rfl) ?_
        refine lv_iadd hx hb d_Mod_addMeaning_63 ?_
        refine lv_aload_n hx hb d_Mod_addMeaning_64 rfl (lv_at hl 0 rfl) ?_
        refine S_getR (h := shM) (C := "MacroMillModel") (T := F_Mod) hx hb htt in_Mod hown hK hP 0 48 rfl 20 rfl rfl (by decide) (htt _ k_2284) (fun _ h9 => h9) d_Mod_addMeaning_65 ?_
        refine lv_iload_n hx hb d_Mod_addMeaning_68 rfl (lv_at hl 1 rfl) ?_
        show W _ _ _ _ _ _ _ _ _ _ _ _ _ _ _ (F0 _ 69 _ _)
        refine lv_iload hx hb d_Mod_addMeaning_69 (lv_at hl 5 rfl) ?_
        refine lv_iadd hx hb d_Mod_addMeaning_71 ?_
        obtain ⟨hv2, h⟩ := chk h
        refine S_bald (h := shM) (i := (L 1) + (L 5)) hx hb hK hP 19 rfl (okI_in hv2) d_Mod_addMeaning_72 ?_
        obtain ⟨hv3, h⟩ := chk h
        refine S_bast (h := shM) (i := (S.1 0 40) + (L 5)) (v := S.2.1 19 ((L 1) + (L 5) : Int32).toNatClampNeg) hx hb hK hP hD hS 16 rfl (okI_in hv3) d_Mod_addMeaning_73 (fun H locs hP hD hS => ?_)
        refine lv_iinc (k := 5) (v := (L 5) + 1) (lv' := [(5, .int ((L 5) + 1)), (0, .ref (ad 0)), (1, .int (L 1)), (2, .int (L 2)), (3, .int (L 3)), (4, .int (L 4))]) hx hb d_Mod_addMeaning_74 hl rfl rfl (by decide) rfl (fun ls hl => ?_)
        refine lv_goto (tgt := 47) hx hb d_Mod_addMeaning_77 (by decide) ?_
        exact (ih.2.1) (putA S 16 ((S.1 0 40) + (L 5) : Int32).toNatClampNeg (vp_nar .byte (S.2.1 19 ((L 1) + (L 5) : Int32).toNatClampNeg))) (upd L 5 ((L 5) + 1)) M ls H locs h (lv_sub hl [1, 2, 3, 4, 5, 0] rfl) hP hD hS
    · intro S L M ls H locs h hl hP hD hS
      simp only [f_Mod_addMeaning] at h
      refine lv_iload hx hb d_Mod_addMeaning_83 (lv_at hl 5 rfl) ?_
      refine lv_iload hx hb d_Mod_addMeaning_85 (lv_at hl 4 rfl) ?_
      refine lv_icmp_ge (tgt := 119) hx hb d_Mod_addMeaning_87 (by decide) (fun hc1 => ?_) (fun hc1 => ?_)
      · rw [if_pos hc1] at h
        refine lv_aload_n hx hb d_Mod_addMeaning_119 rfl (lv_at hl 0 rfl) ?_
        refine lv_aload_n hx hb d_Mod_addMeaning_120 rfl (lv_at hl 0 rfl) ?_
        refine S_getI (h := shM) (C := "MacroMillModel") (T := F_Mod) hx hb htt in_Mod hown hK hP 0 40 rfl rfl rfl (by decide) (htt _ k_2276) (fun _ h9 => h9) d_Mod_addMeaning_121 ?_
        refine lv_iload_n hx hb d_Mod_addMeaning_124 rfl (lv_at hl 2 rfl) ?_
        refine lv_iadd hx hb d_Mod_addMeaning_125 ?_
        refine lv_iload hx hb d_Mod_addMeaning_126 (lv_at hl 4 rfl) ?_
        refine lv_iadd hx hb d_Mod_addMeaning_128 ?_
        refine S_put (h := shM) (C := "MacroMillModel") (T := F_Mod) (v := ((S.1 0 40) + (L 2)) + (L 4)) hx hb htt in_Mod t_Mod t_Mod_ok n_Mod hown hK hP hD hS 0 40 rfl rfl rfl (by decide) (htt _ k_2276) (fun _ h9 => h9) rfl rfl rfl d_Mod_addMeaning_129 (fun H locs hP hD hS => ?_)
        refine lv_aload_n hx hb d_Mod_addMeaning_132 rfl (lv_at hl 0 rfl) ?_
        show W _ _ _ _ _ _ _ _ _ _ _ _ _ _ _ (F0 _ 133 _ _)
        refine lv_dup hx hb d_Mod_addMeaning_133 rfl ?_
        refine S_getI (h := shM) (C := "MacroMillModel") (T := F_Mod) hx hb htt in_Mod hown hK hP 0 41 rfl rfl rfl (by decide) (htt _ k_2277) (fun _ h9 => h9) d_Mod_addMeaning_134 ?_
        refine toI (y := S.1 0 41) rfl ?_
        refine lv_iconst (v := 1) hx hb d_Mod_addMeaning_137 (by decide) ?_
        refine lv_iadd hx hb d_Mod_addMeaning_138 ?_
        refine S_put (h := shM) (C := "MacroMillModel") (T := F_Mod) (v := (S.1 0 41) + (1 : Int32)) hx hb htt in_Mod t_Mod t_Mod_ok n_Mod hown hK hP hD hS 0 41 rfl rfl rfl (by decide) (htt _ k_2277) (fun _ h9 => h9) rfl rfl rfl d_Mod_addMeaning_139 (fun H locs hP hD hS => ?_)
        refine lv_aload_n hx hb d_Mod_addMeaning_142 rfl (lv_at hl 0 rfl) ?_
        refine lv_aload_n hx hb d_Mod_addMeaning_143 rfl (lv_at hl 0 rfl) ?_
        refine S_getI (h := shM) (C := "MacroMillModel") (T := F_Mod) hx hb htt in_Mod hown hK hP 0 42 rfl rfl rfl (by decide) (htt _ k_2278) (fun _ h9 => h9) d_Mod_addMeaning_144 ?_
        refine toI (y := S.1 0 42) rfl ?_
        refine lv_iload_n hx hb d_Mod_addMeaning_147 rfl (lv_at hl 2 rfl) ?_
        refine lv_iadd hx hb d_Mod_addMeaning_148 ?_
        refine lv_iload hx hb d_Mod_addMeaning_149 (lv_at hl 4 rfl) ?_
        refine lv_iadd hx hb d_Mod_addMeaning_151 ?_
        show W _ _ _ _ _ _ _ _ _ _ _ _ _ _ _ (F0 _ 152 _ _)
        refine S_put (h := shM) (C := "MacroMillModel") (T := F_Mod) (v := ((S.1 0 42) + (L 2)) + (L 4)) hx hb htt in_Mod t_Mod t_Mod_ok n_Mod hown hK hP hD hS 0 42 rfl rfl rfl (by decide) (htt _ k_2278) (fun _ h9 => h9) rfl rfl rfl d_Mod_addMeaning_152 (fun H locs hP hD hS => ?_)
        refine lv_aload_n hx hb d_Mod_addMeaning_155 rfl (lv_at hl 0 rfl) ?_
        refine lv_dup hx hb d_Mod_addMeaning_156 rfl ?_
        refine S_getI (h := shM) (C := "MacroMillModel") (T := F_Mod) hx hb htt in_Mod hown hK hP 0 34 rfl rfl rfl (by decide) (htt _ k_2270) (fun _ h9 => h9) d_Mod_addMeaning_157 ?_
        refine toI (y := S.1 0 34) rfl ?_
        refine lv_iconst (v := 1) hx hb d_Mod_addMeaning_160 (by decide) ?_
        refine lv_iadd hx hb d_Mod_addMeaning_161 ?_
        refine S_put (h := shM) (C := "MacroMillModel") (T := F_Mod) (v := (S.1 0 34) + (1 : Int32)) hx hb htt in_Mod t_Mod t_Mod_ok n_Mod hown hK hP hD hS 0 34 rfl rfl rfl (by decide) (htt _ k_2270) (fun _ h9 => h9) rfl rfl rfl d_Mod_addMeaning_162 (fun H locs hP hD hS => ?_)
        cases h
        exact kx_165 ls H locs hP hD hS
      · rw [if_neg hc1] at h
        refine lv_aload_n hx hb d_Mod_addMeaning_90 rfl (lv_at hl 0 rfl) ?_
        refine S_getR (h := shM) (C := "MacroMillModel") (T := F_Mod) hx hb htt in_Mod hown hK hP 0 39 rfl 17 rfl rfl (by decide) (htt _ k_2275) (fun _ h9 => h9) d_Mod_addMeaning_91 ?_
        refine lv_aload_n hx hb d_Mod_addMeaning_94 rfl (lv_at hl 0 rfl) ?_
        refine S_getI (h := shM) (C := "MacroMillModel") (T := F_Mod) hx hb htt in_Mod hown hK hP 0 40 rfl rfl rfl (by decide) (htt _ k_2276) (fun _ h9 => h9) d_Mod_addMeaning_95 ?_
        refine lv_iload_n hx hb d_Mod_addMeaning_98 rfl (lv_at hl 2 rfl) ?_
        refine lv_iadd hx hb d_Mod_addMeaning_99 ?_
        refine lv_iload hx hb d_Mod_addMeaning_100 (lv_at hl 5 rfl) ?_
        refine lv_iadd hx hb d_Mod_addMeaning_102 ?_
        refine lv_aload_n hx hb d_Mod_addMeaning_103 rfl (lv_at hl 0 rfl) ?_
        show W _ _ _ _ _ _ _ _ _ _ _ _ _ _ _ (F0 _ 104 _ _)
        refine S_getR (h := shM) (C := "MacroMillModel") (T := F_Mod) hx hb htt in_Mod hown hK hP 0 48 rfl 20 rfl rfl (by decide) (htt _ k_2284) (fun _ h9 => h9) d_Mod_addMeaning_104 ?_
        refine lv_iload_n hx hb d_Mod_addMeaning_107 rfl (lv_at hl 3 rfl) ?_
        refine lv_iload hx hb d_Mod_addMeaning_108 (lv_at hl 5 rfl) ?_
        refine lv_iadd hx hb d_Mod_addMeaning_110 ?_
        obtain ⟨hv2, h⟩ := chk h
        refine S_bald (h := shM) (i := (L 3) + (L 5)) hx hb hK hP 19 rfl (okI_in hv2) d_Mod_addMeaning_111 ?_
        obtain ⟨hv3, h⟩ := chk h
        refine S_bast (h := shM) (i := ((S.1 0 40) + (L 2)) + (L 5)) (v := S.2.1 19 ((L 3) + (L 5) : Int32).toNatClampNeg) hx hb hK hP hD hS 16 rfl (okI_in hv3) d_Mod_addMeaning_112 (fun H locs hP hD hS => ?_)
        refine lv_iinc (k := 5) (v := (L 5) + 1) (lv' := [(5, .int ((L 5) + 1)), (0, .ref (ad 0)), (1, .int (L 1)), (2, .int (L 2)), (3, .int (L 3)), (4, .int (L 4))]) hx hb d_Mod_addMeaning_113 hl rfl rfl (by decide) rfl (fun ls hl => ?_)
        refine lv_goto (tgt := 83) hx hb d_Mod_addMeaning_116 (by decide) ?_
        exact (ih.2.2) (putA S 16 (((S.1 0 40) + (L 2)) + (L 5) : Int32).toNatClampNeg (vp_nar .byte (S.2.1 19 ((L 3) + (L 5) : Int32).toNatClampNeg))) (upd L 5 ((L 5) + 1)) M ls H locs h (lv_sub hl [1, 2, 3, 4, 5, 0] rfl) hP hD hS
abbrev rm_t_Mod_addMeaning : Room := { frames := 0, cells := 0, slots := 0, locals := 0 }
theorem t_Mod_addMeaning (l : Launch) (g : gG) (sz : Nat) (ad : Nat → Nat) (S : sS) (v1 : Int32) (v2 : Int32) (v3 : Int32) (v4 : Int32) (k : Nat) (r : Int32) (S9 : sS) (h : f_Mod_addMeaning k 0 S (upd (upd (upd (upd (fun _ => 0) 1 v1) 2 v2) 3 v3) 4 v4) (fun _ => 0) = some (r, S9)) : Cv l y_Mod_addMeaning b_Mod_addMeaning 6 rm_t_Mod_addMeaning g [.ref (ad 0), .int v1, .int v2, .int v3, .int v4] (Sw shM g ad S) sz (fun w => ∃ S1 : sS, w = Sw shM g ad S1 ∧ S1 = S9) := by
  refine startV (by decide) (Nat.le_of_ble_eq_true rfl) ?_
  intro p e s m below meth c A ls hx hb hr hml hlocks hmn hown htt hN hA hP hK hD hS hl
  exact (w_Mod_addMeaning hx hb hml hown htt hK hN hA r S9 (fun ls H locs hP hD hS => fin_v (g := g) (ws := Sw shM g ad S9) hx hb hr hlocks (by decide +kernel) (by decide +kernel) hP hD hS ⟨_, rfl, rfl⟩ d_Mod_addMeaning_165) k).1 S (upd (upd (upd (upd (fun _ => 0) 1 v1) 2 v2) 3 v3) 4 v4) (fun _ => 0) ls _ _ h hl hP hD hS
def f_Mod_divertByte : Nat → Nat → sS → (Nat → Int32) → (Nat → Int64) → Option (Int32 × sS)
  | 0, _, _, _, _ => none
  | k + 1, 0, S, L, M => if (0 : Int32) ≤ (L 1) then (if (S.1 0 45) = (32768 : Int32) then ((f_Mod_fail1 k 0 S (upd (fun _ => 0) 1 (40 : Int32)) (fun _ => 0)).bind (fun (r7, T7) => some ((0 : Int32), T7))) else (if okI (L 1) 10 = true then (if okI (((32768 : Int32) * (L 1)) + (S.2.1 18 (L 1 : Int32).toNatClampNeg)) 327680 = true then (if okI (L 1) 10 = true then (if okI (L 1) 10 = true then (some ((0 : Int32), (putI (putA (putA S 17 (((32768 : Int32) * (L 1)) + (S.2.1 18 (L 1 : Int32).toNatClampNeg) : Int32).toNatClampNeg (vp_nar .byte ((L 2).toInt8.toInt32))) 18 (L 1 : Int32).toNatClampNeg (((putA S 17 (((32768 : Int32) * (L 1)) + (S.2.1 18 (L 1 : Int32).toNatClampNeg) : Int32).toNatClampNeg (vp_nar .byte ((L 2).toInt8.toInt32))).2.1 18 (L 1 : Int32).toNatClampNeg) + (1 : Int32))) 0 45 ((S.1 0 45) + (1 : Int32))))) else none) else none) else none) else none)) else (some ((0 : Int32), S))
  | _ + 1, _ + 1, _, _, _ => none
set_option maxHeartbeats 8000000 in
set_option maxRecDepth 100000 in
theorem w_Mod_divertByte {p : Program} {l : Launch} {e : Env} {R : Room} {s : State} {m : MethodId} {args : Array Value} {below : List Frame} {meth : Method} {c : Code} {cells slots : Nat} {Q : State → Prop} {g : gG} {A : Nat → Prop} {ad : Nat → Nat} (hx : p.tables.exec = Jvm.exec) (hb : c.code = b_Mod_divertByte) (hml : c.maxLocals = 3) (hown : s.vm.findClass "MacroMillModel" = some m.cls) (htt : ∀ w ∈ gt, w.before args s = true) (hK : va_K g.1 classes (tysG g) s) (hN : nw s) (hA : ∀ q : Nat, s.heap.size ≤ q → A q) (hRf : 2 ≤ R.frames) (hRl : 44 ≤ R.locals) (hRc : cells ≤ R.cells) (hRs : slots ≤ R.slots) (r : Int32) (S9 : sS)
    (kx_4 : ∀ (ls : Array Slot) (H : Heap) (locs : List Loc), va_P g.1 classes (Sw shM g ad S9) H → va_D A (Sw shM g ad S9) → va_S A s.heap H locs → W p l e R s m args below meth c H locs cells slots Q (F0 m 4 ls []))
    (kx_20 : ∀ (ls : Array Slot) (H : Heap) (locs : List Loc), va_P g.1 classes (Sw shM g ad S9) H → va_D A (Sw shM g ad S9) → va_S A s.heap H locs → W p l e R s m args below meth c H locs cells slots Q (F0 m 20 ls []))
    (kx_59 : ∀ (ls : Array Slot) (H : Heap) (locs : List Loc), va_P g.1 classes (Sw shM g ad S9) H → va_D A (Sw shM g ad S9) → va_S A s.heap H locs → W p l e R s m args below meth c H locs cells slots Q (F0 m 59 ls [])) :
    ∀ k9 : Nat, (∀ (S : sS) (L : Nat → Int32) (M : Nat → Int64) (ls : Array Slot) (H : Heap) (locs : List Loc), f_Mod_divertByte k9 0 S L M = some (r, S9) → lv_has ls 3 [(0, .ref (ad 0)), (1, .int (L 1)), (2, .int (L 2))] → va_P g.1 classes (Sw shM g ad S) H → va_D A (Sw shM g ad S) → va_S A s.heap H locs → W p l e R s m args below meth c H locs cells slots Q (F0 m 0 ls [])) := by
  intro k9
  induction k9 with
  | zero => exact (fun _ _ _ _ _ _ h => by simp [f_Mod_divertByte] at h)
  | succ k9 ih =>
    · intro S L M ls H locs h hl hP hD hS
      simp only [f_Mod_divertByte] at h
      refine lv_iload_n hx hb d_Mod_divertByte_0 rfl (lv_at hl 1 rfl) ?_
      refine lv_if_ge (tgt := 5) hx hb d_Mod_divertByte_1 (by decide) (fun hc1 => ?_) (fun hc1 => ?_)
      · rw [if_pos hc1] at h
        refine lv_aload_n hx hb d_Mod_divertByte_5 rfl (lv_at hl 0 rfl) ?_
        refine S_getI (h := shM) (C := "MacroMillModel") (T := F_Mod) hx hb htt in_Mod hown hK hP 0 45 rfl rfl rfl (by decide) (htt _ k_2281) (fun _ h9 => h9) d_Mod_divertByte_6 ?_
        refine lv_ldc (v := 32768) hx hb hown (htt _ k_2229) d_Mod_divertByte_9 ?_
        refine lv_icmp_ne (tgt := 21) hx hb d_Mod_divertByte_11 (by decide) (fun hc2 => ?_) (fun hc2 => ?_)
        · rw [if_neg hc2] at h
          refine lv_aload_n hx hb d_Mod_divertByte_21 rfl (lv_at hl 0 rfl) ?_
          refine S_getR (h := shM) (C := "MacroMillModel") (T := F_Mod) hx hb htt in_Mod hown hK hP 0 43 rfl 18 rfl rfl (by decide) (htt _ k_2279) (fun _ h9 => h9) d_Mod_divertByte_22 ?_
          refine lv_ldc (v := 32768) hx hb hown (htt _ k_2229) d_Mod_divertByte_25 ?_
          refine lv_iload_n hx hb d_Mod_divertByte_27 rfl (lv_at hl 1 rfl) ?_
          refine lv_imul hx hb d_Mod_divertByte_28 ?_
          refine lv_aload_n hx hb d_Mod_divertByte_29 rfl (lv_at hl 0 rfl) ?_
          refine S_getR (h := shM) (C := "MacroMillModel") (T := F_Mod) hx hb htt in_Mod hown hK hP 0 44 rfl 19 rfl rfl (by decide) (htt _ k_2280) (fun _ h9 => h9) d_Mod_divertByte_30 ?_
          show W _ _ _ _ _ _ _ _ _ _ _ _ _ _ _ (F0 _ 33 _ _)
          refine lv_iload_n hx hb d_Mod_divertByte_33 rfl (lv_at hl 1 rfl) ?_
          obtain ⟨hv3, h⟩ := chk h
          refine S_iald (h := shM) (i := L 1) hx hb hK hP 18 rfl (okI_in hv3) d_Mod_divertByte_34 ?_
          refine lv_iadd hx hb d_Mod_divertByte_35 ?_
          refine lv_iload_n hx hb d_Mod_divertByte_36 rfl (lv_at hl 2 rfl) ?_
          refine lv_i2b (v := (L 2).toInt8.toInt32) hx hb d_Mod_divertByte_37 rfl ?_
          obtain ⟨hv4, h⟩ := chk h
          refine S_bast (h := shM) (i := ((32768 : Int32) * (L 1)) + (S.2.1 18 (L 1 : Int32).toNatClampNeg)) (v := (L 2).toInt8.toInt32) hx hb hK hP hD hS 17 rfl (okI_in hv4) d_Mod_divertByte_38 (fun H locs hP hD hS => ?_)
          refine lv_aload_n hx hb d_Mod_divertByte_39 rfl (lv_at hl 0 rfl) ?_
          refine S_getR (h := shM) (C := "MacroMillModel") (T := F_Mod) hx hb htt in_Mod hown hK hP 0 44 rfl 19 rfl rfl (by decide) (htt _ k_2280) (fun _ h9 => h9) d_Mod_divertByte_40 ?_
          refine lv_iload_n hx hb d_Mod_divertByte_43 rfl (lv_at hl 1 rfl) ?_
          refine lv_dup2_11 hx hb d_Mod_divertByte_44 rfl rfl ?_
          obtain ⟨hv5, h⟩ := chk h
          refine S_iald (h := shM) (i := L 1) hx hb hK hP 18 rfl (okI_in hv5) d_Mod_divertByte_45 ?_
          refine lv_iconst (v := 1) hx hb d_Mod_divertByte_46 (by decide) ?_
          show W _ _ _ _ _ _ _ _ _ _ _ _ _ _ _ (F0 _ 47 _ _)
          refine lv_iadd hx hb d_Mod_divertByte_47 ?_
          obtain ⟨hv6, h⟩ := chk h
          refine S_iast (h := shM) (i := L 1) (v := ((putA S 17 (((32768 : Int32) * (L 1)) + (S.2.1 18 (L 1 : Int32).toNatClampNeg) : Int32).toNatClampNeg (vp_nar .byte ((L 2).toInt8.toInt32))).2.1 18 (L 1 : Int32).toNatClampNeg) + (1 : Int32)) hx hb hK hP hD hS 18 rfl (okI_in hv6) d_Mod_divertByte_48 (fun H locs hP hD hS => ?_)
          refine lv_aload_n hx hb d_Mod_divertByte_49 rfl (lv_at hl 0 rfl) ?_
          refine lv_dup hx hb d_Mod_divertByte_50 rfl ?_
          refine S_getI (h := shM) (C := "MacroMillModel") (T := F_Mod) hx hb htt in_Mod hown hK hP 0 45 rfl rfl rfl (by decide) (htt _ k_2281) (fun _ h9 => h9) d_Mod_divertByte_51 ?_
          refine toI (y := S.1 0 45) rfl ?_
          refine lv_iconst (v := 1) hx hb d_Mod_divertByte_54 (by decide) ?_
          refine lv_iadd hx hb d_Mod_divertByte_55 ?_
          refine S_put (h := shM) (C := "MacroMillModel") (T := F_Mod) (v := (S.1 0 45) + (1 : Int32)) hx hb htt in_Mod t_Mod t_Mod_ok n_Mod hown hK hP hD hS 0 45 rfl rfl rfl (by decide) (htt _ k_2281) (fun _ h9 => h9) rfl rfl rfl d_Mod_divertByte_56 (fun H locs hP hD hS => ?_)
          cases h
          exact kx_59 ls H locs hP hD hS
        · rw [if_pos hc2] at h
          refine lv_aload_n hx hb d_Mod_divertByte_14 rfl (lv_at hl 0 rfl) ?_
          refine lv_bipush (v := 40) hx hb d_Mod_divertByte_15 (by decide) ?_
          obtain ⟨⟨r7, T7⟩, hq7, h⟩ := Option.bind_eq_some_iff.mp h
          try dsimp only at h
          refine go_vS (As := [.ref (ad 0), .int 40]) (g := g) (A := A) (h := shM) hP hK hD hS hA hN (fun hp => va_runV (As := [.int 40]) (rest := []) ⟨hx, hb, hml, hown, htt⟩ (t_Mod_fail1 l g _ ad S (40 : Int32) k9 r7 T7 hq7) ⟨(cb_L htt k_2767 k_276 k_2764 hd_Mod_fail1 ⟨(Nat.le_trans (by decide +kernel) hRf), (Nat.le_trans (by decide +kernel) hRl)⟩), htt _ k_2766, htt _ k_138⟩ ⟨hp.1, S_recv hK hP 0 rfl rfl, hp.2⟩ rfl rfl hl.1 rfl (lv_room (Nat.le_of_ble_eq_true rfl)) d_Mod_divertByte_17 ⟨hRc, hRs⟩) (fun Sn H locs hw9 hP hD hS => ?_)
          have e8 := hw9
          rw [e8] at hP hD
          refine W.widen (k := cells) (n := slots) (Nat.le_refl _) (Nat.le_refl _) ?_
          cases h
          exact kx_20 ls H locs hP hD hS
      · rw [if_neg hc1] at h
        cases h
        exact kx_4 ls H locs hP hD hS
abbrev rm_t_Mod_divertByte : Room := { frames := 2, cells := 0, slots := 0, locals := 44 }
theorem t_Mod_divertByte (l : Launch) (g : gG) (sz : Nat) (ad : Nat → Nat) (S : sS) (v1 : Int32) (v2 : Int32) (k : Nat) (r : Int32) (S9 : sS) (h : f_Mod_divertByte k 0 S (upd (upd (fun _ => 0) 1 v1) 2 v2) (fun _ => 0) = some (r, S9)) : Cv l y_Mod_divertByte b_Mod_divertByte 3 rm_t_Mod_divertByte g [.ref (ad 0), .int v1, .int v2] (Sw shM g ad S) sz (fun w => ∃ S1 : sS, w = Sw shM g ad S1 ∧ S1 = S9) := by
  refine startV (by decide) (Nat.le_of_ble_eq_true rfl) ?_
  intro p e s m below meth c A ls hx hb hr hml hlocks hmn hown htt hN hA hP hK hD hS hl
  exact (w_Mod_divertByte hx hb hml hown htt hK hN hA (by decide +kernel) (by decide +kernel) (by decide +kernel) (by decide +kernel) r S9 (fun ls H locs hP hD hS => fin_v (g := g) (ws := Sw shM g ad S9) hx hb hr hlocks (by decide +kernel) (by decide +kernel) hP hD hS ⟨_, rfl, rfl⟩ d_Mod_divertByte_4) (fun ls H locs hP hD hS => fin_v (g := g) (ws := Sw shM g ad S9) hx hb hr hlocks (by decide +kernel) (by decide +kernel) hP hD hS ⟨_, rfl, rfl⟩ d_Mod_divertByte_20) (fun ls H locs hP hD hS => fin_v (g := g) (ws := Sw shM g ad S9) hx hb hr hlocks (by decide +kernel) (by decide +kernel) hP hD hS ⟨_, rfl, rfl⟩ d_Mod_divertByte_59) k) S (upd (upd (fun _ => 0) 1 v1) 2 v2) (fun _ => 0) ls _ _ h hl hP hD hS
def f_Mod_undivert : Nat → Nat → sS → (Nat → Int32) → (Nat → Int64) → Option (Int32 × sS)
  | 0, _, _, _, _ => none
  | k + 1, 0, S, L, M => if (L 1) < (1 : Int32) then (f_Mod_undivert k 1 S L M) else (if (9 : Int32) < (L 1) then (f_Mod_undivert k 1 S L M) else (if (L 1) = (S.1 0 46) then (f_Mod_undivert k 1 S L M) else (if okI (L 1) 10 = true then (if okI (L 1) 10 = true then (f_Mod_undivert k 2 (putI (putA S 18 (L 1 : Int32).toNatClampNeg 0) 0 45 ((S.1 0 45) - (S.2.1 18 (L 1 : Int32).toNatClampNeg))) (upd (upd L 2 (S.2.1 18 (L 1 : Int32).toNatClampNeg)) 3 (0 : Int32)) M) else none) else none)))
  | k + 1, 1, S, L, M => some ((0 : Int32), S)
  | k + 1, 2, S, L, M => if (L 2) ≤ (L 3) then (some ((0 : Int32), S)) else (if okI (((32768 : Int32) * (L 1)) + (L 3)) 327680 = true then ((f_Mod_divertByte k 0 S (upd (upd (fun _ => 0) 1 (S.1 0 46 : Int32)) 2 (S.2.1 17 (((32768 : Int32) * (L 1)) + (L 3) : Int32).toNatClampNeg : Int32)) (fun _ => 0)).bind (fun (r3, T3) => f_Mod_undivert k 2 T3 (upd L 3 ((L 3) + 1)) M)) else none)
  | _ + 1, _ + 3, _, _, _ => none
set_option maxHeartbeats 8000000 in
set_option maxRecDepth 100000 in
theorem w_Mod_undivert {p : Program} {l : Launch} {e : Env} {R : Room} {s : State} {m : MethodId} {args : Array Value} {below : List Frame} {meth : Method} {c : Code} {cells slots : Nat} {Q : State → Prop} {g : gG} {A : Nat → Prop} {ad : Nat → Nat} (hx : p.tables.exec = Jvm.exec) (hb : c.code = b_Mod_undivert) (hml : c.maxLocals = 4) (hown : s.vm.findClass "MacroMillModel" = some m.cls) (htt : ∀ w ∈ gt, w.before args s = true) (hK : va_K g.1 classes (tysG g) s) (hN : nw s) (hA : ∀ q : Nat, s.heap.size ≤ q → A q) (hRf : 3 ≤ R.frames) (hRl : 66 ≤ R.locals) (hRc : cells ≤ R.cells) (hRs : slots ≤ R.slots) (r : Int32) (S9 : sS)
    (kx_19 : ∀ (ls : Array Slot) (H : Heap) (locs : List Loc), va_P g.1 classes (Sw shM g ad S9) H → va_D A (Sw shM g ad S9) → va_S A s.heap H locs → W p l e R s m args below meth c H locs cells slots Q (F0 m 19 ls []))
    (kx_76 : ∀ (ls : Array Slot) (H : Heap) (locs : List Loc), va_P g.1 classes (Sw shM g ad S9) H → va_D A (Sw shM g ad S9) → va_S A s.heap H locs → W p l e R s m args below meth c H locs cells slots Q (F0 m 76 ls [])) :
    ∀ k9 : Nat, (∀ (S : sS) (L : Nat → Int32) (M : Nat → Int64) (ls : Array Slot) (H : Heap) (locs : List Loc), f_Mod_undivert k9 0 S L M = some (r, S9) → lv_has ls 4 [(0, .ref (ad 0)), (1, .int (L 1))] → va_P g.1 classes (Sw shM g ad S) H → va_D A (Sw shM g ad S) → va_S A s.heap H locs → W p l e R s m args below meth c H locs cells slots Q (F0 m 0 ls [])) ∧ (∀ (S : sS) (L : Nat → Int32) (M : Nat → Int64) (ls : Array Slot) (H : Heap) (locs : List Loc), f_Mod_undivert k9 1 S L M = some (r, S9) → lv_has ls 4 [(0, .ref (ad 0)), (1, .int (L 1))] → va_P g.1 classes (Sw shM g ad S) H → va_D A (Sw shM g ad S) → va_S A s.heap H locs → W p l e R s m args below meth c H locs cells slots Q (F0 m 19 ls [])) ∧ (∀ (S : sS) (L : Nat → Int32) (M : Nat → Int64) (ls : Array Slot) (H : Heap) (locs : List Loc), f_Mod_undivert k9 2 S L M = some (r, S9) → lv_has ls 4 [(0, .ref (ad 0)), (1, .int (L 1)), (2, .int (L 2)), (3, .int (L 3))] → va_P g.1 classes (Sw shM g ad S) H → va_D A (Sw shM g ad S) → va_S A s.heap H locs → W p l e R s m args below meth c H locs cells slots Q (F0 m 46 ls [])) := by
  intro k9
  induction k9 with
  | zero => exact ⟨(fun _ _ _ _ _ _ h => by simp [f_Mod_undivert] at h), (fun _ _ _ _ _ _ h => by simp [f_Mod_undivert] at h), (fun _ _ _ _ _ _ h => by simp [f_Mod_undivert] at h)⟩
  | succ k9 ih =>
    refine ⟨?_, ?_, ?_⟩
    · intro S L M ls H locs h hl hP hD hS
      simp only [f_Mod_undivert] at h
      refine lv_iload_n hx hb d_Mod_undivert_0 rfl (lv_at hl 1 rfl) ?_
      refine lv_iconst (v := 1) hx hb d_Mod_undivert_1 (by decide) ?_
      refine lv_icmp_lt (tgt := 19) hx hb d_Mod_undivert_2 (by decide) (fun hc1 => ?_) (fun hc1 => ?_)
      · rw [if_pos hc1] at h
        exact (ih.2.1) S L M ls H locs h (lv_sub hl [0, 1] rfl) hP hD hS
      · rw [if_neg hc1] at h
        refine lv_iload_n hx hb d_Mod_undivert_5 rfl (lv_at hl 1 rfl) ?_
        refine lv_bipush (v := 9) hx hb d_Mod_undivert_6 (by decide) ?_
        refine lv_icmp_gt (tgt := 19) hx hb d_Mod_undivert_8 (by decide) (fun hc2 => ?_) (fun hc2 => ?_)
        · rw [if_pos hc2] at h
          exact (ih.2.1) S L M ls H locs h (lv_sub hl [0, 1] rfl) hP hD hS
        · rw [if_neg hc2] at h
          refine lv_iload_n hx hb d_Mod_undivert_11 rfl (lv_at hl 1 rfl) ?_
          refine lv_aload_n hx hb d_Mod_undivert_12 rfl (lv_at hl 0 rfl) ?_
          refine S_getI (h := shM) (C := "MacroMillModel") (T := F_Mod) hx hb htt in_Mod hown hK hP 0 46 rfl rfl rfl (by decide) (htt _ k_2282) (fun _ h9 => h9) d_Mod_undivert_13 ?_
          refine lv_icmp_ne (tgt := 20) hx hb d_Mod_undivert_16 (by decide) (fun hc3 => ?_) (fun hc3 => ?_)
          · rw [if_neg hc3] at h
            refine lv_aload_n hx hb d_Mod_undivert_20 rfl (lv_at hl 0 rfl) ?_
            refine S_getR (h := shM) (C := "MacroMillModel") (T := F_Mod) hx hb htt in_Mod hown hK hP 0 44 rfl 19 rfl rfl (by decide) (htt _ k_2280) (fun _ h9 => h9) d_Mod_undivert_21 ?_
            refine lv_iload_n hx hb d_Mod_undivert_24 rfl (lv_at hl 1 rfl) ?_
            obtain ⟨hv4, h⟩ := chk h
            refine S_iald (h := shM) (i := L 1) hx hb hK hP 18 rfl (okI_in hv4) d_Mod_undivert_25 ?_
            show W _ _ _ _ _ _ _ _ _ _ _ _ _ _ _ (F0 _ 26 _ _)
            refine lv_istore_n (lv' := [(2, .int (S.2.1 18 (L 1 : Int32).toNatClampNeg)), (0, .ref (ad 0)), (1, .int (L 1))]) hx hb d_Mod_undivert_26 rfl hl (by decide) rfl (fun ls hl => ?_)
            refine lv_aload_n hx hb d_Mod_undivert_27 rfl (lv_at hl 1 rfl) ?_
            refine S_getR (h := shM) (C := "MacroMillModel") (T := F_Mod) hx hb htt in_Mod hown hK hP 0 44 rfl 19 rfl rfl (by decide) (htt _ k_2280) (fun _ h9 => h9) d_Mod_undivert_28 ?_
            refine lv_iload_n hx hb d_Mod_undivert_31 rfl (lv_at hl 2 rfl) ?_
            refine lv_iconst (v := 0) hx hb d_Mod_undivert_32 (by decide) ?_
            obtain ⟨hv5, h⟩ := chk h
            refine S_iast (h := shM) (i := L 1) (v := 0) hx hb hK hP hD hS 18 rfl (okI_in hv5) d_Mod_undivert_33 (fun H locs hP hD hS => ?_)
            refine lv_aload_n hx hb d_Mod_undivert_34 rfl (lv_at hl 1 rfl) ?_
            refine lv_aload_n hx hb d_Mod_undivert_35 rfl (lv_at hl 1 rfl) ?_
            refine S_getI (h := shM) (C := "MacroMillModel") (T := F_Mod) hx hb htt in_Mod hown hK hP 0 45 rfl rfl rfl (by decide) (htt _ k_2281) (fun _ h9 => h9) d_Mod_undivert_36 ?_
            refine toI (y := S.1 0 45) rfl ?_
            refine lv_iload_n hx hb d_Mod_undivert_39 rfl (lv_at hl 0 rfl) ?_
            refine lv_isub hx hb d_Mod_undivert_40 ?_
            refine S_put (h := shM) (C := "MacroMillModel") (T := F_Mod) (v := (S.1 0 45) - (S.2.1 18 (L 1 : Int32).toNatClampNeg)) hx hb htt in_Mod t_Mod t_Mod_ok n_Mod hown hK hP hD hS 0 45 rfl rfl rfl (by decide) (htt _ k_2281) (fun _ h9 => h9) rfl rfl rfl d_Mod_undivert_41 (fun H locs hP hD hS => ?_)
            show W _ _ _ _ _ _ _ _ _ _ _ _ _ _ _ (F0 _ 44 _ _)
            refine lv_iconst (v := 0) hx hb d_Mod_undivert_44 (by decide) ?_
            refine lv_istore_n (lv' := [(3, .int 0), (2, .int (S.2.1 18 (L 1 : Int32).toNatClampNeg)), (0, .ref (ad 0)), (1, .int (L 1))]) hx hb d_Mod_undivert_45 rfl hl (by decide) rfl (fun ls hl => ?_)
            exact (ih.2.2) (putI (putA S 18 (L 1 : Int32).toNatClampNeg 0) 0 45 ((S.1 0 45) - (S.2.1 18 (L 1 : Int32).toNatClampNeg))) (upd (upd L 2 (S.2.1 18 (L 1 : Int32).toNatClampNeg)) 3 (0 : Int32)) M ls H locs h (lv_sub hl [2, 3, 1, 0] rfl) hP hD hS
          · rw [if_pos hc3] at h
            exact (ih.2.1) S L M ls H locs h (lv_sub hl [0, 1] rfl) hP hD hS
    · intro S L M ls H locs h hl hP hD hS
      simp only [f_Mod_undivert] at h
      cases h
      exact kx_19 ls H locs hP hD hS
    · intro S L M ls H locs h hl hP hD hS
      simp only [f_Mod_undivert] at h
      refine lv_iload_n hx hb d_Mod_undivert_46 rfl (lv_at hl 3 rfl) ?_
      refine lv_iload_n hx hb d_Mod_undivert_47 rfl (lv_at hl 2 rfl) ?_
      refine lv_icmp_ge (tgt := 76) hx hb d_Mod_undivert_48 (by decide) (fun hc1 => ?_) (fun hc1 => ?_)
      · rw [if_pos hc1] at h
        cases h
        exact kx_76 ls H locs hP hD hS
      · rw [if_neg hc1] at h
        refine lv_aload_n hx hb d_Mod_undivert_51 rfl (lv_at hl 0 rfl) ?_
        refine lv_aload_n hx hb d_Mod_undivert_52 rfl (lv_at hl 0 rfl) ?_
        refine S_getI (h := shM) (C := "MacroMillModel") (T := F_Mod) hx hb htt in_Mod hown hK hP 0 46 rfl rfl rfl (by decide) (htt _ k_2282) (fun _ h9 => h9) d_Mod_undivert_53 ?_
        refine lv_aload_n hx hb d_Mod_undivert_56 rfl (lv_at hl 0 rfl) ?_
        refine S_getR (h := shM) (C := "MacroMillModel") (T := F_Mod) hx hb htt in_Mod hown hK hP 0 43 rfl 18 rfl rfl (by decide) (htt _ k_2279) (fun _ h9 => h9) d_Mod_undivert_57 ?_
        refine lv_ldc (v := 32768) hx hb hown (htt _ k_2229) d_Mod_undivert_60 ?_
        refine lv_iload_n hx hb d_Mod_undivert_62 rfl (lv_at hl 1 rfl) ?_
        refine lv_imul hx hb d_Mod_undivert_63 ?_
        refine lv_iload_n hx hb d_Mod_undivert_64 rfl (lv_at hl 3 rfl) ?_
        show W _ _ _ _ _ _ _ _ _ _ _ _ _ _ _ (F0 _ 65 _ _)
        refine lv_iadd hx hb d_Mod_undivert_65 ?_
        obtain ⟨hv2, h⟩ := chk h
        refine S_bald (h := shM) (i := ((32768 : Int32) * (L 1)) + (L 3)) hx hb hK hP 17 rfl (okI_in hv2) d_Mod_undivert_66 ?_
        obtain ⟨⟨r3, T3⟩, hq3, h⟩ := Option.bind_eq_some_iff.mp h
        try dsimp only at h
        refine go_vS (As := [.ref (ad 0), .int (S.1 0 46), .int (S.2.1 17 (((32768 : Int32) * (L 1)) + (L 3) : Int32).toNatClampNeg)]) (g := g) (A := A) (h := shM) hP hK hD hS hA hN (fun hp => va_runV (As := [.int (S.1 0 46), .int (S.2.1 17 (((32768 : Int32) * (L 1)) + (L 3) : Int32).toNatClampNeg)]) (rest := []) ⟨hx, hb, hml, hown, htt⟩ (t_Mod_divertByte l g _ ad S (S.1 0 46 : Int32) (S.2.1 17 (((32768 : Int32) * (L 1)) + (L 3) : Int32).toNatClampNeg : Int32) k9 r3 T3 hq3) ⟨(cb_L htt k_2801 k_276 k_2798 hd_Mod_divertByte ⟨(Nat.le_trans (by decide +kernel) hRf), (Nat.le_trans (by decide +kernel) hRl)⟩), htt _ k_2800, htt _ k_145⟩ ⟨hp.1, S_recv hK hP 0 rfl rfl, hp.2⟩ rfl rfl hl.1 rfl (lv_room (Nat.le_of_ble_eq_true rfl)) d_Mod_undivert_67 ⟨hRc, hRs⟩) (fun Sn H locs hw9 hP hD hS => ?_)
        have e8 := hw9
        rw [e8] at hP hD
        refine W.widen (k := cells) (n := slots) (Nat.le_refl _) (Nat.le_refl _) ?_
        refine lv_iinc (k := 3) (v := (L 3) + 1) (lv' := [(3, .int ((L 3) + 1)), (0, .ref (ad 0)), (1, .int (L 1)), (2, .int (L 2))]) hx hb d_Mod_undivert_70 hl rfl rfl (by decide) rfl (fun ls hl => ?_)
        refine lv_goto (tgt := 46) hx hb d_Mod_undivert_73 (by decide) ?_
        exact (ih.2.2) T3 (upd L 3 ((L 3) + 1)) M ls H locs h (lv_sub hl [1, 2, 3, 0] rfl) hP hD hS
abbrev rm_t_Mod_undivert : Room := { frames := 3, cells := 0, slots := 0, locals := 66 }
theorem t_Mod_undivert (l : Launch) (g : gG) (sz : Nat) (ad : Nat → Nat) (S : sS) (v1 : Int32) (k : Nat) (r : Int32) (S9 : sS) (h : f_Mod_undivert k 0 S (upd (fun _ => 0) 1 v1) (fun _ => 0) = some (r, S9)) : Cv l y_Mod_undivert b_Mod_undivert 4 rm_t_Mod_undivert g [.ref (ad 0), .int v1] (Sw shM g ad S) sz (fun w => ∃ S1 : sS, w = Sw shM g ad S1 ∧ S1 = S9) := by
  refine startV (by decide) (Nat.le_of_ble_eq_true rfl) ?_
  intro p e s m below meth c A ls hx hb hr hml hlocks hmn hown htt hN hA hP hK hD hS hl
  exact (w_Mod_undivert hx hb hml hown htt hK hN hA (by decide +kernel) (by decide +kernel) (by decide +kernel) (by decide +kernel) r S9 (fun ls H locs hP hD hS => fin_v (g := g) (ws := Sw shM g ad S9) hx hb hr hlocks (by decide +kernel) (by decide +kernel) hP hD hS ⟨_, rfl, rfl⟩ d_Mod_undivert_19) (fun ls H locs hP hD hS => fin_v (g := g) (ws := Sw shM g ad S9) hx hb hr hlocks (by decide +kernel) (by decide +kernel) hP hD hS ⟨_, rfl, rfl⟩ d_Mod_undivert_76) k).1 S (upd (fun _ => 0) 1 v1) (fun _ => 0) ls _ _ h hl hP hD hS
def f_Mod_putArgument : Nat → Nat → sS → (Nat → Int32) → (Nat → Int64) → Option (Int32 × sS)
  | 0, _, _, _, _ => none
  | k + 1, 0, S, L, M => if (S.1 0 49) = (16384 : Int32) then ((f_Mod_fail1 k 0 S (upd (fun _ => 0) 1 (40 : Int32)) (fun _ => 0)).bind (fun (r3, T3) => some ((0 : Int32), T3))) else (if okI (S.1 0 49) 16385 = true then (some ((0 : Int32), (putI (putA S 19 (S.1 0 49 : Int32).toNatClampNeg (vp_nar .byte ((L 1).toInt8.toInt32))) 0 49 ((S.1 0 49) + (1 : Int32))))) else none)
  | _ + 1, _ + 1, _, _, _ => none
set_option maxHeartbeats 8000000 in
set_option maxRecDepth 100000 in
theorem w_Mod_putArgument {p : Program} {l : Launch} {e : Env} {R : Room} {s : State} {m : MethodId} {args : Array Value} {below : List Frame} {meth : Method} {c : Code} {cells slots : Nat} {Q : State → Prop} {g : gG} {A : Nat → Prop} {ad : Nat → Nat} (hx : p.tables.exec = Jvm.exec) (hb : c.code = b_Mod_putArgument) (hml : c.maxLocals = 2) (hown : s.vm.findClass "MacroMillModel" = some m.cls) (htt : ∀ w ∈ gt, w.before args s = true) (hK : va_K g.1 classes (tysG g) s) (hN : nw s) (hA : ∀ q : Nat, s.heap.size ≤ q → A q) (hRf : 2 ≤ R.frames) (hRl : 44 ≤ R.locals) (hRc : cells ≤ R.cells) (hRs : slots ≤ R.slots) (r : Int32) (S9 : sS)
    (kx_16 : ∀ (ls : Array Slot) (H : Heap) (locs : List Loc), va_P g.1 classes (Sw shM g ad S9) H → va_D A (Sw shM g ad S9) → va_S A s.heap H locs → W p l e R s m args below meth c H locs cells slots Q (F0 m 16 ls []))
    (kx_38 : ∀ (ls : Array Slot) (H : Heap) (locs : List Loc), va_P g.1 classes (Sw shM g ad S9) H → va_D A (Sw shM g ad S9) → va_S A s.heap H locs → W p l e R s m args below meth c H locs cells slots Q (F0 m 38 ls [])) :
    ∀ k9 : Nat, (∀ (S : sS) (L : Nat → Int32) (M : Nat → Int64) (ls : Array Slot) (H : Heap) (locs : List Loc), f_Mod_putArgument k9 0 S L M = some (r, S9) → lv_has ls 2 [(0, .ref (ad 0)), (1, .int (L 1))] → va_P g.1 classes (Sw shM g ad S) H → va_D A (Sw shM g ad S) → va_S A s.heap H locs → W p l e R s m args below meth c H locs cells slots Q (F0 m 0 ls [])) := by
  intro k9
  induction k9 with
  | zero => exact (fun _ _ _ _ _ _ h => by simp [f_Mod_putArgument] at h)
  | succ k9 ih =>
    · intro S L M ls H locs h hl hP hD hS
      simp only [f_Mod_putArgument] at h
      refine lv_aload_n hx hb d_Mod_putArgument_0 rfl (lv_at hl 0 rfl) ?_
      refine S_getI (h := shM) (C := "MacroMillModel") (T := F_Mod) hx hb htt in_Mod hown hK hP 0 49 rfl rfl rfl (by decide) (htt _ k_2285) (fun _ h9 => h9) d_Mod_putArgument_1 ?_
      refine lv_sipush (v := 16384) hx hb d_Mod_putArgument_4 (by decide) ?_
      refine lv_icmp_ne (tgt := 17) hx hb d_Mod_putArgument_7 (by decide) (fun hc1 => ?_) (fun hc1 => ?_)
      · rw [if_neg hc1] at h
        refine lv_aload_n hx hb d_Mod_putArgument_17 rfl (lv_at hl 0 rfl) ?_
        refine S_getR (h := shM) (C := "MacroMillModel") (T := F_Mod) hx hb htt in_Mod hown hK hP 0 48 rfl 20 rfl rfl (by decide) (htt _ k_2284) (fun _ h9 => h9) d_Mod_putArgument_18 ?_
        refine lv_aload_n hx hb d_Mod_putArgument_21 rfl (lv_at hl 0 rfl) ?_
        refine S_getI (h := shM) (C := "MacroMillModel") (T := F_Mod) hx hb htt in_Mod hown hK hP 0 49 rfl rfl rfl (by decide) (htt _ k_2285) (fun _ h9 => h9) d_Mod_putArgument_22 ?_
        refine lv_iload_n hx hb d_Mod_putArgument_25 rfl (lv_at hl 1 rfl) ?_
        refine lv_i2b (v := (L 1).toInt8.toInt32) hx hb d_Mod_putArgument_26 rfl ?_
        obtain ⟨hv2, h⟩ := chk h
        refine S_bast (h := shM) (i := S.1 0 49) (v := (L 1).toInt8.toInt32) hx hb hK hP hD hS 19 rfl (okI_in hv2) d_Mod_putArgument_27 (fun H locs hP hD hS => ?_)
        refine lv_aload_n hx hb d_Mod_putArgument_28 rfl (lv_at hl 0 rfl) ?_
        show W _ _ _ _ _ _ _ _ _ _ _ _ _ _ _ (F0 _ 29 _ _)
        refine lv_dup hx hb d_Mod_putArgument_29 rfl ?_
        refine S_getI (h := shM) (C := "MacroMillModel") (T := F_Mod) hx hb htt in_Mod hown hK hP 0 49 rfl rfl rfl (by decide) (htt _ k_2285) (fun _ h9 => h9) d_Mod_putArgument_30 ?_
        refine toI (y := S.1 0 49) rfl ?_
        refine lv_iconst (v := 1) hx hb d_Mod_putArgument_33 (by decide) ?_
        refine lv_iadd hx hb d_Mod_putArgument_34 ?_
        refine S_put (h := shM) (C := "MacroMillModel") (T := F_Mod) (v := (S.1 0 49) + (1 : Int32)) hx hb htt in_Mod t_Mod t_Mod_ok n_Mod hown hK hP hD hS 0 49 rfl rfl rfl (by decide) (htt _ k_2285) (fun _ h9 => h9) rfl rfl rfl d_Mod_putArgument_35 (fun H locs hP hD hS => ?_)
        cases h
        exact kx_38 ls H locs hP hD hS
      · rw [if_pos hc1] at h
        refine lv_aload_n hx hb d_Mod_putArgument_10 rfl (lv_at hl 0 rfl) ?_
        refine lv_bipush (v := 40) hx hb d_Mod_putArgument_11 (by decide) ?_
        obtain ⟨⟨r3, T3⟩, hq3, h⟩ := Option.bind_eq_some_iff.mp h
        try dsimp only at h
        refine go_vS (As := [.ref (ad 0), .int 40]) (g := g) (A := A) (h := shM) hP hK hD hS hA hN (fun hp => va_runV (As := [.int 40]) (rest := []) ⟨hx, hb, hml, hown, htt⟩ (t_Mod_fail1 l g _ ad S (40 : Int32) k9 r3 T3 hq3) ⟨(cb_L htt k_2767 k_276 k_2764 hd_Mod_fail1 ⟨(Nat.le_trans (by decide +kernel) hRf), (Nat.le_trans (by decide +kernel) hRl)⟩), htt _ k_2766, htt _ k_138⟩ ⟨hp.1, S_recv hK hP 0 rfl rfl, hp.2⟩ rfl rfl hl.1 rfl (lv_room (Nat.le_of_ble_eq_true rfl)) d_Mod_putArgument_13 ⟨hRc, hRs⟩) (fun Sn H locs hw9 hP hD hS => ?_)
        have e8 := hw9
        rw [e8] at hP hD
        refine W.widen (k := cells) (n := slots) (Nat.le_refl _) (Nat.le_refl _) ?_
        cases h
        exact kx_16 ls H locs hP hD hS
abbrev rm_t_Mod_putArgument : Room := { frames := 2, cells := 0, slots := 0, locals := 44 }
theorem t_Mod_putArgument (l : Launch) (g : gG) (sz : Nat) (ad : Nat → Nat) (S : sS) (v1 : Int32) (k : Nat) (r : Int32) (S9 : sS) (h : f_Mod_putArgument k 0 S (upd (fun _ => 0) 1 v1) (fun _ => 0) = some (r, S9)) : Cv l y_Mod_putArgument b_Mod_putArgument 2 rm_t_Mod_putArgument g [.ref (ad 0), .int v1] (Sw shM g ad S) sz (fun w => ∃ S1 : sS, w = Sw shM g ad S1 ∧ S1 = S9) := by
  refine startV (by decide) (Nat.le_of_ble_eq_true rfl) ?_
  intro p e s m below meth c A ls hx hb hr hml hlocks hmn hown htt hN hA hP hK hD hS hl
  exact (w_Mod_putArgument hx hb hml hown htt hK hN hA (by decide +kernel) (by decide +kernel) (by decide +kernel) (by decide +kernel) r S9 (fun ls H locs hP hD hS => fin_v (g := g) (ws := Sw shM g ad S9) hx hb hr hlocks (by decide +kernel) (by decide +kernel) hP hD hS ⟨_, rfl, rfl⟩ d_Mod_putArgument_16) (fun ls H locs hP hD hS => fin_v (g := g) (ws := Sw shM g ad S9) hx hb hr hlocks (by decide +kernel) (by decide +kernel) hP hD hS ⟨_, rfl, rfl⟩ d_Mod_putArgument_38) k) S (upd (fun _ => 0) 1 v1) (fun _ => 0) ls _ _ h hl hP hD hS
def f_Mod_putToken : Nat → Nat → sS → (Nat → Int32) → (Nat → Int64) → Option (Int32 × sS)
  | 0, _, _, _, _ => none
  | k + 1, 0, S, L, M => f_Mod_putToken k 1 S (upd L 2 (0 : Int32)) M
  | k + 1, 1, S, L, M => if (S.1 0 31) ≤ (L 2) then (f_Mod_putToken k 3 S L M) else (if (S.1 0 10) = (0 : Int32) then (if (L 1) = (0 : Int32) then (if okI (L 2) 32768 = true then ((f_Mod_divertByte k 0 S (upd (upd (fun _ => 0) 1 (S.1 0 46 : Int32)) 2 (S.2.1 10 (L 2 : Int32).toNatClampNeg : Int32)) (fun _ => 0)).bind (fun (r5, T5) => f_Mod_putToken k 2 T5 L M)) else none) else (if okI (L 2) 32768 = true then ((f_Mod_putArgument k 0 S (upd (fun _ => 0) 1 (S.2.1 10 (L 2 : Int32).toNatClampNeg : Int32)) (fun _ => 0)).bind (fun (r7, T7) => f_Mod_putToken k 2 T7 L M)) else none)) else (f_Mod_putToken k 3 S L M))
  | k + 1, 2, S, L, M => f_Mod_putToken k 1 S (upd L 2 ((L 2) + 1)) M
  | k + 1, 3, S, L, M => some ((0 : Int32), S)
  | _ + 1, _ + 4, _, _, _ => none
set_option maxHeartbeats 8000000 in
set_option maxRecDepth 100000 in
theorem w_Mod_putToken {p : Program} {l : Launch} {e : Env} {R : Room} {s : State} {m : MethodId} {args : Array Value} {below : List Frame} {meth : Method} {c : Code} {cells slots : Nat} {Q : State → Prop} {g : gG} {A : Nat → Prop} {ad : Nat → Nat} (hx : p.tables.exec = Jvm.exec) (hb : c.code = b_Mod_putToken) (hml : c.maxLocals = 3) (hown : s.vm.findClass "MacroMillModel" = some m.cls) (htt : ∀ w ∈ gt, w.before args s = true) (hK : va_K g.1 classes (tysG g) s) (hN : nw s) (hA : ∀ q : Nat, s.heap.size ≤ q → A q) (hRf : 3 ≤ R.frames) (hRl : 66 ≤ R.locals) (hRc : cells ≤ R.cells) (hRs : slots ≤ R.slots) (r : Int32) (S9 : sS)
    (kx_54 : ∀ (ls : Array Slot) (H : Heap) (locs : List Loc), va_P g.1 classes (Sw shM g ad S9) H → va_D A (Sw shM g ad S9) → va_S A s.heap H locs → W p l e R s m args below meth c H locs cells slots Q (F0 m 54 ls [])) :
    ∀ k9 : Nat, (∀ (S : sS) (L : Nat → Int32) (M : Nat → Int64) (ls : Array Slot) (H : Heap) (locs : List Loc), f_Mod_putToken k9 0 S L M = some (r, S9) → lv_has ls 3 [(0, .ref (ad 0)), (1, .int (L 1))] → va_P g.1 classes (Sw shM g ad S) H → va_D A (Sw shM g ad S) → va_S A s.heap H locs → W p l e R s m args below meth c H locs cells slots Q (F0 m 0 ls [])) ∧ (∀ (S : sS) (L : Nat → Int32) (M : Nat → Int64) (ls : Array Slot) (H : Heap) (locs : List Loc), f_Mod_putToken k9 1 S L M = some (r, S9) → lv_has ls 3 [(0, .ref (ad 0)), (1, .int (L 1)), (2, .int (L 2))] → va_P g.1 classes (Sw shM g ad S) H → va_D A (Sw shM g ad S) → va_S A s.heap H locs → W p l e R s m args below meth c H locs cells slots Q (F0 m 2 ls [])) ∧ (∀ (S : sS) (L : Nat → Int32) (M : Nat → Int64) (ls : Array Slot) (H : Heap) (locs : List Loc), f_Mod_putToken k9 2 S L M = some (r, S9) → lv_has ls 3 [(0, .ref (ad 0)), (1, .int (L 1)), (2, .int (L 2))] → va_P g.1 classes (Sw shM g ad S) H → va_D A (Sw shM g ad S) → va_S A s.heap H locs → W p l e R s m args below meth c H locs cells slots Q (F0 m 48 ls [])) ∧ (∀ (S : sS) (L : Nat → Int32) (M : Nat → Int64) (ls : Array Slot) (H : Heap) (locs : List Loc), f_Mod_putToken k9 3 S L M = some (r, S9) → lv_has ls 3 [(0, .ref (ad 0)), (1, .int (L 1)), (2, .int (L 2))] → va_P g.1 classes (Sw shM g ad S) H → va_D A (Sw shM g ad S) → va_S A s.heap H locs → W p l e R s m args below meth c H locs cells slots Q (F0 m 54 ls [])) := by
  intro k9
  induction k9 with
  | zero => exact ⟨(fun _ _ _ _ _ _ h => by simp [f_Mod_putToken] at h), (fun _ _ _ _ _ _ h => by simp [f_Mod_putToken] at h), (fun _ _ _ _ _ _ h => by simp [f_Mod_putToken] at h), (fun _ _ _ _ _ _ h => by simp [f_Mod_putToken] at h)⟩
  | succ k9 ih =>
    refine ⟨?_, ?_, ?_, ?_⟩
    · intro S L M ls H locs h hl hP hD hS
      simp only [f_Mod_putToken] at h
      refine lv_iconst (v := 0) hx hb d_Mod_putToken_0 (by decide) ?_
      refine lv_istore_n (lv' := [(2, .int 0), (0, .ref (ad 0)), (1, .int (L 1))]) hx hb d_Mod_putToken_1 rfl hl (by decide) rfl (fun ls hl => ?_)
      exact (ih.2.1) S (upd L 2 (0 : Int32)) M ls H locs h (lv_sub hl [1, 2, 0] rfl) hP hD hS
    · intro S L M ls H locs h hl hP hD hS
      simp only [f_Mod_putToken] at h
      refine lv_iload_n hx hb d_Mod_putToken_2 rfl (lv_at hl 2 rfl) ?_
      refine lv_aload_n hx hb d_Mod_putToken_3 rfl (lv_at hl 0 rfl) ?_
      refine S_getI (h := shM) (C := "MacroMillModel") (T := F_Mod) hx hb htt in_Mod hown hK hP 0 31 rfl rfl rfl (by decide) (htt _ k_2267) (fun _ h9 => h9) d_Mod_putToken_4 ?_
      refine lv_icmp_ge (tgt := 54) hx hb d_Mod_putToken_7 (by decide) (fun hc1 => ?_) (fun hc1 => ?_)
      · rw [if_pos hc1] at h
        exact (ih.2.2.2) S L M ls H locs h (lv_sub hl [0, 1, 2] rfl) hP hD hS
      · rw [if_neg hc1] at h
        refine lv_aload_n hx hb d_Mod_putToken_10 rfl (lv_at hl 0 rfl) ?_
        refine S_getI (h := shM) (C := "MacroMillModel") (T := F_Mod) hx hb htt in_Mod hown hK hP 0 10 rfl rfl rfl (by decide) (htt _ k_2246) (fun _ h9 => h9) d_Mod_putToken_11 ?_
        refine lv_if_ne (tgt := 54) hx hb d_Mod_putToken_14 (by decide) (fun hc2 => ?_) (fun hc2 => ?_)
        · rw [if_neg hc2] at h
          exact (ih.2.2.2) S L M ls H locs h (lv_sub hl [0, 1, 2] rfl) hP hD hS
        · rw [if_pos hc2] at h
          refine lv_iload_n hx hb d_Mod_putToken_17 rfl (lv_at hl 1 rfl) ?_
          refine lv_if_eq (tgt := 34) hx hb d_Mod_putToken_18 (by decide) (fun hc3 => ?_) (fun hc3 => ?_)
          · rw [if_pos hc3] at h
            refine lv_aload_n hx hb d_Mod_putToken_34 rfl (lv_at hl 0 rfl) ?_
            refine lv_aload_n hx hb d_Mod_putToken_35 rfl (lv_at hl 0 rfl) ?_
            refine S_getI (h := shM) (C := "MacroMillModel") (T := F_Mod) hx hb htt in_Mod hown hK hP 0 46 rfl rfl rfl (by decide) (htt _ k_2282) (fun _ h9 => h9) d_Mod_putToken_36 ?_
            refine lv_aload_n hx hb d_Mod_putToken_39 rfl (lv_at hl 0 rfl) ?_
            refine S_getR (h := shM) (C := "MacroMillModel") (T := F_Mod) hx hb htt in_Mod hown hK hP 0 30 rfl 11 rfl rfl (by decide) (htt _ k_2266) (fun _ h9 => h9) d_Mod_putToken_40 ?_
            show W _ _ _ _ _ _ _ _ _ _ _ _ _ _ _ (F0 _ 43 _ _)
            refine lv_iload_n hx hb d_Mod_putToken_43 rfl (lv_at hl 2 rfl) ?_
            obtain ⟨hv4, h⟩ := chk h
            refine S_bald (h := shM) (i := L 2) hx hb hK hP 10 rfl (okI_in hv4) d_Mod_putToken_44 ?_
            obtain ⟨⟨r5, T5⟩, hq5, h⟩ := Option.bind_eq_some_iff.mp h
            try dsimp only at h
            refine go_vS (As := [.ref (ad 0), .int (S.1 0 46), .int (S.2.1 10 (L 2 : Int32).toNatClampNeg)]) (g := g) (A := A) (h := shM) hP hK hD hS hA hN (fun hp => va_runV (As := [.int (S.1 0 46), .int (S.2.1 10 (L 2 : Int32).toNatClampNeg)]) (rest := []) ⟨hx, hb, hml, hown, htt⟩ (t_Mod_divertByte l g _ ad S (S.1 0 46 : Int32) (S.2.1 10 (L 2 : Int32).toNatClampNeg : Int32) k9 r5 T5 hq5) ⟨(cb_L htt k_2801 k_276 k_2798 hd_Mod_divertByte ⟨(Nat.le_trans (by decide +kernel) hRf), (Nat.le_trans (by decide +kernel) hRl)⟩), htt _ k_2800, htt _ k_145⟩ ⟨hp.1, S_recv hK hP 0 rfl rfl, hp.2⟩ rfl rfl hl.1 rfl (lv_room (Nat.le_of_ble_eq_true rfl)) d_Mod_putToken_45 ⟨hRc, hRs⟩) (fun Sn H locs hw9 hP hD hS => ?_)
            have e8 := hw9
            rw [e8] at hP hD
            refine W.widen (k := cells) (n := slots) (Nat.le_refl _) (Nat.le_refl _) ?_
            exact (ih.2.2.1) T5 L M ls H locs h (lv_sub hl [0, 1, 2] rfl) hP hD hS
          · rw [if_neg hc3] at h
            refine lv_aload_n hx hb d_Mod_putToken_21 rfl (lv_at hl 0 rfl) ?_
            refine lv_aload_n hx hb d_Mod_putToken_22 rfl (lv_at hl 0 rfl) ?_
            refine S_getR (h := shM) (C := "MacroMillModel") (T := F_Mod) hx hb htt in_Mod hown hK hP 0 30 rfl 11 rfl rfl (by decide) (htt _ k_2266) (fun _ h9 => h9) d_Mod_putToken_23 ?_
            refine lv_iload_n hx hb d_Mod_putToken_26 rfl (lv_at hl 2 rfl) ?_
            obtain ⟨hv6, h⟩ := chk h
            refine S_bald (h := shM) (i := L 2) hx hb hK hP 10 rfl (okI_in hv6) d_Mod_putToken_27 ?_
            obtain ⟨⟨r7, T7⟩, hq7, h⟩ := Option.bind_eq_some_iff.mp h
            try dsimp only at h
            refine go_vS (As := [.ref (ad 0), .int (S.2.1 10 (L 2 : Int32).toNatClampNeg)]) (g := g) (A := A) (h := shM) hP hK hD hS hA hN (fun hp => va_runV (As := [.int (S.2.1 10 (L 2 : Int32).toNatClampNeg)]) (rest := []) ⟨hx, hb, hml, hown, htt⟩ (t_Mod_putArgument l g _ ad S (S.2.1 10 (L 2 : Int32).toNatClampNeg : Int32) k9 r7 T7 hq7) ⟨(cb_L htt k_2797 k_276 k_2794 hd_Mod_putArgument ⟨(Nat.le_trans (by decide +kernel) hRf), (Nat.le_trans (by decide +kernel) hRl)⟩), htt _ k_2796, htt _ k_144⟩ ⟨hp.1, S_recv hK hP 0 rfl rfl, hp.2⟩ rfl rfl hl.1 rfl (lv_room (Nat.le_of_ble_eq_true rfl)) d_Mod_putToken_28 ⟨hRc, hRs⟩) (fun Sn H locs hw9 hP hD hS => ?_)
            have e8 := hw9
            rw [e8] at hP hD
            refine W.widen (k := cells) (n := slots) (Nat.le_refl _) (Nat.le_refl _) ?_
            show W _ _ _ _ _ _ _ _ _ _ _ _ _ _ _ (F0 _ 31 _ _)
            refine lv_goto (tgt := 48) hx hb d_Mod_putToken_31 (by decide) ?_
            exact (ih.2.2.1) T7 L M ls H locs h (lv_sub hl [0, 1, 2] rfl) hP hD hS
    · intro S L M ls H locs h hl hP hD hS
      simp only [f_Mod_putToken] at h
      refine lv_iinc (k := 2) (v := (L 2) + 1) (lv' := [(2, .int ((L 2) + 1)), (0, .ref (ad 0)), (1, .int (L 1))]) hx hb d_Mod_putToken_48 hl rfl rfl (by decide) rfl (fun ls hl => ?_)
      refine lv_goto (tgt := 2) hx hb d_Mod_putToken_51 (by decide) ?_
      exact (ih.2.1) S (upd L 2 ((L 2) + 1)) M ls H locs h (lv_sub hl [1, 2, 0] rfl) hP hD hS
    · intro S L M ls H locs h hl hP hD hS
      simp only [f_Mod_putToken] at h
      cases h
      exact kx_54 ls H locs hP hD hS
abbrev rm_t_Mod_putToken : Room := { frames := 3, cells := 0, slots := 0, locals := 66 }
theorem t_Mod_putToken (l : Launch) (g : gG) (sz : Nat) (ad : Nat → Nat) (S : sS) (v1 : Int32) (k : Nat) (r : Int32) (S9 : sS) (h : f_Mod_putToken k 0 S (upd (fun _ => 0) 1 v1) (fun _ => 0) = some (r, S9)) : Cv l y_Mod_putToken b_Mod_putToken 3 rm_t_Mod_putToken g [.ref (ad 0), .int v1] (Sw shM g ad S) sz (fun w => ∃ S1 : sS, w = Sw shM g ad S1 ∧ S1 = S9) := by
  refine startV (by decide) (Nat.le_of_ble_eq_true rfl) ?_
  intro p e s m below meth c A ls hx hb hr hml hlocks hmn hown htt hN hA hP hK hD hS hl
  exact (w_Mod_putToken hx hb hml hown htt hK hN hA (by decide +kernel) (by decide +kernel) (by decide +kernel) (by decide +kernel) r S9 (fun ls H locs hP hD hS => fin_v (g := g) (ws := Sw shM g ad S9) hx hb hr hlocks (by decide +kernel) (by decide +kernel) hP hD hS ⟨_, rfl, rfl⟩ d_Mod_putToken_54) k).1 S (upd (fun _ => 0) 1 v1) (fun _ => 0) ls _ _ h hl hP hD hS
def f_Mod_beginArgument : Nat → Nat → sS → (Nat → Int32) → (Nat → Int64) → Option (Int32 × sS)
  | 0, _, _, _, _ => none
  | k + 1, 0, S, L, M => if (S.1 0 10) = (0 : Int32) then (if (S.1 0 50) = (8192 : Int32) then ((f_Mod_fail1 k 0 S (upd (fun _ => 0) 1 (40 : Int32)) (fun _ => 0)).bind (fun (r3, T3) => f_Mod_beginArgument k 1 T3 L M)) else (f_Mod_beginArgument k 1 S L M)) else (f_Mod_beginArgument k 1 S L M)
  | k + 1, 1, S, L, M => if (S.1 0 10) = (0 : Int32) then (if okI (S.1 0 50) 8300 = true then (f_Mod_beginArgument k 2 (putI (putA S 20 (S.1 0 50 : Int32).toNatClampNeg (S.1 0 49)) 0 50 ((S.1 0 50) + (1 : Int32))) L M) else none) else (f_Mod_beginArgument k 2 S L M)
  | k + 1, 2, S, L, M => some ((0 : Int32), S)
  | _ + 1, _ + 3, _, _, _ => none
set_option maxHeartbeats 8000000 in
set_option maxRecDepth 100000 in
theorem w_Mod_beginArgument {p : Program} {l : Launch} {e : Env} {R : Room} {s : State} {m : MethodId} {args : Array Value} {below : List Frame} {meth : Method} {c : Code} {cells slots : Nat} {Q : State → Prop} {g : gG} {A : Nat → Prop} {ad : Nat → Nat} (hx : p.tables.exec = Jvm.exec) (hb : c.code = b_Mod_beginArgument) (hml : c.maxLocals = 1) (hown : s.vm.findClass "MacroMillModel" = some m.cls) (htt : ∀ w ∈ gt, w.before args s = true) (hK : va_K g.1 classes (tysG g) s) (hN : nw s) (hA : ∀ q : Nat, s.heap.size ≤ q → A q) (hRf : 2 ≤ R.frames) (hRl : 44 ≤ R.locals) (hRc : cells ≤ R.cells) (hRs : slots ≤ R.slots) (r : Int32) (S9 : sS)
    (kx_53 : ∀ (ls : Array Slot) (H : Heap) (locs : List Loc), va_P g.1 classes (Sw shM g ad S9) H → va_D A (Sw shM g ad S9) → va_S A s.heap H locs → W p l e R s m args below meth c H locs cells slots Q (F0 m 53 ls [])) :
    ∀ k9 : Nat, (∀ (S : sS) (L : Nat → Int32) (M : Nat → Int64) (ls : Array Slot) (H : Heap) (locs : List Loc), f_Mod_beginArgument k9 0 S L M = some (r, S9) → lv_has ls 1 [(0, .ref (ad 0))] → va_P g.1 classes (Sw shM g ad S) H → va_D A (Sw shM g ad S) → va_S A s.heap H locs → W p l e R s m args below meth c H locs cells slots Q (F0 m 0 ls [])) ∧ (∀ (S : sS) (L : Nat → Int32) (M : Nat → Int64) (ls : Array Slot) (H : Heap) (locs : List Loc), f_Mod_beginArgument k9 1 S L M = some (r, S9) → lv_has ls 1 [(0, .ref (ad 0))] → va_P g.1 classes (Sw shM g ad S) H → va_D A (Sw shM g ad S) → va_S A s.heap H locs → W p l e R s m args below meth c H locs cells slots Q (F0 m 23 ls [])) ∧ (∀ (S : sS) (L : Nat → Int32) (M : Nat → Int64) (ls : Array Slot) (H : Heap) (locs : List Loc), f_Mod_beginArgument k9 2 S L M = some (r, S9) → lv_has ls 1 [(0, .ref (ad 0))] → va_P g.1 classes (Sw shM g ad S) H → va_D A (Sw shM g ad S) → va_S A s.heap H locs → W p l e R s m args below meth c H locs cells slots Q (F0 m 53 ls [])) := by
  intro k9
  induction k9 with
  | zero => exact ⟨(fun _ _ _ _ _ _ h => by simp [f_Mod_beginArgument] at h), (fun _ _ _ _ _ _ h => by simp [f_Mod_beginArgument] at h), (fun _ _ _ _ _ _ h => by simp [f_Mod_beginArgument] at h)⟩
  | succ k9 ih =>
    refine ⟨?_, ?_, ?_⟩
    · intro S L M ls H locs h hl hP hD hS
      simp only [f_Mod_beginArgument] at h
      refine lv_aload_n hx hb d_Mod_beginArgument_0 rfl (lv_at hl 0 rfl) ?_
      refine S_getI (h := shM) (C := "MacroMillModel") (T := F_Mod) hx hb htt in_Mod hown hK hP 0 10 rfl rfl rfl (by decide) (htt _ k_2246) (fun _ h9 => h9) d_Mod_beginArgument_1 ?_
      refine lv_if_ne (tgt := 23) hx hb d_Mod_beginArgument_4 (by decide) (fun hc1 => ?_) (fun hc1 => ?_)
      · rw [if_neg hc1] at h
        exact (ih.2.1) S L M ls H locs h (lv_sub hl [0] rfl) hP hD hS
      · rw [if_pos hc1] at h
        refine lv_aload_n hx hb d_Mod_beginArgument_7 rfl (lv_at hl 0 rfl) ?_
        refine S_getI (h := shM) (C := "MacroMillModel") (T := F_Mod) hx hb htt in_Mod hown hK hP 0 50 rfl rfl rfl (by decide) (htt _ k_2286) (fun _ h9 => h9) d_Mod_beginArgument_8 ?_
        refine lv_sipush (v := 8192) hx hb d_Mod_beginArgument_11 (by decide) ?_
        refine lv_icmp_ne (tgt := 23) hx hb d_Mod_beginArgument_14 (by decide) (fun hc2 => ?_) (fun hc2 => ?_)
        · rw [if_neg hc2] at h
          exact (ih.2.1) S L M ls H locs h (lv_sub hl [0] rfl) hP hD hS
        · rw [if_pos hc2] at h
          refine lv_aload_n hx hb d_Mod_beginArgument_17 rfl (lv_at hl 0 rfl) ?_
          refine lv_bipush (v := 40) hx hb d_Mod_beginArgument_18 (by decide) ?_
          obtain ⟨⟨r3, T3⟩, hq3, h⟩ := Option.bind_eq_some_iff.mp h
          try dsimp only at h
          refine go_vS (As := [.ref (ad 0), .int 40]) (g := g) (A := A) (h := shM) hP hK hD hS hA hN (fun hp => va_runV (As := [.int 40]) (rest := []) ⟨hx, hb, hml, hown, htt⟩ (t_Mod_fail1 l g _ ad S (40 : Int32) k9 r3 T3 hq3) ⟨(cb_L htt k_2767 k_276 k_2764 hd_Mod_fail1 ⟨(Nat.le_trans (by decide +kernel) hRf), (Nat.le_trans (by decide +kernel) hRl)⟩), htt _ k_2766, htt _ k_138⟩ ⟨hp.1, S_recv hK hP 0 rfl rfl, hp.2⟩ rfl rfl hl.1 rfl (lv_room (Nat.le_of_ble_eq_true rfl)) d_Mod_beginArgument_20 ⟨hRc, hRs⟩) (fun Sn H locs hw9 hP hD hS => ?_)
          have e8 := hw9
          rw [e8] at hP hD
          refine W.widen (k := cells) (n := slots) (Nat.le_refl _) (Nat.le_refl _) ?_
          exact (ih.2.1) T3 L M ls H locs h (lv_sub hl [0] rfl) hP hD hS
    · intro S L M ls H locs h hl hP hD hS
      simp only [f_Mod_beginArgument] at h
      refine lv_aload_n hx hb d_Mod_beginArgument_23 rfl (lv_at hl 0 rfl) ?_
      refine S_getI (h := shM) (C := "MacroMillModel") (T := F_Mod) hx hb htt in_Mod hown hK hP 0 10 rfl rfl rfl (by decide) (htt _ k_2246) (fun _ h9 => h9) d_Mod_beginArgument_24 ?_
      refine lv_if_ne (tgt := 53) hx hb d_Mod_beginArgument_27 (by decide) (fun hc1 => ?_) (fun hc1 => ?_)
      · rw [if_neg hc1] at h
        exact (ih.2.2) S L M ls H locs h (lv_sub hl [0] rfl) hP hD hS
      · rw [if_pos hc1] at h
        refine lv_aload_n hx hb d_Mod_beginArgument_30 rfl (lv_at hl 0 rfl) ?_
        refine S_getR (h := shM) (C := "MacroMillModel") (T := F_Mod) hx hb htt in_Mod hown hK hP 0 51 rfl 21 rfl rfl (by decide) (htt _ k_2287) (fun _ h9 => h9) d_Mod_beginArgument_31 ?_
        refine lv_aload_n hx hb d_Mod_beginArgument_34 rfl (lv_at hl 0 rfl) ?_
        refine S_getI (h := shM) (C := "MacroMillModel") (T := F_Mod) hx hb htt in_Mod hown hK hP 0 50 rfl rfl rfl (by decide) (htt _ k_2286) (fun _ h9 => h9) d_Mod_beginArgument_35 ?_
        refine lv_aload_n hx hb d_Mod_beginArgument_38 rfl (lv_at hl 0 rfl) ?_
        refine S_getI (h := shM) (C := "MacroMillModel") (T := F_Mod) hx hb htt in_Mod hown hK hP 0 49 rfl rfl rfl (by decide) (htt _ k_2285) (fun _ h9 => h9) d_Mod_beginArgument_39 ?_
        obtain ⟨hv2, h⟩ := chk h
        refine S_iast (h := shM) (i := S.1 0 50) (v := S.1 0 49) hx hb hK hP hD hS 20 rfl (okI_in hv2) d_Mod_beginArgument_42 (fun H locs hP hD hS => ?_)
        refine lv_aload_n hx hb d_Mod_beginArgument_43 rfl (lv_at hl 0 rfl) ?_
        refine lv_dup hx hb d_Mod_beginArgument_44 rfl ?_
        show W _ _ _ _ _ _ _ _ _ _ _ _ _ _ _ (F0 _ 45 _ _)
        refine S_getI (h := shM) (C := "MacroMillModel") (T := F_Mod) hx hb htt in_Mod hown hK hP 0 50 rfl rfl rfl (by decide) (htt _ k_2286) (fun _ h9 => h9) d_Mod_beginArgument_45 ?_
        refine toI (y := S.1 0 50) rfl ?_
        refine lv_iconst (v := 1) hx hb d_Mod_beginArgument_48 (by decide) ?_
        refine lv_iadd hx hb d_Mod_beginArgument_49 ?_
        refine S_put (h := shM) (C := "MacroMillModel") (T := F_Mod) (v := (S.1 0 50) + (1 : Int32)) hx hb htt in_Mod t_Mod t_Mod_ok n_Mod hown hK hP hD hS 0 50 rfl rfl rfl (by decide) (htt _ k_2286) (fun _ h9 => h9) rfl rfl rfl d_Mod_beginArgument_50 (fun H locs hP hD hS => ?_)
        exact (ih.2.2) (putI (putA S 20 (S.1 0 50 : Int32).toNatClampNeg (S.1 0 49)) 0 50 ((S.1 0 50) + (1 : Int32))) L M ls H locs h (lv_sub hl [0] rfl) hP hD hS
    · intro S L M ls H locs h hl hP hD hS
      simp only [f_Mod_beginArgument] at h
      cases h
      exact kx_53 ls H locs hP hD hS
abbrev rm_t_Mod_beginArgument : Room := { frames := 2, cells := 0, slots := 0, locals := 44 }
theorem t_Mod_beginArgument (l : Launch) (g : gG) (sz : Nat) (ad : Nat → Nat) (S : sS) (k : Nat) (r : Int32) (S9 : sS) (h : f_Mod_beginArgument k 0 S (fun _ => 0) (fun _ => 0) = some (r, S9)) : Cv l y_Mod_beginArgument b_Mod_beginArgument 1 rm_t_Mod_beginArgument g [.ref (ad 0)] (Sw shM g ad S) sz (fun w => ∃ S1 : sS, w = Sw shM g ad S1 ∧ S1 = S9) := by
  refine startV (by decide) (Nat.le_of_ble_eq_true rfl) ?_
  intro p e s m below meth c A ls hx hb hr hml hlocks hmn hown htt hN hA hP hK hD hS hl
  exact (w_Mod_beginArgument hx hb hml hown htt hK hN hA (by decide +kernel) (by decide +kernel) (by decide +kernel) (by decide +kernel) r S9 (fun ls H locs hP hD hS => fin_v (g := g) (ws := Sw shM g ad S9) hx hb hr hlocks (by decide +kernel) (by decide +kernel) hP hD hS ⟨_, rfl, rfl⟩ d_Mod_beginArgument_53) k).1 S (fun _ => 0) (fun _ => 0) ls _ _ h hl hP hD hS
def f_Mod_argumentAt : Nat → Nat → sS → (Nat → Int32) → (Nat → Int64) → Option (Int32 × sS)
  | 0, _, _, _, _ => none
  | k + 1, 0, S, L, M => if (S.1 0 50) ≤ (((L 1) + (L 2)) - (1 : Int32)) then (if okI (S.1 0 50) 8300 = true then (f_Mod_argumentAt k 1 S (upd L 100 (S.2.1 20 (S.1 0 50 : Int32).toNatClampNeg)) M) else none) else (if okI (((L 1) + (L 2)) - (1 : Int32)) 8300 = true then (f_Mod_argumentAt k 1 S (upd L 100 (S.2.1 20 (((L 1) + (L 2)) - (1 : Int32) : Int32).toNatClampNeg)) M) else none)
  | k + 1, 1, S, L, M => some (L 100, S)
  | _ + 1, _ + 2, _, _, _ => none
set_option maxHeartbeats 8000000 in
set_option maxRecDepth 100000 in
theorem w_Mod_argumentAt {p : Program} {l : Launch} {e : Env} {R : Room} {s : State} {m : MethodId} {args : Array Value} {below : List Frame} {meth : Method} {c : Code} {cells slots : Nat} {Q : State → Prop} {g : gG} {A : Nat → Prop} {ad : Nat → Nat} (hx : p.tables.exec = Jvm.exec) (hb : c.code = b_Mod_argumentAt) (hml : c.maxLocals = 3) (hown : s.vm.findClass "MacroMillModel" = some m.cls) (htt : ∀ w ∈ gt, w.before args s = true) (hK : va_K g.1 classes (tysG g) s) (hN : nw s) (hA : ∀ q : Nat, s.heap.size ≤ q → A q) (r : Int32) (S9 : sS)
    (kx_34 : ∀ (ls : Array Slot) (H : Heap) (locs : List Loc), va_P g.1 classes (Sw shM g ad S9) H → va_D A (Sw shM g ad S9) → va_S A s.heap H locs → W p l e R s m args below meth c H locs cells slots Q (F0 m 34 ls [.int r])) :
    ∀ k9 : Nat, (∀ (S : sS) (L : Nat → Int32) (M : Nat → Int64) (ls : Array Slot) (H : Heap) (locs : List Loc), f_Mod_argumentAt k9 0 S L M = some (r, S9) → lv_has ls 3 [(0, .ref (ad 0)), (1, .int (L 1)), (2, .int (L 2))] → va_P g.1 classes (Sw shM g ad S) H → va_D A (Sw shM g ad S) → va_S A s.heap H locs → W p l e R s m args below meth c H locs cells slots Q (F0 m 0 ls [])) ∧ (∀ (S : sS) (L : Nat → Int32) (M : Nat → Int64) (ls : Array Slot) (H : Heap) (locs : List Loc), f_Mod_argumentAt k9 1 S L M = some (r, S9) → lv_has ls 3 [(0, .ref (ad 0)), (1, .int (L 1)), (2, .int (L 2))] → va_P g.1 classes (Sw shM g ad S) H → va_D A (Sw shM g ad S) → va_S A s.heap H locs → W p l e R s m args below meth c H locs cells slots Q (F0 m 34 ls [.int (L 100)])) := by
  intro k9
  induction k9 with
  | zero => exact ⟨(fun _ _ _ _ _ _ h => by simp [f_Mod_argumentAt] at h), (fun _ _ _ _ _ _ h => by simp [f_Mod_argumentAt] at h)⟩
  | succ k9 ih =>
    refine ⟨?_, ?_⟩
    · intro S L M ls H locs h hl hP hD hS
      simp only [f_Mod_argumentAt] at h
      refine lv_iload_n hx hb d_Mod_argumentAt_0 rfl (lv_at hl 1 rfl) ?_
      refine lv_iload_n hx hb d_Mod_argumentAt_1 rfl (lv_at hl 2 rfl) ?_
      refine lv_iadd hx hb d_Mod_argumentAt_2 ?_
      refine lv_iconst (v := 1) hx hb d_Mod_argumentAt_3 (by decide) ?_
      refine lv_isub hx hb d_Mod_argumentAt_4 ?_
      refine lv_aload_n hx hb d_Mod_argumentAt_5 rfl (lv_at hl 0 rfl) ?_
      refine S_getI (h := shM) (C := "MacroMillModel") (T := F_Mod) hx hb htt in_Mod hown hK hP 0 50 rfl rfl rfl (by decide) (htt _ k_2286) (fun _ h9 => h9) d_Mod_argumentAt_6 ?_
      refine lv_icmp_ge (tgt := 25) hx hb d_Mod_argumentAt_9 (by decide) (fun hc1 => ?_) (fun hc1 => ?_)
      · rw [if_pos hc1] at h
        refine lv_aload_n hx hb d_Mod_argumentAt_25 rfl (lv_at hl 0 rfl) ?_
        refine S_getR (h := shM) (C := "MacroMillModel") (T := F_Mod) hx hb htt in_Mod hown hK hP 0 51 rfl 21 rfl rfl (by decide) (htt _ k_2287) (fun _ h9 => h9) d_Mod_argumentAt_26 ?_
        refine lv_aload_n hx hb d_Mod_argumentAt_29 rfl (lv_at hl 0 rfl) ?_
        refine S_getI (h := shM) (C := "MacroMillModel") (T := F_Mod) hx hb htt in_Mod hown hK hP 0 50 rfl rfl rfl (by decide) (htt _ k_2286) (fun _ h9 => h9) d_Mod_argumentAt_30 ?_
        obtain ⟨hv2, h⟩ := chk h
        show W _ _ _ _ _ _ _ _ _ _ _ _ _ _ _ (F0 _ 33 _ _)
        refine S_iald (h := shM) (i := S.1 0 50) hx hb hK hP 20 rfl (okI_in hv2) d_Mod_argumentAt_33 ?_
        exact (ih.2) S (upd L 100 (S.2.1 20 (S.1 0 50 : Int32).toNatClampNeg)) M ls H locs h (lv_sub hl [0, 1, 2] rfl) hP hD hS
      · rw [if_neg hc1] at h
        refine lv_aload_n hx hb d_Mod_argumentAt_12 rfl (lv_at hl 0 rfl) ?_
        refine S_getR (h := shM) (C := "MacroMillModel") (T := F_Mod) hx hb htt in_Mod hown hK hP 0 51 rfl 21 rfl rfl (by decide) (htt _ k_2287) (fun _ h9 => h9) d_Mod_argumentAt_13 ?_
        refine lv_iload_n hx hb d_Mod_argumentAt_16 rfl (lv_at hl 1 rfl) ?_
        refine lv_iload_n hx hb d_Mod_argumentAt_17 rfl (lv_at hl 2 rfl) ?_
        show W _ _ _ _ _ _ _ _ _ _ _ _ _ _ _ (F0 _ 18 _ _)
        refine lv_iadd hx hb d_Mod_argumentAt_18 ?_
        refine lv_iconst (v := 1) hx hb d_Mod_argumentAt_19 (by decide) ?_
        refine lv_isub hx hb d_Mod_argumentAt_20 ?_
        obtain ⟨hv3, h⟩ := chk h
        refine S_iald (h := shM) (i := ((L 1) + (L 2)) - (1 : Int32)) hx hb hK hP 20 rfl (okI_in hv3) d_Mod_argumentAt_21 ?_
        refine lv_goto (tgt := 34) hx hb d_Mod_argumentAt_22 (by decide) ?_
        exact (ih.2) S (upd L 100 (S.2.1 20 (((L 1) + (L 2)) - (1 : Int32) : Int32).toNatClampNeg)) M ls H locs h (lv_sub hl [0, 1, 2] rfl) hP hD hS
    · intro S L M ls H locs h hl hP hD hS
      simp only [f_Mod_argumentAt] at h
      cases h
      exact kx_34 ls H locs hP hD hS
abbrev rm_t_Mod_argumentAt : Room := { frames := 0, cells := 0, slots := 0, locals := 0 }
theorem t_Mod_argumentAt (l : Launch) (g : gG) (sz : Nat) (ad : Nat → Nat) (S : sS) (v1 : Int32) (v2 : Int32) (k : Nat) (r : Int32) (S9 : sS) (h : f_Mod_argumentAt k 0 S (upd (upd (fun _ => 0) 1 v1) 2 v2) (fun _ => 0) = some (r, S9)) : Ci l y_Mod_argumentAt b_Mod_argumentAt 3 rm_t_Mod_argumentAt g [.ref (ad 0), .int v1, .int v2] (Sw shM g ad S) sz (fun r1 w => ∃ S1 : sS, w = Sw shM g ad S1 ∧ r1 = r ∧ S1 = S9) := by
  refine startI (by decide) (Nat.le_of_ble_eq_true rfl) ?_
  intro p e s m below meth c A ls hx hb hr hml hlocks hmn hown htt hN hA hP hK hD hS hl
  exact (w_Mod_argumentAt hx hb hml hown htt hK hN hA r S9 (fun ls H locs hP hD hS => fin_i (g := g) (ws := Sw shM g ad S9) hx hb hr hlocks (by decide +kernel) (by decide +kernel) hP hD hS ⟨_, rfl, rfl, rfl⟩ d_Mod_argumentAt_34) k).1 S (upd (upd (fun _ => 0) 1 v1) 2 v2) (fun _ => 0) ls _ _ h hl hP hD hS
def f_Mod_argumentSize : Nat → Nat → sS → (Nat → Int32) → (Nat → Int64) → Option (Int32 × sS)
  | 0, _, _, _, _ => none
  | k + 1, 0, S, L, M => if (S.1 0 50) ≤ (((L 1) + (L 2)) - (1 : Int32)) then (f_Mod_argumentSize k 1 S (upd L 100 (0 : Int32)) M) else (if okI ((L 1) + (L 2)) 8300 = true then (if okI (((L 1) + (L 2)) - (1 : Int32)) 8300 = true then (f_Mod_argumentSize k 1 S (upd L 100 ((S.2.1 20 ((L 1) + (L 2) : Int32).toNatClampNeg) - (S.2.1 20 (((L 1) + (L 2)) - (1 : Int32) : Int32).toNatClampNeg))) M) else none) else none)
  | k + 1, 1, S, L, M => some (L 100, S)
  | _ + 1, _ + 2, _, _, _ => none
set_option maxHeartbeats 8000000 in
set_option maxRecDepth 100000 in
theorem w_Mod_argumentSize {p : Program} {l : Launch} {e : Env} {R : Room} {s : State} {m : MethodId} {args : Array Value} {below : List Frame} {meth : Method} {c : Code} {cells slots : Nat} {Q : State → Prop} {g : gG} {A : Nat → Prop} {ad : Nat → Nat} (hx : p.tables.exec = Jvm.exec) (hb : c.code = b_Mod_argumentSize) (hml : c.maxLocals = 3) (hown : s.vm.findClass "MacroMillModel" = some m.cls) (htt : ∀ w ∈ gt, w.before args s = true) (hK : va_K g.1 classes (tysG g) s) (hN : nw s) (hA : ∀ q : Nat, s.heap.size ≤ q → A q) (r : Int32) (S9 : sS)
    (kx_35 : ∀ (ls : Array Slot) (H : Heap) (locs : List Loc), va_P g.1 classes (Sw shM g ad S9) H → va_D A (Sw shM g ad S9) → va_S A s.heap H locs → W p l e R s m args below meth c H locs cells slots Q (F0 m 35 ls [.int r])) :
    ∀ k9 : Nat, (∀ (S : sS) (L : Nat → Int32) (M : Nat → Int64) (ls : Array Slot) (H : Heap) (locs : List Loc), f_Mod_argumentSize k9 0 S L M = some (r, S9) → lv_has ls 3 [(0, .ref (ad 0)), (1, .int (L 1)), (2, .int (L 2))] → va_P g.1 classes (Sw shM g ad S) H → va_D A (Sw shM g ad S) → va_S A s.heap H locs → W p l e R s m args below meth c H locs cells slots Q (F0 m 0 ls [])) ∧ (∀ (S : sS) (L : Nat → Int32) (M : Nat → Int64) (ls : Array Slot) (H : Heap) (locs : List Loc), f_Mod_argumentSize k9 1 S L M = some (r, S9) → lv_has ls 3 [(0, .ref (ad 0)), (1, .int (L 1)), (2, .int (L 2))] → va_P g.1 classes (Sw shM g ad S) H → va_D A (Sw shM g ad S) → va_S A s.heap H locs → W p l e R s m args below meth c H locs cells slots Q (F0 m 35 ls [.int (L 100)])) := by
  intro k9
  induction k9 with
  | zero => exact ⟨(fun _ _ _ _ _ _ h => by simp [f_Mod_argumentSize] at h), (fun _ _ _ _ _ _ h => by simp [f_Mod_argumentSize] at h)⟩
  | succ k9 ih =>
    refine ⟨?_, ?_⟩
    · intro S L M ls H locs h hl hP hD hS
      simp only [f_Mod_argumentSize] at h
      refine lv_iload_n hx hb d_Mod_argumentSize_0 rfl (lv_at hl 1 rfl) ?_
      refine lv_iload_n hx hb d_Mod_argumentSize_1 rfl (lv_at hl 2 rfl) ?_
      refine lv_iadd hx hb d_Mod_argumentSize_2 ?_
      refine lv_iconst (v := 1) hx hb d_Mod_argumentSize_3 (by decide) ?_
      refine lv_isub hx hb d_Mod_argumentSize_4 ?_
      refine lv_aload_n hx hb d_Mod_argumentSize_5 rfl (lv_at hl 0 rfl) ?_
      refine S_getI (h := shM) (C := "MacroMillModel") (T := F_Mod) hx hb htt in_Mod hown hK hP 0 50 rfl rfl rfl (by decide) (htt _ k_2286) (fun _ h9 => h9) d_Mod_argumentSize_6 ?_
      refine lv_icmp_ge (tgt := 34) hx hb d_Mod_argumentSize_9 (by decide) (fun hc1 => ?_) (fun hc1 => ?_)
      · rw [if_pos hc1] at h
        refine lv_iconst (v := 0) hx hb d_Mod_argumentSize_34 (by decide) ?_
        exact (ih.2) S (upd L 100 (0 : Int32)) M ls H locs h (lv_sub hl [0, 1, 2] rfl) hP hD hS
      · rw [if_neg hc1] at h
        refine lv_aload_n hx hb d_Mod_argumentSize_12 rfl (lv_at hl 0 rfl) ?_
        refine S_getR (h := shM) (C := "MacroMillModel") (T := F_Mod) hx hb htt in_Mod hown hK hP 0 51 rfl 21 rfl rfl (by decide) (htt _ k_2287) (fun _ h9 => h9) d_Mod_argumentSize_13 ?_
        refine lv_iload_n hx hb d_Mod_argumentSize_16 rfl (lv_at hl 1 rfl) ?_
        refine lv_iload_n hx hb d_Mod_argumentSize_17 rfl (lv_at hl 2 rfl) ?_
        show W _ _ _ _ _ _ _ _ _ _ _ _ _ _ _ (F0 _ 18 _ _)
        refine lv_iadd hx hb d_Mod_argumentSize_18 ?_
        obtain ⟨hv2, h⟩ := chk h
        refine S_iald (h := shM) (i := (L 1) + (L 2)) hx hb hK hP 20 rfl (okI_in hv2) d_Mod_argumentSize_19 ?_
        refine lv_aload_n hx hb d_Mod_argumentSize_20 rfl (lv_at hl 0 rfl) ?_
        refine S_getR (h := shM) (C := "MacroMillModel") (T := F_Mod) hx hb htt in_Mod hown hK hP 0 51 rfl 21 rfl rfl (by decide) (htt _ k_2287) (fun _ h9 => h9) d_Mod_argumentSize_21 ?_
        refine lv_iload_n hx hb d_Mod_argumentSize_24 rfl (lv_at hl 1 rfl) ?_
        refine lv_iload_n hx hb d_Mod_argumentSize_25 rfl (lv_at hl 2 rfl) ?_
        refine lv_iadd hx hb d_Mod_argumentSize_26 ?_
        refine lv_iconst (v := 1) hx hb d_Mod_argumentSize_27 (by decide) ?_
        refine lv_isub hx hb d_Mod_argumentSize_28 ?_
        obtain ⟨hv3, h⟩ := chk h
        refine S_iald (h := shM) (i := ((L 1) + (L 2)) - (1 : Int32)) hx hb hK hP 20 rfl (okI_in hv3) d_Mod_argumentSize_29 ?_
        refine lv_isub hx hb d_Mod_argumentSize_30 ?_
        refine lv_goto (tgt := 35) hx hb d_Mod_argumentSize_31 (by decide) ?_
        exact (ih.2) S (upd L 100 ((S.2.1 20 ((L 1) + (L 2) : Int32).toNatClampNeg) - (S.2.1 20 (((L 1) + (L 2)) - (1 : Int32) : Int32).toNatClampNeg))) M ls H locs h (lv_sub hl [0, 1, 2] rfl) hP hD hS
    · intro S L M ls H locs h hl hP hD hS
      simp only [f_Mod_argumentSize] at h
      cases h
      exact kx_35 ls H locs hP hD hS
abbrev rm_t_Mod_argumentSize : Room := { frames := 0, cells := 0, slots := 0, locals := 0 }
theorem t_Mod_argumentSize (l : Launch) (g : gG) (sz : Nat) (ad : Nat → Nat) (S : sS) (v1 : Int32) (v2 : Int32) (k : Nat) (r : Int32) (S9 : sS) (h : f_Mod_argumentSize k 0 S (upd (upd (fun _ => 0) 1 v1) 2 v2) (fun _ => 0) = some (r, S9)) : Ci l y_Mod_argumentSize b_Mod_argumentSize 3 rm_t_Mod_argumentSize g [.ref (ad 0), .int v1, .int v2] (Sw shM g ad S) sz (fun r1 w => ∃ S1 : sS, w = Sw shM g ad S1 ∧ r1 = r ∧ S1 = S9) := by
  refine startI (by decide) (Nat.le_of_ble_eq_true rfl) ?_
  intro p e s m below meth c A ls hx hb hr hml hlocks hmn hown htt hN hA hP hK hD hS hl
  exact (w_Mod_argumentSize hx hb hml hown htt hK hN hA r S9 (fun ls H locs hP hD hS => fin_i (g := g) (ws := Sw shM g ad S9) hx hb hr hlocks (by decide +kernel) (by decide +kernel) hP hD hS ⟨_, rfl, rfl, rfl⟩ d_Mod_argumentSize_35) k).1 S (upd (upd (fun _ => 0) 1 v1) 2 v2) (fun _ => 0) ls _ _ h hl hP hD hS
def f_Mod_giveArgument : Nat → Nat → sS → (Nat → Int32) → (Nat → Int64) → Option (Int32 × sS)
  | 0, _, _, _, _ => none
  | k + 1, 0, S, L, M => (f_Mod_argumentAt k 0 S (upd (upd (fun _ => 0) 1 (L 1 : Int32)) 2 (L 2 : Int32)) (fun _ => 0)).bind (fun (r1, T1) => f_Mod_giveArgument k 1 T1 (upd (upd L 3 r1) 4 (0 : Int32)) M)
  | k + 1, 1, S, L, M => (f_Mod_argumentSize k 0 S (upd (upd (fun _ => 0) 1 (L 1 : Int32)) 2 (L 2 : Int32)) (fun _ => 0)).bind (fun (r1, T1) => if r1 ≤ (L 4) then (some ((0 : Int32), T1)) else (if okI ((L 3) + (L 4)) 16385 = true then ((f_Mod_give k 0 T1 (upd (fun _ => 0) 1 (T1.2.1 19 ((L 3) + (L 4) : Int32).toNatClampNeg : Int32)) (fun _ => 0)).bind (fun (r4, T4) => f_Mod_giveArgument k 1 T4 (upd L 4 ((L 4) + 1)) M)) else none))
  | _ + 1, _ + 2, _, _, _ => none
set_option maxHeartbeats 8000000 in
set_option maxRecDepth 100000 in
theorem w_Mod_giveArgument {p : Program} {l : Launch} {e : Env} {R : Room} {s : State} {m : MethodId} {args : Array Value} {below : List Frame} {meth : Method} {c : Code} {cells slots : Nat} {Q : State → Prop} {g : gG} {A : Nat → Prop} {ad : Nat → Nat} (hx : p.tables.exec = Jvm.exec) (hb : c.code = b_Mod_giveArgument) (hml : c.maxLocals = 5) (hown : s.vm.findClass "MacroMillModel" = some m.cls) (htt : ∀ w ∈ gt, w.before args s = true) (hK : va_K g.1 classes (tysG g) s) (hN : nw s) (hA : ∀ q : Nat, s.heap.size ≤ q → A q) (hRf : 3 ≤ R.frames) (hRl : 65 ≤ R.locals) (hRc : cells ≤ R.cells) (hRs : slots ≤ R.slots) (r : Int32) (S9 : sS)
    (kx_40 : ∀ (ls : Array Slot) (H : Heap) (locs : List Loc), va_P g.1 classes (Sw shM g ad S9) H → va_D A (Sw shM g ad S9) → va_S A s.heap H locs → W p l e R s m args below meth c H locs cells slots Q (F0 m 40 ls [])) :
    ∀ k9 : Nat, (∀ (S : sS) (L : Nat → Int32) (M : Nat → Int64) (ls : Array Slot) (H : Heap) (locs : List Loc), f_Mod_giveArgument k9 0 S L M = some (r, S9) → lv_has ls 5 [(0, .ref (ad 0)), (1, .int (L 1)), (2, .int (L 2))] → va_P g.1 classes (Sw shM g ad S) H → va_D A (Sw shM g ad S) → va_S A s.heap H locs → W p l e R s m args below meth c H locs cells slots Q (F0 m 0 ls [])) ∧ (∀ (S : sS) (L : Nat → Int32) (M : Nat → Int64) (ls : Array Slot) (H : Heap) (locs : List Loc), f_Mod_giveArgument k9 1 S L M = some (r, S9) → lv_has ls 5 [(0, .ref (ad 0)), (1, .int (L 1)), (2, .int (L 2)), (3, .int (L 3)), (4, .int (L 4))] → va_P g.1 classes (Sw shM g ad S) H → va_D A (Sw shM g ad S) → va_S A s.heap H locs → W p l e R s m args below meth c H locs cells slots Q (F0 m 10 ls [])) := by
  intro k9
  induction k9 with
  | zero => exact ⟨(fun _ _ _ _ _ _ h => by simp [f_Mod_giveArgument] at h), (fun _ _ _ _ _ _ h => by simp [f_Mod_giveArgument] at h)⟩
  | succ k9 ih =>
    refine ⟨?_, ?_⟩
    · intro S L M ls H locs h hl hP hD hS
      simp only [f_Mod_giveArgument] at h
      refine lv_aload_n hx hb d_Mod_giveArgument_0 rfl (lv_at hl 0 rfl) ?_
      refine lv_iload_n hx hb d_Mod_giveArgument_1 rfl (lv_at hl 1 rfl) ?_
      refine lv_iload_n hx hb d_Mod_giveArgument_2 rfl (lv_at hl 2 rfl) ?_
      obtain ⟨⟨r1, T1⟩, hq1, h⟩ := Option.bind_eq_some_iff.mp h
      try dsimp only at h
      refine go_iS (As := [.ref (ad 0), .int (L 1), .int (L 2)]) (g := g) (A := A) (h := shM) hP hK hD hS hA hN (fun hp => va_runV (As := [.int (L 1), .int (L 2)]) (rest := []) ⟨hx, hb, hml, hown, htt⟩ (t_Mod_argumentAt l g _ ad S (L 1 : Int32) (L 2 : Int32) k9 r1 T1 hq1) ⟨(cb_L htt k_2836 k_276 k_2833 hd_Mod_argumentAt ⟨(Nat.le_trans (by decide +kernel) hRf), (Nat.le_trans (by decide +kernel) hRl)⟩), htt _ k_2835, htt _ k_153⟩ ⟨hp.1, S_recv hK hP 0 rfl rfl, hp.2⟩ rfl rfl hl.1 rfl (lv_room (Nat.le_of_ble_eq_true rfl)) d_Mod_giveArgument_3 ⟨hRc, hRs⟩) (fun r0 Sn H locs hw9 hP hD hS => ?_)
      obtain ⟨e9, e8⟩ := hw9
      rw [e8] at hP hD
      refine W.widen (k := cells) (n := slots) (Nat.le_refl _) (Nat.le_refl _) ?_
      refine toI (y := r1) e9 ?_
      refine lv_istore_n (lv' := [(3, .int r1), (0, .ref (ad 0)), (1, .int (L 1)), (2, .int (L 2))]) hx hb d_Mod_giveArgument_6 rfl hl (by decide) rfl (fun ls hl => ?_)
      refine lv_iconst (v := 0) hx hb d_Mod_giveArgument_7 (by decide) ?_
      refine lv_istore (lv' := [(4, .int 0), (3, .int r1), (0, .ref (ad 0)), (1, .int (L 1)), (2, .int (L 2))]) hx hb d_Mod_giveArgument_8 hl (by decide) rfl (fun ls hl => ?_)
      exact (ih.2) T1 (upd (upd L 3 r1) 4 (0 : Int32)) M ls H locs h (lv_sub hl [2, 3, 4, 1, 0] rfl) hP hD hS
    · intro S L M ls H locs h hl hP hD hS
      simp only [f_Mod_giveArgument] at h
      refine lv_iload hx hb d_Mod_giveArgument_10 (lv_at hl 4 rfl) ?_
      refine lv_aload_n hx hb d_Mod_giveArgument_12 rfl (lv_at hl 0 rfl) ?_
      refine lv_iload_n hx hb d_Mod_giveArgument_13 rfl (lv_at hl 1 rfl) ?_
      refine lv_iload_n hx hb d_Mod_giveArgument_14 rfl (lv_at hl 2 rfl) ?_
      obtain ⟨⟨r1, T1⟩, hq1, h⟩ := Option.bind_eq_some_iff.mp h
      try dsimp only at h
      refine go_iS (As := [.ref (ad 0), .int (L 1), .int (L 2)]) (g := g) (A := A) (h := shM) hP hK hD hS hA hN (fun hp => va_runV (As := [.int (L 1), .int (L 2)]) (rest := [.int (L 4)]) ⟨hx, hb, hml, hown, htt⟩ (t_Mod_argumentSize l g _ ad S (L 1 : Int32) (L 2 : Int32) k9 r1 T1 hq1) ⟨(cb_L htt k_2840 k_276 k_2837 hd_Mod_argumentSize ⟨(Nat.le_trans (by decide +kernel) hRf), (Nat.le_trans (by decide +kernel) hRl)⟩), htt _ k_2839, htt _ k_154⟩ ⟨hp.1, S_recv hK hP 0 rfl rfl, hp.2⟩ rfl rfl hl.1 rfl (lv_room (Nat.le_of_ble_eq_true rfl)) d_Mod_giveArgument_15 ⟨hRc, hRs⟩) (fun r0 Sn H locs hw9 hP hD hS => ?_)
      obtain ⟨e9, e8⟩ := hw9
      rw [e8] at hP hD
      refine W.widen (k := cells) (n := slots) (Nat.le_refl _) (Nat.le_refl _) ?_
      refine toI (y := r1) e9 ?_
      refine lv_icmp_ge (tgt := 40) hx hb d_Mod_giveArgument_18 (by decide) (fun hc2 => ?_) (fun hc2 => ?_)
      · rw [if_pos hc2] at h
        cases h
        exact kx_40 ls H locs hP hD hS
      · rw [if_neg hc2] at h
        refine lv_aload_n hx hb d_Mod_giveArgument_21 rfl (lv_at hl 0 rfl) ?_
        refine lv_aload_n hx hb d_Mod_giveArgument_22 rfl (lv_at hl 0 rfl) ?_
        refine S_getR (h := shM) (C := "MacroMillModel") (T := F_Mod) hx hb htt in_Mod hown hK hP 0 48 rfl 20 rfl rfl (by decide) (htt _ k_2284) (fun _ h9 => h9) d_Mod_giveArgument_23 ?_
        refine lv_iload_n hx hb d_Mod_giveArgument_26 rfl (lv_at hl 3 rfl) ?_
        refine lv_iload hx hb d_Mod_giveArgument_27 (lv_at hl 4 rfl) ?_
        refine lv_iadd hx hb d_Mod_giveArgument_29 ?_
        obtain ⟨hv3, h⟩ := chk h
        refine S_bald (h := shM) (i := (L 3) + (L 4)) hx hb hK hP 19 rfl (okI_in hv3) d_Mod_giveArgument_30 ?_
        obtain ⟨⟨r4, T4⟩, hq4, h⟩ := Option.bind_eq_some_iff.mp h
        try dsimp only at h
        refine go_vS (As := [.ref (ad 0), .int (T1.2.1 19 ((L 3) + (L 4) : Int32).toNatClampNeg)]) (g := g) (A := A) (h := shM) hP hK hD hS hA hN (fun hp => va_runV (As := [.int (T1.2.1 19 ((L 3) + (L 4) : Int32).toNatClampNeg)]) (rest := []) ⟨hx, hb, hml, hown, htt⟩ (t_Mod_give l g _ ad T1 (T1.2.1 19 ((L 3) + (L 4) : Int32).toNatClampNeg : Int32) k9 r4 T4 hq4) ⟨(cb_L htt k_2824 k_276 k_2821 hd_Mod_give ⟨(Nat.le_trans (by decide +kernel) hRf), (Nat.le_trans (by decide +kernel) hRl)⟩), htt _ k_2823, htt _ k_150⟩ ⟨hp.1, S_recv hK hP 0 rfl rfl, hp.2⟩ rfl rfl hl.1 rfl (lv_room (Nat.le_of_ble_eq_true rfl)) d_Mod_giveArgument_31 ⟨hRc, hRs⟩) (fun Sn H locs hw9 hP hD hS => ?_)
        have e8 := hw9
        rw [e8] at hP hD
        refine W.widen (k := cells) (n := slots) (Nat.le_refl _) (Nat.le_refl _) ?_
        show W _ _ _ _ _ _ _ _ _ _ _ _ _ _ _ (F0 _ 34 _ _)
        refine lv_iinc (k := 4) (v := (L 4) + 1) (lv' := [(4, .int ((L 4) + 1)), (0, .ref (ad 0)), (1, .int (L 1)), (2, .int (L 2)), (3, .int (L 3))]) hx hb d_Mod_giveArgument_34 hl rfl rfl (by decide) rfl (fun ls hl => ?_)
        refine lv_goto (tgt := 10) hx hb d_Mod_giveArgument_37 (by decide) ?_
        exact (ih.2) T4 (upd L 4 ((L 4) + 1)) M ls H locs h (lv_sub hl [1, 2, 3, 4, 0] rfl) hP hD hS
abbrev rm_t_Mod_giveArgument : Room := { frames := 3, cells := 0, slots := 0, locals := 65 }
theorem t_Mod_giveArgument (l : Launch) (g : gG) (sz : Nat) (ad : Nat → Nat) (S : sS) (v1 : Int32) (v2 : Int32) (k : Nat) (r : Int32) (S9 : sS) (h : f_Mod_giveArgument k 0 S (upd (upd (fun _ => 0) 1 v1) 2 v2) (fun _ => 0) = some (r, S9)) : Cv l y_Mod_giveArgument b_Mod_giveArgument 5 rm_t_Mod_giveArgument g [.ref (ad 0), .int v1, .int v2] (Sw shM g ad S) sz (fun w => ∃ S1 : sS, w = Sw shM g ad S1 ∧ S1 = S9) := by
  refine startV (by decide) (Nat.le_of_ble_eq_true rfl) ?_
  intro p e s m below meth c A ls hx hb hr hml hlocks hmn hown htt hN hA hP hK hD hS hl
  exact (w_Mod_giveArgument hx hb hml hown htt hK hN hA (by decide +kernel) (by decide +kernel) (by decide +kernel) (by decide +kernel) r S9 (fun ls H locs hP hD hS => fin_v (g := g) (ws := Sw shM g ad S9) hx hb hr hlocks (by decide +kernel) (by decide +kernel) hP hD hS ⟨_, rfl, rfl⟩ d_Mod_giveArgument_40) k).1 S (upd (upd (fun _ => 0) 1 v1) 2 v2) (fun _ => 0) ls _ _ h hl hP hD hS
def f_Mod_giveQuotedArgument : Nat → Nat → sS → (Nat → Int32) → (Nat → Int64) → Option (Int32 × sS)
  | 0, _, _, _, _ => none
  | k + 1, 0, S, L, M => f_Mod_giveQuotedArgument k 1 S (upd L 3 (0 : Int32)) M
  | k + 1, 1, S, L, M => if (S.1 0 26) ≤ (L 3) then ((f_Mod_giveArgument k 0 S (upd (upd (fun _ => 0) 1 (L 1 : Int32)) 2 (L 2 : Int32)) (fun _ => 0)).bind (fun (r2, T2) => f_Mod_giveQuotedArgument k 2 T2 (upd L 3 (0 : Int32)) M)) else (if okI (L 3) 4 = true then ((f_Mod_give k 0 S (upd (fun _ => 0) 1 (S.2.1 8 (L 3 : Int32).toNatClampNeg : Int32)) (fun _ => 0)).bind (fun (r4, T4) => f_Mod_giveQuotedArgument k 1 T4 (upd L 3 ((L 3) + 1)) M)) else none)
  | k + 1, 2, S, L, M => if (S.1 0 28) ≤ (L 3) then (some ((0 : Int32), S)) else (if okI (L 3) 4 = true then ((f_Mod_give k 0 S (upd (fun _ => 0) 1 (S.2.1 9 (L 3 : Int32).toNatClampNeg : Int32)) (fun _ => 0)).bind (fun (r3, T3) => f_Mod_giveQuotedArgument k 2 T3 (upd L 3 ((L 3) + 1)) M)) else none)
  | _ + 1, _ + 3, _, _, _ => none
set_option maxHeartbeats 8000000 in
set_option maxRecDepth 100000 in
theorem w_Mod_giveQuotedArgument {p : Program} {l : Launch} {e : Env} {R : Room} {s : State} {m : MethodId} {args : Array Value} {below : List Frame} {meth : Method} {c : Code} {cells slots : Nat} {Q : State → Prop} {g : gG} {A : Nat → Prop} {ad : Nat → Nat} (hx : p.tables.exec = Jvm.exec) (hb : c.code = b_Mod_giveQuotedArgument) (hml : c.maxLocals = 4) (hown : s.vm.findClass "MacroMillModel" = some m.cls) (htt : ∀ w ∈ gt, w.before args s = true) (hK : va_K g.1 classes (tysG g) s) (hN : nw s) (hA : ∀ q : Nat, s.heap.size ≤ q → A q) (hRf : 4 ≤ R.frames) (hRl : 89 ≤ R.locals) (hRc : cells ≤ R.cells) (hRs : slots ≤ R.slots) (r : Int32) (S9 : sS)
    (kx_58 : ∀ (ls : Array Slot) (H : Heap) (locs : List Loc), va_P g.1 classes (Sw shM g ad S9) H → va_D A (Sw shM g ad S9) → va_S A s.heap H locs → W p l e R s m args below meth c H locs cells slots Q (F0 m 58 ls [])) :
    ∀ k9 : Nat, (∀ (S : sS) (L : Nat → Int32) (M : Nat → Int64) (ls : Array Slot) (H : Heap) (locs : List Loc), f_Mod_giveQuotedArgument k9 0 S L M = some (r, S9) → lv_has ls 4 [(0, .ref (ad 0)), (1, .int (L 1)), (2, .int (L 2))] → va_P g.1 classes (Sw shM g ad S) H → va_D A (Sw shM g ad S) → va_S A s.heap H locs → W p l e R s m args below meth c H locs cells slots Q (F0 m 0 ls [])) ∧ (∀ (S : sS) (L : Nat → Int32) (M : Nat → Int64) (ls : Array Slot) (H : Heap) (locs : List Loc), f_Mod_giveQuotedArgument k9 1 S L M = some (r, S9) → lv_has ls 4 [(0, .ref (ad 0)), (1, .int (L 1)), (2, .int (L 2)), (3, .int (L 3))] → va_P g.1 classes (Sw shM g ad S) H → va_D A (Sw shM g ad S) → va_S A s.heap H locs → W p l e R s m args below meth c H locs cells slots Q (F0 m 2 ls [])) ∧ (∀ (S : sS) (L : Nat → Int32) (M : Nat → Int64) (ls : Array Slot) (H : Heap) (locs : List Loc), f_Mod_giveQuotedArgument k9 2 S L M = some (r, S9) → lv_has ls 4 [(0, .ref (ad 0)), (1, .int (L 1)), (2, .int (L 2)), (3, .int (L 3))] → va_P g.1 classes (Sw shM g ad S) H → va_D A (Sw shM g ad S) → va_S A s.heap H locs → W p l e R s m args below meth c H locs cells slots Q (F0 m 34 ls [])) := by
  intro k9
  induction k9 with
  | zero => exact ⟨(fun _ _ _ _ _ _ h => by simp [f_Mod_giveQuotedArgument] at h), (fun _ _ _ _ _ _ h => by simp [f_Mod_giveQuotedArgument] at h), (fun _ _ _ _ _ _ h => by simp [f_Mod_giveQuotedArgument] at h)⟩
  | succ k9 ih =>
    refine ⟨?_, ?_, ?_⟩
    · intro S L M ls H locs h hl hP hD hS
      simp only [f_Mod_giveQuotedArgument] at h
      refine lv_iconst (v := 0) hx hb d_Mod_giveQuotedArgument_0 (by decide) ?_
      refine lv_istore_n (lv' := [(3, .int 0), (0, .ref (ad 0)), (1, .int (L 1)), (2, .int (L 2))]) hx hb d_Mod_giveQuotedArgument_1 rfl hl (by decide) rfl (fun ls hl => ?_)
      exact (ih.2.1) S (upd L 3 (0 : Int32)) M ls H locs h (lv_sub hl [1, 2, 3, 0] rfl) hP hD hS
    · intro S L M ls H locs h hl hP hD hS
      simp only [f_Mod_giveQuotedArgument] at h
      refine lv_iload_n hx hb d_Mod_giveQuotedArgument_2 rfl (lv_at hl 3 rfl) ?_
      refine lv_aload_n hx hb d_Mod_giveQuotedArgument_3 rfl (lv_at hl 0 rfl) ?_
      refine S_getI (h := shM) (C := "MacroMillModel") (T := F_Mod) hx hb htt in_Mod hown hK hP 0 26 rfl rfl rfl (by decide) (htt _ k_2262) (fun _ h9 => h9) d_Mod_giveQuotedArgument_4 ?_
      refine lv_icmp_ge (tgt := 26) hx hb d_Mod_giveQuotedArgument_7 (by decide) (fun hc1 => ?_) (fun hc1 => ?_)
      · rw [if_pos hc1] at h
        refine lv_aload_n hx hb d_Mod_giveQuotedArgument_26 rfl (lv_at hl 0 rfl) ?_
        refine lv_iload_n hx hb d_Mod_giveQuotedArgument_27 rfl (lv_at hl 1 rfl) ?_
        refine lv_iload_n hx hb d_Mod_giveQuotedArgument_28 rfl (lv_at hl 2 rfl) ?_
        obtain ⟨⟨r2, T2⟩, hq2, h⟩ := Option.bind_eq_some_iff.mp h
        try dsimp only at h
        refine go_vS (As := [.ref (ad 0), .int (L 1), .int (L 2)]) (g := g) (A := A) (h := shM) hP hK hD hS hA hN (fun hp => va_runV (As := [.int (L 1), .int (L 2)]) (rest := []) ⟨hx, hb, hml, hown, htt⟩ (t_Mod_giveArgument l g _ ad S (L 1 : Int32) (L 2 : Int32) k9 r2 T2 hq2) ⟨(cb_L htt k_2832 k_276 k_2829 hd_Mod_giveArgument ⟨(Nat.le_trans (by decide +kernel) hRf), (Nat.le_trans (by decide +kernel) hRl)⟩), htt _ k_2831, htt _ k_152⟩ ⟨hp.1, S_recv hK hP 0 rfl rfl, hp.2⟩ rfl rfl hl.1 rfl (lv_room (Nat.le_of_ble_eq_true rfl)) d_Mod_giveQuotedArgument_29 ⟨hRc, hRs⟩) (fun Sn H locs hw9 hP hD hS => ?_)
        have e8 := hw9
        rw [e8] at hP hD
        refine W.widen (k := cells) (n := slots) (Nat.le_refl _) (Nat.le_refl _) ?_
        refine lv_iconst (v := 0) hx hb d_Mod_giveQuotedArgument_32 (by decide) ?_
        refine lv_istore_n (lv' := [(3, .int 0), (0, .ref (ad 0)), (1, .int (L 1)), (2, .int (L 2))]) hx hb d_Mod_giveQuotedArgument_33 rfl hl (by decide) rfl (fun ls hl => ?_)
        exact (ih.2.2) T2 (upd L 3 (0 : Int32)) M ls H locs h (lv_sub hl [1, 2, 3, 0] rfl) hP hD hS
      · rw [if_neg hc1] at h
        refine lv_aload_n hx hb d_Mod_giveQuotedArgument_10 rfl (lv_at hl 0 rfl) ?_
        refine lv_aload_n hx hb d_Mod_giveQuotedArgument_11 rfl (lv_at hl 0 rfl) ?_
        refine S_getR (h := shM) (C := "MacroMillModel") (T := F_Mod) hx hb htt in_Mod hown hK hP 0 25 rfl 9 rfl rfl (by decide) (htt _ k_2261) (fun _ h9 => h9) d_Mod_giveQuotedArgument_12 ?_
        refine lv_iload_n hx hb d_Mod_giveQuotedArgument_15 rfl (lv_at hl 3 rfl) ?_
        obtain ⟨hv3, h⟩ := chk h
        refine S_iald (h := shM) (i := L 3) hx hb hK hP 8 rfl (okI_in hv3) d_Mod_giveQuotedArgument_16 ?_
        obtain ⟨⟨r4, T4⟩, hq4, h⟩ := Option.bind_eq_some_iff.mp h
        try dsimp only at h
        refine go_vS (As := [.ref (ad 0), .int (S.2.1 8 (L 3 : Int32).toNatClampNeg)]) (g := g) (A := A) (h := shM) hP hK hD hS hA hN (fun hp => va_runV (As := [.int (S.2.1 8 (L 3 : Int32).toNatClampNeg)]) (rest := []) ⟨hx, hb, hml, hown, htt⟩ (t_Mod_give l g _ ad S (S.2.1 8 (L 3 : Int32).toNatClampNeg : Int32) k9 r4 T4 hq4) ⟨(cb_L htt k_2824 k_276 k_2821 hd_Mod_give ⟨(Nat.le_trans (by decide +kernel) hRf), (Nat.le_trans (by decide +kernel) hRl)⟩), htt _ k_2823, htt _ k_150⟩ ⟨hp.1, S_recv hK hP 0 rfl rfl, hp.2⟩ rfl rfl hl.1 rfl (lv_room (Nat.le_of_ble_eq_true rfl)) d_Mod_giveQuotedArgument_17 ⟨hRc, hRs⟩) (fun Sn H locs hw9 hP hD hS => ?_)
        have e8 := hw9
        rw [e8] at hP hD
        refine W.widen (k := cells) (n := slots) (Nat.le_refl _) (Nat.le_refl _) ?_
        refine lv_iinc (k := 3) (v := (L 3) + 1) (lv' := [(3, .int ((L 3) + 1)), (0, .ref (ad 0)), (1, .int (L 1)), (2, .int (L 2))]) hx hb d_Mod_giveQuotedArgument_20 hl rfl rfl (by decide) rfl (fun ls hl => ?_)
        refine lv_goto (tgt := 2) hx hb d_Mod_giveQuotedArgument_23 (by decide) ?_
        exact (ih.2.1) T4 (upd L 3 ((L 3) + 1)) M ls H locs h (lv_sub hl [1, 2, 3, 0] rfl) hP hD hS
    · intro S L M ls H locs h hl hP hD hS
      simp only [f_Mod_giveQuotedArgument] at h
      refine lv_iload_n hx hb d_Mod_giveQuotedArgument_34 rfl (lv_at hl 3 rfl) ?_
      refine lv_aload_n hx hb d_Mod_giveQuotedArgument_35 rfl (lv_at hl 0 rfl) ?_
      refine S_getI (h := shM) (C := "MacroMillModel") (T := F_Mod) hx hb htt in_Mod hown hK hP 0 28 rfl rfl rfl (by decide) (htt _ k_2264) (fun _ h9 => h9) d_Mod_giveQuotedArgument_36 ?_
      refine lv_icmp_ge (tgt := 58) hx hb d_Mod_giveQuotedArgument_39 (by decide) (fun hc1 => ?_) (fun hc1 => ?_)
      · rw [if_pos hc1] at h
        cases h
        exact kx_58 ls H locs hP hD hS
      · rw [if_neg hc1] at h
        refine lv_aload_n hx hb d_Mod_giveQuotedArgument_42 rfl (lv_at hl 0 rfl) ?_
        refine lv_aload_n hx hb d_Mod_giveQuotedArgument_43 rfl (lv_at hl 0 rfl) ?_
        refine S_getR (h := shM) (C := "MacroMillModel") (T := F_Mod) hx hb htt in_Mod hown hK hP 0 27 rfl 10 rfl rfl (by decide) (htt _ k_2263) (fun _ h9 => h9) d_Mod_giveQuotedArgument_44 ?_
        refine lv_iload_n hx hb d_Mod_giveQuotedArgument_47 rfl (lv_at hl 3 rfl) ?_
        obtain ⟨hv2, h⟩ := chk h
        refine S_iald (h := shM) (i := L 3) hx hb hK hP 9 rfl (okI_in hv2) d_Mod_giveQuotedArgument_48 ?_
        obtain ⟨⟨r3, T3⟩, hq3, h⟩ := Option.bind_eq_some_iff.mp h
        try dsimp only at h
        refine go_vS (As := [.ref (ad 0), .int (S.2.1 9 (L 3 : Int32).toNatClampNeg)]) (g := g) (A := A) (h := shM) hP hK hD hS hA hN (fun hp => va_runV (As := [.int (S.2.1 9 (L 3 : Int32).toNatClampNeg)]) (rest := []) ⟨hx, hb, hml, hown, htt⟩ (t_Mod_give l g _ ad S (S.2.1 9 (L 3 : Int32).toNatClampNeg : Int32) k9 r3 T3 hq3) ⟨(cb_L htt k_2824 k_276 k_2821 hd_Mod_give ⟨(Nat.le_trans (by decide +kernel) hRf), (Nat.le_trans (by decide +kernel) hRl)⟩), htt _ k_2823, htt _ k_150⟩ ⟨hp.1, S_recv hK hP 0 rfl rfl, hp.2⟩ rfl rfl hl.1 rfl (lv_room (Nat.le_of_ble_eq_true rfl)) d_Mod_giveQuotedArgument_49 ⟨hRc, hRs⟩) (fun Sn H locs hw9 hP hD hS => ?_)
        have e8 := hw9
        rw [e8] at hP hD
        refine W.widen (k := cells) (n := slots) (Nat.le_refl _) (Nat.le_refl _) ?_
        refine lv_iinc (k := 3) (v := (L 3) + 1) (lv' := [(3, .int ((L 3) + 1)), (0, .ref (ad 0)), (1, .int (L 1)), (2, .int (L 2))]) hx hb d_Mod_giveQuotedArgument_52 hl rfl rfl (by decide) rfl (fun ls hl => ?_)
        refine lv_goto (tgt := 34) hx hb d_Mod_giveQuotedArgument_55 (by decide) ?_
        exact (ih.2.2) T3 (upd L 3 ((L 3) + 1)) M ls H locs h (lv_sub hl [1, 2, 3, 0] rfl) hP hD hS
abbrev rm_t_Mod_giveQuotedArgument : Room := { frames := 4, cells := 0, slots := 0, locals := 89 }
theorem t_Mod_giveQuotedArgument (l : Launch) (g : gG) (sz : Nat) (ad : Nat → Nat) (S : sS) (v1 : Int32) (v2 : Int32) (k : Nat) (r : Int32) (S9 : sS) (h : f_Mod_giveQuotedArgument k 0 S (upd (upd (fun _ => 0) 1 v1) 2 v2) (fun _ => 0) = some (r, S9)) : Cv l y_Mod_giveQuotedArgument b_Mod_giveQuotedArgument 4 rm_t_Mod_giveQuotedArgument g [.ref (ad 0), .int v1, .int v2] (Sw shM g ad S) sz (fun w => ∃ S1 : sS, w = Sw shM g ad S1 ∧ S1 = S9) := by
  refine startV (by decide) (Nat.le_of_ble_eq_true rfl) ?_
  intro p e s m below meth c A ls hx hb hr hml hlocks hmn hown htt hN hA hP hK hD hS hl
  exact (w_Mod_giveQuotedArgument hx hb hml hown htt hK hN hA (by decide +kernel) (by decide +kernel) (by decide +kernel) (by decide +kernel) r S9 (fun ls H locs hP hD hS => fin_v (g := g) (ws := Sw shM g ad S9) hx hb hr hlocks (by decide +kernel) (by decide +kernel) hP hD hS ⟨_, rfl, rfl⟩ d_Mod_giveQuotedArgument_58) k).1 S (upd (upd (fun _ => 0) 1 v1) 2 v2) (fun _ => 0) ls _ _ h hl hP hD hS
