def f_Mod_numeral : Nat → Nat → sS → (Nat → Int32) → (Nat → Int64) → Option (Int32 × sS)
  | 0, _, _, _, _ => none
  | k + 1, 0, S, L, M => f_Mod_numeral k 1 S (upd (upd L 1 (0 : Int32)) 2 (0 : Int32)) M
  | k + 1, 1, S, L, M => (f_Mod_sign k 0 S (upd (fun _ => 0) 1 (0 : Int32)) (fun _ => 0)).bind (fun (r1, T1) => (f_Mod_isDigit k 0 T1 (upd (fun _ => 0) 0 (r1 : Int32)) (fun _ => 0)).bind (fun (r2, T2) => if r2 = (0 : Int32) then (if (T2.1 0 54) = (0 : Int32) then (if (L 2) ≤ (9 : Int32) then (f_Mod_numeral k 4 T2 (upd L 101 (0 : Int32)) M) else (f_Mod_numeral k 3 T2 L M)) else (f_Mod_numeral k 3 T2 L M)) else (if (9 : Int32) ≤ (L 2) then (f_Mod_numeral k 2 T2 (upd L 100 (L 1)) M) else ((f_Mod_sign k 0 T2 (upd (fun _ => 0) 1 (0 : Int32)) (fun _ => 0)).bind (fun (r7, T7) => f_Mod_numeral k 2 T7 (upd L 100 ((((10 : Int32) * (L 1)) + r7) - (48 : Int32))) M)))))
  | k + 1, 2, S, L, M => f_Mod_numeral k 1 (putI S 0 52 ((S.1 0 52) + (1 : Int32))) (upd (upd L 1 (L 100)) 2 ((L 2) + 1)) M
  | k + 1, 3, S, L, M => f_Mod_numeral k 4 S (upd L 101 (1 : Int32)) M
  | k + 1, 4, S, L, M => if bz (L 101) = true then (some (L 1, (putI S 0 54 (L 101)))) else none
  | _ + 1, _ + 5, _, _, _ => none
set_option maxHeartbeats 8000000 in
set_option maxRecDepth 100000 in
theorem w_Mod_numeral {p : Program} {l : Launch} {e : Env} {R : Room} {s : State} {m : MethodId} {args : Array Value} {below : List Frame} {meth : Method} {c : Code} {cells slots : Nat} {Q : State → Prop} {g : gG} {A : Nat → Prop} {ad : Nat → Nat} (hx : p.tables.exec = Jvm.exec) (hb : c.code = b_Mod_numeral) (hml : c.maxLocals = 3) (hown : s.vm.findClass "MacroMillModel" = some m.cls) (htt : ∀ w ∈ gt, w.before args s = true) (hK : va_K g.1 classes (tysG g) s) (hN : nw s) (hA : ∀ q : Nat, s.heap.size ≤ q → A q) (hRf : 1 ≤ R.frames) (hRl : 21 ≤ R.locals) (hRc : cells ≤ R.cells) (hRs : slots ≤ R.slots) (r : Int32) (S9 : sS)
    (kx_78 : ∀ (ls : Array Slot) (H : Heap) (locs : List Loc), va_P g.1 classes (Sw shM g ad S9) H → va_D A (Sw shM g ad S9) → va_S A s.heap H locs → W p l e R s m args below meth c H locs cells slots Q (F0 m 78 ls [.int r])) :
    ∀ k9 : Nat, (∀ (S : sS) (L : Nat → Int32) (M : Nat → Int64) (ls : Array Slot) (H : Heap) (locs : List Loc), f_Mod_numeral k9 0 S L M = some (r, S9) → lv_has ls 3 [(0, .ref (ad 0))] → va_P g.1 classes (Sw shM g ad S) H → va_D A (Sw shM g ad S) → va_S A s.heap H locs → W p l e R s m args below meth c H locs cells slots Q (F0 m 0 ls [])) ∧ (∀ (S : sS) (L : Nat → Int32) (M : Nat → Int64) (ls : Array Slot) (H : Heap) (locs : List Loc), f_Mod_numeral k9 1 S L M = some (r, S9) → lv_has ls 3 [(0, .ref (ad 0)), (1, .int (L 1)), (2, .int (L 2))] → va_P g.1 classes (Sw shM g ad S) H → va_D A (Sw shM g ad S) → va_S A s.heap H locs → W p l e R s m args below meth c H locs cells slots Q (F0 m 4 ls [])) ∧ (∀ (S : sS) (L : Nat → Int32) (M : Nat → Int64) (ls : Array Slot) (H : Heap) (locs : List Loc), f_Mod_numeral k9 2 S L M = some (r, S9) → lv_has ls 3 [(0, .ref (ad 0)), (1, .int (L 1)), (2, .int (L 2))] → va_P g.1 classes (Sw shM g ad S) H → va_D A (Sw shM g ad S) → va_S A s.heap H locs → W p l e R s m args below meth c H locs cells slots Q (F0 m 38 ls [.int (L 100)])) ∧ (∀ (S : sS) (L : Nat → Int32) (M : Nat → Int64) (ls : Array Slot) (H : Heap) (locs : List Loc), f_Mod_numeral k9 3 S L M = some (r, S9) → lv_has ls 3 [(0, .ref (ad 0)), (1, .int (L 1)), (2, .int (L 2))] → va_P g.1 classes (Sw shM g ad S) H → va_D A (Sw shM g ad S) → va_S A s.heap H locs → W p l e R s m args below meth c H locs cells slots Q (F0 m 69 ls [.ref (ad 0)])) ∧ (∀ (S : sS) (L : Nat → Int32) (M : Nat → Int64) (ls : Array Slot) (H : Heap) (locs : List Loc), f_Mod_numeral k9 4 S L M = some (r, S9) → lv_has ls 3 [(0, .ref (ad 0)), (1, .int (L 1)), (2, .int (L 2))] → va_P g.1 classes (Sw shM g ad S) H → va_D A (Sw shM g ad S) → va_S A s.heap H locs → W p l e R s m args below meth c H locs cells slots Q (F0 m 74 ls [.int (L 101), .ref (ad 0)])) := by
  intro k9
  induction k9 with
  | zero => exact ⟨(fun _ _ _ _ _ _ h => by simp [f_Mod_numeral] at h), (fun _ _ _ _ _ _ h => by simp [f_Mod_numeral] at h), (fun _ _ _ _ _ _ h => by simp [f_Mod_numeral] at h), (fun _ _ _ _ _ _ h => by simp [f_Mod_numeral] at h), (fun _ _ _ _ _ _ h => by simp [f_Mod_numeral] at h)⟩
  | succ k9 ih =>
    refine ⟨?_, ?_, ?_, ?_, ?_⟩
    · intro S L M ls H locs h hl hP hD hS
      simp only [f_Mod_numeral] at h
      refine lv_iconst (v := 0) hx hb d_Mod_numeral_0 (by decide) ?_
      refine lv_istore_n (lv' := [(1, .int 0), (0, .ref (ad 0))]) hx hb d_Mod_numeral_1 rfl hl (by decide) rfl (fun ls hl => ?_)
      refine lv_iconst (v := 0) hx hb d_Mod_numeral_2 (by decide) ?_
      refine lv_istore_n (lv' := [(2, .int 0), (1, .int 0), (0, .ref (ad 0))]) hx hb d_Mod_numeral_3 rfl hl (by decide) rfl (fun ls hl => ?_)
      exact (ih.2.1) S (upd (upd L 1 (0 : Int32)) 2 (0 : Int32)) M ls H locs h (lv_sub hl [2, 1, 0] rfl) hP hD hS
    · intro S L M ls H locs h hl hP hD hS
      simp only [f_Mod_numeral] at h
      refine lv_aload_n hx hb d_Mod_numeral_4 rfl (lv_at hl 0 rfl) ?_
      refine lv_iconst (v := 0) hx hb d_Mod_numeral_5 (by decide) ?_
      obtain ⟨⟨r1, T1⟩, hq1, h⟩ := Option.bind_eq_some_iff.mp h
      try dsimp only at h
      refine go_iS (As := [.ref (ad 0), .int 0]) (g := g) (A := A) (h := shM) hP hK hD hS hA hN (fun hp => va_runV (As := [.int 0]) (rest := []) ⟨hx, hb, hml, hown, htt⟩ (t_Mod_sign l g _ ad S (0 : Int32) k9 r1 T1 hq1) ⟨(cb_L htt k_2895 k_276 k_2892 hd_Mod_sign ⟨(Nat.le_trans (by decide +kernel) hRf), (Nat.le_trans (by decide +kernel) hRl)⟩), htt _ k_2894, htt _ k_167⟩ ⟨hp.1, S_recv hK hP 0 rfl rfl, hp.2⟩ rfl rfl hl.1 rfl (lv_room (Nat.le_of_ble_eq_true rfl)) d_Mod_numeral_6 ⟨hRc, hRs⟩) (fun r0 Sn H locs hw9 hP hD hS => ?_)
      obtain ⟨e9, e8⟩ := hw9
      rw [e8] at hP hD
      refine W.widen (k := cells) (n := slots) (Nat.le_refl _) (Nat.le_refl _) ?_
      refine toI (y := r1) e9 ?_
      obtain ⟨⟨r2, T2⟩, hq2, h⟩ := Option.bind_eq_some_iff.mp h
      try dsimp only at h
      refine go_iS (As := [.int r1]) (g := g) (A := A) (h := shM) hP hK hD hS hA hN (fun hp => va_runS (As := [.int r1]) (rest := []) ⟨hx, hb, hml, hown, htt⟩ (t_Mod_isDigit l g _ ad T1 (r1 : Int32) k9 r2 T2 hq2) ⟨(cb_L htt k_2777 k_276 k_2775 hd_Mod_isDigit ⟨(Nat.le_trans (by decide +kernel) hRf), (Nat.le_trans (by decide +kernel) hRl)⟩), htt _ k_2776⟩ hp rfl rfl hl.1 rfl (lv_room (Nat.le_of_ble_eq_true rfl)) d_Mod_numeral_9 ⟨hRc, hRs⟩) (fun r0 Sn H locs hw9 hP hD hS => ?_)
      obtain ⟨e9, e8⟩ := hw9
      rw [e8] at hP hD
      refine W.widen (k := cells) (n := slots) (Nat.le_refl _) (Nat.le_refl _) ?_
      refine toI (y := r2) e9 ?_
      refine lv_if_eq (tgt := 55) hx hb d_Mod_numeral_12 (by decide) (fun hc3 => ?_) (fun hc3 => ?_)
      · rw [if_pos hc3] at h
        refine lv_aload_n hx hb d_Mod_numeral_55 rfl (lv_at hl 0 rfl) ?_
        refine lv_aload_n hx hb d_Mod_numeral_56 rfl (lv_at hl 0 rfl) ?_
        refine S_getI (h := shM) (C := "MacroMillModel") (T := F_Mod) hx hb htt in_Mod hown hK hP 0 54 rfl rfl rfl (by decide) (htt _ k_2290) (fun _ h9 => h9) d_Mod_numeral_57 ?_
        refine lv_if_ne (tgt := 69) hx hb d_Mod_numeral_60 (by decide) (fun hc4 => ?_) (fun hc4 => ?_)
        · rw [if_neg hc4] at h
          exact (ih.2.2.2.1) T2 L M ls H locs h (lv_sub hl [0, 1, 2] rfl) hP hD hS
        · rw [if_pos hc4] at h
          refine lv_iload_n hx hb d_Mod_numeral_63 rfl (lv_at hl 2 rfl) ?_
          refine lv_bipush (v := 9) hx hb d_Mod_numeral_64 (by decide) ?_
          refine lv_icmp_le (tgt := 73) hx hb d_Mod_numeral_66 (by decide) (fun hc5 => ?_) (fun hc5 => ?_)
          · rw [if_pos hc5] at h
            refine lv_iconst (v := 0) hx hb d_Mod_numeral_73 (by decide) ?_
            exact (ih.2.2.2.2) T2 (upd L 101 (0 : Int32)) M ls H locs h (lv_sub hl [0, 1, 2] rfl) hP hD hS
          · rw [if_neg hc5] at h
            exact (ih.2.2.2.1) T2 L M ls H locs h (lv_sub hl [0, 1, 2] rfl) hP hD hS
      · rw [if_neg hc3] at h
        refine lv_iload_n hx hb d_Mod_numeral_15 rfl (lv_at hl 2 rfl) ?_
        refine lv_bipush (v := 9) hx hb d_Mod_numeral_16 (by decide) ?_
        refine lv_icmp_ge (tgt := 37) hx hb d_Mod_numeral_18 (by decide) (fun hc6 => ?_) (fun hc6 => ?_)
        · rw [if_pos hc6] at h
          refine lv_iload_n hx hb d_Mod_numeral_37 rfl (lv_at hl 1 rfl) ?_
          exact (ih.2.2.1) T2 (upd L 100 (L 1)) M ls H locs h (lv_sub hl [0, 1, 2] rfl) hP hD hS
        · rw [if_neg hc6] at h
          refine lv_bipush (v := 10) hx hb d_Mod_numeral_21 (by decide) ?_
          refine lv_iload_n hx hb d_Mod_numeral_23 rfl (lv_at hl 1 rfl) ?_
          refine lv_imul hx hb d_Mod_numeral_24 ?_
          refine lv_aload_n hx hb d_Mod_numeral_25 rfl (lv_at hl 0 rfl) ?_
          refine lv_iconst (v := 0) hx hb d_Mod_numeral_26 (by decide) ?_
          obtain ⟨⟨r7, T7⟩, hq7, h⟩ := Option.bind_eq_some_iff.mp h
          try dsimp only at h
          refine go_iS (As := [.ref (ad 0), .int 0]) (g := g) (A := A) (h := shM) hP hK hD hS hA hN (fun hp => va_runV (As := [.int 0]) (rest := [.int ((10 : Int32) * (L 1))]) ⟨hx, hb, hml, hown, htt⟩ (t_Mod_sign l g _ ad T2 (0 : Int32) k9 r7 T7 hq7) ⟨(cb_L htt k_2895 k_276 k_2892 hd_Mod_sign ⟨(Nat.le_trans (by decide +kernel) hRf), (Nat.le_trans (by decide +kernel) hRl)⟩), htt _ k_2894, htt _ k_167⟩ ⟨hp.1, S_recv hK hP 0 rfl rfl, hp.2⟩ rfl rfl hl.1 rfl (lv_room (Nat.le_of_ble_eq_true rfl)) d_Mod_numeral_27 ⟨hRc, hRs⟩) (fun r0 Sn H locs hw9 hP hD hS => ?_)
          obtain ⟨e9, e8⟩ := hw9
          rw [e8] at hP hD
          refine W.widen (k := cells) (n := slots) (Nat.le_refl _) (Nat.le_refl _) ?_
          refine toI (y := r7) e9 ?_
          refine lv_iadd hx hb d_Mod_numeral_30 ?_
          refine lv_bipush (v := 48) hx hb d_Mod_numeral_31 (by decide) ?_
          show W _ _ _ _ _ _ _ _ _ _ _ _ _ _ _ (F0 _ 33 _ _)
          refine lv_isub hx hb d_Mod_numeral_33 ?_
          refine lv_goto (tgt := 38) hx hb d_Mod_numeral_34 (by decide) ?_
          exact (ih.2.2.1) T7 (upd L 100 ((((10 : Int32) * (L 1)) + r7) - (48 : Int32))) M ls H locs h (lv_sub hl [0, 1, 2] rfl) hP hD hS
    · intro S L M ls H locs h hl hP hD hS
      simp only [f_Mod_numeral] at h
      refine lv_istore_n (lv' := [(1, .int (L 100)), (0, .ref (ad 0)), (2, .int (L 2))]) hx hb d_Mod_numeral_38 rfl hl (by decide) rfl (fun ls hl => ?_)
      refine lv_iinc (k := 2) (v := (L 2) + 1) (lv' := [(2, .int ((L 2) + 1)), (1, .int (L 100)), (0, .ref (ad 0))]) hx hb d_Mod_numeral_39 hl rfl rfl (by decide) rfl (fun ls hl => ?_)
      refine lv_aload_n hx hb d_Mod_numeral_42 rfl (lv_at hl 2 rfl) ?_
      refine lv_dup hx hb d_Mod_numeral_43 rfl ?_
      refine S_getI (h := shM) (C := "MacroMillModel") (T := F_Mod) hx hb htt in_Mod hown hK hP 0 52 rfl rfl rfl (by decide) (htt _ k_2288) (fun _ h9 => h9) d_Mod_numeral_44 ?_
      refine lv_iconst (v := 1) hx hb d_Mod_numeral_47 (by decide) ?_
      refine lv_iadd hx hb d_Mod_numeral_48 ?_
      refine S_put (h := shM) (C := "MacroMillModel") (T := F_Mod) (v := (S.1 0 52) + (1 : Int32)) hx hb htt in_Mod t_Mod t_Mod_ok n_Mod hown hK hP hD hS 0 52 rfl rfl rfl (by decide) (htt _ k_2288) (fun _ h9 => h9) rfl rfl rfl d_Mod_numeral_49 (fun H locs hP hD hS => ?_)
      refine lv_goto (tgt := 4) hx hb d_Mod_numeral_52 (by decide) ?_
      exact (ih.2.1) (putI S 0 52 ((S.1 0 52) + (1 : Int32))) (upd (upd L 1 (L 100)) 2 ((L 2) + 1)) M ls H locs h (lv_sub hl [2, 1, 0] rfl) hP hD hS
    · intro S L M ls H locs h hl hP hD hS
      simp only [f_Mod_numeral] at h
      refine lv_iconst (v := 1) hx hb d_Mod_numeral_69 (by decide) ?_
      refine lv_goto (tgt := 74) hx hb d_Mod_numeral_70 (by decide) ?_
      exact (ih.2.2.2.2) S (upd L 101 (1 : Int32)) M ls H locs h (lv_sub hl [0, 1, 2] rfl) hP hD hS
    · intro S L M ls H locs h hl hP hD hS
      simp only [f_Mod_numeral] at h
      obtain ⟨hv1, h⟩ := chk h
      refine S_put (h := shM) (C := "MacroMillModel") (T := F_Mod) (v := L 101) hx hb htt in_Mod t_Mod t_Mod_ok n_Mod hown hK hP hD hS 0 54 rfl rfl rfl (by decide) (htt _ k_2290) (fun _ h9 => h9) rfl (bz_n hv1) (bz_f hv1) d_Mod_numeral_74 (fun H locs hP hD hS => ?_)
      refine lv_iload_n hx hb d_Mod_numeral_77 rfl (lv_at hl 1 rfl) ?_
      cases h
      exact kx_78 ls H locs hP hD hS
abbrev rm_t_Mod_numeral : Room := { frames := 1, cells := 0, slots := 0, locals := 21 }
theorem t_Mod_numeral (l : Launch) (g : gG) (sz : Nat) (ad : Nat → Nat) (S : sS) (k : Nat) (r : Int32) (S9 : sS) (h : f_Mod_numeral k 0 S (fun _ => 0) (fun _ => 0) = some (r, S9)) : Ci l y_Mod_numeral b_Mod_numeral 3 rm_t_Mod_numeral g [.ref (ad 0)] (Sw shM g ad S) sz (fun r1 w => ∃ S1 : sS, w = Sw shM g ad S1 ∧ r1 = r ∧ S1 = S9) := by
  refine startI (by decide) (Nat.le_of_ble_eq_true rfl) ?_
  intro p e s m below meth c A ls hx hb hr hml hlocks hmn hown htt hN hA hP hK hD hS hl
  exact (w_Mod_numeral hx hb hml hown htt hK hN hA (by decide +kernel) (by decide +kernel) (by decide +kernel) (by decide +kernel) r S9 (fun ls H locs hP hD hS => fin_i (g := g) (ws := Sw shM g ad S9) hx hb hr hlocks (by decide +kernel) (by decide +kernel) hP hD hS ⟨_, rfl, rfl, rfl⟩ d_Mod_numeral_78) k).1 S (fun _ => 0) (fun _ => 0) ls _ _ h hl hP hD hS
def f_Mod_storeFile (x2 : Nat) (nx2 : Nat) : Nat → Nat → sS → (Nat → Int32) → (Nat → Int64) → Option (Int32 × sS)
  | 0, _, _, _, _ => none
  | k + 1, 0, S, L, M => if okI (L 1) 32 = true then (f_Mod_storeFile x2 nx2 k 1 (putA S 25 (L 1 : Int32).toNatClampNeg (S.1 0 64)) (upd (upd L 5 (1 : Int32)) 6 (0 : Int32)) M) else none
  | k + 1, 1, S, L, M => if (L 4) ≤ (L 6) then (if okI (L 1) 32 = true then (if okI (L 1) 32 = true then (some ((0 : Int32), (putA S 26 (L 1 : Int32).toNatClampNeg ((S.1 0 64) - (S.2.1 25 (L 1 : Int32).toNatClampNeg))))) else none) else none) else (if okI ((L 3) + (L 6)) nx2 = true then (if (S.2.1 x2 ((L 3) + (L 6) : Int32).toNatClampNeg) = (92 : Int32) then (if (L 4) ≤ ((L 6) + (1 : Int32)) then (f_Mod_storeFile x2 nx2 k 2 S L M) else (if okI (((L 3) + (L 6)) + (1 : Int32)) nx2 = true then (if (S.2.1 x2 (((L 3) + (L 6)) + (1 : Int32) : Int32).toNatClampNeg) = (10 : Int32) then (f_Mod_storeFile x2 nx2 k 1 S (upd (upd L 5 ((L 5) + 1)) 6 ((L 6) + (2 : Int32))) M) else (f_Mod_storeFile x2 nx2 k 2 S L M)) else none)) else (f_Mod_storeFile x2 nx2 k 2 S L M)) else none)
  | k + 1, 2, S, L, M => if okI ((L 3) + (L 6)) nx2 = true then (if okI (S.1 0 64) 125552 = true then (if okI (S.1 0 64) 65570 = true then (if okI ((L 3) + (L 6)) nx2 = true then (if ((putA (putA S 23 (S.1 0 64 : Int32).toNatClampNeg (vp_nar .byte (S.2.1 x2 ((L 3) + (L 6) : Int32).toNatClampNeg))) 24 (S.1 0 64 : Int32).toNatClampNeg (L 5)).2.1 x2 ((L 3) + (L 6) : Int32).toNatClampNeg) = (10 : Int32) then (f_Mod_storeFile x2 nx2 k 3 (putA (putA S 23 (S.1 0 64 : Int32).toNatClampNeg (vp_nar .byte (S.2.1 x2 ((L 3) + (L 6) : Int32).toNatClampNeg))) 24 (S.1 0 64 : Int32).toNatClampNeg (L 5)) (upd L 100 ((L 5) + (1 : Int32))) M) else (f_Mod_storeFile x2 nx2 k 3 (putA (putA S 23 (S.1 0 64 : Int32).toNatClampNeg (vp_nar .byte (S.2.1 x2 ((L 3) + (L 6) : Int32).toNatClampNeg))) 24 (S.1 0 64 : Int32).toNatClampNeg (L 5)) (upd L 100 (L 5)) M)) else none) else none) else none) else none
  | k + 1, 3, S, L, M => f_Mod_storeFile x2 nx2 k 1 (putI S 0 64 ((S.1 0 64) + (1 : Int32))) (upd (upd L 5 (L 100)) 6 ((L 6) + 1)) M
  | _ + 1, _ + 4, _, _, _ => none
set_option maxHeartbeats 8000000 in
set_option maxRecDepth 100000 in
theorem w_Mod_storeFile {p : Program} {l : Launch} {e : Env} {R : Room} {s : State} {m : MethodId} {args : Array Value} {below : List Frame} {meth : Method} {c : Code} {cells slots : Nat} {Q : State → Prop} {g : gG} {A : Nat → Prop} {ad : Nat → Nat} (hx : p.tables.exec = Jvm.exec) (hb : c.code = b_Mod_storeFile) (hml : c.maxLocals = 7) (hown : s.vm.findClass "MacroMillModel" = some m.cls) (htt : ∀ w ∈ gt, w.before args s = true) (hK : va_K g.1 classes (tysG g) s) (hN : nw s) (hA : ∀ q : Nat, s.heap.size ≤ q → A q) (x2 : Nat) (nx2 : Nat) (hx2 : shM.2[x2]? = some (0, nx2)) (r : Int32) (S9 : sS)
    (kx_149 : ∀ (ls : Array Slot) (H : Heap) (locs : List Loc), va_P g.1 classes (Sw shM g ad S9) H → va_D A (Sw shM g ad S9) → va_S A s.heap H locs → W p l e R s m args below meth c H locs cells slots Q (F0 m 149 ls [])) :
    ∀ k9 : Nat, (∀ (S : sS) (L : Nat → Int32) (M : Nat → Int64) (ls : Array Slot) (H : Heap) (locs : List Loc), f_Mod_storeFile x2 nx2 k9 0 S L M = some (r, S9) → lv_has ls 7 [(0, .ref (ad 0)), (1, .int (L 1)), (2, .ref (ad (shM.1.length + x2))), (3, .int (L 3)), (4, .int (L 4))] → va_P g.1 classes (Sw shM g ad S) H → va_D A (Sw shM g ad S) → va_S A s.heap H locs → W p l e R s m args below meth c H locs cells slots Q (F0 m 0 ls [])) ∧ (∀ (S : sS) (L : Nat → Int32) (M : Nat → Int64) (ls : Array Slot) (H : Heap) (locs : List Loc), f_Mod_storeFile x2 nx2 k9 1 S L M = some (r, S9) → lv_has ls 7 [(0, .ref (ad 0)), (1, .int (L 1)), (2, .ref (ad (shM.1.length + x2))), (3, .int (L 3)), (4, .int (L 4)), (5, .int (L 5)), (6, .int (L 6))] → va_P g.1 classes (Sw shM g ad S) H → va_D A (Sw shM g ad S) → va_S A s.heap H locs → W p l e R s m args below meth c H locs cells slots Q (F0 m 16 ls [])) ∧ (∀ (S : sS) (L : Nat → Int32) (M : Nat → Int64) (ls : Array Slot) (H : Heap) (locs : List Loc), f_Mod_storeFile x2 nx2 k9 2 S L M = some (r, S9) → lv_has ls 7 [(0, .ref (ad 0)), (1, .int (L 1)), (2, .ref (ad (shM.1.length + x2))), (3, .int (L 3)), (4, .int (L 4)), (5, .int (L 5)), (6, .int (L 6))] → va_P g.1 classes (Sw shM g ad S) H → va_D A (Sw shM g ad S) → va_S A s.heap H locs → W p l e R s m args below meth c H locs cells slots Q (F0 m 68 ls [])) ∧ (∀ (S : sS) (L : Nat → Int32) (M : Nat → Int64) (ls : Array Slot) (H : Heap) (locs : List Loc), f_Mod_storeFile x2 nx2 k9 3 S L M = some (r, S9) → lv_has ls 7 [(0, .ref (ad 0)), (1, .int (L 1)), (2, .ref (ad (shM.1.length + x2))), (3, .int (L 3)), (4, .int (L 4)), (5, .int (L 5)), (6, .int (L 6))] → va_P g.1 classes (Sw shM g ad S) H → va_D A (Sw shM g ad S) → va_S A s.heap H locs → W p l e R s m args below meth c H locs cells slots Q (F0 m 114 ls [.int (L 100)])) := by
  intro k9
  induction k9 with
  | zero => exact ⟨(fun _ _ _ _ _ _ h => by simp [f_Mod_storeFile] at h), (fun _ _ _ _ _ _ h => by simp [f_Mod_storeFile] at h), (fun _ _ _ _ _ _ h => by simp [f_Mod_storeFile] at h), (fun _ _ _ _ _ _ h => by simp [f_Mod_storeFile] at h)⟩
  | succ k9 ih =>
    refine ⟨?_, ?_, ?_, ?_⟩
    · intro S L M ls H locs h hl hP hD hS
      simp only [f_Mod_storeFile] at h
      refine lv_aload_n hx hb d_Mod_storeFile_0 rfl (lv_at hl 0 rfl) ?_
      refine S_getR (h := shM) (C := "MacroMillModel") (T := F_Mod) hx hb htt in_Mod hown hK hP 0 62 rfl 26 rfl rfl (by decide) (htt _ k_2298) (fun _ h9 => h9) d_Mod_storeFile_1 ?_
      refine lv_iload_n hx hb d_Mod_storeFile_4 rfl (lv_at hl 1 rfl) ?_
      refine lv_aload_n hx hb d_Mod_storeFile_5 rfl (lv_at hl 0 rfl) ?_
      refine S_getI (h := shM) (C := "MacroMillModel") (T := F_Mod) hx hb htt in_Mod hown hK hP 0 64 rfl rfl rfl (by decide) (htt _ k_2300) (fun _ h9 => h9) d_Mod_storeFile_6 ?_
      obtain ⟨hv1, h⟩ := chk h
      refine S_iast (h := shM) (i := L 1) (v := S.1 0 64) hx hb hK hP hD hS 25 rfl (okI_in hv1) d_Mod_storeFile_9 (fun H locs hP hD hS => ?_)
      refine lv_iconst (v := 1) hx hb d_Mod_storeFile_10 (by decide) ?_
      refine lv_istore (lv' := [(5, .int 1), (0, .ref (ad 0)), (1, .int (L 1)), (2, .ref (ad (shM.1.length + x2))), (3, .int (L 3)), (4, .int (L 4))]) hx hb d_Mod_storeFile_11 hl (by decide) rfl (fun ls hl => ?_)
      refine lv_iconst (v := 0) hx hb d_Mod_storeFile_13 (by decide) ?_
      refine lv_istore (lv' := [(6, .int 0), (5, .int 1), (0, .ref (ad 0)), (1, .int (L 1)), (2, .ref (ad (shM.1.length + x2))), (3, .int (L 3)), (4, .int (L 4))]) hx hb d_Mod_storeFile_14 hl (by decide) rfl (fun ls hl => ?_)
      exact (ih.2.1) (putA S 25 (L 1 : Int32).toNatClampNeg (S.1 0 64)) (upd (upd L 5 (1 : Int32)) 6 (0 : Int32)) M ls H locs h (lv_sub hl [2, 3, 4, 5, 6, 1, 0] rfl) hP hD hS
    · intro S L M ls H locs h hl hP hD hS
      simp only [f_Mod_storeFile] at h
      refine lv_iload hx hb d_Mod_storeFile_16 (lv_at hl 6 rfl) ?_
      refine lv_iload hx hb d_Mod_storeFile_18 (lv_at hl 4 rfl) ?_
      refine lv_icmp_ge (tgt := 132) hx hb d_Mod_storeFile_20 (by decide) (fun hc1 => ?_) (fun hc1 => ?_)
      · rw [if_pos hc1] at h
        refine lv_aload_n hx hb d_Mod_storeFile_132 rfl (lv_at hl 0 rfl) ?_
        refine S_getR (h := shM) (C := "MacroMillModel") (T := F_Mod) hx hb htt in_Mod hown hK hP 0 63 rfl 27 rfl rfl (by decide) (htt _ k_2299) (fun _ h9 => h9) d_Mod_storeFile_133 ?_
        refine lv_iload_n hx hb d_Mod_storeFile_136 rfl (lv_at hl 1 rfl) ?_
        refine lv_aload_n hx hb d_Mod_storeFile_137 rfl (lv_at hl 0 rfl) ?_
        refine S_getI (h := shM) (C := "MacroMillModel") (T := F_Mod) hx hb htt in_Mod hown hK hP 0 64 rfl rfl rfl (by decide) (htt _ k_2300) (fun _ h9 => h9) d_Mod_storeFile_138 ?_
        refine lv_aload_n hx hb d_Mod_storeFile_141 rfl (lv_at hl 0 rfl) ?_
        refine S_getR (h := shM) (C := "MacroMillModel") (T := F_Mod) hx hb htt in_Mod hown hK hP 0 62 rfl 26 rfl rfl (by decide) (htt _ k_2298) (fun _ h9 => h9) d_Mod_storeFile_142 ?_
        refine lv_iload_n hx hb d_Mod_storeFile_145 rfl (lv_at hl 1 rfl) ?_
        obtain ⟨hv2, h⟩ := chk h
        refine S_iald (h := shM) (i := L 1) hx hb hK hP 25 rfl (okI_in hv2) d_Mod_storeFile_146 ?_
        show W _ _ _ _ _ _ _ _ _ _ _ _ _ _ _ (F0 _ 147 _ _)
        refine lv_isub hx hb d_Mod_storeFile_147 ?_
        obtain ⟨hv3, h⟩ := chk h
        refine S_iast (h := shM) (i := L 1) (v := (S.1 0 64) - (S.2.1 25 (L 1 : Int32).toNatClampNeg)) hx hb hK hP hD hS 26 rfl (okI_in hv3) d_Mod_storeFile_148 (fun H locs hP hD hS => ?_)
        cases h
        exact kx_149 ls H locs hP hD hS
      · rw [if_neg hc1] at h
        refine lv_aload_n hx hb d_Mod_storeFile_23 rfl (lv_at hl 2 rfl) ?_
        refine lv_iload_n hx hb d_Mod_storeFile_24 rfl (lv_at hl 3 rfl) ?_
        refine lv_iload hx hb d_Mod_storeFile_25 (lv_at hl 6 rfl) ?_
        refine lv_iadd hx hb d_Mod_storeFile_27 ?_
        obtain ⟨hv4, h⟩ := chk h
        refine S_bald (h := shM) (i := (L 3) + (L 6)) hx hb hK hP x2 hx2 (okI_in hv4) d_Mod_storeFile_28 ?_
        refine lv_bipush (v := 92) hx hb d_Mod_storeFile_29 (by decide) ?_
        refine lv_icmp_ne (tgt := 68) hx hb d_Mod_storeFile_31 (by decide) (fun hc5 => ?_) (fun hc5 => ?_)
        · rw [if_neg hc5] at h
          exact (ih.2.2.1) S L M ls H locs h (lv_sub hl [0, 1, 2, 3, 4, 5, 6] rfl) hP hD hS
        · rw [if_pos hc5] at h
          refine lv_iload hx hb d_Mod_storeFile_34 (lv_at hl 6 rfl) ?_
          refine lv_iconst (v := 1) hx hb d_Mod_storeFile_36 (by decide) ?_
          refine lv_iadd hx hb d_Mod_storeFile_37 ?_
          show W _ _ _ _ _ _ _ _ _ _ _ _ _ _ _ (F0 _ 38 _ _)
          refine lv_iload hx hb d_Mod_storeFile_38 (lv_at hl 4 rfl) ?_
          refine lv_icmp_ge (tgt := 68) hx hb d_Mod_storeFile_40 (by decide) (fun hc6 => ?_) (fun hc6 => ?_)
          · rw [if_pos hc6] at h
            exact (ih.2.2.1) S L M ls H locs h (lv_sub hl [0, 1, 2, 3, 4, 5, 6] rfl) hP hD hS
          · rw [if_neg hc6] at h
            refine lv_aload_n hx hb d_Mod_storeFile_43 rfl (lv_at hl 2 rfl) ?_
            refine lv_iload_n hx hb d_Mod_storeFile_44 rfl (lv_at hl 3 rfl) ?_
            refine lv_iload hx hb d_Mod_storeFile_45 (lv_at hl 6 rfl) ?_
            refine lv_iadd hx hb d_Mod_storeFile_47 ?_
            refine lv_iconst (v := 1) hx hb d_Mod_storeFile_48 (by decide) ?_
            refine lv_iadd hx hb d_Mod_storeFile_49 ?_
            obtain ⟨hv7, h⟩ := chk h
            refine S_bald (h := shM) (i := ((L 3) + (L 6)) + (1 : Int32)) hx hb hK hP x2 hx2 (okI_in hv7) d_Mod_storeFile_50 ?_
            refine lv_bipush (v := 10) hx hb d_Mod_storeFile_51 (by decide) ?_
            refine lv_icmp_ne (tgt := 68) hx hb d_Mod_storeFile_53 (by decide) (fun hc8 => ?_) (fun hc8 => ?_)
            · rw [if_neg hc8] at h
              exact (ih.2.2.1) S L M ls H locs h (lv_sub hl [0, 1, 2, 3, 4, 5, 6] rfl) hP hD hS
            · rw [if_pos hc8] at h
              refine lv_iinc (k := 5) (v := (L 5) + 1) (lv' := [(5, .int ((L 5) + 1)), (0, .ref (ad 0)), (1, .int (L 1)), (2, .ref (ad (shM.1.length + x2))), (3, .int (L 3)), (4, .int (L 4)), (6, .int (L 6))]) hx hb d_Mod_storeFile_56 hl rfl rfl (by decide) rfl (fun ls hl => ?_)
              refine lv_iload hx hb d_Mod_storeFile_59 (lv_at hl 6 rfl) ?_
              refine lv_iconst (v := 2) hx hb d_Mod_storeFile_61 (by decide) ?_
              show W _ _ _ _ _ _ _ _ _ _ _ _ _ _ _ (F0 _ 62 _ _)
              refine lv_iadd hx hb d_Mod_storeFile_62 ?_
              refine lv_istore (lv' := [(6, .int ((L 6) + (2 : Int32))), (5, .int ((L 5) + 1)), (0, .ref (ad 0)), (1, .int (L 1)), (2, .ref (ad (shM.1.length + x2))), (3, .int (L 3)), (4, .int (L 4))]) hx hb d_Mod_storeFile_63 hl (by decide) rfl (fun ls hl => ?_)
              refine lv_goto (tgt := 16) hx hb d_Mod_storeFile_65 (by decide) ?_
              exact (ih.2.1) S (upd (upd L 5 ((L 5) + 1)) 6 ((L 6) + (2 : Int32))) M ls H locs h (lv_sub hl [2, 3, 4, 5, 6, 1, 0] rfl) hP hD hS
    · intro S L M ls H locs h hl hP hD hS
      simp only [f_Mod_storeFile] at h
      refine lv_aload_n hx hb d_Mod_storeFile_68 rfl (lv_at hl 0 rfl) ?_
      refine S_getR (h := shM) (C := "MacroMillModel") (T := F_Mod) hx hb htt in_Mod hown hK hP 0 60 rfl 24 rfl rfl (by decide) (htt _ k_2296) (fun _ h9 => h9) d_Mod_storeFile_69 ?_
      refine lv_aload_n hx hb d_Mod_storeFile_72 rfl (lv_at hl 0 rfl) ?_
      refine S_getI (h := shM) (C := "MacroMillModel") (T := F_Mod) hx hb htt in_Mod hown hK hP 0 64 rfl rfl rfl (by decide) (htt _ k_2300) (fun _ h9 => h9) d_Mod_storeFile_73 ?_
      refine lv_aload_n hx hb d_Mod_storeFile_76 rfl (lv_at hl 2 rfl) ?_
      refine lv_iload_n hx hb d_Mod_storeFile_77 rfl (lv_at hl 3 rfl) ?_
      refine lv_iload hx hb d_Mod_storeFile_78 (lv_at hl 6 rfl) ?_
      refine lv_iadd hx hb d_Mod_storeFile_80 ?_
      obtain ⟨hv1, h⟩ := chk h
      refine S_bald (h := shM) (i := (L 3) + (L 6)) hx hb hK hP x2 hx2 (okI_in hv1) d_Mod_storeFile_81 ?_
      obtain ⟨hv2, h⟩ := chk h
      refine S_bast (h := shM) (i := S.1 0 64) (v := S.2.1 x2 ((L 3) + (L 6) : Int32).toNatClampNeg) hx hb hK hP hD hS 23 rfl (okI_in hv2) d_Mod_storeFile_82 (fun H locs hP hD hS => ?_)
      refine lv_aload_n hx hb d_Mod_storeFile_83 rfl (lv_at hl 0 rfl) ?_
      show W _ _ _ _ _ _ _ _ _ _ _ _ _ _ _ (F0 _ 84 _ _)
      refine S_getR (h := shM) (C := "MacroMillModel") (T := F_Mod) hx hb htt in_Mod hown hK hP 0 61 rfl 25 rfl rfl (by decide) (htt _ k_2297) (fun _ h9 => h9) d_Mod_storeFile_84 ?_
      refine lv_aload_n hx hb d_Mod_storeFile_87 rfl (lv_at hl 0 rfl) ?_
      refine S_getI (h := shM) (C := "MacroMillModel") (T := F_Mod) hx hb htt in_Mod hown hK hP 0 64 rfl rfl rfl (by decide) (htt _ k_2300) (fun _ h9 => h9) d_Mod_storeFile_88 ?_
      refine toI (y := S.1 0 64) rfl ?_
      refine lv_iload hx hb d_Mod_storeFile_91 (lv_at hl 5 rfl) ?_
      obtain ⟨hv3, h⟩ := chk h
      refine S_iast (h := shM) (i := S.1 0 64) (v := L 5) hx hb hK hP hD hS 24 rfl (okI_in hv3) d_Mod_storeFile_93 (fun H locs hP hD hS => ?_)
      refine lv_aload_n hx hb d_Mod_storeFile_94 rfl (lv_at hl 2 rfl) ?_
      refine lv_iload_n hx hb d_Mod_storeFile_95 rfl (lv_at hl 3 rfl) ?_
      refine lv_iload hx hb d_Mod_storeFile_96 (lv_at hl 6 rfl) ?_
      refine lv_iadd hx hb d_Mod_storeFile_98 ?_
      obtain ⟨hv4, h⟩ := chk h
      refine S_bald (h := shM) (i := (L 3) + (L 6)) hx hb hK hP x2 hx2 (okI_in hv4) d_Mod_storeFile_99 ?_
      refine lv_bipush (v := 10) hx hb d_Mod_storeFile_100 (by decide) ?_
      refine lv_icmp_ne (tgt := 112) hx hb d_Mod_storeFile_102 (by decide) (fun hc5 => ?_) (fun hc5 => ?_)
      · rw [if_neg hc5] at h
        refine lv_iload hx hb d_Mod_storeFile_112 (lv_at hl 5 rfl) ?_
        exact (ih.2.2.2) (putA (putA S 23 (S.1 0 64 : Int32).toNatClampNeg (vp_nar .byte (S.2.1 x2 ((L 3) + (L 6) : Int32).toNatClampNeg))) 24 (S.1 0 64 : Int32).toNatClampNeg (L 5)) (upd L 100 (L 5)) M ls H locs h (lv_sub hl [0, 1, 2, 3, 4, 5, 6] rfl) hP hD hS
      · rw [if_pos hc5] at h
        refine lv_iload hx hb d_Mod_storeFile_105 (lv_at hl 5 rfl) ?_
        show W _ _ _ _ _ _ _ _ _ _ _ _ _ _ _ (F0 _ 107 _ _)
        refine lv_iconst (v := 1) hx hb d_Mod_storeFile_107 (by decide) ?_
        refine lv_iadd hx hb d_Mod_storeFile_108 ?_
        refine lv_goto (tgt := 114) hx hb d_Mod_storeFile_109 (by decide) ?_
        exact (ih.2.2.2) (putA (putA S 23 (S.1 0 64 : Int32).toNatClampNeg (vp_nar .byte (S.2.1 x2 ((L 3) + (L 6) : Int32).toNatClampNeg))) 24 (S.1 0 64 : Int32).toNatClampNeg (L 5)) (upd L 100 ((L 5) + (1 : Int32))) M ls H locs h (lv_sub hl [0, 1, 2, 3, 4, 5, 6] rfl) hP hD hS
    · intro S L M ls H locs h hl hP hD hS
      simp only [f_Mod_storeFile] at h
      refine lv_istore (lv' := [(5, .int (L 100)), (0, .ref (ad 0)), (1, .int (L 1)), (2, .ref (ad (shM.1.length + x2))), (3, .int (L 3)), (4, .int (L 4)), (6, .int (L 6))]) hx hb d_Mod_storeFile_114 hl (by decide) rfl (fun ls hl => ?_)
      refine lv_aload_n hx hb d_Mod_storeFile_116 rfl (lv_at hl 1 rfl) ?_
      refine lv_dup hx hb d_Mod_storeFile_117 rfl ?_
      refine S_getI (h := shM) (C := "MacroMillModel") (T := F_Mod) hx hb htt in_Mod hown hK hP 0 64 rfl rfl rfl (by decide) (htt _ k_2300) (fun _ h9 => h9) d_Mod_storeFile_118 ?_
      refine lv_iconst (v := 1) hx hb d_Mod_storeFile_121 (by decide) ?_
      refine lv_iadd hx hb d_Mod_storeFile_122 ?_
      refine S_put (h := shM) (C := "MacroMillModel") (T := F_Mod) (v := (S.1 0 64) + (1 : Int32)) hx hb htt in_Mod t_Mod t_Mod_ok n_Mod hown hK hP hD hS 0 64 rfl rfl rfl (by decide) (htt _ k_2300) (fun _ h9 => h9) rfl rfl rfl d_Mod_storeFile_123 (fun H locs hP hD hS => ?_)
      refine lv_iinc (k := 6) (v := (L 6) + 1) (lv' := [(6, .int ((L 6) + 1)), (5, .int (L 100)), (0, .ref (ad 0)), (1, .int (L 1)), (2, .ref (ad (shM.1.length + x2))), (3, .int (L 3)), (4, .int (L 4))]) hx hb d_Mod_storeFile_126 hl rfl rfl (by decide) rfl (fun ls hl => ?_)
      refine lv_goto (tgt := 16) hx hb d_Mod_storeFile_129 (by decide) ?_
      exact (ih.2.1) (putI S 0 64 ((S.1 0 64) + (1 : Int32))) (upd (upd L 5 (L 100)) 6 ((L 6) + 1)) M ls H locs h (lv_sub hl [2, 3, 4, 5, 6, 1, 0] rfl) hP hD hS
abbrev rm_t_Mod_storeFile : Room := { frames := 0, cells := 0, slots := 0, locals := 0 }
theorem t_Mod_storeFile (l : Launch) (g : gG) (sz : Nat) (ad : Nat → Nat) (S : sS) (x2 : Nat) (nx2 : Nat) (v1 : Int32) (v3 : Int32) (v4 : Int32) (hx2 : shM.2[x2]? = some (0, nx2)) (k : Nat) (r : Int32) (S9 : sS) (h : f_Mod_storeFile x2 nx2 k 0 S (upd (upd (upd (fun _ => 0) 1 v1) 3 v3) 4 v4) (fun _ => 0) = some (r, S9)) : Cv l y_Mod_storeFile b_Mod_storeFile 7 rm_t_Mod_storeFile g [.ref (ad 0), .int v1, .ref (ad (shM.1.length + x2)), .int v3, .int v4] (Sw shM g ad S) sz (fun w => ∃ S1 : sS, w = Sw shM g ad S1 ∧ S1 = S9) := by
  refine startV (by decide) (Nat.le_of_ble_eq_true rfl) ?_
  intro p e s m below meth c A ls hx hb hr hml hlocks hmn hown htt hN hA hP hK hD hS hl
  exact (w_Mod_storeFile hx hb hml hown htt hK hN hA x2 nx2 hx2 r S9 (fun ls H locs hP hD hS => fin_v (g := g) (ws := Sw shM g ad S9) hx hb hr hlocks (by decide +kernel) (by decide +kernel) hP hD hS ⟨_, rfl, rfl⟩ d_Mod_storeFile_149) k).1 S (upd (upd (upd (fun _ => 0) 1 v1) 3 v3) 4 v4) (fun _ => 0) ls _ _ h hl hP hD hS
def f_Mod_cell : Nat → Nat → sS → (Nat → Int32) → (Nat → Int64) → Option (Int32 × sS)
  | 0, _, _, _, _ => none
  | k + 1, 0, S, L, M => if okI (S.1 0 67) 260000 = true then (if okI (S.1 0 67) 260000 = true then (if okI (S.1 0 67) 260000 = true then (if okI (S.1 0 67) 260000 = true then (if okI (S.1 0 67) 260000 = true then (if okI (S.1 0 67) 260000 = true then (if okI (S.1 0 67) 260000 = true then (some (S.1 0 67, (putA (putA (putA (putA (putA (putA (putA (putI S 0 67 ((S.1 0 67) + (1 : Int32))) 27 (S.1 0 67 : Int32).toNatClampNeg (L 1)) 28 (S.1 0 67 : Int32).toNatClampNeg (L 2)) 29 (S.1 0 67 : Int32).toNatClampNeg (L 3)) 30 (S.1 0 67 : Int32).toNatClampNeg 0) 31 (S.1 0 67 : Int32).toNatClampNeg (-1)) 32 (S.1 0 67 : Int32).toNatClampNeg (vp_nar .boolean (L 4))) 33 (S.1 0 67 : Int32).toNatClampNeg (vp_nar .boolean (L 5))))) else none) else none) else none) else none) else none) else none) else none
  | _ + 1, _ + 1, _, _, _ => none
set_option maxHeartbeats 8000000 in
set_option maxRecDepth 100000 in
theorem w_Mod_cell {p : Program} {l : Launch} {e : Env} {R : Room} {s : State} {m : MethodId} {args : Array Value} {below : List Frame} {meth : Method} {c : Code} {cells slots : Nat} {Q : State → Prop} {g : gG} {A : Nat → Prop} {ad : Nat → Nat} (hx : p.tables.exec = Jvm.exec) (hb : c.code = b_Mod_cell) (hml : c.maxLocals = 7) (hown : s.vm.findClass "MacroMillModel" = some m.cls) (htt : ∀ w ∈ gt, w.before args s = true) (hK : va_K g.1 classes (tysG g) s) (hN : nw s) (hA : ∀ q : Nat, s.heap.size ≤ q → A q) (r : Int32) (S9 : sS)
    (kx_76 : ∀ (ls : Array Slot) (H : Heap) (locs : List Loc), va_P g.1 classes (Sw shM g ad S9) H → va_D A (Sw shM g ad S9) → va_S A s.heap H locs → W p l e R s m args below meth c H locs cells slots Q (F0 m 76 ls [.int r])) :
    ∀ k9 : Nat, (∀ (S : sS) (L : Nat → Int32) (M : Nat → Int64) (ls : Array Slot) (H : Heap) (locs : List Loc), f_Mod_cell k9 0 S L M = some (r, S9) → lv_has ls 7 [(0, .ref (ad 0)), (1, .int (L 1)), (2, .int (L 2)), (3, .int (L 3)), (4, .int (L 4)), (5, .int (L 5))] → va_P g.1 classes (Sw shM g ad S) H → va_D A (Sw shM g ad S) → va_S A s.heap H locs → W p l e R s m args below meth c H locs cells slots Q (F0 m 0 ls [])) := by
  intro k9
  induction k9 with
  | zero => exact (fun _ _ _ _ _ _ h => by simp [f_Mod_cell] at h)
  | succ k9 ih =>
    · intro S L M ls H locs h hl hP hD hS
      simp only [f_Mod_cell] at h
      refine lv_aload_n hx hb d_Mod_cell_0 rfl (lv_at hl 0 rfl) ?_
      refine S_getI (h := shM) (C := "MacroMillModel") (T := F_Mod) hx hb htt in_Mod hown hK hP 0 67 rfl rfl rfl (by decide) (htt _ k_2303) (fun _ h9 => h9) d_Mod_cell_1 ?_
      refine lv_istore (lv' := [(6, .int (S.1 0 67)), (0, .ref (ad 0)), (1, .int (L 1)), (2, .int (L 2)), (3, .int (L 3)), (4, .int (L 4)), (5, .int (L 5))]) hx hb d_Mod_cell_4 hl (by decide) rfl (fun ls hl => ?_)
      refine lv_aload_n hx hb d_Mod_cell_6 rfl (lv_at hl 1 rfl) ?_
      refine lv_dup hx hb d_Mod_cell_7 rfl ?_
      refine S_getI (h := shM) (C := "MacroMillModel") (T := F_Mod) hx hb htt in_Mod hown hK hP 0 67 rfl rfl rfl (by decide) (htt _ k_2303) (fun _ h9 => h9) d_Mod_cell_8 ?_
      refine lv_iconst (v := 1) hx hb d_Mod_cell_11 (by decide) ?_
      refine lv_iadd hx hb d_Mod_cell_12 ?_
      refine S_put (h := shM) (C := "MacroMillModel") (T := F_Mod) (v := (S.1 0 67) + (1 : Int32)) hx hb htt in_Mod t_Mod t_Mod_ok n_Mod hown hK hP hD hS 0 67 rfl rfl rfl (by decide) (htt _ k_2303) (fun _ h9 => h9) rfl rfl rfl d_Mod_cell_13 (fun H locs hP hD hS => ?_)
      refine lv_aload_n hx hb d_Mod_cell_16 rfl (lv_at hl 1 rfl) ?_
      refine S_getR (h := shM) (C := "MacroMillModel") (T := F_Mod) hx hb htt in_Mod hown hK hP 0 68 rfl 28 rfl rfl (by decide) (htt _ k_2304) (fun _ h9 => h9) d_Mod_cell_17 ?_
      show W _ _ _ _ _ _ _ _ _ _ _ _ _ _ _ (F0 _ 20 _ _)
      refine lv_iload hx hb d_Mod_cell_20 (lv_at hl 0 rfl) ?_
      refine lv_iload_n hx hb d_Mod_cell_22 rfl (lv_at hl 2 rfl) ?_
      obtain ⟨hv1, h⟩ := chk h
      refine S_iast (h := shM) (i := S.1 0 67) (v := L 1) hx hb hK hP hD hS 27 rfl (okI_in hv1) d_Mod_cell_23 (fun H locs hP hD hS => ?_)
      refine lv_aload_n hx hb d_Mod_cell_24 rfl (lv_at hl 1 rfl) ?_
      refine S_getR (h := shM) (C := "MacroMillModel") (T := F_Mod) hx hb htt in_Mod hown hK hP 0 69 rfl 29 rfl rfl (by decide) (htt _ k_2305) (fun _ h9 => h9) d_Mod_cell_25 ?_
      refine lv_iload hx hb d_Mod_cell_28 (lv_at hl 0 rfl) ?_
      refine lv_iload_n hx hb d_Mod_cell_30 rfl (lv_at hl 3 rfl) ?_
      obtain ⟨hv2, h⟩ := chk h
      refine S_iast (h := shM) (i := S.1 0 67) (v := L 2) hx hb hK hP hD hS 28 rfl (okI_in hv2) d_Mod_cell_31 (fun H locs hP hD hS => ?_)
      refine lv_aload_n hx hb d_Mod_cell_32 rfl (lv_at hl 1 rfl) ?_
      refine S_getR (h := shM) (C := "MacroMillModel") (T := F_Mod) hx hb htt in_Mod hown hK hP 0 70 rfl 30 rfl rfl (by decide) (htt _ k_2306) (fun _ h9 => h9) d_Mod_cell_33 ?_
      refine lv_iload hx hb d_Mod_cell_36 (lv_at hl 0 rfl) ?_
      refine lv_iload_n hx hb d_Mod_cell_38 rfl (lv_at hl 4 rfl) ?_
      obtain ⟨hv3, h⟩ := chk h
      show W _ _ _ _ _ _ _ _ _ _ _ _ _ _ _ (F0 _ 39 _ _)
      refine S_iast (h := shM) (i := S.1 0 67) (v := L 3) hx hb hK hP hD hS 29 rfl (okI_in hv3) d_Mod_cell_39 (fun H locs hP hD hS => ?_)
      refine lv_aload_n hx hb d_Mod_cell_40 rfl (lv_at hl 1 rfl) ?_
      refine S_getR (h := shM) (C := "MacroMillModel") (T := F_Mod) hx hb htt in_Mod hown hK hP 0 71 rfl 31 rfl rfl (by decide) (htt _ k_2307) (fun _ h9 => h9) d_Mod_cell_41 ?_
      refine lv_iload hx hb d_Mod_cell_44 (lv_at hl 0 rfl) ?_
      refine lv_iconst (v := 0) hx hb d_Mod_cell_46 (by decide) ?_
      obtain ⟨hv4, h⟩ := chk h
      refine S_iast (h := shM) (i := S.1 0 67) (v := 0) hx hb hK hP hD hS 30 rfl (okI_in hv4) d_Mod_cell_47 (fun H locs hP hD hS => ?_)
      refine lv_aload_n hx hb d_Mod_cell_48 rfl (lv_at hl 1 rfl) ?_
      refine S_getR (h := shM) (C := "MacroMillModel") (T := F_Mod) hx hb htt in_Mod hown hK hP 0 72 rfl 32 rfl rfl (by decide) (htt _ k_2308) (fun _ h9 => h9) d_Mod_cell_49 ?_
      refine lv_iload hx hb d_Mod_cell_52 (lv_at hl 0 rfl) ?_
      refine lv_iconst (v := (-1)) hx hb d_Mod_cell_54 (by decide) ?_
      obtain ⟨hv5, h⟩ := chk h
      refine S_iast (h := shM) (i := S.1 0 67) (v := (-1)) hx hb hK hP hD hS 31 rfl (okI_in hv5) d_Mod_cell_55 (fun H locs hP hD hS => ?_)
      refine lv_aload_n hx hb d_Mod_cell_56 rfl (lv_at hl 1 rfl) ?_
      show W _ _ _ _ _ _ _ _ _ _ _ _ _ _ _ (F0 _ 57 _ _)
      refine S_getR (h := shM) (C := "MacroMillModel") (T := F_Mod) hx hb htt in_Mod hown hK hP 0 73 rfl 33 rfl rfl (by decide) (htt _ k_2309) (fun _ h9 => h9) d_Mod_cell_57 ?_
      refine lv_iload hx hb d_Mod_cell_60 (lv_at hl 0 rfl) ?_
      refine lv_iload hx hb d_Mod_cell_62 (lv_at hl 5 rfl) ?_
      obtain ⟨hv6, h⟩ := chk h
      refine S_zast (h := shM) (i := S.1 0 67) (v := L 4) hx hb hK hP hD hS 32 rfl (okI_in hv6) d_Mod_cell_64 (fun H locs hP hD hS => ?_)
      refine lv_aload_n hx hb d_Mod_cell_65 rfl (lv_at hl 1 rfl) ?_
      refine S_getR (h := shM) (C := "MacroMillModel") (T := F_Mod) hx hb htt in_Mod hown hK hP 0 74 rfl 34 rfl rfl (by decide) (htt _ k_2310) (fun _ h9 => h9) d_Mod_cell_66 ?_
      refine lv_iload hx hb d_Mod_cell_69 (lv_at hl 0 rfl) ?_
      refine lv_iload hx hb d_Mod_cell_71 (lv_at hl 6 rfl) ?_
      obtain ⟨hv7, h⟩ := chk h
      refine S_zast (h := shM) (i := S.1 0 67) (v := L 5) hx hb hK hP hD hS 33 rfl (okI_in hv7) d_Mod_cell_73 (fun H locs hP hD hS => ?_)
      refine lv_iload hx hb d_Mod_cell_74 (lv_at hl 0 rfl) ?_
      cases h
      exact kx_76 ls H locs hP hD hS
abbrev rm_t_Mod_cell : Room := { frames := 0, cells := 0, slots := 0, locals := 0 }
theorem t_Mod_cell (l : Launch) (g : gG) (sz : Nat) (ad : Nat → Nat) (S : sS) (v1 : Int32) (v2 : Int32) (v3 : Int32) (v4 : Int32) (v5 : Int32) (k : Nat) (r : Int32) (S9 : sS) (h : f_Mod_cell k 0 S (upd (upd (upd (upd (upd (fun _ => 0) 1 v1) 2 v2) 3 v3) 4 v4) 5 v5) (fun _ => 0) = some (r, S9)) : Ci l y_Mod_cell b_Mod_cell 7 rm_t_Mod_cell g [.ref (ad 0), .int v1, .int v2, .int v3, .int v4, .int v5] (Sw shM g ad S) sz (fun r1 w => ∃ S1 : sS, w = Sw shM g ad S1 ∧ r1 = r ∧ S1 = S9) := by
  refine startI (by decide) (Nat.le_of_ble_eq_true rfl) ?_
  intro p e s m below meth c A ls hx hb hr hml hlocks hmn hown htt hN hA hP hK hD hS hl
  exact (w_Mod_cell hx hb hml hown htt hK hN hA r S9 (fun ls H locs hP hD hS => fin_i (g := g) (ws := Sw shM g ad S9) hx hb hr hlocks (by decide +kernel) (by decide +kernel) hP hD hS ⟨_, rfl, rfl, rfl⟩ d_Mod_cell_76) k) S (upd (upd (upd (upd (upd (fun _ => 0) 1 v1) 2 v2) 3 v3) 4 v4) 5 v5) (fun _ => 0) ls _ _ h hl hP hD hS
def f_Mod_copy : Nat → Nat → sS → (Nat → Int32) → (Nat → Int64) → Option (Int32 × sS)
  | 0, _, _, _, _ => none
  | k + 1, 0, S, L, M => if okI (L 1) 260000 = true then (if okI (L 1) 260000 = true then (if okI (L 1) 260000 = true then (if okI (L 1) 260000 = true then (if okI (L 1) 260000 = true then ((f_Mod_cell k 0 S (upd (upd (upd (upd (upd (fun _ => 0) 1 (S.2.1 27 (L 1 : Int32).toNatClampNeg : Int32)) 2 (S.2.1 28 (L 1 : Int32).toNatClampNeg : Int32)) 3 (S.2.1 29 (L 1 : Int32).toNatClampNeg : Int32)) 4 (S.2.1 32 (L 1 : Int32).toNatClampNeg : Int32)) 5 (S.2.1 33 (L 1 : Int32).toNatClampNeg : Int32)) (fun _ => 0)).bind (fun (r6, T6) => if okI (L 1) 260000 = true then (if okI (r6) 260000 = true then (some (r6, (putA T6 30 (r6 : Int32).toNatClampNeg (T6.2.1 30 (L 1 : Int32).toNatClampNeg)))) else none) else none)) else none) else none) else none) else none) else none
  | _ + 1, _ + 1, _, _, _ => none
set_option maxHeartbeats 8000000 in
set_option maxRecDepth 100000 in
theorem w_Mod_copy {p : Program} {l : Launch} {e : Env} {R : Room} {s : State} {m : MethodId} {args : Array Value} {below : List Frame} {meth : Method} {c : Code} {cells slots : Nat} {Q : State → Prop} {g : gG} {A : Nat → Prop} {ad : Nat → Nat} (hx : p.tables.exec = Jvm.exec) (hb : c.code = b_Mod_copy) (hml : c.maxLocals = 3) (hown : s.vm.findClass "MacroMillModel" = some m.cls) (htt : ∀ w ∈ gt, w.before args s = true) (hK : va_K g.1 classes (tysG g) s) (hN : nw s) (hA : ∀ q : Nat, s.heap.size ≤ q → A q) (hRf : 1 ≤ R.frames) (hRl : 26 ≤ R.locals) (hRc : cells ≤ R.cells) (hRs : slots ≤ R.slots) (r : Int32) (S9 : sS)
    (kx_48 : ∀ (ls : Array Slot) (H : Heap) (locs : List Loc), va_P g.1 classes (Sw shM g ad S9) H → va_D A (Sw shM g ad S9) → va_S A s.heap H locs → W p l e R s m args below meth c H locs cells slots Q (F0 m 48 ls [.int r])) :
    ∀ k9 : Nat, (∀ (S : sS) (L : Nat → Int32) (M : Nat → Int64) (ls : Array Slot) (H : Heap) (locs : List Loc), f_Mod_copy k9 0 S L M = some (r, S9) → lv_has ls 3 [(0, .ref (ad 0)), (1, .int (L 1))] → va_P g.1 classes (Sw shM g ad S) H → va_D A (Sw shM g ad S) → va_S A s.heap H locs → W p l e R s m args below meth c H locs cells slots Q (F0 m 0 ls [])) := by
  intro k9
  induction k9 with
  | zero => exact (fun _ _ _ _ _ _ h => by simp [f_Mod_copy] at h)
  | succ k9 ih =>
    · intro S L M ls H locs h hl hP hD hS
      simp only [f_Mod_copy] at h
      refine lv_aload_n hx hb d_Mod_copy_0 rfl (lv_at hl 0 rfl) ?_
      refine lv_aload_n hx hb d_Mod_copy_1 rfl (lv_at hl 0 rfl) ?_
      refine S_getR (h := shM) (C := "MacroMillModel") (T := F_Mod) hx hb htt in_Mod hown hK hP 0 68 rfl 28 rfl rfl (by decide) (htt _ k_2304) (fun _ h9 => h9) d_Mod_copy_2 ?_
      refine lv_iload_n hx hb d_Mod_copy_5 rfl (lv_at hl 1 rfl) ?_
      obtain ⟨hv1, h⟩ := chk h
      refine S_iald (h := shM) (i := L 1) hx hb hK hP 27 rfl (okI_in hv1) d_Mod_copy_6 ?_
      refine lv_aload_n hx hb d_Mod_copy_7 rfl (lv_at hl 0 rfl) ?_
      refine S_getR (h := shM) (C := "MacroMillModel") (T := F_Mod) hx hb htt in_Mod hown hK hP 0 69 rfl 29 rfl rfl (by decide) (htt _ k_2305) (fun _ h9 => h9) d_Mod_copy_8 ?_
      refine lv_iload_n hx hb d_Mod_copy_11 rfl (lv_at hl 1 rfl) ?_
      obtain ⟨hv2, h⟩ := chk h
      refine S_iald (h := shM) (i := L 1) hx hb hK hP 28 rfl (okI_in hv2) d_Mod_copy_12 ?_
      refine lv_aload_n hx hb d_Mod_copy_13 rfl (lv_at hl 0 rfl) ?_
      refine S_getR (h := shM) (C := "MacroMillModel") (T := F_Mod) hx hb htt in_Mod hown hK hP 0 70 rfl 30 rfl rfl (by decide) (htt _ k_2306) (fun _ h9 => h9) d_Mod_copy_14 ?_
      show W _ _ _ _ _ _ _ _ _ _ _ _ _ _ _ (F0 _ 17 _ _)
      refine lv_iload_n hx hb d_Mod_copy_17 rfl (lv_at hl 1 rfl) ?_
      obtain ⟨hv3, h⟩ := chk h
      refine S_iald (h := shM) (i := L 1) hx hb hK hP 29 rfl (okI_in hv3) d_Mod_copy_18 ?_
      refine lv_aload_n hx hb d_Mod_copy_19 rfl (lv_at hl 0 rfl) ?_
      refine S_getR (h := shM) (C := "MacroMillModel") (T := F_Mod) hx hb htt in_Mod hown hK hP 0 73 rfl 33 rfl rfl (by decide) (htt _ k_2309) (fun _ h9 => h9) d_Mod_copy_20 ?_
      refine lv_iload_n hx hb d_Mod_copy_23 rfl (lv_at hl 1 rfl) ?_
      obtain ⟨hv4, h⟩ := chk h
      refine S_zald (h := shM) (i := L 1) hx hb hK hP 32 rfl (okI_in hv4) d_Mod_copy_24 ?_
      refine lv_aload_n hx hb d_Mod_copy_25 rfl (lv_at hl 0 rfl) ?_
      refine S_getR (h := shM) (C := "MacroMillModel") (T := F_Mod) hx hb htt in_Mod hown hK hP 0 74 rfl 34 rfl rfl (by decide) (htt _ k_2310) (fun _ h9 => h9) d_Mod_copy_26 ?_
      refine lv_iload_n hx hb d_Mod_copy_29 rfl (lv_at hl 1 rfl) ?_
      obtain ⟨hv5, h⟩ := chk h
      refine S_zald (h := shM) (i := L 1) hx hb hK hP 33 rfl (okI_in hv5) d_Mod_copy_30 ?_
      obtain ⟨⟨r6, T6⟩, hq6, h⟩ := Option.bind_eq_some_iff.mp h
      try dsimp only at h
      refine go_iS (As := [.ref (ad 0), .int (S.2.1 27 (L 1 : Int32).toNatClampNeg), .int (S.2.1 28 (L 1 : Int32).toNatClampNeg), .int (S.2.1 29 (L 1 : Int32).toNatClampNeg), .int (S.2.1 32 (L 1 : Int32).toNatClampNeg), .int (S.2.1 33 (L 1 : Int32).toNatClampNeg)]) (g := g) (A := A) (h := shM) hP hK hD hS hA hN (fun hp => va_runV (As := [.int (S.2.1 27 (L 1 : Int32).toNatClampNeg), .int (S.2.1 28 (L 1 : Int32).toNatClampNeg), .int (S.2.1 29 (L 1 : Int32).toNatClampNeg), .int (S.2.1 32 (L 1 : Int32).toNatClampNeg), .int (S.2.1 33 (L 1 : Int32).toNatClampNeg)]) (rest := []) ⟨hx, hb, hml, hown, htt⟩ (t_Mod_cell l g _ ad S (S.2.1 27 (L 1 : Int32).toNatClampNeg : Int32) (S.2.1 28 (L 1 : Int32).toNatClampNeg : Int32) (S.2.1 29 (L 1 : Int32).toNatClampNeg : Int32) (S.2.1 32 (L 1 : Int32).toNatClampNeg : Int32) (S.2.1 33 (L 1 : Int32).toNatClampNeg : Int32) k9 r6 T6 hq6) ⟨(cb_L htt k_3007 k_276 k_3004 hd_Mod_cell ⟨(Nat.le_trans (by decide +kernel) hRf), (Nat.le_trans (by decide +kernel) hRl)⟩), htt _ k_3006, htt _ k_191⟩ ⟨hp.1, S_recv hK hP 0 rfl rfl, hp.2⟩ rfl rfl hl.1 rfl (lv_room (Nat.le_of_ble_eq_true rfl)) d_Mod_copy_31 ⟨hRc, hRs⟩) (fun r0 Sn H locs hw9 hP hD hS => ?_)
      obtain ⟨e9, e8⟩ := hw9
      rw [e8] at hP hD
      refine W.widen (k := cells) (n := slots) (Nat.le_refl _) (Nat.le_refl _) ?_
      refine toI (y := r6) e9 ?_
      refine lv_istore_n (lv' := [(2, .int r6), (0, .ref (ad 0)), (1, .int (L 1))]) hx hb d_Mod_copy_34 rfl hl (by decide) rfl (fun ls hl => ?_)
      refine lv_aload_n hx hb d_Mod_copy_35 rfl (lv_at hl 1 rfl) ?_
      show W _ _ _ _ _ _ _ _ _ _ _ _ _ _ _ (F0 _ 36 _ _)
      refine S_getR (h := shM) (C := "MacroMillModel") (T := F_Mod) hx hb htt in_Mod hown hK hP 0 71 rfl 31 rfl rfl (by decide) (htt _ k_2307) (fun _ h9 => h9) d_Mod_copy_36 ?_
      refine lv_iload_n hx hb d_Mod_copy_39 rfl (lv_at hl 0 rfl) ?_
      refine lv_aload_n hx hb d_Mod_copy_40 rfl (lv_at hl 1 rfl) ?_
      refine S_getR (h := shM) (C := "MacroMillModel") (T := F_Mod) hx hb htt in_Mod hown hK hP 0 71 rfl 31 rfl rfl (by decide) (htt _ k_2307) (fun _ h9 => h9) d_Mod_copy_41 ?_
      refine lv_iload_n hx hb d_Mod_copy_44 rfl (lv_at hl 2 rfl) ?_
      obtain ⟨hv7, h⟩ := chk h
      refine S_iald (h := shM) (i := L 1) hx hb hK hP 30 rfl (okI_in hv7) d_Mod_copy_45 ?_
      obtain ⟨hv8, h⟩ := chk h
      refine S_iast (h := shM) (i := r6) (v := T6.2.1 30 (L 1 : Int32).toNatClampNeg) hx hb hK hP hD hS 30 rfl (okI_in hv8) d_Mod_copy_46 (fun H locs hP hD hS => ?_)
      refine lv_iload_n hx hb d_Mod_copy_47 rfl (lv_at hl 0 rfl) ?_
      cases h
      exact kx_48 ls H locs hP hD hS
abbrev rm_t_Mod_copy : Room := { frames := 1, cells := 0, slots := 0, locals := 26 }
theorem t_Mod_copy (l : Launch) (g : gG) (sz : Nat) (ad : Nat → Nat) (S : sS) (v1 : Int32) (k : Nat) (r : Int32) (S9 : sS) (h : f_Mod_copy k 0 S (upd (fun _ => 0) 1 v1) (fun _ => 0) = some (r, S9)) : Ci l y_Mod_copy b_Mod_copy 3 rm_t_Mod_copy g [.ref (ad 0), .int v1] (Sw shM g ad S) sz (fun r1 w => ∃ S1 : sS, w = Sw shM g ad S1 ∧ r1 = r ∧ S1 = S9) := by
  refine startI (by decide) (Nat.le_of_ble_eq_true rfl) ?_
  intro p e s m below meth c A ls hx hb hr hml hlocks hmn hown htt hN hA hP hK hD hS hl
  exact (w_Mod_copy hx hb hml hown htt hK hN hA (by decide +kernel) (by decide +kernel) (by decide +kernel) (by decide +kernel) r S9 (fun ls H locs hP hD hS => fin_i (g := g) (ws := Sw shM g ad S9) hx hb hr hlocks (by decide +kernel) (by decide +kernel) hP hD hS ⟨_, rfl, rfl, rfl⟩ d_Mod_copy_48) k) S (upd (fun _ => 0) 1 v1) (fun _ => 0) ls _ _ h hl hP hD hS
def f_Mod_byteOf : Nat → Nat → sS → (Nat → Int32) → (Nat → Int64) → Option (Int32 × sS)
  | 0, _, _, _, _ => none
  | k + 1, 0, S, L, M => if okI (L 1) 260000 = true then (if okI ((S.2.1 27 (L 1 : Int32).toNatClampNeg) + (L 2)) 125552 = true then (some ((S.2.1 23 ((S.2.1 27 (L 1 : Int32).toNatClampNeg) + (L 2) : Int32).toNatClampNeg) &&& (255 : Int32), S)) else none) else none
  | _ + 1, _ + 1, _, _, _ => none
set_option maxHeartbeats 8000000 in
set_option maxRecDepth 100000 in
theorem w_Mod_byteOf {p : Program} {l : Launch} {e : Env} {R : Room} {s : State} {m : MethodId} {args : Array Value} {below : List Frame} {meth : Method} {c : Code} {cells slots : Nat} {Q : State → Prop} {g : gG} {A : Nat → Prop} {ad : Nat → Nat} (hx : p.tables.exec = Jvm.exec) (hb : c.code = b_Mod_byteOf) (hml : c.maxLocals = 3) (hown : s.vm.findClass "MacroMillModel" = some m.cls) (htt : ∀ w ∈ gt, w.before args s = true) (hK : va_K g.1 classes (tysG g) s) (hN : nw s) (hA : ∀ q : Nat, s.heap.size ≤ q → A q) (r : Int32) (S9 : sS)
    (kx_17 : ∀ (ls : Array Slot) (H : Heap) (locs : List Loc), va_P g.1 classes (Sw shM g ad S9) H → va_D A (Sw shM g ad S9) → va_S A s.heap H locs → W p l e R s m args below meth c H locs cells slots Q (F0 m 17 ls [.int r])) :
    ∀ k9 : Nat, (∀ (S : sS) (L : Nat → Int32) (M : Nat → Int64) (ls : Array Slot) (H : Heap) (locs : List Loc), f_Mod_byteOf k9 0 S L M = some (r, S9) → lv_has ls 3 [(0, .ref (ad 0)), (1, .int (L 1)), (2, .int (L 2))] → va_P g.1 classes (Sw shM g ad S) H → va_D A (Sw shM g ad S) → va_S A s.heap H locs → W p l e R s m args below meth c H locs cells slots Q (F0 m 0 ls [])) := by
  intro k9
  induction k9 with
  | zero => exact (fun _ _ _ _ _ _ h => by simp [f_Mod_byteOf] at h)
  | succ k9 ih =>
    · intro S L M ls H locs h hl hP hD hS
      simp only [f_Mod_byteOf] at h
      refine lv_aload_n hx hb d_Mod_byteOf_0 rfl (lv_at hl 0 rfl) ?_
      refine S_getR (h := shM) (C := "MacroMillModel") (T := F_Mod) hx hb htt in_Mod hown hK hP 0 60 rfl 24 rfl rfl (by decide) (htt _ k_2296) (fun _ h9 => h9) d_Mod_byteOf_1 ?_
      refine lv_aload_n hx hb d_Mod_byteOf_4 rfl (lv_at hl 0 rfl) ?_
      refine S_getR (h := shM) (C := "MacroMillModel") (T := F_Mod) hx hb htt in_Mod hown hK hP 0 68 rfl 28 rfl rfl (by decide) (htt _ k_2304) (fun _ h9 => h9) d_Mod_byteOf_5 ?_
      refine lv_iload_n hx hb d_Mod_byteOf_8 rfl (lv_at hl 1 rfl) ?_
      obtain ⟨hv1, h⟩ := chk h
      refine S_iald (h := shM) (i := L 1) hx hb hK hP 27 rfl (okI_in hv1) d_Mod_byteOf_9 ?_
      refine lv_iload_n hx hb d_Mod_byteOf_10 rfl (lv_at hl 2 rfl) ?_
      refine lv_iadd hx hb d_Mod_byteOf_11 ?_
      obtain ⟨hv2, h⟩ := chk h
      refine S_bald (h := shM) (i := (S.2.1 27 (L 1 : Int32).toNatClampNeg) + (L 2)) hx hb hK hP 23 rfl (okI_in hv2) d_Mod_byteOf_12 ?_
      refine lv_sipush (v := 255) hx hb d_Mod_byteOf_13 (by decide) ?_
      refine lv_iand hx hb d_Mod_byteOf_16 ?_
      cases h
      exact kx_17 ls H locs hP hD hS
abbrev rm_t_Mod_byteOf : Room := { frames := 0, cells := 0, slots := 0, locals := 0 }
theorem t_Mod_byteOf (l : Launch) (g : gG) (sz : Nat) (ad : Nat → Nat) (S : sS) (v1 : Int32) (v2 : Int32) (k : Nat) (r : Int32) (S9 : sS) (h : f_Mod_byteOf k 0 S (upd (upd (fun _ => 0) 1 v1) 2 v2) (fun _ => 0) = some (r, S9)) : Ci l y_Mod_byteOf b_Mod_byteOf 3 rm_t_Mod_byteOf g [.ref (ad 0), .int v1, .int v2] (Sw shM g ad S) sz (fun r1 w => ∃ S1 : sS, w = Sw shM g ad S1 ∧ r1 = r ∧ S1 = S9) := by
  refine startI (by decide) (Nat.le_of_ble_eq_true rfl) ?_
  intro p e s m below meth c A ls hx hb hr hml hlocks hmn hown htt hN hA hP hK hD hS hl
  exact (w_Mod_byteOf hx hb hml hown htt hK hN hA r S9 (fun ls H locs hP hD hS => fin_i (g := g) (ws := Sw shM g ad S9) hx hb hr hlocks (by decide +kernel) (by decide +kernel) hP hD hS ⟨_, rfl, rfl, rfl⟩ d_Mod_byteOf_17) k) S (upd (upd (fun _ => 0) 1 v1) 2 v2) (fun _ => 0) ls _ _ h hl hP hD hS
def f_Mod_isSpelledAs : Nat → Nat → sS → (Nat → Int32) → (Nat → Int64) → Option (Int32 × sS)
  | 0, _, _, _, _ => none
  | k + 1, 0, S, L, M => if okI (L 1) 260000 = true then (if (S.2.1 28 (L 1 : Int32).toNatClampNeg) = (L 3) then (f_Mod_isSpelledAs k 1 S (upd L 100 (1 : Int32)) M) else (f_Mod_isSpelledAs k 1 S (upd L 100 (0 : Int32)) M)) else none
  | k + 1, 1, S, L, M => f_Mod_isSpelledAs k 2 S (upd (upd L 4 (L 100)) 5 (0 : Int32)) M
  | k + 1, 2, S, L, M => if (L 3) ≤ (L 5) then (f_Mod_isSpelledAs k 4 S L M) else (if (L 4) = (0 : Int32) then (f_Mod_isSpelledAs k 4 S L M) else (if okI (L 1) 260000 = true then (if okI ((S.2.1 27 (L 1 : Int32).toNatClampNeg) + (L 5)) 125552 = true then (if okI ((L 2) + (L 5)) 125552 = true then (if (S.2.1 23 ((S.2.1 27 (L 1 : Int32).toNatClampNeg) + (L 5) : Int32).toNatClampNeg) = (S.2.1 23 ((L 2) + (L 5) : Int32).toNatClampNeg) then (f_Mod_isSpelledAs k 3 S (upd L 100 (1 : Int32)) M) else (f_Mod_isSpelledAs k 3 S (upd L 100 (0 : Int32)) M)) else none) else none) else none))
  | k + 1, 3, S, L, M => f_Mod_isSpelledAs k 2 S (upd (upd L 4 (L 100)) 5 ((L 5) + 1)) M
  | k + 1, 4, S, L, M => if bz (L 4) = true then some (L 4, S) else none
  | _ + 1, _ + 5, _, _, _ => none
set_option maxHeartbeats 8000000 in
set_option maxRecDepth 100000 in
theorem w_Mod_isSpelledAs {p : Program} {l : Launch} {e : Env} {R : Room} {s : State} {m : MethodId} {args : Array Value} {below : List Frame} {meth : Method} {c : Code} {cells slots : Nat} {Q : State → Prop} {g : gG} {A : Nat → Prop} {ad : Nat → Nat} (hx : p.tables.exec = Jvm.exec) (hb : c.code = b_Mod_isSpelledAs) (hml : c.maxLocals = 6) (hown : s.vm.findClass "MacroMillModel" = some m.cls) (htt : ∀ w ∈ gt, w.before args s = true) (hK : va_K g.1 classes (tysG g) s) (hN : nw s) (hA : ∀ q : Nat, s.heap.size ≤ q → A q) (r : Int32) (S9 : sS)
    (kx_72 : ∀ (ls : Array Slot) (H : Heap) (locs : List Loc), narrow .boolean (.int r) = .int r → va_P g.1 classes (Sw shM g ad S9) H → va_D A (Sw shM g ad S9) → va_S A s.heap H locs → W p l e R s m args below meth c H locs cells slots Q (F0 m 72 ls [.int r])) :
    ∀ k9 : Nat, (∀ (S : sS) (L : Nat → Int32) (M : Nat → Int64) (ls : Array Slot) (H : Heap) (locs : List Loc), f_Mod_isSpelledAs k9 0 S L M = some (r, S9) → lv_has ls 6 [(0, .ref (ad 0)), (1, .int (L 1)), (2, .int (L 2)), (3, .int (L 3))] → va_P g.1 classes (Sw shM g ad S) H → va_D A (Sw shM g ad S) → va_S A s.heap H locs → W p l e R s m args below meth c H locs cells slots Q (F0 m 0 ls [])) ∧ (∀ (S : sS) (L : Nat → Int32) (M : Nat → Int64) (ls : Array Slot) (H : Heap) (locs : List Loc), f_Mod_isSpelledAs k9 1 S L M = some (r, S9) → lv_has ls 6 [(0, .ref (ad 0)), (1, .int (L 1)), (2, .int (L 2)), (3, .int (L 3))] → va_P g.1 classes (Sw shM g ad S) H → va_D A (Sw shM g ad S) → va_S A s.heap H locs → W p l e R s m args below meth c H locs cells slots Q (F0 m 15 ls [.int (L 100)])) ∧ (∀ (S : sS) (L : Nat → Int32) (M : Nat → Int64) (ls : Array Slot) (H : Heap) (locs : List Loc), f_Mod_isSpelledAs k9 2 S L M = some (r, S9) → lv_has ls 6 [(0, .ref (ad 0)), (1, .int (L 1)), (2, .int (L 2)), (3, .int (L 3)), (4, .int (L 4)), (5, .int (L 5))] → va_P g.1 classes (Sw shM g ad S) H → va_D A (Sw shM g ad S) → va_S A s.heap H locs → W p l e R s m args below meth c H locs cells slots Q (F0 m 20 ls [])) ∧ (∀ (S : sS) (L : Nat → Int32) (M : Nat → Int64) (ls : Array Slot) (H : Heap) (locs : List Loc), f_Mod_isSpelledAs k9 3 S L M = some (r, S9) → lv_has ls 6 [(0, .ref (ad 0)), (1, .int (L 1)), (2, .int (L 2)), (3, .int (L 3)), (4, .int (L 4)), (5, .int (L 5))] → va_P g.1 classes (Sw shM g ad S) H → va_D A (Sw shM g ad S) → va_S A s.heap H locs → W p l e R s m args below meth c H locs cells slots Q (F0 m 62 ls [.int (L 100)])) ∧ (∀ (S : sS) (L : Nat → Int32) (M : Nat → Int64) (ls : Array Slot) (H : Heap) (locs : List Loc), f_Mod_isSpelledAs k9 4 S L M = some (r, S9) → lv_has ls 6 [(0, .ref (ad 0)), (1, .int (L 1)), (2, .int (L 2)), (3, .int (L 3)), (4, .int (L 4)), (5, .int (L 5))] → va_P g.1 classes (Sw shM g ad S) H → va_D A (Sw shM g ad S) → va_S A s.heap H locs → W p l e R s m args below meth c H locs cells slots Q (F0 m 70 ls [])) := by
  intro k9
  induction k9 with
  | zero => exact ⟨(fun _ _ _ _ _ _ h => by simp [f_Mod_isSpelledAs] at h), (fun _ _ _ _ _ _ h => by simp [f_Mod_isSpelledAs] at h), (fun _ _ _ _ _ _ h => by simp [f_Mod_isSpelledAs] at h), (fun _ _ _ _ _ _ h => by simp [f_Mod_isSpelledAs] at h), (fun _ _ _ _ _ _ h => by simp [f_Mod_isSpelledAs] at h)⟩
  | succ k9 ih =>
    refine ⟨?_, ?_, ?_, ?_, ?_⟩
    · intro S L M ls H locs h hl hP hD hS
      simp only [f_Mod_isSpelledAs] at h
      refine lv_aload_n hx hb d_Mod_isSpelledAs_0 rfl (lv_at hl 0 rfl) ?_
      refine S_getR (h := shM) (C := "MacroMillModel") (T := F_Mod) hx hb htt in_Mod hown hK hP 0 69 rfl 29 rfl rfl (by decide) (htt _ k_2305) (fun _ h9 => h9) d_Mod_isSpelledAs_1 ?_
      refine lv_iload_n hx hb d_Mod_isSpelledAs_4 rfl (lv_at hl 1 rfl) ?_
      obtain ⟨hv1, h⟩ := chk h
      refine S_iald (h := shM) (i := L 1) hx hb hK hP 28 rfl (okI_in hv1) d_Mod_isSpelledAs_5 ?_
      refine lv_iload_n hx hb d_Mod_isSpelledAs_6 rfl (lv_at hl 3 rfl) ?_
      refine lv_icmp_ne (tgt := 14) hx hb d_Mod_isSpelledAs_7 (by decide) (fun hc2 => ?_) (fun hc2 => ?_)
      · rw [if_neg hc2] at h
        refine lv_iconst (v := 0) hx hb d_Mod_isSpelledAs_14 (by decide) ?_
        exact (ih.2.1) S (upd L 100 (0 : Int32)) M ls H locs h (lv_sub hl [0, 1, 2, 3] rfl) hP hD hS
      · rw [if_pos hc2] at h
        refine lv_iconst (v := 1) hx hb d_Mod_isSpelledAs_10 (by decide) ?_
        refine lv_goto (tgt := 15) hx hb d_Mod_isSpelledAs_11 (by decide) ?_
        exact (ih.2.1) S (upd L 100 (1 : Int32)) M ls H locs h (lv_sub hl [0, 1, 2, 3] rfl) hP hD hS
    · intro S L M ls H locs h hl hP hD hS
      simp only [f_Mod_isSpelledAs] at h
      refine lv_istore (lv' := [(4, .int (L 100)), (0, .ref (ad 0)), (1, .int (L 1)), (2, .int (L 2)), (3, .int (L 3))]) hx hb d_Mod_isSpelledAs_15 hl (by decide) rfl (fun ls hl => ?_)
      refine lv_iconst (v := 0) hx hb d_Mod_isSpelledAs_17 (by decide) ?_
      refine lv_istore (lv' := [(5, .int 0), (4, .int (L 100)), (0, .ref (ad 0)), (1, .int (L 1)), (2, .int (L 2)), (3, .int (L 3))]) hx hb d_Mod_isSpelledAs_18 hl (by decide) rfl (fun ls hl => ?_)
      exact (ih.2.2.1) S (upd (upd L 4 (L 100)) 5 (0 : Int32)) M ls H locs h (lv_sub hl [2, 3, 4, 5, 1, 0] rfl) hP hD hS
    · intro S L M ls H locs h hl hP hD hS
      simp only [f_Mod_isSpelledAs] at h
      refine lv_iload hx hb d_Mod_isSpelledAs_20 (lv_at hl 5 rfl) ?_
      refine lv_iload_n hx hb d_Mod_isSpelledAs_22 rfl (lv_at hl 3 rfl) ?_
      refine lv_icmp_ge (tgt := 70) hx hb d_Mod_isSpelledAs_23 (by decide) (fun hc1 => ?_) (fun hc1 => ?_)
      · rw [if_pos hc1] at h
        exact (ih.2.2.2.2) S L M ls H locs h (lv_sub hl [0, 1, 2, 3, 4, 5] rfl) hP hD hS
      · rw [if_neg hc1] at h
        refine lv_iload hx hb d_Mod_isSpelledAs_26 (lv_at hl 4 rfl) ?_
        refine lv_if_eq (tgt := 70) hx hb d_Mod_isSpelledAs_28 (by decide) (fun hc2 => ?_) (fun hc2 => ?_)
        · rw [if_pos hc2] at h
          exact (ih.2.2.2.2) S L M ls H locs h (lv_sub hl [0, 1, 2, 3, 4, 5] rfl) hP hD hS
        · rw [if_neg hc2] at h
          refine lv_aload_n hx hb d_Mod_isSpelledAs_31 rfl (lv_at hl 0 rfl) ?_
          refine S_getR (h := shM) (C := "MacroMillModel") (T := F_Mod) hx hb htt in_Mod hown hK hP 0 60 rfl 24 rfl rfl (by decide) (htt _ k_2296) (fun _ h9 => h9) d_Mod_isSpelledAs_32 ?_
          refine lv_aload_n hx hb d_Mod_isSpelledAs_35 rfl (lv_at hl 0 rfl) ?_
          refine S_getR (h := shM) (C := "MacroMillModel") (T := F_Mod) hx hb htt in_Mod hown hK hP 0 68 rfl 28 rfl rfl (by decide) (htt _ k_2304) (fun _ h9 => h9) d_Mod_isSpelledAs_36 ?_
          refine lv_iload_n hx hb d_Mod_isSpelledAs_39 rfl (lv_at hl 1 rfl) ?_
          obtain ⟨hv3, h⟩ := chk h
          refine S_iald (h := shM) (i := L 1) hx hb hK hP 27 rfl (okI_in hv3) d_Mod_isSpelledAs_40 ?_
          refine lv_iload hx hb d_Mod_isSpelledAs_41 (lv_at hl 5 rfl) ?_
          refine lv_iadd hx hb d_Mod_isSpelledAs_43 ?_
          obtain ⟨hv4, h⟩ := chk h
          show W _ _ _ _ _ _ _ _ _ _ _ _ _ _ _ (F0 _ 44 _ _)
          refine S_bald (h := shM) (i := (S.2.1 27 (L 1 : Int32).toNatClampNeg) + (L 5)) hx hb hK hP 23 rfl (okI_in hv4) d_Mod_isSpelledAs_44 ?_
          refine lv_aload_n hx hb d_Mod_isSpelledAs_45 rfl (lv_at hl 0 rfl) ?_
          refine S_getR (h := shM) (C := "MacroMillModel") (T := F_Mod) hx hb htt in_Mod hown hK hP 0 60 rfl 24 rfl rfl (by decide) (htt _ k_2296) (fun _ h9 => h9) d_Mod_isSpelledAs_46 ?_
          refine lv_iload_n hx hb d_Mod_isSpelledAs_49 rfl (lv_at hl 2 rfl) ?_
          refine lv_iload hx hb d_Mod_isSpelledAs_50 (lv_at hl 5 rfl) ?_
          refine lv_iadd hx hb d_Mod_isSpelledAs_52 ?_
          obtain ⟨hv5, h⟩ := chk h
          refine S_bald (h := shM) (i := (L 2) + (L 5)) hx hb hK hP 23 rfl (okI_in hv5) d_Mod_isSpelledAs_53 ?_
          refine lv_icmp_ne (tgt := 61) hx hb d_Mod_isSpelledAs_54 (by decide) (fun hc6 => ?_) (fun hc6 => ?_)
          · rw [if_neg hc6] at h
            refine lv_iconst (v := 0) hx hb d_Mod_isSpelledAs_61 (by decide) ?_
            exact (ih.2.2.2.1) S (upd L 100 (0 : Int32)) M ls H locs h (lv_sub hl [0, 1, 2, 3, 4, 5] rfl) hP hD hS
          · rw [if_pos hc6] at h
            refine lv_iconst (v := 1) hx hb d_Mod_isSpelledAs_57 (by decide) ?_
            refine lv_goto (tgt := 62) hx hb d_Mod_isSpelledAs_58 (by decide) ?_
            exact (ih.2.2.2.1) S (upd L 100 (1 : Int32)) M ls H locs h (lv_sub hl [0, 1, 2, 3, 4, 5] rfl) hP hD hS
    · intro S L M ls H locs h hl hP hD hS
      simp only [f_Mod_isSpelledAs] at h
      refine lv_istore (lv' := [(4, .int (L 100)), (0, .ref (ad 0)), (1, .int (L 1)), (2, .int (L 2)), (3, .int (L 3)), (5, .int (L 5))]) hx hb d_Mod_isSpelledAs_62 hl (by decide) rfl (fun ls hl => ?_)
      refine lv_iinc (k := 5) (v := (L 5) + 1) (lv' := [(5, .int ((L 5) + 1)), (4, .int (L 100)), (0, .ref (ad 0)), (1, .int (L 1)), (2, .int (L 2)), (3, .int (L 3))]) hx hb d_Mod_isSpelledAs_64 hl rfl rfl (by decide) rfl (fun ls hl => ?_)
      refine lv_goto (tgt := 20) hx hb d_Mod_isSpelledAs_67 (by decide) ?_
      exact (ih.2.2.1) S (upd (upd L 4 (L 100)) 5 ((L 5) + 1)) M ls H locs h (lv_sub hl [2, 3, 4, 5, 1, 0] rfl) hP hD hS
    · intro S L M ls H locs h hl hP hD hS
      simp only [f_Mod_isSpelledAs] at h
      refine lv_iload hx hb d_Mod_isSpelledAs_70 (lv_at hl 4 rfl) ?_
      obtain ⟨hv1, h⟩ := chk h
      cases h
      exact kx_72 ls H locs (bz_n hv1) hP hD hS
abbrev rm_t_Mod_isSpelledAs : Room := { frames := 0, cells := 0, slots := 0, locals := 0 }
theorem t_Mod_isSpelledAs (l : Launch) (g : gG) (sz : Nat) (ad : Nat → Nat) (S : sS) (v1 : Int32) (v2 : Int32) (v3 : Int32) (k : Nat) (r : Int32) (S9 : sS) (h : f_Mod_isSpelledAs k 0 S (upd (upd (upd (fun _ => 0) 1 v1) 2 v2) 3 v3) (fun _ => 0) = some (r, S9)) : Cz l y_Mod_isSpelledAs b_Mod_isSpelledAs 6 rm_t_Mod_isSpelledAs g [.ref (ad 0), .int v1, .int v2, .int v3] (Sw shM g ad S) sz (fun r1 w => ∃ S1 : sS, w = Sw shM g ad S1 ∧ r1 = r ∧ S1 = S9) := by
  refine startZ (by decide) (Nat.le_of_ble_eq_true rfl) ?_
  intro p e s m below meth c A ls hx hb hr hml hlocks hmn hown htt hN hA hP hK hD hS hl
  exact (w_Mod_isSpelledAs hx hb hml hown htt hK hN hA r S9 (fun ls H locs hz hP hD hS => fin_z (g := g) (ws := Sw shM g ad S9) hx hb hr hlocks hz (by decide +kernel) (by decide +kernel) hP hD hS ⟨_, rfl, rfl, rfl⟩ d_Mod_isSpelledAs_72) k).1 S (upd (upd (upd (fun _ => 0) 1 v1) 2 v2) 3 v3) (fun _ => 0) ls _ _ h hl hP hD hS
def f_Mod_kindOf : Nat → Nat → sS → (Nat → Int32) → (Nat → Int64) → Option (Int32 × sS)
  | 0, _, _, _, _ => none
  | k + 1, 0, S, L, M => (f_Mod_byteOf k 0 S (upd (upd (fun _ => 0) 1 (L 1 : Int32)) 2 (0 : Int32)) (fun _ => 0)).bind (fun (r1, T1) => if okI (L 1) 260000 = true then (if (T1.2.1 28 (L 1 : Int32).toNatClampNeg) ≤ (1 : Int32) then (f_Mod_kindOf k 1 T1 (upd (upd L 2 r1) 100 ((-1) : Int32)) M) else ((f_Mod_byteOf k 0 T1 (upd (upd (fun _ => 0) 1 (L 1 : Int32)) 2 (1 : Int32)) (fun _ => 0)).bind (fun (r4, T4) => f_Mod_kindOf k 1 T4 (upd (upd L 2 r1) 100 r4) M))) else none)
  | k + 1, 1, S, L, M => if (L 2) = (76 : Int32) then (if (L 100) = (34 : Int32) then (f_Mod_kindOf k 2 S (upd L 3 (L 100)) M) else (if (L 100) = (39 : Int32) then (f_Mod_kindOf k 2 S (upd L 3 (L 100)) M) else (f_Mod_kindOf k 3 S (upd L 3 (L 100)) M))) else (f_Mod_kindOf k 3 S (upd L 3 (L 100)) M)
  | k + 1, 2, S, L, M => f_Mod_kindOf k 4 S (upd L 100 (L 3)) M
  | k + 1, 3, S, L, M => if (L 3) < (0 : Int32) then (f_Mod_kindOf k 4 S (upd L 100 ((-1) : Int32)) M) else (f_Mod_kindOf k 4 S (upd L 100 (L 2)) M)
  | k + 1, 4, S, L, M => if (L 100) = (34 : Int32) then (f_Mod_kindOf k 5 S (upd L 4 (L 100)) M) else (if (L 100) = (39 : Int32) then (f_Mod_kindOf k 5 S (upd L 4 (L 100)) M) else ((f_Mod_isLetter k 0 S (upd (fun _ => 0) 0 (L 2 : Int32)) (fun _ => 0)).bind (fun (r3, T3) => if r3 = (0 : Int32) then ((f_Mod_isDigit k 0 T3 (upd (fun _ => 0) 0 (L 2 : Int32)) (fun _ => 0)).bind (fun (r5, T5) => if r5 = (0 : Int32) then (if (L 2) = (46 : Int32) then ((f_Mod_isDigit k 0 T5 (upd (fun _ => 0) 0 (L 3 : Int32)) (fun _ => 0)).bind (fun (r8, T8) => if r8 = (0 : Int32) then (f_Mod_kindOf k 8 T8 (upd L 4 (L 100)) M) else (f_Mod_kindOf k 7 T8 (upd L 4 (L 100)) M))) else (f_Mod_kindOf k 8 T5 (upd L 4 (L 100)) M)) else (f_Mod_kindOf k 7 T5 (upd L 4 (L 100)) M))) else (f_Mod_kindOf k 9 T3 (upd (upd L 4 (L 100)) 100 (1 : Int32)) M))))
  | k + 1, 5, S, L, M => if (L 4) = (34 : Int32) then (f_Mod_kindOf k 6 S (upd L 100 (3 : Int32)) M) else (f_Mod_kindOf k 6 S (upd L 100 (4 : Int32)) M)
  | k + 1, 6, S, L, M => some (L 100, S)
  | k + 1, 7, S, L, M => f_Mod_kindOf k 9 S (upd L 100 (2 : Int32)) M
  | k + 1, 8, S, L, M => f_Mod_kindOf k 9 S (upd L 100 (5 : Int32)) M
  | k + 1, 9, S, L, M => some (L 100, S)
  | _ + 1, _ + 10, _, _, _ => none
set_option maxHeartbeats 8000000 in
set_option maxRecDepth 100000 in
theorem w_Mod_kindOf {p : Program} {l : Launch} {e : Env} {R : Room} {s : State} {m : MethodId} {args : Array Value} {below : List Frame} {meth : Method} {c : Code} {cells slots : Nat} {Q : State → Prop} {g : gG} {A : Nat → Prop} {ad : Nat → Nat} (hx : p.tables.exec = Jvm.exec) (hb : c.code = b_Mod_kindOf) (hml : c.maxLocals = 5) (hown : s.vm.findClass "MacroMillModel" = some m.cls) (htt : ∀ w ∈ gt, w.before args s = true) (hK : va_K g.1 classes (tysG g) s) (hN : nw s) (hA : ∀ q : Nat, s.heap.size ≤ q → A q) (hRf : 1 ≤ R.frames) (hRl : 22 ≤ R.locals) (hRc : cells ≤ R.cells) (hRs : slots ≤ R.slots) (r : Int32) (S9 : sS)
    (kx_87 : ∀ (ls : Array Slot) (H : Heap) (locs : List Loc), va_P g.1 classes (Sw shM g ad S9) H → va_D A (Sw shM g ad S9) → va_S A s.heap H locs → W p l e R s m args below meth c H locs cells slots Q (F0 m 87 ls [.int r]))
    (kx_124 : ∀ (ls : Array Slot) (H : Heap) (locs : List Loc), va_P g.1 classes (Sw shM g ad S9) H → va_D A (Sw shM g ad S9) → va_S A s.heap H locs → W p l e R s m args below meth c H locs cells slots Q (F0 m 124 ls [.int r])) :
    ∀ k9 : Nat, (∀ (S : sS) (L : Nat → Int32) (M : Nat → Int64) (ls : Array Slot) (H : Heap) (locs : List Loc), f_Mod_kindOf k9 0 S L M = some (r, S9) → lv_has ls 5 [(0, .ref (ad 0)), (1, .int (L 1))] → va_P g.1 classes (Sw shM g ad S) H → va_D A (Sw shM g ad S) → va_S A s.heap H locs → W p l e R s m args below meth c H locs cells slots Q (F0 m 0 ls [])) ∧ (∀ (S : sS) (L : Nat → Int32) (M : Nat → Int64) (ls : Array Slot) (H : Heap) (locs : List Loc), f_Mod_kindOf k9 1 S L M = some (r, S9) → lv_has ls 5 [(0, .ref (ad 0)), (1, .int (L 1)), (2, .int (L 2))] → va_P g.1 classes (Sw shM g ad S) H → va_D A (Sw shM g ad S) → va_S A s.heap H locs → W p l e R s m args below meth c H locs cells slots Q (F0 m 27 ls [.int (L 100)])) ∧ (∀ (S : sS) (L : Nat → Int32) (M : Nat → Int64) (ls : Array Slot) (H : Heap) (locs : List Loc), f_Mod_kindOf k9 2 S L M = some (r, S9) → lv_has ls 5 [(0, .ref (ad 0)), (1, .int (L 1)), (2, .int (L 2)), (3, .int (L 3))] → va_P g.1 classes (Sw shM g ad S) H → va_D A (Sw shM g ad S) → va_S A s.heap H locs → W p l e R s m args below meth c H locs cells slots Q (F0 m 46 ls [])) ∧ (∀ (S : sS) (L : Nat → Int32) (M : Nat → Int64) (ls : Array Slot) (H : Heap) (locs : List Loc), f_Mod_kindOf k9 3 S L M = some (r, S9) → lv_has ls 5 [(0, .ref (ad 0)), (1, .int (L 1)), (2, .int (L 2)), (3, .int (L 3))] → va_P g.1 classes (Sw shM g ad S) H → va_D A (Sw shM g ad S) → va_S A s.heap H locs → W p l e R s m args below meth c H locs cells slots Q (F0 m 50 ls [])) ∧ (∀ (S : sS) (L : Nat → Int32) (M : Nat → Int64) (ls : Array Slot) (H : Heap) (locs : List Loc), f_Mod_kindOf k9 4 S L M = some (r, S9) → lv_has ls 5 [(0, .ref (ad 0)), (1, .int (L 1)), (2, .int (L 2)), (3, .int (L 3))] → va_P g.1 classes (Sw shM g ad S) H → va_D A (Sw shM g ad S) → va_S A s.heap H locs → W p l e R s m args below meth c H locs cells slots Q (F0 m 59 ls [.int (L 100)])) ∧ (∀ (S : sS) (L : Nat → Int32) (M : Nat → Int64) (ls : Array Slot) (H : Heap) (locs : List Loc), f_Mod_kindOf k9 5 S L M = some (r, S9) → lv_has ls 5 [(0, .ref (ad 0)), (1, .int (L 1)), (2, .int (L 2)), (3, .int (L 3)), (4, .int (L 4))] → va_P g.1 classes (Sw shM g ad S) H → va_D A (Sw shM g ad S) → va_S A s.heap H locs → W p l e R s m args below meth c H locs cells slots Q (F0 m 75 ls [])) ∧ (∀ (S : sS) (L : Nat → Int32) (M : Nat → Int64) (ls : Array Slot) (H : Heap) (locs : List Loc), f_Mod_kindOf k9 6 S L M = some (r, S9) → lv_has ls 5 [(0, .ref (ad 0)), (1, .int (L 1)), (2, .int (L 2)), (3, .int (L 3)), (4, .int (L 4))] → va_P g.1 classes (Sw shM g ad S) H → va_D A (Sw shM g ad S) → va_S A s.heap H locs → W p l e R s m args below meth c H locs cells slots Q (F0 m 87 ls [.int (L 100)])) ∧ (∀ (S : sS) (L : Nat → Int32) (M : Nat → Int64) (ls : Array Slot) (H : Heap) (locs : List Loc), f_Mod_kindOf k9 7 S L M = some (r, S9) → lv_has ls 5 [(0, .ref (ad 0)), (1, .int (L 1)), (2, .int (L 2)), (3, .int (L 3)), (4, .int (L 4))] → va_P g.1 classes (Sw shM g ad S) H → va_D A (Sw shM g ad S) → va_S A s.heap H locs → W p l e R s m args below meth c H locs cells slots Q (F0 m 119 ls [])) ∧ (∀ (S : sS) (L : Nat → Int32) (M : Nat → Int64) (ls : Array Slot) (H : Heap) (locs : List Loc), f_Mod_kindOf k9 8 S L M = some (r, S9) → lv_has ls 5 [(0, .ref (ad 0)), (1, .int (L 1)), (2, .int (L 2)), (3, .int (L 3)), (4, .int (L 4))] → va_P g.1 classes (Sw shM g ad S) H → va_D A (Sw shM g ad S) → va_S A s.heap H locs → W p l e R s m args below meth c H locs cells slots Q (F0 m 123 ls [])) ∧ (∀ (S : sS) (L : Nat → Int32) (M : Nat → Int64) (ls : Array Slot) (H : Heap) (locs : List Loc), f_Mod_kindOf k9 9 S L M = some (r, S9) → lv_has ls 5 [(0, .ref (ad 0)), (1, .int (L 1)), (2, .int (L 2)), (3, .int (L 3)), (4, .int (L 4))] → va_P g.1 classes (Sw shM g ad S) H → va_D A (Sw shM g ad S) → va_S A s.heap H locs → W p l e R s m args below meth c H locs cells slots Q (F0 m 124 ls [.int (L 100)])) := by
  intro k9
  induction k9 with
  | zero => exact ⟨(fun _ _ _ _ _ _ h => by simp [f_Mod_kindOf] at h), (fun _ _ _ _ _ _ h => by simp [f_Mod_kindOf] at h), (fun _ _ _ _ _ _ h => by simp [f_Mod_kindOf] at h), (fun _ _ _ _ _ _ h => by simp [f_Mod_kindOf] at h), (fun _ _ _ _ _ _ h => by simp [f_Mod_kindOf] at h), (fun _ _ _ _ _ _ h => by simp [f_Mod_kindOf] at h), (fun _ _ _ _ _ _ h => by simp [f_Mod_kindOf] at h), (fun _ _ _ _ _ _ h => by simp [f_Mod_kindOf] at h), (fun _ _ _ _ _ _ h => by simp [f_Mod_kindOf] at h), (fun _ _ _ _ _ _ h => by simp [f_Mod_kindOf] at h)⟩
  | succ k9 ih =>
    refine ⟨?_, ?_, ?_, ?_, ?_, ?_, ?_, ?_, ?_, ?_⟩
    · intro S L M ls H locs h hl hP hD hS
      simp only [f_Mod_kindOf] at h
      refine lv_aload_n hx hb d_Mod_kindOf_0 rfl (lv_at hl 0 rfl) ?_
      refine lv_iload_n hx hb d_Mod_kindOf_1 rfl (lv_at hl 1 rfl) ?_
      refine lv_iconst (v := 0) hx hb d_Mod_kindOf_2 (by decide) ?_
      obtain ⟨⟨r1, T1⟩, hq1, h⟩ := Option.bind_eq_some_iff.mp h
      try dsimp only at h
      refine go_iS (As := [.ref (ad 0), .int (L 1), .int 0]) (g := g) (A := A) (h := shM) hP hK hD hS hA hN (fun hp => va_runV (As := [.int (L 1), .int 0]) (rest := []) ⟨hx, hb, hml, hown, htt⟩ (t_Mod_byteOf l g _ ad S (L 1 : Int32) (0 : Int32) k9 r1 T1 hq1) ⟨(cb_L htt k_3016 k_276 k_3013 hd_Mod_byteOf ⟨(Nat.le_trans (by decide +kernel) hRf), (Nat.le_trans (by decide +kernel) hRl)⟩), htt _ k_3015, htt _ k_193⟩ ⟨hp.1, S_recv hK hP 0 rfl rfl, hp.2⟩ rfl rfl hl.1 rfl (lv_room (Nat.le_of_ble_eq_true rfl)) d_Mod_kindOf_3 ⟨hRc, hRs⟩) (fun r0 Sn H locs hw9 hP hD hS => ?_)
      obtain ⟨e9, e8⟩ := hw9
      rw [e8] at hP hD
      refine W.widen (k := cells) (n := slots) (Nat.le_refl _) (Nat.le_refl _) ?_
      refine toI (y := r1) e9 ?_
      refine lv_istore_n (lv' := [(2, .int r1), (0, .ref (ad 0)), (1, .int (L 1))]) hx hb d_Mod_kindOf_6 rfl hl (by decide) rfl (fun ls hl => ?_)
      refine lv_aload_n hx hb d_Mod_kindOf_7 rfl (lv_at hl 1 rfl) ?_
      refine S_getR (h := shM) (C := "MacroMillModel") (T := F_Mod) hx hb htt in_Mod hown hK hP 0 69 rfl 29 rfl rfl (by decide) (htt _ k_2305) (fun _ h9 => h9) d_Mod_kindOf_8 ?_
      refine lv_iload_n hx hb d_Mod_kindOf_11 rfl (lv_at hl 2 rfl) ?_
      obtain ⟨hv2, h⟩ := chk h
      refine S_iald (h := shM) (i := L 1) hx hb hK hP 28 rfl (okI_in hv2) d_Mod_kindOf_12 ?_
      refine lv_iconst (v := 1) hx hb d_Mod_kindOf_13 (by decide) ?_
      refine lv_icmp_le (tgt := 26) hx hb d_Mod_kindOf_14 (by decide) (fun hc3 => ?_) (fun hc3 => ?_)
      · rw [if_pos hc3] at h
        refine lv_iconst (v := (-1)) hx hb d_Mod_kindOf_26 (by decide) ?_
        exact (ih.2.1) T1 (upd (upd L 2 r1) 100 ((-1) : Int32)) M ls H locs h (lv_sub hl [1, 2, 0] rfl) hP hD hS
      · rw [if_neg hc3] at h
        refine lv_aload_n hx hb d_Mod_kindOf_17 rfl (lv_at hl 1 rfl) ?_
        refine lv_iload_n hx hb d_Mod_kindOf_18 rfl (lv_at hl 2 rfl) ?_
        show W _ _ _ _ _ _ _ _ _ _ _ _ _ _ _ (F0 _ 19 _ _)
        refine lv_iconst (v := 1) hx hb d_Mod_kindOf_19 (by decide) ?_
        obtain ⟨⟨r4, T4⟩, hq4, h⟩ := Option.bind_eq_some_iff.mp h
        try dsimp only at h
        refine go_iS (As := [.ref (ad 0), .int (L 1), .int 1]) (g := g) (A := A) (h := shM) hP hK hD hS hA hN (fun hp => va_runV (As := [.int (L 1), .int 1]) (rest := []) ⟨hx, hb, hml, hown, htt⟩ (t_Mod_byteOf l g _ ad T1 (L 1 : Int32) (1 : Int32) k9 r4 T4 hq4) ⟨(cb_L htt k_3016 k_276 k_3013 hd_Mod_byteOf ⟨(Nat.le_trans (by decide +kernel) hRf), (Nat.le_trans (by decide +kernel) hRl)⟩), htt _ k_3015, htt _ k_193⟩ ⟨hp.1, S_recv hK hP 0 rfl rfl, hp.2⟩ rfl rfl hl.1 rfl (lv_room (Nat.le_of_ble_eq_true rfl)) d_Mod_kindOf_20 ⟨hRc, hRs⟩) (fun r0 Sn H locs hw9 hP hD hS => ?_)
        obtain ⟨e9, e8⟩ := hw9
        rw [e8] at hP hD
        refine W.widen (k := cells) (n := slots) (Nat.le_refl _) (Nat.le_refl _) ?_
        refine toI (y := r4) e9 ?_
        refine lv_goto (tgt := 27) hx hb d_Mod_kindOf_23 (by decide) ?_
        exact (ih.2.1) T4 (upd (upd L 2 r1) 100 r4) M ls H locs h (lv_sub hl [1, 2, 0] rfl) hP hD hS
    · intro S L M ls H locs h hl hP hD hS
      simp only [f_Mod_kindOf] at h
      refine lv_istore_n (lv' := [(3, .int (L 100)), (0, .ref (ad 0)), (1, .int (L 1)), (2, .int (L 2))]) hx hb d_Mod_kindOf_27 rfl hl (by decide) rfl (fun ls hl => ?_)
      refine lv_iload_n hx hb d_Mod_kindOf_28 rfl (lv_at hl 3 rfl) ?_
      refine lv_bipush (v := 76) hx hb d_Mod_kindOf_29 (by decide) ?_
      refine lv_icmp_ne (tgt := 50) hx hb d_Mod_kindOf_31 (by decide) (fun hc1 => ?_) (fun hc1 => ?_)
      · rw [if_neg hc1] at h
        exact (ih.2.2.2.1) S (upd L 3 (L 100)) M ls H locs h (lv_sub hl [1, 2, 3, 0] rfl) hP hD hS
      · rw [if_pos hc1] at h
        refine lv_iload_n hx hb d_Mod_kindOf_34 rfl (lv_at hl 0 rfl) ?_
        refine lv_bipush (v := 34) hx hb d_Mod_kindOf_35 (by decide) ?_
        refine lv_icmp_eq (tgt := 46) hx hb d_Mod_kindOf_37 (by decide) (fun hc2 => ?_) (fun hc2 => ?_)
        · rw [if_pos hc2] at h
          exact (ih.2.2.1) S (upd L 3 (L 100)) M ls H locs h (lv_sub hl [1, 2, 3, 0] rfl) hP hD hS
        · rw [if_neg hc2] at h
          refine lv_iload_n hx hb d_Mod_kindOf_40 rfl (lv_at hl 0 rfl) ?_
          refine lv_bipush (v := 39) hx hb d_Mod_kindOf_41 (by decide) ?_
          refine lv_icmp_ne (tgt := 50) hx hb d_Mod_kindOf_43 (by decide) (fun hc3 => ?_) (fun hc3 => ?_)
          · rw [if_neg hc3] at h
            exact (ih.2.2.2.1) S (upd L 3 (L 100)) M ls H locs h (lv_sub hl [1, 2, 3, 0] rfl) hP hD hS
          · rw [if_pos hc3] at h
            exact (ih.2.2.1) S (upd L 3 (L 100)) M ls H locs h (lv_sub hl [1, 2, 3, 0] rfl) hP hD hS
    · intro S L M ls H locs h hl hP hD hS
      simp only [f_Mod_kindOf] at h
      refine lv_iload_n hx hb d_Mod_kindOf_46 rfl (lv_at hl 3 rfl) ?_
      refine lv_goto (tgt := 59) hx hb d_Mod_kindOf_47 (by decide) ?_
      exact (ih.2.2.2.2.1) S (upd L 100 (L 3)) M ls H locs h (lv_sub hl [0, 1, 2, 3] rfl) hP hD hS
    · intro S L M ls H locs h hl hP hD hS
      simp only [f_Mod_kindOf] at h
      refine lv_iload_n hx hb d_Mod_kindOf_50 rfl (lv_at hl 3 rfl) ?_
      refine lv_if_lt (tgt := 58) hx hb d_Mod_kindOf_51 (by decide) (fun hc1 => ?_) (fun hc1 => ?_)
      · rw [if_pos hc1] at h
        refine lv_iconst (v := (-1)) hx hb d_Mod_kindOf_58 (by decide) ?_
        exact (ih.2.2.2.2.1) S (upd L 100 ((-1) : Int32)) M ls H locs h (lv_sub hl [0, 1, 2, 3] rfl) hP hD hS
      · rw [if_neg hc1] at h
        refine lv_iload_n hx hb d_Mod_kindOf_54 rfl (lv_at hl 2 rfl) ?_
        refine lv_goto (tgt := 59) hx hb d_Mod_kindOf_55 (by decide) ?_
        exact (ih.2.2.2.2.1) S (upd L 100 (L 2)) M ls H locs h (lv_sub hl [0, 1, 2, 3] rfl) hP hD hS
    · intro S L M ls H locs h hl hP hD hS
      simp only [f_Mod_kindOf] at h
      refine lv_istore (lv' := [(4, .int (L 100)), (0, .ref (ad 0)), (1, .int (L 1)), (2, .int (L 2)), (3, .int (L 3))]) hx hb d_Mod_kindOf_59 hl (by decide) rfl (fun ls hl => ?_)
      refine lv_iload hx hb d_Mod_kindOf_61 (lv_at hl 0 rfl) ?_
      refine lv_bipush (v := 34) hx hb d_Mod_kindOf_63 (by decide) ?_
      refine lv_icmp_eq (tgt := 75) hx hb d_Mod_kindOf_65 (by decide) (fun hc1 => ?_) (fun hc1 => ?_)
      · rw [if_pos hc1] at h
        exact (ih.2.2.2.2.2.1) S (upd L 4 (L 100)) M ls H locs h (lv_sub hl [1, 2, 3, 4, 0] rfl) hP hD hS
      · rw [if_neg hc1] at h
        refine lv_iload hx hb d_Mod_kindOf_68 (lv_at hl 0 rfl) ?_
        refine lv_bipush (v := 39) hx hb d_Mod_kindOf_70 (by decide) ?_
        refine lv_icmp_ne (tgt := 88) hx hb d_Mod_kindOf_72 (by decide) (fun hc2 => ?_) (fun hc2 => ?_)
        · rw [if_neg hc2] at h
          refine lv_iload_n hx hb d_Mod_kindOf_88 rfl (lv_at hl 3 rfl) ?_
          obtain ⟨⟨r3, T3⟩, hq3, h⟩ := Option.bind_eq_some_iff.mp h
          try dsimp only at h
          refine go_iS (As := [.int (L 2)]) (g := g) (A := A) (h := shM) hP hK hD hS hA hN (fun hp => va_runS (As := [.int (L 2)]) (rest := []) ⟨hx, hb, hml, hown, htt⟩ (t_Mod_isLetter l g _ ad S (L 2 : Int32) k9 r3 T3 hq3) ⟨(cb_L htt k_2774 k_276 k_2772 hd_Mod_isLetter ⟨(Nat.le_trans (by decide +kernel) hRf), (Nat.le_trans (by decide +kernel) hRl)⟩), htt _ k_2773⟩ hp rfl rfl hl.1 rfl (lv_room (Nat.le_of_ble_eq_true rfl)) d_Mod_kindOf_89 ⟨hRc, hRs⟩) (fun r0 Sn H locs hw9 hP hD hS => ?_)
          obtain ⟨e9, e8⟩ := hw9
          rw [e8] at hP hD
          refine W.widen (k := cells) (n := slots) (Nat.le_refl _) (Nat.le_refl _) ?_
          refine toI (y := r3) e9 ?_
          refine lv_if_eq (tgt := 99) hx hb d_Mod_kindOf_92 (by decide) (fun hc4 => ?_) (fun hc4 => ?_)
          · rw [if_pos hc4] at h
            refine lv_iload_n hx hb d_Mod_kindOf_99 rfl (lv_at hl 3 rfl) ?_
            obtain ⟨⟨r5, T5⟩, hq5, h⟩ := Option.bind_eq_some_iff.mp h
            try dsimp only at h
            refine go_iS (As := [.int (L 2)]) (g := g) (A := A) (h := shM) hP hK hD hS hA hN (fun hp => va_runS (As := [.int (L 2)]) (rest := []) ⟨hx, hb, hml, hown, htt⟩ (t_Mod_isDigit l g _ ad T3 (L 2 : Int32) k9 r5 T5 hq5) ⟨(cb_L htt k_2777 k_276 k_2775 hd_Mod_isDigit ⟨(Nat.le_trans (by decide +kernel) hRf), (Nat.le_trans (by decide +kernel) hRl)⟩), htt _ k_2776⟩ hp rfl rfl hl.1 rfl (lv_room (Nat.le_of_ble_eq_true rfl)) d_Mod_kindOf_100 ⟨hRc, hRs⟩) (fun r0 Sn H locs hw9 hP hD hS => ?_)
            obtain ⟨e9, e8⟩ := hw9
            rw [e8] at hP hD
            refine W.widen (k := cells) (n := slots) (Nat.le_refl _) (Nat.le_refl _) ?_
            refine toI (y := r5) e9 ?_
            refine lv_if_ne (tgt := 119) hx hb d_Mod_kindOf_103 (by decide) (fun hc6 => ?_) (fun hc6 => ?_)
            · rw [if_neg hc6] at h
              exact (ih.2.2.2.2.2.2.2.1) T5 (upd L 4 (L 100)) M ls H locs h (lv_sub hl [1, 2, 3, 4, 0] rfl) hP hD hS
            · rw [if_pos hc6] at h
              refine lv_iload_n hx hb d_Mod_kindOf_106 rfl (lv_at hl 3 rfl) ?_
              refine lv_bipush (v := 46) hx hb d_Mod_kindOf_107 (by decide) ?_
              refine lv_icmp_ne (tgt := 123) hx hb d_Mod_kindOf_109 (by decide) (fun hc7 => ?_) (fun hc7 => ?_)
              · rw [if_neg hc7] at h
                exact (ih.2.2.2.2.2.2.2.2.1) T5 (upd L 4 (L 100)) M ls H locs h (lv_sub hl [1, 2, 3, 4, 0] rfl) hP hD hS
              · rw [if_pos hc7] at h
                refine lv_iload_n hx hb d_Mod_kindOf_112 rfl (lv_at hl 4 rfl) ?_
                obtain ⟨⟨r8, T8⟩, hq8, h⟩ := Option.bind_eq_some_iff.mp h
                try dsimp only at h
                refine go_iS (As := [.int (L 3)]) (g := g) (A := A) (h := shM) hP hK hD hS hA hN (fun hp => va_runS (As := [.int (L 3)]) (rest := []) ⟨hx, hb, hml, hown, htt⟩ (t_Mod_isDigit l g _ ad T5 (L 3 : Int32) k9 r8 T8 hq8) ⟨(cb_L htt k_2777 k_276 k_2775 hd_Mod_isDigit ⟨(Nat.le_trans (by decide +kernel) hRf), (Nat.le_trans (by decide +kernel) hRl)⟩), htt _ k_2776⟩ hp rfl rfl hl.1 rfl (lv_room (Nat.le_of_ble_eq_true rfl)) d_Mod_kindOf_113 ⟨hRc, hRs⟩) (fun r0 Sn H locs hw9 hP hD hS => ?_)
                obtain ⟨e9, e8⟩ := hw9
                rw [e8] at hP hD
                refine W.widen (k := cells) (n := slots) (Nat.le_refl _) (Nat.le_refl _) ?_
                refine toI (y := r8) e9 ?_
                refine lv_if_eq (tgt := 123) hx hb d_Mod_kindOf_116 (by decide) (fun hc9 => ?_) (fun hc9 => ?_)
                · rw [if_pos hc9] at h
                  exact (ih.2.2.2.2.2.2.2.2.1) T8 (upd L 4 (L 100)) M ls H locs h (lv_sub hl [1, 2, 3, 4, 0] rfl) hP hD hS
                · rw [if_neg hc9] at h
                  exact (ih.2.2.2.2.2.2.2.1) T8 (upd L 4 (L 100)) M ls H locs h (lv_sub hl [1, 2, 3, 4, 0] rfl) hP hD hS
          · rw [if_neg hc4] at h
            refine lv_iconst (v := 1) hx hb d_Mod_kindOf_95 (by decide) ?_
            refine lv_goto (tgt := 124) hx hb d_Mod_kindOf_96 (by decide) ?_
            exact (ih.2.2.2.2.2.2.2.2.2) T3 (upd (upd L 4 (L 100)) 100 (1 : Int32)) M ls H locs h (lv_sub hl [1, 2, 3, 4, 0] rfl) hP hD hS
        · rw [if_pos hc2] at h
          exact (ih.2.2.2.2.2.1) S (upd L 4 (L 100)) M ls H locs h (lv_sub hl [1, 2, 3, 4, 0] rfl) hP hD hS
    · intro S L M ls H locs h hl hP hD hS
      simp only [f_Mod_kindOf] at h
      refine lv_iload hx hb d_Mod_kindOf_75 (lv_at hl 4 rfl) ?_
      refine lv_bipush (v := 34) hx hb d_Mod_kindOf_77 (by decide) ?_
      refine lv_icmp_ne (tgt := 86) hx hb d_Mod_kindOf_79 (by decide) (fun hc1 => ?_) (fun hc1 => ?_)
      · rw [if_neg hc1] at h
        refine lv_iconst (v := 4) hx hb d_Mod_kindOf_86 (by decide) ?_
        exact (ih.2.2.2.2.2.2.1) S (upd L 100 (4 : Int32)) M ls H locs h (lv_sub hl [0, 1, 2, 3, 4] rfl) hP hD hS
      · rw [if_pos hc1] at h
        refine lv_iconst (v := 3) hx hb d_Mod_kindOf_82 (by decide) ?_
        refine lv_goto (tgt := 87) hx hb d_Mod_kindOf_83 (by decide) ?_
        exact (ih.2.2.2.2.2.2.1) S (upd L 100 (3 : Int32)) M ls H locs h (lv_sub hl [0, 1, 2, 3, 4] rfl) hP hD hS
    · intro S L M ls H locs h hl hP hD hS
      simp only [f_Mod_kindOf] at h
      cases h
      exact kx_87 ls H locs hP hD hS
    · intro S L M ls H locs h hl hP hD hS
      simp only [f_Mod_kindOf] at h
      refine lv_iconst (v := 2) hx hb d_Mod_kindOf_119 (by decide) ?_
      refine lv_goto (tgt := 124) hx hb d_Mod_kindOf_120 (by decide) ?_
      exact (ih.2.2.2.2.2.2.2.2.2) S (upd L 100 (2 : Int32)) M ls H locs h (lv_sub hl [0, 1, 2, 3, 4] rfl) hP hD hS
    · intro S L M ls H locs h hl hP hD hS
      simp only [f_Mod_kindOf] at h
      refine lv_iconst (v := 5) hx hb d_Mod_kindOf_123 (by decide) ?_
      exact (ih.2.2.2.2.2.2.2.2.2) S (upd L 100 (5 : Int32)) M ls H locs h (lv_sub hl [0, 1, 2, 3, 4] rfl) hP hD hS
    · intro S L M ls H locs h hl hP hD hS
      simp only [f_Mod_kindOf] at h
      cases h
      exact kx_124 ls H locs hP hD hS
abbrev rm_t_Mod_kindOf : Room := { frames := 1, cells := 0, slots := 0, locals := 22 }
theorem t_Mod_kindOf (l : Launch) (g : gG) (sz : Nat) (ad : Nat → Nat) (S : sS) (v1 : Int32) (k : Nat) (r : Int32) (S9 : sS) (h : f_Mod_kindOf k 0 S (upd (fun _ => 0) 1 v1) (fun _ => 0) = some (r, S9)) : Ci l y_Mod_kindOf b_Mod_kindOf 5 rm_t_Mod_kindOf g [.ref (ad 0), .int v1] (Sw shM g ad S) sz (fun r1 w => ∃ S1 : sS, w = Sw shM g ad S1 ∧ r1 = r ∧ S1 = S9) := by
  refine startI (by decide) (Nat.le_of_ble_eq_true rfl) ?_
  intro p e s m below meth c A ls hx hb hr hml hlocks hmn hown htt hN hA hP hK hD hS hl
  exact (w_Mod_kindOf hx hb hml hown htt hK hN hA (by decide +kernel) (by decide +kernel) (by decide +kernel) (by decide +kernel) r S9 (fun ls H locs hP hD hS => fin_i (g := g) (ws := Sw shM g ad S9) hx hb hr hlocks (by decide +kernel) (by decide +kernel) hP hD hS ⟨_, rfl, rfl, rfl⟩ d_Mod_kindOf_87) (fun ls H locs hP hD hS => fin_i (g := g) (ws := Sw shM g ad S9) hx hb hr hlocks (by decide +kernel) (by decide +kernel) hP hD hS ⟨_, rfl, rfl, rfl⟩ d_Mod_kindOf_124) k).1 S (upd (fun _ => 0) 1 v1) (fun _ => 0) ls _ _ h hl hP hD hS
def f_Mod_isName : Nat → Nat → sS → (Nat → Int32) → (Nat → Int64) → Option (Int32 × sS)
  | 0, _, _, _, _ => none
  | k + 1, 0, S, L, M => if (L 1) < (0 : Int32) then (f_Mod_isName k 1 S L M) else ((f_Mod_kindOf k 0 S (upd (fun _ => 0) 1 (L 1 : Int32)) (fun _ => 0)).bind (fun (r2, T2) => if r2 = (1 : Int32) then (f_Mod_isName k 2 T2 (upd L 100 (1 : Int32)) M) else (f_Mod_isName k 1 T2 L M)))
  | k + 1, 1, S, L, M => f_Mod_isName k 2 S (upd L 100 (0 : Int32)) M
  | k + 1, 2, S, L, M => if bz (L 100) = true then some (L 100, S) else none
  | _ + 1, _ + 3, _, _, _ => none
set_option maxHeartbeats 8000000 in
set_option maxRecDepth 100000 in
theorem w_Mod_isName {p : Program} {l : Launch} {e : Env} {R : Room} {s : State} {m : MethodId} {args : Array Value} {below : List Frame} {meth : Method} {c : Code} {cells slots : Nat} {Q : State → Prop} {g : gG} {A : Nat → Prop} {ad : Nat → Nat} (hx : p.tables.exec = Jvm.exec) (hb : c.code = b_Mod_isName) (hml : c.maxLocals = 2) (hown : s.vm.findClass "MacroMillModel" = some m.cls) (htt : ∀ w ∈ gt, w.before args s = true) (hK : va_K g.1 classes (tysG g) s) (hN : nw s) (hA : ∀ q : Nat, s.heap.size ≤ q → A q) (hRf : 2 ≤ R.frames) (hRl : 46 ≤ R.locals) (hRc : cells ≤ R.cells) (hRs : slots ≤ R.slots) (r : Int32) (S9 : sS)
    (kx_18 : ∀ (ls : Array Slot) (H : Heap) (locs : List Loc), narrow .boolean (.int r) = .int r → va_P g.1 classes (Sw shM g ad S9) H → va_D A (Sw shM g ad S9) → va_S A s.heap H locs → W p l e R s m args below meth c H locs cells slots Q (F0 m 18 ls [.int r])) :
    ∀ k9 : Nat, (∀ (S : sS) (L : Nat → Int32) (M : Nat → Int64) (ls : Array Slot) (H : Heap) (locs : List Loc), f_Mod_isName k9 0 S L M = some (r, S9) → lv_has ls 2 [(0, .ref (ad 0)), (1, .int (L 1))] → va_P g.1 classes (Sw shM g ad S) H → va_D A (Sw shM g ad S) → va_S A s.heap H locs → W p l e R s m args below meth c H locs cells slots Q (F0 m 0 ls [])) ∧ (∀ (S : sS) (L : Nat → Int32) (M : Nat → Int64) (ls : Array Slot) (H : Heap) (locs : List Loc), f_Mod_isName k9 1 S L M = some (r, S9) → lv_has ls 2 [(0, .ref (ad 0)), (1, .int (L 1))] → va_P g.1 classes (Sw shM g ad S) H → va_D A (Sw shM g ad S) → va_S A s.heap H locs → W p l e R s m args below meth c H locs cells slots Q (F0 m 17 ls [])) ∧ (∀ (S : sS) (L : Nat → Int32) (M : Nat → Int64) (ls : Array Slot) (H : Heap) (locs : List Loc), f_Mod_isName k9 2 S L M = some (r, S9) → lv_has ls 2 [(0, .ref (ad 0)), (1, .int (L 1))] → va_P g.1 classes (Sw shM g ad S) H → va_D A (Sw shM g ad S) → va_S A s.heap H locs → W p l e R s m args below meth c H locs cells slots Q (F0 m 18 ls [.int (L 100)])) := by
  intro k9
  induction k9 with
  | zero => exact ⟨(fun _ _ _ _ _ _ h => by simp [f_Mod_isName] at h), (fun _ _ _ _ _ _ h => by simp [f_Mod_isName] at h), (fun _ _ _ _ _ _ h => by simp [f_Mod_isName] at h)⟩
  | succ k9 ih =>
    refine ⟨?_, ?_, ?_⟩
    · intro S L M ls H locs h hl hP hD hS
      simp only [f_Mod_isName] at h
      refine lv_iload_n hx hb d_Mod_isName_0 rfl (lv_at hl 1 rfl) ?_
      refine lv_if_lt (tgt := 17) hx hb d_Mod_isName_1 (by decide) (fun hc1 => ?_) (fun hc1 => ?_)
      · rw [if_pos hc1] at h
        exact (ih.2.1) S L M ls H locs h (lv_sub hl [0, 1] rfl) hP hD hS
      · rw [if_neg hc1] at h
        refine lv_aload_n hx hb d_Mod_isName_4 rfl (lv_at hl 0 rfl) ?_
        refine lv_iload_n hx hb d_Mod_isName_5 rfl (lv_at hl 1 rfl) ?_
        obtain ⟨⟨r2, T2⟩, hq2, h⟩ := Option.bind_eq_some_iff.mp h
        try dsimp only at h
        refine go_iS (As := [.ref (ad 0), .int (L 1)]) (g := g) (A := A) (h := shM) hP hK hD hS hA hN (fun hp => va_runV (As := [.int (L 1)]) (rest := []) ⟨hx, hb, hml, hown, htt⟩ (t_Mod_kindOf l g _ ad S (L 1 : Int32) k9 r2 T2 hq2) ⟨(cb_L htt k_3036 k_276 k_3033 hd_Mod_kindOf ⟨(Nat.le_trans (by decide +kernel) hRf), (Nat.le_trans (by decide +kernel) hRl)⟩), htt _ k_3035, htt _ k_198⟩ ⟨hp.1, S_recv hK hP 0 rfl rfl, hp.2⟩ rfl rfl hl.1 rfl (lv_room (Nat.le_of_ble_eq_true rfl)) d_Mod_isName_6 ⟨hRc, hRs⟩) (fun r0 Sn H locs hw9 hP hD hS => ?_)
        obtain ⟨e9, e8⟩ := hw9
        rw [e8] at hP hD
        refine W.widen (k := cells) (n := slots) (Nat.le_refl _) (Nat.le_refl _) ?_
        refine toI (y := r2) e9 ?_
        refine lv_iconst (v := 1) hx hb d_Mod_isName_9 (by decide) ?_
        refine lv_icmp_ne (tgt := 17) hx hb d_Mod_isName_10 (by decide) (fun hc3 => ?_) (fun hc3 => ?_)
        · rw [if_neg hc3] at h
          exact (ih.2.1) T2 L M ls H locs h (lv_sub hl [0, 1] rfl) hP hD hS
        · rw [if_pos hc3] at h
          refine lv_iconst (v := 1) hx hb d_Mod_isName_13 (by decide) ?_
          refine lv_goto (tgt := 18) hx hb d_Mod_isName_14 (by decide) ?_
          exact (ih.2.2) T2 (upd L 100 (1 : Int32)) M ls H locs h (lv_sub hl [0, 1] rfl) hP hD hS
    · intro S L M ls H locs h hl hP hD hS
      simp only [f_Mod_isName] at h
      refine lv_iconst (v := 0) hx hb d_Mod_isName_17 (by decide) ?_
      exact (ih.2.2) S (upd L 100 (0 : Int32)) M ls H locs h (lv_sub hl [0, 1] rfl) hP hD hS
    · intro S L M ls H locs h hl hP hD hS
      simp only [f_Mod_isName] at h
      obtain ⟨hv1, h⟩ := chk h
      cases h
      exact kx_18 ls H locs (bz_n hv1) hP hD hS
abbrev rm_t_Mod_isName : Room := { frames := 2, cells := 0, slots := 0, locals := 46 }
theorem t_Mod_isName (l : Launch) (g : gG) (sz : Nat) (ad : Nat → Nat) (S : sS) (v1 : Int32) (k : Nat) (r : Int32) (S9 : sS) (h : f_Mod_isName k 0 S (upd (fun _ => 0) 1 v1) (fun _ => 0) = some (r, S9)) : Cz l y_Mod_isName b_Mod_isName 2 rm_t_Mod_isName g [.ref (ad 0), .int v1] (Sw shM g ad S) sz (fun r1 w => ∃ S1 : sS, w = Sw shM g ad S1 ∧ r1 = r ∧ S1 = S9) := by
  refine startZ (by decide) (Nat.le_of_ble_eq_true rfl) ?_
  intro p e s m below meth c A ls hx hb hr hml hlocks hmn hown htt hN hA hP hK hD hS hl
  exact (w_Mod_isName hx hb hml hown htt hK hN hA (by decide +kernel) (by decide +kernel) (by decide +kernel) (by decide +kernel) r S9 (fun ls H locs hz hP hD hS => fin_z (g := g) (ws := Sw shM g ad S9) hx hb hr hlocks hz (by decide +kernel) (by decide +kernel) hP hD hS ⟨_, rfl, rfl, rfl⟩ d_Mod_isName_18) k).1 S (upd (fun _ => 0) 1 v1) (fun _ => 0) ls _ _ h hl hP hD hS
def f_Mod_byteAt (x1 : Nat) (nx1 : Nat) : Nat → Nat → sS → (Nat → Int32) → (Nat → Int64) → Option (Int32 × sS)
  | 0, _, _, _, _ => none
  | k + 1, 0, S, L, M => if (L 2) ≤ (L 1) then (f_Mod_byteAt x1 nx1 k 1 S (upd L 100 ((-1) : Int32)) M) else (if okI (L 1) nx1 = true then (f_Mod_byteAt x1 nx1 k 1 S (upd L 100 ((S.2.1 x1 (L 1 : Int32).toNatClampNeg) &&& (255 : Int32))) M) else none)
  | k + 1, 1, S, L, M => some (L 100, S)
  | _ + 1, _ + 2, _, _, _ => none
set_option maxHeartbeats 8000000 in
set_option maxRecDepth 100000 in
theorem w_Mod_byteAt {p : Program} {l : Launch} {e : Env} {R : Room} {s : State} {m : MethodId} {args : Array Value} {below : List Frame} {meth : Method} {c : Code} {cells slots : Nat} {Q : State → Prop} {g : gG} {A : Nat → Prop} {ad : Nat → Nat} (hx : p.tables.exec = Jvm.exec) (hb : c.code = b_Mod_byteAt) (hml : c.maxLocals = 3) (hown : s.vm.findClass "MacroMillModel" = some m.cls) (htt : ∀ w ∈ gt, w.before args s = true) (hK : va_K g.1 classes (tysG g) s) (hN : nw s) (hA : ∀ q : Nat, s.heap.size ≤ q → A q) (x1 : Nat) (nx1 : Nat) (hx1 : shM.2[x1]? = some (0, nx1)) (r : Int32) (S9 : sS)
    (kx_16 : ∀ (ls : Array Slot) (H : Heap) (locs : List Loc), va_P g.1 classes (Sw shM g ad S9) H → va_D A (Sw shM g ad S9) → va_S A s.heap H locs → W p l e R s m args below meth c H locs cells slots Q (F0 m 16 ls [.int r])) :
    ∀ k9 : Nat, (∀ (S : sS) (L : Nat → Int32) (M : Nat → Int64) (ls : Array Slot) (H : Heap) (locs : List Loc), f_Mod_byteAt x1 nx1 k9 0 S L M = some (r, S9) → lv_has ls 3 [(0, .ref (ad (shM.1.length + x1))), (1, .int (L 1)), (2, .int (L 2))] → va_P g.1 classes (Sw shM g ad S) H → va_D A (Sw shM g ad S) → va_S A s.heap H locs → W p l e R s m args below meth c H locs cells slots Q (F0 m 0 ls [])) ∧ (∀ (S : sS) (L : Nat → Int32) (M : Nat → Int64) (ls : Array Slot) (H : Heap) (locs : List Loc), f_Mod_byteAt x1 nx1 k9 1 S L M = some (r, S9) → lv_has ls 3 [(0, .ref (ad (shM.1.length + x1))), (1, .int (L 1)), (2, .int (L 2))] → va_P g.1 classes (Sw shM g ad S) H → va_D A (Sw shM g ad S) → va_S A s.heap H locs → W p l e R s m args below meth c H locs cells slots Q (F0 m 16 ls [.int (L 100)])) := by
  intro k9
  induction k9 with
  | zero => exact ⟨(fun _ _ _ _ _ _ h => by simp [f_Mod_byteAt] at h), (fun _ _ _ _ _ _ h => by simp [f_Mod_byteAt] at h)⟩
  | succ k9 ih =>
    refine ⟨?_, ?_⟩
    · intro S L M ls H locs h hl hP hD hS
      simp only [f_Mod_byteAt] at h
      refine lv_iload_n hx hb d_Mod_byteAt_0 rfl (lv_at hl 1 rfl) ?_
      refine lv_iload_n hx hb d_Mod_byteAt_1 rfl (lv_at hl 2 rfl) ?_
      refine lv_icmp_ge (tgt := 15) hx hb d_Mod_byteAt_2 (by decide) (fun hc1 => ?_) (fun hc1 => ?_)
      · rw [if_pos hc1] at h
        refine lv_iconst (v := (-1)) hx hb d_Mod_byteAt_15 (by decide) ?_
        exact (ih.2) S (upd L 100 ((-1) : Int32)) M ls H locs h (lv_sub hl [0, 1, 2] rfl) hP hD hS
      · rw [if_neg hc1] at h
        refine lv_aload_n hx hb d_Mod_byteAt_5 rfl (lv_at hl 0 rfl) ?_
        refine lv_iload_n hx hb d_Mod_byteAt_6 rfl (lv_at hl 1 rfl) ?_
        obtain ⟨hv2, h⟩ := chk h
        refine S_bald (h := shM) (i := L 1) hx hb hK hP x1 hx1 (okI_in hv2) d_Mod_byteAt_7 ?_
        refine lv_sipush (v := 255) hx hb d_Mod_byteAt_8 (by decide) ?_
        refine lv_iand hx hb d_Mod_byteAt_11 ?_
        refine lv_goto (tgt := 16) hx hb d_Mod_byteAt_12 (by decide) ?_
        exact (ih.2) S (upd L 100 ((S.2.1 x1 (L 1 : Int32).toNatClampNeg) &&& (255 : Int32))) M ls H locs h (lv_sub hl [0, 1, 2] rfl) hP hD hS
    · intro S L M ls H locs h hl hP hD hS
      simp only [f_Mod_byteAt] at h
      cases h
      exact kx_16 ls H locs hP hD hS
abbrev rm_t_Mod_byteAt : Room := { frames := 0, cells := 0, slots := 0, locals := 0 }
theorem t_Mod_byteAt (l : Launch) (g : gG) (sz : Nat) (ad : Nat → Nat) (S : sS) (x1 : Nat) (nx1 : Nat) (v2 : Int32) (v3 : Int32) (hx1 : shM.2[x1]? = some (0, nx1)) (k : Nat) (r : Int32) (S9 : sS) (h : f_Mod_byteAt x1 nx1 k 0 S (upd (upd (fun _ => 0) 1 v2) 2 v3) (fun _ => 0) = some (r, S9)) : Ci l y_Mod_byteAt b_Mod_byteAt 3 rm_t_Mod_byteAt g [.ref (ad (shM.1.length + x1)), .int v2, .int v3] (Sw shM g ad S) sz (fun r1 w => ∃ S1 : sS, w = Sw shM g ad S1 ∧ r1 = r ∧ S1 = S9) := by
  refine startI (by decide) (Nat.le_of_ble_eq_true rfl) ?_
  intro p e s m below meth c A ls hx hb hr hml hlocks hmn hown htt hN hA hP hK hD hS hl
  exact (w_Mod_byteAt hx hb hml hown htt hK hN hA x1 nx1 hx1 r S9 (fun ls H locs hP hD hS => fin_i (g := g) (ws := Sw shM g ad S9) hx hb hr hlocks (by decide +kernel) (by decide +kernel) hP hD hS ⟨_, rfl, rfl, rfl⟩ d_Mod_byteAt_16) k).1 S (upd (upd (fun _ => 0) 1 v2) 2 v3) (fun _ => 0) ls _ _ h hl hP hD hS
def f_Mod_quotedEnd : Nat → Nat → sS → (Nat → Int32) → (Nat → Int64) → Option (Int32 × sS)
  | 0, _, _, _, _ => none
  | k + 1, 0, S, L, M => if okI (L 1) 125552 = true then (f_Mod_quotedEnd k 1 S (upd (upd L 3 ((S.2.1 23 (L 1 : Int32).toNatClampNeg) &&& (255 : Int32))) 4 ((L 1) + (1 : Int32))) M) else none
  | k + 1, 1, S, L, M => if (L 2) ≤ (L 4) then (f_Mod_quotedEnd k 4 S L M) else (if okI (L 4) 125552 = true then (if (S.2.1 23 (L 4 : Int32).toNatClampNeg) = (10 : Int32) then (f_Mod_quotedEnd k 4 S L M) else (if okI (L 4) 125552 = true then (if ((S.2.1 23 (L 4 : Int32).toNatClampNeg) &&& (255 : Int32)) = (L 3) then (f_Mod_quotedEnd k 4 S L M) else (if okI (L 4) 125552 = true then (if (S.2.1 23 (L 4 : Int32).toNatClampNeg) = (92 : Int32) then (if (L 2) ≤ ((L 4) + (1 : Int32)) then (f_Mod_quotedEnd k 2 S L M) else (if okI ((L 4) + (1 : Int32)) 125552 = true then (if (S.2.1 23 ((L 4) + (1 : Int32) : Int32).toNatClampNeg) = (10 : Int32) then (f_Mod_quotedEnd k 2 S L M) else (f_Mod_quotedEnd k 3 S (upd L 100 ((L 4) + (2 : Int32))) M)) else none)) else (f_Mod_quotedEnd k 2 S L M)) else none)) else none)) else none)
  | k + 1, 2, S, L, M => f_Mod_quotedEnd k 3 S (upd L 100 ((L 4) + (1 : Int32))) M
  | k + 1, 3, S, L, M => f_Mod_quotedEnd k 1 S (upd L 4 (L 100)) M
  | k + 1, 4, S, L, M => if (L 2) ≤ (L 4) then (f_Mod_quotedEnd k 5 S L M) else (if okI (L 4) 125552 = true then (if ((S.2.1 23 (L 4 : Int32).toNatClampNeg) &&& (255 : Int32)) = (L 3) then (f_Mod_quotedEnd k 6 S (upd L 100 ((L 4) + (1 : Int32))) M) else (f_Mod_quotedEnd k 5 S L M)) else none)
  | k + 1, 5, S, L, M => f_Mod_quotedEnd k 6 S (upd L 100 ((-1) : Int32)) M
  | k + 1, 6, S, L, M => some (L 100, S)
  | _ + 1, _ + 7, _, _, _ => none
set_option maxHeartbeats 8000000 in
set_option maxRecDepth 100000 in
theorem w_Mod_quotedEnd {p : Program} {l : Launch} {e : Env} {R : Room} {s : State} {m : MethodId} {args : Array Value} {below : List Frame} {meth : Method} {c : Code} {cells slots : Nat} {Q : State → Prop} {g : gG} {A : Nat → Prop} {ad : Nat → Nat} (hx : p.tables.exec = Jvm.exec) (hb : c.code = b_Mod_quotedEnd) (hml : c.maxLocals = 5) (hown : s.vm.findClass "MacroMillModel" = some m.cls) (htt : ∀ w ∈ gt, w.before args s = true) (hK : va_K g.1 classes (tysG g) s) (hN : nw s) (hA : ∀ q : Nat, s.heap.size ≤ q → A q) (r : Int32) (S9 : sS)
    (kx_128 : ∀ (ls : Array Slot) (H : Heap) (locs : List Loc), va_P g.1 classes (Sw shM g ad S9) H → va_D A (Sw shM g ad S9) → va_S A s.heap H locs → W p l e R s m args below meth c H locs cells slots Q (F0 m 128 ls [.int r])) :
    ∀ k9 : Nat, (∀ (S : sS) (L : Nat → Int32) (M : Nat → Int64) (ls : Array Slot) (H : Heap) (locs : List Loc), f_Mod_quotedEnd k9 0 S L M = some (r, S9) → lv_has ls 5 [(0, .ref (ad 0)), (1, .int (L 1)), (2, .int (L 2))] → va_P g.1 classes (Sw shM g ad S) H → va_D A (Sw shM g ad S) → va_S A s.heap H locs → W p l e R s m args below meth c H locs cells slots Q (F0 m 0 ls [])) ∧ (∀ (S : sS) (L : Nat → Int32) (M : Nat → Int64) (ls : Array Slot) (H : Heap) (locs : List Loc), f_Mod_quotedEnd k9 1 S L M = some (r, S9) → lv_has ls 5 [(0, .ref (ad 0)), (1, .int (L 1)), (2, .int (L 2)), (3, .int (L 3)), (4, .int (L 4))] → va_P g.1 classes (Sw shM g ad S) H → va_D A (Sw shM g ad S) → va_S A s.heap H locs → W p l e R s m args below meth c H locs cells slots Q (F0 m 16 ls [])) ∧ (∀ (S : sS) (L : Nat → Int32) (M : Nat → Int64) (ls : Array Slot) (H : Heap) (locs : List Loc), f_Mod_quotedEnd k9 2 S L M = some (r, S9) → lv_has ls 5 [(0, .ref (ad 0)), (1, .int (L 1)), (2, .int (L 2)), (3, .int (L 3)), (4, .int (L 4))] → va_P g.1 classes (Sw shM g ad S) H → va_D A (Sw shM g ad S) → va_S A s.heap H locs → W p l e R s m args below meth c H locs cells slots Q (F0 m 90 ls [])) ∧ (∀ (S : sS) (L : Nat → Int32) (M : Nat → Int64) (ls : Array Slot) (H : Heap) (locs : List Loc), f_Mod_quotedEnd k9 3 S L M = some (r, S9) → lv_has ls 5 [(0, .ref (ad 0)), (1, .int (L 1)), (2, .int (L 2)), (3, .int (L 3)), (4, .int (L 4))] → va_P g.1 classes (Sw shM g ad S) H → va_D A (Sw shM g ad S) → va_S A s.heap H locs → W p l e R s m args below meth c H locs cells slots Q (F0 m 94 ls [.int (L 100)])) ∧ (∀ (S : sS) (L : Nat → Int32) (M : Nat → Int64) (ls : Array Slot) (H : Heap) (locs : List Loc), f_Mod_quotedEnd k9 4 S L M = some (r, S9) → lv_has ls 5 [(0, .ref (ad 0)), (1, .int (L 1)), (2, .int (L 2)), (3, .int (L 3)), (4, .int (L 4))] → va_P g.1 classes (Sw shM g ad S) H → va_D A (Sw shM g ad S) → va_S A s.heap H locs → W p l e R s m args below meth c H locs cells slots Q (F0 m 99 ls [])) ∧ (∀ (S : sS) (L : Nat → Int32) (M : Nat → Int64) (ls : Array Slot) (H : Heap) (locs : List Loc), f_Mod_quotedEnd k9 5 S L M = some (r, S9) → lv_has ls 5 [(0, .ref (ad 0)), (1, .int (L 1)), (2, .int (L 2)), (3, .int (L 3)), (4, .int (L 4))] → va_P g.1 classes (Sw shM g ad S) H → va_D A (Sw shM g ad S) → va_S A s.heap H locs → W p l e R s m args below meth c H locs cells slots Q (F0 m 127 ls [])) ∧ (∀ (S : sS) (L : Nat → Int32) (M : Nat → Int64) (ls : Array Slot) (H : Heap) (locs : List Loc), f_Mod_quotedEnd k9 6 S L M = some (r, S9) → lv_has ls 5 [(0, .ref (ad 0)), (1, .int (L 1)), (2, .int (L 2)), (3, .int (L 3)), (4, .int (L 4))] → va_P g.1 classes (Sw shM g ad S) H → va_D A (Sw shM g ad S) → va_S A s.heap H locs → W p l e R s m args below meth c H locs cells slots Q (F0 m 128 ls [.int (L 100)])) := by
  intro k9
  induction k9 with
  | zero => exact ⟨(fun _ _ _ _ _ _ h => by simp [f_Mod_quotedEnd] at h), (fun _ _ _ _ _ _ h => by simp [f_Mod_quotedEnd] at h), (fun _ _ _ _ _ _ h => by simp [f_Mod_quotedEnd] at h), (fun _ _ _ _ _ _ h => by simp [f_Mod_quotedEnd] at h), (fun _ _ _ _ _ _ h => by simp [f_Mod_quotedEnd] at h), (fun _ _ _ _ _ _ h => by simp [f_Mod_quotedEnd] at h), (fun _ _ _ _ _ _ h => by simp [f_Mod_quotedEnd] at h)⟩
  | succ k9 ih =>
    refine ⟨?_, ?_, ?_, ?_, ?_, ?_, ?_⟩
    · intro S L M ls H locs h hl hP hD hS
      simp only [f_Mod_quotedEnd] at h
      refine lv_aload_n hx hb d_Mod_quotedEnd_0 rfl (lv_at hl 0 rfl) ?_
      refine S_getR (h := shM) (C := "MacroMillModel") (T := F_Mod) hx hb htt in_Mod hown hK hP 0 60 rfl 24 rfl rfl (by decide) (htt _ k_2296) (fun _ h9 => h9) d_Mod_quotedEnd_1 ?_
      refine lv_iload_n hx hb d_Mod_quotedEnd_4 rfl (lv_at hl 1 rfl) ?_
      obtain ⟨hv1, h⟩ := chk h
      refine S_bald (h := shM) (i := L 1) hx hb hK hP 23 rfl (okI_in hv1) d_Mod_quotedEnd_5 ?_
      refine lv_sipush (v := 255) hx hb d_Mod_quotedEnd_6 (by decide) ?_
      refine lv_iand hx hb d_Mod_quotedEnd_9 ?_
      refine lv_istore_n (lv' := [(3, .int ((S.2.1 23 (L 1 : Int32).toNatClampNeg) &&& (255 : Int32))), (0, .ref (ad 0)), (1, .int (L 1)), (2, .int (L 2))]) hx hb d_Mod_quotedEnd_10 rfl hl (by decide) rfl (fun ls hl => ?_)
      refine lv_iload_n hx hb d_Mod_quotedEnd_11 rfl (lv_at hl 2 rfl) ?_
      refine lv_iconst (v := 1) hx hb d_Mod_quotedEnd_12 (by decide) ?_
      refine lv_iadd hx hb d_Mod_quotedEnd_13 ?_
      refine lv_istore (lv' := [(4, .int ((L 1) + (1 : Int32))), (3, .int ((S.2.1 23 (L 1 : Int32).toNatClampNeg) &&& (255 : Int32))), (0, .ref (ad 0)), (1, .int (L 1)), (2, .int (L 2))]) hx hb d_Mod_quotedEnd_14 hl (by decide) rfl (fun ls hl => ?_)
      exact (ih.2.1) S (upd (upd L 3 ((S.2.1 23 (L 1 : Int32).toNatClampNeg) &&& (255 : Int32))) 4 ((L 1) + (1 : Int32))) M ls H locs h (lv_sub hl [2, 3, 4, 1, 0] rfl) hP hD hS
    · intro S L M ls H locs h hl hP hD hS
      simp only [f_Mod_quotedEnd] at h
      refine lv_iload hx hb d_Mod_quotedEnd_16 (lv_at hl 4 rfl) ?_
      refine lv_iload_n hx hb d_Mod_quotedEnd_18 rfl (lv_at hl 2 rfl) ?_
      refine lv_icmp_ge (tgt := 99) hx hb d_Mod_quotedEnd_19 (by decide) (fun hc1 => ?_) (fun hc1 => ?_)
      · rw [if_pos hc1] at h
        exact (ih.2.2.2.2.1) S L M ls H locs h (lv_sub hl [0, 1, 2, 3, 4] rfl) hP hD hS
      · rw [if_neg hc1] at h
        refine lv_aload_n hx hb d_Mod_quotedEnd_22 rfl (lv_at hl 0 rfl) ?_
        refine S_getR (h := shM) (C := "MacroMillModel") (T := F_Mod) hx hb htt in_Mod hown hK hP 0 60 rfl 24 rfl rfl (by decide) (htt _ k_2296) (fun _ h9 => h9) d_Mod_quotedEnd_23 ?_
        refine lv_iload hx hb d_Mod_quotedEnd_26 (lv_at hl 4 rfl) ?_
        obtain ⟨hv2, h⟩ := chk h
        refine S_bald (h := shM) (i := L 4) hx hb hK hP 23 rfl (okI_in hv2) d_Mod_quotedEnd_28 ?_
        refine lv_bipush (v := 10) hx hb d_Mod_quotedEnd_29 (by decide) ?_
        refine lv_icmp_eq (tgt := 99) hx hb d_Mod_quotedEnd_31 (by decide) (fun hc3 => ?_) (fun hc3 => ?_)
        · rw [if_pos hc3] at h
          exact (ih.2.2.2.2.1) S L M ls H locs h (lv_sub hl [0, 1, 2, 3, 4] rfl) hP hD hS
        · rw [if_neg hc3] at h
          refine lv_aload_n hx hb d_Mod_quotedEnd_34 rfl (lv_at hl 0 rfl) ?_
          refine S_getR (h := shM) (C := "MacroMillModel") (T := F_Mod) hx hb htt in_Mod hown hK hP 0 60 rfl 24 rfl rfl (by decide) (htt _ k_2296) (fun _ h9 => h9) d_Mod_quotedEnd_35 ?_
          refine lv_iload hx hb d_Mod_quotedEnd_38 (lv_at hl 4 rfl) ?_
          obtain ⟨hv4, h⟩ := chk h
          refine S_bald (h := shM) (i := L 4) hx hb hK hP 23 rfl (okI_in hv4) d_Mod_quotedEnd_40 ?_
          show W _ _ _ _ _ _ _ _ _ _ _ _ _ _ _ (F0 _ 41 _ _)
          refine lv_sipush (v := 255) hx hb d_Mod_quotedEnd_41 (by decide) ?_
          refine lv_iand hx hb d_Mod_quotedEnd_44 ?_
          refine lv_iload_n hx hb d_Mod_quotedEnd_45 rfl (lv_at hl 3 rfl) ?_
          refine lv_icmp_eq (tgt := 99) hx hb d_Mod_quotedEnd_46 (by decide) (fun hc5 => ?_) (fun hc5 => ?_)
          · rw [if_pos hc5] at h
            exact (ih.2.2.2.2.1) S L M ls H locs h (lv_sub hl [0, 1, 2, 3, 4] rfl) hP hD hS
          · rw [if_neg hc5] at h
            refine lv_aload_n hx hb d_Mod_quotedEnd_49 rfl (lv_at hl 0 rfl) ?_
            refine S_getR (h := shM) (C := "MacroMillModel") (T := F_Mod) hx hb htt in_Mod hown hK hP 0 60 rfl 24 rfl rfl (by decide) (htt _ k_2296) (fun _ h9 => h9) d_Mod_quotedEnd_50 ?_
            refine lv_iload hx hb d_Mod_quotedEnd_53 (lv_at hl 4 rfl) ?_
            obtain ⟨hv6, h⟩ := chk h
            refine S_bald (h := shM) (i := L 4) hx hb hK hP 23 rfl (okI_in hv6) d_Mod_quotedEnd_55 ?_
            refine lv_bipush (v := 92) hx hb d_Mod_quotedEnd_56 (by decide) ?_
            refine lv_icmp_ne (tgt := 90) hx hb d_Mod_quotedEnd_58 (by decide) (fun hc7 => ?_) (fun hc7 => ?_)
            · rw [if_neg hc7] at h
              exact (ih.2.2.1) S L M ls H locs h (lv_sub hl [0, 1, 2, 3, 4] rfl) hP hD hS
            · rw [if_pos hc7] at h
              refine lv_iload hx hb d_Mod_quotedEnd_61 (lv_at hl 4 rfl) ?_
              refine lv_iconst (v := 1) hx hb d_Mod_quotedEnd_63 (by decide) ?_
              refine lv_iadd hx hb d_Mod_quotedEnd_64 ?_
              refine lv_iload_n hx hb d_Mod_quotedEnd_65 rfl (lv_at hl 2 rfl) ?_
              refine lv_icmp_ge (tgt := 90) hx hb d_Mod_quotedEnd_66 (by decide) (fun hc8 => ?_) (fun hc8 => ?_)
              · rw [if_pos hc8] at h
                exact (ih.2.2.1) S L M ls H locs h (lv_sub hl [0, 1, 2, 3, 4] rfl) hP hD hS
              · rw [if_neg hc8] at h
                show W _ _ _ _ _ _ _ _ _ _ _ _ _ _ _ (F0 _ 69 _ _)
                refine lv_aload_n hx hb d_Mod_quotedEnd_69 rfl (lv_at hl 0 rfl) ?_
                refine S_getR (h := shM) (C := "MacroMillModel") (T := F_Mod) hx hb htt in_Mod hown hK hP 0 60 rfl 24 rfl rfl (by decide) (htt _ k_2296) (fun _ h9 => h9) d_Mod_quotedEnd_70 ?_
                refine lv_iload hx hb d_Mod_quotedEnd_73 (lv_at hl 4 rfl) ?_
                refine lv_iconst (v := 1) hx hb d_Mod_quotedEnd_75 (by decide) ?_
                refine lv_iadd hx hb d_Mod_quotedEnd_76 ?_
                obtain ⟨hv9, h⟩ := chk h
                refine S_bald (h := shM) (i := (L 4) + (1 : Int32)) hx hb hK hP 23 rfl (okI_in hv9) d_Mod_quotedEnd_77 ?_
                refine lv_bipush (v := 10) hx hb d_Mod_quotedEnd_78 (by decide) ?_
                refine lv_icmp_eq (tgt := 90) hx hb d_Mod_quotedEnd_80 (by decide) (fun hc10 => ?_) (fun hc10 => ?_)
                · rw [if_pos hc10] at h
                  exact (ih.2.2.1) S L M ls H locs h (lv_sub hl [0, 1, 2, 3, 4] rfl) hP hD hS
                · rw [if_neg hc10] at h
                  refine lv_iload hx hb d_Mod_quotedEnd_83 (lv_at hl 4 rfl) ?_
                  refine lv_iconst (v := 2) hx hb d_Mod_quotedEnd_85 (by decide) ?_
                  refine lv_iadd hx hb d_Mod_quotedEnd_86 ?_
                  refine lv_goto (tgt := 94) hx hb d_Mod_quotedEnd_87 (by decide) ?_
                  exact (ih.2.2.2.1) S (upd L 100 ((L 4) + (2 : Int32))) M ls H locs h (lv_sub hl [0, 1, 2, 3, 4] rfl) hP hD hS
    · intro S L M ls H locs h hl hP hD hS
      simp only [f_Mod_quotedEnd] at h
      refine lv_iload hx hb d_Mod_quotedEnd_90 (lv_at hl 4 rfl) ?_
      refine lv_iconst (v := 1) hx hb d_Mod_quotedEnd_92 (by decide) ?_
      refine lv_iadd hx hb d_Mod_quotedEnd_93 ?_
      exact (ih.2.2.2.1) S (upd L 100 ((L 4) + (1 : Int32))) M ls H locs h (lv_sub hl [0, 1, 2, 3, 4] rfl) hP hD hS
    · intro S L M ls H locs h hl hP hD hS
      simp only [f_Mod_quotedEnd] at h
      refine lv_istore (lv' := [(4, .int (L 100)), (0, .ref (ad 0)), (1, .int (L 1)), (2, .int (L 2)), (3, .int (L 3))]) hx hb d_Mod_quotedEnd_94 hl (by decide) rfl (fun ls hl => ?_)
      refine lv_goto (tgt := 16) hx hb d_Mod_quotedEnd_96 (by decide) ?_
      exact (ih.2.1) S (upd L 4 (L 100)) M ls H locs h (lv_sub hl [1, 2, 3, 4, 0] rfl) hP hD hS
    · intro S L M ls H locs h hl hP hD hS
      simp only [f_Mod_quotedEnd] at h
      refine lv_iload hx hb d_Mod_quotedEnd_99 (lv_at hl 4 rfl) ?_
      refine lv_iload_n hx hb d_Mod_quotedEnd_101 rfl (lv_at hl 2 rfl) ?_
      refine lv_icmp_ge (tgt := 127) hx hb d_Mod_quotedEnd_102 (by decide) (fun hc1 => ?_) (fun hc1 => ?_)
      · rw [if_pos hc1] at h
        exact (ih.2.2.2.2.2.1) S L M ls H locs h (lv_sub hl [0, 1, 2, 3, 4] rfl) hP hD hS
      · rw [if_neg hc1] at h
        refine lv_aload_n hx hb d_Mod_quotedEnd_105 rfl (lv_at hl 0 rfl) ?_
        refine S_getR (h := shM) (C := "MacroMillModel") (T := F_Mod) hx hb htt in_Mod hown hK hP 0 60 rfl 24 rfl rfl (by decide) (htt _ k_2296) (fun _ h9 => h9) d_Mod_quotedEnd_106 ?_
        refine lv_iload hx hb d_Mod_quotedEnd_109 (lv_at hl 4 rfl) ?_
        obtain ⟨hv2, h⟩ := chk h
        refine S_bald (h := shM) (i := L 4) hx hb hK hP 23 rfl (okI_in hv2) d_Mod_quotedEnd_111 ?_
        refine lv_sipush (v := 255) hx hb d_Mod_quotedEnd_112 (by decide) ?_
        refine lv_iand hx hb d_Mod_quotedEnd_115 ?_
        refine lv_iload_n hx hb d_Mod_quotedEnd_116 rfl (lv_at hl 3 rfl) ?_
        refine lv_icmp_ne (tgt := 127) hx hb d_Mod_quotedEnd_117 (by decide) (fun hc3 => ?_) (fun hc3 => ?_)
        · rw [if_neg hc3] at h
          exact (ih.2.2.2.2.2.1) S L M ls H locs h (lv_sub hl [0, 1, 2, 3, 4] rfl) hP hD hS
        · rw [if_pos hc3] at h
          refine lv_iload hx hb d_Mod_quotedEnd_120 (lv_at hl 4 rfl) ?_
          refine lv_iconst (v := 1) hx hb d_Mod_quotedEnd_122 (by decide) ?_
          show W _ _ _ _ _ _ _ _ _ _ _ _ _ _ _ (F0 _ 123 _ _)
          refine lv_iadd hx hb d_Mod_quotedEnd_123 ?_
          refine lv_goto (tgt := 128) hx hb d_Mod_quotedEnd_124 (by decide) ?_
          exact (ih.2.2.2.2.2.2) S (upd L 100 ((L 4) + (1 : Int32))) M ls H locs h (lv_sub hl [0, 1, 2, 3, 4] rfl) hP hD hS
    · intro S L M ls H locs h hl hP hD hS
      simp only [f_Mod_quotedEnd] at h
      refine lv_iconst (v := (-1)) hx hb d_Mod_quotedEnd_127 (by decide) ?_
      exact (ih.2.2.2.2.2.2) S (upd L 100 ((-1) : Int32)) M ls H locs h (lv_sub hl [0, 1, 2, 3, 4] rfl) hP hD hS
    · intro S L M ls H locs h hl hP hD hS
      simp only [f_Mod_quotedEnd] at h
      cases h
      exact kx_128 ls H locs hP hD hS
abbrev rm_t_Mod_quotedEnd : Room := { frames := 0, cells := 0, slots := 0, locals := 0 }
theorem t_Mod_quotedEnd (l : Launch) (g : gG) (sz : Nat) (ad : Nat → Nat) (S : sS) (v1 : Int32) (v2 : Int32) (k : Nat) (r : Int32) (S9 : sS) (h : f_Mod_quotedEnd k 0 S (upd (upd (fun _ => 0) 1 v1) 2 v2) (fun _ => 0) = some (r, S9)) : Ci l y_Mod_quotedEnd b_Mod_quotedEnd 5 rm_t_Mod_quotedEnd g [.ref (ad 0), .int v1, .int v2] (Sw shM g ad S) sz (fun r1 w => ∃ S1 : sS, w = Sw shM g ad S1 ∧ r1 = r ∧ S1 = S9) := by
  refine startI (by decide) (Nat.le_of_ble_eq_true rfl) ?_
  intro p e s m below meth c A ls hx hb hr hml hlocks hmn hown htt hN hA hP hK hD hS hl
  exact (w_Mod_quotedEnd hx hb hml hown htt hK hN hA r S9 (fun ls H locs hP hD hS => fin_i (g := g) (ws := Sw shM g ad S9) hx hb hr hlocks (by decide +kernel) (by decide +kernel) hP hD hS ⟨_, rfl, rfl, rfl⟩ d_Mod_quotedEnd_128) k).1 S (upd (upd (fun _ => 0) 1 v1) 2 v2) (fun _ => 0) ls _ _ h hl hP hD hS
def f_Mod_nameOfCell : Nat → Nat → sS → (Nat → Int32) → (Nat → Int64) → Option (Int32 × sS)
  | 0, _, _, _, _ => none
  | k + 1, 0, S, L, M => f_Mod_nameOfCell k 1 S (upd (upd L 2 ((-1) : Int32)) 3 (0 : Int32)) M
  | k + 1, 1, S, L, M => if (S.1 0 75) ≤ (L 3) then (some (L 2, S)) else (if okI (L 3) 400 = true then (if okI (L 3) 400 = true then ((f_Mod_isSpelledAs k 0 S (upd (upd (upd (fun _ => 0) 1 (L 1 : Int32)) 2 (S.2.1 34 (L 3 : Int32).toNatClampNeg : Int32)) 3 (S.2.1 35 (L 3 : Int32).toNatClampNeg : Int32)) (fun _ => 0)).bind (fun (r4, T4) => if r4 = (0 : Int32) then (f_Mod_nameOfCell k 2 T4 (upd L 100 (L 2)) M) else (f_Mod_nameOfCell k 2 T4 (upd L 100 (L 3)) M))) else none) else none)
  | k + 1, 2, S, L, M => f_Mod_nameOfCell k 1 S (upd (upd L 2 (L 100)) 3 ((L 3) + 1)) M
  | _ + 1, _ + 3, _, _, _ => none
set_option maxHeartbeats 8000000 in
set_option maxRecDepth 100000 in
theorem w_Mod_nameOfCell {p : Program} {l : Launch} {e : Env} {R : Room} {s : State} {m : MethodId} {args : Array Value} {below : List Frame} {meth : Method} {c : Code} {cells slots : Nat} {Q : State → Prop} {g : gG} {A : Nat → Prop} {ad : Nat → Nat} (hx : p.tables.exec = Jvm.exec) (hb : c.code = b_Mod_nameOfCell) (hml : c.maxLocals = 4) (hown : s.vm.findClass "MacroMillModel" = some m.cls) (htt : ∀ w ∈ gt, w.before args s = true) (hK : va_K g.1 classes (tysG g) s) (hN : nw s) (hA : ∀ q : Nat, s.heap.size ≤ q → A q) (hRf : 1 ≤ R.frames) (hRl : 25 ≤ R.locals) (hRc : cells ≤ R.cells) (hRs : slots ≤ R.slots) (r : Int32) (S9 : sS)
    (kx_45 : ∀ (ls : Array Slot) (H : Heap) (locs : List Loc), va_P g.1 classes (Sw shM g ad S9) H → va_D A (Sw shM g ad S9) → va_S A s.heap H locs → W p l e R s m args below meth c H locs cells slots Q (F0 m 45 ls [.int r])) :
    ∀ k9 : Nat, (∀ (S : sS) (L : Nat → Int32) (M : Nat → Int64) (ls : Array Slot) (H : Heap) (locs : List Loc), f_Mod_nameOfCell k9 0 S L M = some (r, S9) → lv_has ls 4 [(0, .ref (ad 0)), (1, .int (L 1))] → va_P g.1 classes (Sw shM g ad S) H → va_D A (Sw shM g ad S) → va_S A s.heap H locs → W p l e R s m args below meth c H locs cells slots Q (F0 m 0 ls [])) ∧ (∀ (S : sS) (L : Nat → Int32) (M : Nat → Int64) (ls : Array Slot) (H : Heap) (locs : List Loc), f_Mod_nameOfCell k9 1 S L M = some (r, S9) → lv_has ls 4 [(0, .ref (ad 0)), (1, .int (L 1)), (2, .int (L 2)), (3, .int (L 3))] → va_P g.1 classes (Sw shM g ad S) H → va_D A (Sw shM g ad S) → va_S A s.heap H locs → W p l e R s m args below meth c H locs cells slots Q (F0 m 4 ls [])) ∧ (∀ (S : sS) (L : Nat → Int32) (M : Nat → Int64) (ls : Array Slot) (H : Heap) (locs : List Loc), f_Mod_nameOfCell k9 2 S L M = some (r, S9) → lv_has ls 4 [(0, .ref (ad 0)), (1, .int (L 1)), (2, .int (L 2)), (3, .int (L 3))] → va_P g.1 classes (Sw shM g ad S) H → va_D A (Sw shM g ad S) → va_S A s.heap H locs → W p l e R s m args below meth c H locs cells slots Q (F0 m 37 ls [.int (L 100)])) := by
  intro k9
  induction k9 with
  | zero => exact ⟨(fun _ _ _ _ _ _ h => by simp [f_Mod_nameOfCell] at h), (fun _ _ _ _ _ _ h => by simp [f_Mod_nameOfCell] at h), (fun _ _ _ _ _ _ h => by simp [f_Mod_nameOfCell] at h)⟩
  | succ k9 ih =>
    refine ⟨?_, ?_, ?_⟩
    · intro S L M ls H locs h hl hP hD hS
      simp only [f_Mod_nameOfCell] at h
      refine lv_iconst (v := (-1)) hx hb d_Mod_nameOfCell_0 (by decide) ?_
      refine lv_istore_n (lv' := [(2, .int (-1)), (0, .ref (ad 0)), (1, .int (L 1))]) hx hb d_Mod_nameOfCell_1 rfl hl (by decide) rfl (fun ls hl => ?_)
      refine lv_iconst (v := 0) hx hb d_Mod_nameOfCell_2 (by decide) ?_
      refine lv_istore_n (lv' := [(3, .int 0), (2, .int (-1)), (0, .ref (ad 0)), (1, .int (L 1))]) hx hb d_Mod_nameOfCell_3 rfl hl (by decide) rfl (fun ls hl => ?_)
      exact (ih.2.1) S (upd (upd L 2 ((-1) : Int32)) 3 (0 : Int32)) M ls H locs h (lv_sub hl [2, 3, 1, 0] rfl) hP hD hS
    · intro S L M ls H locs h hl hP hD hS
      simp only [f_Mod_nameOfCell] at h
      refine lv_iload_n hx hb d_Mod_nameOfCell_4 rfl (lv_at hl 3 rfl) ?_
      refine lv_aload_n hx hb d_Mod_nameOfCell_5 rfl (lv_at hl 0 rfl) ?_
      refine S_getI (h := shM) (C := "MacroMillModel") (T := F_Mod) hx hb htt in_Mod hown hK hP 0 75 rfl rfl rfl (by decide) (htt _ k_2311) (fun _ h9 => h9) d_Mod_nameOfCell_6 ?_
      refine lv_icmp_ge (tgt := 44) hx hb d_Mod_nameOfCell_9 (by decide) (fun hc1 => ?_) (fun hc1 => ?_)
      · rw [if_pos hc1] at h
        refine lv_iload_n hx hb d_Mod_nameOfCell_44 rfl (lv_at hl 2 rfl) ?_
        cases h
        exact kx_45 ls H locs hP hD hS
      · rw [if_neg hc1] at h
        refine lv_aload_n hx hb d_Mod_nameOfCell_12 rfl (lv_at hl 0 rfl) ?_
        refine lv_iload_n hx hb d_Mod_nameOfCell_13 rfl (lv_at hl 1 rfl) ?_
        refine lv_aload_n hx hb d_Mod_nameOfCell_14 rfl (lv_at hl 0 rfl) ?_
        refine S_getR (h := shM) (C := "MacroMillModel") (T := F_Mod) hx hb htt in_Mod hown hK hP 0 76 rfl 35 rfl rfl (by decide) (htt _ k_2312) (fun _ h9 => h9) d_Mod_nameOfCell_15 ?_
        refine lv_iload_n hx hb d_Mod_nameOfCell_18 rfl (lv_at hl 3 rfl) ?_
        obtain ⟨hv2, h⟩ := chk h
        refine S_iald (h := shM) (i := L 3) hx hb hK hP 34 rfl (okI_in hv2) d_Mod_nameOfCell_19 ?_
        refine lv_aload_n hx hb d_Mod_nameOfCell_20 rfl (lv_at hl 0 rfl) ?_
        refine S_getR (h := shM) (C := "MacroMillModel") (T := F_Mod) hx hb htt in_Mod hown hK hP 0 77 rfl 36 rfl rfl (by decide) (htt _ k_2313) (fun _ h9 => h9) d_Mod_nameOfCell_21 ?_
        show W _ _ _ _ _ _ _ _ _ _ _ _ _ _ _ (F0 _ 24 _ _)
        refine lv_iload_n hx hb d_Mod_nameOfCell_24 rfl (lv_at hl 3 rfl) ?_
        obtain ⟨hv3, h⟩ := chk h
        refine S_iald (h := shM) (i := L 3) hx hb hK hP 35 rfl (okI_in hv3) d_Mod_nameOfCell_25 ?_
        obtain ⟨⟨r4, T4⟩, hq4, h⟩ := Option.bind_eq_some_iff.mp h
        try dsimp only at h
        refine go_iS (As := [.ref (ad 0), .int (L 1), .int (S.2.1 34 (L 3 : Int32).toNatClampNeg), .int (S.2.1 35 (L 3 : Int32).toNatClampNeg)]) (g := g) (A := A) (h := shM) hP hK hD hS hA hN (fun hp => va_runV (As := [.int (L 1), .int (S.2.1 34 (L 3 : Int32).toNatClampNeg), .int (S.2.1 35 (L 3 : Int32).toNatClampNeg)]) (rest := []) ⟨hx, hb, hml, hown, htt⟩ (t_Mod_isSpelledAs l g _ ad S (L 1 : Int32) (S.2.1 34 (L 3 : Int32).toNatClampNeg : Int32) (S.2.1 35 (L 3 : Int32).toNatClampNeg : Int32) k9 r4 T4 hq4) ⟨(cb_L htt k_3044 k_276 k_3041 hd_Mod_isSpelledAs ⟨(Nat.le_trans (by decide +kernel) hRf), (Nat.le_trans (by decide +kernel) hRl)⟩), htt _ k_3043, htt _ k_200⟩ ⟨hp.1, S_recv hK hP 0 rfl rfl, hp.2⟩ rfl rfl hl.1 rfl (lv_room (Nat.le_of_ble_eq_true rfl)) d_Mod_nameOfCell_26 ⟨hRc, hRs⟩) (fun r0 Sn H locs hw9 hP hD hS => ?_)
        obtain ⟨e9, e8⟩ := hw9
        rw [e8] at hP hD
        refine W.widen (k := cells) (n := slots) (Nat.le_refl _) (Nat.le_refl _) ?_
        refine toI (y := r4) e9 ?_
        refine lv_if_eq (tgt := 36) hx hb d_Mod_nameOfCell_29 (by decide) (fun hc5 => ?_) (fun hc5 => ?_)
        · rw [if_pos hc5] at h
          refine lv_iload_n hx hb d_Mod_nameOfCell_36 rfl (lv_at hl 2 rfl) ?_
          exact (ih.2.2) T4 (upd L 100 (L 2)) M ls H locs h (lv_sub hl [0, 1, 2, 3] rfl) hP hD hS
        · rw [if_neg hc5] at h
          refine lv_iload_n hx hb d_Mod_nameOfCell_32 rfl (lv_at hl 3 rfl) ?_
          refine lv_goto (tgt := 37) hx hb d_Mod_nameOfCell_33 (by decide) ?_
          exact (ih.2.2) T4 (upd L 100 (L 3)) M ls H locs h (lv_sub hl [0, 1, 2, 3] rfl) hP hD hS
    · intro S L M ls H locs h hl hP hD hS
      simp only [f_Mod_nameOfCell] at h
      refine lv_istore_n (lv' := [(2, .int (L 100)), (0, .ref (ad 0)), (1, .int (L 1)), (3, .int (L 3))]) hx hb d_Mod_nameOfCell_37 rfl hl (by decide) rfl (fun ls hl => ?_)
      refine lv_iinc (k := 3) (v := (L 3) + 1) (lv' := [(3, .int ((L 3) + 1)), (2, .int (L 100)), (0, .ref (ad 0)), (1, .int (L 1))]) hx hb d_Mod_nameOfCell_38 hl rfl rfl (by decide) rfl (fun ls hl => ?_)
      refine lv_goto (tgt := 4) hx hb d_Mod_nameOfCell_41 (by decide) ?_
      exact (ih.2.1) S (upd (upd L 2 (L 100)) 3 ((L 3) + 1)) M ls H locs h (lv_sub hl [2, 3, 1, 0] rfl) hP hD hS
abbrev rm_t_Mod_nameOfCell : Room := { frames := 1, cells := 0, slots := 0, locals := 25 }
theorem t_Mod_nameOfCell (l : Launch) (g : gG) (sz : Nat) (ad : Nat → Nat) (S : sS) (v1 : Int32) (k : Nat) (r : Int32) (S9 : sS) (h : f_Mod_nameOfCell k 0 S (upd (fun _ => 0) 1 v1) (fun _ => 0) = some (r, S9)) : Ci l y_Mod_nameOfCell b_Mod_nameOfCell 4 rm_t_Mod_nameOfCell g [.ref (ad 0), .int v1] (Sw shM g ad S) sz (fun r1 w => ∃ S1 : sS, w = Sw shM g ad S1 ∧ r1 = r ∧ S1 = S9) := by
  refine startI (by decide) (Nat.le_of_ble_eq_true rfl) ?_
  intro p e s m below meth c A ls hx hb hr hml hlocks hmn hown htt hN hA hP hK hD hS hl
  exact (w_Mod_nameOfCell hx hb hml hown htt hK hN hA (by decide +kernel) (by decide +kernel) (by decide +kernel) (by decide +kernel) r S9 (fun ls H locs hP hD hS => fin_i (g := g) (ws := Sw shM g ad S9) hx hb hr hlocks (by decide +kernel) (by decide +kernel) hP hD hS ⟨_, rfl, rfl, rfl⟩ d_Mod_nameOfCell_45) k).1 S (upd (fun _ => 0) 1 v1) (fun _ => 0) ls _ _ h hl hP hD hS
def f_Mod_macroOf : Nat → Nat → sS → (Nat → Int32) → (Nat → Int64) → Option (Int32 × sS)
  | 0, _, _, _, _ => none
  | k + 1, 0, S, L, M => (f_Mod_isName k 0 S (upd (fun _ => 0) 1 (L 1 : Int32)) (fun _ => 0)).bind (fun (r1, T1) => if r1 = (0 : Int32) then (f_Mod_macroOf k 1 T1 (upd L 100 ((-1) : Int32)) M) else ((f_Mod_nameOfCell k 0 T1 (upd (fun _ => 0) 1 (L 1 : Int32)) (fun _ => 0)).bind (fun (r3, T3) => f_Mod_macroOf k 1 T3 (upd L 100 r3) M)))
  | k + 1, 1, S, L, M => if (L 100) < (0 : Int32) then (f_Mod_macroOf k 2 S (upd L 2 (L 100)) M) else (if okI (L 100) 400 = true then (if (S.2.1 36 (L 100 : Int32).toNatClampNeg) = (0 : Int32) then (f_Mod_macroOf k 2 S (upd L 2 (L 100)) M) else (f_Mod_macroOf k 3 S (upd L 2 (L 100)) M)) else none)
  | k + 1, 2, S, L, M => f_Mod_macroOf k 3 S (upd L 100 ((-1) : Int32)) M
  | k + 1, 3, S, L, M => some (L 100, S)
  | _ + 1, _ + 4, _, _, _ => none
set_option maxHeartbeats 8000000 in
set_option maxRecDepth 100000 in
theorem w_Mod_macroOf {p : Program} {l : Launch} {e : Env} {R : Room} {s : State} {m : MethodId} {args : Array Value} {below : List Frame} {meth : Method} {c : Code} {cells slots : Nat} {Q : State → Prop} {g : gG} {A : Nat → Prop} {ad : Nat → Nat} (hx : p.tables.exec = Jvm.exec) (hb : c.code = b_Mod_macroOf) (hml : c.maxLocals = 3) (hown : s.vm.findClass "MacroMillModel" = some m.cls) (htt : ∀ w ∈ gt, w.before args s = true) (hK : va_K g.1 classes (tysG g) s) (hN : nw s) (hA : ∀ q : Nat, s.heap.size ≤ q → A q) (hRf : 3 ≤ R.frames) (hRl : 67 ≤ R.locals) (hRc : cells ≤ R.cells) (hRs : slots ≤ R.slots) (r : Int32) (S9 : sS)
    (kx_36 : ∀ (ls : Array Slot) (H : Heap) (locs : List Loc), va_P g.1 classes (Sw shM g ad S9) H → va_D A (Sw shM g ad S9) → va_S A s.heap H locs → W p l e R s m args below meth c H locs cells slots Q (F0 m 36 ls [.int r])) :
    ∀ k9 : Nat, (∀ (S : sS) (L : Nat → Int32) (M : Nat → Int64) (ls : Array Slot) (H : Heap) (locs : List Loc), f_Mod_macroOf k9 0 S L M = some (r, S9) → lv_has ls 3 [(0, .ref (ad 0)), (1, .int (L 1))] → va_P g.1 classes (Sw shM g ad S) H → va_D A (Sw shM g ad S) → va_S A s.heap H locs → W p l e R s m args below meth c H locs cells slots Q (F0 m 0 ls [])) ∧ (∀ (S : sS) (L : Nat → Int32) (M : Nat → Int64) (ls : Array Slot) (H : Heap) (locs : List Loc), f_Mod_macroOf k9 1 S L M = some (r, S9) → lv_has ls 3 [(0, .ref (ad 0)), (1, .int (L 1))] → va_P g.1 classes (Sw shM g ad S) H → va_D A (Sw shM g ad S) → va_S A s.heap H locs → W p l e R s m args below meth c H locs cells slots Q (F0 m 17 ls [.int (L 100)])) ∧ (∀ (S : sS) (L : Nat → Int32) (M : Nat → Int64) (ls : Array Slot) (H : Heap) (locs : List Loc), f_Mod_macroOf k9 2 S L M = some (r, S9) → lv_has ls 3 [(0, .ref (ad 0)), (1, .int (L 1)), (2, .int (L 2))] → va_P g.1 classes (Sw shM g ad S) H → va_D A (Sw shM g ad S) → va_S A s.heap H locs → W p l e R s m args below meth c H locs cells slots Q (F0 m 35 ls [])) ∧ (∀ (S : sS) (L : Nat → Int32) (M : Nat → Int64) (ls : Array Slot) (H : Heap) (locs : List Loc), f_Mod_macroOf k9 3 S L M = some (r, S9) → lv_has ls 3 [(0, .ref (ad 0)), (1, .int (L 1)), (2, .int (L 2))] → va_P g.1 classes (Sw shM g ad S) H → va_D A (Sw shM g ad S) → va_S A s.heap H locs → W p l e R s m args below meth c H locs cells slots Q (F0 m 36 ls [.int (L 100)])) := by
  intro k9
  induction k9 with
  | zero => exact ⟨(fun _ _ _ _ _ _ h => by simp [f_Mod_macroOf] at h), (fun _ _ _ _ _ _ h => by simp [f_Mod_macroOf] at h), (fun _ _ _ _ _ _ h => by simp [f_Mod_macroOf] at h), (fun _ _ _ _ _ _ h => by simp [f_Mod_macroOf] at h)⟩
  | succ k9 ih =>
    refine ⟨?_, ?_, ?_, ?_⟩
    · intro S L M ls H locs h hl hP hD hS
      simp only [f_Mod_macroOf] at h
      refine lv_aload_n hx hb d_Mod_macroOf_0 rfl (lv_at hl 0 rfl) ?_
      refine lv_iload_n hx hb d_Mod_macroOf_1 rfl (lv_at hl 1 rfl) ?_
      obtain ⟨⟨r1, T1⟩, hq1, h⟩ := Option.bind_eq_some_iff.mp h
      try dsimp only at h
      refine go_iS (As := [.ref (ad 0), .int (L 1)]) (g := g) (A := A) (h := shM) hP hK hD hS hA hN (fun hp => va_runV (As := [.int (L 1)]) (rest := []) ⟨hx, hb, hml, hown, htt⟩ (t_Mod_isName l g _ ad S (L 1 : Int32) k9 r1 T1 hq1) ⟨(cb_L htt k_3032 k_276 k_3029 hd_Mod_isName ⟨(Nat.le_trans (by decide +kernel) hRf), (Nat.le_trans (by decide +kernel) hRl)⟩), htt _ k_3031, htt _ k_197⟩ ⟨hp.1, S_recv hK hP 0 rfl rfl, hp.2⟩ rfl rfl hl.1 rfl (lv_room (Nat.le_of_ble_eq_true rfl)) d_Mod_macroOf_2 ⟨hRc, hRs⟩) (fun r0 Sn H locs hw9 hP hD hS => ?_)
      obtain ⟨e9, e8⟩ := hw9
      rw [e8] at hP hD
      refine W.widen (k := cells) (n := slots) (Nat.le_refl _) (Nat.le_refl _) ?_
      refine toI (y := r1) e9 ?_
      refine lv_if_eq (tgt := 16) hx hb d_Mod_macroOf_5 (by decide) (fun hc2 => ?_) (fun hc2 => ?_)
      · rw [if_pos hc2] at h
        refine lv_iconst (v := (-1)) hx hb d_Mod_macroOf_16 (by decide) ?_
        exact (ih.2.1) T1 (upd L 100 ((-1) : Int32)) M ls H locs h (lv_sub hl [0, 1] rfl) hP hD hS
      · rw [if_neg hc2] at h
        refine lv_aload_n hx hb d_Mod_macroOf_8 rfl (lv_at hl 0 rfl) ?_
        refine lv_iload_n hx hb d_Mod_macroOf_9 rfl (lv_at hl 1 rfl) ?_
        obtain ⟨⟨r3, T3⟩, hq3, h⟩ := Option.bind_eq_some_iff.mp h
        try dsimp only at h
        refine go_iS (As := [.ref (ad 0), .int (L 1)]) (g := g) (A := A) (h := shM) hP hK hD hS hA hN (fun hp => va_runV (As := [.int (L 1)]) (rest := []) ⟨hx, hb, hml, hown, htt⟩ (t_Mod_nameOfCell l g _ ad T1 (L 1 : Int32) k9 r3 T3 hq3) ⟨(cb_L htt k_3040 k_276 k_3037 hd_Mod_nameOfCell ⟨(Nat.le_trans (by decide +kernel) hRf), (Nat.le_trans (by decide +kernel) hRl)⟩), htt _ k_3039, htt _ k_199⟩ ⟨hp.1, S_recv hK hP 0 rfl rfl, hp.2⟩ rfl rfl hl.1 rfl (lv_room (Nat.le_of_ble_eq_true rfl)) d_Mod_macroOf_10 ⟨hRc, hRs⟩) (fun r0 Sn H locs hw9 hP hD hS => ?_)
        obtain ⟨e9, e8⟩ := hw9
        rw [e8] at hP hD
        refine W.widen (k := cells) (n := slots) (Nat.le_refl _) (Nat.le_refl _) ?_
        refine toI (y := r3) e9 ?_
        refine lv_goto (tgt := 17) hx hb d_Mod_macroOf_13 (by decide) ?_
        exact (ih.2.1) T3 (upd L 100 r3) M ls H locs h (lv_sub hl [0, 1] rfl) hP hD hS
    · intro S L M ls H locs h hl hP hD hS
      simp only [f_Mod_macroOf] at h
      refine lv_istore_n (lv' := [(2, .int (L 100)), (0, .ref (ad 0)), (1, .int (L 1))]) hx hb d_Mod_macroOf_17 rfl hl (by decide) rfl (fun ls hl => ?_)
      refine lv_iload_n hx hb d_Mod_macroOf_18 rfl (lv_at hl 0 rfl) ?_
      refine lv_if_lt (tgt := 35) hx hb d_Mod_macroOf_19 (by decide) (fun hc1 => ?_) (fun hc1 => ?_)
      · rw [if_pos hc1] at h
        exact (ih.2.2.1) S (upd L 2 (L 100)) M ls H locs h (lv_sub hl [1, 2, 0] rfl) hP hD hS
      · rw [if_neg hc1] at h
        refine lv_aload_n hx hb d_Mod_macroOf_22 rfl (lv_at hl 1 rfl) ?_
        refine S_getR (h := shM) (C := "MacroMillModel") (T := F_Mod) hx hb htt in_Mod hown hK hP 0 78 rfl 37 rfl rfl (by decide) (htt _ k_2314) (fun _ h9 => h9) d_Mod_macroOf_23 ?_
        refine lv_iload_n hx hb d_Mod_macroOf_26 rfl (lv_at hl 0 rfl) ?_
        obtain ⟨hv2, h⟩ := chk h
        refine S_zald (h := shM) (i := L 100) hx hb hK hP 36 rfl (okI_in hv2) d_Mod_macroOf_27 ?_
        refine lv_if_eq (tgt := 35) hx hb d_Mod_macroOf_28 (by decide) (fun hc3 => ?_) (fun hc3 => ?_)
        · rw [if_pos hc3] at h
          exact (ih.2.2.1) S (upd L 2 (L 100)) M ls H locs h (lv_sub hl [1, 2, 0] rfl) hP hD hS
        · rw [if_neg hc3] at h
          refine lv_iload_n hx hb d_Mod_macroOf_31 rfl (lv_at hl 0 rfl) ?_
          refine lv_goto (tgt := 36) hx hb d_Mod_macroOf_32 (by decide) ?_
          exact (ih.2.2.2) S (upd L 2 (L 100)) M ls H locs h (lv_sub hl [1, 2, 0] rfl) hP hD hS
    · intro S L M ls H locs h hl hP hD hS
      simp only [f_Mod_macroOf] at h
      refine lv_iconst (v := (-1)) hx hb d_Mod_macroOf_35 (by decide) ?_
      exact (ih.2.2.2) S (upd L 100 ((-1) : Int32)) M ls H locs h (lv_sub hl [0, 1, 2] rfl) hP hD hS
    · intro S L M ls H locs h hl hP hD hS
      simp only [f_Mod_macroOf] at h
      cases h
      exact kx_36 ls H locs hP hD hS
abbrev rm_t_Mod_macroOf : Room := { frames := 3, cells := 0, slots := 0, locals := 67 }
theorem t_Mod_macroOf (l : Launch) (g : gG) (sz : Nat) (ad : Nat → Nat) (S : sS) (v1 : Int32) (k : Nat) (r : Int32) (S9 : sS) (h : f_Mod_macroOf k 0 S (upd (fun _ => 0) 1 v1) (fun _ => 0) = some (r, S9)) : Ci l y_Mod_macroOf b_Mod_macroOf 3 rm_t_Mod_macroOf g [.ref (ad 0), .int v1] (Sw shM g ad S) sz (fun r1 w => ∃ S1 : sS, w = Sw shM g ad S1 ∧ r1 = r ∧ S1 = S9) := by
  refine startI (by decide) (Nat.le_of_ble_eq_true rfl) ?_
  intro p e s m below meth c A ls hx hb hr hml hlocks hmn hown htt hN hA hP hK hD hS hl
  exact (w_Mod_macroOf hx hb hml hown htt hK hN hA (by decide +kernel) (by decide +kernel) (by decide +kernel) (by decide +kernel) r S9 (fun ls H locs hP hD hS => fin_i (g := g) (ws := Sw shM g ad S9) hx hb hr hlocks (by decide +kernel) (by decide +kernel) hP hD hS ⟨_, rfl, rfl, rfl⟩ d_Mod_macroOf_36) k).1 S (upd (fun _ => 0) 1 v1) (fun _ => 0) ls _ _ h hl hP hD hS
def f_Mod_hides : Nat → Nat → sS → (Nat → Int32) → (Nat → Int64) → Option (Int32 × sS)
  | 0, _, _, _, _ => none
  | k + 1, 0, S, L, M => if okI (((7 : Int32) * (L 1)) + ((L 2) / (64 : Int32))) 7007 = true then (if (lg_cmp (((S.2.2 46 (((7 : Int32) * (L 1)) + ((L 2) / (64 : Int32)) : Int32).toNatClampNeg) >>> (((L 2) - (L 2) / (64 : Int32) * (64 : Int32) : Int32).toInt64 &&& 63)) &&& (1 : Int64)) (1 : Int64)) = (0 : Int32) then (f_Mod_hides k 1 S (upd L 100 (1 : Int32)) M) else (f_Mod_hides k 1 S (upd L 100 (0 : Int32)) M)) else none
  | k + 1, 1, S, L, M => if bz (L 100) = true then some (L 100, S) else none
  | _ + 1, _ + 2, _, _, _ => none
set_option maxHeartbeats 8000000 in
set_option maxRecDepth 100000 in
theorem w_Mod_hides {p : Program} {l : Launch} {e : Env} {R : Room} {s : State} {m : MethodId} {args : Array Value} {below : List Frame} {meth : Method} {c : Code} {cells slots : Nat} {Q : State → Prop} {g : gG} {A : Nat → Prop} {ad : Nat → Nat} (hx : p.tables.exec = Jvm.exec) (hb : c.code = b_Mod_hides) (hml : c.maxLocals = 3) (hown : s.vm.findClass "MacroMillModel" = some m.cls) (htt : ∀ w ∈ gt, w.before args s = true) (hK : va_K g.1 classes (tysG g) s) (hN : nw s) (hA : ∀ q : Nat, s.heap.size ≤ q → A q) (r : Int32) (S9 : sS)
    (kx_31 : ∀ (ls : Array Slot) (H : Heap) (locs : List Loc), narrow .boolean (.int r) = .int r → va_P g.1 classes (Sw shM g ad S9) H → va_D A (Sw shM g ad S9) → va_S A s.heap H locs → W p l e R s m args below meth c H locs cells slots Q (F0 m 31 ls [.int r])) :
    ∀ k9 : Nat, (∀ (S : sS) (L : Nat → Int32) (M : Nat → Int64) (ls : Array Slot) (H : Heap) (locs : List Loc), f_Mod_hides k9 0 S L M = some (r, S9) → lv_has ls 3 [(0, .ref (ad 0)), (1, .int (L 1)), (2, .int (L 2))] → va_P g.1 classes (Sw shM g ad S) H → va_D A (Sw shM g ad S) → va_S A s.heap H locs → W p l e R s m args below meth c H locs cells slots Q (F0 m 0 ls [])) ∧ (∀ (S : sS) (L : Nat → Int32) (M : Nat → Int64) (ls : Array Slot) (H : Heap) (locs : List Loc), f_Mod_hides k9 1 S L M = some (r, S9) → lv_has ls 3 [(0, .ref (ad 0)), (1, .int (L 1)), (2, .int (L 2))] → va_P g.1 classes (Sw shM g ad S) H → va_D A (Sw shM g ad S) → va_S A s.heap H locs → W p l e R s m args below meth c H locs cells slots Q (F0 m 31 ls [.int (L 100)])) := by
  intro k9
  induction k9 with
  | zero => exact ⟨(fun _ _ _ _ _ _ h => by simp [f_Mod_hides] at h), (fun _ _ _ _ _ _ h => by simp [f_Mod_hides] at h)⟩
  | succ k9 ih =>
    refine ⟨?_, ?_⟩
    · intro S L M ls H locs h hl hP hD hS
      simp only [f_Mod_hides] at h
      refine lv_aload_n hx hb d_Mod_hides_0 rfl (lv_at hl 0 rfl) ?_
      refine S_getR (h := shM) (C := "MacroMillModel") (T := F_Mod) hx hb htt in_Mod hown hK hP 0 90 rfl 47 rfl rfl (by decide) (htt _ k_2326) (fun _ h9 => h9) d_Mod_hides_1 ?_
      refine lv_bipush (v := 7) hx hb d_Mod_hides_4 (by decide) ?_
      refine lv_iload_n hx hb d_Mod_hides_6 rfl (lv_at hl 1 rfl) ?_
      refine lv_imul hx hb d_Mod_hides_7 ?_
      refine lv_iload_n hx hb d_Mod_hides_8 rfl (lv_at hl 2 rfl) ?_
      refine lv_bipush (v := 64) hx hb d_Mod_hides_9 (by decide) ?_
      refine lv_idiv hx hb d_Mod_hides_11 (by decide) ?_
      refine lv_iadd hx hb d_Mod_hides_12 ?_
      obtain ⟨hv1, h⟩ := chk h
      refine S_lald (h := shM) (i := ((7 : Int32) * (L 1)) + ((L 2) / (64 : Int32))) hx hb hK hP 46 rfl (okI_in hv1) d_Mod_hides_13 ?_
      refine lv_iload_n hx hb d_Mod_hides_14 rfl (lv_at hl 2 rfl) ?_
      refine lv_bipush (v := 64) hx hb d_Mod_hides_15 (by decide) ?_
      refine lv_irem hx hb d_Mod_hides_17 (by decide) ?_
      refine lv_lshr (v := (S.2.2 46 (((7 : Int32) * (L 1)) + ((L 2) / (64 : Int32)) : Int32).toNatClampNeg) >>> (((L 2) - (L 2) / (64 : Int32) * (64 : Int32) : Int32).toInt64 &&& 63)) hx hb d_Mod_hides_18 rfl ?_
      refine lv_lconst (v := 1) hx hb d_Mod_hides_19 (by decide) ?_
      refine lv_land hx hb d_Mod_hides_20 ?_
      refine lv_lconst (v := 1) hx hb d_Mod_hides_21 (by decide) ?_
      refine W.lcmp hx hb d_Mod_hides_22 ?_
      refine lv_if_ne (tgt := 30) hx hb d_Mod_hides_23 (by decide) (fun hc2 => ?_) (fun hc2 => ?_)
      · rw [if_neg hc2] at h
        refine lv_iconst (v := 0) hx hb d_Mod_hides_30 (by decide) ?_
        exact (ih.2) S (upd L 100 (0 : Int32)) M ls H locs h (lv_sub hl [0, 1, 2] rfl) hP hD hS
      · rw [if_pos hc2] at h
        refine lv_iconst (v := 1) hx hb d_Mod_hides_26 (by decide) ?_
        refine lv_goto (tgt := 31) hx hb d_Mod_hides_27 (by decide) ?_
        exact (ih.2) S (upd L 100 (1 : Int32)) M ls H locs h (lv_sub hl [0, 1, 2] rfl) hP hD hS
    · intro S L M ls H locs h hl hP hD hS
      simp only [f_Mod_hides] at h
      obtain ⟨hv1, h⟩ := chk h
      cases h
      exact kx_31 ls H locs (bz_n hv1) hP hD hS
abbrev rm_t_Mod_hides : Room := { frames := 0, cells := 0, slots := 0, locals := 0 }
theorem t_Mod_hides (l : Launch) (g : gG) (sz : Nat) (ad : Nat → Nat) (S : sS) (v1 : Int32) (v2 : Int32) (k : Nat) (r : Int32) (S9 : sS) (h : f_Mod_hides k 0 S (upd (upd (fun _ => 0) 1 v1) 2 v2) (fun _ => 0) = some (r, S9)) : Cz l y_Mod_hides b_Mod_hides 3 rm_t_Mod_hides g [.ref (ad 0), .int v1, .int v2] (Sw shM g ad S) sz (fun r1 w => ∃ S1 : sS, w = Sw shM g ad S1 ∧ r1 = r ∧ S1 = S9) := by
  refine startZ (by decide) (Nat.le_of_ble_eq_true rfl) ?_
  intro p e s m below meth c A ls hx hb hr hml hlocks hmn hown htt hN hA hP hK hD hS hl
  exact (w_Mod_hides hx hb hml hown htt hK hN hA r S9 (fun ls H locs hz hP hD hS => fin_z (g := g) (ws := Sw shM g ad S9) hx hb hr hlocks hz (by decide +kernel) (by decide +kernel) hP hD hS ⟨_, rfl, rfl, rfl⟩ d_Mod_hides_31) k).1 S (upd (upd (fun _ => 0) 1 v1) 2 v2) (fun _ => 0) ls _ _ h hl hP hD hS
def f_Mod_fail2 : Nat → Nat → sS → (Nat → Int32) → (Nat → Int64) → Option (Int32 × sS)
  | 0, _, _, _, _ => none
  | k + 1, 0, S, L, M => if okI (S.1 0 92) 22 = true then ((f_Mod_fail k 0 S (upd (upd (upd (fun _ => 0) 1 (L 1 : Int32)) 2 (S.2.1 48 (S.1 0 92 : Int32).toNatClampNeg : Int32)) 3 (L 2 : Int32)) (fun _ => 0)).bind (fun (r2, T2) => some ((0 : Int32), T2))) else none
  | _ + 1, _ + 1, _, _, _ => none
set_option maxHeartbeats 8000000 in
set_option maxRecDepth 100000 in
theorem w_Mod_fail2 {p : Program} {l : Launch} {e : Env} {R : Room} {s : State} {m : MethodId} {args : Array Value} {below : List Frame} {meth : Method} {c : Code} {cells slots : Nat} {Q : State → Prop} {g : gG} {A : Nat → Prop} {ad : Nat → Nat} (hx : p.tables.exec = Jvm.exec) (hb : c.code = b_Mod_fail2) (hml : c.maxLocals = 3) (hown : s.vm.findClass "MacroMillModel" = some m.cls) (htt : ∀ w ∈ gt, w.before args s = true) (hK : va_K g.1 classes (tysG g) s) (hN : nw s) (hA : ∀ q : Nat, s.heap.size ≤ q → A q) (hRf : 1 ≤ R.frames) (hRl : 23 ≤ R.locals) (hRc : cells ≤ R.cells) (hRs : slots ≤ R.slots) (r : Int32) (S9 : sS)
    (kx_15 : ∀ (ls : Array Slot) (H : Heap) (locs : List Loc), va_P g.1 classes (Sw shM g ad S9) H → va_D A (Sw shM g ad S9) → va_S A s.heap H locs → W p l e R s m args below meth c H locs cells slots Q (F0 m 15 ls [])) :
    ∀ k9 : Nat, (∀ (S : sS) (L : Nat → Int32) (M : Nat → Int64) (ls : Array Slot) (H : Heap) (locs : List Loc), f_Mod_fail2 k9 0 S L M = some (r, S9) → lv_has ls 3 [(0, .ref (ad 0)), (1, .int (L 1)), (2, .int (L 2))] → va_P g.1 classes (Sw shM g ad S) H → va_D A (Sw shM g ad S) → va_S A s.heap H locs → W p l e R s m args below meth c H locs cells slots Q (F0 m 0 ls [])) := by
  intro k9
  induction k9 with
  | zero => exact (fun _ _ _ _ _ _ h => by simp [f_Mod_fail2] at h)
  | succ k9 ih =>
    · intro S L M ls H locs h hl hP hD hS
      simp only [f_Mod_fail2] at h
      refine lv_aload_n hx hb d_Mod_fail2_0 rfl (lv_at hl 0 rfl) ?_
      refine lv_iload_n hx hb d_Mod_fail2_1 rfl (lv_at hl 1 rfl) ?_
      refine lv_aload_n hx hb d_Mod_fail2_2 rfl (lv_at hl 0 rfl) ?_
      refine S_getR (h := shM) (C := "MacroMillModel") (T := F_Mod) hx hb htt in_Mod hown hK hP 0 94 rfl 49 rfl rfl (by decide) (htt _ k_2330) (fun _ h9 => h9) d_Mod_fail2_3 ?_
      refine lv_aload_n hx hb d_Mod_fail2_6 rfl (lv_at hl 0 rfl) ?_
      refine S_getI (h := shM) (C := "MacroMillModel") (T := F_Mod) hx hb htt in_Mod hown hK hP 0 92 rfl rfl rfl (by decide) (htt _ k_2328) (fun _ h9 => h9) d_Mod_fail2_7 ?_
      obtain ⟨hv1, h⟩ := chk h
      refine S_iald (h := shM) (i := S.1 0 92) hx hb hK hP 48 rfl (okI_in hv1) d_Mod_fail2_10 ?_
      refine lv_iload_n hx hb d_Mod_fail2_11 rfl (lv_at hl 2 rfl) ?_
      obtain ⟨⟨r2, T2⟩, hq2, h⟩ := Option.bind_eq_some_iff.mp h
      try dsimp only at h
      refine go_vS (As := [.ref (ad 0), .int (L 1), .int (S.2.1 48 (S.1 0 92 : Int32).toNatClampNeg), .int (L 2)]) (g := g) (A := A) (h := shM) hP hK hD hS hA hN (fun hp => va_runV (As := [.int (L 1), .int (S.2.1 48 (S.1 0 92 : Int32).toNatClampNeg), .int (L 2)]) (rest := []) ⟨hx, hb, hml, hown, htt⟩ (t_Mod_fail l g _ ad S (L 1 : Int32) (S.2.1 48 (S.1 0 92 : Int32).toNatClampNeg : Int32) (L 2 : Int32) k9 r2 T2 hq2) ⟨(cb_L htt k_2771 k_276 k_2768 hd_Mod_fail ⟨(Nat.le_trans (by decide +kernel) hRf), (Nat.le_trans (by decide +kernel) hRl)⟩), htt _ k_2770, htt _ k_139⟩ ⟨hp.1, S_recv hK hP 0 rfl rfl, hp.2⟩ rfl rfl hl.1 rfl (lv_room (Nat.le_of_ble_eq_true rfl)) d_Mod_fail2_12 ⟨hRc, hRs⟩) (fun Sn H locs hw9 hP hD hS => ?_)
      have e8 := hw9
      rw [e8] at hP hD
      refine W.widen (k := cells) (n := slots) (Nat.le_refl _) (Nat.le_refl _) ?_
      cases h
      exact kx_15 ls H locs hP hD hS
abbrev rm_t_Mod_fail2 : Room := { frames := 1, cells := 0, slots := 0, locals := 23 }
theorem t_Mod_fail2 (l : Launch) (g : gG) (sz : Nat) (ad : Nat → Nat) (S : sS) (v1 : Int32) (v2 : Int32) (k : Nat) (r : Int32) (S9 : sS) (h : f_Mod_fail2 k 0 S (upd (upd (fun _ => 0) 1 v1) 2 v2) (fun _ => 0) = some (r, S9)) : Cv l y_Mod_fail2 b_Mod_fail2 3 rm_t_Mod_fail2 g [.ref (ad 0), .int v1, .int v2] (Sw shM g ad S) sz (fun w => ∃ S1 : sS, w = Sw shM g ad S1 ∧ S1 = S9) := by
  refine startV (by decide) (Nat.le_of_ble_eq_true rfl) ?_
  intro p e s m below meth c A ls hx hb hr hml hlocks hmn hown htt hN hA hP hK hD hS hl
  exact (w_Mod_fail2 hx hb hml hown htt hK hN hA (by decide +kernel) (by decide +kernel) (by decide +kernel) (by decide +kernel) r S9 (fun ls H locs hP hD hS => fin_v (g := g) (ws := Sw shM g ad S9) hx hb hr hlocks (by decide +kernel) (by decide +kernel) hP hD hS ⟨_, rfl, rfl⟩ d_Mod_fail2_15) k) S (upd (upd (fun _ => 0) 1 v1) 2 v2) (fun _ => 0) ls _ _ h hl hP hD hS
def f_Mod_spend : Nat → Nat → sS → (Nat → Int32) → (Nat → Int64) → Option (Int32 × sS)
  | 0, _, _, _, _ => none
  | k + 1, 0, S, L, M => if ((S.1 0 66) + (L 1)) ≤ (60000 : Int32) then (f_Mod_spend k 1 (putI S 0 66 ((S.1 0 66) + (L 1))) L M) else ((f_Mod_fail2 k 0 (putI S 0 66 ((S.1 0 66) + (L 1))) (upd (upd (fun _ => 0) 1 (21 : Int32)) 2 (L 2 : Int32)) (fun _ => 0)).bind (fun (r2, T2) => f_Mod_spend k 1 T2 L M))
  | k + 1, 1, S, L, M => if (S.1 0 10) = (0 : Int32) then (f_Mod_spend k 2 S (upd L 100 (1 : Int32)) M) else (f_Mod_spend k 2 S (upd L 100 (0 : Int32)) M)
  | k + 1, 2, S, L, M => if bz (L 100) = true then some (L 100, S) else none
  | _ + 1, _ + 3, _, _, _ => none
set_option maxHeartbeats 8000000 in
set_option maxRecDepth 100000 in
theorem w_Mod_spend {p : Program} {l : Launch} {e : Env} {R : Room} {s : State} {m : MethodId} {args : Array Value} {below : List Frame} {meth : Method} {c : Code} {cells slots : Nat} {Q : State → Prop} {g : gG} {A : Nat → Prop} {ad : Nat → Nat} (hx : p.tables.exec = Jvm.exec) (hb : c.code = b_Mod_spend) (hml : c.maxLocals = 3) (hown : s.vm.findClass "MacroMillModel" = some m.cls) (htt : ∀ w ∈ gt, w.before args s = true) (hK : va_K g.1 classes (tysG g) s) (hN : nw s) (hA : ∀ q : Nat, s.heap.size ≤ q → A q) (hRf : 2 ≤ R.frames) (hRl : 45 ≤ R.locals) (hRc : cells ≤ R.cells) (hRs : slots ≤ R.slots) (r : Int32) (S9 : sS)
    (kx_39 : ∀ (ls : Array Slot) (H : Heap) (locs : List Loc), narrow .boolean (.int r) = .int r → va_P g.1 classes (Sw shM g ad S9) H → va_D A (Sw shM g ad S9) → va_S A s.heap H locs → W p l e R s m args below meth c H locs cells slots Q (F0 m 39 ls [.int r])) :
    ∀ k9 : Nat, (∀ (S : sS) (L : Nat → Int32) (M : Nat → Int64) (ls : Array Slot) (H : Heap) (locs : List Loc), f_Mod_spend k9 0 S L M = some (r, S9) → lv_has ls 3 [(0, .ref (ad 0)), (1, .int (L 1)), (2, .int (L 2))] → va_P g.1 classes (Sw shM g ad S) H → va_D A (Sw shM g ad S) → va_S A s.heap H locs → W p l e R s m args below meth c H locs cells slots Q (F0 m 0 ls [])) ∧ (∀ (S : sS) (L : Nat → Int32) (M : Nat → Int64) (ls : Array Slot) (H : Heap) (locs : List Loc), f_Mod_spend k9 1 S L M = some (r, S9) → lv_has ls 3 [(0, .ref (ad 0)), (1, .int (L 1)), (2, .int (L 2))] → va_P g.1 classes (Sw shM g ad S) H → va_D A (Sw shM g ad S) → va_S A s.heap H locs → W p l e R s m args below meth c H locs cells slots Q (F0 m 27 ls [])) ∧ (∀ (S : sS) (L : Nat → Int32) (M : Nat → Int64) (ls : Array Slot) (H : Heap) (locs : List Loc), f_Mod_spend k9 2 S L M = some (r, S9) → lv_has ls 3 [(0, .ref (ad 0)), (1, .int (L 1)), (2, .int (L 2))] → va_P g.1 classes (Sw shM g ad S) H → va_D A (Sw shM g ad S) → va_S A s.heap H locs → W p l e R s m args below meth c H locs cells slots Q (F0 m 39 ls [.int (L 100)])) := by
  intro k9
  induction k9 with
  | zero => exact ⟨(fun _ _ _ _ _ _ h => by simp [f_Mod_spend] at h), (fun _ _ _ _ _ _ h => by simp [f_Mod_spend] at h), (fun _ _ _ _ _ _ h => by simp [f_Mod_spend] at h)⟩
  | succ k9 ih =>
    refine ⟨?_, ?_, ?_⟩
    · intro S L M ls H locs h hl hP hD hS
      simp only [f_Mod_spend] at h
      refine lv_aload_n hx hb d_Mod_spend_0 rfl (lv_at hl 0 rfl) ?_
      refine lv_aload_n hx hb d_Mod_spend_1 rfl (lv_at hl 0 rfl) ?_
      refine S_getI (h := shM) (C := "MacroMillModel") (T := F_Mod) hx hb htt in_Mod hown hK hP 0 66 rfl rfl rfl (by decide) (htt _ k_2302) (fun _ h9 => h9) d_Mod_spend_2 ?_
      refine lv_iload_n hx hb d_Mod_spend_5 rfl (lv_at hl 1 rfl) ?_
      refine lv_iadd hx hb d_Mod_spend_6 ?_
      refine S_put (h := shM) (C := "MacroMillModel") (T := F_Mod) (v := (S.1 0 66) + (L 1)) hx hb htt in_Mod t_Mod t_Mod_ok n_Mod hown hK hP hD hS 0 66 rfl rfl rfl (by decide) (htt _ k_2302) (fun _ h9 => h9) rfl rfl rfl d_Mod_spend_7 (fun H locs hP hD hS => ?_)
      refine lv_aload_n hx hb d_Mod_spend_10 rfl (lv_at hl 0 rfl) ?_
      refine S_getI (h := shM) (C := "MacroMillModel") (T := F_Mod) hx hb htt in_Mod hown hK hP 0 66 rfl rfl rfl (by decide) (htt _ k_2302) (fun _ h9 => h9) d_Mod_spend_11 ?_
      refine toI (y := (S.1 0 66) + (L 1)) rfl ?_
      refine lv_ldcw (v := 60000) hx hb hown (htt _ k_3064) d_Mod_spend_14 ?_
      refine lv_icmp_le (tgt := 27) hx hb d_Mod_spend_17 (by decide) (fun hc1 => ?_) (fun hc1 => ?_)
      · rw [if_pos hc1] at h
        exact (ih.2.1) (putI S 0 66 ((S.1 0 66) + (L 1))) L M ls H locs h (lv_sub hl [0, 1, 2] rfl) hP hD hS
      · rw [if_neg hc1] at h
        refine lv_aload_n hx hb d_Mod_spend_20 rfl (lv_at hl 0 rfl) ?_
        refine lv_bipush (v := 21) hx hb d_Mod_spend_21 (by decide) ?_
        show W _ _ _ _ _ _ _ _ _ _ _ _ _ _ _ (F0 _ 23 _ _)
        refine lv_iload_n hx hb d_Mod_spend_23 rfl (lv_at hl 2 rfl) ?_
        obtain ⟨⟨r2, T2⟩, hq2, h⟩ := Option.bind_eq_some_iff.mp h
        try dsimp only at h
        refine go_vS (As := [.ref (ad 0), .int 21, .int (L 2)]) (g := g) (A := A) (h := shM) hP hK hD hS hA hN (fun hp => va_runV (As := [.int 21, .int (L 2)]) (rest := []) ⟨hx, hb, hml, hown, htt⟩ (t_Mod_fail2 l g _ ad (putI S 0 66 ((S.1 0 66) + (L 1))) (21 : Int32) (L 2 : Int32) k9 r2 T2 hq2) ⟨(cb_L htt k_2985 k_276 k_2982 hd_Mod_fail2 ⟨(Nat.le_trans (by decide +kernel) hRf), (Nat.le_trans (by decide +kernel) hRl)⟩), htt _ k_2984, htt _ k_187⟩ ⟨hp.1, S_recv hK hP 0 rfl rfl, hp.2⟩ rfl rfl hl.1 rfl (lv_room (Nat.le_of_ble_eq_true rfl)) d_Mod_spend_24 ⟨hRc, hRs⟩) (fun Sn H locs hw9 hP hD hS => ?_)
        have e8 := hw9
        rw [e8] at hP hD
        refine W.widen (k := cells) (n := slots) (Nat.le_refl _) (Nat.le_refl _) ?_
        exact (ih.2.1) T2 L M ls H locs h (lv_sub hl [0, 1, 2] rfl) hP hD hS
    · intro S L M ls H locs h hl hP hD hS
      simp only [f_Mod_spend] at h
      refine lv_aload_n hx hb d_Mod_spend_27 rfl (lv_at hl 0 rfl) ?_
      refine S_getI (h := shM) (C := "MacroMillModel") (T := F_Mod) hx hb htt in_Mod hown hK hP 0 10 rfl rfl rfl (by decide) (htt _ k_2246) (fun _ h9 => h9) d_Mod_spend_28 ?_
      refine lv_if_ne (tgt := 38) hx hb d_Mod_spend_31 (by decide) (fun hc1 => ?_) (fun hc1 => ?_)
      · rw [if_neg hc1] at h
        refine lv_iconst (v := 0) hx hb d_Mod_spend_38 (by decide) ?_
        exact (ih.2.2) S (upd L 100 (0 : Int32)) M ls H locs h (lv_sub hl [0, 1, 2] rfl) hP hD hS
      · rw [if_pos hc1] at h
        refine lv_iconst (v := 1) hx hb d_Mod_spend_34 (by decide) ?_
        refine lv_goto (tgt := 39) hx hb d_Mod_spend_35 (by decide) ?_
        exact (ih.2.2) S (upd L 100 (1 : Int32)) M ls H locs h (lv_sub hl [0, 1, 2] rfl) hP hD hS
    · intro S L M ls H locs h hl hP hD hS
      simp only [f_Mod_spend] at h
      obtain ⟨hv1, h⟩ := chk h
      cases h
      exact kx_39 ls H locs (bz_n hv1) hP hD hS
abbrev rm_t_Mod_spend : Room := { frames := 2, cells := 0, slots := 0, locals := 45 }
theorem t_Mod_spend (l : Launch) (g : gG) (sz : Nat) (ad : Nat → Nat) (S : sS) (v1 : Int32) (v2 : Int32) (k : Nat) (r : Int32) (S9 : sS) (h : f_Mod_spend k 0 S (upd (upd (fun _ => 0) 1 v1) 2 v2) (fun _ => 0) = some (r, S9)) : Cz l y_Mod_spend b_Mod_spend 3 rm_t_Mod_spend g [.ref (ad 0), .int v1, .int v2] (Sw shM g ad S) sz (fun r1 w => ∃ S1 : sS, w = Sw shM g ad S1 ∧ r1 = r ∧ S1 = S9) := by
  refine startZ (by decide) (Nat.le_of_ble_eq_true rfl) ?_
  intro p e s m below meth c A ls hx hb hr hml hlocks hmn hown htt hN hA hP hK hD hS hl
  exact (w_Mod_spend hx hb hml hown htt hK hN hA (by decide +kernel) (by decide +kernel) (by decide +kernel) (by decide +kernel) r S9 (fun ls H locs hz hP hD hS => fin_z (g := g) (ws := Sw shM g ad S9) hx hb hr hlocks hz (by decide +kernel) (by decide +kernel) hP hD hS ⟨_, rfl, rfl, rfl⟩ d_Mod_spend_39) k).1 S (upd (upd (fun _ => 0) 1 v1) 2 v2) (fun _ => 0) ls _ _ h hl hP hD hS
def f_Mod_spell : Nat → Nat → sS → (Nat → Int32) → (Nat → Int64) → Option (Int32 × sS)
  | 0, _, _, _, _ => none
  | k + 1, 0, S, L, M => if okI ((65536 : Int32) + (S.1 0 65)) 125552 = true then (some ((0 : Int32), (putI (putA S 23 ((65536 : Int32) + (S.1 0 65) : Int32).toNatClampNeg (vp_nar .byte ((L 1).toInt8.toInt32))) 0 65 ((S.1 0 65) + (1 : Int32))))) else none
  | _ + 1, _ + 1, _, _, _ => none
set_option maxHeartbeats 8000000 in
set_option maxRecDepth 100000 in
theorem w_Mod_spell {p : Program} {l : Launch} {e : Env} {R : Room} {s : State} {m : MethodId} {args : Array Value} {below : List Frame} {meth : Method} {c : Code} {cells slots : Nat} {Q : State → Prop} {g : gG} {A : Nat → Prop} {ad : Nat → Nat} (hx : p.tables.exec = Jvm.exec) (hb : c.code = b_Mod_spell) (hml : c.maxLocals = 2) (hown : s.vm.findClass "MacroMillModel" = some m.cls) (htt : ∀ w ∈ gt, w.before args s = true) (hK : va_K g.1 classes (tysG g) s) (hN : nw s) (hA : ∀ q : Nat, s.heap.size ≤ q → A q) (r : Int32) (S9 : sS)
    (kx_25 : ∀ (ls : Array Slot) (H : Heap) (locs : List Loc), va_P g.1 classes (Sw shM g ad S9) H → va_D A (Sw shM g ad S9) → va_S A s.heap H locs → W p l e R s m args below meth c H locs cells slots Q (F0 m 25 ls [])) :
    ∀ k9 : Nat, (∀ (S : sS) (L : Nat → Int32) (M : Nat → Int64) (ls : Array Slot) (H : Heap) (locs : List Loc), f_Mod_spell k9 0 S L M = some (r, S9) → lv_has ls 2 [(0, .ref (ad 0)), (1, .int (L 1))] → va_P g.1 classes (Sw shM g ad S) H → va_D A (Sw shM g ad S) → va_S A s.heap H locs → W p l e R s m args below meth c H locs cells slots Q (F0 m 0 ls [])) := by
  intro k9
  induction k9 with
  | zero => exact (fun _ _ _ _ _ _ h => by simp [f_Mod_spell] at h)
  | succ k9 ih =>
    · intro S L M ls H locs h hl hP hD hS
      simp only [f_Mod_spell] at h
      refine lv_aload_n hx hb d_Mod_spell_0 rfl (lv_at hl 0 rfl) ?_
      refine S_getR (h := shM) (C := "MacroMillModel") (T := F_Mod) hx hb htt in_Mod hown hK hP 0 60 rfl 24 rfl rfl (by decide) (htt _ k_2296) (fun _ h9 => h9) d_Mod_spell_1 ?_
      refine lv_ldcw (v := 65536) hx hb hown (htt _ k_3055) d_Mod_spell_4 ?_
      refine lv_aload_n hx hb d_Mod_spell_7 rfl (lv_at hl 0 rfl) ?_
      refine S_getI (h := shM) (C := "MacroMillModel") (T := F_Mod) hx hb htt in_Mod hown hK hP 0 65 rfl rfl rfl (by decide) (htt _ k_2301) (fun _ h9 => h9) d_Mod_spell_8 ?_
      refine lv_iadd hx hb d_Mod_spell_11 ?_
      refine lv_iload_n hx hb d_Mod_spell_12 rfl (lv_at hl 1 rfl) ?_
      refine lv_i2b (v := (L 1).toInt8.toInt32) hx hb d_Mod_spell_13 rfl ?_
      obtain ⟨hv1, h⟩ := chk h
      refine S_bast (h := shM) (i := (65536 : Int32) + (S.1 0 65)) (v := (L 1).toInt8.toInt32) hx hb hK hP hD hS 23 rfl (okI_in hv1) d_Mod_spell_14 (fun H locs hP hD hS => ?_)
      refine lv_aload_n hx hb d_Mod_spell_15 rfl (lv_at hl 0 rfl) ?_
      refine lv_dup hx hb d_Mod_spell_16 rfl ?_
      show W _ _ _ _ _ _ _ _ _ _ _ _ _ _ _ (F0 _ 17 _ _)
      refine S_getI (h := shM) (C := "MacroMillModel") (T := F_Mod) hx hb htt in_Mod hown hK hP 0 65 rfl rfl rfl (by decide) (htt _ k_2301) (fun _ h9 => h9) d_Mod_spell_17 ?_
      refine toI (y := S.1 0 65) rfl ?_
      refine lv_iconst (v := 1) hx hb d_Mod_spell_20 (by decide) ?_
      refine lv_iadd hx hb d_Mod_spell_21 ?_
      refine S_put (h := shM) (C := "MacroMillModel") (T := F_Mod) (v := (S.1 0 65) + (1 : Int32)) hx hb htt in_Mod t_Mod t_Mod_ok n_Mod hown hK hP hD hS 0 65 rfl rfl rfl (by decide) (htt _ k_2301) (fun _ h9 => h9) rfl rfl rfl d_Mod_spell_22 (fun H locs hP hD hS => ?_)
      cases h
      exact kx_25 ls H locs hP hD hS
abbrev rm_t_Mod_spell : Room := { frames := 0, cells := 0, slots := 0, locals := 0 }
theorem t_Mod_spell (l : Launch) (g : gG) (sz : Nat) (ad : Nat → Nat) (S : sS) (v1 : Int32) (k : Nat) (r : Int32) (S9 : sS) (h : f_Mod_spell k 0 S (upd (fun _ => 0) 1 v1) (fun _ => 0) = some (r, S9)) : Cv l y_Mod_spell b_Mod_spell 2 rm_t_Mod_spell g [.ref (ad 0), .int v1] (Sw shM g ad S) sz (fun w => ∃ S1 : sS, w = Sw shM g ad S1 ∧ S1 = S9) := by
  refine startV (by decide) (Nat.le_of_ble_eq_true rfl) ?_
  intro p e s m below meth c A ls hx hb hr hml hlocks hmn hown htt hN hA hP hK hD hS hl
  exact (w_Mod_spell hx hb hml hown htt hK hN hA r S9 (fun ls H locs hP hD hS => fin_v (g := g) (ws := Sw shM g ad S9) hx hb hr hlocks (by decide +kernel) (by decide +kernel) hP hD hS ⟨_, rfl, rfl⟩ d_Mod_spell_25) k) S (upd (fun _ => 0) 1 v1) (fun _ => 0) ls _ _ h hl hP hD hS
def f_Mod_lineNumber : Nat → Nat → sS → (Nat → Int32) → (Nat → Int64) → Option (Int32 × sS)
  | 0, _, _, _, _ => none
  | k + 1, 0, S, L, M => if okI (S.1 0 92) 22 = true then (some ((L 1) + (S.2.1 49 (S.1 0 92 : Int32).toNatClampNeg), S)) else none
  | _ + 1, _ + 1, _, _, _ => none
set_option maxHeartbeats 8000000 in
set_option maxRecDepth 100000 in
theorem w_Mod_lineNumber {p : Program} {l : Launch} {e : Env} {R : Room} {s : State} {m : MethodId} {args : Array Value} {below : List Frame} {meth : Method} {c : Code} {cells slots : Nat} {Q : State → Prop} {g : gG} {A : Nat → Prop} {ad : Nat → Nat} (hx : p.tables.exec = Jvm.exec) (hb : c.code = b_Mod_lineNumber) (hml : c.maxLocals = 2) (hown : s.vm.findClass "MacroMillModel" = some m.cls) (htt : ∀ w ∈ gt, w.before args s = true) (hK : va_K g.1 classes (tysG g) s) (hN : nw s) (hA : ∀ q : Nat, s.heap.size ≤ q → A q) (r : Int32) (S9 : sS)
    (kx_11 : ∀ (ls : Array Slot) (H : Heap) (locs : List Loc), va_P g.1 classes (Sw shM g ad S9) H → va_D A (Sw shM g ad S9) → va_S A s.heap H locs → W p l e R s m args below meth c H locs cells slots Q (F0 m 11 ls [.int r])) :
    ∀ k9 : Nat, (∀ (S : sS) (L : Nat → Int32) (M : Nat → Int64) (ls : Array Slot) (H : Heap) (locs : List Loc), f_Mod_lineNumber k9 0 S L M = some (r, S9) → lv_has ls 2 [(0, .ref (ad 0)), (1, .int (L 1))] → va_P g.1 classes (Sw shM g ad S) H → va_D A (Sw shM g ad S) → va_S A s.heap H locs → W p l e R s m args below meth c H locs cells slots Q (F0 m 0 ls [])) := by
  intro k9
  induction k9 with
  | zero => exact (fun _ _ _ _ _ _ h => by simp [f_Mod_lineNumber] at h)
  | succ k9 ih =>
    · intro S L M ls H locs h hl hP hD hS
      simp only [f_Mod_lineNumber] at h
      refine lv_iload_n hx hb d_Mod_lineNumber_0 rfl (lv_at hl 1 rfl) ?_
      refine lv_aload_n hx hb d_Mod_lineNumber_1 rfl (lv_at hl 0 rfl) ?_
      refine S_getR (h := shM) (C := "MacroMillModel") (T := F_Mod) hx hb htt in_Mod hown hK hP 0 95 rfl 50 rfl rfl (by decide) (htt _ k_2331) (fun _ h9 => h9) d_Mod_lineNumber_2 ?_
      refine lv_aload_n hx hb d_Mod_lineNumber_5 rfl (lv_at hl 0 rfl) ?_
      refine S_getI (h := shM) (C := "MacroMillModel") (T := F_Mod) hx hb htt in_Mod hown hK hP 0 92 rfl rfl rfl (by decide) (htt _ k_2328) (fun _ h9 => h9) d_Mod_lineNumber_6 ?_
      obtain ⟨hv1, h⟩ := chk h
      refine S_iald (h := shM) (i := S.1 0 92) hx hb hK hP 49 rfl (okI_in hv1) d_Mod_lineNumber_9 ?_
      refine lv_iadd hx hb d_Mod_lineNumber_10 ?_
      cases h
      exact kx_11 ls H locs hP hD hS
abbrev rm_t_Mod_lineNumber : Room := { frames := 0, cells := 0, slots := 0, locals := 0 }
theorem t_Mod_lineNumber (l : Launch) (g : gG) (sz : Nat) (ad : Nat → Nat) (S : sS) (v1 : Int32) (k : Nat) (r : Int32) (S9 : sS) (h : f_Mod_lineNumber k 0 S (upd (fun _ => 0) 1 v1) (fun _ => 0) = some (r, S9)) : Ci l y_Mod_lineNumber b_Mod_lineNumber 2 rm_t_Mod_lineNumber g [.ref (ad 0), .int v1] (Sw shM g ad S) sz (fun r1 w => ∃ S1 : sS, w = Sw shM g ad S1 ∧ r1 = r ∧ S1 = S9) := by
  refine startI (by decide) (Nat.le_of_ble_eq_true rfl) ?_
  intro p e s m below meth c A ls hx hb hr hml hlocks hmn hown htt hN hA hP hK hD hS hl
  exact (w_Mod_lineNumber hx hb hml hown htt hK hN hA r S9 (fun ls H locs hP hD hS => fin_i (g := g) (ws := Sw shM g ad S9) hx hb hr hlocks (by decide +kernel) (by decide +kernel) hP hD hS ⟨_, rfl, rfl, rfl⟩ d_Mod_lineNumber_11) k) S (upd (fun _ => 0) 1 v1) (fun _ => 0) ls _ _ h hl hP hD hS
def f_Mod_titleByte : Nat → Nat → sS → (Nat → Int32) → (Nat → Int64) → Option (Int32 × sS)
  | 0, _, _, _, _ => none
  | k + 1, 0, S, L, M => if okI (S.1 0 92) 22 = true then (if (0 : Int32) ≤ (S.2.1 50 (S.1 0 92 : Int32).toNatClampNeg) then (if okI (S.1 0 92) 22 = true then (if okI ((S.2.1 50 (S.1 0 92 : Int32).toNatClampNeg) + (L 1)) 125552 = true then (f_Mod_titleByte k 1 S (upd L 100 ((S.2.1 23 ((S.2.1 50 (S.1 0 92 : Int32).toNatClampNeg) + (L 1) : Int32).toNatClampNeg) &&& (255 : Int32))) M) else none) else none) else (if okI (S.1 0 92) 22 = true then (if okI (((64 : Int32) * (((-1) : Int32) - (S.2.1 50 (S.1 0 92 : Int32).toNatClampNeg))) + (L 1)) 2048 = true then (f_Mod_titleByte k 1 S (upd L 100 ((S.2.1 1 (((64 : Int32) * (((-1) : Int32) - (S.2.1 50 (S.1 0 92 : Int32).toNatClampNeg))) + (L 1) : Int32).toNatClampNeg) &&& (255 : Int32))) M) else none) else none)) else none
  | k + 1, 1, S, L, M => some (L 100, S)
  | _ + 1, _ + 2, _, _, _ => none
set_option maxHeartbeats 8000000 in
set_option maxRecDepth 100000 in
theorem w_Mod_titleByte {p : Program} {l : Launch} {e : Env} {R : Room} {s : State} {m : MethodId} {args : Array Value} {below : List Frame} {meth : Method} {c : Code} {cells slots : Nat} {Q : State → Prop} {g : gG} {A : Nat → Prop} {ad : Nat → Nat} (hx : p.tables.exec = Jvm.exec) (hb : c.code = b_Mod_titleByte) (hml : c.maxLocals = 2) (hown : s.vm.findClass "MacroMillModel" = some m.cls) (htt : ∀ w ∈ gt, w.before args s = true) (hK : va_K g.1 classes (tysG g) s) (hN : nw s) (hA : ∀ q : Nat, s.heap.size ≤ q → A q) (r : Int32) (S9 : sS)
    (kx_60 : ∀ (ls : Array Slot) (H : Heap) (locs : List Loc), va_P g.1 classes (Sw shM g ad S9) H → va_D A (Sw shM g ad S9) → va_S A s.heap H locs → W p l e R s m args below meth c H locs cells slots Q (F0 m 60 ls [.int r])) :
    ∀ k9 : Nat, (∀ (S : sS) (L : Nat → Int32) (M : Nat → Int64) (ls : Array Slot) (H : Heap) (locs : List Loc), f_Mod_titleByte k9 0 S L M = some (r, S9) → lv_has ls 2 [(0, .ref (ad 0)), (1, .int (L 1))] → va_P g.1 classes (Sw shM g ad S) H → va_D A (Sw shM g ad S) → va_S A s.heap H locs → W p l e R s m args below meth c H locs cells slots Q (F0 m 0 ls [])) ∧ (∀ (S : sS) (L : Nat → Int32) (M : Nat → Int64) (ls : Array Slot) (H : Heap) (locs : List Loc), f_Mod_titleByte k9 1 S L M = some (r, S9) → lv_has ls 2 [(0, .ref (ad 0)), (1, .int (L 1))] → va_P g.1 classes (Sw shM g ad S) H → va_D A (Sw shM g ad S) → va_S A s.heap H locs → W p l e R s m args below meth c H locs cells slots Q (F0 m 60 ls [.int (L 100)])) := by
  intro k9
  induction k9 with
  | zero => exact ⟨(fun _ _ _ _ _ _ h => by simp [f_Mod_titleByte] at h), (fun _ _ _ _ _ _ h => by simp [f_Mod_titleByte] at h)⟩
  | succ k9 ih =>
    refine ⟨?_, ?_⟩
    · intro S L M ls H locs h hl hP hD hS
      simp only [f_Mod_titleByte] at h
      refine lv_aload_n hx hb d_Mod_titleByte_0 rfl (lv_at hl 0 rfl) ?_
      refine S_getR (h := shM) (C := "MacroMillModel") (T := F_Mod) hx hb htt in_Mod hown hK hP 0 96 rfl 51 rfl rfl (by decide) (htt _ k_2332) (fun _ h9 => h9) d_Mod_titleByte_1 ?_
      refine lv_aload_n hx hb d_Mod_titleByte_4 rfl (lv_at hl 0 rfl) ?_
      refine S_getI (h := shM) (C := "MacroMillModel") (T := F_Mod) hx hb htt in_Mod hown hK hP 0 92 rfl rfl rfl (by decide) (htt _ k_2328) (fun _ h9 => h9) d_Mod_titleByte_5 ?_
      obtain ⟨hv1, h⟩ := chk h
      refine S_iald (h := shM) (i := S.1 0 92) hx hb hK hP 50 rfl (okI_in hv1) d_Mod_titleByte_8 ?_
      refine lv_if_ge (tgt := 40) hx hb d_Mod_titleByte_9 (by decide) (fun hc2 => ?_) (fun hc2 => ?_)
      · rw [if_pos hc2] at h
        refine lv_aload_n hx hb d_Mod_titleByte_40 rfl (lv_at hl 0 rfl) ?_
        refine S_getR (h := shM) (C := "MacroMillModel") (T := F_Mod) hx hb htt in_Mod hown hK hP 0 60 rfl 24 rfl rfl (by decide) (htt _ k_2296) (fun _ h9 => h9) d_Mod_titleByte_41 ?_
        refine lv_aload_n hx hb d_Mod_titleByte_44 rfl (lv_at hl 0 rfl) ?_
        refine S_getR (h := shM) (C := "MacroMillModel") (T := F_Mod) hx hb htt in_Mod hown hK hP 0 96 rfl 51 rfl rfl (by decide) (htt _ k_2332) (fun _ h9 => h9) d_Mod_titleByte_45 ?_
        refine lv_aload_n hx hb d_Mod_titleByte_48 rfl (lv_at hl 0 rfl) ?_
        refine S_getI (h := shM) (C := "MacroMillModel") (T := F_Mod) hx hb htt in_Mod hown hK hP 0 92 rfl rfl rfl (by decide) (htt _ k_2328) (fun _ h9 => h9) d_Mod_titleByte_49 ?_
        obtain ⟨hv3, h⟩ := chk h
        show W _ _ _ _ _ _ _ _ _ _ _ _ _ _ _ (F0 _ 52 _ _)
        refine S_iald (h := shM) (i := S.1 0 92) hx hb hK hP 50 rfl (okI_in hv3) d_Mod_titleByte_52 ?_
        refine lv_iload_n hx hb d_Mod_titleByte_53 rfl (lv_at hl 1 rfl) ?_
        refine lv_iadd hx hb d_Mod_titleByte_54 ?_
        obtain ⟨hv4, h⟩ := chk h
        refine S_bald (h := shM) (i := (S.2.1 50 (S.1 0 92 : Int32).toNatClampNeg) + (L 1)) hx hb hK hP 23 rfl (okI_in hv4) d_Mod_titleByte_55 ?_
        refine lv_sipush (v := 255) hx hb d_Mod_titleByte_56 (by decide) ?_
        refine lv_iand hx hb d_Mod_titleByte_59 ?_
        exact (ih.2) S (upd L 100 ((S.2.1 23 ((S.2.1 50 (S.1 0 92 : Int32).toNatClampNeg) + (L 1) : Int32).toNatClampNeg) &&& (255 : Int32))) M ls H locs h (lv_sub hl [0, 1] rfl) hP hD hS
      · rw [if_neg hc2] at h
        refine lv_aload_n hx hb d_Mod_titleByte_12 rfl (lv_at hl 0 rfl) ?_
        refine S_getR (h := shM) (C := "MacroMillModel") (T := F_Mod) hx hb htt in_Mod hown hK hP 0 4 rfl 2 rfl rfl (by decide) (htt _ k_2240) (fun _ h9 => h9) d_Mod_titleByte_13 ?_
        refine lv_bipush (v := 64) hx hb d_Mod_titleByte_16 (by decide) ?_
        refine lv_iconst (v := (-1)) hx hb d_Mod_titleByte_18 (by decide) ?_
        refine lv_aload_n hx hb d_Mod_titleByte_19 rfl (lv_at hl 0 rfl) ?_
        refine S_getR (h := shM) (C := "MacroMillModel") (T := F_Mod) hx hb htt in_Mod hown hK hP 0 96 rfl 51 rfl rfl (by decide) (htt _ k_2332) (fun _ h9 => h9) d_Mod_titleByte_20 ?_
        show W _ _ _ _ _ _ _ _ _ _ _ _ _ _ _ (F0 _ 23 _ _)
        refine lv_aload_n hx hb d_Mod_titleByte_23 rfl (lv_at hl 0 rfl) ?_
        refine S_getI (h := shM) (C := "MacroMillModel") (T := F_Mod) hx hb htt in_Mod hown hK hP 0 92 rfl rfl rfl (by decide) (htt _ k_2328) (fun _ h9 => h9) d_Mod_titleByte_24 ?_
        obtain ⟨hv5, h⟩ := chk h
        refine S_iald (h := shM) (i := S.1 0 92) hx hb hK hP 50 rfl (okI_in hv5) d_Mod_titleByte_27 ?_
        refine lv_isub hx hb d_Mod_titleByte_28 ?_
        refine lv_imul hx hb d_Mod_titleByte_29 ?_
        refine lv_iload_n hx hb d_Mod_titleByte_30 rfl (lv_at hl 1 rfl) ?_
        refine lv_iadd hx hb d_Mod_titleByte_31 ?_
        obtain ⟨hv6, h⟩ := chk h
        refine S_bald (h := shM) (i := ((64 : Int32) * (((-1) : Int32) - (S.2.1 50 (S.1 0 92 : Int32).toNatClampNeg))) + (L 1)) hx hb hK hP 1 rfl (okI_in hv6) d_Mod_titleByte_32 ?_
        refine lv_sipush (v := 255) hx hb d_Mod_titleByte_33 (by decide) ?_
        refine lv_iand hx hb d_Mod_titleByte_36 ?_
        refine lv_goto (tgt := 60) hx hb d_Mod_titleByte_37 (by decide) ?_
        exact (ih.2) S (upd L 100 ((S.2.1 1 (((64 : Int32) * (((-1) : Int32) - (S.2.1 50 (S.1 0 92 : Int32).toNatClampNeg))) + (L 1) : Int32).toNatClampNeg) &&& (255 : Int32))) M ls H locs h (lv_sub hl [0, 1] rfl) hP hD hS
    · intro S L M ls H locs h hl hP hD hS
      simp only [f_Mod_titleByte] at h
      cases h
      exact kx_60 ls H locs hP hD hS
abbrev rm_t_Mod_titleByte : Room := { frames := 0, cells := 0, slots := 0, locals := 0 }
theorem t_Mod_titleByte (l : Launch) (g : gG) (sz : Nat) (ad : Nat → Nat) (S : sS) (v1 : Int32) (k : Nat) (r : Int32) (S9 : sS) (h : f_Mod_titleByte k 0 S (upd (fun _ => 0) 1 v1) (fun _ => 0) = some (r, S9)) : Ci l y_Mod_titleByte b_Mod_titleByte 2 rm_t_Mod_titleByte g [.ref (ad 0), .int v1] (Sw shM g ad S) sz (fun r1 w => ∃ S1 : sS, w = Sw shM g ad S1 ∧ r1 = r ∧ S1 = S9) := by
  refine startI (by decide) (Nat.le_of_ble_eq_true rfl) ?_
  intro p e s m below meth c A ls hx hb hr hml hlocks hmn hown htt hN hA hP hK hD hS hl
  exact (w_Mod_titleByte hx hb hml hown htt hK hN hA r S9 (fun ls H locs hP hD hS => fin_i (g := g) (ws := Sw shM g ad S9) hx hb hr hlocks (by decide +kernel) (by decide +kernel) hP hD hS ⟨_, rfl, rfl, rfl⟩ d_Mod_titleByte_60) k).1 S (upd (fun _ => 0) 1 v1) (fun _ => 0) ls _ _ h hl hP hD hS
def f_Mod_setHide : Nat → Nat → sS → (Nat → Int32) → (Nat → Int64) → Option (Int32 × sS)
  | 0, _, _, _, _ => none
  | k + 1, 0, S, L, M => f_Mod_setHide k 1 S (upd L 5 (0 : Int32)) M
  | k + 1, 1, S, L, M => if (7 : Int32) ≤ (L 5) then (if okI (((7 : Int32) * (L 1)) + ((L 4) / (64 : Int32))) 434 = true then (if okI (((7 : Int32) * (L 1)) + ((L 4) / (64 : Int32))) 434 = true then (some ((0 : Int32), (putL S 52 (((7 : Int32) * (L 1)) + ((L 4) / (64 : Int32)) : Int32).toNatClampNeg ((S.2.2 52 (((7 : Int32) * (L 1)) + ((L 4) / (64 : Int32)) : Int32).toNatClampNeg) ||| (1 <<< (((L 4) - (L 4) / (64 : Int32) * (64 : Int32) : Int32).toInt64 &&& 63)))))) else none) else none) else (if okI (((7 : Int32) * (L 2)) + (L 5)) 7007 = true then (if okI (((7 : Int32) * (L 3)) + (L 5)) 7007 = true then (if okI (((7 : Int32) * (L 1)) + (L 5)) 434 = true then (f_Mod_setHide k 1 (putL S 52 (((7 : Int32) * (L 1)) + (L 5) : Int32).toNatClampNeg ((S.2.2 46 (((7 : Int32) * (L 2)) + (L 5) : Int32).toNatClampNeg) &&& (S.2.2 46 (((7 : Int32) * (L 3)) + (L 5) : Int32).toNatClampNeg))) (upd L 5 ((L 5) + 1)) M) else none) else none) else none)
  | _ + 1, _ + 2, _, _, _ => none
set_option maxHeartbeats 8000000 in
set_option maxRecDepth 100000 in
theorem w_Mod_setHide {p : Program} {l : Launch} {e : Env} {R : Room} {s : State} {m : MethodId} {args : Array Value} {below : List Frame} {meth : Method} {c : Code} {cells slots : Nat} {Q : State → Prop} {g : gG} {A : Nat → Prop} {ad : Nat → Nat} (hx : p.tables.exec = Jvm.exec) (hb : c.code = b_Mod_setHide) (hml : c.maxLocals = 6) (hown : s.vm.findClass "MacroMillModel" = some m.cls) (htt : ∀ w ∈ gt, w.before args s = true) (hK : va_K g.1 classes (tysG g) s) (hN : nw s) (hA : ∀ q : Nat, s.heap.size ≤ q → A q) (r : Int32) (S9 : sS)
    (kx_87 : ∀ (ls : Array Slot) (H : Heap) (locs : List Loc), va_P g.1 classes (Sw shM g ad S9) H → va_D A (Sw shM g ad S9) → va_S A s.heap H locs → W p l e R s m args below meth c H locs cells slots Q (F0 m 87 ls [])) :
    ∀ k9 : Nat, (∀ (S : sS) (L : Nat → Int32) (M : Nat → Int64) (ls : Array Slot) (H : Heap) (locs : List Loc), f_Mod_setHide k9 0 S L M = some (r, S9) → lv_has ls 6 [(0, .ref (ad 0)), (1, .int (L 1)), (2, .int (L 2)), (3, .int (L 3)), (4, .int (L 4))] → va_P g.1 classes (Sw shM g ad S) H → va_D A (Sw shM g ad S) → va_S A s.heap H locs → W p l e R s m args below meth c H locs cells slots Q (F0 m 0 ls [])) ∧ (∀ (S : sS) (L : Nat → Int32) (M : Nat → Int64) (ls : Array Slot) (H : Heap) (locs : List Loc), f_Mod_setHide k9 1 S L M = some (r, S9) → lv_has ls 6 [(0, .ref (ad 0)), (1, .int (L 1)), (2, .int (L 2)), (3, .int (L 3)), (4, .int (L 4)), (5, .int (L 5))] → va_P g.1 classes (Sw shM g ad S) H → va_D A (Sw shM g ad S) → va_S A s.heap H locs → W p l e R s m args below meth c H locs cells slots Q (F0 m 3 ls [])) := by
  intro k9
  induction k9 with
  | zero => exact ⟨(fun _ _ _ _ _ _ h => by simp [f_Mod_setHide] at h), (fun _ _ _ _ _ _ h => by simp [f_Mod_setHide] at h)⟩
  | succ k9 ih =>
    refine ⟨?_, ?_⟩
    · intro S L M ls H locs h hl hP hD hS
      simp only [f_Mod_setHide] at h
      refine lv_iconst (v := 0) hx hb d_Mod_setHide_0 (by decide) ?_
      refine lv_istore (lv' := [(5, .int 0), (0, .ref (ad 0)), (1, .int (L 1)), (2, .int (L 2)), (3, .int (L 3)), (4, .int (L 4))]) hx hb d_Mod_setHide_1 hl (by decide) rfl (fun ls hl => ?_)
      exact (ih.2) S (upd L 5 (0 : Int32)) M ls H locs h (lv_sub hl [1, 2, 3, 4, 5, 0] rfl) hP hD hS
    · intro S L M ls H locs h hl hP hD hS
      simp only [f_Mod_setHide] at h
      refine lv_iload hx hb d_Mod_setHide_3 (lv_at hl 5 rfl) ?_
      refine lv_bipush (v := 7) hx hb d_Mod_setHide_5 (by decide) ?_
      refine lv_icmp_ge (tgt := 53) hx hb d_Mod_setHide_7 (by decide) (fun hc1 => ?_) (fun hc1 => ?_)
      · rw [if_pos hc1] at h
        refine lv_bipush (v := 7) hx hb d_Mod_setHide_53 (by decide) ?_
        refine lv_iload_n hx hb d_Mod_setHide_55 rfl (lv_at hl 1 rfl) ?_
        refine lv_imul hx hb d_Mod_setHide_56 ?_
        refine lv_iload hx hb d_Mod_setHide_57 (lv_at hl 4 rfl) ?_
        refine lv_bipush (v := 64) hx hb d_Mod_setHide_59 (by decide) ?_
        refine lv_idiv hx hb d_Mod_setHide_61 (by decide) ?_
        refine lv_iadd hx hb d_Mod_setHide_62 ?_
        refine lv_istore (lv' := [(5, .int (((7 : Int32) * (L 1)) + ((L 4) / (64 : Int32)))), (0, .ref (ad 0)), (1, .int (L 1)), (2, .int (L 2)), (3, .int (L 3)), (4, .int (L 4))]) hx hb d_Mod_setHide_63 hl (by decide) rfl (fun ls hl => ?_)
        refine lv_aload_n hx hb d_Mod_setHide_65 rfl (lv_at hl 1 rfl) ?_
        refine S_getR (h := shM) (C := "MacroMillModel") (T := F_Mod) hx hb htt in_Mod hown hK hP 0 99 rfl 53 rfl rfl (by decide) (htt _ k_2335) (fun _ h9 => h9) d_Mod_setHide_66 ?_
        show W _ _ _ _ _ _ _ _ _ _ _ _ _ _ _ (F0 _ 69 _ _)
        refine lv_iload hx hb d_Mod_setHide_69 (lv_at hl 0 rfl) ?_
        refine lv_aload_n hx hb d_Mod_setHide_71 rfl (lv_at hl 1 rfl) ?_
        refine S_getR (h := shM) (C := "MacroMillModel") (T := F_Mod) hx hb htt in_Mod hown hK hP 0 99 rfl 53 rfl rfl (by decide) (htt _ k_2335) (fun _ h9 => h9) d_Mod_setHide_72 ?_
        refine lv_iload hx hb d_Mod_setHide_75 (lv_at hl 0 rfl) ?_
        obtain ⟨hv2, h⟩ := chk h
        refine S_lald (h := shM) (i := ((7 : Int32) * (L 1)) + ((L 4) / (64 : Int32))) hx hb hK hP 52 rfl (okI_in hv2) d_Mod_setHide_77 ?_
        refine lv_lconst (v := 1) hx hb d_Mod_setHide_78 (by decide) ?_
        refine lv_iload hx hb d_Mod_setHide_79 (lv_at hl 5 rfl) ?_
        refine lv_bipush (v := 64) hx hb d_Mod_setHide_81 (by decide) ?_
        refine lv_irem hx hb d_Mod_setHide_83 (by decide) ?_
        refine lv_lshl (v := 1 <<< (((L 4) - (L 4) / (64 : Int32) * (64 : Int32) : Int32).toInt64 &&& 63)) hx hb d_Mod_setHide_84 rfl ?_
        refine lv_lor hx hb d_Mod_setHide_85 ?_
        obtain ⟨hv3, h⟩ := chk h
        refine S_last (h := shM) (i := ((7 : Int32) * (L 1)) + ((L 4) / (64 : Int32))) (v := (S.2.2 52 (((7 : Int32) * (L 1)) + ((L 4) / (64 : Int32)) : Int32).toNatClampNeg) ||| (1 <<< (((L 4) - (L 4) / (64 : Int32) * (64 : Int32) : Int32).toInt64 &&& 63))) hx hb hK hP hD hS 52 rfl (okI_in hv3) d_Mod_setHide_86 (fun H locs hP hD hS => ?_)
        cases h
        exact kx_87 ls H locs hP hD hS
      · rw [if_neg hc1] at h
        refine lv_aload_n hx hb d_Mod_setHide_10 rfl (lv_at hl 0 rfl) ?_
        refine S_getR (h := shM) (C := "MacroMillModel") (T := F_Mod) hx hb htt in_Mod hown hK hP 0 99 rfl 53 rfl rfl (by decide) (htt _ k_2335) (fun _ h9 => h9) d_Mod_setHide_11 ?_
        refine lv_bipush (v := 7) hx hb d_Mod_setHide_14 (by decide) ?_
        refine lv_iload_n hx hb d_Mod_setHide_16 rfl (lv_at hl 1 rfl) ?_
        refine lv_imul hx hb d_Mod_setHide_17 ?_
        refine lv_iload hx hb d_Mod_setHide_18 (lv_at hl 5 rfl) ?_
        refine lv_iadd hx hb d_Mod_setHide_20 ?_
        refine lv_aload_n hx hb d_Mod_setHide_21 rfl (lv_at hl 0 rfl) ?_
        refine S_getR (h := shM) (C := "MacroMillModel") (T := F_Mod) hx hb htt in_Mod hown hK hP 0 90 rfl 47 rfl rfl (by decide) (htt _ k_2326) (fun _ h9 => h9) d_Mod_setHide_22 ?_
        show W _ _ _ _ _ _ _ _ _ _ _ _ _ _ _ (F0 _ 25 _ _)
        refine lv_bipush (v := 7) hx hb d_Mod_setHide_25 (by decide) ?_
        refine lv_iload_n hx hb d_Mod_setHide_27 rfl (lv_at hl 2 rfl) ?_
        refine lv_imul hx hb d_Mod_setHide_28 ?_
        refine lv_iload hx hb d_Mod_setHide_29 (lv_at hl 5 rfl) ?_
        refine lv_iadd hx hb d_Mod_setHide_31 ?_
        obtain ⟨hv4, h⟩ := chk h
        refine S_lald (h := shM) (i := ((7 : Int32) * (L 2)) + (L 5)) hx hb hK hP 46 rfl (okI_in hv4) d_Mod_setHide_32 ?_
        refine lv_aload_n hx hb d_Mod_setHide_33 rfl (lv_at hl 0 rfl) ?_
        refine S_getR (h := shM) (C := "MacroMillModel") (T := F_Mod) hx hb htt in_Mod hown hK hP 0 90 rfl 47 rfl rfl (by decide) (htt _ k_2326) (fun _ h9 => h9) d_Mod_setHide_34 ?_
        refine lv_bipush (v := 7) hx hb d_Mod_setHide_37 (by decide) ?_
        refine lv_iload_n hx hb d_Mod_setHide_39 rfl (lv_at hl 3 rfl) ?_
        refine lv_imul hx hb d_Mod_setHide_40 ?_
        refine lv_iload hx hb d_Mod_setHide_41 (lv_at hl 5 rfl) ?_
        show W _ _ _ _ _ _ _ _ _ _ _ _ _ _ _ (F0 _ 43 _ _)
        refine lv_iadd hx hb d_Mod_setHide_43 ?_
        obtain ⟨hv5, h⟩ := chk h
        refine S_lald (h := shM) (i := ((7 : Int32) * (L 3)) + (L 5)) hx hb hK hP 46 rfl (okI_in hv5) d_Mod_setHide_44 ?_
        refine lv_land hx hb d_Mod_setHide_45 ?_
        obtain ⟨hv6, h⟩ := chk h
        refine S_last (h := shM) (i := ((7 : Int32) * (L 1)) + (L 5)) (v := (S.2.2 46 (((7 : Int32) * (L 2)) + (L 5) : Int32).toNatClampNeg) &&& (S.2.2 46 (((7 : Int32) * (L 3)) + (L 5) : Int32).toNatClampNeg)) hx hb hK hP hD hS 52 rfl (okI_in hv6) d_Mod_setHide_46 (fun H locs hP hD hS => ?_)
        refine lv_iinc (k := 5) (v := (L 5) + 1) (lv' := [(5, .int ((L 5) + 1)), (0, .ref (ad 0)), (1, .int (L 1)), (2, .int (L 2)), (3, .int (L 3)), (4, .int (L 4))]) hx hb d_Mod_setHide_47 hl rfl rfl (by decide) rfl (fun ls hl => ?_)
        refine lv_goto (tgt := 3) hx hb d_Mod_setHide_50 (by decide) ?_
        exact (ih.2) (putL S 52 (((7 : Int32) * (L 1)) + (L 5) : Int32).toNatClampNeg ((S.2.2 46 (((7 : Int32) * (L 2)) + (L 5) : Int32).toNatClampNeg) &&& (S.2.2 46 (((7 : Int32) * (L 3)) + (L 5) : Int32).toNatClampNeg))) (upd L 5 ((L 5) + 1)) M ls H locs h (lv_sub hl [1, 2, 3, 4, 5, 0] rfl) hP hD hS
abbrev rm_t_Mod_setHide : Room := { frames := 0, cells := 0, slots := 0, locals := 0 }
theorem t_Mod_setHide (l : Launch) (g : gG) (sz : Nat) (ad : Nat → Nat) (S : sS) (v1 : Int32) (v2 : Int32) (v3 : Int32) (v4 : Int32) (k : Nat) (r : Int32) (S9 : sS) (h : f_Mod_setHide k 0 S (upd (upd (upd (upd (fun _ => 0) 1 v1) 2 v2) 3 v3) 4 v4) (fun _ => 0) = some (r, S9)) : Cv l y_Mod_setHide b_Mod_setHide 6 rm_t_Mod_setHide g [.ref (ad 0), .int v1, .int v2, .int v3, .int v4] (Sw shM g ad S) sz (fun w => ∃ S1 : sS, w = Sw shM g ad S1 ∧ S1 = S9) := by
  refine startV (by decide) (Nat.le_of_ble_eq_true rfl) ?_
  intro p e s m below meth c A ls hx hb hr hml hlocks hmn hown htt hN hA hP hK hD hS hl
  exact (w_Mod_setHide hx hb hml hown htt hK hN hA r S9 (fun ls H locs hP hD hS => fin_v (g := g) (ws := Sw shM g ad S9) hx hb hr hlocks (by decide +kernel) (by decide +kernel) hP hD hS ⟨_, rfl, rfl⟩ d_Mod_setHide_87) k).1 S (upd (upd (upd (upd (fun _ => 0) 1 v1) 2 v2) 3 v3) 4 v4) (fun _ => 0) ls _ _ h hl hP hD hS
def f_Mod_put : Nat → Nat → sS → (Nat → Int32) → (Nat → Int64) → Option (Int32 × sS)
  | 0, _, _, _, _ => none
  | k + 1, 0, S, L, M => if (S.1 0 15) = (40000 : Int32) then ((f_Mod_fail2 k 0 S (upd (upd (fun _ => 0) 1 (21 : Int32)) 2 (L 3 : Int32)) (fun _ => 0)).bind (fun (r9, T9) => some ((0 : Int32), T9))) else (if okI (L 1) 260000 = true then (if okI (L 1) 260000 = true then (if okI (L 2) 62 = true then (if (0 : Int32) ≤ ((putA (putA (putI S 0 15 ((S.1 0 15) + (1 : Int32))) 31 (L 1 : Int32).toNatClampNeg (-1)) 33 (L 1 : Int32).toNatClampNeg (vp_nar .boolean 0)).2.1 57 (L 2 : Int32).toNatClampNeg) then (if okI (L 2) 62 = true then (if okI ((putA (putA (putI S 0 15 ((S.1 0 15) + (1 : Int32))) 31 (L 1 : Int32).toNatClampNeg (-1)) 33 (L 1 : Int32).toNatClampNeg (vp_nar .boolean 0)).2.1 58 (L 2 : Int32).toNatClampNeg) 260000 = true then (f_Mod_put k 1 (putA (putA (putA (putI S 0 15 ((S.1 0 15) + (1 : Int32))) 31 (L 1 : Int32).toNatClampNeg (-1)) 33 (L 1 : Int32).toNatClampNeg (vp_nar .boolean 0)) 31 ((putA (putA (putI S 0 15 ((S.1 0 15) + (1 : Int32))) 31 (L 1 : Int32).toNatClampNeg (-1)) 33 (L 1 : Int32).toNatClampNeg (vp_nar .boolean 0)).2.1 58 (L 2 : Int32).toNatClampNeg : Int32).toNatClampNeg (L 1)) L M) else none) else none) else (if okI (L 2) 62 = true then (f_Mod_put k 1 (putA (putA (putA (putI S 0 15 ((S.1 0 15) + (1 : Int32))) 31 (L 1 : Int32).toNatClampNeg (-1)) 33 (L 1 : Int32).toNatClampNeg (vp_nar .boolean 0)) 57 (L 2 : Int32).toNatClampNeg (L 1)) L M) else none)) else none) else none) else none)
  | k + 1, 1, S, L, M => if okI (L 2) 62 = true then (some ((0 : Int32), (putA S 58 (L 2 : Int32).toNatClampNeg (L 1)))) else none
  | _ + 1, _ + 2, _, _, _ => none
set_option maxHeartbeats 8000000 in
set_option maxRecDepth 100000 in
theorem w_Mod_put {p : Program} {l : Launch} {e : Env} {R : Room} {s : State} {m : MethodId} {args : Array Value} {below : List Frame} {meth : Method} {c : Code} {cells slots : Nat} {Q : State → Prop} {g : gG} {A : Nat → Prop} {ad : Nat → Nat} (hx : p.tables.exec = Jvm.exec) (hb : c.code = b_Mod_put) (hml : c.maxLocals = 4) (hown : s.vm.findClass "MacroMillModel" = some m.cls) (htt : ∀ w ∈ gt, w.before args s = true) (hK : va_K g.1 classes (tysG g) s) (hN : nw s) (hA : ∀ q : Nat, s.heap.size ≤ q → A q) (hRf : 2 ≤ R.frames) (hRl : 45 ≤ R.locals) (hRc : cells ≤ R.cells) (hRs : slots ≤ R.slots) (r : Int32) (S9 : sS)
    (kx_17 : ∀ (ls : Array Slot) (H : Heap) (locs : List Loc), va_P g.1 classes (Sw shM g ad S9) H → va_D A (Sw shM g ad S9) → va_S A s.heap H locs → W p l e R s m args below meth c H locs cells slots Q (F0 m 17 ls []))
    (kx_80 : ∀ (ls : Array Slot) (H : Heap) (locs : List Loc), va_P g.1 classes (Sw shM g ad S9) H → va_D A (Sw shM g ad S9) → va_S A s.heap H locs → W p l e R s m args below meth c H locs cells slots Q (F0 m 80 ls [])) :
    ∀ k9 : Nat, (∀ (S : sS) (L : Nat → Int32) (M : Nat → Int64) (ls : Array Slot) (H : Heap) (locs : List Loc), f_Mod_put k9 0 S L M = some (r, S9) → lv_has ls 4 [(0, .ref (ad 0)), (1, .int (L 1)), (2, .int (L 2)), (3, .int (L 3))] → va_P g.1 classes (Sw shM g ad S) H → va_D A (Sw shM g ad S) → va_S A s.heap H locs → W p l e R s m args below meth c H locs cells slots Q (F0 m 0 ls [])) ∧ (∀ (S : sS) (L : Nat → Int32) (M : Nat → Int64) (ls : Array Slot) (H : Heap) (locs : List Loc), f_Mod_put k9 1 S L M = some (r, S9) → lv_has ls 4 [(0, .ref (ad 0)), (1, .int (L 1)), (2, .int (L 2)), (3, .int (L 3))] → va_P g.1 classes (Sw shM g ad S) H → va_D A (Sw shM g ad S) → va_S A s.heap H locs → W p l e R s m args below meth c H locs cells slots Q (F0 m 73 ls [])) := by
  intro k9
  induction k9 with
  | zero => exact ⟨(fun _ _ _ _ _ _ h => by simp [f_Mod_put] at h), (fun _ _ _ _ _ _ h => by simp [f_Mod_put] at h)⟩
  | succ k9 ih =>
    refine ⟨?_, ?_⟩
    · intro S L M ls H locs h hl hP hD hS
      simp only [f_Mod_put] at h
      refine lv_aload_n hx hb d_Mod_put_0 rfl (lv_at hl 0 rfl) ?_
      refine S_getI (h := shM) (C := "MacroMillModel") (T := F_Mod) hx hb htt in_Mod hown hK hP 0 15 rfl rfl rfl (by decide) (htt _ k_2251) (fun _ h9 => h9) d_Mod_put_1 ?_
      refine lv_ldcw (v := 40000) hx hb hown (htt _ k_3116) d_Mod_put_4 ?_
      refine lv_icmp_ne (tgt := 18) hx hb d_Mod_put_7 (by decide) (fun hc1 => ?_) (fun hc1 => ?_)
      · rw [if_neg hc1] at h
        refine lv_aload_n hx hb d_Mod_put_18 rfl (lv_at hl 0 rfl) ?_
        refine lv_dup hx hb d_Mod_put_19 rfl ?_
        refine S_getI (h := shM) (C := "MacroMillModel") (T := F_Mod) hx hb htt in_Mod hown hK hP 0 15 rfl rfl rfl (by decide) (htt _ k_2251) (fun _ h9 => h9) d_Mod_put_20 ?_
        refine lv_iconst (v := 1) hx hb d_Mod_put_23 (by decide) ?_
        refine lv_iadd hx hb d_Mod_put_24 ?_
        refine S_put (h := shM) (C := "MacroMillModel") (T := F_Mod) (v := (S.1 0 15) + (1 : Int32)) hx hb htt in_Mod t_Mod t_Mod_ok n_Mod hown hK hP hD hS 0 15 rfl rfl rfl (by decide) (htt _ k_2251) (fun _ h9 => h9) rfl rfl rfl d_Mod_put_25 (fun H locs hP hD hS => ?_)
        refine lv_aload_n hx hb d_Mod_put_28 rfl (lv_at hl 0 rfl) ?_
        refine S_getR (h := shM) (C := "MacroMillModel") (T := F_Mod) hx hb htt in_Mod hown hK hP 0 72 rfl 32 rfl rfl (by decide) (htt _ k_2308) (fun _ h9 => h9) d_Mod_put_29 ?_
        show W _ _ _ _ _ _ _ _ _ _ _ _ _ _ _ (F0 _ 32 _ _)
        refine lv_iload_n hx hb d_Mod_put_32 rfl (lv_at hl 1 rfl) ?_
        refine lv_iconst (v := (-1)) hx hb d_Mod_put_33 (by decide) ?_
        obtain ⟨hv2, h⟩ := chk h
        refine S_iast (h := shM) (i := L 1) (v := (-1)) hx hb hK hP hD hS 31 rfl (okI_in hv2) d_Mod_put_34 (fun H locs hP hD hS => ?_)
        refine lv_aload_n hx hb d_Mod_put_35 rfl (lv_at hl 0 rfl) ?_
        refine S_getR (h := shM) (C := "MacroMillModel") (T := F_Mod) hx hb htt in_Mod hown hK hP 0 74 rfl 34 rfl rfl (by decide) (htt _ k_2310) (fun _ h9 => h9) d_Mod_put_36 ?_
        refine lv_iload_n hx hb d_Mod_put_39 rfl (lv_at hl 1 rfl) ?_
        refine lv_iconst (v := 0) hx hb d_Mod_put_40 (by decide) ?_
        obtain ⟨hv3, h⟩ := chk h
        refine S_zast (h := shM) (i := L 1) (v := 0) hx hb hK hP hD hS 33 rfl (okI_in hv3) d_Mod_put_41 (fun H locs hP hD hS => ?_)
        refine lv_aload_n hx hb d_Mod_put_42 rfl (lv_at hl 0 rfl) ?_
        refine S_getR (h := shM) (C := "MacroMillModel") (T := F_Mod) hx hb htt in_Mod hown hK hP 0 105 rfl 58 rfl rfl (by decide) (htt _ k_2341) (fun _ h9 => h9) d_Mod_put_43 ?_
        refine lv_iload_n hx hb d_Mod_put_46 rfl (lv_at hl 2 rfl) ?_
        obtain ⟨hv4, h⟩ := chk h
        refine S_iald (h := shM) (i := L 2) hx hb hK hP 57 rfl (okI_in hv4) d_Mod_put_47 ?_
        refine lv_if_ge (tgt := 61) hx hb d_Mod_put_48 (by decide) (fun hc5 => ?_) (fun hc5 => ?_)
        · rw [if_pos hc5] at h
          show W _ _ _ _ _ _ _ _ _ _ _ _ _ _ _ (F0 _ 61 _ _)
          refine lv_aload_n hx hb d_Mod_put_61 rfl (lv_at hl 0 rfl) ?_
          refine S_getR (h := shM) (C := "MacroMillModel") (T := F_Mod) hx hb htt in_Mod hown hK hP 0 72 rfl 32 rfl rfl (by decide) (htt _ k_2308) (fun _ h9 => h9) d_Mod_put_62 ?_
          refine lv_aload_n hx hb d_Mod_put_65 rfl (lv_at hl 0 rfl) ?_
          refine S_getR (h := shM) (C := "MacroMillModel") (T := F_Mod) hx hb htt in_Mod hown hK hP 0 106 rfl 59 rfl rfl (by decide) (htt _ k_2342) (fun _ h9 => h9) d_Mod_put_66 ?_
          refine lv_iload_n hx hb d_Mod_put_69 rfl (lv_at hl 2 rfl) ?_
          obtain ⟨hv6, h⟩ := chk h
          refine S_iald (h := shM) (i := L 2) hx hb hK hP 58 rfl (okI_in hv6) d_Mod_put_70 ?_
          refine lv_iload_n hx hb d_Mod_put_71 rfl (lv_at hl 1 rfl) ?_
          obtain ⟨hv7, h⟩ := chk h
          refine S_iast (h := shM) (i := (putA (putA (putI S 0 15 ((S.1 0 15) + (1 : Int32))) 31 (L 1 : Int32).toNatClampNeg (-1)) 33 (L 1 : Int32).toNatClampNeg (vp_nar .boolean 0)).2.1 58 (L 2 : Int32).toNatClampNeg) (v := L 1) hx hb hK hP hD hS 31 rfl (okI_in hv7) d_Mod_put_72 (fun H locs hP hD hS => ?_)
          exact (ih.2) (putA (putA (putA (putI S 0 15 ((S.1 0 15) + (1 : Int32))) 31 (L 1 : Int32).toNatClampNeg (-1)) 33 (L 1 : Int32).toNatClampNeg (vp_nar .boolean 0)) 31 ((putA (putA (putI S 0 15 ((S.1 0 15) + (1 : Int32))) 31 (L 1 : Int32).toNatClampNeg (-1)) 33 (L 1 : Int32).toNatClampNeg (vp_nar .boolean 0)).2.1 58 (L 2 : Int32).toNatClampNeg : Int32).toNatClampNeg (L 1)) L M ls H locs h (lv_sub hl [0, 1, 2, 3] rfl) hP hD hS
        · rw [if_neg hc5] at h
          show W _ _ _ _ _ _ _ _ _ _ _ _ _ _ _ (F0 _ 51 _ _)
          refine lv_aload_n hx hb d_Mod_put_51 rfl (lv_at hl 0 rfl) ?_
          refine S_getR (h := shM) (C := "MacroMillModel") (T := F_Mod) hx hb htt in_Mod hown hK hP 0 105 rfl 58 rfl rfl (by decide) (htt _ k_2341) (fun _ h9 => h9) d_Mod_put_52 ?_
          refine lv_iload_n hx hb d_Mod_put_55 rfl (lv_at hl 2 rfl) ?_
          refine lv_iload_n hx hb d_Mod_put_56 rfl (lv_at hl 1 rfl) ?_
          obtain ⟨hv8, h⟩ := chk h
          refine S_iast (h := shM) (i := L 2) (v := L 1) hx hb hK hP hD hS 57 rfl (okI_in hv8) d_Mod_put_57 (fun H locs hP hD hS => ?_)
          refine lv_goto (tgt := 73) hx hb d_Mod_put_58 (by decide) ?_
          exact (ih.2) (putA (putA (putA (putI S 0 15 ((S.1 0 15) + (1 : Int32))) 31 (L 1 : Int32).toNatClampNeg (-1)) 33 (L 1 : Int32).toNatClampNeg (vp_nar .boolean 0)) 57 (L 2 : Int32).toNatClampNeg (L 1)) L M ls H locs h (lv_sub hl [0, 1, 2, 3] rfl) hP hD hS
      · rw [if_pos hc1] at h
        refine lv_aload_n hx hb d_Mod_put_10 rfl (lv_at hl 0 rfl) ?_
        refine lv_bipush (v := 21) hx hb d_Mod_put_11 (by decide) ?_
        refine lv_iload_n hx hb d_Mod_put_13 rfl (lv_at hl 3 rfl) ?_
        obtain ⟨⟨r9, T9⟩, hq9, h⟩ := Option.bind_eq_some_iff.mp h
        try dsimp only at h
        refine go_vS (As := [.ref (ad 0), .int 21, .int (L 3)]) (g := g) (A := A) (h := shM) hP hK hD hS hA hN (fun hp => va_runV (As := [.int 21, .int (L 3)]) (rest := []) ⟨hx, hb, hml, hown, htt⟩ (t_Mod_fail2 l g _ ad S (21 : Int32) (L 3 : Int32) k9 r9 T9 hq9) ⟨(cb_L htt k_2985 k_276 k_2982 hd_Mod_fail2 ⟨(Nat.le_trans (by decide +kernel) hRf), (Nat.le_trans (by decide +kernel) hRl)⟩), htt _ k_2984, htt _ k_187⟩ ⟨hp.1, S_recv hK hP 0 rfl rfl, hp.2⟩ rfl rfl hl.1 rfl (lv_room (Nat.le_of_ble_eq_true rfl)) d_Mod_put_14 ⟨hRc, hRs⟩) (fun Sn H locs hw9 hP hD hS => ?_)
        have e8 := hw9
        rw [e8] at hP hD
        refine W.widen (k := cells) (n := slots) (Nat.le_refl _) (Nat.le_refl _) ?_
        cases h
        exact kx_17 ls H locs hP hD hS
    · intro S L M ls H locs h hl hP hD hS
      simp only [f_Mod_put] at h
      refine lv_aload_n hx hb d_Mod_put_73 rfl (lv_at hl 0 rfl) ?_
      refine S_getR (h := shM) (C := "MacroMillModel") (T := F_Mod) hx hb htt in_Mod hown hK hP 0 106 rfl 59 rfl rfl (by decide) (htt _ k_2342) (fun _ h9 => h9) d_Mod_put_74 ?_
      refine lv_iload_n hx hb d_Mod_put_77 rfl (lv_at hl 2 rfl) ?_
      refine lv_iload_n hx hb d_Mod_put_78 rfl (lv_at hl 1 rfl) ?_
      obtain ⟨hv1, h⟩ := chk h
      refine S_iast (h := shM) (i := L 2) (v := L 1) hx hb hK hP hD hS 58 rfl (okI_in hv1) d_Mod_put_79 (fun H locs hP hD hS => ?_)
      cases h
      exact kx_80 ls H locs hP hD hS
abbrev rm_t_Mod_put : Room := { frames := 2, cells := 0, slots := 0, locals := 45 }
theorem t_Mod_put (l : Launch) (g : gG) (sz : Nat) (ad : Nat → Nat) (S : sS) (v1 : Int32) (v2 : Int32) (v3 : Int32) (k : Nat) (r : Int32) (S9 : sS) (h : f_Mod_put k 0 S (upd (upd (upd (fun _ => 0) 1 v1) 2 v2) 3 v3) (fun _ => 0) = some (r, S9)) : Cv l y_Mod_put b_Mod_put 4 rm_t_Mod_put g [.ref (ad 0), .int v1, .int v2, .int v3] (Sw shM g ad S) sz (fun w => ∃ S1 : sS, w = Sw shM g ad S1 ∧ S1 = S9) := by
  refine startV (by decide) (Nat.le_of_ble_eq_true rfl) ?_
  intro p e s m below meth c A ls hx hb hr hml hlocks hmn hown htt hN hA hP hK hD hS hl
  exact (w_Mod_put hx hb hml hown htt hK hN hA (by decide +kernel) (by decide +kernel) (by decide +kernel) (by decide +kernel) r S9 (fun ls H locs hP hD hS => fin_v (g := g) (ws := Sw shM g ad S9) hx hb hr hlocks (by decide +kernel) (by decide +kernel) hP hD hS ⟨_, rfl, rfl⟩ d_Mod_put_17) (fun ls H locs hP hD hS => fin_v (g := g) (ws := Sw shM g ad S9) hx hb hr hlocks (by decide +kernel) (by decide +kernel) hP hD hS ⟨_, rfl, rfl⟩ d_Mod_put_80) k).1 S (upd (upd (upd (fun _ => 0) 1 v1) 2 v2) 3 v3) (fun _ => 0) ls _ _ h hl hP hD hS
def f_Mod_parameterOf : Nat → Nat → sS → (Nat → Int32) → (Nat → Int64) → Option (Int32 × sS)
  | 0, _, _, _, _ => none
  | k + 1, 0, S, L, M => f_Mod_parameterOf k 1 S (upd (upd L 3 ((-1) : Int32)) 4 (0 : Int32)) M
  | k + 1, 1, S, L, M => if okI (L 1) 400 = true then (if (S.2.1 37 (L 1 : Int32).toNatClampNeg) ≤ (L 4) then (some (L 3, S)) else (if okI (((31 : Int32) * (L 1)) + (L 4)) 12400 = true then (if okI (L 2) 8000 = true then (if (S.2.1 40 (((31 : Int32) * (L 1)) + (L 4) : Int32).toNatClampNeg) = (S.2.1 42 (L 2 : Int32).toNatClampNeg) then (f_Mod_parameterOf k 2 S (upd (upd L 5 (((31 : Int32) * (L 1)) + (L 4))) 100 (1 : Int32)) M) else (f_Mod_parameterOf k 2 S (upd (upd L 5 (((31 : Int32) * (L 1)) + (L 4))) 100 (0 : Int32)) M)) else none) else none)) else none
  | k + 1, 2, S, L, M => f_Mod_parameterOf k 3 S (upd (upd L 6 (L 100)) 7 (0 : Int32)) M
  | k + 1, 3, S, L, M => if okI (L 2) 8000 = true then (if (S.2.1 42 (L 2 : Int32).toNatClampNeg) ≤ (L 7) then (f_Mod_parameterOf k 5 S L M) else (if (L 6) = (0 : Int32) then (f_Mod_parameterOf k 5 S L M) else (if okI (L 2) 8000 = true then (if okI ((S.2.1 41 (L 2 : Int32).toNatClampNeg) + (L 7)) 125552 = true then (if okI (L 5) 12400 = true then (if okI ((S.2.1 39 (L 5 : Int32).toNatClampNeg) + (L 7)) 125552 = true then (if (S.2.1 23 ((S.2.1 41 (L 2 : Int32).toNatClampNeg) + (L 7) : Int32).toNatClampNeg) = (S.2.1 23 ((S.2.1 39 (L 5 : Int32).toNatClampNeg) + (L 7) : Int32).toNatClampNeg) then (f_Mod_parameterOf k 4 S (upd L 100 (1 : Int32)) M) else (f_Mod_parameterOf k 4 S (upd L 100 (0 : Int32)) M)) else none) else none) else none) else none))) else none
  | k + 1, 4, S, L, M => f_Mod_parameterOf k 3 S (upd (upd L 6 (L 100)) 7 ((L 7) + 1)) M
  | k + 1, 5, S, L, M => if (L 6) = (0 : Int32) then (f_Mod_parameterOf k 6 S (upd L 100 (L 3)) M) else (f_Mod_parameterOf k 6 S (upd L 100 (L 4)) M)
  | k + 1, 6, S, L, M => f_Mod_parameterOf k 1 S (upd (upd L 3 (L 100)) 4 ((L 4) + 1)) M
  | _ + 1, _ + 7, _, _, _ => none
set_option maxHeartbeats 8000000 in
set_option maxRecDepth 100000 in
theorem w_Mod_parameterOf {p : Program} {l : Launch} {e : Env} {R : Room} {s : State} {m : MethodId} {args : Array Value} {below : List Frame} {meth : Method} {c : Code} {cells slots : Nat} {Q : State → Prop} {g : gG} {A : Nat → Prop} {ad : Nat → Nat} (hx : p.tables.exec = Jvm.exec) (hb : c.code = b_Mod_parameterOf) (hml : c.maxLocals = 8) (hown : s.vm.findClass "MacroMillModel" = some m.cls) (htt : ∀ w ∈ gt, w.before args s = true) (hK : va_K g.1 classes (tysG g) s) (hN : nw s) (hA : ∀ q : Nat, s.heap.size ≤ q → A q) (r : Int32) (S9 : sS)
    (kx_131 : ∀ (ls : Array Slot) (H : Heap) (locs : List Loc), va_P g.1 classes (Sw shM g ad S9) H → va_D A (Sw shM g ad S9) → va_S A s.heap H locs → W p l e R s m args below meth c H locs cells slots Q (F0 m 131 ls [.int r])) :
    ∀ k9 : Nat, (∀ (S : sS) (L : Nat → Int32) (M : Nat → Int64) (ls : Array Slot) (H : Heap) (locs : List Loc), f_Mod_parameterOf k9 0 S L M = some (r, S9) → lv_has ls 8 [(0, .ref (ad 0)), (1, .int (L 1)), (2, .int (L 2))] → va_P g.1 classes (Sw shM g ad S) H → va_D A (Sw shM g ad S) → va_S A s.heap H locs → W p l e R s m args below meth c H locs cells slots Q (F0 m 0 ls [])) ∧ (∀ (S : sS) (L : Nat → Int32) (M : Nat → Int64) (ls : Array Slot) (H : Heap) (locs : List Loc), f_Mod_parameterOf k9 1 S L M = some (r, S9) → lv_has ls 8 [(0, .ref (ad 0)), (1, .int (L 1)), (2, .int (L 2)), (3, .int (L 3)), (4, .int (L 4))] → va_P g.1 classes (Sw shM g ad S) H → va_D A (Sw shM g ad S) → va_S A s.heap H locs → W p l e R s m args below meth c H locs cells slots Q (F0 m 5 ls [])) ∧ (∀ (S : sS) (L : Nat → Int32) (M : Nat → Int64) (ls : Array Slot) (H : Heap) (locs : List Loc), f_Mod_parameterOf k9 2 S L M = some (r, S9) → lv_has ls 8 [(0, .ref (ad 0)), (1, .int (L 1)), (2, .int (L 2)), (3, .int (L 3)), (4, .int (L 4)), (5, .int (L 5))] → va_P g.1 classes (Sw shM g ad S) H → va_D A (Sw shM g ad S) → va_S A s.heap H locs → W p l e R s m args below meth c H locs cells slots Q (F0 m 46 ls [.int (L 100)])) ∧ (∀ (S : sS) (L : Nat → Int32) (M : Nat → Int64) (ls : Array Slot) (H : Heap) (locs : List Loc), f_Mod_parameterOf k9 3 S L M = some (r, S9) → lv_has ls 8 [(0, .ref (ad 0)), (1, .int (L 1)), (2, .int (L 2)), (3, .int (L 3)), (4, .int (L 4)), (5, .int (L 5)), (6, .int (L 6)), (7, .int (L 7))] → va_P g.1 classes (Sw shM g ad S) H → va_D A (Sw shM g ad S) → va_S A s.heap H locs → W p l e R s m args below meth c H locs cells slots Q (F0 m 51 ls [])) ∧ (∀ (S : sS) (L : Nat → Int32) (M : Nat → Int64) (ls : Array Slot) (H : Heap) (locs : List Loc), f_Mod_parameterOf k9 4 S L M = some (r, S9) → lv_has ls 8 [(0, .ref (ad 0)), (1, .int (L 1)), (2, .int (L 2)), (3, .int (L 3)), (4, .int (L 4)), (5, .int (L 5)), (6, .int (L 6)), (7, .int (L 7))] → va_P g.1 classes (Sw shM g ad S) H → va_D A (Sw shM g ad S) → va_S A s.heap H locs → W p l e R s m args below meth c H locs cells slots Q (F0 m 104 ls [.int (L 100)])) ∧ (∀ (S : sS) (L : Nat → Int32) (M : Nat → Int64) (ls : Array Slot) (H : Heap) (locs : List Loc), f_Mod_parameterOf k9 5 S L M = some (r, S9) → lv_has ls 8 [(0, .ref (ad 0)), (1, .int (L 1)), (2, .int (L 2)), (3, .int (L 3)), (4, .int (L 4)), (5, .int (L 5)), (6, .int (L 6)), (7, .int (L 7))] → va_P g.1 classes (Sw shM g ad S) H → va_D A (Sw shM g ad S) → va_S A s.heap H locs → W p l e R s m args below meth c H locs cells slots Q (F0 m 112 ls [])) ∧ (∀ (S : sS) (L : Nat → Int32) (M : Nat → Int64) (ls : Array Slot) (H : Heap) (locs : List Loc), f_Mod_parameterOf k9 6 S L M = some (r, S9) → lv_has ls 8 [(0, .ref (ad 0)), (1, .int (L 1)), (2, .int (L 2)), (3, .int (L 3)), (4, .int (L 4)), (5, .int (L 5)), (6, .int (L 6)), (7, .int (L 7))] → va_P g.1 classes (Sw shM g ad S) H → va_D A (Sw shM g ad S) → va_S A s.heap H locs → W p l e R s m args below meth c H locs cells slots Q (F0 m 123 ls [.int (L 100)])) := by
  intro k9
  induction k9 with
  | zero => exact ⟨(fun _ _ _ _ _ _ h => by simp [f_Mod_parameterOf] at h), (fun _ _ _ _ _ _ h => by simp [f_Mod_parameterOf] at h), (fun _ _ _ _ _ _ h => by simp [f_Mod_parameterOf] at h), (fun _ _ _ _ _ _ h => by simp [f_Mod_parameterOf] at h), (fun _ _ _ _ _ _ h => by simp [f_Mod_parameterOf] at h), (fun _ _ _ _ _ _ h => by simp [f_Mod_parameterOf] at h), (fun _ _ _ _ _ _ h => by simp [f_Mod_parameterOf] at h)⟩
  | succ k9 ih =>
    refine ⟨?_, ?_, ?_, ?_, ?_, ?_, ?_⟩
    · intro S L M ls H locs h hl hP hD hS
      simp only [f_Mod_parameterOf] at h
      refine lv_iconst (v := (-1)) hx hb d_Mod_parameterOf_0 (by decide) ?_
      refine lv_istore_n (lv' := [(3, .int (-1)), (0, .ref (ad 0)), (1, .int (L 1)), (2, .int (L 2))]) hx hb d_Mod_parameterOf_1 rfl hl (by decide) rfl (fun ls hl => ?_)
      refine lv_iconst (v := 0) hx hb d_Mod_parameterOf_2 (by decide) ?_
      refine lv_istore (lv' := [(4, .int 0), (3, .int (-1)), (0, .ref (ad 0)), (1, .int (L 1)), (2, .int (L 2))]) hx hb d_Mod_parameterOf_3 hl (by decide) rfl (fun ls hl => ?_)
      exact (ih.2.1) S (upd (upd L 3 ((-1) : Int32)) 4 (0 : Int32)) M ls H locs h (lv_sub hl [2, 3, 4, 1, 0] rfl) hP hD hS
    · intro S L M ls H locs h hl hP hD hS
      simp only [f_Mod_parameterOf] at h
      refine lv_iload hx hb d_Mod_parameterOf_5 (lv_at hl 4 rfl) ?_
      refine lv_aload_n hx hb d_Mod_parameterOf_7 rfl (lv_at hl 0 rfl) ?_
      refine S_getR (h := shM) (C := "MacroMillModel") (T := F_Mod) hx hb htt in_Mod hown hK hP 0 79 rfl 38 rfl rfl (by decide) (htt _ k_2315) (fun _ h9 => h9) d_Mod_parameterOf_8 ?_
      refine lv_iload_n hx hb d_Mod_parameterOf_11 rfl (lv_at hl 1 rfl) ?_
      obtain ⟨hv1, h⟩ := chk h
      refine S_iald (h := shM) (i := L 1) hx hb hK hP 37 rfl (okI_in hv1) d_Mod_parameterOf_12 ?_
      refine lv_icmp_ge (tgt := 130) hx hb d_Mod_parameterOf_13 (by decide) (fun hc2 => ?_) (fun hc2 => ?_)
      · rw [if_pos hc2] at h
        refine lv_iload_n hx hb d_Mod_parameterOf_130 rfl (lv_at hl 3 rfl) ?_
        cases h
        exact kx_131 ls H locs hP hD hS
      · rw [if_neg hc2] at h
        refine lv_bipush (v := 31) hx hb d_Mod_parameterOf_16 (by decide) ?_
        refine lv_iload_n hx hb d_Mod_parameterOf_18 rfl (lv_at hl 1 rfl) ?_
        refine lv_imul hx hb d_Mod_parameterOf_19 ?_
        refine lv_iload hx hb d_Mod_parameterOf_20 (lv_at hl 4 rfl) ?_
        refine lv_iadd hx hb d_Mod_parameterOf_22 ?_
        refine lv_istore (lv' := [(5, .int (((31 : Int32) * (L 1)) + (L 4))), (0, .ref (ad 0)), (1, .int (L 1)), (2, .int (L 2)), (3, .int (L 3)), (4, .int (L 4))]) hx hb d_Mod_parameterOf_23 hl (by decide) rfl (fun ls hl => ?_)
        show W _ _ _ _ _ _ _ _ _ _ _ _ _ _ _ (F0 _ 25 _ _)
        refine lv_aload_n hx hb d_Mod_parameterOf_25 rfl (lv_at hl 1 rfl) ?_
        refine S_getR (h := shM) (C := "MacroMillModel") (T := F_Mod) hx hb htt in_Mod hown hK hP 0 82 rfl 41 rfl rfl (by decide) (htt _ k_2318) (fun _ h9 => h9) d_Mod_parameterOf_26 ?_
        refine lv_iload hx hb d_Mod_parameterOf_29 (lv_at hl 0 rfl) ?_
        obtain ⟨hv3, h⟩ := chk h
        refine S_iald (h := shM) (i := ((31 : Int32) * (L 1)) + (L 4)) hx hb hK hP 40 rfl (okI_in hv3) d_Mod_parameterOf_31 ?_
        refine lv_aload_n hx hb d_Mod_parameterOf_32 rfl (lv_at hl 1 rfl) ?_
        refine S_getR (h := shM) (C := "MacroMillModel") (T := F_Mod) hx hb htt in_Mod hown hK hP 0 85 rfl 43 rfl rfl (by decide) (htt _ k_2321) (fun _ h9 => h9) d_Mod_parameterOf_33 ?_
        refine lv_iload_n hx hb d_Mod_parameterOf_36 rfl (lv_at hl 3 rfl) ?_
        obtain ⟨hv4, h⟩ := chk h
        refine S_iald (h := shM) (i := L 2) hx hb hK hP 42 rfl (okI_in hv4) d_Mod_parameterOf_37 ?_
        refine lv_icmp_ne (tgt := 45) hx hb d_Mod_parameterOf_38 (by decide) (fun hc5 => ?_) (fun hc5 => ?_)
        · rw [if_neg hc5] at h
          refine lv_iconst (v := 0) hx hb d_Mod_parameterOf_45 (by decide) ?_
          exact (ih.2.2.1) S (upd (upd L 5 (((31 : Int32) * (L 1)) + (L 4))) 100 (0 : Int32)) M ls H locs h (lv_sub hl [1, 2, 3, 4, 5, 0] rfl) hP hD hS
        · rw [if_pos hc5] at h
          refine lv_iconst (v := 1) hx hb d_Mod_parameterOf_41 (by decide) ?_
          refine lv_goto (tgt := 46) hx hb d_Mod_parameterOf_42 (by decide) ?_
          exact (ih.2.2.1) S (upd (upd L 5 (((31 : Int32) * (L 1)) + (L 4))) 100 (1 : Int32)) M ls H locs h (lv_sub hl [1, 2, 3, 4, 5, 0] rfl) hP hD hS
    · intro S L M ls H locs h hl hP hD hS
      simp only [f_Mod_parameterOf] at h
      refine lv_istore (lv' := [(6, .int (L 100)), (0, .ref (ad 0)), (1, .int (L 1)), (2, .int (L 2)), (3, .int (L 3)), (4, .int (L 4)), (5, .int (L 5))]) hx hb d_Mod_parameterOf_46 hl (by decide) rfl (fun ls hl => ?_)
      refine lv_iconst (v := 0) hx hb d_Mod_parameterOf_48 (by decide) ?_
      refine lv_istore (lv' := [(7, .int 0), (6, .int (L 100)), (0, .ref (ad 0)), (1, .int (L 1)), (2, .int (L 2)), (3, .int (L 3)), (4, .int (L 4)), (5, .int (L 5))]) hx hb d_Mod_parameterOf_49 hl (by decide) rfl (fun ls hl => ?_)
      exact (ih.2.2.2.1) S (upd (upd L 6 (L 100)) 7 (0 : Int32)) M ls H locs h (lv_sub hl [2, 3, 4, 5, 6, 7, 1, 0] rfl) hP hD hS
    · intro S L M ls H locs h hl hP hD hS
      simp only [f_Mod_parameterOf] at h
      refine lv_iload hx hb d_Mod_parameterOf_51 (lv_at hl 7 rfl) ?_
      refine lv_aload_n hx hb d_Mod_parameterOf_53 rfl (lv_at hl 0 rfl) ?_
      refine S_getR (h := shM) (C := "MacroMillModel") (T := F_Mod) hx hb htt in_Mod hown hK hP 0 85 rfl 43 rfl rfl (by decide) (htt _ k_2321) (fun _ h9 => h9) d_Mod_parameterOf_54 ?_
      refine lv_iload_n hx hb d_Mod_parameterOf_57 rfl (lv_at hl 2 rfl) ?_
      obtain ⟨hv1, h⟩ := chk h
      refine S_iald (h := shM) (i := L 2) hx hb hK hP 42 rfl (okI_in hv1) d_Mod_parameterOf_58 ?_
      refine lv_icmp_ge (tgt := 112) hx hb d_Mod_parameterOf_59 (by decide) (fun hc2 => ?_) (fun hc2 => ?_)
      · rw [if_pos hc2] at h
        exact (ih.2.2.2.2.2.1) S L M ls H locs h (lv_sub hl [0, 1, 2, 3, 4, 5, 6, 7] rfl) hP hD hS
      · rw [if_neg hc2] at h
        refine lv_iload hx hb d_Mod_parameterOf_62 (lv_at hl 6 rfl) ?_
        refine lv_if_eq (tgt := 112) hx hb d_Mod_parameterOf_64 (by decide) (fun hc3 => ?_) (fun hc3 => ?_)
        · rw [if_pos hc3] at h
          exact (ih.2.2.2.2.2.1) S L M ls H locs h (lv_sub hl [0, 1, 2, 3, 4, 5, 6, 7] rfl) hP hD hS
        · rw [if_neg hc3] at h
          refine lv_aload_n hx hb d_Mod_parameterOf_67 rfl (lv_at hl 0 rfl) ?_
          refine S_getR (h := shM) (C := "MacroMillModel") (T := F_Mod) hx hb htt in_Mod hown hK hP 0 60 rfl 24 rfl rfl (by decide) (htt _ k_2296) (fun _ h9 => h9) d_Mod_parameterOf_68 ?_
          refine lv_aload_n hx hb d_Mod_parameterOf_71 rfl (lv_at hl 0 rfl) ?_
          refine S_getR (h := shM) (C := "MacroMillModel") (T := F_Mod) hx hb htt in_Mod hown hK hP 0 84 rfl 42 rfl rfl (by decide) (htt _ k_2320) (fun _ h9 => h9) d_Mod_parameterOf_72 ?_
          refine lv_iload_n hx hb d_Mod_parameterOf_75 rfl (lv_at hl 2 rfl) ?_
          obtain ⟨hv4, h⟩ := chk h
          show W _ _ _ _ _ _ _ _ _ _ _ _ _ _ _ (F0 _ 76 _ _)
          refine S_iald (h := shM) (i := L 2) hx hb hK hP 41 rfl (okI_in hv4) d_Mod_parameterOf_76 ?_
          refine lv_iload hx hb d_Mod_parameterOf_77 (lv_at hl 7 rfl) ?_
          refine lv_iadd hx hb d_Mod_parameterOf_79 ?_
          obtain ⟨hv5, h⟩ := chk h
          refine S_bald (h := shM) (i := (S.2.1 41 (L 2 : Int32).toNatClampNeg) + (L 7)) hx hb hK hP 23 rfl (okI_in hv5) d_Mod_parameterOf_80 ?_
          refine lv_aload_n hx hb d_Mod_parameterOf_81 rfl (lv_at hl 0 rfl) ?_
          refine S_getR (h := shM) (C := "MacroMillModel") (T := F_Mod) hx hb htt in_Mod hown hK hP 0 60 rfl 24 rfl rfl (by decide) (htt _ k_2296) (fun _ h9 => h9) d_Mod_parameterOf_82 ?_
          refine lv_aload_n hx hb d_Mod_parameterOf_85 rfl (lv_at hl 0 rfl) ?_
          refine S_getR (h := shM) (C := "MacroMillModel") (T := F_Mod) hx hb htt in_Mod hown hK hP 0 81 rfl 40 rfl rfl (by decide) (htt _ k_2317) (fun _ h9 => h9) d_Mod_parameterOf_86 ?_
          refine lv_iload hx hb d_Mod_parameterOf_89 (lv_at hl 5 rfl) ?_
          obtain ⟨hv6, h⟩ := chk h
          refine S_iald (h := shM) (i := L 5) hx hb hK hP 39 rfl (okI_in hv6) d_Mod_parameterOf_91 ?_
          refine lv_iload hx hb d_Mod_parameterOf_92 (lv_at hl 7 rfl) ?_
          refine lv_iadd hx hb d_Mod_parameterOf_94 ?_
          obtain ⟨hv7, h⟩ := chk h
          show W _ _ _ _ _ _ _ _ _ _ _ _ _ _ _ (F0 _ 95 _ _)
          refine S_bald (h := shM) (i := (S.2.1 39 (L 5 : Int32).toNatClampNeg) + (L 7)) hx hb hK hP 23 rfl (okI_in hv7) d_Mod_parameterOf_95 ?_
          refine lv_icmp_ne (tgt := 103) hx hb d_Mod_parameterOf_96 (by decide) (fun hc8 => ?_) (fun hc8 => ?_)
          · rw [if_neg hc8] at h
            refine lv_iconst (v := 0) hx hb d_Mod_parameterOf_103 (by decide) ?_
            exact (ih.2.2.2.2.1) S (upd L 100 (0 : Int32)) M ls H locs h (lv_sub hl [0, 1, 2, 3, 4, 5, 6, 7] rfl) hP hD hS
          · rw [if_pos hc8] at h
            refine lv_iconst (v := 1) hx hb d_Mod_parameterOf_99 (by decide) ?_
            refine lv_goto (tgt := 104) hx hb d_Mod_parameterOf_100 (by decide) ?_
            exact (ih.2.2.2.2.1) S (upd L 100 (1 : Int32)) M ls H locs h (lv_sub hl [0, 1, 2, 3, 4, 5, 6, 7] rfl) hP hD hS
    · intro S L M ls H locs h hl hP hD hS
      simp only [f_Mod_parameterOf] at h
      refine lv_istore (lv' := [(6, .int (L 100)), (0, .ref (ad 0)), (1, .int (L 1)), (2, .int (L 2)), (3, .int (L 3)), (4, .int (L 4)), (5, .int (L 5)), (7, .int (L 7))]) hx hb d_Mod_parameterOf_104 hl (by decide) rfl (fun ls hl => ?_)
      refine lv_iinc (k := 7) (v := (L 7) + 1) (lv' := [(7, .int ((L 7) + 1)), (6, .int (L 100)), (0, .ref (ad 0)), (1, .int (L 1)), (2, .int (L 2)), (3, .int (L 3)), (4, .int (L 4)), (5, .int (L 5))]) hx hb d_Mod_parameterOf_106 hl rfl rfl (by decide) rfl (fun ls hl => ?_)
      refine lv_goto (tgt := 51) hx hb d_Mod_parameterOf_109 (by decide) ?_
      exact (ih.2.2.2.1) S (upd (upd L 6 (L 100)) 7 ((L 7) + 1)) M ls H locs h (lv_sub hl [2, 3, 4, 5, 6, 7, 1, 0] rfl) hP hD hS
    · intro S L M ls H locs h hl hP hD hS
      simp only [f_Mod_parameterOf] at h
      refine lv_iload hx hb d_Mod_parameterOf_112 (lv_at hl 6 rfl) ?_
      refine lv_if_eq (tgt := 122) hx hb d_Mod_parameterOf_114 (by decide) (fun hc1 => ?_) (fun hc1 => ?_)
      · rw [if_pos hc1] at h
        refine lv_iload_n hx hb d_Mod_parameterOf_122 rfl (lv_at hl 3 rfl) ?_
        exact (ih.2.2.2.2.2.2) S (upd L 100 (L 3)) M ls H locs h (lv_sub hl [0, 1, 2, 3, 4, 5, 6, 7] rfl) hP hD hS
      · rw [if_neg hc1] at h
        refine lv_iload hx hb d_Mod_parameterOf_117 (lv_at hl 4 rfl) ?_
        refine lv_goto (tgt := 123) hx hb d_Mod_parameterOf_119 (by decide) ?_
        exact (ih.2.2.2.2.2.2) S (upd L 100 (L 4)) M ls H locs h (lv_sub hl [0, 1, 2, 3, 4, 5, 6, 7] rfl) hP hD hS
    · intro S L M ls H locs h hl hP hD hS
      simp only [f_Mod_parameterOf] at h
      refine lv_istore_n (lv' := [(3, .int (L 100)), (0, .ref (ad 0)), (1, .int (L 1)), (2, .int (L 2)), (4, .int (L 4)), (5, .int (L 5)), (6, .int (L 6)), (7, .int (L 7))]) hx hb d_Mod_parameterOf_123 rfl hl (by decide) rfl (fun ls hl => ?_)
      refine lv_iinc (k := 4) (v := (L 4) + 1) (lv' := [(4, .int ((L 4) + 1)), (3, .int (L 100)), (0, .ref (ad 0)), (1, .int (L 1)), (2, .int (L 2)), (5, .int (L 5)), (6, .int (L 6)), (7, .int (L 7))]) hx hb d_Mod_parameterOf_124 hl rfl rfl (by decide) rfl (fun ls hl => ?_)
      refine lv_goto (tgt := 5) hx hb d_Mod_parameterOf_127 (by decide) ?_
      exact (ih.2.1) S (upd (upd L 3 (L 100)) 4 ((L 4) + 1)) M ls H locs h (lv_sub hl [2, 3, 4, 1, 0] rfl) hP hD hS
abbrev rm_t_Mod_parameterOf : Room := { frames := 0, cells := 0, slots := 0, locals := 0 }
theorem t_Mod_parameterOf (l : Launch) (g : gG) (sz : Nat) (ad : Nat → Nat) (S : sS) (v1 : Int32) (v2 : Int32) (k : Nat) (r : Int32) (S9 : sS) (h : f_Mod_parameterOf k 0 S (upd (upd (fun _ => 0) 1 v1) 2 v2) (fun _ => 0) = some (r, S9)) : Ci l y_Mod_parameterOf b_Mod_parameterOf 8 rm_t_Mod_parameterOf g [.ref (ad 0), .int v1, .int v2] (Sw shM g ad S) sz (fun r1 w => ∃ S1 : sS, w = Sw shM g ad S1 ∧ r1 = r ∧ S1 = S9) := by
  refine startI (by decide) (Nat.le_of_ble_eq_true rfl) ?_
  intro p e s m below meth c A ls hx hb hr hml hlocks hmn hown htt hN hA hP hK hD hS hl
  exact (w_Mod_parameterOf hx hb hml hown htt hK hN hA r S9 (fun ls H locs hP hD hS => fin_i (g := g) (ws := Sw shM g ad S9) hx hb hr hlocks (by decide +kernel) (by decide +kernel) hP hD hS ⟨_, rfl, rfl, rfl⟩ d_Mod_parameterOf_131) k).1 S (upd (upd (fun _ => 0) 1 v1) 2 v2) (fun _ => 0) ls _ _ h hl hP hD hS
def f_Mod_bodyCell : Nat → Nat → sS → (Nat → Int32) → (Nat → Int64) → Option (Int32 × sS)
  | 0, _, _, _, _ => none
  | k + 1, 0, S, L, M => if okI (L 1) 8000 = true then (if okI (L 1) 8000 = true then (if okI (L 1) 8000 = true then ((f_Mod_cell k 0 S (upd (upd (upd (upd (upd (fun _ => 0) 1 (S.2.1 41 (L 1 : Int32).toNatClampNeg : Int32)) 2 (S.2.1 42 (L 1 : Int32).toNatClampNeg : Int32)) 3 (L 2 : Int32)) 4 (S.2.1 43 (L 1 : Int32).toNatClampNeg : Int32)) 5 (0 : Int32)) (fun _ => 0)).bind (fun (r4, T4) => some (r4, T4))) else none) else none) else none
  | _ + 1, _ + 1, _, _, _ => none
set_option maxHeartbeats 8000000 in
set_option maxRecDepth 100000 in
theorem w_Mod_bodyCell {p : Program} {l : Launch} {e : Env} {R : Room} {s : State} {m : MethodId} {args : Array Value} {below : List Frame} {meth : Method} {c : Code} {cells slots : Nat} {Q : State → Prop} {g : gG} {A : Nat → Prop} {ad : Nat → Nat} (hx : p.tables.exec = Jvm.exec) (hb : c.code = b_Mod_bodyCell) (hml : c.maxLocals = 3) (hown : s.vm.findClass "MacroMillModel" = some m.cls) (htt : ∀ w ∈ gt, w.before args s = true) (hK : va_K g.1 classes (tysG g) s) (hN : nw s) (hA : ∀ q : Nat, s.heap.size ≤ q → A q) (hRf : 1 ≤ R.frames) (hRl : 26 ≤ R.locals) (hRc : cells ≤ R.cells) (hRs : slots ≤ R.slots) (r : Int32) (S9 : sS)
    (kx_24 : ∀ (ls : Array Slot) (H : Heap) (locs : List Loc), va_P g.1 classes (Sw shM g ad S9) H → va_D A (Sw shM g ad S9) → va_S A s.heap H locs → W p l e R s m args below meth c H locs cells slots Q (F0 m 24 ls [.int r])) :
    ∀ k9 : Nat, (∀ (S : sS) (L : Nat → Int32) (M : Nat → Int64) (ls : Array Slot) (H : Heap) (locs : List Loc), f_Mod_bodyCell k9 0 S L M = some (r, S9) → lv_has ls 3 [(0, .ref (ad 0)), (1, .int (L 1)), (2, .int (L 2))] → va_P g.1 classes (Sw shM g ad S) H → va_D A (Sw shM g ad S) → va_S A s.heap H locs → W p l e R s m args below meth c H locs cells slots Q (F0 m 0 ls [])) := by
  intro k9
  induction k9 with
  | zero => exact (fun _ _ _ _ _ _ h => by simp [f_Mod_bodyCell] at h)
  | succ k9 ih =>
    · intro S L M ls H locs h hl hP hD hS
      simp only [f_Mod_bodyCell] at h
      refine lv_aload_n hx hb d_Mod_bodyCell_0 rfl (lv_at hl 0 rfl) ?_
      refine lv_aload_n hx hb d_Mod_bodyCell_1 rfl (lv_at hl 0 rfl) ?_
      refine S_getR (h := shM) (C := "MacroMillModel") (T := F_Mod) hx hb htt in_Mod hown hK hP 0 84 rfl 42 rfl rfl (by decide) (htt _ k_2320) (fun _ h9 => h9) d_Mod_bodyCell_2 ?_
      refine lv_iload_n hx hb d_Mod_bodyCell_5 rfl (lv_at hl 1 rfl) ?_
      obtain ⟨hv1, h⟩ := chk h
      refine S_iald (h := shM) (i := L 1) hx hb hK hP 41 rfl (okI_in hv1) d_Mod_bodyCell_6 ?_
      refine lv_aload_n hx hb d_Mod_bodyCell_7 rfl (lv_at hl 0 rfl) ?_
      refine S_getR (h := shM) (C := "MacroMillModel") (T := F_Mod) hx hb htt in_Mod hown hK hP 0 85 rfl 43 rfl rfl (by decide) (htt _ k_2321) (fun _ h9 => h9) d_Mod_bodyCell_8 ?_
      refine lv_iload_n hx hb d_Mod_bodyCell_11 rfl (lv_at hl 1 rfl) ?_
      obtain ⟨hv2, h⟩ := chk h
      refine S_iald (h := shM) (i := L 1) hx hb hK hP 42 rfl (okI_in hv2) d_Mod_bodyCell_12 ?_
      refine lv_iload_n hx hb d_Mod_bodyCell_13 rfl (lv_at hl 2 rfl) ?_
      refine lv_aload_n hx hb d_Mod_bodyCell_14 rfl (lv_at hl 0 rfl) ?_
      show W _ _ _ _ _ _ _ _ _ _ _ _ _ _ _ (F0 _ 15 _ _)
      refine S_getR (h := shM) (C := "MacroMillModel") (T := F_Mod) hx hb htt in_Mod hown hK hP 0 86 rfl 44 rfl rfl (by decide) (htt _ k_2322) (fun _ h9 => h9) d_Mod_bodyCell_15 ?_
      refine lv_iload_n hx hb d_Mod_bodyCell_18 rfl (lv_at hl 1 rfl) ?_
      obtain ⟨hv3, h⟩ := chk h
      refine S_zald (h := shM) (i := L 1) hx hb hK hP 43 rfl (okI_in hv3) d_Mod_bodyCell_19 ?_
      refine lv_iconst (v := 0) hx hb d_Mod_bodyCell_20 (by decide) ?_
      obtain ⟨⟨r4, T4⟩, hq4, h⟩ := Option.bind_eq_some_iff.mp h
      try dsimp only at h
      refine go_iS (As := [.ref (ad 0), .int (S.2.1 41 (L 1 : Int32).toNatClampNeg), .int (S.2.1 42 (L 1 : Int32).toNatClampNeg), .int (L 2), .int (S.2.1 43 (L 1 : Int32).toNatClampNeg), .int 0]) (g := g) (A := A) (h := shM) hP hK hD hS hA hN (fun hp => va_runV (As := [.int (S.2.1 41 (L 1 : Int32).toNatClampNeg), .int (S.2.1 42 (L 1 : Int32).toNatClampNeg), .int (L 2), .int (S.2.1 43 (L 1 : Int32).toNatClampNeg), .int 0]) (rest := []) ⟨hx, hb, hml, hown, htt⟩ (t_Mod_cell l g _ ad S (S.2.1 41 (L 1 : Int32).toNatClampNeg : Int32) (S.2.1 42 (L 1 : Int32).toNatClampNeg : Int32) (L 2 : Int32) (S.2.1 43 (L 1 : Int32).toNatClampNeg : Int32) (0 : Int32) k9 r4 T4 hq4) ⟨(cb_L htt k_3007 k_276 k_3004 hd_Mod_cell ⟨(Nat.le_trans (by decide +kernel) hRf), (Nat.le_trans (by decide +kernel) hRl)⟩), htt _ k_3006, htt _ k_191⟩ ⟨hp.1, S_recv hK hP 0 rfl rfl, hp.2⟩ rfl rfl hl.1 rfl (lv_room (Nat.le_of_ble_eq_true rfl)) d_Mod_bodyCell_21 ⟨hRc, hRs⟩) (fun r0 Sn H locs hw9 hP hD hS => ?_)
      obtain ⟨e9, e8⟩ := hw9
      rw [e8] at hP hD
      refine W.widen (k := cells) (n := slots) (Nat.le_refl _) (Nat.le_refl _) ?_
      refine toI (y := r4) e9 ?_
      cases h
      exact kx_24 ls H locs hP hD hS
abbrev rm_t_Mod_bodyCell : Room := { frames := 1, cells := 0, slots := 0, locals := 26 }
theorem t_Mod_bodyCell (l : Launch) (g : gG) (sz : Nat) (ad : Nat → Nat) (S : sS) (v1 : Int32) (v2 : Int32) (k : Nat) (r : Int32) (S9 : sS) (h : f_Mod_bodyCell k 0 S (upd (upd (fun _ => 0) 1 v1) 2 v2) (fun _ => 0) = some (r, S9)) : Ci l y_Mod_bodyCell b_Mod_bodyCell 3 rm_t_Mod_bodyCell g [.ref (ad 0), .int v1, .int v2] (Sw shM g ad S) sz (fun r1 w => ∃ S1 : sS, w = Sw shM g ad S1 ∧ r1 = r ∧ S1 = S9) := by
  refine startI (by decide) (Nat.le_of_ble_eq_true rfl) ?_
  intro p e s m below meth c A ls hx hb hr hml hlocks hmn hown htt hN hA hP hK hD hS hl
  exact (w_Mod_bodyCell hx hb hml hown htt hK hN hA (by decide +kernel) (by decide +kernel) (by decide +kernel) (by decide +kernel) r S9 (fun ls H locs hP hD hS => fin_i (g := g) (ws := Sw shM g ad S9) hx hb hr hlocks (by decide +kernel) (by decide +kernel) hP hD hS ⟨_, rfl, rfl, rfl⟩ d_Mod_bodyCell_24) k) S (upd (upd (fun _ => 0) 1 v1) 2 v2) (fun _ => 0) ls _ _ h hl hP hD hS
def f_Mod_putRaw : Nat → Nat → sS → (Nat → Int32) → (Nat → Int64) → Option (Int32 × sS)
  | 0, _, _, _, _ => none
  | k + 1, 0, S, L, M => f_Mod_putRaw k 1 S (upd L 5 (L 1)) M
  | k + 1, 1, S, L, M => if (L 5) = (L 2) then (f_Mod_putRaw k 2 S L M) else (if (S.1 0 10) = (0 : Int32) then ((f_Mod_copy k 0 S (upd (fun _ => 0) 1 (L 5 : Int32)) (fun _ => 0)).bind (fun (r3, T3) => (f_Mod_put k 0 T3 (upd (upd (upd (fun _ => 0) 1 (r3 : Int32)) 2 (L 3 : Int32)) 3 (L 4 : Int32)) (fun _ => 0)).bind (fun (r4, T4) => if okI (L 5) 260000 = true then (f_Mod_putRaw k 1 T4 (upd L 5 (T4.2.1 31 (L 5 : Int32).toNatClampNeg)) M) else none))) else (f_Mod_putRaw k 2 S L M))
  | k + 1, 2, S, L, M => some ((0 : Int32), S)
  | _ + 1, _ + 3, _, _, _ => none
set_option maxHeartbeats 8000000 in
set_option maxRecDepth 100000 in
theorem w_Mod_putRaw {p : Program} {l : Launch} {e : Env} {R : Room} {s : State} {m : MethodId} {args : Array Value} {below : List Frame} {meth : Method} {c : Code} {cells slots : Nat} {Q : State → Prop} {g : gG} {A : Nat → Prop} {ad : Nat → Nat} (hx : p.tables.exec = Jvm.exec) (hb : c.code = b_Mod_putRaw) (hml : c.maxLocals = 6) (hown : s.vm.findClass "MacroMillModel" = some m.cls) (htt : ∀ w ∈ gt, w.before args s = true) (hK : va_K g.1 classes (tysG g) s) (hN : nw s) (hA : ∀ q : Nat, s.heap.size ≤ q → A q) (hRf : 3 ≤ R.frames) (hRl : 68 ≤ R.locals) (hRc : cells ≤ R.cells) (hRs : slots ≤ R.slots) (r : Int32) (S9 : sS)
    (kx_41 : ∀ (ls : Array Slot) (H : Heap) (locs : List Loc), va_P g.1 classes (Sw shM g ad S9) H → va_D A (Sw shM g ad S9) → va_S A s.heap H locs → W p l e R s m args below meth c H locs cells slots Q (F0 m 41 ls [])) :
    ∀ k9 : Nat, (∀ (S : sS) (L : Nat → Int32) (M : Nat → Int64) (ls : Array Slot) (H : Heap) (locs : List Loc), f_Mod_putRaw k9 0 S L M = some (r, S9) → lv_has ls 6 [(0, .ref (ad 0)), (1, .int (L 1)), (2, .int (L 2)), (3, .int (L 3)), (4, .int (L 4))] → va_P g.1 classes (Sw shM g ad S) H → va_D A (Sw shM g ad S) → va_S A s.heap H locs → W p l e R s m args below meth c H locs cells slots Q (F0 m 0 ls [])) ∧ (∀ (S : sS) (L : Nat → Int32) (M : Nat → Int64) (ls : Array Slot) (H : Heap) (locs : List Loc), f_Mod_putRaw k9 1 S L M = some (r, S9) → lv_has ls 6 [(0, .ref (ad 0)), (1, .int (L 1)), (2, .int (L 2)), (3, .int (L 3)), (4, .int (L 4)), (5, .int (L 5))] → va_P g.1 classes (Sw shM g ad S) H → va_D A (Sw shM g ad S) → va_S A s.heap H locs → W p l e R s m args below meth c H locs cells slots Q (F0 m 3 ls [])) ∧ (∀ (S : sS) (L : Nat → Int32) (M : Nat → Int64) (ls : Array Slot) (H : Heap) (locs : List Loc), f_Mod_putRaw k9 2 S L M = some (r, S9) → lv_has ls 6 [(0, .ref (ad 0)), (1, .int (L 1)), (2, .int (L 2)), (3, .int (L 3)), (4, .int (L 4)), (5, .int (L 5))] → va_P g.1 classes (Sw shM g ad S) H → va_D A (Sw shM g ad S) → va_S A s.heap H locs → W p l e R s m args below meth c H locs cells slots Q (F0 m 41 ls [])) := by
  intro k9
  induction k9 with
  | zero => exact ⟨(fun _ _ _ _ _ _ h => by simp [f_Mod_putRaw] at h), (fun _ _ _ _ _ _ h => by simp [f_Mod_putRaw] at h), (fun _ _ _ _ _ _ h => by simp [f_Mod_putRaw] at h)⟩
  | succ k9 ih =>
    refine ⟨?_, ?_, ?_⟩
    · intro S L M ls H locs h hl hP hD hS
      simp only [f_Mod_putRaw] at h
      refine lv_iload_n hx hb d_Mod_putRaw_0 rfl (lv_at hl 1 rfl) ?_
      refine lv_istore (lv' := [(5, .int (L 1)), (0, .ref (ad 0)), (1, .int (L 1)), (2, .int (L 2)), (3, .int (L 3)), (4, .int (L 4))]) hx hb d_Mod_putRaw_1 hl (by decide) rfl (fun ls hl => ?_)
      exact (ih.2.1) S (upd L 5 (L 1)) M ls H locs h (lv_sub hl [1, 2, 3, 4, 5, 0] rfl) hP hD hS
    · intro S L M ls H locs h hl hP hD hS
      simp only [f_Mod_putRaw] at h
      refine lv_iload hx hb d_Mod_putRaw_3 (lv_at hl 5 rfl) ?_
      refine lv_iload_n hx hb d_Mod_putRaw_5 rfl (lv_at hl 2 rfl) ?_
      refine lv_icmp_eq (tgt := 41) hx hb d_Mod_putRaw_6 (by decide) (fun hc1 => ?_) (fun hc1 => ?_)
      · rw [if_pos hc1] at h
        exact (ih.2.2) S L M ls H locs h (lv_sub hl [0, 1, 2, 3, 4, 5] rfl) hP hD hS
      · rw [if_neg hc1] at h
        refine lv_aload_n hx hb d_Mod_putRaw_9 rfl (lv_at hl 0 rfl) ?_
        refine S_getI (h := shM) (C := "MacroMillModel") (T := F_Mod) hx hb htt in_Mod hown hK hP 0 10 rfl rfl rfl (by decide) (htt _ k_2246) (fun _ h9 => h9) d_Mod_putRaw_10 ?_
        refine lv_if_ne (tgt := 41) hx hb d_Mod_putRaw_13 (by decide) (fun hc2 => ?_) (fun hc2 => ?_)
        · rw [if_neg hc2] at h
          exact (ih.2.2) S L M ls H locs h (lv_sub hl [0, 1, 2, 3, 4, 5] rfl) hP hD hS
        · rw [if_pos hc2] at h
          refine lv_aload_n hx hb d_Mod_putRaw_16 rfl (lv_at hl 0 rfl) ?_
          refine lv_aload_n hx hb d_Mod_putRaw_17 rfl (lv_at hl 0 rfl) ?_
          refine lv_iload hx hb d_Mod_putRaw_18 (lv_at hl 5 rfl) ?_
          obtain ⟨⟨r3, T3⟩, hq3, h⟩ := Option.bind_eq_some_iff.mp h
          try dsimp only at h
          refine go_iS (As := [.ref (ad 0), .int (L 5)]) (g := g) (A := A) (h := shM) hP hK hD hS hA hN (fun hp => va_runV (As := [.int (L 5)]) (rest := [.ref (ad 0)]) ⟨hx, hb, hml, hown, htt⟩ (t_Mod_copy l g _ ad S (L 5 : Int32) k9 r3 T3 hq3) ⟨(cb_L htt k_3086 k_276 k_3083 hd_Mod_copy ⟨(Nat.le_trans (by decide +kernel) hRf), (Nat.le_trans (by decide +kernel) hRl)⟩), htt _ k_3085, htt _ k_209⟩ ⟨hp.1, S_recv hK hP 0 rfl rfl, hp.2⟩ rfl rfl hl.1 rfl (lv_room (Nat.le_of_ble_eq_true rfl)) d_Mod_putRaw_20 ⟨hRc, hRs⟩) (fun r0 Sn H locs hw9 hP hD hS => ?_)
          obtain ⟨e9, e8⟩ := hw9
          rw [e8] at hP hD
          refine W.widen (k := cells) (n := slots) (Nat.le_refl _) (Nat.le_refl _) ?_
          refine toI (y := r3) e9 ?_
          refine lv_iload_n hx hb d_Mod_putRaw_23 rfl (lv_at hl 3 rfl) ?_
          refine lv_iload hx hb d_Mod_putRaw_24 (lv_at hl 4 rfl) ?_
          obtain ⟨⟨r4, T4⟩, hq4, h⟩ := Option.bind_eq_some_iff.mp h
          try dsimp only at h
          refine go_vS (As := [.ref (ad 0), .int r3, .int (L 3), .int (L 4)]) (g := g) (A := A) (h := shM) hP hK hD hS hA hN (fun hp => va_runV (As := [.int r3, .int (L 3), .int (L 4)]) (rest := []) ⟨hx, hb, hml, hown, htt⟩ (t_Mod_put l g _ ad T3 (r3 : Int32) (L 3 : Int32) (L 4 : Int32) k9 r4 T4 hq4) ⟨(cb_L htt k_3115 k_276 k_3112 hd_Mod_put ⟨(Nat.le_trans (by decide +kernel) hRf), (Nat.le_trans (by decide +kernel) hRl)⟩), htt _ k_3114, htt _ k_216⟩ ⟨hp.1, S_recv hK hP 0 rfl rfl, hp.2⟩ rfl rfl hl.1 rfl (lv_room (Nat.le_of_ble_eq_true rfl)) d_Mod_putRaw_26 ⟨hRc, hRs⟩) (fun Sn H locs hw9 hP hD hS => ?_)
          have e8 := hw9
          rw [e8] at hP hD
          refine W.widen (k := cells) (n := slots) (Nat.le_refl _) (Nat.le_refl _) ?_
          refine lv_aload_n hx hb d_Mod_putRaw_29 rfl (lv_at hl 0 rfl) ?_
          refine S_getR (h := shM) (C := "MacroMillModel") (T := F_Mod) hx hb htt in_Mod hown hK hP 0 72 rfl 32 rfl rfl (by decide) (htt _ k_2308) (fun _ h9 => h9) d_Mod_putRaw_30 ?_
          show W _ _ _ _ _ _ _ _ _ _ _ _ _ _ _ (F0 _ 33 _ _)
          refine lv_iload hx hb d_Mod_putRaw_33 (lv_at hl 5 rfl) ?_
          obtain ⟨hv5, h⟩ := chk h
          refine S_iald (h := shM) (i := L 5) hx hb hK hP 31 rfl (okI_in hv5) d_Mod_putRaw_35 ?_
          refine lv_istore (lv' := [(5, .int (T4.2.1 31 (L 5 : Int32).toNatClampNeg)), (0, .ref (ad 0)), (1, .int (L 1)), (2, .int (L 2)), (3, .int (L 3)), (4, .int (L 4))]) hx hb d_Mod_putRaw_36 hl (by decide) rfl (fun ls hl => ?_)
          refine lv_goto (tgt := 3) hx hb d_Mod_putRaw_38 (by decide) ?_
          exact (ih.2.1) T4 (upd L 5 (T4.2.1 31 (L 5 : Int32).toNatClampNeg)) M ls H locs h (lv_sub hl [1, 2, 3, 4, 5, 0] rfl) hP hD hS
    · intro S L M ls H locs h hl hP hD hS
      simp only [f_Mod_putRaw] at h
      cases h
      exact kx_41 ls H locs hP hD hS
abbrev rm_t_Mod_putRaw : Room := { frames := 3, cells := 0, slots := 0, locals := 68 }
theorem t_Mod_putRaw (l : Launch) (g : gG) (sz : Nat) (ad : Nat → Nat) (S : sS) (v1 : Int32) (v2 : Int32) (v3 : Int32) (v4 : Int32) (k : Nat) (r : Int32) (S9 : sS) (h : f_Mod_putRaw k 0 S (upd (upd (upd (upd (fun _ => 0) 1 v1) 2 v2) 3 v3) 4 v4) (fun _ => 0) = some (r, S9)) : Cv l y_Mod_putRaw b_Mod_putRaw 6 rm_t_Mod_putRaw g [.ref (ad 0), .int v1, .int v2, .int v3, .int v4] (Sw shM g ad S) sz (fun w => ∃ S1 : sS, w = Sw shM g ad S1 ∧ S1 = S9) := by
  refine startV (by decide) (Nat.le_of_ble_eq_true rfl) ?_
  intro p e s m below meth c A ls hx hb hr hml hlocks hmn hown htt hN hA hP hK hD hS hl
  exact (w_Mod_putRaw hx hb hml hown htt hK hN hA (by decide +kernel) (by decide +kernel) (by decide +kernel) (by decide +kernel) r S9 (fun ls H locs hP hD hS => fin_v (g := g) (ws := Sw shM g ad S9) hx hb hr hlocks (by decide +kernel) (by decide +kernel) hP hD hS ⟨_, rfl, rfl⟩ d_Mod_putRaw_41) k).1 S (upd (upd (upd (upd (fun _ => 0) 1 v1) 2 v2) 3 v3) 4 v4) (fun _ => 0) ls _ _ h hl hP hD hS
def f_Mod_isMarked : Nat → Nat → sS → (Nat → Int32) → (Nat → Int64) → Option (Int32 × sS)
  | 0, _, _, _, _ => none
  | k + 1, 0, S, L, M => (f_Mod_kindOf k 0 S (upd (fun _ => 0) 1 (L 1 : Int32)) (fun _ => 0)).bind (fun (r1, T1) => if r1 = (3 : Int32) then (f_Mod_isMarked k 1 T1 (upd L 3 r1) M) else (if r1 = (4 : Int32) then (f_Mod_isMarked k 1 T1 (upd L 3 r1) M) else (f_Mod_isMarked k 3 T1 (upd L 3 r1) M)))
  | k + 1, 1, S, L, M => (f_Mod_byteOf k 0 S (upd (upd (fun _ => 0) 1 (L 1 : Int32)) 2 (L 2 : Int32)) (fun _ => 0)).bind (fun (r1, T1) => if r1 = (34 : Int32) then (f_Mod_isMarked k 2 T1 L M) else ((f_Mod_byteOf k 0 T1 (upd (upd (fun _ => 0) 1 (L 1 : Int32)) 2 (L 2 : Int32)) (fun _ => 0)).bind (fun (r3, T3) => if r3 = (92 : Int32) then (f_Mod_isMarked k 2 T3 L M) else (f_Mod_isMarked k 3 T3 L M))))
  | k + 1, 2, S, L, M => f_Mod_isMarked k 4 S (upd L 100 (1 : Int32)) M
  | k + 1, 3, S, L, M => f_Mod_isMarked k 4 S (upd L 100 (0 : Int32)) M
  | k + 1, 4, S, L, M => if bz (L 100) = true then some (L 100, S) else none
  | _ + 1, _ + 5, _, _, _ => none
set_option maxHeartbeats 8000000 in
set_option maxRecDepth 100000 in
theorem w_Mod_isMarked {p : Program} {l : Launch} {e : Env} {R : Room} {s : State} {m : MethodId} {args : Array Value} {below : List Frame} {meth : Method} {c : Code} {cells slots : Nat} {Q : State → Prop} {g : gG} {A : Nat → Prop} {ad : Nat → Nat} (hx : p.tables.exec = Jvm.exec) (hb : c.code = b_Mod_isMarked) (hml : c.maxLocals = 4) (hown : s.vm.findClass "MacroMillModel" = some m.cls) (htt : ∀ w ∈ gt, w.before args s = true) (hK : va_K g.1 classes (tysG g) s) (hN : nw s) (hA : ∀ q : Nat, s.heap.size ≤ q → A q) (hRf : 2 ≤ R.frames) (hRl : 46 ≤ R.locals) (hRc : cells ≤ R.cells) (hRs : slots ≤ R.slots) (r : Int32) (S9 : sS)
    (kx_43 : ∀ (ls : Array Slot) (H : Heap) (locs : List Loc), narrow .boolean (.int r) = .int r → va_P g.1 classes (Sw shM g ad S9) H → va_D A (Sw shM g ad S9) → va_S A s.heap H locs → W p l e R s m args below meth c H locs cells slots Q (F0 m 43 ls [.int r])) :
    ∀ k9 : Nat, (∀ (S : sS) (L : Nat → Int32) (M : Nat → Int64) (ls : Array Slot) (H : Heap) (locs : List Loc), f_Mod_isMarked k9 0 S L M = some (r, S9) → lv_has ls 4 [(0, .ref (ad 0)), (1, .int (L 1)), (2, .int (L 2))] → va_P g.1 classes (Sw shM g ad S) H → va_D A (Sw shM g ad S) → va_S A s.heap H locs → W p l e R s m args below meth c H locs cells slots Q (F0 m 0 ls [])) ∧ (∀ (S : sS) (L : Nat → Int32) (M : Nat → Int64) (ls : Array Slot) (H : Heap) (locs : List Loc), f_Mod_isMarked k9 1 S L M = some (r, S9) → lv_has ls 4 [(0, .ref (ad 0)), (1, .int (L 1)), (2, .int (L 2)), (3, .int (L 3))] → va_P g.1 classes (Sw shM g ad S) H → va_D A (Sw shM g ad S) → va_S A s.heap H locs → W p l e R s m args below meth c H locs cells slots Q (F0 m 16 ls [])) ∧ (∀ (S : sS) (L : Nat → Int32) (M : Nat → Int64) (ls : Array Slot) (H : Heap) (locs : List Loc), f_Mod_isMarked k9 2 S L M = some (r, S9) → lv_has ls 4 [(0, .ref (ad 0)), (1, .int (L 1)), (2, .int (L 2)), (3, .int (L 3))] → va_P g.1 classes (Sw shM g ad S) H → va_D A (Sw shM g ad S) → va_S A s.heap H locs → W p l e R s m args below meth c H locs cells slots Q (F0 m 38 ls [])) ∧ (∀ (S : sS) (L : Nat → Int32) (M : Nat → Int64) (ls : Array Slot) (H : Heap) (locs : List Loc), f_Mod_isMarked k9 3 S L M = some (r, S9) → lv_has ls 4 [(0, .ref (ad 0)), (1, .int (L 1)), (2, .int (L 2)), (3, .int (L 3))] → va_P g.1 classes (Sw shM g ad S) H → va_D A (Sw shM g ad S) → va_S A s.heap H locs → W p l e R s m args below meth c H locs cells slots Q (F0 m 42 ls [])) ∧ (∀ (S : sS) (L : Nat → Int32) (M : Nat → Int64) (ls : Array Slot) (H : Heap) (locs : List Loc), f_Mod_isMarked k9 4 S L M = some (r, S9) → lv_has ls 4 [(0, .ref (ad 0)), (1, .int (L 1)), (2, .int (L 2)), (3, .int (L 3))] → va_P g.1 classes (Sw shM g ad S) H → va_D A (Sw shM g ad S) → va_S A s.heap H locs → W p l e R s m args below meth c H locs cells slots Q (F0 m 43 ls [.int (L 100)])) := by
  intro k9
  induction k9 with
  | zero => exact ⟨(fun _ _ _ _ _ _ h => by simp [f_Mod_isMarked] at h), (fun _ _ _ _ _ _ h => by simp [f_Mod_isMarked] at h), (fun _ _ _ _ _ _ h => by simp [f_Mod_isMarked] at h), (fun _ _ _ _ _ _ h => by simp [f_Mod_isMarked] at h), (fun _ _ _ _ _ _ h => by simp [f_Mod_isMarked] at h)⟩
  | succ k9 ih =>
    refine ⟨?_, ?_, ?_, ?_, ?_⟩
    · intro S L M ls H locs h hl hP hD hS
      simp only [f_Mod_isMarked] at h
      refine lv_aload_n hx hb d_Mod_isMarked_0 rfl (lv_at hl 0 rfl) ?_
      refine lv_iload_n hx hb d_Mod_isMarked_1 rfl (lv_at hl 1 rfl) ?_
      obtain ⟨⟨r1, T1⟩, hq1, h⟩ := Option.bind_eq_some_iff.mp h
      try dsimp only at h
      refine go_iS (As := [.ref (ad 0), .int (L 1)]) (g := g) (A := A) (h := shM) hP hK hD hS hA hN (fun hp => va_runV (As := [.int (L 1)]) (rest := []) ⟨hx, hb, hml, hown, htt⟩ (t_Mod_kindOf l g _ ad S (L 1 : Int32) k9 r1 T1 hq1) ⟨(cb_L htt k_3036 k_276 k_3033 hd_Mod_kindOf ⟨(Nat.le_trans (by decide +kernel) hRf), (Nat.le_trans (by decide +kernel) hRl)⟩), htt _ k_3035, htt _ k_198⟩ ⟨hp.1, S_recv hK hP 0 rfl rfl, hp.2⟩ rfl rfl hl.1 rfl (lv_room (Nat.le_of_ble_eq_true rfl)) d_Mod_isMarked_2 ⟨hRc, hRs⟩) (fun r0 Sn H locs hw9 hP hD hS => ?_)
      obtain ⟨e9, e8⟩ := hw9
      rw [e8] at hP hD
      refine W.widen (k := cells) (n := slots) (Nat.le_refl _) (Nat.le_refl _) ?_
      refine toI (y := r1) e9 ?_
      refine lv_istore_n (lv' := [(3, .int r1), (0, .ref (ad 0)), (1, .int (L 1)), (2, .int (L 2))]) hx hb d_Mod_isMarked_5 rfl hl (by decide) rfl (fun ls hl => ?_)
      refine lv_iload_n hx hb d_Mod_isMarked_6 rfl (lv_at hl 0 rfl) ?_
      refine lv_iconst (v := 3) hx hb d_Mod_isMarked_7 (by decide) ?_
      refine lv_icmp_eq (tgt := 16) hx hb d_Mod_isMarked_8 (by decide) (fun hc2 => ?_) (fun hc2 => ?_)
      · rw [if_pos hc2] at h
        exact (ih.2.1) T1 (upd L 3 r1) M ls H locs h (lv_sub hl [1, 2, 3, 0] rfl) hP hD hS
      · rw [if_neg hc2] at h
        refine lv_iload_n hx hb d_Mod_isMarked_11 rfl (lv_at hl 0 rfl) ?_
        refine lv_iconst (v := 4) hx hb d_Mod_isMarked_12 (by decide) ?_
        refine lv_icmp_ne (tgt := 42) hx hb d_Mod_isMarked_13 (by decide) (fun hc3 => ?_) (fun hc3 => ?_)
        · rw [if_neg hc3] at h
          exact (ih.2.2.2.1) T1 (upd L 3 r1) M ls H locs h (lv_sub hl [1, 2, 3, 0] rfl) hP hD hS
        · rw [if_pos hc3] at h
          exact (ih.2.1) T1 (upd L 3 r1) M ls H locs h (lv_sub hl [1, 2, 3, 0] rfl) hP hD hS
    · intro S L M ls H locs h hl hP hD hS
      simp only [f_Mod_isMarked] at h
      refine lv_aload_n hx hb d_Mod_isMarked_16 rfl (lv_at hl 0 rfl) ?_
      refine lv_iload_n hx hb d_Mod_isMarked_17 rfl (lv_at hl 1 rfl) ?_
      refine lv_iload_n hx hb d_Mod_isMarked_18 rfl (lv_at hl 2 rfl) ?_
      obtain ⟨⟨r1, T1⟩, hq1, h⟩ := Option.bind_eq_some_iff.mp h
      try dsimp only at h
      refine go_iS (As := [.ref (ad 0), .int (L 1), .int (L 2)]) (g := g) (A := A) (h := shM) hP hK hD hS hA hN (fun hp => va_runV (As := [.int (L 1), .int (L 2)]) (rest := []) ⟨hx, hb, hml, hown, htt⟩ (t_Mod_byteOf l g _ ad S (L 1 : Int32) (L 2 : Int32) k9 r1 T1 hq1) ⟨(cb_L htt k_3016 k_276 k_3013 hd_Mod_byteOf ⟨(Nat.le_trans (by decide +kernel) hRf), (Nat.le_trans (by decide +kernel) hRl)⟩), htt _ k_3015, htt _ k_193⟩ ⟨hp.1, S_recv hK hP 0 rfl rfl, hp.2⟩ rfl rfl hl.1 rfl (lv_room (Nat.le_of_ble_eq_true rfl)) d_Mod_isMarked_19 ⟨hRc, hRs⟩) (fun r0 Sn H locs hw9 hP hD hS => ?_)
      obtain ⟨e9, e8⟩ := hw9
      rw [e8] at hP hD
      refine W.widen (k := cells) (n := slots) (Nat.le_refl _) (Nat.le_refl _) ?_
      refine toI (y := r1) e9 ?_
      refine lv_bipush (v := 34) hx hb d_Mod_isMarked_22 (by decide) ?_
      refine lv_icmp_eq (tgt := 38) hx hb d_Mod_isMarked_24 (by decide) (fun hc2 => ?_) (fun hc2 => ?_)
      · rw [if_pos hc2] at h
        exact (ih.2.2.1) T1 L M ls H locs h (lv_sub hl [0, 1, 2, 3] rfl) hP hD hS
      · rw [if_neg hc2] at h
        refine lv_aload_n hx hb d_Mod_isMarked_27 rfl (lv_at hl 0 rfl) ?_
        refine lv_iload_n hx hb d_Mod_isMarked_28 rfl (lv_at hl 1 rfl) ?_
        refine lv_iload_n hx hb d_Mod_isMarked_29 rfl (lv_at hl 2 rfl) ?_
        obtain ⟨⟨r3, T3⟩, hq3, h⟩ := Option.bind_eq_some_iff.mp h
        try dsimp only at h
        refine go_iS (As := [.ref (ad 0), .int (L 1), .int (L 2)]) (g := g) (A := A) (h := shM) hP hK hD hS hA hN (fun hp => va_runV (As := [.int (L 1), .int (L 2)]) (rest := []) ⟨hx, hb, hml, hown, htt⟩ (t_Mod_byteOf l g _ ad T1 (L 1 : Int32) (L 2 : Int32) k9 r3 T3 hq3) ⟨(cb_L htt k_3016 k_276 k_3013 hd_Mod_byteOf ⟨(Nat.le_trans (by decide +kernel) hRf), (Nat.le_trans (by decide +kernel) hRl)⟩), htt _ k_3015, htt _ k_193⟩ ⟨hp.1, S_recv hK hP 0 rfl rfl, hp.2⟩ rfl rfl hl.1 rfl (lv_room (Nat.le_of_ble_eq_true rfl)) d_Mod_isMarked_30 ⟨hRc, hRs⟩) (fun r0 Sn H locs hw9 hP hD hS => ?_)
        obtain ⟨e9, e8⟩ := hw9
        rw [e8] at hP hD
        refine W.widen (k := cells) (n := slots) (Nat.le_refl _) (Nat.le_refl _) ?_
        refine toI (y := r3) e9 ?_
        refine lv_bipush (v := 92) hx hb d_Mod_isMarked_33 (by decide) ?_
        refine lv_icmp_ne (tgt := 42) hx hb d_Mod_isMarked_35 (by decide) (fun hc4 => ?_) (fun hc4 => ?_)
        · rw [if_neg hc4] at h
          exact (ih.2.2.2.1) T3 L M ls H locs h (lv_sub hl [0, 1, 2, 3] rfl) hP hD hS
        · rw [if_pos hc4] at h
          exact (ih.2.2.1) T3 L M ls H locs h (lv_sub hl [0, 1, 2, 3] rfl) hP hD hS
    · intro S L M ls H locs h hl hP hD hS
      simp only [f_Mod_isMarked] at h
      refine lv_iconst (v := 1) hx hb d_Mod_isMarked_38 (by decide) ?_
      refine lv_goto (tgt := 43) hx hb d_Mod_isMarked_39 (by decide) ?_
      exact (ih.2.2.2.2) S (upd L 100 (1 : Int32)) M ls H locs h (lv_sub hl [0, 1, 2, 3] rfl) hP hD hS
    · intro S L M ls H locs h hl hP hD hS
      simp only [f_Mod_isMarked] at h
      refine lv_iconst (v := 0) hx hb d_Mod_isMarked_42 (by decide) ?_
      exact (ih.2.2.2.2) S (upd L 100 (0 : Int32)) M ls H locs h (lv_sub hl [0, 1, 2, 3] rfl) hP hD hS
    · intro S L M ls H locs h hl hP hD hS
      simp only [f_Mod_isMarked] at h
      obtain ⟨hv1, h⟩ := chk h
      cases h
      exact kx_43 ls H locs (bz_n hv1) hP hD hS
abbrev rm_t_Mod_isMarked : Room := { frames := 2, cells := 0, slots := 0, locals := 46 }
theorem t_Mod_isMarked (l : Launch) (g : gG) (sz : Nat) (ad : Nat → Nat) (S : sS) (v1 : Int32) (v2 : Int32) (k : Nat) (r : Int32) (S9 : sS) (h : f_Mod_isMarked k 0 S (upd (upd (fun _ => 0) 1 v1) 2 v2) (fun _ => 0) = some (r, S9)) : Cz l y_Mod_isMarked b_Mod_isMarked 4 rm_t_Mod_isMarked g [.ref (ad 0), .int v1, .int v2] (Sw shM g ad S) sz (fun r1 w => ∃ S1 : sS, w = Sw shM g ad S1 ∧ r1 = r ∧ S1 = S9) := by
  refine startZ (by decide) (Nat.le_of_ble_eq_true rfl) ?_
  intro p e s m below meth c A ls hx hb hr hml hlocks hmn hown htt hN hA hP hK hD hS hl
  exact (w_Mod_isMarked hx hb hml hown htt hK hN hA (by decide +kernel) (by decide +kernel) (by decide +kernel) (by decide +kernel) r S9 (fun ls H locs hz hP hD hS => fin_z (g := g) (ws := Sw shM g ad S9) hx hb hr hlocks hz (by decide +kernel) (by decide +kernel) hP hD hS ⟨_, rfl, rfl, rfl⟩ d_Mod_isMarked_43) k).1 S (upd (upd (fun _ => 0) 1 v1) 2 v2) (fun _ => 0) ls _ _ h hl hP hD hS
def f_Mod_commentEnd : Nat → Nat → sS → (Nat → Int32) → (Nat → Int64) → Option (Int32 × sS)
  | 0, _, _, _, _ => none
  | k + 1, 0, S, L, M => f_Mod_commentEnd k 1 S (upd L 3 ((L 1) + (2 : Int32))) M
  | k + 1, 1, S, L, M => if (L 2) ≤ ((L 3) + (1 : Int32)) then (f_Mod_commentEnd k 3 S L M) else (if okI (L 3) 125552 = true then (if (S.2.1 23 (L 3 : Int32).toNatClampNeg) = (42 : Int32) then (if okI ((L 3) + (1 : Int32)) 125552 = true then (if (S.2.1 23 ((L 3) + (1 : Int32) : Int32).toNatClampNeg) = (47 : Int32) then (f_Mod_commentEnd k 3 S L M) else (f_Mod_commentEnd k 2 S L M)) else none) else (f_Mod_commentEnd k 2 S L M)) else none)
  | k + 1, 2, S, L, M => f_Mod_commentEnd k 1 S (upd L 3 ((L 3) + 1)) M
  | k + 1, 3, S, L, M => if ((L 3) + (1 : Int32)) < (L 2) then (some ((L 3) + (2 : Int32), S)) else (if okI (L 1) 65570 = true then ((f_Mod_fail2 k 0 S (upd (upd (fun _ => 0) 1 (1 : Int32)) 2 (S.2.1 24 (L 1 : Int32).toNatClampNeg : Int32)) (fun _ => 0)).bind (fun (r3, T3) => some (L 2, T3))) else none)
  | _ + 1, _ + 4, _, _, _ => none
set_option maxHeartbeats 8000000 in
set_option maxRecDepth 100000 in
theorem w_Mod_commentEnd {p : Program} {l : Launch} {e : Env} {R : Room} {s : State} {m : MethodId} {args : Array Value} {below : List Frame} {meth : Method} {c : Code} {cells slots : Nat} {Q : State → Prop} {g : gG} {A : Nat → Prop} {ad : Nat → Nat} (hx : p.tables.exec = Jvm.exec) (hb : c.code = b_Mod_commentEnd) (hml : c.maxLocals = 4) (hown : s.vm.findClass "MacroMillModel" = some m.cls) (htt : ∀ w ∈ gt, w.before args s = true) (hK : va_K g.1 classes (tysG g) s) (hN : nw s) (hA : ∀ q : Nat, s.heap.size ≤ q → A q) (hRf : 2 ≤ R.frames) (hRl : 45 ≤ R.locals) (hRc : cells ≤ R.cells) (hRs : slots ≤ R.slots) (r : Int32) (S9 : sS)
    (kx_60 : ∀ (ls : Array Slot) (H : Heap) (locs : List Loc), va_P g.1 classes (Sw shM g ad S9) H → va_D A (Sw shM g ad S9) → va_S A s.heap H locs → W p l e R s m args below meth c H locs cells slots Q (F0 m 60 ls [.int r]))
    (kx_64 : ∀ (ls : Array Slot) (H : Heap) (locs : List Loc), va_P g.1 classes (Sw shM g ad S9) H → va_D A (Sw shM g ad S9) → va_S A s.heap H locs → W p l e R s m args below meth c H locs cells slots Q (F0 m 64 ls [.int r])) :
    ∀ k9 : Nat, (∀ (S : sS) (L : Nat → Int32) (M : Nat → Int64) (ls : Array Slot) (H : Heap) (locs : List Loc), f_Mod_commentEnd k9 0 S L M = some (r, S9) → lv_has ls 4 [(0, .ref (ad 0)), (1, .int (L 1)), (2, .int (L 2))] → va_P g.1 classes (Sw shM g ad S) H → va_D A (Sw shM g ad S) → va_S A s.heap H locs → W p l e R s m args below meth c H locs cells slots Q (F0 m 0 ls [])) ∧ (∀ (S : sS) (L : Nat → Int32) (M : Nat → Int64) (ls : Array Slot) (H : Heap) (locs : List Loc), f_Mod_commentEnd k9 1 S L M = some (r, S9) → lv_has ls 4 [(0, .ref (ad 0)), (1, .int (L 1)), (2, .int (L 2)), (3, .int (L 3))] → va_P g.1 classes (Sw shM g ad S) H → va_D A (Sw shM g ad S) → va_S A s.heap H locs → W p l e R s m args below meth c H locs cells slots Q (F0 m 4 ls [])) ∧ (∀ (S : sS) (L : Nat → Int32) (M : Nat → Int64) (ls : Array Slot) (H : Heap) (locs : List Loc), f_Mod_commentEnd k9 2 S L M = some (r, S9) → lv_has ls 4 [(0, .ref (ad 0)), (1, .int (L 1)), (2, .int (L 2)), (3, .int (L 3))] → va_P g.1 classes (Sw shM g ad S) H → va_D A (Sw shM g ad S) → va_S A s.heap H locs → W p l e R s m args below meth c H locs cells slots Q (F0 m 35 ls [])) ∧ (∀ (S : sS) (L : Nat → Int32) (M : Nat → Int64) (ls : Array Slot) (H : Heap) (locs : List Loc), f_Mod_commentEnd k9 3 S L M = some (r, S9) → lv_has ls 4 [(0, .ref (ad 0)), (1, .int (L 1)), (2, .int (L 2)), (3, .int (L 3))] → va_P g.1 classes (Sw shM g ad S) H → va_D A (Sw shM g ad S) → va_S A s.heap H locs → W p l e R s m args below meth c H locs cells slots Q (F0 m 41 ls [])) := by
  intro k9
  induction k9 with
  | zero => exact ⟨(fun _ _ _ _ _ _ h => by simp [f_Mod_commentEnd] at h), (fun _ _ _ _ _ _ h => by simp [f_Mod_commentEnd] at h), (fun _ _ _ _ _ _ h => by simp [f_Mod_commentEnd] at h), (fun _ _ _ _ _ _ h => by simp [f_Mod_commentEnd] at h)⟩
  | succ k9 ih =>
    refine ⟨?_, ?_, ?_, ?_⟩
    · intro S L M ls H locs h hl hP hD hS
      simp only [f_Mod_commentEnd] at h
      refine lv_iload_n hx hb d_Mod_commentEnd_0 rfl (lv_at hl 1 rfl) ?_
      refine lv_iconst (v := 2) hx hb d_Mod_commentEnd_1 (by decide) ?_
      refine lv_iadd hx hb d_Mod_commentEnd_2 ?_
      refine lv_istore_n (lv' := [(3, .int ((L 1) + (2 : Int32))), (0, .ref (ad 0)), (1, .int (L 1)), (2, .int (L 2))]) hx hb d_Mod_commentEnd_3 rfl hl (by decide) rfl (fun ls hl => ?_)
      exact (ih.2.1) S (upd L 3 ((L 1) + (2 : Int32))) M ls H locs h (lv_sub hl [1, 2, 3, 0] rfl) hP hD hS
    · intro S L M ls H locs h hl hP hD hS
      simp only [f_Mod_commentEnd] at h
      refine lv_iload_n hx hb d_Mod_commentEnd_4 rfl (lv_at hl 3 rfl) ?_
      refine lv_iconst (v := 1) hx hb d_Mod_commentEnd_5 (by decide) ?_
      refine lv_iadd hx hb d_Mod_commentEnd_6 ?_
      refine lv_iload_n hx hb d_Mod_commentEnd_7 rfl (lv_at hl 2 rfl) ?_
      refine lv_icmp_ge (tgt := 41) hx hb d_Mod_commentEnd_8 (by decide) (fun hc1 => ?_) (fun hc1 => ?_)
      · rw [if_pos hc1] at h
        exact (ih.2.2.2) S L M ls H locs h (lv_sub hl [0, 1, 2, 3] rfl) hP hD hS
      · rw [if_neg hc1] at h
        refine lv_aload_n hx hb d_Mod_commentEnd_11 rfl (lv_at hl 0 rfl) ?_
        refine S_getR (h := shM) (C := "MacroMillModel") (T := F_Mod) hx hb htt in_Mod hown hK hP 0 60 rfl 24 rfl rfl (by decide) (htt _ k_2296) (fun _ h9 => h9) d_Mod_commentEnd_12 ?_
        refine lv_iload_n hx hb d_Mod_commentEnd_15 rfl (lv_at hl 3 rfl) ?_
        obtain ⟨hv2, h⟩ := chk h
        refine S_bald (h := shM) (i := L 3) hx hb hK hP 23 rfl (okI_in hv2) d_Mod_commentEnd_16 ?_
        refine lv_bipush (v := 42) hx hb d_Mod_commentEnd_17 (by decide) ?_
        refine lv_icmp_ne (tgt := 35) hx hb d_Mod_commentEnd_19 (by decide) (fun hc3 => ?_) (fun hc3 => ?_)
        · rw [if_neg hc3] at h
          exact (ih.2.2.1) S L M ls H locs h (lv_sub hl [0, 1, 2, 3] rfl) hP hD hS
        · rw [if_pos hc3] at h
          refine lv_aload_n hx hb d_Mod_commentEnd_22 rfl (lv_at hl 0 rfl) ?_
          refine S_getR (h := shM) (C := "MacroMillModel") (T := F_Mod) hx hb htt in_Mod hown hK hP 0 60 rfl 24 rfl rfl (by decide) (htt _ k_2296) (fun _ h9 => h9) d_Mod_commentEnd_23 ?_
          show W _ _ _ _ _ _ _ _ _ _ _ _ _ _ _ (F0 _ 26 _ _)
          refine lv_iload_n hx hb d_Mod_commentEnd_26 rfl (lv_at hl 3 rfl) ?_
          refine lv_iconst (v := 1) hx hb d_Mod_commentEnd_27 (by decide) ?_
          refine lv_iadd hx hb d_Mod_commentEnd_28 ?_
          obtain ⟨hv4, h⟩ := chk h
          refine S_bald (h := shM) (i := (L 3) + (1 : Int32)) hx hb hK hP 23 rfl (okI_in hv4) d_Mod_commentEnd_29 ?_
          refine lv_bipush (v := 47) hx hb d_Mod_commentEnd_30 (by decide) ?_
          refine lv_icmp_eq (tgt := 41) hx hb d_Mod_commentEnd_32 (by decide) (fun hc5 => ?_) (fun hc5 => ?_)
          · rw [if_pos hc5] at h
            exact (ih.2.2.2) S L M ls H locs h (lv_sub hl [0, 1, 2, 3] rfl) hP hD hS
          · rw [if_neg hc5] at h
            exact (ih.2.2.1) S L M ls H locs h (lv_sub hl [0, 1, 2, 3] rfl) hP hD hS
    · intro S L M ls H locs h hl hP hD hS
      simp only [f_Mod_commentEnd] at h
      refine lv_iinc (k := 3) (v := (L 3) + 1) (lv' := [(3, .int ((L 3) + 1)), (0, .ref (ad 0)), (1, .int (L 1)), (2, .int (L 2))]) hx hb d_Mod_commentEnd_35 hl rfl rfl (by decide) rfl (fun ls hl => ?_)
      refine lv_goto (tgt := 4) hx hb d_Mod_commentEnd_38 (by decide) ?_
      exact (ih.2.1) S (upd L 3 ((L 3) + 1)) M ls H locs h (lv_sub hl [1, 2, 3, 0] rfl) hP hD hS
    · intro S L M ls H locs h hl hP hD hS
      simp only [f_Mod_commentEnd] at h
      refine lv_iload_n hx hb d_Mod_commentEnd_41 rfl (lv_at hl 3 rfl) ?_
      refine lv_iconst (v := 1) hx hb d_Mod_commentEnd_42 (by decide) ?_
      refine lv_iadd hx hb d_Mod_commentEnd_43 ?_
      refine lv_iload_n hx hb d_Mod_commentEnd_44 rfl (lv_at hl 2 rfl) ?_
      refine lv_icmp_lt (tgt := 61) hx hb d_Mod_commentEnd_45 (by decide) (fun hc1 => ?_) (fun hc1 => ?_)
      · rw [if_pos hc1] at h
        refine lv_iload_n hx hb d_Mod_commentEnd_61 rfl (lv_at hl 3 rfl) ?_
        refine lv_iconst (v := 2) hx hb d_Mod_commentEnd_62 (by decide) ?_
        refine lv_iadd hx hb d_Mod_commentEnd_63 ?_
        cases h
        exact kx_64 ls H locs hP hD hS
      · rw [if_neg hc1] at h
        refine lv_aload_n hx hb d_Mod_commentEnd_48 rfl (lv_at hl 0 rfl) ?_
        refine lv_iconst (v := 1) hx hb d_Mod_commentEnd_49 (by decide) ?_
        refine lv_aload_n hx hb d_Mod_commentEnd_50 rfl (lv_at hl 0 rfl) ?_
        refine S_getR (h := shM) (C := "MacroMillModel") (T := F_Mod) hx hb htt in_Mod hown hK hP 0 61 rfl 25 rfl rfl (by decide) (htt _ k_2297) (fun _ h9 => h9) d_Mod_commentEnd_51 ?_
        refine lv_iload_n hx hb d_Mod_commentEnd_54 rfl (lv_at hl 1 rfl) ?_
        obtain ⟨hv2, h⟩ := chk h
        refine S_iald (h := shM) (i := L 1) hx hb hK hP 24 rfl (okI_in hv2) d_Mod_commentEnd_55 ?_
        obtain ⟨⟨r3, T3⟩, hq3, h⟩ := Option.bind_eq_some_iff.mp h
        try dsimp only at h
        refine go_vS (As := [.ref (ad 0), .int 1, .int (S.2.1 24 (L 1 : Int32).toNatClampNeg)]) (g := g) (A := A) (h := shM) hP hK hD hS hA hN (fun hp => va_runV (As := [.int 1, .int (S.2.1 24 (L 1 : Int32).toNatClampNeg)]) (rest := []) ⟨hx, hb, hml, hown, htt⟩ (t_Mod_fail2 l g _ ad S (1 : Int32) (S.2.1 24 (L 1 : Int32).toNatClampNeg : Int32) k9 r3 T3 hq3) ⟨(cb_L htt k_2985 k_276 k_2982 hd_Mod_fail2 ⟨(Nat.le_trans (by decide +kernel) hRf), (Nat.le_trans (by decide +kernel) hRl)⟩), htt _ k_2984, htt _ k_187⟩ ⟨hp.1, S_recv hK hP 0 rfl rfl, hp.2⟩ rfl rfl hl.1 rfl (lv_room (Nat.le_of_ble_eq_true rfl)) d_Mod_commentEnd_56 ⟨hRc, hRs⟩) (fun Sn H locs hw9 hP hD hS => ?_)
        have e8 := hw9
        rw [e8] at hP hD
        refine W.widen (k := cells) (n := slots) (Nat.le_refl _) (Nat.le_refl _) ?_
        refine lv_iload_n hx hb d_Mod_commentEnd_59 rfl (lv_at hl 2 rfl) ?_
        cases h
        exact kx_60 ls H locs hP hD hS
abbrev rm_t_Mod_commentEnd : Room := { frames := 2, cells := 0, slots := 0, locals := 45 }
theorem t_Mod_commentEnd (l : Launch) (g : gG) (sz : Nat) (ad : Nat → Nat) (S : sS) (v1 : Int32) (v2 : Int32) (k : Nat) (r : Int32) (S9 : sS) (h : f_Mod_commentEnd k 0 S (upd (upd (fun _ => 0) 1 v1) 2 v2) (fun _ => 0) = some (r, S9)) : Ci l y_Mod_commentEnd b_Mod_commentEnd 4 rm_t_Mod_commentEnd g [.ref (ad 0), .int v1, .int v2] (Sw shM g ad S) sz (fun r1 w => ∃ S1 : sS, w = Sw shM g ad S1 ∧ r1 = r ∧ S1 = S9) := by
  refine startI (by decide) (Nat.le_of_ble_eq_true rfl) ?_
  intro p e s m below meth c A ls hx hb hr hml hlocks hmn hown htt hN hA hP hK hD hS hl
  exact (w_Mod_commentEnd hx hb hml hown htt hK hN hA (by decide +kernel) (by decide +kernel) (by decide +kernel) (by decide +kernel) r S9 (fun ls H locs hP hD hS => fin_i (g := g) (ws := Sw shM g ad S9) hx hb hr hlocks (by decide +kernel) (by decide +kernel) hP hD hS ⟨_, rfl, rfl, rfl⟩ d_Mod_commentEnd_60) (fun ls H locs hP hD hS => fin_i (g := g) (ws := Sw shM g ad S9) hx hb hr hlocks (by decide +kernel) (by decide +kernel) hP hD hS ⟨_, rfl, rfl, rfl⟩ d_Mod_commentEnd_64) k).1 S (upd (upd (fun _ => 0) 1 v1) 2 v2) (fun _ => 0) ls _ _ h hl hP hD hS
def f_Mod_addToRow : Nat → Nat → sS → (Nat → Int32) → (Nat → Int64) → Option (Int32 × sS)
  | 0, _, _, _, _ => none
  | k + 1, 0, S, L, M => f_Mod_addToRow k 1 S (upd L 1 (S.1 0 108)) M
  | k + 1, 1, S, L, M => if (L 1) < (0 : Int32) then (f_Mod_addToRow k 3 S L M) else (if (S.1 0 10) = (0 : Int32) then (if (S.1 0 114) = (8000 : Int32) then (if okI (L 1) 260000 = true then ((f_Mod_fail2 k 0 S (upd (upd (fun _ => 0) 1 (21 : Int32)) 2 (S.2.1 29 (L 1 : Int32).toNatClampNeg : Int32)) (fun _ => 0)).bind (fun (r5, T5) => f_Mod_addToRow k 2 T5 L M)) else none) else (f_Mod_addToRow k 2 S L M)) else (f_Mod_addToRow k 3 S L M))
  | k + 1, 2, S, L, M => if okI (L 1) 260000 = true then (f_Mod_addToRow k 1 (putI S 0 114 ((S.1 0 114) + (1 : Int32))) (upd L 1 ((putI S 0 114 ((S.1 0 114) + (1 : Int32))).2.1 31 (L 1 : Int32).toNatClampNeg)) M) else none
  | k + 1, 3, S, L, M => if (0 : Int32) ≤ (S.1 0 112) then (if okI (S.1 0 113) 260000 = true then (f_Mod_addToRow k 4 (putA S 31 (S.1 0 113 : Int32).toNatClampNeg (S.1 0 108)) L M) else none) else (f_Mod_addToRow k 4 (putI S 0 112 (S.1 0 108)) L M)
  | k + 1, 4, S, L, M => some ((0 : Int32), (putI S 0 113 (S.1 0 109)))
  | _ + 1, _ + 5, _, _, _ => none
set_option maxHeartbeats 8000000 in
set_option maxRecDepth 100000 in
theorem w_Mod_addToRow {p : Program} {l : Launch} {e : Env} {R : Room} {s : State} {m : MethodId} {args : Array Value} {below : List Frame} {meth : Method} {c : Code} {cells slots : Nat} {Q : State → Prop} {g : gG} {A : Nat → Prop} {ad : Nat → Nat} (hx : p.tables.exec = Jvm.exec) (hb : c.code = b_Mod_addToRow) (hml : c.maxLocals = 2) (hown : s.vm.findClass "MacroMillModel" = some m.cls) (htt : ∀ w ∈ gt, w.before args s = true) (hK : va_K g.1 classes (tysG g) s) (hN : nw s) (hA : ∀ q : Nat, s.heap.size ≤ q → A q) (hRf : 2 ≤ R.frames) (hRl : 45 ≤ R.locals) (hRc : cells ≤ R.cells) (hRs : slots ≤ R.slots) (r : Int32) (S9 : sS)
    (kx_97 : ∀ (ls : Array Slot) (H : Heap) (locs : List Loc), va_P g.1 classes (Sw shM g ad S9) H → va_D A (Sw shM g ad S9) → va_S A s.heap H locs → W p l e R s m args below meth c H locs cells slots Q (F0 m 97 ls [])) :
    ∀ k9 : Nat, (∀ (S : sS) (L : Nat → Int32) (M : Nat → Int64) (ls : Array Slot) (H : Heap) (locs : List Loc), f_Mod_addToRow k9 0 S L M = some (r, S9) → lv_has ls 2 [(0, .ref (ad 0))] → va_P g.1 classes (Sw shM g ad S) H → va_D A (Sw shM g ad S) → va_S A s.heap H locs → W p l e R s m args below meth c H locs cells slots Q (F0 m 0 ls [])) ∧ (∀ (S : sS) (L : Nat → Int32) (M : Nat → Int64) (ls : Array Slot) (H : Heap) (locs : List Loc), f_Mod_addToRow k9 1 S L M = some (r, S9) → lv_has ls 2 [(0, .ref (ad 0)), (1, .int (L 1))] → va_P g.1 classes (Sw shM g ad S) H → va_D A (Sw shM g ad S) → va_S A s.heap H locs → W p l e R s m args below meth c H locs cells slots Q (F0 m 5 ls [])) ∧ (∀ (S : sS) (L : Nat → Int32) (M : Nat → Int64) (ls : Array Slot) (H : Heap) (locs : List Loc), f_Mod_addToRow k9 2 S L M = some (r, S9) → lv_has ls 2 [(0, .ref (ad 0)), (1, .int (L 1))] → va_P g.1 classes (Sw shM g ad S) H → va_D A (Sw shM g ad S) → va_S A s.heap H locs → W p l e R s m args below meth c H locs cells slots Q (F0 m 38 ls [])) ∧ (∀ (S : sS) (L : Nat → Int32) (M : Nat → Int64) (ls : Array Slot) (H : Heap) (locs : List Loc), f_Mod_addToRow k9 3 S L M = some (r, S9) → lv_has ls 2 [(0, .ref (ad 0)), (1, .int (L 1))] → va_P g.1 classes (Sw shM g ad S) H → va_D A (Sw shM g ad S) → va_S A s.heap H locs → W p l e R s m args below meth c H locs cells slots Q (F0 m 58 ls [])) ∧ (∀ (S : sS) (L : Nat → Int32) (M : Nat → Int64) (ls : Array Slot) (H : Heap) (locs : List Loc), f_Mod_addToRow k9 4 S L M = some (r, S9) → lv_has ls 2 [(0, .ref (ad 0)), (1, .int (L 1))] → va_P g.1 classes (Sw shM g ad S) H → va_D A (Sw shM g ad S) → va_S A s.heap H locs → W p l e R s m args below meth c H locs cells slots Q (F0 m 89 ls [])) := by
  intro k9
  induction k9 with
  | zero => exact ⟨(fun _ _ _ _ _ _ h => by simp [f_Mod_addToRow] at h), (fun _ _ _ _ _ _ h => by simp [f_Mod_addToRow] at h), (fun _ _ _ _ _ _ h => by simp [f_Mod_addToRow] at h), (fun _ _ _ _ _ _ h => by simp [f_Mod_addToRow] at h), (fun _ _ _ _ _ _ h => by simp [f_Mod_addToRow] at h)⟩
  | succ k9 ih =>
    refine ⟨?_, ?_, ?_, ?_, ?_⟩
    · intro S L M ls H locs h hl hP hD hS
      simp only [f_Mod_addToRow] at h
      refine lv_aload_n hx hb d_Mod_addToRow_0 rfl (lv_at hl 0 rfl) ?_
      refine S_getI (h := shM) (C := "MacroMillModel") (T := F_Mod) hx hb htt in_Mod hown hK hP 0 108 rfl rfl rfl (by decide) (htt _ k_2344) (fun _ h9 => h9) d_Mod_addToRow_1 ?_
      refine lv_istore_n (lv' := [(1, .int (S.1 0 108)), (0, .ref (ad 0))]) hx hb d_Mod_addToRow_4 rfl hl (by decide) rfl (fun ls hl => ?_)
      exact (ih.2.1) S (upd L 1 (S.1 0 108)) M ls H locs h (lv_sub hl [1, 0] rfl) hP hD hS
    · intro S L M ls H locs h hl hP hD hS
      simp only [f_Mod_addToRow] at h
      refine lv_iload_n hx hb d_Mod_addToRow_5 rfl (lv_at hl 1 rfl) ?_
      refine lv_if_lt (tgt := 58) hx hb d_Mod_addToRow_6 (by decide) (fun hc1 => ?_) (fun hc1 => ?_)
      · rw [if_pos hc1] at h
        exact (ih.2.2.2.1) S L M ls H locs h (lv_sub hl [0, 1] rfl) hP hD hS
      · rw [if_neg hc1] at h
        refine lv_aload_n hx hb d_Mod_addToRow_9 rfl (lv_at hl 0 rfl) ?_
        refine S_getI (h := shM) (C := "MacroMillModel") (T := F_Mod) hx hb htt in_Mod hown hK hP 0 10 rfl rfl rfl (by decide) (htt _ k_2246) (fun _ h9 => h9) d_Mod_addToRow_10 ?_
        refine lv_if_ne (tgt := 58) hx hb d_Mod_addToRow_13 (by decide) (fun hc2 => ?_) (fun hc2 => ?_)
        · rw [if_neg hc2] at h
          exact (ih.2.2.2.1) S L M ls H locs h (lv_sub hl [0, 1] rfl) hP hD hS
        · rw [if_pos hc2] at h
          refine lv_aload_n hx hb d_Mod_addToRow_16 rfl (lv_at hl 0 rfl) ?_
          refine S_getI (h := shM) (C := "MacroMillModel") (T := F_Mod) hx hb htt in_Mod hown hK hP 0 114 rfl rfl rfl (by decide) (htt _ k_2350) (fun _ h9 => h9) d_Mod_addToRow_17 ?_
          refine lv_sipush (v := 8000) hx hb d_Mod_addToRow_20 (by decide) ?_
          refine lv_icmp_ne (tgt := 38) hx hb d_Mod_addToRow_23 (by decide) (fun hc3 => ?_) (fun hc3 => ?_)
          · rw [if_neg hc3] at h
            exact (ih.2.2.1) S L M ls H locs h (lv_sub hl [0, 1] rfl) hP hD hS
          · rw [if_pos hc3] at h
            refine lv_aload_n hx hb d_Mod_addToRow_26 rfl (lv_at hl 0 rfl) ?_
            refine lv_bipush (v := 21) hx hb d_Mod_addToRow_27 (by decide) ?_
            refine lv_aload_n hx hb d_Mod_addToRow_29 rfl (lv_at hl 0 rfl) ?_
            refine S_getR (h := shM) (C := "MacroMillModel") (T := F_Mod) hx hb htt in_Mod hown hK hP 0 70 rfl 30 rfl rfl (by decide) (htt _ k_2306) (fun _ h9 => h9) d_Mod_addToRow_30 ?_
            refine lv_iload_n hx hb d_Mod_addToRow_33 rfl (lv_at hl 1 rfl) ?_
            obtain ⟨hv4, h⟩ := chk h
            show W _ _ _ _ _ _ _ _ _ _ _ _ _ _ _ (F0 _ 34 _ _)
            refine S_iald (h := shM) (i := L 1) hx hb hK hP 29 rfl (okI_in hv4) d_Mod_addToRow_34 ?_
            obtain ⟨⟨r5, T5⟩, hq5, h⟩ := Option.bind_eq_some_iff.mp h
            try dsimp only at h
            refine go_vS (As := [.ref (ad 0), .int 21, .int (S.2.1 29 (L 1 : Int32).toNatClampNeg)]) (g := g) (A := A) (h := shM) hP hK hD hS hA hN (fun hp => va_runV (As := [.int 21, .int (S.2.1 29 (L 1 : Int32).toNatClampNeg)]) (rest := []) ⟨hx, hb, hml, hown, htt⟩ (t_Mod_fail2 l g _ ad S (21 : Int32) (S.2.1 29 (L 1 : Int32).toNatClampNeg : Int32) k9 r5 T5 hq5) ⟨(cb_L htt k_2985 k_276 k_2982 hd_Mod_fail2 ⟨(Nat.le_trans (by decide +kernel) hRf), (Nat.le_trans (by decide +kernel) hRl)⟩), htt _ k_2984, htt _ k_187⟩ ⟨hp.1, S_recv hK hP 0 rfl rfl, hp.2⟩ rfl rfl hl.1 rfl (lv_room (Nat.le_of_ble_eq_true rfl)) d_Mod_addToRow_35 ⟨hRc, hRs⟩) (fun Sn H locs hw9 hP hD hS => ?_)
            have e8 := hw9
            rw [e8] at hP hD
            refine W.widen (k := cells) (n := slots) (Nat.le_refl _) (Nat.le_refl _) ?_
            exact (ih.2.2.1) T5 L M ls H locs h (lv_sub hl [0, 1] rfl) hP hD hS
    · intro S L M ls H locs h hl hP hD hS
      simp only [f_Mod_addToRow] at h
      refine lv_aload_n hx hb d_Mod_addToRow_38 rfl (lv_at hl 0 rfl) ?_
      refine lv_dup hx hb d_Mod_addToRow_39 rfl ?_
      refine S_getI (h := shM) (C := "MacroMillModel") (T := F_Mod) hx hb htt in_Mod hown hK hP 0 114 rfl rfl rfl (by decide) (htt _ k_2350) (fun _ h9 => h9) d_Mod_addToRow_40 ?_
      refine lv_iconst (v := 1) hx hb d_Mod_addToRow_43 (by decide) ?_
      refine lv_iadd hx hb d_Mod_addToRow_44 ?_
      refine S_put (h := shM) (C := "MacroMillModel") (T := F_Mod) (v := (S.1 0 114) + (1 : Int32)) hx hb htt in_Mod t_Mod t_Mod_ok n_Mod hown hK hP hD hS 0 114 rfl rfl rfl (by decide) (htt _ k_2350) (fun _ h9 => h9) rfl rfl rfl d_Mod_addToRow_45 (fun H locs hP hD hS => ?_)
      refine lv_aload_n hx hb d_Mod_addToRow_48 rfl (lv_at hl 0 rfl) ?_
      refine S_getR (h := shM) (C := "MacroMillModel") (T := F_Mod) hx hb htt in_Mod hown hK hP 0 72 rfl 32 rfl rfl (by decide) (htt _ k_2308) (fun _ h9 => h9) d_Mod_addToRow_49 ?_
      refine lv_iload_n hx hb d_Mod_addToRow_52 rfl (lv_at hl 1 rfl) ?_
      obtain ⟨hv1, h⟩ := chk h
      refine S_iald (h := shM) (i := L 1) hx hb hK hP 31 rfl (okI_in hv1) d_Mod_addToRow_53 ?_
      refine lv_istore_n (lv' := [(1, .int ((putI S 0 114 ((S.1 0 114) + (1 : Int32))).2.1 31 (L 1 : Int32).toNatClampNeg)), (0, .ref (ad 0))]) hx hb d_Mod_addToRow_54 rfl hl (by decide) rfl (fun ls hl => ?_)
      show W _ _ _ _ _ _ _ _ _ _ _ _ _ _ _ (F0 _ 55 _ _)
      refine lv_goto (tgt := 5) hx hb d_Mod_addToRow_55 (by decide) ?_
      exact (ih.2.1) (putI S 0 114 ((S.1 0 114) + (1 : Int32))) (upd L 1 ((putI S 0 114 ((S.1 0 114) + (1 : Int32))).2.1 31 (L 1 : Int32).toNatClampNeg)) M ls H locs h (lv_sub hl [1, 0] rfl) hP hD hS
    · intro S L M ls H locs h hl hP hD hS
      simp only [f_Mod_addToRow] at h
      refine lv_aload_n hx hb d_Mod_addToRow_58 rfl (lv_at hl 0 rfl) ?_
      refine S_getI (h := shM) (C := "MacroMillModel") (T := F_Mod) hx hb htt in_Mod hown hK hP 0 112 rfl rfl rfl (by decide) (htt _ k_2348) (fun _ h9 => h9) d_Mod_addToRow_59 ?_
      refine lv_if_ge (tgt := 76) hx hb d_Mod_addToRow_62 (by decide) (fun hc1 => ?_) (fun hc1 => ?_)
      · rw [if_pos hc1] at h
        refine lv_aload_n hx hb d_Mod_addToRow_76 rfl (lv_at hl 0 rfl) ?_
        refine S_getR (h := shM) (C := "MacroMillModel") (T := F_Mod) hx hb htt in_Mod hown hK hP 0 72 rfl 32 rfl rfl (by decide) (htt _ k_2308) (fun _ h9 => h9) d_Mod_addToRow_77 ?_
        refine lv_aload_n hx hb d_Mod_addToRow_80 rfl (lv_at hl 0 rfl) ?_
        refine S_getI (h := shM) (C := "MacroMillModel") (T := F_Mod) hx hb htt in_Mod hown hK hP 0 113 rfl rfl rfl (by decide) (htt _ k_2349) (fun _ h9 => h9) d_Mod_addToRow_81 ?_
        refine lv_aload_n hx hb d_Mod_addToRow_84 rfl (lv_at hl 0 rfl) ?_
        refine S_getI (h := shM) (C := "MacroMillModel") (T := F_Mod) hx hb htt in_Mod hown hK hP 0 108 rfl rfl rfl (by decide) (htt _ k_2344) (fun _ h9 => h9) d_Mod_addToRow_85 ?_
        obtain ⟨hv2, h⟩ := chk h
        refine S_iast (h := shM) (i := S.1 0 113) (v := S.1 0 108) hx hb hK hP hD hS 31 rfl (okI_in hv2) d_Mod_addToRow_88 (fun H locs hP hD hS => ?_)
        exact (ih.2.2.2.2) (putA S 31 (S.1 0 113 : Int32).toNatClampNeg (S.1 0 108)) L M ls H locs h (lv_sub hl [0, 1] rfl) hP hD hS
      · rw [if_neg hc1] at h
        refine lv_aload_n hx hb d_Mod_addToRow_65 rfl (lv_at hl 0 rfl) ?_
        refine lv_aload_n hx hb d_Mod_addToRow_66 rfl (lv_at hl 0 rfl) ?_
        refine S_getI (h := shM) (C := "MacroMillModel") (T := F_Mod) hx hb htt in_Mod hown hK hP 0 108 rfl rfl rfl (by decide) (htt _ k_2344) (fun _ h9 => h9) d_Mod_addToRow_67 ?_
        refine S_put (h := shM) (C := "MacroMillModel") (T := F_Mod) (v := S.1 0 108) hx hb htt in_Mod t_Mod t_Mod_ok n_Mod hown hK hP hD hS 0 112 rfl rfl rfl (by decide) (htt _ k_2348) (fun _ h9 => h9) rfl rfl rfl d_Mod_addToRow_70 (fun H locs hP hD hS => ?_)
        refine lv_goto (tgt := 89) hx hb d_Mod_addToRow_73 (by decide) ?_
        exact (ih.2.2.2.2) (putI S 0 112 (S.1 0 108)) L M ls H locs h (lv_sub hl [0, 1] rfl) hP hD hS
    · intro S L M ls H locs h hl hP hD hS
      simp only [f_Mod_addToRow] at h
      refine lv_aload_n hx hb d_Mod_addToRow_89 rfl (lv_at hl 0 rfl) ?_
      refine lv_aload_n hx hb d_Mod_addToRow_90 rfl (lv_at hl 0 rfl) ?_
      refine S_getI (h := shM) (C := "MacroMillModel") (T := F_Mod) hx hb htt in_Mod hown hK hP 0 109 rfl rfl rfl (by decide) (htt _ k_2345) (fun _ h9 => h9) d_Mod_addToRow_91 ?_
      refine S_put (h := shM) (C := "MacroMillModel") (T := F_Mod) (v := S.1 0 109) hx hb htt in_Mod t_Mod t_Mod_ok n_Mod hown hK hP hD hS 0 113 rfl rfl rfl (by decide) (htt _ k_2349) (fun _ h9 => h9) rfl rfl rfl d_Mod_addToRow_94 (fun H locs hP hD hS => ?_)
      cases h
      exact kx_97 ls H locs hP hD hS
abbrev rm_t_Mod_addToRow : Room := { frames := 2, cells := 0, slots := 0, locals := 45 }
theorem t_Mod_addToRow (l : Launch) (g : gG) (sz : Nat) (ad : Nat → Nat) (S : sS) (k : Nat) (r : Int32) (S9 : sS) (h : f_Mod_addToRow k 0 S (fun _ => 0) (fun _ => 0) = some (r, S9)) : Cv l y_Mod_addToRow b_Mod_addToRow 2 rm_t_Mod_addToRow g [.ref (ad 0)] (Sw shM g ad S) sz (fun w => ∃ S1 : sS, w = Sw shM g ad S1 ∧ S1 = S9) := by
  refine startV (by decide) (Nat.le_of_ble_eq_true rfl) ?_
  intro p e s m below meth c A ls hx hb hr hml hlocks hmn hown htt hN hA hP hK hD hS hl
  exact (w_Mod_addToRow hx hb hml hown htt hK hN hA (by decide +kernel) (by decide +kernel) (by decide +kernel) (by decide +kernel) r S9 (fun ls H locs hP hD hS => fin_v (g := g) (ws := Sw shM g ad S9) hx hb hr hlocks (by decide +kernel) (by decide +kernel) hP hD hS ⟨_, rfl, rfl⟩ d_Mod_addToRow_97) k).1 S (fun _ => 0) (fun _ => 0) ls _ _ h hl hP hD hS
def f_Mod_countsNow : Nat → Nat → sS → (Nat → Int32) → (Nat → Int64) → Option (Int32 × sS)
  | 0, _, _, _, _ => none
  | k + 1, 0, S, L, M => if (S.1 0 115) = (0 : Int32) then (f_Mod_countsNow k 1 S L M) else (if okI ((S.1 0 115) - (1 : Int32)) 101 = true then (if (S.2.1 61 ((S.1 0 115) - (1 : Int32) : Int32).toNatClampNeg) = (0 : Int32) then (f_Mod_countsNow k 2 S L M) else (if okI ((S.1 0 115) - (1 : Int32)) 101 = true then (if (S.2.1 63 ((S.1 0 115) - (1 : Int32) : Int32).toNatClampNeg) = (0 : Int32) then (f_Mod_countsNow k 2 S L M) else (f_Mod_countsNow k 1 S L M)) else none)) else none)
  | k + 1, 1, S, L, M => f_Mod_countsNow k 3 S (upd L 100 (1 : Int32)) M
  | k + 1, 2, S, L, M => f_Mod_countsNow k 3 S (upd L 100 (0 : Int32)) M
  | k + 1, 3, S, L, M => if bz (L 100) = true then some (L 100, S) else none
  | _ + 1, _ + 4, _, _, _ => none
set_option maxHeartbeats 8000000 in
set_option maxRecDepth 100000 in
theorem w_Mod_countsNow {p : Program} {l : Launch} {e : Env} {R : Room} {s : State} {m : MethodId} {args : Array Value} {below : List Frame} {meth : Method} {c : Code} {cells slots : Nat} {Q : State → Prop} {g : gG} {A : Nat → Prop} {ad : Nat → Nat} (hx : p.tables.exec = Jvm.exec) (hb : c.code = b_Mod_countsNow) (hml : c.maxLocals = 1) (hown : s.vm.findClass "MacroMillModel" = some m.cls) (htt : ∀ w ∈ gt, w.before args s = true) (hK : va_K g.1 classes (tysG g) s) (hN : nw s) (hA : ∀ q : Nat, s.heap.size ≤ q → A q) (r : Int32) (S9 : sS)
    (kx_40 : ∀ (ls : Array Slot) (H : Heap) (locs : List Loc), narrow .boolean (.int r) = .int r → va_P g.1 classes (Sw shM g ad S9) H → va_D A (Sw shM g ad S9) → va_S A s.heap H locs → W p l e R s m args below meth c H locs cells slots Q (F0 m 40 ls [.int r])) :
    ∀ k9 : Nat, (∀ (S : sS) (L : Nat → Int32) (M : Nat → Int64) (ls : Array Slot) (H : Heap) (locs : List Loc), f_Mod_countsNow k9 0 S L M = some (r, S9) → lv_has ls 1 [(0, .ref (ad 0))] → va_P g.1 classes (Sw shM g ad S) H → va_D A (Sw shM g ad S) → va_S A s.heap H locs → W p l e R s m args below meth c H locs cells slots Q (F0 m 0 ls [])) ∧ (∀ (S : sS) (L : Nat → Int32) (M : Nat → Int64) (ls : Array Slot) (H : Heap) (locs : List Loc), f_Mod_countsNow k9 1 S L M = some (r, S9) → lv_has ls 1 [(0, .ref (ad 0))] → va_P g.1 classes (Sw shM g ad S) H → va_D A (Sw shM g ad S) → va_S A s.heap H locs → W p l e R s m args below meth c H locs cells slots Q (F0 m 35 ls [])) ∧ (∀ (S : sS) (L : Nat → Int32) (M : Nat → Int64) (ls : Array Slot) (H : Heap) (locs : List Loc), f_Mod_countsNow k9 2 S L M = some (r, S9) → lv_has ls 1 [(0, .ref (ad 0))] → va_P g.1 classes (Sw shM g ad S) H → va_D A (Sw shM g ad S) → va_S A s.heap H locs → W p l e R s m args below meth c H locs cells slots Q (F0 m 39 ls [])) ∧ (∀ (S : sS) (L : Nat → Int32) (M : Nat → Int64) (ls : Array Slot) (H : Heap) (locs : List Loc), f_Mod_countsNow k9 3 S L M = some (r, S9) → lv_has ls 1 [(0, .ref (ad 0))] → va_P g.1 classes (Sw shM g ad S) H → va_D A (Sw shM g ad S) → va_S A s.heap H locs → W p l e R s m args below meth c H locs cells slots Q (F0 m 40 ls [.int (L 100)])) := by
  intro k9
  induction k9 with
  | zero => exact ⟨(fun _ _ _ _ _ _ h => by simp [f_Mod_countsNow] at h), (fun _ _ _ _ _ _ h => by simp [f_Mod_countsNow] at h), (fun _ _ _ _ _ _ h => by simp [f_Mod_countsNow] at h), (fun _ _ _ _ _ _ h => by simp [f_Mod_countsNow] at h)⟩
  | succ k9 ih =>
    refine ⟨?_, ?_, ?_, ?_⟩
    · intro S L M ls H locs h hl hP hD hS
      simp only [f_Mod_countsNow] at h
      refine lv_aload_n hx hb d_Mod_countsNow_0 rfl (lv_at hl 0 rfl) ?_
      refine S_getI (h := shM) (C := "MacroMillModel") (T := F_Mod) hx hb htt in_Mod hown hK hP 0 115 rfl rfl rfl (by decide) (htt _ k_2351) (fun _ h9 => h9) d_Mod_countsNow_1 ?_
      refine lv_if_eq (tgt := 35) hx hb d_Mod_countsNow_4 (by decide) (fun hc1 => ?_) (fun hc1 => ?_)
      · rw [if_pos hc1] at h
        exact (ih.2.1) S L M ls H locs h (lv_sub hl [0] rfl) hP hD hS
      · rw [if_neg hc1] at h
        refine lv_aload_n hx hb d_Mod_countsNow_7 rfl (lv_at hl 0 rfl) ?_
        refine S_getR (h := shM) (C := "MacroMillModel") (T := F_Mod) hx hb htt in_Mod hown hK hP 0 117 rfl 62 rfl rfl (by decide) (htt _ k_2353) (fun _ h9 => h9) d_Mod_countsNow_8 ?_
        refine lv_aload_n hx hb d_Mod_countsNow_11 rfl (lv_at hl 0 rfl) ?_
        refine S_getI (h := shM) (C := "MacroMillModel") (T := F_Mod) hx hb htt in_Mod hown hK hP 0 115 rfl rfl rfl (by decide) (htt _ k_2351) (fun _ h9 => h9) d_Mod_countsNow_12 ?_
        refine lv_iconst (v := 1) hx hb d_Mod_countsNow_15 (by decide) ?_
        refine lv_isub hx hb d_Mod_countsNow_16 ?_
        obtain ⟨hv2, h⟩ := chk h
        refine S_zald (h := shM) (i := (S.1 0 115) - (1 : Int32)) hx hb hK hP 61 rfl (okI_in hv2) d_Mod_countsNow_17 ?_
        refine lv_if_eq (tgt := 39) hx hb d_Mod_countsNow_18 (by decide) (fun hc3 => ?_) (fun hc3 => ?_)
        · rw [if_pos hc3] at h
          exact (ih.2.2.1) S L M ls H locs h (lv_sub hl [0] rfl) hP hD hS
        · rw [if_neg hc3] at h
          refine lv_aload_n hx hb d_Mod_countsNow_21 rfl (lv_at hl 0 rfl) ?_
          refine S_getR (h := shM) (C := "MacroMillModel") (T := F_Mod) hx hb htt in_Mod hown hK hP 0 119 rfl 64 rfl rfl (by decide) (htt _ k_2355) (fun _ h9 => h9) d_Mod_countsNow_22 ?_
          show W _ _ _ _ _ _ _ _ _ _ _ _ _ _ _ (F0 _ 25 _ _)
          refine lv_aload_n hx hb d_Mod_countsNow_25 rfl (lv_at hl 0 rfl) ?_
          refine S_getI (h := shM) (C := "MacroMillModel") (T := F_Mod) hx hb htt in_Mod hown hK hP 0 115 rfl rfl rfl (by decide) (htt _ k_2351) (fun _ h9 => h9) d_Mod_countsNow_26 ?_
          refine lv_iconst (v := 1) hx hb d_Mod_countsNow_29 (by decide) ?_
          refine lv_isub hx hb d_Mod_countsNow_30 ?_
          obtain ⟨hv4, h⟩ := chk h
          refine S_zald (h := shM) (i := (S.1 0 115) - (1 : Int32)) hx hb hK hP 63 rfl (okI_in hv4) d_Mod_countsNow_31 ?_
          refine lv_if_eq (tgt := 39) hx hb d_Mod_countsNow_32 (by decide) (fun hc5 => ?_) (fun hc5 => ?_)
          · rw [if_pos hc5] at h
            exact (ih.2.2.1) S L M ls H locs h (lv_sub hl [0] rfl) hP hD hS
          · rw [if_neg hc5] at h
            exact (ih.2.1) S L M ls H locs h (lv_sub hl [0] rfl) hP hD hS
    · intro S L M ls H locs h hl hP hD hS
      simp only [f_Mod_countsNow] at h
      refine lv_iconst (v := 1) hx hb d_Mod_countsNow_35 (by decide) ?_
      refine lv_goto (tgt := 40) hx hb d_Mod_countsNow_36 (by decide) ?_
      exact (ih.2.2.2) S (upd L 100 (1 : Int32)) M ls H locs h (lv_sub hl [0] rfl) hP hD hS
    · intro S L M ls H locs h hl hP hD hS
      simp only [f_Mod_countsNow] at h
      refine lv_iconst (v := 0) hx hb d_Mod_countsNow_39 (by decide) ?_
      exact (ih.2.2.2) S (upd L 100 (0 : Int32)) M ls H locs h (lv_sub hl [0] rfl) hP hD hS
    · intro S L M ls H locs h hl hP hD hS
      simp only [f_Mod_countsNow] at h
      obtain ⟨hv1, h⟩ := chk h
      cases h
      exact kx_40 ls H locs (bz_n hv1) hP hD hS
abbrev rm_t_Mod_countsNow : Room := { frames := 0, cells := 0, slots := 0, locals := 0 }
theorem t_Mod_countsNow (l : Launch) (g : gG) (sz : Nat) (ad : Nat → Nat) (S : sS) (k : Nat) (r : Int32) (S9 : sS) (h : f_Mod_countsNow k 0 S (fun _ => 0) (fun _ => 0) = some (r, S9)) : Cz l y_Mod_countsNow b_Mod_countsNow 1 rm_t_Mod_countsNow g [.ref (ad 0)] (Sw shM g ad S) sz (fun r1 w => ∃ S1 : sS, w = Sw shM g ad S1 ∧ r1 = r ∧ S1 = S9) := by
  refine startZ (by decide) (Nat.le_of_ble_eq_true rfl) ?_
  intro p e s m below meth c A ls hx hb hr hml hlocks hmn hown htt hN hA hP hK hD hS hl
  exact (w_Mod_countsNow hx hb hml hown htt hK hN hA r S9 (fun ls H locs hz hP hD hS => fin_z (g := g) (ws := Sw shM g ad S9) hx hb hr hlocks hz (by decide +kernel) (by decide +kernel) hP hD hS ⟨_, rfl, rfl, rfl⟩ d_Mod_countsNow_40) k).1 S (fun _ => 0) (fun _ => 0) ls _ _ h hl hP hD hS
def f_Mod_beginIf : Nat → Nat → sS → (Nat → Int32) → (Nat → Int64) → Option (Int32 × sS)
  | 0, _, _, _, _ => none
  | k + 1, 0, S, L, M => if (S.1 0 115) = (100 : Int32) then ((f_Mod_fail2 k 0 S (upd (upd (fun _ => 0) 1 (21 : Int32)) 2 (L 3 : Int32)) (fun _ => 0)).bind (fun (r7, T7) => some ((0 : Int32), T7))) else (if okI (S.1 0 115) 101 = true then (if okI (S.1 0 115) 101 = true then (if okI (S.1 0 115) 101 = true then (if okI (S.1 0 115) 101 = true then (if okI (S.1 0 115) 101 = true then (some ((0 : Int32), (putI (putA (putA (putA (putA (putA S 60 (S.1 0 115 : Int32).toNatClampNeg (L 3)) 61 (S.1 0 115 : Int32).toNatClampNeg (vp_nar .boolean (L 1))) 63 (S.1 0 115 : Int32).toNatClampNeg (vp_nar .boolean (L 2))) 62 (S.1 0 115 : Int32).toNatClampNeg (vp_nar .boolean (L 2))) 64 (S.1 0 115 : Int32).toNatClampNeg (vp_nar .boolean 0)) 0 115 ((S.1 0 115) + (1 : Int32))))) else none) else none) else none) else none) else none)
  | _ + 1, _ + 1, _, _, _ => none
set_option maxHeartbeats 8000000 in
set_option maxRecDepth 100000 in
theorem w_Mod_beginIf {p : Program} {l : Launch} {e : Env} {R : Room} {s : State} {m : MethodId} {args : Array Value} {below : List Frame} {meth : Method} {c : Code} {cells slots : Nat} {Q : State → Prop} {g : gG} {A : Nat → Prop} {ad : Nat → Nat} (hx : p.tables.exec = Jvm.exec) (hb : c.code = b_Mod_beginIf) (hml : c.maxLocals = 4) (hown : s.vm.findClass "MacroMillModel" = some m.cls) (htt : ∀ w ∈ gt, w.before args s = true) (hK : va_K g.1 classes (tysG g) s) (hN : nw s) (hA : ∀ q : Nat, s.heap.size ≤ q → A q) (hRf : 2 ≤ R.frames) (hRl : 45 ≤ R.locals) (hRc : cells ≤ R.cells) (hRs : slots ≤ R.slots) (r : Int32) (S9 : sS)
    (kx_16 : ∀ (ls : Array Slot) (H : Heap) (locs : List Loc), va_P g.1 classes (Sw shM g ad S9) H → va_D A (Sw shM g ad S9) → va_S A s.heap H locs → W p l e R s m args below meth c H locs cells slots Q (F0 m 16 ls []))
    (kx_77 : ∀ (ls : Array Slot) (H : Heap) (locs : List Loc), va_P g.1 classes (Sw shM g ad S9) H → va_D A (Sw shM g ad S9) → va_S A s.heap H locs → W p l e R s m args below meth c H locs cells slots Q (F0 m 77 ls [])) :
    ∀ k9 : Nat, (∀ (S : sS) (L : Nat → Int32) (M : Nat → Int64) (ls : Array Slot) (H : Heap) (locs : List Loc), f_Mod_beginIf k9 0 S L M = some (r, S9) → lv_has ls 4 [(0, .ref (ad 0)), (1, .int (L 1)), (2, .int (L 2)), (3, .int (L 3))] → va_P g.1 classes (Sw shM g ad S) H → va_D A (Sw shM g ad S) → va_S A s.heap H locs → W p l e R s m args below meth c H locs cells slots Q (F0 m 0 ls [])) := by
  intro k9
  induction k9 with
  | zero => exact (fun _ _ _ _ _ _ h => by simp [f_Mod_beginIf] at h)
  | succ k9 ih =>
    · intro S L M ls H locs h hl hP hD hS
      simp only [f_Mod_beginIf] at h
      refine lv_aload_n hx hb d_Mod_beginIf_0 rfl (lv_at hl 0 rfl) ?_
      refine S_getI (h := shM) (C := "MacroMillModel") (T := F_Mod) hx hb htt in_Mod hown hK hP 0 115 rfl rfl rfl (by decide) (htt _ k_2351) (fun _ h9 => h9) d_Mod_beginIf_1 ?_
      refine lv_bipush (v := 100) hx hb d_Mod_beginIf_4 (by decide) ?_
      refine lv_icmp_ne (tgt := 17) hx hb d_Mod_beginIf_6 (by decide) (fun hc1 => ?_) (fun hc1 => ?_)
      · rw [if_neg hc1] at h
        refine lv_aload_n hx hb d_Mod_beginIf_17 rfl (lv_at hl 0 rfl) ?_
        refine S_getR (h := shM) (C := "MacroMillModel") (T := F_Mod) hx hb htt in_Mod hown hK hP 0 116 rfl 61 rfl rfl (by decide) (htt _ k_2352) (fun _ h9 => h9) d_Mod_beginIf_18 ?_
        refine lv_aload_n hx hb d_Mod_beginIf_21 rfl (lv_at hl 0 rfl) ?_
        refine S_getI (h := shM) (C := "MacroMillModel") (T := F_Mod) hx hb htt in_Mod hown hK hP 0 115 rfl rfl rfl (by decide) (htt _ k_2351) (fun _ h9 => h9) d_Mod_beginIf_22 ?_
        refine lv_iload_n hx hb d_Mod_beginIf_25 rfl (lv_at hl 3 rfl) ?_
        obtain ⟨hv2, h⟩ := chk h
        refine S_iast (h := shM) (i := S.1 0 115) (v := L 3) hx hb hK hP hD hS 60 rfl (okI_in hv2) d_Mod_beginIf_26 (fun H locs hP hD hS => ?_)
        refine lv_aload_n hx hb d_Mod_beginIf_27 rfl (lv_at hl 0 rfl) ?_
        refine S_getR (h := shM) (C := "MacroMillModel") (T := F_Mod) hx hb htt in_Mod hown hK hP 0 117 rfl 62 rfl rfl (by decide) (htt _ k_2353) (fun _ h9 => h9) d_Mod_beginIf_28 ?_
        show W _ _ _ _ _ _ _ _ _ _ _ _ _ _ _ (F0 _ 31 _ _)
        refine lv_aload_n hx hb d_Mod_beginIf_31 rfl (lv_at hl 0 rfl) ?_
        refine S_getI (h := shM) (C := "MacroMillModel") (T := F_Mod) hx hb htt in_Mod hown hK hP 0 115 rfl rfl rfl (by decide) (htt _ k_2351) (fun _ h9 => h9) d_Mod_beginIf_32 ?_
        refine toI (y := S.1 0 115) rfl ?_
        refine lv_iload_n hx hb d_Mod_beginIf_35 rfl (lv_at hl 1 rfl) ?_
        obtain ⟨hv3, h⟩ := chk h
        refine S_zast (h := shM) (i := S.1 0 115) (v := L 1) hx hb hK hP hD hS 61 rfl (okI_in hv3) d_Mod_beginIf_36 (fun H locs hP hD hS => ?_)
        refine lv_aload_n hx hb d_Mod_beginIf_37 rfl (lv_at hl 0 rfl) ?_
        refine S_getR (h := shM) (C := "MacroMillModel") (T := F_Mod) hx hb htt in_Mod hown hK hP 0 119 rfl 64 rfl rfl (by decide) (htt _ k_2355) (fun _ h9 => h9) d_Mod_beginIf_38 ?_
        refine lv_aload_n hx hb d_Mod_beginIf_41 rfl (lv_at hl 0 rfl) ?_
        refine S_getI (h := shM) (C := "MacroMillModel") (T := F_Mod) hx hb htt in_Mod hown hK hP 0 115 rfl rfl rfl (by decide) (htt _ k_2351) (fun _ h9 => h9) d_Mod_beginIf_42 ?_
        refine toI (y := S.1 0 115) rfl ?_
        refine lv_iload_n hx hb d_Mod_beginIf_45 rfl (lv_at hl 2 rfl) ?_
        obtain ⟨hv4, h⟩ := chk h
        refine S_zast (h := shM) (i := S.1 0 115) (v := L 2) hx hb hK hP hD hS 63 rfl (okI_in hv4) d_Mod_beginIf_46 (fun H locs hP hD hS => ?_)
        refine lv_aload_n hx hb d_Mod_beginIf_47 rfl (lv_at hl 0 rfl) ?_
        refine S_getR (h := shM) (C := "MacroMillModel") (T := F_Mod) hx hb htt in_Mod hown hK hP 0 118 rfl 63 rfl rfl (by decide) (htt _ k_2354) (fun _ h9 => h9) d_Mod_beginIf_48 ?_
        show W _ _ _ _ _ _ _ _ _ _ _ _ _ _ _ (F0 _ 51 _ _)
        refine lv_aload_n hx hb d_Mod_beginIf_51 rfl (lv_at hl 0 rfl) ?_
        refine S_getI (h := shM) (C := "MacroMillModel") (T := F_Mod) hx hb htt in_Mod hown hK hP 0 115 rfl rfl rfl (by decide) (htt _ k_2351) (fun _ h9 => h9) d_Mod_beginIf_52 ?_
        refine toI (y := S.1 0 115) rfl ?_
        refine lv_iload_n hx hb d_Mod_beginIf_55 rfl (lv_at hl 2 rfl) ?_
        obtain ⟨hv5, h⟩ := chk h
        refine S_zast (h := shM) (i := S.1 0 115) (v := L 2) hx hb hK hP hD hS 62 rfl (okI_in hv5) d_Mod_beginIf_56 (fun H locs hP hD hS => ?_)
        refine lv_aload_n hx hb d_Mod_beginIf_57 rfl (lv_at hl 0 rfl) ?_
        refine S_getR (h := shM) (C := "MacroMillModel") (T := F_Mod) hx hb htt in_Mod hown hK hP 0 120 rfl 65 rfl rfl (by decide) (htt _ k_2356) (fun _ h9 => h9) d_Mod_beginIf_58 ?_
        refine lv_aload_n hx hb d_Mod_beginIf_61 rfl (lv_at hl 0 rfl) ?_
        refine S_getI (h := shM) (C := "MacroMillModel") (T := F_Mod) hx hb htt in_Mod hown hK hP 0 115 rfl rfl rfl (by decide) (htt _ k_2351) (fun _ h9 => h9) d_Mod_beginIf_62 ?_
        refine toI (y := S.1 0 115) rfl ?_
        refine lv_iconst (v := 0) hx hb d_Mod_beginIf_65 (by decide) ?_
        obtain ⟨hv6, h⟩ := chk h
        refine S_zast (h := shM) (i := S.1 0 115) (v := 0) hx hb hK hP hD hS 64 rfl (okI_in hv6) d_Mod_beginIf_66 (fun H locs hP hD hS => ?_)
        refine lv_aload_n hx hb d_Mod_beginIf_67 rfl (lv_at hl 0 rfl) ?_
        refine lv_dup hx hb d_Mod_beginIf_68 rfl ?_
        show W _ _ _ _ _ _ _ _ _ _ _ _ _ _ _ (F0 _ 69 _ _)
        refine S_getI (h := shM) (C := "MacroMillModel") (T := F_Mod) hx hb htt in_Mod hown hK hP 0 115 rfl rfl rfl (by decide) (htt _ k_2351) (fun _ h9 => h9) d_Mod_beginIf_69 ?_
        refine toI (y := S.1 0 115) rfl ?_
        refine lv_iconst (v := 1) hx hb d_Mod_beginIf_72 (by decide) ?_
        refine lv_iadd hx hb d_Mod_beginIf_73 ?_
        refine S_put (h := shM) (C := "MacroMillModel") (T := F_Mod) (v := (S.1 0 115) + (1 : Int32)) hx hb htt in_Mod t_Mod t_Mod_ok n_Mod hown hK hP hD hS 0 115 rfl rfl rfl (by decide) (htt _ k_2351) (fun _ h9 => h9) rfl rfl rfl d_Mod_beginIf_74 (fun H locs hP hD hS => ?_)
        cases h
        exact kx_77 ls H locs hP hD hS
      · rw [if_pos hc1] at h
        refine lv_aload_n hx hb d_Mod_beginIf_9 rfl (lv_at hl 0 rfl) ?_
        refine lv_bipush (v := 21) hx hb d_Mod_beginIf_10 (by decide) ?_
        refine lv_iload_n hx hb d_Mod_beginIf_12 rfl (lv_at hl 3 rfl) ?_
        obtain ⟨⟨r7, T7⟩, hq7, h⟩ := Option.bind_eq_some_iff.mp h
        try dsimp only at h
        refine go_vS (As := [.ref (ad 0), .int 21, .int (L 3)]) (g := g) (A := A) (h := shM) hP hK hD hS hA hN (fun hp => va_runV (As := [.int 21, .int (L 3)]) (rest := []) ⟨hx, hb, hml, hown, htt⟩ (t_Mod_fail2 l g _ ad S (21 : Int32) (L 3 : Int32) k9 r7 T7 hq7) ⟨(cb_L htt k_2985 k_276 k_2982 hd_Mod_fail2 ⟨(Nat.le_trans (by decide +kernel) hRf), (Nat.le_trans (by decide +kernel) hRl)⟩), htt _ k_2984, htt _ k_187⟩ ⟨hp.1, S_recv hK hP 0 rfl rfl, hp.2⟩ rfl rfl hl.1 rfl (lv_room (Nat.le_of_ble_eq_true rfl)) d_Mod_beginIf_13 ⟨hRc, hRs⟩) (fun Sn H locs hw9 hP hD hS => ?_)
        have e8 := hw9
        rw [e8] at hP hD
        refine W.widen (k := cells) (n := slots) (Nat.le_refl _) (Nat.le_refl _) ?_
        cases h
        exact kx_16 ls H locs hP hD hS
abbrev rm_t_Mod_beginIf : Room := { frames := 2, cells := 0, slots := 0, locals := 45 }
theorem t_Mod_beginIf (l : Launch) (g : gG) (sz : Nat) (ad : Nat → Nat) (S : sS) (v1 : Int32) (v2 : Int32) (v3 : Int32) (k : Nat) (r : Int32) (S9 : sS) (h : f_Mod_beginIf k 0 S (upd (upd (upd (fun _ => 0) 1 v1) 2 v2) 3 v3) (fun _ => 0) = some (r, S9)) : Cv l y_Mod_beginIf b_Mod_beginIf 4 rm_t_Mod_beginIf g [.ref (ad 0), .int v1, .int v2, .int v3] (Sw shM g ad S) sz (fun w => ∃ S1 : sS, w = Sw shM g ad S1 ∧ S1 = S9) := by
  refine startV (by decide) (Nat.le_of_ble_eq_true rfl) ?_
  intro p e s m below meth c A ls hx hb hr hml hlocks hmn hown htt hN hA hP hK hD hS hl
  exact (w_Mod_beginIf hx hb hml hown htt hK hN hA (by decide +kernel) (by decide +kernel) (by decide +kernel) (by decide +kernel) r S9 (fun ls H locs hP hD hS => fin_v (g := g) (ws := Sw shM g ad S9) hx hb hr hlocks (by decide +kernel) (by decide +kernel) hP hD hS ⟨_, rfl, rfl⟩ d_Mod_beginIf_16) (fun ls H locs hP hD hS => fin_v (g := g) (ws := Sw shM g ad S9) hx hb hr hlocks (by decide +kernel) (by decide +kernel) hP hD hS ⟨_, rfl, rfl⟩ d_Mod_beginIf_77) k) S (upd (upd (upd (fun _ => 0) 1 v1) 2 v2) 3 v3) (fun _ => 0) ls _ _ h hl hP hD hS
def f_Mod_fault : Nat → Nat → sS → (Nat → Int32) → (Nat → Int64) → Option (Int32 × sS)
  | 0, _, _, _, _ => none
  | k + 1, 0, S, L, M => (f_Mod_fail2 k 0 S (upd (upd (fun _ => 0) 1 (L 1 : Int32)) 2 (S.1 0 121 : Int32)) (fun _ => 0)).bind (fun (r1, T1) => some ((0 : Int32), T1))
  | _ + 1, _ + 1, _, _, _ => none
set_option maxHeartbeats 8000000 in
set_option maxRecDepth 100000 in
theorem w_Mod_fault {p : Program} {l : Launch} {e : Env} {R : Room} {s : State} {m : MethodId} {args : Array Value} {below : List Frame} {meth : Method} {c : Code} {cells slots : Nat} {Q : State → Prop} {g : gG} {A : Nat → Prop} {ad : Nat → Nat} (hx : p.tables.exec = Jvm.exec) (hb : c.code = b_Mod_fault) (hml : c.maxLocals = 2) (hown : s.vm.findClass "MacroMillModel" = some m.cls) (htt : ∀ w ∈ gt, w.before args s = true) (hK : va_K g.1 classes (tysG g) s) (hN : nw s) (hA : ∀ q : Nat, s.heap.size ≤ q → A q) (hRf : 2 ≤ R.frames) (hRl : 45 ≤ R.locals) (hRc : cells ≤ R.cells) (hRs : slots ≤ R.slots) (r : Int32) (S9 : sS)
    (kx_9 : ∀ (ls : Array Slot) (H : Heap) (locs : List Loc), va_P g.1 classes (Sw shM g ad S9) H → va_D A (Sw shM g ad S9) → va_S A s.heap H locs → W p l e R s m args below meth c H locs cells slots Q (F0 m 9 ls [])) :
    ∀ k9 : Nat, (∀ (S : sS) (L : Nat → Int32) (M : Nat → Int64) (ls : Array Slot) (H : Heap) (locs : List Loc), f_Mod_fault k9 0 S L M = some (r, S9) → lv_has ls 2 [(0, .ref (ad 0)), (1, .int (L 1))] → va_P g.1 classes (Sw shM g ad S) H → va_D A (Sw shM g ad S) → va_S A s.heap H locs → W p l e R s m args below meth c H locs cells slots Q (F0 m 0 ls [])) := by
  intro k9
  induction k9 with
  | zero => exact (fun _ _ _ _ _ _ h => by simp [f_Mod_fault] at h)
  | succ k9 ih =>
    · intro S L M ls H locs h hl hP hD hS
      simp only [f_Mod_fault] at h
      refine lv_aload_n hx hb d_Mod_fault_0 rfl (lv_at hl 0 rfl) ?_
      refine lv_iload_n hx hb d_Mod_fault_1 rfl (lv_at hl 1 rfl) ?_
      refine lv_aload_n hx hb d_Mod_fault_2 rfl (lv_at hl 0 rfl) ?_
      refine S_getI (h := shM) (C := "MacroMillModel") (T := F_Mod) hx hb htt in_Mod hown hK hP 0 121 rfl rfl rfl (by decide) (htt _ k_2357) (fun _ h9 => h9) d_Mod_fault_3 ?_
      obtain ⟨⟨r1, T1⟩, hq1, h⟩ := Option.bind_eq_some_iff.mp h
      try dsimp only at h
      refine go_vS (As := [.ref (ad 0), .int (L 1), .int (S.1 0 121)]) (g := g) (A := A) (h := shM) hP hK hD hS hA hN (fun hp => va_runV (As := [.int (L 1), .int (S.1 0 121)]) (rest := []) ⟨hx, hb, hml, hown, htt⟩ (t_Mod_fail2 l g _ ad S (L 1 : Int32) (S.1 0 121 : Int32) k9 r1 T1 hq1) ⟨(cb_L htt k_2985 k_276 k_2982 hd_Mod_fail2 ⟨(Nat.le_trans (by decide +kernel) hRf), (Nat.le_trans (by decide +kernel) hRl)⟩), htt _ k_2984, htt _ k_187⟩ ⟨hp.1, S_recv hK hP 0 rfl rfl, hp.2⟩ rfl rfl hl.1 rfl (lv_room (Nat.le_of_ble_eq_true rfl)) d_Mod_fault_6 ⟨hRc, hRs⟩) (fun Sn H locs hw9 hP hD hS => ?_)
      have e8 := hw9
      rw [e8] at hP hD
      refine W.widen (k := cells) (n := slots) (Nat.le_refl _) (Nat.le_refl _) ?_
      cases h
      exact kx_9 ls H locs hP hD hS
abbrev rm_t_Mod_fault : Room := { frames := 2, cells := 0, slots := 0, locals := 45 }
theorem t_Mod_fault (l : Launch) (g : gG) (sz : Nat) (ad : Nat → Nat) (S : sS) (v1 : Int32) (k : Nat) (r : Int32) (S9 : sS) (h : f_Mod_fault k 0 S (upd (fun _ => 0) 1 v1) (fun _ => 0) = some (r, S9)) : Cv l y_Mod_fault b_Mod_fault 2 rm_t_Mod_fault g [.ref (ad 0), .int v1] (Sw shM g ad S) sz (fun w => ∃ S1 : sS, w = Sw shM g ad S1 ∧ S1 = S9) := by
  refine startV (by decide) (Nat.le_of_ble_eq_true rfl) ?_
  intro p e s m below meth c A ls hx hb hr hml hlocks hmn hown htt hN hA hP hK hD hS hl
  exact (w_Mod_fault hx hb hml hown htt hK hN hA (by decide +kernel) (by decide +kernel) (by decide +kernel) (by decide +kernel) r S9 (fun ls H locs hP hD hS => fin_v (g := g) (ws := Sw shM g ad S9) hx hb hr hlocks (by decide +kernel) (by decide +kernel) hP hD hS ⟨_, rfl, rfl⟩ d_Mod_fault_9) k) S (upd (fun _ => 0) 1 v1) (fun _ => 0) ls _ _ h hl hP hD hS
def f_Mod_isNewParameter : Nat → Nat → sS → (Nat → Int32) → (Nat → Int64) → Option (Int32 × sS)
  | 0, _, _, _, _ => none
  | k + 1, 0, S, L, M => f_Mod_isNewParameter k 1 S (upd (upd L 2 (0 : Int32)) 3 (0 : Int32)) M
  | k + 1, 1, S, L, M => if (S.1 0 122) ≤ (L 3) then (if bz (L 2) = true then some (L 2, S) else none) else (if (L 2) = (0 : Int32) then (if okI (L 3) 31 = true then (if okI (L 3) 31 = true then ((f_Mod_isSpelledAs k 0 S (upd (upd (upd (fun _ => 0) 1 (L 1 : Int32)) 2 (S.2.1 65 (L 3 : Int32).toNatClampNeg : Int32)) 3 (S.2.1 66 (L 3 : Int32).toNatClampNeg : Int32)) (fun _ => 0)).bind (fun (r6, T6) => if r6 = (0 : Int32) then (f_Mod_isNewParameter k 3 T6 (upd L 100 (0 : Int32)) M) else (f_Mod_isNewParameter k 2 T6 L M))) else none) else none) else (f_Mod_isNewParameter k 2 S L M))
  | k + 1, 2, S, L, M => f_Mod_isNewParameter k 3 S (upd L 100 (1 : Int32)) M
  | k + 1, 3, S, L, M => f_Mod_isNewParameter k 1 S (upd (upd L 2 (L 100)) 3 ((L 3) + 1)) M
  | _ + 1, _ + 4, _, _, _ => none
set_option maxHeartbeats 8000000 in
set_option maxRecDepth 100000 in
theorem w_Mod_isNewParameter {p : Program} {l : Launch} {e : Env} {R : Room} {s : State} {m : MethodId} {args : Array Value} {below : List Frame} {meth : Method} {c : Code} {cells slots : Nat} {Q : State → Prop} {g : gG} {A : Nat → Prop} {ad : Nat → Nat} (hx : p.tables.exec = Jvm.exec) (hb : c.code = b_Mod_isNewParameter) (hml : c.maxLocals = 4) (hown : s.vm.findClass "MacroMillModel" = some m.cls) (htt : ∀ w ∈ gt, w.before args s = true) (hK : va_K g.1 classes (tysG g) s) (hN : nw s) (hA : ∀ q : Nat, s.heap.size ≤ q → A q) (hRf : 1 ≤ R.frames) (hRl : 25 ≤ R.locals) (hRc : cells ≤ R.cells) (hRs : slots ≤ R.slots) (r : Int32) (S9 : sS)
    (kx_49 : ∀ (ls : Array Slot) (H : Heap) (locs : List Loc), narrow .boolean (.int r) = .int r → va_P g.1 classes (Sw shM g ad S9) H → va_D A (Sw shM g ad S9) → va_S A s.heap H locs → W p l e R s m args below meth c H locs cells slots Q (F0 m 49 ls [.int r])) :
    ∀ k9 : Nat, (∀ (S : sS) (L : Nat → Int32) (M : Nat → Int64) (ls : Array Slot) (H : Heap) (locs : List Loc), f_Mod_isNewParameter k9 0 S L M = some (r, S9) → lv_has ls 4 [(0, .ref (ad 0)), (1, .int (L 1))] → va_P g.1 classes (Sw shM g ad S) H → va_D A (Sw shM g ad S) → va_S A s.heap H locs → W p l e R s m args below meth c H locs cells slots Q (F0 m 0 ls [])) ∧ (∀ (S : sS) (L : Nat → Int32) (M : Nat → Int64) (ls : Array Slot) (H : Heap) (locs : List Loc), f_Mod_isNewParameter k9 1 S L M = some (r, S9) → lv_has ls 4 [(0, .ref (ad 0)), (1, .int (L 1)), (2, .int (L 2)), (3, .int (L 3))] → va_P g.1 classes (Sw shM g ad S) H → va_D A (Sw shM g ad S) → va_S A s.heap H locs → W p l e R s m args below meth c H locs cells slots Q (F0 m 4 ls [])) ∧ (∀ (S : sS) (L : Nat → Int32) (M : Nat → Int64) (ls : Array Slot) (H : Heap) (locs : List Loc), f_Mod_isNewParameter k9 2 S L M = some (r, S9) → lv_has ls 4 [(0, .ref (ad 0)), (1, .int (L 1)), (2, .int (L 2)), (3, .int (L 3))] → va_P g.1 classes (Sw shM g ad S) H → va_D A (Sw shM g ad S) → va_S A s.heap H locs → W p l e R s m args below meth c H locs cells slots Q (F0 m 36 ls [])) ∧ (∀ (S : sS) (L : Nat → Int32) (M : Nat → Int64) (ls : Array Slot) (H : Heap) (locs : List Loc), f_Mod_isNewParameter k9 3 S L M = some (r, S9) → lv_has ls 4 [(0, .ref (ad 0)), (1, .int (L 1)), (2, .int (L 2)), (3, .int (L 3))] → va_P g.1 classes (Sw shM g ad S) H → va_D A (Sw shM g ad S) → va_S A s.heap H locs → W p l e R s m args below meth c H locs cells slots Q (F0 m 41 ls [.int (L 100)])) := by
  intro k9
  induction k9 with
  | zero => exact ⟨(fun _ _ _ _ _ _ h => by simp [f_Mod_isNewParameter] at h), (fun _ _ _ _ _ _ h => by simp [f_Mod_isNewParameter] at h), (fun _ _ _ _ _ _ h => by simp [f_Mod_isNewParameter] at h), (fun _ _ _ _ _ _ h => by simp [f_Mod_isNewParameter] at h)⟩
  | succ k9 ih =>
    refine ⟨?_, ?_, ?_, ?_⟩
    · intro S L M ls H locs h hl hP hD hS
      simp only [f_Mod_isNewParameter] at h
      refine lv_iconst (v := 0) hx hb d_Mod_isNewParameter_0 (by decide) ?_
      refine lv_istore_n (lv' := [(2, .int 0), (0, .ref (ad 0)), (1, .int (L 1))]) hx hb d_Mod_isNewParameter_1 rfl hl (by decide) rfl (fun ls hl => ?_)
      refine lv_iconst (v := 0) hx hb d_Mod_isNewParameter_2 (by decide) ?_
      refine lv_istore_n (lv' := [(3, .int 0), (2, .int 0), (0, .ref (ad 0)), (1, .int (L 1))]) hx hb d_Mod_isNewParameter_3 rfl hl (by decide) rfl (fun ls hl => ?_)
      exact (ih.2.1) S (upd (upd L 2 (0 : Int32)) 3 (0 : Int32)) M ls H locs h (lv_sub hl [2, 3, 1, 0] rfl) hP hD hS
    · intro S L M ls H locs h hl hP hD hS
      simp only [f_Mod_isNewParameter] at h
      refine lv_iload_n hx hb d_Mod_isNewParameter_4 rfl (lv_at hl 3 rfl) ?_
      refine lv_aload_n hx hb d_Mod_isNewParameter_5 rfl (lv_at hl 0 rfl) ?_
      refine S_getI (h := shM) (C := "MacroMillModel") (T := F_Mod) hx hb htt in_Mod hown hK hP 0 122 rfl rfl rfl (by decide) (htt _ k_2358) (fun _ h9 => h9) d_Mod_isNewParameter_6 ?_
      refine lv_icmp_ge (tgt := 48) hx hb d_Mod_isNewParameter_9 (by decide) (fun hc1 => ?_) (fun hc1 => ?_)
      · rw [if_pos hc1] at h
        refine lv_iload_n hx hb d_Mod_isNewParameter_48 rfl (lv_at hl 2 rfl) ?_
        obtain ⟨hv2, h⟩ := chk h
        cases h
        exact kx_49 ls H locs (bz_n hv2) hP hD hS
      · rw [if_neg hc1] at h
        refine lv_iload_n hx hb d_Mod_isNewParameter_12 rfl (lv_at hl 2 rfl) ?_
        refine lv_if_ne (tgt := 36) hx hb d_Mod_isNewParameter_13 (by decide) (fun hc3 => ?_) (fun hc3 => ?_)
        · rw [if_neg hc3] at h
          exact (ih.2.2.1) S L M ls H locs h (lv_sub hl [0, 1, 2, 3] rfl) hP hD hS
        · rw [if_pos hc3] at h
          refine lv_aload_n hx hb d_Mod_isNewParameter_16 rfl (lv_at hl 0 rfl) ?_
          refine lv_iload_n hx hb d_Mod_isNewParameter_17 rfl (lv_at hl 1 rfl) ?_
          refine lv_aload_n hx hb d_Mod_isNewParameter_18 rfl (lv_at hl 0 rfl) ?_
          refine S_getR (h := shM) (C := "MacroMillModel") (T := F_Mod) hx hb htt in_Mod hown hK hP 0 124 rfl 66 rfl rfl (by decide) (htt _ k_2360) (fun _ h9 => h9) d_Mod_isNewParameter_19 ?_
          refine lv_iload_n hx hb d_Mod_isNewParameter_22 rfl (lv_at hl 3 rfl) ?_
          obtain ⟨hv4, h⟩ := chk h
          refine S_iald (h := shM) (i := L 3) hx hb hK hP 65 rfl (okI_in hv4) d_Mod_isNewParameter_23 ?_
          refine lv_aload_n hx hb d_Mod_isNewParameter_24 rfl (lv_at hl 0 rfl) ?_
          show W _ _ _ _ _ _ _ _ _ _ _ _ _ _ _ (F0 _ 25 _ _)
          refine S_getR (h := shM) (C := "MacroMillModel") (T := F_Mod) hx hb htt in_Mod hown hK hP 0 125 rfl 67 rfl rfl (by decide) (htt _ k_2361) (fun _ h9 => h9) d_Mod_isNewParameter_25 ?_
          refine lv_iload_n hx hb d_Mod_isNewParameter_28 rfl (lv_at hl 3 rfl) ?_
          obtain ⟨hv5, h⟩ := chk h
          refine S_iald (h := shM) (i := L 3) hx hb hK hP 66 rfl (okI_in hv5) d_Mod_isNewParameter_29 ?_
          obtain ⟨⟨r6, T6⟩, hq6, h⟩ := Option.bind_eq_some_iff.mp h
          try dsimp only at h
          refine go_iS (As := [.ref (ad 0), .int (L 1), .int (S.2.1 65 (L 3 : Int32).toNatClampNeg), .int (S.2.1 66 (L 3 : Int32).toNatClampNeg)]) (g := g) (A := A) (h := shM) hP hK hD hS hA hN (fun hp => va_runV (As := [.int (L 1), .int (S.2.1 65 (L 3 : Int32).toNatClampNeg), .int (S.2.1 66 (L 3 : Int32).toNatClampNeg)]) (rest := []) ⟨hx, hb, hml, hown, htt⟩ (t_Mod_isSpelledAs l g _ ad S (L 1 : Int32) (S.2.1 65 (L 3 : Int32).toNatClampNeg : Int32) (S.2.1 66 (L 3 : Int32).toNatClampNeg : Int32) k9 r6 T6 hq6) ⟨(cb_L htt k_3044 k_276 k_3041 hd_Mod_isSpelledAs ⟨(Nat.le_trans (by decide +kernel) hRf), (Nat.le_trans (by decide +kernel) hRl)⟩), htt _ k_3043, htt _ k_200⟩ ⟨hp.1, S_recv hK hP 0 rfl rfl, hp.2⟩ rfl rfl hl.1 rfl (lv_room (Nat.le_of_ble_eq_true rfl)) d_Mod_isNewParameter_30 ⟨hRc, hRs⟩) (fun r0 Sn H locs hw9 hP hD hS => ?_)
          obtain ⟨e9, e8⟩ := hw9
          rw [e8] at hP hD
          refine W.widen (k := cells) (n := slots) (Nat.le_refl _) (Nat.le_refl _) ?_
          refine toI (y := r6) e9 ?_
          refine lv_if_eq (tgt := 40) hx hb d_Mod_isNewParameter_33 (by decide) (fun hc7 => ?_) (fun hc7 => ?_)
          · rw [if_pos hc7] at h
            refine lv_iconst (v := 0) hx hb d_Mod_isNewParameter_40 (by decide) ?_
            exact (ih.2.2.2) T6 (upd L 100 (0 : Int32)) M ls H locs h (lv_sub hl [0, 1, 2, 3] rfl) hP hD hS
          · rw [if_neg hc7] at h
            exact (ih.2.2.1) T6 L M ls H locs h (lv_sub hl [0, 1, 2, 3] rfl) hP hD hS
    · intro S L M ls H locs h hl hP hD hS
      simp only [f_Mod_isNewParameter] at h
      refine lv_iconst (v := 1) hx hb d_Mod_isNewParameter_36 (by decide) ?_
      refine lv_goto (tgt := 41) hx hb d_Mod_isNewParameter_37 (by decide) ?_
      exact (ih.2.2.2) S (upd L 100 (1 : Int32)) M ls H locs h (lv_sub hl [0, 1, 2, 3] rfl) hP hD hS
    · intro S L M ls H locs h hl hP hD hS
      simp only [f_Mod_isNewParameter] at h
      refine lv_istore_n (lv' := [(2, .int (L 100)), (0, .ref (ad 0)), (1, .int (L 1)), (3, .int (L 3))]) hx hb d_Mod_isNewParameter_41 rfl hl (by decide) rfl (fun ls hl => ?_)
      refine lv_iinc (k := 3) (v := (L 3) + 1) (lv' := [(3, .int ((L 3) + 1)), (2, .int (L 100)), (0, .ref (ad 0)), (1, .int (L 1))]) hx hb d_Mod_isNewParameter_42 hl rfl rfl (by decide) rfl (fun ls hl => ?_)
      refine lv_goto (tgt := 4) hx hb d_Mod_isNewParameter_45 (by decide) ?_
      exact (ih.2.1) S (upd (upd L 2 (L 100)) 3 ((L 3) + 1)) M ls H locs h (lv_sub hl [2, 3, 1, 0] rfl) hP hD hS
abbrev rm_t_Mod_isNewParameter : Room := { frames := 1, cells := 0, slots := 0, locals := 25 }
theorem t_Mod_isNewParameter (l : Launch) (g : gG) (sz : Nat) (ad : Nat → Nat) (S : sS) (v1 : Int32) (k : Nat) (r : Int32) (S9 : sS) (h : f_Mod_isNewParameter k 0 S (upd (fun _ => 0) 1 v1) (fun _ => 0) = some (r, S9)) : Cz l y_Mod_isNewParameter b_Mod_isNewParameter 4 rm_t_Mod_isNewParameter g [.ref (ad 0), .int v1] (Sw shM g ad S) sz (fun r1 w => ∃ S1 : sS, w = Sw shM g ad S1 ∧ r1 = r ∧ S1 = S9) := by
  refine startZ (by decide) (Nat.le_of_ble_eq_true rfl) ?_
  intro p e s m below meth c A ls hx hb hr hml hlocks hmn hown htt hN hA hP hK hD hS hl
  exact (w_Mod_isNewParameter hx hb hml hown htt hK hN hA (by decide +kernel) (by decide +kernel) (by decide +kernel) (by decide +kernel) r S9 (fun ls H locs hz hP hD hS => fin_z (g := g) (ws := Sw shM g ad S9) hx hb hr hlocks hz (by decide +kernel) (by decide +kernel) hP hD hS ⟨_, rfl, rfl, rfl⟩ d_Mod_isNewParameter_49) k).1 S (upd (fun _ => 0) 1 v1) (fun _ => 0) ls _ _ h hl hP hD hS
def f_Mod_isNewNamed : Nat → Nat → sS → (Nat → Int32) → (Nat → Int64) → Option (Int32 × sS)
  | 0, _, _, _, _ => none
  | k + 1, 0, S, L, M => f_Mod_isNewNamed k 1 S (upd (upd L 2 (0 : Int32)) 3 (0 : Int32)) M
  | k + 1, 1, S, L, M => if (S.1 0 123) = (0 : Int32) then (f_Mod_isNewNamed k 2 S (upd (upd L 101 (S.1 0 122)) 100 (L 3)) M) else (f_Mod_isNewNamed k 2 S (upd (upd L 101 ((S.1 0 122) - (1 : Int32))) 100 (L 3)) M)
  | k + 1, 2, S, L, M => if (L 101) ≤ (L 100) then (if bz (L 2) = true then some (L 2, S) else none) else (if (L 2) = (0 : Int32) then (if okI (L 3) 31 = true then (if okI (L 3) 31 = true then ((f_Mod_isSpelledAs k 0 S (upd (upd (upd (fun _ => 0) 1 (L 1 : Int32)) 2 (S.2.1 65 (L 3 : Int32).toNatClampNeg : Int32)) 3 (S.2.1 66 (L 3 : Int32).toNatClampNeg : Int32)) (fun _ => 0)).bind (fun (r6, T6) => if r6 = (0 : Int32) then (f_Mod_isNewNamed k 4 T6 (upd L 100 (0 : Int32)) M) else (f_Mod_isNewNamed k 3 T6 L M))) else none) else none) else (f_Mod_isNewNamed k 3 S L M))
  | k + 1, 3, S, L, M => f_Mod_isNewNamed k 4 S (upd L 100 (1 : Int32)) M
  | k + 1, 4, S, L, M => f_Mod_isNewNamed k 1 S (upd (upd L 2 (L 100)) 3 ((L 3) + 1)) M
  | _ + 1, _ + 5, _, _, _ => none
set_option maxHeartbeats 8000000 in
set_option maxRecDepth 100000 in
theorem w_Mod_isNewNamed {p : Program} {l : Launch} {e : Env} {R : Room} {s : State} {m : MethodId} {args : Array Value} {below : List Frame} {meth : Method} {c : Code} {cells slots : Nat} {Q : State → Prop} {g : gG} {A : Nat → Prop} {ad : Nat → Nat} (hx : p.tables.exec = Jvm.exec) (hb : c.code = b_Mod_isNewNamed) (hml : c.maxLocals = 4) (hown : s.vm.findClass "MacroMillModel" = some m.cls) (htt : ∀ w ∈ gt, w.before args s = true) (hK : va_K g.1 classes (tysG g) s) (hN : nw s) (hA : ∀ q : Nat, s.heap.size ≤ q → A q) (hRf : 1 ≤ R.frames) (hRl : 25 ≤ R.locals) (hRc : cells ≤ R.cells) (hRs : slots ≤ R.slots) (r : Int32) (S9 : sS)
    (kx_65 : ∀ (ls : Array Slot) (H : Heap) (locs : List Loc), narrow .boolean (.int r) = .int r → va_P g.1 classes (Sw shM g ad S9) H → va_D A (Sw shM g ad S9) → va_S A s.heap H locs → W p l e R s m args below meth c H locs cells slots Q (F0 m 65 ls [.int r])) :
    ∀ k9 : Nat, (∀ (S : sS) (L : Nat → Int32) (M : Nat → Int64) (ls : Array Slot) (H : Heap) (locs : List Loc), f_Mod_isNewNamed k9 0 S L M = some (r, S9) → lv_has ls 4 [(0, .ref (ad 0)), (1, .int (L 1))] → va_P g.1 classes (Sw shM g ad S) H → va_D A (Sw shM g ad S) → va_S A s.heap H locs → W p l e R s m args below meth c H locs cells slots Q (F0 m 0 ls [])) ∧ (∀ (S : sS) (L : Nat → Int32) (M : Nat → Int64) (ls : Array Slot) (H : Heap) (locs : List Loc), f_Mod_isNewNamed k9 1 S L M = some (r, S9) → lv_has ls 4 [(0, .ref (ad 0)), (1, .int (L 1)), (2, .int (L 2)), (3, .int (L 3))] → va_P g.1 classes (Sw shM g ad S) H → va_D A (Sw shM g ad S) → va_S A s.heap H locs → W p l e R s m args below meth c H locs cells slots Q (F0 m 4 ls [])) ∧ (∀ (S : sS) (L : Nat → Int32) (M : Nat → Int64) (ls : Array Slot) (H : Heap) (locs : List Loc), f_Mod_isNewNamed k9 2 S L M = some (r, S9) → lv_has ls 4 [(0, .ref (ad 0)), (1, .int (L 1)), (2, .int (L 2)), (3, .int (L 3))] → va_P g.1 classes (Sw shM g ad S) H → va_D A (Sw shM g ad S) → va_S A s.heap H locs → W p l e R s m args below meth c H locs cells slots Q (F0 m 25 ls [.int (L 101), .int (L 100)])) ∧ (∀ (S : sS) (L : Nat → Int32) (M : Nat → Int64) (ls : Array Slot) (H : Heap) (locs : List Loc), f_Mod_isNewNamed k9 3 S L M = some (r, S9) → lv_has ls 4 [(0, .ref (ad 0)), (1, .int (L 1)), (2, .int (L 2)), (3, .int (L 3))] → va_P g.1 classes (Sw shM g ad S) H → va_D A (Sw shM g ad S) → va_S A s.heap H locs → W p l e R s m args below meth c H locs cells slots Q (F0 m 52 ls [])) ∧ (∀ (S : sS) (L : Nat → Int32) (M : Nat → Int64) (ls : Array Slot) (H : Heap) (locs : List Loc), f_Mod_isNewNamed k9 4 S L M = some (r, S9) → lv_has ls 4 [(0, .ref (ad 0)), (1, .int (L 1)), (2, .int (L 2)), (3, .int (L 3))] → va_P g.1 classes (Sw shM g ad S) H → va_D A (Sw shM g ad S) → va_S A s.heap H locs → W p l e R s m args below meth c H locs cells slots Q (F0 m 57 ls [.int (L 100)])) := by
  intro k9
  induction k9 with
  | zero => exact ⟨(fun _ _ _ _ _ _ h => by simp [f_Mod_isNewNamed] at h), (fun _ _ _ _ _ _ h => by simp [f_Mod_isNewNamed] at h), (fun _ _ _ _ _ _ h => by simp [f_Mod_isNewNamed] at h), (fun _ _ _ _ _ _ h => by simp [f_Mod_isNewNamed] at h), (fun _ _ _ _ _ _ h => by simp [f_Mod_isNewNamed] at h)⟩
  | succ k9 ih =>
    refine ⟨?_, ?_, ?_, ?_, ?_⟩
    · intro S L M ls H locs h hl hP hD hS
      simp only [f_Mod_isNewNamed] at h
      refine lv_iconst (v := 0) hx hb d_Mod_isNewNamed_0 (by decide) ?_
      refine lv_istore_n (lv' := [(2, .int 0), (0, .ref (ad 0)), (1, .int (L 1))]) hx hb d_Mod_isNewNamed_1 rfl hl (by decide) rfl (fun ls hl => ?_)
      refine lv_iconst (v := 0) hx hb d_Mod_isNewNamed_2 (by decide) ?_
      refine lv_istore_n (lv' := [(3, .int 0), (2, .int 0), (0, .ref (ad 0)), (1, .int (L 1))]) hx hb d_Mod_isNewNamed_3 rfl hl (by decide) rfl (fun ls hl => ?_)
      exact (ih.2.1) S (upd (upd L 2 (0 : Int32)) 3 (0 : Int32)) M ls H locs h (lv_sub hl [2, 3, 1, 0] rfl) hP hD hS
    · intro S L M ls H locs h hl hP hD hS
      simp only [f_Mod_isNewNamed] at h
      refine lv_iload_n hx hb d_Mod_isNewNamed_4 rfl (lv_at hl 3 rfl) ?_
      refine lv_aload_n hx hb d_Mod_isNewNamed_5 rfl (lv_at hl 0 rfl) ?_
      refine S_getI (h := shM) (C := "MacroMillModel") (T := F_Mod) hx hb htt in_Mod hown hK hP 0 123 rfl rfl rfl (by decide) (htt _ k_2359) (fun _ h9 => h9) d_Mod_isNewNamed_6 ?_
      refine lv_if_eq (tgt := 21) hx hb d_Mod_isNewNamed_9 (by decide) (fun hc1 => ?_) (fun hc1 => ?_)
      · rw [if_pos hc1] at h
        refine lv_aload_n hx hb d_Mod_isNewNamed_21 rfl (lv_at hl 0 rfl) ?_
        refine S_getI (h := shM) (C := "MacroMillModel") (T := F_Mod) hx hb htt in_Mod hown hK hP 0 122 rfl rfl rfl (by decide) (htt _ k_2358) (fun _ h9 => h9) d_Mod_isNewNamed_22 ?_
        exact (ih.2.2.1) S (upd (upd L 101 (S.1 0 122)) 100 (L 3)) M ls H locs h (lv_sub hl [0, 1, 2, 3] rfl) hP hD hS
      · rw [if_neg hc1] at h
        refine lv_aload_n hx hb d_Mod_isNewNamed_12 rfl (lv_at hl 0 rfl) ?_
        refine S_getI (h := shM) (C := "MacroMillModel") (T := F_Mod) hx hb htt in_Mod hown hK hP 0 122 rfl rfl rfl (by decide) (htt _ k_2358) (fun _ h9 => h9) d_Mod_isNewNamed_13 ?_
        refine lv_iconst (v := 1) hx hb d_Mod_isNewNamed_16 (by decide) ?_
        refine lv_isub hx hb d_Mod_isNewNamed_17 ?_
        refine lv_goto (tgt := 25) hx hb d_Mod_isNewNamed_18 (by decide) ?_
        exact (ih.2.2.1) S (upd (upd L 101 ((S.1 0 122) - (1 : Int32))) 100 (L 3)) M ls H locs h (lv_sub hl [0, 1, 2, 3] rfl) hP hD hS
    · intro S L M ls H locs h hl hP hD hS
      simp only [f_Mod_isNewNamed] at h
      refine lv_icmp_ge (tgt := 64) hx hb d_Mod_isNewNamed_25 (by decide) (fun hc1 => ?_) (fun hc1 => ?_)
      · rw [if_pos hc1] at h
        refine lv_iload_n hx hb d_Mod_isNewNamed_64 rfl (lv_at hl 2 rfl) ?_
        obtain ⟨hv2, h⟩ := chk h
        cases h
        exact kx_65 ls H locs (bz_n hv2) hP hD hS
      · rw [if_neg hc1] at h
        refine lv_iload_n hx hb d_Mod_isNewNamed_28 rfl (lv_at hl 2 rfl) ?_
        refine lv_if_ne (tgt := 52) hx hb d_Mod_isNewNamed_29 (by decide) (fun hc3 => ?_) (fun hc3 => ?_)
        · rw [if_neg hc3] at h
          exact (ih.2.2.2.1) S L M ls H locs h (lv_sub hl [0, 1, 2, 3] rfl) hP hD hS
        · rw [if_pos hc3] at h
          refine lv_aload_n hx hb d_Mod_isNewNamed_32 rfl (lv_at hl 0 rfl) ?_
          refine lv_iload_n hx hb d_Mod_isNewNamed_33 rfl (lv_at hl 1 rfl) ?_
          refine lv_aload_n hx hb d_Mod_isNewNamed_34 rfl (lv_at hl 0 rfl) ?_
          refine S_getR (h := shM) (C := "MacroMillModel") (T := F_Mod) hx hb htt in_Mod hown hK hP 0 124 rfl 66 rfl rfl (by decide) (htt _ k_2360) (fun _ h9 => h9) d_Mod_isNewNamed_35 ?_
          refine lv_iload_n hx hb d_Mod_isNewNamed_38 rfl (lv_at hl 3 rfl) ?_
          obtain ⟨hv4, h⟩ := chk h
          refine S_iald (h := shM) (i := L 3) hx hb hK hP 65 rfl (okI_in hv4) d_Mod_isNewNamed_39 ?_
          refine lv_aload_n hx hb d_Mod_isNewNamed_40 rfl (lv_at hl 0 rfl) ?_
          refine S_getR (h := shM) (C := "MacroMillModel") (T := F_Mod) hx hb htt in_Mod hown hK hP 0 125 rfl 67 rfl rfl (by decide) (htt _ k_2361) (fun _ h9 => h9) d_Mod_isNewNamed_41 ?_
          refine lv_iload_n hx hb d_Mod_isNewNamed_44 rfl (lv_at hl 3 rfl) ?_
          obtain ⟨hv5, h⟩ := chk h
          refine S_iald (h := shM) (i := L 3) hx hb hK hP 66 rfl (okI_in hv5) d_Mod_isNewNamed_45 ?_
          obtain ⟨⟨r6, T6⟩, hq6, h⟩ := Option.bind_eq_some_iff.mp h
          try dsimp only at h
          refine go_iS (As := [.ref (ad 0), .int (L 1), .int (S.2.1 65 (L 3 : Int32).toNatClampNeg), .int (S.2.1 66 (L 3 : Int32).toNatClampNeg)]) (g := g) (A := A) (h := shM) hP hK hD hS hA hN (fun hp => va_runV (As := [.int (L 1), .int (S.2.1 65 (L 3 : Int32).toNatClampNeg), .int (S.2.1 66 (L 3 : Int32).toNatClampNeg)]) (rest := []) ⟨hx, hb, hml, hown, htt⟩ (t_Mod_isSpelledAs l g _ ad S (L 1 : Int32) (S.2.1 65 (L 3 : Int32).toNatClampNeg : Int32) (S.2.1 66 (L 3 : Int32).toNatClampNeg : Int32) k9 r6 T6 hq6) ⟨(cb_L htt k_3044 k_276 k_3041 hd_Mod_isSpelledAs ⟨(Nat.le_trans (by decide +kernel) hRf), (Nat.le_trans (by decide +kernel) hRl)⟩), htt _ k_3043, htt _ k_200⟩ ⟨hp.1, S_recv hK hP 0 rfl rfl, hp.2⟩ rfl rfl hl.1 rfl (lv_room (Nat.le_of_ble_eq_true rfl)) d_Mod_isNewNamed_46 ⟨hRc, hRs⟩) (fun r0 Sn H locs hw9 hP hD hS => ?_)
          obtain ⟨e9, e8⟩ := hw9
          rw [e8] at hP hD
          refine W.widen (k := cells) (n := slots) (Nat.le_refl _) (Nat.le_refl _) ?_
          refine toI (y := r6) e9 ?_
          refine lv_if_eq (tgt := 56) hx hb d_Mod_isNewNamed_49 (by decide) (fun hc7 => ?_) (fun hc7 => ?_)
          · rw [if_pos hc7] at h
            show W _ _ _ _ _ _ _ _ _ _ _ _ _ _ _ (F0 _ 56 _ _)
            refine lv_iconst (v := 0) hx hb d_Mod_isNewNamed_56 (by decide) ?_
            exact (ih.2.2.2.2) T6 (upd L 100 (0 : Int32)) M ls H locs h (lv_sub hl [0, 1, 2, 3] rfl) hP hD hS
          · rw [if_neg hc7] at h
            exact (ih.2.2.2.1) T6 L M ls H locs h (lv_sub hl [0, 1, 2, 3] rfl) hP hD hS
    · intro S L M ls H locs h hl hP hD hS
      simp only [f_Mod_isNewNamed] at h
      refine lv_iconst (v := 1) hx hb d_Mod_isNewNamed_52 (by decide) ?_
      refine lv_goto (tgt := 57) hx hb d_Mod_isNewNamed_53 (by decide) ?_
      exact (ih.2.2.2.2) S (upd L 100 (1 : Int32)) M ls H locs h (lv_sub hl [0, 1, 2, 3] rfl) hP hD hS
    · intro S L M ls H locs h hl hP hD hS
      simp only [f_Mod_isNewNamed] at h
      refine lv_istore_n (lv' := [(2, .int (L 100)), (0, .ref (ad 0)), (1, .int (L 1)), (3, .int (L 3))]) hx hb d_Mod_isNewNamed_57 rfl hl (by decide) rfl (fun ls hl => ?_)
      refine lv_iinc (k := 3) (v := (L 3) + 1) (lv' := [(3, .int ((L 3) + 1)), (2, .int (L 100)), (0, .ref (ad 0)), (1, .int (L 1))]) hx hb d_Mod_isNewNamed_58 hl rfl rfl (by decide) rfl (fun ls hl => ?_)
      refine lv_goto (tgt := 4) hx hb d_Mod_isNewNamed_61 (by decide) ?_
      exact (ih.2.1) S (upd (upd L 2 (L 100)) 3 ((L 3) + 1)) M ls H locs h (lv_sub hl [2, 3, 1, 0] rfl) hP hD hS
abbrev rm_t_Mod_isNewNamed : Room := { frames := 1, cells := 0, slots := 0, locals := 25 }
theorem t_Mod_isNewNamed (l : Launch) (g : gG) (sz : Nat) (ad : Nat → Nat) (S : sS) (v1 : Int32) (k : Nat) (r : Int32) (S9 : sS) (h : f_Mod_isNewNamed k 0 S (upd (fun _ => 0) 1 v1) (fun _ => 0) = some (r, S9)) : Cz l y_Mod_isNewNamed b_Mod_isNewNamed 4 rm_t_Mod_isNewNamed g [.ref (ad 0), .int v1] (Sw shM g ad S) sz (fun r1 w => ∃ S1 : sS, w = Sw shM g ad S1 ∧ r1 = r ∧ S1 = S9) := by
  refine startZ (by decide) (Nat.le_of_ble_eq_true rfl) ?_
  intro p e s m below meth c A ls hx hb hr hml hlocks hmn hown htt hN hA hP hK hD hS hl
  exact (w_Mod_isNewNamed hx hb hml hown htt hK hN hA (by decide +kernel) (by decide +kernel) (by decide +kernel) (by decide +kernel) r S9 (fun ls H locs hz hP hD hS => fin_z (g := g) (ws := Sw shM g ad S9) hx hb hr hlocks hz (by decide +kernel) (by decide +kernel) hP hD hS ⟨_, rfl, rfl, rfl⟩ d_Mod_isNewNamed_65) k).1 S (upd (fun _ => 0) 1 v1) (fun _ => 0) ls _ _ h hl hP hD hS
