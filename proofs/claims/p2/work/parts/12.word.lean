/-- a step of word: one byte more -/
def wstep (f : Nat → Int32) (n p : Nat) (w : Int64) : Int64 := (w <<< ((8 : Int32).toInt64 &&& 63)) ||| (if p < n then f p &&& 255 else 0).toInt64
/-- what word becomes of w when the bytes t - 1 .. 0 of its eight are still to come -/
def wordD (f : Nat → Int32) (n j : Nat) : Nat → Int64 → Int64
  | 0, w => w
  | t + 1, w => wordD f n j t (wstep f n (8 * j + t) w)
theorem nI_pred2 {t : Nat} (h : 1 ≤ t) : nI t - 1 = nI (t - 1) := by
  obtain ⟨k, rfl⟩ : ∃ k, t = k + 1 := ⟨t - 1, by omega⟩
  exact nI_pred k
theorem nI_m1_lt {t : Nat} (ht : t ≤ 8) (h : nI t - 1 < 0) : t = 0 := by
  rcases (show t = 0 ∨ 1 ≤ t by omega) with rfl | h1
  · rfl
  · rw [nI_pred2 h1] at h
    exact absurd h (nI_pos (by omega))
theorem nI_m1_ge {t : Nat} (h : ¬ nI t - 1 < 0) : 1 ≤ t := by
  rcases (show t = 0 ∨ 1 ≤ t by omega) with rfl | h1
  · exact absurd (by decide) h
  · exact h1
theorem nI_m1_next {t : Nat} (h : 1 ≤ t) : nI t - 1 + Int32.ofInt (-1) = nI (t - 1) - 1 := by
  rw [show Int32.ofInt (-1) = -1 by decide, nI_pred2 h, Int32.sub_eq_add_neg]
theorem wordD_step {f : Nat → Int32} {n j t : Nat} {w r : Int64} (h : 1 ≤ t) (hw : wordD f n j t w = r) : wordD f n j (t - 1) (wstep f n (8 * j + (t - 1)) w) = r := by
  obtain ⟨k, rfl⟩ : ∃ k, t = k + 1 := ⟨t - 1, by omega⟩
  exact hw

theorem d_MM_word_0 : decode b_MM_word 0 = .ok (.iload_n 1, 1) := by decide +kernel
theorem d_MM_word_1 : decode b_MM_word 1 = .ok (.ifCond .lt 17, 3) := by decide +kernel
theorem d_MM_word_4 : decode b_MM_word 4 = .ok (.iload_n 1, 1) := by decide +kernel
theorem d_MM_word_5 : decode b_MM_word 5 = .ok (.aload_n 0, 1) := by decide +kernel
theorem d_MM_word_6 : decode b_MM_word 6 = .ok (.getfield 23, 3) := by decide +kernel
theorem d_MM_word_9 : decode b_MM_word 9 = .ok (.getfield 101, 3) := by decide +kernel
theorem d_MM_word_12 : decode b_MM_word 12 = .ok (.bipush 8, 2) := by decide +kernel
theorem d_MM_word_14 : decode b_MM_word 14 = .ok (.idiv, 1) := by decide +kernel
theorem d_MM_word_15 : decode b_MM_word 15 = .ok (.if_icmp .le 5, 3) := by decide +kernel
theorem d_MM_word_18 : decode b_MM_word 18 = .ok (.lconst 0, 1) := by decide +kernel
theorem d_MM_word_19 : decode b_MM_word 19 = .ok (.lreturn, 1) := by decide +kernel
theorem d_MM_word_20 : decode b_MM_word 20 = .ok (.lconst 0, 1) := by decide +kernel
theorem d_MM_word_21 : decode b_MM_word 21 = .ok (.lstore_n 2, 1) := by decide +kernel
theorem d_MM_word_22 : decode b_MM_word 22 = .ok (.bipush 7, 2) := by decide +kernel
theorem d_MM_word_24 : decode b_MM_word 24 = .ok (.istore 4, 2) := by decide +kernel
theorem d_MM_word_26 : decode b_MM_word 26 = .ok (.iload 4, 2) := by decide +kernel
theorem d_MM_word_28 : decode b_MM_word 28 = .ok (.ifCond .lt 55, 3) := by decide +kernel
theorem d_MM_word_31 : decode b_MM_word 31 = .ok (.bipush 8, 2) := by decide +kernel
theorem d_MM_word_33 : decode b_MM_word 33 = .ok (.iload_n 1, 1) := by decide +kernel
theorem d_MM_word_34 : decode b_MM_word 34 = .ok (.imul, 1) := by decide +kernel
theorem d_MM_word_35 : decode b_MM_word 35 = .ok (.iload 4, 2) := by decide +kernel
theorem d_MM_word_37 : decode b_MM_word 37 = .ok (.iadd, 1) := by decide +kernel
theorem d_MM_word_38 : decode b_MM_word 38 = .ok (.istore 5, 2) := by decide +kernel
theorem d_MM_word_40 : decode b_MM_word 40 = .ok (.lload_n 2, 1) := by decide +kernel
theorem d_MM_word_41 : decode b_MM_word 41 = .ok (.bipush 8, 2) := by decide +kernel
theorem d_MM_word_43 : decode b_MM_word 43 = .ok (.lshl, 1) := by decide +kernel
theorem d_MM_word_44 : decode b_MM_word 44 = .ok (.iload 5, 2) := by decide +kernel
theorem d_MM_word_46 : decode b_MM_word 46 = .ok (.aload_n 0, 1) := by decide +kernel
theorem d_MM_word_47 : decode b_MM_word 47 = .ok (.getfield 23, 3) := by decide +kernel
theorem d_MM_word_50 : decode b_MM_word 50 = .ok (.getfield 101, 3) := by decide +kernel
theorem d_MM_word_53 : decode b_MM_word 53 = .ok (.if_icmp .ge 20, 3) := by decide +kernel
theorem d_MM_word_56 : decode b_MM_word 56 = .ok (.aload_n 0, 1) := by decide +kernel
theorem d_MM_word_57 : decode b_MM_word 57 = .ok (.getfield 23, 3) := by decide +kernel
theorem d_MM_word_60 : decode b_MM_word 60 = .ok (.getfield 134, 3) := by decide +kernel
theorem d_MM_word_63 : decode b_MM_word 63 = .ok (.iload 5, 2) := by decide +kernel
theorem d_MM_word_65 : decode b_MM_word 65 = .ok (.baload, 1) := by decide +kernel
theorem d_MM_word_66 : decode b_MM_word 66 = .ok (.sipush 255, 3) := by decide +kernel
theorem d_MM_word_69 : decode b_MM_word 69 = .ok (.iand, 1) := by decide +kernel
theorem d_MM_word_70 : decode b_MM_word 70 = .ok (.goto 4, 3) := by decide +kernel
theorem d_MM_word_73 : decode b_MM_word 73 = .ok (.iconst 0, 1) := by decide +kernel
theorem d_MM_word_74 : decode b_MM_word 74 = .ok (.i2l, 1) := by decide +kernel
theorem d_MM_word_75 : decode b_MM_word 75 = .ok (.lor, 1) := by decide +kernel
theorem d_MM_word_76 : decode b_MM_word 76 = .ok (.lstore_n 2, 1) := by decide +kernel
theorem d_MM_word_77 : decode b_MM_word 77 = .ok (.iinc 4 (-1), 3) := by decide +kernel
theorem d_MM_word_80 : decode b_MM_word 80 = .ok (.goto (-54), 3) := by decide +kernel
theorem d_MM_word_83 : decode b_MM_word 83 = .ok (.lload_n 2, 1) := by decide +kernel
theorem d_MM_word_84 : decode b_MM_word 84 = .ok (.lreturn, 1) := by decide +kernel
theorem d_Mod_word_0 : decode b_Mod_word 0 = .ok (.lconst 0, 1) := by decide +kernel
theorem d_Mod_word_1 : decode b_Mod_word 1 = .ok (.lstore_n 2, 1) := by decide +kernel
theorem d_Mod_word_2 : decode b_Mod_word 2 = .ok (.bipush 7, 2) := by decide +kernel
theorem d_Mod_word_4 : decode b_Mod_word 4 = .ok (.istore 4, 2) := by decide +kernel
theorem d_Mod_word_6 : decode b_Mod_word 6 = .ok (.iload 4, 2) := by decide +kernel
theorem d_Mod_word_8 : decode b_Mod_word 8 = .ok (.ifCond .lt 61, 3) := by decide +kernel
theorem d_Mod_word_11 : decode b_Mod_word 11 = .ok (.iload_n 1, 1) := by decide +kernel
theorem d_Mod_word_12 : decode b_Mod_word 12 = .ok (.ifCond .lt 57, 3) := by decide +kernel
theorem d_Mod_word_15 : decode b_Mod_word 15 = .ok (.iload_n 1, 1) := by decide +kernel
theorem d_Mod_word_16 : decode b_Mod_word 16 = .ok (.sipush 8192, 3) := by decide +kernel
theorem d_Mod_word_19 : decode b_Mod_word 19 = .ok (.if_icmp .ge 50, 3) := by decide +kernel
theorem d_Mod_word_22 : decode b_Mod_word 22 = .ok (.lload_n 2, 1) := by decide +kernel
theorem d_Mod_word_23 : decode b_Mod_word 23 = .ok (.bipush 8, 2) := by decide +kernel
theorem d_Mod_word_25 : decode b_Mod_word 25 = .ok (.lshl, 1) := by decide +kernel
theorem d_Mod_word_26 : decode b_Mod_word 26 = .ok (.bipush 8, 2) := by decide +kernel
theorem d_Mod_word_28 : decode b_Mod_word 28 = .ok (.iload_n 1, 1) := by decide +kernel
theorem d_Mod_word_29 : decode b_Mod_word 29 = .ok (.imul, 1) := by decide +kernel
theorem d_Mod_word_30 : decode b_Mod_word 30 = .ok (.iload 4, 2) := by decide +kernel
theorem d_Mod_word_32 : decode b_Mod_word 32 = .ok (.iadd, 1) := by decide +kernel
theorem d_Mod_word_33 : decode b_Mod_word 33 = .ok (.aload_n 0, 1) := by decide +kernel
theorem d_Mod_word_34 : decode b_Mod_word 34 = .ok (.getfield 700, 3) := by decide +kernel
theorem d_Mod_word_37 : decode b_Mod_word 37 = .ok (.if_icmp .ge 22, 3) := by decide +kernel
theorem d_Mod_word_40 : decode b_Mod_word 40 = .ok (.aload_n 0, 1) := by decide +kernel
theorem d_Mod_word_41 : decode b_Mod_word 41 = .ok (.getfield 31, 3) := by decide +kernel
theorem d_Mod_word_44 : decode b_Mod_word 44 = .ok (.bipush 8, 2) := by decide +kernel
theorem d_Mod_word_46 : decode b_Mod_word 46 = .ok (.iload_n 1, 1) := by decide +kernel
theorem d_Mod_word_47 : decode b_Mod_word 47 = .ok (.imul, 1) := by decide +kernel
theorem d_Mod_word_48 : decode b_Mod_word 48 = .ok (.iload 4, 2) := by decide +kernel
theorem d_Mod_word_50 : decode b_Mod_word 50 = .ok (.iadd, 1) := by decide +kernel
theorem d_Mod_word_51 : decode b_Mod_word 51 = .ok (.baload, 1) := by decide +kernel
theorem d_Mod_word_52 : decode b_Mod_word 52 = .ok (.sipush 255, 3) := by decide +kernel
theorem d_Mod_word_55 : decode b_Mod_word 55 = .ok (.iand, 1) := by decide +kernel
theorem d_Mod_word_56 : decode b_Mod_word 56 = .ok (.goto 4, 3) := by decide +kernel
theorem d_Mod_word_59 : decode b_Mod_word 59 = .ok (.iconst 0, 1) := by decide +kernel
theorem d_Mod_word_60 : decode b_Mod_word 60 = .ok (.i2l, 1) := by decide +kernel
theorem d_Mod_word_61 : decode b_Mod_word 61 = .ok (.lor, 1) := by decide +kernel
theorem d_Mod_word_62 : decode b_Mod_word 62 = .ok (.lstore_n 2, 1) := by decide +kernel
theorem d_Mod_word_63 : decode b_Mod_word 63 = .ok (.iinc 4 (-1), 3) := by decide +kernel
theorem d_Mod_word_66 : decode b_Mod_word 66 = .ok (.goto (-60), 3) := by decide +kernel
theorem d_Mod_word_69 : decode b_Mod_word 69 = .ok (.lload_n 2, 1) := by decide +kernel
theorem d_Mod_word_70 : decode b_Mod_word 70 = .ok (.lreturn, 1) := by decide +kernel
set_option maxHeartbeats 4000000 in
set_option maxRecDepth 100000 in
theorem c_word_loop {p : Program} {l : Launch} {e : Env} {R : Room} {s : State} {m : MethodId} {args : Array Value} {below : List Frame} {meth : Method} {c : Code} {cells slots : Nat} {Q : State → Prop} {g : gG} {A : Nat → Prop} {ad : Nat → Nat} (hx : p.tables.exec = Jvm.exec) (hb : c.code = b_MM_word) (hml : c.maxLocals = 6) (hown : s.vm.findClass "MacroMill" = some m.cls) (htt : ∀ w ∈ gt, w.before args s = true) (hK : va_K g.1 classes (tysG g) s) (hN : nw s) (hA : ∀ q : Nat, s.heap.size ≤ q → A q) (S : sS) (n : Nat) (j : Nat) (r0 : Int64)
    (kx_83 : ∀ (t : Nat) (w : Int64) (ls : Array Slot) (H : Heap) (locs : List Loc), S.1 2 1 = nI n → n ≤ 65536 → j < 8193 → t ≤ 8 → wordD (S.2.1 5) n j t w = r0 → w = r0 →  lv_has ls 6 [(4, .int (nI t - 1)), (2, .long w), (0, .ref (ad 0)), (1, .int (nI j))] → va_P g.1 classes (Sw shC g ad S) H → va_D A (Sw shC g ad S) → va_S A s.heap H locs → W p l e R s m args below meth c H locs cells slots Q (F0 m 83 ls [])) :
    ∀ (k9 : Nat) (t : Nat) (w : Int64) (ls : Array Slot) (H : Heap) (locs : List Loc), t < k9 → S.1 2 1 = nI n → n ≤ 65536 → j < 8193 → t ≤ 8 → wordD (S.2.1 5) n j t w = r0 → lv_has ls 6 [(4, .int (nI t - 1)), (2, .long w), (0, .ref (ad 0)), (1, .int (nI j))] → va_P g.1 classes (Sw shC g ad S) H → va_D A (Sw shC g ad S) → va_S A s.heap H locs → W p l e R s m args below meth c H locs cells slots Q (F0 m 26 ls []) := by
  intro k9
  induction k9 with
  | zero =>
    intro t w ls H locs hk9 hz hn hj ht hw hl hP hD hS
    exact absurd hk9 (Nat.not_lt_zero _)
  | succ k9 ih =>
    intro t w ls H locs hk9 hz hn hj ht hw hl hP hD hS
    refine lv_iload hx hb d_MM_word_26 (lv_at hl 0 rfl) ?_
    refine lv_if_lt (tgt := 83) hx hb d_MM_word_28 (by decide) (fun h1 => ?_) (fun h1 => ?_)
    · exact kx_83 t w ls H locs hz hn hj ht hw (by have h5 := nI_m1_lt ht h1; subst h5; exact hw) (lv_sub hl [0, 1, 2, 3] rfl) hP hD hS
    · have ht1 : 1 ≤ t := nI_m1_ge h1
      refine lv_bipush (v := 8) hx hb d_MM_word_31 (by decide) ?_
      refine lv_iload_n hx hb d_MM_word_33 rfl (lv_at hl 3 rfl) ?_
      refine lv_imul hx hb d_MM_word_34 ?_
      refine toI (y := nI (8 * j)) (pk_mul 8 j) ?_
      refine lv_iload hx hb d_MM_word_35 (lv_at hl 0 rfl) ?_
      refine toI (y := nI (t - 1)) (nI_pred2 ht1) ?_
      refine lv_iadd hx hb d_MM_word_37 ?_
      refine toI (y := nI (8 * j + (t - 1))) (nI_add (8 * j) (t - 1)) ?_
      refine lv_istore (lv' := [(5, .int (nI (8 * j + (t - 1)))), (4, .int (nI t - 1)), (2, .long w), (0, .ref (ad 0)), (1, .int (nI j))]) hx hb d_MM_word_38 hl (by decide) rfl (fun ls hl => ?_)
      refine lv_lload_n hx hb d_MM_word_40 rfl (lv_at hl 2 rfl) ?_
      refine lv_bipush (v := 8) hx hb d_MM_word_41 (by decide) ?_
      refine lv_lshl (v := w <<< ((8 : Int32).toInt64 &&& 63)) hx hb d_MM_word_43 rfl ?_
      show W _ _ _ _ _ _ _ _ _ _ _ _ _ _ _ (F0 _ 44 _ _)
      refine lv_iload hx hb d_MM_word_44 (lv_at hl 0 rfl) ?_
      refine lv_aload_n hx hb d_MM_word_46 rfl (lv_at hl 3 rfl) ?_
      refine S_getR (h := shC) (C := "MacroMill") (T := F_MM) hx hb htt in_MM hown hK hP 0 4 rfl 2 rfl rfl (by decide) (htt _ k_968) (fun _ h9 => h9) d_MM_word_47 ?_
      refine S_getI (h := shC) (C := "MacroMill$Outcome") (T := F_Outcome) hx hb htt in_Outcome hown hK hP 2 1 rfl rfl rfl (by decide) (htt _ k_341) (fun _ h9 => h9) d_MM_word_50 ?_
      refine toI (y := nI n) hz ?_
      refine lv_icmp_ge (tgt := 73) hx hb d_MM_word_53 (by decide) (fun h2 => ?_) (fun h2 => ?_)
      · have h4 := nI_le_of (by omega) (by omega) h2
        refine lv_iconst (v := 0) hx hb d_MM_word_73 (by decide) ?_
        refine lv_i2l (v := 0) hx hb d_MM_word_74 (by decide) ?_
        refine lv_lor hx hb d_MM_word_75 ?_
        refine toL (y := wstep (S.2.1 5) n (8 * j + (t - 1)) w) (by unfold wstep; rw [if_neg (by omega)]; rfl) ?_
        refine lv_lstore_n (lv' := [(2, .long (wstep (S.2.1 5) n (8 * j + (t - 1)) w)), (5, .int (nI (8 * j + (t - 1)))), (4, .int (nI t - 1)), (0, .ref (ad 0)), (1, .int (nI j))]) hx hb d_MM_word_76 rfl hl (by decide) rfl (fun ls hl => ?_)
        refine lv_iinc (k := 2) (v := nI (t - 1) - 1) (lv' := [(4, .int (nI (t - 1) - 1)), (2, .long (wstep (S.2.1 5) n (8 * j + (t - 1)) w)), (5, .int (nI (8 * j + (t - 1)))), (0, .ref (ad 0)), (1, .int (nI j))]) hx hb d_MM_word_77 hl rfl (nI_m1_next ht1) (by decide) rfl (fun ls hl => ?_)
        refine lv_goto (tgt := 26) hx hb d_MM_word_80 (by decide) ?_
        exact ih (t - 1) (wstep (S.2.1 5) n (8 * j + (t - 1)) w) ls H locs (by omega) hz hn hj (by omega) (wordD_step ht1 hw) (lv_sub hl [0, 1, 3, 4] rfl) hP hD hS
      · have h4 := nI_lt_of (by omega) (by omega) h2
        refine lv_aload_n hx hb d_MM_word_56 rfl (lv_at hl 3 rfl) ?_
        refine S_getR (h := shC) (C := "MacroMill") (T := F_MM) hx hb htt in_MM hown hK hP 0 4 rfl 2 rfl rfl (by decide) (htt _ k_968) (fun _ h9 => h9) d_MM_word_57 ?_
        refine S_getR (h := shC) (C := "MacroMill$Outcome") (T := F_Outcome) hx hb htt in_Outcome hown hK hP 2 0 rfl 18 rfl rfl (by decide) (htt _ k_336) (fun _ h9 => h9) d_MM_word_60 ?_
        refine lv_iload hx hb d_MM_word_63 (lv_at hl 0 rfl) ?_
        refine S_bald (h := shC) (i := nI (8 * j + (t - 1))) hx hb hK hP 5 rfl (vp_in_nI (by omega) (by decide)) d_MM_word_65 ?_
        refine toI (y := S.2.1 5 (8 * j + (t - 1))) (by rw [nI_clamp (by omega)]) ?_
        refine lv_sipush (v := 255) hx hb d_MM_word_66 (by decide) ?_
        refine lv_iand hx hb d_MM_word_69 ?_
        show W _ _ _ _ _ _ _ _ _ _ _ _ _ _ _ (F0 _ 70 _ _)
        refine lv_goto (tgt := 74) hx hb d_MM_word_70 (by decide) ?_
        refine lv_i2l (v := ((S.2.1 5 (8 * j + (t - 1))) &&& 255).toInt64) hx hb d_MM_word_74 rfl ?_
        refine lv_lor hx hb d_MM_word_75 ?_
        refine toL (y := wstep (S.2.1 5) n (8 * j + (t - 1)) w) (by unfold wstep; rw [if_pos (by omega)]) ?_
        refine lv_lstore_n (lv' := [(2, .long (wstep (S.2.1 5) n (8 * j + (t - 1)) w)), (5, .int (nI (8 * j + (t - 1)))), (4, .int (nI t - 1)), (0, .ref (ad 0)), (1, .int (nI j))]) hx hb d_MM_word_76 rfl hl (by decide) rfl (fun ls hl => ?_)
        refine lv_iinc (k := 2) (v := nI (t - 1) - 1) (lv' := [(4, .int (nI (t - 1) - 1)), (2, .long (wstep (S.2.1 5) n (8 * j + (t - 1)) w)), (5, .int (nI (8 * j + (t - 1)))), (0, .ref (ad 0)), (1, .int (nI j))]) hx hb d_MM_word_77 hl rfl (nI_m1_next ht1) (by decide) rfl (fun ls hl => ?_)
        refine lv_goto (tgt := 26) hx hb d_MM_word_80 (by decide) ?_
        exact ih (t - 1) (wstep (S.2.1 5) n (8 * j + (t - 1)) w) ls H locs (by omega) hz hn hj (by omega) (wordD_step ht1 hw) (lv_sub hl [0, 1, 3, 4] rfl) hP hD hS
abbrev rm_c_wordIn : Room := { frames := 0, cells := 0, slots := 0, locals := 0 }
set_option maxHeartbeats 4000000 in
set_option maxRecDepth 100000 in
theorem c_wordIn (l : Launch) (g : gG) (sz : Nat) (ad : Nat → Nat) (S : sS) (n : Nat) (j : Nat) (hz : S.1 2 1 = nI n) (hn : n ≤ 65536) (hd : j ≤ n / 8) : Cl l y_MM_word b_MM_word 6 rm_c_wordIn g [.ref (ad 0), .int (nI j)] (Sw shC g ad S) sz (fun r w => ∃ S' : sS, w = Sw shC g ad S' ∧ r = wordD (S.2.1 5) n j 8 0 ∧ S' = S) := by
  refine startL (by decide) (Nat.le_of_ble_eq_true rfl) ?_
  intro p e s m below meth c A ls hx hb hr hml hlocks hmn hown htt hN hA hP hK hD hS hl
  have hown : s.vm.findClass "MacroMill" = some m.cls := hown
  have hl : lv_has ls 6 [(0, .ref (ad 0)), (1, .int (nI j))] := hl
  refine lv_iload_n hx hb d_MM_word_0 rfl (lv_at hl 1 rfl) ?_
  refine lv_if_lt (tgt := 18) hx hb d_MM_word_1 (by decide) (fun h9 => absurd h9 (nI_pos (by omega))) (fun _ => ?_)
  refine lv_iload_n hx hb d_MM_word_4 rfl (lv_at hl 1 rfl) ?_
  refine lv_aload_n hx hb d_MM_word_5 rfl (lv_at hl 0 rfl) ?_
  refine S_getR (h := shC) (C := "MacroMill") (T := F_MM) hx hb htt in_MM hown hK hP 0 4 rfl 2 rfl rfl (by decide) (htt _ k_968) (fun _ h9 => h9) d_MM_word_6 ?_
  refine S_getI (h := shC) (C := "MacroMill$Outcome") (T := F_Outcome) hx hb htt in_Outcome hown hK hP 2 1 rfl rfl rfl (by decide) (htt _ k_341) (fun _ h9 => h9) d_MM_word_9 ?_
  refine toI (y := nI n) hz ?_
  refine lv_bipush (v := 8) hx hb d_MM_word_12 (by decide) ?_
  refine lv_idiv hx hb d_MM_word_14 (by decide) ?_
  refine toI (y := nI (n / 8)) (pk_div (by omega) (by decide) (by decide)) ?_
  refine lv_icmp_le (tgt := 20) hx hb d_MM_word_15 (by decide) (fun _ => ?_) (fun h9 => absurd (nI_le hd (by omega)) h9)
  refine lv_lconst (v := 0) hx hb d_MM_word_20 (by decide) ?_
  refine lv_lstore_n (lv' := [(2, .long 0), (0, .ref (ad 0)), (1, .int (nI j))]) hx hb d_MM_word_21 rfl hl (by decide) rfl (fun ls hl => ?_)
  show W _ _ _ _ _ _ _ _ _ _ _ _ _ _ _ (F0 _ 22 _ _)
  refine lv_bipush (v := 7) hx hb d_MM_word_22 (by decide) ?_
  refine lv_istore (lv' := [(4, .int 7), (2, .long 0), (0, .ref (ad 0)), (1, .int (nI j))]) hx hb d_MM_word_24 hl (by decide) rfl (fun ls hl => ?_)
  have hj : j < 8193 := by omega
  refine c_word_loop hx hb hml hown htt hK hN hA S n j (wordD (S.2.1 5) n j 8 0) (fun t2 w2 ls H locs hz2 hn2 hj2 ht2 hw2 hz0 hl hP hD hS => ?_) (8 + 1) 8 0 ls _ _ (by omega) hz hn hj (Nat.le_refl _) rfl (lv_sub hl [0, 1, 2, 3] rfl) hP hD hS
  rw [hz0] at hl
  refine lv_lload_n hx hb d_MM_word_83 rfl (lv_at hl 1 rfl) ?_
  exact fin_l (g := g) (ws := Sw shC g ad S) (v := wordD (S.2.1 5) n j 8 0) hx hb hr hlocks (by decide +kernel) (by decide +kernel) hP hD hS ⟨_, rfl, rfl, rfl⟩ d_MM_word_84
abbrev rm_c_wordOut : Room := { frames := 0, cells := 0, slots := 0, locals := 0 }
set_option maxHeartbeats 4000000 in
set_option maxRecDepth 100000 in
theorem c_wordOut (l : Launch) (g : gG) (sz : Nat) (ad : Nat → Nat) (S : sS) (n : Nat) (v1 : Int32) (hz : S.1 2 1 = nI n) (hn : n ≤ 65536) (hv : v1 < 0 ∨ ¬ v1 ≤ nI (n / 8)) : Cl l y_MM_word b_MM_word 6 rm_c_wordOut g [.ref (ad 0), .int v1] (Sw shC g ad S) sz (fun r w => ∃ S' : sS, w = Sw shC g ad S' ∧ r = 0 ∧ S' = S) := by
  refine startL (by decide) (Nat.le_of_ble_eq_true rfl) ?_
  intro p e s m below meth c A ls hx hb hr hml hlocks hmn hown htt hN hA hP hK hD hS hl
  have hown : s.vm.findClass "MacroMill" = some m.cls := hown
  have hl : lv_has ls 6 [(0, .ref (ad 0)), (1, .int v1)] := hl
  refine lv_iload_n hx hb d_MM_word_0 rfl (lv_at hl 1 rfl) ?_
  refine lv_if_lt (tgt := 18) hx hb d_MM_word_1 (by decide) (fun h1 => ?_) (fun h1 => ?_)
  · refine lv_lconst (v := 0) hx hb d_MM_word_18 (by decide) ?_
    exact fin_l (g := g) (ws := Sw shC g ad S) (v := 0) hx hb hr hlocks (by decide +kernel) (by decide +kernel) hP hD hS ⟨_, rfl, rfl, rfl⟩ d_MM_word_19
  · refine lv_iload_n hx hb d_MM_word_4 rfl (lv_at hl 1 rfl) ?_
    refine lv_aload_n hx hb d_MM_word_5 rfl (lv_at hl 0 rfl) ?_
    refine S_getR (h := shC) (C := "MacroMill") (T := F_MM) hx hb htt in_MM hown hK hP 0 4 rfl 2 rfl rfl (by decide) (htt _ k_968) (fun _ h9 => h9) d_MM_word_6 ?_
    refine S_getI (h := shC) (C := "MacroMill$Outcome") (T := F_Outcome) hx hb htt in_Outcome hown hK hP 2 1 rfl rfl rfl (by decide) (htt _ k_341) (fun _ h9 => h9) d_MM_word_9 ?_
    refine toI (y := nI n) hz ?_
    refine lv_bipush (v := 8) hx hb d_MM_word_12 (by decide) ?_
    refine lv_idiv hx hb d_MM_word_14 (by decide) ?_
    refine toI (y := nI (n / 8)) (pk_div (by omega) (by decide) (by decide)) ?_
    refine lv_icmp_le (tgt := 20) hx hb d_MM_word_15 (by decide) (fun h9 => absurd h9 (hv.resolve_left h1)) (fun _ => ?_)
    refine lv_lconst (v := 0) hx hb d_MM_word_18 (by decide) ?_
    exact fin_l (g := g) (ws := Sw shC g ad S) (v := 0) hx hb hr hlocks (by decide +kernel) (by decide +kernel) hP hD hS ⟨_, rfl, rfl, rfl⟩ d_MM_word_19
set_option maxHeartbeats 4000000 in
set_option maxRecDepth 100000 in
theorem m_word_loop {p : Program} {l : Launch} {e : Env} {R : Room} {s : State} {m : MethodId} {args : Array Value} {below : List Frame} {meth : Method} {c : Code} {cells slots : Nat} {Q : State → Prop} {g : gG} {A : Nat → Prop} {ad : Nat → Nat} (hx : p.tables.exec = Jvm.exec) (hb : c.code = b_Mod_word) (hml : c.maxLocals = 5) (hown : s.vm.findClass "MacroMillModel" = some m.cls) (htt : ∀ w ∈ gt, w.before args s = true) (hK : va_K g.1 classes (tysG g) s) (hN : nw s) (hA : ∀ q : Nat, s.heap.size ≤ q → A q) (S : sS) (n : Nat) (j : Nat) (r0 : Int64)
    (kx_69 : ∀ (t : Nat) (w : Int64) (ls : Array Slot) (H : Heap) (locs : List Loc), S.1 0 18 = nI n → n ≤ 65536 → j < 8192 → t ≤ 8 → wordD (S.2.1 6) n j t w = r0 → w = r0 →  lv_has ls 5 [(4, .int (nI t - 1)), (2, .long w), (0, .ref (ad 0)), (1, .int (nI j))] → va_P g.1 classes (Sw shM g ad S) H → va_D A (Sw shM g ad S) → va_S A s.heap H locs → W p l e R s m args below meth c H locs cells slots Q (F0 m 69 ls [])) :
    ∀ (k9 : Nat) (t : Nat) (w : Int64) (ls : Array Slot) (H : Heap) (locs : List Loc), t < k9 → S.1 0 18 = nI n → n ≤ 65536 → j < 8192 → t ≤ 8 → wordD (S.2.1 6) n j t w = r0 → lv_has ls 5 [(4, .int (nI t - 1)), (2, .long w), (0, .ref (ad 0)), (1, .int (nI j))] → va_P g.1 classes (Sw shM g ad S) H → va_D A (Sw shM g ad S) → va_S A s.heap H locs → W p l e R s m args below meth c H locs cells slots Q (F0 m 6 ls []) := by
  intro k9
  induction k9 with
  | zero =>
    intro t w ls H locs hk9 hz hn hj ht hw hl hP hD hS
    exact absurd hk9 (Nat.not_lt_zero _)
  | succ k9 ih =>
    intro t w ls H locs hk9 hz hn hj ht hw hl hP hD hS
    refine lv_iload hx hb d_Mod_word_6 (lv_at hl 0 rfl) ?_
    refine lv_if_lt (tgt := 69) hx hb d_Mod_word_8 (by decide) (fun h1 => ?_) (fun h1 => ?_)
    · exact kx_69 t w ls H locs hz hn hj ht hw (by have h5 := nI_m1_lt ht h1; subst h5; exact hw) (lv_sub hl [0, 1, 2, 3] rfl) hP hD hS
    · have ht1 : 1 ≤ t := nI_m1_ge h1
      refine lv_iload_n hx hb d_Mod_word_11 rfl (lv_at hl 3 rfl) ?_
      refine lv_if_lt (tgt := 69) hx hb d_Mod_word_12 (by decide) (fun h9 => absurd h9 (nI_pos (by omega))) (fun _ => ?_)
      refine lv_iload_n hx hb d_Mod_word_15 rfl (lv_at hl 3 rfl) ?_
      refine lv_sipush (v := 8192) hx hb d_Mod_word_16 (by decide) ?_
      refine lv_icmp_ge (tgt := 69) hx hb d_Mod_word_19 (by decide) (fun h9 => absurd h9 (nI_ge (b := 8192) hj (by decide))) (fun _ => ?_)
      refine lv_lload_n hx hb d_Mod_word_22 rfl (lv_at hl 1 rfl) ?_
      refine lv_bipush (v := 8) hx hb d_Mod_word_23 (by decide) ?_
      refine lv_lshl (v := w <<< ((8 : Int32).toInt64 &&& 63)) hx hb d_Mod_word_25 rfl ?_
      refine lv_bipush (v := 8) hx hb d_Mod_word_26 (by decide) ?_
      show W _ _ _ _ _ _ _ _ _ _ _ _ _ _ _ (F0 _ 28 _ _)
      refine lv_iload_n hx hb d_Mod_word_28 rfl (lv_at hl 3 rfl) ?_
      refine lv_imul hx hb d_Mod_word_29 ?_
      refine toI (y := nI (8 * j)) (pk_mul 8 j) ?_
      refine lv_iload hx hb d_Mod_word_30 (lv_at hl 0 rfl) ?_
      refine toI (y := nI (t - 1)) (nI_pred2 ht1) ?_
      refine lv_iadd hx hb d_Mod_word_32 ?_
      refine toI (y := nI (8 * j + (t - 1))) (nI_add (8 * j) (t - 1)) ?_
      refine lv_aload_n hx hb d_Mod_word_33 rfl (lv_at hl 2 rfl) ?_
      refine S_getI (h := shM) (C := "MacroMillModel") (T := F_Mod) hx hb htt in_Mod hown hK hP 0 18 rfl rfl rfl (by decide) (htt _ k_2254) (fun _ h9 => h9) d_Mod_word_34 ?_
      refine toI (y := nI n) hz ?_
      refine lv_icmp_ge (tgt := 59) hx hb d_Mod_word_37 (by decide) (fun h2 => ?_) (fun h2 => ?_)
      · have h4 := nI_le_of (by omega) (by omega) h2
        refine lv_iconst (v := 0) hx hb d_Mod_word_59 (by decide) ?_
        refine lv_i2l (v := 0) hx hb d_Mod_word_60 (by decide) ?_
        refine lv_lor hx hb d_Mod_word_61 ?_
        refine toL (y := wstep (S.2.1 6) n (8 * j + (t - 1)) w) (by unfold wstep; rw [if_neg (by omega)]; rfl) ?_
        refine lv_lstore_n (lv' := [(2, .long (wstep (S.2.1 6) n (8 * j + (t - 1)) w)), (4, .int (nI t - 1)), (0, .ref (ad 0)), (1, .int (nI j))]) hx hb d_Mod_word_62 rfl hl (by decide) rfl (fun ls hl => ?_)
        refine lv_iinc (k := 1) (v := nI (t - 1) - 1) (lv' := [(4, .int (nI (t - 1) - 1)), (2, .long (wstep (S.2.1 6) n (8 * j + (t - 1)) w)), (0, .ref (ad 0)), (1, .int (nI j))]) hx hb d_Mod_word_63 hl rfl (nI_m1_next ht1) (by decide) rfl (fun ls hl => ?_)
        show W _ _ _ _ _ _ _ _ _ _ _ _ _ _ _ (F0 _ 66 _ _)
        refine lv_goto (tgt := 6) hx hb d_Mod_word_66 (by decide) ?_
        exact ih (t - 1) (wstep (S.2.1 6) n (8 * j + (t - 1)) w) ls H locs (by omega) hz hn hj (by omega) (wordD_step ht1 hw) (lv_sub hl [0, 1, 2, 3] rfl) hP hD hS
      · have h4 := nI_lt_of (by omega) (by omega) h2
        refine lv_aload_n hx hb d_Mod_word_40 rfl (lv_at hl 2 rfl) ?_
        refine S_getR (h := shM) (C := "MacroMillModel") (T := F_Mod) hx hb htt in_Mod hown hK hP 0 17 rfl 7 rfl rfl (by decide) (htt _ k_2253) (fun _ h9 => h9) d_Mod_word_41 ?_
        refine lv_bipush (v := 8) hx hb d_Mod_word_44 (by decide) ?_
        refine lv_iload_n hx hb d_Mod_word_46 rfl (lv_at hl 3 rfl) ?_
        refine lv_imul hx hb d_Mod_word_47 ?_
        refine toI (y := nI (8 * j)) (pk_mul 8 j) ?_
        show W _ _ _ _ _ _ _ _ _ _ _ _ _ _ _ (F0 _ 48 _ _)
        refine lv_iload hx hb d_Mod_word_48 (lv_at hl 0 rfl) ?_
        refine toI (y := nI (t - 1)) (nI_pred2 ht1) ?_
        refine lv_iadd hx hb d_Mod_word_50 ?_
        refine toI (y := nI (8 * j + (t - 1))) (nI_add (8 * j) (t - 1)) ?_
        refine S_bald (h := shM) (i := nI (8 * j + (t - 1))) hx hb hK hP 6 rfl (vp_in_nI (by omega) (by decide)) d_Mod_word_51 ?_
        refine toI (y := S.2.1 6 (8 * j + (t - 1))) (by rw [nI_clamp (by omega)]) ?_
        refine lv_sipush (v := 255) hx hb d_Mod_word_52 (by decide) ?_
        refine lv_iand hx hb d_Mod_word_55 ?_
        refine lv_goto (tgt := 60) hx hb d_Mod_word_56 (by decide) ?_
        refine lv_i2l (v := ((S.2.1 6 (8 * j + (t - 1))) &&& 255).toInt64) hx hb d_Mod_word_60 rfl ?_
        refine lv_lor hx hb d_Mod_word_61 ?_
        refine toL (y := wstep (S.2.1 6) n (8 * j + (t - 1)) w) (by unfold wstep; rw [if_pos (by omega)]) ?_
        refine lv_lstore_n (lv' := [(2, .long (wstep (S.2.1 6) n (8 * j + (t - 1)) w)), (4, .int (nI t - 1)), (0, .ref (ad 0)), (1, .int (nI j))]) hx hb d_Mod_word_62 rfl hl (by decide) rfl (fun ls hl => ?_)
        refine lv_iinc (k := 1) (v := nI (t - 1) - 1) (lv' := [(4, .int (nI (t - 1) - 1)), (2, .long (wstep (S.2.1 6) n (8 * j + (t - 1)) w)), (0, .ref (ad 0)), (1, .int (nI j))]) hx hb d_Mod_word_63 hl rfl (nI_m1_next ht1) (by decide) rfl (fun ls hl => ?_)
        refine lv_goto (tgt := 6) hx hb d_Mod_word_66 (by decide) ?_
        exact ih (t - 1) (wstep (S.2.1 6) n (8 * j + (t - 1)) w) ls H locs (by omega) hz hn hj (by omega) (wordD_step ht1 hw) (lv_sub hl [0, 1, 2, 3] rfl) hP hD hS
abbrev rm_m_wordIn : Room := { frames := 0, cells := 0, slots := 0, locals := 0 }
set_option maxHeartbeats 4000000 in
set_option maxRecDepth 100000 in
theorem m_wordIn (l : Launch) (g : gG) (sz : Nat) (ad : Nat → Nat) (S : sS) (n : Nat) (j : Nat) (hz : S.1 0 18 = nI n) (hn : n ≤ 65536) (hj : j < 8192) : Cl l y_Mod_word b_Mod_word 5 rm_m_wordIn g [.ref (ad 0), .int (nI j)] (Sw shM g ad S) sz (fun r w => ∃ S' : sS, w = Sw shM g ad S' ∧ r = wordD (S.2.1 6) n j 8 0 ∧ S' = S) := by
  refine startL (by decide) (Nat.le_of_ble_eq_true rfl) ?_
  intro p e s m below meth c A ls hx hb hr hml hlocks hmn hown htt hN hA hP hK hD hS hl
  have hown : s.vm.findClass "MacroMillModel" = some m.cls := hown
  have hl : lv_has ls 5 [(0, .ref (ad 0)), (1, .int (nI j))] := hl
  refine lv_lconst (v := 0) hx hb d_Mod_word_0 (by decide) ?_
  refine lv_lstore_n (lv' := [(2, .long 0), (0, .ref (ad 0)), (1, .int (nI j))]) hx hb d_Mod_word_1 rfl hl (by decide) rfl (fun ls hl => ?_)
  refine lv_bipush (v := 7) hx hb d_Mod_word_2 (by decide) ?_
  refine lv_istore (lv' := [(4, .int 7), (2, .long 0), (0, .ref (ad 0)), (1, .int (nI j))]) hx hb d_Mod_word_4 hl (by decide) rfl (fun ls hl => ?_)
  refine m_word_loop hx hb hml hown htt hK hN hA S n j (wordD (S.2.1 6) n j 8 0) (fun t2 w2 ls H locs hz2 hn2 hj2 ht2 hw2 hz0 hl hP hD hS => ?_) (8 + 1) 8 0 ls _ _ (by omega) hz hn hj (Nat.le_refl _) rfl (lv_sub hl [0, 1, 2, 3] rfl) hP hD hS
  rw [hz0] at hl
  refine lv_lload_n hx hb d_Mod_word_69 rfl (lv_at hl 1 rfl) ?_
  exact fin_l (g := g) (ws := Sw shM g ad S) (v := wordD (S.2.1 6) n j 8 0) hx hb hr hlocks (by decide +kernel) (by decide +kernel) hP hD hS ⟨_, rfl, rfl, rfl⟩ d_Mod_word_70
abbrev rm_m_wordOut : Room := { frames := 0, cells := 0, slots := 0, locals := 0 }
set_option maxHeartbeats 4000000 in
set_option maxRecDepth 100000 in
theorem m_wordOut (l : Launch) (g : gG) (sz : Nat) (ad : Nat → Nat) (S : sS) (v1 : Int32) (hv : v1 < 0 ∨ 8192 ≤ v1) : Cl l y_Mod_word b_Mod_word 5 rm_m_wordOut g [.ref (ad 0), .int v1] (Sw shM g ad S) sz (fun r w => ∃ S' : sS, w = Sw shM g ad S' ∧ r = 0 ∧ S' = S) := by
  refine startL (by decide) (Nat.le_of_ble_eq_true rfl) ?_
  intro p e s m below meth c A ls hx hb hr hml hlocks hmn hown htt hN hA hP hK hD hS hl
  have hown : s.vm.findClass "MacroMillModel" = some m.cls := hown
  have hl : lv_has ls 5 [(0, .ref (ad 0)), (1, .int v1)] := hl
  refine lv_lconst (v := 0) hx hb d_Mod_word_0 (by decide) ?_
  refine lv_lstore_n (lv' := [(2, .long 0), (0, .ref (ad 0)), (1, .int v1)]) hx hb d_Mod_word_1 rfl hl (by decide) rfl (fun ls hl => ?_)
  refine lv_bipush (v := 7) hx hb d_Mod_word_2 (by decide) ?_
  refine lv_istore (lv' := [(4, .int 7), (2, .long 0), (0, .ref (ad 0)), (1, .int v1)]) hx hb d_Mod_word_4 hl (by decide) rfl (fun ls hl => ?_)
  refine lv_iload hx hb d_Mod_word_6 (lv_at hl 0 rfl) ?_
  refine lv_if_lt (tgt := 69) hx hb d_Mod_word_8 (by decide) (fun h9 => absurd h9 (by decide)) (fun _ => ?_)
  refine lv_iload_n hx hb d_Mod_word_11 rfl (lv_at hl 3 rfl) ?_
  refine lv_if_lt (tgt := 69) hx hb d_Mod_word_12 (by decide) (fun h1 => ?_) (fun h1 => ?_)
  · refine lv_lload_n hx hb d_Mod_word_69 rfl (lv_at hl 1 rfl) ?_
    exact fin_l (g := g) (ws := Sw shM g ad S) (v := 0) hx hb hr hlocks (by decide +kernel) (by decide +kernel) hP hD hS ⟨_, rfl, rfl, rfl⟩ d_Mod_word_70
  · refine lv_iload_n hx hb d_Mod_word_15 rfl (lv_at hl 3 rfl) ?_
    refine lv_sipush (v := 8192) hx hb d_Mod_word_16 (by decide) ?_
    refine lv_icmp_ge (tgt := 69) hx hb d_Mod_word_19 (by decide) (fun _ => ?_) (fun h9 => absurd (hv.resolve_left h1) h9)
    show W _ _ _ _ _ _ _ _ _ _ _ _ _ _ _ (F0 _ 69 _ _)
    refine lv_lload_n hx hb d_Mod_word_69 rfl (lv_at hl 1 rfl) ?_
    exact fin_l (g := g) (ws := Sw shM g ad S) (v := 0) hx hb hr hlocks (by decide +kernel) (by decide +kernel) hP hD hS ⟨_, rfl, rfl, rfl⟩ d_Mod_word_70
