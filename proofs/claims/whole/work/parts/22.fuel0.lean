theorem chk {α : Type} {c : Prop} [Decidable c] {a : Option α} {x : α} (h : (if c then a else none) = some x) : c ∧ a = some x := by
  by_cases hc : c
  · rw [if_pos hc] at h
    exact ⟨hc, h⟩
  · rw [if_neg hc] at h
    cases h
/-- an index in range -/
def okI (i : Int32) (n : Nat) : Bool := !(decide (i < 0) || decide (n ≤ i.toNatClampNeg))
theorem okI_in {i : Int32} {n : Nat} (h : okI i n = true) : vp_in i n := by
  unfold okI at h
  intro z
  rcases z with z | z <;> simp [z] at h
def bz (v : Int32) : Bool := decide (v = 0) || decide (v = 1)
theorem bz_n {v : Int32} (h : bz v = true) : narrow .boolean (.int v) = .int v := by
  unfold bz at h
  simp at h
  rcases h with rfl | rfl <;> rfl
theorem bz_f {v : Int32} (h : bz v = true) : fits .boolean (.int v) = true := by
  unfold bz at h
  simp at h
  rcases h with rfl | rfl <;> rfl

theorem d_MM_hashOf_0 : decode b_MM_hashOf 0 = .ok (.iload_n 2, 1) := by decide +kernel
theorem d_MM_hashOf_1 : decode b_MM_hashOf 1 = .ok (.istore_n 3, 1) := by decide +kernel
theorem d_MM_hashOf_2 : decode b_MM_hashOf 2 = .ok (.iconst 0, 1) := by decide +kernel
theorem d_MM_hashOf_3 : decode b_MM_hashOf 3 = .ok (.istore 4, 2) := by decide +kernel
theorem d_MM_hashOf_5 : decode b_MM_hashOf 5 = .ok (.iload 4, 2) := by decide +kernel
theorem d_MM_hashOf_7 : decode b_MM_hashOf 7 = .ok (.iload_n 2, 1) := by decide +kernel
theorem d_MM_hashOf_8 : decode b_MM_hashOf 8 = .ok (.if_icmp .ge 21, 3) := by decide +kernel
theorem d_MM_hashOf_11 : decode b_MM_hashOf 11 = .ok (.iload_n 3, 1) := by decide +kernel
theorem d_MM_hashOf_12 : decode b_MM_hashOf 12 = .ok (.bipush 31, 2) := by decide +kernel
theorem d_MM_hashOf_14 : decode b_MM_hashOf 14 = .ok (.imul, 1) := by decide +kernel
theorem d_MM_hashOf_15 : decode b_MM_hashOf 15 = .ok (.aload_n 0, 1) := by decide +kernel
theorem d_MM_hashOf_16 : decode b_MM_hashOf 16 = .ok (.iload_n 1, 1) := by decide +kernel
theorem d_MM_hashOf_17 : decode b_MM_hashOf 17 = .ok (.iload 4, 2) := by decide +kernel
theorem d_MM_hashOf_19 : decode b_MM_hashOf 19 = .ok (.iadd, 1) := by decide +kernel
theorem d_MM_hashOf_20 : decode b_MM_hashOf 20 = .ok (.baload, 1) := by decide +kernel
theorem d_MM_hashOf_21 : decode b_MM_hashOf 21 = .ok (.iadd, 1) := by decide +kernel
theorem d_MM_hashOf_22 : decode b_MM_hashOf 22 = .ok (.istore_n 3, 1) := by decide +kernel
theorem d_MM_hashOf_23 : decode b_MM_hashOf 23 = .ok (.iinc 4 1, 3) := by decide +kernel
theorem d_MM_hashOf_26 : decode b_MM_hashOf 26 = .ok (.goto (-21), 3) := by decide +kernel
theorem d_MM_hashOf_29 : decode b_MM_hashOf 29 = .ok (.iload_n 3, 1) := by decide +kernel
theorem d_MM_hashOf_30 : decode b_MM_hashOf 30 = .ok (.iload_n 3, 1) := by decide +kernel
theorem d_MM_hashOf_31 : decode b_MM_hashOf 31 = .ok (.bipush 15, 2) := by decide +kernel
theorem d_MM_hashOf_33 : decode b_MM_hashOf 33 = .ok (.iushr, 1) := by decide +kernel
theorem d_MM_hashOf_34 : decode b_MM_hashOf 34 = .ok (.ixor, 1) := by decide +kernel
theorem d_MM_hashOf_35 : decode b_MM_hashOf 35 = .ok (.ireturn, 1) := by decide +kernel
theorem d_Mod_forget_0 : decode b_Mod_forget 0 = .ok (.aload_n 0, 1) := by decide +kernel
theorem d_Mod_forget_1 : decode b_Mod_forget 1 = .ok (.getfield 53, 3) := by decide +kernel
theorem d_Mod_forget_4 : decode b_Mod_forget 4 = .ok (.iload_n 1, 1) := by decide +kernel
theorem d_Mod_forget_5 : decode b_Mod_forget 5 = .ok (.iaload, 1) := by decide +kernel
theorem d_Mod_forget_6 : decode b_Mod_forget 6 = .ok (.aload_n 0, 1) := by decide +kernel
theorem d_Mod_forget_7 : decode b_Mod_forget 7 = .ok (.getfield 56, 3) := by decide +kernel
theorem d_Mod_forget_10 : decode b_Mod_forget 10 = .ok (.iload_n 1, 1) := by decide +kernel
theorem d_Mod_forget_11 : decode b_Mod_forget 11 = .ok (.iaload, 1) := by decide +kernel
theorem d_Mod_forget_12 : decode b_Mod_forget 12 = .ok (.iadd, 1) := by decide +kernel
theorem d_Mod_forget_13 : decode b_Mod_forget 13 = .ok (.istore_n 2, 1) := by decide +kernel
theorem d_Mod_forget_14 : decode b_Mod_forget 14 = .ok (.aload_n 0, 1) := by decide +kernel
theorem d_Mod_forget_15 : decode b_Mod_forget 15 = .ok (.getfield 50, 3) := by decide +kernel
theorem d_Mod_forget_18 : decode b_Mod_forget 18 = .ok (.iload_n 1, 1) := by decide +kernel
theorem d_Mod_forget_19 : decode b_Mod_forget 19 = .ok (.iaload, 1) := by decide +kernel
theorem d_Mod_forget_20 : decode b_Mod_forget 20 = .ok (.istore_n 3, 1) := by decide +kernel
theorem d_Mod_forget_21 : decode b_Mod_forget 21 = .ok (.iload_n 3, 1) := by decide +kernel
theorem d_Mod_forget_22 : decode b_Mod_forget 22 = .ok (.iload_n 2, 1) := by decide +kernel
theorem d_Mod_forget_23 : decode b_Mod_forget 23 = .ok (.iadd, 1) := by decide +kernel
theorem d_Mod_forget_24 : decode b_Mod_forget 24 = .ok (.aload_n 0, 1) := by decide +kernel
theorem d_Mod_forget_25 : decode b_Mod_forget 25 = .ok (.getfield 385, 3) := by decide +kernel
theorem d_Mod_forget_28 : decode b_Mod_forget 28 = .ok (.if_icmp .ge 23, 3) := by decide +kernel
theorem d_Mod_forget_31 : decode b_Mod_forget 31 = .ok (.aload_n 0, 1) := by decide +kernel
theorem d_Mod_forget_32 : decode b_Mod_forget 32 = .ok (.getfield 62, 3) := by decide +kernel
theorem d_Mod_forget_35 : decode b_Mod_forget 35 = .ok (.iload_n 3, 1) := by decide +kernel
theorem d_Mod_forget_36 : decode b_Mod_forget 36 = .ok (.aload_n 0, 1) := by decide +kernel
theorem d_Mod_forget_37 : decode b_Mod_forget 37 = .ok (.getfield 62, 3) := by decide +kernel
theorem d_Mod_forget_40 : decode b_Mod_forget 40 = .ok (.iload_n 3, 1) := by decide +kernel
theorem d_Mod_forget_41 : decode b_Mod_forget 41 = .ok (.iload_n 2, 1) := by decide +kernel
theorem d_Mod_forget_42 : decode b_Mod_forget 42 = .ok (.iadd, 1) := by decide +kernel
theorem d_Mod_forget_43 : decode b_Mod_forget 43 = .ok (.baload, 1) := by decide +kernel
theorem d_Mod_forget_44 : decode b_Mod_forget 44 = .ok (.bastore, 1) := by decide +kernel
theorem d_Mod_forget_45 : decode b_Mod_forget 45 = .ok (.iinc 3 1, 3) := by decide +kernel
theorem d_Mod_forget_48 : decode b_Mod_forget 48 = .ok (.goto (-27), 3) := by decide +kernel
theorem d_Mod_forget_51 : decode b_Mod_forget 51 = .ok (.aload_n 0, 1) := by decide +kernel
theorem d_Mod_forget_52 : decode b_Mod_forget 52 = .ok (.aload_n 0, 1) := by decide +kernel
theorem d_Mod_forget_53 : decode b_Mod_forget 53 = .ok (.getfield 385, 3) := by decide +kernel
theorem d_Mod_forget_56 : decode b_Mod_forget 56 = .ok (.iload_n 2, 1) := by decide +kernel
theorem d_Mod_forget_57 : decode b_Mod_forget 57 = .ok (.isub, 1) := by decide +kernel
theorem d_Mod_forget_58 : decode b_Mod_forget 58 = .ok (.putfield 385, 3) := by decide +kernel
theorem d_Mod_forget_61 : decode b_Mod_forget 61 = .ok (.aload_n 0, 1) := by decide +kernel
theorem d_Mod_forget_62 : decode b_Mod_forget 62 = .ok (.getfield 59, 3) := by decide +kernel
theorem d_Mod_forget_65 : decode b_Mod_forget 65 = .ok (.iload_n 1, 1) := by decide +kernel
theorem d_Mod_forget_66 : decode b_Mod_forget 66 = .ok (.iaload, 1) := by decide +kernel
theorem d_Mod_forget_67 : decode b_Mod_forget 67 = .ok (.ifCond .ne 23, 3) := by decide +kernel
theorem d_Mod_forget_70 : decode b_Mod_forget 70 = .ok (.aload_n 0, 1) := by decide +kernel
theorem d_Mod_forget_71 : decode b_Mod_forget 71 = .ok (.dup, 1) := by decide +kernel
theorem d_Mod_forget_72 : decode b_Mod_forget 72 = .ok (.getfield 388, 3) := by decide +kernel
theorem d_Mod_forget_75 : decode b_Mod_forget 75 = .ok (.iconst 1, 1) := by decide +kernel
theorem d_Mod_forget_76 : decode b_Mod_forget 76 = .ok (.isub, 1) := by decide +kernel
theorem d_Mod_forget_77 : decode b_Mod_forget 77 = .ok (.putfield 388, 3) := by decide +kernel
theorem d_Mod_forget_80 : decode b_Mod_forget 80 = .ok (.aload_n 0, 1) := by decide +kernel
theorem d_Mod_forget_81 : decode b_Mod_forget 81 = .ok (.aload_n 0, 1) := by decide +kernel
theorem d_Mod_forget_82 : decode b_Mod_forget 82 = .ok (.getfield 391, 3) := by decide +kernel
theorem d_Mod_forget_85 : decode b_Mod_forget 85 = .ok (.iload_n 2, 1) := by decide +kernel
theorem d_Mod_forget_86 : decode b_Mod_forget 86 = .ok (.isub, 1) := by decide +kernel
theorem d_Mod_forget_87 : decode b_Mod_forget 87 = .ok (.putfield 391, 3) := by decide +kernel
theorem d_Mod_forget_90 : decode b_Mod_forget 90 = .ok (.aload_n 0, 1) := by decide +kernel
theorem d_Mod_forget_91 : decode b_Mod_forget 91 = .ok (.dup, 1) := by decide +kernel
theorem d_Mod_forget_92 : decode b_Mod_forget 92 = .ok (.getfield 382, 3) := by decide +kernel
theorem d_Mod_forget_95 : decode b_Mod_forget 95 = .ok (.iconst 1, 1) := by decide +kernel
theorem d_Mod_forget_96 : decode b_Mod_forget 96 = .ok (.isub, 1) := by decide +kernel
theorem d_Mod_forget_97 : decode b_Mod_forget 97 = .ok (.putfield 382, 3) := by decide +kernel
theorem d_Mod_forget_100 : decode b_Mod_forget 100 = .ok (.iload_n 1, 1) := by decide +kernel
theorem d_Mod_forget_101 : decode b_Mod_forget 101 = .ok (.istore_n 3, 1) := by decide +kernel
theorem d_Mod_forget_102 : decode b_Mod_forget 102 = .ok (.iload_n 3, 1) := by decide +kernel
theorem d_Mod_forget_103 : decode b_Mod_forget 103 = .ok (.aload_n 0, 1) := by decide +kernel
theorem d_Mod_forget_104 : decode b_Mod_forget 104 = .ok (.getfield 382, 3) := by decide +kernel
theorem d_Mod_forget_107 : decode b_Mod_forget 107 = .ok (.if_icmp .ge 67, 3) := by decide +kernel
theorem d_Mod_forget_110 : decode b_Mod_forget 110 = .ok (.aload_n 0, 1) := by decide +kernel
theorem d_Mod_forget_111 : decode b_Mod_forget 111 = .ok (.getfield 50, 3) := by decide +kernel
theorem d_Mod_forget_114 : decode b_Mod_forget 114 = .ok (.iload_n 3, 1) := by decide +kernel
theorem d_Mod_forget_115 : decode b_Mod_forget 115 = .ok (.aload_n 0, 1) := by decide +kernel
theorem d_Mod_forget_116 : decode b_Mod_forget 116 = .ok (.getfield 50, 3) := by decide +kernel
theorem d_Mod_forget_119 : decode b_Mod_forget 119 = .ok (.iload_n 3, 1) := by decide +kernel
theorem d_Mod_forget_120 : decode b_Mod_forget 120 = .ok (.iconst 1, 1) := by decide +kernel
theorem d_Mod_forget_121 : decode b_Mod_forget 121 = .ok (.iadd, 1) := by decide +kernel
theorem d_Mod_forget_122 : decode b_Mod_forget 122 = .ok (.iaload, 1) := by decide +kernel
theorem d_Mod_forget_123 : decode b_Mod_forget 123 = .ok (.iload_n 2, 1) := by decide +kernel
theorem d_Mod_forget_124 : decode b_Mod_forget 124 = .ok (.isub, 1) := by decide +kernel
theorem d_Mod_forget_125 : decode b_Mod_forget 125 = .ok (.iastore, 1) := by decide +kernel
theorem d_Mod_forget_126 : decode b_Mod_forget 126 = .ok (.aload_n 0, 1) := by decide +kernel
theorem d_Mod_forget_127 : decode b_Mod_forget 127 = .ok (.getfield 53, 3) := by decide +kernel
theorem d_Mod_forget_130 : decode b_Mod_forget 130 = .ok (.iload_n 3, 1) := by decide +kernel
theorem d_Mod_forget_131 : decode b_Mod_forget 131 = .ok (.aload_n 0, 1) := by decide +kernel
theorem d_Mod_forget_132 : decode b_Mod_forget 132 = .ok (.getfield 53, 3) := by decide +kernel
theorem d_Mod_forget_135 : decode b_Mod_forget 135 = .ok (.iload_n 3, 1) := by decide +kernel
theorem d_Mod_forget_136 : decode b_Mod_forget 136 = .ok (.iconst 1, 1) := by decide +kernel
theorem d_Mod_forget_137 : decode b_Mod_forget 137 = .ok (.iadd, 1) := by decide +kernel
theorem d_Mod_forget_138 : decode b_Mod_forget 138 = .ok (.iaload, 1) := by decide +kernel
theorem d_Mod_forget_139 : decode b_Mod_forget 139 = .ok (.iastore, 1) := by decide +kernel
theorem d_Mod_forget_140 : decode b_Mod_forget 140 = .ok (.aload_n 0, 1) := by decide +kernel
theorem d_Mod_forget_141 : decode b_Mod_forget 141 = .ok (.getfield 56, 3) := by decide +kernel
theorem d_Mod_forget_144 : decode b_Mod_forget 144 = .ok (.iload_n 3, 1) := by decide +kernel
theorem d_Mod_forget_145 : decode b_Mod_forget 145 = .ok (.aload_n 0, 1) := by decide +kernel
theorem d_Mod_forget_146 : decode b_Mod_forget 146 = .ok (.getfield 56, 3) := by decide +kernel
theorem d_Mod_forget_149 : decode b_Mod_forget 149 = .ok (.iload_n 3, 1) := by decide +kernel
theorem d_Mod_forget_150 : decode b_Mod_forget 150 = .ok (.iconst 1, 1) := by decide +kernel
theorem d_Mod_forget_151 : decode b_Mod_forget 151 = .ok (.iadd, 1) := by decide +kernel
theorem d_Mod_forget_152 : decode b_Mod_forget 152 = .ok (.iaload, 1) := by decide +kernel
theorem d_Mod_forget_153 : decode b_Mod_forget 153 = .ok (.iastore, 1) := by decide +kernel
theorem d_Mod_forget_154 : decode b_Mod_forget 154 = .ok (.aload_n 0, 1) := by decide +kernel
theorem d_Mod_forget_155 : decode b_Mod_forget 155 = .ok (.getfield 59, 3) := by decide +kernel
theorem d_Mod_forget_158 : decode b_Mod_forget 158 = .ok (.iload_n 3, 1) := by decide +kernel
theorem d_Mod_forget_159 : decode b_Mod_forget 159 = .ok (.aload_n 0, 1) := by decide +kernel
theorem d_Mod_forget_160 : decode b_Mod_forget 160 = .ok (.getfield 59, 3) := by decide +kernel
theorem d_Mod_forget_163 : decode b_Mod_forget 163 = .ok (.iload_n 3, 1) := by decide +kernel
theorem d_Mod_forget_164 : decode b_Mod_forget 164 = .ok (.iconst 1, 1) := by decide +kernel
theorem d_Mod_forget_165 : decode b_Mod_forget 165 = .ok (.iadd, 1) := by decide +kernel
theorem d_Mod_forget_166 : decode b_Mod_forget 166 = .ok (.iaload, 1) := by decide +kernel
theorem d_Mod_forget_167 : decode b_Mod_forget 167 = .ok (.iastore, 1) := by decide +kernel
theorem d_Mod_forget_168 : decode b_Mod_forget 168 = .ok (.iinc 3 1, 3) := by decide +kernel
theorem d_Mod_forget_171 : decode b_Mod_forget 171 = .ok (.goto (-69), 3) := by decide +kernel
theorem d_Mod_forget_174 : decode b_Mod_forget 174 = .ok (.return_, 1) := by decide +kernel
theorem d_Mod_isNamed_0 : decode b_Mod_isNamed 0 = .ok (.aload_n 0, 1) := by decide +kernel
theorem d_Mod_isNamed_1 : decode b_Mod_isNamed 1 = .ok (.getfield 53, 3) := by decide +kernel
theorem d_Mod_isNamed_4 : decode b_Mod_isNamed 4 = .ok (.iload_n 1, 1) := by decide +kernel
theorem d_Mod_isNamed_5 : decode b_Mod_isNamed 5 = .ok (.iaload, 1) := by decide +kernel
theorem d_Mod_isNamed_6 : decode b_Mod_isNamed 6 = .ok (.iload 4, 2) := by decide +kernel
theorem d_Mod_isNamed_8 : decode b_Mod_isNamed 8 = .ok (.if_icmp .ne 7, 3) := by decide +kernel
theorem d_Mod_isNamed_11 : decode b_Mod_isNamed 11 = .ok (.iconst 1, 1) := by decide +kernel
theorem d_Mod_isNamed_12 : decode b_Mod_isNamed 12 = .ok (.goto 4, 3) := by decide +kernel
theorem d_Mod_isNamed_15 : decode b_Mod_isNamed 15 = .ok (.iconst 0, 1) := by decide +kernel
theorem d_Mod_isNamed_16 : decode b_Mod_isNamed 16 = .ok (.istore 5, 2) := by decide +kernel
theorem d_Mod_isNamed_18 : decode b_Mod_isNamed 18 = .ok (.iconst 0, 1) := by decide +kernel
theorem d_Mod_isNamed_19 : decode b_Mod_isNamed 19 = .ok (.istore 6, 2) := by decide +kernel
theorem d_Mod_isNamed_21 : decode b_Mod_isNamed 21 = .ok (.iload 6, 2) := by decide +kernel
theorem d_Mod_isNamed_23 : decode b_Mod_isNamed 23 = .ok (.iload 4, 2) := by decide +kernel
theorem d_Mod_isNamed_25 : decode b_Mod_isNamed 25 = .ok (.if_icmp .ge 44, 3) := by decide +kernel
theorem d_Mod_isNamed_28 : decode b_Mod_isNamed 28 = .ok (.iload 5, 2) := by decide +kernel
theorem d_Mod_isNamed_30 : decode b_Mod_isNamed 30 = .ok (.ifCond .eq 39, 3) := by decide +kernel
theorem d_Mod_isNamed_33 : decode b_Mod_isNamed 33 = .ok (.aload_n 0, 1) := by decide +kernel
theorem d_Mod_isNamed_34 : decode b_Mod_isNamed 34 = .ok (.getfield 62, 3) := by decide +kernel
theorem d_Mod_isNamed_37 : decode b_Mod_isNamed 37 = .ok (.aload_n 0, 1) := by decide +kernel
theorem d_Mod_isNamed_38 : decode b_Mod_isNamed 38 = .ok (.getfield 50, 3) := by decide +kernel
theorem d_Mod_isNamed_41 : decode b_Mod_isNamed 41 = .ok (.iload_n 1, 1) := by decide +kernel
theorem d_Mod_isNamed_42 : decode b_Mod_isNamed 42 = .ok (.iaload, 1) := by decide +kernel
theorem d_Mod_isNamed_43 : decode b_Mod_isNamed 43 = .ok (.iload 6, 2) := by decide +kernel
theorem d_Mod_isNamed_45 : decode b_Mod_isNamed 45 = .ok (.iadd, 1) := by decide +kernel
theorem d_Mod_isNamed_46 : decode b_Mod_isNamed 46 = .ok (.baload, 1) := by decide +kernel
theorem d_Mod_isNamed_47 : decode b_Mod_isNamed 47 = .ok (.aload_n 2, 1) := by decide +kernel
theorem d_Mod_isNamed_48 : decode b_Mod_isNamed 48 = .ok (.iload_n 3, 1) := by decide +kernel
theorem d_Mod_isNamed_49 : decode b_Mod_isNamed 49 = .ok (.iload 6, 2) := by decide +kernel
theorem d_Mod_isNamed_51 : decode b_Mod_isNamed 51 = .ok (.iadd, 1) := by decide +kernel
theorem d_Mod_isNamed_52 : decode b_Mod_isNamed 52 = .ok (.baload, 1) := by decide +kernel
theorem d_Mod_isNamed_53 : decode b_Mod_isNamed 53 = .ok (.if_icmp .ne 7, 3) := by decide +kernel
theorem d_Mod_isNamed_56 : decode b_Mod_isNamed 56 = .ok (.iconst 1, 1) := by decide +kernel
theorem d_Mod_isNamed_57 : decode b_Mod_isNamed 57 = .ok (.goto 4, 3) := by decide +kernel
theorem d_Mod_isNamed_60 : decode b_Mod_isNamed 60 = .ok (.iconst 0, 1) := by decide +kernel
theorem d_Mod_isNamed_61 : decode b_Mod_isNamed 61 = .ok (.istore 5, 2) := by decide +kernel
theorem d_Mod_isNamed_63 : decode b_Mod_isNamed 63 = .ok (.iinc 6 1, 3) := by decide +kernel
theorem d_Mod_isNamed_66 : decode b_Mod_isNamed 66 = .ok (.goto (-45), 3) := by decide +kernel
theorem d_Mod_isNamed_69 : decode b_Mod_isNamed 69 = .ok (.iload 5, 2) := by decide +kernel
theorem d_Mod_isNamed_71 : decode b_Mod_isNamed 71 = .ok (.ireturn, 1) := by decide +kernel
def f_MM_hashOf (x1 : Nat) (nx1 : Nat) : Nat → Nat → sS → (Nat → Int32) → (Nat → Int64) → Option (Int32 × sS)
  | 0, _, _, _, _ => none
  | k + 1, 0, S, L, M => f_MM_hashOf x1 nx1 k 1 S (upd (upd L 3 (L 2)) 4 (0 : Int32)) M
  | k + 1, 1, S, L, M => if (L 2) ≤ (L 4) then (some ((L 3) ^^^ (((L 3).toUInt32 >>> ((15 : Int32).toUInt32 &&& Int32.toUInt32 31)).toInt32), S)) else (if okI ((L 1) + (L 4)) nx1 = true then (f_MM_hashOf x1 nx1 k 1 S (upd (upd L 3 (((L 3) * (31 : Int32)) + (S.2.1 x1 ((L 1) + (L 4) : Int32).toNatClampNeg))) 4 ((L 4) + 1)) M) else none)
  | _ + 1, _ + 2, _, _, _ => none
set_option maxHeartbeats 8000000 in
set_option maxRecDepth 100000 in
theorem w_MM_hashOf {p : Program} {l : Launch} {e : Env} {R : Room} {s : State} {m : MethodId} {args : Array Value} {below : List Frame} {meth : Method} {c : Code} {cells slots : Nat} {Q : State → Prop} {g : gG} {A : Nat → Prop} {ad : Nat → Nat} (hx : p.tables.exec = Jvm.exec) (hb : c.code = b_MM_hashOf) (hml : c.maxLocals = 5) (hown : s.vm.findClass "MacroMill" = some m.cls) (htt : ∀ w ∈ gt, w.before args s = true) (hK : va_K g.1 classes (tysG g) s) (hN : nw s) (hA : ∀ q : Nat, s.heap.size ≤ q → A q) (x1 : Nat) (nx1 : Nat) (hx1 : shC.2[x1]? = some (0, nx1)) (r : Int32) (S9 : sS)
    (kx_35 : ∀ (ls : Array Slot) (H : Heap) (locs : List Loc), va_P g.1 classes (Sw shC g ad S9) H → va_D A (Sw shC g ad S9) → va_S A s.heap H locs → W p l e R s m args below meth c H locs cells slots Q (F0 m 35 ls [.int r])) :
    ∀ k9 : Nat, (∀ (S : sS) (L : Nat → Int32) (M : Nat → Int64) (ls : Array Slot) (H : Heap) (locs : List Loc), f_MM_hashOf x1 nx1 k9 0 S L M = some (r, S9) → lv_has ls 5 [(0, .ref (ad (shC.1.length + x1))), (1, .int (L 1)), (2, .int (L 2))] → va_P g.1 classes (Sw shC g ad S) H → va_D A (Sw shC g ad S) → va_S A s.heap H locs → W p l e R s m args below meth c H locs cells slots Q (F0 m 0 ls [])) ∧ (∀ (S : sS) (L : Nat → Int32) (M : Nat → Int64) (ls : Array Slot) (H : Heap) (locs : List Loc), f_MM_hashOf x1 nx1 k9 1 S L M = some (r, S9) → lv_has ls 5 [(0, .ref (ad (shC.1.length + x1))), (1, .int (L 1)), (2, .int (L 2)), (3, .int (L 3)), (4, .int (L 4))] → va_P g.1 classes (Sw shC g ad S) H → va_D A (Sw shC g ad S) → va_S A s.heap H locs → W p l e R s m args below meth c H locs cells slots Q (F0 m 5 ls [])) := by
  intro k9
  induction k9 with
  | zero => exact ⟨(fun _ _ _ _ _ _ h => by simp [f_MM_hashOf] at h), (fun _ _ _ _ _ _ h => by simp [f_MM_hashOf] at h)⟩
  | succ k9 ih =>
    refine ⟨?_, ?_⟩
    · intro S L M ls H locs h hl hP hD hS
      simp only [f_MM_hashOf] at h
      refine lv_iload_n hx hb d_MM_hashOf_0 rfl (lv_at hl 2 rfl) ?_
      refine lv_istore_n (lv' := [(3, .int (L 2)), (0, .ref (ad (shC.1.length + x1))), (1, .int (L 1)), (2, .int (L 2))]) hx hb d_MM_hashOf_1 rfl hl (by decide) rfl (fun ls hl => ?_)
      refine lv_iconst (v := 0) hx hb d_MM_hashOf_2 (by decide) ?_
      refine lv_istore (lv' := [(4, .int 0), (3, .int (L 2)), (0, .ref (ad (shC.1.length + x1))), (1, .int (L 1)), (2, .int (L 2))]) hx hb d_MM_hashOf_3 hl (by decide) rfl (fun ls hl => ?_)
      exact (ih.2) S (upd (upd L 3 (L 2)) 4 (0 : Int32)) M ls H locs h (lv_sub hl [2, 3, 4, 1, 0] rfl) hP hD hS
    · intro S L M ls H locs h hl hP hD hS
      simp only [f_MM_hashOf] at h
      refine lv_iload hx hb d_MM_hashOf_5 (lv_at hl 4 rfl) ?_
      refine lv_iload_n hx hb d_MM_hashOf_7 rfl (lv_at hl 2 rfl) ?_
      refine lv_icmp_ge (tgt := 29) hx hb d_MM_hashOf_8 (by decide) (fun hc1 => ?_) (fun hc1 => ?_)
      · rw [if_pos hc1] at h
        refine lv_iload_n hx hb d_MM_hashOf_29 rfl (lv_at hl 3 rfl) ?_
        refine lv_iload_n hx hb d_MM_hashOf_30 rfl (lv_at hl 3 rfl) ?_
        refine lv_bipush (v := 15) hx hb d_MM_hashOf_31 (by decide) ?_
        refine lv_iushr (v := ((L 3).toUInt32 >>> ((15 : Int32).toUInt32 &&& Int32.toUInt32 31)).toInt32) hx hb d_MM_hashOf_33 rfl ?_
        refine lv_ixor hx hb d_MM_hashOf_34 ?_
        cases h
        exact kx_35 ls H locs hP hD hS
      · rw [if_neg hc1] at h
        refine lv_iload_n hx hb d_MM_hashOf_11 rfl (lv_at hl 3 rfl) ?_
        refine lv_bipush (v := 31) hx hb d_MM_hashOf_12 (by decide) ?_
        refine lv_imul hx hb d_MM_hashOf_14 ?_
        refine lv_aload_n hx hb d_MM_hashOf_15 rfl (lv_at hl 0 rfl) ?_
        refine lv_iload_n hx hb d_MM_hashOf_16 rfl (lv_at hl 1 rfl) ?_
        refine lv_iload hx hb d_MM_hashOf_17 (lv_at hl 4 rfl) ?_
        refine lv_iadd hx hb d_MM_hashOf_19 ?_
        obtain ⟨hv2, h⟩ := chk h
        refine S_bald (h := shC) (i := (L 1) + (L 4)) hx hb hK hP x1 hx1 (okI_in hv2) d_MM_hashOf_20 ?_
        refine lv_iadd hx hb d_MM_hashOf_21 ?_
        show W _ _ _ _ _ _ _ _ _ _ _ _ _ _ _ (F0 _ 22 _ _)
        refine lv_istore_n (lv' := [(3, .int (((L 3) * (31 : Int32)) + (S.2.1 x1 ((L 1) + (L 4) : Int32).toNatClampNeg))), (0, .ref (ad (shC.1.length + x1))), (1, .int (L 1)), (2, .int (L 2)), (4, .int (L 4))]) hx hb d_MM_hashOf_22 rfl hl (by decide) rfl (fun ls hl => ?_)
        refine lv_iinc (k := 4) (v := (L 4) + 1) (lv' := [(4, .int ((L 4) + 1)), (3, .int (((L 3) * (31 : Int32)) + (S.2.1 x1 ((L 1) + (L 4) : Int32).toNatClampNeg))), (0, .ref (ad (shC.1.length + x1))), (1, .int (L 1)), (2, .int (L 2))]) hx hb d_MM_hashOf_23 hl rfl rfl (by decide) rfl (fun ls hl => ?_)
        refine lv_goto (tgt := 5) hx hb d_MM_hashOf_26 (by decide) ?_
        exact (ih.2) S (upd (upd L 3 (((L 3) * (31 : Int32)) + (S.2.1 x1 ((L 1) + (L 4) : Int32).toNatClampNeg))) 4 ((L 4) + 1)) M ls H locs h (lv_sub hl [2, 3, 4, 1, 0] rfl) hP hD hS
abbrev rm_t_MM_hashOf : Room := { frames := 0, cells := 0, slots := 0, locals := 0 }
theorem t_MM_hashOf (l : Launch) (g : gG) (sz : Nat) (ad : Nat → Nat) (S : sS) (x1 : Nat) (nx1 : Nat) (v2 : Int32) (v3 : Int32) (hx1 : shC.2[x1]? = some (0, nx1)) (k : Nat) (r : Int32) (S9 : sS) (h : f_MM_hashOf x1 nx1 k 0 S (upd (upd (fun _ => 0) 1 v2) 2 v3) (fun _ => 0) = some (r, S9)) : Ci l y_MM_hashOf b_MM_hashOf 5 rm_t_MM_hashOf g [.ref (ad (shC.1.length + x1)), .int v2, .int v3] (Sw shC g ad S) sz (fun r1 w => ∃ S1 : sS, w = Sw shC g ad S1 ∧ r1 = r ∧ S1 = S9) := by
  refine startI (by decide) (Nat.le_of_ble_eq_true rfl) ?_
  intro p e s m below meth c A ls hx hb hr hml hlocks hmn hown htt hN hA hP hK hD hS hl
  exact (w_MM_hashOf hx hb hml hown htt hK hN hA x1 nx1 hx1 r S9 (fun ls H locs hP hD hS => fin_i (g := g) (ws := Sw shC g ad S9) hx hb hr hlocks (by decide +kernel) (by decide +kernel) hP hD hS ⟨_, rfl, rfl, rfl⟩ d_MM_hashOf_35) k).1 S (upd (upd (fun _ => 0) 1 v2) 2 v3) (fun _ => 0) ls _ _ h hl hP hD hS
def f_MM_areSame (x1 : Nat) (nx1 : Nat) (x3 : Nat) (nx3 : Nat) : Nat → Nat → sS → (Nat → Int32) → (Nat → Int64) → Option (Int32 × sS)
  | 0, _, _, _, _ => none
  | k + 1, 0, S, L, M => f_MM_areSame x1 nx1 x3 nx3 k 1 S (upd L 5 (0 : Int32)) M
  | k + 1, 1, S, L, M => if (L 4) ≤ (L 5) then (some ((1 : Int32), S)) else (if okI ((L 1) + (L 5)) nx1 = true then (if okI ((L 3) + (L 5)) nx3 = true then (if (S.2.1 x1 ((L 1) + (L 5) : Int32).toNatClampNeg) = (S.2.1 x3 ((L 3) + (L 5) : Int32).toNatClampNeg) then (f_MM_areSame x1 nx1 x3 nx3 k 1 S (upd L 5 ((L 5) + 1)) M) else (some ((0 : Int32), S))) else none) else none)
  | _ + 1, _ + 2, _, _, _ => none
set_option maxHeartbeats 8000000 in
set_option maxRecDepth 100000 in
theorem w_MM_areSame {p : Program} {l : Launch} {e : Env} {R : Room} {s : State} {m : MethodId} {args : Array Value} {below : List Frame} {meth : Method} {c : Code} {cells slots : Nat} {Q : State → Prop} {g : gG} {A : Nat → Prop} {ad : Nat → Nat} (hx : p.tables.exec = Jvm.exec) (hb : c.code = b_MM_areSame) (hml : c.maxLocals = 6) (hown : s.vm.findClass "MacroMill" = some m.cls) (htt : ∀ w ∈ gt, w.before args s = true) (hK : va_K g.1 classes (tysG g) s) (hN : nw s) (hA : ∀ q : Nat, s.heap.size ≤ q → A q) (x1 : Nat) (nx1 : Nat) (x3 : Nat) (nx3 : Nat) (hx1 : shC.2[x1]? = some (0, nx1)) (hx3 : shC.2[x3]? = some (0, nx3)) (r : Int32) (S9 : sS)
    (kx_26 : ∀ (ls : Array Slot) (H : Heap) (locs : List Loc), narrow .boolean (.int r) = .int r → va_P g.1 classes (Sw shC g ad S9) H → va_D A (Sw shC g ad S9) → va_S A s.heap H locs → W p l e R s m args below meth c H locs cells slots Q (F0 m 26 ls [.int r]))
    (kx_34 : ∀ (ls : Array Slot) (H : Heap) (locs : List Loc), narrow .boolean (.int r) = .int r → va_P g.1 classes (Sw shC g ad S9) H → va_D A (Sw shC g ad S9) → va_S A s.heap H locs → W p l e R s m args below meth c H locs cells slots Q (F0 m 34 ls [.int r])) :
    ∀ k9 : Nat, (∀ (S : sS) (L : Nat → Int32) (M : Nat → Int64) (ls : Array Slot) (H : Heap) (locs : List Loc), f_MM_areSame x1 nx1 x3 nx3 k9 0 S L M = some (r, S9) → lv_has ls 6 [(0, .ref (ad (shC.1.length + x1))), (1, .int (L 1)), (2, .ref (ad (shC.1.length + x3))), (3, .int (L 3)), (4, .int (L 4))] → va_P g.1 classes (Sw shC g ad S) H → va_D A (Sw shC g ad S) → va_S A s.heap H locs → W p l e R s m args below meth c H locs cells slots Q (F0 m 0 ls [])) ∧ (∀ (S : sS) (L : Nat → Int32) (M : Nat → Int64) (ls : Array Slot) (H : Heap) (locs : List Loc), f_MM_areSame x1 nx1 x3 nx3 k9 1 S L M = some (r, S9) → lv_has ls 6 [(0, .ref (ad (shC.1.length + x1))), (1, .int (L 1)), (2, .ref (ad (shC.1.length + x3))), (3, .int (L 3)), (4, .int (L 4)), (5, .int (L 5))] → va_P g.1 classes (Sw shC g ad S) H → va_D A (Sw shC g ad S) → va_S A s.heap H locs → W p l e R s m args below meth c H locs cells slots Q (F0 m 3 ls [])) := by
  intro k9
  induction k9 with
  | zero => exact ⟨(fun _ _ _ _ _ _ h => by simp [f_MM_areSame] at h), (fun _ _ _ _ _ _ h => by simp [f_MM_areSame] at h)⟩
  | succ k9 ih =>
    refine ⟨?_, ?_⟩
    · intro S L M ls H locs h hl hP hD hS
      simp only [f_MM_areSame] at h
      refine lv_iconst (v := 0) hx hb d_MM_areSame_0 (by decide) ?_
      refine lv_istore (lv' := [(5, .int 0), (0, .ref (ad (shC.1.length + x1))), (1, .int (L 1)), (2, .ref (ad (shC.1.length + x3))), (3, .int (L 3)), (4, .int (L 4))]) hx hb d_MM_areSame_1 hl (by decide) rfl (fun ls hl => ?_)
      exact (ih.2) S (upd L 5 (0 : Int32)) M ls H locs h (lv_sub hl [1, 2, 3, 4, 5, 0] rfl) hP hD hS
    · intro S L M ls H locs h hl hP hD hS
      simp only [f_MM_areSame] at h
      refine lv_iload hx hb d_MM_areSame_3 (lv_at hl 5 rfl) ?_
      refine lv_iload hx hb d_MM_areSame_5 (lv_at hl 4 rfl) ?_
      refine lv_icmp_ge (tgt := 33) hx hb d_MM_areSame_7 (by decide) (fun hc1 => ?_) (fun hc1 => ?_)
      · rw [if_pos hc1] at h
        refine lv_iconst (v := 1) hx hb d_MM_areSame_33 (by decide) ?_
        cases h
        exact kx_34 ls H locs rfl hP hD hS
      · rw [if_neg hc1] at h
        refine lv_aload_n hx hb d_MM_areSame_10 rfl (lv_at hl 0 rfl) ?_
        refine lv_iload_n hx hb d_MM_areSame_11 rfl (lv_at hl 1 rfl) ?_
        refine lv_iload hx hb d_MM_areSame_12 (lv_at hl 5 rfl) ?_
        refine lv_iadd hx hb d_MM_areSame_14 ?_
        obtain ⟨hv2, h⟩ := chk h
        refine S_bald (h := shC) (i := (L 1) + (L 5)) hx hb hK hP x1 hx1 (okI_in hv2) d_MM_areSame_15 ?_
        refine lv_aload_n hx hb d_MM_areSame_16 rfl (lv_at hl 2 rfl) ?_
        refine lv_iload_n hx hb d_MM_areSame_17 rfl (lv_at hl 3 rfl) ?_
        refine lv_iload hx hb d_MM_areSame_18 (lv_at hl 5 rfl) ?_
        refine lv_iadd hx hb d_MM_areSame_20 ?_
        obtain ⟨hv3, h⟩ := chk h
        show W _ _ _ _ _ _ _ _ _ _ _ _ _ _ _ (F0 _ 21 _ _)
        refine S_bald (h := shC) (i := (L 3) + (L 5)) hx hb hK hP x3 hx3 (okI_in hv3) d_MM_areSame_21 ?_
        refine lv_icmp_eq (tgt := 27) hx hb d_MM_areSame_22 (by decide) (fun hc4 => ?_) (fun hc4 => ?_)
        · rw [if_pos hc4] at h
          refine lv_iinc (k := 5) (v := (L 5) + 1) (lv' := [(5, .int ((L 5) + 1)), (0, .ref (ad (shC.1.length + x1))), (1, .int (L 1)), (2, .ref (ad (shC.1.length + x3))), (3, .int (L 3)), (4, .int (L 4))]) hx hb d_MM_areSame_27 hl rfl rfl (by decide) rfl (fun ls hl => ?_)
          refine lv_goto (tgt := 3) hx hb d_MM_areSame_30 (by decide) ?_
          exact (ih.2) S (upd L 5 ((L 5) + 1)) M ls H locs h (lv_sub hl [1, 2, 3, 4, 5, 0] rfl) hP hD hS
        · rw [if_neg hc4] at h
          refine lv_iconst (v := 0) hx hb d_MM_areSame_25 (by decide) ?_
          cases h
          exact kx_26 ls H locs rfl hP hD hS
abbrev rm_t_MM_areSame : Room := { frames := 0, cells := 0, slots := 0, locals := 0 }
theorem t_MM_areSame (l : Launch) (g : gG) (sz : Nat) (ad : Nat → Nat) (S : sS) (x1 : Nat) (nx1 : Nat) (x3 : Nat) (nx3 : Nat) (v2 : Int32) (v4 : Int32) (v5 : Int32) (hx1 : shC.2[x1]? = some (0, nx1)) (hx3 : shC.2[x3]? = some (0, nx3)) (k : Nat) (r : Int32) (S9 : sS) (h : f_MM_areSame x1 nx1 x3 nx3 k 0 S (upd (upd (upd (fun _ => 0) 1 v2) 3 v4) 4 v5) (fun _ => 0) = some (r, S9)) : Cz l y_MM_areSame b_MM_areSame 6 rm_t_MM_areSame g [.ref (ad (shC.1.length + x1)), .int v2, .ref (ad (shC.1.length + x3)), .int v4, .int v5] (Sw shC g ad S) sz (fun r1 w => ∃ S1 : sS, w = Sw shC g ad S1 ∧ r1 = r ∧ S1 = S9) := by
  refine startZ (by decide) (Nat.le_of_ble_eq_true rfl) ?_
  intro p e s m below meth c A ls hx hb hr hml hlocks hmn hown htt hN hA hP hK hD hS hl
  exact (w_MM_areSame hx hb hml hown htt hK hN hA x1 nx1 x3 nx3 hx1 hx3 r S9 (fun ls H locs hz hP hD hS => fin_z (g := g) (ws := Sw shC g ad S9) hx hb hr hlocks hz (by decide +kernel) (by decide +kernel) hP hD hS ⟨_, rfl, rfl, rfl⟩ d_MM_areSame_26) (fun ls H locs hz hP hD hS => fin_z (g := g) (ws := Sw shC g ad S9) hx hb hr hlocks hz (by decide +kernel) (by decide +kernel) hP hD hS ⟨_, rfl, rfl, rfl⟩ d_MM_areSame_34) k).1 S (upd (upd (upd (fun _ => 0) 1 v2) 3 v4) 4 v5) (fun _ => 0) ls _ _ h hl hP hD hS
def f_Mod_isNamed (x2 : Nat) (nx2 : Nat) : Nat → Nat → sS → (Nat → Int32) → (Nat → Int64) → Option (Int32 × sS)
  | 0, _, _, _, _ => none
  | k + 1, 0, S, L, M => if okI (L 1) 340 = true then (if (S.2.1 13 (L 1 : Int32).toNatClampNeg) = (L 4) then (f_Mod_isNamed x2 nx2 k 1 S (upd L 100 (1 : Int32)) M) else (f_Mod_isNamed x2 nx2 k 1 S (upd L 100 (0 : Int32)) M)) else none
  | k + 1, 1, S, L, M => f_Mod_isNamed x2 nx2 k 2 S (upd (upd L 5 (L 100)) 6 (0 : Int32)) M
  | k + 1, 2, S, L, M => if (L 4) ≤ (L 6) then (f_Mod_isNamed x2 nx2 k 4 S L M) else (if (L 5) = (0 : Int32) then (f_Mod_isNamed x2 nx2 k 4 S L M) else (if okI (L 1) 340 = true then (if okI ((S.2.1 12 (L 1 : Int32).toNatClampNeg) + (L 6)) 16684 = true then (if okI ((L 3) + (L 6)) nx2 = true then (if (S.2.1 16 ((S.2.1 12 (L 1 : Int32).toNatClampNeg) + (L 6) : Int32).toNatClampNeg) = (S.2.1 x2 ((L 3) + (L 6) : Int32).toNatClampNeg) then (f_Mod_isNamed x2 nx2 k 3 S (upd L 100 (1 : Int32)) M) else (f_Mod_isNamed x2 nx2 k 3 S (upd L 100 (0 : Int32)) M)) else none) else none) else none))
  | k + 1, 3, S, L, M => f_Mod_isNamed x2 nx2 k 2 S (upd (upd L 5 (L 100)) 6 ((L 6) + 1)) M
  | k + 1, 4, S, L, M => if bz (L 5) = true then some (L 5, S) else none
  | _ + 1, _ + 5, _, _, _ => none
set_option maxHeartbeats 8000000 in
set_option maxRecDepth 100000 in
theorem w_Mod_isNamed {p : Program} {l : Launch} {e : Env} {R : Room} {s : State} {m : MethodId} {args : Array Value} {below : List Frame} {meth : Method} {c : Code} {cells slots : Nat} {Q : State → Prop} {g : gG} {A : Nat → Prop} {ad : Nat → Nat} (hx : p.tables.exec = Jvm.exec) (hb : c.code = b_Mod_isNamed) (hml : c.maxLocals = 7) (hown : s.vm.findClass "MacroMillModel" = some m.cls) (htt : ∀ w ∈ gt, w.before args s = true) (hK : va_K g.1 classes (tysG g) s) (hN : nw s) (hA : ∀ q : Nat, s.heap.size ≤ q → A q) (x2 : Nat) (nx2 : Nat) (hx2 : shM.2[x2]? = some (0, nx2)) (r : Int32) (S9 : sS)
    (kx_71 : ∀ (ls : Array Slot) (H : Heap) (locs : List Loc), narrow .boolean (.int r) = .int r → va_P g.1 classes (Sw shM g ad S9) H → va_D A (Sw shM g ad S9) → va_S A s.heap H locs → W p l e R s m args below meth c H locs cells slots Q (F0 m 71 ls [.int r])) :
    ∀ k9 : Nat, (∀ (S : sS) (L : Nat → Int32) (M : Nat → Int64) (ls : Array Slot) (H : Heap) (locs : List Loc), f_Mod_isNamed x2 nx2 k9 0 S L M = some (r, S9) → lv_has ls 7 [(0, .ref (ad 0)), (1, .int (L 1)), (2, .ref (ad (shM.1.length + x2))), (3, .int (L 3)), (4, .int (L 4))] → va_P g.1 classes (Sw shM g ad S) H → va_D A (Sw shM g ad S) → va_S A s.heap H locs → W p l e R s m args below meth c H locs cells slots Q (F0 m 0 ls [])) ∧ (∀ (S : sS) (L : Nat → Int32) (M : Nat → Int64) (ls : Array Slot) (H : Heap) (locs : List Loc), f_Mod_isNamed x2 nx2 k9 1 S L M = some (r, S9) → lv_has ls 7 [(0, .ref (ad 0)), (1, .int (L 1)), (2, .ref (ad (shM.1.length + x2))), (3, .int (L 3)), (4, .int (L 4))] → va_P g.1 classes (Sw shM g ad S) H → va_D A (Sw shM g ad S) → va_S A s.heap H locs → W p l e R s m args below meth c H locs cells slots Q (F0 m 16 ls [.int (L 100)])) ∧ (∀ (S : sS) (L : Nat → Int32) (M : Nat → Int64) (ls : Array Slot) (H : Heap) (locs : List Loc), f_Mod_isNamed x2 nx2 k9 2 S L M = some (r, S9) → lv_has ls 7 [(0, .ref (ad 0)), (1, .int (L 1)), (2, .ref (ad (shM.1.length + x2))), (3, .int (L 3)), (4, .int (L 4)), (5, .int (L 5)), (6, .int (L 6))] → va_P g.1 classes (Sw shM g ad S) H → va_D A (Sw shM g ad S) → va_S A s.heap H locs → W p l e R s m args below meth c H locs cells slots Q (F0 m 21 ls [])) ∧ (∀ (S : sS) (L : Nat → Int32) (M : Nat → Int64) (ls : Array Slot) (H : Heap) (locs : List Loc), f_Mod_isNamed x2 nx2 k9 3 S L M = some (r, S9) → lv_has ls 7 [(0, .ref (ad 0)), (1, .int (L 1)), (2, .ref (ad (shM.1.length + x2))), (3, .int (L 3)), (4, .int (L 4)), (5, .int (L 5)), (6, .int (L 6))] → va_P g.1 classes (Sw shM g ad S) H → va_D A (Sw shM g ad S) → va_S A s.heap H locs → W p l e R s m args below meth c H locs cells slots Q (F0 m 61 ls [.int (L 100)])) ∧ (∀ (S : sS) (L : Nat → Int32) (M : Nat → Int64) (ls : Array Slot) (H : Heap) (locs : List Loc), f_Mod_isNamed x2 nx2 k9 4 S L M = some (r, S9) → lv_has ls 7 [(0, .ref (ad 0)), (1, .int (L 1)), (2, .ref (ad (shM.1.length + x2))), (3, .int (L 3)), (4, .int (L 4)), (5, .int (L 5)), (6, .int (L 6))] → va_P g.1 classes (Sw shM g ad S) H → va_D A (Sw shM g ad S) → va_S A s.heap H locs → W p l e R s m args below meth c H locs cells slots Q (F0 m 69 ls [])) := by
  intro k9
  induction k9 with
  | zero => exact ⟨(fun _ _ _ _ _ _ h => by simp [f_Mod_isNamed] at h), (fun _ _ _ _ _ _ h => by simp [f_Mod_isNamed] at h), (fun _ _ _ _ _ _ h => by simp [f_Mod_isNamed] at h), (fun _ _ _ _ _ _ h => by simp [f_Mod_isNamed] at h), (fun _ _ _ _ _ _ h => by simp [f_Mod_isNamed] at h)⟩
  | succ k9 ih =>
    refine ⟨?_, ?_, ?_, ?_, ?_⟩
    · intro S L M ls H locs h hl hP hD hS
      simp only [f_Mod_isNamed] at h
      refine lv_aload_n hx hb d_Mod_isNamed_0 rfl (lv_at hl 0 rfl) ?_
      refine S_getR (h := shM) (C := "MacroMillModel") (T := F_Mod) hx hb htt in_Mod hown hK hP 0 36 rfl 14 rfl rfl (by decide) (htt _ k_2272) (fun _ h9 => h9) d_Mod_isNamed_1 ?_
      refine lv_iload_n hx hb d_Mod_isNamed_4 rfl (lv_at hl 1 rfl) ?_
      obtain ⟨hv1, h⟩ := chk h
      refine S_iald (h := shM) (i := L 1) hx hb hK hP 13 rfl (okI_in hv1) d_Mod_isNamed_5 ?_
      refine lv_iload hx hb d_Mod_isNamed_6 (lv_at hl 4 rfl) ?_
      refine lv_icmp_ne (tgt := 15) hx hb d_Mod_isNamed_8 (by decide) (fun hc2 => ?_) (fun hc2 => ?_)
      · rw [if_neg hc2] at h
        refine lv_iconst (v := 0) hx hb d_Mod_isNamed_15 (by decide) ?_
        exact (ih.2.1) S (upd L 100 (0 : Int32)) M ls H locs h (lv_sub hl [0, 1, 2, 3, 4] rfl) hP hD hS
      · rw [if_pos hc2] at h
        refine lv_iconst (v := 1) hx hb d_Mod_isNamed_11 (by decide) ?_
        refine lv_goto (tgt := 16) hx hb d_Mod_isNamed_12 (by decide) ?_
        exact (ih.2.1) S (upd L 100 (1 : Int32)) M ls H locs h (lv_sub hl [0, 1, 2, 3, 4] rfl) hP hD hS
    · intro S L M ls H locs h hl hP hD hS
      simp only [f_Mod_isNamed] at h
      refine lv_istore (lv' := [(5, .int (L 100)), (0, .ref (ad 0)), (1, .int (L 1)), (2, .ref (ad (shM.1.length + x2))), (3, .int (L 3)), (4, .int (L 4))]) hx hb d_Mod_isNamed_16 hl (by decide) rfl (fun ls hl => ?_)
      refine lv_iconst (v := 0) hx hb d_Mod_isNamed_18 (by decide) ?_
      refine lv_istore (lv' := [(6, .int 0), (5, .int (L 100)), (0, .ref (ad 0)), (1, .int (L 1)), (2, .ref (ad (shM.1.length + x2))), (3, .int (L 3)), (4, .int (L 4))]) hx hb d_Mod_isNamed_19 hl (by decide) rfl (fun ls hl => ?_)
      exact (ih.2.2.1) S (upd (upd L 5 (L 100)) 6 (0 : Int32)) M ls H locs h (lv_sub hl [2, 3, 4, 5, 6, 1, 0] rfl) hP hD hS
    · intro S L M ls H locs h hl hP hD hS
      simp only [f_Mod_isNamed] at h
      refine lv_iload hx hb d_Mod_isNamed_21 (lv_at hl 6 rfl) ?_
      refine lv_iload hx hb d_Mod_isNamed_23 (lv_at hl 4 rfl) ?_
      refine lv_icmp_ge (tgt := 69) hx hb d_Mod_isNamed_25 (by decide) (fun hc1 => ?_) (fun hc1 => ?_)
      · rw [if_pos hc1] at h
        exact (ih.2.2.2.2) S L M ls H locs h (lv_sub hl [0, 1, 2, 3, 4, 5, 6] rfl) hP hD hS
      · rw [if_neg hc1] at h
        refine lv_iload hx hb d_Mod_isNamed_28 (lv_at hl 5 rfl) ?_
        refine lv_if_eq (tgt := 69) hx hb d_Mod_isNamed_30 (by decide) (fun hc2 => ?_) (fun hc2 => ?_)
        · rw [if_pos hc2] at h
          exact (ih.2.2.2.2) S L M ls H locs h (lv_sub hl [0, 1, 2, 3, 4, 5, 6] rfl) hP hD hS
        · rw [if_neg hc2] at h
          refine lv_aload_n hx hb d_Mod_isNamed_33 rfl (lv_at hl 0 rfl) ?_
          refine S_getR (h := shM) (C := "MacroMillModel") (T := F_Mod) hx hb htt in_Mod hown hK hP 0 39 rfl 17 rfl rfl (by decide) (htt _ k_2275) (fun _ h9 => h9) d_Mod_isNamed_34 ?_
          refine lv_aload_n hx hb d_Mod_isNamed_37 rfl (lv_at hl 0 rfl) ?_
          refine S_getR (h := shM) (C := "MacroMillModel") (T := F_Mod) hx hb htt in_Mod hown hK hP 0 35 rfl 13 rfl rfl (by decide) (htt _ k_2271) (fun _ h9 => h9) d_Mod_isNamed_38 ?_
          refine lv_iload_n hx hb d_Mod_isNamed_41 rfl (lv_at hl 1 rfl) ?_
          obtain ⟨hv3, h⟩ := chk h
          refine S_iald (h := shM) (i := L 1) hx hb hK hP 12 rfl (okI_in hv3) d_Mod_isNamed_42 ?_
          refine lv_iload hx hb d_Mod_isNamed_43 (lv_at hl 6 rfl) ?_
          refine lv_iadd hx hb d_Mod_isNamed_45 ?_
          obtain ⟨hv4, h⟩ := chk h
          show W _ _ _ _ _ _ _ _ _ _ _ _ _ _ _ (F0 _ 46 _ _)
          refine S_bald (h := shM) (i := (S.2.1 12 (L 1 : Int32).toNatClampNeg) + (L 6)) hx hb hK hP 16 rfl (okI_in hv4) d_Mod_isNamed_46 ?_
          refine lv_aload_n hx hb d_Mod_isNamed_47 rfl (lv_at hl 2 rfl) ?_
          refine lv_iload_n hx hb d_Mod_isNamed_48 rfl (lv_at hl 3 rfl) ?_
          refine lv_iload hx hb d_Mod_isNamed_49 (lv_at hl 6 rfl) ?_
          refine lv_iadd hx hb d_Mod_isNamed_51 ?_
          obtain ⟨hv5, h⟩ := chk h
          refine S_bald (h := shM) (i := (L 3) + (L 6)) hx hb hK hP x2 hx2 (okI_in hv5) d_Mod_isNamed_52 ?_
          refine lv_icmp_ne (tgt := 60) hx hb d_Mod_isNamed_53 (by decide) (fun hc6 => ?_) (fun hc6 => ?_)
          · rw [if_neg hc6] at h
            refine lv_iconst (v := 0) hx hb d_Mod_isNamed_60 (by decide) ?_
            exact (ih.2.2.2.1) S (upd L 100 (0 : Int32)) M ls H locs h (lv_sub hl [0, 1, 2, 3, 4, 5, 6] rfl) hP hD hS
          · rw [if_pos hc6] at h
            refine lv_iconst (v := 1) hx hb d_Mod_isNamed_56 (by decide) ?_
            refine lv_goto (tgt := 61) hx hb d_Mod_isNamed_57 (by decide) ?_
            exact (ih.2.2.2.1) S (upd L 100 (1 : Int32)) M ls H locs h (lv_sub hl [0, 1, 2, 3, 4, 5, 6] rfl) hP hD hS
    · intro S L M ls H locs h hl hP hD hS
      simp only [f_Mod_isNamed] at h
      refine lv_istore (lv' := [(5, .int (L 100)), (0, .ref (ad 0)), (1, .int (L 1)), (2, .ref (ad (shM.1.length + x2))), (3, .int (L 3)), (4, .int (L 4)), (6, .int (L 6))]) hx hb d_Mod_isNamed_61 hl (by decide) rfl (fun ls hl => ?_)
      refine lv_iinc (k := 6) (v := (L 6) + 1) (lv' := [(6, .int ((L 6) + 1)), (5, .int (L 100)), (0, .ref (ad 0)), (1, .int (L 1)), (2, .ref (ad (shM.1.length + x2))), (3, .int (L 3)), (4, .int (L 4))]) hx hb d_Mod_isNamed_63 hl rfl rfl (by decide) rfl (fun ls hl => ?_)
      refine lv_goto (tgt := 21) hx hb d_Mod_isNamed_66 (by decide) ?_
      exact (ih.2.2.1) S (upd (upd L 5 (L 100)) 6 ((L 6) + 1)) M ls H locs h (lv_sub hl [2, 3, 4, 5, 6, 1, 0] rfl) hP hD hS
    · intro S L M ls H locs h hl hP hD hS
      simp only [f_Mod_isNamed] at h
      refine lv_iload hx hb d_Mod_isNamed_69 (lv_at hl 5 rfl) ?_
      obtain ⟨hv1, h⟩ := chk h
      cases h
      exact kx_71 ls H locs (bz_n hv1) hP hD hS
abbrev rm_t_Mod_isNamed : Room := { frames := 0, cells := 0, slots := 0, locals := 0 }
theorem t_Mod_isNamed (l : Launch) (g : gG) (sz : Nat) (ad : Nat → Nat) (S : sS) (x2 : Nat) (nx2 : Nat) (v1 : Int32) (v3 : Int32) (v4 : Int32) (hx2 : shM.2[x2]? = some (0, nx2)) (k : Nat) (r : Int32) (S9 : sS) (h : f_Mod_isNamed x2 nx2 k 0 S (upd (upd (upd (fun _ => 0) 1 v1) 3 v3) 4 v4) (fun _ => 0) = some (r, S9)) : Cz l y_Mod_isNamed b_Mod_isNamed 7 rm_t_Mod_isNamed g [.ref (ad 0), .int v1, .ref (ad (shM.1.length + x2)), .int v3, .int v4] (Sw shM g ad S) sz (fun r1 w => ∃ S1 : sS, w = Sw shM g ad S1 ∧ r1 = r ∧ S1 = S9) := by
  refine startZ (by decide) (Nat.le_of_ble_eq_true rfl) ?_
  intro p e s m below meth c A ls hx hb hr hml hlocks hmn hown htt hN hA hP hK hD hS hl
  exact (w_Mod_isNamed hx hb hml hown htt hK hN hA x2 nx2 hx2 r S9 (fun ls H locs hz hP hD hS => fin_z (g := g) (ws := Sw shM g ad S9) hx hb hr hlocks hz (by decide +kernel) (by decide +kernel) hP hD hS ⟨_, rfl, rfl, rfl⟩ d_Mod_isNamed_71) k).1 S (upd (upd (upd (fun _ => 0) 1 v1) 3 v3) 4 v4) (fun _ => 0) ls _ _ h hl hP hD hS
def f_Mod_forget : Nat → Nat → sS → (Nat → Int32) → (Nat → Int64) → Option (Int32 × sS)
  | 0, _, _, _, _ => none
  | k + 1, 0, S, L, M => if okI (L 1) 340 = true then (if okI (L 1) 340 = true then (if okI (L 1) 340 = true then (f_Mod_forget k 1 S (upd (upd L 2 ((S.2.1 13 (L 1 : Int32).toNatClampNeg) + (S.2.1 14 (L 1 : Int32).toNatClampNeg))) 3 (S.2.1 12 (L 1 : Int32).toNatClampNeg)) M) else none) else none) else none
  | k + 1, 1, S, L, M => if (S.1 0 40) ≤ ((L 3) + (L 2)) then (if okI (L 1) 340 = true then (if ((putI S 0 40 ((S.1 0 40) - (L 2))).2.1 15 (L 1 : Int32).toNatClampNeg) = (0 : Int32) then (f_Mod_forget k 2 (putI (putI (putI S 0 40 ((S.1 0 40) - (L 2))) 0 41 ((S.1 0 41) - (1 : Int32))) 0 42 ((S.1 0 42) - (L 2))) L M) else (f_Mod_forget k 2 (putI S 0 40 ((S.1 0 40) - (L 2))) L M)) else none) else (if okI ((L 3) + (L 2)) 16684 = true then (if okI (L 3) 16684 = true then (f_Mod_forget k 1 (putA S 16 (L 3 : Int32).toNatClampNeg (vp_nar .byte (S.2.1 16 ((L 3) + (L 2) : Int32).toNatClampNeg))) (upd L 3 ((L 3) + 1)) M) else none) else none)
  | k + 1, 2, S, L, M => f_Mod_forget k 3 (putI S 0 34 ((S.1 0 34) - (1 : Int32))) (upd L 3 (L 1)) M
  | k + 1, 3, S, L, M => if (S.1 0 34) ≤ (L 3) then (some ((0 : Int32), S)) else (if okI ((L 3) + (1 : Int32)) 340 = true then (if okI (L 3) 340 = true then (if okI ((L 3) + (1 : Int32)) 340 = true then (if okI (L 3) 340 = true then (if okI ((L 3) + (1 : Int32)) 340 = true then (if okI (L 3) 340 = true then (if okI ((L 3) + (1 : Int32)) 340 = true then (if okI (L 3) 340 = true then (f_Mod_forget k 3 (putA (putA (putA (putA S 12 (L 3 : Int32).toNatClampNeg ((S.2.1 12 ((L 3) + (1 : Int32) : Int32).toNatClampNeg) - (L 2))) 13 (L 3 : Int32).toNatClampNeg ((putA S 12 (L 3 : Int32).toNatClampNeg ((S.2.1 12 ((L 3) + (1 : Int32) : Int32).toNatClampNeg) - (L 2))).2.1 13 ((L 3) + (1 : Int32) : Int32).toNatClampNeg)) 14 (L 3 : Int32).toNatClampNeg ((putA (putA S 12 (L 3 : Int32).toNatClampNeg ((S.2.1 12 ((L 3) + (1 : Int32) : Int32).toNatClampNeg) - (L 2))) 13 (L 3 : Int32).toNatClampNeg ((putA S 12 (L 3 : Int32).toNatClampNeg ((S.2.1 12 ((L 3) + (1 : Int32) : Int32).toNatClampNeg) - (L 2))).2.1 13 ((L 3) + (1 : Int32) : Int32).toNatClampNeg)).2.1 14 ((L 3) + (1 : Int32) : Int32).toNatClampNeg)) 15 (L 3 : Int32).toNatClampNeg ((putA (putA (putA S 12 (L 3 : Int32).toNatClampNeg ((S.2.1 12 ((L 3) + (1 : Int32) : Int32).toNatClampNeg) - (L 2))) 13 (L 3 : Int32).toNatClampNeg ((putA S 12 (L 3 : Int32).toNatClampNeg ((S.2.1 12 ((L 3) + (1 : Int32) : Int32).toNatClampNeg) - (L 2))).2.1 13 ((L 3) + (1 : Int32) : Int32).toNatClampNeg)) 14 (L 3 : Int32).toNatClampNeg ((putA (putA S 12 (L 3 : Int32).toNatClampNeg ((S.2.1 12 ((L 3) + (1 : Int32) : Int32).toNatClampNeg) - (L 2))) 13 (L 3 : Int32).toNatClampNeg ((putA S 12 (L 3 : Int32).toNatClampNeg ((S.2.1 12 ((L 3) + (1 : Int32) : Int32).toNatClampNeg) - (L 2))).2.1 13 ((L 3) + (1 : Int32) : Int32).toNatClampNeg)).2.1 14 ((L 3) + (1 : Int32) : Int32).toNatClampNeg)).2.1 15 ((L 3) + (1 : Int32) : Int32).toNatClampNeg)) (upd L 3 ((L 3) + 1)) M) else none) else none) else none) else none) else none) else none) else none) else none)
  | _ + 1, _ + 4, _, _, _ => none
set_option maxHeartbeats 8000000 in
set_option maxRecDepth 100000 in
theorem w_Mod_forget {p : Program} {l : Launch} {e : Env} {R : Room} {s : State} {m : MethodId} {args : Array Value} {below : List Frame} {meth : Method} {c : Code} {cells slots : Nat} {Q : State → Prop} {g : gG} {A : Nat → Prop} {ad : Nat → Nat} (hx : p.tables.exec = Jvm.exec) (hb : c.code = b_Mod_forget) (hml : c.maxLocals = 4) (hown : s.vm.findClass "MacroMillModel" = some m.cls) (htt : ∀ w ∈ gt, w.before args s = true) (hK : va_K g.1 classes (tysG g) s) (hN : nw s) (hA : ∀ q : Nat, s.heap.size ≤ q → A q) (r : Int32) (S9 : sS)
    (kx_174 : ∀ (ls : Array Slot) (H : Heap) (locs : List Loc), va_P g.1 classes (Sw shM g ad S9) H → va_D A (Sw shM g ad S9) → va_S A s.heap H locs → W p l e R s m args below meth c H locs cells slots Q (F0 m 174 ls [])) :
    ∀ k9 : Nat, (∀ (S : sS) (L : Nat → Int32) (M : Nat → Int64) (ls : Array Slot) (H : Heap) (locs : List Loc), f_Mod_forget k9 0 S L M = some (r, S9) → lv_has ls 4 [(0, .ref (ad 0)), (1, .int (L 1))] → va_P g.1 classes (Sw shM g ad S) H → va_D A (Sw shM g ad S) → va_S A s.heap H locs → W p l e R s m args below meth c H locs cells slots Q (F0 m 0 ls [])) ∧ (∀ (S : sS) (L : Nat → Int32) (M : Nat → Int64) (ls : Array Slot) (H : Heap) (locs : List Loc), f_Mod_forget k9 1 S L M = some (r, S9) → lv_has ls 4 [(0, .ref (ad 0)), (1, .int (L 1)), (2, .int (L 2)), (3, .int (L 3))] → va_P g.1 classes (Sw shM g ad S) H → va_D A (Sw shM g ad S) → va_S A s.heap H locs → W p l e R s m args below meth c H locs cells slots Q (F0 m 21 ls [])) ∧ (∀ (S : sS) (L : Nat → Int32) (M : Nat → Int64) (ls : Array Slot) (H : Heap) (locs : List Loc), f_Mod_forget k9 2 S L M = some (r, S9) → lv_has ls 4 [(0, .ref (ad 0)), (1, .int (L 1)), (2, .int (L 2)), (3, .int (L 3))] → va_P g.1 classes (Sw shM g ad S) H → va_D A (Sw shM g ad S) → va_S A s.heap H locs → W p l e R s m args below meth c H locs cells slots Q (F0 m 90 ls [])) ∧ (∀ (S : sS) (L : Nat → Int32) (M : Nat → Int64) (ls : Array Slot) (H : Heap) (locs : List Loc), f_Mod_forget k9 3 S L M = some (r, S9) → lv_has ls 4 [(0, .ref (ad 0)), (1, .int (L 1)), (2, .int (L 2)), (3, .int (L 3))] → va_P g.1 classes (Sw shM g ad S) H → va_D A (Sw shM g ad S) → va_S A s.heap H locs → W p l e R s m args below meth c H locs cells slots Q (F0 m 102 ls [])) := by
  intro k9
  induction k9 with
  | zero => exact ⟨(fun _ _ _ _ _ _ h => by simp [f_Mod_forget] at h), (fun _ _ _ _ _ _ h => by simp [f_Mod_forget] at h), (fun _ _ _ _ _ _ h => by simp [f_Mod_forget] at h), (fun _ _ _ _ _ _ h => by simp [f_Mod_forget] at h)⟩
  | succ k9 ih =>
    refine ⟨?_, ?_, ?_, ?_⟩
    · intro S L M ls H locs h hl hP hD hS
      simp only [f_Mod_forget] at h
      refine lv_aload_n hx hb d_Mod_forget_0 rfl (lv_at hl 0 rfl) ?_
      refine S_getR (h := shM) (C := "MacroMillModel") (T := F_Mod) hx hb htt in_Mod hown hK hP 0 36 rfl 14 rfl rfl (by decide) (htt _ k_2272) (fun _ h9 => h9) d_Mod_forget_1 ?_
      refine lv_iload_n hx hb d_Mod_forget_4 rfl (lv_at hl 1 rfl) ?_
      obtain ⟨hv1, h⟩ := chk h
      refine S_iald (h := shM) (i := L 1) hx hb hK hP 13 rfl (okI_in hv1) d_Mod_forget_5 ?_
      refine lv_aload_n hx hb d_Mod_forget_6 rfl (lv_at hl 0 rfl) ?_
      refine S_getR (h := shM) (C := "MacroMillModel") (T := F_Mod) hx hb htt in_Mod hown hK hP 0 37 rfl 15 rfl rfl (by decide) (htt _ k_2273) (fun _ h9 => h9) d_Mod_forget_7 ?_
      refine lv_iload_n hx hb d_Mod_forget_10 rfl (lv_at hl 1 rfl) ?_
      obtain ⟨hv2, h⟩ := chk h
      refine S_iald (h := shM) (i := L 1) hx hb hK hP 14 rfl (okI_in hv2) d_Mod_forget_11 ?_
      refine lv_iadd hx hb d_Mod_forget_12 ?_
      refine lv_istore_n (lv' := [(2, .int ((S.2.1 13 (L 1 : Int32).toNatClampNeg) + (S.2.1 14 (L 1 : Int32).toNatClampNeg))), (0, .ref (ad 0)), (1, .int (L 1))]) hx hb d_Mod_forget_13 rfl hl (by decide) rfl (fun ls hl => ?_)
      refine lv_aload_n hx hb d_Mod_forget_14 rfl (lv_at hl 1 rfl) ?_
      show W _ _ _ _ _ _ _ _ _ _ _ _ _ _ _ (F0 _ 15 _ _)
      refine S_getR (h := shM) (C := "MacroMillModel") (T := F_Mod) hx hb htt in_Mod hown hK hP 0 35 rfl 13 rfl rfl (by decide) (htt _ k_2271) (fun _ h9 => h9) d_Mod_forget_15 ?_
      refine lv_iload_n hx hb d_Mod_forget_18 rfl (lv_at hl 2 rfl) ?_
      obtain ⟨hv3, h⟩ := chk h
      refine S_iald (h := shM) (i := L 1) hx hb hK hP 12 rfl (okI_in hv3) d_Mod_forget_19 ?_
      refine lv_istore_n (lv' := [(3, .int (S.2.1 12 (L 1 : Int32).toNatClampNeg)), (2, .int ((S.2.1 13 (L 1 : Int32).toNatClampNeg) + (S.2.1 14 (L 1 : Int32).toNatClampNeg))), (0, .ref (ad 0)), (1, .int (L 1))]) hx hb d_Mod_forget_20 rfl hl (by decide) rfl (fun ls hl => ?_)
      exact (ih.2.1) S (upd (upd L 2 ((S.2.1 13 (L 1 : Int32).toNatClampNeg) + (S.2.1 14 (L 1 : Int32).toNatClampNeg))) 3 (S.2.1 12 (L 1 : Int32).toNatClampNeg)) M ls H locs h (lv_sub hl [2, 3, 1, 0] rfl) hP hD hS
    · intro S L M ls H locs h hl hP hD hS
      simp only [f_Mod_forget] at h
      refine lv_iload_n hx hb d_Mod_forget_21 rfl (lv_at hl 3 rfl) ?_
      refine lv_iload_n hx hb d_Mod_forget_22 rfl (lv_at hl 2 rfl) ?_
      refine lv_iadd hx hb d_Mod_forget_23 ?_
      refine lv_aload_n hx hb d_Mod_forget_24 rfl (lv_at hl 0 rfl) ?_
      refine S_getI (h := shM) (C := "MacroMillModel") (T := F_Mod) hx hb htt in_Mod hown hK hP 0 40 rfl rfl rfl (by decide) (htt _ k_2276) (fun _ h9 => h9) d_Mod_forget_25 ?_
      refine lv_icmp_ge (tgt := 51) hx hb d_Mod_forget_28 (by decide) (fun hc1 => ?_) (fun hc1 => ?_)
      · rw [if_pos hc1] at h
        refine lv_aload_n hx hb d_Mod_forget_51 rfl (lv_at hl 0 rfl) ?_
        refine lv_aload_n hx hb d_Mod_forget_52 rfl (lv_at hl 0 rfl) ?_
        refine S_getI (h := shM) (C := "MacroMillModel") (T := F_Mod) hx hb htt in_Mod hown hK hP 0 40 rfl rfl rfl (by decide) (htt _ k_2276) (fun _ h9 => h9) d_Mod_forget_53 ?_
        refine lv_iload_n hx hb d_Mod_forget_56 rfl (lv_at hl 2 rfl) ?_
        refine lv_isub hx hb d_Mod_forget_57 ?_
        refine S_put (h := shM) (C := "MacroMillModel") (T := F_Mod) (v := (S.1 0 40) - (L 2)) hx hb htt in_Mod t_Mod t_Mod_ok n_Mod hown hK hP hD hS 0 40 rfl rfl rfl (by decide) (htt _ k_2276) (fun _ h9 => h9) rfl rfl rfl d_Mod_forget_58 (fun H locs hP hD hS => ?_)
        show W _ _ _ _ _ _ _ _ _ _ _ _ _ _ _ (F0 _ 61 _ _)
        refine lv_aload_n hx hb d_Mod_forget_61 rfl (lv_at hl 0 rfl) ?_
        refine S_getR (h := shM) (C := "MacroMillModel") (T := F_Mod) hx hb htt in_Mod hown hK hP 0 38 rfl 16 rfl rfl (by decide) (htt _ k_2274) (fun _ h9 => h9) d_Mod_forget_62 ?_
        refine lv_iload_n hx hb d_Mod_forget_65 rfl (lv_at hl 1 rfl) ?_
        obtain ⟨hv2, h⟩ := chk h
        refine S_iald (h := shM) (i := L 1) hx hb hK hP 15 rfl (okI_in hv2) d_Mod_forget_66 ?_
        refine lv_if_ne (tgt := 90) hx hb d_Mod_forget_67 (by decide) (fun hc3 => ?_) (fun hc3 => ?_)
        · rw [if_neg hc3] at h
          exact (ih.2.2.1) (putI S 0 40 ((S.1 0 40) - (L 2))) L M ls H locs h (lv_sub hl [0, 1, 2, 3] rfl) hP hD hS
        · rw [if_pos hc3] at h
          refine lv_aload_n hx hb d_Mod_forget_70 rfl (lv_at hl 0 rfl) ?_
          refine lv_dup hx hb d_Mod_forget_71 rfl ?_
          refine S_getI (h := shM) (C := "MacroMillModel") (T := F_Mod) hx hb htt in_Mod hown hK hP 0 41 rfl rfl rfl (by decide) (htt _ k_2277) (fun _ h9 => h9) d_Mod_forget_72 ?_
          refine toI (y := S.1 0 41) rfl ?_
          refine lv_iconst (v := 1) hx hb d_Mod_forget_75 (by decide) ?_
          refine lv_isub hx hb d_Mod_forget_76 ?_
          refine S_put (h := shM) (C := "MacroMillModel") (T := F_Mod) (v := (S.1 0 41) - (1 : Int32)) hx hb htt in_Mod t_Mod t_Mod_ok n_Mod hown hK hP hD hS 0 41 rfl rfl rfl (by decide) (htt _ k_2277) (fun _ h9 => h9) rfl rfl rfl d_Mod_forget_77 (fun H locs hP hD hS => ?_)
          refine lv_aload_n hx hb d_Mod_forget_80 rfl (lv_at hl 0 rfl) ?_
          refine lv_aload_n hx hb d_Mod_forget_81 rfl (lv_at hl 0 rfl) ?_
          show W _ _ _ _ _ _ _ _ _ _ _ _ _ _ _ (F0 _ 82 _ _)
          refine S_getI (h := shM) (C := "MacroMillModel") (T := F_Mod) hx hb htt in_Mod hown hK hP 0 42 rfl rfl rfl (by decide) (htt _ k_2278) (fun _ h9 => h9) d_Mod_forget_82 ?_
          refine toI (y := S.1 0 42) rfl ?_
          refine lv_iload_n hx hb d_Mod_forget_85 rfl (lv_at hl 2 rfl) ?_
          refine lv_isub hx hb d_Mod_forget_86 ?_
          refine S_put (h := shM) (C := "MacroMillModel") (T := F_Mod) (v := (S.1 0 42) - (L 2)) hx hb htt in_Mod t_Mod t_Mod_ok n_Mod hown hK hP hD hS 0 42 rfl rfl rfl (by decide) (htt _ k_2278) (fun _ h9 => h9) rfl rfl rfl d_Mod_forget_87 (fun H locs hP hD hS => ?_)
          exact (ih.2.2.1) (putI (putI (putI S 0 40 ((S.1 0 40) - (L 2))) 0 41 ((S.1 0 41) - (1 : Int32))) 0 42 ((S.1 0 42) - (L 2))) L M ls H locs h (lv_sub hl [0, 1, 2, 3] rfl) hP hD hS
      · rw [if_neg hc1] at h
        refine lv_aload_n hx hb d_Mod_forget_31 rfl (lv_at hl 0 rfl) ?_
        refine S_getR (h := shM) (C := "MacroMillModel") (T := F_Mod) hx hb htt in_Mod hown hK hP 0 39 rfl 17 rfl rfl (by decide) (htt _ k_2275) (fun _ h9 => h9) d_Mod_forget_32 ?_
        refine lv_iload_n hx hb d_Mod_forget_35 rfl (lv_at hl 3 rfl) ?_
        refine lv_aload_n hx hb d_Mod_forget_36 rfl (lv_at hl 0 rfl) ?_
        refine S_getR (h := shM) (C := "MacroMillModel") (T := F_Mod) hx hb htt in_Mod hown hK hP 0 39 rfl 17 rfl rfl (by decide) (htt _ k_2275) (fun _ h9 => h9) d_Mod_forget_37 ?_
        refine lv_iload_n hx hb d_Mod_forget_40 rfl (lv_at hl 3 rfl) ?_
        show W _ _ _ _ _ _ _ _ _ _ _ _ _ _ _ (F0 _ 41 _ _)
        refine lv_iload_n hx hb d_Mod_forget_41 rfl (lv_at hl 2 rfl) ?_
        refine lv_iadd hx hb d_Mod_forget_42 ?_
        obtain ⟨hv4, h⟩ := chk h
        refine S_bald (h := shM) (i := (L 3) + (L 2)) hx hb hK hP 16 rfl (okI_in hv4) d_Mod_forget_43 ?_
        obtain ⟨hv5, h⟩ := chk h
        refine S_bast (h := shM) (i := L 3) (v := S.2.1 16 ((L 3) + (L 2) : Int32).toNatClampNeg) hx hb hK hP hD hS 16 rfl (okI_in hv5) d_Mod_forget_44 (fun H locs hP hD hS => ?_)
        refine lv_iinc (k := 3) (v := (L 3) + 1) (lv' := [(3, .int ((L 3) + 1)), (0, .ref (ad 0)), (1, .int (L 1)), (2, .int (L 2))]) hx hb d_Mod_forget_45 hl rfl rfl (by decide) rfl (fun ls hl => ?_)
        refine lv_goto (tgt := 21) hx hb d_Mod_forget_48 (by decide) ?_
        exact (ih.2.1) (putA S 16 (L 3 : Int32).toNatClampNeg (vp_nar .byte (S.2.1 16 ((L 3) + (L 2) : Int32).toNatClampNeg))) (upd L 3 ((L 3) + 1)) M ls H locs h (lv_sub hl [1, 2, 3, 0] rfl) hP hD hS
    · intro S L M ls H locs h hl hP hD hS
      simp only [f_Mod_forget] at h
      refine lv_aload_n hx hb d_Mod_forget_90 rfl (lv_at hl 0 rfl) ?_
      refine lv_dup hx hb d_Mod_forget_91 rfl ?_
      refine S_getI (h := shM) (C := "MacroMillModel") (T := F_Mod) hx hb htt in_Mod hown hK hP 0 34 rfl rfl rfl (by decide) (htt _ k_2270) (fun _ h9 => h9) d_Mod_forget_92 ?_
      refine lv_iconst (v := 1) hx hb d_Mod_forget_95 (by decide) ?_
      refine lv_isub hx hb d_Mod_forget_96 ?_
      refine S_put (h := shM) (C := "MacroMillModel") (T := F_Mod) (v := (S.1 0 34) - (1 : Int32)) hx hb htt in_Mod t_Mod t_Mod_ok n_Mod hown hK hP hD hS 0 34 rfl rfl rfl (by decide) (htt _ k_2270) (fun _ h9 => h9) rfl rfl rfl d_Mod_forget_97 (fun H locs hP hD hS => ?_)
      refine lv_iload_n hx hb d_Mod_forget_100 rfl (lv_at hl 1 rfl) ?_
      refine lv_istore_n (lv' := [(3, .int (L 1)), (0, .ref (ad 0)), (1, .int (L 1)), (2, .int (L 2))]) hx hb d_Mod_forget_101 rfl hl (by decide) rfl (fun ls hl => ?_)
      exact (ih.2.2.2) (putI S 0 34 ((S.1 0 34) - (1 : Int32))) (upd L 3 (L 1)) M ls H locs h (lv_sub hl [1, 2, 3, 0] rfl) hP hD hS
    · intro S L M ls H locs h hl hP hD hS
      simp only [f_Mod_forget] at h
      refine lv_iload_n hx hb d_Mod_forget_102 rfl (lv_at hl 3 rfl) ?_
      refine lv_aload_n hx hb d_Mod_forget_103 rfl (lv_at hl 0 rfl) ?_
      refine S_getI (h := shM) (C := "MacroMillModel") (T := F_Mod) hx hb htt in_Mod hown hK hP 0 34 rfl rfl rfl (by decide) (htt _ k_2270) (fun _ h9 => h9) d_Mod_forget_104 ?_
      refine lv_icmp_ge (tgt := 174) hx hb d_Mod_forget_107 (by decide) (fun hc1 => ?_) (fun hc1 => ?_)
      · rw [if_pos hc1] at h
        cases h
        exact kx_174 ls H locs hP hD hS
      · rw [if_neg hc1] at h
        refine lv_aload_n hx hb d_Mod_forget_110 rfl (lv_at hl 0 rfl) ?_
        refine S_getR (h := shM) (C := "MacroMillModel") (T := F_Mod) hx hb htt in_Mod hown hK hP 0 35 rfl 13 rfl rfl (by decide) (htt _ k_2271) (fun _ h9 => h9) d_Mod_forget_111 ?_
        refine lv_iload_n hx hb d_Mod_forget_114 rfl (lv_at hl 3 rfl) ?_
        refine lv_aload_n hx hb d_Mod_forget_115 rfl (lv_at hl 0 rfl) ?_
        refine S_getR (h := shM) (C := "MacroMillModel") (T := F_Mod) hx hb htt in_Mod hown hK hP 0 35 rfl 13 rfl rfl (by decide) (htt _ k_2271) (fun _ h9 => h9) d_Mod_forget_116 ?_
        refine lv_iload_n hx hb d_Mod_forget_119 rfl (lv_at hl 3 rfl) ?_
        refine lv_iconst (v := 1) hx hb d_Mod_forget_120 (by decide) ?_
        refine lv_iadd hx hb d_Mod_forget_121 ?_
        obtain ⟨hv2, h⟩ := chk h
        show W _ _ _ _ _ _ _ _ _ _ _ _ _ _ _ (F0 _ 122 _ _)
        refine S_iald (h := shM) (i := (L 3) + (1 : Int32)) hx hb hK hP 12 rfl (okI_in hv2) d_Mod_forget_122 ?_
        refine lv_iload_n hx hb d_Mod_forget_123 rfl (lv_at hl 2 rfl) ?_
        refine lv_isub hx hb d_Mod_forget_124 ?_
        obtain ⟨hv3, h⟩ := chk h
        refine S_iast (h := shM) (i := L 3) (v := (S.2.1 12 ((L 3) + (1 : Int32) : Int32).toNatClampNeg) - (L 2)) hx hb hK hP hD hS 12 rfl (okI_in hv3) d_Mod_forget_125 (fun H locs hP hD hS => ?_)
        refine lv_aload_n hx hb d_Mod_forget_126 rfl (lv_at hl 0 rfl) ?_
        refine S_getR (h := shM) (C := "MacroMillModel") (T := F_Mod) hx hb htt in_Mod hown hK hP 0 36 rfl 14 rfl rfl (by decide) (htt _ k_2272) (fun _ h9 => h9) d_Mod_forget_127 ?_
        refine lv_iload_n hx hb d_Mod_forget_130 rfl (lv_at hl 3 rfl) ?_
        refine lv_aload_n hx hb d_Mod_forget_131 rfl (lv_at hl 0 rfl) ?_
        refine S_getR (h := shM) (C := "MacroMillModel") (T := F_Mod) hx hb htt in_Mod hown hK hP 0 36 rfl 14 rfl rfl (by decide) (htt _ k_2272) (fun _ h9 => h9) d_Mod_forget_132 ?_
        refine lv_iload_n hx hb d_Mod_forget_135 rfl (lv_at hl 3 rfl) ?_
        refine lv_iconst (v := 1) hx hb d_Mod_forget_136 (by decide) ?_
        refine lv_iadd hx hb d_Mod_forget_137 ?_
        obtain ⟨hv4, h⟩ := chk h
        show W _ _ _ _ _ _ _ _ _ _ _ _ _ _ _ (F0 _ 138 _ _)
        refine S_iald (h := shM) (i := (L 3) + (1 : Int32)) hx hb hK hP 13 rfl (okI_in hv4) d_Mod_forget_138 ?_
        obtain ⟨hv5, h⟩ := chk h
        refine S_iast (h := shM) (i := L 3) (v := (putA S 12 (L 3 : Int32).toNatClampNeg ((S.2.1 12 ((L 3) + (1 : Int32) : Int32).toNatClampNeg) - (L 2))).2.1 13 ((L 3) + (1 : Int32) : Int32).toNatClampNeg) hx hb hK hP hD hS 13 rfl (okI_in hv5) d_Mod_forget_139 (fun H locs hP hD hS => ?_)
        refine lv_aload_n hx hb d_Mod_forget_140 rfl (lv_at hl 0 rfl) ?_
        refine S_getR (h := shM) (C := "MacroMillModel") (T := F_Mod) hx hb htt in_Mod hown hK hP 0 37 rfl 15 rfl rfl (by decide) (htt _ k_2273) (fun _ h9 => h9) d_Mod_forget_141 ?_
        refine lv_iload_n hx hb d_Mod_forget_144 rfl (lv_at hl 3 rfl) ?_
        refine lv_aload_n hx hb d_Mod_forget_145 rfl (lv_at hl 0 rfl) ?_
        refine S_getR (h := shM) (C := "MacroMillModel") (T := F_Mod) hx hb htt in_Mod hown hK hP 0 37 rfl 15 rfl rfl (by decide) (htt _ k_2273) (fun _ h9 => h9) d_Mod_forget_146 ?_
        refine lv_iload_n hx hb d_Mod_forget_149 rfl (lv_at hl 3 rfl) ?_
        refine lv_iconst (v := 1) hx hb d_Mod_forget_150 (by decide) ?_
        refine lv_iadd hx hb d_Mod_forget_151 ?_
        obtain ⟨hv6, h⟩ := chk h
        refine S_iald (h := shM) (i := (L 3) + (1 : Int32)) hx hb hK hP 14 rfl (okI_in hv6) d_Mod_forget_152 ?_
        obtain ⟨hv7, h⟩ := chk h
        refine S_iast (h := shM) (i := L 3) (v := (putA (putA S 12 (L 3 : Int32).toNatClampNeg ((S.2.1 12 ((L 3) + (1 : Int32) : Int32).toNatClampNeg) - (L 2))) 13 (L 3 : Int32).toNatClampNeg ((putA S 12 (L 3 : Int32).toNatClampNeg ((S.2.1 12 ((L 3) + (1 : Int32) : Int32).toNatClampNeg) - (L 2))).2.1 13 ((L 3) + (1 : Int32) : Int32).toNatClampNeg)).2.1 14 ((L 3) + (1 : Int32) : Int32).toNatClampNeg) hx hb hK hP hD hS 14 rfl (okI_in hv7) d_Mod_forget_153 (fun H locs hP hD hS => ?_)
        show W _ _ _ _ _ _ _ _ _ _ _ _ _ _ _ (F0 _ 154 _ _)
        refine lv_aload_n hx hb d_Mod_forget_154 rfl (lv_at hl 0 rfl) ?_
        refine S_getR (h := shM) (C := "MacroMillModel") (T := F_Mod) hx hb htt in_Mod hown hK hP 0 38 rfl 16 rfl rfl (by decide) (htt _ k_2274) (fun _ h9 => h9) d_Mod_forget_155 ?_
        refine lv_iload_n hx hb d_Mod_forget_158 rfl (lv_at hl 3 rfl) ?_
        refine lv_aload_n hx hb d_Mod_forget_159 rfl (lv_at hl 0 rfl) ?_
        refine S_getR (h := shM) (C := "MacroMillModel") (T := F_Mod) hx hb htt in_Mod hown hK hP 0 38 rfl 16 rfl rfl (by decide) (htt _ k_2274) (fun _ h9 => h9) d_Mod_forget_160 ?_
        refine lv_iload_n hx hb d_Mod_forget_163 rfl (lv_at hl 3 rfl) ?_
        refine lv_iconst (v := 1) hx hb d_Mod_forget_164 (by decide) ?_
        refine lv_iadd hx hb d_Mod_forget_165 ?_
        obtain ⟨hv8, h⟩ := chk h
        refine S_iald (h := shM) (i := (L 3) + (1 : Int32)) hx hb hK hP 15 rfl (okI_in hv8) d_Mod_forget_166 ?_
        obtain ⟨hv9, h⟩ := chk h
        refine S_iast (h := shM) (i := L 3) (v := (putA (putA (putA S 12 (L 3 : Int32).toNatClampNeg ((S.2.1 12 ((L 3) + (1 : Int32) : Int32).toNatClampNeg) - (L 2))) 13 (L 3 : Int32).toNatClampNeg ((putA S 12 (L 3 : Int32).toNatClampNeg ((S.2.1 12 ((L 3) + (1 : Int32) : Int32).toNatClampNeg) - (L 2))).2.1 13 ((L 3) + (1 : Int32) : Int32).toNatClampNeg)) 14 (L 3 : Int32).toNatClampNeg ((putA (putA S 12 (L 3 : Int32).toNatClampNeg ((S.2.1 12 ((L 3) + (1 : Int32) : Int32).toNatClampNeg) - (L 2))) 13 (L 3 : Int32).toNatClampNeg ((putA S 12 (L 3 : Int32).toNatClampNeg ((S.2.1 12 ((L 3) + (1 : Int32) : Int32).toNatClampNeg) - (L 2))).2.1 13 ((L 3) + (1 : Int32) : Int32).toNatClampNeg)).2.1 14 ((L 3) + (1 : Int32) : Int32).toNatClampNeg)).2.1 15 ((L 3) + (1 : Int32) : Int32).toNatClampNeg) hx hb hK hP hD hS 15 rfl (okI_in hv9) d_Mod_forget_167 (fun H locs hP hD hS => ?_)
        refine lv_iinc (k := 3) (v := (L 3) + 1) (lv' := [(3, .int ((L 3) + 1)), (0, .ref (ad 0)), (1, .int (L 1)), (2, .int (L 2))]) hx hb d_Mod_forget_168 hl rfl rfl (by decide) rfl (fun ls hl => ?_)
        refine lv_goto (tgt := 102) hx hb d_Mod_forget_171 (by decide) ?_
        exact (ih.2.2.2) (putA (putA (putA (putA S 12 (L 3 : Int32).toNatClampNeg ((S.2.1 12 ((L 3) + (1 : Int32) : Int32).toNatClampNeg) - (L 2))) 13 (L 3 : Int32).toNatClampNeg ((putA S 12 (L 3 : Int32).toNatClampNeg ((S.2.1 12 ((L 3) + (1 : Int32) : Int32).toNatClampNeg) - (L 2))).2.1 13 ((L 3) + (1 : Int32) : Int32).toNatClampNeg)) 14 (L 3 : Int32).toNatClampNeg ((putA (putA S 12 (L 3 : Int32).toNatClampNeg ((S.2.1 12 ((L 3) + (1 : Int32) : Int32).toNatClampNeg) - (L 2))) 13 (L 3 : Int32).toNatClampNeg ((putA S 12 (L 3 : Int32).toNatClampNeg ((S.2.1 12 ((L 3) + (1 : Int32) : Int32).toNatClampNeg) - (L 2))).2.1 13 ((L 3) + (1 : Int32) : Int32).toNatClampNeg)).2.1 14 ((L 3) + (1 : Int32) : Int32).toNatClampNeg)) 15 (L 3 : Int32).toNatClampNeg ((putA (putA (putA S 12 (L 3 : Int32).toNatClampNeg ((S.2.1 12 ((L 3) + (1 : Int32) : Int32).toNatClampNeg) - (L 2))) 13 (L 3 : Int32).toNatClampNeg ((putA S 12 (L 3 : Int32).toNatClampNeg ((S.2.1 12 ((L 3) + (1 : Int32) : Int32).toNatClampNeg) - (L 2))).2.1 13 ((L 3) + (1 : Int32) : Int32).toNatClampNeg)) 14 (L 3 : Int32).toNatClampNeg ((putA (putA S 12 (L 3 : Int32).toNatClampNeg ((S.2.1 12 ((L 3) + (1 : Int32) : Int32).toNatClampNeg) - (L 2))) 13 (L 3 : Int32).toNatClampNeg ((putA S 12 (L 3 : Int32).toNatClampNeg ((S.2.1 12 ((L 3) + (1 : Int32) : Int32).toNatClampNeg) - (L 2))).2.1 13 ((L 3) + (1 : Int32) : Int32).toNatClampNeg)).2.1 14 ((L 3) + (1 : Int32) : Int32).toNatClampNeg)).2.1 15 ((L 3) + (1 : Int32) : Int32).toNatClampNeg)) (upd L 3 ((L 3) + 1)) M ls H locs h (lv_sub hl [1, 2, 3, 0] rfl) hP hD hS
abbrev rm_t_Mod_forget : Room := { frames := 0, cells := 0, slots := 0, locals := 0 }
theorem t_Mod_forget (l : Launch) (g : gG) (sz : Nat) (ad : Nat → Nat) (S : sS) (v1 : Int32) (k : Nat) (r : Int32) (S9 : sS) (h : f_Mod_forget k 0 S (upd (fun _ => 0) 1 v1) (fun _ => 0) = some (r, S9)) : Cv l y_Mod_forget b_Mod_forget 4 rm_t_Mod_forget g [.ref (ad 0), .int v1] (Sw shM g ad S) sz (fun w => ∃ S1 : sS, w = Sw shM g ad S1 ∧ S1 = S9) := by
  refine startV (by decide) (Nat.le_of_ble_eq_true rfl) ?_
  intro p e s m below meth c A ls hx hb hr hml hlocks hmn hown htt hN hA hP hK hD hS hl
  exact (w_Mod_forget hx hb hml hown htt hK hN hA r S9 (fun ls H locs hP hD hS => fin_v (g := g) (ws := Sw shM g ad S9) hx hb hr hlocks (by decide +kernel) (by decide +kernel) hP hD hS ⟨_, rfl, rfl⟩ d_Mod_forget_174) k).1 S (upd (fun _ => 0) 1 v1) (fun _ => 0) ls _ _ h hl hP hD hS
