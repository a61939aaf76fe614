theorem chk {α : Type} {c : Prop} [Decidable c] {a : Option α} {x : α} (h : (if c then a else none) = some x) : c ∧ a = some x := by
  by_cases hc : c
  · rw [if_pos hc] at h
    exact ⟨hc, h⟩
  · rw [if_neg hc] at h
    cases h
/-- an index in range -/
def okI (i : Int32) (n : Nat) : Bool := !(decide (i < 0) || decide (n ≤ i.toNatClampNeg))
theorem okI_in {i : Int32} {n : Nat} (h : okI i n = true) : vp_in i n := by
  unfold okI at h
  intro z
  rcases z with z | z <;> simp [z] at h
def bz (v : Int32) : Bool := decide (v = 0) || decide (v = 1)
theorem bz_n {v : Int32} (h : bz v = true) : narrow .boolean (.int v) = .int v := by
  unfold bz at h
  simp at h
  rcases h with rfl | rfl <;> rfl
theorem bz_f {v : Int32} (h : bz v = true) : fits .boolean (.int v) = true := by
  unfold bz at h
  simp at h
  rcases h with rfl | rfl <;> rfl

theorem d_Mod_actOnInput_0 : decode b_Mod_actOnInput 0 = .ok (.iload_n 1, 1) := by decide +kernel
theorem d_Mod_actOnInput_1 : decode b_Mod_actOnInput 1 = .ok (.bipush 14, 2) := by decide +kernel
theorem d_Mod_actOnInput_3 : decode b_Mod_actOnInput 3 = .ok (.if_icmp .ne 48, 3) := by decide +kernel
theorem d_Mod_actOnInput_6 : decode b_Mod_actOnInput 6 = .ok (.iconst 1, 1) := by decide +kernel
theorem d_Mod_actOnInput_7 : decode b_Mod_actOnInput 7 = .ok (.istore 4, 2) := by decide +kernel
theorem d_Mod_actOnInput_9 : decode b_Mod_actOnInput 9 = .ok (.iload 4, 2) := by decide +kernel
theorem d_Mod_actOnInput_11 : decode b_Mod_actOnInput 11 = .ok (.ifCond .eq 37, 3) := by decide +kernel
theorem d_Mod_actOnInput_14 : decode b_Mod_actOnInput 14 = .ok (.aload_n 0, 1) := by decide +kernel
theorem d_Mod_actOnInput_15 : decode b_Mod_actOnInput 15 = .ok (.iconst 0, 1) := by decide +kernel
theorem d_Mod_actOnInput_16 : decode b_Mod_actOnInput 16 = .ok (.invokevirtual 296, 3) := by decide +kernel
theorem d_Mod_actOnInput_19 : decode b_Mod_actOnInput 19 = .ok (.ifCond .lt 29, 3) := by decide +kernel
theorem d_Mod_actOnInput_22 : decode b_Mod_actOnInput 22 = .ok (.aload_n 0, 1) := by decide +kernel
theorem d_Mod_actOnInput_23 : decode b_Mod_actOnInput 23 = .ok (.getfield 262, 3) := by decide +kernel
theorem d_Mod_actOnInput_26 : decode b_Mod_actOnInput 26 = .ok (.ifCond .ne 22, 3) := by decide +kernel
theorem d_Mod_actOnInput_29 : decode b_Mod_actOnInput 29 = .ok (.aload_n 0, 1) := by decide +kernel
theorem d_Mod_actOnInput_30 : decode b_Mod_actOnInput 30 = .ok (.invokevirtual 300, 3) := by decide +kernel
theorem d_Mod_actOnInput_33 : decode b_Mod_actOnInput 33 = .ok (.bipush 10, 2) := by decide +kernel
theorem d_Mod_actOnInput_35 : decode b_Mod_actOnInput 35 = .ok (.if_icmp .eq 7, 3) := by decide +kernel
theorem d_Mod_actOnInput_38 : decode b_Mod_actOnInput 38 = .ok (.iconst 1, 1) := by decide +kernel
theorem d_Mod_actOnInput_39 : decode b_Mod_actOnInput 39 = .ok (.goto 4, 3) := by decide +kernel
theorem d_Mod_actOnInput_42 : decode b_Mod_actOnInput 42 = .ok (.iconst 0, 1) := by decide +kernel
theorem d_Mod_actOnInput_43 : decode b_Mod_actOnInput 43 = .ok (.istore 4, 2) := by decide +kernel
theorem d_Mod_actOnInput_45 : decode b_Mod_actOnInput 45 = .ok (.goto (-36), 3) := by decide +kernel
theorem d_Mod_actOnInput_48 : decode b_Mod_actOnInput 48 = .ok (.goto 161, 3) := by decide +kernel
theorem d_Mod_actOnInput_51 : decode b_Mod_actOnInput 51 = .ok (.iload_n 1, 1) := by decide +kernel
theorem d_Mod_actOnInput_52 : decode b_Mod_actOnInput 52 = .ok (.bipush 15, 2) := by decide +kernel
theorem d_Mod_actOnInput_54 : decode b_Mod_actOnInput 54 = .ok (.if_icmp .ne 49, 3) := by decide +kernel
theorem d_Mod_actOnInput_57 : decode b_Mod_actOnInput 57 = .ok (.aload_n 0, 1) := by decide +kernel
theorem d_Mod_actOnInput_58 : decode b_Mod_actOnInput 58 = .ok (.iload_n 2, 1) := by decide +kernel
theorem d_Mod_actOnInput_59 : decode b_Mod_actOnInput 59 = .ok (.iconst 1, 1) := by decide +kernel
theorem d_Mod_actOnInput_60 : decode b_Mod_actOnInput 60 = .ok (.invokevirtual 493, 3) := by decide +kernel
theorem d_Mod_actOnInput_63 : decode b_Mod_actOnInput 63 = .ok (.istore 4, 2) := by decide +kernel
theorem d_Mod_actOnInput_65 : decode b_Mod_actOnInput 65 = .ok (.aload_n 0, 1) := by decide +kernel
theorem d_Mod_actOnInput_66 : decode b_Mod_actOnInput 66 = .ok (.getfield 262, 3) := by decide +kernel
theorem d_Mod_actOnInput_69 : decode b_Mod_actOnInput 69 = .ok (.ifCond .ne 16, 3) := by decide +kernel
theorem d_Mod_actOnInput_72 : decode b_Mod_actOnInput 72 = .ok (.iload 4, 2) := by decide +kernel
theorem d_Mod_actOnInput_74 : decode b_Mod_actOnInput 74 = .ok (.bipush 9, 2) := by decide +kernel
theorem d_Mod_actOnInput_76 : decode b_Mod_actOnInput 76 = .ok (.if_icmp .le 9, 3) := by decide +kernel
theorem d_Mod_actOnInput_79 : decode b_Mod_actOnInput 79 = .ok (.aload_n 0, 1) := by decide +kernel
theorem d_Mod_actOnInput_80 : decode b_Mod_actOnInput 80 = .ok (.bipush 36, 2) := by decide +kernel
theorem d_Mod_actOnInput_82 : decode b_Mod_actOnInput 82 = .ok (.invokevirtual 277, 3) := by decide +kernel
theorem d_Mod_actOnInput_85 : decode b_Mod_actOnInput 85 = .ok (.aload_n 0, 1) := by decide +kernel
theorem d_Mod_actOnInput_86 : decode b_Mod_actOnInput 86 = .ok (.iload 4, 2) := by decide +kernel
theorem d_Mod_actOnInput_88 : decode b_Mod_actOnInput 88 = .ok (.ifCond .ge 7, 3) := by decide +kernel
theorem d_Mod_actOnInput_91 : decode b_Mod_actOnInput 91 = .ok (.iconst (-1), 1) := by decide +kernel
theorem d_Mod_actOnInput_92 : decode b_Mod_actOnInput 92 = .ok (.goto 5, 3) := by decide +kernel
theorem d_Mod_actOnInput_95 : decode b_Mod_actOnInput 95 = .ok (.iload 4, 2) := by decide +kernel
theorem d_Mod_actOnInput_97 : decode b_Mod_actOnInput 97 = .ok (.putfield 413, 3) := by decide +kernel
theorem d_Mod_actOnInput_100 : decode b_Mod_actOnInput 100 = .ok (.goto 109, 3) := by decide +kernel
theorem d_Mod_actOnInput_103 : decode b_Mod_actOnInput 103 = .ok (.iload_n 1, 1) := by decide +kernel
theorem d_Mod_actOnInput_104 : decode b_Mod_actOnInput 104 = .ok (.bipush 16, 2) := by decide +kernel
theorem d_Mod_actOnInput_106 : decode b_Mod_actOnInput 106 = .ok (.if_icmp .ne 97, 3) := by decide +kernel
theorem d_Mod_actOnInput_109 : decode b_Mod_actOnInput 109 = .ok (.iload_n 3, 1) := by decide +kernel
theorem d_Mod_actOnInput_110 : decode b_Mod_actOnInput 110 = .ok (.ifCond .eq 17, 3) := by decide +kernel
theorem d_Mod_actOnInput_113 : decode b_Mod_actOnInput 113 = .ok (.iload_n 3, 1) := by decide +kernel
theorem d_Mod_actOnInput_114 : decode b_Mod_actOnInput 114 = .ok (.iconst 1, 1) := by decide +kernel
theorem d_Mod_actOnInput_115 : decode b_Mod_actOnInput 115 = .ok (.if_icmp .ne 41, 3) := by decide +kernel
theorem d_Mod_actOnInput_118 : decode b_Mod_actOnInput 118 = .ok (.aload_n 0, 1) := by decide +kernel
theorem d_Mod_actOnInput_119 : decode b_Mod_actOnInput 119 = .ok (.iload_n 2, 1) := by decide +kernel
theorem d_Mod_actOnInput_120 : decode b_Mod_actOnInput 120 = .ok (.iconst 1, 1) := by decide +kernel
theorem d_Mod_actOnInput_121 : decode b_Mod_actOnInput 121 = .ok (.invokevirtual 466, 3) := by decide +kernel
theorem d_Mod_actOnInput_124 : decode b_Mod_actOnInput 124 = .ok (.ifCond .ne 32, 3) := by decide +kernel
theorem d_Mod_actOnInput_127 : decode b_Mod_actOnInput 127 = .ok (.iconst 1, 1) := by decide +kernel
theorem d_Mod_actOnInput_128 : decode b_Mod_actOnInput 128 = .ok (.istore 4, 2) := by decide +kernel
theorem d_Mod_actOnInput_130 : decode b_Mod_actOnInput 130 = .ok (.iload 4, 2) := by decide +kernel
theorem d_Mod_actOnInput_132 : decode b_Mod_actOnInput 132 = .ok (.bipush 10, 2) := by decide +kernel
theorem d_Mod_actOnInput_134 : decode b_Mod_actOnInput 134 = .ok (.if_icmp .ge 22, 3) := by decide +kernel
theorem d_Mod_actOnInput_137 : decode b_Mod_actOnInput 137 = .ok (.aload_n 0, 1) := by decide +kernel
theorem d_Mod_actOnInput_138 : decode b_Mod_actOnInput 138 = .ok (.getfield 262, 3) := by decide +kernel
theorem d_Mod_actOnInput_141 : decode b_Mod_actOnInput 141 = .ok (.ifCond .ne 15, 3) := by decide +kernel
theorem d_Mod_actOnInput_144 : decode b_Mod_actOnInput 144 = .ok (.aload_n 0, 1) := by decide +kernel
theorem d_Mod_actOnInput_145 : decode b_Mod_actOnInput 145 = .ok (.iload 4, 2) := by decide +kernel
theorem d_Mod_actOnInput_147 : decode b_Mod_actOnInput 147 = .ok (.invokevirtual 517, 3) := by decide +kernel
theorem d_Mod_actOnInput_150 : decode b_Mod_actOnInput 150 = .ok (.iinc 4 1, 3) := by decide +kernel
theorem d_Mod_actOnInput_153 : decode b_Mod_actOnInput 153 = .ok (.goto (-23), 3) := by decide +kernel
theorem d_Mod_actOnInput_156 : decode b_Mod_actOnInput 156 = .ok (.iconst 1, 1) := by decide +kernel
theorem d_Mod_actOnInput_157 : decode b_Mod_actOnInput 157 = .ok (.istore 4, 2) := by decide +kernel
theorem d_Mod_actOnInput_159 : decode b_Mod_actOnInput 159 = .ok (.iload 4, 2) := by decide +kernel
theorem d_Mod_actOnInput_161 : decode b_Mod_actOnInput 161 = .ok (.iload_n 3, 1) := by decide +kernel
theorem d_Mod_actOnInput_162 : decode b_Mod_actOnInput 162 = .ok (.if_icmp .gt 38, 3) := by decide +kernel
theorem d_Mod_actOnInput_165 : decode b_Mod_actOnInput 165 = .ok (.aload_n 0, 1) := by decide +kernel
theorem d_Mod_actOnInput_166 : decode b_Mod_actOnInput 166 = .ok (.getfield 262, 3) := by decide +kernel
theorem d_Mod_actOnInput_169 : decode b_Mod_actOnInput 169 = .ok (.ifCond .ne 31, 3) := by decide +kernel
theorem d_Mod_actOnInput_172 : decode b_Mod_actOnInput 172 = .ok (.aload_n 0, 1) := by decide +kernel
theorem d_Mod_actOnInput_173 : decode b_Mod_actOnInput 173 = .ok (.iload_n 2, 1) := by decide +kernel
theorem d_Mod_actOnInput_174 : decode b_Mod_actOnInput 174 = .ok (.iload 4, 2) := by decide +kernel
theorem d_Mod_actOnInput_176 : decode b_Mod_actOnInput 176 = .ok (.invokevirtual 493, 3) := by decide +kernel
theorem d_Mod_actOnInput_179 : decode b_Mod_actOnInput 179 = .ok (.istore 5, 2) := by decide +kernel
theorem d_Mod_actOnInput_181 : decode b_Mod_actOnInput 181 = .ok (.aload_n 0, 1) := by decide +kernel
theorem d_Mod_actOnInput_182 : decode b_Mod_actOnInput 182 = .ok (.getfield 262, 3) := by decide +kernel
theorem d_Mod_actOnInput_185 : decode b_Mod_actOnInput 185 = .ok (.ifCond .ne 9, 3) := by decide +kernel
theorem d_Mod_actOnInput_188 : decode b_Mod_actOnInput 188 = .ok (.aload_n 0, 1) := by decide +kernel
theorem d_Mod_actOnInput_189 : decode b_Mod_actOnInput 189 = .ok (.iload 5, 2) := by decide +kernel
theorem d_Mod_actOnInput_191 : decode b_Mod_actOnInput 191 = .ok (.invokevirtual 517, 3) := by decide +kernel
theorem d_Mod_actOnInput_194 : decode b_Mod_actOnInput 194 = .ok (.iinc 4 1, 3) := by decide +kernel
theorem d_Mod_actOnInput_197 : decode b_Mod_actOnInput 197 = .ok (.goto (-38), 3) := by decide +kernel
theorem d_Mod_actOnInput_200 : decode b_Mod_actOnInput 200 = .ok (.goto 9, 3) := by decide +kernel
theorem d_Mod_actOnInput_203 : decode b_Mod_actOnInput 203 = .ok (.aload_n 0, 1) := by decide +kernel
theorem d_Mod_actOnInput_204 : decode b_Mod_actOnInput 204 = .ok (.iload_n 2, 1) := by decide +kernel
theorem d_Mod_actOnInput_205 : decode b_Mod_actOnInput 205 = .ok (.iload_n 3, 1) := by decide +kernel
theorem d_Mod_actOnInput_206 : decode b_Mod_actOnInput 206 = .ok (.invokevirtual 519, 3) := by decide +kernel
theorem d_Mod_actOnInput_209 : decode b_Mod_actOnInput 209 = .ok (.return_, 1) := by decide +kernel
theorem d_Mod_addMeaning_0 : decode b_Mod_addMeaning 0 = .ok (.aload_n 0, 1) := by decide +kernel
theorem d_Mod_addMeaning_1 : decode b_Mod_addMeaning 1 = .ok (.getfield 50, 3) := by decide +kernel
theorem d_Mod_addMeaning_4 : decode b_Mod_addMeaning 4 = .ok (.aload_n 0, 1) := by decide +kernel
theorem d_Mod_addMeaning_5 : decode b_Mod_addMeaning 5 = .ok (.getfield 382, 3) := by decide +kernel
theorem d_Mod_addMeaning_8 : decode b_Mod_addMeaning 8 = .ok (.aload_n 0, 1) := by decide +kernel
theorem d_Mod_addMeaning_9 : decode b_Mod_addMeaning 9 = .ok (.getfield 385, 3) := by decide +kernel
theorem d_Mod_addMeaning_12 : decode b_Mod_addMeaning 12 = .ok (.iastore, 1) := by decide +kernel
theorem d_Mod_addMeaning_13 : decode b_Mod_addMeaning 13 = .ok (.aload_n 0, 1) := by decide +kernel
theorem d_Mod_addMeaning_14 : decode b_Mod_addMeaning 14 = .ok (.getfield 53, 3) := by decide +kernel
theorem d_Mod_addMeaning_17 : decode b_Mod_addMeaning 17 = .ok (.aload_n 0, 1) := by decide +kernel
theorem d_Mod_addMeaning_18 : decode b_Mod_addMeaning 18 = .ok (.getfield 382, 3) := by decide +kernel
theorem d_Mod_addMeaning_21 : decode b_Mod_addMeaning 21 = .ok (.iload_n 2, 1) := by decide +kernel
theorem d_Mod_addMeaning_22 : decode b_Mod_addMeaning 22 = .ok (.iastore, 1) := by decide +kernel
theorem d_Mod_addMeaning_23 : decode b_Mod_addMeaning 23 = .ok (.aload_n 0, 1) := by decide +kernel
theorem d_Mod_addMeaning_24 : decode b_Mod_addMeaning 24 = .ok (.getfield 56, 3) := by decide +kernel
theorem d_Mod_addMeaning_27 : decode b_Mod_addMeaning 27 = .ok (.aload_n 0, 1) := by decide +kernel
theorem d_Mod_addMeaning_28 : decode b_Mod_addMeaning 28 = .ok (.getfield 382, 3) := by decide +kernel
theorem d_Mod_addMeaning_31 : decode b_Mod_addMeaning 31 = .ok (.iload 4, 2) := by decide +kernel
theorem d_Mod_addMeaning_33 : decode b_Mod_addMeaning 33 = .ok (.iastore, 1) := by decide +kernel
theorem d_Mod_addMeaning_34 : decode b_Mod_addMeaning 34 = .ok (.aload_n 0, 1) := by decide +kernel
theorem d_Mod_addMeaning_35 : decode b_Mod_addMeaning 35 = .ok (.getfield 59, 3) := by decide +kernel
theorem d_Mod_addMeaning_38 : decode b_Mod_addMeaning 38 = .ok (.aload_n 0, 1) := by decide +kernel
theorem d_Mod_addMeaning_39 : decode b_Mod_addMeaning 39 = .ok (.getfield 382, 3) := by decide +kernel
theorem d_Mod_addMeaning_42 : decode b_Mod_addMeaning 42 = .ok (.iconst 0, 1) := by decide +kernel
theorem d_Mod_addMeaning_43 : decode b_Mod_addMeaning 43 = .ok (.iastore, 1) := by decide +kernel
theorem d_Mod_addMeaning_44 : decode b_Mod_addMeaning 44 = .ok (.iconst 0, 1) := by decide +kernel
theorem d_Mod_addMeaning_45 : decode b_Mod_addMeaning 45 = .ok (.istore 5, 2) := by decide +kernel
theorem d_Mod_addMeaning_47 : decode b_Mod_addMeaning 47 = .ok (.iload 5, 2) := by decide +kernel
theorem d_Mod_addMeaning_49 : decode b_Mod_addMeaning 49 = .ok (.iload_n 2, 1) := by decide +kernel
theorem d_Mod_addMeaning_50 : decode b_Mod_addMeaning 50 = .ok (.if_icmp .ge 30, 3) := by decide +kernel
theorem d_Mod_addMeaning_53 : decode b_Mod_addMeaning 53 = .ok (.aload_n 0, 1) := by decide +kernel
theorem d_Mod_addMeaning_54 : decode b_Mod_addMeaning 54 = .ok (.getfield 62, 3) := by decide +kernel
theorem d_Mod_addMeaning_57 : decode b_Mod_addMeaning 57 = .ok (.aload_n 0, 1) := by decide +kernel
theorem d_Mod_addMeaning_58 : decode b_Mod_addMeaning 58 = .ok (.getfield 385, 3) := by decide +kernel
theorem d_Mod_addMeaning_61 : decode b_Mod_addMeaning 61 = .ok (.iload 5, 2) := by decide +kernel
theorem d_Mod_addMeaning_63 : decode b_Mod_addMeaning 63 = .ok (.iadd, 1) := by decide +kernel
theorem d_Mod_addMeaning_64 : decode b_Mod_addMeaning 64 = .ok (.aload_n 0, 1) := by decide +kernel
theorem d_Mod_addMeaning_65 : decode b_Mod_addMeaning 65 = .ok (.getfield 72, 3) := by decide +kernel
theorem d_Mod_addMeaning_68 : decode b_Mod_addMeaning 68 = .ok (.iload_n 1, 1) := by decide +kernel
theorem d_Mod_addMeaning_69 : decode b_Mod_addMeaning 69 = .ok (.iload 5, 2) := by decide +kernel
theorem d_Mod_addMeaning_71 : decode b_Mod_addMeaning 71 = .ok (.iadd, 1) := by decide +kernel
theorem d_Mod_addMeaning_72 : decode b_Mod_addMeaning 72 = .ok (.baload, 1) := by decide +kernel
theorem d_Mod_addMeaning_73 : decode b_Mod_addMeaning 73 = .ok (.bastore, 1) := by decide +kernel
theorem d_Mod_addMeaning_74 : decode b_Mod_addMeaning 74 = .ok (.iinc 5 1, 3) := by decide +kernel
theorem d_Mod_addMeaning_77 : decode b_Mod_addMeaning 77 = .ok (.goto (-30), 3) := by decide +kernel
theorem d_Mod_addMeaning_80 : decode b_Mod_addMeaning 80 = .ok (.iconst 0, 1) := by decide +kernel
theorem d_Mod_addMeaning_81 : decode b_Mod_addMeaning 81 = .ok (.istore 5, 2) := by decide +kernel
theorem d_Mod_addMeaning_83 : decode b_Mod_addMeaning 83 = .ok (.iload 5, 2) := by decide +kernel
theorem d_Mod_addMeaning_85 : decode b_Mod_addMeaning 85 = .ok (.iload 4, 2) := by decide +kernel
theorem d_Mod_addMeaning_87 : decode b_Mod_addMeaning 87 = .ok (.if_icmp .ge 32, 3) := by decide +kernel
theorem d_Mod_addMeaning_90 : decode b_Mod_addMeaning 90 = .ok (.aload_n 0, 1) := by decide +kernel
theorem d_Mod_addMeaning_91 : decode b_Mod_addMeaning 91 = .ok (.getfield 62, 3) := by decide +kernel
theorem d_Mod_addMeaning_94 : decode b_Mod_addMeaning 94 = .ok (.aload_n 0, 1) := by decide +kernel
theorem d_Mod_addMeaning_95 : decode b_Mod_addMeaning 95 = .ok (.getfield 385, 3) := by decide +kernel
theorem d_Mod_addMeaning_98 : decode b_Mod_addMeaning 98 = .ok (.iload_n 2, 1) := by decide +kernel
theorem d_Mod_addMeaning_99 : decode b_Mod_addMeaning 99 = .ok (.iadd, 1) := by decide +kernel
theorem d_Mod_addMeaning_100 : decode b_Mod_addMeaning 100 = .ok (.iload 5, 2) := by decide +kernel
theorem d_Mod_addMeaning_102 : decode b_Mod_addMeaning 102 = .ok (.iadd, 1) := by decide +kernel
theorem d_Mod_addMeaning_103 : decode b_Mod_addMeaning 103 = .ok (.aload_n 0, 1) := by decide +kernel
theorem d_Mod_addMeaning_104 : decode b_Mod_addMeaning 104 = .ok (.getfield 72, 3) := by decide +kernel
theorem d_Mod_addMeaning_107 : decode b_Mod_addMeaning 107 = .ok (.iload_n 3, 1) := by decide +kernel
theorem d_Mod_addMeaning_108 : decode b_Mod_addMeaning 108 = .ok (.iload 5, 2) := by decide +kernel
theorem d_Mod_addMeaning_110 : decode b_Mod_addMeaning 110 = .ok (.iadd, 1) := by decide +kernel
theorem d_Mod_addMeaning_111 : decode b_Mod_addMeaning 111 = .ok (.baload, 1) := by decide +kernel
theorem d_Mod_addMeaning_112 : decode b_Mod_addMeaning 112 = .ok (.bastore, 1) := by decide +kernel
theorem d_Mod_addMeaning_113 : decode b_Mod_addMeaning 113 = .ok (.iinc 5 1, 3) := by decide +kernel
theorem d_Mod_addMeaning_116 : decode b_Mod_addMeaning 116 = .ok (.goto (-33), 3) := by decide +kernel
theorem d_Mod_addMeaning_119 : decode b_Mod_addMeaning 119 = .ok (.aload_n 0, 1) := by decide +kernel
theorem d_Mod_addMeaning_120 : decode b_Mod_addMeaning 120 = .ok (.aload_n 0, 1) := by decide +kernel
theorem d_Mod_addMeaning_121 : decode b_Mod_addMeaning 121 = .ok (.getfield 385, 3) := by decide +kernel
theorem d_Mod_addMeaning_124 : decode b_Mod_addMeaning 124 = .ok (.iload_n 2, 1) := by decide +kernel
theorem d_Mod_addMeaning_125 : decode b_Mod_addMeaning 125 = .ok (.iadd, 1) := by decide +kernel
theorem d_Mod_addMeaning_126 : decode b_Mod_addMeaning 126 = .ok (.iload 4, 2) := by decide +kernel
theorem d_Mod_addMeaning_128 : decode b_Mod_addMeaning 128 = .ok (.iadd, 1) := by decide +kernel
theorem d_Mod_addMeaning_129 : decode b_Mod_addMeaning 129 = .ok (.putfield 385, 3) := by decide +kernel
theorem d_Mod_addMeaning_132 : decode b_Mod_addMeaning 132 = .ok (.aload_n 0, 1) := by decide +kernel
theorem d_Mod_addMeaning_133 : decode b_Mod_addMeaning 133 = .ok (.dup, 1) := by decide +kernel
theorem d_Mod_addMeaning_134 : decode b_Mod_addMeaning 134 = .ok (.getfield 388, 3) := by decide +kernel
theorem d_Mod_addMeaning_137 : decode b_Mod_addMeaning 137 = .ok (.iconst 1, 1) := by decide +kernel
theorem d_Mod_addMeaning_138 : decode b_Mod_addMeaning 138 = .ok (.iadd, 1) := by decide +kernel
theorem d_Mod_addMeaning_139 : decode b_Mod_addMeaning 139 = .ok (.putfield 388, 3) := by decide +kernel
theorem d_Mod_addMeaning_142 : decode b_Mod_addMeaning 142 = .ok (.aload_n 0, 1) := by decide +kernel
theorem d_Mod_addMeaning_143 : decode b_Mod_addMeaning 143 = .ok (.aload_n 0, 1) := by decide +kernel
theorem d_Mod_addMeaning_144 : decode b_Mod_addMeaning 144 = .ok (.getfield 391, 3) := by decide +kernel
theorem d_Mod_addMeaning_147 : decode b_Mod_addMeaning 147 = .ok (.iload_n 2, 1) := by decide +kernel
theorem d_Mod_addMeaning_148 : decode b_Mod_addMeaning 148 = .ok (.iadd, 1) := by decide +kernel
theorem d_Mod_addMeaning_149 : decode b_Mod_addMeaning 149 = .ok (.iload 4, 2) := by decide +kernel
theorem d_Mod_addMeaning_151 : decode b_Mod_addMeaning 151 = .ok (.iadd, 1) := by decide +kernel
theorem d_Mod_addMeaning_152 : decode b_Mod_addMeaning 152 = .ok (.putfield 391, 3) := by decide +kernel
theorem d_Mod_addMeaning_155 : decode b_Mod_addMeaning 155 = .ok (.aload_n 0, 1) := by decide +kernel
theorem d_Mod_addMeaning_156 : decode b_Mod_addMeaning 156 = .ok (.dup, 1) := by decide +kernel
theorem d_Mod_addMeaning_157 : decode b_Mod_addMeaning 157 = .ok (.getfield 382, 3) := by decide +kernel
theorem d_Mod_addMeaning_160 : decode b_Mod_addMeaning 160 = .ok (.iconst 1, 1) := by decide +kernel
theorem d_Mod_addMeaning_161 : decode b_Mod_addMeaning 161 = .ok (.iadd, 1) := by decide +kernel
theorem d_Mod_addMeaning_162 : decode b_Mod_addMeaning 162 = .ok (.putfield 382, 3) := by decide +kernel
theorem d_Mod_addMeaning_165 : decode b_Mod_addMeaning 165 = .ok (.return_, 1) := by decide +kernel
theorem d_Mod_addToRow_0 : decode b_Mod_addToRow 0 = .ok (.aload_n 0, 1) := by decide +kernel
theorem d_Mod_addToRow_1 : decode b_Mod_addToRow 1 = .ok (.getfield 759, 3) := by decide +kernel
theorem d_Mod_addToRow_4 : decode b_Mod_addToRow 4 = .ok (.istore_n 1, 1) := by decide +kernel
theorem d_Mod_addToRow_5 : decode b_Mod_addToRow 5 = .ok (.iload_n 1, 1) := by decide +kernel
theorem d_Mod_addToRow_6 : decode b_Mod_addToRow 6 = .ok (.ifCond .lt 52, 3) := by decide +kernel
theorem d_Mod_addToRow_9 : decode b_Mod_addToRow 9 = .ok (.aload_n 0, 1) := by decide +kernel
theorem d_Mod_addToRow_10 : decode b_Mod_addToRow 10 = .ok (.getfield 262, 3) := by decide +kernel
theorem d_Mod_addToRow_13 : decode b_Mod_addToRow 13 = .ok (.ifCond .ne 45, 3) := by decide +kernel
theorem d_Mod_addToRow_16 : decode b_Mod_addToRow 16 = .ok (.aload_n 0, 1) := by decide +kernel
theorem d_Mod_addToRow_17 : decode b_Mod_addToRow 17 = .ok (.getfield 777, 3) := by decide +kernel
theorem d_Mod_addToRow_20 : decode b_Mod_addToRow 20 = .ok (.sipush 8000, 3) := by decide +kernel
theorem d_Mod_addToRow_23 : decode b_Mod_addToRow 23 = .ok (.if_icmp .ne 15, 3) := by decide +kernel
theorem d_Mod_addToRow_26 : decode b_Mod_addToRow 26 = .ok (.aload_n 0, 1) := by decide +kernel
theorem d_Mod_addToRow_27 : decode b_Mod_addToRow 27 = .ok (.bipush 21, 2) := by decide +kernel
theorem d_Mod_addToRow_29 : decode b_Mod_addToRow 29 = .ok (.aload_n 0, 1) := by decide +kernel
theorem d_Mod_addToRow_30 : decode b_Mod_addToRow 30 = .ok (.getfield 105, 3) := by decide +kernel
theorem d_Mod_addToRow_33 : decode b_Mod_addToRow 33 = .ok (.iload_n 1, 1) := by decide +kernel
theorem d_Mod_addToRow_34 : decode b_Mod_addToRow 34 = .ok (.iaload, 1) := by decide +kernel
theorem d_Mod_addToRow_35 : decode b_Mod_addToRow 35 = .ok (.invokevirtual 628, 3) := by decide +kernel
theorem d_Mod_addToRow_38 : decode b_Mod_addToRow 38 = .ok (.aload_n 0, 1) := by decide +kernel
theorem d_Mod_addToRow_39 : decode b_Mod_addToRow 39 = .ok (.dup, 1) := by decide +kernel
theorem d_Mod_addToRow_40 : decode b_Mod_addToRow 40 = .ok (.getfield 777, 3) := by decide +kernel
theorem d_Mod_addToRow_43 : decode b_Mod_addToRow 43 = .ok (.iconst 1, 1) := by decide +kernel
theorem d_Mod_addToRow_44 : decode b_Mod_addToRow 44 = .ok (.iadd, 1) := by decide +kernel
theorem d_Mod_addToRow_45 : decode b_Mod_addToRow 45 = .ok (.putfield 777, 3) := by decide +kernel
theorem d_Mod_addToRow_48 : decode b_Mod_addToRow 48 = .ok (.aload_n 0, 1) := by decide +kernel
theorem d_Mod_addToRow_49 : decode b_Mod_addToRow 49 = .ok (.getfield 111, 3) := by decide +kernel
theorem d_Mod_addToRow_52 : decode b_Mod_addToRow 52 = .ok (.iload_n 1, 1) := by decide +kernel
theorem d_Mod_addToRow_53 : decode b_Mod_addToRow 53 = .ok (.iaload, 1) := by decide +kernel
theorem d_Mod_addToRow_54 : decode b_Mod_addToRow 54 = .ok (.istore_n 1, 1) := by decide +kernel
theorem d_Mod_addToRow_55 : decode b_Mod_addToRow 55 = .ok (.goto (-50), 3) := by decide +kernel
theorem d_Mod_addToRow_58 : decode b_Mod_addToRow 58 = .ok (.aload_n 0, 1) := by decide +kernel
theorem d_Mod_addToRow_59 : decode b_Mod_addToRow 59 = .ok (.getfield 780, 3) := by decide +kernel
theorem d_Mod_addToRow_62 : decode b_Mod_addToRow 62 = .ok (.ifCond .ge 14, 3) := by decide +kernel
theorem d_Mod_addToRow_65 : decode b_Mod_addToRow 65 = .ok (.aload_n 0, 1) := by decide +kernel
theorem d_Mod_addToRow_66 : decode b_Mod_addToRow 66 = .ok (.aload_n 0, 1) := by decide +kernel
theorem d_Mod_addToRow_67 : decode b_Mod_addToRow 67 = .ok (.getfield 759, 3) := by decide +kernel
theorem d_Mod_addToRow_70 : decode b_Mod_addToRow 70 = .ok (.putfield 780, 3) := by decide +kernel
theorem d_Mod_addToRow_73 : decode b_Mod_addToRow 73 = .ok (.goto 16, 3) := by decide +kernel
theorem d_Mod_addToRow_76 : decode b_Mod_addToRow 76 = .ok (.aload_n 0, 1) := by decide +kernel
theorem d_Mod_addToRow_77 : decode b_Mod_addToRow 77 = .ok (.getfield 111, 3) := by decide +kernel
theorem d_Mod_addToRow_80 : decode b_Mod_addToRow 80 = .ok (.aload_n 0, 1) := by decide +kernel
theorem d_Mod_addToRow_81 : decode b_Mod_addToRow 81 = .ok (.getfield 783, 3) := by decide +kernel
theorem d_Mod_addToRow_84 : decode b_Mod_addToRow 84 = .ok (.aload_n 0, 1) := by decide +kernel
theorem d_Mod_addToRow_85 : decode b_Mod_addToRow 85 = .ok (.getfield 759, 3) := by decide +kernel
theorem d_Mod_addToRow_88 : decode b_Mod_addToRow 88 = .ok (.iastore, 1) := by decide +kernel
theorem d_Mod_addToRow_89 : decode b_Mod_addToRow 89 = .ok (.aload_n 0, 1) := by decide +kernel
theorem d_Mod_addToRow_90 : decode b_Mod_addToRow 90 = .ok (.aload_n 0, 1) := by decide +kernel
theorem d_Mod_addToRow_91 : decode b_Mod_addToRow 91 = .ok (.getfield 762, 3) := by decide +kernel
theorem d_Mod_addToRow_94 : decode b_Mod_addToRow 94 = .ok (.putfield 783, 3) := by decide +kernel
theorem d_Mod_addToRow_97 : decode b_Mod_addToRow 97 = .ok (.return_, 1) := by decide +kernel
theorem d_Mod_apply_0 : decode b_Mod_apply 0 = .ok (.iload_n 1, 1) := by decide +kernel
theorem d_Mod_apply_1 : decode b_Mod_apply 1 = .ok (.lookupswitch 271 #[(11, 139), (21, 153), (31, 167), (41, 171), (51, 175), (61, 179), (62, 190), (71, 201), (72, 212), (73, 223), (74, 234), (81, 245), (82, 252), (91, 259), (92, 263), (101, 267)], 139) := by decide +kernel
theorem d_Mod_apply_140 : decode b_Mod_apply 140 = .ok (.iload_n 2, 1) := by decide +kernel
theorem d_Mod_apply_141 : decode b_Mod_apply 141 = .ok (.ifCond .ne 7, 3) := by decide +kernel
theorem d_Mod_apply_144 : decode b_Mod_apply 144 = .ok (.iload_n 3, 1) := by decide +kernel
theorem d_Mod_apply_145 : decode b_Mod_apply 145 = .ok (.ifCond .eq 7, 3) := by decide +kernel
theorem d_Mod_apply_148 : decode b_Mod_apply 148 = .ok (.iconst 1, 1) := by decide +kernel
theorem d_Mod_apply_149 : decode b_Mod_apply 149 = .ok (.goto 4, 3) := by decide +kernel
theorem d_Mod_apply_152 : decode b_Mod_apply 152 = .ok (.iconst 0, 1) := by decide +kernel
theorem d_Mod_apply_153 : decode b_Mod_apply 153 = .ok (.ireturn, 1) := by decide +kernel
theorem d_Mod_apply_154 : decode b_Mod_apply 154 = .ok (.iload_n 2, 1) := by decide +kernel
theorem d_Mod_apply_155 : decode b_Mod_apply 155 = .ok (.ifCond .eq 11, 3) := by decide +kernel
theorem d_Mod_apply_158 : decode b_Mod_apply 158 = .ok (.iload_n 3, 1) := by decide +kernel
theorem d_Mod_apply_159 : decode b_Mod_apply 159 = .ok (.ifCond .eq 7, 3) := by decide +kernel
theorem d_Mod_apply_162 : decode b_Mod_apply 162 = .ok (.iconst 1, 1) := by decide +kernel
theorem d_Mod_apply_163 : decode b_Mod_apply 163 = .ok (.goto 4, 3) := by decide +kernel
theorem d_Mod_apply_166 : decode b_Mod_apply 166 = .ok (.iconst 0, 1) := by decide +kernel
theorem d_Mod_apply_167 : decode b_Mod_apply 167 = .ok (.ireturn, 1) := by decide +kernel
theorem d_Mod_apply_168 : decode b_Mod_apply 168 = .ok (.iload_n 2, 1) := by decide +kernel
theorem d_Mod_apply_169 : decode b_Mod_apply 169 = .ok (.iload_n 3, 1) := by decide +kernel
theorem d_Mod_apply_170 : decode b_Mod_apply 170 = .ok (.ior, 1) := by decide +kernel
theorem d_Mod_apply_171 : decode b_Mod_apply 171 = .ok (.ireturn, 1) := by decide +kernel
theorem d_Mod_apply_172 : decode b_Mod_apply 172 = .ok (.iload_n 2, 1) := by decide +kernel
theorem d_Mod_apply_173 : decode b_Mod_apply 173 = .ok (.iload_n 3, 1) := by decide +kernel
theorem d_Mod_apply_174 : decode b_Mod_apply 174 = .ok (.ixor, 1) := by decide +kernel
theorem d_Mod_apply_175 : decode b_Mod_apply 175 = .ok (.ireturn, 1) := by decide +kernel
theorem d_Mod_apply_176 : decode b_Mod_apply 176 = .ok (.iload_n 2, 1) := by decide +kernel
theorem d_Mod_apply_177 : decode b_Mod_apply 177 = .ok (.iload_n 3, 1) := by decide +kernel
theorem d_Mod_apply_178 : decode b_Mod_apply 178 = .ok (.iand, 1) := by decide +kernel
theorem d_Mod_apply_179 : decode b_Mod_apply 179 = .ok (.ireturn, 1) := by decide +kernel
theorem d_Mod_apply_180 : decode b_Mod_apply 180 = .ok (.iload_n 2, 1) := by decide +kernel
theorem d_Mod_apply_181 : decode b_Mod_apply 181 = .ok (.iload_n 3, 1) := by decide +kernel
theorem d_Mod_apply_182 : decode b_Mod_apply 182 = .ok (.if_icmp .ne 7, 3) := by decide +kernel
theorem d_Mod_apply_185 : decode b_Mod_apply 185 = .ok (.iconst 1, 1) := by decide +kernel
theorem d_Mod_apply_186 : decode b_Mod_apply 186 = .ok (.goto 4, 3) := by decide +kernel
theorem d_Mod_apply_189 : decode b_Mod_apply 189 = .ok (.iconst 0, 1) := by decide +kernel
theorem d_Mod_apply_190 : decode b_Mod_apply 190 = .ok (.ireturn, 1) := by decide +kernel
theorem d_Mod_apply_191 : decode b_Mod_apply 191 = .ok (.iload_n 2, 1) := by decide +kernel
theorem d_Mod_apply_192 : decode b_Mod_apply 192 = .ok (.iload_n 3, 1) := by decide +kernel
theorem d_Mod_apply_193 : decode b_Mod_apply 193 = .ok (.if_icmp .eq 7, 3) := by decide +kernel
theorem d_Mod_apply_196 : decode b_Mod_apply 196 = .ok (.iconst 1, 1) := by decide +kernel
theorem d_Mod_apply_197 : decode b_Mod_apply 197 = .ok (.goto 4, 3) := by decide +kernel
theorem d_Mod_apply_200 : decode b_Mod_apply 200 = .ok (.iconst 0, 1) := by decide +kernel
theorem d_Mod_apply_201 : decode b_Mod_apply 201 = .ok (.ireturn, 1) := by decide +kernel
theorem d_Mod_apply_202 : decode b_Mod_apply 202 = .ok (.iload_n 2, 1) := by decide +kernel
theorem d_Mod_apply_203 : decode b_Mod_apply 203 = .ok (.iload_n 3, 1) := by decide +kernel
theorem d_Mod_apply_204 : decode b_Mod_apply 204 = .ok (.if_icmp .ge 7, 3) := by decide +kernel
theorem d_Mod_apply_207 : decode b_Mod_apply 207 = .ok (.iconst 1, 1) := by decide +kernel
theorem d_Mod_apply_208 : decode b_Mod_apply 208 = .ok (.goto 4, 3) := by decide +kernel
theorem d_Mod_apply_211 : decode b_Mod_apply 211 = .ok (.iconst 0, 1) := by decide +kernel
theorem d_Mod_apply_212 : decode b_Mod_apply 212 = .ok (.ireturn, 1) := by decide +kernel
theorem d_Mod_apply_213 : decode b_Mod_apply 213 = .ok (.iload_n 2, 1) := by decide +kernel
theorem d_Mod_apply_214 : decode b_Mod_apply 214 = .ok (.iload_n 3, 1) := by decide +kernel
theorem d_Mod_apply_215 : decode b_Mod_apply 215 = .ok (.if_icmp .le 7, 3) := by decide +kernel
theorem d_Mod_apply_218 : decode b_Mod_apply 218 = .ok (.iconst 1, 1) := by decide +kernel
theorem d_Mod_apply_219 : decode b_Mod_apply 219 = .ok (.goto 4, 3) := by decide +kernel
theorem d_Mod_apply_222 : decode b_Mod_apply 222 = .ok (.iconst 0, 1) := by decide +kernel
theorem d_Mod_apply_223 : decode b_Mod_apply 223 = .ok (.ireturn, 1) := by decide +kernel
theorem d_Mod_apply_224 : decode b_Mod_apply 224 = .ok (.iload_n 2, 1) := by decide +kernel
theorem d_Mod_apply_225 : decode b_Mod_apply 225 = .ok (.iload_n 3, 1) := by decide +kernel
theorem d_Mod_apply_226 : decode b_Mod_apply 226 = .ok (.if_icmp .gt 7, 3) := by decide +kernel
theorem d_Mod_apply_229 : decode b_Mod_apply 229 = .ok (.iconst 1, 1) := by decide +kernel
theorem d_Mod_apply_230 : decode b_Mod_apply 230 = .ok (.goto 4, 3) := by decide +kernel
theorem d_Mod_apply_233 : decode b_Mod_apply 233 = .ok (.iconst 0, 1) := by decide +kernel
theorem d_Mod_apply_234 : decode b_Mod_apply 234 = .ok (.ireturn, 1) := by decide +kernel
theorem d_Mod_apply_235 : decode b_Mod_apply 235 = .ok (.iload_n 2, 1) := by decide +kernel
theorem d_Mod_apply_236 : decode b_Mod_apply 236 = .ok (.iload_n 3, 1) := by decide +kernel
theorem d_Mod_apply_237 : decode b_Mod_apply 237 = .ok (.if_icmp .lt 7, 3) := by decide +kernel
theorem d_Mod_apply_240 : decode b_Mod_apply 240 = .ok (.iconst 1, 1) := by decide +kernel
theorem d_Mod_apply_241 : decode b_Mod_apply 241 = .ok (.goto 4, 3) := by decide +kernel
theorem d_Mod_apply_244 : decode b_Mod_apply 244 = .ok (.iconst 0, 1) := by decide +kernel
theorem d_Mod_apply_245 : decode b_Mod_apply 245 = .ok (.ireturn, 1) := by decide +kernel
theorem d_Mod_apply_246 : decode b_Mod_apply 246 = .ok (.iload_n 2, 1) := by decide +kernel
theorem d_Mod_apply_247 : decode b_Mod_apply 247 = .ok (.iload_n 3, 1) := by decide +kernel
theorem d_Mod_apply_248 : decode b_Mod_apply 248 = .ok (.bipush 31, 2) := by decide +kernel
theorem d_Mod_apply_250 : decode b_Mod_apply 250 = .ok (.iand, 1) := by decide +kernel
theorem d_Mod_apply_251 : decode b_Mod_apply 251 = .ok (.ishl, 1) := by decide +kernel
theorem d_Mod_apply_252 : decode b_Mod_apply 252 = .ok (.ireturn, 1) := by decide +kernel
theorem d_Mod_apply_253 : decode b_Mod_apply 253 = .ok (.iload_n 2, 1) := by decide +kernel
theorem d_Mod_apply_254 : decode b_Mod_apply 254 = .ok (.iload_n 3, 1) := by decide +kernel
theorem d_Mod_apply_255 : decode b_Mod_apply 255 = .ok (.bipush 31, 2) := by decide +kernel
theorem d_Mod_apply_257 : decode b_Mod_apply 257 = .ok (.iand, 1) := by decide +kernel
theorem d_Mod_apply_258 : decode b_Mod_apply 258 = .ok (.ishr, 1) := by decide +kernel
theorem d_Mod_apply_259 : decode b_Mod_apply 259 = .ok (.ireturn, 1) := by decide +kernel
theorem d_Mod_apply_260 : decode b_Mod_apply 260 = .ok (.iload_n 2, 1) := by decide +kernel
theorem d_Mod_apply_261 : decode b_Mod_apply 261 = .ok (.iload_n 3, 1) := by decide +kernel
theorem d_Mod_apply_262 : decode b_Mod_apply 262 = .ok (.iadd, 1) := by decide +kernel
theorem d_Mod_apply_263 : decode b_Mod_apply 263 = .ok (.ireturn, 1) := by decide +kernel
theorem d_Mod_apply_264 : decode b_Mod_apply 264 = .ok (.iload_n 2, 1) := by decide +kernel
theorem d_Mod_apply_265 : decode b_Mod_apply 265 = .ok (.iload_n 3, 1) := by decide +kernel
theorem d_Mod_apply_266 : decode b_Mod_apply 266 = .ok (.isub, 1) := by decide +kernel
theorem d_Mod_apply_267 : decode b_Mod_apply 267 = .ok (.ireturn, 1) := by decide +kernel
theorem d_Mod_apply_268 : decode b_Mod_apply 268 = .ok (.iload_n 2, 1) := by decide +kernel
theorem d_Mod_apply_269 : decode b_Mod_apply 269 = .ok (.iload_n 3, 1) := by decide +kernel
theorem d_Mod_apply_270 : decode b_Mod_apply 270 = .ok (.imul, 1) := by decide +kernel
theorem d_Mod_apply_271 : decode b_Mod_apply 271 = .ok (.ireturn, 1) := by decide +kernel
theorem d_Mod_apply_272 : decode b_Mod_apply 272 = .ok (.aload_n 0, 1) := by decide +kernel
theorem d_Mod_apply_273 : decode b_Mod_apply 273 = .ok (.aload_n 0, 1) := by decide +kernel
theorem d_Mod_apply_274 : decode b_Mod_apply 274 = .ok (.getfield 538, 3) := by decide +kernel
theorem d_Mod_apply_277 : decode b_Mod_apply 277 = .ok (.ifCond .ne 7, 3) := by decide +kernel
theorem d_Mod_apply_280 : decode b_Mod_apply 280 = .ok (.iload_n 3, 1) := by decide +kernel
theorem d_Mod_apply_281 : decode b_Mod_apply 281 = .ok (.ifCond .ne 7, 3) := by decide +kernel
theorem d_Mod_apply_284 : decode b_Mod_apply 284 = .ok (.iconst 1, 1) := by decide +kernel
theorem d_Mod_apply_285 : decode b_Mod_apply 285 = .ok (.goto 4, 3) := by decide +kernel
theorem d_Mod_apply_288 : decode b_Mod_apply 288 = .ok (.iconst 0, 1) := by decide +kernel
theorem d_Mod_apply_289 : decode b_Mod_apply 289 = .ok (.putfield 538, 3) := by decide +kernel
theorem d_Mod_apply_292 : decode b_Mod_apply 292 = .ok (.iload_n 3, 1) := by decide +kernel
theorem d_Mod_apply_293 : decode b_Mod_apply 293 = .ok (.ifCond .ne 7, 3) := by decide +kernel
theorem d_Mod_apply_296 : decode b_Mod_apply 296 = .ok (.iconst 0, 1) := by decide +kernel
theorem d_Mod_apply_297 : decode b_Mod_apply 297 = .ok (.goto 18, 3) := by decide +kernel
theorem d_Mod_apply_300 : decode b_Mod_apply 300 = .ok (.iload_n 1, 1) := by decide +kernel
theorem d_Mod_apply_301 : decode b_Mod_apply 301 = .ok (.bipush 102, 2) := by decide +kernel
theorem d_Mod_apply_303 : decode b_Mod_apply 303 = .ok (.if_icmp .ne 9, 3) := by decide +kernel
theorem d_Mod_apply_306 : decode b_Mod_apply 306 = .ok (.iload_n 2, 1) := by decide +kernel
theorem d_Mod_apply_307 : decode b_Mod_apply 307 = .ok (.iload_n 3, 1) := by decide +kernel
theorem d_Mod_apply_308 : decode b_Mod_apply 308 = .ok (.idiv, 1) := by decide +kernel
theorem d_Mod_apply_309 : decode b_Mod_apply 309 = .ok (.goto 6, 3) := by decide +kernel
theorem d_Mod_apply_312 : decode b_Mod_apply 312 = .ok (.iload_n 2, 1) := by decide +kernel
theorem d_Mod_apply_313 : decode b_Mod_apply 313 = .ok (.iload_n 3, 1) := by decide +kernel
theorem d_Mod_apply_314 : decode b_Mod_apply 314 = .ok (.irem, 1) := by decide +kernel
theorem d_Mod_apply_315 : decode b_Mod_apply 315 = .ok (.ireturn, 1) := by decide +kernel
theorem d_Mod_argumentAt_0 : decode b_Mod_argumentAt 0 = .ok (.iload_n 1, 1) := by decide +kernel
theorem d_Mod_argumentAt_1 : decode b_Mod_argumentAt 1 = .ok (.iload_n 2, 1) := by decide +kernel
theorem d_Mod_argumentAt_2 : decode b_Mod_argumentAt 2 = .ok (.iadd, 1) := by decide +kernel
theorem d_Mod_argumentAt_3 : decode b_Mod_argumentAt 3 = .ok (.iconst 1, 1) := by decide +kernel
theorem d_Mod_argumentAt_4 : decode b_Mod_argumentAt 4 = .ok (.isub, 1) := by decide +kernel
theorem d_Mod_argumentAt_5 : decode b_Mod_argumentAt 5 = .ok (.aload_n 0, 1) := by decide +kernel
theorem d_Mod_argumentAt_6 : decode b_Mod_argumentAt 6 = .ok (.getfield 437, 3) := by decide +kernel
theorem d_Mod_argumentAt_9 : decode b_Mod_argumentAt 9 = .ok (.if_icmp .ge 16, 3) := by decide +kernel
theorem d_Mod_argumentAt_12 : decode b_Mod_argumentAt 12 = .ok (.aload_n 0, 1) := by decide +kernel
theorem d_Mod_argumentAt_13 : decode b_Mod_argumentAt 13 = .ok (.getfield 75, 3) := by decide +kernel
theorem d_Mod_argumentAt_16 : decode b_Mod_argumentAt 16 = .ok (.iload_n 1, 1) := by decide +kernel
theorem d_Mod_argumentAt_17 : decode b_Mod_argumentAt 17 = .ok (.iload_n 2, 1) := by decide +kernel
theorem d_Mod_argumentAt_18 : decode b_Mod_argumentAt 18 = .ok (.iadd, 1) := by decide +kernel
theorem d_Mod_argumentAt_19 : decode b_Mod_argumentAt 19 = .ok (.iconst 1, 1) := by decide +kernel
theorem d_Mod_argumentAt_20 : decode b_Mod_argumentAt 20 = .ok (.isub, 1) := by decide +kernel
theorem d_Mod_argumentAt_21 : decode b_Mod_argumentAt 21 = .ok (.iaload, 1) := by decide +kernel
theorem d_Mod_argumentAt_22 : decode b_Mod_argumentAt 22 = .ok (.goto 12, 3) := by decide +kernel
theorem d_Mod_argumentAt_25 : decode b_Mod_argumentAt 25 = .ok (.aload_n 0, 1) := by decide +kernel
theorem d_Mod_argumentAt_26 : decode b_Mod_argumentAt 26 = .ok (.getfield 75, 3) := by decide +kernel
theorem d_Mod_argumentAt_29 : decode b_Mod_argumentAt 29 = .ok (.aload_n 0, 1) := by decide +kernel
theorem d_Mod_argumentAt_30 : decode b_Mod_argumentAt 30 = .ok (.getfield 437, 3) := by decide +kernel
theorem d_Mod_argumentAt_33 : decode b_Mod_argumentAt 33 = .ok (.iaload, 1) := by decide +kernel
theorem d_Mod_argumentAt_34 : decode b_Mod_argumentAt 34 = .ok (.ireturn, 1) := by decide +kernel
theorem d_Mod_argumentSize_0 : decode b_Mod_argumentSize 0 = .ok (.iload_n 1, 1) := by decide +kernel
theorem d_Mod_argumentSize_1 : decode b_Mod_argumentSize 1 = .ok (.iload_n 2, 1) := by decide +kernel
theorem d_Mod_argumentSize_2 : decode b_Mod_argumentSize 2 = .ok (.iadd, 1) := by decide +kernel
theorem d_Mod_argumentSize_3 : decode b_Mod_argumentSize 3 = .ok (.iconst 1, 1) := by decide +kernel
theorem d_Mod_argumentSize_4 : decode b_Mod_argumentSize 4 = .ok (.isub, 1) := by decide +kernel
theorem d_Mod_argumentSize_5 : decode b_Mod_argumentSize 5 = .ok (.aload_n 0, 1) := by decide +kernel
theorem d_Mod_argumentSize_6 : decode b_Mod_argumentSize 6 = .ok (.getfield 437, 3) := by decide +kernel
theorem d_Mod_argumentSize_9 : decode b_Mod_argumentSize 9 = .ok (.if_icmp .ge 25, 3) := by decide +kernel
theorem d_Mod_argumentSize_12 : decode b_Mod_argumentSize 12 = .ok (.aload_n 0, 1) := by decide +kernel
theorem d_Mod_argumentSize_13 : decode b_Mod_argumentSize 13 = .ok (.getfield 75, 3) := by decide +kernel
theorem d_Mod_argumentSize_16 : decode b_Mod_argumentSize 16 = .ok (.iload_n 1, 1) := by decide +kernel
theorem d_Mod_argumentSize_17 : decode b_Mod_argumentSize 17 = .ok (.iload_n 2, 1) := by decide +kernel
theorem d_Mod_argumentSize_18 : decode b_Mod_argumentSize 18 = .ok (.iadd, 1) := by decide +kernel
theorem d_Mod_argumentSize_19 : decode b_Mod_argumentSize 19 = .ok (.iaload, 1) := by decide +kernel
theorem d_Mod_argumentSize_20 : decode b_Mod_argumentSize 20 = .ok (.aload_n 0, 1) := by decide +kernel
theorem d_Mod_argumentSize_21 : decode b_Mod_argumentSize 21 = .ok (.getfield 75, 3) := by decide +kernel
theorem d_Mod_argumentSize_24 : decode b_Mod_argumentSize 24 = .ok (.iload_n 1, 1) := by decide +kernel
theorem d_Mod_argumentSize_25 : decode b_Mod_argumentSize 25 = .ok (.iload_n 2, 1) := by decide +kernel
theorem d_Mod_argumentSize_26 : decode b_Mod_argumentSize 26 = .ok (.iadd, 1) := by decide +kernel
theorem d_Mod_argumentSize_27 : decode b_Mod_argumentSize 27 = .ok (.iconst 1, 1) := by decide +kernel
theorem d_Mod_argumentSize_28 : decode b_Mod_argumentSize 28 = .ok (.isub, 1) := by decide +kernel
theorem d_Mod_argumentSize_29 : decode b_Mod_argumentSize 29 = .ok (.iaload, 1) := by decide +kernel
theorem d_Mod_argumentSize_30 : decode b_Mod_argumentSize 30 = .ok (.isub, 1) := by decide +kernel
theorem d_Mod_argumentSize_31 : decode b_Mod_argumentSize 31 = .ok (.goto 4, 3) := by decide +kernel
theorem d_Mod_argumentSize_34 : decode b_Mod_argumentSize 34 = .ok (.iconst 0, 1) := by decide +kernel
theorem d_Mod_argumentSize_35 : decode b_Mod_argumentSize 35 = .ok (.ireturn, 1) := by decide +kernel
theorem d_Mod_beginArgument_0 : decode b_Mod_beginArgument 0 = .ok (.aload_n 0, 1) := by decide +kernel
theorem d_Mod_beginArgument_1 : decode b_Mod_beginArgument 1 = .ok (.getfield 262, 3) := by decide +kernel
theorem d_Mod_beginArgument_4 : decode b_Mod_beginArgument 4 = .ok (.ifCond .ne 19, 3) := by decide +kernel
theorem d_Mod_beginArgument_7 : decode b_Mod_beginArgument 7 = .ok (.aload_n 0, 1) := by decide +kernel
theorem d_Mod_beginArgument_8 : decode b_Mod_beginArgument 8 = .ok (.getfield 437, 3) := by decide +kernel
theorem d_Mod_beginArgument_11 : decode b_Mod_beginArgument 11 = .ok (.sipush 8192, 3) := by decide +kernel
theorem d_Mod_beginArgument_14 : decode b_Mod_beginArgument 14 = .ok (.if_icmp .ne 9, 3) := by decide +kernel
theorem d_Mod_beginArgument_17 : decode b_Mod_beginArgument 17 = .ok (.aload_n 0, 1) := by decide +kernel
theorem d_Mod_beginArgument_18 : decode b_Mod_beginArgument 18 = .ok (.bipush 40, 2) := by decide +kernel
theorem d_Mod_beginArgument_20 : decode b_Mod_beginArgument 20 = .ok (.invokevirtual 277, 3) := by decide +kernel
theorem d_Mod_beginArgument_23 : decode b_Mod_beginArgument 23 = .ok (.aload_n 0, 1) := by decide +kernel
theorem d_Mod_beginArgument_24 : decode b_Mod_beginArgument 24 = .ok (.getfield 262, 3) := by decide +kernel
theorem d_Mod_beginArgument_27 : decode b_Mod_beginArgument 27 = .ok (.ifCond .ne 26, 3) := by decide +kernel
theorem d_Mod_beginArgument_30 : decode b_Mod_beginArgument 30 = .ok (.aload_n 0, 1) := by decide +kernel
theorem d_Mod_beginArgument_31 : decode b_Mod_beginArgument 31 = .ok (.getfield 75, 3) := by decide +kernel
theorem d_Mod_beginArgument_34 : decode b_Mod_beginArgument 34 = .ok (.aload_n 0, 1) := by decide +kernel
theorem d_Mod_beginArgument_35 : decode b_Mod_beginArgument 35 = .ok (.getfield 437, 3) := by decide +kernel
theorem d_Mod_beginArgument_38 : decode b_Mod_beginArgument 38 = .ok (.aload_n 0, 1) := by decide +kernel
theorem d_Mod_beginArgument_39 : decode b_Mod_beginArgument 39 = .ok (.getfield 420, 3) := by decide +kernel
theorem d_Mod_beginArgument_42 : decode b_Mod_beginArgument 42 = .ok (.iastore, 1) := by decide +kernel
theorem d_Mod_beginArgument_43 : decode b_Mod_beginArgument 43 = .ok (.aload_n 0, 1) := by decide +kernel
theorem d_Mod_beginArgument_44 : decode b_Mod_beginArgument 44 = .ok (.dup, 1) := by decide +kernel
theorem d_Mod_beginArgument_45 : decode b_Mod_beginArgument 45 = .ok (.getfield 437, 3) := by decide +kernel
theorem d_Mod_beginArgument_48 : decode b_Mod_beginArgument 48 = .ok (.iconst 1, 1) := by decide +kernel
theorem d_Mod_beginArgument_49 : decode b_Mod_beginArgument 49 = .ok (.iadd, 1) := by decide +kernel
theorem d_Mod_beginArgument_50 : decode b_Mod_beginArgument 50 = .ok (.putfield 437, 3) := by decide +kernel
theorem d_Mod_beginArgument_53 : decode b_Mod_beginArgument 53 = .ok (.return_, 1) := by decide +kernel
theorem d_Mod_beginIf_0 : decode b_Mod_beginIf 0 = .ok (.aload_n 0, 1) := by decide +kernel
theorem d_Mod_beginIf_1 : decode b_Mod_beginIf 1 = .ok (.getfield 786, 3) := by decide +kernel
theorem d_Mod_beginIf_4 : decode b_Mod_beginIf 4 = .ok (.bipush 100, 2) := by decide +kernel
theorem d_Mod_beginIf_6 : decode b_Mod_beginIf 6 = .ok (.if_icmp .ne 11, 3) := by decide +kernel
theorem d_Mod_beginIf_9 : decode b_Mod_beginIf 9 = .ok (.aload_n 0, 1) := by decide +kernel
theorem d_Mod_beginIf_10 : decode b_Mod_beginIf 10 = .ok (.bipush 21, 2) := by decide +kernel
theorem d_Mod_beginIf_12 : decode b_Mod_beginIf 12 = .ok (.iload_n 3, 1) := by decide +kernel
theorem d_Mod_beginIf_13 : decode b_Mod_beginIf 13 = .ok (.invokevirtual 628, 3) := by decide +kernel
theorem d_Mod_beginIf_16 : decode b_Mod_beginIf 16 = .ok (.return_, 1) := by decide +kernel
theorem d_Mod_beginIf_17 : decode b_Mod_beginIf 17 = .ok (.aload_n 0, 1) := by decide +kernel
theorem d_Mod_beginIf_18 : decode b_Mod_beginIf 18 = .ok (.getfield 200, 3) := by decide +kernel
theorem d_Mod_beginIf_21 : decode b_Mod_beginIf 21 = .ok (.aload_n 0, 1) := by decide +kernel
theorem d_Mod_beginIf_22 : decode b_Mod_beginIf 22 = .ok (.getfield 786, 3) := by decide +kernel
theorem d_Mod_beginIf_25 : decode b_Mod_beginIf 25 = .ok (.iload_n 3, 1) := by decide +kernel
theorem d_Mod_beginIf_26 : decode b_Mod_beginIf 26 = .ok (.iastore, 1) := by decide +kernel
theorem d_Mod_beginIf_27 : decode b_Mod_beginIf 27 = .ok (.aload_n 0, 1) := by decide +kernel
theorem d_Mod_beginIf_28 : decode b_Mod_beginIf 28 = .ok (.getfield 203, 3) := by decide +kernel
theorem d_Mod_beginIf_31 : decode b_Mod_beginIf 31 = .ok (.aload_n 0, 1) := by decide +kernel
theorem d_Mod_beginIf_32 : decode b_Mod_beginIf 32 = .ok (.getfield 786, 3) := by decide +kernel
theorem d_Mod_beginIf_35 : decode b_Mod_beginIf 35 = .ok (.iload_n 1, 1) := by decide +kernel
theorem d_Mod_beginIf_36 : decode b_Mod_beginIf 36 = .ok (.bastore, 1) := by decide +kernel
theorem d_Mod_beginIf_37 : decode b_Mod_beginIf 37 = .ok (.aload_n 0, 1) := by decide +kernel
theorem d_Mod_beginIf_38 : decode b_Mod_beginIf 38 = .ok (.getfield 209, 3) := by decide +kernel
theorem d_Mod_beginIf_41 : decode b_Mod_beginIf 41 = .ok (.aload_n 0, 1) := by decide +kernel
theorem d_Mod_beginIf_42 : decode b_Mod_beginIf 42 = .ok (.getfield 786, 3) := by decide +kernel
theorem d_Mod_beginIf_45 : decode b_Mod_beginIf 45 = .ok (.iload_n 2, 1) := by decide +kernel
theorem d_Mod_beginIf_46 : decode b_Mod_beginIf 46 = .ok (.bastore, 1) := by decide +kernel
theorem d_Mod_beginIf_47 : decode b_Mod_beginIf 47 = .ok (.aload_n 0, 1) := by decide +kernel
theorem d_Mod_beginIf_48 : decode b_Mod_beginIf 48 = .ok (.getfield 206, 3) := by decide +kernel
theorem d_Mod_beginIf_51 : decode b_Mod_beginIf 51 = .ok (.aload_n 0, 1) := by decide +kernel
theorem d_Mod_beginIf_52 : decode b_Mod_beginIf 52 = .ok (.getfield 786, 3) := by decide +kernel
theorem d_Mod_beginIf_55 : decode b_Mod_beginIf 55 = .ok (.iload_n 2, 1) := by decide +kernel
theorem d_Mod_beginIf_56 : decode b_Mod_beginIf 56 = .ok (.bastore, 1) := by decide +kernel
theorem d_Mod_beginIf_57 : decode b_Mod_beginIf 57 = .ok (.aload_n 0, 1) := by decide +kernel
theorem d_Mod_beginIf_58 : decode b_Mod_beginIf 58 = .ok (.getfield 212, 3) := by decide +kernel
theorem d_Mod_beginIf_61 : decode b_Mod_beginIf 61 = .ok (.aload_n 0, 1) := by decide +kernel
theorem d_Mod_beginIf_62 : decode b_Mod_beginIf 62 = .ok (.getfield 786, 3) := by decide +kernel
theorem d_Mod_beginIf_65 : decode b_Mod_beginIf 65 = .ok (.iconst 0, 1) := by decide +kernel
theorem d_Mod_beginIf_66 : decode b_Mod_beginIf 66 = .ok (.bastore, 1) := by decide +kernel
theorem d_Mod_beginIf_67 : decode b_Mod_beginIf 67 = .ok (.aload_n 0, 1) := by decide +kernel
theorem d_Mod_beginIf_68 : decode b_Mod_beginIf 68 = .ok (.dup, 1) := by decide +kernel
theorem d_Mod_beginIf_69 : decode b_Mod_beginIf 69 = .ok (.getfield 786, 3) := by decide +kernel
theorem d_Mod_beginIf_72 : decode b_Mod_beginIf 72 = .ok (.iconst 1, 1) := by decide +kernel
theorem d_Mod_beginIf_73 : decode b_Mod_beginIf 73 = .ok (.iadd, 1) := by decide +kernel
theorem d_Mod_beginIf_74 : decode b_Mod_beginIf 74 = .ok (.putfield 786, 3) := by decide +kernel
theorem d_Mod_beginIf_77 : decode b_Mod_beginIf 77 = .ok (.return_, 1) := by decide +kernel
theorem d_Mod_bodyCell_0 : decode b_Mod_bodyCell 0 = .ok (.aload_n 0, 1) := by decide +kernel
theorem d_Mod_bodyCell_1 : decode b_Mod_bodyCell 1 = .ok (.aload_n 0, 1) := by decide +kernel
theorem d_Mod_bodyCell_2 : decode b_Mod_bodyCell 2 = .ok (.getfield 142, 3) := by decide +kernel
theorem d_Mod_bodyCell_5 : decode b_Mod_bodyCell 5 = .ok (.iload_n 1, 1) := by decide +kernel
theorem d_Mod_bodyCell_6 : decode b_Mod_bodyCell 6 = .ok (.iaload, 1) := by decide +kernel
theorem d_Mod_bodyCell_7 : decode b_Mod_bodyCell 7 = .ok (.aload_n 0, 1) := by decide +kernel
theorem d_Mod_bodyCell_8 : decode b_Mod_bodyCell 8 = .ok (.getfield 145, 3) := by decide +kernel
theorem d_Mod_bodyCell_11 : decode b_Mod_bodyCell 11 = .ok (.iload_n 1, 1) := by decide +kernel
theorem d_Mod_bodyCell_12 : decode b_Mod_bodyCell 12 = .ok (.iaload, 1) := by decide +kernel
theorem d_Mod_bodyCell_13 : decode b_Mod_bodyCell 13 = .ok (.iload_n 2, 1) := by decide +kernel
theorem d_Mod_bodyCell_14 : decode b_Mod_bodyCell 14 = .ok (.aload_n 0, 1) := by decide +kernel
theorem d_Mod_bodyCell_15 : decode b_Mod_bodyCell 15 = .ok (.getfield 148, 3) := by decide +kernel
theorem d_Mod_bodyCell_18 : decode b_Mod_bodyCell 18 = .ok (.iload_n 1, 1) := by decide +kernel
theorem d_Mod_bodyCell_19 : decode b_Mod_bodyCell 19 = .ok (.baload, 1) := by decide +kernel
theorem d_Mod_bodyCell_20 : decode b_Mod_bodyCell 20 = .ok (.iconst 0, 1) := by decide +kernel
theorem d_Mod_bodyCell_21 : decode b_Mod_bodyCell 21 = .ok (.invokevirtual 581, 3) := by decide +kernel
theorem d_Mod_bodyCell_24 : decode b_Mod_bodyCell 24 = .ok (.ireturn, 1) := by decide +kernel
theorem d_Mod_byteAt_0 : decode b_Mod_byteAt 0 = .ok (.iload_n 1, 1) := by decide +kernel
theorem d_Mod_byteAt_1 : decode b_Mod_byteAt 1 = .ok (.iload_n 2, 1) := by decide +kernel
theorem d_Mod_byteAt_2 : decode b_Mod_byteAt 2 = .ok (.if_icmp .ge 13, 3) := by decide +kernel
theorem d_Mod_byteAt_5 : decode b_Mod_byteAt 5 = .ok (.aload_n 0, 1) := by decide +kernel
theorem d_Mod_byteAt_6 : decode b_Mod_byteAt 6 = .ok (.iload_n 1, 1) := by decide +kernel
theorem d_Mod_byteAt_7 : decode b_Mod_byteAt 7 = .ok (.baload, 1) := by decide +kernel
theorem d_Mod_byteAt_8 : decode b_Mod_byteAt 8 = .ok (.sipush 255, 3) := by decide +kernel
theorem d_Mod_byteAt_11 : decode b_Mod_byteAt 11 = .ok (.iand, 1) := by decide +kernel
theorem d_Mod_byteAt_12 : decode b_Mod_byteAt 12 = .ok (.goto 4, 3) := by decide +kernel
theorem d_Mod_byteAt_15 : decode b_Mod_byteAt 15 = .ok (.iconst (-1), 1) := by decide +kernel
theorem d_Mod_byteAt_16 : decode b_Mod_byteAt 16 = .ok (.ireturn, 1) := by decide +kernel
theorem d_Mod_byteOf_0 : decode b_Mod_byteOf 0 = .ok (.aload_n 0, 1) := by decide +kernel
theorem d_Mod_byteOf_1 : decode b_Mod_byteOf 1 = .ok (.getfield 85, 3) := by decide +kernel
theorem d_Mod_byteOf_4 : decode b_Mod_byteOf 4 = .ok (.aload_n 0, 1) := by decide +kernel
theorem d_Mod_byteOf_5 : decode b_Mod_byteOf 5 = .ok (.getfield 99, 3) := by decide +kernel
theorem d_Mod_byteOf_8 : decode b_Mod_byteOf 8 = .ok (.iload_n 1, 1) := by decide +kernel
theorem d_Mod_byteOf_9 : decode b_Mod_byteOf 9 = .ok (.iaload, 1) := by decide +kernel
theorem d_Mod_byteOf_10 : decode b_Mod_byteOf 10 = .ok (.iload_n 2, 1) := by decide +kernel
theorem d_Mod_byteOf_11 : decode b_Mod_byteOf 11 = .ok (.iadd, 1) := by decide +kernel
theorem d_Mod_byteOf_12 : decode b_Mod_byteOf 12 = .ok (.baload, 1) := by decide +kernel
theorem d_Mod_byteOf_13 : decode b_Mod_byteOf 13 = .ok (.sipush 255, 3) := by decide +kernel
theorem d_Mod_byteOf_16 : decode b_Mod_byteOf 16 = .ok (.iand, 1) := by decide +kernel
theorem d_Mod_byteOf_17 : decode b_Mod_byteOf 17 = .ok (.ireturn, 1) := by decide +kernel
theorem d_Mod_cell_0 : decode b_Mod_cell 0 = .ok (.aload_n 0, 1) := by decide +kernel
theorem d_Mod_cell_1 : decode b_Mod_cell 1 = .ok (.getfield 578, 3) := by decide +kernel
theorem d_Mod_cell_4 : decode b_Mod_cell 4 = .ok (.istore 6, 2) := by decide +kernel
theorem d_Mod_cell_6 : decode b_Mod_cell 6 = .ok (.aload_n 0, 1) := by decide +kernel
theorem d_Mod_cell_7 : decode b_Mod_cell 7 = .ok (.dup, 1) := by decide +kernel
theorem d_Mod_cell_8 : decode b_Mod_cell 8 = .ok (.getfield 578, 3) := by decide +kernel
theorem d_Mod_cell_11 : decode b_Mod_cell 11 = .ok (.iconst 1, 1) := by decide +kernel
theorem d_Mod_cell_12 : decode b_Mod_cell 12 = .ok (.iadd, 1) := by decide +kernel
theorem d_Mod_cell_13 : decode b_Mod_cell 13 = .ok (.putfield 578, 3) := by decide +kernel
theorem d_Mod_cell_16 : decode b_Mod_cell 16 = .ok (.aload_n 0, 1) := by decide +kernel
theorem d_Mod_cell_17 : decode b_Mod_cell 17 = .ok (.getfield 99, 3) := by decide +kernel
theorem d_Mod_cell_20 : decode b_Mod_cell 20 = .ok (.iload 6, 2) := by decide +kernel
theorem d_Mod_cell_22 : decode b_Mod_cell 22 = .ok (.iload_n 1, 1) := by decide +kernel
theorem d_Mod_cell_23 : decode b_Mod_cell 23 = .ok (.iastore, 1) := by decide +kernel
theorem d_Mod_cell_24 : decode b_Mod_cell 24 = .ok (.aload_n 0, 1) := by decide +kernel
theorem d_Mod_cell_25 : decode b_Mod_cell 25 = .ok (.getfield 102, 3) := by decide +kernel
theorem d_Mod_cell_28 : decode b_Mod_cell 28 = .ok (.iload 6, 2) := by decide +kernel
theorem d_Mod_cell_30 : decode b_Mod_cell 30 = .ok (.iload_n 2, 1) := by decide +kernel
theorem d_Mod_cell_31 : decode b_Mod_cell 31 = .ok (.iastore, 1) := by decide +kernel
theorem d_Mod_cell_32 : decode b_Mod_cell 32 = .ok (.aload_n 0, 1) := by decide +kernel
theorem d_Mod_cell_33 : decode b_Mod_cell 33 = .ok (.getfield 105, 3) := by decide +kernel
theorem d_Mod_cell_36 : decode b_Mod_cell 36 = .ok (.iload 6, 2) := by decide +kernel
theorem d_Mod_cell_38 : decode b_Mod_cell 38 = .ok (.iload_n 3, 1) := by decide +kernel
theorem d_Mod_cell_39 : decode b_Mod_cell 39 = .ok (.iastore, 1) := by decide +kernel
theorem d_Mod_cell_40 : decode b_Mod_cell 40 = .ok (.aload_n 0, 1) := by decide +kernel
theorem d_Mod_cell_41 : decode b_Mod_cell 41 = .ok (.getfield 108, 3) := by decide +kernel
theorem d_Mod_cell_44 : decode b_Mod_cell 44 = .ok (.iload 6, 2) := by decide +kernel
theorem d_Mod_cell_46 : decode b_Mod_cell 46 = .ok (.iconst 0, 1) := by decide +kernel
theorem d_Mod_cell_47 : decode b_Mod_cell 47 = .ok (.iastore, 1) := by decide +kernel
theorem d_Mod_cell_48 : decode b_Mod_cell 48 = .ok (.aload_n 0, 1) := by decide +kernel
theorem d_Mod_cell_49 : decode b_Mod_cell 49 = .ok (.getfield 111, 3) := by decide +kernel
theorem d_Mod_cell_52 : decode b_Mod_cell 52 = .ok (.iload 6, 2) := by decide +kernel
theorem d_Mod_cell_54 : decode b_Mod_cell 54 = .ok (.iconst (-1), 1) := by decide +kernel
theorem d_Mod_cell_55 : decode b_Mod_cell 55 = .ok (.iastore, 1) := by decide +kernel
theorem d_Mod_cell_56 : decode b_Mod_cell 56 = .ok (.aload_n 0, 1) := by decide +kernel
theorem d_Mod_cell_57 : decode b_Mod_cell 57 = .ok (.getfield 114, 3) := by decide +kernel
theorem d_Mod_cell_60 : decode b_Mod_cell 60 = .ok (.iload 6, 2) := by decide +kernel
theorem d_Mod_cell_62 : decode b_Mod_cell 62 = .ok (.iload 4, 2) := by decide +kernel
theorem d_Mod_cell_64 : decode b_Mod_cell 64 = .ok (.bastore, 1) := by decide +kernel
theorem d_Mod_cell_65 : decode b_Mod_cell 65 = .ok (.aload_n 0, 1) := by decide +kernel
theorem d_Mod_cell_66 : decode b_Mod_cell 66 = .ok (.getfield 118, 3) := by decide +kernel
theorem d_Mod_cell_69 : decode b_Mod_cell 69 = .ok (.iload 6, 2) := by decide +kernel
theorem d_Mod_cell_71 : decode b_Mod_cell 71 = .ok (.iload 5, 2) := by decide +kernel
theorem d_Mod_cell_73 : decode b_Mod_cell 73 = .ok (.bastore, 1) := by decide +kernel
theorem d_Mod_cell_74 : decode b_Mod_cell 74 = .ok (.iload 6, 2) := by decide +kernel
theorem d_Mod_cell_76 : decode b_Mod_cell 76 = .ok (.ireturn, 1) := by decide +kernel
theorem d_Mod_changeQuotes_0 : decode b_Mod_changeQuotes 0 = .ok (.iload_n 2, 1) := by decide +kernel
theorem d_Mod_changeQuotes_1 : decode b_Mod_changeQuotes 1 = .ok (.ifCond .ne 30, 3) := by decide +kernel
theorem d_Mod_changeQuotes_4 : decode b_Mod_changeQuotes 4 = .ok (.aload_n 0, 1) := by decide +kernel
theorem d_Mod_changeQuotes_5 : decode b_Mod_changeQuotes 5 = .ok (.iconst 1, 1) := by decide +kernel
theorem d_Mod_changeQuotes_6 : decode b_Mod_changeQuotes 6 = .ok (.putfield 306, 3) := by decide +kernel
theorem d_Mod_changeQuotes_9 : decode b_Mod_changeQuotes 9 = .ok (.aload_n 0, 1) := by decide +kernel
theorem d_Mod_changeQuotes_10 : decode b_Mod_changeQuotes 10 = .ok (.getfield 37, 3) := by decide +kernel
theorem d_Mod_changeQuotes_13 : decode b_Mod_changeQuotes 13 = .ok (.iconst 0, 1) := by decide +kernel
theorem d_Mod_changeQuotes_14 : decode b_Mod_changeQuotes 14 = .ok (.bipush 96, 2) := by decide +kernel
theorem d_Mod_changeQuotes_16 : decode b_Mod_changeQuotes 16 = .ok (.iastore, 1) := by decide +kernel
theorem d_Mod_changeQuotes_17 : decode b_Mod_changeQuotes 17 = .ok (.aload_n 0, 1) := by decide +kernel
theorem d_Mod_changeQuotes_18 : decode b_Mod_changeQuotes 18 = .ok (.iconst 1, 1) := by decide +kernel
theorem d_Mod_changeQuotes_19 : decode b_Mod_changeQuotes 19 = .ok (.putfield 313, 3) := by decide +kernel
theorem d_Mod_changeQuotes_22 : decode b_Mod_changeQuotes 22 = .ok (.aload_n 0, 1) := by decide +kernel
theorem d_Mod_changeQuotes_23 : decode b_Mod_changeQuotes 23 = .ok (.getfield 40, 3) := by decide +kernel
theorem d_Mod_changeQuotes_26 : decode b_Mod_changeQuotes 26 = .ok (.iconst 0, 1) := by decide +kernel
theorem d_Mod_changeQuotes_27 : decode b_Mod_changeQuotes 27 = .ok (.bipush 39, 2) := by decide +kernel
theorem d_Mod_changeQuotes_29 : decode b_Mod_changeQuotes 29 = .ok (.iastore, 1) := by decide +kernel
theorem d_Mod_changeQuotes_30 : decode b_Mod_changeQuotes 30 = .ok (.return_, 1) := by decide +kernel
theorem d_Mod_changeQuotes_31 : decode b_Mod_changeQuotes 31 = .ok (.aload_n 0, 1) := by decide +kernel
theorem d_Mod_changeQuotes_32 : decode b_Mod_changeQuotes 32 = .ok (.iload_n 1, 1) := by decide +kernel
theorem d_Mod_changeQuotes_33 : decode b_Mod_changeQuotes 33 = .ok (.iconst 1, 1) := by decide +kernel
theorem d_Mod_changeQuotes_34 : decode b_Mod_changeQuotes 34 = .ok (.invokevirtual 522, 3) := by decide +kernel
theorem d_Mod_changeQuotes_37 : decode b_Mod_changeQuotes 37 = .ok (.ifCond .eq 12, 3) := by decide +kernel
theorem d_Mod_changeQuotes_40 : decode b_Mod_changeQuotes 40 = .ok (.aload_n 0, 1) := by decide +kernel
theorem d_Mod_changeQuotes_41 : decode b_Mod_changeQuotes 41 = .ok (.iload_n 1, 1) := by decide +kernel
theorem d_Mod_changeQuotes_42 : decode b_Mod_changeQuotes 42 = .ok (.iconst 2, 1) := by decide +kernel
theorem d_Mod_changeQuotes_43 : decode b_Mod_changeQuotes 43 = .ok (.invokevirtual 522, 3) := by decide +kernel
theorem d_Mod_changeQuotes_46 : decode b_Mod_changeQuotes 46 = .ok (.ifCond .ne 10, 3) := by decide +kernel
theorem d_Mod_changeQuotes_49 : decode b_Mod_changeQuotes 49 = .ok (.aload_n 0, 1) := by decide +kernel
theorem d_Mod_changeQuotes_50 : decode b_Mod_changeQuotes 50 = .ok (.bipush 37, 2) := by decide +kernel
theorem d_Mod_changeQuotes_52 : decode b_Mod_changeQuotes 52 = .ok (.invokevirtual 277, 3) := by decide +kernel
theorem d_Mod_changeQuotes_55 : decode b_Mod_changeQuotes 55 = .ok (.return_, 1) := by decide +kernel
theorem d_Mod_changeQuotes_56 : decode b_Mod_changeQuotes 56 = .ok (.aload_n 0, 1) := by decide +kernel
theorem d_Mod_changeQuotes_57 : decode b_Mod_changeQuotes 57 = .ok (.aload_n 0, 1) := by decide +kernel
theorem d_Mod_changeQuotes_58 : decode b_Mod_changeQuotes 58 = .ok (.iload_n 1, 1) := by decide +kernel
theorem d_Mod_changeQuotes_59 : decode b_Mod_changeQuotes 59 = .ok (.iconst 1, 1) := by decide +kernel
theorem d_Mod_changeQuotes_60 : decode b_Mod_changeQuotes 60 = .ok (.invokevirtual 466, 3) := by decide +kernel
theorem d_Mod_changeQuotes_63 : decode b_Mod_changeQuotes 63 = .ok (.putfield 306, 3) := by decide +kernel
theorem d_Mod_changeQuotes_66 : decode b_Mod_changeQuotes 66 = .ok (.aload_n 0, 1) := by decide +kernel
theorem d_Mod_changeQuotes_67 : decode b_Mod_changeQuotes 67 = .ok (.aload_n 0, 1) := by decide +kernel
theorem d_Mod_changeQuotes_68 : decode b_Mod_changeQuotes 68 = .ok (.iload_n 1, 1) := by decide +kernel
theorem d_Mod_changeQuotes_69 : decode b_Mod_changeQuotes 69 = .ok (.iconst 2, 1) := by decide +kernel
theorem d_Mod_changeQuotes_70 : decode b_Mod_changeQuotes 70 = .ok (.invokevirtual 466, 3) := by decide +kernel
theorem d_Mod_changeQuotes_73 : decode b_Mod_changeQuotes 73 = .ok (.putfield 313, 3) := by decide +kernel
theorem d_Mod_changeQuotes_76 : decode b_Mod_changeQuotes 76 = .ok (.iconst 0, 1) := by decide +kernel
theorem d_Mod_changeQuotes_77 : decode b_Mod_changeQuotes 77 = .ok (.istore_n 3, 1) := by decide +kernel
theorem d_Mod_changeQuotes_78 : decode b_Mod_changeQuotes 78 = .ok (.iload_n 3, 1) := by decide +kernel
theorem d_Mod_changeQuotes_79 : decode b_Mod_changeQuotes 79 = .ok (.aload_n 0, 1) := by decide +kernel
theorem d_Mod_changeQuotes_80 : decode b_Mod_changeQuotes 80 = .ok (.getfield 306, 3) := by decide +kernel
theorem d_Mod_changeQuotes_83 : decode b_Mod_changeQuotes 83 = .ok (.if_icmp .ge 32, 3) := by decide +kernel
theorem d_Mod_changeQuotes_86 : decode b_Mod_changeQuotes 86 = .ok (.aload_n 0, 1) := by decide +kernel
theorem d_Mod_changeQuotes_87 : decode b_Mod_changeQuotes 87 = .ok (.getfield 37, 3) := by decide +kernel
theorem d_Mod_changeQuotes_90 : decode b_Mod_changeQuotes 90 = .ok (.iload_n 3, 1) := by decide +kernel
theorem d_Mod_changeQuotes_91 : decode b_Mod_changeQuotes 91 = .ok (.aload_n 0, 1) := by decide +kernel
theorem d_Mod_changeQuotes_92 : decode b_Mod_changeQuotes 92 = .ok (.getfield 72, 3) := by decide +kernel
theorem d_Mod_changeQuotes_95 : decode b_Mod_changeQuotes 95 = .ok (.aload_n 0, 1) := by decide +kernel
theorem d_Mod_changeQuotes_96 : decode b_Mod_changeQuotes 96 = .ok (.iload_n 1, 1) := by decide +kernel
theorem d_Mod_changeQuotes_97 : decode b_Mod_changeQuotes 97 = .ok (.iconst 1, 1) := by decide +kernel
theorem d_Mod_changeQuotes_98 : decode b_Mod_changeQuotes 98 = .ok (.invokevirtual 462, 3) := by decide +kernel
theorem d_Mod_changeQuotes_101 : decode b_Mod_changeQuotes 101 = .ok (.iload_n 3, 1) := by decide +kernel
theorem d_Mod_changeQuotes_102 : decode b_Mod_changeQuotes 102 = .ok (.iadd, 1) := by decide +kernel
theorem d_Mod_changeQuotes_103 : decode b_Mod_changeQuotes 103 = .ok (.baload, 1) := by decide +kernel
theorem d_Mod_changeQuotes_104 : decode b_Mod_changeQuotes 104 = .ok (.sipush 255, 3) := by decide +kernel
theorem d_Mod_changeQuotes_107 : decode b_Mod_changeQuotes 107 = .ok (.iand, 1) := by decide +kernel
theorem d_Mod_changeQuotes_108 : decode b_Mod_changeQuotes 108 = .ok (.iastore, 1) := by decide +kernel
theorem d_Mod_changeQuotes_109 : decode b_Mod_changeQuotes 109 = .ok (.iinc 3 1, 3) := by decide +kernel
theorem d_Mod_changeQuotes_112 : decode b_Mod_changeQuotes 112 = .ok (.goto (-34), 3) := by decide +kernel
theorem d_Mod_changeQuotes_115 : decode b_Mod_changeQuotes 115 = .ok (.iconst 0, 1) := by decide +kernel
theorem d_Mod_changeQuotes_116 : decode b_Mod_changeQuotes 116 = .ok (.istore_n 3, 1) := by decide +kernel
theorem d_Mod_changeQuotes_117 : decode b_Mod_changeQuotes 117 = .ok (.iload_n 3, 1) := by decide +kernel
theorem d_Mod_changeQuotes_118 : decode b_Mod_changeQuotes 118 = .ok (.aload_n 0, 1) := by decide +kernel
theorem d_Mod_changeQuotes_119 : decode b_Mod_changeQuotes 119 = .ok (.getfield 313, 3) := by decide +kernel
theorem d_Mod_changeQuotes_122 : decode b_Mod_changeQuotes 122 = .ok (.if_icmp .ge 32, 3) := by decide +kernel
theorem d_Mod_changeQuotes_125 : decode b_Mod_changeQuotes 125 = .ok (.aload_n 0, 1) := by decide +kernel
theorem d_Mod_changeQuotes_126 : decode b_Mod_changeQuotes 126 = .ok (.getfield 40, 3) := by decide +kernel
theorem d_Mod_changeQuotes_129 : decode b_Mod_changeQuotes 129 = .ok (.iload_n 3, 1) := by decide +kernel
theorem d_Mod_changeQuotes_130 : decode b_Mod_changeQuotes 130 = .ok (.aload_n 0, 1) := by decide +kernel
theorem d_Mod_changeQuotes_131 : decode b_Mod_changeQuotes 131 = .ok (.getfield 72, 3) := by decide +kernel
theorem d_Mod_changeQuotes_134 : decode b_Mod_changeQuotes 134 = .ok (.aload_n 0, 1) := by decide +kernel
theorem d_Mod_changeQuotes_135 : decode b_Mod_changeQuotes 135 = .ok (.iload_n 1, 1) := by decide +kernel
theorem d_Mod_changeQuotes_136 : decode b_Mod_changeQuotes 136 = .ok (.iconst 2, 1) := by decide +kernel
theorem d_Mod_changeQuotes_137 : decode b_Mod_changeQuotes 137 = .ok (.invokevirtual 462, 3) := by decide +kernel
theorem d_Mod_changeQuotes_140 : decode b_Mod_changeQuotes 140 = .ok (.iload_n 3, 1) := by decide +kernel
theorem d_Mod_changeQuotes_141 : decode b_Mod_changeQuotes 141 = .ok (.iadd, 1) := by decide +kernel
theorem d_Mod_changeQuotes_142 : decode b_Mod_changeQuotes 142 = .ok (.baload, 1) := by decide +kernel
theorem d_Mod_changeQuotes_143 : decode b_Mod_changeQuotes 143 = .ok (.sipush 255, 3) := by decide +kernel
theorem d_Mod_changeQuotes_146 : decode b_Mod_changeQuotes 146 = .ok (.iand, 1) := by decide +kernel
theorem d_Mod_changeQuotes_147 : decode b_Mod_changeQuotes 147 = .ok (.iastore, 1) := by decide +kernel
theorem d_Mod_changeQuotes_148 : decode b_Mod_changeQuotes 148 = .ok (.iinc 3 1, 3) := by decide +kernel
theorem d_Mod_changeQuotes_151 : decode b_Mod_changeQuotes 151 = .ok (.goto (-34), 3) := by decide +kernel
theorem d_Mod_changeQuotes_154 : decode b_Mod_changeQuotes 154 = .ok (.return_, 1) := by decide +kernel
theorem d_Mod_characterOf_0 : decode b_Mod_characterOf 0 = .ok (.aload_n 0, 1) := by decide +kernel
theorem d_Mod_characterOf_1 : decode b_Mod_characterOf 1 = .ok (.getfield 102, 3) := by decide +kernel
theorem d_Mod_characterOf_4 : decode b_Mod_characterOf 4 = .ok (.iload_n 1, 1) := by decide +kernel
theorem d_Mod_characterOf_5 : decode b_Mod_characterOf 5 = .ok (.iaload, 1) := by decide +kernel
theorem d_Mod_characterOf_6 : decode b_Mod_characterOf 6 = .ok (.istore_n 2, 1) := by decide +kernel
theorem d_Mod_characterOf_7 : decode b_Mod_characterOf 7 = .ok (.iload_n 2, 1) := by decide +kernel
theorem d_Mod_characterOf_8 : decode b_Mod_characterOf 8 = .ok (.iconst 3, 1) := by decide +kernel
theorem d_Mod_characterOf_9 : decode b_Mod_characterOf 9 = .ok (.if_icmp .ne 29, 3) := by decide +kernel
theorem d_Mod_characterOf_12 : decode b_Mod_characterOf 12 = .ok (.aload_n 0, 1) := by decide +kernel
theorem d_Mod_characterOf_13 : decode b_Mod_characterOf 13 = .ok (.iload_n 1, 1) := by decide +kernel
theorem d_Mod_characterOf_14 : decode b_Mod_characterOf 14 = .ok (.iconst 0, 1) := by decide +kernel
theorem d_Mod_characterOf_15 : decode b_Mod_characterOf 15 = .ok (.invokevirtual 585, 3) := by decide +kernel
theorem d_Mod_characterOf_18 : decode b_Mod_characterOf 18 = .ok (.bipush 39, 2) := by decide +kernel
theorem d_Mod_characterOf_20 : decode b_Mod_characterOf 20 = .ok (.if_icmp .ne 18, 3) := by decide +kernel
theorem d_Mod_characterOf_23 : decode b_Mod_characterOf 23 = .ok (.aload_n 0, 1) := by decide +kernel
theorem d_Mod_characterOf_24 : decode b_Mod_characterOf 24 = .ok (.iload_n 1, 1) := by decide +kernel
theorem d_Mod_characterOf_25 : decode b_Mod_characterOf 25 = .ok (.iconst 1, 1) := by decide +kernel
theorem d_Mod_characterOf_26 : decode b_Mod_characterOf 26 = .ok (.invokevirtual 585, 3) := by decide +kernel
theorem d_Mod_characterOf_29 : decode b_Mod_characterOf 29 = .ok (.bipush 92, 2) := by decide +kernel
theorem d_Mod_characterOf_31 : decode b_Mod_characterOf 31 = .ok (.if_icmp .eq 7, 3) := by decide +kernel
theorem d_Mod_characterOf_34 : decode b_Mod_characterOf 34 = .ok (.iconst 1, 1) := by decide +kernel
theorem d_Mod_characterOf_35 : decode b_Mod_characterOf 35 = .ok (.goto 4, 3) := by decide +kernel
theorem d_Mod_characterOf_38 : decode b_Mod_characterOf 38 = .ok (.iconst 0, 1) := by decide +kernel
theorem d_Mod_characterOf_39 : decode b_Mod_characterOf 39 = .ok (.istore_n 3, 1) := by decide +kernel
theorem d_Mod_characterOf_40 : decode b_Mod_characterOf 40 = .ok (.iload_n 3, 1) := by decide +kernel
theorem d_Mod_characterOf_41 : decode b_Mod_characterOf 41 = .ok (.ifCond .eq 11, 3) := by decide +kernel
theorem d_Mod_characterOf_44 : decode b_Mod_characterOf 44 = .ok (.aload_n 0, 1) := by decide +kernel
theorem d_Mod_characterOf_45 : decode b_Mod_characterOf 45 = .ok (.iload_n 1, 1) := by decide +kernel
theorem d_Mod_characterOf_46 : decode b_Mod_characterOf 46 = .ok (.iconst 1, 1) := by decide +kernel
theorem d_Mod_characterOf_47 : decode b_Mod_characterOf 47 = .ok (.invokevirtual 585, 3) := by decide +kernel
theorem d_Mod_characterOf_50 : decode b_Mod_characterOf 50 = .ok (.i2l, 1) := by decide +kernel
theorem d_Mod_characterOf_51 : decode b_Mod_characterOf 51 = .ok (.lreturn, 1) := by decide +kernel
theorem d_Mod_characterOf_52 : decode b_Mod_characterOf 52 = .ok (.iload_n 2, 1) := by decide +kernel
theorem d_Mod_characterOf_53 : decode b_Mod_characterOf 53 = .ok (.iconst 4, 1) := by decide +kernel
theorem d_Mod_characterOf_54 : decode b_Mod_characterOf 54 = .ok (.if_icmp .ne 34, 3) := by decide +kernel
theorem d_Mod_characterOf_57 : decode b_Mod_characterOf 57 = .ok (.aload_n 0, 1) := by decide +kernel
theorem d_Mod_characterOf_58 : decode b_Mod_characterOf 58 = .ok (.iload_n 1, 1) := by decide +kernel
theorem d_Mod_characterOf_59 : decode b_Mod_characterOf 59 = .ok (.iconst 0, 1) := by decide +kernel
theorem d_Mod_characterOf_60 : decode b_Mod_characterOf 60 = .ok (.invokevirtual 585, 3) := by decide +kernel
theorem d_Mod_characterOf_63 : decode b_Mod_characterOf 63 = .ok (.bipush 39, 2) := by decide +kernel
theorem d_Mod_characterOf_65 : decode b_Mod_characterOf 65 = .ok (.if_icmp .ne 23, 3) := by decide +kernel
theorem d_Mod_characterOf_68 : decode b_Mod_characterOf 68 = .ok (.aload_n 0, 1) := by decide +kernel
theorem d_Mod_characterOf_69 : decode b_Mod_characterOf 69 = .ok (.iload_n 1, 1) := by decide +kernel
theorem d_Mod_characterOf_70 : decode b_Mod_characterOf 70 = .ok (.iconst 1, 1) := by decide +kernel
theorem d_Mod_characterOf_71 : decode b_Mod_characterOf 71 = .ok (.invokevirtual 585, 3) := by decide +kernel
theorem d_Mod_characterOf_74 : decode b_Mod_characterOf 74 = .ok (.bipush 92, 2) := by decide +kernel
theorem d_Mod_characterOf_76 : decode b_Mod_characterOf 76 = .ok (.if_icmp .ne 12, 3) := by decide +kernel
theorem d_Mod_characterOf_79 : decode b_Mod_characterOf 79 = .ok (.aload_n 0, 1) := by decide +kernel
theorem d_Mod_characterOf_80 : decode b_Mod_characterOf 80 = .ok (.iload_n 1, 1) := by decide +kernel
theorem d_Mod_characterOf_81 : decode b_Mod_characterOf 81 = .ok (.iconst 2, 1) := by decide +kernel
theorem d_Mod_characterOf_82 : decode b_Mod_characterOf 82 = .ok (.invokevirtual 585, 3) := by decide +kernel
theorem d_Mod_characterOf_85 : decode b_Mod_characterOf 85 = .ok (.goto 4, 3) := by decide +kernel
theorem d_Mod_characterOf_88 : decode b_Mod_characterOf 88 = .ok (.iconst (-1), 1) := by decide +kernel
theorem d_Mod_characterOf_89 : decode b_Mod_characterOf 89 = .ok (.istore 4, 2) := by decide +kernel
theorem d_Mod_characterOf_91 : decode b_Mod_characterOf 91 = .ok (.iload 4, 2) := by decide +kernel
theorem d_Mod_characterOf_93 : decode b_Mod_characterOf 93 = .ok (.lookupswitch 141 #[(34, 137), (39, 137), (48, 135), (63, 137), (92, 137), (97, 119), (98, 123), (102, 127), (110, 107), (114, 115), (116, 111), (118, 131)], 107) := by decide +kernel
theorem d_Mod_characterOf_200 : decode b_Mod_characterOf 200 = .ok (.ldc2_w 344, 3) := by decide +kernel
theorem d_Mod_characterOf_203 : decode b_Mod_characterOf 203 = .ok (.lreturn, 1) := by decide +kernel
theorem d_Mod_characterOf_204 : decode b_Mod_characterOf 204 = .ok (.ldc2_w 342, 3) := by decide +kernel
theorem d_Mod_characterOf_207 : decode b_Mod_characterOf 207 = .ok (.lreturn, 1) := by decide +kernel
theorem d_Mod_characterOf_208 : decode b_Mod_characterOf 208 = .ok (.ldc2_w 1067, 3) := by decide +kernel
theorem d_Mod_characterOf_211 : decode b_Mod_characterOf 211 = .ok (.lreturn, 1) := by decide +kernel
theorem d_Mod_characterOf_212 : decode b_Mod_characterOf 212 = .ok (.ldc2_w 1069, 3) := by decide +kernel
theorem d_Mod_characterOf_215 : decode b_Mod_characterOf 215 = .ok (.lreturn, 1) := by decide +kernel
theorem d_Mod_characterOf_216 : decode b_Mod_characterOf 216 = .ok (.ldc2_w 1071, 3) := by decide +kernel
theorem d_Mod_characterOf_219 : decode b_Mod_characterOf 219 = .ok (.lreturn, 1) := by decide +kernel
theorem d_Mod_characterOf_220 : decode b_Mod_characterOf 220 = .ok (.ldc2_w 1073, 3) := by decide +kernel
theorem d_Mod_characterOf_223 : decode b_Mod_characterOf 223 = .ok (.lreturn, 1) := by decide +kernel
theorem d_Mod_characterOf_224 : decode b_Mod_characterOf 224 = .ok (.ldc2_w 1075, 3) := by decide +kernel
theorem d_Mod_characterOf_227 : decode b_Mod_characterOf 227 = .ok (.lreturn, 1) := by decide +kernel
theorem d_Mod_characterOf_228 : decode b_Mod_characterOf 228 = .ok (.lconst 0, 1) := by decide +kernel
theorem d_Mod_characterOf_229 : decode b_Mod_characterOf 229 = .ok (.lreturn, 1) := by decide +kernel
theorem d_Mod_characterOf_230 : decode b_Mod_characterOf 230 = .ok (.iload 4, 2) := by decide +kernel
theorem d_Mod_characterOf_232 : decode b_Mod_characterOf 232 = .ok (.i2l, 1) := by decide +kernel
theorem d_Mod_characterOf_233 : decode b_Mod_characterOf 233 = .ok (.lreturn, 1) := by decide +kernel
theorem d_Mod_characterOf_234 : decode b_Mod_characterOf 234 = .ok (.aload_n 0, 1) := by decide +kernel
theorem d_Mod_characterOf_235 : decode b_Mod_characterOf 235 = .ok (.iconst 1, 1) := by decide +kernel
theorem d_Mod_characterOf_236 : decode b_Mod_characterOf 236 = .ok (.putfield 948, 3) := by decide +kernel
theorem d_Mod_characterOf_239 : decode b_Mod_characterOf 239 = .ok (.lconst 0, 1) := by decide +kernel
theorem d_Mod_characterOf_240 : decode b_Mod_characterOf 240 = .ok (.lreturn, 1) := by decide +kernel
theorem d_Mod_choose_0 : decode b_Mod_choose 0 = .ok (.iconst 1, 1) := by decide +kernel
theorem d_Mod_choose_1 : decode b_Mod_choose 1 = .ok (.istore_n 3, 1) := by decide +kernel
theorem d_Mod_choose_2 : decode b_Mod_choose 2 = .ok (.iload_n 2, 1) := by decide +kernel
theorem d_Mod_choose_3 : decode b_Mod_choose 3 = .ok (.iconst 3, 1) := by decide +kernel
theorem d_Mod_choose_4 : decode b_Mod_choose 4 = .ok (.if_icmp .ge 7, 3) := by decide +kernel
theorem d_Mod_choose_7 : decode b_Mod_choose 7 = .ok (.iconst 1, 1) := by decide +kernel
theorem d_Mod_choose_8 : decode b_Mod_choose 8 = .ok (.goto 4, 3) := by decide +kernel
theorem d_Mod_choose_11 : decode b_Mod_choose 11 = .ok (.iconst 0, 1) := by decide +kernel
theorem d_Mod_choose_12 : decode b_Mod_choose 12 = .ok (.istore 4, 2) := by decide +kernel
theorem d_Mod_choose_14 : decode b_Mod_choose 14 = .ok (.iload 4, 2) := by decide +kernel
theorem d_Mod_choose_16 : decode b_Mod_choose 16 = .ok (.ifCond .ne 70, 3) := by decide +kernel
theorem d_Mod_choose_19 : decode b_Mod_choose 19 = .ok (.iload_n 2, 1) := by decide +kernel
theorem d_Mod_choose_20 : decode b_Mod_choose 20 = .ok (.iload_n 3, 1) := by decide +kernel
theorem d_Mod_choose_21 : decode b_Mod_choose 21 = .ok (.isub, 1) := by decide +kernel
theorem d_Mod_choose_22 : decode b_Mod_choose 22 = .ok (.iconst 1, 1) := by decide +kernel
theorem d_Mod_choose_23 : decode b_Mod_choose 23 = .ok (.iadd, 1) := by decide +kernel
theorem d_Mod_choose_24 : decode b_Mod_choose 24 = .ok (.istore 5, 2) := by decide +kernel
theorem d_Mod_choose_26 : decode b_Mod_choose 26 = .ok (.aload_n 0, 1) := by decide +kernel
theorem d_Mod_choose_27 : decode b_Mod_choose 27 = .ok (.iload_n 1, 1) := by decide +kernel
theorem d_Mod_choose_28 : decode b_Mod_choose 28 = .ok (.iload_n 3, 1) := by decide +kernel
theorem d_Mod_choose_29 : decode b_Mod_choose 29 = .ok (.iload_n 3, 1) := by decide +kernel
theorem d_Mod_choose_30 : decode b_Mod_choose 30 = .ok (.iconst 1, 1) := by decide +kernel
theorem d_Mod_choose_31 : decode b_Mod_choose 31 = .ok (.iadd, 1) := by decide +kernel
theorem d_Mod_choose_32 : decode b_Mod_choose 32 = .ok (.invokevirtual 513, 3) := by decide +kernel
theorem d_Mod_choose_35 : decode b_Mod_choose 35 = .ok (.ifCond .eq 17, 3) := by decide +kernel
theorem d_Mod_choose_38 : decode b_Mod_choose 38 = .ok (.aload_n 0, 1) := by decide +kernel
theorem d_Mod_choose_39 : decode b_Mod_choose 39 = .ok (.iload_n 1, 1) := by decide +kernel
theorem d_Mod_choose_40 : decode b_Mod_choose 40 = .ok (.iload_n 3, 1) := by decide +kernel
theorem d_Mod_choose_41 : decode b_Mod_choose 41 = .ok (.iconst 2, 1) := by decide +kernel
theorem d_Mod_choose_42 : decode b_Mod_choose 42 = .ok (.iadd, 1) := by decide +kernel
theorem d_Mod_choose_43 : decode b_Mod_choose 43 = .ok (.invokevirtual 469, 3) := by decide +kernel
theorem d_Mod_choose_46 : decode b_Mod_choose 46 = .ok (.iconst 1, 1) := by decide +kernel
theorem d_Mod_choose_47 : decode b_Mod_choose 47 = .ok (.istore 4, 2) := by decide +kernel
theorem d_Mod_choose_49 : decode b_Mod_choose 49 = .ok (.goto 34, 3) := by decide +kernel
theorem d_Mod_choose_52 : decode b_Mod_choose 52 = .ok (.iload 5, 2) := by decide +kernel
theorem d_Mod_choose_54 : decode b_Mod_choose 54 = .ok (.bipush 6, 2) := by decide +kernel
theorem d_Mod_choose_56 : decode b_Mod_choose 56 = .ok (.if_icmp .ge 23, 3) := by decide +kernel
theorem d_Mod_choose_59 : decode b_Mod_choose 59 = .ok (.iload 5, 2) := by decide +kernel
theorem d_Mod_choose_61 : decode b_Mod_choose 61 = .ok (.iconst 3, 1) := by decide +kernel
theorem d_Mod_choose_62 : decode b_Mod_choose 62 = .ok (.if_icmp .le 11, 3) := by decide +kernel
theorem d_Mod_choose_65 : decode b_Mod_choose 65 = .ok (.aload_n 0, 1) := by decide +kernel
theorem d_Mod_choose_66 : decode b_Mod_choose 66 = .ok (.iload_n 1, 1) := by decide +kernel
theorem d_Mod_choose_67 : decode b_Mod_choose 67 = .ok (.iload_n 3, 1) := by decide +kernel
theorem d_Mod_choose_68 : decode b_Mod_choose 68 = .ok (.iconst 3, 1) := by decide +kernel
theorem d_Mod_choose_69 : decode b_Mod_choose 69 = .ok (.iadd, 1) := by decide +kernel
theorem d_Mod_choose_70 : decode b_Mod_choose 70 = .ok (.invokevirtual 469, 3) := by decide +kernel
theorem d_Mod_choose_73 : decode b_Mod_choose 73 = .ok (.iconst 1, 1) := by decide +kernel
theorem d_Mod_choose_74 : decode b_Mod_choose 74 = .ok (.istore 4, 2) := by decide +kernel
theorem d_Mod_choose_76 : decode b_Mod_choose 76 = .ok (.goto 7, 3) := by decide +kernel
theorem d_Mod_choose_79 : decode b_Mod_choose 79 = .ok (.iload_n 3, 1) := by decide +kernel
theorem d_Mod_choose_80 : decode b_Mod_choose 80 = .ok (.iconst 3, 1) := by decide +kernel
theorem d_Mod_choose_81 : decode b_Mod_choose 81 = .ok (.iadd, 1) := by decide +kernel
theorem d_Mod_choose_82 : decode b_Mod_choose 82 = .ok (.istore_n 3, 1) := by decide +kernel
theorem d_Mod_choose_83 : decode b_Mod_choose 83 = .ok (.goto (-69), 3) := by decide +kernel
theorem d_Mod_choose_86 : decode b_Mod_choose 86 = .ok (.return_, 1) := by decide +kernel
theorem d_Mod_commentEnd_0 : decode b_Mod_commentEnd 0 = .ok (.iload_n 1, 1) := by decide +kernel
theorem d_Mod_commentEnd_1 : decode b_Mod_commentEnd 1 = .ok (.iconst 2, 1) := by decide +kernel
theorem d_Mod_commentEnd_2 : decode b_Mod_commentEnd 2 = .ok (.iadd, 1) := by decide +kernel
theorem d_Mod_commentEnd_3 : decode b_Mod_commentEnd 3 = .ok (.istore_n 3, 1) := by decide +kernel
theorem d_Mod_commentEnd_4 : decode b_Mod_commentEnd 4 = .ok (.iload_n 3, 1) := by decide +kernel
theorem d_Mod_commentEnd_5 : decode b_Mod_commentEnd 5 = .ok (.iconst 1, 1) := by decide +kernel
theorem d_Mod_commentEnd_6 : decode b_Mod_commentEnd 6 = .ok (.iadd, 1) := by decide +kernel
theorem d_Mod_commentEnd_7 : decode b_Mod_commentEnd 7 = .ok (.iload_n 2, 1) := by decide +kernel
theorem d_Mod_commentEnd_8 : decode b_Mod_commentEnd 8 = .ok (.if_icmp .ge 33, 3) := by decide +kernel
theorem d_Mod_commentEnd_11 : decode b_Mod_commentEnd 11 = .ok (.aload_n 0, 1) := by decide +kernel
theorem d_Mod_commentEnd_12 : decode b_Mod_commentEnd 12 = .ok (.getfield 85, 3) := by decide +kernel
theorem d_Mod_commentEnd_15 : decode b_Mod_commentEnd 15 = .ok (.iload_n 3, 1) := by decide +kernel
theorem d_Mod_commentEnd_16 : decode b_Mod_commentEnd 16 = .ok (.baload, 1) := by decide +kernel
theorem d_Mod_commentEnd_17 : decode b_Mod_commentEnd 17 = .ok (.bipush 42, 2) := by decide +kernel
theorem d_Mod_commentEnd_19 : decode b_Mod_commentEnd 19 = .ok (.if_icmp .ne 16, 3) := by decide +kernel
theorem d_Mod_commentEnd_22 : decode b_Mod_commentEnd 22 = .ok (.aload_n 0, 1) := by decide +kernel
theorem d_Mod_commentEnd_23 : decode b_Mod_commentEnd 23 = .ok (.getfield 85, 3) := by decide +kernel
theorem d_Mod_commentEnd_26 : decode b_Mod_commentEnd 26 = .ok (.iload_n 3, 1) := by decide +kernel
theorem d_Mod_commentEnd_27 : decode b_Mod_commentEnd 27 = .ok (.iconst 1, 1) := by decide +kernel
theorem d_Mod_commentEnd_28 : decode b_Mod_commentEnd 28 = .ok (.iadd, 1) := by decide +kernel
theorem d_Mod_commentEnd_29 : decode b_Mod_commentEnd 29 = .ok (.baload, 1) := by decide +kernel
theorem d_Mod_commentEnd_30 : decode b_Mod_commentEnd 30 = .ok (.bipush 47, 2) := by decide +kernel
theorem d_Mod_commentEnd_32 : decode b_Mod_commentEnd 32 = .ok (.if_icmp .eq 9, 3) := by decide +kernel
theorem d_Mod_commentEnd_35 : decode b_Mod_commentEnd 35 = .ok (.iinc 3 1, 3) := by decide +kernel
theorem d_Mod_commentEnd_38 : decode b_Mod_commentEnd 38 = .ok (.goto (-34), 3) := by decide +kernel
theorem d_Mod_commentEnd_41 : decode b_Mod_commentEnd 41 = .ok (.iload_n 3, 1) := by decide +kernel
theorem d_Mod_commentEnd_42 : decode b_Mod_commentEnd 42 = .ok (.iconst 1, 1) := by decide +kernel
theorem d_Mod_commentEnd_43 : decode b_Mod_commentEnd 43 = .ok (.iadd, 1) := by decide +kernel
theorem d_Mod_commentEnd_44 : decode b_Mod_commentEnd 44 = .ok (.iload_n 2, 1) := by decide +kernel
theorem d_Mod_commentEnd_45 : decode b_Mod_commentEnd 45 = .ok (.if_icmp .lt 16, 3) := by decide +kernel
theorem d_Mod_commentEnd_48 : decode b_Mod_commentEnd 48 = .ok (.aload_n 0, 1) := by decide +kernel
theorem d_Mod_commentEnd_49 : decode b_Mod_commentEnd 49 = .ok (.iconst 1, 1) := by decide +kernel
theorem d_Mod_commentEnd_50 : decode b_Mod_commentEnd 50 = .ok (.aload_n 0, 1) := by decide +kernel
theorem d_Mod_commentEnd_51 : decode b_Mod_commentEnd 51 = .ok (.getfield 89, 3) := by decide +kernel
theorem d_Mod_commentEnd_54 : decode b_Mod_commentEnd 54 = .ok (.iload_n 1, 1) := by decide +kernel
theorem d_Mod_commentEnd_55 : decode b_Mod_commentEnd 55 = .ok (.iaload, 1) := by decide +kernel
theorem d_Mod_commentEnd_56 : decode b_Mod_commentEnd 56 = .ok (.invokevirtual 628, 3) := by decide +kernel
theorem d_Mod_commentEnd_59 : decode b_Mod_commentEnd 59 = .ok (.iload_n 2, 1) := by decide +kernel
theorem d_Mod_commentEnd_60 : decode b_Mod_commentEnd 60 = .ok (.ireturn, 1) := by decide +kernel
theorem d_Mod_commentEnd_61 : decode b_Mod_commentEnd 61 = .ok (.iload_n 3, 1) := by decide +kernel
theorem d_Mod_commentEnd_62 : decode b_Mod_commentEnd 62 = .ok (.iconst 2, 1) := by decide +kernel
theorem d_Mod_commentEnd_63 : decode b_Mod_commentEnd 63 = .ok (.iadd, 1) := by decide +kernel
theorem d_Mod_commentEnd_64 : decode b_Mod_commentEnd 64 = .ok (.ireturn, 1) := by decide +kernel
theorem d_Mod_copy_0 : decode b_Mod_copy 0 = .ok (.aload_n 0, 1) := by decide +kernel
theorem d_Mod_copy_1 : decode b_Mod_copy 1 = .ok (.aload_n 0, 1) := by decide +kernel
theorem d_Mod_copy_2 : decode b_Mod_copy 2 = .ok (.getfield 99, 3) := by decide +kernel
theorem d_Mod_copy_5 : decode b_Mod_copy 5 = .ok (.iload_n 1, 1) := by decide +kernel
theorem d_Mod_copy_6 : decode b_Mod_copy 6 = .ok (.iaload, 1) := by decide +kernel
theorem d_Mod_copy_7 : decode b_Mod_copy 7 = .ok (.aload_n 0, 1) := by decide +kernel
theorem d_Mod_copy_8 : decode b_Mod_copy 8 = .ok (.getfield 102, 3) := by decide +kernel
theorem d_Mod_copy_11 : decode b_Mod_copy 11 = .ok (.iload_n 1, 1) := by decide +kernel
theorem d_Mod_copy_12 : decode b_Mod_copy 12 = .ok (.iaload, 1) := by decide +kernel
theorem d_Mod_copy_13 : decode b_Mod_copy 13 = .ok (.aload_n 0, 1) := by decide +kernel
theorem d_Mod_copy_14 : decode b_Mod_copy 14 = .ok (.getfield 105, 3) := by decide +kernel
theorem d_Mod_copy_17 : decode b_Mod_copy 17 = .ok (.iload_n 1, 1) := by decide +kernel
theorem d_Mod_copy_18 : decode b_Mod_copy 18 = .ok (.iaload, 1) := by decide +kernel
theorem d_Mod_copy_19 : decode b_Mod_copy 19 = .ok (.aload_n 0, 1) := by decide +kernel
theorem d_Mod_copy_20 : decode b_Mod_copy 20 = .ok (.getfield 114, 3) := by decide +kernel
theorem d_Mod_copy_23 : decode b_Mod_copy 23 = .ok (.iload_n 1, 1) := by decide +kernel
theorem d_Mod_copy_24 : decode b_Mod_copy 24 = .ok (.baload, 1) := by decide +kernel
theorem d_Mod_copy_25 : decode b_Mod_copy 25 = .ok (.aload_n 0, 1) := by decide +kernel
theorem d_Mod_copy_26 : decode b_Mod_copy 26 = .ok (.getfield 118, 3) := by decide +kernel
theorem d_Mod_copy_29 : decode b_Mod_copy 29 = .ok (.iload_n 1, 1) := by decide +kernel
theorem d_Mod_copy_30 : decode b_Mod_copy 30 = .ok (.baload, 1) := by decide +kernel
theorem d_Mod_copy_31 : decode b_Mod_copy 31 = .ok (.invokevirtual 581, 3) := by decide +kernel
theorem d_Mod_copy_34 : decode b_Mod_copy 34 = .ok (.istore_n 2, 1) := by decide +kernel
theorem d_Mod_copy_35 : decode b_Mod_copy 35 = .ok (.aload_n 0, 1) := by decide +kernel
theorem d_Mod_copy_36 : decode b_Mod_copy 36 = .ok (.getfield 108, 3) := by decide +kernel
theorem d_Mod_copy_39 : decode b_Mod_copy 39 = .ok (.iload_n 2, 1) := by decide +kernel
theorem d_Mod_copy_40 : decode b_Mod_copy 40 = .ok (.aload_n 0, 1) := by decide +kernel
theorem d_Mod_copy_41 : decode b_Mod_copy 41 = .ok (.getfield 108, 3) := by decide +kernel
theorem d_Mod_copy_44 : decode b_Mod_copy 44 = .ok (.iload_n 1, 1) := by decide +kernel
theorem d_Mod_copy_45 : decode b_Mod_copy 45 = .ok (.iaload, 1) := by decide +kernel
theorem d_Mod_copy_46 : decode b_Mod_copy 46 = .ok (.iastore, 1) := by decide +kernel
theorem d_Mod_copy_47 : decode b_Mod_copy 47 = .ok (.iload_n 2, 1) := by decide +kernel
theorem d_Mod_copy_48 : decode b_Mod_copy 48 = .ok (.ireturn, 1) := by decide +kernel
theorem d_Mod_countsNow_0 : decode b_Mod_countsNow 0 = .ok (.aload_n 0, 1) := by decide +kernel
theorem d_Mod_countsNow_1 : decode b_Mod_countsNow 1 = .ok (.getfield 786, 3) := by decide +kernel
theorem d_Mod_countsNow_4 : decode b_Mod_countsNow 4 = .ok (.ifCond .eq 31, 3) := by decide +kernel
theorem d_Mod_countsNow_7 : decode b_Mod_countsNow 7 = .ok (.aload_n 0, 1) := by decide +kernel
theorem d_Mod_countsNow_8 : decode b_Mod_countsNow 8 = .ok (.getfield 203, 3) := by decide +kernel
theorem d_Mod_countsNow_11 : decode b_Mod_countsNow 11 = .ok (.aload_n 0, 1) := by decide +kernel
theorem d_Mod_countsNow_12 : decode b_Mod_countsNow 12 = .ok (.getfield 786, 3) := by decide +kernel
theorem d_Mod_countsNow_15 : decode b_Mod_countsNow 15 = .ok (.iconst 1, 1) := by decide +kernel
theorem d_Mod_countsNow_16 : decode b_Mod_countsNow 16 = .ok (.isub, 1) := by decide +kernel
theorem d_Mod_countsNow_17 : decode b_Mod_countsNow 17 = .ok (.baload, 1) := by decide +kernel
theorem d_Mod_countsNow_18 : decode b_Mod_countsNow 18 = .ok (.ifCond .eq 21, 3) := by decide +kernel
theorem d_Mod_countsNow_21 : decode b_Mod_countsNow 21 = .ok (.aload_n 0, 1) := by decide +kernel
theorem d_Mod_countsNow_22 : decode b_Mod_countsNow 22 = .ok (.getfield 209, 3) := by decide +kernel
theorem d_Mod_countsNow_25 : decode b_Mod_countsNow 25 = .ok (.aload_n 0, 1) := by decide +kernel
theorem d_Mod_countsNow_26 : decode b_Mod_countsNow 26 = .ok (.getfield 786, 3) := by decide +kernel
theorem d_Mod_countsNow_29 : decode b_Mod_countsNow 29 = .ok (.iconst 1, 1) := by decide +kernel
theorem d_Mod_countsNow_30 : decode b_Mod_countsNow 30 = .ok (.isub, 1) := by decide +kernel
theorem d_Mod_countsNow_31 : decode b_Mod_countsNow 31 = .ok (.baload, 1) := by decide +kernel
theorem d_Mod_countsNow_32 : decode b_Mod_countsNow 32 = .ok (.ifCond .eq 7, 3) := by decide +kernel
theorem d_Mod_countsNow_35 : decode b_Mod_countsNow 35 = .ok (.iconst 1, 1) := by decide +kernel
theorem d_Mod_countsNow_36 : decode b_Mod_countsNow 36 = .ok (.goto 4, 3) := by decide +kernel
theorem d_Mod_countsNow_39 : decode b_Mod_countsNow 39 = .ok (.iconst 0, 1) := by decide +kernel
theorem d_Mod_countsNow_40 : decode b_Mod_countsNow 40 = .ok (.ireturn, 1) := by decide +kernel
theorem d_Mod_define_0 : decode b_Mod_define 0 = .ok (.aload_n 0, 1) := by decide +kernel
theorem d_Mod_define_1 : decode b_Mod_define 1 = .ok (.iload_n 1, 1) := by decide +kernel
theorem d_Mod_define_2 : decode b_Mod_define 2 = .ok (.invokevirtual 507, 3) := by decide +kernel
theorem d_Mod_define_5 : decode b_Mod_define 5 = .ok (.ifCond .ne 10, 3) := by decide +kernel
theorem d_Mod_define_8 : decode b_Mod_define 8 = .ok (.aload_n 0, 1) := by decide +kernel
theorem d_Mod_define_9 : decode b_Mod_define 9 = .ok (.bipush 35, 2) := by decide +kernel
theorem d_Mod_define_11 : decode b_Mod_define 11 = .ok (.invokevirtual 277, 3) := by decide +kernel
theorem d_Mod_define_14 : decode b_Mod_define 14 = .ok (.return_, 1) := by decide +kernel
theorem d_Mod_define_15 : decode b_Mod_define 15 = .ok (.aload_n 0, 1) := by decide +kernel
theorem d_Mod_define_16 : decode b_Mod_define 16 = .ok (.iload_n 1, 1) := by decide +kernel
theorem d_Mod_define_17 : decode b_Mod_define 17 = .ok (.iconst 1, 1) := by decide +kernel
theorem d_Mod_define_18 : decode b_Mod_define 18 = .ok (.invokevirtual 462, 3) := by decide +kernel
theorem d_Mod_define_21 : decode b_Mod_define 21 = .ok (.istore_n 3, 1) := by decide +kernel
theorem d_Mod_define_22 : decode b_Mod_define 22 = .ok (.aload_n 0, 1) := by decide +kernel
theorem d_Mod_define_23 : decode b_Mod_define 23 = .ok (.iload_n 1, 1) := by decide +kernel
theorem d_Mod_define_24 : decode b_Mod_define 24 = .ok (.iconst 1, 1) := by decide +kernel
theorem d_Mod_define_25 : decode b_Mod_define 25 = .ok (.invokevirtual 466, 3) := by decide +kernel
theorem d_Mod_define_28 : decode b_Mod_define 28 = .ok (.istore 4, 2) := by decide +kernel
theorem d_Mod_define_30 : decode b_Mod_define 30 = .ok (.iload_n 2, 1) := by decide +kernel
theorem d_Mod_define_31 : decode b_Mod_define 31 = .ok (.ifCond .eq 7, 3) := by decide +kernel
theorem d_Mod_define_34 : decode b_Mod_define 34 = .ok (.iconst (-1), 1) := by decide +kernel
theorem d_Mod_define_35 : decode b_Mod_define 35 = .ok (.goto 14, 3) := by decide +kernel
theorem d_Mod_define_38 : decode b_Mod_define 38 = .ok (.aload_n 0, 1) := by decide +kernel
theorem d_Mod_define_39 : decode b_Mod_define 39 = .ok (.aload_n 0, 1) := by decide +kernel
theorem d_Mod_define_40 : decode b_Mod_define 40 = .ok (.getfield 72, 3) := by decide +kernel
theorem d_Mod_define_43 : decode b_Mod_define 43 = .ok (.iload_n 3, 1) := by decide +kernel
theorem d_Mod_define_44 : decode b_Mod_define 44 = .ok (.iload 4, 2) := by decide +kernel
theorem d_Mod_define_46 : decode b_Mod_define 46 = .ok (.invokevirtual 426, 3) := by decide +kernel
theorem d_Mod_define_49 : decode b_Mod_define 49 = .ok (.istore 5, 2) := by decide +kernel
theorem d_Mod_define_51 : decode b_Mod_define 51 = .ok (.iload 5, 2) := by decide +kernel
theorem d_Mod_define_53 : decode b_Mod_define 53 = .ok (.ifCond .lt 17, 3) := by decide +kernel
theorem d_Mod_define_56 : decode b_Mod_define 56 = .ok (.aload_n 0, 1) := by decide +kernel
theorem d_Mod_define_57 : decode b_Mod_define 57 = .ok (.getfield 59, 3) := by decide +kernel
theorem d_Mod_define_60 : decode b_Mod_define 60 = .ok (.iload 5, 2) := by decide +kernel
theorem d_Mod_define_62 : decode b_Mod_define 62 = .ok (.iaload, 1) := by decide +kernel
theorem d_Mod_define_63 : decode b_Mod_define 63 = .ok (.ifCond .ne 7, 3) := by decide +kernel
theorem d_Mod_define_66 : decode b_Mod_define 66 = .ok (.iconst 1, 1) := by decide +kernel
theorem d_Mod_define_67 : decode b_Mod_define 67 = .ok (.goto 4, 3) := by decide +kernel
theorem d_Mod_define_70 : decode b_Mod_define 70 = .ok (.iconst 0, 1) := by decide +kernel
theorem d_Mod_define_71 : decode b_Mod_define 71 = .ok (.istore 6, 2) := by decide +kernel
theorem d_Mod_define_73 : decode b_Mod_define 73 = .ok (.sipush 16384, 3) := by decide +kernel
theorem d_Mod_define_76 : decode b_Mod_define 76 = .ok (.aload_n 0, 1) := by decide +kernel
theorem d_Mod_define_77 : decode b_Mod_define 77 = .ok (.getfield 391, 3) := by decide +kernel
theorem d_Mod_define_80 : decode b_Mod_define 80 = .ok (.isub, 1) := by decide +kernel
theorem d_Mod_define_81 : decode b_Mod_define 81 = .ok (.iload 6, 2) := by decide +kernel
theorem d_Mod_define_83 : decode b_Mod_define 83 = .ok (.ifCond .eq 21, 3) := by decide +kernel
theorem d_Mod_define_86 : decode b_Mod_define 86 = .ok (.aload_n 0, 1) := by decide +kernel
theorem d_Mod_define_87 : decode b_Mod_define 87 = .ok (.getfield 53, 3) := by decide +kernel
theorem d_Mod_define_90 : decode b_Mod_define 90 = .ok (.iload 5, 2) := by decide +kernel
theorem d_Mod_define_92 : decode b_Mod_define 92 = .ok (.iaload, 1) := by decide +kernel
theorem d_Mod_define_93 : decode b_Mod_define 93 = .ok (.aload_n 0, 1) := by decide +kernel
theorem d_Mod_define_94 : decode b_Mod_define 94 = .ok (.getfield 56, 3) := by decide +kernel
theorem d_Mod_define_97 : decode b_Mod_define 97 = .ok (.iload 5, 2) := by decide +kernel
theorem d_Mod_define_99 : decode b_Mod_define 99 = .ok (.iaload, 1) := by decide +kernel
theorem d_Mod_define_100 : decode b_Mod_define 100 = .ok (.iadd, 1) := by decide +kernel
theorem d_Mod_define_101 : decode b_Mod_define 101 = .ok (.goto 4, 3) := by decide +kernel
theorem d_Mod_define_104 : decode b_Mod_define 104 = .ok (.iconst 0, 1) := by decide +kernel
theorem d_Mod_define_105 : decode b_Mod_define 105 = .ok (.iadd, 1) := by decide +kernel
theorem d_Mod_define_106 : decode b_Mod_define 106 = .ok (.istore 7, 2) := by decide +kernel
theorem d_Mod_define_108 : decode b_Mod_define 108 = .ok (.iload 6, 2) := by decide +kernel
theorem d_Mod_define_110 : decode b_Mod_define 110 = .ok (.ifCond .ne 13, 3) := by decide +kernel
theorem d_Mod_define_113 : decode b_Mod_define 113 = .ok (.aload_n 0, 1) := by decide +kernel
theorem d_Mod_define_114 : decode b_Mod_define 114 = .ok (.getfield 388, 3) := by decide +kernel
theorem d_Mod_define_117 : decode b_Mod_define 117 = .ok (.sipush 300, 3) := by decide +kernel
theorem d_Mod_define_120 : decode b_Mod_define 120 = .ok (.if_icmp .eq 17, 3) := by decide +kernel
theorem d_Mod_define_123 : decode b_Mod_define 123 = .ok (.iload 4, 2) := by decide +kernel
theorem d_Mod_define_125 : decode b_Mod_define 125 = .ok (.aload_n 0, 1) := by decide +kernel
theorem d_Mod_define_126 : decode b_Mod_define 126 = .ok (.iload_n 1, 1) := by decide +kernel
theorem d_Mod_define_127 : decode b_Mod_define 127 = .ok (.iconst 2, 1) := by decide +kernel
theorem d_Mod_define_128 : decode b_Mod_define 128 = .ok (.invokevirtual 466, 3) := by decide +kernel
theorem d_Mod_define_131 : decode b_Mod_define 131 = .ok (.iadd, 1) := by decide +kernel
theorem d_Mod_define_132 : decode b_Mod_define 132 = .ok (.iload 7, 2) := by decide +kernel
theorem d_Mod_define_134 : decode b_Mod_define 134 = .ok (.if_icmp .le 10, 3) := by decide +kernel
theorem d_Mod_define_137 : decode b_Mod_define 137 = .ok (.aload_n 0, 1) := by decide +kernel
theorem d_Mod_define_138 : decode b_Mod_define 138 = .ok (.bipush 40, 2) := by decide +kernel
theorem d_Mod_define_140 : decode b_Mod_define 140 = .ok (.invokevirtual 277, 3) := by decide +kernel
theorem d_Mod_define_143 : decode b_Mod_define 143 = .ok (.return_, 1) := by decide +kernel
theorem d_Mod_define_144 : decode b_Mod_define 144 = .ok (.iload 5, 2) := by decide +kernel
theorem d_Mod_define_146 : decode b_Mod_define 146 = .ok (.ifCond .lt 9, 3) := by decide +kernel
theorem d_Mod_define_149 : decode b_Mod_define 149 = .ok (.aload_n 0, 1) := by decide +kernel
theorem d_Mod_define_150 : decode b_Mod_define 150 = .ok (.iload 5, 2) := by decide +kernel
theorem d_Mod_define_152 : decode b_Mod_define 152 = .ok (.invokevirtual 484, 3) := by decide +kernel
theorem d_Mod_define_155 : decode b_Mod_define 155 = .ok (.aload_n 0, 1) := by decide +kernel
theorem d_Mod_define_156 : decode b_Mod_define 156 = .ok (.iload_n 3, 1) := by decide +kernel
theorem d_Mod_define_157 : decode b_Mod_define 157 = .ok (.iload 4, 2) := by decide +kernel
theorem d_Mod_define_159 : decode b_Mod_define 159 = .ok (.aload_n 0, 1) := by decide +kernel
theorem d_Mod_define_160 : decode b_Mod_define 160 = .ok (.iload_n 1, 1) := by decide +kernel
theorem d_Mod_define_161 : decode b_Mod_define 161 = .ok (.iconst 2, 1) := by decide +kernel
theorem d_Mod_define_162 : decode b_Mod_define 162 = .ok (.invokevirtual 462, 3) := by decide +kernel
theorem d_Mod_define_165 : decode b_Mod_define 165 = .ok (.aload_n 0, 1) := by decide +kernel
theorem d_Mod_define_166 : decode b_Mod_define 166 = .ok (.iload_n 1, 1) := by decide +kernel
theorem d_Mod_define_167 : decode b_Mod_define 167 = .ok (.iconst 2, 1) := by decide +kernel
theorem d_Mod_define_168 : decode b_Mod_define 168 = .ok (.invokevirtual 466, 3) := by decide +kernel
theorem d_Mod_define_171 : decode b_Mod_define 171 = .ok (.invokevirtual 510, 3) := by decide +kernel
theorem d_Mod_define_174 : decode b_Mod_define 174 = .ok (.return_, 1) := by decide +kernel
theorem d_Mod_digitOf_0 : decode b_Mod_digitOf 0 = .ok (.iload_n 0, 1) := by decide +kernel
theorem d_Mod_digitOf_1 : decode b_Mod_digitOf 1 = .ok (.invokestatic 330, 3) := by decide +kernel
theorem d_Mod_digitOf_4 : decode b_Mod_digitOf 4 = .ok (.ifCond .eq 10, 3) := by decide +kernel
theorem d_Mod_digitOf_7 : decode b_Mod_digitOf 7 = .ok (.iload_n 0, 1) := by decide +kernel
theorem d_Mod_digitOf_8 : decode b_Mod_digitOf 8 = .ok (.bipush 48, 2) := by decide +kernel
theorem d_Mod_digitOf_10 : decode b_Mod_digitOf 10 = .ok (.isub, 1) := by decide +kernel
theorem d_Mod_digitOf_11 : decode b_Mod_digitOf 11 = .ok (.goto 43, 3) := by decide +kernel
theorem d_Mod_digitOf_14 : decode b_Mod_digitOf 14 = .ok (.iload_n 0, 1) := by decide +kernel
theorem d_Mod_digitOf_15 : decode b_Mod_digitOf 15 = .ok (.bipush 97, 2) := by decide +kernel
theorem d_Mod_digitOf_17 : decode b_Mod_digitOf 17 = .ok (.if_icmp .lt 16, 3) := by decide +kernel
theorem d_Mod_digitOf_20 : decode b_Mod_digitOf 20 = .ok (.iload_n 0, 1) := by decide +kernel
theorem d_Mod_digitOf_21 : decode b_Mod_digitOf 21 = .ok (.bipush 102, 2) := by decide +kernel
theorem d_Mod_digitOf_23 : decode b_Mod_digitOf 23 = .ok (.if_icmp .gt 10, 3) := by decide +kernel
theorem d_Mod_digitOf_26 : decode b_Mod_digitOf 26 = .ok (.iload_n 0, 1) := by decide +kernel
theorem d_Mod_digitOf_27 : decode b_Mod_digitOf 27 = .ok (.bipush 87, 2) := by decide +kernel
theorem d_Mod_digitOf_29 : decode b_Mod_digitOf 29 = .ok (.isub, 1) := by decide +kernel
theorem d_Mod_digitOf_30 : decode b_Mod_digitOf 30 = .ok (.goto 24, 3) := by decide +kernel
theorem d_Mod_digitOf_33 : decode b_Mod_digitOf 33 = .ok (.iload_n 0, 1) := by decide +kernel
theorem d_Mod_digitOf_34 : decode b_Mod_digitOf 34 = .ok (.bipush 65, 2) := by decide +kernel
theorem d_Mod_digitOf_36 : decode b_Mod_digitOf 36 = .ok (.if_icmp .lt 16, 3) := by decide +kernel
theorem d_Mod_digitOf_39 : decode b_Mod_digitOf 39 = .ok (.iload_n 0, 1) := by decide +kernel
theorem d_Mod_digitOf_40 : decode b_Mod_digitOf 40 = .ok (.bipush 70, 2) := by decide +kernel
theorem d_Mod_digitOf_42 : decode b_Mod_digitOf 42 = .ok (.if_icmp .gt 10, 3) := by decide +kernel
theorem d_Mod_digitOf_45 : decode b_Mod_digitOf 45 = .ok (.iload_n 0, 1) := by decide +kernel
theorem d_Mod_digitOf_46 : decode b_Mod_digitOf 46 = .ok (.bipush 55, 2) := by decide +kernel
theorem d_Mod_digitOf_48 : decode b_Mod_digitOf 48 = .ok (.isub, 1) := by decide +kernel
theorem d_Mod_digitOf_49 : decode b_Mod_digitOf 49 = .ok (.goto 5, 3) := by decide +kernel
theorem d_Mod_digitOf_52 : decode b_Mod_digitOf 52 = .ok (.bipush 99, 2) := by decide +kernel
theorem d_Mod_digitOf_54 : decode b_Mod_digitOf 54 = .ok (.ireturn, 1) := by decide +kernel
theorem d_Mod_divertByte_0 : decode b_Mod_divertByte 0 = .ok (.iload_n 1, 1) := by decide +kernel
theorem d_Mod_divertByte_1 : decode b_Mod_divertByte 1 = .ok (.ifCond .ge 4, 3) := by decide +kernel
theorem d_Mod_divertByte_4 : decode b_Mod_divertByte 4 = .ok (.return_, 1) := by decide +kernel
theorem d_Mod_divertByte_5 : decode b_Mod_divertByte 5 = .ok (.aload_n 0, 1) := by decide +kernel
theorem d_Mod_divertByte_6 : decode b_Mod_divertByte 6 = .ok (.getfield 410, 3) := by decide +kernel
theorem d_Mod_divertByte_9 : decode b_Mod_divertByte 9 = .ok (.ldc 20, 2) := by decide +kernel
theorem d_Mod_divertByte_11 : decode b_Mod_divertByte 11 = .ok (.if_icmp .ne 10, 3) := by decide +kernel
theorem d_Mod_divertByte_14 : decode b_Mod_divertByte 14 = .ok (.aload_n 0, 1) := by decide +kernel
theorem d_Mod_divertByte_15 : decode b_Mod_divertByte 15 = .ok (.bipush 40, 2) := by decide +kernel
theorem d_Mod_divertByte_17 : decode b_Mod_divertByte 17 = .ok (.invokevirtual 277, 3) := by decide +kernel
theorem d_Mod_divertByte_20 : decode b_Mod_divertByte 20 = .ok (.return_, 1) := by decide +kernel
theorem d_Mod_divertByte_21 : decode b_Mod_divertByte 21 = .ok (.aload_n 0, 1) := by decide +kernel
theorem d_Mod_divertByte_22 : decode b_Mod_divertByte 22 = .ok (.getfield 66, 3) := by decide +kernel
theorem d_Mod_divertByte_25 : decode b_Mod_divertByte 25 = .ok (.ldc 20, 2) := by decide +kernel
theorem d_Mod_divertByte_27 : decode b_Mod_divertByte 27 = .ok (.iload_n 1, 1) := by decide +kernel
theorem d_Mod_divertByte_28 : decode b_Mod_divertByte 28 = .ok (.imul, 1) := by decide +kernel
theorem d_Mod_divertByte_29 : decode b_Mod_divertByte 29 = .ok (.aload_n 0, 1) := by decide +kernel
theorem d_Mod_divertByte_30 : decode b_Mod_divertByte 30 = .ok (.getfield 69, 3) := by decide +kernel
theorem d_Mod_divertByte_33 : decode b_Mod_divertByte 33 = .ok (.iload_n 1, 1) := by decide +kernel
theorem d_Mod_divertByte_34 : decode b_Mod_divertByte 34 = .ok (.iaload, 1) := by decide +kernel
theorem d_Mod_divertByte_35 : decode b_Mod_divertByte 35 = .ok (.iadd, 1) := by decide +kernel
theorem d_Mod_divertByte_36 : decode b_Mod_divertByte 36 = .ok (.iload_n 2, 1) := by decide +kernel
theorem d_Mod_divertByte_37 : decode b_Mod_divertByte 37 = .ok (.i2b, 1) := by decide +kernel
theorem d_Mod_divertByte_38 : decode b_Mod_divertByte 38 = .ok (.bastore, 1) := by decide +kernel
theorem d_Mod_divertByte_39 : decode b_Mod_divertByte 39 = .ok (.aload_n 0, 1) := by decide +kernel
theorem d_Mod_divertByte_40 : decode b_Mod_divertByte 40 = .ok (.getfield 69, 3) := by decide +kernel
theorem d_Mod_divertByte_43 : decode b_Mod_divertByte 43 = .ok (.iload_n 1, 1) := by decide +kernel
theorem d_Mod_divertByte_44 : decode b_Mod_divertByte 44 = .ok (.dup2, 1) := by decide +kernel
theorem d_Mod_divertByte_45 : decode b_Mod_divertByte 45 = .ok (.iaload, 1) := by decide +kernel
theorem d_Mod_divertByte_46 : decode b_Mod_divertByte 46 = .ok (.iconst 1, 1) := by decide +kernel
theorem d_Mod_divertByte_47 : decode b_Mod_divertByte 47 = .ok (.iadd, 1) := by decide +kernel
theorem d_Mod_divertByte_48 : decode b_Mod_divertByte 48 = .ok (.iastore, 1) := by decide +kernel
theorem d_Mod_divertByte_49 : decode b_Mod_divertByte 49 = .ok (.aload_n 0, 1) := by decide +kernel
theorem d_Mod_divertByte_50 : decode b_Mod_divertByte 50 = .ok (.dup, 1) := by decide +kernel
theorem d_Mod_divertByte_51 : decode b_Mod_divertByte 51 = .ok (.getfield 410, 3) := by decide +kernel
theorem d_Mod_divertByte_54 : decode b_Mod_divertByte 54 = .ok (.iconst 1, 1) := by decide +kernel
theorem d_Mod_divertByte_55 : decode b_Mod_divertByte 55 = .ok (.iadd, 1) := by decide +kernel
theorem d_Mod_divertByte_56 : decode b_Mod_divertByte 56 = .ok (.putfield 410, 3) := by decide +kernel
theorem d_Mod_divertByte_59 : decode b_Mod_divertByte 59 = .ok (.return_, 1) := by decide +kernel
theorem d_Mod_enter_0 : decode b_Mod_enter 0 = .ok (.iconst 0, 1) := by decide +kernel
theorem d_Mod_enter_1 : decode b_Mod_enter 1 = .ok (.istore 4, 2) := by decide +kernel
theorem d_Mod_enter_3 : decode b_Mod_enter 3 = .ok (.iconst 0, 1) := by decide +kernel
theorem d_Mod_enter_4 : decode b_Mod_enter 4 = .ok (.istore 5, 2) := by decide +kernel
theorem d_Mod_enter_6 : decode b_Mod_enter 6 = .ok (.iload 5, 2) := by decide +kernel
theorem d_Mod_enter_8 : decode b_Mod_enter 8 = .ok (.aload_n 0, 1) := by decide +kernel
theorem d_Mod_enter_9 : decode b_Mod_enter 9 = .ok (.getfield 861, 3) := by decide +kernel
theorem d_Mod_enter_12 : decode b_Mod_enter 12 = .ok (.if_icmp .ge 21, 3) := by decide +kernel
theorem d_Mod_enter_15 : decode b_Mod_enter 15 = .ok (.iload 4, 2) := by decide +kernel
theorem d_Mod_enter_17 : decode b_Mod_enter 17 = .ok (.aload_n 0, 1) := by decide +kernel
theorem d_Mod_enter_18 : decode b_Mod_enter 18 = .ok (.getfield 218, 3) := by decide +kernel
theorem d_Mod_enter_21 : decode b_Mod_enter 21 = .ok (.iload 5, 2) := by decide +kernel
theorem d_Mod_enter_23 : decode b_Mod_enter 23 = .ok (.iaload, 1) := by decide +kernel
theorem d_Mod_enter_24 : decode b_Mod_enter 24 = .ok (.iadd, 1) := by decide +kernel
theorem d_Mod_enter_25 : decode b_Mod_enter 25 = .ok (.istore 4, 2) := by decide +kernel
theorem d_Mod_enter_27 : decode b_Mod_enter 27 = .ok (.iinc 5 1, 3) := by decide +kernel
theorem d_Mod_enter_30 : decode b_Mod_enter 30 = .ok (.goto (-24), 3) := by decide +kernel
theorem d_Mod_enter_33 : decode b_Mod_enter 33 = .ok (.aload_n 0, 1) := by decide +kernel
theorem d_Mod_enter_34 : decode b_Mod_enter 34 = .ok (.getfield 867, 3) := by decide +kernel
theorem d_Mod_enter_37 : decode b_Mod_enter 37 = .ok (.istore 5, 2) := by decide +kernel
theorem d_Mod_enter_39 : decode b_Mod_enter 39 = .ok (.iload 5, 2) := by decide +kernel
theorem d_Mod_enter_41 : decode b_Mod_enter 41 = .ok (.ifCond .lt 27, 3) := by decide +kernel
theorem d_Mod_enter_44 : decode b_Mod_enter 44 = .ok (.iload 4, 2) := by decide +kernel
theorem d_Mod_enter_46 : decode b_Mod_enter 46 = .ok (.aload_n 0, 1) := by decide +kernel
theorem d_Mod_enter_47 : decode b_Mod_enter 47 = .ok (.getfield 102, 3) := by decide +kernel
theorem d_Mod_enter_50 : decode b_Mod_enter 50 = .ok (.iload 5, 2) := by decide +kernel
theorem d_Mod_enter_52 : decode b_Mod_enter 52 = .ok (.iaload, 1) := by decide +kernel
theorem d_Mod_enter_53 : decode b_Mod_enter 53 = .ok (.iadd, 1) := by decide +kernel
theorem d_Mod_enter_54 : decode b_Mod_enter 54 = .ok (.istore 4, 2) := by decide +kernel
theorem d_Mod_enter_56 : decode b_Mod_enter 56 = .ok (.aload_n 0, 1) := by decide +kernel
theorem d_Mod_enter_57 : decode b_Mod_enter 57 = .ok (.getfield 111, 3) := by decide +kernel
theorem d_Mod_enter_60 : decode b_Mod_enter 60 = .ok (.iload 5, 2) := by decide +kernel
theorem d_Mod_enter_62 : decode b_Mod_enter 62 = .ok (.iaload, 1) := by decide +kernel
theorem d_Mod_enter_63 : decode b_Mod_enter 63 = .ok (.istore 5, 2) := by decide +kernel
theorem d_Mod_enter_65 : decode b_Mod_enter 65 = .ok (.goto (-26), 3) := by decide +kernel
theorem d_Mod_enter_68 : decode b_Mod_enter 68 = .ok (.aload_n 0, 1) := by decide +kernel
theorem d_Mod_enter_69 : decode b_Mod_enter 69 = .ok (.iload_n 1, 1) := by decide +kernel
theorem d_Mod_enter_70 : decode b_Mod_enter 70 = .ok (.invokevirtual 622, 3) := by decide +kernel
theorem d_Mod_enter_73 : decode b_Mod_enter 73 = .ok (.istore 5, 2) := by decide +kernel
theorem d_Mod_enter_75 : decode b_Mod_enter 75 = .ok (.iload 5, 2) := by decide +kernel
theorem d_Mod_enter_77 : decode b_Mod_enter 77 = .ok (.ifCond .ge 15, 3) := by decide +kernel
theorem d_Mod_enter_80 : decode b_Mod_enter 80 = .ok (.iload 4, 2) := by decide +kernel
theorem d_Mod_enter_82 : decode b_Mod_enter 82 = .ok (.aload_n 0, 1) := by decide +kernel
theorem d_Mod_enter_83 : decode b_Mod_enter 83 = .ok (.getfield 102, 3) := by decide +kernel
theorem d_Mod_enter_86 : decode b_Mod_enter 86 = .ok (.iload_n 1, 1) := by decide +kernel
theorem d_Mod_enter_87 : decode b_Mod_enter 87 = .ok (.iaload, 1) := by decide +kernel
theorem d_Mod_enter_88 : decode b_Mod_enter 88 = .ok (.iadd, 1) := by decide +kernel
theorem d_Mod_enter_89 : decode b_Mod_enter 89 = .ok (.goto 5, 3) := by decide +kernel
theorem d_Mod_enter_92 : decode b_Mod_enter 92 = .ok (.iload 4, 2) := by decide +kernel
theorem d_Mod_enter_94 : decode b_Mod_enter 94 = .ok (.istore 4, 2) := by decide +kernel
theorem d_Mod_enter_96 : decode b_Mod_enter 96 = .ok (.iload 5, 2) := by decide +kernel
theorem d_Mod_enter_98 : decode b_Mod_enter 98 = .ok (.ifCond .ge 13, 3) := by decide +kernel
theorem d_Mod_enter_101 : decode b_Mod_enter 101 = .ok (.aload_n 0, 1) := by decide +kernel
theorem d_Mod_enter_102 : decode b_Mod_enter 102 = .ok (.getfield 613, 3) := by decide +kernel
theorem d_Mod_enter_105 : decode b_Mod_enter 105 = .ok (.sipush 400, 3) := by decide +kernel
theorem d_Mod_enter_108 : decode b_Mod_enter 108 = .ok (.if_icmp .eq 38, 3) := by decide +kernel
theorem d_Mod_enter_111 : decode b_Mod_enter 111 = .ok (.aload_n 0, 1) := by decide +kernel
theorem d_Mod_enter_112 : decode b_Mod_enter 112 = .ok (.getfield 892, 3) := by decide +kernel
theorem d_Mod_enter_115 : decode b_Mod_enter 115 = .ok (.aload_n 0, 1) := by decide +kernel
theorem d_Mod_enter_116 : decode b_Mod_enter 116 = .ok (.invokevirtual 895, 3) := by decide +kernel
theorem d_Mod_enter_119 : decode b_Mod_enter 119 = .ok (.iadd, 1) := by decide +kernel
theorem d_Mod_enter_120 : decode b_Mod_enter 120 = .ok (.iload_n 3, 1) := by decide +kernel
theorem d_Mod_enter_121 : decode b_Mod_enter 121 = .ok (.iadd, 1) := by decide +kernel
theorem d_Mod_enter_122 : decode b_Mod_enter 122 = .ok (.aload_n 0, 1) := by decide +kernel
theorem d_Mod_enter_123 : decode b_Mod_enter 123 = .ok (.getfield 861, 3) := by decide +kernel
theorem d_Mod_enter_126 : decode b_Mod_enter 126 = .ok (.iadd, 1) := by decide +kernel
theorem d_Mod_enter_127 : decode b_Mod_enter 127 = .ok (.sipush 8000, 3) := by decide +kernel
theorem d_Mod_enter_130 : decode b_Mod_enter 130 = .ok (.if_icmp .gt 16, 3) := by decide +kernel
theorem d_Mod_enter_133 : decode b_Mod_enter 133 = .ok (.aload_n 0, 1) := by decide +kernel
theorem d_Mod_enter_134 : decode b_Mod_enter 134 = .ok (.iload 4, 2) := by decide +kernel
theorem d_Mod_enter_136 : decode b_Mod_enter 136 = .ok (.aload_n 0, 1) := by decide +kernel
theorem d_Mod_enter_137 : decode b_Mod_enter 137 = .ok (.getfield 805, 3) := by decide +kernel
theorem d_Mod_enter_140 : decode b_Mod_enter 140 = .ok (.invokevirtual 650, 3) := by decide +kernel
theorem d_Mod_enter_143 : decode b_Mod_enter 143 = .ok (.ifCond .ne 10, 3) := by decide +kernel
theorem d_Mod_enter_146 : decode b_Mod_enter 146 = .ok (.aload_n 0, 1) := by decide +kernel
theorem d_Mod_enter_147 : decode b_Mod_enter 147 = .ok (.bipush 21, 2) := by decide +kernel
theorem d_Mod_enter_149 : decode b_Mod_enter 149 = .ok (.invokevirtual 837, 3) := by decide +kernel
theorem d_Mod_enter_152 : decode b_Mod_enter 152 = .ok (.return_, 1) := by decide +kernel
theorem d_Mod_enter_153 : decode b_Mod_enter 153 = .ok (.iload 5, 2) := by decide +kernel
theorem d_Mod_enter_155 : decode b_Mod_enter 155 = .ok (.ifCond .ge 45, 3) := by decide +kernel
theorem d_Mod_enter_158 : decode b_Mod_enter 158 = .ok (.aload_n 0, 1) := by decide +kernel
theorem d_Mod_enter_159 : decode b_Mod_enter 159 = .ok (.getfield 613, 3) := by decide +kernel
theorem d_Mod_enter_162 : decode b_Mod_enter 162 = .ok (.istore 5, 2) := by decide +kernel
theorem d_Mod_enter_164 : decode b_Mod_enter 164 = .ok (.aload_n 0, 1) := by decide +kernel
theorem d_Mod_enter_165 : decode b_Mod_enter 165 = .ok (.dup, 1) := by decide +kernel
theorem d_Mod_enter_166 : decode b_Mod_enter 166 = .ok (.getfield 613, 3) := by decide +kernel
theorem d_Mod_enter_169 : decode b_Mod_enter 169 = .ok (.iconst 1, 1) := by decide +kernel
theorem d_Mod_enter_170 : decode b_Mod_enter 170 = .ok (.iadd, 1) := by decide +kernel
theorem d_Mod_enter_171 : decode b_Mod_enter 171 = .ok (.putfield 613, 3) := by decide +kernel
theorem d_Mod_enter_174 : decode b_Mod_enter 174 = .ok (.aload_n 0, 1) := by decide +kernel
theorem d_Mod_enter_175 : decode b_Mod_enter 175 = .ok (.getfield 121, 3) := by decide +kernel
theorem d_Mod_enter_178 : decode b_Mod_enter 178 = .ok (.iload 5, 2) := by decide +kernel
theorem d_Mod_enter_180 : decode b_Mod_enter 180 = .ok (.aload_n 0, 1) := by decide +kernel
theorem d_Mod_enter_181 : decode b_Mod_enter 181 = .ok (.getfield 99, 3) := by decide +kernel
theorem d_Mod_enter_184 : decode b_Mod_enter 184 = .ok (.iload_n 1, 1) := by decide +kernel
theorem d_Mod_enter_185 : decode b_Mod_enter 185 = .ok (.iaload, 1) := by decide +kernel
theorem d_Mod_enter_186 : decode b_Mod_enter 186 = .ok (.iastore, 1) := by decide +kernel
theorem d_Mod_enter_187 : decode b_Mod_enter 187 = .ok (.aload_n 0, 1) := by decide +kernel
theorem d_Mod_enter_188 : decode b_Mod_enter 188 = .ok (.getfield 124, 3) := by decide +kernel
theorem d_Mod_enter_191 : decode b_Mod_enter 191 = .ok (.iload 5, 2) := by decide +kernel
theorem d_Mod_enter_193 : decode b_Mod_enter 193 = .ok (.aload_n 0, 1) := by decide +kernel
theorem d_Mod_enter_194 : decode b_Mod_enter 194 = .ok (.getfield 102, 3) := by decide +kernel
theorem d_Mod_enter_197 : decode b_Mod_enter 197 = .ok (.iload_n 1, 1) := by decide +kernel
theorem d_Mod_enter_198 : decode b_Mod_enter 198 = .ok (.iaload, 1) := by decide +kernel
theorem d_Mod_enter_199 : decode b_Mod_enter 199 = .ok (.iastore, 1) := by decide +kernel
theorem d_Mod_enter_200 : decode b_Mod_enter 200 = .ok (.aload_n 0, 1) := by decide +kernel
theorem d_Mod_enter_201 : decode b_Mod_enter 201 = .ok (.getfield 127, 3) := by decide +kernel
theorem d_Mod_enter_204 : decode b_Mod_enter 204 = .ok (.iload 5, 2) := by decide +kernel
theorem d_Mod_enter_206 : decode b_Mod_enter 206 = .ok (.iconst 1, 1) := by decide +kernel
theorem d_Mod_enter_207 : decode b_Mod_enter 207 = .ok (.bastore, 1) := by decide +kernel
theorem d_Mod_enter_208 : decode b_Mod_enter 208 = .ok (.aload_n 0, 1) := by decide +kernel
theorem d_Mod_enter_209 : decode b_Mod_enter 209 = .ok (.getfield 130, 3) := by decide +kernel
theorem d_Mod_enter_212 : decode b_Mod_enter 212 = .ok (.iload 5, 2) := by decide +kernel
theorem d_Mod_enter_214 : decode b_Mod_enter 214 = .ok (.iload_n 2, 1) := by decide +kernel
theorem d_Mod_enter_215 : decode b_Mod_enter 215 = .ok (.ifCond .eq 10, 3) := by decide +kernel
theorem d_Mod_enter_218 : decode b_Mod_enter 218 = .ok (.aload_n 0, 1) := by decide +kernel
theorem d_Mod_enter_219 : decode b_Mod_enter 219 = .ok (.getfield 861, 3) := by decide +kernel
theorem d_Mod_enter_222 : decode b_Mod_enter 222 = .ok (.goto 4, 3) := by decide +kernel
theorem d_Mod_enter_225 : decode b_Mod_enter 225 = .ok (.iconst (-1), 1) := by decide +kernel
theorem d_Mod_enter_226 : decode b_Mod_enter 226 = .ok (.iastore, 1) := by decide +kernel
theorem d_Mod_enter_227 : decode b_Mod_enter 227 = .ok (.aload_n 0, 1) := by decide +kernel
theorem d_Mod_enter_228 : decode b_Mod_enter 228 = .ok (.getfield 133, 3) := by decide +kernel
theorem d_Mod_enter_231 : decode b_Mod_enter 231 = .ok (.iload 5, 2) := by decide +kernel
theorem d_Mod_enter_233 : decode b_Mod_enter 233 = .ok (.aload_n 0, 1) := by decide +kernel
theorem d_Mod_enter_234 : decode b_Mod_enter 234 = .ok (.getfield 864, 3) := by decide +kernel
theorem d_Mod_enter_237 : decode b_Mod_enter 237 = .ok (.bastore, 1) := by decide +kernel
theorem d_Mod_enter_238 : decode b_Mod_enter 238 = .ok (.iconst 0, 1) := by decide +kernel
theorem d_Mod_enter_239 : decode b_Mod_enter 239 = .ok (.istore 6, 2) := by decide +kernel
theorem d_Mod_enter_241 : decode b_Mod_enter 241 = .ok (.iload 6, 2) := by decide +kernel
theorem d_Mod_enter_243 : decode b_Mod_enter 243 = .ok (.aload_n 0, 1) := by decide +kernel
theorem d_Mod_enter_244 : decode b_Mod_enter 244 = .ok (.getfield 861, 3) := by decide +kernel
theorem d_Mod_enter_247 : decode b_Mod_enter 247 = .ok (.if_icmp .ge 96, 3) := by decide +kernel
theorem d_Mod_enter_250 : decode b_Mod_enter 250 = .ok (.aload_n 0, 1) := by decide +kernel
theorem d_Mod_enter_251 : decode b_Mod_enter 251 = .ok (.getfield 864, 3) := by decide +kernel
theorem d_Mod_enter_254 : decode b_Mod_enter 254 = .ok (.ifCond .eq 18, 3) := by decide +kernel
theorem d_Mod_enter_257 : decode b_Mod_enter 257 = .ok (.iload 6, 2) := by decide +kernel
theorem d_Mod_enter_259 : decode b_Mod_enter 259 = .ok (.aload_n 0, 1) := by decide +kernel
theorem d_Mod_enter_260 : decode b_Mod_enter 260 = .ok (.getfield 861, 3) := by decide +kernel
theorem d_Mod_enter_263 : decode b_Mod_enter 263 = .ok (.iconst 1, 1) := by decide +kernel
theorem d_Mod_enter_264 : decode b_Mod_enter 264 = .ok (.isub, 1) := by decide +kernel
theorem d_Mod_enter_265 : decode b_Mod_enter 265 = .ok (.if_icmp .ne 7, 3) := by decide +kernel
theorem d_Mod_enter_268 : decode b_Mod_enter 268 = .ok (.iconst 1, 1) := by decide +kernel
theorem d_Mod_enter_269 : decode b_Mod_enter 269 = .ok (.goto 4, 3) := by decide +kernel
theorem d_Mod_enter_272 : decode b_Mod_enter 272 = .ok (.iconst 0, 1) := by decide +kernel
theorem d_Mod_enter_273 : decode b_Mod_enter 273 = .ok (.istore 7, 2) := by decide +kernel
theorem d_Mod_enter_275 : decode b_Mod_enter 275 = .ok (.aload_n 0, 1) := by decide +kernel
theorem d_Mod_enter_276 : decode b_Mod_enter 276 = .ok (.getfield 136, 3) := by decide +kernel
theorem d_Mod_enter_279 : decode b_Mod_enter 279 = .ok (.bipush 31, 2) := by decide +kernel
theorem d_Mod_enter_281 : decode b_Mod_enter 281 = .ok (.iload 5, 2) := by decide +kernel
theorem d_Mod_enter_283 : decode b_Mod_enter 283 = .ok (.imul, 1) := by decide +kernel
theorem d_Mod_enter_284 : decode b_Mod_enter 284 = .ok (.iload 6, 2) := by decide +kernel
theorem d_Mod_enter_286 : decode b_Mod_enter 286 = .ok (.iadd, 1) := by decide +kernel
theorem d_Mod_enter_287 : decode b_Mod_enter 287 = .ok (.iload 7, 2) := by decide +kernel
theorem d_Mod_enter_289 : decode b_Mod_enter 289 = .ok (.ifCond .eq 10, 3) := by decide +kernel
theorem d_Mod_enter_292 : decode b_Mod_enter 292 = .ok (.aload_n 0, 1) := by decide +kernel
theorem d_Mod_enter_293 : decode b_Mod_enter 293 = .ok (.getfield 898, 3) := by decide +kernel
theorem d_Mod_enter_296 : decode b_Mod_enter 296 = .ok (.goto 10, 3) := by decide +kernel
theorem d_Mod_enter_299 : decode b_Mod_enter 299 = .ok (.aload_n 0, 1) := by decide +kernel
theorem d_Mod_enter_300 : decode b_Mod_enter 300 = .ok (.getfield 215, 3) := by decide +kernel
theorem d_Mod_enter_303 : decode b_Mod_enter 303 = .ok (.iload 6, 2) := by decide +kernel
theorem d_Mod_enter_305 : decode b_Mod_enter 305 = .ok (.iaload, 1) := by decide +kernel
theorem d_Mod_enter_306 : decode b_Mod_enter 306 = .ok (.iastore, 1) := by decide +kernel
theorem d_Mod_enter_307 : decode b_Mod_enter 307 = .ok (.aload_n 0, 1) := by decide +kernel
theorem d_Mod_enter_308 : decode b_Mod_enter 308 = .ok (.getfield 139, 3) := by decide +kernel
theorem d_Mod_enter_311 : decode b_Mod_enter 311 = .ok (.bipush 31, 2) := by decide +kernel
theorem d_Mod_enter_313 : decode b_Mod_enter 313 = .ok (.iload 5, 2) := by decide +kernel
theorem d_Mod_enter_315 : decode b_Mod_enter 315 = .ok (.imul, 1) := by decide +kernel
theorem d_Mod_enter_316 : decode b_Mod_enter 316 = .ok (.iload 6, 2) := by decide +kernel
theorem d_Mod_enter_318 : decode b_Mod_enter 318 = .ok (.iadd, 1) := by decide +kernel
theorem d_Mod_enter_319 : decode b_Mod_enter 319 = .ok (.iload 7, 2) := by decide +kernel
theorem d_Mod_enter_321 : decode b_Mod_enter 321 = .ok (.ifCond .eq 8, 3) := by decide +kernel
theorem d_Mod_enter_324 : decode b_Mod_enter 324 = .ok (.bipush 11, 2) := by decide +kernel
theorem d_Mod_enter_326 : decode b_Mod_enter 326 = .ok (.goto 10, 3) := by decide +kernel
theorem d_Mod_enter_329 : decode b_Mod_enter 329 = .ok (.aload_n 0, 1) := by decide +kernel
theorem d_Mod_enter_330 : decode b_Mod_enter 330 = .ok (.getfield 218, 3) := by decide +kernel
theorem d_Mod_enter_333 : decode b_Mod_enter 333 = .ok (.iload 6, 2) := by decide +kernel
theorem d_Mod_enter_335 : decode b_Mod_enter 335 = .ok (.iaload, 1) := by decide +kernel
theorem d_Mod_enter_336 : decode b_Mod_enter 336 = .ok (.iastore, 1) := by decide +kernel
theorem d_Mod_enter_337 : decode b_Mod_enter 337 = .ok (.iinc 6 1, 3) := by decide +kernel
theorem d_Mod_enter_340 : decode b_Mod_enter 340 = .ok (.goto (-99), 3) := by decide +kernel
theorem d_Mod_enter_343 : decode b_Mod_enter 343 = .ok (.aload_n 0, 1) := by decide +kernel
theorem d_Mod_enter_344 : decode b_Mod_enter 344 = .ok (.getfield 151, 3) := by decide +kernel
theorem d_Mod_enter_347 : decode b_Mod_enter 347 = .ok (.iload 5, 2) := by decide +kernel
theorem d_Mod_enter_349 : decode b_Mod_enter 349 = .ok (.aload_n 0, 1) := by decide +kernel
theorem d_Mod_enter_350 : decode b_Mod_enter 350 = .ok (.getfield 892, 3) := by decide +kernel
theorem d_Mod_enter_353 : decode b_Mod_enter 353 = .ok (.iastore, 1) := by decide +kernel
theorem d_Mod_enter_354 : decode b_Mod_enter 354 = .ok (.aload_n 0, 1) := by decide +kernel
theorem d_Mod_enter_355 : decode b_Mod_enter 355 = .ok (.getfield 154, 3) := by decide +kernel
theorem d_Mod_enter_358 : decode b_Mod_enter 358 = .ok (.iload 5, 2) := by decide +kernel
theorem d_Mod_enter_360 : decode b_Mod_enter 360 = .ok (.iload_n 3, 1) := by decide +kernel
theorem d_Mod_enter_361 : decode b_Mod_enter 361 = .ok (.iastore, 1) := by decide +kernel
theorem d_Mod_enter_362 : decode b_Mod_enter 362 = .ok (.aload_n 0, 1) := by decide +kernel
theorem d_Mod_enter_363 : decode b_Mod_enter 363 = .ok (.getfield 867, 3) := by decide +kernel
theorem d_Mod_enter_366 : decode b_Mod_enter 366 = .ok (.istore 6, 2) := by decide +kernel
theorem d_Mod_enter_368 : decode b_Mod_enter 368 = .ok (.iload 6, 2) := by decide +kernel
theorem d_Mod_enter_370 : decode b_Mod_enter 370 = .ok (.ifCond .lt 73, 3) := by decide +kernel
theorem d_Mod_enter_373 : decode b_Mod_enter 373 = .ok (.aload_n 0, 1) := by decide +kernel
theorem d_Mod_enter_374 : decode b_Mod_enter 374 = .ok (.getfield 142, 3) := by decide +kernel
theorem d_Mod_enter_377 : decode b_Mod_enter 377 = .ok (.aload_n 0, 1) := by decide +kernel
theorem d_Mod_enter_378 : decode b_Mod_enter 378 = .ok (.getfield 892, 3) := by decide +kernel
theorem d_Mod_enter_381 : decode b_Mod_enter 381 = .ok (.aload_n 0, 1) := by decide +kernel
theorem d_Mod_enter_382 : decode b_Mod_enter 382 = .ok (.getfield 99, 3) := by decide +kernel
theorem d_Mod_enter_385 : decode b_Mod_enter 385 = .ok (.iload 6, 2) := by decide +kernel
theorem d_Mod_enter_387 : decode b_Mod_enter 387 = .ok (.iaload, 1) := by decide +kernel
theorem d_Mod_enter_388 : decode b_Mod_enter 388 = .ok (.iastore, 1) := by decide +kernel
theorem d_Mod_enter_389 : decode b_Mod_enter 389 = .ok (.aload_n 0, 1) := by decide +kernel
theorem d_Mod_enter_390 : decode b_Mod_enter 390 = .ok (.getfield 145, 3) := by decide +kernel
theorem d_Mod_enter_393 : decode b_Mod_enter 393 = .ok (.aload_n 0, 1) := by decide +kernel
theorem d_Mod_enter_394 : decode b_Mod_enter 394 = .ok (.getfield 892, 3) := by decide +kernel
theorem d_Mod_enter_397 : decode b_Mod_enter 397 = .ok (.aload_n 0, 1) := by decide +kernel
theorem d_Mod_enter_398 : decode b_Mod_enter 398 = .ok (.getfield 102, 3) := by decide +kernel
theorem d_Mod_enter_401 : decode b_Mod_enter 401 = .ok (.iload 6, 2) := by decide +kernel
theorem d_Mod_enter_403 : decode b_Mod_enter 403 = .ok (.iaload, 1) := by decide +kernel
theorem d_Mod_enter_404 : decode b_Mod_enter 404 = .ok (.iastore, 1) := by decide +kernel
theorem d_Mod_enter_405 : decode b_Mod_enter 405 = .ok (.aload_n 0, 1) := by decide +kernel
theorem d_Mod_enter_406 : decode b_Mod_enter 406 = .ok (.getfield 148, 3) := by decide +kernel
theorem d_Mod_enter_409 : decode b_Mod_enter 409 = .ok (.aload_n 0, 1) := by decide +kernel
theorem d_Mod_enter_410 : decode b_Mod_enter 410 = .ok (.getfield 892, 3) := by decide +kernel
theorem d_Mod_enter_413 : decode b_Mod_enter 413 = .ok (.aload_n 0, 1) := by decide +kernel
theorem d_Mod_enter_414 : decode b_Mod_enter 414 = .ok (.getfield 114, 3) := by decide +kernel
theorem d_Mod_enter_417 : decode b_Mod_enter 417 = .ok (.iload 6, 2) := by decide +kernel
theorem d_Mod_enter_419 : decode b_Mod_enter 419 = .ok (.baload, 1) := by decide +kernel
theorem d_Mod_enter_420 : decode b_Mod_enter 420 = .ok (.bastore, 1) := by decide +kernel
theorem d_Mod_enter_421 : decode b_Mod_enter 421 = .ok (.aload_n 0, 1) := by decide +kernel
theorem d_Mod_enter_422 : decode b_Mod_enter 422 = .ok (.dup, 1) := by decide +kernel
theorem d_Mod_enter_423 : decode b_Mod_enter 423 = .ok (.getfield 892, 3) := by decide +kernel
theorem d_Mod_enter_426 : decode b_Mod_enter 426 = .ok (.iconst 1, 1) := by decide +kernel
theorem d_Mod_enter_427 : decode b_Mod_enter 427 = .ok (.iadd, 1) := by decide +kernel
theorem d_Mod_enter_428 : decode b_Mod_enter 428 = .ok (.putfield 892, 3) := by decide +kernel
theorem d_Mod_enter_431 : decode b_Mod_enter 431 = .ok (.aload_n 0, 1) := by decide +kernel
theorem d_Mod_enter_432 : decode b_Mod_enter 432 = .ok (.getfield 111, 3) := by decide +kernel
theorem d_Mod_enter_435 : decode b_Mod_enter 435 = .ok (.iload 6, 2) := by decide +kernel
theorem d_Mod_enter_437 : decode b_Mod_enter 437 = .ok (.iaload, 1) := by decide +kernel
theorem d_Mod_enter_438 : decode b_Mod_enter 438 = .ok (.istore 6, 2) := by decide +kernel
theorem d_Mod_enter_440 : decode b_Mod_enter 440 = .ok (.goto (-72), 3) := by decide +kernel
theorem d_Mod_enter_443 : decode b_Mod_enter 443 = .ok (.return_, 1) := by decide +kernel
theorem d_Mod_enterFile_0 : decode b_Mod_enterFile 0 = .ok (.aload_n 0, 1) := by decide +kernel
theorem d_Mod_enterFile_1 : decode b_Mod_enterFile 1 = .ok (.getfield 164, 3) := by decide +kernel
theorem d_Mod_enterFile_4 : decode b_Mod_enterFile 4 = .ok (.aload_n 0, 1) := by decide +kernel
theorem d_Mod_enterFile_5 : decode b_Mod_enterFile 5 = .ok (.getfield 631, 3) := by decide +kernel
theorem d_Mod_enterFile_8 : decode b_Mod_enterFile 8 = .ok (.iload_n 1, 1) := by decide +kernel
theorem d_Mod_enterFile_9 : decode b_Mod_enterFile 9 = .ok (.iastore, 1) := by decide +kernel
theorem d_Mod_enterFile_10 : decode b_Mod_enterFile 10 = .ok (.aload_n 0, 1) := by decide +kernel
theorem d_Mod_enterFile_11 : decode b_Mod_enterFile 11 = .ok (.getfield 197, 3) := by decide +kernel
theorem d_Mod_enterFile_14 : decode b_Mod_enterFile 14 = .ok (.aload_n 0, 1) := by decide +kernel
theorem d_Mod_enterFile_15 : decode b_Mod_enterFile 15 = .ok (.getfield 631, 3) := by decide +kernel
theorem d_Mod_enterFile_18 : decode b_Mod_enterFile 18 = .ok (.aload_n 0, 1) := by decide +kernel
theorem d_Mod_enterFile_19 : decode b_Mod_enterFile 19 = .ok (.getfield 92, 3) := by decide +kernel
theorem d_Mod_enterFile_22 : decode b_Mod_enterFile 22 = .ok (.iload_n 1, 1) := by decide +kernel
theorem d_Mod_enterFile_23 : decode b_Mod_enterFile 23 = .ok (.iaload, 1) := by decide +kernel
theorem d_Mod_enterFile_24 : decode b_Mod_enterFile 24 = .ok (.iastore, 1) := by decide +kernel
theorem d_Mod_enterFile_25 : decode b_Mod_enterFile 25 = .ok (.aload_n 0, 1) := by decide +kernel
theorem d_Mod_enterFile_26 : decode b_Mod_enterFile 26 = .ok (.getfield 167, 3) := by decide +kernel
theorem d_Mod_enterFile_29 : decode b_Mod_enterFile 29 = .ok (.aload_n 0, 1) := by decide +kernel
theorem d_Mod_enterFile_30 : decode b_Mod_enterFile 30 = .ok (.getfield 631, 3) := by decide +kernel
theorem d_Mod_enterFile_33 : decode b_Mod_enterFile 33 = .ok (.iconst 0, 1) := by decide +kernel
theorem d_Mod_enterFile_34 : decode b_Mod_enterFile 34 = .ok (.iastore, 1) := by decide +kernel
theorem d_Mod_enterFile_35 : decode b_Mod_enterFile 35 = .ok (.aload_n 0, 1) := by decide +kernel
theorem d_Mod_enterFile_36 : decode b_Mod_enterFile 36 = .ok (.getfield 170, 3) := by decide +kernel
theorem d_Mod_enterFile_39 : decode b_Mod_enterFile 39 = .ok (.aload_n 0, 1) := by decide +kernel
theorem d_Mod_enterFile_40 : decode b_Mod_enterFile 40 = .ok (.getfield 631, 3) := by decide +kernel
theorem d_Mod_enterFile_43 : decode b_Mod_enterFile 43 = .ok (.iconst (-1), 1) := by decide +kernel
theorem d_Mod_enterFile_44 : decode b_Mod_enterFile 44 = .ok (.iload_n 1, 1) := by decide +kernel
theorem d_Mod_enterFile_45 : decode b_Mod_enterFile 45 = .ok (.isub, 1) := by decide +kernel
theorem d_Mod_enterFile_46 : decode b_Mod_enterFile 46 = .ok (.iastore, 1) := by decide +kernel
theorem d_Mod_enterFile_47 : decode b_Mod_enterFile 47 = .ok (.aload_n 0, 1) := by decide +kernel
theorem d_Mod_enterFile_48 : decode b_Mod_enterFile 48 = .ok (.getfield 173, 3) := by decide +kernel
theorem d_Mod_enterFile_51 : decode b_Mod_enterFile 51 = .ok (.aload_n 0, 1) := by decide +kernel
theorem d_Mod_enterFile_52 : decode b_Mod_enterFile 52 = .ok (.getfield 631, 3) := by decide +kernel
theorem d_Mod_enterFile_55 : decode b_Mod_enterFile 55 = .ok (.aload_n 0, 1) := by decide +kernel
theorem d_Mod_enterFile_56 : decode b_Mod_enterFile 56 = .ok (.getfield 16, 3) := by decide +kernel
theorem d_Mod_enterFile_59 : decode b_Mod_enterFile 59 = .ok (.iload_n 1, 1) := by decide +kernel
theorem d_Mod_enterFile_60 : decode b_Mod_enterFile 60 = .ok (.iaload, 1) := by decide +kernel
theorem d_Mod_enterFile_61 : decode b_Mod_enterFile 61 = .ok (.iastore, 1) := by decide +kernel
theorem d_Mod_enterFile_62 : decode b_Mod_enterFile 62 = .ok (.return_, 1) := by decide +kernel
theorem d_Mod_fail_0 : decode b_Mod_fail 0 = .ok (.aload_n 0, 1) := by decide +kernel
theorem d_Mod_fail_1 : decode b_Mod_fail 1 = .ok (.getfield 262, 3) := by decide +kernel
theorem d_Mod_fail_4 : decode b_Mod_fail 4 = .ok (.ifCond .ne 18, 3) := by decide +kernel
theorem d_Mod_fail_7 : decode b_Mod_fail 7 = .ok (.aload_n 0, 1) := by decide +kernel
theorem d_Mod_fail_8 : decode b_Mod_fail 8 = .ok (.iload_n 1, 1) := by decide +kernel
theorem d_Mod_fail_9 : decode b_Mod_fail 9 = .ok (.putfield 262, 3) := by decide +kernel
theorem d_Mod_fail_12 : decode b_Mod_fail 12 = .ok (.aload_n 0, 1) := by decide +kernel
theorem d_Mod_fail_13 : decode b_Mod_fail 13 = .ok (.iload_n 2, 1) := by decide +kernel
theorem d_Mod_fail_14 : decode b_Mod_fail 14 = .ok (.putfield 265, 3) := by decide +kernel
theorem d_Mod_fail_17 : decode b_Mod_fail 17 = .ok (.aload_n 0, 1) := by decide +kernel
theorem d_Mod_fail_18 : decode b_Mod_fail 18 = .ok (.iload_n 3, 1) := by decide +kernel
theorem d_Mod_fail_19 : decode b_Mod_fail 19 = .ok (.putfield 268, 3) := by decide +kernel
theorem d_Mod_fail_22 : decode b_Mod_fail 22 = .ok (.return_, 1) := by decide +kernel
theorem d_Mod_fail1_0 : decode b_Mod_fail1 0 = .ok (.aload_n 0, 1) := by decide +kernel
theorem d_Mod_fail1_1 : decode b_Mod_fail1 1 = .ok (.iload_n 1, 1) := by decide +kernel
theorem d_Mod_fail1_2 : decode b_Mod_fail1 2 = .ok (.aload_n 0, 1) := by decide +kernel
theorem d_Mod_fail1_3 : decode b_Mod_fail1 3 = .ok (.getfield 289, 3) := by decide +kernel
theorem d_Mod_fail1_6 : decode b_Mod_fail1 6 = .ok (.aload_n 0, 1) := by decide +kernel
theorem d_Mod_fail1_7 : decode b_Mod_fail1 7 = .ok (.getfield 286, 3) := by decide +kernel
theorem d_Mod_fail1_10 : decode b_Mod_fail1 10 = .ok (.invokevirtual 292, 3) := by decide +kernel
theorem d_Mod_fail1_13 : decode b_Mod_fail1 13 = .ok (.return_, 1) := by decide +kernel
theorem d_Mod_fail2_0 : decode b_Mod_fail2 0 = .ok (.aload_n 0, 1) := by decide +kernel
theorem d_Mod_fail2_1 : decode b_Mod_fail2 1 = .ok (.iload_n 1, 1) := by decide +kernel
theorem d_Mod_fail2_2 : decode b_Mod_fail2 2 = .ok (.aload_n 0, 1) := by decide +kernel
theorem d_Mod_fail2_3 : decode b_Mod_fail2 3 = .ok (.getfield 164, 3) := by decide +kernel
theorem d_Mod_fail2_6 : decode b_Mod_fail2 6 = .ok (.aload_n 0, 1) := by decide +kernel
theorem d_Mod_fail2_7 : decode b_Mod_fail2 7 = .ok (.getfield 631, 3) := by decide +kernel
theorem d_Mod_fail2_10 : decode b_Mod_fail2 10 = .ok (.iaload, 1) := by decide +kernel
theorem d_Mod_fail2_11 : decode b_Mod_fail2 11 = .ok (.iload_n 2, 1) := by decide +kernel
theorem d_Mod_fail2_12 : decode b_Mod_fail2 12 = .ok (.invokevirtual 292, 3) := by decide +kernel
theorem d_Mod_fail2_15 : decode b_Mod_fail2 15 = .ok (.return_, 1) := by decide +kernel
theorem d_Mod_fault_0 : decode b_Mod_fault 0 = .ok (.aload_n 0, 1) := by decide +kernel
theorem d_Mod_fault_1 : decode b_Mod_fault 1 = .ok (.iload_n 1, 1) := by decide +kernel
theorem d_Mod_fault_2 : decode b_Mod_fault 2 = .ok (.aload_n 0, 1) := by decide +kernel
theorem d_Mod_fault_3 : decode b_Mod_fault 3 = .ok (.getfield 805, 3) := by decide +kernel
theorem d_Mod_fault_6 : decode b_Mod_fault 6 = .ok (.invokevirtual 628, 3) := by decide +kernel
theorem d_Mod_fault_9 : decode b_Mod_fault 9 = .ok (.return_, 1) := by decide +kernel
theorem d_Mod_finish_0 : decode b_Mod_finish 0 = .ok (.aload_n 0, 1) := by decide +kernel
theorem d_Mod_finish_1 : decode b_Mod_finish 1 = .ok (.getfield 191, 3) := by decide +kernel
theorem d_Mod_finish_4 : decode b_Mod_finish 4 = .ok (.iload_n 3, 1) := by decide +kernel
theorem d_Mod_finish_5 : decode b_Mod_finish 5 = .ok (.iaload, 1) := by decide +kernel
theorem d_Mod_finish_6 : decode b_Mod_finish 6 = .ok (.istore 5, 2) := by decide +kernel
theorem d_Mod_finish_8 : decode b_Mod_finish 8 = .ok (.iload 5, 2) := by decide +kernel
theorem d_Mod_finish_10 : decode b_Mod_finish 10 = .ok (.ifCond .lt 89, 3) := by decide +kernel
theorem d_Mod_finish_13 : decode b_Mod_finish 13 = .ok (.aload_n 0, 1) := by decide +kernel
theorem d_Mod_finish_14 : decode b_Mod_finish 14 = .ok (.getfield 262, 3) := by decide +kernel
theorem d_Mod_finish_17 : decode b_Mod_finish 17 = .ok (.ifCond .ne 82, 3) := by decide +kernel
theorem d_Mod_finish_20 : decode b_Mod_finish 20 = .ok (.iconst 0, 1) := by decide +kernel
theorem d_Mod_finish_21 : decode b_Mod_finish 21 = .ok (.istore 6, 2) := by decide +kernel
theorem d_Mod_finish_23 : decode b_Mod_finish 23 = .ok (.iload 6, 2) := by decide +kernel
theorem d_Mod_finish_25 : decode b_Mod_finish 25 = .ok (.bipush 7, 2) := by decide +kernel
theorem d_Mod_finish_27 : decode b_Mod_finish 27 = .ok (.if_icmp .ge 47, 3) := by decide +kernel
theorem d_Mod_finish_30 : decode b_Mod_finish 30 = .ok (.aload_n 0, 1) := by decide +kernel
theorem d_Mod_finish_31 : decode b_Mod_finish 31 = .ok (.getfield 161, 3) := by decide +kernel
theorem d_Mod_finish_34 : decode b_Mod_finish 34 = .ok (.iload 6, 2) := by decide +kernel
theorem d_Mod_finish_36 : decode b_Mod_finish 36 = .ok (.aload_n 0, 1) := by decide +kernel
theorem d_Mod_finish_37 : decode b_Mod_finish 37 = .ok (.getfield 157, 3) := by decide +kernel
theorem d_Mod_finish_40 : decode b_Mod_finish 40 = .ok (.bipush 7, 2) := by decide +kernel
theorem d_Mod_finish_42 : decode b_Mod_finish 42 = .ok (.aload_n 0, 1) := by decide +kernel
theorem d_Mod_finish_43 : decode b_Mod_finish 43 = .ok (.getfield 108, 3) := by decide +kernel
theorem d_Mod_finish_46 : decode b_Mod_finish 46 = .ok (.iload 5, 2) := by decide +kernel
theorem d_Mod_finish_48 : decode b_Mod_finish 48 = .ok (.iaload, 1) := by decide +kernel
theorem d_Mod_finish_49 : decode b_Mod_finish 49 = .ok (.imul, 1) := by decide +kernel
theorem d_Mod_finish_50 : decode b_Mod_finish 50 = .ok (.iload 6, 2) := by decide +kernel
theorem d_Mod_finish_52 : decode b_Mod_finish 52 = .ok (.iadd, 1) := by decide +kernel
theorem d_Mod_finish_53 : decode b_Mod_finish 53 = .ok (.laload, 1) := by decide +kernel
theorem d_Mod_finish_54 : decode b_Mod_finish 54 = .ok (.aload_n 0, 1) := by decide +kernel
theorem d_Mod_finish_55 : decode b_Mod_finish 55 = .ok (.getfield 176, 3) := by decide +kernel
theorem d_Mod_finish_58 : decode b_Mod_finish 58 = .ok (.bipush 7, 2) := by decide +kernel
theorem d_Mod_finish_60 : decode b_Mod_finish 60 = .ok (.iload_n 3, 1) := by decide +kernel
theorem d_Mod_finish_61 : decode b_Mod_finish 61 = .ok (.imul, 1) := by decide +kernel
theorem d_Mod_finish_62 : decode b_Mod_finish 62 = .ok (.iload 6, 2) := by decide +kernel
theorem d_Mod_finish_64 : decode b_Mod_finish 64 = .ok (.iadd, 1) := by decide +kernel
theorem d_Mod_finish_65 : decode b_Mod_finish 65 = .ok (.laload, 1) := by decide +kernel
theorem d_Mod_finish_66 : decode b_Mod_finish 66 = .ok (.lor, 1) := by decide +kernel
theorem d_Mod_finish_67 : decode b_Mod_finish 67 = .ok (.lastore, 1) := by decide +kernel
theorem d_Mod_finish_68 : decode b_Mod_finish 68 = .ok (.iinc 6 1, 3) := by decide +kernel
theorem d_Mod_finish_71 : decode b_Mod_finish 71 = .ok (.goto (-48), 3) := by decide +kernel
theorem d_Mod_finish_74 : decode b_Mod_finish 74 = .ok (.aload_n 0, 1) := by decide +kernel
theorem d_Mod_finish_75 : decode b_Mod_finish 75 = .ok (.getfield 108, 3) := by decide +kernel
theorem d_Mod_finish_78 : decode b_Mod_finish 78 = .ok (.iload 5, 2) := by decide +kernel
theorem d_Mod_finish_80 : decode b_Mod_finish 80 = .ok (.aload_n 0, 1) := by decide +kernel
theorem d_Mod_finish_81 : decode b_Mod_finish 81 = .ok (.iload 4, 2) := by decide +kernel
theorem d_Mod_finish_83 : decode b_Mod_finish 83 = .ok (.invokevirtual 720, 3) := by decide +kernel
theorem d_Mod_finish_86 : decode b_Mod_finish 86 = .ok (.iastore, 1) := by decide +kernel
theorem d_Mod_finish_87 : decode b_Mod_finish 87 = .ok (.aload_n 0, 1) := by decide +kernel
theorem d_Mod_finish_88 : decode b_Mod_finish 88 = .ok (.getfield 111, 3) := by decide +kernel
theorem d_Mod_finish_91 : decode b_Mod_finish 91 = .ok (.iload 5, 2) := by decide +kernel
theorem d_Mod_finish_93 : decode b_Mod_finish 93 = .ok (.iaload, 1) := by decide +kernel
theorem d_Mod_finish_94 : decode b_Mod_finish 94 = .ok (.istore 5, 2) := by decide +kernel
theorem d_Mod_finish_96 : decode b_Mod_finish 96 = .ok (.goto (-88), 3) := by decide +kernel
theorem d_Mod_finish_99 : decode b_Mod_finish 99 = .ok (.aload_n 0, 1) := by decide +kernel
theorem d_Mod_finish_100 : decode b_Mod_finish 100 = .ok (.getfield 191, 3) := by decide +kernel
theorem d_Mod_finish_103 : decode b_Mod_finish 103 = .ok (.iload_n 3, 1) := by decide +kernel
theorem d_Mod_finish_104 : decode b_Mod_finish 104 = .ok (.iaload, 1) := by decide +kernel
theorem d_Mod_finish_105 : decode b_Mod_finish 105 = .ok (.ifCond .ge 5, 3) := by decide +kernel
theorem d_Mod_finish_108 : decode b_Mod_finish 108 = .ok (.iload_n 2, 1) := by decide +kernel
theorem d_Mod_finish_109 : decode b_Mod_finish 109 = .ok (.ireturn, 1) := by decide +kernel
theorem d_Mod_finish_110 : decode b_Mod_finish 110 = .ok (.aload_n 0, 1) := by decide +kernel
theorem d_Mod_finish_111 : decode b_Mod_finish 111 = .ok (.getfield 114, 3) := by decide +kernel
theorem d_Mod_finish_114 : decode b_Mod_finish 114 = .ok (.aload_n 0, 1) := by decide +kernel
theorem d_Mod_finish_115 : decode b_Mod_finish 115 = .ok (.getfield 191, 3) := by decide +kernel
theorem d_Mod_finish_118 : decode b_Mod_finish 118 = .ok (.iload_n 3, 1) := by decide +kernel
theorem d_Mod_finish_119 : decode b_Mod_finish 119 = .ok (.iaload, 1) := by decide +kernel
theorem d_Mod_finish_120 : decode b_Mod_finish 120 = .ok (.aload_n 0, 1) := by decide +kernel
theorem d_Mod_finish_121 : decode b_Mod_finish 121 = .ok (.getfield 114, 3) := by decide +kernel
theorem d_Mod_finish_124 : decode b_Mod_finish 124 = .ok (.iload_n 1, 1) := by decide +kernel
theorem d_Mod_finish_125 : decode b_Mod_finish 125 = .ok (.baload, 1) := by decide +kernel
theorem d_Mod_finish_126 : decode b_Mod_finish 126 = .ok (.bastore, 1) := by decide +kernel
theorem d_Mod_finish_127 : decode b_Mod_finish 127 = .ok (.aload_n 0, 1) := by decide +kernel
theorem d_Mod_finish_128 : decode b_Mod_finish 128 = .ok (.getfield 118, 3) := by decide +kernel
theorem d_Mod_finish_131 : decode b_Mod_finish 131 = .ok (.aload_n 0, 1) := by decide +kernel
theorem d_Mod_finish_132 : decode b_Mod_finish 132 = .ok (.getfield 191, 3) := by decide +kernel
theorem d_Mod_finish_135 : decode b_Mod_finish 135 = .ok (.iload_n 3, 1) := by decide +kernel
theorem d_Mod_finish_136 : decode b_Mod_finish 136 = .ok (.iaload, 1) := by decide +kernel
theorem d_Mod_finish_137 : decode b_Mod_finish 137 = .ok (.aload_n 0, 1) := by decide +kernel
theorem d_Mod_finish_138 : decode b_Mod_finish 138 = .ok (.getfield 118, 3) := by decide +kernel
theorem d_Mod_finish_141 : decode b_Mod_finish 141 = .ok (.iload_n 1, 1) := by decide +kernel
theorem d_Mod_finish_142 : decode b_Mod_finish 142 = .ok (.baload, 1) := by decide +kernel
theorem d_Mod_finish_143 : decode b_Mod_finish 143 = .ok (.bastore, 1) := by decide +kernel
theorem d_Mod_finish_144 : decode b_Mod_finish 144 = .ok (.aload_n 0, 1) := by decide +kernel
theorem d_Mod_finish_145 : decode b_Mod_finish 145 = .ok (.getfield 111, 3) := by decide +kernel
theorem d_Mod_finish_148 : decode b_Mod_finish 148 = .ok (.aload_n 0, 1) := by decide +kernel
theorem d_Mod_finish_149 : decode b_Mod_finish 149 = .ok (.getfield 194, 3) := by decide +kernel
theorem d_Mod_finish_152 : decode b_Mod_finish 152 = .ok (.iload_n 3, 1) := by decide +kernel
theorem d_Mod_finish_153 : decode b_Mod_finish 153 = .ok (.iaload, 1) := by decide +kernel
theorem d_Mod_finish_154 : decode b_Mod_finish 154 = .ok (.iload_n 2, 1) := by decide +kernel
theorem d_Mod_finish_155 : decode b_Mod_finish 155 = .ok (.iastore, 1) := by decide +kernel
theorem d_Mod_finish_156 : decode b_Mod_finish 156 = .ok (.aload_n 0, 1) := by decide +kernel
theorem d_Mod_finish_157 : decode b_Mod_finish 157 = .ok (.getfield 191, 3) := by decide +kernel
theorem d_Mod_finish_160 : decode b_Mod_finish 160 = .ok (.iload_n 3, 1) := by decide +kernel
theorem d_Mod_finish_161 : decode b_Mod_finish 161 = .ok (.iaload, 1) := by decide +kernel
theorem d_Mod_finish_162 : decode b_Mod_finish 162 = .ok (.ireturn, 1) := by decide +kernel
theorem d_Mod_forget_0 : decode b_Mod_forget 0 = .ok (.aload_n 0, 1) := by decide +kernel
theorem d_Mod_forget_1 : decode b_Mod_forget 1 = .ok (.getfield 53, 3) := by decide +kernel
theorem d_Mod_forget_4 : decode b_Mod_forget 4 = .ok (.iload_n 1, 1) := by decide +kernel
theorem d_Mod_forget_5 : decode b_Mod_forget 5 = .ok (.iaload, 1) := by decide +kernel
theorem d_Mod_forget_6 : decode b_Mod_forget 6 = .ok (.aload_n 0, 1) := by decide +kernel
theorem d_Mod_forget_7 : decode b_Mod_forget 7 = .ok (.getfield 56, 3) := by decide +kernel
theorem d_Mod_forget_10 : decode b_Mod_forget 10 = .ok (.iload_n 1, 1) := by decide +kernel
theorem d_Mod_forget_11 : decode b_Mod_forget 11 = .ok (.iaload, 1) := by decide +kernel
theorem d_Mod_forget_12 : decode b_Mod_forget 12 = .ok (.iadd, 1) := by decide +kernel
theorem d_Mod_forget_13 : decode b_Mod_forget 13 = .ok (.istore_n 2, 1) := by decide +kernel
theorem d_Mod_forget_14 : decode b_Mod_forget 14 = .ok (.aload_n 0, 1) := by decide +kernel
theorem d_Mod_forget_15 : decode b_Mod_forget 15 = .ok (.getfield 50, 3) := by decide +kernel
theorem d_Mod_forget_18 : decode b_Mod_forget 18 = .ok (.iload_n 1, 1) := by decide +kernel
theorem d_Mod_forget_19 : decode b_Mod_forget 19 = .ok (.iaload, 1) := by decide +kernel
theorem d_Mod_forget_20 : decode b_Mod_forget 20 = .ok (.istore_n 3, 1) := by decide +kernel
theorem d_Mod_forget_21 : decode b_Mod_forget 21 = .ok (.iload_n 3, 1) := by decide +kernel
theorem d_Mod_forget_22 : decode b_Mod_forget 22 = .ok (.iload_n 2, 1) := by decide +kernel
theorem d_Mod_forget_23 : decode b_Mod_forget 23 = .ok (.iadd, 1) := by decide +kernel
theorem d_Mod_forget_24 : decode b_Mod_forget 24 = .ok (.aload_n 0, 1) := by decide +kernel
theorem d_Mod_forget_25 : decode b_Mod_forget 25 = .ok (.getfield 385, 3) := by decide +kernel
theorem d_Mod_forget_28 : decode b_Mod_forget 28 = .ok (.if_icmp .ge 23, 3) := by decide +kernel
theorem d_Mod_forget_31 : decode b_Mod_forget 31 = .ok (.aload_n 0, 1) := by decide +kernel
theorem d_Mod_forget_32 : decode b_Mod_forget 32 = .ok (.getfield 62, 3) := by decide +kernel
theorem d_Mod_forget_35 : decode b_Mod_forget 35 = .ok (.iload_n 3, 1) := by decide +kernel
theorem d_Mod_forget_36 : decode b_Mod_forget 36 = .ok (.aload_n 0, 1) := by decide +kernel
theorem d_Mod_forget_37 : decode b_Mod_forget 37 = .ok (.getfield 62, 3) := by decide +kernel
theorem d_Mod_forget_40 : decode b_Mod_forget 40 = .ok (.iload_n 3, 1) := by decide +kernel
theorem d_Mod_forget_41 : decode b_Mod_forget 41 = .ok (.iload_n 2, 1) := by decide +kernel
theorem d_Mod_forget_42 : decode b_Mod_forget 42 = .ok (.iadd, 1) := by decide +kernel
theorem d_Mod_forget_43 : decode b_Mod_forget 43 = .ok (.baload, 1) := by decide +kernel
theorem d_Mod_forget_44 : decode b_Mod_forget 44 = .ok (.bastore, 1) := by decide +kernel
theorem d_Mod_forget_45 : decode b_Mod_forget 45 = .ok (.iinc 3 1, 3) := by decide +kernel
theorem d_Mod_forget_48 : decode b_Mod_forget 48 = .ok (.goto (-27), 3) := by decide +kernel
theorem d_Mod_forget_51 : decode b_Mod_forget 51 = .ok (.aload_n 0, 1) := by decide +kernel
theorem d_Mod_forget_52 : decode b_Mod_forget 52 = .ok (.aload_n 0, 1) := by decide +kernel
theorem d_Mod_forget_53 : decode b_Mod_forget 53 = .ok (.getfield 385, 3) := by decide +kernel
theorem d_Mod_forget_56 : decode b_Mod_forget 56 = .ok (.iload_n 2, 1) := by decide +kernel
theorem d_Mod_forget_57 : decode b_Mod_forget 57 = .ok (.isub, 1) := by decide +kernel
theorem d_Mod_forget_58 : decode b_Mod_forget 58 = .ok (.putfield 385, 3) := by decide +kernel
theorem d_Mod_forget_61 : decode b_Mod_forget 61 = .ok (.aload_n 0, 1) := by decide +kernel
theorem d_Mod_forget_62 : decode b_Mod_forget 62 = .ok (.getfield 59, 3) := by decide +kernel
theorem d_Mod_forget_65 : decode b_Mod_forget 65 = .ok (.iload_n 1, 1) := by decide +kernel
theorem d_Mod_forget_66 : decode b_Mod_forget 66 = .ok (.iaload, 1) := by decide +kernel
theorem d_Mod_forget_67 : decode b_Mod_forget 67 = .ok (.ifCond .ne 23, 3) := by decide +kernel
theorem d_Mod_forget_70 : decode b_Mod_forget 70 = .ok (.aload_n 0, 1) := by decide +kernel
theorem d_Mod_forget_71 : decode b_Mod_forget 71 = .ok (.dup, 1) := by decide +kernel
theorem d_Mod_forget_72 : decode b_Mod_forget 72 = .ok (.getfield 388, 3) := by decide +kernel
theorem d_Mod_forget_75 : decode b_Mod_forget 75 = .ok (.iconst 1, 1) := by decide +kernel
theorem d_Mod_forget_76 : decode b_Mod_forget 76 = .ok (.isub, 1) := by decide +kernel
theorem d_Mod_forget_77 : decode b_Mod_forget 77 = .ok (.putfield 388, 3) := by decide +kernel
theorem d_Mod_forget_80 : decode b_Mod_forget 80 = .ok (.aload_n 0, 1) := by decide +kernel
theorem d_Mod_forget_81 : decode b_Mod_forget 81 = .ok (.aload_n 0, 1) := by decide +kernel
theorem d_Mod_forget_82 : decode b_Mod_forget 82 = .ok (.getfield 391, 3) := by decide +kernel
theorem d_Mod_forget_85 : decode b_Mod_forget 85 = .ok (.iload_n 2, 1) := by decide +kernel
theorem d_Mod_forget_86 : decode b_Mod_forget 86 = .ok (.isub, 1) := by decide +kernel
theorem d_Mod_forget_87 : decode b_Mod_forget 87 = .ok (.putfield 391, 3) := by decide +kernel
theorem d_Mod_forget_90 : decode b_Mod_forget 90 = .ok (.aload_n 0, 1) := by decide +kernel
theorem d_Mod_forget_91 : decode b_Mod_forget 91 = .ok (.dup, 1) := by decide +kernel
theorem d_Mod_forget_92 : decode b_Mod_forget 92 = .ok (.getfield 382, 3) := by decide +kernel
theorem d_Mod_forget_95 : decode b_Mod_forget 95 = .ok (.iconst 1, 1) := by decide +kernel
theorem d_Mod_forget_96 : decode b_Mod_forget 96 = .ok (.isub, 1) := by decide +kernel
theorem d_Mod_forget_97 : decode b_Mod_forget 97 = .ok (.putfield 382, 3) := by decide +kernel
theorem d_Mod_forget_100 : decode b_Mod_forget 100 = .ok (.iload_n 1, 1) := by decide +kernel
theorem d_Mod_forget_101 : decode b_Mod_forget 101 = .ok (.istore_n 3, 1) := by decide +kernel
theorem d_Mod_forget_102 : decode b_Mod_forget 102 = .ok (.iload_n 3, 1) := by decide +kernel
theorem d_Mod_forget_103 : decode b_Mod_forget 103 = .ok (.aload_n 0, 1) := by decide +kernel
theorem d_Mod_forget_104 : decode b_Mod_forget 104 = .ok (.getfield 382, 3) := by decide +kernel
theorem d_Mod_forget_107 : decode b_Mod_forget 107 = .ok (.if_icmp .ge 67, 3) := by decide +kernel
theorem d_Mod_forget_110 : decode b_Mod_forget 110 = .ok (.aload_n 0, 1) := by decide +kernel
theorem d_Mod_forget_111 : decode b_Mod_forget 111 = .ok (.getfield 50, 3) := by decide +kernel
theorem d_Mod_forget_114 : decode b_Mod_forget 114 = .ok (.iload_n 3, 1) := by decide +kernel
theorem d_Mod_forget_115 : decode b_Mod_forget 115 = .ok (.aload_n 0, 1) := by decide +kernel
theorem d_Mod_forget_116 : decode b_Mod_forget 116 = .ok (.getfield 50, 3) := by decide +kernel
theorem d_Mod_forget_119 : decode b_Mod_forget 119 = .ok (.iload_n 3, 1) := by decide +kernel
theorem d_Mod_forget_120 : decode b_Mod_forget 120 = .ok (.iconst 1, 1) := by decide +kernel
theorem d_Mod_forget_121 : decode b_Mod_forget 121 = .ok (.iadd, 1) := by decide +kernel
theorem d_Mod_forget_122 : decode b_Mod_forget 122 = .ok (.iaload, 1) := by decide +kernel
theorem d_Mod_forget_123 : decode b_Mod_forget 123 = .ok (.iload_n 2, 1) := by decide +kernel
theorem d_Mod_forget_124 : decode b_Mod_forget 124 = .ok (.isub, 1) := by decide +kernel
theorem d_Mod_forget_125 : decode b_Mod_forget 125 = .ok (.iastore, 1) := by decide +kernel
theorem d_Mod_forget_126 : decode b_Mod_forget 126 = .ok (.aload_n 0, 1) := by decide +kernel
theorem d_Mod_forget_127 : decode b_Mod_forget 127 = .ok (.getfield 53, 3) := by decide +kernel
theorem d_Mod_forget_130 : decode b_Mod_forget 130 = .ok (.iload_n 3, 1) := by decide +kernel
theorem d_Mod_forget_131 : decode b_Mod_forget 131 = .ok (.aload_n 0, 1) := by decide +kernel
theorem d_Mod_forget_132 : decode b_Mod_forget 132 = .ok (.getfield 53, 3) := by decide +kernel
theorem d_Mod_forget_135 : decode b_Mod_forget 135 = .ok (.iload_n 3, 1) := by decide +kernel
theorem d_Mod_forget_136 : decode b_Mod_forget 136 = .ok (.iconst 1, 1) := by decide +kernel
theorem d_Mod_forget_137 : decode b_Mod_forget 137 = .ok (.iadd, 1) := by decide +kernel
theorem d_Mod_forget_138 : decode b_Mod_forget 138 = .ok (.iaload, 1) := by decide +kernel
theorem d_Mod_forget_139 : decode b_Mod_forget 139 = .ok (.iastore, 1) := by decide +kernel
theorem d_Mod_forget_140 : decode b_Mod_forget 140 = .ok (.aload_n 0, 1) := by decide +kernel
theorem d_Mod_forget_141 : decode b_Mod_forget 141 = .ok (.getfield 56, 3) := by decide +kernel
theorem d_Mod_forget_144 : decode b_Mod_forget 144 = .ok (.iload_n 3, 1) := by decide +kernel
theorem d_Mod_forget_145 : decode b_Mod_forget 145 = .ok (.aload_n 0, 1) := by decide +kernel
theorem d_Mod_forget_146 : decode b_Mod_forget 146 = .ok (.getfield 56, 3) := by decide +kernel
theorem d_Mod_forget_149 : decode b_Mod_forget 149 = .ok (.iload_n 3, 1) := by decide +kernel
theorem d_Mod_forget_150 : decode b_Mod_forget 150 = .ok (.iconst 1, 1) := by decide +kernel
theorem d_Mod_forget_151 : decode b_Mod_forget 151 = .ok (.iadd, 1) := by decide +kernel
theorem d_Mod_forget_152 : decode b_Mod_forget 152 = .ok (.iaload, 1) := by decide +kernel
theorem d_Mod_forget_153 : decode b_Mod_forget 153 = .ok (.iastore, 1) := by decide +kernel
theorem d_Mod_forget_154 : decode b_Mod_forget 154 = .ok (.aload_n 0, 1) := by decide +kernel
theorem d_Mod_forget_155 : decode b_Mod_forget 155 = .ok (.getfield 59, 3) := by decide +kernel
theorem d_Mod_forget_158 : decode b_Mod_forget 158 = .ok (.iload_n 3, 1) := by decide +kernel
theorem d_Mod_forget_159 : decode b_Mod_forget 159 = .ok (.aload_n 0, 1) := by decide +kernel
theorem d_Mod_forget_160 : decode b_Mod_forget 160 = .ok (.getfield 59, 3) := by decide +kernel
theorem d_Mod_forget_163 : decode b_Mod_forget 163 = .ok (.iload_n 3, 1) := by decide +kernel
theorem d_Mod_forget_164 : decode b_Mod_forget 164 = .ok (.iconst 1, 1) := by decide +kernel
theorem d_Mod_forget_165 : decode b_Mod_forget 165 = .ok (.iadd, 1) := by decide +kernel
theorem d_Mod_forget_166 : decode b_Mod_forget 166 = .ok (.iaload, 1) := by decide +kernel
theorem d_Mod_forget_167 : decode b_Mod_forget 167 = .ok (.iastore, 1) := by decide +kernel
theorem d_Mod_forget_168 : decode b_Mod_forget 168 = .ok (.iinc 3 1, 3) := by decide +kernel
theorem d_Mod_forget_171 : decode b_Mod_forget 171 = .ok (.goto (-69), 3) := by decide +kernel
theorem d_Mod_forget_174 : decode b_Mod_forget 174 = .ok (.return_, 1) := by decide +kernel
theorem d_Mod_give_0 : decode b_Mod_give 0 = .ok (.aload_n 0, 1) := by decide +kernel
theorem d_Mod_give_1 : decode b_Mod_give 1 = .ok (.getfield 333, 3) := by decide +kernel
theorem d_Mod_give_4 : decode b_Mod_give 4 = .ok (.aload_n 0, 1) := by decide +kernel
theorem d_Mod_give_5 : decode b_Mod_give 5 = .ok (.invokevirtual 336, 3) := by decide +kernel
theorem d_Mod_give_8 : decode b_Mod_give 8 = .ok (.iadd, 1) := by decide +kernel
theorem d_Mod_give_9 : decode b_Mod_give 9 = .ok (.ldc 20, 2) := by decide +kernel
theorem d_Mod_give_11 : decode b_Mod_give 11 = .ok (.if_icmp .lt 9, 3) := by decide +kernel
theorem d_Mod_give_14 : decode b_Mod_give 14 = .ok (.aload_n 0, 1) := by decide +kernel
theorem d_Mod_give_15 : decode b_Mod_give 15 = .ok (.bipush 40, 2) := by decide +kernel
theorem d_Mod_give_17 : decode b_Mod_give 17 = .ok (.invokevirtual 277, 3) := by decide +kernel
theorem d_Mod_give_20 : decode b_Mod_give 20 = .ok (.aload_n 0, 1) := by decide +kernel
theorem d_Mod_give_21 : decode b_Mod_give 21 = .ok (.getfield 262, 3) := by decide +kernel
theorem d_Mod_give_24 : decode b_Mod_give 24 = .ok (.ifCond .ne 24, 3) := by decide +kernel
theorem d_Mod_give_27 : decode b_Mod_give 27 = .ok (.aload_n 0, 1) := by decide +kernel
theorem d_Mod_give_28 : decode b_Mod_give 28 = .ok (.getfield 47, 3) := by decide +kernel
theorem d_Mod_give_31 : decode b_Mod_give 31 = .ok (.aload_n 0, 1) := by decide +kernel
theorem d_Mod_give_32 : decode b_Mod_give 32 = .ok (.getfield 333, 3) := by decide +kernel
theorem d_Mod_give_35 : decode b_Mod_give 35 = .ok (.iload_n 1, 1) := by decide +kernel
theorem d_Mod_give_36 : decode b_Mod_give 36 = .ok (.i2b, 1) := by decide +kernel
theorem d_Mod_give_37 : decode b_Mod_give 37 = .ok (.bastore, 1) := by decide +kernel
theorem d_Mod_give_38 : decode b_Mod_give 38 = .ok (.aload_n 0, 1) := by decide +kernel
theorem d_Mod_give_39 : decode b_Mod_give 39 = .ok (.dup, 1) := by decide +kernel
theorem d_Mod_give_40 : decode b_Mod_give 40 = .ok (.getfield 333, 3) := by decide +kernel
theorem d_Mod_give_43 : decode b_Mod_give 43 = .ok (.iconst 1, 1) := by decide +kernel
theorem d_Mod_give_44 : decode b_Mod_give 44 = .ok (.iadd, 1) := by decide +kernel
theorem d_Mod_give_45 : decode b_Mod_give 45 = .ok (.putfield 333, 3) := by decide +kernel
theorem d_Mod_give_48 : decode b_Mod_give 48 = .ok (.return_, 1) := by decide +kernel
theorem d_Mod_giveArgument_0 : decode b_Mod_giveArgument 0 = .ok (.aload_n 0, 1) := by decide +kernel
theorem d_Mod_giveArgument_1 : decode b_Mod_giveArgument 1 = .ok (.iload_n 1, 1) := by decide +kernel
theorem d_Mod_giveArgument_2 : decode b_Mod_giveArgument 2 = .ok (.iload_n 2, 1) := by decide +kernel
theorem d_Mod_giveArgument_3 : decode b_Mod_giveArgument 3 = .ok (.invokevirtual 462, 3) := by decide +kernel
theorem d_Mod_giveArgument_6 : decode b_Mod_giveArgument 6 = .ok (.istore_n 3, 1) := by decide +kernel
theorem d_Mod_giveArgument_7 : decode b_Mod_giveArgument 7 = .ok (.iconst 0, 1) := by decide +kernel
theorem d_Mod_giveArgument_8 : decode b_Mod_giveArgument 8 = .ok (.istore 4, 2) := by decide +kernel
theorem d_Mod_giveArgument_10 : decode b_Mod_giveArgument 10 = .ok (.iload 4, 2) := by decide +kernel
theorem d_Mod_giveArgument_12 : decode b_Mod_giveArgument 12 = .ok (.aload_n 0, 1) := by decide +kernel
theorem d_Mod_giveArgument_13 : decode b_Mod_giveArgument 13 = .ok (.iload_n 1, 1) := by decide +kernel
theorem d_Mod_giveArgument_14 : decode b_Mod_giveArgument 14 = .ok (.iload_n 2, 1) := by decide +kernel
theorem d_Mod_giveArgument_15 : decode b_Mod_giveArgument 15 = .ok (.invokevirtual 466, 3) := by decide +kernel
theorem d_Mod_giveArgument_18 : decode b_Mod_giveArgument 18 = .ok (.if_icmp .ge 22, 3) := by decide +kernel
theorem d_Mod_giveArgument_21 : decode b_Mod_giveArgument 21 = .ok (.aload_n 0, 1) := by decide +kernel
theorem d_Mod_giveArgument_22 : decode b_Mod_giveArgument 22 = .ok (.aload_n 0, 1) := by decide +kernel
theorem d_Mod_giveArgument_23 : decode b_Mod_giveArgument 23 = .ok (.getfield 72, 3) := by decide +kernel
theorem d_Mod_giveArgument_26 : decode b_Mod_giveArgument 26 = .ok (.iload_n 3, 1) := by decide +kernel
theorem d_Mod_giveArgument_27 : decode b_Mod_giveArgument 27 = .ok (.iload 4, 2) := by decide +kernel
theorem d_Mod_giveArgument_29 : decode b_Mod_giveArgument 29 = .ok (.iadd, 1) := by decide +kernel
theorem d_Mod_giveArgument_30 : decode b_Mod_giveArgument 30 = .ok (.baload, 1) := by decide +kernel
theorem d_Mod_giveArgument_31 : decode b_Mod_giveArgument 31 = .ok (.invokevirtual 339, 3) := by decide +kernel
theorem d_Mod_giveArgument_34 : decode b_Mod_giveArgument 34 = .ok (.iinc 4 1, 3) := by decide +kernel
theorem d_Mod_giveArgument_37 : decode b_Mod_giveArgument 37 = .ok (.goto (-27), 3) := by decide +kernel
theorem d_Mod_giveArgument_40 : decode b_Mod_giveArgument 40 = .ok (.return_, 1) := by decide +kernel
theorem d_Mod_giveIfRight_0 : decode b_Mod_giveIfRight 0 = .ok (.aload_n 0, 1) := by decide +kernel
theorem d_Mod_giveIfRight_1 : decode b_Mod_giveIfRight 1 = .ok (.getfield 262, 3) := by decide +kernel
theorem d_Mod_giveIfRight_4 : decode b_Mod_giveIfRight 4 = .ok (.ifCond .ne 8, 3) := by decide +kernel
theorem d_Mod_giveIfRight_7 : decode b_Mod_giveIfRight 7 = .ok (.aload_n 0, 1) := by decide +kernel
theorem d_Mod_giveIfRight_8 : decode b_Mod_giveIfRight 8 = .ok (.lload_n 1, 1) := by decide +kernel
theorem d_Mod_giveIfRight_9 : decode b_Mod_giveIfRight 9 = .ok (.invokevirtual 472, 3) := by decide +kernel
theorem d_Mod_giveIfRight_12 : decode b_Mod_giveIfRight 12 = .ok (.return_, 1) := by decide +kernel
theorem d_Mod_giveNumber_0 : decode b_Mod_giveNumber 0 = .ok (.lload_n 1, 1) := by decide +kernel
theorem d_Mod_giveNumber_1 : decode b_Mod_giveNumber 1 = .ok (.lstore_n 3, 1) := by decide +kernel
theorem d_Mod_giveNumber_2 : decode b_Mod_giveNumber 2 = .ok (.lload_n 3, 1) := by decide +kernel
theorem d_Mod_giveNumber_3 : decode b_Mod_giveNumber 3 = .ok (.lconst 0, 1) := by decide +kernel
theorem d_Mod_giveNumber_4 : decode b_Mod_giveNumber 4 = .ok (.lcmp, 1) := by decide +kernel
theorem d_Mod_giveNumber_5 : decode b_Mod_giveNumber 5 = .ok (.ifCond .ge 12, 3) := by decide +kernel
theorem d_Mod_giveNumber_8 : decode b_Mod_giveNumber 8 = .ok (.aload_n 0, 1) := by decide +kernel
theorem d_Mod_giveNumber_9 : decode b_Mod_giveNumber 9 = .ok (.bipush 45, 2) := by decide +kernel
theorem d_Mod_giveNumber_11 : decode b_Mod_giveNumber 11 = .ok (.invokevirtual 339, 3) := by decide +kernel
theorem d_Mod_giveNumber_14 : decode b_Mod_giveNumber 14 = .ok (.lload_n 3, 1) := by decide +kernel
theorem d_Mod_giveNumber_15 : decode b_Mod_giveNumber 15 = .ok (.lneg, 1) := by decide +kernel
theorem d_Mod_giveNumber_16 : decode b_Mod_giveNumber 16 = .ok (.lstore_n 3, 1) := by decide +kernel
theorem d_Mod_giveNumber_17 : decode b_Mod_giveNumber 17 = .ok (.lconst 1, 1) := by decide +kernel
theorem d_Mod_giveNumber_18 : decode b_Mod_giveNumber 18 = .ok (.lstore 5, 2) := by decide +kernel
theorem d_Mod_giveNumber_20 : decode b_Mod_giveNumber 20 = .ok (.lload_n 3, 1) := by decide +kernel
theorem d_Mod_giveNumber_21 : decode b_Mod_giveNumber 21 = .ok (.lload 5, 2) := by decide +kernel
theorem d_Mod_giveNumber_23 : decode b_Mod_giveNumber 23 = .ok (.ldiv, 1) := by decide +kernel
theorem d_Mod_giveNumber_24 : decode b_Mod_giveNumber 24 = .ok (.ldc2_w 342, 3) := by decide +kernel
theorem d_Mod_giveNumber_27 : decode b_Mod_giveNumber 27 = .ok (.lcmp, 1) := by decide +kernel
theorem d_Mod_giveNumber_28 : decode b_Mod_giveNumber 28 = .ok (.ifCond .le 14, 3) := by decide +kernel
theorem d_Mod_giveNumber_31 : decode b_Mod_giveNumber 31 = .ok (.ldc2_w 344, 3) := by decide +kernel
theorem d_Mod_giveNumber_34 : decode b_Mod_giveNumber 34 = .ok (.lload 5, 2) := by decide +kernel
theorem d_Mod_giveNumber_36 : decode b_Mod_giveNumber 36 = .ok (.lmul, 1) := by decide +kernel
theorem d_Mod_giveNumber_37 : decode b_Mod_giveNumber 37 = .ok (.lstore 5, 2) := by decide +kernel
theorem d_Mod_giveNumber_39 : decode b_Mod_giveNumber 39 = .ok (.goto (-19), 3) := by decide +kernel
theorem d_Mod_giveNumber_42 : decode b_Mod_giveNumber 42 = .ok (.lload 5, 2) := by decide +kernel
theorem d_Mod_giveNumber_44 : decode b_Mod_giveNumber 44 = .ok (.lconst 0, 1) := by decide +kernel
theorem d_Mod_giveNumber_45 : decode b_Mod_giveNumber 45 = .ok (.lcmp, 1) := by decide +kernel
theorem d_Mod_giveNumber_46 : decode b_Mod_giveNumber 46 = .ok (.ifCond .le 31, 3) := by decide +kernel
theorem d_Mod_giveNumber_49 : decode b_Mod_giveNumber 49 = .ok (.aload_n 0, 1) := by decide +kernel
theorem d_Mod_giveNumber_50 : decode b_Mod_giveNumber 50 = .ok (.ldc2_w 346, 3) := by decide +kernel
theorem d_Mod_giveNumber_53 : decode b_Mod_giveNumber 53 = .ok (.lload_n 3, 1) := by decide +kernel
theorem d_Mod_giveNumber_54 : decode b_Mod_giveNumber 54 = .ok (.lload 5, 2) := by decide +kernel
theorem d_Mod_giveNumber_56 : decode b_Mod_giveNumber 56 = .ok (.ldiv, 1) := by decide +kernel
theorem d_Mod_giveNumber_57 : decode b_Mod_giveNumber 57 = .ok (.ldc2_w 344, 3) := by decide +kernel
theorem d_Mod_giveNumber_60 : decode b_Mod_giveNumber 60 = .ok (.lrem, 1) := by decide +kernel
theorem d_Mod_giveNumber_61 : decode b_Mod_giveNumber 61 = .ok (.ladd, 1) := by decide +kernel
theorem d_Mod_giveNumber_62 : decode b_Mod_giveNumber 62 = .ok (.l2i, 1) := by decide +kernel
theorem d_Mod_giveNumber_63 : decode b_Mod_giveNumber 63 = .ok (.invokevirtual 339, 3) := by decide +kernel
theorem d_Mod_giveNumber_66 : decode b_Mod_giveNumber 66 = .ok (.lload 5, 2) := by decide +kernel
theorem d_Mod_giveNumber_68 : decode b_Mod_giveNumber 68 = .ok (.ldc2_w 344, 3) := by decide +kernel
theorem d_Mod_giveNumber_71 : decode b_Mod_giveNumber 71 = .ok (.ldiv, 1) := by decide +kernel
theorem d_Mod_giveNumber_72 : decode b_Mod_giveNumber 72 = .ok (.lstore 5, 2) := by decide +kernel
theorem d_Mod_giveNumber_74 : decode b_Mod_giveNumber 74 = .ok (.goto (-32), 3) := by decide +kernel
theorem d_Mod_giveNumber_77 : decode b_Mod_giveNumber 77 = .ok (.return_, 1) := by decide +kernel
theorem d_Mod_giveQuotedArgument_0 : decode b_Mod_giveQuotedArgument 0 = .ok (.iconst 0, 1) := by decide +kernel
theorem d_Mod_giveQuotedArgument_1 : decode b_Mod_giveQuotedArgument 1 = .ok (.istore_n 3, 1) := by decide +kernel
theorem d_Mod_giveQuotedArgument_2 : decode b_Mod_giveQuotedArgument 2 = .ok (.iload_n 3, 1) := by decide +kernel
theorem d_Mod_giveQuotedArgument_3 : decode b_Mod_giveQuotedArgument 3 = .ok (.aload_n 0, 1) := by decide +kernel
theorem d_Mod_giveQuotedArgument_4 : decode b_Mod_giveQuotedArgument 4 = .ok (.getfield 306, 3) := by decide +kernel
theorem d_Mod_giveQuotedArgument_7 : decode b_Mod_giveQuotedArgument 7 = .ok (.if_icmp .ge 19, 3) := by decide +kernel
theorem d_Mod_giveQuotedArgument_10 : decode b_Mod_giveQuotedArgument 10 = .ok (.aload_n 0, 1) := by decide +kernel
theorem d_Mod_giveQuotedArgument_11 : decode b_Mod_giveQuotedArgument 11 = .ok (.aload_n 0, 1) := by decide +kernel
theorem d_Mod_giveQuotedArgument_12 : decode b_Mod_giveQuotedArgument 12 = .ok (.getfield 37, 3) := by decide +kernel
theorem d_Mod_giveQuotedArgument_15 : decode b_Mod_giveQuotedArgument 15 = .ok (.iload_n 3, 1) := by decide +kernel
theorem d_Mod_giveQuotedArgument_16 : decode b_Mod_giveQuotedArgument 16 = .ok (.iaload, 1) := by decide +kernel
theorem d_Mod_giveQuotedArgument_17 : decode b_Mod_giveQuotedArgument 17 = .ok (.invokevirtual 339, 3) := by decide +kernel
theorem d_Mod_giveQuotedArgument_20 : decode b_Mod_giveQuotedArgument 20 = .ok (.iinc 3 1, 3) := by decide +kernel
theorem d_Mod_giveQuotedArgument_23 : decode b_Mod_giveQuotedArgument 23 = .ok (.goto (-21), 3) := by decide +kernel
theorem d_Mod_giveQuotedArgument_26 : decode b_Mod_giveQuotedArgument 26 = .ok (.aload_n 0, 1) := by decide +kernel
theorem d_Mod_giveQuotedArgument_27 : decode b_Mod_giveQuotedArgument 27 = .ok (.iload_n 1, 1) := by decide +kernel
theorem d_Mod_giveQuotedArgument_28 : decode b_Mod_giveQuotedArgument 28 = .ok (.iload_n 2, 1) := by decide +kernel
theorem d_Mod_giveQuotedArgument_29 : decode b_Mod_giveQuotedArgument 29 = .ok (.invokevirtual 469, 3) := by decide +kernel
theorem d_Mod_giveQuotedArgument_32 : decode b_Mod_giveQuotedArgument 32 = .ok (.iconst 0, 1) := by decide +kernel
theorem d_Mod_giveQuotedArgument_33 : decode b_Mod_giveQuotedArgument 33 = .ok (.istore_n 3, 1) := by decide +kernel
theorem d_Mod_giveQuotedArgument_34 : decode b_Mod_giveQuotedArgument 34 = .ok (.iload_n 3, 1) := by decide +kernel
theorem d_Mod_giveQuotedArgument_35 : decode b_Mod_giveQuotedArgument 35 = .ok (.aload_n 0, 1) := by decide +kernel
theorem d_Mod_giveQuotedArgument_36 : decode b_Mod_giveQuotedArgument 36 = .ok (.getfield 313, 3) := by decide +kernel
theorem d_Mod_giveQuotedArgument_39 : decode b_Mod_giveQuotedArgument 39 = .ok (.if_icmp .ge 19, 3) := by decide +kernel
theorem d_Mod_giveQuotedArgument_42 : decode b_Mod_giveQuotedArgument 42 = .ok (.aload_n 0, 1) := by decide +kernel
theorem d_Mod_giveQuotedArgument_43 : decode b_Mod_giveQuotedArgument 43 = .ok (.aload_n 0, 1) := by decide +kernel
theorem d_Mod_giveQuotedArgument_44 : decode b_Mod_giveQuotedArgument 44 = .ok (.getfield 40, 3) := by decide +kernel
theorem d_Mod_giveQuotedArgument_47 : decode b_Mod_giveQuotedArgument 47 = .ok (.iload_n 3, 1) := by decide +kernel
theorem d_Mod_giveQuotedArgument_48 : decode b_Mod_giveQuotedArgument 48 = .ok (.iaload, 1) := by decide +kernel
theorem d_Mod_giveQuotedArgument_49 : decode b_Mod_giveQuotedArgument 49 = .ok (.invokevirtual 339, 3) := by decide +kernel
theorem d_Mod_giveQuotedArgument_52 : decode b_Mod_giveQuotedArgument 52 = .ok (.iinc 3 1, 3) := by decide +kernel
theorem d_Mod_giveQuotedArgument_55 : decode b_Mod_giveQuotedArgument 55 = .ok (.goto (-21), 3) := by decide +kernel
theorem d_Mod_giveQuotedArgument_58 : decode b_Mod_giveQuotedArgument 58 = .ok (.return_, 1) := by decide +kernel
theorem d_Mod_giveSome_0 : decode b_Mod_giveSome 0 = .ok (.aload_n 0, 1) := by decide +kernel
theorem d_Mod_giveSome_1 : decode b_Mod_giveSome 1 = .ok (.iload_n 1, 1) := by decide +kernel
theorem d_Mod_giveSome_2 : decode b_Mod_giveSome 2 = .ok (.iconst 1, 1) := by decide +kernel
theorem d_Mod_giveSome_3 : decode b_Mod_giveSome 3 = .ok (.invokevirtual 466, 3) := by decide +kernel
theorem d_Mod_giveSome_6 : decode b_Mod_giveSome 6 = .ok (.istore_n 3, 1) := by decide +kernel
theorem d_Mod_giveSome_7 : decode b_Mod_giveSome 7 = .ok (.aload_n 0, 1) := by decide +kernel
theorem d_Mod_giveSome_8 : decode b_Mod_giveSome 8 = .ok (.iload_n 1, 1) := by decide +kernel
theorem d_Mod_giveSome_9 : decode b_Mod_giveSome 9 = .ok (.iconst 2, 1) := by decide +kernel
theorem d_Mod_giveSome_10 : decode b_Mod_giveSome 10 = .ok (.invokevirtual 493, 3) := by decide +kernel
theorem d_Mod_giveSome_13 : decode b_Mod_giveSome 13 = .ok (.istore 4, 2) := by decide +kernel
theorem d_Mod_giveSome_15 : decode b_Mod_giveSome 15 = .ok (.iload_n 2, 1) := by decide +kernel
theorem d_Mod_giveSome_16 : decode b_Mod_giveSome 16 = .ok (.iconst 2, 1) := by decide +kernel
theorem d_Mod_giveSome_17 : decode b_Mod_giveSome 17 = .ok (.if_icmp .le 12, 3) := by decide +kernel
theorem d_Mod_giveSome_20 : decode b_Mod_giveSome 20 = .ok (.aload_n 0, 1) := by decide +kernel
theorem d_Mod_giveSome_21 : decode b_Mod_giveSome 21 = .ok (.iload_n 1, 1) := by decide +kernel
theorem d_Mod_giveSome_22 : decode b_Mod_giveSome 22 = .ok (.iconst 3, 1) := by decide +kernel
theorem d_Mod_giveSome_23 : decode b_Mod_giveSome 23 = .ok (.invokevirtual 493, 3) := by decide +kernel
theorem d_Mod_giveSome_26 : decode b_Mod_giveSome 26 = .ok (.goto 4, 3) := by decide +kernel
theorem d_Mod_giveSome_29 : decode b_Mod_giveSome 29 = .ok (.iload_n 3, 1) := by decide +kernel
theorem d_Mod_giveSome_30 : decode b_Mod_giveSome 30 = .ok (.istore 5, 2) := by decide +kernel
theorem d_Mod_giveSome_32 : decode b_Mod_giveSome 32 = .ok (.iload 4, 2) := by decide +kernel
theorem d_Mod_giveSome_34 : decode b_Mod_giveSome 34 = .ok (.istore 6, 2) := by decide +kernel
theorem d_Mod_giveSome_36 : decode b_Mod_giveSome 36 = .ok (.aload_n 0, 1) := by decide +kernel
theorem d_Mod_giveSome_37 : decode b_Mod_giveSome 37 = .ok (.getfield 262, 3) := by decide +kernel
theorem d_Mod_giveSome_40 : decode b_Mod_giveSome 40 = .ok (.ifCond .ne 48, 3) := by decide +kernel
theorem d_Mod_giveSome_43 : decode b_Mod_giveSome 43 = .ok (.iload 4, 2) := by decide +kernel
theorem d_Mod_giveSome_45 : decode b_Mod_giveSome 45 = .ok (.ifCond .lt 43, 3) := by decide +kernel
theorem d_Mod_giveSome_48 : decode b_Mod_giveSome 48 = .ok (.iload 6, 2) := by decide +kernel
theorem d_Mod_giveSome_50 : decode b_Mod_giveSome 50 = .ok (.iload_n 3, 1) := by decide +kernel
theorem d_Mod_giveSome_51 : decode b_Mod_giveSome 51 = .ok (.if_icmp .ge 37, 3) := by decide +kernel
theorem d_Mod_giveSome_54 : decode b_Mod_giveSome 54 = .ok (.iload 6, 2) := by decide +kernel
theorem d_Mod_giveSome_56 : decode b_Mod_giveSome 56 = .ok (.iload 4, 2) := by decide +kernel
theorem d_Mod_giveSome_58 : decode b_Mod_giveSome 58 = .ok (.isub, 1) := by decide +kernel
theorem d_Mod_giveSome_59 : decode b_Mod_giveSome 59 = .ok (.iload 5, 2) := by decide +kernel
theorem d_Mod_giveSome_61 : decode b_Mod_giveSome 61 = .ok (.if_icmp .ge 27, 3) := by decide +kernel
theorem d_Mod_giveSome_64 : decode b_Mod_giveSome 64 = .ok (.aload_n 0, 1) := by decide +kernel
theorem d_Mod_giveSome_65 : decode b_Mod_giveSome 65 = .ok (.aload_n 0, 1) := by decide +kernel
theorem d_Mod_giveSome_66 : decode b_Mod_giveSome 66 = .ok (.getfield 72, 3) := by decide +kernel
theorem d_Mod_giveSome_69 : decode b_Mod_giveSome 69 = .ok (.aload_n 0, 1) := by decide +kernel
theorem d_Mod_giveSome_70 : decode b_Mod_giveSome 70 = .ok (.iload_n 1, 1) := by decide +kernel
theorem d_Mod_giveSome_71 : decode b_Mod_giveSome 71 = .ok (.iconst 1, 1) := by decide +kernel
theorem d_Mod_giveSome_72 : decode b_Mod_giveSome 72 = .ok (.invokevirtual 462, 3) := by decide +kernel
theorem d_Mod_giveSome_75 : decode b_Mod_giveSome 75 = .ok (.iload 6, 2) := by decide +kernel
theorem d_Mod_giveSome_77 : decode b_Mod_giveSome 77 = .ok (.iadd, 1) := by decide +kernel
theorem d_Mod_giveSome_78 : decode b_Mod_giveSome 78 = .ok (.baload, 1) := by decide +kernel
theorem d_Mod_giveSome_79 : decode b_Mod_giveSome 79 = .ok (.invokevirtual 339, 3) := by decide +kernel
theorem d_Mod_giveSome_82 : decode b_Mod_giveSome 82 = .ok (.iinc 6 1, 3) := by decide +kernel
theorem d_Mod_giveSome_85 : decode b_Mod_giveSome 85 = .ok (.goto (-49), 3) := by decide +kernel
theorem d_Mod_giveSome_88 : decode b_Mod_giveSome 88 = .ok (.return_, 1) := by decide +kernel
theorem d_Mod_giveText_0 : decode b_Mod_giveText 0 = .ok (.aload_n 0, 1) := by decide +kernel
theorem d_Mod_giveText_1 : decode b_Mod_giveText 1 = .ok (.getfield 50, 3) := by decide +kernel
theorem d_Mod_giveText_4 : decode b_Mod_giveText 4 = .ok (.iload_n 1, 1) := by decide +kernel
theorem d_Mod_giveText_5 : decode b_Mod_giveText 5 = .ok (.iaload, 1) := by decide +kernel
theorem d_Mod_giveText_6 : decode b_Mod_giveText 6 = .ok (.aload_n 0, 1) := by decide +kernel
theorem d_Mod_giveText_7 : decode b_Mod_giveText 7 = .ok (.getfield 53, 3) := by decide +kernel
theorem d_Mod_giveText_10 : decode b_Mod_giveText 10 = .ok (.iload_n 1, 1) := by decide +kernel
theorem d_Mod_giveText_11 : decode b_Mod_giveText 11 = .ok (.iaload, 1) := by decide +kernel
theorem d_Mod_giveText_12 : decode b_Mod_giveText 12 = .ok (.iadd, 1) := by decide +kernel
theorem d_Mod_giveText_13 : decode b_Mod_giveText 13 = .ok (.istore 5, 2) := by decide +kernel
theorem d_Mod_giveText_15 : decode b_Mod_giveText 15 = .ok (.aload_n 0, 1) := by decide +kernel
theorem d_Mod_giveText_16 : decode b_Mod_giveText 16 = .ok (.getfield 437, 3) := by decide +kernel
theorem d_Mod_giveText_19 : decode b_Mod_giveText 19 = .ok (.iload 4, 2) := by decide +kernel
theorem d_Mod_giveText_21 : decode b_Mod_giveText 21 = .ok (.isub, 1) := by decide +kernel
theorem d_Mod_giveText_22 : decode b_Mod_giveText 22 = .ok (.istore 6, 2) := by decide +kernel
theorem d_Mod_giveText_24 : decode b_Mod_giveText 24 = .ok (.iconst 0, 1) := by decide +kernel
theorem d_Mod_giveText_25 : decode b_Mod_giveText 25 = .ok (.istore 7, 2) := by decide +kernel
theorem d_Mod_giveText_27 : decode b_Mod_giveText 27 = .ok (.iload 7, 2) := by decide +kernel
theorem d_Mod_giveText_29 : decode b_Mod_giveText 29 = .ok (.aload_n 0, 1) := by decide +kernel
theorem d_Mod_giveText_30 : decode b_Mod_giveText 30 = .ok (.getfield 56, 3) := by decide +kernel
theorem d_Mod_giveText_33 : decode b_Mod_giveText 33 = .ok (.iload_n 1, 1) := by decide +kernel
theorem d_Mod_giveText_34 : decode b_Mod_giveText 34 = .ok (.iaload, 1) := by decide +kernel
theorem d_Mod_giveText_35 : decode b_Mod_giveText 35 = .ok (.if_icmp .ge 268, 3) := by decide +kernel
theorem d_Mod_giveText_38 : decode b_Mod_giveText 38 = .ok (.aload_n 0, 1) := by decide +kernel
theorem d_Mod_giveText_39 : decode b_Mod_giveText 39 = .ok (.getfield 262, 3) := by decide +kernel
theorem d_Mod_giveText_42 : decode b_Mod_giveText 42 = .ok (.ifCond .ne 261, 3) := by decide +kernel
theorem d_Mod_giveText_45 : decode b_Mod_giveText 45 = .ok (.aload_n 0, 1) := by decide +kernel
theorem d_Mod_giveText_46 : decode b_Mod_giveText 46 = .ok (.getfield 62, 3) := by decide +kernel
theorem d_Mod_giveText_49 : decode b_Mod_giveText 49 = .ok (.iload 5, 2) := by decide +kernel
theorem d_Mod_giveText_51 : decode b_Mod_giveText 51 = .ok (.iload 7, 2) := by decide +kernel
theorem d_Mod_giveText_53 : decode b_Mod_giveText 53 = .ok (.iadd, 1) := by decide +kernel
theorem d_Mod_giveText_54 : decode b_Mod_giveText 54 = .ok (.baload, 1) := by decide +kernel
theorem d_Mod_giveText_55 : decode b_Mod_giveText 55 = .ok (.sipush 255, 3) := by decide +kernel
theorem d_Mod_giveText_58 : decode b_Mod_giveText 58 = .ok (.iand, 1) := by decide +kernel
theorem d_Mod_giveText_59 : decode b_Mod_giveText 59 = .ok (.istore 8, 2) := by decide +kernel
theorem d_Mod_giveText_61 : decode b_Mod_giveText 61 = .ok (.iload 8, 2) := by decide +kernel
theorem d_Mod_giveText_63 : decode b_Mod_giveText 63 = .ok (.bipush 36, 2) := by decide +kernel
theorem d_Mod_giveText_65 : decode b_Mod_giveText 65 = .ok (.if_icmp .ne 35, 3) := by decide +kernel
theorem d_Mod_giveText_68 : decode b_Mod_giveText 68 = .ok (.iload 7, 2) := by decide +kernel
theorem d_Mod_giveText_70 : decode b_Mod_giveText 70 = .ok (.iconst 1, 1) := by decide +kernel
theorem d_Mod_giveText_71 : decode b_Mod_giveText 71 = .ok (.iadd, 1) := by decide +kernel
theorem d_Mod_giveText_72 : decode b_Mod_giveText 72 = .ok (.aload_n 0, 1) := by decide +kernel
theorem d_Mod_giveText_73 : decode b_Mod_giveText 73 = .ok (.getfield 56, 3) := by decide +kernel
theorem d_Mod_giveText_76 : decode b_Mod_giveText 76 = .ok (.iload_n 1, 1) := by decide +kernel
theorem d_Mod_giveText_77 : decode b_Mod_giveText 77 = .ok (.iaload, 1) := by decide +kernel
theorem d_Mod_giveText_78 : decode b_Mod_giveText 78 = .ok (.if_icmp .ge 22, 3) := by decide +kernel
theorem d_Mod_giveText_81 : decode b_Mod_giveText 81 = .ok (.aload_n 0, 1) := by decide +kernel
theorem d_Mod_giveText_82 : decode b_Mod_giveText 82 = .ok (.getfield 62, 3) := by decide +kernel
theorem d_Mod_giveText_85 : decode b_Mod_giveText 85 = .ok (.iload 5, 2) := by decide +kernel
theorem d_Mod_giveText_87 : decode b_Mod_giveText 87 = .ok (.iload 7, 2) := by decide +kernel
theorem d_Mod_giveText_89 : decode b_Mod_giveText 89 = .ok (.iadd, 1) := by decide +kernel
theorem d_Mod_giveText_90 : decode b_Mod_giveText 90 = .ok (.iconst 1, 1) := by decide +kernel
theorem d_Mod_giveText_91 : decode b_Mod_giveText 91 = .ok (.iadd, 1) := by decide +kernel
theorem d_Mod_giveText_92 : decode b_Mod_giveText 92 = .ok (.baload, 1) := by decide +kernel
theorem d_Mod_giveText_93 : decode b_Mod_giveText 93 = .ok (.sipush 255, 3) := by decide +kernel
theorem d_Mod_giveText_96 : decode b_Mod_giveText 96 = .ok (.iand, 1) := by decide +kernel
theorem d_Mod_giveText_97 : decode b_Mod_giveText 97 = .ok (.goto 4, 3) := by decide +kernel
theorem d_Mod_giveText_100 : decode b_Mod_giveText 100 = .ok (.iconst (-1), 1) := by decide +kernel
theorem d_Mod_giveText_101 : decode b_Mod_giveText 101 = .ok (.istore 9, 2) := by decide +kernel
theorem d_Mod_giveText_103 : decode b_Mod_giveText 103 = .ok (.iload 9, 2) := by decide +kernel
theorem d_Mod_giveText_105 : decode b_Mod_giveText 105 = .ok (.bipush 48, 2) := by decide +kernel
theorem d_Mod_giveText_107 : decode b_Mod_giveText 107 = .ok (.if_icmp .ne 34, 3) := by decide +kernel
theorem d_Mod_giveText_110 : decode b_Mod_giveText 110 = .ok (.iconst 0, 1) := by decide +kernel
theorem d_Mod_giveText_111 : decode b_Mod_giveText 111 = .ok (.istore 10, 2) := by decide +kernel
theorem d_Mod_giveText_113 : decode b_Mod_giveText 113 = .ok (.iload 10, 2) := by decide +kernel
theorem d_Mod_giveText_115 : decode b_Mod_giveText 115 = .ok (.iload_n 3, 1) := by decide +kernel
theorem d_Mod_giveText_116 : decode b_Mod_giveText 116 = .ok (.if_icmp .ge 22, 3) := by decide +kernel
theorem d_Mod_giveText_119 : decode b_Mod_giveText 119 = .ok (.aload_n 0, 1) := by decide +kernel
theorem d_Mod_giveText_120 : decode b_Mod_giveText 120 = .ok (.aload_n 0, 1) := by decide +kernel
theorem d_Mod_giveText_121 : decode b_Mod_giveText 121 = .ok (.getfield 72, 3) := by decide +kernel
theorem d_Mod_giveText_124 : decode b_Mod_giveText 124 = .ok (.iload_n 2, 1) := by decide +kernel
theorem d_Mod_giveText_125 : decode b_Mod_giveText 125 = .ok (.iload 10, 2) := by decide +kernel
theorem d_Mod_giveText_127 : decode b_Mod_giveText 127 = .ok (.iadd, 1) := by decide +kernel
theorem d_Mod_giveText_128 : decode b_Mod_giveText 128 = .ok (.baload, 1) := by decide +kernel
theorem d_Mod_giveText_129 : decode b_Mod_giveText 129 = .ok (.invokevirtual 339, 3) := by decide +kernel
theorem d_Mod_giveText_132 : decode b_Mod_giveText 132 = .ok (.iinc 10 1, 3) := by decide +kernel
theorem d_Mod_giveText_135 : decode b_Mod_giveText 135 = .ok (.goto (-22), 3) := by decide +kernel
theorem d_Mod_giveText_138 : decode b_Mod_giveText 138 = .ok (.goto 119, 3) := by decide +kernel
theorem d_Mod_giveText_141 : decode b_Mod_giveText 141 = .ok (.iload 9, 2) := by decide +kernel
theorem d_Mod_giveText_143 : decode b_Mod_giveText 143 = .ok (.invokestatic 330, 3) := by decide +kernel
theorem d_Mod_giveText_146 : decode b_Mod_giveText 146 = .ok (.ifCond .eq 17, 3) := by decide +kernel
theorem d_Mod_giveText_149 : decode b_Mod_giveText 149 = .ok (.aload_n 0, 1) := by decide +kernel
theorem d_Mod_giveText_150 : decode b_Mod_giveText 150 = .ok (.iload 4, 2) := by decide +kernel
theorem d_Mod_giveText_152 : decode b_Mod_giveText 152 = .ok (.iload 9, 2) := by decide +kernel
theorem d_Mod_giveText_154 : decode b_Mod_giveText 154 = .ok (.bipush 48, 2) := by decide +kernel
theorem d_Mod_giveText_156 : decode b_Mod_giveText 156 = .ok (.isub, 1) := by decide +kernel
theorem d_Mod_giveText_157 : decode b_Mod_giveText 157 = .ok (.invokevirtual 469, 3) := by decide +kernel
theorem d_Mod_giveText_160 : decode b_Mod_giveText 160 = .ok (.goto 97, 3) := by decide +kernel
theorem d_Mod_giveText_163 : decode b_Mod_giveText 163 = .ok (.iload 9, 2) := by decide +kernel
theorem d_Mod_giveText_165 : decode b_Mod_giveText 165 = .ok (.bipush 35, 2) := by decide +kernel
theorem d_Mod_giveText_167 : decode b_Mod_giveText 167 = .ok (.if_icmp .ne 13, 3) := by decide +kernel
theorem d_Mod_giveText_170 : decode b_Mod_giveText 170 = .ok (.aload_n 0, 1) := by decide +kernel
theorem d_Mod_giveText_171 : decode b_Mod_giveText 171 = .ok (.iload 6, 2) := by decide +kernel
theorem d_Mod_giveText_173 : decode b_Mod_giveText 173 = .ok (.i2l, 1) := by decide +kernel
theorem d_Mod_giveText_174 : decode b_Mod_giveText 174 = .ok (.invokevirtual 472, 3) := by decide +kernel
theorem d_Mod_giveText_177 : decode b_Mod_giveText 177 = .ok (.goto 80, 3) := by decide +kernel
theorem d_Mod_giveText_180 : decode b_Mod_giveText 180 = .ok (.iload 9, 2) := by decide +kernel
theorem d_Mod_giveText_182 : decode b_Mod_giveText 182 = .ok (.bipush 42, 2) := by decide +kernel
theorem d_Mod_giveText_184 : decode b_Mod_giveText 184 = .ok (.if_icmp .eq 10, 3) := by decide +kernel
theorem d_Mod_giveText_187 : decode b_Mod_giveText 187 = .ok (.iload 9, 2) := by decide +kernel
theorem d_Mod_giveText_189 : decode b_Mod_giveText 189 = .ok (.bipush 64, 2) := by decide +kernel
theorem d_Mod_giveText_191 : decode b_Mod_giveText 191 = .ok (.if_icmp .ne 60, 3) := by decide +kernel
theorem d_Mod_giveText_194 : decode b_Mod_giveText 194 = .ok (.iconst 1, 1) := by decide +kernel
theorem d_Mod_giveText_195 : decode b_Mod_giveText 195 = .ok (.istore 10, 2) := by decide +kernel
theorem d_Mod_giveText_197 : decode b_Mod_giveText 197 = .ok (.iload 10, 2) := by decide +kernel
theorem d_Mod_giveText_199 : decode b_Mod_giveText 199 = .ok (.iload 6, 2) := by decide +kernel
theorem d_Mod_giveText_201 : decode b_Mod_giveText 201 = .ok (.if_icmp .gt 47, 3) := by decide +kernel
theorem d_Mod_giveText_204 : decode b_Mod_giveText 204 = .ok (.iload 10, 2) := by decide +kernel
theorem d_Mod_giveText_206 : decode b_Mod_giveText 206 = .ok (.iconst 1, 1) := by decide +kernel
theorem d_Mod_giveText_207 : decode b_Mod_giveText 207 = .ok (.if_icmp .le 9, 3) := by decide +kernel
theorem d_Mod_giveText_210 : decode b_Mod_giveText 210 = .ok (.aload_n 0, 1) := by decide +kernel
theorem d_Mod_giveText_211 : decode b_Mod_giveText 211 = .ok (.bipush 44, 2) := by decide +kernel
theorem d_Mod_giveText_213 : decode b_Mod_giveText 213 = .ok (.invokevirtual 339, 3) := by decide +kernel
theorem d_Mod_giveText_216 : decode b_Mod_giveText 216 = .ok (.iload 9, 2) := by decide +kernel
theorem d_Mod_giveText_218 : decode b_Mod_giveText 218 = .ok (.bipush 42, 2) := by decide +kernel
theorem d_Mod_giveText_220 : decode b_Mod_giveText 220 = .ok (.if_icmp .ne 14, 3) := by decide +kernel
theorem d_Mod_giveText_223 : decode b_Mod_giveText 223 = .ok (.aload_n 0, 1) := by decide +kernel
theorem d_Mod_giveText_224 : decode b_Mod_giveText 224 = .ok (.iload 4, 2) := by decide +kernel
theorem d_Mod_giveText_226 : decode b_Mod_giveText 226 = .ok (.iload 10, 2) := by decide +kernel
theorem d_Mod_giveText_228 : decode b_Mod_giveText 228 = .ok (.invokevirtual 469, 3) := by decide +kernel
theorem d_Mod_giveText_231 : decode b_Mod_giveText 231 = .ok (.goto 11, 3) := by decide +kernel
theorem d_Mod_giveText_234 : decode b_Mod_giveText 234 = .ok (.aload_n 0, 1) := by decide +kernel
theorem d_Mod_giveText_235 : decode b_Mod_giveText 235 = .ok (.iload 4, 2) := by decide +kernel
theorem d_Mod_giveText_237 : decode b_Mod_giveText 237 = .ok (.iload 10, 2) := by decide +kernel
theorem d_Mod_giveText_239 : decode b_Mod_giveText 239 = .ok (.invokevirtual 476, 3) := by decide +kernel
theorem d_Mod_giveText_242 : decode b_Mod_giveText 242 = .ok (.iinc 10 1, 3) := by decide +kernel
theorem d_Mod_giveText_245 : decode b_Mod_giveText 245 = .ok (.goto (-48), 3) := by decide +kernel
theorem d_Mod_giveText_248 : decode b_Mod_giveText 248 = .ok (.goto 9, 3) := by decide +kernel
theorem d_Mod_giveText_251 : decode b_Mod_giveText 251 = .ok (.aload_n 0, 1) := by decide +kernel
theorem d_Mod_giveText_252 : decode b_Mod_giveText 252 = .ok (.iload 8, 2) := by decide +kernel
theorem d_Mod_giveText_254 : decode b_Mod_giveText 254 = .ok (.invokevirtual 339, 3) := by decide +kernel
theorem d_Mod_giveText_257 : decode b_Mod_giveText 257 = .ok (.iload 9, 2) := by decide +kernel
theorem d_Mod_giveText_259 : decode b_Mod_giveText 259 = .ok (.invokestatic 330, 3) := by decide +kernel
theorem d_Mod_giveText_262 : decode b_Mod_giveText 262 = .ok (.ifCond .ne 24, 3) := by decide +kernel
theorem d_Mod_giveText_265 : decode b_Mod_giveText 265 = .ok (.iload 9, 2) := by decide +kernel
theorem d_Mod_giveText_267 : decode b_Mod_giveText 267 = .ok (.bipush 35, 2) := by decide +kernel
theorem d_Mod_giveText_269 : decode b_Mod_giveText 269 = .ok (.if_icmp .eq 17, 3) := by decide +kernel
theorem d_Mod_giveText_272 : decode b_Mod_giveText 272 = .ok (.iload 9, 2) := by decide +kernel
theorem d_Mod_giveText_274 : decode b_Mod_giveText 274 = .ok (.bipush 42, 2) := by decide +kernel
theorem d_Mod_giveText_276 : decode b_Mod_giveText 276 = .ok (.if_icmp .eq 10, 3) := by decide +kernel
theorem d_Mod_giveText_279 : decode b_Mod_giveText 279 = .ok (.iload 9, 2) := by decide +kernel
theorem d_Mod_giveText_281 : decode b_Mod_giveText 281 = .ok (.bipush 64, 2) := by decide +kernel
theorem d_Mod_giveText_283 : decode b_Mod_giveText 283 = .ok (.if_icmp .ne 10, 3) := by decide +kernel
theorem d_Mod_giveText_286 : decode b_Mod_giveText 286 = .ok (.iload 7, 2) := by decide +kernel
theorem d_Mod_giveText_288 : decode b_Mod_giveText 288 = .ok (.iconst 1, 1) := by decide +kernel
theorem d_Mod_giveText_289 : decode b_Mod_giveText 289 = .ok (.iadd, 1) := by decide +kernel
theorem d_Mod_giveText_290 : decode b_Mod_giveText 290 = .ok (.goto 5, 3) := by decide +kernel
theorem d_Mod_giveText_293 : decode b_Mod_giveText 293 = .ok (.iload 7, 2) := by decide +kernel
theorem d_Mod_giveText_295 : decode b_Mod_giveText 295 = .ok (.istore 7, 2) := by decide +kernel
theorem d_Mod_giveText_297 : decode b_Mod_giveText 297 = .ok (.iinc 7 1, 3) := by decide +kernel
theorem d_Mod_giveText_300 : decode b_Mod_giveText 300 = .ok (.goto (-273), 3) := by decide +kernel
theorem d_Mod_giveText_303 : decode b_Mod_giveText 303 = .ok (.return_, 1) := by decide +kernel
theorem d_Mod_goOn_0 : decode b_Mod_goOn 0 = .ok (.aload_n 0, 1) := by decide +kernel
theorem d_Mod_goOn_1 : decode b_Mod_goOn 1 = .ok (.aload_n 0, 1) := by decide +kernel
theorem d_Mod_goOn_2 : decode b_Mod_goOn 2 = .ok (.getfield 945, 3) := by decide +kernel
theorem d_Mod_goOn_5 : decode b_Mod_goOn 5 = .ok (.ifCond .lt 15, 3) := by decide +kernel
theorem d_Mod_goOn_8 : decode b_Mod_goOn 8 = .ok (.aload_n 0, 1) := by decide +kernel
theorem d_Mod_goOn_9 : decode b_Mod_goOn 9 = .ok (.getfield 111, 3) := by decide +kernel
theorem d_Mod_goOn_12 : decode b_Mod_goOn 12 = .ok (.aload_n 0, 1) := by decide +kernel
theorem d_Mod_goOn_13 : decode b_Mod_goOn 13 = .ok (.getfield 945, 3) := by decide +kernel
theorem d_Mod_goOn_16 : decode b_Mod_goOn 16 = .ok (.iaload, 1) := by decide +kernel
theorem d_Mod_goOn_17 : decode b_Mod_goOn 17 = .ok (.goto 4, 3) := by decide +kernel
theorem d_Mod_goOn_20 : decode b_Mod_goOn 20 = .ok (.iconst (-1), 1) := by decide +kernel
theorem d_Mod_goOn_21 : decode b_Mod_goOn 21 = .ok (.putfield 945, 3) := by decide +kernel
theorem d_Mod_goOn_24 : decode b_Mod_goOn 24 = .ok (.return_, 1) := by decide +kernel
theorem d_Mod_hides_0 : decode b_Mod_hides 0 = .ok (.aload_n 0, 1) := by decide +kernel
theorem d_Mod_hides_1 : decode b_Mod_hides 1 = .ok (.getfield 157, 3) := by decide +kernel
theorem d_Mod_hides_4 : decode b_Mod_hides 4 = .ok (.bipush 7, 2) := by decide +kernel
theorem d_Mod_hides_6 : decode b_Mod_hides 6 = .ok (.iload_n 1, 1) := by decide +kernel
theorem d_Mod_hides_7 : decode b_Mod_hides 7 = .ok (.imul, 1) := by decide +kernel
theorem d_Mod_hides_8 : decode b_Mod_hides 8 = .ok (.iload_n 2, 1) := by decide +kernel
theorem d_Mod_hides_9 : decode b_Mod_hides 9 = .ok (.bipush 64, 2) := by decide +kernel
theorem d_Mod_hides_11 : decode b_Mod_hides 11 = .ok (.idiv, 1) := by decide +kernel
theorem d_Mod_hides_12 : decode b_Mod_hides 12 = .ok (.iadd, 1) := by decide +kernel
theorem d_Mod_hides_13 : decode b_Mod_hides 13 = .ok (.laload, 1) := by decide +kernel
theorem d_Mod_hides_14 : decode b_Mod_hides 14 = .ok (.iload_n 2, 1) := by decide +kernel
theorem d_Mod_hides_15 : decode b_Mod_hides 15 = .ok (.bipush 64, 2) := by decide +kernel
theorem d_Mod_hides_17 : decode b_Mod_hides 17 = .ok (.irem, 1) := by decide +kernel
theorem d_Mod_hides_18 : decode b_Mod_hides 18 = .ok (.lshr, 1) := by decide +kernel
theorem d_Mod_hides_19 : decode b_Mod_hides 19 = .ok (.lconst 1, 1) := by decide +kernel
theorem d_Mod_hides_20 : decode b_Mod_hides 20 = .ok (.land, 1) := by decide +kernel
theorem d_Mod_hides_21 : decode b_Mod_hides 21 = .ok (.lconst 1, 1) := by decide +kernel
theorem d_Mod_hides_22 : decode b_Mod_hides 22 = .ok (.lcmp, 1) := by decide +kernel
theorem d_Mod_hides_23 : decode b_Mod_hides 23 = .ok (.ifCond .ne 7, 3) := by decide +kernel
theorem d_Mod_hides_26 : decode b_Mod_hides 26 = .ok (.iconst 1, 1) := by decide +kernel
theorem d_Mod_hides_27 : decode b_Mod_hides 27 = .ok (.goto 4, 3) := by decide +kernel
theorem d_Mod_hides_30 : decode b_Mod_hides 30 = .ok (.iconst 0, 1) := by decide +kernel
theorem d_Mod_hides_31 : decode b_Mod_hides 31 = .ok (.ireturn, 1) := by decide +kernel
theorem d_Mod_inputLeft_0 : decode b_Mod_inputLeft 0 = .ok (.ldc 20, 2) := by decide +kernel
theorem d_Mod_inputLeft_2 : decode b_Mod_inputLeft 2 = .ok (.aload_n 0, 1) := by decide +kernel
theorem d_Mod_inputLeft_3 : decode b_Mod_inputLeft 3 = .ok (.getfield 271, 3) := by decide +kernel
theorem d_Mod_inputLeft_6 : decode b_Mod_inputLeft 6 = .ok (.isub, 1) := by decide +kernel
theorem d_Mod_inputLeft_7 : decode b_Mod_inputLeft 7 = .ok (.ireturn, 1) := by decide +kernel
theorem d_Mod_isAgain_0 : decode b_Mod_isAgain 0 = .ok (.aload_n 0, 1) := by decide +kernel
theorem d_Mod_isAgain_1 : decode b_Mod_isAgain 1 = .ok (.getfield 130, 3) := by decide +kernel
theorem d_Mod_isAgain_4 : decode b_Mod_isAgain 4 = .ok (.iload_n 1, 1) := by decide +kernel
theorem d_Mod_isAgain_5 : decode b_Mod_isAgain 5 = .ok (.iaload, 1) := by decide +kernel
theorem d_Mod_isAgain_6 : decode b_Mod_isAgain 6 = .ok (.iload_n 2, 1) := by decide +kernel
theorem d_Mod_isAgain_7 : decode b_Mod_isAgain 7 = .ok (.ifCond .eq 10, 3) := by decide +kernel
theorem d_Mod_isAgain_10 : decode b_Mod_isAgain 10 = .ok (.aload_n 0, 1) := by decide +kernel
theorem d_Mod_isAgain_11 : decode b_Mod_isAgain 11 = .ok (.getfield 861, 3) := by decide +kernel
theorem d_Mod_isAgain_14 : decode b_Mod_isAgain 14 = .ok (.goto 4, 3) := by decide +kernel
theorem d_Mod_isAgain_17 : decode b_Mod_isAgain 17 = .ok (.iconst (-1), 1) := by decide +kernel
theorem d_Mod_isAgain_18 : decode b_Mod_isAgain 18 = .ok (.if_icmp .ne 30, 3) := by decide +kernel
theorem d_Mod_isAgain_21 : decode b_Mod_isAgain 21 = .ok (.aload_n 0, 1) := by decide +kernel
theorem d_Mod_isAgain_22 : decode b_Mod_isAgain 22 = .ok (.getfield 133, 3) := by decide +kernel
theorem d_Mod_isAgain_25 : decode b_Mod_isAgain 25 = .ok (.iload_n 1, 1) := by decide +kernel
theorem d_Mod_isAgain_26 : decode b_Mod_isAgain 26 = .ok (.baload, 1) := by decide +kernel
theorem d_Mod_isAgain_27 : decode b_Mod_isAgain 27 = .ok (.aload_n 0, 1) := by decide +kernel
theorem d_Mod_isAgain_28 : decode b_Mod_isAgain 28 = .ok (.getfield 864, 3) := by decide +kernel
theorem d_Mod_isAgain_31 : decode b_Mod_isAgain 31 = .ok (.if_icmp .ne 17, 3) := by decide +kernel
theorem d_Mod_isAgain_34 : decode b_Mod_isAgain 34 = .ok (.aload_n 0, 1) := by decide +kernel
theorem d_Mod_isAgain_35 : decode b_Mod_isAgain 35 = .ok (.getfield 154, 3) := by decide +kernel
theorem d_Mod_isAgain_38 : decode b_Mod_isAgain 38 = .ok (.iload_n 1, 1) := by decide +kernel
theorem d_Mod_isAgain_39 : decode b_Mod_isAgain 39 = .ok (.iaload, 1) := by decide +kernel
theorem d_Mod_isAgain_40 : decode b_Mod_isAgain 40 = .ok (.iload_n 3, 1) := by decide +kernel
theorem d_Mod_isAgain_41 : decode b_Mod_isAgain 41 = .ok (.if_icmp .ne 7, 3) := by decide +kernel
theorem d_Mod_isAgain_44 : decode b_Mod_isAgain 44 = .ok (.iconst 1, 1) := by decide +kernel
theorem d_Mod_isAgain_45 : decode b_Mod_isAgain 45 = .ok (.goto 4, 3) := by decide +kernel
theorem d_Mod_isAgain_48 : decode b_Mod_isAgain 48 = .ok (.iconst 0, 1) := by decide +kernel
theorem d_Mod_isAgain_49 : decode b_Mod_isAgain 49 = .ok (.istore 4, 2) := by decide +kernel
theorem d_Mod_isAgain_51 : decode b_Mod_isAgain 51 = .ok (.iconst 0, 1) := by decide +kernel
theorem d_Mod_isAgain_52 : decode b_Mod_isAgain 52 = .ok (.istore 5, 2) := by decide +kernel
theorem d_Mod_isAgain_54 : decode b_Mod_isAgain 54 = .ok (.iload 5, 2) := by decide +kernel
theorem d_Mod_isAgain_56 : decode b_Mod_isAgain 56 = .ok (.aload_n 0, 1) := by decide +kernel
theorem d_Mod_isAgain_57 : decode b_Mod_isAgain 57 = .ok (.getfield 861, 3) := by decide +kernel
theorem d_Mod_isAgain_60 : decode b_Mod_isAgain 60 = .ok (.if_icmp .ge 148, 3) := by decide +kernel
theorem d_Mod_isAgain_63 : decode b_Mod_isAgain 63 = .ok (.iload 4, 2) := by decide +kernel
theorem d_Mod_isAgain_65 : decode b_Mod_isAgain 65 = .ok (.ifCond .eq 143, 3) := by decide +kernel
theorem d_Mod_isAgain_68 : decode b_Mod_isAgain 68 = .ok (.aload_n 0, 1) := by decide +kernel
theorem d_Mod_isAgain_69 : decode b_Mod_isAgain 69 = .ok (.getfield 864, 3) := by decide +kernel
theorem d_Mod_isAgain_72 : decode b_Mod_isAgain 72 = .ok (.ifCond .eq 18, 3) := by decide +kernel
theorem d_Mod_isAgain_75 : decode b_Mod_isAgain 75 = .ok (.iload 5, 2) := by decide +kernel
theorem d_Mod_isAgain_77 : decode b_Mod_isAgain 77 = .ok (.aload_n 0, 1) := by decide +kernel
theorem d_Mod_isAgain_78 : decode b_Mod_isAgain 78 = .ok (.getfield 861, 3) := by decide +kernel
theorem d_Mod_isAgain_81 : decode b_Mod_isAgain 81 = .ok (.iconst 1, 1) := by decide +kernel
theorem d_Mod_isAgain_82 : decode b_Mod_isAgain 82 = .ok (.isub, 1) := by decide +kernel
theorem d_Mod_isAgain_83 : decode b_Mod_isAgain 83 = .ok (.if_icmp .ne 7, 3) := by decide +kernel
theorem d_Mod_isAgain_86 : decode b_Mod_isAgain 86 = .ok (.iconst 1, 1) := by decide +kernel
theorem d_Mod_isAgain_87 : decode b_Mod_isAgain 87 = .ok (.goto 4, 3) := by decide +kernel
theorem d_Mod_isAgain_90 : decode b_Mod_isAgain 90 = .ok (.iconst 0, 1) := by decide +kernel
theorem d_Mod_isAgain_91 : decode b_Mod_isAgain 91 = .ok (.istore 6, 2) := by decide +kernel
theorem d_Mod_isAgain_93 : decode b_Mod_isAgain 93 = .ok (.bipush 31, 2) := by decide +kernel
theorem d_Mod_isAgain_95 : decode b_Mod_isAgain 95 = .ok (.iload_n 1, 1) := by decide +kernel
theorem d_Mod_isAgain_96 : decode b_Mod_isAgain 96 = .ok (.imul, 1) := by decide +kernel
theorem d_Mod_isAgain_97 : decode b_Mod_isAgain 97 = .ok (.iload 5, 2) := by decide +kernel
theorem d_Mod_isAgain_99 : decode b_Mod_isAgain 99 = .ok (.iadd, 1) := by decide +kernel
theorem d_Mod_isAgain_100 : decode b_Mod_isAgain 100 = .ok (.istore 7, 2) := by decide +kernel
theorem d_Mod_isAgain_102 : decode b_Mod_isAgain 102 = .ok (.iload 6, 2) := by decide +kernel
theorem d_Mod_isAgain_104 : decode b_Mod_isAgain 104 = .ok (.ifCond .ne 20, 3) := by decide +kernel
theorem d_Mod_isAgain_107 : decode b_Mod_isAgain 107 = .ok (.aload_n 0, 1) := by decide +kernel
theorem d_Mod_isAgain_108 : decode b_Mod_isAgain 108 = .ok (.getfield 139, 3) := by decide +kernel
theorem d_Mod_isAgain_111 : decode b_Mod_isAgain 111 = .ok (.iload 7, 2) := by decide +kernel
theorem d_Mod_isAgain_113 : decode b_Mod_isAgain 113 = .ok (.iaload, 1) := by decide +kernel
theorem d_Mod_isAgain_114 : decode b_Mod_isAgain 114 = .ok (.aload_n 0, 1) := by decide +kernel
theorem d_Mod_isAgain_115 : decode b_Mod_isAgain 115 = .ok (.getfield 218, 3) := by decide +kernel
theorem d_Mod_isAgain_118 : decode b_Mod_isAgain 118 = .ok (.iload 5, 2) := by decide +kernel
theorem d_Mod_isAgain_120 : decode b_Mod_isAgain 120 = .ok (.iaload, 1) := by decide +kernel
theorem d_Mod_isAgain_121 : decode b_Mod_isAgain 121 = .ok (.if_icmp .ne 7, 3) := by decide +kernel
theorem d_Mod_isAgain_124 : decode b_Mod_isAgain 124 = .ok (.iconst 1, 1) := by decide +kernel
theorem d_Mod_isAgain_125 : decode b_Mod_isAgain 125 = .ok (.goto 4, 3) := by decide +kernel
theorem d_Mod_isAgain_128 : decode b_Mod_isAgain 128 = .ok (.iconst 0, 1) := by decide +kernel
theorem d_Mod_isAgain_129 : decode b_Mod_isAgain 129 = .ok (.istore 4, 2) := by decide +kernel
theorem d_Mod_isAgain_131 : decode b_Mod_isAgain 131 = .ok (.iconst 0, 1) := by decide +kernel
theorem d_Mod_isAgain_132 : decode b_Mod_isAgain 132 = .ok (.istore 8, 2) := by decide +kernel
theorem d_Mod_isAgain_134 : decode b_Mod_isAgain 134 = .ok (.iload 8, 2) := by decide +kernel
theorem d_Mod_isAgain_136 : decode b_Mod_isAgain 136 = .ok (.aload_n 0, 1) := by decide +kernel
theorem d_Mod_isAgain_137 : decode b_Mod_isAgain 137 = .ok (.getfield 218, 3) := by decide +kernel
theorem d_Mod_isAgain_140 : decode b_Mod_isAgain 140 = .ok (.iload 5, 2) := by decide +kernel
theorem d_Mod_isAgain_142 : decode b_Mod_isAgain 142 = .ok (.iaload, 1) := by decide +kernel
theorem d_Mod_isAgain_143 : decode b_Mod_isAgain 143 = .ok (.if_icmp .ge 59, 3) := by decide +kernel
theorem d_Mod_isAgain_146 : decode b_Mod_isAgain 146 = .ok (.iload 4, 2) := by decide +kernel
theorem d_Mod_isAgain_148 : decode b_Mod_isAgain 148 = .ok (.ifCond .eq 54, 3) := by decide +kernel
theorem d_Mod_isAgain_151 : decode b_Mod_isAgain 151 = .ok (.iload 6, 2) := by decide +kernel
theorem d_Mod_isAgain_153 : decode b_Mod_isAgain 153 = .ok (.ifCond .ne 49, 3) := by decide +kernel
theorem d_Mod_isAgain_156 : decode b_Mod_isAgain 156 = .ok (.aload_n 0, 1) := by decide +kernel
theorem d_Mod_isAgain_157 : decode b_Mod_isAgain 157 = .ok (.getfield 85, 3) := by decide +kernel
theorem d_Mod_isAgain_160 : decode b_Mod_isAgain 160 = .ok (.aload_n 0, 1) := by decide +kernel
theorem d_Mod_isAgain_161 : decode b_Mod_isAgain 161 = .ok (.getfield 136, 3) := by decide +kernel
theorem d_Mod_isAgain_164 : decode b_Mod_isAgain 164 = .ok (.iload 7, 2) := by decide +kernel
theorem d_Mod_isAgain_166 : decode b_Mod_isAgain 166 = .ok (.iaload, 1) := by decide +kernel
theorem d_Mod_isAgain_167 : decode b_Mod_isAgain 167 = .ok (.iload 8, 2) := by decide +kernel
theorem d_Mod_isAgain_169 : decode b_Mod_isAgain 169 = .ok (.iadd, 1) := by decide +kernel
theorem d_Mod_isAgain_170 : decode b_Mod_isAgain 170 = .ok (.baload, 1) := by decide +kernel
theorem d_Mod_isAgain_171 : decode b_Mod_isAgain 171 = .ok (.aload_n 0, 1) := by decide +kernel
theorem d_Mod_isAgain_172 : decode b_Mod_isAgain 172 = .ok (.getfield 85, 3) := by decide +kernel
theorem d_Mod_isAgain_175 : decode b_Mod_isAgain 175 = .ok (.aload_n 0, 1) := by decide +kernel
theorem d_Mod_isAgain_176 : decode b_Mod_isAgain 176 = .ok (.getfield 215, 3) := by decide +kernel
theorem d_Mod_isAgain_179 : decode b_Mod_isAgain 179 = .ok (.iload 5, 2) := by decide +kernel
theorem d_Mod_isAgain_181 : decode b_Mod_isAgain 181 = .ok (.iaload, 1) := by decide +kernel
theorem d_Mod_isAgain_182 : decode b_Mod_isAgain 182 = .ok (.iload 8, 2) := by decide +kernel
theorem d_Mod_isAgain_184 : decode b_Mod_isAgain 184 = .ok (.iadd, 1) := by decide +kernel
theorem d_Mod_isAgain_185 : decode b_Mod_isAgain 185 = .ok (.baload, 1) := by decide +kernel
theorem d_Mod_isAgain_186 : decode b_Mod_isAgain 186 = .ok (.if_icmp .ne 7, 3) := by decide +kernel
theorem d_Mod_isAgain_189 : decode b_Mod_isAgain 189 = .ok (.iconst 1, 1) := by decide +kernel
theorem d_Mod_isAgain_190 : decode b_Mod_isAgain 190 = .ok (.goto 4, 3) := by decide +kernel
theorem d_Mod_isAgain_193 : decode b_Mod_isAgain 193 = .ok (.iconst 0, 1) := by decide +kernel
theorem d_Mod_isAgain_194 : decode b_Mod_isAgain 194 = .ok (.istore 4, 2) := by decide +kernel
theorem d_Mod_isAgain_196 : decode b_Mod_isAgain 196 = .ok (.iinc 8 1, 3) := by decide +kernel
theorem d_Mod_isAgain_199 : decode b_Mod_isAgain 199 = .ok (.goto (-65), 3) := by decide +kernel
theorem d_Mod_isAgain_202 : decode b_Mod_isAgain 202 = .ok (.iinc 5 1, 3) := by decide +kernel
theorem d_Mod_isAgain_205 : decode b_Mod_isAgain 205 = .ok (.goto (-151), 3) := by decide +kernel
theorem d_Mod_isAgain_208 : decode b_Mod_isAgain 208 = .ok (.aload_n 0, 1) := by decide +kernel
theorem d_Mod_isAgain_209 : decode b_Mod_isAgain 209 = .ok (.getfield 151, 3) := by decide +kernel
theorem d_Mod_isAgain_212 : decode b_Mod_isAgain 212 = .ok (.iload_n 1, 1) := by decide +kernel
theorem d_Mod_isAgain_213 : decode b_Mod_isAgain 213 = .ok (.iaload, 1) := by decide +kernel
theorem d_Mod_isAgain_214 : decode b_Mod_isAgain 214 = .ok (.istore 5, 2) := by decide +kernel
theorem d_Mod_isAgain_216 : decode b_Mod_isAgain 216 = .ok (.iload 4, 2) := by decide +kernel
theorem d_Mod_isAgain_218 : decode b_Mod_isAgain 218 = .ok (.ifCond .eq 10, 3) := by decide +kernel
theorem d_Mod_isAgain_221 : decode b_Mod_isAgain 221 = .ok (.aload_n 0, 1) := by decide +kernel
theorem d_Mod_isAgain_222 : decode b_Mod_isAgain 222 = .ok (.getfield 867, 3) := by decide +kernel
theorem d_Mod_isAgain_225 : decode b_Mod_isAgain 225 = .ok (.goto 4, 3) := by decide +kernel
theorem d_Mod_isAgain_228 : decode b_Mod_isAgain 228 = .ok (.iconst (-1), 1) := by decide +kernel
theorem d_Mod_isAgain_229 : decode b_Mod_isAgain 229 = .ok (.istore 6, 2) := by decide +kernel
theorem d_Mod_isAgain_231 : decode b_Mod_isAgain 231 = .ok (.iload 6, 2) := by decide +kernel
theorem d_Mod_isAgain_233 : decode b_Mod_isAgain 233 = .ok (.ifCond .lt 79, 3) := by decide +kernel
theorem d_Mod_isAgain_236 : decode b_Mod_isAgain 236 = .ok (.iload 4, 2) := by decide +kernel
theorem d_Mod_isAgain_238 : decode b_Mod_isAgain 238 = .ok (.ifCond .eq 74, 3) := by decide +kernel
theorem d_Mod_isAgain_241 : decode b_Mod_isAgain 241 = .ok (.aload_n 0, 1) := by decide +kernel
theorem d_Mod_isAgain_242 : decode b_Mod_isAgain 242 = .ok (.iload 6, 2) := by decide +kernel
theorem d_Mod_isAgain_244 : decode b_Mod_isAgain 244 = .ok (.aload_n 0, 1) := by decide +kernel
theorem d_Mod_isAgain_245 : decode b_Mod_isAgain 245 = .ok (.getfield 142, 3) := by decide +kernel
theorem d_Mod_isAgain_248 : decode b_Mod_isAgain 248 = .ok (.iload 5, 2) := by decide +kernel
theorem d_Mod_isAgain_250 : decode b_Mod_isAgain 250 = .ok (.iaload, 1) := by decide +kernel
theorem d_Mod_isAgain_251 : decode b_Mod_isAgain 251 = .ok (.aload_n 0, 1) := by decide +kernel
theorem d_Mod_isAgain_252 : decode b_Mod_isAgain 252 = .ok (.getfield 145, 3) := by decide +kernel
theorem d_Mod_isAgain_255 : decode b_Mod_isAgain 255 = .ok (.iload 5, 2) := by decide +kernel
theorem d_Mod_isAgain_257 : decode b_Mod_isAgain 257 = .ok (.iaload, 1) := by decide +kernel
theorem d_Mod_isAgain_258 : decode b_Mod_isAgain 258 = .ok (.invokevirtual 616, 3) := by decide +kernel
theorem d_Mod_isAgain_261 : decode b_Mod_isAgain 261 = .ok (.ifCond .eq 33, 3) := by decide +kernel
theorem d_Mod_isAgain_264 : decode b_Mod_isAgain 264 = .ok (.iload 6, 2) := by decide +kernel
theorem d_Mod_isAgain_266 : decode b_Mod_isAgain 266 = .ok (.aload_n 0, 1) := by decide +kernel
theorem d_Mod_isAgain_267 : decode b_Mod_isAgain 267 = .ok (.getfield 867, 3) := by decide +kernel
theorem d_Mod_isAgain_270 : decode b_Mod_isAgain 270 = .ok (.if_icmp .eq 20, 3) := by decide +kernel
theorem d_Mod_isAgain_273 : decode b_Mod_isAgain 273 = .ok (.aload_n 0, 1) := by decide +kernel
theorem d_Mod_isAgain_274 : decode b_Mod_isAgain 274 = .ok (.getfield 148, 3) := by decide +kernel
theorem d_Mod_isAgain_277 : decode b_Mod_isAgain 277 = .ok (.iload 5, 2) := by decide +kernel
theorem d_Mod_isAgain_279 : decode b_Mod_isAgain 279 = .ok (.baload, 1) := by decide +kernel
theorem d_Mod_isAgain_280 : decode b_Mod_isAgain 280 = .ok (.aload_n 0, 1) := by decide +kernel
theorem d_Mod_isAgain_281 : decode b_Mod_isAgain 281 = .ok (.getfield 114, 3) := by decide +kernel
theorem d_Mod_isAgain_284 : decode b_Mod_isAgain 284 = .ok (.iload 6, 2) := by decide +kernel
theorem d_Mod_isAgain_286 : decode b_Mod_isAgain 286 = .ok (.baload, 1) := by decide +kernel
theorem d_Mod_isAgain_287 : decode b_Mod_isAgain 287 = .ok (.if_icmp .ne 7, 3) := by decide +kernel
theorem d_Mod_isAgain_290 : decode b_Mod_isAgain 290 = .ok (.iconst 1, 1) := by decide +kernel
theorem d_Mod_isAgain_291 : decode b_Mod_isAgain 291 = .ok (.goto 4, 3) := by decide +kernel
theorem d_Mod_isAgain_294 : decode b_Mod_isAgain 294 = .ok (.iconst 0, 1) := by decide +kernel
theorem d_Mod_isAgain_295 : decode b_Mod_isAgain 295 = .ok (.istore 4, 2) := by decide +kernel
theorem d_Mod_isAgain_297 : decode b_Mod_isAgain 297 = .ok (.iinc 5 1, 3) := by decide +kernel
theorem d_Mod_isAgain_300 : decode b_Mod_isAgain 300 = .ok (.aload_n 0, 1) := by decide +kernel
theorem d_Mod_isAgain_301 : decode b_Mod_isAgain 301 = .ok (.getfield 111, 3) := by decide +kernel
theorem d_Mod_isAgain_304 : decode b_Mod_isAgain 304 = .ok (.iload 6, 2) := by decide +kernel
theorem d_Mod_isAgain_306 : decode b_Mod_isAgain 306 = .ok (.iaload, 1) := by decide +kernel
theorem d_Mod_isAgain_307 : decode b_Mod_isAgain 307 = .ok (.istore 6, 2) := by decide +kernel
theorem d_Mod_isAgain_309 : decode b_Mod_isAgain 309 = .ok (.goto (-78), 3) := by decide +kernel
theorem d_Mod_isAgain_312 : decode b_Mod_isAgain 312 = .ok (.iload 4, 2) := by decide +kernel
theorem d_Mod_isAgain_314 : decode b_Mod_isAgain 314 = .ok (.ireturn, 1) := by decide +kernel
theorem d_Mod_isAhead_0 : decode b_Mod_isAhead 0 = .ok (.iload_n 2, 1) := by decide +kernel
theorem d_Mod_isAhead_1 : decode b_Mod_isAhead 1 = .ok (.ifCond .le 7, 3) := by decide +kernel
theorem d_Mod_isAhead_4 : decode b_Mod_isAhead 4 = .ok (.iconst 1, 1) := by decide +kernel
theorem d_Mod_isAhead_5 : decode b_Mod_isAhead 5 = .ok (.goto 4, 3) := by decide +kernel
theorem d_Mod_isAhead_8 : decode b_Mod_isAhead 8 = .ok (.iconst 0, 1) := by decide +kernel
theorem d_Mod_isAhead_9 : decode b_Mod_isAhead 9 = .ok (.istore_n 3, 1) := by decide +kernel
theorem d_Mod_isAhead_10 : decode b_Mod_isAhead 10 = .ok (.iconst 0, 1) := by decide +kernel
theorem d_Mod_isAhead_11 : decode b_Mod_isAhead 11 = .ok (.istore 4, 2) := by decide +kernel
theorem d_Mod_isAhead_13 : decode b_Mod_isAhead 13 = .ok (.iload 4, 2) := by decide +kernel
theorem d_Mod_isAhead_15 : decode b_Mod_isAhead 15 = .ok (.iload_n 2, 1) := by decide +kernel
theorem d_Mod_isAhead_16 : decode b_Mod_isAhead 16 = .ok (.if_icmp .ge 32, 3) := by decide +kernel
theorem d_Mod_isAhead_19 : decode b_Mod_isAhead 19 = .ok (.iload_n 3, 1) := by decide +kernel
theorem d_Mod_isAhead_20 : decode b_Mod_isAhead 20 = .ok (.ifCond .eq 28, 3) := by decide +kernel
theorem d_Mod_isAhead_23 : decode b_Mod_isAhead 23 = .ok (.aload_n 0, 1) := by decide +kernel
theorem d_Mod_isAhead_24 : decode b_Mod_isAhead 24 = .ok (.iload 4, 2) := by decide +kernel
theorem d_Mod_isAhead_26 : decode b_Mod_isAhead 26 = .ok (.invokevirtual 296, 3) := by decide +kernel
theorem d_Mod_isAhead_29 : decode b_Mod_isAhead 29 = .ok (.aload_n 1, 1) := by decide +kernel
theorem d_Mod_isAhead_30 : decode b_Mod_isAhead 30 = .ok (.iload 4, 2) := by decide +kernel
theorem d_Mod_isAhead_32 : decode b_Mod_isAhead 32 = .ok (.iaload, 1) := by decide +kernel
theorem d_Mod_isAhead_33 : decode b_Mod_isAhead 33 = .ok (.if_icmp .ne 7, 3) := by decide +kernel
theorem d_Mod_isAhead_36 : decode b_Mod_isAhead 36 = .ok (.iconst 1, 1) := by decide +kernel
theorem d_Mod_isAhead_37 : decode b_Mod_isAhead 37 = .ok (.goto 4, 3) := by decide +kernel
theorem d_Mod_isAhead_40 : decode b_Mod_isAhead 40 = .ok (.iconst 0, 1) := by decide +kernel
theorem d_Mod_isAhead_41 : decode b_Mod_isAhead 41 = .ok (.istore_n 3, 1) := by decide +kernel
theorem d_Mod_isAhead_42 : decode b_Mod_isAhead 42 = .ok (.iinc 4 1, 3) := by decide +kernel
theorem d_Mod_isAhead_45 : decode b_Mod_isAhead 45 = .ok (.goto (-32), 3) := by decide +kernel
theorem d_Mod_isAhead_48 : decode b_Mod_isAhead 48 = .ok (.iload_n 3, 1) := by decide +kernel
theorem d_Mod_isAhead_49 : decode b_Mod_isAhead 49 = .ok (.ireturn, 1) := by decide +kernel
theorem d_Mod_isBlank_0 : decode b_Mod_isBlank 0 = .ok (.iload_n 0, 1) := by decide +kernel
theorem d_Mod_isBlank_1 : decode b_Mod_isBlank 1 = .ok (.bipush 32, 2) := by decide +kernel
theorem d_Mod_isBlank_3 : decode b_Mod_isBlank 3 = .ok (.if_icmp .eq 27, 3) := by decide +kernel
theorem d_Mod_isBlank_6 : decode b_Mod_isBlank 6 = .ok (.iload_n 0, 1) := by decide +kernel
theorem d_Mod_isBlank_7 : decode b_Mod_isBlank 7 = .ok (.bipush 9, 2) := by decide +kernel
theorem d_Mod_isBlank_9 : decode b_Mod_isBlank 9 = .ok (.if_icmp .eq 21, 3) := by decide +kernel
theorem d_Mod_isBlank_12 : decode b_Mod_isBlank 12 = .ok (.iload_n 0, 1) := by decide +kernel
theorem d_Mod_isBlank_13 : decode b_Mod_isBlank 13 = .ok (.bipush 11, 2) := by decide +kernel
theorem d_Mod_isBlank_15 : decode b_Mod_isBlank 15 = .ok (.if_icmp .eq 15, 3) := by decide +kernel
theorem d_Mod_isBlank_18 : decode b_Mod_isBlank 18 = .ok (.iload_n 0, 1) := by decide +kernel
theorem d_Mod_isBlank_19 : decode b_Mod_isBlank 19 = .ok (.bipush 12, 2) := by decide +kernel
theorem d_Mod_isBlank_21 : decode b_Mod_isBlank 21 = .ok (.if_icmp .eq 9, 3) := by decide +kernel
theorem d_Mod_isBlank_24 : decode b_Mod_isBlank 24 = .ok (.iload_n 0, 1) := by decide +kernel
theorem d_Mod_isBlank_25 : decode b_Mod_isBlank 25 = .ok (.bipush 13, 2) := by decide +kernel
theorem d_Mod_isBlank_27 : decode b_Mod_isBlank 27 = .ok (.if_icmp .ne 7, 3) := by decide +kernel
theorem d_Mod_isBlank_30 : decode b_Mod_isBlank 30 = .ok (.iconst 1, 1) := by decide +kernel
theorem d_Mod_isBlank_31 : decode b_Mod_isBlank 31 = .ok (.goto 4, 3) := by decide +kernel
theorem d_Mod_isBlank_34 : decode b_Mod_isBlank 34 = .ok (.iconst 0, 1) := by decide +kernel
theorem d_Mod_isBlank_35 : decode b_Mod_isBlank 35 = .ok (.ireturn, 1) := by decide +kernel
theorem d_Mod_isDigit_0 : decode b_Mod_isDigit 0 = .ok (.iload_n 0, 1) := by decide +kernel
theorem d_Mod_isDigit_1 : decode b_Mod_isDigit 1 = .ok (.bipush 48, 2) := by decide +kernel
theorem d_Mod_isDigit_3 : decode b_Mod_isDigit 3 = .ok (.if_icmp .lt 13, 3) := by decide +kernel
theorem d_Mod_isDigit_6 : decode b_Mod_isDigit 6 = .ok (.iload_n 0, 1) := by decide +kernel
theorem d_Mod_isDigit_7 : decode b_Mod_isDigit 7 = .ok (.bipush 57, 2) := by decide +kernel
theorem d_Mod_isDigit_9 : decode b_Mod_isDigit 9 = .ok (.if_icmp .gt 7, 3) := by decide +kernel
theorem d_Mod_isDigit_12 : decode b_Mod_isDigit 12 = .ok (.iconst 1, 1) := by decide +kernel
theorem d_Mod_isDigit_13 : decode b_Mod_isDigit 13 = .ok (.goto 4, 3) := by decide +kernel
theorem d_Mod_isDigit_16 : decode b_Mod_isDigit 16 = .ok (.iconst 0, 1) := by decide +kernel
theorem d_Mod_isDigit_17 : decode b_Mod_isDigit 17 = .ok (.ireturn, 1) := by decide +kernel
theorem d_Mod_isLetter_0 : decode b_Mod_isLetter 0 = .ok (.iload_n 0, 1) := by decide +kernel
theorem d_Mod_isLetter_1 : decode b_Mod_isLetter 1 = .ok (.bipush 65, 2) := by decide +kernel
theorem d_Mod_isLetter_3 : decode b_Mod_isLetter 3 = .ok (.if_icmp .lt 9, 3) := by decide +kernel
theorem d_Mod_isLetter_6 : decode b_Mod_isLetter 6 = .ok (.iload_n 0, 1) := by decide +kernel
theorem d_Mod_isLetter_7 : decode b_Mod_isLetter 7 = .ok (.bipush 90, 2) := by decide +kernel
theorem d_Mod_isLetter_9 : decode b_Mod_isLetter 9 = .ok (.if_icmp .le 21, 3) := by decide +kernel
theorem d_Mod_isLetter_12 : decode b_Mod_isLetter 12 = .ok (.iload_n 0, 1) := by decide +kernel
theorem d_Mod_isLetter_13 : decode b_Mod_isLetter 13 = .ok (.bipush 97, 2) := by decide +kernel
theorem d_Mod_isLetter_15 : decode b_Mod_isLetter 15 = .ok (.if_icmp .lt 9, 3) := by decide +kernel
theorem d_Mod_isLetter_18 : decode b_Mod_isLetter 18 = .ok (.iload_n 0, 1) := by decide +kernel
theorem d_Mod_isLetter_19 : decode b_Mod_isLetter 19 = .ok (.bipush 122, 2) := by decide +kernel
theorem d_Mod_isLetter_21 : decode b_Mod_isLetter 21 = .ok (.if_icmp .le 9, 3) := by decide +kernel
theorem d_Mod_isLetter_24 : decode b_Mod_isLetter 24 = .ok (.iload_n 0, 1) := by decide +kernel
theorem d_Mod_isLetter_25 : decode b_Mod_isLetter 25 = .ok (.bipush 95, 2) := by decide +kernel
theorem d_Mod_isLetter_27 : decode b_Mod_isLetter 27 = .ok (.if_icmp .ne 7, 3) := by decide +kernel
theorem d_Mod_isLetter_30 : decode b_Mod_isLetter 30 = .ok (.iconst 1, 1) := by decide +kernel
theorem d_Mod_isLetter_31 : decode b_Mod_isLetter 31 = .ok (.goto 4, 3) := by decide +kernel
theorem d_Mod_isLetter_34 : decode b_Mod_isLetter 34 = .ok (.iconst 0, 1) := by decide +kernel
theorem d_Mod_isLetter_35 : decode b_Mod_isLetter 35 = .ok (.ireturn, 1) := by decide +kernel
theorem d_Mod_isLong_0 : decode b_Mod_isLong 0 = .ok (.iload_n 0, 1) := by decide +kernel
theorem d_Mod_isLong_1 : decode b_Mod_isLong 1 = .ok (.bipush 11, 2) := by decide +kernel
theorem d_Mod_isLong_3 : decode b_Mod_isLong 3 = .ok (.if_icmp .eq 45, 3) := by decide +kernel
theorem d_Mod_isLong_6 : decode b_Mod_isLong 6 = .ok (.iload_n 0, 1) := by decide +kernel
theorem d_Mod_isLong_7 : decode b_Mod_isLong 7 = .ok (.bipush 21, 2) := by decide +kernel
theorem d_Mod_isLong_9 : decode b_Mod_isLong 9 = .ok (.if_icmp .eq 39, 3) := by decide +kernel
theorem d_Mod_isLong_12 : decode b_Mod_isLong 12 = .ok (.iload_n 0, 1) := by decide +kernel
theorem d_Mod_isLong_13 : decode b_Mod_isLong 13 = .ok (.bipush 61, 2) := by decide +kernel
theorem d_Mod_isLong_15 : decode b_Mod_isLong 15 = .ok (.if_icmp .eq 33, 3) := by decide +kernel
theorem d_Mod_isLong_18 : decode b_Mod_isLong 18 = .ok (.iload_n 0, 1) := by decide +kernel
theorem d_Mod_isLong_19 : decode b_Mod_isLong 19 = .ok (.bipush 62, 2) := by decide +kernel
theorem d_Mod_isLong_21 : decode b_Mod_isLong 21 = .ok (.if_icmp .eq 27, 3) := by decide +kernel
theorem d_Mod_isLong_24 : decode b_Mod_isLong 24 = .ok (.iload_n 0, 1) := by decide +kernel
theorem d_Mod_isLong_25 : decode b_Mod_isLong 25 = .ok (.bipush 73, 2) := by decide +kernel
theorem d_Mod_isLong_27 : decode b_Mod_isLong 27 = .ok (.if_icmp .eq 21, 3) := by decide +kernel
theorem d_Mod_isLong_30 : decode b_Mod_isLong 30 = .ok (.iload_n 0, 1) := by decide +kernel
theorem d_Mod_isLong_31 : decode b_Mod_isLong 31 = .ok (.bipush 74, 2) := by decide +kernel
theorem d_Mod_isLong_33 : decode b_Mod_isLong 33 = .ok (.if_icmp .eq 15, 3) := by decide +kernel
theorem d_Mod_isLong_36 : decode b_Mod_isLong 36 = .ok (.iload_n 0, 1) := by decide +kernel
theorem d_Mod_isLong_37 : decode b_Mod_isLong 37 = .ok (.bipush 81, 2) := by decide +kernel
theorem d_Mod_isLong_39 : decode b_Mod_isLong 39 = .ok (.if_icmp .eq 9, 3) := by decide +kernel
theorem d_Mod_isLong_42 : decode b_Mod_isLong 42 = .ok (.iload_n 0, 1) := by decide +kernel
theorem d_Mod_isLong_43 : decode b_Mod_isLong 43 = .ok (.bipush 82, 2) := by decide +kernel
theorem d_Mod_isLong_45 : decode b_Mod_isLong 45 = .ok (.if_icmp .ne 7, 3) := by decide +kernel
theorem d_Mod_isLong_48 : decode b_Mod_isLong 48 = .ok (.iconst 1, 1) := by decide +kernel
theorem d_Mod_isLong_49 : decode b_Mod_isLong 49 = .ok (.goto 4, 3) := by decide +kernel
theorem d_Mod_isLong_52 : decode b_Mod_isLong 52 = .ok (.iconst 0, 1) := by decide +kernel
theorem d_Mod_isLong_53 : decode b_Mod_isLong 53 = .ok (.ireturn, 1) := by decide +kernel
theorem d_Mod_isMarked_0 : decode b_Mod_isMarked 0 = .ok (.aload_n 0, 1) := by decide +kernel
theorem d_Mod_isMarked_1 : decode b_Mod_isMarked 1 = .ok (.iload_n 1, 1) := by decide +kernel
theorem d_Mod_isMarked_2 : decode b_Mod_isMarked 2 = .ok (.invokevirtual 588, 3) := by decide +kernel
theorem d_Mod_isMarked_5 : decode b_Mod_isMarked 5 = .ok (.istore_n 3, 1) := by decide +kernel
theorem d_Mod_isMarked_6 : decode b_Mod_isMarked 6 = .ok (.iload_n 3, 1) := by decide +kernel
theorem d_Mod_isMarked_7 : decode b_Mod_isMarked 7 = .ok (.iconst 3, 1) := by decide +kernel
theorem d_Mod_isMarked_8 : decode b_Mod_isMarked 8 = .ok (.if_icmp .eq 8, 3) := by decide +kernel
theorem d_Mod_isMarked_11 : decode b_Mod_isMarked 11 = .ok (.iload_n 3, 1) := by decide +kernel
theorem d_Mod_isMarked_12 : decode b_Mod_isMarked 12 = .ok (.iconst 4, 1) := by decide +kernel
theorem d_Mod_isMarked_13 : decode b_Mod_isMarked 13 = .ok (.if_icmp .ne 29, 3) := by decide +kernel
theorem d_Mod_isMarked_16 : decode b_Mod_isMarked 16 = .ok (.aload_n 0, 1) := by decide +kernel
theorem d_Mod_isMarked_17 : decode b_Mod_isMarked 17 = .ok (.iload_n 1, 1) := by decide +kernel
theorem d_Mod_isMarked_18 : decode b_Mod_isMarked 18 = .ok (.iload_n 2, 1) := by decide +kernel
theorem d_Mod_isMarked_19 : decode b_Mod_isMarked 19 = .ok (.invokevirtual 585, 3) := by decide +kernel
theorem d_Mod_isMarked_22 : decode b_Mod_isMarked 22 = .ok (.bipush 34, 2) := by decide +kernel
theorem d_Mod_isMarked_24 : decode b_Mod_isMarked 24 = .ok (.if_icmp .eq 14, 3) := by decide +kernel
theorem d_Mod_isMarked_27 : decode b_Mod_isMarked 27 = .ok (.aload_n 0, 1) := by decide +kernel
theorem d_Mod_isMarked_28 : decode b_Mod_isMarked 28 = .ok (.iload_n 1, 1) := by decide +kernel
theorem d_Mod_isMarked_29 : decode b_Mod_isMarked 29 = .ok (.iload_n 2, 1) := by decide +kernel
theorem d_Mod_isMarked_30 : decode b_Mod_isMarked 30 = .ok (.invokevirtual 585, 3) := by decide +kernel
theorem d_Mod_isMarked_33 : decode b_Mod_isMarked 33 = .ok (.bipush 92, 2) := by decide +kernel
theorem d_Mod_isMarked_35 : decode b_Mod_isMarked 35 = .ok (.if_icmp .ne 7, 3) := by decide +kernel
theorem d_Mod_isMarked_38 : decode b_Mod_isMarked 38 = .ok (.iconst 1, 1) := by decide +kernel
theorem d_Mod_isMarked_39 : decode b_Mod_isMarked 39 = .ok (.goto 4, 3) := by decide +kernel
theorem d_Mod_isMarked_42 : decode b_Mod_isMarked 42 = .ok (.iconst 0, 1) := by decide +kernel
theorem d_Mod_isMarked_43 : decode b_Mod_isMarked 43 = .ok (.ireturn, 1) := by decide +kernel
theorem d_Mod_isName_0 : decode b_Mod_isName 0 = .ok (.iload_n 1, 1) := by decide +kernel
theorem d_Mod_isName_1 : decode b_Mod_isName 1 = .ok (.ifCond .lt 16, 3) := by decide +kernel
theorem d_Mod_isName_4 : decode b_Mod_isName 4 = .ok (.aload_n 0, 1) := by decide +kernel
theorem d_Mod_isName_5 : decode b_Mod_isName 5 = .ok (.iload_n 1, 1) := by decide +kernel
theorem d_Mod_isName_6 : decode b_Mod_isName 6 = .ok (.invokevirtual 588, 3) := by decide +kernel
theorem d_Mod_isName_9 : decode b_Mod_isName 9 = .ok (.iconst 1, 1) := by decide +kernel
theorem d_Mod_isName_10 : decode b_Mod_isName 10 = .ok (.if_icmp .ne 7, 3) := by decide +kernel
theorem d_Mod_isName_13 : decode b_Mod_isName 13 = .ok (.iconst 1, 1) := by decide +kernel
theorem d_Mod_isName_14 : decode b_Mod_isName 14 = .ok (.goto 4, 3) := by decide +kernel
theorem d_Mod_isName_17 : decode b_Mod_isName 17 = .ok (.iconst 0, 1) := by decide +kernel
theorem d_Mod_isName_18 : decode b_Mod_isName 18 = .ok (.ireturn, 1) := by decide +kernel
theorem d_Mod_isNameArgument_0 : decode b_Mod_isNameArgument 0 = .ok (.aload_n 0, 1) := by decide +kernel
theorem d_Mod_isNameArgument_1 : decode b_Mod_isNameArgument 1 = .ok (.iload_n 1, 1) := by decide +kernel
theorem d_Mod_isNameArgument_2 : decode b_Mod_isNameArgument 2 = .ok (.iconst 1, 1) := by decide +kernel
theorem d_Mod_isNameArgument_3 : decode b_Mod_isNameArgument 3 = .ok (.invokevirtual 466, 3) := by decide +kernel
theorem d_Mod_isNameArgument_6 : decode b_Mod_isNameArgument 6 = .ok (.istore_n 2, 1) := by decide +kernel
theorem d_Mod_isNameArgument_7 : decode b_Mod_isNameArgument 7 = .ok (.aload_n 0, 1) := by decide +kernel
theorem d_Mod_isNameArgument_8 : decode b_Mod_isNameArgument 8 = .ok (.iload_n 1, 1) := by decide +kernel
theorem d_Mod_isNameArgument_9 : decode b_Mod_isNameArgument 9 = .ok (.iconst 1, 1) := by decide +kernel
theorem d_Mod_isNameArgument_10 : decode b_Mod_isNameArgument 10 = .ok (.invokevirtual 462, 3) := by decide +kernel
theorem d_Mod_isNameArgument_13 : decode b_Mod_isNameArgument 13 = .ok (.istore_n 3, 1) := by decide +kernel
theorem d_Mod_isNameArgument_14 : decode b_Mod_isNameArgument 14 = .ok (.iload_n 2, 1) := by decide +kernel
theorem d_Mod_isNameArgument_15 : decode b_Mod_isNameArgument 15 = .ok (.ifCond .le 23, 3) := by decide +kernel
theorem d_Mod_isNameArgument_18 : decode b_Mod_isNameArgument 18 = .ok (.aload_n 0, 1) := by decide +kernel
theorem d_Mod_isNameArgument_19 : decode b_Mod_isNameArgument 19 = .ok (.getfield 72, 3) := by decide +kernel
theorem d_Mod_isNameArgument_22 : decode b_Mod_isNameArgument 22 = .ok (.iload_n 3, 1) := by decide +kernel
theorem d_Mod_isNameArgument_23 : decode b_Mod_isNameArgument 23 = .ok (.baload, 1) := by decide +kernel
theorem d_Mod_isNameArgument_24 : decode b_Mod_isNameArgument 24 = .ok (.sipush 255, 3) := by decide +kernel
theorem d_Mod_isNameArgument_27 : decode b_Mod_isNameArgument 27 = .ok (.iand, 1) := by decide +kernel
theorem d_Mod_isNameArgument_28 : decode b_Mod_isNameArgument 28 = .ok (.invokestatic 326, 3) := by decide +kernel
theorem d_Mod_isNameArgument_31 : decode b_Mod_isNameArgument 31 = .ok (.ifCond .eq 7, 3) := by decide +kernel
theorem d_Mod_isNameArgument_34 : decode b_Mod_isNameArgument 34 = .ok (.iconst 1, 1) := by decide +kernel
theorem d_Mod_isNameArgument_35 : decode b_Mod_isNameArgument 35 = .ok (.goto 4, 3) := by decide +kernel
theorem d_Mod_isNameArgument_38 : decode b_Mod_isNameArgument 38 = .ok (.iconst 0, 1) := by decide +kernel
theorem d_Mod_isNameArgument_39 : decode b_Mod_isNameArgument 39 = .ok (.istore 4, 2) := by decide +kernel
theorem d_Mod_isNameArgument_41 : decode b_Mod_isNameArgument 41 = .ok (.iconst 1, 1) := by decide +kernel
theorem d_Mod_isNameArgument_42 : decode b_Mod_isNameArgument 42 = .ok (.istore 5, 2) := by decide +kernel
theorem d_Mod_isNameArgument_44 : decode b_Mod_isNameArgument 44 = .ok (.iload 5, 2) := by decide +kernel
theorem d_Mod_isNameArgument_46 : decode b_Mod_isNameArgument 46 = .ok (.iload_n 2, 1) := by decide +kernel
theorem d_Mod_isNameArgument_47 : decode b_Mod_isNameArgument 47 = .ok (.if_icmp .ge 59, 3) := by decide +kernel
theorem d_Mod_isNameArgument_50 : decode b_Mod_isNameArgument 50 = .ok (.iload 4, 2) := by decide +kernel
theorem d_Mod_isNameArgument_52 : decode b_Mod_isNameArgument 52 = .ok (.ifCond .eq 54, 3) := by decide +kernel
theorem d_Mod_isNameArgument_55 : decode b_Mod_isNameArgument 55 = .ok (.aload_n 0, 1) := by decide +kernel
theorem d_Mod_isNameArgument_56 : decode b_Mod_isNameArgument 56 = .ok (.getfield 72, 3) := by decide +kernel
theorem d_Mod_isNameArgument_59 : decode b_Mod_isNameArgument 59 = .ok (.iload_n 3, 1) := by decide +kernel
theorem d_Mod_isNameArgument_60 : decode b_Mod_isNameArgument 60 = .ok (.iload 5, 2) := by decide +kernel
theorem d_Mod_isNameArgument_62 : decode b_Mod_isNameArgument 62 = .ok (.iadd, 1) := by decide +kernel
theorem d_Mod_isNameArgument_63 : decode b_Mod_isNameArgument 63 = .ok (.baload, 1) := by decide +kernel
theorem d_Mod_isNameArgument_64 : decode b_Mod_isNameArgument 64 = .ok (.sipush 255, 3) := by decide +kernel
theorem d_Mod_isNameArgument_67 : decode b_Mod_isNameArgument 67 = .ok (.iand, 1) := by decide +kernel
theorem d_Mod_isNameArgument_68 : decode b_Mod_isNameArgument 68 = .ok (.invokestatic 326, 3) := by decide +kernel
theorem d_Mod_isNameArgument_71 : decode b_Mod_isNameArgument 71 = .ok (.ifCond .ne 22, 3) := by decide +kernel
theorem d_Mod_isNameArgument_74 : decode b_Mod_isNameArgument 74 = .ok (.aload_n 0, 1) := by decide +kernel
theorem d_Mod_isNameArgument_75 : decode b_Mod_isNameArgument 75 = .ok (.getfield 72, 3) := by decide +kernel
theorem d_Mod_isNameArgument_78 : decode b_Mod_isNameArgument 78 = .ok (.iload_n 3, 1) := by decide +kernel
theorem d_Mod_isNameArgument_79 : decode b_Mod_isNameArgument 79 = .ok (.iload 5, 2) := by decide +kernel
theorem d_Mod_isNameArgument_81 : decode b_Mod_isNameArgument 81 = .ok (.iadd, 1) := by decide +kernel
theorem d_Mod_isNameArgument_82 : decode b_Mod_isNameArgument 82 = .ok (.baload, 1) := by decide +kernel
theorem d_Mod_isNameArgument_83 : decode b_Mod_isNameArgument 83 = .ok (.sipush 255, 3) := by decide +kernel
theorem d_Mod_isNameArgument_86 : decode b_Mod_isNameArgument 86 = .ok (.iand, 1) := by decide +kernel
theorem d_Mod_isNameArgument_87 : decode b_Mod_isNameArgument 87 = .ok (.invokestatic 330, 3) := by decide +kernel
theorem d_Mod_isNameArgument_90 : decode b_Mod_isNameArgument 90 = .ok (.ifCond .eq 7, 3) := by decide +kernel
theorem d_Mod_isNameArgument_93 : decode b_Mod_isNameArgument 93 = .ok (.iconst 1, 1) := by decide +kernel
theorem d_Mod_isNameArgument_94 : decode b_Mod_isNameArgument 94 = .ok (.goto 4, 3) := by decide +kernel
theorem d_Mod_isNameArgument_97 : decode b_Mod_isNameArgument 97 = .ok (.iconst 0, 1) := by decide +kernel
theorem d_Mod_isNameArgument_98 : decode b_Mod_isNameArgument 98 = .ok (.istore 4, 2) := by decide +kernel
theorem d_Mod_isNameArgument_100 : decode b_Mod_isNameArgument 100 = .ok (.iinc 5 1, 3) := by decide +kernel
theorem d_Mod_isNameArgument_103 : decode b_Mod_isNameArgument 103 = .ok (.goto (-59), 3) := by decide +kernel
theorem d_Mod_isNameArgument_106 : decode b_Mod_isNameArgument 106 = .ok (.iload 4, 2) := by decide +kernel
theorem d_Mod_isNameArgument_108 : decode b_Mod_isNameArgument 108 = .ok (.ireturn, 1) := by decide +kernel
theorem d_Mod_isNamed_0 : decode b_Mod_isNamed 0 = .ok (.aload_n 0, 1) := by decide +kernel
theorem d_Mod_isNamed_1 : decode b_Mod_isNamed 1 = .ok (.getfield 53, 3) := by decide +kernel
theorem d_Mod_isNamed_4 : decode b_Mod_isNamed 4 = .ok (.iload_n 1, 1) := by decide +kernel
theorem d_Mod_isNamed_5 : decode b_Mod_isNamed 5 = .ok (.iaload, 1) := by decide +kernel
theorem d_Mod_isNamed_6 : decode b_Mod_isNamed 6 = .ok (.iload 4, 2) := by decide +kernel
theorem d_Mod_isNamed_8 : decode b_Mod_isNamed 8 = .ok (.if_icmp .ne 7, 3) := by decide +kernel
theorem d_Mod_isNamed_11 : decode b_Mod_isNamed 11 = .ok (.iconst 1, 1) := by decide +kernel
theorem d_Mod_isNamed_12 : decode b_Mod_isNamed 12 = .ok (.goto 4, 3) := by decide +kernel
theorem d_Mod_isNamed_15 : decode b_Mod_isNamed 15 = .ok (.iconst 0, 1) := by decide +kernel
theorem d_Mod_isNamed_16 : decode b_Mod_isNamed 16 = .ok (.istore 5, 2) := by decide +kernel
theorem d_Mod_isNamed_18 : decode b_Mod_isNamed 18 = .ok (.iconst 0, 1) := by decide +kernel
theorem d_Mod_isNamed_19 : decode b_Mod_isNamed 19 = .ok (.istore 6, 2) := by decide +kernel
theorem d_Mod_isNamed_21 : decode b_Mod_isNamed 21 = .ok (.iload 6, 2) := by decide +kernel
theorem d_Mod_isNamed_23 : decode b_Mod_isNamed 23 = .ok (.iload 4, 2) := by decide +kernel
theorem d_Mod_isNamed_25 : decode b_Mod_isNamed 25 = .ok (.if_icmp .ge 44, 3) := by decide +kernel
theorem d_Mod_isNamed_28 : decode b_Mod_isNamed 28 = .ok (.iload 5, 2) := by decide +kernel
theorem d_Mod_isNamed_30 : decode b_Mod_isNamed 30 = .ok (.ifCond .eq 39, 3) := by decide +kernel
theorem d_Mod_isNamed_33 : decode b_Mod_isNamed 33 = .ok (.aload_n 0, 1) := by decide +kernel
theorem d_Mod_isNamed_34 : decode b_Mod_isNamed 34 = .ok (.getfield 62, 3) := by decide +kernel
theorem d_Mod_isNamed_37 : decode b_Mod_isNamed 37 = .ok (.aload_n 0, 1) := by decide +kernel
theorem d_Mod_isNamed_38 : decode b_Mod_isNamed 38 = .ok (.getfield 50, 3) := by decide +kernel
theorem d_Mod_isNamed_41 : decode b_Mod_isNamed 41 = .ok (.iload_n 1, 1) := by decide +kernel
theorem d_Mod_isNamed_42 : decode b_Mod_isNamed 42 = .ok (.iaload, 1) := by decide +kernel
theorem d_Mod_isNamed_43 : decode b_Mod_isNamed 43 = .ok (.iload 6, 2) := by decide +kernel
theorem d_Mod_isNamed_45 : decode b_Mod_isNamed 45 = .ok (.iadd, 1) := by decide +kernel
theorem d_Mod_isNamed_46 : decode b_Mod_isNamed 46 = .ok (.baload, 1) := by decide +kernel
theorem d_Mod_isNamed_47 : decode b_Mod_isNamed 47 = .ok (.aload_n 2, 1) := by decide +kernel
theorem d_Mod_isNamed_48 : decode b_Mod_isNamed 48 = .ok (.iload_n 3, 1) := by decide +kernel
theorem d_Mod_isNamed_49 : decode b_Mod_isNamed 49 = .ok (.iload 6, 2) := by decide +kernel
theorem d_Mod_isNamed_51 : decode b_Mod_isNamed 51 = .ok (.iadd, 1) := by decide +kernel
theorem d_Mod_isNamed_52 : decode b_Mod_isNamed 52 = .ok (.baload, 1) := by decide +kernel
theorem d_Mod_isNamed_53 : decode b_Mod_isNamed 53 = .ok (.if_icmp .ne 7, 3) := by decide +kernel
theorem d_Mod_isNamed_56 : decode b_Mod_isNamed 56 = .ok (.iconst 1, 1) := by decide +kernel
theorem d_Mod_isNamed_57 : decode b_Mod_isNamed 57 = .ok (.goto 4, 3) := by decide +kernel
theorem d_Mod_isNamed_60 : decode b_Mod_isNamed 60 = .ok (.iconst 0, 1) := by decide +kernel
theorem d_Mod_isNamed_61 : decode b_Mod_isNamed 61 = .ok (.istore 5, 2) := by decide +kernel
theorem d_Mod_isNamed_63 : decode b_Mod_isNamed 63 = .ok (.iinc 6 1, 3) := by decide +kernel
theorem d_Mod_isNamed_66 : decode b_Mod_isNamed 66 = .ok (.goto (-45), 3) := by decide +kernel
theorem d_Mod_isNamed_69 : decode b_Mod_isNamed 69 = .ok (.iload 5, 2) := by decide +kernel
theorem d_Mod_isNamed_71 : decode b_Mod_isNamed 71 = .ok (.ireturn, 1) := by decide +kernel
theorem d_Mod_isNeeded_0 : decode b_Mod_isNeeded 0 = .ok (.iload_n 2, 1) := by decide +kernel
theorem d_Mod_isNeeded_1 : decode b_Mod_isNeeded 1 = .ok (.istore_n 3, 1) := by decide +kernel
theorem d_Mod_isNeeded_2 : decode b_Mod_isNeeded 2 = .ok (.iload_n 1, 1) := by decide +kernel
theorem d_Mod_isNeeded_3 : decode b_Mod_isNeeded 3 = .ok (.istore 4, 2) := by decide +kernel
theorem d_Mod_isNeeded_5 : decode b_Mod_isNeeded 5 = .ok (.iload 4, 2) := by decide +kernel
theorem d_Mod_isNeeded_7 : decode b_Mod_isNeeded 7 = .ok (.aload_n 0, 1) := by decide +kernel
theorem d_Mod_isNeeded_8 : decode b_Mod_isNeeded 8 = .ok (.getfield 957, 3) := by decide +kernel
theorem d_Mod_isNeeded_11 : decode b_Mod_isNeeded 11 = .ok (.if_icmp .ge 64, 3) := by decide +kernel
theorem d_Mod_isNeeded_14 : decode b_Mod_isNeeded 14 = .ok (.iload_n 3, 1) := by decide +kernel
theorem d_Mod_isNeeded_15 : decode b_Mod_isNeeded 15 = .ok (.ifCond .eq 52, 3) := by decide +kernel
theorem d_Mod_isNeeded_18 : decode b_Mod_isNeeded 18 = .ok (.aload_n 0, 1) := by decide +kernel
theorem d_Mod_isNeeded_19 : decode b_Mod_isNeeded 19 = .ok (.getfield 224, 3) := by decide +kernel
theorem d_Mod_isNeeded_22 : decode b_Mod_isNeeded 22 = .ok (.iload 4, 2) := by decide +kernel
theorem d_Mod_isNeeded_24 : decode b_Mod_isNeeded 24 = .ok (.iaload, 1) := by decide +kernel
theorem d_Mod_isNeeded_25 : decode b_Mod_isNeeded 25 = .ok (.ifCond .ne 15, 3) := by decide +kernel
theorem d_Mod_isNeeded_28 : decode b_Mod_isNeeded 28 = .ok (.aload_n 0, 1) := by decide +kernel
theorem d_Mod_isNeeded_29 : decode b_Mod_isNeeded 29 = .ok (.getfield 227, 3) := by decide +kernel
theorem d_Mod_isNeeded_32 : decode b_Mod_isNeeded 32 = .ok (.iload 4, 2) := by decide +kernel
theorem d_Mod_isNeeded_34 : decode b_Mod_isNeeded 34 = .ok (.laload, 1) := by decide +kernel
theorem d_Mod_isNeeded_35 : decode b_Mod_isNeeded 35 = .ok (.lconst 0, 1) := by decide +kernel
theorem d_Mod_isNeeded_36 : decode b_Mod_isNeeded 36 = .ok (.lcmp, 1) := by decide +kernel
theorem d_Mod_isNeeded_37 : decode b_Mod_isNeeded 37 = .ok (.ifCond .ne 30, 3) := by decide +kernel
theorem d_Mod_isNeeded_40 : decode b_Mod_isNeeded 40 = .ok (.aload_n 0, 1) := by decide +kernel
theorem d_Mod_isNeeded_41 : decode b_Mod_isNeeded 41 = .ok (.getfield 224, 3) := by decide +kernel
theorem d_Mod_isNeeded_44 : decode b_Mod_isNeeded 44 = .ok (.iload 4, 2) := by decide +kernel
theorem d_Mod_isNeeded_46 : decode b_Mod_isNeeded 46 = .ok (.iaload, 1) := by decide +kernel
theorem d_Mod_isNeeded_47 : decode b_Mod_isNeeded 47 = .ok (.iconst 1, 1) := by decide +kernel
theorem d_Mod_isNeeded_48 : decode b_Mod_isNeeded 48 = .ok (.if_icmp .ne 15, 3) := by decide +kernel
theorem d_Mod_isNeeded_51 : decode b_Mod_isNeeded 51 = .ok (.aload_n 0, 1) := by decide +kernel
theorem d_Mod_isNeeded_52 : decode b_Mod_isNeeded 52 = .ok (.getfield 227, 3) := by decide +kernel
theorem d_Mod_isNeeded_55 : decode b_Mod_isNeeded 55 = .ok (.iload 4, 2) := by decide +kernel
theorem d_Mod_isNeeded_57 : decode b_Mod_isNeeded 57 = .ok (.laload, 1) := by decide +kernel
theorem d_Mod_isNeeded_58 : decode b_Mod_isNeeded 58 = .ok (.lconst 0, 1) := by decide +kernel
theorem d_Mod_isNeeded_59 : decode b_Mod_isNeeded 59 = .ok (.lcmp, 1) := by decide +kernel
theorem d_Mod_isNeeded_60 : decode b_Mod_isNeeded 60 = .ok (.ifCond .eq 7, 3) := by decide +kernel
theorem d_Mod_isNeeded_63 : decode b_Mod_isNeeded 63 = .ok (.iconst 1, 1) := by decide +kernel
theorem d_Mod_isNeeded_64 : decode b_Mod_isNeeded 64 = .ok (.goto 4, 3) := by decide +kernel
theorem d_Mod_isNeeded_67 : decode b_Mod_isNeeded 67 = .ok (.iconst 0, 1) := by decide +kernel
theorem d_Mod_isNeeded_68 : decode b_Mod_isNeeded 68 = .ok (.istore_n 3, 1) := by decide +kernel
theorem d_Mod_isNeeded_69 : decode b_Mod_isNeeded 69 = .ok (.iinc 4 1, 3) := by decide +kernel
theorem d_Mod_isNeeded_72 : decode b_Mod_isNeeded 72 = .ok (.goto (-67), 3) := by decide +kernel
theorem d_Mod_isNeeded_75 : decode b_Mod_isNeeded 75 = .ok (.iload_n 3, 1) := by decide +kernel
theorem d_Mod_isNeeded_76 : decode b_Mod_isNeeded 76 = .ok (.ireturn, 1) := by decide +kernel
theorem d_Mod_isNewNamed_0 : decode b_Mod_isNewNamed 0 = .ok (.iconst 0, 1) := by decide +kernel
theorem d_Mod_isNewNamed_1 : decode b_Mod_isNewNamed 1 = .ok (.istore_n 2, 1) := by decide +kernel
theorem d_Mod_isNewNamed_2 : decode b_Mod_isNewNamed 2 = .ok (.iconst 0, 1) := by decide +kernel
theorem d_Mod_isNewNamed_3 : decode b_Mod_isNewNamed 3 = .ok (.istore_n 3, 1) := by decide +kernel
theorem d_Mod_isNewNamed_4 : decode b_Mod_isNewNamed 4 = .ok (.iload_n 3, 1) := by decide +kernel
theorem d_Mod_isNewNamed_5 : decode b_Mod_isNewNamed 5 = .ok (.aload_n 0, 1) := by decide +kernel
theorem d_Mod_isNewNamed_6 : decode b_Mod_isNewNamed 6 = .ok (.getfield 864, 3) := by decide +kernel
theorem d_Mod_isNewNamed_9 : decode b_Mod_isNewNamed 9 = .ok (.ifCond .eq 12, 3) := by decide +kernel
theorem d_Mod_isNewNamed_12 : decode b_Mod_isNewNamed 12 = .ok (.aload_n 0, 1) := by decide +kernel
theorem d_Mod_isNewNamed_13 : decode b_Mod_isNewNamed 13 = .ok (.getfield 861, 3) := by decide +kernel
theorem d_Mod_isNewNamed_16 : decode b_Mod_isNewNamed 16 = .ok (.iconst 1, 1) := by decide +kernel
theorem d_Mod_isNewNamed_17 : decode b_Mod_isNewNamed 17 = .ok (.isub, 1) := by decide +kernel
theorem d_Mod_isNewNamed_18 : decode b_Mod_isNewNamed 18 = .ok (.goto 7, 3) := by decide +kernel
theorem d_Mod_isNewNamed_21 : decode b_Mod_isNewNamed 21 = .ok (.aload_n 0, 1) := by decide +kernel
theorem d_Mod_isNewNamed_22 : decode b_Mod_isNewNamed 22 = .ok (.getfield 861, 3) := by decide +kernel
theorem d_Mod_isNewNamed_25 : decode b_Mod_isNewNamed 25 = .ok (.if_icmp .ge 39, 3) := by decide +kernel
theorem d_Mod_isNewNamed_28 : decode b_Mod_isNewNamed 28 = .ok (.iload_n 2, 1) := by decide +kernel
theorem d_Mod_isNewNamed_29 : decode b_Mod_isNewNamed 29 = .ok (.ifCond .ne 23, 3) := by decide +kernel
theorem d_Mod_isNewNamed_32 : decode b_Mod_isNewNamed 32 = .ok (.aload_n 0, 1) := by decide +kernel
theorem d_Mod_isNewNamed_33 : decode b_Mod_isNewNamed 33 = .ok (.iload_n 1, 1) := by decide +kernel
theorem d_Mod_isNewNamed_34 : decode b_Mod_isNewNamed 34 = .ok (.aload_n 0, 1) := by decide +kernel
theorem d_Mod_isNewNamed_35 : decode b_Mod_isNewNamed 35 = .ok (.getfield 215, 3) := by decide +kernel
theorem d_Mod_isNewNamed_38 : decode b_Mod_isNewNamed 38 = .ok (.iload_n 3, 1) := by decide +kernel
theorem d_Mod_isNewNamed_39 : decode b_Mod_isNewNamed 39 = .ok (.iaload, 1) := by decide +kernel
theorem d_Mod_isNewNamed_40 : decode b_Mod_isNewNamed 40 = .ok (.aload_n 0, 1) := by decide +kernel
theorem d_Mod_isNewNamed_41 : decode b_Mod_isNewNamed 41 = .ok (.getfield 218, 3) := by decide +kernel
theorem d_Mod_isNewNamed_44 : decode b_Mod_isNewNamed 44 = .ok (.iload_n 3, 1) := by decide +kernel
theorem d_Mod_isNewNamed_45 : decode b_Mod_isNewNamed 45 = .ok (.iaload, 1) := by decide +kernel
theorem d_Mod_isNewNamed_46 : decode b_Mod_isNewNamed 46 = .ok (.invokevirtual 616, 3) := by decide +kernel
theorem d_Mod_isNewNamed_49 : decode b_Mod_isNewNamed 49 = .ok (.ifCond .eq 7, 3) := by decide +kernel
theorem d_Mod_isNewNamed_52 : decode b_Mod_isNewNamed 52 = .ok (.iconst 1, 1) := by decide +kernel
theorem d_Mod_isNewNamed_53 : decode b_Mod_isNewNamed 53 = .ok (.goto 4, 3) := by decide +kernel
theorem d_Mod_isNewNamed_56 : decode b_Mod_isNewNamed 56 = .ok (.iconst 0, 1) := by decide +kernel
theorem d_Mod_isNewNamed_57 : decode b_Mod_isNewNamed 57 = .ok (.istore_n 2, 1) := by decide +kernel
theorem d_Mod_isNewNamed_58 : decode b_Mod_isNewNamed 58 = .ok (.iinc 3 1, 3) := by decide +kernel
theorem d_Mod_isNewNamed_61 : decode b_Mod_isNewNamed 61 = .ok (.goto (-57), 3) := by decide +kernel
theorem d_Mod_isNewNamed_64 : decode b_Mod_isNewNamed 64 = .ok (.iload_n 2, 1) := by decide +kernel
theorem d_Mod_isNewNamed_65 : decode b_Mod_isNewNamed 65 = .ok (.ireturn, 1) := by decide +kernel
theorem d_Mod_isNewParameter_0 : decode b_Mod_isNewParameter 0 = .ok (.iconst 0, 1) := by decide +kernel
theorem d_Mod_isNewParameter_1 : decode b_Mod_isNewParameter 1 = .ok (.istore_n 2, 1) := by decide +kernel
theorem d_Mod_isNewParameter_2 : decode b_Mod_isNewParameter 2 = .ok (.iconst 0, 1) := by decide +kernel
theorem d_Mod_isNewParameter_3 : decode b_Mod_isNewParameter 3 = .ok (.istore_n 3, 1) := by decide +kernel
theorem d_Mod_isNewParameter_4 : decode b_Mod_isNewParameter 4 = .ok (.iload_n 3, 1) := by decide +kernel
theorem d_Mod_isNewParameter_5 : decode b_Mod_isNewParameter 5 = .ok (.aload_n 0, 1) := by decide +kernel
theorem d_Mod_isNewParameter_6 : decode b_Mod_isNewParameter 6 = .ok (.getfield 861, 3) := by decide +kernel
theorem d_Mod_isNewParameter_9 : decode b_Mod_isNewParameter 9 = .ok (.if_icmp .ge 39, 3) := by decide +kernel
theorem d_Mod_isNewParameter_12 : decode b_Mod_isNewParameter 12 = .ok (.iload_n 2, 1) := by decide +kernel
theorem d_Mod_isNewParameter_13 : decode b_Mod_isNewParameter 13 = .ok (.ifCond .ne 23, 3) := by decide +kernel
theorem d_Mod_isNewParameter_16 : decode b_Mod_isNewParameter 16 = .ok (.aload_n 0, 1) := by decide +kernel
theorem d_Mod_isNewParameter_17 : decode b_Mod_isNewParameter 17 = .ok (.iload_n 1, 1) := by decide +kernel
theorem d_Mod_isNewParameter_18 : decode b_Mod_isNewParameter 18 = .ok (.aload_n 0, 1) := by decide +kernel
theorem d_Mod_isNewParameter_19 : decode b_Mod_isNewParameter 19 = .ok (.getfield 215, 3) := by decide +kernel
theorem d_Mod_isNewParameter_22 : decode b_Mod_isNewParameter 22 = .ok (.iload_n 3, 1) := by decide +kernel
theorem d_Mod_isNewParameter_23 : decode b_Mod_isNewParameter 23 = .ok (.iaload, 1) := by decide +kernel
theorem d_Mod_isNewParameter_24 : decode b_Mod_isNewParameter 24 = .ok (.aload_n 0, 1) := by decide +kernel
theorem d_Mod_isNewParameter_25 : decode b_Mod_isNewParameter 25 = .ok (.getfield 218, 3) := by decide +kernel
theorem d_Mod_isNewParameter_28 : decode b_Mod_isNewParameter 28 = .ok (.iload_n 3, 1) := by decide +kernel
theorem d_Mod_isNewParameter_29 : decode b_Mod_isNewParameter 29 = .ok (.iaload, 1) := by decide +kernel
theorem d_Mod_isNewParameter_30 : decode b_Mod_isNewParameter 30 = .ok (.invokevirtual 616, 3) := by decide +kernel
theorem d_Mod_isNewParameter_33 : decode b_Mod_isNewParameter 33 = .ok (.ifCond .eq 7, 3) := by decide +kernel
theorem d_Mod_isNewParameter_36 : decode b_Mod_isNewParameter 36 = .ok (.iconst 1, 1) := by decide +kernel
theorem d_Mod_isNewParameter_37 : decode b_Mod_isNewParameter 37 = .ok (.goto 4, 3) := by decide +kernel
theorem d_Mod_isNewParameter_40 : decode b_Mod_isNewParameter 40 = .ok (.iconst 0, 1) := by decide +kernel
theorem d_Mod_isNewParameter_41 : decode b_Mod_isNewParameter 41 = .ok (.istore_n 2, 1) := by decide +kernel
theorem d_Mod_isNewParameter_42 : decode b_Mod_isNewParameter 42 = .ok (.iinc 3 1, 3) := by decide +kernel
theorem d_Mod_isNewParameter_45 : decode b_Mod_isNewParameter 45 = .ok (.goto (-41), 3) := by decide +kernel
theorem d_Mod_isNewParameter_48 : decode b_Mod_isNewParameter 48 = .ok (.iload_n 2, 1) := by decide +kernel
theorem d_Mod_isNewParameter_49 : decode b_Mod_isNewParameter 49 = .ok (.ireturn, 1) := by decide +kernel
theorem d_Mod_isPlainText_0 : decode b_Mod_isPlainText 0 = .ok (.iload_n 1, 1) := by decide +kernel
theorem d_Mod_isPlainText_1 : decode b_Mod_isPlainText 1 = .ok (.ifCond .lt 27, 3) := by decide +kernel
theorem d_Mod_isPlainText_4 : decode b_Mod_isPlainText 4 = .ok (.aload_n 0, 1) := by decide +kernel
theorem d_Mod_isPlainText_5 : decode b_Mod_isPlainText 5 = .ok (.iload_n 1, 1) := by decide +kernel
theorem d_Mod_isPlainText_6 : decode b_Mod_isPlainText 6 = .ok (.invokevirtual 588, 3) := by decide +kernel
theorem d_Mod_isPlainText_9 : decode b_Mod_isPlainText 9 = .ok (.iconst 3, 1) := by decide +kernel
theorem d_Mod_isPlainText_10 : decode b_Mod_isPlainText 10 = .ok (.if_icmp .ne 18, 3) := by decide +kernel
theorem d_Mod_isPlainText_13 : decode b_Mod_isPlainText 13 = .ok (.aload_n 0, 1) := by decide +kernel
theorem d_Mod_isPlainText_14 : decode b_Mod_isPlainText 14 = .ok (.iload_n 1, 1) := by decide +kernel
theorem d_Mod_isPlainText_15 : decode b_Mod_isPlainText 15 = .ok (.iconst 0, 1) := by decide +kernel
theorem d_Mod_isPlainText_16 : decode b_Mod_isPlainText 16 = .ok (.invokevirtual 585, 3) := by decide +kernel
theorem d_Mod_isPlainText_19 : decode b_Mod_isPlainText 19 = .ok (.bipush 34, 2) := by decide +kernel
theorem d_Mod_isPlainText_21 : decode b_Mod_isPlainText 21 = .ok (.if_icmp .ne 7, 3) := by decide +kernel
theorem d_Mod_isPlainText_24 : decode b_Mod_isPlainText 24 = .ok (.iconst 1, 1) := by decide +kernel
theorem d_Mod_isPlainText_25 : decode b_Mod_isPlainText 25 = .ok (.goto 4, 3) := by decide +kernel
theorem d_Mod_isPlainText_28 : decode b_Mod_isPlainText 28 = .ok (.iconst 0, 1) := by decide +kernel
theorem d_Mod_isPlainText_29 : decode b_Mod_isPlainText 29 = .ok (.ireturn, 1) := by decide +kernel
theorem d_Mod_isQuote_0 : decode b_Mod_isQuote 0 = .ok (.aload_n 0, 1) := by decide +kernel
theorem d_Mod_isQuote_1 : decode b_Mod_isQuote 1 = .ok (.iload_n 1, 1) := by decide +kernel
theorem d_Mod_isQuote_2 : decode b_Mod_isQuote 2 = .ok (.iload_n 2, 1) := by decide +kernel
theorem d_Mod_isQuote_3 : decode b_Mod_isQuote 3 = .ok (.invokevirtual 466, 3) := by decide +kernel
theorem d_Mod_isQuote_6 : decode b_Mod_isQuote 6 = .ok (.istore_n 3, 1) := by decide +kernel
theorem d_Mod_isQuote_7 : decode b_Mod_isQuote 7 = .ok (.iload_n 3, 1) := by decide +kernel
theorem d_Mod_isQuote_8 : decode b_Mod_isQuote 8 = .ok (.ifCond .le 12, 3) := by decide +kernel
theorem d_Mod_isQuote_11 : decode b_Mod_isQuote 11 = .ok (.iload_n 3, 1) := by decide +kernel
theorem d_Mod_isQuote_12 : decode b_Mod_isQuote 12 = .ok (.iconst 5, 1) := by decide +kernel
theorem d_Mod_isQuote_13 : decode b_Mod_isQuote 13 = .ok (.if_icmp .ge 7, 3) := by decide +kernel
theorem d_Mod_isQuote_16 : decode b_Mod_isQuote 16 = .ok (.iconst 1, 1) := by decide +kernel
theorem d_Mod_isQuote_17 : decode b_Mod_isQuote 17 = .ok (.goto 4, 3) := by decide +kernel
theorem d_Mod_isQuote_20 : decode b_Mod_isQuote 20 = .ok (.iconst 0, 1) := by decide +kernel
theorem d_Mod_isQuote_21 : decode b_Mod_isQuote 21 = .ok (.istore 4, 2) := by decide +kernel
theorem d_Mod_isQuote_23 : decode b_Mod_isQuote 23 = .ok (.iconst 0, 1) := by decide +kernel
theorem d_Mod_isQuote_24 : decode b_Mod_isQuote 24 = .ok (.istore 5, 2) := by decide +kernel
theorem d_Mod_isQuote_26 : decode b_Mod_isQuote 26 = .ok (.iload 5, 2) := by decide +kernel
theorem d_Mod_isQuote_28 : decode b_Mod_isQuote 28 = .ok (.iload_n 3, 1) := by decide +kernel
theorem d_Mod_isQuote_29 : decode b_Mod_isQuote 29 = .ok (.if_icmp .ge 100, 3) := by decide +kernel
theorem d_Mod_isQuote_32 : decode b_Mod_isQuote 32 = .ok (.iload 4, 2) := by decide +kernel
theorem d_Mod_isQuote_34 : decode b_Mod_isQuote 34 = .ok (.ifCond .eq 95, 3) := by decide +kernel
theorem d_Mod_isQuote_37 : decode b_Mod_isQuote 37 = .ok (.aload_n 0, 1) := by decide +kernel
theorem d_Mod_isQuote_38 : decode b_Mod_isQuote 38 = .ok (.getfield 72, 3) := by decide +kernel
theorem d_Mod_isQuote_41 : decode b_Mod_isQuote 41 = .ok (.aload_n 0, 1) := by decide +kernel
theorem d_Mod_isQuote_42 : decode b_Mod_isQuote 42 = .ok (.iload_n 1, 1) := by decide +kernel
theorem d_Mod_isQuote_43 : decode b_Mod_isQuote 43 = .ok (.iload_n 2, 1) := by decide +kernel
theorem d_Mod_isQuote_44 : decode b_Mod_isQuote 44 = .ok (.invokevirtual 462, 3) := by decide +kernel
theorem d_Mod_isQuote_47 : decode b_Mod_isQuote 47 = .ok (.iload 5, 2) := by decide +kernel
theorem d_Mod_isQuote_49 : decode b_Mod_isQuote 49 = .ok (.iadd, 1) := by decide +kernel
theorem d_Mod_isQuote_50 : decode b_Mod_isQuote 50 = .ok (.baload, 1) := by decide +kernel
theorem d_Mod_isQuote_51 : decode b_Mod_isQuote 51 = .ok (.sipush 255, 3) := by decide +kernel
theorem d_Mod_isQuote_54 : decode b_Mod_isQuote 54 = .ok (.iand, 1) := by decide +kernel
theorem d_Mod_isQuote_55 : decode b_Mod_isQuote 55 = .ok (.istore 6, 2) := by decide +kernel
theorem d_Mod_isQuote_57 : decode b_Mod_isQuote 57 = .ok (.iload 6, 2) := by decide +kernel
theorem d_Mod_isQuote_59 : decode b_Mod_isQuote 59 = .ok (.invokestatic 326, 3) := by decide +kernel
theorem d_Mod_isQuote_62 : decode b_Mod_isQuote 62 = .ok (.ifCond .ne 58, 3) := by decide +kernel
theorem d_Mod_isQuote_65 : decode b_Mod_isQuote 65 = .ok (.iload 6, 2) := by decide +kernel
theorem d_Mod_isQuote_67 : decode b_Mod_isQuote 67 = .ok (.invokestatic 330, 3) := by decide +kernel
theorem d_Mod_isQuote_70 : decode b_Mod_isQuote 70 = .ok (.ifCond .ne 50, 3) := by decide +kernel
theorem d_Mod_isQuote_73 : decode b_Mod_isQuote 73 = .ok (.iload 6, 2) := by decide +kernel
theorem d_Mod_isQuote_75 : decode b_Mod_isQuote 75 = .ok (.invokestatic 456, 3) := by decide +kernel
theorem d_Mod_isQuote_78 : decode b_Mod_isQuote 78 = .ok (.ifCond .ne 42, 3) := by decide +kernel
theorem d_Mod_isQuote_81 : decode b_Mod_isQuote 81 = .ok (.iload 6, 2) := by decide +kernel
theorem d_Mod_isQuote_83 : decode b_Mod_isQuote 83 = .ok (.bipush 10, 2) := by decide +kernel
theorem d_Mod_isQuote_85 : decode b_Mod_isQuote 85 = .ok (.if_icmp .eq 35, 3) := by decide +kernel
theorem d_Mod_isQuote_88 : decode b_Mod_isQuote 88 = .ok (.iload 6, 2) := by decide +kernel
theorem d_Mod_isQuote_90 : decode b_Mod_isQuote 90 = .ok (.bipush 35, 2) := by decide +kernel
theorem d_Mod_isQuote_92 : decode b_Mod_isQuote 92 = .ok (.if_icmp .eq 28, 3) := by decide +kernel
theorem d_Mod_isQuote_95 : decode b_Mod_isQuote 95 = .ok (.iload 6, 2) := by decide +kernel
theorem d_Mod_isQuote_97 : decode b_Mod_isQuote 97 = .ok (.bipush 40, 2) := by decide +kernel
theorem d_Mod_isQuote_99 : decode b_Mod_isQuote 99 = .ok (.if_icmp .eq 21, 3) := by decide +kernel
theorem d_Mod_isQuote_102 : decode b_Mod_isQuote 102 = .ok (.iload 6, 2) := by decide +kernel
theorem d_Mod_isQuote_104 : decode b_Mod_isQuote 104 = .ok (.bipush 41, 2) := by decide +kernel
theorem d_Mod_isQuote_106 : decode b_Mod_isQuote 106 = .ok (.if_icmp .eq 14, 3) := by decide +kernel
theorem d_Mod_isQuote_109 : decode b_Mod_isQuote 109 = .ok (.iload 6, 2) := by decide +kernel
theorem d_Mod_isQuote_111 : decode b_Mod_isQuote 111 = .ok (.bipush 44, 2) := by decide +kernel
theorem d_Mod_isQuote_113 : decode b_Mod_isQuote 113 = .ok (.if_icmp .eq 7, 3) := by decide +kernel
theorem d_Mod_isQuote_116 : decode b_Mod_isQuote 116 = .ok (.iconst 1, 1) := by decide +kernel
theorem d_Mod_isQuote_117 : decode b_Mod_isQuote 117 = .ok (.goto 4, 3) := by decide +kernel
theorem d_Mod_isQuote_120 : decode b_Mod_isQuote 120 = .ok (.iconst 0, 1) := by decide +kernel
theorem d_Mod_isQuote_121 : decode b_Mod_isQuote 121 = .ok (.istore 4, 2) := by decide +kernel
theorem d_Mod_isQuote_123 : decode b_Mod_isQuote 123 = .ok (.iinc 5 1, 3) := by decide +kernel
theorem d_Mod_isQuote_126 : decode b_Mod_isQuote 126 = .ok (.goto (-100), 3) := by decide +kernel
theorem d_Mod_isQuote_129 : decode b_Mod_isQuote 129 = .ok (.iload 4, 2) := by decide +kernel
theorem d_Mod_isQuote_131 : decode b_Mod_isQuote 131 = .ok (.ireturn, 1) := by decide +kernel
theorem d_Mod_isSpelledAs_0 : decode b_Mod_isSpelledAs 0 = .ok (.aload_n 0, 1) := by decide +kernel
theorem d_Mod_isSpelledAs_1 : decode b_Mod_isSpelledAs 1 = .ok (.getfield 102, 3) := by decide +kernel
theorem d_Mod_isSpelledAs_4 : decode b_Mod_isSpelledAs 4 = .ok (.iload_n 1, 1) := by decide +kernel
theorem d_Mod_isSpelledAs_5 : decode b_Mod_isSpelledAs 5 = .ok (.iaload, 1) := by decide +kernel
theorem d_Mod_isSpelledAs_6 : decode b_Mod_isSpelledAs 6 = .ok (.iload_n 3, 1) := by decide +kernel
theorem d_Mod_isSpelledAs_7 : decode b_Mod_isSpelledAs 7 = .ok (.if_icmp .ne 7, 3) := by decide +kernel
theorem d_Mod_isSpelledAs_10 : decode b_Mod_isSpelledAs 10 = .ok (.iconst 1, 1) := by decide +kernel
theorem d_Mod_isSpelledAs_11 : decode b_Mod_isSpelledAs 11 = .ok (.goto 4, 3) := by decide +kernel
theorem d_Mod_isSpelledAs_14 : decode b_Mod_isSpelledAs 14 = .ok (.iconst 0, 1) := by decide +kernel
theorem d_Mod_isSpelledAs_15 : decode b_Mod_isSpelledAs 15 = .ok (.istore 4, 2) := by decide +kernel
theorem d_Mod_isSpelledAs_17 : decode b_Mod_isSpelledAs 17 = .ok (.iconst 0, 1) := by decide +kernel
theorem d_Mod_isSpelledAs_18 : decode b_Mod_isSpelledAs 18 = .ok (.istore 5, 2) := by decide +kernel
theorem d_Mod_isSpelledAs_20 : decode b_Mod_isSpelledAs 20 = .ok (.iload 5, 2) := by decide +kernel
theorem d_Mod_isSpelledAs_22 : decode b_Mod_isSpelledAs 22 = .ok (.iload_n 3, 1) := by decide +kernel
theorem d_Mod_isSpelledAs_23 : decode b_Mod_isSpelledAs 23 = .ok (.if_icmp .ge 47, 3) := by decide +kernel
theorem d_Mod_isSpelledAs_26 : decode b_Mod_isSpelledAs 26 = .ok (.iload 4, 2) := by decide +kernel
theorem d_Mod_isSpelledAs_28 : decode b_Mod_isSpelledAs 28 = .ok (.ifCond .eq 42, 3) := by decide +kernel
theorem d_Mod_isSpelledAs_31 : decode b_Mod_isSpelledAs 31 = .ok (.aload_n 0, 1) := by decide +kernel
theorem d_Mod_isSpelledAs_32 : decode b_Mod_isSpelledAs 32 = .ok (.getfield 85, 3) := by decide +kernel
theorem d_Mod_isSpelledAs_35 : decode b_Mod_isSpelledAs 35 = .ok (.aload_n 0, 1) := by decide +kernel
theorem d_Mod_isSpelledAs_36 : decode b_Mod_isSpelledAs 36 = .ok (.getfield 99, 3) := by decide +kernel
theorem d_Mod_isSpelledAs_39 : decode b_Mod_isSpelledAs 39 = .ok (.iload_n 1, 1) := by decide +kernel
theorem d_Mod_isSpelledAs_40 : decode b_Mod_isSpelledAs 40 = .ok (.iaload, 1) := by decide +kernel
theorem d_Mod_isSpelledAs_41 : decode b_Mod_isSpelledAs 41 = .ok (.iload 5, 2) := by decide +kernel
theorem d_Mod_isSpelledAs_43 : decode b_Mod_isSpelledAs 43 = .ok (.iadd, 1) := by decide +kernel
theorem d_Mod_isSpelledAs_44 : decode b_Mod_isSpelledAs 44 = .ok (.baload, 1) := by decide +kernel
theorem d_Mod_isSpelledAs_45 : decode b_Mod_isSpelledAs 45 = .ok (.aload_n 0, 1) := by decide +kernel
theorem d_Mod_isSpelledAs_46 : decode b_Mod_isSpelledAs 46 = .ok (.getfield 85, 3) := by decide +kernel
theorem d_Mod_isSpelledAs_49 : decode b_Mod_isSpelledAs 49 = .ok (.iload_n 2, 1) := by decide +kernel
theorem d_Mod_isSpelledAs_50 : decode b_Mod_isSpelledAs 50 = .ok (.iload 5, 2) := by decide +kernel
theorem d_Mod_isSpelledAs_52 : decode b_Mod_isSpelledAs 52 = .ok (.iadd, 1) := by decide +kernel
theorem d_Mod_isSpelledAs_53 : decode b_Mod_isSpelledAs 53 = .ok (.baload, 1) := by decide +kernel
theorem d_Mod_isSpelledAs_54 : decode b_Mod_isSpelledAs 54 = .ok (.if_icmp .ne 7, 3) := by decide +kernel
theorem d_Mod_isSpelledAs_57 : decode b_Mod_isSpelledAs 57 = .ok (.iconst 1, 1) := by decide +kernel
theorem d_Mod_isSpelledAs_58 : decode b_Mod_isSpelledAs 58 = .ok (.goto 4, 3) := by decide +kernel
theorem d_Mod_isSpelledAs_61 : decode b_Mod_isSpelledAs 61 = .ok (.iconst 0, 1) := by decide +kernel
theorem d_Mod_isSpelledAs_62 : decode b_Mod_isSpelledAs 62 = .ok (.istore 4, 2) := by decide +kernel
theorem d_Mod_isSpelledAs_64 : decode b_Mod_isSpelledAs 64 = .ok (.iinc 5 1, 3) := by decide +kernel
theorem d_Mod_isSpelledAs_67 : decode b_Mod_isSpelledAs 67 = .ok (.goto (-47), 3) := by decide +kernel
theorem d_Mod_isSpelledAs_70 : decode b_Mod_isSpelledAs 70 = .ok (.iload 4, 2) := by decide +kernel
theorem d_Mod_isSpelledAs_72 : decode b_Mod_isSpelledAs 72 = .ok (.ireturn, 1) := by decide +kernel
theorem d_Mod_join_0 : decode b_Mod_join 0 = .ok (.iload 6, 2) := by decide +kernel
theorem d_Mod_join_2 : decode b_Mod_join 2 = .ok (.ifCond .ne 10, 3) := by decide +kernel
theorem d_Mod_join_5 : decode b_Mod_join 5 = .ok (.aload_n 0, 1) := by decide +kernel
theorem d_Mod_join_6 : decode b_Mod_join 6 = .ok (.getfield 973, 3) := by decide +kernel
theorem d_Mod_join_9 : decode b_Mod_join 9 = .ok (.ifCond .eq 7, 3) := by decide +kernel
theorem d_Mod_join_12 : decode b_Mod_join 12 = .ok (.iconst 1, 1) := by decide +kernel
theorem d_Mod_join_13 : decode b_Mod_join 13 = .ok (.goto 4, 3) := by decide +kernel
theorem d_Mod_join_16 : decode b_Mod_join 16 = .ok (.iconst 0, 1) := by decide +kernel
theorem d_Mod_join_17 : decode b_Mod_join 17 = .ok (.istore 8, 2) := by decide +kernel
theorem d_Mod_join_19 : decode b_Mod_join 19 = .ok (.iload 6, 2) := by decide +kernel
theorem d_Mod_join_21 : decode b_Mod_join 21 = .ok (.istore 9, 2) := by decide +kernel
theorem d_Mod_join_23 : decode b_Mod_join 23 = .ok (.aload_n 0, 1) := by decide +kernel
theorem d_Mod_join_24 : decode b_Mod_join 24 = .ok (.iload_n 1, 1) := by decide +kernel
theorem d_Mod_join_25 : decode b_Mod_join 25 = .ok (.iconst 2, 1) := by decide +kernel
theorem d_Mod_join_26 : decode b_Mod_join 26 = .ok (.if_icmp .lt 14, 3) := by decide +kernel
theorem d_Mod_join_29 : decode b_Mod_join 29 = .ok (.iload_n 1, 1) := by decide +kernel
theorem d_Mod_join_30 : decode b_Mod_join 30 = .ok (.iconst 4, 1) := by decide +kernel
theorem d_Mod_join_31 : decode b_Mod_join 31 = .ok (.if_icmp .le 13, 3) := by decide +kernel
theorem d_Mod_join_34 : decode b_Mod_join 34 = .ok (.iload_n 1, 1) := by decide +kernel
theorem d_Mod_join_35 : decode b_Mod_join 35 = .ok (.bipush 11, 2) := by decide +kernel
theorem d_Mod_join_37 : decode b_Mod_join 37 = .ok (.if_icmp .ge 7, 3) := by decide +kernel
theorem d_Mod_join_40 : decode b_Mod_join 40 = .ok (.iconst 0, 1) := by decide +kernel
theorem d_Mod_join_41 : decode b_Mod_join 41 = .ok (.goto 22, 3) := by decide +kernel
theorem d_Mod_join_44 : decode b_Mod_join 44 = .ok (.iload_n 1, 1) := by decide +kernel
theorem d_Mod_join_45 : decode b_Mod_join 45 = .ok (.bipush 11, 2) := by decide +kernel
theorem d_Mod_join_47 : decode b_Mod_join 47 = .ok (.if_icmp .eq 9, 3) := by decide +kernel
theorem d_Mod_join_50 : decode b_Mod_join 50 = .ok (.iload_n 1, 1) := by decide +kernel
theorem d_Mod_join_51 : decode b_Mod_join 51 = .ok (.bipush 12, 2) := by decide +kernel
theorem d_Mod_join_53 : decode b_Mod_join 53 = .ok (.if_icmp .ne 8, 3) := by decide +kernel
theorem d_Mod_join_56 : decode b_Mod_join 56 = .ok (.iload 9, 2) := by decide +kernel
theorem d_Mod_join_58 : decode b_Mod_join 58 = .ok (.goto 5, 3) := by decide +kernel
theorem d_Mod_join_61 : decode b_Mod_join 61 = .ok (.iload 8, 2) := by decide +kernel
theorem d_Mod_join_63 : decode b_Mod_join 63 = .ok (.putfield 973, 3) := by decide +kernel
theorem d_Mod_join_66 : decode b_Mod_join 66 = .ok (.iload 8, 2) := by decide +kernel
theorem d_Mod_join_68 : decode b_Mod_join 68 = .ok (.ifCond .eq 26, 3) := by decide +kernel
theorem d_Mod_join_71 : decode b_Mod_join 71 = .ok (.lload_n 2, 1) := by decide +kernel
theorem d_Mod_join_72 : decode b_Mod_join 72 = .ok (.ldc2_w 1043, 3) := by decide +kernel
theorem d_Mod_join_75 : decode b_Mod_join 75 = .ok (.ladd, 1) := by decide +kernel
theorem d_Mod_join_76 : decode b_Mod_join 76 = .ok (.lload 4, 2) := by decide +kernel
theorem d_Mod_join_78 : decode b_Mod_join 78 = .ok (.ldc2_w 1043, 3) := by decide +kernel
theorem d_Mod_join_81 : decode b_Mod_join 81 = .ok (.ladd, 1) := by decide +kernel
theorem d_Mod_join_82 : decode b_Mod_join 82 = .ok (.lcmp, 1) := by decide +kernel
theorem d_Mod_join_83 : decode b_Mod_join 83 = .ok (.ifCond .ge 7, 3) := by decide +kernel
theorem d_Mod_join_86 : decode b_Mod_join 86 = .ok (.iconst 1, 1) := by decide +kernel
theorem d_Mod_join_87 : decode b_Mod_join 87 = .ok (.goto 19, 3) := by decide +kernel
theorem d_Mod_join_90 : decode b_Mod_join 90 = .ok (.iconst 0, 1) := by decide +kernel
theorem d_Mod_join_91 : decode b_Mod_join 91 = .ok (.goto 15, 3) := by decide +kernel
theorem d_Mod_join_94 : decode b_Mod_join 94 = .ok (.lload_n 2, 1) := by decide +kernel
theorem d_Mod_join_95 : decode b_Mod_join 95 = .ok (.lload 4, 2) := by decide +kernel
theorem d_Mod_join_97 : decode b_Mod_join 97 = .ok (.lcmp, 1) := by decide +kernel
theorem d_Mod_join_98 : decode b_Mod_join 98 = .ok (.ifCond .ge 7, 3) := by decide +kernel
theorem d_Mod_join_101 : decode b_Mod_join 101 = .ok (.iconst 1, 1) := by decide +kernel
theorem d_Mod_join_102 : decode b_Mod_join 102 = .ok (.goto 4, 3) := by decide +kernel
theorem d_Mod_join_105 : decode b_Mod_join 105 = .ok (.iconst 0, 1) := by decide +kernel
theorem d_Mod_join_106 : decode b_Mod_join 106 = .ok (.istore 10, 2) := by decide +kernel
theorem d_Mod_join_108 : decode b_Mod_join 108 = .ok (.iload_n 1, 1) := by decide +kernel
theorem d_Mod_join_109 : decode b_Mod_join 109 = .ok (.tableswitch 268 0 15 #[79, 98, 117, 122, 127, 132, 145, 158, 169, 187, 205, 216, 226, 253, 258, 263], 79) := by decide +kernel
theorem d_Mod_join_188 : decode b_Mod_join 188 = .ok (.lload_n 2, 1) := by decide +kernel
theorem d_Mod_join_189 : decode b_Mod_join 189 = .ok (.lconst 0, 1) := by decide +kernel
theorem d_Mod_join_190 : decode b_Mod_join 190 = .ok (.lcmp, 1) := by decide +kernel
theorem d_Mod_join_191 : decode b_Mod_join 191 = .ok (.ifCond .ne 10, 3) := by decide +kernel
theorem d_Mod_join_194 : decode b_Mod_join 194 = .ok (.lload 4, 2) := by decide +kernel
theorem d_Mod_join_196 : decode b_Mod_join 196 = .ok (.lconst 0, 1) := by decide +kernel
theorem d_Mod_join_197 : decode b_Mod_join 197 = .ok (.lcmp, 1) := by decide +kernel
theorem d_Mod_join_198 : decode b_Mod_join 198 = .ok (.ifCond .eq 7, 3) := by decide +kernel
theorem d_Mod_join_201 : decode b_Mod_join 201 = .ok (.lconst 1, 1) := by decide +kernel
theorem d_Mod_join_202 : decode b_Mod_join 202 = .ok (.goto 4, 3) := by decide +kernel
theorem d_Mod_join_205 : decode b_Mod_join 205 = .ok (.lconst 0, 1) := by decide +kernel
theorem d_Mod_join_206 : decode b_Mod_join 206 = .ok (.lreturn, 1) := by decide +kernel
theorem d_Mod_join_207 : decode b_Mod_join 207 = .ok (.lload_n 2, 1) := by decide +kernel
theorem d_Mod_join_208 : decode b_Mod_join 208 = .ok (.lconst 0, 1) := by decide +kernel
theorem d_Mod_join_209 : decode b_Mod_join 209 = .ok (.lcmp, 1) := by decide +kernel
theorem d_Mod_join_210 : decode b_Mod_join 210 = .ok (.ifCond .eq 14, 3) := by decide +kernel
theorem d_Mod_join_213 : decode b_Mod_join 213 = .ok (.lload 4, 2) := by decide +kernel
theorem d_Mod_join_215 : decode b_Mod_join 215 = .ok (.lconst 0, 1) := by decide +kernel
theorem d_Mod_join_216 : decode b_Mod_join 216 = .ok (.lcmp, 1) := by decide +kernel
theorem d_Mod_join_217 : decode b_Mod_join 217 = .ok (.ifCond .eq 7, 3) := by decide +kernel
theorem d_Mod_join_220 : decode b_Mod_join 220 = .ok (.lconst 1, 1) := by decide +kernel
theorem d_Mod_join_221 : decode b_Mod_join 221 = .ok (.goto 4, 3) := by decide +kernel
theorem d_Mod_join_224 : decode b_Mod_join 224 = .ok (.lconst 0, 1) := by decide +kernel
theorem d_Mod_join_225 : decode b_Mod_join 225 = .ok (.lreturn, 1) := by decide +kernel
theorem d_Mod_join_226 : decode b_Mod_join 226 = .ok (.lload_n 2, 1) := by decide +kernel
theorem d_Mod_join_227 : decode b_Mod_join 227 = .ok (.lload 4, 2) := by decide +kernel
theorem d_Mod_join_229 : decode b_Mod_join 229 = .ok (.lor, 1) := by decide +kernel
theorem d_Mod_join_230 : decode b_Mod_join 230 = .ok (.lreturn, 1) := by decide +kernel
theorem d_Mod_join_231 : decode b_Mod_join 231 = .ok (.lload_n 2, 1) := by decide +kernel
theorem d_Mod_join_232 : decode b_Mod_join 232 = .ok (.lload 4, 2) := by decide +kernel
theorem d_Mod_join_234 : decode b_Mod_join 234 = .ok (.lxor, 1) := by decide +kernel
theorem d_Mod_join_235 : decode b_Mod_join 235 = .ok (.lreturn, 1) := by decide +kernel
theorem d_Mod_join_236 : decode b_Mod_join 236 = .ok (.lload_n 2, 1) := by decide +kernel
theorem d_Mod_join_237 : decode b_Mod_join 237 = .ok (.lload 4, 2) := by decide +kernel
theorem d_Mod_join_239 : decode b_Mod_join 239 = .ok (.land, 1) := by decide +kernel
theorem d_Mod_join_240 : decode b_Mod_join 240 = .ok (.lreturn, 1) := by decide +kernel
theorem d_Mod_join_241 : decode b_Mod_join 241 = .ok (.lload_n 2, 1) := by decide +kernel
theorem d_Mod_join_242 : decode b_Mod_join 242 = .ok (.lload 4, 2) := by decide +kernel
theorem d_Mod_join_244 : decode b_Mod_join 244 = .ok (.lcmp, 1) := by decide +kernel
theorem d_Mod_join_245 : decode b_Mod_join 245 = .ok (.ifCond .ne 7, 3) := by decide +kernel
theorem d_Mod_join_248 : decode b_Mod_join 248 = .ok (.lconst 1, 1) := by decide +kernel
theorem d_Mod_join_249 : decode b_Mod_join 249 = .ok (.goto 4, 3) := by decide +kernel
theorem d_Mod_join_252 : decode b_Mod_join 252 = .ok (.lconst 0, 1) := by decide +kernel
theorem d_Mod_join_253 : decode b_Mod_join 253 = .ok (.lreturn, 1) := by decide +kernel
theorem d_Mod_join_254 : decode b_Mod_join 254 = .ok (.lload_n 2, 1) := by decide +kernel
theorem d_Mod_join_255 : decode b_Mod_join 255 = .ok (.lload 4, 2) := by decide +kernel
theorem d_Mod_join_257 : decode b_Mod_join 257 = .ok (.lcmp, 1) := by decide +kernel
theorem d_Mod_join_258 : decode b_Mod_join 258 = .ok (.ifCond .eq 7, 3) := by decide +kernel
theorem d_Mod_join_261 : decode b_Mod_join 261 = .ok (.lconst 1, 1) := by decide +kernel
theorem d_Mod_join_262 : decode b_Mod_join 262 = .ok (.goto 4, 3) := by decide +kernel
theorem d_Mod_join_265 : decode b_Mod_join 265 = .ok (.lconst 0, 1) := by decide +kernel
theorem d_Mod_join_266 : decode b_Mod_join 266 = .ok (.lreturn, 1) := by decide +kernel
theorem d_Mod_join_267 : decode b_Mod_join 267 = .ok (.iload 10, 2) := by decide +kernel
theorem d_Mod_join_269 : decode b_Mod_join 269 = .ok (.ifCond .eq 7, 3) := by decide +kernel
theorem d_Mod_join_272 : decode b_Mod_join 272 = .ok (.lconst 1, 1) := by decide +kernel
theorem d_Mod_join_273 : decode b_Mod_join 273 = .ok (.goto 4, 3) := by decide +kernel
theorem d_Mod_join_276 : decode b_Mod_join 276 = .ok (.lconst 0, 1) := by decide +kernel
theorem d_Mod_join_277 : decode b_Mod_join 277 = .ok (.lreturn, 1) := by decide +kernel
theorem d_Mod_join_278 : decode b_Mod_join 278 = .ok (.iload 10, 2) := by decide +kernel
theorem d_Mod_join_280 : decode b_Mod_join 280 = .ok (.ifCond .ne 14, 3) := by decide +kernel
theorem d_Mod_join_283 : decode b_Mod_join 283 = .ok (.lload_n 2, 1) := by decide +kernel
theorem d_Mod_join_284 : decode b_Mod_join 284 = .ok (.lload 4, 2) := by decide +kernel
theorem d_Mod_join_286 : decode b_Mod_join 286 = .ok (.lcmp, 1) := by decide +kernel
theorem d_Mod_join_287 : decode b_Mod_join 287 = .ok (.ifCond .eq 7, 3) := by decide +kernel
theorem d_Mod_join_290 : decode b_Mod_join 290 = .ok (.lconst 1, 1) := by decide +kernel
theorem d_Mod_join_291 : decode b_Mod_join 291 = .ok (.goto 4, 3) := by decide +kernel
theorem d_Mod_join_294 : decode b_Mod_join 294 = .ok (.lconst 0, 1) := by decide +kernel
theorem d_Mod_join_295 : decode b_Mod_join 295 = .ok (.lreturn, 1) := by decide +kernel
theorem d_Mod_join_296 : decode b_Mod_join 296 = .ok (.iload 10, 2) := by decide +kernel
theorem d_Mod_join_298 : decode b_Mod_join 298 = .ok (.ifCond .ne 10, 3) := by decide +kernel
theorem d_Mod_join_301 : decode b_Mod_join 301 = .ok (.lload_n 2, 1) := by decide +kernel
theorem d_Mod_join_302 : decode b_Mod_join 302 = .ok (.lload 4, 2) := by decide +kernel
theorem d_Mod_join_304 : decode b_Mod_join 304 = .ok (.lcmp, 1) := by decide +kernel
theorem d_Mod_join_305 : decode b_Mod_join 305 = .ok (.ifCond .ne 7, 3) := by decide +kernel
theorem d_Mod_join_308 : decode b_Mod_join 308 = .ok (.lconst 1, 1) := by decide +kernel
theorem d_Mod_join_309 : decode b_Mod_join 309 = .ok (.goto 4, 3) := by decide +kernel
theorem d_Mod_join_312 : decode b_Mod_join 312 = .ok (.lconst 0, 1) := by decide +kernel
theorem d_Mod_join_313 : decode b_Mod_join 313 = .ok (.lreturn, 1) := by decide +kernel
theorem d_Mod_join_314 : decode b_Mod_join 314 = .ok (.iload 10, 2) := by decide +kernel
theorem d_Mod_join_316 : decode b_Mod_join 316 = .ok (.ifCond .eq 7, 3) := by decide +kernel
theorem d_Mod_join_319 : decode b_Mod_join 319 = .ok (.lconst 0, 1) := by decide +kernel
theorem d_Mod_join_320 : decode b_Mod_join 320 = .ok (.goto 4, 3) := by decide +kernel
theorem d_Mod_join_323 : decode b_Mod_join 323 = .ok (.lconst 1, 1) := by decide +kernel
theorem d_Mod_join_324 : decode b_Mod_join 324 = .ok (.lreturn, 1) := by decide +kernel
theorem d_Mod_join_325 : decode b_Mod_join 325 = .ok (.lload_n 2, 1) := by decide +kernel
theorem d_Mod_join_326 : decode b_Mod_join 326 = .ok (.lload 4, 2) := by decide +kernel
theorem d_Mod_join_328 : decode b_Mod_join 328 = .ok (.ldc2_w 1045, 3) := by decide +kernel
theorem d_Mod_join_331 : decode b_Mod_join 331 = .ok (.land, 1) := by decide +kernel
theorem d_Mod_join_332 : decode b_Mod_join 332 = .ok (.l2i, 1) := by decide +kernel
theorem d_Mod_join_333 : decode b_Mod_join 333 = .ok (.lshl, 1) := by decide +kernel
theorem d_Mod_join_334 : decode b_Mod_join 334 = .ok (.lreturn, 1) := by decide +kernel
theorem d_Mod_join_335 : decode b_Mod_join 335 = .ok (.iload 9, 2) := by decide +kernel
theorem d_Mod_join_337 : decode b_Mod_join 337 = .ok (.ifCond .eq 15, 3) := by decide +kernel
theorem d_Mod_join_340 : decode b_Mod_join 340 = .ok (.lload_n 2, 1) := by decide +kernel
theorem d_Mod_join_341 : decode b_Mod_join 341 = .ok (.lload 4, 2) := by decide +kernel
theorem d_Mod_join_343 : decode b_Mod_join 343 = .ok (.ldc2_w 1045, 3) := by decide +kernel
theorem d_Mod_join_346 : decode b_Mod_join 346 = .ok (.land, 1) := by decide +kernel
theorem d_Mod_join_347 : decode b_Mod_join 347 = .ok (.l2i, 1) := by decide +kernel
theorem d_Mod_join_348 : decode b_Mod_join 348 = .ok (.lushr, 1) := by decide +kernel
theorem d_Mod_join_349 : decode b_Mod_join 349 = .ok (.goto 12, 3) := by decide +kernel
theorem d_Mod_join_352 : decode b_Mod_join 352 = .ok (.lload_n 2, 1) := by decide +kernel
theorem d_Mod_join_353 : decode b_Mod_join 353 = .ok (.lload 4, 2) := by decide +kernel
theorem d_Mod_join_355 : decode b_Mod_join 355 = .ok (.ldc2_w 1045, 3) := by decide +kernel
theorem d_Mod_join_358 : decode b_Mod_join 358 = .ok (.land, 1) := by decide +kernel
theorem d_Mod_join_359 : decode b_Mod_join 359 = .ok (.l2i, 1) := by decide +kernel
theorem d_Mod_join_360 : decode b_Mod_join 360 = .ok (.lshr, 1) := by decide +kernel
theorem d_Mod_join_361 : decode b_Mod_join 361 = .ok (.lreturn, 1) := by decide +kernel
theorem d_Mod_join_362 : decode b_Mod_join 362 = .ok (.lload_n 2, 1) := by decide +kernel
theorem d_Mod_join_363 : decode b_Mod_join 363 = .ok (.lload 4, 2) := by decide +kernel
theorem d_Mod_join_365 : decode b_Mod_join 365 = .ok (.ladd, 1) := by decide +kernel
theorem d_Mod_join_366 : decode b_Mod_join 366 = .ok (.lreturn, 1) := by decide +kernel
theorem d_Mod_join_367 : decode b_Mod_join 367 = .ok (.lload_n 2, 1) := by decide +kernel
theorem d_Mod_join_368 : decode b_Mod_join 368 = .ok (.lload 4, 2) := by decide +kernel
theorem d_Mod_join_370 : decode b_Mod_join 370 = .ok (.lsub, 1) := by decide +kernel
theorem d_Mod_join_371 : decode b_Mod_join 371 = .ok (.lreturn, 1) := by decide +kernel
theorem d_Mod_join_372 : decode b_Mod_join 372 = .ok (.lload_n 2, 1) := by decide +kernel
theorem d_Mod_join_373 : decode b_Mod_join 373 = .ok (.lload 4, 2) := by decide +kernel
theorem d_Mod_join_375 : decode b_Mod_join 375 = .ok (.lmul, 1) := by decide +kernel
theorem d_Mod_join_376 : decode b_Mod_join 376 = .ok (.lreturn, 1) := by decide +kernel
theorem d_Mod_join_377 : decode b_Mod_join 377 = .ok (.aload_n 0, 1) := by decide +kernel
theorem d_Mod_join_378 : decode b_Mod_join 378 = .ok (.aload_n 0, 1) := by decide +kernel
theorem d_Mod_join_379 : decode b_Mod_join 379 = .ok (.getfield 951, 3) := by decide +kernel
theorem d_Mod_join_382 : decode b_Mod_join 382 = .ok (.ifCond .ne 15, 3) := by decide +kernel
theorem d_Mod_join_385 : decode b_Mod_join 385 = .ok (.iload 7, 2) := by decide +kernel
theorem d_Mod_join_387 : decode b_Mod_join 387 = .ok (.ifCond .eq 14, 3) := by decide +kernel
theorem d_Mod_join_390 : decode b_Mod_join 390 = .ok (.lload 4, 2) := by decide +kernel
theorem d_Mod_join_392 : decode b_Mod_join 392 = .ok (.lconst 0, 1) := by decide +kernel
theorem d_Mod_join_393 : decode b_Mod_join 393 = .ok (.lcmp, 1) := by decide +kernel
theorem d_Mod_join_394 : decode b_Mod_join 394 = .ok (.ifCond .ne 7, 3) := by decide +kernel
theorem d_Mod_join_397 : decode b_Mod_join 397 = .ok (.iconst 1, 1) := by decide +kernel
theorem d_Mod_join_398 : decode b_Mod_join 398 = .ok (.goto 4, 3) := by decide +kernel
theorem d_Mod_join_401 : decode b_Mod_join 401 = .ok (.iconst 0, 1) := by decide +kernel
theorem d_Mod_join_402 : decode b_Mod_join 402 = .ok (.putfield 951, 3) := by decide +kernel
theorem d_Mod_join_405 : decode b_Mod_join 405 = .ok (.lload 4, 2) := by decide +kernel
theorem d_Mod_join_407 : decode b_Mod_join 407 = .ok (.lconst 0, 1) := by decide +kernel
theorem d_Mod_join_408 : decode b_Mod_join 408 = .ok (.lcmp, 1) := by decide +kernel
theorem d_Mod_join_409 : decode b_Mod_join 409 = .ok (.ifCond .ne 7, 3) := by decide +kernel
theorem d_Mod_join_412 : decode b_Mod_join 412 = .ok (.lconst 0, 1) := by decide +kernel
theorem d_Mod_join_413 : decode b_Mod_join 413 = .ok (.goto 33, 3) := by decide +kernel
theorem d_Mod_join_416 : decode b_Mod_join 416 = .ok (.iload_n 1, 1) := by decide +kernel
theorem d_Mod_join_417 : decode b_Mod_join 417 = .ok (.bipush 16, 2) := by decide +kernel
theorem d_Mod_join_419 : decode b_Mod_join 419 = .ok (.if_icmp .ne 14, 3) := by decide +kernel
theorem d_Mod_join_422 : decode b_Mod_join 422 = .ok (.lload_n 2, 1) := by decide +kernel
theorem d_Mod_join_423 : decode b_Mod_join 423 = .ok (.lload 4, 2) := by decide +kernel
theorem d_Mod_join_425 : decode b_Mod_join 425 = .ok (.iload 8, 2) := by decide +kernel
theorem d_Mod_join_427 : decode b_Mod_join 427 = .ok (.invokestatic 1047, 3) := by decide +kernel
theorem d_Mod_join_430 : decode b_Mod_join 430 = .ok (.goto 16, 3) := by decide +kernel
theorem d_Mod_join_433 : decode b_Mod_join 433 = .ok (.lload_n 2, 1) := by decide +kernel
theorem d_Mod_join_434 : decode b_Mod_join 434 = .ok (.lload 4, 2) := by decide +kernel
theorem d_Mod_join_436 : decode b_Mod_join 436 = .ok (.lload_n 2, 1) := by decide +kernel
theorem d_Mod_join_437 : decode b_Mod_join 437 = .ok (.lload 4, 2) := by decide +kernel
theorem d_Mod_join_439 : decode b_Mod_join 439 = .ok (.iload 8, 2) := by decide +kernel
theorem d_Mod_join_441 : decode b_Mod_join 441 = .ok (.invokestatic 1047, 3) := by decide +kernel
theorem d_Mod_join_444 : decode b_Mod_join 444 = .ok (.lmul, 1) := by decide +kernel
theorem d_Mod_join_445 : decode b_Mod_join 445 = .ok (.lsub, 1) := by decide +kernel
theorem d_Mod_join_446 : decode b_Mod_join 446 = .ok (.lreturn, 1) := by decide +kernel
theorem d_Mod_kindOf_0 : decode b_Mod_kindOf 0 = .ok (.aload_n 0, 1) := by decide +kernel
theorem d_Mod_kindOf_1 : decode b_Mod_kindOf 1 = .ok (.iload_n 1, 1) := by decide +kernel
theorem d_Mod_kindOf_2 : decode b_Mod_kindOf 2 = .ok (.iconst 0, 1) := by decide +kernel
theorem d_Mod_kindOf_3 : decode b_Mod_kindOf 3 = .ok (.invokevirtual 585, 3) := by decide +kernel
theorem d_Mod_kindOf_6 : decode b_Mod_kindOf 6 = .ok (.istore_n 2, 1) := by decide +kernel
theorem d_Mod_kindOf_7 : decode b_Mod_kindOf 7 = .ok (.aload_n 0, 1) := by decide +kernel
theorem d_Mod_kindOf_8 : decode b_Mod_kindOf 8 = .ok (.getfield 102, 3) := by decide +kernel
theorem d_Mod_kindOf_11 : decode b_Mod_kindOf 11 = .ok (.iload_n 1, 1) := by decide +kernel
theorem d_Mod_kindOf_12 : decode b_Mod_kindOf 12 = .ok (.iaload, 1) := by decide +kernel
theorem d_Mod_kindOf_13 : decode b_Mod_kindOf 13 = .ok (.iconst 1, 1) := by decide +kernel
theorem d_Mod_kindOf_14 : decode b_Mod_kindOf 14 = .ok (.if_icmp .le 12, 3) := by decide +kernel
theorem d_Mod_kindOf_17 : decode b_Mod_kindOf 17 = .ok (.aload_n 0, 1) := by decide +kernel
theorem d_Mod_kindOf_18 : decode b_Mod_kindOf 18 = .ok (.iload_n 1, 1) := by decide +kernel
theorem d_Mod_kindOf_19 : decode b_Mod_kindOf 19 = .ok (.iconst 1, 1) := by decide +kernel
theorem d_Mod_kindOf_20 : decode b_Mod_kindOf 20 = .ok (.invokevirtual 585, 3) := by decide +kernel
theorem d_Mod_kindOf_23 : decode b_Mod_kindOf 23 = .ok (.goto 4, 3) := by decide +kernel
theorem d_Mod_kindOf_26 : decode b_Mod_kindOf 26 = .ok (.iconst (-1), 1) := by decide +kernel
theorem d_Mod_kindOf_27 : decode b_Mod_kindOf 27 = .ok (.istore_n 3, 1) := by decide +kernel
theorem d_Mod_kindOf_28 : decode b_Mod_kindOf 28 = .ok (.iload_n 2, 1) := by decide +kernel
theorem d_Mod_kindOf_29 : decode b_Mod_kindOf 29 = .ok (.bipush 76, 2) := by decide +kernel
theorem d_Mod_kindOf_31 : decode b_Mod_kindOf 31 = .ok (.if_icmp .ne 19, 3) := by decide +kernel
theorem d_Mod_kindOf_34 : decode b_Mod_kindOf 34 = .ok (.iload_n 3, 1) := by decide +kernel
theorem d_Mod_kindOf_35 : decode b_Mod_kindOf 35 = .ok (.bipush 34, 2) := by decide +kernel
theorem d_Mod_kindOf_37 : decode b_Mod_kindOf 37 = .ok (.if_icmp .eq 9, 3) := by decide +kernel
theorem d_Mod_kindOf_40 : decode b_Mod_kindOf 40 = .ok (.iload_n 3, 1) := by decide +kernel
theorem d_Mod_kindOf_41 : decode b_Mod_kindOf 41 = .ok (.bipush 39, 2) := by decide +kernel
theorem d_Mod_kindOf_43 : decode b_Mod_kindOf 43 = .ok (.if_icmp .ne 7, 3) := by decide +kernel
theorem d_Mod_kindOf_46 : decode b_Mod_kindOf 46 = .ok (.iload_n 3, 1) := by decide +kernel
theorem d_Mod_kindOf_47 : decode b_Mod_kindOf 47 = .ok (.goto 12, 3) := by decide +kernel
theorem d_Mod_kindOf_50 : decode b_Mod_kindOf 50 = .ok (.iload_n 3, 1) := by decide +kernel
theorem d_Mod_kindOf_51 : decode b_Mod_kindOf 51 = .ok (.ifCond .lt 7, 3) := by decide +kernel
theorem d_Mod_kindOf_54 : decode b_Mod_kindOf 54 = .ok (.iload_n 2, 1) := by decide +kernel
theorem d_Mod_kindOf_55 : decode b_Mod_kindOf 55 = .ok (.goto 4, 3) := by decide +kernel
theorem d_Mod_kindOf_58 : decode b_Mod_kindOf 58 = .ok (.iconst (-1), 1) := by decide +kernel
theorem d_Mod_kindOf_59 : decode b_Mod_kindOf 59 = .ok (.istore 4, 2) := by decide +kernel
theorem d_Mod_kindOf_61 : decode b_Mod_kindOf 61 = .ok (.iload 4, 2) := by decide +kernel
theorem d_Mod_kindOf_63 : decode b_Mod_kindOf 63 = .ok (.bipush 34, 2) := by decide +kernel
theorem d_Mod_kindOf_65 : decode b_Mod_kindOf 65 = .ok (.if_icmp .eq 10, 3) := by decide +kernel
theorem d_Mod_kindOf_68 : decode b_Mod_kindOf 68 = .ok (.iload 4, 2) := by decide +kernel
theorem d_Mod_kindOf_70 : decode b_Mod_kindOf 70 = .ok (.bipush 39, 2) := by decide +kernel
theorem d_Mod_kindOf_72 : decode b_Mod_kindOf 72 = .ok (.if_icmp .ne 16, 3) := by decide +kernel
theorem d_Mod_kindOf_75 : decode b_Mod_kindOf 75 = .ok (.iload 4, 2) := by decide +kernel
theorem d_Mod_kindOf_77 : decode b_Mod_kindOf 77 = .ok (.bipush 34, 2) := by decide +kernel
theorem d_Mod_kindOf_79 : decode b_Mod_kindOf 79 = .ok (.if_icmp .ne 7, 3) := by decide +kernel
theorem d_Mod_kindOf_82 : decode b_Mod_kindOf 82 = .ok (.iconst 3, 1) := by decide +kernel
theorem d_Mod_kindOf_83 : decode b_Mod_kindOf 83 = .ok (.goto 4, 3) := by decide +kernel
theorem d_Mod_kindOf_86 : decode b_Mod_kindOf 86 = .ok (.iconst 4, 1) := by decide +kernel
theorem d_Mod_kindOf_87 : decode b_Mod_kindOf 87 = .ok (.ireturn, 1) := by decide +kernel
theorem d_Mod_kindOf_88 : decode b_Mod_kindOf 88 = .ok (.iload_n 2, 1) := by decide +kernel
theorem d_Mod_kindOf_89 : decode b_Mod_kindOf 89 = .ok (.invokestatic 326, 3) := by decide +kernel
theorem d_Mod_kindOf_92 : decode b_Mod_kindOf 92 = .ok (.ifCond .eq 7, 3) := by decide +kernel
theorem d_Mod_kindOf_95 : decode b_Mod_kindOf 95 = .ok (.iconst 1, 1) := by decide +kernel
theorem d_Mod_kindOf_96 : decode b_Mod_kindOf 96 = .ok (.goto 28, 3) := by decide +kernel
theorem d_Mod_kindOf_99 : decode b_Mod_kindOf 99 = .ok (.iload_n 2, 1) := by decide +kernel
theorem d_Mod_kindOf_100 : decode b_Mod_kindOf 100 = .ok (.invokestatic 330, 3) := by decide +kernel
theorem d_Mod_kindOf_103 : decode b_Mod_kindOf 103 = .ok (.ifCond .ne 16, 3) := by decide +kernel
theorem d_Mod_kindOf_106 : decode b_Mod_kindOf 106 = .ok (.iload_n 2, 1) := by decide +kernel
theorem d_Mod_kindOf_107 : decode b_Mod_kindOf 107 = .ok (.bipush 46, 2) := by decide +kernel
theorem d_Mod_kindOf_109 : decode b_Mod_kindOf 109 = .ok (.if_icmp .ne 14, 3) := by decide +kernel
theorem d_Mod_kindOf_112 : decode b_Mod_kindOf 112 = .ok (.iload_n 3, 1) := by decide +kernel
theorem d_Mod_kindOf_113 : decode b_Mod_kindOf 113 = .ok (.invokestatic 330, 3) := by decide +kernel
theorem d_Mod_kindOf_116 : decode b_Mod_kindOf 116 = .ok (.ifCond .eq 7, 3) := by decide +kernel
theorem d_Mod_kindOf_119 : decode b_Mod_kindOf 119 = .ok (.iconst 2, 1) := by decide +kernel
theorem d_Mod_kindOf_120 : decode b_Mod_kindOf 120 = .ok (.goto 4, 3) := by decide +kernel
theorem d_Mod_kindOf_123 : decode b_Mod_kindOf 123 = .ok (.iconst 5, 1) := by decide +kernel
theorem d_Mod_kindOf_124 : decode b_Mod_kindOf 124 = .ok (.ireturn, 1) := by decide +kernel
theorem d_Mod_lineNumber_0 : decode b_Mod_lineNumber 0 = .ok (.iload_n 1, 1) := by decide +kernel
theorem d_Mod_lineNumber_1 : decode b_Mod_lineNumber 1 = .ok (.aload_n 0, 1) := by decide +kernel
theorem d_Mod_lineNumber_2 : decode b_Mod_lineNumber 2 = .ok (.getfield 167, 3) := by decide +kernel
theorem d_Mod_lineNumber_5 : decode b_Mod_lineNumber 5 = .ok (.aload_n 0, 1) := by decide +kernel
theorem d_Mod_lineNumber_6 : decode b_Mod_lineNumber 6 = .ok (.getfield 631, 3) := by decide +kernel
theorem d_Mod_lineNumber_9 : decode b_Mod_lineNumber 9 = .ok (.iaload, 1) := by decide +kernel
theorem d_Mod_lineNumber_10 : decode b_Mod_lineNumber 10 = .ok (.iadd, 1) := by decide +kernel
theorem d_Mod_lineNumber_11 : decode b_Mod_lineNumber 11 = .ok (.ireturn, 1) := by decide +kernel
theorem d_Mod_macroOf_0 : decode b_Mod_macroOf 0 = .ok (.aload_n 0, 1) := by decide +kernel
theorem d_Mod_macroOf_1 : decode b_Mod_macroOf 1 = .ok (.iload_n 1, 1) := by decide +kernel
theorem d_Mod_macroOf_2 : decode b_Mod_macroOf 2 = .ok (.invokevirtual 619, 3) := by decide +kernel
theorem d_Mod_macroOf_5 : decode b_Mod_macroOf 5 = .ok (.ifCond .eq 11, 3) := by decide +kernel
theorem d_Mod_macroOf_8 : decode b_Mod_macroOf 8 = .ok (.aload_n 0, 1) := by decide +kernel
theorem d_Mod_macroOf_9 : decode b_Mod_macroOf 9 = .ok (.iload_n 1, 1) := by decide +kernel
theorem d_Mod_macroOf_10 : decode b_Mod_macroOf 10 = .ok (.invokevirtual 622, 3) := by decide +kernel
theorem d_Mod_macroOf_13 : decode b_Mod_macroOf 13 = .ok (.goto 4, 3) := by decide +kernel
theorem d_Mod_macroOf_16 : decode b_Mod_macroOf 16 = .ok (.iconst (-1), 1) := by decide +kernel
theorem d_Mod_macroOf_17 : decode b_Mod_macroOf 17 = .ok (.istore_n 2, 1) := by decide +kernel
theorem d_Mod_macroOf_18 : decode b_Mod_macroOf 18 = .ok (.iload_n 2, 1) := by decide +kernel
theorem d_Mod_macroOf_19 : decode b_Mod_macroOf 19 = .ok (.ifCond .lt 16, 3) := by decide +kernel
theorem d_Mod_macroOf_22 : decode b_Mod_macroOf 22 = .ok (.aload_n 0, 1) := by decide +kernel
theorem d_Mod_macroOf_23 : decode b_Mod_macroOf 23 = .ok (.getfield 127, 3) := by decide +kernel
theorem d_Mod_macroOf_26 : decode b_Mod_macroOf 26 = .ok (.iload_n 2, 1) := by decide +kernel
theorem d_Mod_macroOf_27 : decode b_Mod_macroOf 27 = .ok (.baload, 1) := by decide +kernel
theorem d_Mod_macroOf_28 : decode b_Mod_macroOf 28 = .ok (.ifCond .eq 7, 3) := by decide +kernel
theorem d_Mod_macroOf_31 : decode b_Mod_macroOf 31 = .ok (.iload_n 2, 1) := by decide +kernel
theorem d_Mod_macroOf_32 : decode b_Mod_macroOf 32 = .ok (.goto 4, 3) := by decide +kernel
theorem d_Mod_macroOf_35 : decode b_Mod_macroOf 35 = .ok (.iconst (-1), 1) := by decide +kernel
theorem d_Mod_macroOf_36 : decode b_Mod_macroOf 36 = .ok (.ireturn, 1) := by decide +kernel
theorem d_Mod_macrosEnd_0 : decode b_Mod_macrosEnd 0 = .ok (.iconst 0, 1) := by decide +kernel
theorem d_Mod_macrosEnd_1 : decode b_Mod_macrosEnd 1 = .ok (.istore_n 1, 1) := by decide +kernel
theorem d_Mod_macrosEnd_2 : decode b_Mod_macrosEnd 2 = .ok (.iload_n 1, 1) := by decide +kernel
theorem d_Mod_macrosEnd_3 : decode b_Mod_macrosEnd 3 = .ok (.sipush 400, 3) := by decide +kernel
theorem d_Mod_macrosEnd_6 : decode b_Mod_macrosEnd 6 = .ok (.if_icmp .ge 16, 3) := by decide +kernel
theorem d_Mod_macrosEnd_9 : decode b_Mod_macrosEnd 9 = .ok (.aload_n 0, 1) := by decide +kernel
theorem d_Mod_macrosEnd_10 : decode b_Mod_macrosEnd 10 = .ok (.getfield 127, 3) := by decide +kernel
theorem d_Mod_macrosEnd_13 : decode b_Mod_macrosEnd 13 = .ok (.iload_n 1, 1) := by decide +kernel
theorem d_Mod_macrosEnd_14 : decode b_Mod_macrosEnd 14 = .ok (.iconst 0, 1) := by decide +kernel
theorem d_Mod_macrosEnd_15 : decode b_Mod_macrosEnd 15 = .ok (.bastore, 1) := by decide +kernel
theorem d_Mod_macrosEnd_16 : decode b_Mod_macrosEnd 16 = .ok (.iinc 1 1, 3) := by decide +kernel
theorem d_Mod_macrosEnd_19 : decode b_Mod_macrosEnd 19 = .ok (.goto (-17), 3) := by decide +kernel
theorem d_Mod_macrosEnd_22 : decode b_Mod_macrosEnd 22 = .ok (.return_, 1) := by decide +kernel
theorem d_Mod_nameOfCell_0 : decode b_Mod_nameOfCell 0 = .ok (.iconst (-1), 1) := by decide +kernel
theorem d_Mod_nameOfCell_1 : decode b_Mod_nameOfCell 1 = .ok (.istore_n 2, 1) := by decide +kernel
theorem d_Mod_nameOfCell_2 : decode b_Mod_nameOfCell 2 = .ok (.iconst 0, 1) := by decide +kernel
theorem d_Mod_nameOfCell_3 : decode b_Mod_nameOfCell 3 = .ok (.istore_n 3, 1) := by decide +kernel
theorem d_Mod_nameOfCell_4 : decode b_Mod_nameOfCell 4 = .ok (.iload_n 3, 1) := by decide +kernel
theorem d_Mod_nameOfCell_5 : decode b_Mod_nameOfCell 5 = .ok (.aload_n 0, 1) := by decide +kernel
theorem d_Mod_nameOfCell_6 : decode b_Mod_nameOfCell 6 = .ok (.getfield 613, 3) := by decide +kernel
theorem d_Mod_nameOfCell_9 : decode b_Mod_nameOfCell 9 = .ok (.if_icmp .ge 35, 3) := by decide +kernel
theorem d_Mod_nameOfCell_12 : decode b_Mod_nameOfCell 12 = .ok (.aload_n 0, 1) := by decide +kernel
theorem d_Mod_nameOfCell_13 : decode b_Mod_nameOfCell 13 = .ok (.iload_n 1, 1) := by decide +kernel
theorem d_Mod_nameOfCell_14 : decode b_Mod_nameOfCell 14 = .ok (.aload_n 0, 1) := by decide +kernel
theorem d_Mod_nameOfCell_15 : decode b_Mod_nameOfCell 15 = .ok (.getfield 121, 3) := by decide +kernel
theorem d_Mod_nameOfCell_18 : decode b_Mod_nameOfCell 18 = .ok (.iload_n 3, 1) := by decide +kernel
theorem d_Mod_nameOfCell_19 : decode b_Mod_nameOfCell 19 = .ok (.iaload, 1) := by decide +kernel
theorem d_Mod_nameOfCell_20 : decode b_Mod_nameOfCell 20 = .ok (.aload_n 0, 1) := by decide +kernel
theorem d_Mod_nameOfCell_21 : decode b_Mod_nameOfCell 21 = .ok (.getfield 124, 3) := by decide +kernel
theorem d_Mod_nameOfCell_24 : decode b_Mod_nameOfCell 24 = .ok (.iload_n 3, 1) := by decide +kernel
theorem d_Mod_nameOfCell_25 : decode b_Mod_nameOfCell 25 = .ok (.iaload, 1) := by decide +kernel
theorem d_Mod_nameOfCell_26 : decode b_Mod_nameOfCell 26 = .ok (.invokevirtual 616, 3) := by decide +kernel
theorem d_Mod_nameOfCell_29 : decode b_Mod_nameOfCell 29 = .ok (.ifCond .eq 7, 3) := by decide +kernel
theorem d_Mod_nameOfCell_32 : decode b_Mod_nameOfCell 32 = .ok (.iload_n 3, 1) := by decide +kernel
theorem d_Mod_nameOfCell_33 : decode b_Mod_nameOfCell 33 = .ok (.goto 4, 3) := by decide +kernel
theorem d_Mod_nameOfCell_36 : decode b_Mod_nameOfCell 36 = .ok (.iload_n 2, 1) := by decide +kernel
theorem d_Mod_nameOfCell_37 : decode b_Mod_nameOfCell 37 = .ok (.istore_n 2, 1) := by decide +kernel
theorem d_Mod_nameOfCell_38 : decode b_Mod_nameOfCell 38 = .ok (.iinc 3 1, 3) := by decide +kernel
theorem d_Mod_nameOfCell_41 : decode b_Mod_nameOfCell 41 = .ok (.goto (-37), 3) := by decide +kernel
theorem d_Mod_nameOfCell_44 : decode b_Mod_nameOfCell 44 = .ok (.iload_n 2, 1) := by decide +kernel
theorem d_Mod_nameOfCell_45 : decode b_Mod_nameOfCell 45 = .ok (.ireturn, 1) := by decide +kernel
theorem d_Mod_number_0 : decode b_Mod_number 0 = .ok (.aload_n 0, 1) := by decide +kernel
theorem d_Mod_number_1 : decode b_Mod_number 1 = .ok (.iload_n 1, 1) := by decide +kernel
theorem d_Mod_number_2 : decode b_Mod_number 2 = .ok (.iload_n 2, 1) := by decide +kernel
theorem d_Mod_number_3 : decode b_Mod_number 3 = .ok (.invokevirtual 466, 3) := by decide +kernel
theorem d_Mod_number_6 : decode b_Mod_number 6 = .ok (.istore_n 3, 1) := by decide +kernel
theorem d_Mod_number_7 : decode b_Mod_number 7 = .ok (.aload_n 0, 1) := by decide +kernel
theorem d_Mod_number_8 : decode b_Mod_number 8 = .ok (.iload_n 1, 1) := by decide +kernel
theorem d_Mod_number_9 : decode b_Mod_number 9 = .ok (.iload_n 2, 1) := by decide +kernel
theorem d_Mod_number_10 : decode b_Mod_number 10 = .ok (.invokevirtual 462, 3) := by decide +kernel
theorem d_Mod_number_13 : decode b_Mod_number 13 = .ok (.istore 4, 2) := by decide +kernel
theorem d_Mod_number_15 : decode b_Mod_number 15 = .ok (.iload_n 3, 1) := by decide +kernel
theorem d_Mod_number_16 : decode b_Mod_number 16 = .ok (.ifCond .le 19, 3) := by decide +kernel
theorem d_Mod_number_19 : decode b_Mod_number 19 = .ok (.aload_n 0, 1) := by decide +kernel
theorem d_Mod_number_20 : decode b_Mod_number 20 = .ok (.getfield 72, 3) := by decide +kernel
theorem d_Mod_number_23 : decode b_Mod_number 23 = .ok (.iload 4, 2) := by decide +kernel
theorem d_Mod_number_25 : decode b_Mod_number 25 = .ok (.baload, 1) := by decide +kernel
theorem d_Mod_number_26 : decode b_Mod_number 26 = .ok (.bipush 45, 2) := by decide +kernel
theorem d_Mod_number_28 : decode b_Mod_number 28 = .ok (.if_icmp .ne 7, 3) := by decide +kernel
theorem d_Mod_number_31 : decode b_Mod_number 31 = .ok (.iconst 1, 1) := by decide +kernel
theorem d_Mod_number_32 : decode b_Mod_number 32 = .ok (.goto 4, 3) := by decide +kernel
theorem d_Mod_number_35 : decode b_Mod_number 35 = .ok (.iconst 0, 1) := by decide +kernel
theorem d_Mod_number_36 : decode b_Mod_number 36 = .ok (.istore 5, 2) := by decide +kernel
theorem d_Mod_number_38 : decode b_Mod_number 38 = .ok (.iload 5, 2) := by decide +kernel
theorem d_Mod_number_40 : decode b_Mod_number 40 = .ok (.ifCond .eq 9, 3) := by decide +kernel
theorem d_Mod_number_43 : decode b_Mod_number 43 = .ok (.iload_n 3, 1) := by decide +kernel
theorem d_Mod_number_44 : decode b_Mod_number 44 = .ok (.iconst 1, 1) := by decide +kernel
theorem d_Mod_number_45 : decode b_Mod_number 45 = .ok (.isub, 1) := by decide +kernel
theorem d_Mod_number_46 : decode b_Mod_number 46 = .ok (.goto 4, 3) := by decide +kernel
theorem d_Mod_number_49 : decode b_Mod_number 49 = .ok (.iload_n 3, 1) := by decide +kernel
theorem d_Mod_number_50 : decode b_Mod_number 50 = .ok (.istore 6, 2) := by decide +kernel
theorem d_Mod_number_52 : decode b_Mod_number 52 = .ok (.iload_n 3, 1) := by decide +kernel
theorem d_Mod_number_53 : decode b_Mod_number 53 = .ok (.ifCond .eq 15, 3) := by decide +kernel
theorem d_Mod_number_56 : decode b_Mod_number 56 = .ok (.iload 6, 2) := by decide +kernel
theorem d_Mod_number_58 : decode b_Mod_number 58 = .ok (.ifCond .le 14, 3) := by decide +kernel
theorem d_Mod_number_61 : decode b_Mod_number 61 = .ok (.iload 6, 2) := by decide +kernel
theorem d_Mod_number_63 : decode b_Mod_number 63 = .ok (.bipush 10, 2) := by decide +kernel
theorem d_Mod_number_65 : decode b_Mod_number 65 = .ok (.if_icmp .ge 7, 3) := by decide +kernel
theorem d_Mod_number_68 : decode b_Mod_number 68 = .ok (.iconst 1, 1) := by decide +kernel
theorem d_Mod_number_69 : decode b_Mod_number 69 = .ok (.goto 4, 3) := by decide +kernel
theorem d_Mod_number_72 : decode b_Mod_number 72 = .ok (.iconst 0, 1) := by decide +kernel
theorem d_Mod_number_73 : decode b_Mod_number 73 = .ok (.istore 7, 2) := by decide +kernel
theorem d_Mod_number_75 : decode b_Mod_number 75 = .ok (.iconst 0, 1) := by decide +kernel
theorem d_Mod_number_76 : decode b_Mod_number 76 = .ok (.istore 8, 2) := by decide +kernel
theorem d_Mod_number_78 : decode b_Mod_number 78 = .ok (.iload 5, 2) := by decide +kernel
theorem d_Mod_number_80 : decode b_Mod_number 80 = .ok (.ifCond .eq 7, 3) := by decide +kernel
theorem d_Mod_number_83 : decode b_Mod_number 83 = .ok (.iconst 1, 1) := by decide +kernel
theorem d_Mod_number_84 : decode b_Mod_number 84 = .ok (.goto 4, 3) := by decide +kernel
theorem d_Mod_number_87 : decode b_Mod_number 87 = .ok (.iconst 0, 1) := by decide +kernel
theorem d_Mod_number_88 : decode b_Mod_number 88 = .ok (.istore 9, 2) := by decide +kernel
theorem d_Mod_number_90 : decode b_Mod_number 90 = .ok (.iload 9, 2) := by decide +kernel
theorem d_Mod_number_92 : decode b_Mod_number 92 = .ok (.iload_n 3, 1) := by decide +kernel
theorem d_Mod_number_93 : decode b_Mod_number 93 = .ok (.if_icmp .ge 54, 3) := by decide +kernel
theorem d_Mod_number_96 : decode b_Mod_number 96 = .ok (.iload 7, 2) := by decide +kernel
theorem d_Mod_number_98 : decode b_Mod_number 98 = .ok (.ifCond .eq 49, 3) := by decide +kernel
theorem d_Mod_number_101 : decode b_Mod_number 101 = .ok (.aload_n 0, 1) := by decide +kernel
theorem d_Mod_number_102 : decode b_Mod_number 102 = .ok (.getfield 72, 3) := by decide +kernel
theorem d_Mod_number_105 : decode b_Mod_number 105 = .ok (.iload 4, 2) := by decide +kernel
theorem d_Mod_number_107 : decode b_Mod_number 107 = .ok (.iload 9, 2) := by decide +kernel
theorem d_Mod_number_109 : decode b_Mod_number 109 = .ok (.iadd, 1) := by decide +kernel
theorem d_Mod_number_110 : decode b_Mod_number 110 = .ok (.baload, 1) := by decide +kernel
theorem d_Mod_number_111 : decode b_Mod_number 111 = .ok (.sipush 255, 3) := by decide +kernel
theorem d_Mod_number_114 : decode b_Mod_number 114 = .ok (.iand, 1) := by decide +kernel
theorem d_Mod_number_115 : decode b_Mod_number 115 = .ok (.invokestatic 330, 3) := by decide +kernel
theorem d_Mod_number_118 : decode b_Mod_number 118 = .ok (.istore 7, 2) := by decide +kernel
theorem d_Mod_number_120 : decode b_Mod_number 120 = .ok (.bipush 10, 2) := by decide +kernel
theorem d_Mod_number_122 : decode b_Mod_number 122 = .ok (.iload 8, 2) := by decide +kernel
theorem d_Mod_number_124 : decode b_Mod_number 124 = .ok (.imul, 1) := by decide +kernel
theorem d_Mod_number_125 : decode b_Mod_number 125 = .ok (.aload_n 0, 1) := by decide +kernel
theorem d_Mod_number_126 : decode b_Mod_number 126 = .ok (.getfield 72, 3) := by decide +kernel
theorem d_Mod_number_129 : decode b_Mod_number 129 = .ok (.iload 4, 2) := by decide +kernel
theorem d_Mod_number_131 : decode b_Mod_number 131 = .ok (.iload 9, 2) := by decide +kernel
theorem d_Mod_number_133 : decode b_Mod_number 133 = .ok (.iadd, 1) := by decide +kernel
theorem d_Mod_number_134 : decode b_Mod_number 134 = .ok (.baload, 1) := by decide +kernel
theorem d_Mod_number_135 : decode b_Mod_number 135 = .ok (.iadd, 1) := by decide +kernel
theorem d_Mod_number_136 : decode b_Mod_number 136 = .ok (.bipush 48, 2) := by decide +kernel
theorem d_Mod_number_138 : decode b_Mod_number 138 = .ok (.isub, 1) := by decide +kernel
theorem d_Mod_number_139 : decode b_Mod_number 139 = .ok (.istore 8, 2) := by decide +kernel
theorem d_Mod_number_141 : decode b_Mod_number 141 = .ok (.iinc 9 1, 3) := by decide +kernel
theorem d_Mod_number_144 : decode b_Mod_number 144 = .ok (.goto (-54), 3) := by decide +kernel
theorem d_Mod_number_147 : decode b_Mod_number 147 = .ok (.iload 7, 2) := by decide +kernel
theorem d_Mod_number_149 : decode b_Mod_number 149 = .ok (.ifCond .ne 9, 3) := by decide +kernel
theorem d_Mod_number_152 : decode b_Mod_number 152 = .ok (.aload_n 0, 1) := by decide +kernel
theorem d_Mod_number_153 : decode b_Mod_number 153 = .ok (.bipush 36, 2) := by decide +kernel
theorem d_Mod_number_155 : decode b_Mod_number 155 = .ok (.invokevirtual 277, 3) := by decide +kernel
theorem d_Mod_number_158 : decode b_Mod_number 158 = .ok (.iload 5, 2) := by decide +kernel
theorem d_Mod_number_160 : decode b_Mod_number 160 = .ok (.ifCond .eq 9, 3) := by decide +kernel
theorem d_Mod_number_163 : decode b_Mod_number 163 = .ok (.iload 8, 2) := by decide +kernel
theorem d_Mod_number_165 : decode b_Mod_number 165 = .ok (.ineg, 1) := by decide +kernel
theorem d_Mod_number_166 : decode b_Mod_number 166 = .ok (.goto 5, 3) := by decide +kernel
theorem d_Mod_number_169 : decode b_Mod_number 169 = .ok (.iload 8, 2) := by decide +kernel
theorem d_Mod_number_171 : decode b_Mod_number 171 = .ok (.ireturn, 1) := by decide +kernel
theorem d_Mod_numberOf_0 : decode b_Mod_numberOf 0 = .ok (.aload_n 0, 1) := by decide +kernel
theorem d_Mod_numberOf_1 : decode b_Mod_numberOf 1 = .ok (.getfield 102, 3) := by decide +kernel
theorem d_Mod_numberOf_4 : decode b_Mod_numberOf 4 = .ok (.iload_n 1, 1) := by decide +kernel
theorem d_Mod_numberOf_5 : decode b_Mod_numberOf 5 = .ok (.iaload, 1) := by decide +kernel
theorem d_Mod_numberOf_6 : decode b_Mod_numberOf 6 = .ok (.istore_n 2, 1) := by decide +kernel
theorem d_Mod_numberOf_7 : decode b_Mod_numberOf 7 = .ok (.iload_n 2, 1) := by decide +kernel
theorem d_Mod_numberOf_8 : decode b_Mod_numberOf 8 = .ok (.iconst 2, 1) := by decide +kernel
theorem d_Mod_numberOf_9 : decode b_Mod_numberOf 9 = .ok (.if_icmp .le 32, 3) := by decide +kernel
theorem d_Mod_numberOf_12 : decode b_Mod_numberOf 12 = .ok (.aload_n 0, 1) := by decide +kernel
theorem d_Mod_numberOf_13 : decode b_Mod_numberOf 13 = .ok (.iload_n 1, 1) := by decide +kernel
theorem d_Mod_numberOf_14 : decode b_Mod_numberOf 14 = .ok (.iconst 0, 1) := by decide +kernel
theorem d_Mod_numberOf_15 : decode b_Mod_numberOf 15 = .ok (.invokevirtual 585, 3) := by decide +kernel
theorem d_Mod_numberOf_18 : decode b_Mod_numberOf 18 = .ok (.bipush 48, 2) := by decide +kernel
theorem d_Mod_numberOf_20 : decode b_Mod_numberOf 20 = .ok (.if_icmp .ne 21, 3) := by decide +kernel
theorem d_Mod_numberOf_23 : decode b_Mod_numberOf 23 = .ok (.aload_n 0, 1) := by decide +kernel
theorem d_Mod_numberOf_24 : decode b_Mod_numberOf 24 = .ok (.iload_n 1, 1) := by decide +kernel
theorem d_Mod_numberOf_25 : decode b_Mod_numberOf 25 = .ok (.iconst 1, 1) := by decide +kernel
theorem d_Mod_numberOf_26 : decode b_Mod_numberOf 26 = .ok (.invokevirtual 585, 3) := by decide +kernel
theorem d_Mod_numberOf_29 : decode b_Mod_numberOf 29 = .ok (.bipush 32, 2) := by decide +kernel
theorem d_Mod_numberOf_31 : decode b_Mod_numberOf 31 = .ok (.ior, 1) := by decide +kernel
theorem d_Mod_numberOf_32 : decode b_Mod_numberOf 32 = .ok (.bipush 120, 2) := by decide +kernel
theorem d_Mod_numberOf_34 : decode b_Mod_numberOf 34 = .ok (.if_icmp .ne 7, 3) := by decide +kernel
theorem d_Mod_numberOf_37 : decode b_Mod_numberOf 37 = .ok (.iconst 1, 1) := by decide +kernel
theorem d_Mod_numberOf_38 : decode b_Mod_numberOf 38 = .ok (.goto 4, 3) := by decide +kernel
theorem d_Mod_numberOf_41 : decode b_Mod_numberOf 41 = .ok (.iconst 0, 1) := by decide +kernel
theorem d_Mod_numberOf_42 : decode b_Mod_numberOf 42 = .ok (.istore_n 3, 1) := by decide +kernel
theorem d_Mod_numberOf_43 : decode b_Mod_numberOf 43 = .ok (.iload_n 3, 1) := by decide +kernel
theorem d_Mod_numberOf_44 : decode b_Mod_numberOf 44 = .ok (.ifCond .eq 8, 3) := by decide +kernel
theorem d_Mod_numberOf_47 : decode b_Mod_numberOf 47 = .ok (.bipush 16, 2) := by decide +kernel
theorem d_Mod_numberOf_49 : decode b_Mod_numberOf 49 = .ok (.goto 21, 3) := by decide +kernel
theorem d_Mod_numberOf_52 : decode b_Mod_numberOf 52 = .ok (.aload_n 0, 1) := by decide +kernel
theorem d_Mod_numberOf_53 : decode b_Mod_numberOf 53 = .ok (.iload_n 1, 1) := by decide +kernel
theorem d_Mod_numberOf_54 : decode b_Mod_numberOf 54 = .ok (.iconst 0, 1) := by decide +kernel
theorem d_Mod_numberOf_55 : decode b_Mod_numberOf 55 = .ok (.invokevirtual 585, 3) := by decide +kernel
theorem d_Mod_numberOf_58 : decode b_Mod_numberOf 58 = .ok (.bipush 48, 2) := by decide +kernel
theorem d_Mod_numberOf_60 : decode b_Mod_numberOf 60 = .ok (.if_icmp .ne 8, 3) := by decide +kernel
theorem d_Mod_numberOf_63 : decode b_Mod_numberOf 63 = .ok (.bipush 8, 2) := by decide +kernel
theorem d_Mod_numberOf_65 : decode b_Mod_numberOf 65 = .ok (.goto 5, 3) := by decide +kernel
theorem d_Mod_numberOf_68 : decode b_Mod_numberOf 68 = .ok (.bipush 10, 2) := by decide +kernel
theorem d_Mod_numberOf_70 : decode b_Mod_numberOf 70 = .ok (.istore 4, 2) := by decide +kernel
theorem d_Mod_numberOf_72 : decode b_Mod_numberOf 72 = .ok (.iload_n 3, 1) := by decide +kernel
theorem d_Mod_numberOf_73 : decode b_Mod_numberOf 73 = .ok (.ifCond .eq 7, 3) := by decide +kernel
theorem d_Mod_numberOf_76 : decode b_Mod_numberOf 76 = .ok (.iconst 2, 1) := by decide +kernel
theorem d_Mod_numberOf_77 : decode b_Mod_numberOf 77 = .ok (.goto 4, 3) := by decide +kernel
theorem d_Mod_numberOf_80 : decode b_Mod_numberOf 80 = .ok (.iconst 0, 1) := by decide +kernel
theorem d_Mod_numberOf_81 : decode b_Mod_numberOf 81 = .ok (.istore 5, 2) := by decide +kernel
theorem d_Mod_numberOf_83 : decode b_Mod_numberOf 83 = .ok (.iload 5, 2) := by decide +kernel
theorem d_Mod_numberOf_85 : decode b_Mod_numberOf 85 = .ok (.istore 6, 2) := by decide +kernel
theorem d_Mod_numberOf_87 : decode b_Mod_numberOf 87 = .ok (.lconst 0, 1) := by decide +kernel
theorem d_Mod_numberOf_88 : decode b_Mod_numberOf 88 = .ok (.lstore 7, 2) := by decide +kernel
theorem d_Mod_numberOf_90 : decode b_Mod_numberOf 90 = .ok (.iconst 0, 1) := by decide +kernel
theorem d_Mod_numberOf_91 : decode b_Mod_numberOf 91 = .ok (.istore 9, 2) := by decide +kernel
theorem d_Mod_numberOf_93 : decode b_Mod_numberOf 93 = .ok (.iload 5, 2) := by decide +kernel
theorem d_Mod_numberOf_95 : decode b_Mod_numberOf 95 = .ok (.iload_n 2, 1) := by decide +kernel
theorem d_Mod_numberOf_96 : decode b_Mod_numberOf 96 = .ok (.if_icmp .ge 116, 3) := by decide +kernel
theorem d_Mod_numberOf_99 : decode b_Mod_numberOf 99 = .ok (.aload_n 0, 1) := by decide +kernel
theorem d_Mod_numberOf_100 : decode b_Mod_numberOf 100 = .ok (.iload_n 1, 1) := by decide +kernel
theorem d_Mod_numberOf_101 : decode b_Mod_numberOf 101 = .ok (.iload 5, 2) := by decide +kernel
theorem d_Mod_numberOf_103 : decode b_Mod_numberOf 103 = .ok (.invokevirtual 585, 3) := by decide +kernel
theorem d_Mod_numberOf_106 : decode b_Mod_numberOf 106 = .ok (.invokestatic 1064, 3) := by decide +kernel
theorem d_Mod_numberOf_109 : decode b_Mod_numberOf 109 = .ok (.iload 4, 2) := by decide +kernel
theorem d_Mod_numberOf_111 : decode b_Mod_numberOf 111 = .ok (.if_icmp .ge 101, 3) := by decide +kernel
theorem d_Mod_numberOf_114 : decode b_Mod_numberOf 114 = .ok (.ldc2_w 1062, 3) := by decide +kernel
theorem d_Mod_numberOf_117 : decode b_Mod_numberOf 117 = .ok (.iload 4, 2) := by decide +kernel
theorem d_Mod_numberOf_119 : decode b_Mod_numberOf 119 = .ok (.i2l, 1) := by decide +kernel
theorem d_Mod_numberOf_120 : decode b_Mod_numberOf 120 = .ok (.iconst 1, 1) := by decide +kernel
theorem d_Mod_numberOf_121 : decode b_Mod_numberOf 121 = .ok (.invokestatic 1047, 3) := by decide +kernel
theorem d_Mod_numberOf_124 : decode b_Mod_numberOf 124 = .ok (.lstore 10, 2) := by decide +kernel
theorem d_Mod_numberOf_126 : decode b_Mod_numberOf 126 = .ok (.aload_n 0, 1) := by decide +kernel
theorem d_Mod_numberOf_127 : decode b_Mod_numberOf 127 = .ok (.iload_n 1, 1) := by decide +kernel
theorem d_Mod_numberOf_128 : decode b_Mod_numberOf 128 = .ok (.iload 5, 2) := by decide +kernel
theorem d_Mod_numberOf_130 : decode b_Mod_numberOf 130 = .ok (.invokevirtual 585, 3) := by decide +kernel
theorem d_Mod_numberOf_133 : decode b_Mod_numberOf 133 = .ok (.invokestatic 1064, 3) := by decide +kernel
theorem d_Mod_numberOf_136 : decode b_Mod_numberOf 136 = .ok (.istore 12, 2) := by decide +kernel
theorem d_Mod_numberOf_138 : decode b_Mod_numberOf 138 = .ok (.iload 9, 2) := by decide +kernel
theorem d_Mod_numberOf_140 : decode b_Mod_numberOf 140 = .ok (.ifCond .ne 47, 3) := by decide +kernel
theorem d_Mod_numberOf_143 : decode b_Mod_numberOf 143 = .ok (.lload 7, 2) := by decide +kernel
theorem d_Mod_numberOf_145 : decode b_Mod_numberOf 145 = .ok (.ldc2_w 1043, 3) := by decide +kernel
theorem d_Mod_numberOf_148 : decode b_Mod_numberOf 148 = .ok (.ladd, 1) := by decide +kernel
theorem d_Mod_numberOf_149 : decode b_Mod_numberOf 149 = .ok (.lload 10, 2) := by decide +kernel
theorem d_Mod_numberOf_151 : decode b_Mod_numberOf 151 = .ok (.ldc2_w 1043, 3) := by decide +kernel
theorem d_Mod_numberOf_154 : decode b_Mod_numberOf 154 = .ok (.ladd, 1) := by decide +kernel
theorem d_Mod_numberOf_155 : decode b_Mod_numberOf 155 = .ok (.lcmp, 1) := by decide +kernel
theorem d_Mod_numberOf_156 : decode b_Mod_numberOf 156 = .ok (.ifCond .gt 31, 3) := by decide +kernel
theorem d_Mod_numberOf_159 : decode b_Mod_numberOf 159 = .ok (.lload 7, 2) := by decide +kernel
theorem d_Mod_numberOf_161 : decode b_Mod_numberOf 161 = .ok (.lload 10, 2) := by decide +kernel
theorem d_Mod_numberOf_163 : decode b_Mod_numberOf 163 = .ok (.lcmp, 1) := by decide +kernel
theorem d_Mod_numberOf_164 : decode b_Mod_numberOf 164 = .ok (.ifCond .ne 27, 3) := by decide +kernel
theorem d_Mod_numberOf_167 : decode b_Mod_numberOf 167 = .ok (.iload 12, 2) := by decide +kernel
theorem d_Mod_numberOf_169 : decode b_Mod_numberOf 169 = .ok (.iload 4, 2) := by decide +kernel
theorem d_Mod_numberOf_171 : decode b_Mod_numberOf 171 = .ok (.bipush 10, 2) := by decide +kernel
theorem d_Mod_numberOf_173 : decode b_Mod_numberOf 173 = .ok (.if_icmp .ne 7, 3) := by decide +kernel
theorem d_Mod_numberOf_176 : decode b_Mod_numberOf 176 = .ok (.iconst 5, 1) := by decide +kernel
theorem d_Mod_numberOf_177 : decode b_Mod_numberOf 177 = .ok (.goto 7, 3) := by decide +kernel
theorem d_Mod_numberOf_180 : decode b_Mod_numberOf 180 = .ok (.iload 4, 2) := by decide +kernel
theorem d_Mod_numberOf_182 : decode b_Mod_numberOf 182 = .ok (.iconst 1, 1) := by decide +kernel
theorem d_Mod_numberOf_183 : decode b_Mod_numberOf 183 = .ok (.isub, 1) := by decide +kernel
theorem d_Mod_numberOf_184 : decode b_Mod_numberOf 184 = .ok (.if_icmp .le 7, 3) := by decide +kernel
theorem d_Mod_numberOf_187 : decode b_Mod_numberOf 187 = .ok (.iconst 1, 1) := by decide +kernel
theorem d_Mod_numberOf_188 : decode b_Mod_numberOf 188 = .ok (.goto 4, 3) := by decide +kernel
theorem d_Mod_numberOf_191 : decode b_Mod_numberOf 191 = .ok (.iconst 0, 1) := by decide +kernel
theorem d_Mod_numberOf_192 : decode b_Mod_numberOf 192 = .ok (.istore 9, 2) := by decide +kernel
theorem d_Mod_numberOf_194 : decode b_Mod_numberOf 194 = .ok (.lload 7, 2) := by decide +kernel
theorem d_Mod_numberOf_196 : decode b_Mod_numberOf 196 = .ok (.iload 4, 2) := by decide +kernel
theorem d_Mod_numberOf_198 : decode b_Mod_numberOf 198 = .ok (.i2l, 1) := by decide +kernel
theorem d_Mod_numberOf_199 : decode b_Mod_numberOf 199 = .ok (.lmul, 1) := by decide +kernel
theorem d_Mod_numberOf_200 : decode b_Mod_numberOf 200 = .ok (.iload 12, 2) := by decide +kernel
theorem d_Mod_numberOf_202 : decode b_Mod_numberOf 202 = .ok (.i2l, 1) := by decide +kernel
theorem d_Mod_numberOf_203 : decode b_Mod_numberOf 203 = .ok (.ladd, 1) := by decide +kernel
theorem d_Mod_numberOf_204 : decode b_Mod_numberOf 204 = .ok (.lstore 7, 2) := by decide +kernel
theorem d_Mod_numberOf_206 : decode b_Mod_numberOf 206 = .ok (.iinc 5 1, 3) := by decide +kernel
theorem d_Mod_numberOf_209 : decode b_Mod_numberOf 209 = .ok (.goto (-116), 3) := by decide +kernel
theorem d_Mod_numberOf_212 : decode b_Mod_numberOf 212 = .ok (.iload 5, 2) := by decide +kernel
theorem d_Mod_numberOf_214 : decode b_Mod_numberOf 214 = .ok (.iload 6, 2) := by decide +kernel
theorem d_Mod_numberOf_216 : decode b_Mod_numberOf 216 = .ok (.if_icmp .ne 7, 3) := by decide +kernel
theorem d_Mod_numberOf_219 : decode b_Mod_numberOf 219 = .ok (.iconst 1, 1) := by decide +kernel
theorem d_Mod_numberOf_220 : decode b_Mod_numberOf 220 = .ok (.goto 4, 3) := by decide +kernel
theorem d_Mod_numberOf_223 : decode b_Mod_numberOf 223 = .ok (.iconst 0, 1) := by decide +kernel
theorem d_Mod_numberOf_224 : decode b_Mod_numberOf 224 = .ok (.istore 10, 2) := by decide +kernel
theorem d_Mod_numberOf_226 : decode b_Mod_numberOf 226 = .ok (.iconst 0, 1) := by decide +kernel
theorem d_Mod_numberOf_227 : decode b_Mod_numberOf 227 = .ok (.istore 11, 2) := by decide +kernel
theorem d_Mod_numberOf_229 : decode b_Mod_numberOf 229 = .ok (.iconst 0, 1) := by decide +kernel
theorem d_Mod_numberOf_230 : decode b_Mod_numberOf 230 = .ok (.istore 12, 2) := by decide +kernel
theorem d_Mod_numberOf_232 : decode b_Mod_numberOf 232 = .ok (.iconst 1, 1) := by decide +kernel
theorem d_Mod_numberOf_233 : decode b_Mod_numberOf 233 = .ok (.istore 13, 2) := by decide +kernel
theorem d_Mod_numberOf_235 : decode b_Mod_numberOf 235 = .ok (.iload 5, 2) := by decide +kernel
theorem d_Mod_numberOf_237 : decode b_Mod_numberOf 237 = .ok (.iload_n 2, 1) := by decide +kernel
theorem d_Mod_numberOf_238 : decode b_Mod_numberOf 238 = .ok (.if_icmp .ge 101, 3) := by decide +kernel
theorem d_Mod_numberOf_241 : decode b_Mod_numberOf 241 = .ok (.iload 13, 2) := by decide +kernel
theorem d_Mod_numberOf_243 : decode b_Mod_numberOf 243 = .ok (.ifCond .eq 96, 3) := by decide +kernel
theorem d_Mod_numberOf_246 : decode b_Mod_numberOf 246 = .ok (.aload_n 0, 1) := by decide +kernel
theorem d_Mod_numberOf_247 : decode b_Mod_numberOf 247 = .ok (.iload_n 1, 1) := by decide +kernel
theorem d_Mod_numberOf_248 : decode b_Mod_numberOf 248 = .ok (.iload 5, 2) := by decide +kernel
theorem d_Mod_numberOf_250 : decode b_Mod_numberOf 250 = .ok (.invokevirtual 585, 3) := by decide +kernel
theorem d_Mod_numberOf_253 : decode b_Mod_numberOf 253 = .ok (.istore 14, 2) := by decide +kernel
theorem d_Mod_numberOf_255 : decode b_Mod_numberOf 255 = .ok (.iload 14, 2) := by decide +kernel
theorem d_Mod_numberOf_257 : decode b_Mod_numberOf 257 = .ok (.bipush 32, 2) := by decide +kernel
theorem d_Mod_numberOf_259 : decode b_Mod_numberOf 259 = .ok (.ior, 1) := by decide +kernel
theorem d_Mod_numberOf_260 : decode b_Mod_numberOf 260 = .ok (.bipush 117, 2) := by decide +kernel
theorem d_Mod_numberOf_262 : decode b_Mod_numberOf 262 = .ok (.if_icmp .ne 17, 3) := by decide +kernel
theorem d_Mod_numberOf_265 : decode b_Mod_numberOf 265 = .ok (.iload 11, 2) := by decide +kernel
theorem d_Mod_numberOf_267 : decode b_Mod_numberOf 267 = .ok (.ifCond .ne 12, 3) := by decide +kernel
theorem d_Mod_numberOf_270 : decode b_Mod_numberOf 270 = .ok (.iconst 1, 1) := by decide +kernel
theorem d_Mod_numberOf_271 : decode b_Mod_numberOf 271 = .ok (.istore 11, 2) := by decide +kernel
theorem d_Mod_numberOf_273 : decode b_Mod_numberOf 273 = .ok (.iinc 5 1, 3) := by decide +kernel
theorem d_Mod_numberOf_276 : decode b_Mod_numberOf 276 = .ok (.goto 60, 3) := by decide +kernel
theorem d_Mod_numberOf_279 : decode b_Mod_numberOf 279 = .ok (.iload 14, 2) := by decide +kernel
theorem d_Mod_numberOf_281 : decode b_Mod_numberOf 281 = .ok (.bipush 32, 2) := by decide +kernel
theorem d_Mod_numberOf_283 : decode b_Mod_numberOf 283 = .ok (.ior, 1) := by decide +kernel
theorem d_Mod_numberOf_284 : decode b_Mod_numberOf 284 = .ok (.bipush 108, 2) := by decide +kernel
theorem d_Mod_numberOf_286 : decode b_Mod_numberOf 286 = .ok (.if_icmp .ne 47, 3) := by decide +kernel
theorem d_Mod_numberOf_289 : decode b_Mod_numberOf 289 = .ok (.iload 12, 2) := by decide +kernel
theorem d_Mod_numberOf_291 : decode b_Mod_numberOf 291 = .ok (.ifCond .ne 42, 3) := by decide +kernel
theorem d_Mod_numberOf_294 : decode b_Mod_numberOf 294 = .ok (.iload 5, 2) := by decide +kernel
theorem d_Mod_numberOf_296 : decode b_Mod_numberOf 296 = .ok (.iconst 1, 1) := by decide +kernel
theorem d_Mod_numberOf_297 : decode b_Mod_numberOf 297 = .ok (.iadd, 1) := by decide +kernel
theorem d_Mod_numberOf_298 : decode b_Mod_numberOf 298 = .ok (.iload_n 2, 1) := by decide +kernel
theorem d_Mod_numberOf_299 : decode b_Mod_numberOf 299 = .ok (.if_icmp .ge 21, 3) := by decide +kernel
theorem d_Mod_numberOf_302 : decode b_Mod_numberOf 302 = .ok (.aload_n 0, 1) := by decide +kernel
theorem d_Mod_numberOf_303 : decode b_Mod_numberOf 303 = .ok (.iload_n 1, 1) := by decide +kernel
theorem d_Mod_numberOf_304 : decode b_Mod_numberOf 304 = .ok (.iload 5, 2) := by decide +kernel
theorem d_Mod_numberOf_306 : decode b_Mod_numberOf 306 = .ok (.iconst 1, 1) := by decide +kernel
theorem d_Mod_numberOf_307 : decode b_Mod_numberOf 307 = .ok (.iadd, 1) := by decide +kernel
theorem d_Mod_numberOf_308 : decode b_Mod_numberOf 308 = .ok (.invokevirtual 585, 3) := by decide +kernel
theorem d_Mod_numberOf_311 : decode b_Mod_numberOf 311 = .ok (.iload 14, 2) := by decide +kernel
theorem d_Mod_numberOf_313 : decode b_Mod_numberOf 313 = .ok (.if_icmp .ne 7, 3) := by decide +kernel
theorem d_Mod_numberOf_316 : decode b_Mod_numberOf 316 = .ok (.iconst 2, 1) := by decide +kernel
theorem d_Mod_numberOf_317 : decode b_Mod_numberOf 317 = .ok (.goto 4, 3) := by decide +kernel
theorem d_Mod_numberOf_320 : decode b_Mod_numberOf 320 = .ok (.iconst 1, 1) := by decide +kernel
theorem d_Mod_numberOf_321 : decode b_Mod_numberOf 321 = .ok (.istore 12, 2) := by decide +kernel
theorem d_Mod_numberOf_323 : decode b_Mod_numberOf 323 = .ok (.iload 5, 2) := by decide +kernel
theorem d_Mod_numberOf_325 : decode b_Mod_numberOf 325 = .ok (.iload 12, 2) := by decide +kernel
theorem d_Mod_numberOf_327 : decode b_Mod_numberOf 327 = .ok (.iadd, 1) := by decide +kernel
theorem d_Mod_numberOf_328 : decode b_Mod_numberOf 328 = .ok (.istore 5, 2) := by decide +kernel
theorem d_Mod_numberOf_330 : decode b_Mod_numberOf 330 = .ok (.goto 6, 3) := by decide +kernel
theorem d_Mod_numberOf_333 : decode b_Mod_numberOf 333 = .ok (.iconst 0, 1) := by decide +kernel
theorem d_Mod_numberOf_334 : decode b_Mod_numberOf 334 = .ok (.istore 13, 2) := by decide +kernel
theorem d_Mod_numberOf_336 : decode b_Mod_numberOf 336 = .ok (.goto (-101), 3) := by decide +kernel
theorem d_Mod_numberOf_339 : decode b_Mod_numberOf 339 = .ok (.aload_n 0, 1) := by decide +kernel
theorem d_Mod_numberOf_340 : decode b_Mod_numberOf 340 = .ok (.iload 11, 2) := by decide +kernel
theorem d_Mod_numberOf_342 : decode b_Mod_numberOf 342 = .ok (.ifCond .ne 10, 3) := by decide +kernel
theorem d_Mod_numberOf_345 : decode b_Mod_numberOf 345 = .ok (.lload 7, 2) := by decide +kernel
theorem d_Mod_numberOf_347 : decode b_Mod_numberOf 347 = .ok (.lconst 0, 1) := by decide +kernel
theorem d_Mod_numberOf_348 : decode b_Mod_numberOf 348 = .ok (.lcmp, 1) := by decide +kernel
theorem d_Mod_numberOf_349 : decode b_Mod_numberOf 349 = .ok (.ifCond .ge 7, 3) := by decide +kernel
theorem d_Mod_numberOf_352 : decode b_Mod_numberOf 352 = .ok (.iconst 1, 1) := by decide +kernel
theorem d_Mod_numberOf_353 : decode b_Mod_numberOf 353 = .ok (.goto 4, 3) := by decide +kernel
theorem d_Mod_numberOf_356 : decode b_Mod_numberOf 356 = .ok (.iconst 0, 1) := by decide +kernel
theorem d_Mod_numberOf_357 : decode b_Mod_numberOf 357 = .ok (.putfield 973, 3) := by decide +kernel
theorem d_Mod_numberOf_360 : decode b_Mod_numberOf 360 = .ok (.aload_n 0, 1) := by decide +kernel
theorem d_Mod_numberOf_361 : decode b_Mod_numberOf 361 = .ok (.aload_n 0, 1) := by decide +kernel
theorem d_Mod_numberOf_362 : decode b_Mod_numberOf 362 = .ok (.getfield 948, 3) := by decide +kernel
theorem d_Mod_numberOf_365 : decode b_Mod_numberOf 365 = .ok (.ifCond .ne 37, 3) := by decide +kernel
theorem d_Mod_numberOf_368 : decode b_Mod_numberOf 368 = .ok (.iload 10, 2) := by decide +kernel
theorem d_Mod_numberOf_370 : decode b_Mod_numberOf 370 = .ok (.ifCond .ne 32, 3) := by decide +kernel
theorem d_Mod_numberOf_373 : decode b_Mod_numberOf 373 = .ok (.iload 13, 2) := by decide +kernel
theorem d_Mod_numberOf_375 : decode b_Mod_numberOf 375 = .ok (.ifCond .eq 27, 3) := by decide +kernel
theorem d_Mod_numberOf_378 : decode b_Mod_numberOf 378 = .ok (.iload 9, 2) := by decide +kernel
theorem d_Mod_numberOf_380 : decode b_Mod_numberOf 380 = .ok (.ifCond .ne 22, 3) := by decide +kernel
theorem d_Mod_numberOf_383 : decode b_Mod_numberOf 383 = .ok (.lload 7, 2) := by decide +kernel
theorem d_Mod_numberOf_385 : decode b_Mod_numberOf 385 = .ok (.lconst 0, 1) := by decide +kernel
theorem d_Mod_numberOf_386 : decode b_Mod_numberOf 386 = .ok (.lcmp, 1) := by decide +kernel
theorem d_Mod_numberOf_387 : decode b_Mod_numberOf 387 = .ok (.ifCond .ge 19, 3) := by decide +kernel
theorem d_Mod_numberOf_390 : decode b_Mod_numberOf 390 = .ok (.iload 11, 2) := by decide +kernel
theorem d_Mod_numberOf_392 : decode b_Mod_numberOf 392 = .ok (.ifCond .ne 14, 3) := by decide +kernel
theorem d_Mod_numberOf_395 : decode b_Mod_numberOf 395 = .ok (.iload 4, 2) := by decide +kernel
theorem d_Mod_numberOf_397 : decode b_Mod_numberOf 397 = .ok (.bipush 10, 2) := by decide +kernel
theorem d_Mod_numberOf_399 : decode b_Mod_numberOf 399 = .ok (.if_icmp .ne 7, 3) := by decide +kernel
theorem d_Mod_numberOf_402 : decode b_Mod_numberOf 402 = .ok (.iconst 1, 1) := by decide +kernel
theorem d_Mod_numberOf_403 : decode b_Mod_numberOf 403 = .ok (.goto 4, 3) := by decide +kernel
theorem d_Mod_numberOf_406 : decode b_Mod_numberOf 406 = .ok (.iconst 0, 1) := by decide +kernel
theorem d_Mod_numberOf_407 : decode b_Mod_numberOf 407 = .ok (.putfield 948, 3) := by decide +kernel
theorem d_Mod_numberOf_410 : decode b_Mod_numberOf 410 = .ok (.lload 7, 2) := by decide +kernel
theorem d_Mod_numberOf_412 : decode b_Mod_numberOf 412 = .ok (.lreturn, 1) := by decide +kernel
theorem d_Mod_numeral_0 : decode b_Mod_numeral 0 = .ok (.iconst 0, 1) := by decide +kernel
theorem d_Mod_numeral_1 : decode b_Mod_numeral 1 = .ok (.istore_n 1, 1) := by decide +kernel
theorem d_Mod_numeral_2 : decode b_Mod_numeral 2 = .ok (.iconst 0, 1) := by decide +kernel
theorem d_Mod_numeral_3 : decode b_Mod_numeral 3 = .ok (.istore_n 2, 1) := by decide +kernel
theorem d_Mod_numeral_4 : decode b_Mod_numeral 4 = .ok (.aload_n 0, 1) := by decide +kernel
theorem d_Mod_numeral_5 : decode b_Mod_numeral 5 = .ok (.iconst 0, 1) := by decide +kernel
theorem d_Mod_numeral_6 : decode b_Mod_numeral 6 = .ok (.invokevirtual 532, 3) := by decide +kernel
theorem d_Mod_numeral_9 : decode b_Mod_numeral 9 = .ok (.invokestatic 330, 3) := by decide +kernel
theorem d_Mod_numeral_12 : decode b_Mod_numeral 12 = .ok (.ifCond .eq 43, 3) := by decide +kernel
theorem d_Mod_numeral_15 : decode b_Mod_numeral 15 = .ok (.iload_n 2, 1) := by decide +kernel
theorem d_Mod_numeral_16 : decode b_Mod_numeral 16 = .ok (.bipush 9, 2) := by decide +kernel
theorem d_Mod_numeral_18 : decode b_Mod_numeral 18 = .ok (.if_icmp .ge 19, 3) := by decide +kernel
theorem d_Mod_numeral_21 : decode b_Mod_numeral 21 = .ok (.bipush 10, 2) := by decide +kernel
theorem d_Mod_numeral_23 : decode b_Mod_numeral 23 = .ok (.iload_n 1, 1) := by decide +kernel
theorem d_Mod_numeral_24 : decode b_Mod_numeral 24 = .ok (.imul, 1) := by decide +kernel
theorem d_Mod_numeral_25 : decode b_Mod_numeral 25 = .ok (.aload_n 0, 1) := by decide +kernel
theorem d_Mod_numeral_26 : decode b_Mod_numeral 26 = .ok (.iconst 0, 1) := by decide +kernel
theorem d_Mod_numeral_27 : decode b_Mod_numeral 27 = .ok (.invokevirtual 532, 3) := by decide +kernel
theorem d_Mod_numeral_30 : decode b_Mod_numeral 30 = .ok (.iadd, 1) := by decide +kernel
theorem d_Mod_numeral_31 : decode b_Mod_numeral 31 = .ok (.bipush 48, 2) := by decide +kernel
theorem d_Mod_numeral_33 : decode b_Mod_numeral 33 = .ok (.isub, 1) := by decide +kernel
theorem d_Mod_numeral_34 : decode b_Mod_numeral 34 = .ok (.goto 4, 3) := by decide +kernel
theorem d_Mod_numeral_37 : decode b_Mod_numeral 37 = .ok (.iload_n 1, 1) := by decide +kernel
theorem d_Mod_numeral_38 : decode b_Mod_numeral 38 = .ok (.istore_n 1, 1) := by decide +kernel
theorem d_Mod_numeral_39 : decode b_Mod_numeral 39 = .ok (.iinc 2 1, 3) := by decide +kernel
theorem d_Mod_numeral_42 : decode b_Mod_numeral 42 = .ok (.aload_n 0, 1) := by decide +kernel
theorem d_Mod_numeral_43 : decode b_Mod_numeral 43 = .ok (.dup, 1) := by decide +kernel
theorem d_Mod_numeral_44 : decode b_Mod_numeral 44 = .ok (.getfield 526, 3) := by decide +kernel
theorem d_Mod_numeral_47 : decode b_Mod_numeral 47 = .ok (.iconst 1, 1) := by decide +kernel
theorem d_Mod_numeral_48 : decode b_Mod_numeral 48 = .ok (.iadd, 1) := by decide +kernel
theorem d_Mod_numeral_49 : decode b_Mod_numeral 49 = .ok (.putfield 526, 3) := by decide +kernel
theorem d_Mod_numeral_52 : decode b_Mod_numeral 52 = .ok (.goto (-48), 3) := by decide +kernel
theorem d_Mod_numeral_55 : decode b_Mod_numeral 55 = .ok (.aload_n 0, 1) := by decide +kernel
theorem d_Mod_numeral_56 : decode b_Mod_numeral 56 = .ok (.aload_n 0, 1) := by decide +kernel
theorem d_Mod_numeral_57 : decode b_Mod_numeral 57 = .ok (.getfield 535, 3) := by decide +kernel
theorem d_Mod_numeral_60 : decode b_Mod_numeral 60 = .ok (.ifCond .ne 9, 3) := by decide +kernel
theorem d_Mod_numeral_63 : decode b_Mod_numeral 63 = .ok (.iload_n 2, 1) := by decide +kernel
theorem d_Mod_numeral_64 : decode b_Mod_numeral 64 = .ok (.bipush 9, 2) := by decide +kernel
theorem d_Mod_numeral_66 : decode b_Mod_numeral 66 = .ok (.if_icmp .le 7, 3) := by decide +kernel
theorem d_Mod_numeral_69 : decode b_Mod_numeral 69 = .ok (.iconst 1, 1) := by decide +kernel
theorem d_Mod_numeral_70 : decode b_Mod_numeral 70 = .ok (.goto 4, 3) := by decide +kernel
theorem d_Mod_numeral_73 : decode b_Mod_numeral 73 = .ok (.iconst 0, 1) := by decide +kernel
theorem d_Mod_numeral_74 : decode b_Mod_numeral 74 = .ok (.putfield 535, 3) := by decide +kernel
theorem d_Mod_numeral_77 : decode b_Mod_numeral 77 = .ok (.iload_n 1, 1) := by decide +kernel
theorem d_Mod_numeral_78 : decode b_Mod_numeral 78 = .ok (.ireturn, 1) := by decide +kernel
theorem d_Mod_operator_0 : decode b_Mod_operator 0 = .ok (.aload_n 0, 1) := by decide +kernel
theorem d_Mod_operator_1 : decode b_Mod_operator 1 = .ok (.iconst 0, 1) := by decide +kernel
theorem d_Mod_operator_2 : decode b_Mod_operator 2 = .ok (.invokevirtual 532, 3) := by decide +kernel
theorem d_Mod_operator_5 : decode b_Mod_operator 5 = .ok (.istore_n 1, 1) := by decide +kernel
theorem d_Mod_operator_6 : decode b_Mod_operator 6 = .ok (.aload_n 0, 1) := by decide +kernel
theorem d_Mod_operator_7 : decode b_Mod_operator 7 = .ok (.iconst 1, 1) := by decide +kernel
theorem d_Mod_operator_8 : decode b_Mod_operator 8 = .ok (.invokevirtual 532, 3) := by decide +kernel
theorem d_Mod_operator_11 : decode b_Mod_operator 11 = .ok (.istore_n 2, 1) := by decide +kernel
theorem d_Mod_operator_12 : decode b_Mod_operator 12 = .ok (.iload_n 1, 1) := by decide +kernel
theorem d_Mod_operator_13 : decode b_Mod_operator 13 = .ok (.bipush 124, 2) := by decide +kernel
theorem d_Mod_operator_15 : decode b_Mod_operator 15 = .ok (.if_icmp .ne 17, 3) := by decide +kernel
theorem d_Mod_operator_18 : decode b_Mod_operator 18 = .ok (.iload_n 2, 1) := by decide +kernel
theorem d_Mod_operator_19 : decode b_Mod_operator 19 = .ok (.bipush 124, 2) := by decide +kernel
theorem d_Mod_operator_21 : decode b_Mod_operator 21 = .ok (.if_icmp .ne 8, 3) := by decide +kernel
theorem d_Mod_operator_24 : decode b_Mod_operator 24 = .ok (.bipush 11, 2) := by decide +kernel
theorem d_Mod_operator_26 : decode b_Mod_operator 26 = .ok (.goto 5, 3) := by decide +kernel
theorem d_Mod_operator_29 : decode b_Mod_operator 29 = .ok (.bipush 31, 2) := by decide +kernel
theorem d_Mod_operator_31 : decode b_Mod_operator 31 = .ok (.ireturn, 1) := by decide +kernel
theorem d_Mod_operator_32 : decode b_Mod_operator 32 = .ok (.iload_n 1, 1) := by decide +kernel
theorem d_Mod_operator_33 : decode b_Mod_operator 33 = .ok (.bipush 38, 2) := by decide +kernel
theorem d_Mod_operator_35 : decode b_Mod_operator 35 = .ok (.if_icmp .ne 17, 3) := by decide +kernel
theorem d_Mod_operator_38 : decode b_Mod_operator 38 = .ok (.iload_n 2, 1) := by decide +kernel
theorem d_Mod_operator_39 : decode b_Mod_operator 39 = .ok (.bipush 38, 2) := by decide +kernel
theorem d_Mod_operator_41 : decode b_Mod_operator 41 = .ok (.if_icmp .ne 8, 3) := by decide +kernel
theorem d_Mod_operator_44 : decode b_Mod_operator 44 = .ok (.bipush 21, 2) := by decide +kernel
theorem d_Mod_operator_46 : decode b_Mod_operator 46 = .ok (.goto 5, 3) := by decide +kernel
theorem d_Mod_operator_49 : decode b_Mod_operator 49 = .ok (.bipush 51, 2) := by decide +kernel
theorem d_Mod_operator_51 : decode b_Mod_operator 51 = .ok (.ireturn, 1) := by decide +kernel
theorem d_Mod_operator_52 : decode b_Mod_operator 52 = .ok (.iload_n 1, 1) := by decide +kernel
theorem d_Mod_operator_53 : decode b_Mod_operator 53 = .ok (.bipush 94, 2) := by decide +kernel
theorem d_Mod_operator_55 : decode b_Mod_operator 55 = .ok (.if_icmp .ne 6, 3) := by decide +kernel
theorem d_Mod_operator_58 : decode b_Mod_operator 58 = .ok (.bipush 41, 2) := by decide +kernel
theorem d_Mod_operator_60 : decode b_Mod_operator 60 = .ok (.ireturn, 1) := by decide +kernel
theorem d_Mod_operator_61 : decode b_Mod_operator 61 = .ok (.iload_n 1, 1) := by decide +kernel
theorem d_Mod_operator_62 : decode b_Mod_operator 62 = .ok (.bipush 61, 2) := by decide +kernel
theorem d_Mod_operator_64 : decode b_Mod_operator 64 = .ok (.if_icmp .eq 9, 3) := by decide +kernel
theorem d_Mod_operator_67 : decode b_Mod_operator 67 = .ok (.iload_n 1, 1) := by decide +kernel
theorem d_Mod_operator_68 : decode b_Mod_operator 68 = .ok (.bipush 33, 2) := by decide +kernel
theorem d_Mod_operator_70 : decode b_Mod_operator 70 = .ok (.if_icmp .ne 27, 3) := by decide +kernel
theorem d_Mod_operator_73 : decode b_Mod_operator 73 = .ok (.iload_n 2, 1) := by decide +kernel
theorem d_Mod_operator_74 : decode b_Mod_operator 74 = .ok (.bipush 61, 2) := by decide +kernel
theorem d_Mod_operator_76 : decode b_Mod_operator 76 = .ok (.if_icmp .eq 7, 3) := by decide +kernel
theorem d_Mod_operator_79 : decode b_Mod_operator 79 = .ok (.iconst 0, 1) := by decide +kernel
theorem d_Mod_operator_80 : decode b_Mod_operator 80 = .ok (.goto 16, 3) := by decide +kernel
theorem d_Mod_operator_83 : decode b_Mod_operator 83 = .ok (.iload_n 1, 1) := by decide +kernel
theorem d_Mod_operator_84 : decode b_Mod_operator 84 = .ok (.bipush 61, 2) := by decide +kernel
theorem d_Mod_operator_86 : decode b_Mod_operator 86 = .ok (.if_icmp .ne 8, 3) := by decide +kernel
theorem d_Mod_operator_89 : decode b_Mod_operator 89 = .ok (.bipush 61, 2) := by decide +kernel
theorem d_Mod_operator_91 : decode b_Mod_operator 91 = .ok (.goto 5, 3) := by decide +kernel
theorem d_Mod_operator_94 : decode b_Mod_operator 94 = .ok (.bipush 62, 2) := by decide +kernel
theorem d_Mod_operator_96 : decode b_Mod_operator 96 = .ok (.ireturn, 1) := by decide +kernel
theorem d_Mod_operator_97 : decode b_Mod_operator 97 = .ok (.iload_n 1, 1) := by decide +kernel
theorem d_Mod_operator_98 : decode b_Mod_operator 98 = .ok (.bipush 60, 2) := by decide +kernel
theorem d_Mod_operator_100 : decode b_Mod_operator 100 = .ok (.if_icmp .ne 28, 3) := by decide +kernel
theorem d_Mod_operator_103 : decode b_Mod_operator 103 = .ok (.iload_n 2, 1) := by decide +kernel
theorem d_Mod_operator_104 : decode b_Mod_operator 104 = .ok (.bipush 60, 2) := by decide +kernel
theorem d_Mod_operator_106 : decode b_Mod_operator 106 = .ok (.if_icmp .ne 8, 3) := by decide +kernel
theorem d_Mod_operator_109 : decode b_Mod_operator 109 = .ok (.bipush 81, 2) := by decide +kernel
theorem d_Mod_operator_111 : decode b_Mod_operator 111 = .ok (.goto 16, 3) := by decide +kernel
theorem d_Mod_operator_114 : decode b_Mod_operator 114 = .ok (.iload_n 2, 1) := by decide +kernel
theorem d_Mod_operator_115 : decode b_Mod_operator 115 = .ok (.bipush 61, 2) := by decide +kernel
theorem d_Mod_operator_117 : decode b_Mod_operator 117 = .ok (.if_icmp .ne 8, 3) := by decide +kernel
theorem d_Mod_operator_120 : decode b_Mod_operator 120 = .ok (.bipush 73, 2) := by decide +kernel
theorem d_Mod_operator_122 : decode b_Mod_operator 122 = .ok (.goto 5, 3) := by decide +kernel
theorem d_Mod_operator_125 : decode b_Mod_operator 125 = .ok (.bipush 71, 2) := by decide +kernel
theorem d_Mod_operator_127 : decode b_Mod_operator 127 = .ok (.ireturn, 1) := by decide +kernel
theorem d_Mod_operator_128 : decode b_Mod_operator 128 = .ok (.iload_n 1, 1) := by decide +kernel
theorem d_Mod_operator_129 : decode b_Mod_operator 129 = .ok (.bipush 62, 2) := by decide +kernel
theorem d_Mod_operator_131 : decode b_Mod_operator 131 = .ok (.if_icmp .ne 28, 3) := by decide +kernel
theorem d_Mod_operator_134 : decode b_Mod_operator 134 = .ok (.iload_n 2, 1) := by decide +kernel
theorem d_Mod_operator_135 : decode b_Mod_operator 135 = .ok (.bipush 62, 2) := by decide +kernel
theorem d_Mod_operator_137 : decode b_Mod_operator 137 = .ok (.if_icmp .ne 8, 3) := by decide +kernel
theorem d_Mod_operator_140 : decode b_Mod_operator 140 = .ok (.bipush 82, 2) := by decide +kernel
theorem d_Mod_operator_142 : decode b_Mod_operator 142 = .ok (.goto 16, 3) := by decide +kernel
theorem d_Mod_operator_145 : decode b_Mod_operator 145 = .ok (.iload_n 2, 1) := by decide +kernel
theorem d_Mod_operator_146 : decode b_Mod_operator 146 = .ok (.bipush 61, 2) := by decide +kernel
theorem d_Mod_operator_148 : decode b_Mod_operator 148 = .ok (.if_icmp .ne 8, 3) := by decide +kernel
theorem d_Mod_operator_151 : decode b_Mod_operator 151 = .ok (.bipush 74, 2) := by decide +kernel
theorem d_Mod_operator_153 : decode b_Mod_operator 153 = .ok (.goto 5, 3) := by decide +kernel
theorem d_Mod_operator_156 : decode b_Mod_operator 156 = .ok (.bipush 72, 2) := by decide +kernel
theorem d_Mod_operator_158 : decode b_Mod_operator 158 = .ok (.ireturn, 1) := by decide +kernel
theorem d_Mod_operator_159 : decode b_Mod_operator 159 = .ok (.iload_n 1, 1) := by decide +kernel
theorem d_Mod_operator_160 : decode b_Mod_operator 160 = .ok (.bipush 43, 2) := by decide +kernel
theorem d_Mod_operator_162 : decode b_Mod_operator 162 = .ok (.if_icmp .ne 8, 3) := by decide +kernel
theorem d_Mod_operator_165 : decode b_Mod_operator 165 = .ok (.bipush 91, 2) := by decide +kernel
theorem d_Mod_operator_167 : decode b_Mod_operator 167 = .ok (.goto 48, 3) := by decide +kernel
theorem d_Mod_operator_170 : decode b_Mod_operator 170 = .ok (.iload_n 1, 1) := by decide +kernel
theorem d_Mod_operator_171 : decode b_Mod_operator 171 = .ok (.bipush 45, 2) := by decide +kernel
theorem d_Mod_operator_173 : decode b_Mod_operator 173 = .ok (.if_icmp .ne 8, 3) := by decide +kernel
theorem d_Mod_operator_176 : decode b_Mod_operator 176 = .ok (.bipush 92, 2) := by decide +kernel
theorem d_Mod_operator_178 : decode b_Mod_operator 178 = .ok (.goto 37, 3) := by decide +kernel
theorem d_Mod_operator_181 : decode b_Mod_operator 181 = .ok (.iload_n 1, 1) := by decide +kernel
theorem d_Mod_operator_182 : decode b_Mod_operator 182 = .ok (.bipush 42, 2) := by decide +kernel
theorem d_Mod_operator_184 : decode b_Mod_operator 184 = .ok (.if_icmp .ne 8, 3) := by decide +kernel
theorem d_Mod_operator_187 : decode b_Mod_operator 187 = .ok (.bipush 101, 2) := by decide +kernel
theorem d_Mod_operator_189 : decode b_Mod_operator 189 = .ok (.goto 26, 3) := by decide +kernel
theorem d_Mod_operator_192 : decode b_Mod_operator 192 = .ok (.iload_n 1, 1) := by decide +kernel
theorem d_Mod_operator_193 : decode b_Mod_operator 193 = .ok (.bipush 47, 2) := by decide +kernel
theorem d_Mod_operator_195 : decode b_Mod_operator 195 = .ok (.if_icmp .ne 8, 3) := by decide +kernel
theorem d_Mod_operator_198 : decode b_Mod_operator 198 = .ok (.bipush 102, 2) := by decide +kernel
theorem d_Mod_operator_200 : decode b_Mod_operator 200 = .ok (.goto 15, 3) := by decide +kernel
theorem d_Mod_operator_203 : decode b_Mod_operator 203 = .ok (.iload_n 1, 1) := by decide +kernel
theorem d_Mod_operator_204 : decode b_Mod_operator 204 = .ok (.bipush 37, 2) := by decide +kernel
theorem d_Mod_operator_206 : decode b_Mod_operator 206 = .ok (.if_icmp .ne 8, 3) := by decide +kernel
theorem d_Mod_operator_209 : decode b_Mod_operator 209 = .ok (.bipush 103, 2) := by decide +kernel
theorem d_Mod_operator_211 : decode b_Mod_operator 211 = .ok (.goto 4, 3) := by decide +kernel
theorem d_Mod_operator_214 : decode b_Mod_operator 214 = .ok (.iconst 0, 1) := by decide +kernel
theorem d_Mod_operator_215 : decode b_Mod_operator 215 = .ok (.ireturn, 1) := by decide +kernel
theorem d_Mod_parameterOf_0 : decode b_Mod_parameterOf 0 = .ok (.iconst (-1), 1) := by decide +kernel
theorem d_Mod_parameterOf_1 : decode b_Mod_parameterOf 1 = .ok (.istore_n 3, 1) := by decide +kernel
theorem d_Mod_parameterOf_2 : decode b_Mod_parameterOf 2 = .ok (.iconst 0, 1) := by decide +kernel
theorem d_Mod_parameterOf_3 : decode b_Mod_parameterOf 3 = .ok (.istore 4, 2) := by decide +kernel
theorem d_Mod_parameterOf_5 : decode b_Mod_parameterOf 5 = .ok (.iload 4, 2) := by decide +kernel
theorem d_Mod_parameterOf_7 : decode b_Mod_parameterOf 7 = .ok (.aload_n 0, 1) := by decide +kernel
theorem d_Mod_parameterOf_8 : decode b_Mod_parameterOf 8 = .ok (.getfield 130, 3) := by decide +kernel
theorem d_Mod_parameterOf_11 : decode b_Mod_parameterOf 11 = .ok (.iload_n 1, 1) := by decide +kernel
theorem d_Mod_parameterOf_12 : decode b_Mod_parameterOf 12 = .ok (.iaload, 1) := by decide +kernel
theorem d_Mod_parameterOf_13 : decode b_Mod_parameterOf 13 = .ok (.if_icmp .ge 117, 3) := by decide +kernel
theorem d_Mod_parameterOf_16 : decode b_Mod_parameterOf 16 = .ok (.bipush 31, 2) := by decide +kernel
theorem d_Mod_parameterOf_18 : decode b_Mod_parameterOf 18 = .ok (.iload_n 1, 1) := by decide +kernel
theorem d_Mod_parameterOf_19 : decode b_Mod_parameterOf 19 = .ok (.imul, 1) := by decide +kernel
theorem d_Mod_parameterOf_20 : decode b_Mod_parameterOf 20 = .ok (.iload 4, 2) := by decide +kernel
theorem d_Mod_parameterOf_22 : decode b_Mod_parameterOf 22 = .ok (.iadd, 1) := by decide +kernel
theorem d_Mod_parameterOf_23 : decode b_Mod_parameterOf 23 = .ok (.istore 5, 2) := by decide +kernel
theorem d_Mod_parameterOf_25 : decode b_Mod_parameterOf 25 = .ok (.aload_n 0, 1) := by decide +kernel
theorem d_Mod_parameterOf_26 : decode b_Mod_parameterOf 26 = .ok (.getfield 139, 3) := by decide +kernel
theorem d_Mod_parameterOf_29 : decode b_Mod_parameterOf 29 = .ok (.iload 5, 2) := by decide +kernel
theorem d_Mod_parameterOf_31 : decode b_Mod_parameterOf 31 = .ok (.iaload, 1) := by decide +kernel
theorem d_Mod_parameterOf_32 : decode b_Mod_parameterOf 32 = .ok (.aload_n 0, 1) := by decide +kernel
theorem d_Mod_parameterOf_33 : decode b_Mod_parameterOf 33 = .ok (.getfield 145, 3) := by decide +kernel
theorem d_Mod_parameterOf_36 : decode b_Mod_parameterOf 36 = .ok (.iload_n 2, 1) := by decide +kernel
theorem d_Mod_parameterOf_37 : decode b_Mod_parameterOf 37 = .ok (.iaload, 1) := by decide +kernel
theorem d_Mod_parameterOf_38 : decode b_Mod_parameterOf 38 = .ok (.if_icmp .ne 7, 3) := by decide +kernel
theorem d_Mod_parameterOf_41 : decode b_Mod_parameterOf 41 = .ok (.iconst 1, 1) := by decide +kernel
theorem d_Mod_parameterOf_42 : decode b_Mod_parameterOf 42 = .ok (.goto 4, 3) := by decide +kernel
theorem d_Mod_parameterOf_45 : decode b_Mod_parameterOf 45 = .ok (.iconst 0, 1) := by decide +kernel
theorem d_Mod_parameterOf_46 : decode b_Mod_parameterOf 46 = .ok (.istore 6, 2) := by decide +kernel
theorem d_Mod_parameterOf_48 : decode b_Mod_parameterOf 48 = .ok (.iconst 0, 1) := by decide +kernel
theorem d_Mod_parameterOf_49 : decode b_Mod_parameterOf 49 = .ok (.istore 7, 2) := by decide +kernel
theorem d_Mod_parameterOf_51 : decode b_Mod_parameterOf 51 = .ok (.iload 7, 2) := by decide +kernel
theorem d_Mod_parameterOf_53 : decode b_Mod_parameterOf 53 = .ok (.aload_n 0, 1) := by decide +kernel
theorem d_Mod_parameterOf_54 : decode b_Mod_parameterOf 54 = .ok (.getfield 145, 3) := by decide +kernel
theorem d_Mod_parameterOf_57 : decode b_Mod_parameterOf 57 = .ok (.iload_n 2, 1) := by decide +kernel
theorem d_Mod_parameterOf_58 : decode b_Mod_parameterOf 58 = .ok (.iaload, 1) := by decide +kernel
theorem d_Mod_parameterOf_59 : decode b_Mod_parameterOf 59 = .ok (.if_icmp .ge 53, 3) := by decide +kernel
theorem d_Mod_parameterOf_62 : decode b_Mod_parameterOf 62 = .ok (.iload 6, 2) := by decide +kernel
theorem d_Mod_parameterOf_64 : decode b_Mod_parameterOf 64 = .ok (.ifCond .eq 48, 3) := by decide +kernel
theorem d_Mod_parameterOf_67 : decode b_Mod_parameterOf 67 = .ok (.aload_n 0, 1) := by decide +kernel
theorem d_Mod_parameterOf_68 : decode b_Mod_parameterOf 68 = .ok (.getfield 85, 3) := by decide +kernel
theorem d_Mod_parameterOf_71 : decode b_Mod_parameterOf 71 = .ok (.aload_n 0, 1) := by decide +kernel
theorem d_Mod_parameterOf_72 : decode b_Mod_parameterOf 72 = .ok (.getfield 142, 3) := by decide +kernel
theorem d_Mod_parameterOf_75 : decode b_Mod_parameterOf 75 = .ok (.iload_n 2, 1) := by decide +kernel
theorem d_Mod_parameterOf_76 : decode b_Mod_parameterOf 76 = .ok (.iaload, 1) := by decide +kernel
theorem d_Mod_parameterOf_77 : decode b_Mod_parameterOf 77 = .ok (.iload 7, 2) := by decide +kernel
theorem d_Mod_parameterOf_79 : decode b_Mod_parameterOf 79 = .ok (.iadd, 1) := by decide +kernel
theorem d_Mod_parameterOf_80 : decode b_Mod_parameterOf 80 = .ok (.baload, 1) := by decide +kernel
theorem d_Mod_parameterOf_81 : decode b_Mod_parameterOf 81 = .ok (.aload_n 0, 1) := by decide +kernel
theorem d_Mod_parameterOf_82 : decode b_Mod_parameterOf 82 = .ok (.getfield 85, 3) := by decide +kernel
theorem d_Mod_parameterOf_85 : decode b_Mod_parameterOf 85 = .ok (.aload_n 0, 1) := by decide +kernel
theorem d_Mod_parameterOf_86 : decode b_Mod_parameterOf 86 = .ok (.getfield 136, 3) := by decide +kernel
theorem d_Mod_parameterOf_89 : decode b_Mod_parameterOf 89 = .ok (.iload 5, 2) := by decide +kernel
theorem d_Mod_parameterOf_91 : decode b_Mod_parameterOf 91 = .ok (.iaload, 1) := by decide +kernel
theorem d_Mod_parameterOf_92 : decode b_Mod_parameterOf 92 = .ok (.iload 7, 2) := by decide +kernel
theorem d_Mod_parameterOf_94 : decode b_Mod_parameterOf 94 = .ok (.iadd, 1) := by decide +kernel
theorem d_Mod_parameterOf_95 : decode b_Mod_parameterOf 95 = .ok (.baload, 1) := by decide +kernel
theorem d_Mod_parameterOf_96 : decode b_Mod_parameterOf 96 = .ok (.if_icmp .ne 7, 3) := by decide +kernel
theorem d_Mod_parameterOf_99 : decode b_Mod_parameterOf 99 = .ok (.iconst 1, 1) := by decide +kernel
theorem d_Mod_parameterOf_100 : decode b_Mod_parameterOf 100 = .ok (.goto 4, 3) := by decide +kernel
theorem d_Mod_parameterOf_103 : decode b_Mod_parameterOf 103 = .ok (.iconst 0, 1) := by decide +kernel
theorem d_Mod_parameterOf_104 : decode b_Mod_parameterOf 104 = .ok (.istore 6, 2) := by decide +kernel
theorem d_Mod_parameterOf_106 : decode b_Mod_parameterOf 106 = .ok (.iinc 7 1, 3) := by decide +kernel
theorem d_Mod_parameterOf_109 : decode b_Mod_parameterOf 109 = .ok (.goto (-58), 3) := by decide +kernel
theorem d_Mod_parameterOf_112 : decode b_Mod_parameterOf 112 = .ok (.iload 6, 2) := by decide +kernel
theorem d_Mod_parameterOf_114 : decode b_Mod_parameterOf 114 = .ok (.ifCond .eq 8, 3) := by decide +kernel
theorem d_Mod_parameterOf_117 : decode b_Mod_parameterOf 117 = .ok (.iload 4, 2) := by decide +kernel
theorem d_Mod_parameterOf_119 : decode b_Mod_parameterOf 119 = .ok (.goto 4, 3) := by decide +kernel
theorem d_Mod_parameterOf_122 : decode b_Mod_parameterOf 122 = .ok (.iload_n 3, 1) := by decide +kernel
theorem d_Mod_parameterOf_123 : decode b_Mod_parameterOf 123 = .ok (.istore_n 3, 1) := by decide +kernel
theorem d_Mod_parameterOf_124 : decode b_Mod_parameterOf 124 = .ok (.iinc 4 1, 3) := by decide +kernel
theorem d_Mod_parameterOf_127 : decode b_Mod_parameterOf 127 = .ok (.goto (-122), 3) := by decide +kernel
theorem d_Mod_parameterOf_130 : decode b_Mod_parameterOf 130 = .ok (.iload_n 3, 1) := by decide +kernel
theorem d_Mod_parameterOf_131 : decode b_Mod_parameterOf 131 = .ok (.ireturn, 1) := by decide +kernel
theorem d_Mod_parameters_0 : decode b_Mod_parameters 0 = .ok (.aload_n 0, 1) := by decide +kernel
theorem d_Mod_parameters_1 : decode b_Mod_parameters 1 = .ok (.invokevirtual 248, 3) := by decide +kernel
theorem d_Mod_parameters_4 : decode b_Mod_parameters 4 = .ok (.istore_n 1, 1) := by decide +kernel
theorem d_Mod_parameters_5 : decode b_Mod_parameters 5 = .ok (.iconst 0, 1) := by decide +kernel
theorem d_Mod_parameters_6 : decode b_Mod_parameters 6 = .ok (.istore_n 2, 1) := by decide +kernel
theorem d_Mod_parameters_7 : decode b_Mod_parameters 7 = .ok (.iload_n 2, 1) := by decide +kernel
theorem d_Mod_parameters_8 : decode b_Mod_parameters 8 = .ok (.aload_n 0, 1) := by decide +kernel
theorem d_Mod_parameters_9 : decode b_Mod_parameters 9 = .ok (.getfield 613, 3) := by decide +kernel
theorem d_Mod_parameters_12 : decode b_Mod_parameters 12 = .ok (.if_icmp .ge 108, 3) := by decide +kernel
theorem d_Mod_parameters_15 : decode b_Mod_parameters 15 = .ok (.aload_n 0, 1) := by decide +kernel
theorem d_Mod_parameters_16 : decode b_Mod_parameters 16 = .ok (.getfield 127, 3) := by decide +kernel
theorem d_Mod_parameters_19 : decode b_Mod_parameters 19 = .ok (.iload_n 2, 1) := by decide +kernel
theorem d_Mod_parameters_20 : decode b_Mod_parameters 20 = .ok (.baload, 1) := by decide +kernel
theorem d_Mod_parameters_21 : decode b_Mod_parameters 21 = .ok (.ifCond .eq 17, 3) := by decide +kernel
theorem d_Mod_parameters_24 : decode b_Mod_parameters 24 = .ok (.aload_n 0, 1) := by decide +kernel
theorem d_Mod_parameters_25 : decode b_Mod_parameters 25 = .ok (.getfield 124, 3) := by decide +kernel
theorem d_Mod_parameters_28 : decode b_Mod_parameters 28 = .ok (.iload_n 2, 1) := by decide +kernel
theorem d_Mod_parameters_29 : decode b_Mod_parameters 29 = .ok (.iaload, 1) := by decide +kernel
theorem d_Mod_parameters_30 : decode b_Mod_parameters 30 = .ok (.iload_n 1, 1) := by decide +kernel
theorem d_Mod_parameters_31 : decode b_Mod_parameters 31 = .ok (.if_icmp .ne 7, 3) := by decide +kernel
theorem d_Mod_parameters_34 : decode b_Mod_parameters 34 = .ok (.iconst 1, 1) := by decide +kernel
theorem d_Mod_parameters_35 : decode b_Mod_parameters 35 = .ok (.goto 4, 3) := by decide +kernel
theorem d_Mod_parameters_38 : decode b_Mod_parameters 38 = .ok (.iconst 0, 1) := by decide +kernel
theorem d_Mod_parameters_39 : decode b_Mod_parameters 39 = .ok (.istore_n 3, 1) := by decide +kernel
theorem d_Mod_parameters_40 : decode b_Mod_parameters 40 = .ok (.iconst 0, 1) := by decide +kernel
theorem d_Mod_parameters_41 : decode b_Mod_parameters 41 = .ok (.istore 4, 2) := by decide +kernel
theorem d_Mod_parameters_43 : decode b_Mod_parameters 43 = .ok (.iload 4, 2) := by decide +kernel
theorem d_Mod_parameters_45 : decode b_Mod_parameters 45 = .ok (.iload_n 1, 1) := by decide +kernel
theorem d_Mod_parameters_46 : decode b_Mod_parameters 46 = .ok (.if_icmp .ge 43, 3) := by decide +kernel
theorem d_Mod_parameters_49 : decode b_Mod_parameters 49 = .ok (.iload_n 3, 1) := by decide +kernel
theorem d_Mod_parameters_50 : decode b_Mod_parameters 50 = .ok (.ifCond .eq 39, 3) := by decide +kernel
theorem d_Mod_parameters_53 : decode b_Mod_parameters 53 = .ok (.aload_n 0, 1) := by decide +kernel
theorem d_Mod_parameters_54 : decode b_Mod_parameters 54 = .ok (.getfield 85, 3) := by decide +kernel
theorem d_Mod_parameters_57 : decode b_Mod_parameters 57 = .ok (.aload_n 0, 1) := by decide +kernel
theorem d_Mod_parameters_58 : decode b_Mod_parameters 58 = .ok (.getfield 121, 3) := by decide +kernel
theorem d_Mod_parameters_61 : decode b_Mod_parameters 61 = .ok (.iload_n 2, 1) := by decide +kernel
theorem d_Mod_parameters_62 : decode b_Mod_parameters 62 = .ok (.iaload, 1) := by decide +kernel
theorem d_Mod_parameters_63 : decode b_Mod_parameters 63 = .ok (.iload 4, 2) := by decide +kernel
theorem d_Mod_parameters_65 : decode b_Mod_parameters 65 = .ok (.iadd, 1) := by decide +kernel
theorem d_Mod_parameters_66 : decode b_Mod_parameters 66 = .ok (.baload, 1) := by decide +kernel
theorem d_Mod_parameters_67 : decode b_Mod_parameters 67 = .ok (.aload_n 0, 1) := by decide +kernel
theorem d_Mod_parameters_68 : decode b_Mod_parameters 68 = .ok (.getfield 9, 3) := by decide +kernel
theorem d_Mod_parameters_71 : decode b_Mod_parameters 71 = .ok (.iload 4, 2) := by decide +kernel
theorem d_Mod_parameters_73 : decode b_Mod_parameters 73 = .ok (.baload, 1) := by decide +kernel
theorem d_Mod_parameters_74 : decode b_Mod_parameters 74 = .ok (.if_icmp .ne 7, 3) := by decide +kernel
theorem d_Mod_parameters_77 : decode b_Mod_parameters 77 = .ok (.iconst 1, 1) := by decide +kernel
theorem d_Mod_parameters_78 : decode b_Mod_parameters 78 = .ok (.goto 4, 3) := by decide +kernel
theorem d_Mod_parameters_81 : decode b_Mod_parameters 81 = .ok (.iconst 0, 1) := by decide +kernel
theorem d_Mod_parameters_82 : decode b_Mod_parameters 82 = .ok (.istore_n 3, 1) := by decide +kernel
theorem d_Mod_parameters_83 : decode b_Mod_parameters 83 = .ok (.iinc 4 1, 3) := by decide +kernel
theorem d_Mod_parameters_86 : decode b_Mod_parameters 86 = .ok (.goto (-43), 3) := by decide +kernel
theorem d_Mod_parameters_89 : decode b_Mod_parameters 89 = .ok (.iload_n 3, 1) := by decide +kernel
theorem d_Mod_parameters_90 : decode b_Mod_parameters 90 = .ok (.ifCond .eq 24, 3) := by decide +kernel
theorem d_Mod_parameters_93 : decode b_Mod_parameters 93 = .ok (.aload_n 0, 1) := by decide +kernel
theorem d_Mod_parameters_94 : decode b_Mod_parameters 94 = .ok (.getfield 130, 3) := by decide +kernel
theorem d_Mod_parameters_97 : decode b_Mod_parameters 97 = .ok (.iload_n 2, 1) := by decide +kernel
theorem d_Mod_parameters_98 : decode b_Mod_parameters 98 = .ok (.iaload, 1) := by decide +kernel
theorem d_Mod_parameters_99 : decode b_Mod_parameters 99 = .ok (.ifCond .ge 8, 3) := by decide +kernel
theorem d_Mod_parameters_102 : decode b_Mod_parameters 102 = .ok (.bipush (-2), 2) := by decide +kernel
theorem d_Mod_parameters_104 : decode b_Mod_parameters 104 = .ok (.goto 9, 3) := by decide +kernel
theorem d_Mod_parameters_107 : decode b_Mod_parameters 107 = .ok (.aload_n 0, 1) := by decide +kernel
theorem d_Mod_parameters_108 : decode b_Mod_parameters 108 = .ok (.getfield 130, 3) := by decide +kernel
theorem d_Mod_parameters_111 : decode b_Mod_parameters 111 = .ok (.iload_n 2, 1) := by decide +kernel
theorem d_Mod_parameters_112 : decode b_Mod_parameters 112 = .ok (.iaload, 1) := by decide +kernel
theorem d_Mod_parameters_113 : decode b_Mod_parameters 113 = .ok (.ireturn, 1) := by decide +kernel
theorem d_Mod_parameters_114 : decode b_Mod_parameters 114 = .ok (.iinc 2 1, 3) := by decide +kernel
theorem d_Mod_parameters_117 : decode b_Mod_parameters 117 = .ok (.goto (-110), 3) := by decide +kernel
theorem d_Mod_parameters_120 : decode b_Mod_parameters 120 = .ok (.iconst (-1), 1) := by decide +kernel
theorem d_Mod_parameters_121 : decode b_Mod_parameters 121 = .ok (.ireturn, 1) := by decide +kernel
theorem d_Mod_parametersNow_0 : decode b_Mod_parametersNow 0 = .ok (.iconst 0, 1) := by decide +kernel
theorem d_Mod_parametersNow_1 : decode b_Mod_parametersNow 1 = .ok (.istore_n 1, 1) := by decide +kernel
theorem d_Mod_parametersNow_2 : decode b_Mod_parametersNow 2 = .ok (.iconst 0, 1) := by decide +kernel
theorem d_Mod_parametersNow_3 : decode b_Mod_parametersNow 3 = .ok (.istore_n 2, 1) := by decide +kernel
theorem d_Mod_parametersNow_4 : decode b_Mod_parametersNow 4 = .ok (.iload_n 2, 1) := by decide +kernel
theorem d_Mod_parametersNow_5 : decode b_Mod_parametersNow 5 = .ok (.aload_n 0, 1) := by decide +kernel
theorem d_Mod_parametersNow_6 : decode b_Mod_parametersNow 6 = .ok (.getfield 613, 3) := by decide +kernel
theorem d_Mod_parametersNow_9 : decode b_Mod_parametersNow 9 = .ok (.if_icmp .ge 40, 3) := by decide +kernel
theorem d_Mod_parametersNow_12 : decode b_Mod_parametersNow 12 = .ok (.aload_n 0, 1) := by decide +kernel
theorem d_Mod_parametersNow_13 : decode b_Mod_parametersNow 13 = .ok (.getfield 127, 3) := by decide +kernel
theorem d_Mod_parametersNow_16 : decode b_Mod_parametersNow 16 = .ok (.iload_n 2, 1) := by decide +kernel
theorem d_Mod_parametersNow_17 : decode b_Mod_parametersNow 17 = .ok (.baload, 1) := by decide +kernel
theorem d_Mod_parametersNow_18 : decode b_Mod_parametersNow 18 = .ok (.ifCond .eq 23, 3) := by decide +kernel
theorem d_Mod_parametersNow_21 : decode b_Mod_parametersNow 21 = .ok (.aload_n 0, 1) := by decide +kernel
theorem d_Mod_parametersNow_22 : decode b_Mod_parametersNow 22 = .ok (.getfield 130, 3) := by decide +kernel
theorem d_Mod_parametersNow_25 : decode b_Mod_parametersNow 25 = .ok (.iload_n 2, 1) := by decide +kernel
theorem d_Mod_parametersNow_26 : decode b_Mod_parametersNow 26 = .ok (.iaload, 1) := by decide +kernel
theorem d_Mod_parametersNow_27 : decode b_Mod_parametersNow 27 = .ok (.ifCond .le 14, 3) := by decide +kernel
theorem d_Mod_parametersNow_30 : decode b_Mod_parametersNow 30 = .ok (.iload_n 1, 1) := by decide +kernel
theorem d_Mod_parametersNow_31 : decode b_Mod_parametersNow 31 = .ok (.aload_n 0, 1) := by decide +kernel
theorem d_Mod_parametersNow_32 : decode b_Mod_parametersNow 32 = .ok (.getfield 130, 3) := by decide +kernel
theorem d_Mod_parametersNow_35 : decode b_Mod_parametersNow 35 = .ok (.iload_n 2, 1) := by decide +kernel
theorem d_Mod_parametersNow_36 : decode b_Mod_parametersNow 36 = .ok (.iaload, 1) := by decide +kernel
theorem d_Mod_parametersNow_37 : decode b_Mod_parametersNow 37 = .ok (.iadd, 1) := by decide +kernel
theorem d_Mod_parametersNow_38 : decode b_Mod_parametersNow 38 = .ok (.goto 4, 3) := by decide +kernel
theorem d_Mod_parametersNow_41 : decode b_Mod_parametersNow 41 = .ok (.iload_n 1, 1) := by decide +kernel
theorem d_Mod_parametersNow_42 : decode b_Mod_parametersNow 42 = .ok (.istore_n 1, 1) := by decide +kernel
theorem d_Mod_parametersNow_43 : decode b_Mod_parametersNow 43 = .ok (.iinc 2 1, 3) := by decide +kernel
theorem d_Mod_parametersNow_46 : decode b_Mod_parametersNow 46 = .ok (.goto (-42), 3) := by decide +kernel
theorem d_Mod_parametersNow_49 : decode b_Mod_parametersNow 49 = .ok (.iload_n 1, 1) := by decide +kernel
theorem d_Mod_parametersNow_50 : decode b_Mod_parametersNow 50 = .ok (.ireturn, 1) := by decide +kernel
theorem d_Mod_pass_0 : decode b_Mod_pass 0 = .ok (.iconst 0, 1) := by decide +kernel
theorem d_Mod_pass_1 : decode b_Mod_pass 1 = .ok (.istore_n 3, 1) := by decide +kernel
theorem d_Mod_pass_2 : decode b_Mod_pass 2 = .ok (.iload_n 3, 1) := by decide +kernel
theorem d_Mod_pass_3 : decode b_Mod_pass 3 = .ok (.iload_n 1, 1) := by decide +kernel
theorem d_Mod_pass_4 : decode b_Mod_pass 4 = .ok (.if_icmp .ge 55, 3) := by decide +kernel
theorem d_Mod_pass_7 : decode b_Mod_pass 7 = .ok (.aload_n 0, 1) := by decide +kernel
theorem d_Mod_pass_8 : decode b_Mod_pass 8 = .ok (.getfield 262, 3) := by decide +kernel
theorem d_Mod_pass_11 : decode b_Mod_pass 11 = .ok (.ifCond .ne 48, 3) := by decide +kernel
theorem d_Mod_pass_14 : decode b_Mod_pass 14 = .ok (.aload_n 0, 1) := by decide +kernel
theorem d_Mod_pass_15 : decode b_Mod_pass 15 = .ok (.invokevirtual 300, 3) := by decide +kernel
theorem d_Mod_pass_18 : decode b_Mod_pass 18 = .ok (.istore 4, 2) := by decide +kernel
theorem d_Mod_pass_20 : decode b_Mod_pass 20 = .ok (.iload_n 2, 1) := by decide +kernel
theorem d_Mod_pass_21 : decode b_Mod_pass 21 = .ok (.ifCond .eq 32, 3) := by decide +kernel
theorem d_Mod_pass_24 : decode b_Mod_pass 24 = .ok (.aload_n 0, 1) := by decide +kernel
theorem d_Mod_pass_25 : decode b_Mod_pass 25 = .ok (.getfield 262, 3) := by decide +kernel
theorem d_Mod_pass_28 : decode b_Mod_pass 28 = .ok (.ifCond .ne 25, 3) := by decide +kernel
theorem d_Mod_pass_31 : decode b_Mod_pass 31 = .ok (.aload_n 0, 1) := by decide +kernel
theorem d_Mod_pass_32 : decode b_Mod_pass 32 = .ok (.getfield 43, 3) := by decide +kernel
theorem d_Mod_pass_35 : decode b_Mod_pass 35 = .ok (.aload_n 0, 1) := by decide +kernel
theorem d_Mod_pass_36 : decode b_Mod_pass 36 = .ok (.getfield 303, 3) := by decide +kernel
theorem d_Mod_pass_39 : decode b_Mod_pass 39 = .ok (.iload 4, 2) := by decide +kernel
theorem d_Mod_pass_41 : decode b_Mod_pass 41 = .ok (.i2b, 1) := by decide +kernel
theorem d_Mod_pass_42 : decode b_Mod_pass 42 = .ok (.bastore, 1) := by decide +kernel
theorem d_Mod_pass_43 : decode b_Mod_pass 43 = .ok (.aload_n 0, 1) := by decide +kernel
theorem d_Mod_pass_44 : decode b_Mod_pass 44 = .ok (.dup, 1) := by decide +kernel
theorem d_Mod_pass_45 : decode b_Mod_pass 45 = .ok (.getfield 303, 3) := by decide +kernel
theorem d_Mod_pass_48 : decode b_Mod_pass 48 = .ok (.iconst 1, 1) := by decide +kernel
theorem d_Mod_pass_49 : decode b_Mod_pass 49 = .ok (.iadd, 1) := by decide +kernel
theorem d_Mod_pass_50 : decode b_Mod_pass 50 = .ok (.putfield 303, 3) := by decide +kernel
theorem d_Mod_pass_53 : decode b_Mod_pass 53 = .ok (.iinc 3 1, 3) := by decide +kernel
theorem d_Mod_pass_56 : decode b_Mod_pass 56 = .ok (.goto (-54), 3) := by decide +kernel
theorem d_Mod_pass_59 : decode b_Mod_pass 59 = .ok (.return_, 1) := by decide +kernel
theorem d_Mod_peek_0 : decode b_Mod_peek 0 = .ok (.aload_n 0, 1) := by decide +kernel
theorem d_Mod_peek_1 : decode b_Mod_peek 1 = .ok (.getfield 271, 3) := by decide +kernel
theorem d_Mod_peek_4 : decode b_Mod_peek 4 = .ok (.iload_n 1, 1) := by decide +kernel
theorem d_Mod_peek_5 : decode b_Mod_peek 5 = .ok (.iadd, 1) := by decide +kernel
theorem d_Mod_peek_6 : decode b_Mod_peek 6 = .ok (.ldc 20, 2) := by decide +kernel
theorem d_Mod_peek_8 : decode b_Mod_peek 8 = .ok (.if_icmp .ge 21, 3) := by decide +kernel
theorem d_Mod_peek_11 : decode b_Mod_peek 11 = .ok (.aload_n 0, 1) := by decide +kernel
theorem d_Mod_peek_12 : decode b_Mod_peek 12 = .ok (.getfield 34, 3) := by decide +kernel
theorem d_Mod_peek_15 : decode b_Mod_peek 15 = .ok (.aload_n 0, 1) := by decide +kernel
theorem d_Mod_peek_16 : decode b_Mod_peek 16 = .ok (.getfield 271, 3) := by decide +kernel
theorem d_Mod_peek_19 : decode b_Mod_peek 19 = .ok (.iload_n 1, 1) := by decide +kernel
theorem d_Mod_peek_20 : decode b_Mod_peek 20 = .ok (.iadd, 1) := by decide +kernel
theorem d_Mod_peek_21 : decode b_Mod_peek 21 = .ok (.baload, 1) := by decide +kernel
theorem d_Mod_peek_22 : decode b_Mod_peek 22 = .ok (.sipush 255, 3) := by decide +kernel
theorem d_Mod_peek_25 : decode b_Mod_peek 25 = .ok (.iand, 1) := by decide +kernel
theorem d_Mod_peek_26 : decode b_Mod_peek 26 = .ok (.goto 4, 3) := by decide +kernel
theorem d_Mod_peek_29 : decode b_Mod_peek 29 = .ok (.iconst (-1), 1) := by decide +kernel
theorem d_Mod_peek_30 : decode b_Mod_peek 30 = .ok (.ireturn, 1) := by decide +kernel
theorem d_Mod_placeOf_0 : decode b_Mod_placeOf 0 = .ok (.aload_n 0, 1) := by decide +kernel
theorem d_Mod_placeOf_1 : decode b_Mod_placeOf 1 = .ok (.iload_n 1, 1) := by decide +kernel
theorem d_Mod_placeOf_2 : decode b_Mod_placeOf 2 = .ok (.iconst 1, 1) := by decide +kernel
theorem d_Mod_placeOf_3 : decode b_Mod_placeOf 3 = .ok (.invokevirtual 466, 3) := by decide +kernel
theorem d_Mod_placeOf_6 : decode b_Mod_placeOf 6 = .ok (.istore_n 2, 1) := by decide +kernel
theorem d_Mod_placeOf_7 : decode b_Mod_placeOf 7 = .ok (.aload_n 0, 1) := by decide +kernel
theorem d_Mod_placeOf_8 : decode b_Mod_placeOf 8 = .ok (.iload_n 1, 1) := by decide +kernel
theorem d_Mod_placeOf_9 : decode b_Mod_placeOf 9 = .ok (.iconst 2, 1) := by decide +kernel
theorem d_Mod_placeOf_10 : decode b_Mod_placeOf 10 = .ok (.invokevirtual 466, 3) := by decide +kernel
theorem d_Mod_placeOf_13 : decode b_Mod_placeOf 13 = .ok (.istore_n 3, 1) := by decide +kernel
theorem d_Mod_placeOf_14 : decode b_Mod_placeOf 14 = .ok (.iconst 0, 1) := by decide +kernel
theorem d_Mod_placeOf_15 : decode b_Mod_placeOf 15 = .ok (.istore 4, 2) := by decide +kernel
theorem d_Mod_placeOf_17 : decode b_Mod_placeOf 17 = .ok (.iload 4, 2) := by decide +kernel
theorem d_Mod_placeOf_19 : decode b_Mod_placeOf 19 = .ok (.iload_n 3, 1) := by decide +kernel
theorem d_Mod_placeOf_20 : decode b_Mod_placeOf 20 = .ok (.iadd, 1) := by decide +kernel
theorem d_Mod_placeOf_21 : decode b_Mod_placeOf 21 = .ok (.iload_n 2, 1) := by decide +kernel
theorem d_Mod_placeOf_22 : decode b_Mod_placeOf 22 = .ok (.if_icmp .gt 81, 3) := by decide +kernel
theorem d_Mod_placeOf_25 : decode b_Mod_placeOf 25 = .ok (.iconst 1, 1) := by decide +kernel
theorem d_Mod_placeOf_26 : decode b_Mod_placeOf 26 = .ok (.istore 5, 2) := by decide +kernel
theorem d_Mod_placeOf_28 : decode b_Mod_placeOf 28 = .ok (.iconst 0, 1) := by decide +kernel
theorem d_Mod_placeOf_29 : decode b_Mod_placeOf 29 = .ok (.istore 6, 2) := by decide +kernel
theorem d_Mod_placeOf_31 : decode b_Mod_placeOf 31 = .ok (.iload 6, 2) := by decide +kernel
theorem d_Mod_placeOf_33 : decode b_Mod_placeOf 33 = .ok (.iload_n 3, 1) := by decide +kernel
theorem d_Mod_placeOf_34 : decode b_Mod_placeOf 34 = .ok (.if_icmp .ge 55, 3) := by decide +kernel
theorem d_Mod_placeOf_37 : decode b_Mod_placeOf 37 = .ok (.iload 5, 2) := by decide +kernel
theorem d_Mod_placeOf_39 : decode b_Mod_placeOf 39 = .ok (.ifCond .eq 50, 3) := by decide +kernel
theorem d_Mod_placeOf_42 : decode b_Mod_placeOf 42 = .ok (.aload_n 0, 1) := by decide +kernel
theorem d_Mod_placeOf_43 : decode b_Mod_placeOf 43 = .ok (.getfield 72, 3) := by decide +kernel
theorem d_Mod_placeOf_46 : decode b_Mod_placeOf 46 = .ok (.aload_n 0, 1) := by decide +kernel
theorem d_Mod_placeOf_47 : decode b_Mod_placeOf 47 = .ok (.iload_n 1, 1) := by decide +kernel
theorem d_Mod_placeOf_48 : decode b_Mod_placeOf 48 = .ok (.iconst 1, 1) := by decide +kernel
theorem d_Mod_placeOf_49 : decode b_Mod_placeOf 49 = .ok (.invokevirtual 462, 3) := by decide +kernel
theorem d_Mod_placeOf_52 : decode b_Mod_placeOf 52 = .ok (.iload 4, 2) := by decide +kernel
theorem d_Mod_placeOf_54 : decode b_Mod_placeOf 54 = .ok (.iadd, 1) := by decide +kernel
theorem d_Mod_placeOf_55 : decode b_Mod_placeOf 55 = .ok (.iload 6, 2) := by decide +kernel
theorem d_Mod_placeOf_57 : decode b_Mod_placeOf 57 = .ok (.iadd, 1) := by decide +kernel
theorem d_Mod_placeOf_58 : decode b_Mod_placeOf 58 = .ok (.baload, 1) := by decide +kernel
theorem d_Mod_placeOf_59 : decode b_Mod_placeOf 59 = .ok (.aload_n 0, 1) := by decide +kernel
theorem d_Mod_placeOf_60 : decode b_Mod_placeOf 60 = .ok (.getfield 72, 3) := by decide +kernel
theorem d_Mod_placeOf_63 : decode b_Mod_placeOf 63 = .ok (.aload_n 0, 1) := by decide +kernel
theorem d_Mod_placeOf_64 : decode b_Mod_placeOf 64 = .ok (.iload_n 1, 1) := by decide +kernel
theorem d_Mod_placeOf_65 : decode b_Mod_placeOf 65 = .ok (.iconst 2, 1) := by decide +kernel
theorem d_Mod_placeOf_66 : decode b_Mod_placeOf 66 = .ok (.invokevirtual 462, 3) := by decide +kernel
theorem d_Mod_placeOf_69 : decode b_Mod_placeOf 69 = .ok (.iload 6, 2) := by decide +kernel
theorem d_Mod_placeOf_71 : decode b_Mod_placeOf 71 = .ok (.iadd, 1) := by decide +kernel
theorem d_Mod_placeOf_72 : decode b_Mod_placeOf 72 = .ok (.baload, 1) := by decide +kernel
theorem d_Mod_placeOf_73 : decode b_Mod_placeOf 73 = .ok (.if_icmp .ne 7, 3) := by decide +kernel
theorem d_Mod_placeOf_76 : decode b_Mod_placeOf 76 = .ok (.iconst 1, 1) := by decide +kernel
theorem d_Mod_placeOf_77 : decode b_Mod_placeOf 77 = .ok (.goto 4, 3) := by decide +kernel
theorem d_Mod_placeOf_80 : decode b_Mod_placeOf 80 = .ok (.iconst 0, 1) := by decide +kernel
theorem d_Mod_placeOf_81 : decode b_Mod_placeOf 81 = .ok (.istore 5, 2) := by decide +kernel
theorem d_Mod_placeOf_83 : decode b_Mod_placeOf 83 = .ok (.iinc 6 1, 3) := by decide +kernel
theorem d_Mod_placeOf_86 : decode b_Mod_placeOf 86 = .ok (.goto (-55), 3) := by decide +kernel
theorem d_Mod_placeOf_89 : decode b_Mod_placeOf 89 = .ok (.iload 5, 2) := by decide +kernel
theorem d_Mod_placeOf_91 : decode b_Mod_placeOf 91 = .ok (.ifCond .eq 6, 3) := by decide +kernel
theorem d_Mod_placeOf_94 : decode b_Mod_placeOf 94 = .ok (.iload 4, 2) := by decide +kernel
theorem d_Mod_placeOf_96 : decode b_Mod_placeOf 96 = .ok (.ireturn, 1) := by decide +kernel
theorem d_Mod_placeOf_97 : decode b_Mod_placeOf 97 = .ok (.iinc 4 1, 3) := by decide +kernel
theorem d_Mod_placeOf_100 : decode b_Mod_placeOf 100 = .ok (.goto (-83), 3) := by decide +kernel
theorem d_Mod_placeOf_103 : decode b_Mod_placeOf 103 = .ok (.iconst (-1), 1) := by decide +kernel
theorem d_Mod_placeOf_104 : decode b_Mod_placeOf 104 = .ok (.ireturn, 1) := by decide +kernel
theorem d_Mod_put_0 : decode b_Mod_put 0 = .ok (.aload_n 0, 1) := by decide +kernel
theorem d_Mod_put_1 : decode b_Mod_put 1 = .ok (.getfield 710, 3) := by decide +kernel
theorem d_Mod_put_4 : decode b_Mod_put 4 = .ok (.ldc_w 713, 3) := by decide +kernel
theorem d_Mod_put_7 : decode b_Mod_put 7 = .ok (.if_icmp .ne 11, 3) := by decide +kernel
theorem d_Mod_put_10 : decode b_Mod_put 10 = .ok (.aload_n 0, 1) := by decide +kernel
theorem d_Mod_put_11 : decode b_Mod_put 11 = .ok (.bipush 21, 2) := by decide +kernel
theorem d_Mod_put_13 : decode b_Mod_put 13 = .ok (.iload_n 3, 1) := by decide +kernel
theorem d_Mod_put_14 : decode b_Mod_put 14 = .ok (.invokevirtual 628, 3) := by decide +kernel
theorem d_Mod_put_17 : decode b_Mod_put 17 = .ok (.return_, 1) := by decide +kernel
theorem d_Mod_put_18 : decode b_Mod_put 18 = .ok (.aload_n 0, 1) := by decide +kernel
theorem d_Mod_put_19 : decode b_Mod_put 19 = .ok (.dup, 1) := by decide +kernel
theorem d_Mod_put_20 : decode b_Mod_put 20 = .ok (.getfield 710, 3) := by decide +kernel
theorem d_Mod_put_23 : decode b_Mod_put 23 = .ok (.iconst 1, 1) := by decide +kernel
theorem d_Mod_put_24 : decode b_Mod_put 24 = .ok (.iadd, 1) := by decide +kernel
theorem d_Mod_put_25 : decode b_Mod_put 25 = .ok (.putfield 710, 3) := by decide +kernel
theorem d_Mod_put_28 : decode b_Mod_put 28 = .ok (.aload_n 0, 1) := by decide +kernel
theorem d_Mod_put_29 : decode b_Mod_put 29 = .ok (.getfield 111, 3) := by decide +kernel
theorem d_Mod_put_32 : decode b_Mod_put 32 = .ok (.iload_n 1, 1) := by decide +kernel
theorem d_Mod_put_33 : decode b_Mod_put 33 = .ok (.iconst (-1), 1) := by decide +kernel
theorem d_Mod_put_34 : decode b_Mod_put 34 = .ok (.iastore, 1) := by decide +kernel
theorem d_Mod_put_35 : decode b_Mod_put 35 = .ok (.aload_n 0, 1) := by decide +kernel
theorem d_Mod_put_36 : decode b_Mod_put 36 = .ok (.getfield 118, 3) := by decide +kernel
theorem d_Mod_put_39 : decode b_Mod_put 39 = .ok (.iload_n 1, 1) := by decide +kernel
theorem d_Mod_put_40 : decode b_Mod_put 40 = .ok (.iconst 0, 1) := by decide +kernel
theorem d_Mod_put_41 : decode b_Mod_put 41 = .ok (.bastore, 1) := by decide +kernel
theorem d_Mod_put_42 : decode b_Mod_put 42 = .ok (.aload_n 0, 1) := by decide +kernel
theorem d_Mod_put_43 : decode b_Mod_put 43 = .ok (.getfield 191, 3) := by decide +kernel
theorem d_Mod_put_46 : decode b_Mod_put 46 = .ok (.iload_n 2, 1) := by decide +kernel
theorem d_Mod_put_47 : decode b_Mod_put 47 = .ok (.iaload, 1) := by decide +kernel
theorem d_Mod_put_48 : decode b_Mod_put 48 = .ok (.ifCond .ge 13, 3) := by decide +kernel
theorem d_Mod_put_51 : decode b_Mod_put 51 = .ok (.aload_n 0, 1) := by decide +kernel
theorem d_Mod_put_52 : decode b_Mod_put 52 = .ok (.getfield 191, 3) := by decide +kernel
theorem d_Mod_put_55 : decode b_Mod_put 55 = .ok (.iload_n 2, 1) := by decide +kernel
theorem d_Mod_put_56 : decode b_Mod_put 56 = .ok (.iload_n 1, 1) := by decide +kernel
theorem d_Mod_put_57 : decode b_Mod_put 57 = .ok (.iastore, 1) := by decide +kernel
theorem d_Mod_put_58 : decode b_Mod_put 58 = .ok (.goto 15, 3) := by decide +kernel
theorem d_Mod_put_61 : decode b_Mod_put 61 = .ok (.aload_n 0, 1) := by decide +kernel
theorem d_Mod_put_62 : decode b_Mod_put 62 = .ok (.getfield 111, 3) := by decide +kernel
theorem d_Mod_put_65 : decode b_Mod_put 65 = .ok (.aload_n 0, 1) := by decide +kernel
theorem d_Mod_put_66 : decode b_Mod_put 66 = .ok (.getfield 194, 3) := by decide +kernel
theorem d_Mod_put_69 : decode b_Mod_put 69 = .ok (.iload_n 2, 1) := by decide +kernel
theorem d_Mod_put_70 : decode b_Mod_put 70 = .ok (.iaload, 1) := by decide +kernel
theorem d_Mod_put_71 : decode b_Mod_put 71 = .ok (.iload_n 1, 1) := by decide +kernel
theorem d_Mod_put_72 : decode b_Mod_put 72 = .ok (.iastore, 1) := by decide +kernel
theorem d_Mod_put_73 : decode b_Mod_put 73 = .ok (.aload_n 0, 1) := by decide +kernel
theorem d_Mod_put_74 : decode b_Mod_put 74 = .ok (.getfield 194, 3) := by decide +kernel
theorem d_Mod_put_77 : decode b_Mod_put 77 = .ok (.iload_n 2, 1) := by decide +kernel
theorem d_Mod_put_78 : decode b_Mod_put 78 = .ok (.iload_n 1, 1) := by decide +kernel
theorem d_Mod_put_79 : decode b_Mod_put 79 = .ok (.iastore, 1) := by decide +kernel
theorem d_Mod_put_80 : decode b_Mod_put 80 = .ok (.return_, 1) := by decide +kernel
theorem d_Mod_putArgument_0 : decode b_Mod_putArgument 0 = .ok (.aload_n 0, 1) := by decide +kernel
theorem d_Mod_putArgument_1 : decode b_Mod_putArgument 1 = .ok (.getfield 420, 3) := by decide +kernel
theorem d_Mod_putArgument_4 : decode b_Mod_putArgument 4 = .ok (.sipush 16384, 3) := by decide +kernel
theorem d_Mod_putArgument_7 : decode b_Mod_putArgument 7 = .ok (.if_icmp .ne 10, 3) := by decide +kernel
theorem d_Mod_putArgument_10 : decode b_Mod_putArgument 10 = .ok (.aload_n 0, 1) := by decide +kernel
theorem d_Mod_putArgument_11 : decode b_Mod_putArgument 11 = .ok (.bipush 40, 2) := by decide +kernel
theorem d_Mod_putArgument_13 : decode b_Mod_putArgument 13 = .ok (.invokevirtual 277, 3) := by decide +kernel
theorem d_Mod_putArgument_16 : decode b_Mod_putArgument 16 = .ok (.return_, 1) := by decide +kernel
theorem d_Mod_putArgument_17 : decode b_Mod_putArgument 17 = .ok (.aload_n 0, 1) := by decide +kernel
theorem d_Mod_putArgument_18 : decode b_Mod_putArgument 18 = .ok (.getfield 72, 3) := by decide +kernel
theorem d_Mod_putArgument_21 : decode b_Mod_putArgument 21 = .ok (.aload_n 0, 1) := by decide +kernel
theorem d_Mod_putArgument_22 : decode b_Mod_putArgument 22 = .ok (.getfield 420, 3) := by decide +kernel
theorem d_Mod_putArgument_25 : decode b_Mod_putArgument 25 = .ok (.iload_n 1, 1) := by decide +kernel
theorem d_Mod_putArgument_26 : decode b_Mod_putArgument 26 = .ok (.i2b, 1) := by decide +kernel
theorem d_Mod_putArgument_27 : decode b_Mod_putArgument 27 = .ok (.bastore, 1) := by decide +kernel
theorem d_Mod_putArgument_28 : decode b_Mod_putArgument 28 = .ok (.aload_n 0, 1) := by decide +kernel
theorem d_Mod_putArgument_29 : decode b_Mod_putArgument 29 = .ok (.dup, 1) := by decide +kernel
theorem d_Mod_putArgument_30 : decode b_Mod_putArgument 30 = .ok (.getfield 420, 3) := by decide +kernel
theorem d_Mod_putArgument_33 : decode b_Mod_putArgument 33 = .ok (.iconst 1, 1) := by decide +kernel
theorem d_Mod_putArgument_34 : decode b_Mod_putArgument 34 = .ok (.iadd, 1) := by decide +kernel
theorem d_Mod_putArgument_35 : decode b_Mod_putArgument 35 = .ok (.putfield 420, 3) := by decide +kernel
theorem d_Mod_putArgument_38 : decode b_Mod_putArgument 38 = .ok (.return_, 1) := by decide +kernel
theorem d_Mod_putBack_0 : decode b_Mod_putBack 0 = .ok (.aload_n 0, 1) := by decide +kernel
theorem d_Mod_putBack_1 : decode b_Mod_putBack 1 = .ok (.getfield 333, 3) := by decide +kernel
theorem d_Mod_putBack_4 : decode b_Mod_putBack 4 = .ok (.iconst 1, 1) := by decide +kernel
theorem d_Mod_putBack_5 : decode b_Mod_putBack 5 = .ok (.isub, 1) := by decide +kernel
theorem d_Mod_putBack_6 : decode b_Mod_putBack 6 = .ok (.istore_n 1, 1) := by decide +kernel
theorem d_Mod_putBack_7 : decode b_Mod_putBack 7 = .ok (.iload_n 1, 1) := by decide +kernel
theorem d_Mod_putBack_8 : decode b_Mod_putBack 8 = .ok (.ifCond .lt 41, 3) := by decide +kernel
theorem d_Mod_putBack_11 : decode b_Mod_putBack 11 = .ok (.aload_n 0, 1) := by decide +kernel
theorem d_Mod_putBack_12 : decode b_Mod_putBack 12 = .ok (.getfield 262, 3) := by decide +kernel
theorem d_Mod_putBack_15 : decode b_Mod_putBack 15 = .ok (.ifCond .ne 34, 3) := by decide +kernel
theorem d_Mod_putBack_18 : decode b_Mod_putBack 18 = .ok (.aload_n 0, 1) := by decide +kernel
theorem d_Mod_putBack_19 : decode b_Mod_putBack 19 = .ok (.dup, 1) := by decide +kernel
theorem d_Mod_putBack_20 : decode b_Mod_putBack 20 = .ok (.getfield 271, 3) := by decide +kernel
theorem d_Mod_putBack_23 : decode b_Mod_putBack 23 = .ok (.iconst 1, 1) := by decide +kernel
theorem d_Mod_putBack_24 : decode b_Mod_putBack 24 = .ok (.isub, 1) := by decide +kernel
theorem d_Mod_putBack_25 : decode b_Mod_putBack 25 = .ok (.putfield 271, 3) := by decide +kernel
theorem d_Mod_putBack_28 : decode b_Mod_putBack 28 = .ok (.aload_n 0, 1) := by decide +kernel
theorem d_Mod_putBack_29 : decode b_Mod_putBack 29 = .ok (.getfield 34, 3) := by decide +kernel
theorem d_Mod_putBack_32 : decode b_Mod_putBack 32 = .ok (.aload_n 0, 1) := by decide +kernel
theorem d_Mod_putBack_33 : decode b_Mod_putBack 33 = .ok (.getfield 271, 3) := by decide +kernel
theorem d_Mod_putBack_36 : decode b_Mod_putBack 36 = .ok (.aload_n 0, 1) := by decide +kernel
theorem d_Mod_putBack_37 : decode b_Mod_putBack 37 = .ok (.getfield 47, 3) := by decide +kernel
theorem d_Mod_putBack_40 : decode b_Mod_putBack 40 = .ok (.iload_n 1, 1) := by decide +kernel
theorem d_Mod_putBack_41 : decode b_Mod_putBack 41 = .ok (.baload, 1) := by decide +kernel
theorem d_Mod_putBack_42 : decode b_Mod_putBack 42 = .ok (.bastore, 1) := by decide +kernel
theorem d_Mod_putBack_43 : decode b_Mod_putBack 43 = .ok (.iinc 1 (-1), 3) := by decide +kernel
theorem d_Mod_putBack_46 : decode b_Mod_putBack 46 = .ok (.goto (-39), 3) := by decide +kernel
theorem d_Mod_putBack_49 : decode b_Mod_putBack 49 = .ok (.aload_n 0, 1) := by decide +kernel
theorem d_Mod_putBack_50 : decode b_Mod_putBack 50 = .ok (.iconst 0, 1) := by decide +kernel
theorem d_Mod_putBack_51 : decode b_Mod_putBack 51 = .ok (.putfield 333, 3) := by decide +kernel
theorem d_Mod_putBack_54 : decode b_Mod_putBack 54 = .ok (.return_, 1) := by decide +kernel
theorem d_Mod_putRaw_0 : decode b_Mod_putRaw 0 = .ok (.iload_n 1, 1) := by decide +kernel
theorem d_Mod_putRaw_1 : decode b_Mod_putRaw 1 = .ok (.istore 5, 2) := by decide +kernel
theorem d_Mod_putRaw_3 : decode b_Mod_putRaw 3 = .ok (.iload 5, 2) := by decide +kernel
theorem d_Mod_putRaw_5 : decode b_Mod_putRaw 5 = .ok (.iload_n 2, 1) := by decide +kernel
theorem d_Mod_putRaw_6 : decode b_Mod_putRaw 6 = .ok (.if_icmp .eq 35, 3) := by decide +kernel
theorem d_Mod_putRaw_9 : decode b_Mod_putRaw 9 = .ok (.aload_n 0, 1) := by decide +kernel
theorem d_Mod_putRaw_10 : decode b_Mod_putRaw 10 = .ok (.getfield 262, 3) := by decide +kernel
theorem d_Mod_putRaw_13 : decode b_Mod_putRaw 13 = .ok (.ifCond .ne 28, 3) := by decide +kernel
theorem d_Mod_putRaw_16 : decode b_Mod_putRaw 16 = .ok (.aload_n 0, 1) := by decide +kernel
theorem d_Mod_putRaw_17 : decode b_Mod_putRaw 17 = .ok (.aload_n 0, 1) := by decide +kernel
theorem d_Mod_putRaw_18 : decode b_Mod_putRaw 18 = .ok (.iload 5, 2) := by decide +kernel
theorem d_Mod_putRaw_20 : decode b_Mod_putRaw 20 = .ok (.invokevirtual 694, 3) := by decide +kernel
theorem d_Mod_putRaw_23 : decode b_Mod_putRaw 23 = .ok (.iload_n 3, 1) := by decide +kernel
theorem d_Mod_putRaw_24 : decode b_Mod_putRaw 24 = .ok (.iload 4, 2) := by decide +kernel
theorem d_Mod_putRaw_26 : decode b_Mod_putRaw 26 = .ok (.invokevirtual 714, 3) := by decide +kernel
theorem d_Mod_putRaw_29 : decode b_Mod_putRaw 29 = .ok (.aload_n 0, 1) := by decide +kernel
theorem d_Mod_putRaw_30 : decode b_Mod_putRaw 30 = .ok (.getfield 111, 3) := by decide +kernel
theorem d_Mod_putRaw_33 : decode b_Mod_putRaw 33 = .ok (.iload 5, 2) := by decide +kernel
theorem d_Mod_putRaw_35 : decode b_Mod_putRaw 35 = .ok (.iaload, 1) := by decide +kernel
theorem d_Mod_putRaw_36 : decode b_Mod_putRaw 36 = .ok (.istore 5, 2) := by decide +kernel
theorem d_Mod_putRaw_38 : decode b_Mod_putRaw 38 = .ok (.goto (-35), 3) := by decide +kernel
theorem d_Mod_putRaw_41 : decode b_Mod_putRaw 41 = .ok (.return_, 1) := by decide +kernel
theorem d_Mod_putToken_0 : decode b_Mod_putToken 0 = .ok (.iconst 0, 1) := by decide +kernel
theorem d_Mod_putToken_1 : decode b_Mod_putToken 1 = .ok (.istore_n 2, 1) := by decide +kernel
theorem d_Mod_putToken_2 : decode b_Mod_putToken 2 = .ok (.iload_n 2, 1) := by decide +kernel
theorem d_Mod_putToken_3 : decode b_Mod_putToken 3 = .ok (.aload_n 0, 1) := by decide +kernel
theorem d_Mod_putToken_4 : decode b_Mod_putToken 4 = .ok (.getfield 303, 3) := by decide +kernel
theorem d_Mod_putToken_7 : decode b_Mod_putToken 7 = .ok (.if_icmp .ge 47, 3) := by decide +kernel
theorem d_Mod_putToken_10 : decode b_Mod_putToken 10 = .ok (.aload_n 0, 1) := by decide +kernel
theorem d_Mod_putToken_11 : decode b_Mod_putToken 11 = .ok (.getfield 262, 3) := by decide +kernel
theorem d_Mod_putToken_14 : decode b_Mod_putToken 14 = .ok (.ifCond .ne 40, 3) := by decide +kernel
theorem d_Mod_putToken_17 : decode b_Mod_putToken 17 = .ok (.iload_n 1, 1) := by decide +kernel
theorem d_Mod_putToken_18 : decode b_Mod_putToken 18 = .ok (.ifCond .eq 16, 3) := by decide +kernel
theorem d_Mod_putToken_21 : decode b_Mod_putToken 21 = .ok (.aload_n 0, 1) := by decide +kernel
theorem d_Mod_putToken_22 : decode b_Mod_putToken 22 = .ok (.aload_n 0, 1) := by decide +kernel
theorem d_Mod_putToken_23 : decode b_Mod_putToken 23 = .ok (.getfield 43, 3) := by decide +kernel
theorem d_Mod_putToken_26 : decode b_Mod_putToken 26 = .ok (.iload_n 2, 1) := by decide +kernel
theorem d_Mod_putToken_27 : decode b_Mod_putToken 27 = .ok (.baload, 1) := by decide +kernel
theorem d_Mod_putToken_28 : decode b_Mod_putToken 28 = .ok (.invokevirtual 423, 3) := by decide +kernel
theorem d_Mod_putToken_31 : decode b_Mod_putToken 31 = .ok (.goto 17, 3) := by decide +kernel
theorem d_Mod_putToken_34 : decode b_Mod_putToken 34 = .ok (.aload_n 0, 1) := by decide +kernel
theorem d_Mod_putToken_35 : decode b_Mod_putToken 35 = .ok (.aload_n 0, 1) := by decide +kernel
theorem d_Mod_putToken_36 : decode b_Mod_putToken 36 = .ok (.getfield 413, 3) := by decide +kernel
theorem d_Mod_putToken_39 : decode b_Mod_putToken 39 = .ok (.aload_n 0, 1) := by decide +kernel
theorem d_Mod_putToken_40 : decode b_Mod_putToken 40 = .ok (.getfield 43, 3) := by decide +kernel
theorem d_Mod_putToken_43 : decode b_Mod_putToken 43 = .ok (.iload_n 2, 1) := by decide +kernel
theorem d_Mod_putToken_44 : decode b_Mod_putToken 44 = .ok (.baload, 1) := by decide +kernel
theorem d_Mod_putToken_45 : decode b_Mod_putToken 45 = .ok (.invokevirtual 416, 3) := by decide +kernel
theorem d_Mod_putToken_48 : decode b_Mod_putToken 48 = .ok (.iinc 2 1, 3) := by decide +kernel
theorem d_Mod_putToken_51 : decode b_Mod_putToken 51 = .ok (.goto (-49), 3) := by decide +kernel
theorem d_Mod_putToken_54 : decode b_Mod_putToken 54 = .ok (.return_, 1) := by decide +kernel
theorem d_Mod_quotedEnd_0 : decode b_Mod_quotedEnd 0 = .ok (.aload_n 0, 1) := by decide +kernel
theorem d_Mod_quotedEnd_1 : decode b_Mod_quotedEnd 1 = .ok (.getfield 85, 3) := by decide +kernel
theorem d_Mod_quotedEnd_4 : decode b_Mod_quotedEnd 4 = .ok (.iload_n 1, 1) := by decide +kernel
theorem d_Mod_quotedEnd_5 : decode b_Mod_quotedEnd 5 = .ok (.baload, 1) := by decide +kernel
theorem d_Mod_quotedEnd_6 : decode b_Mod_quotedEnd 6 = .ok (.sipush 255, 3) := by decide +kernel
theorem d_Mod_quotedEnd_9 : decode b_Mod_quotedEnd 9 = .ok (.iand, 1) := by decide +kernel
theorem d_Mod_quotedEnd_10 : decode b_Mod_quotedEnd 10 = .ok (.istore_n 3, 1) := by decide +kernel
theorem d_Mod_quotedEnd_11 : decode b_Mod_quotedEnd 11 = .ok (.iload_n 1, 1) := by decide +kernel
theorem d_Mod_quotedEnd_12 : decode b_Mod_quotedEnd 12 = .ok (.iconst 1, 1) := by decide +kernel
theorem d_Mod_quotedEnd_13 : decode b_Mod_quotedEnd 13 = .ok (.iadd, 1) := by decide +kernel
theorem d_Mod_quotedEnd_14 : decode b_Mod_quotedEnd 14 = .ok (.istore 4, 2) := by decide +kernel
theorem d_Mod_quotedEnd_16 : decode b_Mod_quotedEnd 16 = .ok (.iload 4, 2) := by decide +kernel
theorem d_Mod_quotedEnd_18 : decode b_Mod_quotedEnd 18 = .ok (.iload_n 2, 1) := by decide +kernel
theorem d_Mod_quotedEnd_19 : decode b_Mod_quotedEnd 19 = .ok (.if_icmp .ge 80, 3) := by decide +kernel
theorem d_Mod_quotedEnd_22 : decode b_Mod_quotedEnd 22 = .ok (.aload_n 0, 1) := by decide +kernel
theorem d_Mod_quotedEnd_23 : decode b_Mod_quotedEnd 23 = .ok (.getfield 85, 3) := by decide +kernel
theorem d_Mod_quotedEnd_26 : decode b_Mod_quotedEnd 26 = .ok (.iload 4, 2) := by decide +kernel
theorem d_Mod_quotedEnd_28 : decode b_Mod_quotedEnd 28 = .ok (.baload, 1) := by decide +kernel
theorem d_Mod_quotedEnd_29 : decode b_Mod_quotedEnd 29 = .ok (.bipush 10, 2) := by decide +kernel
theorem d_Mod_quotedEnd_31 : decode b_Mod_quotedEnd 31 = .ok (.if_icmp .eq 68, 3) := by decide +kernel
theorem d_Mod_quotedEnd_34 : decode b_Mod_quotedEnd 34 = .ok (.aload_n 0, 1) := by decide +kernel
theorem d_Mod_quotedEnd_35 : decode b_Mod_quotedEnd 35 = .ok (.getfield 85, 3) := by decide +kernel
theorem d_Mod_quotedEnd_38 : decode b_Mod_quotedEnd 38 = .ok (.iload 4, 2) := by decide +kernel
theorem d_Mod_quotedEnd_40 : decode b_Mod_quotedEnd 40 = .ok (.baload, 1) := by decide +kernel
theorem d_Mod_quotedEnd_41 : decode b_Mod_quotedEnd 41 = .ok (.sipush 255, 3) := by decide +kernel
theorem d_Mod_quotedEnd_44 : decode b_Mod_quotedEnd 44 = .ok (.iand, 1) := by decide +kernel
theorem d_Mod_quotedEnd_45 : decode b_Mod_quotedEnd 45 = .ok (.iload_n 3, 1) := by decide +kernel
theorem d_Mod_quotedEnd_46 : decode b_Mod_quotedEnd 46 = .ok (.if_icmp .eq 53, 3) := by decide +kernel
theorem d_Mod_quotedEnd_49 : decode b_Mod_quotedEnd 49 = .ok (.aload_n 0, 1) := by decide +kernel
theorem d_Mod_quotedEnd_50 : decode b_Mod_quotedEnd 50 = .ok (.getfield 85, 3) := by decide +kernel
theorem d_Mod_quotedEnd_53 : decode b_Mod_quotedEnd 53 = .ok (.iload 4, 2) := by decide +kernel
theorem d_Mod_quotedEnd_55 : decode b_Mod_quotedEnd 55 = .ok (.baload, 1) := by decide +kernel
theorem d_Mod_quotedEnd_56 : decode b_Mod_quotedEnd 56 = .ok (.bipush 92, 2) := by decide +kernel
theorem d_Mod_quotedEnd_58 : decode b_Mod_quotedEnd 58 = .ok (.if_icmp .ne 32, 3) := by decide +kernel
theorem d_Mod_quotedEnd_61 : decode b_Mod_quotedEnd 61 = .ok (.iload 4, 2) := by decide +kernel
theorem d_Mod_quotedEnd_63 : decode b_Mod_quotedEnd 63 = .ok (.iconst 1, 1) := by decide +kernel
theorem d_Mod_quotedEnd_64 : decode b_Mod_quotedEnd 64 = .ok (.iadd, 1) := by decide +kernel
theorem d_Mod_quotedEnd_65 : decode b_Mod_quotedEnd 65 = .ok (.iload_n 2, 1) := by decide +kernel
theorem d_Mod_quotedEnd_66 : decode b_Mod_quotedEnd 66 = .ok (.if_icmp .ge 24, 3) := by decide +kernel
theorem d_Mod_quotedEnd_69 : decode b_Mod_quotedEnd 69 = .ok (.aload_n 0, 1) := by decide +kernel
theorem d_Mod_quotedEnd_70 : decode b_Mod_quotedEnd 70 = .ok (.getfield 85, 3) := by decide +kernel
theorem d_Mod_quotedEnd_73 : decode b_Mod_quotedEnd 73 = .ok (.iload 4, 2) := by decide +kernel
theorem d_Mod_quotedEnd_75 : decode b_Mod_quotedEnd 75 = .ok (.iconst 1, 1) := by decide +kernel
theorem d_Mod_quotedEnd_76 : decode b_Mod_quotedEnd 76 = .ok (.iadd, 1) := by decide +kernel
theorem d_Mod_quotedEnd_77 : decode b_Mod_quotedEnd 77 = .ok (.baload, 1) := by decide +kernel
theorem d_Mod_quotedEnd_78 : decode b_Mod_quotedEnd 78 = .ok (.bipush 10, 2) := by decide +kernel
theorem d_Mod_quotedEnd_80 : decode b_Mod_quotedEnd 80 = .ok (.if_icmp .eq 10, 3) := by decide +kernel
theorem d_Mod_quotedEnd_83 : decode b_Mod_quotedEnd 83 = .ok (.iload 4, 2) := by decide +kernel
theorem d_Mod_quotedEnd_85 : decode b_Mod_quotedEnd 85 = .ok (.iconst 2, 1) := by decide +kernel
theorem d_Mod_quotedEnd_86 : decode b_Mod_quotedEnd 86 = .ok (.iadd, 1) := by decide +kernel
theorem d_Mod_quotedEnd_87 : decode b_Mod_quotedEnd 87 = .ok (.goto 7, 3) := by decide +kernel
theorem d_Mod_quotedEnd_90 : decode b_Mod_quotedEnd 90 = .ok (.iload 4, 2) := by decide +kernel
theorem d_Mod_quotedEnd_92 : decode b_Mod_quotedEnd 92 = .ok (.iconst 1, 1) := by decide +kernel
theorem d_Mod_quotedEnd_93 : decode b_Mod_quotedEnd 93 = .ok (.iadd, 1) := by decide +kernel
theorem d_Mod_quotedEnd_94 : decode b_Mod_quotedEnd 94 = .ok (.istore 4, 2) := by decide +kernel
theorem d_Mod_quotedEnd_96 : decode b_Mod_quotedEnd 96 = .ok (.goto (-80), 3) := by decide +kernel
theorem d_Mod_quotedEnd_99 : decode b_Mod_quotedEnd 99 = .ok (.iload 4, 2) := by decide +kernel
theorem d_Mod_quotedEnd_101 : decode b_Mod_quotedEnd 101 = .ok (.iload_n 2, 1) := by decide +kernel
theorem d_Mod_quotedEnd_102 : decode b_Mod_quotedEnd 102 = .ok (.if_icmp .ge 25, 3) := by decide +kernel
theorem d_Mod_quotedEnd_105 : decode b_Mod_quotedEnd 105 = .ok (.aload_n 0, 1) := by decide +kernel
theorem d_Mod_quotedEnd_106 : decode b_Mod_quotedEnd 106 = .ok (.getfield 85, 3) := by decide +kernel
theorem d_Mod_quotedEnd_109 : decode b_Mod_quotedEnd 109 = .ok (.iload 4, 2) := by decide +kernel
theorem d_Mod_quotedEnd_111 : decode b_Mod_quotedEnd 111 = .ok (.baload, 1) := by decide +kernel
theorem d_Mod_quotedEnd_112 : decode b_Mod_quotedEnd 112 = .ok (.sipush 255, 3) := by decide +kernel
theorem d_Mod_quotedEnd_115 : decode b_Mod_quotedEnd 115 = .ok (.iand, 1) := by decide +kernel
theorem d_Mod_quotedEnd_116 : decode b_Mod_quotedEnd 116 = .ok (.iload_n 3, 1) := by decide +kernel
theorem d_Mod_quotedEnd_117 : decode b_Mod_quotedEnd 117 = .ok (.if_icmp .ne 10, 3) := by decide +kernel
theorem d_Mod_quotedEnd_120 : decode b_Mod_quotedEnd 120 = .ok (.iload 4, 2) := by decide +kernel
theorem d_Mod_quotedEnd_122 : decode b_Mod_quotedEnd 122 = .ok (.iconst 1, 1) := by decide +kernel
theorem d_Mod_quotedEnd_123 : decode b_Mod_quotedEnd 123 = .ok (.iadd, 1) := by decide +kernel
theorem d_Mod_quotedEnd_124 : decode b_Mod_quotedEnd 124 = .ok (.goto 4, 3) := by decide +kernel
theorem d_Mod_quotedEnd_127 : decode b_Mod_quotedEnd 127 = .ok (.iconst (-1), 1) := by decide +kernel
theorem d_Mod_quotedEnd_128 : decode b_Mod_quotedEnd 128 = .ok (.ireturn, 1) := by decide +kernel
theorem d_Mod_quotient_0 : decode b_Mod_quotient 0 = .ok (.iload 4, 2) := by decide +kernel
theorem d_Mod_quotient_2 : decode b_Mod_quotient 2 = .ok (.ifCond .ne 7, 3) := by decide +kernel
theorem d_Mod_quotient_5 : decode b_Mod_quotient 5 = .ok (.lload_n 0, 1) := by decide +kernel
theorem d_Mod_quotient_6 : decode b_Mod_quotient 6 = .ok (.lload_n 2, 1) := by decide +kernel
theorem d_Mod_quotient_7 : decode b_Mod_quotient 7 = .ok (.ldiv, 1) := by decide +kernel
theorem d_Mod_quotient_8 : decode b_Mod_quotient 8 = .ok (.lreturn, 1) := by decide +kernel
theorem d_Mod_quotient_9 : decode b_Mod_quotient 9 = .ok (.lconst 0, 1) := by decide +kernel
theorem d_Mod_quotient_10 : decode b_Mod_quotient 10 = .ok (.lstore 5, 2) := by decide +kernel
theorem d_Mod_quotient_12 : decode b_Mod_quotient 12 = .ok (.lconst 0, 1) := by decide +kernel
theorem d_Mod_quotient_13 : decode b_Mod_quotient 13 = .ok (.lstore 7, 2) := by decide +kernel
theorem d_Mod_quotient_15 : decode b_Mod_quotient 15 = .ok (.bipush 63, 2) := by decide +kernel
theorem d_Mod_quotient_17 : decode b_Mod_quotient 17 = .ok (.istore 9, 2) := by decide +kernel
theorem d_Mod_quotient_19 : decode b_Mod_quotient 19 = .ok (.iload 9, 2) := by decide +kernel
theorem d_Mod_quotient_21 : decode b_Mod_quotient 21 = .ok (.ifCond .lt 71, 3) := by decide +kernel
theorem d_Mod_quotient_24 : decode b_Mod_quotient 24 = .ok (.lload 7, 2) := by decide +kernel
theorem d_Mod_quotient_26 : decode b_Mod_quotient 26 = .ok (.lconst 0, 1) := by decide +kernel
theorem d_Mod_quotient_27 : decode b_Mod_quotient 27 = .ok (.lcmp, 1) := by decide +kernel
theorem d_Mod_quotient_28 : decode b_Mod_quotient 28 = .ok (.ifCond .ge 7, 3) := by decide +kernel
theorem d_Mod_quotient_31 : decode b_Mod_quotient 31 = .ok (.iconst 1, 1) := by decide +kernel
theorem d_Mod_quotient_32 : decode b_Mod_quotient 32 = .ok (.goto 4, 3) := by decide +kernel
theorem d_Mod_quotient_35 : decode b_Mod_quotient 35 = .ok (.iconst 0, 1) := by decide +kernel
theorem d_Mod_quotient_36 : decode b_Mod_quotient 36 = .ok (.istore 10, 2) := by decide +kernel
theorem d_Mod_quotient_38 : decode b_Mod_quotient 38 = .ok (.lload 7, 2) := by decide +kernel
theorem d_Mod_quotient_40 : decode b_Mod_quotient 40 = .ok (.iconst 1, 1) := by decide +kernel
theorem d_Mod_quotient_41 : decode b_Mod_quotient 41 = .ok (.lshl, 1) := by decide +kernel
theorem d_Mod_quotient_42 : decode b_Mod_quotient 42 = .ok (.lload_n 0, 1) := by decide +kernel
theorem d_Mod_quotient_43 : decode b_Mod_quotient 43 = .ok (.iload 9, 2) := by decide +kernel
theorem d_Mod_quotient_45 : decode b_Mod_quotient 45 = .ok (.lushr, 1) := by decide +kernel
theorem d_Mod_quotient_46 : decode b_Mod_quotient 46 = .ok (.lconst 1, 1) := by decide +kernel
theorem d_Mod_quotient_47 : decode b_Mod_quotient 47 = .ok (.land, 1) := by decide +kernel
theorem d_Mod_quotient_48 : decode b_Mod_quotient 48 = .ok (.lor, 1) := by decide +kernel
theorem d_Mod_quotient_49 : decode b_Mod_quotient 49 = .ok (.lstore 7, 2) := by decide +kernel
theorem d_Mod_quotient_51 : decode b_Mod_quotient 51 = .ok (.iload 10, 2) := by decide +kernel
theorem d_Mod_quotient_53 : decode b_Mod_quotient 53 = .ok (.ifCond .ne 18, 3) := by decide +kernel
theorem d_Mod_quotient_56 : decode b_Mod_quotient 56 = .ok (.lload 7, 2) := by decide +kernel
theorem d_Mod_quotient_58 : decode b_Mod_quotient 58 = .ok (.ldc2_w 1043, 3) := by decide +kernel
theorem d_Mod_quotient_61 : decode b_Mod_quotient 61 = .ok (.ladd, 1) := by decide +kernel
theorem d_Mod_quotient_62 : decode b_Mod_quotient 62 = .ok (.lload_n 2, 1) := by decide +kernel
theorem d_Mod_quotient_63 : decode b_Mod_quotient 63 = .ok (.ldc2_w 1043, 3) := by decide +kernel
theorem d_Mod_quotient_66 : decode b_Mod_quotient 66 = .ok (.ladd, 1) := by decide +kernel
theorem d_Mod_quotient_67 : decode b_Mod_quotient 67 = .ok (.lcmp, 1) := by decide +kernel
theorem d_Mod_quotient_68 : decode b_Mod_quotient 68 = .ok (.ifCond .lt 18, 3) := by decide +kernel
theorem d_Mod_quotient_71 : decode b_Mod_quotient 71 = .ok (.lload 7, 2) := by decide +kernel
theorem d_Mod_quotient_73 : decode b_Mod_quotient 73 = .ok (.lload_n 2, 1) := by decide +kernel
theorem d_Mod_quotient_74 : decode b_Mod_quotient 74 = .ok (.lsub, 1) := by decide +kernel
theorem d_Mod_quotient_75 : decode b_Mod_quotient 75 = .ok (.lstore 7, 2) := by decide +kernel
theorem d_Mod_quotient_77 : decode b_Mod_quotient 77 = .ok (.lload 5, 2) := by decide +kernel
theorem d_Mod_quotient_79 : decode b_Mod_quotient 79 = .ok (.lconst 1, 1) := by decide +kernel
theorem d_Mod_quotient_80 : decode b_Mod_quotient 80 = .ok (.iload 9, 2) := by decide +kernel
theorem d_Mod_quotient_82 : decode b_Mod_quotient 82 = .ok (.lshl, 1) := by decide +kernel
theorem d_Mod_quotient_83 : decode b_Mod_quotient 83 = .ok (.lor, 1) := by decide +kernel
theorem d_Mod_quotient_84 : decode b_Mod_quotient 84 = .ok (.lstore 5, 2) := by decide +kernel
theorem d_Mod_quotient_86 : decode b_Mod_quotient 86 = .ok (.iinc 9 (-1), 3) := by decide +kernel
theorem d_Mod_quotient_89 : decode b_Mod_quotient 89 = .ok (.goto (-70), 3) := by decide +kernel
theorem d_Mod_quotient_92 : decode b_Mod_quotient 92 = .ok (.lload 5, 2) := by decide +kernel
theorem d_Mod_quotient_94 : decode b_Mod_quotient 94 = .ok (.lreturn, 1) := by decide +kernel
theorem d_Mod_readQuoted_0 : decode b_Mod_readQuoted 0 = .ok (.aload_n 0, 1) := by decide +kernel
theorem d_Mod_readQuoted_1 : decode b_Mod_readQuoted 1 = .ok (.getfield 286, 3) := by decide +kernel
theorem d_Mod_readQuoted_4 : decode b_Mod_readQuoted 4 = .ok (.istore_n 1, 1) := by decide +kernel
theorem d_Mod_readQuoted_5 : decode b_Mod_readQuoted 5 = .ok (.aload_n 0, 1) := by decide +kernel
theorem d_Mod_readQuoted_6 : decode b_Mod_readQuoted 6 = .ok (.aload_n 0, 1) := by decide +kernel
theorem d_Mod_readQuoted_7 : decode b_Mod_readQuoted 7 = .ok (.getfield 306, 3) := by decide +kernel
theorem d_Mod_readQuoted_10 : decode b_Mod_readQuoted 10 = .ok (.iconst 0, 1) := by decide +kernel
theorem d_Mod_readQuoted_11 : decode b_Mod_readQuoted 11 = .ok (.invokevirtual 309, 3) := by decide +kernel
theorem d_Mod_readQuoted_14 : decode b_Mod_readQuoted 14 = .ok (.iconst 1, 1) := by decide +kernel
theorem d_Mod_readQuoted_15 : decode b_Mod_readQuoted 15 = .ok (.istore_n 2, 1) := by decide +kernel
theorem d_Mod_readQuoted_16 : decode b_Mod_readQuoted 16 = .ok (.iload_n 2, 1) := by decide +kernel
theorem d_Mod_readQuoted_17 : decode b_Mod_readQuoted 17 = .ok (.ifCond .le 109, 3) := by decide +kernel
theorem d_Mod_readQuoted_20 : decode b_Mod_readQuoted 20 = .ok (.aload_n 0, 1) := by decide +kernel
theorem d_Mod_readQuoted_21 : decode b_Mod_readQuoted 21 = .ok (.getfield 262, 3) := by decide +kernel
theorem d_Mod_readQuoted_24 : decode b_Mod_readQuoted 24 = .ok (.ifCond .ne 102, 3) := by decide +kernel
theorem d_Mod_readQuoted_27 : decode b_Mod_readQuoted 27 = .ok (.aload_n 0, 1) := by decide +kernel
theorem d_Mod_readQuoted_28 : decode b_Mod_readQuoted 28 = .ok (.iconst 0, 1) := by decide +kernel
theorem d_Mod_readQuoted_29 : decode b_Mod_readQuoted 29 = .ok (.invokevirtual 296, 3) := by decide +kernel
theorem d_Mod_readQuoted_32 : decode b_Mod_readQuoted 32 = .ok (.ifCond .ge 17, 3) := by decide +kernel
theorem d_Mod_readQuoted_35 : decode b_Mod_readQuoted 35 = .ok (.aload_n 0, 1) := by decide +kernel
theorem d_Mod_readQuoted_36 : decode b_Mod_readQuoted 36 = .ok (.bipush 32, 2) := by decide +kernel
theorem d_Mod_readQuoted_38 : decode b_Mod_readQuoted 38 = .ok (.aload_n 0, 1) := by decide +kernel
theorem d_Mod_readQuoted_39 : decode b_Mod_readQuoted 39 = .ok (.getfield 289, 3) := by decide +kernel
theorem d_Mod_readQuoted_42 : decode b_Mod_readQuoted 42 = .ok (.iload_n 1, 1) := by decide +kernel
theorem d_Mod_readQuoted_43 : decode b_Mod_readQuoted 43 = .ok (.invokevirtual 292, 3) := by decide +kernel
theorem d_Mod_readQuoted_46 : decode b_Mod_readQuoted 46 = .ok (.goto (-30), 3) := by decide +kernel
theorem d_Mod_readQuoted_49 : decode b_Mod_readQuoted 49 = .ok (.aload_n 0, 1) := by decide +kernel
theorem d_Mod_readQuoted_50 : decode b_Mod_readQuoted 50 = .ok (.aload_n 0, 1) := by decide +kernel
theorem d_Mod_readQuoted_51 : decode b_Mod_readQuoted 51 = .ok (.getfield 40, 3) := by decide +kernel
theorem d_Mod_readQuoted_54 : decode b_Mod_readQuoted 54 = .ok (.aload_n 0, 1) := by decide +kernel
theorem d_Mod_readQuoted_55 : decode b_Mod_readQuoted 55 = .ok (.getfield 313, 3) := by decide +kernel
theorem d_Mod_readQuoted_58 : decode b_Mod_readQuoted 58 = .ok (.invokevirtual 316, 3) := by decide +kernel
theorem d_Mod_readQuoted_61 : decode b_Mod_readQuoted 61 = .ok (.ifCond .eq 26, 3) := by decide +kernel
theorem d_Mod_readQuoted_64 : decode b_Mod_readQuoted 64 = .ok (.iinc 2 (-1), 3) := by decide +kernel
theorem d_Mod_readQuoted_67 : decode b_Mod_readQuoted 67 = .ok (.aload_n 0, 1) := by decide +kernel
theorem d_Mod_readQuoted_68 : decode b_Mod_readQuoted 68 = .ok (.aload_n 0, 1) := by decide +kernel
theorem d_Mod_readQuoted_69 : decode b_Mod_readQuoted 69 = .ok (.getfield 313, 3) := by decide +kernel
theorem d_Mod_readQuoted_72 : decode b_Mod_readQuoted 72 = .ok (.iload_n 2, 1) := by decide +kernel
theorem d_Mod_readQuoted_73 : decode b_Mod_readQuoted 73 = .ok (.ifCond .le 7, 3) := by decide +kernel
theorem d_Mod_readQuoted_76 : decode b_Mod_readQuoted 76 = .ok (.iconst 1, 1) := by decide +kernel
theorem d_Mod_readQuoted_77 : decode b_Mod_readQuoted 77 = .ok (.goto 4, 3) := by decide +kernel
theorem d_Mod_readQuoted_80 : decode b_Mod_readQuoted 80 = .ok (.iconst 0, 1) := by decide +kernel
theorem d_Mod_readQuoted_81 : decode b_Mod_readQuoted 81 = .ok (.invokevirtual 309, 3) := by decide +kernel
theorem d_Mod_readQuoted_84 : decode b_Mod_readQuoted 84 = .ok (.goto (-68), 3) := by decide +kernel
theorem d_Mod_readQuoted_87 : decode b_Mod_readQuoted 87 = .ok (.aload_n 0, 1) := by decide +kernel
theorem d_Mod_readQuoted_88 : decode b_Mod_readQuoted 88 = .ok (.aload_n 0, 1) := by decide +kernel
theorem d_Mod_readQuoted_89 : decode b_Mod_readQuoted 89 = .ok (.getfield 37, 3) := by decide +kernel
theorem d_Mod_readQuoted_92 : decode b_Mod_readQuoted 92 = .ok (.aload_n 0, 1) := by decide +kernel
theorem d_Mod_readQuoted_93 : decode b_Mod_readQuoted 93 = .ok (.getfield 306, 3) := by decide +kernel
theorem d_Mod_readQuoted_96 : decode b_Mod_readQuoted 96 = .ok (.invokevirtual 316, 3) := by decide +kernel
theorem d_Mod_readQuoted_99 : decode b_Mod_readQuoted 99 = .ok (.ifCond .eq 18, 3) := by decide +kernel
theorem d_Mod_readQuoted_102 : decode b_Mod_readQuoted 102 = .ok (.iinc 2 1, 3) := by decide +kernel
theorem d_Mod_readQuoted_105 : decode b_Mod_readQuoted 105 = .ok (.aload_n 0, 1) := by decide +kernel
theorem d_Mod_readQuoted_106 : decode b_Mod_readQuoted 106 = .ok (.aload_n 0, 1) := by decide +kernel
theorem d_Mod_readQuoted_107 : decode b_Mod_readQuoted 107 = .ok (.getfield 306, 3) := by decide +kernel
theorem d_Mod_readQuoted_110 : decode b_Mod_readQuoted 110 = .ok (.iconst 1, 1) := by decide +kernel
theorem d_Mod_readQuoted_111 : decode b_Mod_readQuoted 111 = .ok (.invokevirtual 309, 3) := by decide +kernel
theorem d_Mod_readQuoted_114 : decode b_Mod_readQuoted 114 = .ok (.goto (-98), 3) := by decide +kernel
theorem d_Mod_readQuoted_117 : decode b_Mod_readQuoted 117 = .ok (.aload_n 0, 1) := by decide +kernel
theorem d_Mod_readQuoted_118 : decode b_Mod_readQuoted 118 = .ok (.iconst 1, 1) := by decide +kernel
theorem d_Mod_readQuoted_119 : decode b_Mod_readQuoted 119 = .ok (.iconst 1, 1) := by decide +kernel
theorem d_Mod_readQuoted_120 : decode b_Mod_readQuoted 120 = .ok (.invokevirtual 309, 3) := by decide +kernel
theorem d_Mod_readQuoted_123 : decode b_Mod_readQuoted 123 = .ok (.goto (-107), 3) := by decide +kernel
theorem d_Mod_readQuoted_126 : decode b_Mod_readQuoted 126 = .ok (.return_, 1) := by decide +kernel
theorem d_Mod_readToken_0 : decode b_Mod_readToken 0 = .ok (.aload_n 0, 1) := by decide +kernel
theorem d_Mod_readToken_1 : decode b_Mod_readToken 1 = .ok (.iconst 0, 1) := by decide +kernel
theorem d_Mod_readToken_2 : decode b_Mod_readToken 2 = .ok (.putfield 303, 3) := by decide +kernel
theorem d_Mod_readToken_5 : decode b_Mod_readToken 5 = .ok (.aload_n 0, 1) := by decide +kernel
theorem d_Mod_readToken_6 : decode b_Mod_readToken 6 = .ok (.iconst 0, 1) := by decide +kernel
theorem d_Mod_readToken_7 : decode b_Mod_readToken 7 = .ok (.putfield 320, 3) := by decide +kernel
theorem d_Mod_readToken_10 : decode b_Mod_readToken 10 = .ok (.aload_n 0, 1) := by decide +kernel
theorem d_Mod_readToken_11 : decode b_Mod_readToken 11 = .ok (.iconst 0, 1) := by decide +kernel
theorem d_Mod_readToken_12 : decode b_Mod_readToken 12 = .ok (.invokevirtual 296, 3) := by decide +kernel
theorem d_Mod_readToken_15 : decode b_Mod_readToken 15 = .ok (.ifCond .ge 4, 3) := by decide +kernel
theorem d_Mod_readToken_18 : decode b_Mod_readToken 18 = .ok (.return_, 1) := by decide +kernel
theorem d_Mod_readToken_19 : decode b_Mod_readToken 19 = .ok (.aload_n 0, 1) := by decide +kernel
theorem d_Mod_readToken_20 : decode b_Mod_readToken 20 = .ok (.aload_n 0, 1) := by decide +kernel
theorem d_Mod_readToken_21 : decode b_Mod_readToken 21 = .ok (.getfield 37, 3) := by decide +kernel
theorem d_Mod_readToken_24 : decode b_Mod_readToken 24 = .ok (.aload_n 0, 1) := by decide +kernel
theorem d_Mod_readToken_25 : decode b_Mod_readToken 25 = .ok (.getfield 306, 3) := by decide +kernel
theorem d_Mod_readToken_28 : decode b_Mod_readToken 28 = .ok (.invokevirtual 316, 3) := by decide +kernel
theorem d_Mod_readToken_31 : decode b_Mod_readToken 31 = .ok (.ifCond .eq 15, 3) := by decide +kernel
theorem d_Mod_readToken_34 : decode b_Mod_readToken 34 = .ok (.aload_n 0, 1) := by decide +kernel
theorem d_Mod_readToken_35 : decode b_Mod_readToken 35 = .ok (.iconst 1, 1) := by decide +kernel
theorem d_Mod_readToken_36 : decode b_Mod_readToken 36 = .ok (.putfield 320, 3) := by decide +kernel
theorem d_Mod_readToken_39 : decode b_Mod_readToken 39 = .ok (.aload_n 0, 1) := by decide +kernel
theorem d_Mod_readToken_40 : decode b_Mod_readToken 40 = .ok (.invokevirtual 323, 3) := by decide +kernel
theorem d_Mod_readToken_43 : decode b_Mod_readToken 43 = .ok (.goto 132, 3) := by decide +kernel
theorem d_Mod_readToken_46 : decode b_Mod_readToken 46 = .ok (.aload_n 0, 1) := by decide +kernel
theorem d_Mod_readToken_47 : decode b_Mod_readToken 47 = .ok (.iconst 0, 1) := by decide +kernel
theorem d_Mod_readToken_48 : decode b_Mod_readToken 48 = .ok (.invokevirtual 296, 3) := by decide +kernel
theorem d_Mod_readToken_51 : decode b_Mod_readToken 51 = .ok (.bipush 35, 2) := by decide +kernel
theorem d_Mod_readToken_53 : decode b_Mod_readToken 53 = .ok (.if_icmp .ne 57, 3) := by decide +kernel
theorem d_Mod_readToken_56 : decode b_Mod_readToken 56 = .ok (.aload_n 0, 1) := by decide +kernel
theorem d_Mod_readToken_57 : decode b_Mod_readToken 57 = .ok (.iconst 2, 1) := by decide +kernel
theorem d_Mod_readToken_58 : decode b_Mod_readToken 58 = .ok (.putfield 320, 3) := by decide +kernel
theorem d_Mod_readToken_61 : decode b_Mod_readToken 61 = .ok (.iconst 1, 1) := by decide +kernel
theorem d_Mod_readToken_62 : decode b_Mod_readToken 62 = .ok (.istore_n 1, 1) := by decide +kernel
theorem d_Mod_readToken_63 : decode b_Mod_readToken 63 = .ok (.iload_n 1, 1) := by decide +kernel
theorem d_Mod_readToken_64 : decode b_Mod_readToken 64 = .ok (.ifCond .eq 43, 3) := by decide +kernel
theorem d_Mod_readToken_67 : decode b_Mod_readToken 67 = .ok (.aload_n 0, 1) := by decide +kernel
theorem d_Mod_readToken_68 : decode b_Mod_readToken 68 = .ok (.iconst 0, 1) := by decide +kernel
theorem d_Mod_readToken_69 : decode b_Mod_readToken 69 = .ok (.invokevirtual 296, 3) := by decide +kernel
theorem d_Mod_readToken_72 : decode b_Mod_readToken 72 = .ok (.ifCond .lt 35, 3) := by decide +kernel
theorem d_Mod_readToken_75 : decode b_Mod_readToken 75 = .ok (.aload_n 0, 1) := by decide +kernel
theorem d_Mod_readToken_76 : decode b_Mod_readToken 76 = .ok (.getfield 262, 3) := by decide +kernel
theorem d_Mod_readToken_79 : decode b_Mod_readToken 79 = .ok (.ifCond .ne 28, 3) := by decide +kernel
theorem d_Mod_readToken_82 : decode b_Mod_readToken 82 = .ok (.aload_n 0, 1) := by decide +kernel
theorem d_Mod_readToken_83 : decode b_Mod_readToken 83 = .ok (.iconst 0, 1) := by decide +kernel
theorem d_Mod_readToken_84 : decode b_Mod_readToken 84 = .ok (.invokevirtual 296, 3) := by decide +kernel
theorem d_Mod_readToken_87 : decode b_Mod_readToken 87 = .ok (.bipush 10, 2) := by decide +kernel
theorem d_Mod_readToken_89 : decode b_Mod_readToken 89 = .ok (.if_icmp .eq 7, 3) := by decide +kernel
theorem d_Mod_readToken_92 : decode b_Mod_readToken 92 = .ok (.iconst 1, 1) := by decide +kernel
theorem d_Mod_readToken_93 : decode b_Mod_readToken 93 = .ok (.goto 4, 3) := by decide +kernel
theorem d_Mod_readToken_96 : decode b_Mod_readToken 96 = .ok (.iconst 0, 1) := by decide +kernel
theorem d_Mod_readToken_97 : decode b_Mod_readToken 97 = .ok (.istore_n 1, 1) := by decide +kernel
theorem d_Mod_readToken_98 : decode b_Mod_readToken 98 = .ok (.aload_n 0, 1) := by decide +kernel
theorem d_Mod_readToken_99 : decode b_Mod_readToken 99 = .ok (.iconst 1, 1) := by decide +kernel
theorem d_Mod_readToken_100 : decode b_Mod_readToken 100 = .ok (.iconst 1, 1) := by decide +kernel
theorem d_Mod_readToken_101 : decode b_Mod_readToken 101 = .ok (.invokevirtual 309, 3) := by decide +kernel
theorem d_Mod_readToken_104 : decode b_Mod_readToken 104 = .ok (.goto (-41), 3) := by decide +kernel
theorem d_Mod_readToken_107 : decode b_Mod_readToken 107 = .ok (.goto 68, 3) := by decide +kernel
theorem d_Mod_readToken_110 : decode b_Mod_readToken 110 = .ok (.aload_n 0, 1) := by decide +kernel
theorem d_Mod_readToken_111 : decode b_Mod_readToken 111 = .ok (.iconst 0, 1) := by decide +kernel
theorem d_Mod_readToken_112 : decode b_Mod_readToken 112 = .ok (.invokevirtual 296, 3) := by decide +kernel
theorem d_Mod_readToken_115 : decode b_Mod_readToken 115 = .ok (.invokestatic 326, 3) := by decide +kernel
theorem d_Mod_readToken_118 : decode b_Mod_readToken 118 = .ok (.ifCond .eq 46, 3) := by decide +kernel
theorem d_Mod_readToken_121 : decode b_Mod_readToken 121 = .ok (.aload_n 0, 1) := by decide +kernel
theorem d_Mod_readToken_122 : decode b_Mod_readToken 122 = .ok (.iconst 3, 1) := by decide +kernel
theorem d_Mod_readToken_123 : decode b_Mod_readToken 123 = .ok (.putfield 320, 3) := by decide +kernel
theorem d_Mod_readToken_126 : decode b_Mod_readToken 126 = .ok (.aload_n 0, 1) := by decide +kernel
theorem d_Mod_readToken_127 : decode b_Mod_readToken 127 = .ok (.iconst 0, 1) := by decide +kernel
theorem d_Mod_readToken_128 : decode b_Mod_readToken 128 = .ok (.invokevirtual 296, 3) := by decide +kernel
theorem d_Mod_readToken_131 : decode b_Mod_readToken 131 = .ok (.invokestatic 326, 3) := by decide +kernel
theorem d_Mod_readToken_134 : decode b_Mod_readToken 134 = .ok (.ifCond .ne 14, 3) := by decide +kernel
theorem d_Mod_readToken_137 : decode b_Mod_readToken 137 = .ok (.aload_n 0, 1) := by decide +kernel
theorem d_Mod_readToken_138 : decode b_Mod_readToken 138 = .ok (.iconst 0, 1) := by decide +kernel
theorem d_Mod_readToken_139 : decode b_Mod_readToken 139 = .ok (.invokevirtual 296, 3) := by decide +kernel
theorem d_Mod_readToken_142 : decode b_Mod_readToken 142 = .ok (.invokestatic 330, 3) := by decide +kernel
theorem d_Mod_readToken_145 : decode b_Mod_readToken 145 = .ok (.ifCond .eq 30, 3) := by decide +kernel
theorem d_Mod_readToken_148 : decode b_Mod_readToken 148 = .ok (.aload_n 0, 1) := by decide +kernel
theorem d_Mod_readToken_149 : decode b_Mod_readToken 149 = .ok (.getfield 262, 3) := by decide +kernel
theorem d_Mod_readToken_152 : decode b_Mod_readToken 152 = .ok (.ifCond .ne 23, 3) := by decide +kernel
theorem d_Mod_readToken_155 : decode b_Mod_readToken 155 = .ok (.aload_n 0, 1) := by decide +kernel
theorem d_Mod_readToken_156 : decode b_Mod_readToken 156 = .ok (.iconst 1, 1) := by decide +kernel
theorem d_Mod_readToken_157 : decode b_Mod_readToken 157 = .ok (.iconst 1, 1) := by decide +kernel
theorem d_Mod_readToken_158 : decode b_Mod_readToken 158 = .ok (.invokevirtual 309, 3) := by decide +kernel
theorem d_Mod_readToken_161 : decode b_Mod_readToken 161 = .ok (.goto (-35), 3) := by decide +kernel
theorem d_Mod_readToken_164 : decode b_Mod_readToken 164 = .ok (.aload_n 0, 1) := by decide +kernel
theorem d_Mod_readToken_165 : decode b_Mod_readToken 165 = .ok (.iconst 4, 1) := by decide +kernel
theorem d_Mod_readToken_166 : decode b_Mod_readToken 166 = .ok (.putfield 320, 3) := by decide +kernel
theorem d_Mod_readToken_169 : decode b_Mod_readToken 169 = .ok (.aload_n 0, 1) := by decide +kernel
theorem d_Mod_readToken_170 : decode b_Mod_readToken 170 = .ok (.iconst 1, 1) := by decide +kernel
theorem d_Mod_readToken_171 : decode b_Mod_readToken 171 = .ok (.iconst 1, 1) := by decide +kernel
theorem d_Mod_readToken_172 : decode b_Mod_readToken 172 = .ok (.invokevirtual 309, 3) := by decide +kernel
theorem d_Mod_readToken_175 : decode b_Mod_readToken 175 = .ok (.return_, 1) := by decide +kernel
theorem d_Mod_same_0 : decode b_Mod_same 0 = .ok (.aload_n 0, 1) := by decide +kernel
theorem d_Mod_same_1 : decode b_Mod_same 1 = .ok (.iload_n 1, 1) := by decide +kernel
theorem d_Mod_same_2 : decode b_Mod_same 2 = .ok (.iload_n 2, 1) := by decide +kernel
theorem d_Mod_same_3 : decode b_Mod_same 3 = .ok (.invokevirtual 466, 3) := by decide +kernel
theorem d_Mod_same_6 : decode b_Mod_same 6 = .ok (.aload_n 0, 1) := by decide +kernel
theorem d_Mod_same_7 : decode b_Mod_same 7 = .ok (.iload_n 1, 1) := by decide +kernel
theorem d_Mod_same_8 : decode b_Mod_same 8 = .ok (.iload_n 3, 1) := by decide +kernel
theorem d_Mod_same_9 : decode b_Mod_same 9 = .ok (.invokevirtual 466, 3) := by decide +kernel
theorem d_Mod_same_12 : decode b_Mod_same 12 = .ok (.if_icmp .ne 7, 3) := by decide +kernel
theorem d_Mod_same_15 : decode b_Mod_same 15 = .ok (.iconst 1, 1) := by decide +kernel
theorem d_Mod_same_16 : decode b_Mod_same 16 = .ok (.goto 4, 3) := by decide +kernel
theorem d_Mod_same_19 : decode b_Mod_same 19 = .ok (.iconst 0, 1) := by decide +kernel
theorem d_Mod_same_20 : decode b_Mod_same 20 = .ok (.istore 4, 2) := by decide +kernel
theorem d_Mod_same_22 : decode b_Mod_same 22 = .ok (.iconst 0, 1) := by decide +kernel
theorem d_Mod_same_23 : decode b_Mod_same 23 = .ok (.istore 5, 2) := by decide +kernel
theorem d_Mod_same_25 : decode b_Mod_same 25 = .ok (.iload 5, 2) := by decide +kernel
theorem d_Mod_same_27 : decode b_Mod_same 27 = .ok (.aload_n 0, 1) := by decide +kernel
theorem d_Mod_same_28 : decode b_Mod_same 28 = .ok (.iload_n 1, 1) := by decide +kernel
theorem d_Mod_same_29 : decode b_Mod_same 29 = .ok (.iload_n 2, 1) := by decide +kernel
theorem d_Mod_same_30 : decode b_Mod_same 30 = .ok (.invokevirtual 466, 3) := by decide +kernel
theorem d_Mod_same_33 : decode b_Mod_same 33 = .ok (.if_icmp .ge 52, 3) := by decide +kernel
theorem d_Mod_same_36 : decode b_Mod_same 36 = .ok (.iload 4, 2) := by decide +kernel
theorem d_Mod_same_38 : decode b_Mod_same 38 = .ok (.ifCond .eq 47, 3) := by decide +kernel
theorem d_Mod_same_41 : decode b_Mod_same 41 = .ok (.aload_n 0, 1) := by decide +kernel
theorem d_Mod_same_42 : decode b_Mod_same 42 = .ok (.getfield 72, 3) := by decide +kernel
theorem d_Mod_same_45 : decode b_Mod_same 45 = .ok (.aload_n 0, 1) := by decide +kernel
theorem d_Mod_same_46 : decode b_Mod_same 46 = .ok (.iload_n 1, 1) := by decide +kernel
theorem d_Mod_same_47 : decode b_Mod_same 47 = .ok (.iload_n 2, 1) := by decide +kernel
theorem d_Mod_same_48 : decode b_Mod_same 48 = .ok (.invokevirtual 462, 3) := by decide +kernel
theorem d_Mod_same_51 : decode b_Mod_same 51 = .ok (.iload 5, 2) := by decide +kernel
theorem d_Mod_same_53 : decode b_Mod_same 53 = .ok (.iadd, 1) := by decide +kernel
theorem d_Mod_same_54 : decode b_Mod_same 54 = .ok (.baload, 1) := by decide +kernel
theorem d_Mod_same_55 : decode b_Mod_same 55 = .ok (.aload_n 0, 1) := by decide +kernel
theorem d_Mod_same_56 : decode b_Mod_same 56 = .ok (.getfield 72, 3) := by decide +kernel
theorem d_Mod_same_59 : decode b_Mod_same 59 = .ok (.aload_n 0, 1) := by decide +kernel
theorem d_Mod_same_60 : decode b_Mod_same 60 = .ok (.iload_n 1, 1) := by decide +kernel
theorem d_Mod_same_61 : decode b_Mod_same 61 = .ok (.iload_n 3, 1) := by decide +kernel
theorem d_Mod_same_62 : decode b_Mod_same 62 = .ok (.invokevirtual 462, 3) := by decide +kernel
theorem d_Mod_same_65 : decode b_Mod_same 65 = .ok (.iload 5, 2) := by decide +kernel
theorem d_Mod_same_67 : decode b_Mod_same 67 = .ok (.iadd, 1) := by decide +kernel
theorem d_Mod_same_68 : decode b_Mod_same 68 = .ok (.baload, 1) := by decide +kernel
theorem d_Mod_same_69 : decode b_Mod_same 69 = .ok (.if_icmp .ne 7, 3) := by decide +kernel
theorem d_Mod_same_72 : decode b_Mod_same 72 = .ok (.iconst 1, 1) := by decide +kernel
theorem d_Mod_same_73 : decode b_Mod_same 73 = .ok (.goto 4, 3) := by decide +kernel
theorem d_Mod_same_76 : decode b_Mod_same 76 = .ok (.iconst 0, 1) := by decide +kernel
theorem d_Mod_same_77 : decode b_Mod_same 77 = .ok (.istore 4, 2) := by decide +kernel
theorem d_Mod_same_79 : decode b_Mod_same 79 = .ok (.iinc 5 1, 3) := by decide +kernel
theorem d_Mod_same_82 : decode b_Mod_same 82 = .ok (.goto (-57), 3) := by decide +kernel
theorem d_Mod_same_85 : decode b_Mod_same 85 = .ok (.iload 4, 2) := by decide +kernel
theorem d_Mod_same_87 : decode b_Mod_same 87 = .ok (.ireturn, 1) := by decide +kernel
theorem d_Mod_setHide_0 : decode b_Mod_setHide 0 = .ok (.iconst 0, 1) := by decide +kernel
theorem d_Mod_setHide_1 : decode b_Mod_setHide 1 = .ok (.istore 5, 2) := by decide +kernel
theorem d_Mod_setHide_3 : decode b_Mod_setHide 3 = .ok (.iload 5, 2) := by decide +kernel
theorem d_Mod_setHide_5 : decode b_Mod_setHide 5 = .ok (.bipush 7, 2) := by decide +kernel
theorem d_Mod_setHide_7 : decode b_Mod_setHide 7 = .ok (.if_icmp .ge 46, 3) := by decide +kernel
theorem d_Mod_setHide_10 : decode b_Mod_setHide 10 = .ok (.aload_n 0, 1) := by decide +kernel
theorem d_Mod_setHide_11 : decode b_Mod_setHide 11 = .ok (.getfield 176, 3) := by decide +kernel
theorem d_Mod_setHide_14 : decode b_Mod_setHide 14 = .ok (.bipush 7, 2) := by decide +kernel
theorem d_Mod_setHide_16 : decode b_Mod_setHide 16 = .ok (.iload_n 1, 1) := by decide +kernel
theorem d_Mod_setHide_17 : decode b_Mod_setHide 17 = .ok (.imul, 1) := by decide +kernel
theorem d_Mod_setHide_18 : decode b_Mod_setHide 18 = .ok (.iload 5, 2) := by decide +kernel
theorem d_Mod_setHide_20 : decode b_Mod_setHide 20 = .ok (.iadd, 1) := by decide +kernel
theorem d_Mod_setHide_21 : decode b_Mod_setHide 21 = .ok (.aload_n 0, 1) := by decide +kernel
theorem d_Mod_setHide_22 : decode b_Mod_setHide 22 = .ok (.getfield 157, 3) := by decide +kernel
theorem d_Mod_setHide_25 : decode b_Mod_setHide 25 = .ok (.bipush 7, 2) := by decide +kernel
theorem d_Mod_setHide_27 : decode b_Mod_setHide 27 = .ok (.iload_n 2, 1) := by decide +kernel
theorem d_Mod_setHide_28 : decode b_Mod_setHide 28 = .ok (.imul, 1) := by decide +kernel
theorem d_Mod_setHide_29 : decode b_Mod_setHide 29 = .ok (.iload 5, 2) := by decide +kernel
theorem d_Mod_setHide_31 : decode b_Mod_setHide 31 = .ok (.iadd, 1) := by decide +kernel
theorem d_Mod_setHide_32 : decode b_Mod_setHide 32 = .ok (.laload, 1) := by decide +kernel
theorem d_Mod_setHide_33 : decode b_Mod_setHide 33 = .ok (.aload_n 0, 1) := by decide +kernel
theorem d_Mod_setHide_34 : decode b_Mod_setHide 34 = .ok (.getfield 157, 3) := by decide +kernel
theorem d_Mod_setHide_37 : decode b_Mod_setHide 37 = .ok (.bipush 7, 2) := by decide +kernel
theorem d_Mod_setHide_39 : decode b_Mod_setHide 39 = .ok (.iload_n 3, 1) := by decide +kernel
theorem d_Mod_setHide_40 : decode b_Mod_setHide 40 = .ok (.imul, 1) := by decide +kernel
theorem d_Mod_setHide_41 : decode b_Mod_setHide 41 = .ok (.iload 5, 2) := by decide +kernel
theorem d_Mod_setHide_43 : decode b_Mod_setHide 43 = .ok (.iadd, 1) := by decide +kernel
theorem d_Mod_setHide_44 : decode b_Mod_setHide 44 = .ok (.laload, 1) := by decide +kernel
theorem d_Mod_setHide_45 : decode b_Mod_setHide 45 = .ok (.land, 1) := by decide +kernel
theorem d_Mod_setHide_46 : decode b_Mod_setHide 46 = .ok (.lastore, 1) := by decide +kernel
theorem d_Mod_setHide_47 : decode b_Mod_setHide 47 = .ok (.iinc 5 1, 3) := by decide +kernel
theorem d_Mod_setHide_50 : decode b_Mod_setHide 50 = .ok (.goto (-47), 3) := by decide +kernel
theorem d_Mod_setHide_53 : decode b_Mod_setHide 53 = .ok (.bipush 7, 2) := by decide +kernel
theorem d_Mod_setHide_55 : decode b_Mod_setHide 55 = .ok (.iload_n 1, 1) := by decide +kernel
theorem d_Mod_setHide_56 : decode b_Mod_setHide 56 = .ok (.imul, 1) := by decide +kernel
theorem d_Mod_setHide_57 : decode b_Mod_setHide 57 = .ok (.iload 4, 2) := by decide +kernel
theorem d_Mod_setHide_59 : decode b_Mod_setHide 59 = .ok (.bipush 64, 2) := by decide +kernel
theorem d_Mod_setHide_61 : decode b_Mod_setHide 61 = .ok (.idiv, 1) := by decide +kernel
theorem d_Mod_setHide_62 : decode b_Mod_setHide 62 = .ok (.iadd, 1) := by decide +kernel
theorem d_Mod_setHide_63 : decode b_Mod_setHide 63 = .ok (.istore 5, 2) := by decide +kernel
theorem d_Mod_setHide_65 : decode b_Mod_setHide 65 = .ok (.aload_n 0, 1) := by decide +kernel
theorem d_Mod_setHide_66 : decode b_Mod_setHide 66 = .ok (.getfield 176, 3) := by decide +kernel
theorem d_Mod_setHide_69 : decode b_Mod_setHide 69 = .ok (.iload 5, 2) := by decide +kernel
theorem d_Mod_setHide_71 : decode b_Mod_setHide 71 = .ok (.aload_n 0, 1) := by decide +kernel
theorem d_Mod_setHide_72 : decode b_Mod_setHide 72 = .ok (.getfield 176, 3) := by decide +kernel
theorem d_Mod_setHide_75 : decode b_Mod_setHide 75 = .ok (.iload 5, 2) := by decide +kernel
theorem d_Mod_setHide_77 : decode b_Mod_setHide 77 = .ok (.laload, 1) := by decide +kernel
theorem d_Mod_setHide_78 : decode b_Mod_setHide 78 = .ok (.lconst 1, 1) := by decide +kernel
theorem d_Mod_setHide_79 : decode b_Mod_setHide 79 = .ok (.iload 4, 2) := by decide +kernel
theorem d_Mod_setHide_81 : decode b_Mod_setHide 81 = .ok (.bipush 64, 2) := by decide +kernel
theorem d_Mod_setHide_83 : decode b_Mod_setHide 83 = .ok (.irem, 1) := by decide +kernel
theorem d_Mod_setHide_84 : decode b_Mod_setHide 84 = .ok (.lshl, 1) := by decide +kernel
theorem d_Mod_setHide_85 : decode b_Mod_setHide 85 = .ok (.lor, 1) := by decide +kernel
theorem d_Mod_setHide_86 : decode b_Mod_setHide 86 = .ok (.lastore, 1) := by decide +kernel
theorem d_Mod_setHide_87 : decode b_Mod_setHide 87 = .ok (.return_, 1) := by decide +kernel
theorem d_Mod_setOfSome_0 : decode b_Mod_setOfSome 0 = .ok (.iconst 0, 1) := by decide +kernel
theorem d_Mod_setOfSome_1 : decode b_Mod_setOfSome 1 = .ok (.istore_n 2, 1) := by decide +kernel
theorem d_Mod_setOfSome_2 : decode b_Mod_setOfSome 2 = .ok (.iload_n 2, 1) := by decide +kernel
theorem d_Mod_setOfSome_3 : decode b_Mod_setOfSome 3 = .ok (.aload_n 0, 1) := by decide +kernel
theorem d_Mod_setOfSome_4 : decode b_Mod_setOfSome 4 = .ok (.getfield 625, 3) := by decide +kernel
theorem d_Mod_setOfSome_7 : decode b_Mod_setOfSome 7 = .ok (.if_icmp .gt 66, 3) := by decide +kernel
theorem d_Mod_setOfSome_10 : decode b_Mod_setOfSome 10 = .ok (.iconst 1, 1) := by decide +kernel
theorem d_Mod_setOfSome_11 : decode b_Mod_setOfSome 11 = .ok (.istore_n 3, 1) := by decide +kernel
theorem d_Mod_setOfSome_12 : decode b_Mod_setOfSome 12 = .ok (.iconst 0, 1) := by decide +kernel
theorem d_Mod_setOfSome_13 : decode b_Mod_setOfSome 13 = .ok (.istore 4, 2) := by decide +kernel
theorem d_Mod_setOfSome_15 : decode b_Mod_setOfSome 15 = .ok (.iload 4, 2) := by decide +kernel
theorem d_Mod_setOfSome_17 : decode b_Mod_setOfSome 17 = .ok (.bipush 7, 2) := by decide +kernel
theorem d_Mod_setOfSome_19 : decode b_Mod_setOfSome 19 = .ok (.if_icmp .ge 42, 3) := by decide +kernel
theorem d_Mod_setOfSome_22 : decode b_Mod_setOfSome 22 = .ok (.iload_n 3, 1) := by decide +kernel
theorem d_Mod_setOfSome_23 : decode b_Mod_setOfSome 23 = .ok (.ifCond .eq 30, 3) := by decide +kernel
theorem d_Mod_setOfSome_26 : decode b_Mod_setOfSome 26 = .ok (.aload_n 0, 1) := by decide +kernel
theorem d_Mod_setOfSome_27 : decode b_Mod_setOfSome 27 = .ok (.getfield 157, 3) := by decide +kernel
theorem d_Mod_setOfSome_30 : decode b_Mod_setOfSome 30 = .ok (.bipush 7, 2) := by decide +kernel
theorem d_Mod_setOfSome_32 : decode b_Mod_setOfSome 32 = .ok (.iload_n 2, 1) := by decide +kernel
theorem d_Mod_setOfSome_33 : decode b_Mod_setOfSome 33 = .ok (.imul, 1) := by decide +kernel
theorem d_Mod_setOfSome_34 : decode b_Mod_setOfSome 34 = .ok (.iload 4, 2) := by decide +kernel
theorem d_Mod_setOfSome_36 : decode b_Mod_setOfSome 36 = .ok (.iadd, 1) := by decide +kernel
theorem d_Mod_setOfSome_37 : decode b_Mod_setOfSome 37 = .ok (.laload, 1) := by decide +kernel
theorem d_Mod_setOfSome_38 : decode b_Mod_setOfSome 38 = .ok (.aload_n 0, 1) := by decide +kernel
theorem d_Mod_setOfSome_39 : decode b_Mod_setOfSome 39 = .ok (.getfield 161, 3) := by decide +kernel
theorem d_Mod_setOfSome_42 : decode b_Mod_setOfSome 42 = .ok (.iload 4, 2) := by decide +kernel
theorem d_Mod_setOfSome_44 : decode b_Mod_setOfSome 44 = .ok (.laload, 1) := by decide +kernel
theorem d_Mod_setOfSome_45 : decode b_Mod_setOfSome 45 = .ok (.lcmp, 1) := by decide +kernel
theorem d_Mod_setOfSome_46 : decode b_Mod_setOfSome 46 = .ok (.ifCond .ne 7, 3) := by decide +kernel
theorem d_Mod_setOfSome_49 : decode b_Mod_setOfSome 49 = .ok (.iconst 1, 1) := by decide +kernel
theorem d_Mod_setOfSome_50 : decode b_Mod_setOfSome 50 = .ok (.goto 4, 3) := by decide +kernel
theorem d_Mod_setOfSome_53 : decode b_Mod_setOfSome 53 = .ok (.iconst 0, 1) := by decide +kernel
theorem d_Mod_setOfSome_54 : decode b_Mod_setOfSome 54 = .ok (.istore_n 3, 1) := by decide +kernel
theorem d_Mod_setOfSome_55 : decode b_Mod_setOfSome 55 = .ok (.iinc 4 1, 3) := by decide +kernel
theorem d_Mod_setOfSome_58 : decode b_Mod_setOfSome 58 = .ok (.goto (-43), 3) := by decide +kernel
theorem d_Mod_setOfSome_61 : decode b_Mod_setOfSome 61 = .ok (.iload_n 3, 1) := by decide +kernel
theorem d_Mod_setOfSome_62 : decode b_Mod_setOfSome 62 = .ok (.ifCond .eq 5, 3) := by decide +kernel
theorem d_Mod_setOfSome_65 : decode b_Mod_setOfSome 65 = .ok (.iload_n 2, 1) := by decide +kernel
theorem d_Mod_setOfSome_66 : decode b_Mod_setOfSome 66 = .ok (.ireturn, 1) := by decide +kernel
theorem d_Mod_setOfSome_67 : decode b_Mod_setOfSome 67 = .ok (.iinc 2 1, 3) := by decide +kernel
theorem d_Mod_setOfSome_70 : decode b_Mod_setOfSome 70 = .ok (.goto (-68), 3) := by decide +kernel
theorem d_Mod_setOfSome_73 : decode b_Mod_setOfSome 73 = .ok (.aload_n 0, 1) := by decide +kernel
theorem d_Mod_setOfSome_74 : decode b_Mod_setOfSome 74 = .ok (.getfield 625, 3) := by decide +kernel
theorem d_Mod_setOfSome_77 : decode b_Mod_setOfSome 77 = .ok (.sipush 1000, 3) := by decide +kernel
theorem d_Mod_setOfSome_80 : decode b_Mod_setOfSome 80 = .ok (.if_icmp .ne 12, 3) := by decide +kernel
theorem d_Mod_setOfSome_83 : decode b_Mod_setOfSome 83 = .ok (.aload_n 0, 1) := by decide +kernel
theorem d_Mod_setOfSome_84 : decode b_Mod_setOfSome 84 = .ok (.bipush 21, 2) := by decide +kernel
theorem d_Mod_setOfSome_86 : decode b_Mod_setOfSome 86 = .ok (.iload_n 1, 1) := by decide +kernel
theorem d_Mod_setOfSome_87 : decode b_Mod_setOfSome 87 = .ok (.invokevirtual 628, 3) := by decide +kernel
theorem d_Mod_setOfSome_90 : decode b_Mod_setOfSome 90 = .ok (.iconst 0, 1) := by decide +kernel
theorem d_Mod_setOfSome_91 : decode b_Mod_setOfSome 91 = .ok (.ireturn, 1) := by decide +kernel
theorem d_Mod_setOfSome_92 : decode b_Mod_setOfSome 92 = .ok (.aload_n 0, 1) := by decide +kernel
theorem d_Mod_setOfSome_93 : decode b_Mod_setOfSome 93 = .ok (.dup, 1) := by decide +kernel
theorem d_Mod_setOfSome_94 : decode b_Mod_setOfSome 94 = .ok (.getfield 625, 3) := by decide +kernel
theorem d_Mod_setOfSome_97 : decode b_Mod_setOfSome 97 = .ok (.iconst 1, 1) := by decide +kernel
theorem d_Mod_setOfSome_98 : decode b_Mod_setOfSome 98 = .ok (.iadd, 1) := by decide +kernel
theorem d_Mod_setOfSome_99 : decode b_Mod_setOfSome 99 = .ok (.putfield 625, 3) := by decide +kernel
theorem d_Mod_setOfSome_102 : decode b_Mod_setOfSome 102 = .ok (.iconst 0, 1) := by decide +kernel
theorem d_Mod_setOfSome_103 : decode b_Mod_setOfSome 103 = .ok (.istore_n 2, 1) := by decide +kernel
theorem d_Mod_setOfSome_104 : decode b_Mod_setOfSome 104 = .ok (.iload_n 2, 1) := by decide +kernel
theorem d_Mod_setOfSome_105 : decode b_Mod_setOfSome 105 = .ok (.bipush 7, 2) := by decide +kernel
theorem d_Mod_setOfSome_107 : decode b_Mod_setOfSome 107 = .ok (.if_icmp .ge 29, 3) := by decide +kernel
theorem d_Mod_setOfSome_110 : decode b_Mod_setOfSome 110 = .ok (.aload_n 0, 1) := by decide +kernel
theorem d_Mod_setOfSome_111 : decode b_Mod_setOfSome 111 = .ok (.getfield 157, 3) := by decide +kernel
theorem d_Mod_setOfSome_114 : decode b_Mod_setOfSome 114 = .ok (.bipush 7, 2) := by decide +kernel
theorem d_Mod_setOfSome_116 : decode b_Mod_setOfSome 116 = .ok (.aload_n 0, 1) := by decide +kernel
theorem d_Mod_setOfSome_117 : decode b_Mod_setOfSome 117 = .ok (.getfield 625, 3) := by decide +kernel
theorem d_Mod_setOfSome_120 : decode b_Mod_setOfSome 120 = .ok (.imul, 1) := by decide +kernel
theorem d_Mod_setOfSome_121 : decode b_Mod_setOfSome 121 = .ok (.iload_n 2, 1) := by decide +kernel
theorem d_Mod_setOfSome_122 : decode b_Mod_setOfSome 122 = .ok (.iadd, 1) := by decide +kernel
theorem d_Mod_setOfSome_123 : decode b_Mod_setOfSome 123 = .ok (.aload_n 0, 1) := by decide +kernel
theorem d_Mod_setOfSome_124 : decode b_Mod_setOfSome 124 = .ok (.getfield 161, 3) := by decide +kernel
theorem d_Mod_setOfSome_127 : decode b_Mod_setOfSome 127 = .ok (.iload_n 2, 1) := by decide +kernel
theorem d_Mod_setOfSome_128 : decode b_Mod_setOfSome 128 = .ok (.laload, 1) := by decide +kernel
theorem d_Mod_setOfSome_129 : decode b_Mod_setOfSome 129 = .ok (.lastore, 1) := by decide +kernel
theorem d_Mod_setOfSome_130 : decode b_Mod_setOfSome 130 = .ok (.iinc 2 1, 3) := by decide +kernel
theorem d_Mod_setOfSome_133 : decode b_Mod_setOfSome 133 = .ok (.goto (-29), 3) := by decide +kernel
theorem d_Mod_setOfSome_136 : decode b_Mod_setOfSome 136 = .ok (.aload_n 0, 1) := by decide +kernel
theorem d_Mod_setOfSome_137 : decode b_Mod_setOfSome 137 = .ok (.getfield 625, 3) := by decide +kernel
theorem d_Mod_setOfSome_140 : decode b_Mod_setOfSome 140 = .ok (.ireturn, 1) := by decide +kernel
theorem d_Mod_settle_II_0 : decode b_Mod_settle_II 0 = .ok (.aload_n 0, 1) := by decide +kernel
theorem d_Mod_settle_II_1 : decode b_Mod_settle_II 1 = .ok (.dup, 1) := by decide +kernel
theorem d_Mod_settle_II_2 : decode b_Mod_settle_II 2 = .ok (.getfield 544, 3) := by decide +kernel
theorem d_Mod_settle_II_5 : decode b_Mod_settle_II 5 = .ok (.iconst 1, 1) := by decide +kernel
theorem d_Mod_settle_II_6 : decode b_Mod_settle_II 6 = .ok (.isub, 1) := by decide +kernel
theorem d_Mod_settle_II_7 : decode b_Mod_settle_II 7 = .ok (.putfield 544, 3) := by decide +kernel
theorem d_Mod_settle_II_10 : decode b_Mod_settle_II 10 = .ok (.aload_n 0, 1) := by decide +kernel
theorem d_Mod_settle_II_11 : decode b_Mod_settle_II 11 = .ok (.aload_n 0, 1) := by decide +kernel
theorem d_Mod_settle_II_12 : decode b_Mod_settle_II 12 = .ok (.getfield 78, 3) := by decide +kernel
theorem d_Mod_settle_II_15 : decode b_Mod_settle_II 15 = .ok (.aload_n 0, 1) := by decide +kernel
theorem d_Mod_settle_II_16 : decode b_Mod_settle_II 16 = .ok (.getfield 544, 3) := by decide +kernel
theorem d_Mod_settle_II_19 : decode b_Mod_settle_II 19 = .ok (.iaload, 1) := by decide +kernel
theorem d_Mod_settle_II_20 : decode b_Mod_settle_II 20 = .ok (.aload_n 0, 1) := by decide +kernel
theorem d_Mod_settle_II_21 : decode b_Mod_settle_II 21 = .ok (.getfield 81, 3) := by decide +kernel
theorem d_Mod_settle_II_24 : decode b_Mod_settle_II 24 = .ok (.aload_n 0, 1) := by decide +kernel
theorem d_Mod_settle_II_25 : decode b_Mod_settle_II 25 = .ok (.getfield 544, 3) := by decide +kernel
theorem d_Mod_settle_II_28 : decode b_Mod_settle_II 28 = .ok (.iaload, 1) := by decide +kernel
theorem d_Mod_settle_II_29 : decode b_Mod_settle_II 29 = .ok (.iload_n 1, 1) := by decide +kernel
theorem d_Mod_settle_II_30 : decode b_Mod_settle_II 30 = .ok (.invokevirtual 550, 3) := by decide +kernel
theorem d_Mod_settle_II_33 : decode b_Mod_settle_II 33 = .ok (.ireturn, 1) := by decide +kernel
theorem d_Mod_settle_JIZJ_0 : decode b_Mod_settle_JIZJ 0 = .ok (.aload_n 0, 1) := by decide +kernel
theorem d_Mod_settle_JIZJ_1 : decode b_Mod_settle_JIZJ 1 = .ok (.dup, 1) := by decide +kernel
theorem d_Mod_settle_JIZJ_2 : decode b_Mod_settle_JIZJ 2 = .ok (.getfield 957, 3) := by decide +kernel
theorem d_Mod_settle_JIZJ_5 : decode b_Mod_settle_JIZJ 5 = .ok (.iconst 1, 1) := by decide +kernel
theorem d_Mod_settle_JIZJ_6 : decode b_Mod_settle_JIZJ 6 = .ok (.isub, 1) := by decide +kernel
theorem d_Mod_settle_JIZJ_7 : decode b_Mod_settle_JIZJ 7 = .ok (.putfield 957, 3) := by decide +kernel
theorem d_Mod_settle_JIZJ_10 : decode b_Mod_settle_JIZJ 10 = .ok (.aload_n 0, 1) := by decide +kernel
theorem d_Mod_settle_JIZJ_11 : decode b_Mod_settle_JIZJ 11 = .ok (.aload_n 0, 1) := by decide +kernel
theorem d_Mod_settle_JIZJ_12 : decode b_Mod_settle_JIZJ 12 = .ok (.getfield 224, 3) := by decide +kernel
theorem d_Mod_settle_JIZJ_15 : decode b_Mod_settle_JIZJ 15 = .ok (.aload_n 0, 1) := by decide +kernel
theorem d_Mod_settle_JIZJ_16 : decode b_Mod_settle_JIZJ 16 = .ok (.getfield 957, 3) := by decide +kernel
theorem d_Mod_settle_JIZJ_19 : decode b_Mod_settle_JIZJ 19 = .ok (.iaload, 1) := by decide +kernel
theorem d_Mod_settle_JIZJ_20 : decode b_Mod_settle_JIZJ 20 = .ok (.aload_n 0, 1) := by decide +kernel
theorem d_Mod_settle_JIZJ_21 : decode b_Mod_settle_JIZJ 21 = .ok (.getfield 227, 3) := by decide +kernel
theorem d_Mod_settle_JIZJ_24 : decode b_Mod_settle_JIZJ 24 = .ok (.aload_n 0, 1) := by decide +kernel
theorem d_Mod_settle_JIZJ_25 : decode b_Mod_settle_JIZJ 25 = .ok (.getfield 957, 3) := by decide +kernel
theorem d_Mod_settle_JIZJ_28 : decode b_Mod_settle_JIZJ 28 = .ok (.laload, 1) := by decide +kernel
theorem d_Mod_settle_JIZJ_29 : decode b_Mod_settle_JIZJ 29 = .ok (.lload_n 1, 1) := by decide +kernel
theorem d_Mod_settle_JIZJ_30 : decode b_Mod_settle_JIZJ 30 = .ok (.aload_n 0, 1) := by decide +kernel
theorem d_Mod_settle_JIZJ_31 : decode b_Mod_settle_JIZJ 31 = .ok (.getfield 230, 3) := by decide +kernel
theorem d_Mod_settle_JIZJ_34 : decode b_Mod_settle_JIZJ 34 = .ok (.aload_n 0, 1) := by decide +kernel
theorem d_Mod_settle_JIZJ_35 : decode b_Mod_settle_JIZJ 35 = .ok (.getfield 957, 3) := by decide +kernel
theorem d_Mod_settle_JIZJ_38 : decode b_Mod_settle_JIZJ 38 = .ok (.baload, 1) := by decide +kernel
theorem d_Mod_settle_JIZJ_39 : decode b_Mod_settle_JIZJ 39 = .ok (.aload_n 0, 1) := by decide +kernel
theorem d_Mod_settle_JIZJ_40 : decode b_Mod_settle_JIZJ 40 = .ok (.iload_n 3, 1) := by decide +kernel
theorem d_Mod_settle_JIZJ_41 : decode b_Mod_settle_JIZJ 41 = .ok (.iload 4, 2) := by decide +kernel
theorem d_Mod_settle_JIZJ_43 : decode b_Mod_settle_JIZJ 43 = .ok (.invokevirtual 1020, 3) := by decide +kernel
theorem d_Mod_settle_JIZJ_46 : decode b_Mod_settle_JIZJ 46 = .ok (.invokevirtual 1024, 3) := by decide +kernel
theorem d_Mod_settle_JIZJ_49 : decode b_Mod_settle_JIZJ 49 = .ok (.lreturn, 1) := by decide +kernel
theorem d_Mod_sign_0 : decode b_Mod_sign 0 = .ok (.aload_n 0, 1) := by decide +kernel
theorem d_Mod_sign_1 : decode b_Mod_sign 1 = .ok (.getfield 526, 3) := by decide +kernel
theorem d_Mod_sign_4 : decode b_Mod_sign 4 = .ok (.iload_n 1, 1) := by decide +kernel
theorem d_Mod_sign_5 : decode b_Mod_sign 5 = .ok (.iadd, 1) := by decide +kernel
theorem d_Mod_sign_6 : decode b_Mod_sign 6 = .ok (.aload_n 0, 1) := by decide +kernel
theorem d_Mod_sign_7 : decode b_Mod_sign 7 = .ok (.getfield 529, 3) := by decide +kernel
theorem d_Mod_sign_10 : decode b_Mod_sign 10 = .ok (.if_icmp .ge 21, 3) := by decide +kernel
theorem d_Mod_sign_13 : decode b_Mod_sign 13 = .ok (.aload_n 0, 1) := by decide +kernel
theorem d_Mod_sign_14 : decode b_Mod_sign 14 = .ok (.getfield 72, 3) := by decide +kernel
theorem d_Mod_sign_17 : decode b_Mod_sign 17 = .ok (.aload_n 0, 1) := by decide +kernel
theorem d_Mod_sign_18 : decode b_Mod_sign 18 = .ok (.getfield 526, 3) := by decide +kernel
theorem d_Mod_sign_21 : decode b_Mod_sign 21 = .ok (.iload_n 1, 1) := by decide +kernel
theorem d_Mod_sign_22 : decode b_Mod_sign 22 = .ok (.iadd, 1) := by decide +kernel
theorem d_Mod_sign_23 : decode b_Mod_sign 23 = .ok (.baload, 1) := by decide +kernel
theorem d_Mod_sign_24 : decode b_Mod_sign 24 = .ok (.sipush 255, 3) := by decide +kernel
theorem d_Mod_sign_27 : decode b_Mod_sign 27 = .ok (.iand, 1) := by decide +kernel
theorem d_Mod_sign_28 : decode b_Mod_sign 28 = .ok (.goto 4, 3) := by decide +kernel
theorem d_Mod_sign_31 : decode b_Mod_sign 31 = .ok (.iconst (-1), 1) := by decide +kernel
theorem d_Mod_sign_32 : decode b_Mod_sign 32 = .ok (.ireturn, 1) := by decide +kernel
theorem d_Mod_sizeNow_0 : decode b_Mod_sizeNow 0 = .ok (.iload_n 1, 1) := by decide +kernel
theorem d_Mod_sizeNow_1 : decode b_Mod_sizeNow 1 = .ok (.aload_n 0, 1) := by decide +kernel
theorem d_Mod_sizeNow_2 : decode b_Mod_sizeNow 2 = .ok (.getfield 936, 3) := by decide +kernel
theorem d_Mod_sizeNow_5 : decode b_Mod_sizeNow 5 = .ok (.if_icmp .ne 10, 3) := by decide +kernel
theorem d_Mod_sizeNow_8 : decode b_Mod_sizeNow 8 = .ok (.aload_n 0, 1) := by decide +kernel
theorem d_Mod_sizeNow_9 : decode b_Mod_sizeNow 9 = .ok (.getfield 939, 3) := by decide +kernel
theorem d_Mod_sizeNow_12 : decode b_Mod_sizeNow 12 = .ok (.goto 9, 3) := by decide +kernel
theorem d_Mod_sizeNow_15 : decode b_Mod_sizeNow 15 = .ok (.aload_n 0, 1) := by decide +kernel
theorem d_Mod_sizeNow_16 : decode b_Mod_sizeNow 16 = .ok (.getfield 27, 3) := by decide +kernel
theorem d_Mod_sizeNow_19 : decode b_Mod_sizeNow 19 = .ok (.iload_n 1, 1) := by decide +kernel
theorem d_Mod_sizeNow_20 : decode b_Mod_sizeNow 20 = .ok (.iaload, 1) := by decide +kernel
theorem d_Mod_sizeNow_21 : decode b_Mod_sizeNow 21 = .ok (.ireturn, 1) := by decide +kernel
theorem d_Mod_skipBlanks_0 : decode b_Mod_skipBlanks 0 = .ok (.aload_n 0, 1) := by decide +kernel
theorem d_Mod_skipBlanks_1 : decode b_Mod_skipBlanks 1 = .ok (.iconst 0, 1) := by decide +kernel
theorem d_Mod_skipBlanks_2 : decode b_Mod_skipBlanks 2 = .ok (.invokevirtual 532, 3) := by decide +kernel
theorem d_Mod_skipBlanks_5 : decode b_Mod_skipBlanks 5 = .ok (.invokestatic 456, 3) := by decide +kernel
theorem d_Mod_skipBlanks_8 : decode b_Mod_skipBlanks 8 = .ok (.ifCond .ne 13, 3) := by decide +kernel
theorem d_Mod_skipBlanks_11 : decode b_Mod_skipBlanks 11 = .ok (.aload_n 0, 1) := by decide +kernel
theorem d_Mod_skipBlanks_12 : decode b_Mod_skipBlanks 12 = .ok (.iconst 0, 1) := by decide +kernel
theorem d_Mod_skipBlanks_13 : decode b_Mod_skipBlanks 13 = .ok (.invokevirtual 532, 3) := by decide +kernel
theorem d_Mod_skipBlanks_16 : decode b_Mod_skipBlanks 16 = .ok (.bipush 10, 2) := by decide +kernel
theorem d_Mod_skipBlanks_18 : decode b_Mod_skipBlanks 18 = .ok (.if_icmp .ne 16, 3) := by decide +kernel
theorem d_Mod_skipBlanks_21 : decode b_Mod_skipBlanks 21 = .ok (.aload_n 0, 1) := by decide +kernel
theorem d_Mod_skipBlanks_22 : decode b_Mod_skipBlanks 22 = .ok (.dup, 1) := by decide +kernel
theorem d_Mod_skipBlanks_23 : decode b_Mod_skipBlanks 23 = .ok (.getfield 526, 3) := by decide +kernel
theorem d_Mod_skipBlanks_26 : decode b_Mod_skipBlanks 26 = .ok (.iconst 1, 1) := by decide +kernel
theorem d_Mod_skipBlanks_27 : decode b_Mod_skipBlanks 27 = .ok (.iadd, 1) := by decide +kernel
theorem d_Mod_skipBlanks_28 : decode b_Mod_skipBlanks 28 = .ok (.putfield 526, 3) := by decide +kernel
theorem d_Mod_skipBlanks_31 : decode b_Mod_skipBlanks 31 = .ok (.goto (-31), 3) := by decide +kernel
theorem d_Mod_skipBlanks_34 : decode b_Mod_skipBlanks 34 = .ok (.return_, 1) := by decide +kernel
theorem d_Mod_spell_0 : decode b_Mod_spell 0 = .ok (.aload_n 0, 1) := by decide +kernel
theorem d_Mod_spell_1 : decode b_Mod_spell 1 = .ok (.getfield 85, 3) := by decide +kernel
theorem d_Mod_spell_4 : decode b_Mod_spell 4 = .ok (.ldc_w 638, 3) := by decide +kernel
theorem d_Mod_spell_7 : decode b_Mod_spell 7 = .ok (.aload_n 0, 1) := by decide +kernel
theorem d_Mod_spell_8 : decode b_Mod_spell 8 = .ok (.getfield 639, 3) := by decide +kernel
theorem d_Mod_spell_11 : decode b_Mod_spell 11 = .ok (.iadd, 1) := by decide +kernel
theorem d_Mod_spell_12 : decode b_Mod_spell 12 = .ok (.iload_n 1, 1) := by decide +kernel
theorem d_Mod_spell_13 : decode b_Mod_spell 13 = .ok (.i2b, 1) := by decide +kernel
theorem d_Mod_spell_14 : decode b_Mod_spell 14 = .ok (.bastore, 1) := by decide +kernel
theorem d_Mod_spell_15 : decode b_Mod_spell 15 = .ok (.aload_n 0, 1) := by decide +kernel
theorem d_Mod_spell_16 : decode b_Mod_spell 16 = .ok (.dup, 1) := by decide +kernel
theorem d_Mod_spell_17 : decode b_Mod_spell 17 = .ok (.getfield 639, 3) := by decide +kernel
theorem d_Mod_spell_20 : decode b_Mod_spell 20 = .ok (.iconst 1, 1) := by decide +kernel
theorem d_Mod_spell_21 : decode b_Mod_spell 21 = .ok (.iadd, 1) := by decide +kernel
theorem d_Mod_spell_22 : decode b_Mod_spell 22 = .ok (.putfield 639, 3) := by decide +kernel
theorem d_Mod_spell_25 : decode b_Mod_spell 25 = .ok (.return_, 1) := by decide +kernel
theorem d_Mod_spelled_0 : decode b_Mod_spelled 0 = .ok (.ldc_w 638, 3) := by decide +kernel
theorem d_Mod_spelled_3 : decode b_Mod_spelled 3 = .ok (.aload_n 0, 1) := by decide +kernel
theorem d_Mod_spelled_4 : decode b_Mod_spelled 4 = .ok (.getfield 639, 3) := by decide +kernel
theorem d_Mod_spelled_7 : decode b_Mod_spelled 7 = .ok (.iadd, 1) := by decide +kernel
theorem d_Mod_spelled_8 : decode b_Mod_spelled 8 = .ok (.istore 5, 2) := by decide +kernel
theorem d_Mod_spelled_10 : decode b_Mod_spelled 10 = .ok (.iconst 2, 1) := by decide +kernel
theorem d_Mod_spelled_11 : decode b_Mod_spelled 11 = .ok (.istore 6, 2) := by decide +kernel
theorem d_Mod_spelled_13 : decode b_Mod_spelled 13 = .ok (.iload_n 1, 1) := by decide +kernel
theorem d_Mod_spelled_14 : decode b_Mod_spelled 14 = .ok (.istore 7, 2) := by decide +kernel
theorem d_Mod_spelled_16 : decode b_Mod_spelled 16 = .ok (.iload 7, 2) := by decide +kernel
theorem d_Mod_spelled_18 : decode b_Mod_spelled 18 = .ok (.iload_n 2, 1) := by decide +kernel
theorem d_Mod_spelled_19 : decode b_Mod_spelled 19 = .ok (.if_icmp .eq 91, 3) := by decide +kernel
theorem d_Mod_spelled_22 : decode b_Mod_spelled 22 = .ok (.iload 6, 2) := by decide +kernel
theorem d_Mod_spelled_24 : decode b_Mod_spelled 24 = .ok (.aload_n 0, 1) := by decide +kernel
theorem d_Mod_spelled_25 : decode b_Mod_spelled 25 = .ok (.getfield 102, 3) := by decide +kernel
theorem d_Mod_spelled_28 : decode b_Mod_spelled 28 = .ok (.iload 7, 2) := by decide +kernel
theorem d_Mod_spelled_30 : decode b_Mod_spelled 30 = .ok (.iaload, 1) := by decide +kernel
theorem d_Mod_spelled_31 : decode b_Mod_spelled 31 = .ok (.iadd, 1) := by decide +kernel
theorem d_Mod_spelled_32 : decode b_Mod_spelled 32 = .ok (.iload 7, 2) := by decide +kernel
theorem d_Mod_spelled_34 : decode b_Mod_spelled 34 = .ok (.iload_n 1, 1) := by decide +kernel
theorem d_Mod_spelled_35 : decode b_Mod_spelled 35 = .ok (.if_icmp .eq 17, 3) := by decide +kernel
theorem d_Mod_spelled_38 : decode b_Mod_spelled 38 = .ok (.aload_n 0, 1) := by decide +kernel
theorem d_Mod_spelled_39 : decode b_Mod_spelled 39 = .ok (.getfield 114, 3) := by decide +kernel
theorem d_Mod_spelled_42 : decode b_Mod_spelled 42 = .ok (.iload 7, 2) := by decide +kernel
theorem d_Mod_spelled_44 : decode b_Mod_spelled 44 = .ok (.baload, 1) := by decide +kernel
theorem d_Mod_spelled_45 : decode b_Mod_spelled 45 = .ok (.ifCond .eq 7, 3) := by decide +kernel
theorem d_Mod_spelled_48 : decode b_Mod_spelled 48 = .ok (.iconst 1, 1) := by decide +kernel
theorem d_Mod_spelled_49 : decode b_Mod_spelled 49 = .ok (.goto 4, 3) := by decide +kernel
theorem d_Mod_spelled_52 : decode b_Mod_spelled 52 = .ok (.iconst 0, 1) := by decide +kernel
theorem d_Mod_spelled_53 : decode b_Mod_spelled 53 = .ok (.iadd, 1) := by decide +kernel
theorem d_Mod_spelled_54 : decode b_Mod_spelled 54 = .ok (.istore 6, 2) := by decide +kernel
theorem d_Mod_spelled_56 : decode b_Mod_spelled 56 = .ok (.iconst 0, 1) := by decide +kernel
theorem d_Mod_spelled_57 : decode b_Mod_spelled 57 = .ok (.istore 8, 2) := by decide +kernel
theorem d_Mod_spelled_59 : decode b_Mod_spelled 59 = .ok (.iload 8, 2) := by decide +kernel
theorem d_Mod_spelled_61 : decode b_Mod_spelled 61 = .ok (.aload_n 0, 1) := by decide +kernel
theorem d_Mod_spelled_62 : decode b_Mod_spelled 62 = .ok (.getfield 102, 3) := by decide +kernel
theorem d_Mod_spelled_65 : decode b_Mod_spelled 65 = .ok (.iload 7, 2) := by decide +kernel
theorem d_Mod_spelled_67 : decode b_Mod_spelled 67 = .ok (.iaload, 1) := by decide +kernel
theorem d_Mod_spelled_68 : decode b_Mod_spelled 68 = .ok (.if_icmp .ge 30, 3) := by decide +kernel
theorem d_Mod_spelled_71 : decode b_Mod_spelled 71 = .ok (.iload 6, 2) := by decide +kernel
theorem d_Mod_spelled_73 : decode b_Mod_spelled 73 = .ok (.aload_n 0, 1) := by decide +kernel
theorem d_Mod_spelled_74 : decode b_Mod_spelled 74 = .ok (.iload 7, 2) := by decide +kernel
theorem d_Mod_spelled_76 : decode b_Mod_spelled 76 = .ok (.iload 8, 2) := by decide +kernel
theorem d_Mod_spelled_78 : decode b_Mod_spelled 78 = .ok (.invokevirtual 723, 3) := by decide +kernel
theorem d_Mod_spelled_81 : decode b_Mod_spelled 81 = .ok (.ifCond .eq 7, 3) := by decide +kernel
theorem d_Mod_spelled_84 : decode b_Mod_spelled 84 = .ok (.iconst 1, 1) := by decide +kernel
theorem d_Mod_spelled_85 : decode b_Mod_spelled 85 = .ok (.goto 4, 3) := by decide +kernel
theorem d_Mod_spelled_88 : decode b_Mod_spelled 88 = .ok (.iconst 0, 1) := by decide +kernel
theorem d_Mod_spelled_89 : decode b_Mod_spelled 89 = .ok (.iadd, 1) := by decide +kernel
theorem d_Mod_spelled_90 : decode b_Mod_spelled 90 = .ok (.istore 6, 2) := by decide +kernel
theorem d_Mod_spelled_92 : decode b_Mod_spelled 92 = .ok (.iinc 8 1, 3) := by decide +kernel
theorem d_Mod_spelled_95 : decode b_Mod_spelled 95 = .ok (.goto (-36), 3) := by decide +kernel
theorem d_Mod_spelled_98 : decode b_Mod_spelled 98 = .ok (.aload_n 0, 1) := by decide +kernel
theorem d_Mod_spelled_99 : decode b_Mod_spelled 99 = .ok (.getfield 111, 3) := by decide +kernel
theorem d_Mod_spelled_102 : decode b_Mod_spelled 102 = .ok (.iload 7, 2) := by decide +kernel
theorem d_Mod_spelled_104 : decode b_Mod_spelled 104 = .ok (.iaload, 1) := by decide +kernel
theorem d_Mod_spelled_105 : decode b_Mod_spelled 105 = .ok (.istore 7, 2) := by decide +kernel
theorem d_Mod_spelled_107 : decode b_Mod_spelled 107 = .ok (.goto (-91), 3) := by decide +kernel
theorem d_Mod_spelled_110 : decode b_Mod_spelled 110 = .ok (.aload_n 0, 1) := by decide +kernel
theorem d_Mod_spelled_111 : decode b_Mod_spelled 111 = .ok (.iload 6, 2) := by decide +kernel
theorem d_Mod_spelled_113 : decode b_Mod_spelled 113 = .ok (.iload_n 3, 1) := by decide +kernel
theorem d_Mod_spelled_114 : decode b_Mod_spelled 114 = .ok (.invokevirtual 650, 3) := by decide +kernel
theorem d_Mod_spelled_117 : decode b_Mod_spelled 117 = .ok (.ifCond .ne 5, 3) := by decide +kernel
theorem d_Mod_spelled_120 : decode b_Mod_spelled 120 = .ok (.iconst (-1), 1) := by decide +kernel
theorem d_Mod_spelled_121 : decode b_Mod_spelled 121 = .ok (.ireturn, 1) := by decide +kernel
theorem d_Mod_spelled_122 : decode b_Mod_spelled 122 = .ok (.aload_n 0, 1) := by decide +kernel
theorem d_Mod_spelled_123 : decode b_Mod_spelled 123 = .ok (.bipush 34, 2) := by decide +kernel
theorem d_Mod_spelled_125 : decode b_Mod_spelled 125 = .ok (.invokevirtual 653, 3) := by decide +kernel
theorem d_Mod_spelled_128 : decode b_Mod_spelled 128 = .ok (.iload_n 1, 1) := by decide +kernel
theorem d_Mod_spelled_129 : decode b_Mod_spelled 129 = .ok (.istore 7, 2) := by decide +kernel
theorem d_Mod_spelled_131 : decode b_Mod_spelled 131 = .ok (.iload 7, 2) := by decide +kernel
theorem d_Mod_spelled_133 : decode b_Mod_spelled 133 = .ok (.iload_n 2, 1) := by decide +kernel
theorem d_Mod_spelled_134 : decode b_Mod_spelled 134 = .ok (.if_icmp .eq 87, 3) := by decide +kernel
theorem d_Mod_spelled_137 : decode b_Mod_spelled 137 = .ok (.iload 7, 2) := by decide +kernel
theorem d_Mod_spelled_139 : decode b_Mod_spelled 139 = .ok (.iload_n 1, 1) := by decide +kernel
theorem d_Mod_spelled_140 : decode b_Mod_spelled 140 = .ok (.if_icmp .eq 19, 3) := by decide +kernel
theorem d_Mod_spelled_143 : decode b_Mod_spelled 143 = .ok (.aload_n 0, 1) := by decide +kernel
theorem d_Mod_spelled_144 : decode b_Mod_spelled 144 = .ok (.getfield 114, 3) := by decide +kernel
theorem d_Mod_spelled_147 : decode b_Mod_spelled 147 = .ok (.iload 7, 2) := by decide +kernel
theorem d_Mod_spelled_149 : decode b_Mod_spelled 149 = .ok (.baload, 1) := by decide +kernel
theorem d_Mod_spelled_150 : decode b_Mod_spelled 150 = .ok (.ifCond .eq 9, 3) := by decide +kernel
theorem d_Mod_spelled_153 : decode b_Mod_spelled 153 = .ok (.aload_n 0, 1) := by decide +kernel
theorem d_Mod_spelled_154 : decode b_Mod_spelled 154 = .ok (.bipush 32, 2) := by decide +kernel
theorem d_Mod_spelled_156 : decode b_Mod_spelled 156 = .ok (.invokevirtual 653, 3) := by decide +kernel
theorem d_Mod_spelled_159 : decode b_Mod_spelled 159 = .ok (.iconst 0, 1) := by decide +kernel
theorem d_Mod_spelled_160 : decode b_Mod_spelled 160 = .ok (.istore 8, 2) := by decide +kernel
theorem d_Mod_spelled_162 : decode b_Mod_spelled 162 = .ok (.iload 8, 2) := by decide +kernel
theorem d_Mod_spelled_164 : decode b_Mod_spelled 164 = .ok (.aload_n 0, 1) := by decide +kernel
theorem d_Mod_spelled_165 : decode b_Mod_spelled 165 = .ok (.getfield 102, 3) := by decide +kernel
theorem d_Mod_spelled_168 : decode b_Mod_spelled 168 = .ok (.iload 7, 2) := by decide +kernel
theorem d_Mod_spelled_170 : decode b_Mod_spelled 170 = .ok (.iaload, 1) := by decide +kernel
theorem d_Mod_spelled_171 : decode b_Mod_spelled 171 = .ok (.if_icmp .ge 38, 3) := by decide +kernel
theorem d_Mod_spelled_174 : decode b_Mod_spelled 174 = .ok (.aload_n 0, 1) := by decide +kernel
theorem d_Mod_spelled_175 : decode b_Mod_spelled 175 = .ok (.iload 7, 2) := by decide +kernel
theorem d_Mod_spelled_177 : decode b_Mod_spelled 177 = .ok (.iload 8, 2) := by decide +kernel
theorem d_Mod_spelled_179 : decode b_Mod_spelled 179 = .ok (.invokevirtual 723, 3) := by decide +kernel
theorem d_Mod_spelled_182 : decode b_Mod_spelled 182 = .ok (.ifCond .eq 9, 3) := by decide +kernel
theorem d_Mod_spelled_185 : decode b_Mod_spelled 185 = .ok (.aload_n 0, 1) := by decide +kernel
theorem d_Mod_spelled_186 : decode b_Mod_spelled 186 = .ok (.bipush 92, 2) := by decide +kernel
theorem d_Mod_spelled_188 : decode b_Mod_spelled 188 = .ok (.invokevirtual 653, 3) := by decide +kernel
theorem d_Mod_spelled_191 : decode b_Mod_spelled 191 = .ok (.aload_n 0, 1) := by decide +kernel
theorem d_Mod_spelled_192 : decode b_Mod_spelled 192 = .ok (.aload_n 0, 1) := by decide +kernel
theorem d_Mod_spelled_193 : decode b_Mod_spelled 193 = .ok (.iload 7, 2) := by decide +kernel
theorem d_Mod_spelled_195 : decode b_Mod_spelled 195 = .ok (.iload 8, 2) := by decide +kernel
theorem d_Mod_spelled_197 : decode b_Mod_spelled 197 = .ok (.invokevirtual 585, 3) := by decide +kernel
theorem d_Mod_spelled_200 : decode b_Mod_spelled 200 = .ok (.invokevirtual 653, 3) := by decide +kernel
theorem d_Mod_spelled_203 : decode b_Mod_spelled 203 = .ok (.iinc 8 1, 3) := by decide +kernel
theorem d_Mod_spelled_206 : decode b_Mod_spelled 206 = .ok (.goto (-44), 3) := by decide +kernel
theorem d_Mod_spelled_209 : decode b_Mod_spelled 209 = .ok (.aload_n 0, 1) := by decide +kernel
theorem d_Mod_spelled_210 : decode b_Mod_spelled 210 = .ok (.getfield 111, 3) := by decide +kernel
theorem d_Mod_spelled_213 : decode b_Mod_spelled 213 = .ok (.iload 7, 2) := by decide +kernel
theorem d_Mod_spelled_215 : decode b_Mod_spelled 215 = .ok (.iaload, 1) := by decide +kernel
theorem d_Mod_spelled_216 : decode b_Mod_spelled 216 = .ok (.istore 7, 2) := by decide +kernel
theorem d_Mod_spelled_218 : decode b_Mod_spelled 218 = .ok (.goto (-87), 3) := by decide +kernel
theorem d_Mod_spelled_221 : decode b_Mod_spelled 221 = .ok (.aload_n 0, 1) := by decide +kernel
theorem d_Mod_spelled_222 : decode b_Mod_spelled 222 = .ok (.bipush 34, 2) := by decide +kernel
theorem d_Mod_spelled_224 : decode b_Mod_spelled 224 = .ok (.invokevirtual 653, 3) := by decide +kernel
theorem d_Mod_spelled_227 : decode b_Mod_spelled 227 = .ok (.aload_n 0, 1) := by decide +kernel
theorem d_Mod_spelled_228 : decode b_Mod_spelled 228 = .ok (.iload 5, 2) := by decide +kernel
theorem d_Mod_spelled_230 : decode b_Mod_spelled 230 = .ok (.ldc_w 638, 3) := by decide +kernel
theorem d_Mod_spelled_233 : decode b_Mod_spelled 233 = .ok (.aload_n 0, 1) := by decide +kernel
theorem d_Mod_spelled_234 : decode b_Mod_spelled 234 = .ok (.getfield 639, 3) := by decide +kernel
theorem d_Mod_spelled_237 : decode b_Mod_spelled 237 = .ok (.iadd, 1) := by decide +kernel
theorem d_Mod_spelled_238 : decode b_Mod_spelled 238 = .ok (.iload 5, 2) := by decide +kernel
theorem d_Mod_spelled_240 : decode b_Mod_spelled 240 = .ok (.isub, 1) := by decide +kernel
theorem d_Mod_spelled_241 : decode b_Mod_spelled 241 = .ok (.iload_n 3, 1) := by decide +kernel
theorem d_Mod_spelled_242 : decode b_Mod_spelled 242 = .ok (.iload 4, 2) := by decide +kernel
theorem d_Mod_spelled_244 : decode b_Mod_spelled 244 = .ok (.iconst 0, 1) := by decide +kernel
theorem d_Mod_spelled_245 : decode b_Mod_spelled 245 = .ok (.invokevirtual 581, 3) := by decide +kernel
theorem d_Mod_spelled_248 : decode b_Mod_spelled 248 = .ok (.ireturn, 1) := by decide +kernel
theorem d_Mod_spend_0 : decode b_Mod_spend 0 = .ok (.aload_n 0, 1) := by decide +kernel
theorem d_Mod_spend_1 : decode b_Mod_spend 1 = .ok (.aload_n 0, 1) := by decide +kernel
theorem d_Mod_spend_2 : decode b_Mod_spend 2 = .ok (.getfield 634, 3) := by decide +kernel
theorem d_Mod_spend_5 : decode b_Mod_spend 5 = .ok (.iload_n 1, 1) := by decide +kernel
theorem d_Mod_spend_6 : decode b_Mod_spend 6 = .ok (.iadd, 1) := by decide +kernel
theorem d_Mod_spend_7 : decode b_Mod_spend 7 = .ok (.putfield 634, 3) := by decide +kernel
theorem d_Mod_spend_10 : decode b_Mod_spend 10 = .ok (.aload_n 0, 1) := by decide +kernel
theorem d_Mod_spend_11 : decode b_Mod_spend 11 = .ok (.getfield 634, 3) := by decide +kernel
theorem d_Mod_spend_14 : decode b_Mod_spend 14 = .ok (.ldc_w 637, 3) := by decide +kernel
theorem d_Mod_spend_17 : decode b_Mod_spend 17 = .ok (.if_icmp .le 10, 3) := by decide +kernel
theorem d_Mod_spend_20 : decode b_Mod_spend 20 = .ok (.aload_n 0, 1) := by decide +kernel
theorem d_Mod_spend_21 : decode b_Mod_spend 21 = .ok (.bipush 21, 2) := by decide +kernel
theorem d_Mod_spend_23 : decode b_Mod_spend 23 = .ok (.iload_n 2, 1) := by decide +kernel
theorem d_Mod_spend_24 : decode b_Mod_spend 24 = .ok (.invokevirtual 628, 3) := by decide +kernel
theorem d_Mod_spend_27 : decode b_Mod_spend 27 = .ok (.aload_n 0, 1) := by decide +kernel
theorem d_Mod_spend_28 : decode b_Mod_spend 28 = .ok (.getfield 262, 3) := by decide +kernel
theorem d_Mod_spend_31 : decode b_Mod_spend 31 = .ok (.ifCond .ne 7, 3) := by decide +kernel
theorem d_Mod_spend_34 : decode b_Mod_spend 34 = .ok (.iconst 1, 1) := by decide +kernel
theorem d_Mod_spend_35 : decode b_Mod_spend 35 = .ok (.goto 4, 3) := by decide +kernel
theorem d_Mod_spend_38 : decode b_Mod_spend 38 = .ok (.iconst 0, 1) := by decide +kernel
theorem d_Mod_spend_39 : decode b_Mod_spend 39 = .ok (.ireturn, 1) := by decide +kernel
theorem d_Mod_storeFile_0 : decode b_Mod_storeFile 0 = .ok (.aload_n 0, 1) := by decide +kernel
theorem d_Mod_storeFile_1 : decode b_Mod_storeFile 1 = .ok (.getfield 92, 3) := by decide +kernel
theorem d_Mod_storeFile_4 : decode b_Mod_storeFile 4 = .ok (.iload_n 1, 1) := by decide +kernel
theorem d_Mod_storeFile_5 : decode b_Mod_storeFile 5 = .ok (.aload_n 0, 1) := by decide +kernel
theorem d_Mod_storeFile_6 : decode b_Mod_storeFile 6 = .ok (.getfield 575, 3) := by decide +kernel
theorem d_Mod_storeFile_9 : decode b_Mod_storeFile 9 = .ok (.iastore, 1) := by decide +kernel
theorem d_Mod_storeFile_10 : decode b_Mod_storeFile 10 = .ok (.iconst 1, 1) := by decide +kernel
theorem d_Mod_storeFile_11 : decode b_Mod_storeFile 11 = .ok (.istore 5, 2) := by decide +kernel
theorem d_Mod_storeFile_13 : decode b_Mod_storeFile 13 = .ok (.iconst 0, 1) := by decide +kernel
theorem d_Mod_storeFile_14 : decode b_Mod_storeFile 14 = .ok (.istore 6, 2) := by decide +kernel
theorem d_Mod_storeFile_16 : decode b_Mod_storeFile 16 = .ok (.iload 6, 2) := by decide +kernel
theorem d_Mod_storeFile_18 : decode b_Mod_storeFile 18 = .ok (.iload 4, 2) := by decide +kernel
theorem d_Mod_storeFile_20 : decode b_Mod_storeFile 20 = .ok (.if_icmp .ge 112, 3) := by decide +kernel
theorem d_Mod_storeFile_23 : decode b_Mod_storeFile 23 = .ok (.aload_n 2, 1) := by decide +kernel
theorem d_Mod_storeFile_24 : decode b_Mod_storeFile 24 = .ok (.iload_n 3, 1) := by decide +kernel
theorem d_Mod_storeFile_25 : decode b_Mod_storeFile 25 = .ok (.iload 6, 2) := by decide +kernel
theorem d_Mod_storeFile_27 : decode b_Mod_storeFile 27 = .ok (.iadd, 1) := by decide +kernel
theorem d_Mod_storeFile_28 : decode b_Mod_storeFile 28 = .ok (.baload, 1) := by decide +kernel
theorem d_Mod_storeFile_29 : decode b_Mod_storeFile 29 = .ok (.bipush 92, 2) := by decide +kernel
theorem d_Mod_storeFile_31 : decode b_Mod_storeFile 31 = .ok (.if_icmp .ne 37, 3) := by decide +kernel
theorem d_Mod_storeFile_34 : decode b_Mod_storeFile 34 = .ok (.iload 6, 2) := by decide +kernel
theorem d_Mod_storeFile_36 : decode b_Mod_storeFile 36 = .ok (.iconst 1, 1) := by decide +kernel
theorem d_Mod_storeFile_37 : decode b_Mod_storeFile 37 = .ok (.iadd, 1) := by decide +kernel
theorem d_Mod_storeFile_38 : decode b_Mod_storeFile 38 = .ok (.iload 4, 2) := by decide +kernel
theorem d_Mod_storeFile_40 : decode b_Mod_storeFile 40 = .ok (.if_icmp .ge 28, 3) := by decide +kernel
theorem d_Mod_storeFile_43 : decode b_Mod_storeFile 43 = .ok (.aload_n 2, 1) := by decide +kernel
theorem d_Mod_storeFile_44 : decode b_Mod_storeFile 44 = .ok (.iload_n 3, 1) := by decide +kernel
theorem d_Mod_storeFile_45 : decode b_Mod_storeFile 45 = .ok (.iload 6, 2) := by decide +kernel
theorem d_Mod_storeFile_47 : decode b_Mod_storeFile 47 = .ok (.iadd, 1) := by decide +kernel
theorem d_Mod_storeFile_48 : decode b_Mod_storeFile 48 = .ok (.iconst 1, 1) := by decide +kernel
theorem d_Mod_storeFile_49 : decode b_Mod_storeFile 49 = .ok (.iadd, 1) := by decide +kernel
theorem d_Mod_storeFile_50 : decode b_Mod_storeFile 50 = .ok (.baload, 1) := by decide +kernel
theorem d_Mod_storeFile_51 : decode b_Mod_storeFile 51 = .ok (.bipush 10, 2) := by decide +kernel
theorem d_Mod_storeFile_53 : decode b_Mod_storeFile 53 = .ok (.if_icmp .ne 15, 3) := by decide +kernel
theorem d_Mod_storeFile_56 : decode b_Mod_storeFile 56 = .ok (.iinc 5 1, 3) := by decide +kernel
theorem d_Mod_storeFile_59 : decode b_Mod_storeFile 59 = .ok (.iload 6, 2) := by decide +kernel
theorem d_Mod_storeFile_61 : decode b_Mod_storeFile 61 = .ok (.iconst 2, 1) := by decide +kernel
theorem d_Mod_storeFile_62 : decode b_Mod_storeFile 62 = .ok (.iadd, 1) := by decide +kernel
theorem d_Mod_storeFile_63 : decode b_Mod_storeFile 63 = .ok (.istore 6, 2) := by decide +kernel
theorem d_Mod_storeFile_65 : decode b_Mod_storeFile 65 = .ok (.goto (-49), 3) := by decide +kernel
theorem d_Mod_storeFile_68 : decode b_Mod_storeFile 68 = .ok (.aload_n 0, 1) := by decide +kernel
theorem d_Mod_storeFile_69 : decode b_Mod_storeFile 69 = .ok (.getfield 85, 3) := by decide +kernel
theorem d_Mod_storeFile_72 : decode b_Mod_storeFile 72 = .ok (.aload_n 0, 1) := by decide +kernel
theorem d_Mod_storeFile_73 : decode b_Mod_storeFile 73 = .ok (.getfield 575, 3) := by decide +kernel
theorem d_Mod_storeFile_76 : decode b_Mod_storeFile 76 = .ok (.aload_n 2, 1) := by decide +kernel
theorem d_Mod_storeFile_77 : decode b_Mod_storeFile 77 = .ok (.iload_n 3, 1) := by decide +kernel
theorem d_Mod_storeFile_78 : decode b_Mod_storeFile 78 = .ok (.iload 6, 2) := by decide +kernel
theorem d_Mod_storeFile_80 : decode b_Mod_storeFile 80 = .ok (.iadd, 1) := by decide +kernel
theorem d_Mod_storeFile_81 : decode b_Mod_storeFile 81 = .ok (.baload, 1) := by decide +kernel
theorem d_Mod_storeFile_82 : decode b_Mod_storeFile 82 = .ok (.bastore, 1) := by decide +kernel
theorem d_Mod_storeFile_83 : decode b_Mod_storeFile 83 = .ok (.aload_n 0, 1) := by decide +kernel
theorem d_Mod_storeFile_84 : decode b_Mod_storeFile 84 = .ok (.getfield 89, 3) := by decide +kernel
theorem d_Mod_storeFile_87 : decode b_Mod_storeFile 87 = .ok (.aload_n 0, 1) := by decide +kernel
theorem d_Mod_storeFile_88 : decode b_Mod_storeFile 88 = .ok (.getfield 575, 3) := by decide +kernel
theorem d_Mod_storeFile_91 : decode b_Mod_storeFile 91 = .ok (.iload 5, 2) := by decide +kernel
theorem d_Mod_storeFile_93 : decode b_Mod_storeFile 93 = .ok (.iastore, 1) := by decide +kernel
theorem d_Mod_storeFile_94 : decode b_Mod_storeFile 94 = .ok (.aload_n 2, 1) := by decide +kernel
theorem d_Mod_storeFile_95 : decode b_Mod_storeFile 95 = .ok (.iload_n 3, 1) := by decide +kernel
theorem d_Mod_storeFile_96 : decode b_Mod_storeFile 96 = .ok (.iload 6, 2) := by decide +kernel
theorem d_Mod_storeFile_98 : decode b_Mod_storeFile 98 = .ok (.iadd, 1) := by decide +kernel
theorem d_Mod_storeFile_99 : decode b_Mod_storeFile 99 = .ok (.baload, 1) := by decide +kernel
theorem d_Mod_storeFile_100 : decode b_Mod_storeFile 100 = .ok (.bipush 10, 2) := by decide +kernel
theorem d_Mod_storeFile_102 : decode b_Mod_storeFile 102 = .ok (.if_icmp .ne 10, 3) := by decide +kernel
theorem d_Mod_storeFile_105 : decode b_Mod_storeFile 105 = .ok (.iload 5, 2) := by decide +kernel
theorem d_Mod_storeFile_107 : decode b_Mod_storeFile 107 = .ok (.iconst 1, 1) := by decide +kernel
theorem d_Mod_storeFile_108 : decode b_Mod_storeFile 108 = .ok (.iadd, 1) := by decide +kernel
theorem d_Mod_storeFile_109 : decode b_Mod_storeFile 109 = .ok (.goto 5, 3) := by decide +kernel
theorem d_Mod_storeFile_112 : decode b_Mod_storeFile 112 = .ok (.iload 5, 2) := by decide +kernel
theorem d_Mod_storeFile_114 : decode b_Mod_storeFile 114 = .ok (.istore 5, 2) := by decide +kernel
theorem d_Mod_storeFile_116 : decode b_Mod_storeFile 116 = .ok (.aload_n 0, 1) := by decide +kernel
theorem d_Mod_storeFile_117 : decode b_Mod_storeFile 117 = .ok (.dup, 1) := by decide +kernel
theorem d_Mod_storeFile_118 : decode b_Mod_storeFile 118 = .ok (.getfield 575, 3) := by decide +kernel
theorem d_Mod_storeFile_121 : decode b_Mod_storeFile 121 = .ok (.iconst 1, 1) := by decide +kernel
theorem d_Mod_storeFile_122 : decode b_Mod_storeFile 122 = .ok (.iadd, 1) := by decide +kernel
theorem d_Mod_storeFile_123 : decode b_Mod_storeFile 123 = .ok (.putfield 575, 3) := by decide +kernel
theorem d_Mod_storeFile_126 : decode b_Mod_storeFile 126 = .ok (.iinc 6 1, 3) := by decide +kernel
theorem d_Mod_storeFile_129 : decode b_Mod_storeFile 129 = .ok (.goto (-113), 3) := by decide +kernel
theorem d_Mod_storeFile_132 : decode b_Mod_storeFile 132 = .ok (.aload_n 0, 1) := by decide +kernel
theorem d_Mod_storeFile_133 : decode b_Mod_storeFile 133 = .ok (.getfield 95, 3) := by decide +kernel
theorem d_Mod_storeFile_136 : decode b_Mod_storeFile 136 = .ok (.iload_n 1, 1) := by decide +kernel
theorem d_Mod_storeFile_137 : decode b_Mod_storeFile 137 = .ok (.aload_n 0, 1) := by decide +kernel
theorem d_Mod_storeFile_138 : decode b_Mod_storeFile 138 = .ok (.getfield 575, 3) := by decide +kernel
theorem d_Mod_storeFile_141 : decode b_Mod_storeFile 141 = .ok (.aload_n 0, 1) := by decide +kernel
theorem d_Mod_storeFile_142 : decode b_Mod_storeFile 142 = .ok (.getfield 92, 3) := by decide +kernel
theorem d_Mod_storeFile_145 : decode b_Mod_storeFile 145 = .ok (.iload_n 1, 1) := by decide +kernel
theorem d_Mod_storeFile_146 : decode b_Mod_storeFile 146 = .ok (.iaload, 1) := by decide +kernel
theorem d_Mod_storeFile_147 : decode b_Mod_storeFile 147 = .ok (.isub, 1) := by decide +kernel
theorem d_Mod_storeFile_148 : decode b_Mod_storeFile 148 = .ok (.iastore, 1) := by decide +kernel
theorem d_Mod_storeFile_149 : decode b_Mod_storeFile 149 = .ok (.return_, 1) := by decide +kernel
theorem d_Mod_take_0 : decode b_Mod_take 0 = .ok (.aload_n 0, 1) := by decide +kernel
theorem d_Mod_take_1 : decode b_Mod_take 1 = .ok (.getfield 274, 3) := by decide +kernel
theorem d_Mod_take_4 : decode b_Mod_take 4 = .ok (.ifCond .ne 11, 3) := by decide +kernel
theorem d_Mod_take_7 : decode b_Mod_take 7 = .ok (.aload_n 0, 1) := by decide +kernel
theorem d_Mod_take_8 : decode b_Mod_take 8 = .ok (.bipush 31, 2) := by decide +kernel
theorem d_Mod_take_10 : decode b_Mod_take 10 = .ok (.invokevirtual 277, 3) := by decide +kernel
theorem d_Mod_take_13 : decode b_Mod_take 13 = .ok (.iconst (-1), 1) := by decide +kernel
theorem d_Mod_take_14 : decode b_Mod_take 14 = .ok (.ireturn, 1) := by decide +kernel
theorem d_Mod_take_15 : decode b_Mod_take 15 = .ok (.aload_n 0, 1) := by decide +kernel
theorem d_Mod_take_16 : decode b_Mod_take 16 = .ok (.dup, 1) := by decide +kernel
theorem d_Mod_take_17 : decode b_Mod_take 17 = .ok (.getfield 274, 3) := by decide +kernel
theorem d_Mod_take_20 : decode b_Mod_take 20 = .ok (.iconst 1, 1) := by decide +kernel
theorem d_Mod_take_21 : decode b_Mod_take 21 = .ok (.isub, 1) := by decide +kernel
theorem d_Mod_take_22 : decode b_Mod_take 22 = .ok (.putfield 274, 3) := by decide +kernel
theorem d_Mod_take_25 : decode b_Mod_take 25 = .ok (.aload_n 0, 1) := by decide +kernel
theorem d_Mod_take_26 : decode b_Mod_take 26 = .ok (.dup, 1) := by decide +kernel
theorem d_Mod_take_27 : decode b_Mod_take 27 = .ok (.getfield 280, 3) := by decide +kernel
theorem d_Mod_take_30 : decode b_Mod_take 30 = .ok (.iconst 1, 1) := by decide +kernel
theorem d_Mod_take_31 : decode b_Mod_take 31 = .ok (.iadd, 1) := by decide +kernel
theorem d_Mod_take_32 : decode b_Mod_take 32 = .ok (.putfield 280, 3) := by decide +kernel
theorem d_Mod_take_35 : decode b_Mod_take 35 = .ok (.aload_n 0, 1) := by decide +kernel
theorem d_Mod_take_36 : decode b_Mod_take 36 = .ok (.getfield 34, 3) := by decide +kernel
theorem d_Mod_take_39 : decode b_Mod_take 39 = .ok (.aload_n 0, 1) := by decide +kernel
theorem d_Mod_take_40 : decode b_Mod_take 40 = .ok (.getfield 271, 3) := by decide +kernel
theorem d_Mod_take_43 : decode b_Mod_take 43 = .ok (.baload, 1) := by decide +kernel
theorem d_Mod_take_44 : decode b_Mod_take 44 = .ok (.sipush 255, 3) := by decide +kernel
theorem d_Mod_take_47 : decode b_Mod_take 47 = .ok (.iand, 1) := by decide +kernel
theorem d_Mod_take_48 : decode b_Mod_take 48 = .ok (.istore_n 1, 1) := by decide +kernel
theorem d_Mod_take_49 : decode b_Mod_take 49 = .ok (.ldc 20, 2) := by decide +kernel
theorem d_Mod_take_51 : decode b_Mod_take 51 = .ok (.aload_n 0, 1) := by decide +kernel
theorem d_Mod_take_52 : decode b_Mod_take 52 = .ok (.getfield 271, 3) := by decide +kernel
theorem d_Mod_take_55 : decode b_Mod_take 55 = .ok (.isub, 1) := by decide +kernel
theorem d_Mod_take_56 : decode b_Mod_take 56 = .ok (.aload_n 0, 1) := by decide +kernel
theorem d_Mod_take_57 : decode b_Mod_take 57 = .ok (.getfield 283, 3) := by decide +kernel
theorem d_Mod_take_60 : decode b_Mod_take 60 = .ok (.if_icmp .gt 36, 3) := by decide +kernel
theorem d_Mod_take_63 : decode b_Mod_take 63 = .ok (.aload_n 0, 1) := by decide +kernel
theorem d_Mod_take_64 : decode b_Mod_take 64 = .ok (.dup, 1) := by decide +kernel
theorem d_Mod_take_65 : decode b_Mod_take 65 = .ok (.getfield 283, 3) := by decide +kernel
theorem d_Mod_take_68 : decode b_Mod_take 68 = .ok (.iconst 1, 1) := by decide +kernel
theorem d_Mod_take_69 : decode b_Mod_take 69 = .ok (.isub, 1) := by decide +kernel
theorem d_Mod_take_70 : decode b_Mod_take 70 = .ok (.putfield 283, 3) := by decide +kernel
theorem d_Mod_take_73 : decode b_Mod_take 73 = .ok (.aload_n 0, 1) := by decide +kernel
theorem d_Mod_take_74 : decode b_Mod_take 74 = .ok (.iload_n 1, 1) := by decide +kernel
theorem d_Mod_take_75 : decode b_Mod_take 75 = .ok (.bipush 10, 2) := by decide +kernel
theorem d_Mod_take_77 : decode b_Mod_take 77 = .ok (.if_icmp .ne 12, 3) := by decide +kernel
theorem d_Mod_take_80 : decode b_Mod_take 80 = .ok (.aload_n 0, 1) := by decide +kernel
theorem d_Mod_take_81 : decode b_Mod_take 81 = .ok (.getfield 286, 3) := by decide +kernel
theorem d_Mod_take_84 : decode b_Mod_take 84 = .ok (.iconst 1, 1) := by decide +kernel
theorem d_Mod_take_85 : decode b_Mod_take 85 = .ok (.iadd, 1) := by decide +kernel
theorem d_Mod_take_86 : decode b_Mod_take 86 = .ok (.goto 7, 3) := by decide +kernel
theorem d_Mod_take_89 : decode b_Mod_take 89 = .ok (.aload_n 0, 1) := by decide +kernel
theorem d_Mod_take_90 : decode b_Mod_take 90 = .ok (.getfield 286, 3) := by decide +kernel
theorem d_Mod_take_93 : decode b_Mod_take 93 = .ok (.putfield 286, 3) := by decide +kernel
theorem d_Mod_take_96 : decode b_Mod_take 96 = .ok (.aload_n 0, 1) := by decide +kernel
theorem d_Mod_take_97 : decode b_Mod_take 97 = .ok (.dup, 1) := by decide +kernel
theorem d_Mod_take_98 : decode b_Mod_take 98 = .ok (.getfield 271, 3) := by decide +kernel
theorem d_Mod_take_101 : decode b_Mod_take 101 = .ok (.iconst 1, 1) := by decide +kernel
theorem d_Mod_take_102 : decode b_Mod_take 102 = .ok (.iadd, 1) := by decide +kernel
theorem d_Mod_take_103 : decode b_Mod_take 103 = .ok (.putfield 271, 3) := by decide +kernel
theorem d_Mod_take_106 : decode b_Mod_take 106 = .ok (.iload_n 1, 1) := by decide +kernel
theorem d_Mod_take_107 : decode b_Mod_take 107 = .ok (.ireturn, 1) := by decide +kernel
theorem d_Mod_titleByte_0 : decode b_Mod_titleByte 0 = .ok (.aload_n 0, 1) := by decide +kernel
theorem d_Mod_titleByte_1 : decode b_Mod_titleByte 1 = .ok (.getfield 170, 3) := by decide +kernel
theorem d_Mod_titleByte_4 : decode b_Mod_titleByte 4 = .ok (.aload_n 0, 1) := by decide +kernel
theorem d_Mod_titleByte_5 : decode b_Mod_titleByte 5 = .ok (.getfield 631, 3) := by decide +kernel
theorem d_Mod_titleByte_8 : decode b_Mod_titleByte 8 = .ok (.iaload, 1) := by decide +kernel
theorem d_Mod_titleByte_9 : decode b_Mod_titleByte 9 = .ok (.ifCond .ge 31, 3) := by decide +kernel
theorem d_Mod_titleByte_12 : decode b_Mod_titleByte 12 = .ok (.aload_n 0, 1) := by decide +kernel
theorem d_Mod_titleByte_13 : decode b_Mod_titleByte 13 = .ok (.getfield 13, 3) := by decide +kernel
theorem d_Mod_titleByte_16 : decode b_Mod_titleByte 16 = .ok (.bipush 64, 2) := by decide +kernel
theorem d_Mod_titleByte_18 : decode b_Mod_titleByte 18 = .ok (.iconst (-1), 1) := by decide +kernel
theorem d_Mod_titleByte_19 : decode b_Mod_titleByte 19 = .ok (.aload_n 0, 1) := by decide +kernel
theorem d_Mod_titleByte_20 : decode b_Mod_titleByte 20 = .ok (.getfield 170, 3) := by decide +kernel
theorem d_Mod_titleByte_23 : decode b_Mod_titleByte 23 = .ok (.aload_n 0, 1) := by decide +kernel
theorem d_Mod_titleByte_24 : decode b_Mod_titleByte 24 = .ok (.getfield 631, 3) := by decide +kernel
theorem d_Mod_titleByte_27 : decode b_Mod_titleByte 27 = .ok (.iaload, 1) := by decide +kernel
theorem d_Mod_titleByte_28 : decode b_Mod_titleByte 28 = .ok (.isub, 1) := by decide +kernel
theorem d_Mod_titleByte_29 : decode b_Mod_titleByte 29 = .ok (.imul, 1) := by decide +kernel
theorem d_Mod_titleByte_30 : decode b_Mod_titleByte 30 = .ok (.iload_n 1, 1) := by decide +kernel
theorem d_Mod_titleByte_31 : decode b_Mod_titleByte 31 = .ok (.iadd, 1) := by decide +kernel
theorem d_Mod_titleByte_32 : decode b_Mod_titleByte 32 = .ok (.baload, 1) := by decide +kernel
theorem d_Mod_titleByte_33 : decode b_Mod_titleByte 33 = .ok (.sipush 255, 3) := by decide +kernel
theorem d_Mod_titleByte_36 : decode b_Mod_titleByte 36 = .ok (.iand, 1) := by decide +kernel
theorem d_Mod_titleByte_37 : decode b_Mod_titleByte 37 = .ok (.goto 23, 3) := by decide +kernel
theorem d_Mod_titleByte_40 : decode b_Mod_titleByte 40 = .ok (.aload_n 0, 1) := by decide +kernel
theorem d_Mod_titleByte_41 : decode b_Mod_titleByte 41 = .ok (.getfield 85, 3) := by decide +kernel
theorem d_Mod_titleByte_44 : decode b_Mod_titleByte 44 = .ok (.aload_n 0, 1) := by decide +kernel
theorem d_Mod_titleByte_45 : decode b_Mod_titleByte 45 = .ok (.getfield 170, 3) := by decide +kernel
theorem d_Mod_titleByte_48 : decode b_Mod_titleByte 48 = .ok (.aload_n 0, 1) := by decide +kernel
theorem d_Mod_titleByte_49 : decode b_Mod_titleByte 49 = .ok (.getfield 631, 3) := by decide +kernel
theorem d_Mod_titleByte_52 : decode b_Mod_titleByte 52 = .ok (.iaload, 1) := by decide +kernel
theorem d_Mod_titleByte_53 : decode b_Mod_titleByte 53 = .ok (.iload_n 1, 1) := by decide +kernel
theorem d_Mod_titleByte_54 : decode b_Mod_titleByte 54 = .ok (.iadd, 1) := by decide +kernel
theorem d_Mod_titleByte_55 : decode b_Mod_titleByte 55 = .ok (.baload, 1) := by decide +kernel
theorem d_Mod_titleByte_56 : decode b_Mod_titleByte 56 = .ok (.sipush 255, 3) := by decide +kernel
theorem d_Mod_titleByte_59 : decode b_Mod_titleByte 59 = .ok (.iand, 1) := by decide +kernel
theorem d_Mod_titleByte_60 : decode b_Mod_titleByte 60 = .ok (.ireturn, 1) := by decide +kernel
theorem d_Mod_top_0 : decode b_Mod_top 0 = .ok (.iconst (-1), 1) := by decide +kernel
theorem d_Mod_top_1 : decode b_Mod_top 1 = .ok (.istore 4, 2) := by decide +kernel
theorem d_Mod_top_3 : decode b_Mod_top 3 = .ok (.iconst 0, 1) := by decide +kernel
theorem d_Mod_top_4 : decode b_Mod_top 4 = .ok (.istore 5, 2) := by decide +kernel
theorem d_Mod_top_6 : decode b_Mod_top 6 = .ok (.iload 5, 2) := by decide +kernel
theorem d_Mod_top_8 : decode b_Mod_top 8 = .ok (.aload_n 0, 1) := by decide +kernel
theorem d_Mod_top_9 : decode b_Mod_top 9 = .ok (.getfield 382, 3) := by decide +kernel
theorem d_Mod_top_12 : decode b_Mod_top 12 = .ok (.if_icmp .ge 30, 3) := by decide +kernel
theorem d_Mod_top_15 : decode b_Mod_top 15 = .ok (.aload_n 0, 1) := by decide +kernel
theorem d_Mod_top_16 : decode b_Mod_top 16 = .ok (.iload 5, 2) := by decide +kernel
theorem d_Mod_top_18 : decode b_Mod_top 18 = .ok (.aload_n 1, 1) := by decide +kernel
theorem d_Mod_top_19 : decode b_Mod_top 19 = .ok (.iload_n 2, 1) := by decide +kernel
theorem d_Mod_top_20 : decode b_Mod_top 20 = .ok (.iload_n 3, 1) := by decide +kernel
theorem d_Mod_top_21 : decode b_Mod_top 21 = .ok (.invokevirtual 407, 3) := by decide +kernel
theorem d_Mod_top_24 : decode b_Mod_top 24 = .ok (.ifCond .eq 8, 3) := by decide +kernel
theorem d_Mod_top_27 : decode b_Mod_top 27 = .ok (.iload 5, 2) := by decide +kernel
theorem d_Mod_top_29 : decode b_Mod_top 29 = .ok (.goto 5, 3) := by decide +kernel
theorem d_Mod_top_32 : decode b_Mod_top 32 = .ok (.iload 4, 2) := by decide +kernel
theorem d_Mod_top_34 : decode b_Mod_top 34 = .ok (.istore 4, 2) := by decide +kernel
theorem d_Mod_top_36 : decode b_Mod_top 36 = .ok (.iinc 5 1, 3) := by decide +kernel
theorem d_Mod_top_39 : decode b_Mod_top 39 = .ok (.goto (-33), 3) := by decide +kernel
theorem d_Mod_top_42 : decode b_Mod_top 42 = .ok (.iload 4, 2) := by decide +kernel
theorem d_Mod_top_44 : decode b_Mod_top 44 = .ok (.ireturn, 1) := by decide +kernel
theorem d_Mod_undefine_0 : decode b_Mod_undefine 0 = .ok (.iload_n 1, 1) := by decide +kernel
theorem d_Mod_undefine_1 : decode b_Mod_undefine 1 = .ok (.ifCond .ge 4, 3) := by decide +kernel
theorem d_Mod_undefine_4 : decode b_Mod_undefine 4 = .ok (.return_, 1) := by decide +kernel
theorem d_Mod_undefine_5 : decode b_Mod_undefine 5 = .ok (.aload_n 0, 1) := by decide +kernel
theorem d_Mod_undefine_6 : decode b_Mod_undefine 6 = .ok (.getfield 127, 3) := by decide +kernel
theorem d_Mod_undefine_9 : decode b_Mod_undefine 9 = .ok (.iload_n 1, 1) := by decide +kernel
theorem d_Mod_undefine_10 : decode b_Mod_undefine 10 = .ok (.iconst 0, 1) := by decide +kernel
theorem d_Mod_undefine_11 : decode b_Mod_undefine 11 = .ok (.bastore, 1) := by decide +kernel
theorem d_Mod_undefine_12 : decode b_Mod_undefine 12 = .ok (.aload_n 0, 1) := by decide +kernel
theorem d_Mod_undefine_13 : decode b_Mod_undefine 13 = .ok (.getfield 154, 3) := by decide +kernel
theorem d_Mod_undefine_16 : decode b_Mod_undefine 16 = .ok (.iload_n 1, 1) := by decide +kernel
theorem d_Mod_undefine_17 : decode b_Mod_undefine 17 = .ok (.iaload, 1) := by decide +kernel
theorem d_Mod_undefine_18 : decode b_Mod_undefine 18 = .ok (.istore_n 2, 1) := by decide +kernel
theorem d_Mod_undefine_19 : decode b_Mod_undefine 19 = .ok (.aload_n 0, 1) := by decide +kernel
theorem d_Mod_undefine_20 : decode b_Mod_undefine 20 = .ok (.getfield 151, 3) := by decide +kernel
theorem d_Mod_undefine_23 : decode b_Mod_undefine 23 = .ok (.iload_n 1, 1) := by decide +kernel
theorem d_Mod_undefine_24 : decode b_Mod_undefine 24 = .ok (.iaload, 1) := by decide +kernel
theorem d_Mod_undefine_25 : decode b_Mod_undefine 25 = .ok (.istore_n 3, 1) := by decide +kernel
theorem d_Mod_undefine_26 : decode b_Mod_undefine 26 = .ok (.iload_n 3, 1) := by decide +kernel
theorem d_Mod_undefine_27 : decode b_Mod_undefine 27 = .ok (.istore 4, 2) := by decide +kernel
theorem d_Mod_undefine_29 : decode b_Mod_undefine 29 = .ok (.iload 4, 2) := by decide +kernel
theorem d_Mod_undefine_31 : decode b_Mod_undefine 31 = .ok (.iload_n 2, 1) := by decide +kernel
theorem d_Mod_undefine_32 : decode b_Mod_undefine 32 = .ok (.iadd, 1) := by decide +kernel
theorem d_Mod_undefine_33 : decode b_Mod_undefine 33 = .ok (.aload_n 0, 1) := by decide +kernel
theorem d_Mod_undefine_34 : decode b_Mod_undefine 34 = .ok (.getfield 892, 3) := by decide +kernel
theorem d_Mod_undefine_37 : decode b_Mod_undefine 37 = .ok (.if_icmp .ge 57, 3) := by decide +kernel
theorem d_Mod_undefine_40 : decode b_Mod_undefine 40 = .ok (.aload_n 0, 1) := by decide +kernel
theorem d_Mod_undefine_41 : decode b_Mod_undefine 41 = .ok (.getfield 142, 3) := by decide +kernel
theorem d_Mod_undefine_44 : decode b_Mod_undefine 44 = .ok (.iload 4, 2) := by decide +kernel
theorem d_Mod_undefine_46 : decode b_Mod_undefine 46 = .ok (.aload_n 0, 1) := by decide +kernel
theorem d_Mod_undefine_47 : decode b_Mod_undefine 47 = .ok (.getfield 142, 3) := by decide +kernel
theorem d_Mod_undefine_50 : decode b_Mod_undefine 50 = .ok (.iload 4, 2) := by decide +kernel
theorem d_Mod_undefine_52 : decode b_Mod_undefine 52 = .ok (.iload_n 2, 1) := by decide +kernel
theorem d_Mod_undefine_53 : decode b_Mod_undefine 53 = .ok (.iadd, 1) := by decide +kernel
theorem d_Mod_undefine_54 : decode b_Mod_undefine 54 = .ok (.iaload, 1) := by decide +kernel
theorem d_Mod_undefine_55 : decode b_Mod_undefine 55 = .ok (.iastore, 1) := by decide +kernel
theorem d_Mod_undefine_56 : decode b_Mod_undefine 56 = .ok (.aload_n 0, 1) := by decide +kernel
theorem d_Mod_undefine_57 : decode b_Mod_undefine 57 = .ok (.getfield 145, 3) := by decide +kernel
theorem d_Mod_undefine_60 : decode b_Mod_undefine 60 = .ok (.iload 4, 2) := by decide +kernel
theorem d_Mod_undefine_62 : decode b_Mod_undefine 62 = .ok (.aload_n 0, 1) := by decide +kernel
theorem d_Mod_undefine_63 : decode b_Mod_undefine 63 = .ok (.getfield 145, 3) := by decide +kernel
theorem d_Mod_undefine_66 : decode b_Mod_undefine 66 = .ok (.iload 4, 2) := by decide +kernel
theorem d_Mod_undefine_68 : decode b_Mod_undefine 68 = .ok (.iload_n 2, 1) := by decide +kernel
theorem d_Mod_undefine_69 : decode b_Mod_undefine 69 = .ok (.iadd, 1) := by decide +kernel
theorem d_Mod_undefine_70 : decode b_Mod_undefine 70 = .ok (.iaload, 1) := by decide +kernel
theorem d_Mod_undefine_71 : decode b_Mod_undefine 71 = .ok (.iastore, 1) := by decide +kernel
theorem d_Mod_undefine_72 : decode b_Mod_undefine 72 = .ok (.aload_n 0, 1) := by decide +kernel
theorem d_Mod_undefine_73 : decode b_Mod_undefine 73 = .ok (.getfield 148, 3) := by decide +kernel
theorem d_Mod_undefine_76 : decode b_Mod_undefine 76 = .ok (.iload 4, 2) := by decide +kernel
theorem d_Mod_undefine_78 : decode b_Mod_undefine 78 = .ok (.aload_n 0, 1) := by decide +kernel
theorem d_Mod_undefine_79 : decode b_Mod_undefine 79 = .ok (.getfield 148, 3) := by decide +kernel
theorem d_Mod_undefine_82 : decode b_Mod_undefine 82 = .ok (.iload 4, 2) := by decide +kernel
theorem d_Mod_undefine_84 : decode b_Mod_undefine 84 = .ok (.iload_n 2, 1) := by decide +kernel
theorem d_Mod_undefine_85 : decode b_Mod_undefine 85 = .ok (.iadd, 1) := by decide +kernel
theorem d_Mod_undefine_86 : decode b_Mod_undefine 86 = .ok (.baload, 1) := by decide +kernel
theorem d_Mod_undefine_87 : decode b_Mod_undefine 87 = .ok (.bastore, 1) := by decide +kernel
theorem d_Mod_undefine_88 : decode b_Mod_undefine 88 = .ok (.iinc 4 1, 3) := by decide +kernel
theorem d_Mod_undefine_91 : decode b_Mod_undefine 91 = .ok (.goto (-62), 3) := by decide +kernel
theorem d_Mod_undefine_94 : decode b_Mod_undefine 94 = .ok (.aload_n 0, 1) := by decide +kernel
theorem d_Mod_undefine_95 : decode b_Mod_undefine 95 = .ok (.aload_n 0, 1) := by decide +kernel
theorem d_Mod_undefine_96 : decode b_Mod_undefine 96 = .ok (.getfield 892, 3) := by decide +kernel
theorem d_Mod_undefine_99 : decode b_Mod_undefine 99 = .ok (.iload_n 2, 1) := by decide +kernel
theorem d_Mod_undefine_100 : decode b_Mod_undefine 100 = .ok (.isub, 1) := by decide +kernel
theorem d_Mod_undefine_101 : decode b_Mod_undefine 101 = .ok (.putfield 892, 3) := by decide +kernel
theorem d_Mod_undefine_104 : decode b_Mod_undefine 104 = .ok (.iconst 0, 1) := by decide +kernel
theorem d_Mod_undefine_105 : decode b_Mod_undefine 105 = .ok (.istore 4, 2) := by decide +kernel
theorem d_Mod_undefine_107 : decode b_Mod_undefine 107 = .ok (.iload 4, 2) := by decide +kernel
theorem d_Mod_undefine_109 : decode b_Mod_undefine 109 = .ok (.aload_n 0, 1) := by decide +kernel
theorem d_Mod_undefine_110 : decode b_Mod_undefine 110 = .ok (.getfield 613, 3) := by decide +kernel
theorem d_Mod_undefine_113 : decode b_Mod_undefine 113 = .ok (.if_icmp .ge 56, 3) := by decide +kernel
theorem d_Mod_undefine_116 : decode b_Mod_undefine 116 = .ok (.aload_n 0, 1) := by decide +kernel
theorem d_Mod_undefine_117 : decode b_Mod_undefine 117 = .ok (.getfield 151, 3) := by decide +kernel
theorem d_Mod_undefine_120 : decode b_Mod_undefine 120 = .ok (.iload 4, 2) := by decide +kernel
theorem d_Mod_undefine_122 : decode b_Mod_undefine 122 = .ok (.aload_n 0, 1) := by decide +kernel
theorem d_Mod_undefine_123 : decode b_Mod_undefine 123 = .ok (.getfield 127, 3) := by decide +kernel
theorem d_Mod_undefine_126 : decode b_Mod_undefine 126 = .ok (.iload 4, 2) := by decide +kernel
theorem d_Mod_undefine_128 : decode b_Mod_undefine 128 = .ok (.baload, 1) := by decide +kernel
theorem d_Mod_undefine_129 : decode b_Mod_undefine 129 = .ok (.ifCond .eq 26, 3) := by decide +kernel
theorem d_Mod_undefine_132 : decode b_Mod_undefine 132 = .ok (.aload_n 0, 1) := by decide +kernel
theorem d_Mod_undefine_133 : decode b_Mod_undefine 133 = .ok (.getfield 151, 3) := by decide +kernel
theorem d_Mod_undefine_136 : decode b_Mod_undefine 136 = .ok (.iload 4, 2) := by decide +kernel
theorem d_Mod_undefine_138 : decode b_Mod_undefine 138 = .ok (.iaload, 1) := by decide +kernel
theorem d_Mod_undefine_139 : decode b_Mod_undefine 139 = .ok (.iload_n 3, 1) := by decide +kernel
theorem d_Mod_undefine_140 : decode b_Mod_undefine 140 = .ok (.if_icmp .le 15, 3) := by decide +kernel
theorem d_Mod_undefine_143 : decode b_Mod_undefine 143 = .ok (.aload_n 0, 1) := by decide +kernel
theorem d_Mod_undefine_144 : decode b_Mod_undefine 144 = .ok (.getfield 151, 3) := by decide +kernel
theorem d_Mod_undefine_147 : decode b_Mod_undefine 147 = .ok (.iload 4, 2) := by decide +kernel
theorem d_Mod_undefine_149 : decode b_Mod_undefine 149 = .ok (.iaload, 1) := by decide +kernel
theorem d_Mod_undefine_150 : decode b_Mod_undefine 150 = .ok (.iload_n 2, 1) := by decide +kernel
theorem d_Mod_undefine_151 : decode b_Mod_undefine 151 = .ok (.isub, 1) := by decide +kernel
theorem d_Mod_undefine_152 : decode b_Mod_undefine 152 = .ok (.goto 10, 3) := by decide +kernel
theorem d_Mod_undefine_155 : decode b_Mod_undefine 155 = .ok (.aload_n 0, 1) := by decide +kernel
theorem d_Mod_undefine_156 : decode b_Mod_undefine 156 = .ok (.getfield 151, 3) := by decide +kernel
theorem d_Mod_undefine_159 : decode b_Mod_undefine 159 = .ok (.iload 4, 2) := by decide +kernel
theorem d_Mod_undefine_161 : decode b_Mod_undefine 161 = .ok (.iaload, 1) := by decide +kernel
theorem d_Mod_undefine_162 : decode b_Mod_undefine 162 = .ok (.iastore, 1) := by decide +kernel
theorem d_Mod_undefine_163 : decode b_Mod_undefine 163 = .ok (.iinc 4 1, 3) := by decide +kernel
theorem d_Mod_undefine_166 : decode b_Mod_undefine 166 = .ok (.goto (-59), 3) := by decide +kernel
theorem d_Mod_undefine_169 : decode b_Mod_undefine 169 = .ok (.return_, 1) := by decide +kernel
theorem d_Mod_undivert_0 : decode b_Mod_undivert 0 = .ok (.iload_n 1, 1) := by decide +kernel
theorem d_Mod_undivert_1 : decode b_Mod_undivert 1 = .ok (.iconst 1, 1) := by decide +kernel
theorem d_Mod_undivert_2 : decode b_Mod_undivert 2 = .ok (.if_icmp .lt 17, 3) := by decide +kernel
theorem d_Mod_undivert_5 : decode b_Mod_undivert 5 = .ok (.iload_n 1, 1) := by decide +kernel
theorem d_Mod_undivert_6 : decode b_Mod_undivert 6 = .ok (.bipush 9, 2) := by decide +kernel
theorem d_Mod_undivert_8 : decode b_Mod_undivert 8 = .ok (.if_icmp .gt 11, 3) := by decide +kernel
theorem d_Mod_undivert_11 : decode b_Mod_undivert 11 = .ok (.iload_n 1, 1) := by decide +kernel
theorem d_Mod_undivert_12 : decode b_Mod_undivert 12 = .ok (.aload_n 0, 1) := by decide +kernel
theorem d_Mod_undivert_13 : decode b_Mod_undivert 13 = .ok (.getfield 413, 3) := by decide +kernel
theorem d_Mod_undivert_16 : decode b_Mod_undivert 16 = .ok (.if_icmp .ne 4, 3) := by decide +kernel
theorem d_Mod_undivert_19 : decode b_Mod_undivert 19 = .ok (.return_, 1) := by decide +kernel
theorem d_Mod_undivert_20 : decode b_Mod_undivert 20 = .ok (.aload_n 0, 1) := by decide +kernel
theorem d_Mod_undivert_21 : decode b_Mod_undivert 21 = .ok (.getfield 69, 3) := by decide +kernel
theorem d_Mod_undivert_24 : decode b_Mod_undivert 24 = .ok (.iload_n 1, 1) := by decide +kernel
theorem d_Mod_undivert_25 : decode b_Mod_undivert 25 = .ok (.iaload, 1) := by decide +kernel
theorem d_Mod_undivert_26 : decode b_Mod_undivert 26 = .ok (.istore_n 2, 1) := by decide +kernel
theorem d_Mod_undivert_27 : decode b_Mod_undivert 27 = .ok (.aload_n 0, 1) := by decide +kernel
theorem d_Mod_undivert_28 : decode b_Mod_undivert 28 = .ok (.getfield 69, 3) := by decide +kernel
theorem d_Mod_undivert_31 : decode b_Mod_undivert 31 = .ok (.iload_n 1, 1) := by decide +kernel
theorem d_Mod_undivert_32 : decode b_Mod_undivert 32 = .ok (.iconst 0, 1) := by decide +kernel
theorem d_Mod_undivert_33 : decode b_Mod_undivert 33 = .ok (.iastore, 1) := by decide +kernel
theorem d_Mod_undivert_34 : decode b_Mod_undivert 34 = .ok (.aload_n 0, 1) := by decide +kernel
theorem d_Mod_undivert_35 : decode b_Mod_undivert 35 = .ok (.aload_n 0, 1) := by decide +kernel
theorem d_Mod_undivert_36 : decode b_Mod_undivert 36 = .ok (.getfield 410, 3) := by decide +kernel
theorem d_Mod_undivert_39 : decode b_Mod_undivert 39 = .ok (.iload_n 2, 1) := by decide +kernel
theorem d_Mod_undivert_40 : decode b_Mod_undivert 40 = .ok (.isub, 1) := by decide +kernel
theorem d_Mod_undivert_41 : decode b_Mod_undivert 41 = .ok (.putfield 410, 3) := by decide +kernel
theorem d_Mod_undivert_44 : decode b_Mod_undivert 44 = .ok (.iconst 0, 1) := by decide +kernel
theorem d_Mod_undivert_45 : decode b_Mod_undivert 45 = .ok (.istore_n 3, 1) := by decide +kernel
theorem d_Mod_undivert_46 : decode b_Mod_undivert 46 = .ok (.iload_n 3, 1) := by decide +kernel
theorem d_Mod_undivert_47 : decode b_Mod_undivert 47 = .ok (.iload_n 2, 1) := by decide +kernel
theorem d_Mod_undivert_48 : decode b_Mod_undivert 48 = .ok (.if_icmp .ge 28, 3) := by decide +kernel
theorem d_Mod_undivert_51 : decode b_Mod_undivert 51 = .ok (.aload_n 0, 1) := by decide +kernel
theorem d_Mod_undivert_52 : decode b_Mod_undivert 52 = .ok (.aload_n 0, 1) := by decide +kernel
theorem d_Mod_undivert_53 : decode b_Mod_undivert 53 = .ok (.getfield 413, 3) := by decide +kernel
theorem d_Mod_undivert_56 : decode b_Mod_undivert 56 = .ok (.aload_n 0, 1) := by decide +kernel
theorem d_Mod_undivert_57 : decode b_Mod_undivert 57 = .ok (.getfield 66, 3) := by decide +kernel
theorem d_Mod_undivert_60 : decode b_Mod_undivert 60 = .ok (.ldc 20, 2) := by decide +kernel
theorem d_Mod_undivert_62 : decode b_Mod_undivert 62 = .ok (.iload_n 1, 1) := by decide +kernel
theorem d_Mod_undivert_63 : decode b_Mod_undivert 63 = .ok (.imul, 1) := by decide +kernel
theorem d_Mod_undivert_64 : decode b_Mod_undivert 64 = .ok (.iload_n 3, 1) := by decide +kernel
theorem d_Mod_undivert_65 : decode b_Mod_undivert 65 = .ok (.iadd, 1) := by decide +kernel
theorem d_Mod_undivert_66 : decode b_Mod_undivert 66 = .ok (.baload, 1) := by decide +kernel
theorem d_Mod_undivert_67 : decode b_Mod_undivert 67 = .ok (.invokevirtual 416, 3) := by decide +kernel
theorem d_Mod_undivert_70 : decode b_Mod_undivert 70 = .ok (.iinc 3 1, 3) := by decide +kernel
theorem d_Mod_undivert_73 : decode b_Mod_undivert 73 = .ok (.goto (-27), 3) := by decide +kernel
theorem d_Mod_undivert_76 : decode b_Mod_undivert 76 = .ok (.return_, 1) := by decide +kernel
theorem d_Mod_want_0 : decode b_Mod_want 0 = .ok (.aload_n 0, 1) := by decide +kernel
theorem d_Mod_want_1 : decode b_Mod_want 1 = .ok (.getfield 901, 3) := by decide +kernel
theorem d_Mod_want_4 : decode b_Mod_want 4 = .ok (.bipush 65, 2) := by decide +kernel
theorem d_Mod_want_6 : decode b_Mod_want 6 = .ok (.if_icmp .ge 24, 3) := by decide +kernel
theorem d_Mod_want_9 : decode b_Mod_want 9 = .ok (.aload_n 0, 1) := by decide +kernel
theorem d_Mod_want_10 : decode b_Mod_want 10 = .ok (.getfield 221, 3) := by decide +kernel
theorem d_Mod_want_13 : decode b_Mod_want 13 = .ok (.aload_n 0, 1) := by decide +kernel
theorem d_Mod_want_14 : decode b_Mod_want 14 = .ok (.getfield 901, 3) := by decide +kernel
theorem d_Mod_want_17 : decode b_Mod_want 17 = .ok (.iload_n 1, 1) := by decide +kernel
theorem d_Mod_want_18 : decode b_Mod_want 18 = .ok (.i2b, 1) := by decide +kernel
theorem d_Mod_want_19 : decode b_Mod_want 19 = .ok (.bastore, 1) := by decide +kernel
theorem d_Mod_want_20 : decode b_Mod_want 20 = .ok (.aload_n 0, 1) := by decide +kernel
theorem d_Mod_want_21 : decode b_Mod_want 21 = .ok (.dup, 1) := by decide +kernel
theorem d_Mod_want_22 : decode b_Mod_want 22 = .ok (.getfield 901, 3) := by decide +kernel
theorem d_Mod_want_25 : decode b_Mod_want 25 = .ok (.iconst 1, 1) := by decide +kernel
theorem d_Mod_want_26 : decode b_Mod_want 26 = .ok (.iadd, 1) := by decide +kernel
theorem d_Mod_want_27 : decode b_Mod_want 27 = .ok (.putfield 901, 3) := by decide +kernel
theorem d_Mod_want_30 : decode b_Mod_want 30 = .ok (.return_, 1) := by decide +kernel
