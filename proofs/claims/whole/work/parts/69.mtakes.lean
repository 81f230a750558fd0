/-! the model: an E, by what waits -/
/-- the word or sign; code, parts, what waits; tested; parens; nots; wants -/
abbrev Es : Type := Gt × (List Int32 × Nat × List Int32) × (Nat → Int32) × Nat × Nat × Bool
def esR (b : Nat → Int32) (len key : Nat) : Nat → Es → Bool × Es
  | 0, s => (false, s)
  | f + 1, (G, (C, t, W), td, pa, no, wa) =>
    if wa = false ∧ G.2.2.1 = 0 then (decide (pa = 0), (G, ((setF 0 C W).1, t, (setF 0 C W).2), td, pa, no, wa))
    else if wa = true then
      (if G.2.2.1 = 3 ∧ G.2.2.2.1 = 33 ∧ no < 8 then esR b len key f (goS b len G, (C, t, -10 :: W), td, pa, cntN (-10 :: W), true)
      else if G.2.2.1 = 3 ∧ G.2.2.2.1 = 40 ∧ pa < 8 then esR b len key f (goS b len G, (C, t, -11 :: W), upd td (pa + 1) 0, pa + 1, cntN (-11 :: W), true)
      else if tpB key G = true then esR b len key f (goS b len G, ((setF 6 (C ++ [tpV key G]) W).1, t + 1, (setF 6 (C ++ [tpV key G]) W).2), td, pa, cntN (setF 6 (C ++ [tpV key G]) W).2, false)
      else (false, (G, (C, t, W), td, pa, no, wa)))
    else if G.2.2.1 = 3 ∧ G.2.2.2.1 = 41 ∧ 0 < pa then esR b len key f (goS b len G, ((setF 6 (setF 0 C W).1 (setF 0 C W).2.tail).1, t, (setF 6 (setF 0 C W).1 (setF 0 C W).2.tail).2), td, pa - 1, cntN (setF 6 (setF 0 C W).1 (setF 0 C W).2.tail).2, false)
    else if sgM (nI G.2.2.1) G.2.2.2.1 = 0 ∨ (rkM (sgM (nI G.2.2.1) G.2.2.2.1) = 3 ∧ ¬ td pa = 0) then (false, (G, (C, t, W), td, pa, no, wa))
    else esR b len key f (goS b len G, ((setF (rkM (sgM (nI G.2.2.1) G.2.2.2.1)) C W).1, t, sgM (nI G.2.2.1) G.2.2.2.1 :: (setF (rkM (sgM (nI G.2.2.1) G.2.2.2.1)) C W).2), upd td pa (if rkM (sgM (nI G.2.2.1) G.2.2.2.1) = 3 ∨ (3 < rkM (sgM (nI G.2.2.1) G.2.2.2.1) ∧ ¬ td pa = 0) then 1 else 0), pa, no, true)
def cntO : List Int32 → Nat
  | [] => 0
  | w :: W => (if w = -11 then 1 else 0) + cntO W
theorem setF_o (least : Int32) : ∀ C W, cntO (setF least C W).2 = cntO W
  | C, [] => rfl
  | C, w :: W => by
    simp only [setF]
    split
    · rfl
    · rename_i h
      rw [setF_o least (C ++ [w]) W]
      simp only [cntO]
      rw [if_neg (fun g => h (Or.inl g))]; omega
theorem setF_ne {C W : List Int32} {least : Int32} (h : 0 < cntO W) : ∃ w V, (setF least C W).2 = w :: V := by
  have g := setF_o least C W
  cases hv : (setF least C W).2 with
  | nil => rw [hv] at g; simp only [cntO] at g; omega
  | cons w V => exact ⟨w, V, rfl⟩
theorem setF0_top : ∀ C W w V, (setF 0 C W).2 = w :: V → w = -11
  | C, [], w, V, h => by simp [setF] at h
  | C, x :: W, w, V, h => by
    simp only [setF] at h
    split at h
    · rename_i g
      have e : x = w := by simp at h; exact h.1
      rw [← e]
      rcases g with g | g
      · exact g
      · exfalso
        have : ∀ s : Int32, ¬ rkM s < 0 := by
          intro s
          unfold rkM
          repeat' split
          all_goals decide
        exact this x g
    · exact setF0_top _ W w V h
theorem cnt_le : ∀ W, cntN W ≤ W.length
  | [] => Nat.le_refl _
  | w :: W => by
    have := cnt_le W
    simp only [cntN, List.length_cons]
    split <;> omega
theorem dX7_takesE_0 : decode fX7_takesE.2.1 0 = .ok (.iconst 0, 1) := by decide +kernel
theorem dX7_takesE_1 : decode fX7_takesE.2.1 1 = .ok (.istore_n 1, 1) := by decide +kernel
theorem dX7_takesE_2 : decode fX7_takesE.2.1 2 = .ok (.iconst 0, 1) := by decide +kernel
theorem dX7_takesE_3 : decode fX7_takesE.2.1 3 = .ok (.istore_n 2, 1) := by decide +kernel
theorem dX7_takesE_4 : decode fX7_takesE.2.1 4 = .ok (.iconst 1, 1) := by decide +kernel
theorem dX7_takesE_5 : decode fX7_takesE.2.1 5 = .ok (.istore_n 3, 1) := by decide +kernel
theorem dX7_takesE_6 : decode fX7_takesE.2.1 6 = .ok (.aload_n 0, 1) := by decide +kernel
theorem dX7_takesE_7 : decode fX7_takesE.2.1 7 = .ok (.iconst 0, 1) := by decide +kernel
theorem dX7_takesE_8 : decode fX7_takesE.2.1 8 = .ok (.putfield 231, 3) := by decide +kernel
theorem dX7_takesE_11 : decode fX7_takesE.2.1 11 = .ok (.aload_n 0, 1) := by decide +kernel
theorem dX7_takesE_12 : decode fX7_takesE.2.1 12 = .ok (.iconst 0, 1) := by decide +kernel
theorem dX7_takesE_13 : decode fX7_takesE.2.1 13 = .ok (.putfield 237, 3) := by decide +kernel
theorem dX7_takesE_16 : decode fX7_takesE.2.1 16 = .ok (.aload_n 0, 1) := by decide +kernel
theorem dX7_takesE_17 : decode fX7_takesE.2.1 17 = .ok (.iconst 0, 1) := by decide +kernel
theorem dX7_takesE_18 : decode fX7_takesE.2.1 18 = .ok (.putfield 225, 3) := by decide +kernel
theorem dX7_takesE_21 : decode fX7_takesE.2.1 21 = .ok (.aload_n 0, 1) := by decide +kernel
theorem dX7_takesE_22 : decode fX7_takesE.2.1 22 = .ok (.getfield 41, 3) := by decide +kernel
theorem dX7_takesE_25 : decode fX7_takesE.2.1 25 = .ok (.iconst 0, 1) := by decide +kernel
theorem dX7_takesE_26 : decode fX7_takesE.2.1 26 = .ok (.iconst 0, 1) := by decide +kernel
theorem dX7_takesE_27 : decode fX7_takesE.2.1 27 = .ok (.bastore, 1) := by decide +kernel
theorem dX7_takesE_28 : decode fX7_takesE.2.1 28 = .ok (.iload_n 3, 1) := by decide +kernel
theorem dX7_takesE_29 : decode fX7_takesE.2.1 29 = .ok (.ifCond .ne 10, 3) := by decide +kernel
theorem dX7_takesE_32 : decode fX7_takesE.2.1 32 = .ok (.aload_n 0, 1) := by decide +kernel
theorem dX7_takesE_33 : decode fX7_takesE.2.1 33 = .ok (.getfield 207, 3) := by decide +kernel
theorem dX7_takesE_36 : decode fX7_takesE.2.1 36 = .ok (.ifCond .eq 309, 3) := by decide +kernel
theorem dX7_takesE_39 : decode fX7_takesE.2.1 39 = .ok (.iload_n 3, 1) := by decide +kernel
theorem dX7_takesE_40 : decode fX7_takesE.2.1 40 = .ok (.ifCond .eq 140, 3) := by decide +kernel
theorem dX7_takesE_43 : decode fX7_takesE.2.1 43 = .ok (.aload_n 0, 1) := by decide +kernel
theorem dX7_takesE_44 : decode fX7_takesE.2.1 44 = .ok (.getfield 207, 3) := by decide +kernel
theorem dX7_takesE_47 : decode fX7_takesE.2.1 47 = .ok (.iconst 3, 1) := by decide +kernel
theorem dX7_takesE_48 : decode fX7_takesE.2.1 48 = .ok (.if_icmp .ne 49, 3) := by decide +kernel
theorem dX7_takesE_51 : decode fX7_takesE.2.1 51 = .ok (.aload_n 0, 1) := by decide +kernel
theorem dX7_takesE_52 : decode fX7_takesE.2.1 52 = .ok (.getfield 213, 3) := by decide +kernel
theorem dX7_takesE_55 : decode fX7_takesE.2.1 55 = .ok (.bipush 33, 2) := by decide +kernel
theorem dX7_takesE_57 : decode fX7_takesE.2.1 57 = .ok (.if_icmp .ne 40, 3) := by decide +kernel
theorem dX7_takesE_60 : decode fX7_takesE.2.1 60 = .ok (.iload_n 2, 1) := by decide +kernel
theorem dX7_takesE_61 : decode fX7_takesE.2.1 61 = .ok (.bipush 8, 2) := by decide +kernel
theorem dX7_takesE_63 : decode fX7_takesE.2.1 63 = .ok (.if_icmp .ge 34, 3) := by decide +kernel
theorem dX7_takesE_66 : decode fX7_takesE.2.1 66 = .ok (.aload_n 0, 1) := by decide +kernel
theorem dX7_takesE_67 : decode fX7_takesE.2.1 67 = .ok (.getfield 38, 3) := by decide +kernel
theorem dX7_takesE_70 : decode fX7_takesE.2.1 70 = .ok (.aload_n 0, 1) := by decide +kernel
theorem dX7_takesE_71 : decode fX7_takesE.2.1 71 = .ok (.getfield 225, 3) := by decide +kernel
theorem dX7_takesE_74 : decode fX7_takesE.2.1 74 = .ok (.bipush (-10), 2) := by decide +kernel
theorem dX7_takesE_76 : decode fX7_takesE.2.1 76 = .ok (.iastore, 1) := by decide +kernel
theorem dX7_takesE_77 : decode fX7_takesE.2.1 77 = .ok (.aload_n 0, 1) := by decide +kernel
theorem dX7_takesE_78 : decode fX7_takesE.2.1 78 = .ok (.dup, 1) := by decide +kernel
theorem dX7_takesE_79 : decode fX7_takesE.2.1 79 = .ok (.getfield 225, 3) := by decide +kernel
theorem dX7_takesE_82 : decode fX7_takesE.2.1 82 = .ok (.iconst 1, 1) := by decide +kernel
theorem dX7_takesE_83 : decode fX7_takesE.2.1 83 = .ok (.iadd, 1) := by decide +kernel
theorem dX7_takesE_84 : decode fX7_takesE.2.1 84 = .ok (.putfield 225, 3) := by decide +kernel
theorem dX7_takesE_87 : decode fX7_takesE.2.1 87 = .ok (.iinc 2 1, 3) := by decide +kernel
theorem dX7_takesE_90 : decode fX7_takesE.2.1 90 = .ok (.aload_n 0, 1) := by decide +kernel
theorem dX7_takesE_91 : decode fX7_takesE.2.1 91 = .ok (.invokevirtual 222, 3) := by decide +kernel
theorem dX7_takesE_94 : decode fX7_takesE.2.1 94 = .ok (.goto 78, 3) := by decide +kernel
theorem dX7_takesE_97 : decode fX7_takesE.2.1 97 = .ok (.aload_n 0, 1) := by decide +kernel
theorem dX7_takesE_98 : decode fX7_takesE.2.1 98 = .ok (.getfield 207, 3) := by decide +kernel
theorem dX7_takesE_101 : decode fX7_takesE.2.1 101 = .ok (.iconst 3, 1) := by decide +kernel
theorem dX7_takesE_102 : decode fX7_takesE.2.1 102 = .ok (.if_icmp .ne 56, 3) := by decide +kernel
theorem dX7_takesE_105 : decode fX7_takesE.2.1 105 = .ok (.aload_n 0, 1) := by decide +kernel
theorem dX7_takesE_106 : decode fX7_takesE.2.1 106 = .ok (.getfield 213, 3) := by decide +kernel
theorem dX7_takesE_109 : decode fX7_takesE.2.1 109 = .ok (.bipush 40, 2) := by decide +kernel
theorem dX7_takesE_111 : decode fX7_takesE.2.1 111 = .ok (.if_icmp .ne 47, 3) := by decide +kernel
theorem dX7_takesE_114 : decode fX7_takesE.2.1 114 = .ok (.iload_n 1, 1) := by decide +kernel
theorem dX7_takesE_115 : decode fX7_takesE.2.1 115 = .ok (.bipush 8, 2) := by decide +kernel
theorem dX7_takesE_117 : decode fX7_takesE.2.1 117 = .ok (.if_icmp .ge 41, 3) := by decide +kernel
theorem dX7_takesE_120 : decode fX7_takesE.2.1 120 = .ok (.aload_n 0, 1) := by decide +kernel
theorem dX7_takesE_121 : decode fX7_takesE.2.1 121 = .ok (.getfield 38, 3) := by decide +kernel
theorem dX7_takesE_124 : decode fX7_takesE.2.1 124 = .ok (.aload_n 0, 1) := by decide +kernel
theorem dX7_takesE_125 : decode fX7_takesE.2.1 125 = .ok (.getfield 225, 3) := by decide +kernel
theorem dX7_takesE_128 : decode fX7_takesE.2.1 128 = .ok (.bipush (-11), 2) := by decide +kernel
theorem dX7_takesE_130 : decode fX7_takesE.2.1 130 = .ok (.iastore, 1) := by decide +kernel
theorem dX7_takesE_131 : decode fX7_takesE.2.1 131 = .ok (.aload_n 0, 1) := by decide +kernel
theorem dX7_takesE_132 : decode fX7_takesE.2.1 132 = .ok (.dup, 1) := by decide +kernel
theorem dX7_takesE_133 : decode fX7_takesE.2.1 133 = .ok (.getfield 225, 3) := by decide +kernel
theorem dX7_takesE_136 : decode fX7_takesE.2.1 136 = .ok (.iconst 1, 1) := by decide +kernel
theorem dX7_takesE_137 : decode fX7_takesE.2.1 137 = .ok (.iadd, 1) := by decide +kernel
theorem dX7_takesE_138 : decode fX7_takesE.2.1 138 = .ok (.putfield 225, 3) := by decide +kernel
theorem dX7_takesE_141 : decode fX7_takesE.2.1 141 = .ok (.iinc 1 1, 3) := by decide +kernel
theorem dX7_takesE_144 : decode fX7_takesE.2.1 144 = .ok (.aload_n 0, 1) := by decide +kernel
theorem dX7_takesE_145 : decode fX7_takesE.2.1 145 = .ok (.getfield 41, 3) := by decide +kernel
theorem dX7_takesE_148 : decode fX7_takesE.2.1 148 = .ok (.iload_n 1, 1) := by decide +kernel
theorem dX7_takesE_149 : decode fX7_takesE.2.1 149 = .ok (.iconst 0, 1) := by decide +kernel
theorem dX7_takesE_150 : decode fX7_takesE.2.1 150 = .ok (.bastore, 1) := by decide +kernel
theorem dX7_takesE_151 : decode fX7_takesE.2.1 151 = .ok (.aload_n 0, 1) := by decide +kernel
theorem dX7_takesE_152 : decode fX7_takesE.2.1 152 = .ok (.invokevirtual 222, 3) := by decide +kernel
theorem dX7_takesE_155 : decode fX7_takesE.2.1 155 = .ok (.goto 17, 3) := by decide +kernel
theorem dX7_takesE_158 : decode fX7_takesE.2.1 158 = .ok (.aload_n 0, 1) := by decide +kernel
theorem dX7_takesE_159 : decode fX7_takesE.2.1 159 = .ok (.invokevirtual 243, 3) := by decide +kernel
theorem dX7_takesE_162 : decode fX7_takesE.2.1 162 = .ok (.ifCond .eq 8, 3) := by decide +kernel
theorem dX7_takesE_165 : decode fX7_takesE.2.1 165 = .ok (.iconst 0, 1) := by decide +kernel
theorem dX7_takesE_166 : decode fX7_takesE.2.1 166 = .ok (.istore_n 3, 1) := by decide +kernel
theorem dX7_takesE_167 : decode fX7_takesE.2.1 167 = .ok (.goto 5, 3) := by decide +kernel
theorem dX7_takesE_170 : decode fX7_takesE.2.1 170 = .ok (.iconst 0, 1) := by decide +kernel
theorem dX7_takesE_171 : decode fX7_takesE.2.1 171 = .ok (.ireturn, 1) := by decide +kernel
theorem dX7_takesE_172 : decode fX7_takesE.2.1 172 = .ok (.aload_n 0, 1) := by decide +kernel
theorem dX7_takesE_173 : decode fX7_takesE.2.1 173 = .ok (.invokevirtual 247, 3) := by decide +kernel
theorem dX7_takesE_176 : decode fX7_takesE.2.1 176 = .ok (.istore_n 2, 1) := by decide +kernel
theorem dX7_takesE_177 : decode fX7_takesE.2.1 177 = .ok (.goto (-149), 3) := by decide +kernel
theorem dX7_takesE_180 : decode fX7_takesE.2.1 180 = .ok (.aload_n 0, 1) := by decide +kernel
theorem dX7_takesE_181 : decode fX7_takesE.2.1 181 = .ok (.getfield 207, 3) := by decide +kernel
theorem dX7_takesE_184 : decode fX7_takesE.2.1 184 = .ok (.iconst 3, 1) := by decide +kernel
theorem dX7_takesE_185 : decode fX7_takesE.2.1 185 = .ok (.if_icmp .ne 52, 3) := by decide +kernel
theorem dX7_takesE_188 : decode fX7_takesE.2.1 188 = .ok (.aload_n 0, 1) := by decide +kernel
theorem dX7_takesE_189 : decode fX7_takesE.2.1 189 = .ok (.getfield 213, 3) := by decide +kernel
theorem dX7_takesE_192 : decode fX7_takesE.2.1 192 = .ok (.bipush 41, 2) := by decide +kernel
theorem dX7_takesE_194 : decode fX7_takesE.2.1 194 = .ok (.if_icmp .ne 43, 3) := by decide +kernel
theorem dX7_takesE_197 : decode fX7_takesE.2.1 197 = .ok (.iload_n 1, 1) := by decide +kernel
theorem dX7_takesE_198 : decode fX7_takesE.2.1 198 = .ok (.ifCond .le 39, 3) := by decide +kernel
theorem dX7_takesE_201 : decode fX7_takesE.2.1 201 = .ok (.aload_n 0, 1) := by decide +kernel
theorem dX7_takesE_202 : decode fX7_takesE.2.1 202 = .ok (.iconst 0, 1) := by decide +kernel
theorem dX7_takesE_203 : decode fX7_takesE.2.1 203 = .ok (.invokevirtual 240, 3) := by decide +kernel
theorem dX7_takesE_206 : decode fX7_takesE.2.1 206 = .ok (.aload_n 0, 1) := by decide +kernel
theorem dX7_takesE_207 : decode fX7_takesE.2.1 207 = .ok (.dup, 1) := by decide +kernel
theorem dX7_takesE_208 : decode fX7_takesE.2.1 208 = .ok (.getfield 225, 3) := by decide +kernel
theorem dX7_takesE_211 : decode fX7_takesE.2.1 211 = .ok (.iconst 1, 1) := by decide +kernel
theorem dX7_takesE_212 : decode fX7_takesE.2.1 212 = .ok (.isub, 1) := by decide +kernel
theorem dX7_takesE_213 : decode fX7_takesE.2.1 213 = .ok (.putfield 225, 3) := by decide +kernel
theorem dX7_takesE_216 : decode fX7_takesE.2.1 216 = .ok (.iinc 1 (-1), 3) := by decide +kernel
theorem dX7_takesE_219 : decode fX7_takesE.2.1 219 = .ok (.aload_n 0, 1) := by decide +kernel
theorem dX7_takesE_220 : decode fX7_takesE.2.1 220 = .ok (.bipush 6, 2) := by decide +kernel
theorem dX7_takesE_222 : decode fX7_takesE.2.1 222 = .ok (.invokevirtual 240, 3) := by decide +kernel
theorem dX7_takesE_225 : decode fX7_takesE.2.1 225 = .ok (.aload_n 0, 1) := by decide +kernel
theorem dX7_takesE_226 : decode fX7_takesE.2.1 226 = .ok (.invokevirtual 247, 3) := by decide +kernel
theorem dX7_takesE_229 : decode fX7_takesE.2.1 229 = .ok (.istore_n 2, 1) := by decide +kernel
theorem dX7_takesE_230 : decode fX7_takesE.2.1 230 = .ok (.aload_n 0, 1) := by decide +kernel
theorem dX7_takesE_231 : decode fX7_takesE.2.1 231 = .ok (.invokevirtual 222, 3) := by decide +kernel
theorem dX7_takesE_234 : decode fX7_takesE.2.1 234 = .ok (.goto (-206), 3) := by decide +kernel
theorem dX7_takesE_237 : decode fX7_takesE.2.1 237 = .ok (.aload_n 0, 1) := by decide +kernel
theorem dX7_takesE_238 : decode fX7_takesE.2.1 238 = .ok (.invokevirtual 250, 3) := by decide +kernel
theorem dX7_takesE_241 : decode fX7_takesE.2.1 241 = .ok (.istore 4, 2) := by decide +kernel
theorem dX7_takesE_243 : decode fX7_takesE.2.1 243 = .ok (.iload 4, 2) := by decide +kernel
theorem dX7_takesE_245 : decode fX7_takesE.2.1 245 = .ok (.ifCond .eq 21, 3) := by decide +kernel
theorem dX7_takesE_248 : decode fX7_takesE.2.1 248 = .ok (.iload 4, 2) := by decide +kernel
theorem dX7_takesE_250 : decode fX7_takesE.2.1 250 = .ok (.invokestatic 228, 3) := by decide +kernel
theorem dX7_takesE_253 : decode fX7_takesE.2.1 253 = .ok (.iconst 3, 1) := by decide +kernel
theorem dX7_takesE_254 : decode fX7_takesE.2.1 254 = .ok (.if_icmp .ne 14, 3) := by decide +kernel
theorem dX7_takesE_257 : decode fX7_takesE.2.1 257 = .ok (.aload_n 0, 1) := by decide +kernel
theorem dX7_takesE_258 : decode fX7_takesE.2.1 258 = .ok (.getfield 41, 3) := by decide +kernel
theorem dX7_takesE_261 : decode fX7_takesE.2.1 261 = .ok (.iload_n 1, 1) := by decide +kernel
theorem dX7_takesE_262 : decode fX7_takesE.2.1 262 = .ok (.baload, 1) := by decide +kernel
theorem dX7_takesE_263 : decode fX7_takesE.2.1 263 = .ok (.ifCond .eq 5, 3) := by decide +kernel
theorem dX7_takesE_266 : decode fX7_takesE.2.1 266 = .ok (.iconst 0, 1) := by decide +kernel
theorem dX7_takesE_267 : decode fX7_takesE.2.1 267 = .ok (.ireturn, 1) := by decide +kernel
theorem dX7_takesE_268 : decode fX7_takesE.2.1 268 = .ok (.aload_n 0, 1) := by decide +kernel
theorem dX7_takesE_269 : decode fX7_takesE.2.1 269 = .ok (.getfield 41, 3) := by decide +kernel
theorem dX7_takesE_272 : decode fX7_takesE.2.1 272 = .ok (.iload_n 1, 1) := by decide +kernel
theorem dX7_takesE_273 : decode fX7_takesE.2.1 273 = .ok (.iload 4, 2) := by decide +kernel
theorem dX7_takesE_275 : decode fX7_takesE.2.1 275 = .ok (.invokestatic 228, 3) := by decide +kernel
theorem dX7_takesE_278 : decode fX7_takesE.2.1 278 = .ok (.iconst 3, 1) := by decide +kernel
theorem dX7_takesE_279 : decode fX7_takesE.2.1 279 = .ok (.if_icmp .eq 21, 3) := by decide +kernel
theorem dX7_takesE_282 : decode fX7_takesE.2.1 282 = .ok (.iload 4, 2) := by decide +kernel
theorem dX7_takesE_284 : decode fX7_takesE.2.1 284 = .ok (.invokestatic 228, 3) := by decide +kernel
theorem dX7_takesE_287 : decode fX7_takesE.2.1 287 = .ok (.iconst 3, 1) := by decide +kernel
theorem dX7_takesE_288 : decode fX7_takesE.2.1 288 = .ok (.if_icmp .le 16, 3) := by decide +kernel
theorem dX7_takesE_291 : decode fX7_takesE.2.1 291 = .ok (.aload_n 0, 1) := by decide +kernel
theorem dX7_takesE_292 : decode fX7_takesE.2.1 292 = .ok (.getfield 41, 3) := by decide +kernel
theorem dX7_takesE_295 : decode fX7_takesE.2.1 295 = .ok (.iload_n 1, 1) := by decide +kernel
theorem dX7_takesE_296 : decode fX7_takesE.2.1 296 = .ok (.baload, 1) := by decide +kernel
theorem dX7_takesE_297 : decode fX7_takesE.2.1 297 = .ok (.ifCond .eq 7, 3) := by decide +kernel
theorem dX7_takesE_300 : decode fX7_takesE.2.1 300 = .ok (.iconst 1, 1) := by decide +kernel
theorem dX7_takesE_301 : decode fX7_takesE.2.1 301 = .ok (.goto 4, 3) := by decide +kernel
theorem dX7_takesE_304 : decode fX7_takesE.2.1 304 = .ok (.iconst 0, 1) := by decide +kernel
theorem dX7_takesE_305 : decode fX7_takesE.2.1 305 = .ok (.bastore, 1) := by decide +kernel
theorem dX7_takesE_306 : decode fX7_takesE.2.1 306 = .ok (.aload_n 0, 1) := by decide +kernel
theorem dX7_takesE_307 : decode fX7_takesE.2.1 307 = .ok (.iload 4, 2) := by decide +kernel
theorem dX7_takesE_309 : decode fX7_takesE.2.1 309 = .ok (.invokestatic 228, 3) := by decide +kernel
theorem dX7_takesE_312 : decode fX7_takesE.2.1 312 = .ok (.invokevirtual 240, 3) := by decide +kernel
theorem dX7_takesE_315 : decode fX7_takesE.2.1 315 = .ok (.aload_n 0, 1) := by decide +kernel
theorem dX7_takesE_316 : decode fX7_takesE.2.1 316 = .ok (.getfield 38, 3) := by decide +kernel
theorem dX7_takesE_319 : decode fX7_takesE.2.1 319 = .ok (.aload_n 0, 1) := by decide +kernel
theorem dX7_takesE_320 : decode fX7_takesE.2.1 320 = .ok (.getfield 225, 3) := by decide +kernel
theorem dX7_takesE_323 : decode fX7_takesE.2.1 323 = .ok (.iload 4, 2) := by decide +kernel
theorem dX7_takesE_325 : decode fX7_takesE.2.1 325 = .ok (.iastore, 1) := by decide +kernel
theorem dX7_takesE_326 : decode fX7_takesE.2.1 326 = .ok (.aload_n 0, 1) := by decide +kernel
theorem dX7_takesE_327 : decode fX7_takesE.2.1 327 = .ok (.dup, 1) := by decide +kernel
theorem dX7_takesE_328 : decode fX7_takesE.2.1 328 = .ok (.getfield 225, 3) := by decide +kernel
theorem dX7_takesE_331 : decode fX7_takesE.2.1 331 = .ok (.iconst 1, 1) := by decide +kernel
theorem dX7_takesE_332 : decode fX7_takesE.2.1 332 = .ok (.iadd, 1) := by decide +kernel
theorem dX7_takesE_333 : decode fX7_takesE.2.1 333 = .ok (.putfield 225, 3) := by decide +kernel
theorem dX7_takesE_336 : decode fX7_takesE.2.1 336 = .ok (.iconst 1, 1) := by decide +kernel
theorem dX7_takesE_337 : decode fX7_takesE.2.1 337 = .ok (.istore_n 3, 1) := by decide +kernel
theorem dX7_takesE_338 : decode fX7_takesE.2.1 338 = .ok (.aload_n 0, 1) := by decide +kernel
theorem dX7_takesE_339 : decode fX7_takesE.2.1 339 = .ok (.invokevirtual 222, 3) := by decide +kernel
theorem dX7_takesE_342 : decode fX7_takesE.2.1 342 = .ok (.goto (-314), 3) := by decide +kernel
theorem dX7_takesE_345 : decode fX7_takesE.2.1 345 = .ok (.aload_n 0, 1) := by decide +kernel
theorem dX7_takesE_346 : decode fX7_takesE.2.1 346 = .ok (.iconst 0, 1) := by decide +kernel
theorem dX7_takesE_347 : decode fX7_takesE.2.1 347 = .ok (.invokevirtual 240, 3) := by decide +kernel
theorem dX7_takesE_350 : decode fX7_takesE.2.1 350 = .ok (.iload_n 1, 1) := by decide +kernel
theorem dX7_takesE_351 : decode fX7_takesE.2.1 351 = .ok (.ifCond .ne 7, 3) := by decide +kernel
theorem dX7_takesE_354 : decode fX7_takesE.2.1 354 = .ok (.iconst 1, 1) := by decide +kernel
theorem dX7_takesE_355 : decode fX7_takesE.2.1 355 = .ok (.goto 4, 3) := by decide +kernel
theorem dX7_takesE_358 : decode fX7_takesE.2.1 358 = .ok (.iconst 0, 1) := by decide +kernel
theorem dX7_takesE_359 : decode fX7_takesE.2.1 359 = .ok (.ireturn, 1) := by decide +kernel
set_option maxRecDepth 100000 in
set_option maxHeartbeats 4000000 in
theorem ok_X7_takesE {X : Xb} {S : Sg} {mi : Mem} {o len key : Nat} {b : Nat → Int32} {G0 : Gt} (hM : MdA S o) (hB : TpM mi o b len) (hG : TkG mi o G0) (hb : Gb len G0) (hk : mi o 13 = nI key) (h0 : 0 < G0.2.1) : Ok 3 0 0 fX7_takesE X [rf X o] S mi (fun r S' m => r = some (.int (b2i ((esR b len key 97 (G0, ([], 0, []), upd (mi (o + 11)) 0 0, 0, 0, true)).1 = true))) ∧ S' = S ∧ TkG m o (esR b len key 97 (G0, ([], 0, []), upd (mi (o + 11)) 0 0, 0, 0, true)).2.1 ∧ McS m o (esR b len key 97 (G0, ([], 0, []), upd (mi (o + 11)) 0 0, 0, 0, true)).2.2.1.1 (esR b len key 97 (G0, ([], 0, []), upd (mi (o + 11)) 0 0, 0, 0, true)).2.2.1.2.1 (esR b len key 97 (G0, ([], 0, []), upd (mi (o + 11)) 0 0, 0, 0, true)).2.2.1.2.2 ∧ (esR b len key 97 (G0, ([], 0, []), upd (mi (o + 11)) 0 0, 0, 0, true)).2.2.1.1.length ≤ 96 ∧ FrE o mi m) := by
  refine Ok.go [some (rf X o), none, none, none, none] (by decide) (by simp [Value.category]) (Nat.le_of_ble_eq_true rfl) rfl ?_
  obtain ⟨k_o, ⟨r_o_now, k_o_now⟩, ⟨r_o_image, k_o_image⟩, ⟨r_o_aside, k_o_aside⟩, ⟨r_o_seen, k_o_seen⟩, ⟨r_o_unlike, k_o_unlike⟩, ⟨r_o_tape, k_o_tape⟩, ⟨r_o_keys, k_o_keys⟩, ⟨r_o_keyAt, k_o_keyAt⟩, ⟨r_o_code, k_o_code⟩, ⟨r_o_waits, k_o_waits⟩, ⟨r_o_tested, k_o_tested⟩, ⟨r_o_stack, k_o_stack⟩, ⟨r_o_facts, k_o_facts⟩, ⟨r_o_sorts, k_o_sorts⟩, ⟨r_o_sizes, k_o_sizes⟩, ⟨r_o_cells, k_o_cells⟩, ⟨r_o_holds, k_o_holds⟩, ⟨r_o_holdsA, k_o_holdsA⟩, ⟨r_o_holdsB, k_o_holdsB⟩, ⟨r_o_heldCells, k_o_heldCells⟩, ⟨r_o_moved, k_o_moved⟩, ⟨r_o_tells, k_o_tells⟩⟩ := id hM
  have l96 : len ≤ 96 := hb.2.2.2.2.2
  generalize hRR : esR b len key 97 (G0, ([], 0, []), upd (mi (o + 11)) 0 0, 0, 0, true) = RR
  have lp : ∀ f (G : Gt) (C : List Int32) (t : Nat) (W : List Int32) (td : Nat → Int32) (pa no : Nat) (wa : Bool) (m : Mem), len - G.2.1 < f → esR b len key f (G, (C, t, W), td, pa, no, wa) = RR → Gb len G → C.length + W.length < G.2.1 → pa ≤ 8 → cntO W = pa → no < 2 ^ 31 → TkG m o G → McS m o C t W → m (o + 11) = td → FrE o mi m → MW X fX7_takesE (rmOf 3 0 0) 0 0 28 [some (rf X o), some (.int (nI pa)), some (.int (nI no)), some (.int (if wa = true then 1 else 0)), none] [] S m (mQ X 0 0 (fun r S' m => r = some (.int (b2i (RR.1 = true))) ∧ S' = S ∧ TkG m o RR.2.1 ∧ McS m o RR.2.2.1.1 RR.2.2.1.2.1 RR.2.2.1.2.2 ∧ RR.2.2.1.1.length ≤ 96 ∧ FrE o mi m)) := by
    intro f
    induction f with
    | zero => intro G C t W td pa no wa m h; exact absurd h (Nat.not_lt_zero _)
    | succ f ih =>
      intro G C t W td pa no wa m hf hR hGb hCW hpa hco hno hm hC htd hF
      obtain ⟨b1, b2, b3, b4, b5, b6⟩ := id hGb
      have hBm := hB.e hF
      have e10 : m o 10 = nI G.2.2.1 := hm.2.2.1
      have e11 : m o 11 = G.2.2.2.1 := hm.2.2.2.1
      have e20 : m o 20 = nI W.length := hC.2.2.1
      have hkm : m o 13 = nI key := by rw [hF.2 13 (by omega)]; exact hk
      have i0 : nI G.2.2.1 = 0 ↔ G.2.2.1 = 0 := nI_eq (b := 0) (by omega) (by decide)
      have i3 : nI G.2.2.1 = 3 ↔ G.2.2.1 = 3 := nI_eq (b := 3) (by omega) (by decide)
      obtain ⟨ggb, ggn⟩ := gb_go (b := b) b2 b6
      simp only [esR] at hR
      cases wa with
      | true =>
        rw [if_neg (by simp), if_pos rfl] at hR
        have s172 : ∀ G' C' t' W' td' pa' wa' m' (n' : Int32), esR b len key f (G', (C', t', W'), td', pa', cntN W', wa') = RR → len - G'.2.1 < f → Gb len G' → C'.length + W'.length < G'.2.1 → pa' ≤ 8 → cntO W' = pa' → TkG m' o G' → McS m' o C' t' W' → m' (o + 11) = td' → FrE o mi m' → MW X fX7_takesE (rmOf 3 0 0) 0 0 172 [some (rf X o), some (.int (nI pa')), some (.int n'), some (.int (if wa' = true then 1 else 0)), none] [] S m' (mQ X 0 0 (fun r S' m => r = some (.int (b2i (RR.1 = true))) ∧ S' = S ∧ TkG m o RR.2.1 ∧ McS m o RR.2.2.1.1 RR.2.2.1.2.1 RR.2.2.1.2.2 ∧ RR.2.2.1.1.length ≤ 96 ∧ FrE o mi m)) := by
          intro G' C' t' W' td' pa' wa' m' n' h1 h2 h3 h4 h5 h6 h7 h8 h9 h10
          have hw96 : W'.length ≤ 96 := by have := h3.1; have := h3.2.1; omega
          refine mw_aload_n dX7_takesE_172 rfl ?_
          refine mw_cVI (g := fX7_notsOpen) dX7_takesE_173 ml_X7_247 mfX7_notsOpen (ok_X7_notsOpen hM h8.2.2.1 h8.2.2.2.2 hw96) (by assumption) rfl rfl (Nat.le_of_ble_eq_true rfl) ⟨by decide, by decide⟩ ⟨by decide, by decide⟩ ?_
          refine mw_istN 2 dX7_takesE_176 rfl (by decide) ?_
          refine mw_goto (tgt := 28) dX7_takesE_177 (by decide) ?_
          exact MW.sub (by simp [lsub]) (ih G' C' t' W' td' pa' (cntN W') wa' m' h2 h1 h3 h4 h5 h6 (by have := cnt_le W'; omega) h7 h8 h9 h10)
        have s158 : (∀ h : tpB key G = true, esR b len key f (goS b len G, ((setF 6 (C ++ [tpV key G]) W).1, t + 1, (setF 6 (C ++ [tpV key G]) W).2), td, pa, cntN (setF 6 (C ++ [tpV key G]) W).2, false) = RR) → (tpB key G = false → (false, (G, (C, t, W), td, pa, no, true)) = RR) → MW X fX7_takesE (rmOf 3 0 0) 0 0 158 [some (rf X o), some (.int (nI pa)), some (.int (nI no)), some (.int 1), none] [] S m (mQ X 0 0 (fun r S' m => r = some (.int (b2i (RR.1 = true))) ∧ S' = S ∧ TkG m o RR.2.1 ∧ McS m o RR.2.2.1.1 RR.2.2.1.2.1 RR.2.2.1.2.2 ∧ RR.2.2.1.1.length ≤ 96 ∧ FrE o mi m)) := by
          intro hy hnn
          have c96 : C.length + W.length < 96 := by omega
          refine mw_aload_n dX7_takesE_158 rfl ?_
          refine mw_callV (g := fX7_takesPart) dX7_takesE_159 ml_X7_243 mfX7_takesPart (ok_X7_takesPart hM hBm hm hGb hC hkm c96) k_o rfl rfl (Nat.le_of_ble_eq_true rfl) ⟨by decide, by decide⟩ ⟨by decide, by decide⟩ (fun r S2 m2 hp => ?_)
          obtain ⟨rfl, e1, q1, q2⟩ := hp
          rw [e1]
          refine mw_if_eqB (tgt := 170) dX7_takesE_162 (by decide) (fun h162 => ?_) (fun h162 => ?_)
          · skip
            have g : tpB key G = false := by cases hh : tpB key G; rfl; exact absurd hh h162
            rw [q1 g]
            refine mw_iconst (v := 0) dX7_takesE_170 (by decide) ?_
            exact mw_bret dX7_takesE_171 rfl (Or.inl rfl) (by decide) (by decide) (by rw [← hnn g]; exact ⟨rfl, rfl, hm, hC, by show C.length ≤ 96; omega, hF⟩)
          obtain ⟨p1, p2, p3, p4⟩ := q2 h162
          have tk0 : G.2.2.1 ≠ 0 := by { intro e; simp [tpB, e] at h162 }
          have lt := b4 tk0
          have sl := setF_len 6 (C ++ [tpV key G]) W
          skip
          refine mw_iconst (v := 0) dX7_takesE_165 (by decide) ?_
          refine mw_istN 3 dX7_takesE_166 rfl (by decide) ?_
          refine mw_goto (tgt := 172) dX7_takesE_167 (by decide) ?_
          exact MW.sub (by simp [lsub]) (s172 _ _ _ _ td pa false m2 (nI no) (hy h162) (by omega) ggb (by rw [sl]; simp; omega) hpa (by rw [setF_o]; exact hco) p2 p1 (p4.trans htd) (hF.tr p3))
        have w1 : (if true = true then (1 : Int32) else 0) = 1 := rfl
        rw [w1]
        have nv : ∀ g : Int32, McS (m_up (m_up m (o + 10) W.length g) o 20 (nI (W.length + 1))) o C t (g :: W) := fun g => ⟨by rw [m_up_of (by decide), m_up_ne (by omega)]; exact hC.1, by rw [m_up_of (by decide), m_up_ne (by omega)]; exact hC.2.1, by rw [m_up_at]; rfl, by rw [m_up_ne (by omega), m_up_ne (by omega)]; exact hC.2.2.2.1, by rw [m_up_ne (by omega), m_up_row]; exact hC.2.2.2.2.push⟩
        have ng : ∀ g : Int32, TkG (m_up (m_up m (o + 10) W.length g) o 20 (nI (W.length + 1))) o G := fun g => (hm.a (by omega)).o (by decide)
        have nf : ∀ g : Int32, FrE o mi (m_up (m_up m (o + 10) W.length g) o 20 (nI (W.length + 1))) := fun g => (hF.upA (by omega)).up (by decide)
        have nt : ∀ g : Int32, (m_up (m_up m (o + 10) W.length g) o 20 (nI (W.length + 1))) (o + 11) = td := fun g => by rw [m_up_ne (by omega), m_up_ne (by omega)]; exact htd
        have n20 : ∀ g : Int32, m_up m (o + 10) W.length g o 20 = nI W.length := fun g => by rw [m_up_ne (by omega)]; exact e20
        refine mw_iload_n dX7_takesE_28 rfl ?_
        refine mw_if_ne (tgt := 39) dX7_takesE_29 (by decide) (fun h29 => ?_) (fun h29 => ?_)
        · skip
          refine mw_iload_n dX7_takesE_39 rfl ?_
          refine mw_if_eq (tgt := 180) dX7_takesE_40 (by decide) (fun h40 => ?_) (fun h40 => ?_)
          · skip
            exact absurd h40 (by decide)
          · skip
            refine mw_aload_n dX7_takesE_43 rfl ?_
            refine mw_geti dX7_takesE_44 fl_X7_207 rfl (by assumption) ?_
            rw [e10]
            refine mw_iconst (v := 3) dX7_takesE_47 (by decide) ?_
            refine mw_icmp_ne (tgt := 97) dX7_takesE_48 (by decide) (fun h48 => ?_) (fun h48 => ?_)
            · skip
              have c1 : ¬ (G.2.2.1 = 3 ∧ G.2.2.2.1 = 33 ∧ no < 8) := (by first | exact fun g => h48 (i3.mpr g.1) | exact fun g => h57 g.2.1 | exact fun g => absurd h63 (nI_ge (b := 8) g.2.2 (by decide)))
              refine mw_aload_n dX7_takesE_97 rfl ?_
              refine mw_geti dX7_takesE_98 fl_X7_207 rfl (by assumption) ?_
              rw [e10]
              refine mw_iconst (v := 3) dX7_takesE_101 (by decide) ?_
              refine mw_icmp_ne (tgt := 158) dX7_takesE_102 (by decide) (fun h102 => ?_) (fun h102 => ?_)
              · skip
                have c2 : ¬ (G.2.2.1 = 3 ∧ G.2.2.2.1 = 40 ∧ pa < 8) := (by first | exact fun g => h102 (i3.mpr g.1) | exact fun g => h111 g.2.1 | exact fun g => absurd h117 (nI_ge (b := 8) g.2.2 (by decide)))
                rw [if_neg c1, if_neg c2] at hR
                exact s158 (fun h => by rw [if_pos h] at hR; exact hR) (fun h => by rw [if_neg (by rw [h]; decide)] at hR; exact hR)
              · skip
                refine mw_aload_n dX7_takesE_105 rfl ?_
                refine mw_geti dX7_takesE_106 fl_X7_213 rfl (by assumption) ?_
                rw [e11]
                refine mw_bipush (v := 40) dX7_takesE_109 (by decide) ?_
                refine mw_icmp_ne (tgt := 158) dX7_takesE_111 (by decide) (fun h111 => ?_) (fun h111 => ?_)
                · skip
                  have c2 : ¬ (G.2.2.1 = 3 ∧ G.2.2.2.1 = 40 ∧ pa < 8) := (by first | exact fun g => h102 (i3.mpr g.1) | exact fun g => h111 g.2.1 | exact fun g => absurd h117 (nI_ge (b := 8) g.2.2 (by decide)))
                  rw [if_neg c1, if_neg c2] at hR
                  exact s158 (fun h => by rw [if_pos h] at hR; exact hR) (fun h => by rw [if_neg (by rw [h]; decide)] at hR; exact hR)
                · skip
                  refine mw_iload_n dX7_takesE_114 rfl ?_
                  refine mw_bipush (v := 8) dX7_takesE_115 (by decide) ?_
                  refine mw_icmp_ge (tgt := 158) dX7_takesE_117 (by decide) (fun h117 => ?_) (fun h117 => ?_)
                  · skip
                    have c2 : ¬ (G.2.2.1 = 3 ∧ G.2.2.2.1 = 40 ∧ pa < 8) := (by first | exact fun g => h102 (i3.mpr g.1) | exact fun g => h111 g.2.1 | exact fun g => absurd h117 (nI_ge (b := 8) g.2.2 (by decide)))
                    rw [if_neg c1, if_neg c2] at hR
                    exact s158 (fun h => by rw [if_pos h] at hR; exact hR) (fun h => by rw [if_neg (by rw [h]; decide)] at hR; exact hR)
                  · skip
                    have tk3 := i3.mp h102
                    have p8 : pa < 8 := (nI_ltI (b := 8) (by omega) (by decide)).mp (Int32.not_le.mp h117)
                    have lt := b4 (by omega)
                    refine mw_aload_n dX7_takesE_120 rfl ?_
                    refine mw_getr dX7_takesE_121 fl_X7_38 rfl (by assumption) (by assumption) ?_
                    refine mw_aload_n dX7_takesE_124 rfl ?_
                    refine mw_geti dX7_takesE_125 fl_X7_225 rfl (by assumption) ?_
                    rw [e20]
                    refine mw_bipush (v := (-11)) dX7_takesE_128 (by decide) ?_
                    refine mw_iastK (k := W.length) dX7_takesE_130 (by assumption) (rfl) (by omega) (by decide) ?_
                    refine mw_aload_n dX7_takesE_131 rfl ?_
                    refine mw_dup dX7_takesE_132 rfl ?_
                    refine mw_geti dX7_takesE_133 fl_X7_225 rfl (by assumption) ?_
                    rw [n20]
                    refine mw_iconst (v := 1) dX7_takesE_136 (by decide) ?_
                    refine mw_iadd dX7_takesE_137 ?_
                    rw [nI_1]
                    refine mw_puti dX7_takesE_138 fl_X7_225 ft_7_20 rfl (rfl) rfl (by assumption) ?_
                    refine mw_iincK (k := pa) dX7_takesE_141 rfl rfl (by decide) ?_
                    have k1' := nv (-11)
                    have k2' := ng (-11)
                    have k3' := nf (-11)
                    have k4' := nt (-11)
                    generalize m_up (m_up m (o + 10) W.length (-11)) o 20 (nI (W.length + 1)) = m1 at k1' k2' k3' k4'
                    refine mw_aload_n dX7_takesE_144 rfl ?_
                    refine mw_getr dX7_takesE_145 fl_X7_41 rfl (by assumption) (by assumption) ?_
                    refine mw_iload_n dX7_takesE_148 rfl ?_
                    refine mw_iconst (v := 0) dX7_takesE_149 (by decide) ?_
                    refine mw_zastK (k := pa + 1) dX7_takesE_150 (by assumption) (rfl) (by omega) (by decide) (by decide) ?_
                    have k1 : McS (m_up m1 (o + 11) (pa + 1) 0) o C t (-11 :: W) := ⟨by rw [m_up_ne (by omega)]; exact k1'.1, by rw [m_up_ne (by omega)]; exact k1'.2.1, by rw [m_up_ne (by omega)]; exact k1'.2.2.1, by rw [m_up_ne (by omega)]; exact k1'.2.2.2.1, by rw [m_up_ne (by omega)]; exact k1'.2.2.2.2⟩
                    have k2 : TkG (m_up m1 (o + 11) (pa + 1) 0) o G := k2'.a (by omega)
                    have k3 : FrE o mi (m_up m1 (o + 11) (pa + 1) 0) := k3'.upA (by omega)
                    have k4 : m_up m1 (o + 11) (pa + 1) 0 (o + 11) = upd td (pa + 1) 0 := by rw [m_up_row, k4']
                    generalize m_up m1 (o + 11) (pa + 1) 0 = m2 at k1 k2 k3 k4
                    refine mw_aload_n dX7_takesE_151 rfl ?_
                    refine mw_callV (g := fX7_go) dX7_takesE_152 ml_X7_222 mfX7_go (ok_X7_go hM (hB.e k3) b6 k2 b2) k_o rfl rfl (Nat.le_of_ble_eq_true rfl) ⟨by decide, by decide⟩ ⟨by decide, by decide⟩ (fun r S3 m3 hp => ?_)
                    obtain ⟨rfl, e2, h3, f3⟩ := hp
                    rw [e2]
                    refine mw_goto (tgt := 172) dX7_takesE_155 (by decide) ?_
                    first
                      | (have q1 := n8; rw [if_pos (And.intro tk3 (And.intro h57 q1))] at hR; exact MW.sub (by simp [lsub]) (s172 _ C t (-10 :: W) td pa true m3 (nI (no + 1)) hR (by omega) ggb (by simp; omega) hpa (by simp only [cntO]; rw [if_neg (by decide)]; omega) h3 (k1.g f3) (by rw [f3.1 (o + 11) (by omega)]; exact k4) (k3.tr (FrE.g f3))))
                      | (have q1 := p8; rw [if_neg c1, if_pos (And.intro tk3 (And.intro h111 q1))] at hR; exact MW.sub (by simp [lsub]) (s172 _ C t (-11 :: W) _ (pa + 1) true m3 (nI no) hR (by omega) ggb (by simp; omega) (by omega) (by simp only [cntO]; rw [if_pos trivial]; omega) h3 (k1.g f3) (by rw [f3.1 (o + 11) (by omega)]; exact k4) (k3.tr (FrE.g f3))))
                      | fail "stop"
            · skip
              refine mw_aload_n dX7_takesE_51 rfl ?_
              refine mw_geti dX7_takesE_52 fl_X7_213 rfl (by assumption) ?_
              rw [e11]
              refine mw_bipush (v := 33) dX7_takesE_55 (by decide) ?_
              refine mw_icmp_ne (tgt := 97) dX7_takesE_57 (by decide) (fun h57 => ?_) (fun h57 => ?_)
              · skip
                have c1 : ¬ (G.2.2.1 = 3 ∧ G.2.2.2.1 = 33 ∧ no < 8) := (by first | exact fun g => h48 (i3.mpr g.1) | exact fun g => h57 g.2.1 | exact fun g => absurd h63 (nI_ge (b := 8) g.2.2 (by decide)))
                refine mw_aload_n dX7_takesE_97 rfl ?_
                refine mw_geti dX7_takesE_98 fl_X7_207 rfl (by assumption) ?_
                rw [e10]
                refine mw_iconst (v := 3) dX7_takesE_101 (by decide) ?_
                refine mw_icmp_ne (tgt := 158) dX7_takesE_102 (by decide) (fun h102 => ?_) (fun h102 => ?_)
                · skip
                  have c2 : ¬ (G.2.2.1 = 3 ∧ G.2.2.2.1 = 40 ∧ pa < 8) := (by first | exact fun g => h102 (i3.mpr g.1) | exact fun g => h111 g.2.1 | exact fun g => absurd h117 (nI_ge (b := 8) g.2.2 (by decide)))
                  rw [if_neg c1, if_neg c2] at hR
                  exact s158 (fun h => by rw [if_pos h] at hR; exact hR) (fun h => by rw [if_neg (by rw [h]; decide)] at hR; exact hR)
                · skip
                  refine mw_aload_n dX7_takesE_105 rfl ?_
                  refine mw_geti dX7_takesE_106 fl_X7_213 rfl (by assumption) ?_
                  rw [e11]
                  refine mw_bipush (v := 40) dX7_takesE_109 (by decide) ?_
                  refine mw_icmp_ne (tgt := 158) dX7_takesE_111 (by decide) (fun h111 => ?_) (fun h111 => ?_)
                  · skip
                    have c2 : ¬ (G.2.2.1 = 3 ∧ G.2.2.2.1 = 40 ∧ pa < 8) := (by first | exact fun g => h102 (i3.mpr g.1) | exact fun g => h111 g.2.1 | exact fun g => absurd h117 (nI_ge (b := 8) g.2.2 (by decide)))
                    rw [if_neg c1, if_neg c2] at hR
                    exact s158 (fun h => by rw [if_pos h] at hR; exact hR) (fun h => by rw [if_neg (by rw [h]; decide)] at hR; exact hR)
                  · skip
                    refine mw_iload_n dX7_takesE_114 rfl ?_
                    refine mw_bipush (v := 8) dX7_takesE_115 (by decide) ?_
                    refine mw_icmp_ge (tgt := 158) dX7_takesE_117 (by decide) (fun h117 => ?_) (fun h117 => ?_)
                    · skip
                      have c2 : ¬ (G.2.2.1 = 3 ∧ G.2.2.2.1 = 40 ∧ pa < 8) := (by first | exact fun g => h102 (i3.mpr g.1) | exact fun g => h111 g.2.1 | exact fun g => absurd h117 (nI_ge (b := 8) g.2.2 (by decide)))
                      rw [if_neg c1, if_neg c2] at hR
                      exact s158 (fun h => by rw [if_pos h] at hR; exact hR) (fun h => by rw [if_neg (by rw [h]; decide)] at hR; exact hR)
                    · skip
                      have tk3 := i3.mp h102
                      have p8 : pa < 8 := (nI_ltI (b := 8) (by omega) (by decide)).mp (Int32.not_le.mp h117)
                      have lt := b4 (by omega)
                      refine mw_aload_n dX7_takesE_120 rfl ?_
                      refine mw_getr dX7_takesE_121 fl_X7_38 rfl (by assumption) (by assumption) ?_
                      refine mw_aload_n dX7_takesE_124 rfl ?_
                      refine mw_geti dX7_takesE_125 fl_X7_225 rfl (by assumption) ?_
                      rw [e20]
                      refine mw_bipush (v := (-11)) dX7_takesE_128 (by decide) ?_
                      refine mw_iastK (k := W.length) dX7_takesE_130 (by assumption) (rfl) (by omega) (by decide) ?_
                      refine mw_aload_n dX7_takesE_131 rfl ?_
                      refine mw_dup dX7_takesE_132 rfl ?_
                      refine mw_geti dX7_takesE_133 fl_X7_225 rfl (by assumption) ?_
                      rw [n20]
                      refine mw_iconst (v := 1) dX7_takesE_136 (by decide) ?_
                      refine mw_iadd dX7_takesE_137 ?_
                      rw [nI_1]
                      refine mw_puti dX7_takesE_138 fl_X7_225 ft_7_20 rfl (rfl) rfl (by assumption) ?_
                      refine mw_iincK (k := pa) dX7_takesE_141 rfl rfl (by decide) ?_
                      have k1' := nv (-11)
                      have k2' := ng (-11)
                      have k3' := nf (-11)
                      have k4' := nt (-11)
                      generalize m_up (m_up m (o + 10) W.length (-11)) o 20 (nI (W.length + 1)) = m1 at k1' k2' k3' k4'
                      refine mw_aload_n dX7_takesE_144 rfl ?_
                      refine mw_getr dX7_takesE_145 fl_X7_41 rfl (by assumption) (by assumption) ?_
                      refine mw_iload_n dX7_takesE_148 rfl ?_
                      refine mw_iconst (v := 0) dX7_takesE_149 (by decide) ?_
                      refine mw_zastK (k := pa + 1) dX7_takesE_150 (by assumption) (rfl) (by omega) (by decide) (by decide) ?_
                      have k1 : McS (m_up m1 (o + 11) (pa + 1) 0) o C t (-11 :: W) := ⟨by rw [m_up_ne (by omega)]; exact k1'.1, by rw [m_up_ne (by omega)]; exact k1'.2.1, by rw [m_up_ne (by omega)]; exact k1'.2.2.1, by rw [m_up_ne (by omega)]; exact k1'.2.2.2.1, by rw [m_up_ne (by omega)]; exact k1'.2.2.2.2⟩
                      have k2 : TkG (m_up m1 (o + 11) (pa + 1) 0) o G := k2'.a (by omega)
                      have k3 : FrE o mi (m_up m1 (o + 11) (pa + 1) 0) := k3'.upA (by omega)
                      have k4 : m_up m1 (o + 11) (pa + 1) 0 (o + 11) = upd td (pa + 1) 0 := by rw [m_up_row, k4']
                      generalize m_up m1 (o + 11) (pa + 1) 0 = m2 at k1 k2 k3 k4
                      refine mw_aload_n dX7_takesE_151 rfl ?_
                      refine mw_callV (g := fX7_go) dX7_takesE_152 ml_X7_222 mfX7_go (ok_X7_go hM (hB.e k3) b6 k2 b2) k_o rfl rfl (Nat.le_of_ble_eq_true rfl) ⟨by decide, by decide⟩ ⟨by decide, by decide⟩ (fun r S3 m3 hp => ?_)
                      obtain ⟨rfl, e2, h3, f3⟩ := hp
                      rw [e2]
                      refine mw_goto (tgt := 172) dX7_takesE_155 (by decide) ?_
                      first
                        | (have q1 := n8; rw [if_pos (And.intro tk3 (And.intro h57 q1))] at hR; exact MW.sub (by simp [lsub]) (s172 _ C t (-10 :: W) td pa true m3 (nI (no + 1)) hR (by omega) ggb (by simp; omega) hpa (by simp only [cntO]; rw [if_neg (by decide)]; omega) h3 (k1.g f3) (by rw [f3.1 (o + 11) (by omega)]; exact k4) (k3.tr (FrE.g f3))))
                        | (have q1 := p8; rw [if_neg c1, if_pos (And.intro tk3 (And.intro h111 q1))] at hR; exact MW.sub (by simp [lsub]) (s172 _ C t (-11 :: W) _ (pa + 1) true m3 (nI no) hR (by omega) ggb (by simp; omega) (by omega) (by simp only [cntO]; rw [if_pos trivial]; omega) h3 (k1.g f3) (by rw [f3.1 (o + 11) (by omega)]; exact k4) (k3.tr (FrE.g f3))))
                        | fail "stop"
              · skip
                refine mw_iload_n dX7_takesE_60 rfl ?_
                refine mw_bipush (v := 8) dX7_takesE_61 (by decide) ?_
                refine mw_icmp_ge (tgt := 97) dX7_takesE_63 (by decide) (fun h63 => ?_) (fun h63 => ?_)
                · skip
                  have c1 : ¬ (G.2.2.1 = 3 ∧ G.2.2.2.1 = 33 ∧ no < 8) := (by first | exact fun g => h48 (i3.mpr g.1) | exact fun g => h57 g.2.1 | exact fun g => absurd h63 (nI_ge (b := 8) g.2.2 (by decide)))
                  refine mw_aload_n dX7_takesE_97 rfl ?_
                  refine mw_geti dX7_takesE_98 fl_X7_207 rfl (by assumption) ?_
                  rw [e10]
                  refine mw_iconst (v := 3) dX7_takesE_101 (by decide) ?_
                  refine mw_icmp_ne (tgt := 158) dX7_takesE_102 (by decide) (fun h102 => ?_) (fun h102 => ?_)
                  · skip
                    have c2 : ¬ (G.2.2.1 = 3 ∧ G.2.2.2.1 = 40 ∧ pa < 8) := (by first | exact fun g => h102 (i3.mpr g.1) | exact fun g => h111 g.2.1 | exact fun g => absurd h117 (nI_ge (b := 8) g.2.2 (by decide)))
                    rw [if_neg c1, if_neg c2] at hR
                    exact s158 (fun h => by rw [if_pos h] at hR; exact hR) (fun h => by rw [if_neg (by rw [h]; decide)] at hR; exact hR)
                  · skip
                    refine mw_aload_n dX7_takesE_105 rfl ?_
                    refine mw_geti dX7_takesE_106 fl_X7_213 rfl (by assumption) ?_
                    rw [e11]
                    refine mw_bipush (v := 40) dX7_takesE_109 (by decide) ?_
                    refine mw_icmp_ne (tgt := 158) dX7_takesE_111 (by decide) (fun h111 => ?_) (fun h111 => ?_)
                    · skip
                      have c2 : ¬ (G.2.2.1 = 3 ∧ G.2.2.2.1 = 40 ∧ pa < 8) := (by first | exact fun g => h102 (i3.mpr g.1) | exact fun g => h111 g.2.1 | exact fun g => absurd h117 (nI_ge (b := 8) g.2.2 (by decide)))
                      rw [if_neg c1, if_neg c2] at hR
                      exact s158 (fun h => by rw [if_pos h] at hR; exact hR) (fun h => by rw [if_neg (by rw [h]; decide)] at hR; exact hR)
                    · skip
                      refine mw_iload_n dX7_takesE_114 rfl ?_
                      refine mw_bipush (v := 8) dX7_takesE_115 (by decide) ?_
                      refine mw_icmp_ge (tgt := 158) dX7_takesE_117 (by decide) (fun h117 => ?_) (fun h117 => ?_)
                      · skip
                        have c2 : ¬ (G.2.2.1 = 3 ∧ G.2.2.2.1 = 40 ∧ pa < 8) := (by first | exact fun g => h102 (i3.mpr g.1) | exact fun g => h111 g.2.1 | exact fun g => absurd h117 (nI_ge (b := 8) g.2.2 (by decide)))
                        rw [if_neg c1, if_neg c2] at hR
                        exact s158 (fun h => by rw [if_pos h] at hR; exact hR) (fun h => by rw [if_neg (by rw [h]; decide)] at hR; exact hR)
                      · skip
                        have tk3 := i3.mp h102
                        have p8 : pa < 8 := (nI_ltI (b := 8) (by omega) (by decide)).mp (Int32.not_le.mp h117)
                        have lt := b4 (by omega)
                        refine mw_aload_n dX7_takesE_120 rfl ?_
                        refine mw_getr dX7_takesE_121 fl_X7_38 rfl (by assumption) (by assumption) ?_
                        refine mw_aload_n dX7_takesE_124 rfl ?_
                        refine mw_geti dX7_takesE_125 fl_X7_225 rfl (by assumption) ?_
                        rw [e20]
                        refine mw_bipush (v := (-11)) dX7_takesE_128 (by decide) ?_
                        refine mw_iastK (k := W.length) dX7_takesE_130 (by assumption) (rfl) (by omega) (by decide) ?_
                        refine mw_aload_n dX7_takesE_131 rfl ?_
                        refine mw_dup dX7_takesE_132 rfl ?_
                        refine mw_geti dX7_takesE_133 fl_X7_225 rfl (by assumption) ?_
                        rw [n20]
                        refine mw_iconst (v := 1) dX7_takesE_136 (by decide) ?_
                        refine mw_iadd dX7_takesE_137 ?_
                        rw [nI_1]
                        refine mw_puti dX7_takesE_138 fl_X7_225 ft_7_20 rfl (rfl) rfl (by assumption) ?_
                        refine mw_iincK (k := pa) dX7_takesE_141 rfl rfl (by decide) ?_
                        have k1' := nv (-11)
                        have k2' := ng (-11)
                        have k3' := nf (-11)
                        have k4' := nt (-11)
                        generalize m_up (m_up m (o + 10) W.length (-11)) o 20 (nI (W.length + 1)) = m1 at k1' k2' k3' k4'
                        refine mw_aload_n dX7_takesE_144 rfl ?_
                        refine mw_getr dX7_takesE_145 fl_X7_41 rfl (by assumption) (by assumption) ?_
                        refine mw_iload_n dX7_takesE_148 rfl ?_
                        refine mw_iconst (v := 0) dX7_takesE_149 (by decide) ?_
                        refine mw_zastK (k := pa + 1) dX7_takesE_150 (by assumption) (rfl) (by omega) (by decide) (by decide) ?_
                        have k1 : McS (m_up m1 (o + 11) (pa + 1) 0) o C t (-11 :: W) := ⟨by rw [m_up_ne (by omega)]; exact k1'.1, by rw [m_up_ne (by omega)]; exact k1'.2.1, by rw [m_up_ne (by omega)]; exact k1'.2.2.1, by rw [m_up_ne (by omega)]; exact k1'.2.2.2.1, by rw [m_up_ne (by omega)]; exact k1'.2.2.2.2⟩
                        have k2 : TkG (m_up m1 (o + 11) (pa + 1) 0) o G := k2'.a (by omega)
                        have k3 : FrE o mi (m_up m1 (o + 11) (pa + 1) 0) := k3'.upA (by omega)
                        have k4 : m_up m1 (o + 11) (pa + 1) 0 (o + 11) = upd td (pa + 1) 0 := by rw [m_up_row, k4']
                        generalize m_up m1 (o + 11) (pa + 1) 0 = m2 at k1 k2 k3 k4
                        refine mw_aload_n dX7_takesE_151 rfl ?_
                        refine mw_callV (g := fX7_go) dX7_takesE_152 ml_X7_222 mfX7_go (ok_X7_go hM (hB.e k3) b6 k2 b2) k_o rfl rfl (Nat.le_of_ble_eq_true rfl) ⟨by decide, by decide⟩ ⟨by decide, by decide⟩ (fun r S3 m3 hp => ?_)
                        obtain ⟨rfl, e2, h3, f3⟩ := hp
                        rw [e2]
                        refine mw_goto (tgt := 172) dX7_takesE_155 (by decide) ?_
                        first
                          | (have q1 := n8; rw [if_pos (And.intro tk3 (And.intro h57 q1))] at hR; exact MW.sub (by simp [lsub]) (s172 _ C t (-10 :: W) td pa true m3 (nI (no + 1)) hR (by omega) ggb (by simp; omega) hpa (by simp only [cntO]; rw [if_neg (by decide)]; omega) h3 (k1.g f3) (by rw [f3.1 (o + 11) (by omega)]; exact k4) (k3.tr (FrE.g f3))))
                          | (have q1 := p8; rw [if_neg c1, if_pos (And.intro tk3 (And.intro h111 q1))] at hR; exact MW.sub (by simp [lsub]) (s172 _ C t (-11 :: W) _ (pa + 1) true m3 (nI no) hR (by omega) ggb (by simp; omega) (by omega) (by simp only [cntO]; rw [if_pos trivial]; omega) h3 (k1.g f3) (by rw [f3.1 (o + 11) (by omega)]; exact k4) (k3.tr (FrE.g f3))))
                          | fail "stop"
                · skip
                  have tk3 := i3.mp h48
                  have n8 : no < 8 := (nI_ltI (b := 8) hno (by decide)).mp (Int32.not_le.mp h63)
                  have lt := b4 (by omega)
                  refine mw_aload_n dX7_takesE_66 rfl ?_
                  refine mw_getr dX7_takesE_67 fl_X7_38 rfl (by assumption) (by assumption) ?_
                  refine mw_aload_n dX7_takesE_70 rfl ?_
                  refine mw_geti dX7_takesE_71 fl_X7_225 rfl (by assumption) ?_
                  rw [e20]
                  refine mw_bipush (v := (-10)) dX7_takesE_74 (by decide) ?_
                  refine mw_iastK (k := W.length) dX7_takesE_76 (by assumption) (rfl) (by omega) (by decide) ?_
                  refine mw_aload_n dX7_takesE_77 rfl ?_
                  refine mw_dup dX7_takesE_78 rfl ?_
                  refine mw_geti dX7_takesE_79 fl_X7_225 rfl (by assumption) ?_
                  rw [n20]
                  refine mw_iconst (v := 1) dX7_takesE_82 (by decide) ?_
                  refine mw_iadd dX7_takesE_83 ?_
                  rw [nI_1]
                  refine mw_puti dX7_takesE_84 fl_X7_225 ft_7_20 rfl (rfl) rfl (by assumption) ?_
                  refine mw_iincK (k := no) dX7_takesE_87 rfl rfl (by decide) ?_
                  have k1 := nv (-10)
                  have k2 := ng (-10)
                  have k3 := nf (-10)
                  have k4 := nt (-10)
                  generalize m_up (m_up m (o + 10) W.length (-10)) o 20 (nI (W.length + 1)) = m1 at k1 k2 k3 k4
                  refine mw_aload_n dX7_takesE_90 rfl ?_
                  refine mw_callV (g := fX7_go) dX7_takesE_91 ml_X7_222 mfX7_go (ok_X7_go hM (hB.e k3) b6 k2 b2) k_o rfl rfl (Nat.le_of_ble_eq_true rfl) ⟨by decide, by decide⟩ ⟨by decide, by decide⟩ (fun r S3 m3 hp => ?_)
                  obtain ⟨rfl, e2, h3, f3⟩ := hp
                  rw [e2]
                  refine mw_goto (tgt := 172) dX7_takesE_94 (by decide) ?_
                  first
                    | (have q1 := n8; rw [if_pos (And.intro tk3 (And.intro h57 q1))] at hR; exact MW.sub (by simp [lsub]) (s172 _ C t (-10 :: W) td pa true m3 (nI (no + 1)) hR (by omega) ggb (by simp; omega) hpa (by simp only [cntO]; rw [if_neg (by decide)]; omega) h3 (k1.g f3) (by rw [f3.1 (o + 11) (by omega)]; exact k4) (k3.tr (FrE.g f3))))
                    | (have q1 := p8; rw [if_neg c1, if_pos (And.intro tk3 (And.intro h111 q1))] at hR; exact MW.sub (by simp [lsub]) (s172 _ C t (-11 :: W) _ (pa + 1) true m3 (nI no) hR (by omega) ggb (by simp; omega) (by omega) (by simp only [cntO]; rw [if_pos trivial]; omega) h3 (k1.g f3) (by rw [f3.1 (o + 11) (by omega)]; exact k4) (k3.tr (FrE.g f3))))
                    | fail "stop"
        · skip
          exact absurd h29 (by decide)
      | false =>
        have w0 : (if false = true then (1 : Int32) else 0) = 0 := rfl
        rw [w0]
        by_cases c0 : G.2.2.1 = 0
        · rw [if_pos ⟨rfl, c0⟩] at hR
          have z0 := i0.mpr c0
          refine mw_iload_n dX7_takesE_28 rfl ?_
          refine mw_if_ne (tgt := 39) dX7_takesE_29 (by decide) (fun h29 => ?_) (fun h29 => ?_)
          · skip
            first
              | exact absurd rfl h29
              | exact absurd (by rw [e10]; exact z0) h36
              | fail "stop"
          · skip
            refine mw_aload_n dX7_takesE_32 rfl ?_
            refine mw_geti dX7_takesE_33 fl_X7_207 rfl (by assumption) ?_
            refine mw_if_eq (tgt := 345) dX7_takesE_36 (by decide) (fun h36 => ?_) (fun h36 => ?_)
            · skip
              refine mw_aload_n dX7_takesE_345 rfl ?_
              refine mw_iconst (v := 0) dX7_takesE_346 (by decide) ?_
              refine mw_callV (g := fX7_settle) dX7_takesE_347 ml_X7_240 mfX7_settle (ok_X7_settle (least := 0) hM hC (by omega)) k_o rfl rfl (Nat.le_of_ble_eq_true rfl) ⟨by decide, by decide⟩ ⟨by decide, by decide⟩ (fun r S2 m2 hp => ?_)
              obtain ⟨rfl, e1, h2, f2⟩ := hp
              rw [e1]
              have sl := setF_len 0 C W
              refine mw_iload_n dX7_takesE_350 rfl ?_
              refine mw_if_ne (tgt := 358) dX7_takesE_351 (by decide) (fun h351 => ?_) (fun h351 => ?_)
              · skip
                refine mw_iconst (v := 0) dX7_takesE_358 (by decide) ?_
                exact mw_bret dX7_takesE_359 rfl (by first | exact Or.inl rfl | exact Or.inr rfl | exact b2i_01) (by decide) (by decide) (by first | (have g : pa = 0 := (nI_eq (b := 0) (by omega) (by decide)).mp h351; rw [← hR]; exact ⟨by rw [b2i_t (by simp [g])], rfl, hm.s f2, h2, by show (setF 0 C W).1.length ≤ 96; omega, hF.tr (FrE.s f2)⟩) | (have g : ¬ pa = 0 := fun g => h351 (by rw [g]; rfl); rw [← hR]; exact ⟨by rw [b2i_f (by simp [g])], rfl, hm.s f2, h2, by show (setF 0 C W).1.length ≤ 96; omega, hF.tr (FrE.s f2)⟩) | fail "leaf")
              · skip
                refine mw_iconst (v := 1) dX7_takesE_354 (by decide) ?_
                refine mw_goto (tgt := 359) dX7_takesE_355 (by decide) ?_
                exact mw_bret dX7_takesE_359 rfl (by first | exact Or.inl rfl | exact Or.inr rfl | exact b2i_01) (by decide) (by decide) (by first | (have g : pa = 0 := (nI_eq (b := 0) (by omega) (by decide)).mp h351; rw [← hR]; exact ⟨by rw [b2i_t (by simp [g])], rfl, hm.s f2, h2, by show (setF 0 C W).1.length ≤ 96; omega, hF.tr (FrE.s f2)⟩) | (have g : ¬ pa = 0 := fun g => h351 (by rw [g]; rfl); rw [← hR]; exact ⟨by rw [b2i_f (by simp [g])], rfl, hm.s f2, h2, by show (setF 0 C W).1.length ≤ 96; omega, hF.tr (FrE.s f2)⟩) | fail "leaf")
            · skip
              first
                | exact absurd rfl h29
                | exact absurd (by rw [e10]; exact z0) h36
                | fail "stop"
        · rw [if_neg (fun g => c0 g.2), if_neg (by simp)] at hR
          have lt := b4 c0
          have nz := fun g => c0 (i0.mp g)
          have etd : m (o + 11) pa = td pa := by rw [htd]
          have s305 : ∀ v, v = (if rkM (sgM (nI G.2.2.1) G.2.2.2.1) = 3 ∨ (3 < rkM (sgM (nI G.2.2.1) G.2.2.2.1) ∧ ¬ td pa = 0) then (1 : Int32) else 0) → esR b len key f (goS b len G, ((setF (rkM (sgM (nI G.2.2.1) G.2.2.2.1)) C W).1, t, (sgM (nI G.2.2.1) G.2.2.2.1) :: (setF (rkM (sgM (nI G.2.2.1) G.2.2.2.1)) C W).2), upd td pa (if rkM (sgM (nI G.2.2.1) G.2.2.2.1) = 3 ∨ (3 < rkM (sgM (nI G.2.2.1) G.2.2.2.1) ∧ ¬ td pa = 0) then 1 else 0), pa, no, true) = RR → MW X fX7_takesE (rmOf 3 0 0) 0 0 305 [some (rf X o), some (.int (nI pa)), some (.int (nI no)), some (.int 0), some (.int (sgM (nI G.2.2.1) G.2.2.2.1))] [.int v, .int (nI pa), rf X (o + 11)] S m (mQ X 0 0 (fun r S' m => r = some (.int (b2i (RR.1 = true))) ∧ S' = S ∧ TkG m o RR.2.1 ∧ McS m o RR.2.2.1.1 RR.2.2.1.2.1 RR.2.2.1.2.2 ∧ RR.2.2.1.1.length ≤ 96 ∧ FrE o mi m)) := by
            intro v hv hR2
            rw [← hv] at hR2
            have hv01 : v = 0 ∨ v = 1 := by rw [hv]; split <;> simp
            have hvn : narrow .boolean (.int v) = .int v := by rcases hv01 with rfl | rfl <;> decide
            have k1 : McS (m_up m (o + 11) pa v) o C t W := ⟨by rw [m_up_ne (by omega)]; exact hC.1, by rw [m_up_ne (by omega)]; exact hC.2.1, by rw [m_up_ne (by omega)]; exact hC.2.2.1, by rw [m_up_ne (by omega)]; exact hC.2.2.2.1, by rw [m_up_ne (by omega)]; exact hC.2.2.2.2⟩
            have k2 : TkG (m_up m (o + 11) pa v) o G := hm.a (by omega)
            have k3 : FrE o mi (m_up m (o + 11) pa v) := hF.upA (by omega)
            have k4 : m_up m (o + 11) pa v (o + 11) = upd td pa v := by rw [m_up_row, htd]
            refine mw_zastK (k := pa) dX7_takesE_305 (by assumption) (rfl) (by omega) (by decide) (hvn) ?_
            generalize m_up m (o + 11) pa v = m1 at k1 k2 k3 k4
            refine mw_aload_n dX7_takesE_306 rfl ?_
            refine mw_iload dX7_takesE_307 rfl ?_
            refine mw_cSI (g := fX7_rank) dX7_takesE_309 ml_X7_228 mfX7_rank (ok_X7_rank) rfl rfl (Nat.le_of_ble_eq_true rfl) ⟨by decide, by decide⟩ ⟨by decide, by decide⟩ ?_
            refine mw_callV (g := fX7_settle) dX7_takesE_312 ml_X7_240 mfX7_settle (ok_X7_settle (least := rkM (sgM (nI G.2.2.1) G.2.2.2.1)) hM k1 (by omega)) k_o rfl rfl (Nat.le_of_ble_eq_true rfl) ⟨by decide, by decide⟩ ⟨by decide, by decide⟩ (fun r S2 m2 hp => ?_)
            obtain ⟨rfl, e1, h2, f2⟩ := hp
            rw [e1]
            have sl := setF_len (rkM (sgM (nI G.2.2.1) G.2.2.2.1)) C W
            have so := setF_o (rkM (sgM (nI G.2.2.1) G.2.2.2.1)) C W
            generalize setF (rkM (sgM (nI G.2.2.1) G.2.2.2.1)) C W = CW at h2 sl so hR2
            have d20 : m2 o 20 = nI CW.2.length := h2.2.2.1
            have d20b : m_up m2 (o + 10) CW.2.length (sgM (nI G.2.2.1) G.2.2.2.1) o 20 = nI CW.2.length := by rw [m_up_ne (by omega)]; exact d20
            refine mw_aload_n dX7_takesE_315 rfl ?_
            refine mw_getr dX7_takesE_316 fl_X7_38 rfl (by assumption) (by assumption) ?_
            refine mw_aload_n dX7_takesE_319 rfl ?_
            refine mw_geti dX7_takesE_320 fl_X7_225 rfl (by assumption) ?_
            rw [d20]
            refine mw_iload dX7_takesE_323 rfl ?_
            refine mw_iastK (k := CW.2.length) dX7_takesE_325 (by assumption) (rfl) (by omega) (by decide) ?_
            refine mw_aload_n dX7_takesE_326 rfl ?_
            refine mw_dup dX7_takesE_327 rfl ?_
            refine mw_geti dX7_takesE_328 fl_X7_225 rfl (by assumption) ?_
            rw [d20b]
            refine mw_iconst (v := 1) dX7_takesE_331 (by decide) ?_
            refine mw_iadd dX7_takesE_332 ?_
            rw [nI_1]
            refine mw_puti dX7_takesE_333 fl_X7_225 ft_7_20 rfl (rfl) rfl (by assumption) ?_
            refine mw_iconst (v := 1) dX7_takesE_336 (by decide) ?_
            refine mw_istN 3 dX7_takesE_337 rfl (by decide) ?_
            have j1 : McS (m_up (m_up m2 (o + 10) CW.2.length (sgM (nI G.2.2.1) G.2.2.2.1)) o 20 (nI (CW.2.length + 1))) o CW.1 t ((sgM (nI G.2.2.1) G.2.2.2.1) :: CW.2) := ⟨by rw [m_up_of (by decide), m_up_ne (by omega)]; exact h2.1, by rw [m_up_of (by decide), m_up_ne (by omega)]; exact h2.2.1, by rw [m_up_at]; rfl, by rw [m_up_ne (by omega), m_up_ne (by omega)]; exact h2.2.2.2.1, by rw [m_up_ne (by omega), m_up_row]; exact h2.2.2.2.2.push⟩
            have j2 : TkG (m_up (m_up m2 (o + 10) CW.2.length (sgM (nI G.2.2.1) G.2.2.2.1)) o 20 (nI (CW.2.length + 1))) o G := ((k2.s f2).a (by omega)).o (by decide)
            have j3 : FrE o mi (m_up (m_up m2 (o + 10) CW.2.length (sgM (nI G.2.2.1) G.2.2.2.1)) o 20 (nI (CW.2.length + 1))) := ((k3.tr (FrE.s f2)).upA (by omega)).up (by decide)
            have j4 : m_up (m_up m2 (o + 10) CW.2.length (sgM (nI G.2.2.1) G.2.2.2.1)) o 20 (nI (CW.2.length + 1)) (o + 11) = upd td pa v := by rw [m_up_ne (by omega), m_up_ne (by omega), f2.1 (o + 11) (by omega) (by omega) (by omega)]; exact k4
            generalize m_up (m_up m2 (o + 10) CW.2.length (sgM (nI G.2.2.1) G.2.2.2.1)) o 20 (nI (CW.2.length + 1)) = m4 at j1 j2 j3 j4
            refine mw_aload_n dX7_takesE_338 rfl ?_
            refine mw_callV (g := fX7_go) dX7_takesE_339 ml_X7_222 mfX7_go (ok_X7_go hM (hB.e j3) b6 j2 b2) k_o rfl rfl (Nat.le_of_ble_eq_true rfl) ⟨by decide, by decide⟩ ⟨by decide, by decide⟩ (fun r S3 m5 hp => ?_)
            obtain ⟨rfl, e2, h3, f3⟩ := hp
            rw [e2]
            refine mw_goto (tgt := 28) dX7_takesE_342 (by decide) ?_
            refine MW.sub (by simp [lsub]) (ih _ CW.1 t ((sgM (nI G.2.2.1) G.2.2.2.1) :: CW.2) _ pa no true m5 (by omega) hR2 ggb (by simp; omega) hpa ?_ hno h3 (j1.g f3) (by rw [f3.1 (o + 11) (by omega)]; exact j4) (j3.tr (FrE.g f3)))
            have ns : ∀ a c : Int32, ¬ sgM a c = -11 := by
              intro a c
              unfold sgM
              repeat' split
              all_goals decide
            simp only [cntO]
            rw [if_neg (ns _ _), so]
            omega
          have s237 : ¬ (G.2.2.1 = 3 ∧ G.2.2.2.1 = 41 ∧ 0 < pa) → MW X fX7_takesE (rmOf 3 0 0) 0 0 237 [some (rf X o), some (.int (nI pa)), some (.int (nI no)), some (.int 0), none] [] S m (mQ X 0 0 (fun r S' m => r = some (.int (b2i (RR.1 = true))) ∧ S' = S ∧ TkG m o RR.2.1 ∧ McS m o RR.2.2.1.1 RR.2.2.1.2.1 RR.2.2.1.2.2 ∧ RR.2.2.1.1.length ≤ 96 ∧ FrE o mi m)) := by
            intro cc
            rw [if_neg cc] at hR
            refine mw_aload_n dX7_takesE_237 rfl ?_
            refine mw_cVI (g := fX7_signHere) dX7_takesE_238 ml_X7_250 mfX7_signHere (ok_X7_signHere hM) (by assumption) rfl rfl (Nat.le_of_ble_eq_true rfl) ⟨by decide, by decide⟩ ⟨by decide, by decide⟩ ?_
            rw [e10, e11]
            refine mw_istore dX7_takesE_241 (by decide) ?_
            refine mw_iload dX7_takesE_243 rfl ?_
            refine mw_if_eq (tgt := 266) dX7_takesE_245 (by decide) (fun h245 => ?_) (fun h245 => ?_)
            · skip
              refine mw_iconst (v := 0) dX7_takesE_266 (by decide) ?_
              exact mw_bret dX7_takesE_267 rfl (by first | exact Or.inl rfl | exact Or.inr rfl | exact b2i_01) (by decide) (by decide) (by first | (have g : ¬ td pa = 0 := h263; rw [if_pos (Or.inr (And.intro h254 g))] at hR; rw [← hR]; exact ⟨rfl, rfl, hm, hC, by show C.length ≤ 96; omega, hF⟩) | (have g : (sgM (nI G.2.2.1) G.2.2.2.1) = 0 := h245; rw [if_pos (Or.inl g)] at hR; rw [← hR]; exact ⟨rfl, rfl, hm, hC, by show C.length ≤ 96; omega, hF⟩) | fail "leaf")
            · skip
              refine mw_iload dX7_takesE_248 rfl ?_
              refine mw_cSI (g := fX7_rank) dX7_takesE_250 ml_X7_228 mfX7_rank (ok_X7_rank) rfl rfl (Nat.le_of_ble_eq_true rfl) ⟨by decide, by decide⟩ ⟨by decide, by decide⟩ ?_
              refine mw_iconst (v := 3) dX7_takesE_253 (by decide) ?_
              refine mw_icmp_ne (tgt := 268) dX7_takesE_254 (by decide) (fun h254 => ?_) (fun h254 => ?_)
              · skip
                have nn : ¬ ((sgM (nI G.2.2.1) G.2.2.2.1) = 0 ∨ (rkM (sgM (nI G.2.2.1) G.2.2.2.1) = 3 ∧ ¬ td pa = 0)) := (by first | exact fun g => g.elim h245 (fun k => h254 k.1) | exact fun g => g.elim h245 (fun k => k.2 h263))
                rw [if_neg nn] at hR
                refine mw_aload_n dX7_takesE_268 rfl ?_
                refine mw_getr dX7_takesE_269 fl_X7_41 rfl (by assumption) (by assumption) ?_
                refine mw_iload_n dX7_takesE_272 rfl ?_
                refine mw_iload dX7_takesE_273 rfl ?_
                refine mw_cSI (g := fX7_rank) dX7_takesE_275 ml_X7_228 mfX7_rank (ok_X7_rank) rfl rfl (Nat.le_of_ble_eq_true rfl) ⟨by decide, by decide⟩ ⟨by decide, by decide⟩ ?_
                refine mw_iconst (v := 3) dX7_takesE_278 (by decide) ?_
                refine mw_icmp_eq (tgt := 300) dX7_takesE_279 (by decide) (fun h279 => ?_) (fun h279 => ?_)
                · skip
                  refine mw_iconst (v := 1) dX7_takesE_300 (by decide) ?_
                  refine mw_goto (tgt := 305) dX7_takesE_301 (by decide) ?_
                  first
                    | (have g : ¬ td pa = 0 := h297; exact s305 1 (by rw [if_pos (Or.inr (And.intro (Int32.not_le.mp h288) g))]) hR)
                    | (have g : td pa = 0 := h297; exact s305 0 (by rw [if_neg (fun k => k.elim h279 (fun q => q.2 g))]) hR)
                    | (have g : rkM (sgM (nI G.2.2.1) G.2.2.2.1) ≤ 3 := h288; exact s305 0 (by rw [if_neg (fun k => k.elim h279 (fun q => absurd q.1 (Int32.not_lt.mpr g)))]) hR)
                    | exact s305 1 (by rw [if_pos (Or.inl h279)]) hR
                    | fail "stop"
                · skip
                  refine mw_iload dX7_takesE_282 rfl ?_
                  refine mw_cSI (g := fX7_rank) dX7_takesE_284 ml_X7_228 mfX7_rank (ok_X7_rank) rfl rfl (Nat.le_of_ble_eq_true rfl) ⟨by decide, by decide⟩ ⟨by decide, by decide⟩ ?_
                  refine mw_iconst (v := 3) dX7_takesE_287 (by decide) ?_
                  refine mw_icmp_le (tgt := 304) dX7_takesE_288 (by decide) (fun h288 => ?_) (fun h288 => ?_)
                  · skip
                    refine mw_iconst (v := 0) dX7_takesE_304 (by decide) ?_
                    first
                      | (have g : ¬ td pa = 0 := h297; exact s305 1 (by rw [if_pos (Or.inr (And.intro (Int32.not_le.mp h288) g))]) hR)
                      | (have g : td pa = 0 := h297; exact s305 0 (by rw [if_neg (fun k => k.elim h279 (fun q => q.2 g))]) hR)
                      | (have g : rkM (sgM (nI G.2.2.1) G.2.2.2.1) ≤ 3 := h288; exact s305 0 (by rw [if_neg (fun k => k.elim h279 (fun q => absurd q.1 (Int32.not_lt.mpr g)))]) hR)
                      | exact s305 1 (by rw [if_pos (Or.inl h279)]) hR
                      | fail "stop"
                  · skip
                    refine mw_aload_n dX7_takesE_291 rfl ?_
                    refine mw_getr dX7_takesE_292 fl_X7_41 rfl (by assumption) (by assumption) ?_
                    refine mw_iload_n dX7_takesE_295 rfl ?_
                    refine mw_zaldK (k := pa) dX7_takesE_296 (by assumption) (rfl) (by omega) (by decide) ?_
                    rw [etd]
                    refine mw_if_eq (tgt := 304) dX7_takesE_297 (by decide) (fun h297 => ?_) (fun h297 => ?_)
                    · skip
                      refine mw_iconst (v := 0) dX7_takesE_304 (by decide) ?_
                      first
                        | (have g : ¬ td pa = 0 := h297; exact s305 1 (by rw [if_pos (Or.inr (And.intro (Int32.not_le.mp h288) g))]) hR)
                        | (have g : td pa = 0 := h297; exact s305 0 (by rw [if_neg (fun k => k.elim h279 (fun q => q.2 g))]) hR)
                        | (have g : rkM (sgM (nI G.2.2.1) G.2.2.2.1) ≤ 3 := h288; exact s305 0 (by rw [if_neg (fun k => k.elim h279 (fun q => absurd q.1 (Int32.not_lt.mpr g)))]) hR)
                        | exact s305 1 (by rw [if_pos (Or.inl h279)]) hR
                        | fail "stop"
                    · skip
                      refine mw_iconst (v := 1) dX7_takesE_300 (by decide) ?_
                      refine mw_goto (tgt := 305) dX7_takesE_301 (by decide) ?_
                      first
                        | (have g : ¬ td pa = 0 := h297; exact s305 1 (by rw [if_pos (Or.inr (And.intro (Int32.not_le.mp h288) g))]) hR)
                        | (have g : td pa = 0 := h297; exact s305 0 (by rw [if_neg (fun k => k.elim h279 (fun q => q.2 g))]) hR)
                        | (have g : rkM (sgM (nI G.2.2.1) G.2.2.2.1) ≤ 3 := h288; exact s305 0 (by rw [if_neg (fun k => k.elim h279 (fun q => absurd q.1 (Int32.not_lt.mpr g)))]) hR)
                        | exact s305 1 (by rw [if_pos (Or.inl h279)]) hR
                        | fail "stop"
              · skip
                refine mw_aload_n dX7_takesE_257 rfl ?_
                refine mw_getr dX7_takesE_258 fl_X7_41 rfl (by assumption) (by assumption) ?_
                refine mw_iload_n dX7_takesE_261 rfl ?_
                refine mw_zaldK (k := pa) dX7_takesE_262 (by assumption) (rfl) (by omega) (by decide) ?_
                rw [etd]
                refine mw_if_eq (tgt := 268) dX7_takesE_263 (by decide) (fun h263 => ?_) (fun h263 => ?_)
                · skip
                  have nn : ¬ ((sgM (nI G.2.2.1) G.2.2.2.1) = 0 ∨ (rkM (sgM (nI G.2.2.1) G.2.2.2.1) = 3 ∧ ¬ td pa = 0)) := (by first | exact fun g => g.elim h245 (fun k => h254 k.1) | exact fun g => g.elim h245 (fun k => k.2 h263))
                  rw [if_neg nn] at hR
                  refine mw_aload_n dX7_takesE_268 rfl ?_
                  refine mw_getr dX7_takesE_269 fl_X7_41 rfl (by assumption) (by assumption) ?_
                  refine mw_iload_n dX7_takesE_272 rfl ?_
                  refine mw_iload dX7_takesE_273 rfl ?_
                  refine mw_cSI (g := fX7_rank) dX7_takesE_275 ml_X7_228 mfX7_rank (ok_X7_rank) rfl rfl (Nat.le_of_ble_eq_true rfl) ⟨by decide, by decide⟩ ⟨by decide, by decide⟩ ?_
                  refine mw_iconst (v := 3) dX7_takesE_278 (by decide) ?_
                  refine mw_icmp_eq (tgt := 300) dX7_takesE_279 (by decide) (fun h279 => ?_) (fun h279 => ?_)
                  · skip
                    refine mw_iconst (v := 1) dX7_takesE_300 (by decide) ?_
                    refine mw_goto (tgt := 305) dX7_takesE_301 (by decide) ?_
                    first
                      | (have g : ¬ td pa = 0 := h297; exact s305 1 (by rw [if_pos (Or.inr (And.intro (Int32.not_le.mp h288) g))]) hR)
                      | (have g : td pa = 0 := h297; exact s305 0 (by rw [if_neg (fun k => k.elim h279 (fun q => q.2 g))]) hR)
                      | (have g : rkM (sgM (nI G.2.2.1) G.2.2.2.1) ≤ 3 := h288; exact s305 0 (by rw [if_neg (fun k => k.elim h279 (fun q => absurd q.1 (Int32.not_lt.mpr g)))]) hR)
                      | exact s305 1 (by rw [if_pos (Or.inl h279)]) hR
                      | fail "stop"
                  · skip
                    refine mw_iload dX7_takesE_282 rfl ?_
                    refine mw_cSI (g := fX7_rank) dX7_takesE_284 ml_X7_228 mfX7_rank (ok_X7_rank) rfl rfl (Nat.le_of_ble_eq_true rfl) ⟨by decide, by decide⟩ ⟨by decide, by decide⟩ ?_
                    refine mw_iconst (v := 3) dX7_takesE_287 (by decide) ?_
                    refine mw_icmp_le (tgt := 304) dX7_takesE_288 (by decide) (fun h288 => ?_) (fun h288 => ?_)
                    · skip
                      refine mw_iconst (v := 0) dX7_takesE_304 (by decide) ?_
                      first
                        | (have g : ¬ td pa = 0 := h297; exact s305 1 (by rw [if_pos (Or.inr (And.intro (Int32.not_le.mp h288) g))]) hR)
                        | (have g : td pa = 0 := h297; exact s305 0 (by rw [if_neg (fun k => k.elim h279 (fun q => q.2 g))]) hR)
                        | (have g : rkM (sgM (nI G.2.2.1) G.2.2.2.1) ≤ 3 := h288; exact s305 0 (by rw [if_neg (fun k => k.elim h279 (fun q => absurd q.1 (Int32.not_lt.mpr g)))]) hR)
                        | exact s305 1 (by rw [if_pos (Or.inl h279)]) hR
                        | fail "stop"
                    · skip
                      refine mw_aload_n dX7_takesE_291 rfl ?_
                      refine mw_getr dX7_takesE_292 fl_X7_41 rfl (by assumption) (by assumption) ?_
                      refine mw_iload_n dX7_takesE_295 rfl ?_
                      refine mw_zaldK (k := pa) dX7_takesE_296 (by assumption) (rfl) (by omega) (by decide) ?_
                      rw [etd]
                      refine mw_if_eq (tgt := 304) dX7_takesE_297 (by decide) (fun h297 => ?_) (fun h297 => ?_)
                      · skip
                        refine mw_iconst (v := 0) dX7_takesE_304 (by decide) ?_
                        first
                          | (have g : ¬ td pa = 0 := h297; exact s305 1 (by rw [if_pos (Or.inr (And.intro (Int32.not_le.mp h288) g))]) hR)
                          | (have g : td pa = 0 := h297; exact s305 0 (by rw [if_neg (fun k => k.elim h279 (fun q => q.2 g))]) hR)
                          | (have g : rkM (sgM (nI G.2.2.1) G.2.2.2.1) ≤ 3 := h288; exact s305 0 (by rw [if_neg (fun k => k.elim h279 (fun q => absurd q.1 (Int32.not_lt.mpr g)))]) hR)
                          | exact s305 1 (by rw [if_pos (Or.inl h279)]) hR
                          | fail "stop"
                      · skip
                        refine mw_iconst (v := 1) dX7_takesE_300 (by decide) ?_
                        refine mw_goto (tgt := 305) dX7_takesE_301 (by decide) ?_
                        first
                          | (have g : ¬ td pa = 0 := h297; exact s305 1 (by rw [if_pos (Or.inr (And.intro (Int32.not_le.mp h288) g))]) hR)
                          | (have g : td pa = 0 := h297; exact s305 0 (by rw [if_neg (fun k => k.elim h279 (fun q => q.2 g))]) hR)
                          | (have g : rkM (sgM (nI G.2.2.1) G.2.2.2.1) ≤ 3 := h288; exact s305 0 (by rw [if_neg (fun k => k.elim h279 (fun q => absurd q.1 (Int32.not_lt.mpr g)))]) hR)
                          | exact s305 1 (by rw [if_pos (Or.inl h279)]) hR
                          | fail "stop"
                · skip
                  refine mw_iconst (v := 0) dX7_takesE_266 (by decide) ?_
                  exact mw_bret dX7_takesE_267 rfl (by first | exact Or.inl rfl | exact Or.inr rfl | exact b2i_01) (by decide) (by decide) (by first | (have g : ¬ td pa = 0 := h263; rw [if_pos (Or.inr (And.intro h254 g))] at hR; rw [← hR]; exact ⟨rfl, rfl, hm, hC, by show C.length ≤ 96; omega, hF⟩) | (have g : (sgM (nI G.2.2.1) G.2.2.2.1) = 0 := h245; rw [if_pos (Or.inl g)] at hR; rw [← hR]; exact ⟨rfl, rfl, hm, hC, by show C.length ≤ 96; omega, hF⟩) | fail "leaf")
          refine mw_iload_n dX7_takesE_28 rfl ?_
          refine mw_if_ne (tgt := 39) dX7_takesE_29 (by decide) (fun h29 => ?_) (fun h29 => ?_)
          · skip
            refine mw_iload_n dX7_takesE_39 rfl ?_
            refine mw_if_eq (tgt := 180) dX7_takesE_40 (by decide) (fun h40 => ?_) (fun h40 => ?_)
            · skip
              refine mw_aload_n dX7_takesE_180 rfl ?_
              refine mw_geti dX7_takesE_181 fl_X7_207 rfl (by assumption) ?_
              rw [e10]
              refine mw_iconst (v := 3) dX7_takesE_184 (by decide) ?_
              refine mw_icmp_ne (tgt := 237) dX7_takesE_185 (by decide) (fun h185 => ?_) (fun h185 => ?_)
              · skip
                first
                  | exact s237 (fun g => h185 (i3.mpr g.1))
                  | exact s237 (fun g => h194 g.2.1)
                  | exact s237 (fun g => absurd h198 (Int32.not_le.mpr (nI_lt (a := 0) g.2.2 (by omega))))
                  | fail "stop"
              · skip
                refine mw_aload_n dX7_takesE_188 rfl ?_
                refine mw_geti dX7_takesE_189 fl_X7_213 rfl (by assumption) ?_
                rw [e11]
                refine mw_bipush (v := 41) dX7_takesE_192 (by decide) ?_
                refine mw_icmp_ne (tgt := 237) dX7_takesE_194 (by decide) (fun h194 => ?_) (fun h194 => ?_)
                · skip
                  first
                    | exact s237 (fun g => h185 (i3.mpr g.1))
                    | exact s237 (fun g => h194 g.2.1)
                    | exact s237 (fun g => absurd h198 (Int32.not_le.mpr (nI_lt (a := 0) g.2.2 (by omega))))
                    | fail "stop"
                · skip
                  refine mw_iload_n dX7_takesE_197 rfl ?_
                  refine mw_if_le (tgt := 237) dX7_takesE_198 (by decide) (fun h198 => ?_) (fun h198 => ?_)
                  · skip
                    first
                      | exact s237 (fun g => h185 (i3.mpr g.1))
                      | exact s237 (fun g => h194 g.2.1)
                      | exact s237 (fun g => absurd h198 (Int32.not_le.mpr (nI_lt (a := 0) g.2.2 (by omega))))
                      | fail "stop"
                  · skip
                    have p0 : 0 < pa := by { rcases Nat.eq_zero_or_pos pa with g | g; exact absurd (by rw [g]; decide) h198; exact g }
                    rw [if_pos (And.intro (i3.mp h185) (And.intro h194 p0))] at hR
                    refine mw_aload_n dX7_takesE_201 rfl ?_
                    refine mw_iconst (v := 0) dX7_takesE_202 (by decide) ?_
                    refine mw_callV (g := fX7_settle) dX7_takesE_203 ml_X7_240 mfX7_settle (ok_X7_settle (least := 0) hM hC (by omega)) k_o rfl rfl (Nat.le_of_ble_eq_true rfl) ⟨by decide, by decide⟩ ⟨by decide, by decide⟩ (fun r S2 m2 hp => ?_)
                    obtain ⟨rfl, e1, h2, f2⟩ := hp
                    rw [e1]
                    have sl := setF_len 0 C W
                    have so := setF_o 0 C W
                    obtain ⟨w, V, hV⟩ := setF_ne (C := C) (least := 0) (show 0 < cntO W by omega)
                    have hw := setF0_top C W w V hV
                    rw [hV] at h2 sl so hR
                    simp only [List.tail_cons] at hR
                    subst hw
                    have sl' : (setF 0 C W).1.length + (V.length + 1) = C.length + W.length := sl
                    have so' : cntO V = pa - 1 := by { simp only [cntO] at so; rw [if_pos trivial] at so; omega }
                    generalize (setF 0 C W).1 = C1 at h2 sl sl' hR
                    have d20 : m2 o 20 = nI (V.length + 1) := h2.2.2.1
                    refine mw_aload_n dX7_takesE_206 rfl ?_
                    refine mw_dup dX7_takesE_207 rfl ?_
                    refine mw_geti dX7_takesE_208 fl_X7_225 rfl (by assumption) ?_
                    rw [d20]
                    refine mw_iconst (v := 1) dX7_takesE_211 (by decide) ?_
                    refine mw_isub dX7_takesE_212 ?_
                    rw [nI_pred]
                    refine mw_puti dX7_takesE_213 fl_X7_225 ft_7_20 rfl (rfl) rfl (by assumption) ?_
                    have j1 : McS (m_up m2 o 20 (nI V.length)) o C1 t V := ⟨by rw [m_up_of (by decide)]; exact h2.1, by rw [m_up_of (by decide)]; exact h2.2.1, m_up_at _ _ _ _, by rw [m_up_ne (by omega)]; exact h2.2.2.2.1, by rw [m_up_ne (by omega)]; exact h2.2.2.2.2.pop⟩
                    have j2 : TkG (m_up m2 o 20 (nI V.length)) o G := (hm.s f2).o (by decide)
                    have j3 : FrE o mi (m_up m2 o 20 (nI V.length)) := (hF.tr (FrE.s f2)).up (by decide)
                    have j4 : m_up m2 o 20 (nI V.length) (o + 11) = td := by rw [m_up_ne (by omega), f2.1 (o + 11) (by omega) (by omega) (by omega)]; exact htd
                    generalize m_up m2 o 20 (nI V.length) = m3 at j1 j2 j3 j4
                    refine mw_iinc dX7_takesE_216 rfl (by decide) rfl ?_
                    rw [nI_dec (by omega)]
                    refine mw_aload_n dX7_takesE_219 rfl ?_
                    refine mw_bipush (v := 6) dX7_takesE_220 (by decide) ?_
                    refine mw_callV (g := fX7_settle) dX7_takesE_222 ml_X7_240 mfX7_settle (ok_X7_settle (least := 6) hM j1 (by omega)) k_o rfl rfl (Nat.le_of_ble_eq_true rfl) ⟨by decide, by decide⟩ ⟨by decide, by decide⟩ (fun r S4 m4 hp => ?_)
                    obtain ⟨rfl, e4, h4, f4⟩ := hp
                    rw [e4]
                    have sl6 := setF_len 6 C1 V
                    have so6 := setF_o 6 C1 V
                    generalize setF 6 C1 V = CW at h4 sl6 so6 hR
                    have l6 := j3.tr (FrE.s f4)
                    refine mw_aload_n dX7_takesE_225 rfl ?_
                    refine mw_cVI (g := fX7_notsOpen) dX7_takesE_226 ml_X7_247 mfX7_notsOpen (ok_X7_notsOpen (W := CW.2) hM h4.2.2.1 h4.2.2.2.2 (by omega)) (by assumption) rfl rfl (Nat.le_of_ble_eq_true rfl) ⟨by decide, by decide⟩ ⟨by decide, by decide⟩ ?_
                    refine mw_istN 2 dX7_takesE_229 rfl (by decide) ?_
                    refine mw_aload_n dX7_takesE_230 rfl ?_
                    refine mw_callV (g := fX7_go) dX7_takesE_231 ml_X7_222 mfX7_go (ok_X7_go hM (hB.e l6) b6 (j2.s f4) b2) k_o rfl rfl (Nat.le_of_ble_eq_true rfl) ⟨by decide, by decide⟩ ⟨by decide, by decide⟩ (fun r S5 m5 hp => ?_)
                    obtain ⟨rfl, e5, h5, f5⟩ := hp
                    rw [e5]
                    refine mw_goto (tgt := 28) dX7_takesE_234 (by decide) ?_
                    exact MW.sub (by simp [lsub]) (ih _ CW.1 t CW.2 td (pa - 1) (cntN CW.2) false m5 (by omega) hR ggb (by omega) (by omega) (by omega) (by have := cnt_le CW.2; omega) h5 (h4.g f5) (by rw [f5.1 (o + 11) (by omega), f4.1 (o + 11) (by omega) (by omega) (by omega)]; exact j4) (l6.tr (FrE.g f5)))
            · skip
              exact absurd rfl h40
          · skip
            refine mw_aload_n dX7_takesE_32 rfl ?_
            refine mw_geti dX7_takesE_33 fl_X7_207 rfl (by assumption) ?_
            refine mw_if_eq (tgt := 345) dX7_takesE_36 (by decide) (fun h36 => ?_) (fun h36 => ?_)
            · skip
              exact absurd (by rw [e10] at h36; exact h36) nz
            · skip
              refine mw_iload_n dX7_takesE_39 rfl ?_
              refine mw_if_eq (tgt := 180) dX7_takesE_40 (by decide) (fun h40 => ?_) (fun h40 => ?_)
              · skip
                refine mw_aload_n dX7_takesE_180 rfl ?_
                refine mw_geti dX7_takesE_181 fl_X7_207 rfl (by assumption) ?_
                rw [e10]
                refine mw_iconst (v := 3) dX7_takesE_184 (by decide) ?_
                refine mw_icmp_ne (tgt := 237) dX7_takesE_185 (by decide) (fun h185 => ?_) (fun h185 => ?_)
                · skip
                  first
                    | exact s237 (fun g => h185 (i3.mpr g.1))
                    | exact s237 (fun g => h194 g.2.1)
                    | exact s237 (fun g => absurd h198 (Int32.not_le.mpr (nI_lt (a := 0) g.2.2 (by omega))))
                    | fail "stop"
                · skip
                  refine mw_aload_n dX7_takesE_188 rfl ?_
                  refine mw_geti dX7_takesE_189 fl_X7_213 rfl (by assumption) ?_
                  rw [e11]
                  refine mw_bipush (v := 41) dX7_takesE_192 (by decide) ?_
                  refine mw_icmp_ne (tgt := 237) dX7_takesE_194 (by decide) (fun h194 => ?_) (fun h194 => ?_)
                  · skip
                    first
                      | exact s237 (fun g => h185 (i3.mpr g.1))
                      | exact s237 (fun g => h194 g.2.1)
                      | exact s237 (fun g => absurd h198 (Int32.not_le.mpr (nI_lt (a := 0) g.2.2 (by omega))))
                      | fail "stop"
                  · skip
                    refine mw_iload_n dX7_takesE_197 rfl ?_
                    refine mw_if_le (tgt := 237) dX7_takesE_198 (by decide) (fun h198 => ?_) (fun h198 => ?_)
                    · skip
                      first
                        | exact s237 (fun g => h185 (i3.mpr g.1))
                        | exact s237 (fun g => h194 g.2.1)
                        | exact s237 (fun g => absurd h198 (Int32.not_le.mpr (nI_lt (a := 0) g.2.2 (by omega))))
                        | fail "stop"
                    · skip
                      have p0 : 0 < pa := by { rcases Nat.eq_zero_or_pos pa with g | g; exact absurd (by rw [g]; decide) h198; exact g }
                      rw [if_pos (And.intro (i3.mp h185) (And.intro h194 p0))] at hR
                      refine mw_aload_n dX7_takesE_201 rfl ?_
                      refine mw_iconst (v := 0) dX7_takesE_202 (by decide) ?_
                      refine mw_callV (g := fX7_settle) dX7_takesE_203 ml_X7_240 mfX7_settle (ok_X7_settle (least := 0) hM hC (by omega)) k_o rfl rfl (Nat.le_of_ble_eq_true rfl) ⟨by decide, by decide⟩ ⟨by decide, by decide⟩ (fun r S2 m2 hp => ?_)
                      obtain ⟨rfl, e1, h2, f2⟩ := hp
                      rw [e1]
                      have sl := setF_len 0 C W
                      have so := setF_o 0 C W
                      obtain ⟨w, V, hV⟩ := setF_ne (C := C) (least := 0) (show 0 < cntO W by omega)
                      have hw := setF0_top C W w V hV
                      rw [hV] at h2 sl so hR
                      simp only [List.tail_cons] at hR
                      subst hw
                      have sl' : (setF 0 C W).1.length + (V.length + 1) = C.length + W.length := sl
                      have so' : cntO V = pa - 1 := by { simp only [cntO] at so; rw [if_pos trivial] at so; omega }
                      generalize (setF 0 C W).1 = C1 at h2 sl sl' hR
                      have d20 : m2 o 20 = nI (V.length + 1) := h2.2.2.1
                      refine mw_aload_n dX7_takesE_206 rfl ?_
                      refine mw_dup dX7_takesE_207 rfl ?_
                      refine mw_geti dX7_takesE_208 fl_X7_225 rfl (by assumption) ?_
                      rw [d20]
                      refine mw_iconst (v := 1) dX7_takesE_211 (by decide) ?_
                      refine mw_isub dX7_takesE_212 ?_
                      rw [nI_pred]
                      refine mw_puti dX7_takesE_213 fl_X7_225 ft_7_20 rfl (rfl) rfl (by assumption) ?_
                      have j1 : McS (m_up m2 o 20 (nI V.length)) o C1 t V := ⟨by rw [m_up_of (by decide)]; exact h2.1, by rw [m_up_of (by decide)]; exact h2.2.1, m_up_at _ _ _ _, by rw [m_up_ne (by omega)]; exact h2.2.2.2.1, by rw [m_up_ne (by omega)]; exact h2.2.2.2.2.pop⟩
                      have j2 : TkG (m_up m2 o 20 (nI V.length)) o G := (hm.s f2).o (by decide)
                      have j3 : FrE o mi (m_up m2 o 20 (nI V.length)) := (hF.tr (FrE.s f2)).up (by decide)
                      have j4 : m_up m2 o 20 (nI V.length) (o + 11) = td := by rw [m_up_ne (by omega), f2.1 (o + 11) (by omega) (by omega) (by omega)]; exact htd
                      generalize m_up m2 o 20 (nI V.length) = m3 at j1 j2 j3 j4
                      refine mw_iinc dX7_takesE_216 rfl (by decide) rfl ?_
                      rw [nI_dec (by omega)]
                      refine mw_aload_n dX7_takesE_219 rfl ?_
                      refine mw_bipush (v := 6) dX7_takesE_220 (by decide) ?_
                      refine mw_callV (g := fX7_settle) dX7_takesE_222 ml_X7_240 mfX7_settle (ok_X7_settle (least := 6) hM j1 (by omega)) k_o rfl rfl (Nat.le_of_ble_eq_true rfl) ⟨by decide, by decide⟩ ⟨by decide, by decide⟩ (fun r S4 m4 hp => ?_)
                      obtain ⟨rfl, e4, h4, f4⟩ := hp
                      rw [e4]
                      have sl6 := setF_len 6 C1 V
                      have so6 := setF_o 6 C1 V
                      generalize setF 6 C1 V = CW at h4 sl6 so6 hR
                      have l6 := j3.tr (FrE.s f4)
                      refine mw_aload_n dX7_takesE_225 rfl ?_
                      refine mw_cVI (g := fX7_notsOpen) dX7_takesE_226 ml_X7_247 mfX7_notsOpen (ok_X7_notsOpen (W := CW.2) hM h4.2.2.1 h4.2.2.2.2 (by omega)) (by assumption) rfl rfl (Nat.le_of_ble_eq_true rfl) ⟨by decide, by decide⟩ ⟨by decide, by decide⟩ ?_
                      refine mw_istN 2 dX7_takesE_229 rfl (by decide) ?_
                      refine mw_aload_n dX7_takesE_230 rfl ?_
                      refine mw_callV (g := fX7_go) dX7_takesE_231 ml_X7_222 mfX7_go (ok_X7_go hM (hB.e l6) b6 (j2.s f4) b2) k_o rfl rfl (Nat.le_of_ble_eq_true rfl) ⟨by decide, by decide⟩ ⟨by decide, by decide⟩ (fun r S5 m5 hp => ?_)
                      obtain ⟨rfl, e5, h5, f5⟩ := hp
                      rw [e5]
                      refine mw_goto (tgt := 28) dX7_takesE_234 (by decide) ?_
                      exact MW.sub (by simp [lsub]) (ih _ CW.1 t CW.2 td (pa - 1) (cntN CW.2) false m5 (by omega) hR ggb (by omega) (by omega) (by omega) (by have := cnt_le CW.2; omega) h5 (h4.g f5) (by rw [f5.1 (o + 11) (by omega), f4.1 (o + 11) (by omega) (by omega) (by omega)]; exact j4) (l6.tr (FrE.g f5)))
              · skip
                exact absurd rfl h40
  have f0 : FrE o mi (m_up (m_up (m_up (m_up mi o 17 0) o 18 0) o 20 0) (o + 11) 0 0) := ((((FrE.rf o mi).up (by decide)).up (by decide)).up (by decide)).upA (by omega)
  have c0 : McS (m_up (m_up (m_up (m_up mi o 17 0) o 18 0) o 20 0) (o + 11) 0 0) o [] 0 [] := ⟨by simp [m_up]; rfl, by simp [m_up]; rfl, by simp [m_up]; rfl, fun j hj => absurd hj (Nat.not_lt_zero j), fun j hj => absurd hj (Nat.not_lt_zero j)⟩
  have g0 : TkG (m_up (m_up (m_up (m_up mi o 17 0) o 18 0) o 20 0) (o + 11) 0 0) o G0 := (((hG.o (by decide)).o (by decide)).o (by decide)).a (by omega)
  have t0 : (m_up (m_up (m_up (m_up mi o 17 0) o 18 0) o 20 0) (o + 11) 0 0) (o + 11) = upd (mi (o + 11)) 0 0 := by rw [m_up_row, m_up_ne (by omega), m_up_ne (by omega), m_up_ne (by omega)]
  refine mw_iconst (v := 0) dX7_takesE_0 (by decide) ?_
  refine mw_istN 1 dX7_takesE_1 rfl (by decide) ?_
  refine mw_iconst (v := 0) dX7_takesE_2 (by decide) ?_
  refine mw_istN 2 dX7_takesE_3 rfl (by decide) ?_
  refine mw_iconst (v := 1) dX7_takesE_4 (by decide) ?_
  refine mw_istN 3 dX7_takesE_5 rfl (by decide) ?_
  refine mw_aload_n dX7_takesE_6 rfl ?_
  refine mw_iconst (v := 0) dX7_takesE_7 (by decide) ?_
  refine mw_puti dX7_takesE_8 fl_X7_231 ft_7_17 rfl (rfl) rfl (by assumption) ?_
  refine mw_aload_n dX7_takesE_11 rfl ?_
  refine mw_iconst (v := 0) dX7_takesE_12 (by decide) ?_
  refine mw_puti dX7_takesE_13 fl_X7_237 ft_7_18 rfl (rfl) rfl (by assumption) ?_
  refine mw_aload_n dX7_takesE_16 rfl ?_
  refine mw_iconst (v := 0) dX7_takesE_17 (by decide) ?_
  refine mw_puti dX7_takesE_18 fl_X7_225 ft_7_20 rfl (rfl) rfl (by assumption) ?_
  refine mw_aload_n dX7_takesE_21 rfl ?_
  refine mw_getr dX7_takesE_22 fl_X7_41 rfl (by assumption) (by assumption) ?_
  refine mw_iconst (v := 0) dX7_takesE_25 (by decide) ?_
  refine mw_iconst (v := 0) dX7_takesE_26 (by decide) ?_
  refine mw_zastK (k := 0) dX7_takesE_27 (by assumption) (rfl) (by decide) (by decide) (by decide) ?_
  exact MW.sub (by simp [lsub, nI_0]) (lp 97 G0 [] 0 [] _ 0 0 true _ (by omega) hRR hb (by simpa using h0) (by omega) rfl (by decide) g0 c0 t0 f0)
