/-! the constructor of the model -/
def fldT (j : Nat) : Nat := ([0, 1, 2, 4, 5, 6, 14, 15, 16, 19, 21, 22, 23, 24, 25, 26, 27, 28, 29, 30, 31, 32] : List Nat).getD j 0
def cT (j : Nat) : Nat := ([8, 8, 8, 8, 8, 8, 10, 8, 8, 8, 9, 8, 8, 8, 8, 8, 8, 8, 8, 8, 8, 8] : List Nat).getD j 0
def nT (j : Nat) : Nat := ([1438, 1438, 1438, 8, 8, 96, 11, 4, 96, 96, 10, 96, 4, 4, 4, 96, 5, 5, 5, 120, 24, 60] : List Nat).getD j 0
def MdP (i : Nat) (U : Sg) (o : Nat) : Prop := Kd U o 7 0 ∧ U.1 = o + 1 + i ∧ ∀ j, j < i → U.2.2 o (fldT j) = some (o + 1 + j) ∧ Kd U (o + 1 + j) (cT j) (nT j)
theorem mdp_s {i o : Nat} {U : Sg} (h : MdP i U o) (hd : ∀ j, j < i → fldT j ≠ fldT i) : MdP (i + 1) (alS U o (fldT i) (cT i) (nT i)) o := by
  obtain ⟨h0, h1, h2⟩ := h
  refine ⟨al_kd h0, by rw [al_1, h1]; omega, fun j hj => ?_⟩
  by_cases c : j = i
  · subst c
    exact ⟨by rw [al_r0, h1], by have g := al_kd0 U o (fldT j) (cT j) (nT j); rw [h1] at g; exact g⟩
  · have hji : j < i := by omega
    exact ⟨by rw [al_r h0.1 (fun g => hd j hji g.2)]; exact (h2 j hji).1, al_kd (h2 j hji).2⟩
theorem mdp_a {U : Sg} {o : Nat} (h : MdP 22 U o) : MdA U o := ⟨h.1, h.2.2 0 (by decide), h.2.2 1 (by decide), h.2.2 2 (by decide), h.2.2 3 (by decide), h.2.2 4 (by decide), h.2.2 5 (by decide), h.2.2 6 (by decide), h.2.2 7 (by decide), h.2.2 8 (by decide), h.2.2 9 (by decide), h.2.2 10 (by decide), h.2.2 11 (by decide), h.2.2 12 (by decide), h.2.2 13 (by decide), h.2.2 14 (by decide), h.2.2 15 (by decide), h.2.2 16 (by decide), h.2.2 17 (by decide), h.2.2 18 (by decide), h.2.2 19 (by decide), h.2.2 20 (by decide), h.2.2 21 (by decide)⟩
def keysR : Nat → Int32 := upd (upd (upd (upd (upd (upd (upd (upd (upd (upd (upd (fun _ => 0) 0 119) 1 97) 2 110) 3 116) 4 102) 5 101) 6 101) 7 102) 8 105) 9 110) 10 101
def katR : Nat → Int32 := upd (upd (upd (upd (fun _ => 0) 0 0) 1 4) 2 7) 3 11
def srtR : Nat → Int32 := upd (upd (upd (upd (fun _ => 0) 0 (-1)) 1 (-1)) 2 (-1)) 3 (-1)
def nowR (k : Nat) : Nat → Int32 := fun j => if 10 ≤ j ∧ j < 10 + k then nI (3 * (j - 10)) else if 18 ≤ j ∧ j < 18 + k then 5 else upd (upd (upd (fun _ => 0) 0 1) 6 10) 8 50 j
def iniZ (j : Nat) : Nat → Int32 := if j = 6 then keysR else if j = 7 then katR else if j = 13 then srtR else fun _ => 0
def iniR (j : Nat) : Nat → Int32 := if j = 0 then nowR 8 else iniZ j
def MmZ (mi : Mem) (o i : Nat) (m : Mem) : Prop := (∀ a, a < o + 1 → m a = mi a) ∧ ∀ j, j < i → m (o + 1 + j) = iniZ j
def WrP (m n : Mem) (p : Nat) (R : Nat → Int32) : Prop := n p = R ∧ ∀ a, a < p → n a = m a
theorem wr_n {U : Sg} {m : Mem} {p : Nat} (h : U.1 = p) : WrP m (nwM U m) p (fun _ => 0) := ⟨by rw [← h]; exact nwM_0 U m, fun a ha => by rw [nw_m (by rw [h]; omega)]⟩
theorem wr_u {m n : Mem} {p k : Nat} {R : Nat → Int32} {v : Int32} (h : WrP m n p R) : WrP m (m_up n p k v) p (upd R k v) := ⟨by rw [m_up_row, h.1], fun a ha => by rw [m_up_ne (by omega)]; exact h.2 a ha⟩
theorem mmz_s {mi m n : Mem} {o i : Nat} {R : Nat → Int32} (h : MmZ mi o i m) (w : WrP m n (o + 1 + i) R) (e : R = iniZ i) : MmZ mi o (i + 1) n := by
  refine ⟨fun a ha => by rw [w.2 a (by omega)]; exact h.1 a ha, fun j hj => ?_⟩
  by_cases c : j = i
  · subst c; exact w.1.trans e
  · rw [w.2 (o + 1 + j) (by omega)]; exact h.2 j (by omega)
def MiP (S : Sg) (mi : Mem) (o : Nat) (S' : Sg) (m : Mem) : Prop := S'.1 = o + 23 ∧ MdA S' o ∧ Ext o S S' ∧ (∀ a, a < o + 1 → m a = mi a) ∧ ∀ j, j < 22 → m (o + 1 + j) = iniR j
theorem dX7_init_0 : decode fX7_init.2.1 0 = .ok (.aload_n 0, 1) := by decide +kernel
theorem dX7_init_1 : decode fX7_init.2.1 1 = .ok (.invokespecial 1, 3) := by decide +kernel
theorem dX7_init_4 : decode fX7_init.2.1 4 = .ok (.aload_n 0, 1) := by decide +kernel
theorem dX7_init_5 : decode fX7_init.2.1 5 = .ok (.sipush 1438, 3) := by decide +kernel
theorem dX7_init_8 : decode fX7_init.2.1 8 = .ok (.newarray .int, 2) := by decide +kernel
theorem dX7_init_10 : decode fX7_init.2.1 10 = .ok (.putfield 9, 3) := by decide +kernel
theorem dX7_init_13 : decode fX7_init.2.1 13 = .ok (.aload_n 0, 1) := by decide +kernel
theorem dX7_init_14 : decode fX7_init.2.1 14 = .ok (.sipush 1438, 3) := by decide +kernel
theorem dX7_init_17 : decode fX7_init.2.1 17 = .ok (.newarray .int, 2) := by decide +kernel
theorem dX7_init_19 : decode fX7_init.2.1 19 = .ok (.putfield 13, 3) := by decide +kernel
theorem dX7_init_22 : decode fX7_init.2.1 22 = .ok (.aload_n 0, 1) := by decide +kernel
theorem dX7_init_23 : decode fX7_init.2.1 23 = .ok (.sipush 1438, 3) := by decide +kernel
theorem dX7_init_26 : decode fX7_init.2.1 26 = .ok (.newarray .int, 2) := by decide +kernel
theorem dX7_init_28 : decode fX7_init.2.1 28 = .ok (.putfield 16, 3) := by decide +kernel
theorem dX7_init_31 : decode fX7_init.2.1 31 = .ok (.aload_n 0, 1) := by decide +kernel
theorem dX7_init_32 : decode fX7_init.2.1 32 = .ok (.bipush 8, 2) := by decide +kernel
theorem dX7_init_34 : decode fX7_init.2.1 34 = .ok (.newarray .int, 2) := by decide +kernel
theorem dX7_init_36 : decode fX7_init.2.1 36 = .ok (.putfield 19, 3) := by decide +kernel
theorem dX7_init_39 : decode fX7_init.2.1 39 = .ok (.aload_n 0, 1) := by decide +kernel
theorem dX7_init_40 : decode fX7_init.2.1 40 = .ok (.bipush 8, 2) := by decide +kernel
theorem dX7_init_42 : decode fX7_init.2.1 42 = .ok (.newarray .int, 2) := by decide +kernel
theorem dX7_init_44 : decode fX7_init.2.1 44 = .ok (.putfield 22, 3) := by decide +kernel
theorem dX7_init_47 : decode fX7_init.2.1 47 = .ok (.aload_n 0, 1) := by decide +kernel
theorem dX7_init_48 : decode fX7_init.2.1 48 = .ok (.bipush 96, 2) := by decide +kernel
theorem dX7_init_50 : decode fX7_init.2.1 50 = .ok (.newarray .int, 2) := by decide +kernel
theorem dX7_init_52 : decode fX7_init.2.1 52 = .ok (.putfield 25, 3) := by decide +kernel
theorem dX7_init_55 : decode fX7_init.2.1 55 = .ok (.aload_n 0, 1) := by decide +kernel
theorem dX7_init_56 : decode fX7_init.2.1 56 = .ok (.bipush 11, 2) := by decide +kernel
theorem dX7_init_58 : decode fX7_init.2.1 58 = .ok (.newarray .char, 2) := by decide +kernel
theorem dX7_init_60 : decode fX7_init.2.1 60 = .ok (.dup, 1) := by decide +kernel
theorem dX7_init_61 : decode fX7_init.2.1 61 = .ok (.iconst 0, 1) := by decide +kernel
theorem dX7_init_62 : decode fX7_init.2.1 62 = .ok (.bipush 119, 2) := by decide +kernel
theorem dX7_init_64 : decode fX7_init.2.1 64 = .ok (.castore, 1) := by decide +kernel
theorem dX7_init_65 : decode fX7_init.2.1 65 = .ok (.dup, 1) := by decide +kernel
theorem dX7_init_66 : decode fX7_init.2.1 66 = .ok (.iconst 1, 1) := by decide +kernel
theorem dX7_init_67 : decode fX7_init.2.1 67 = .ok (.bipush 97, 2) := by decide +kernel
theorem dX7_init_69 : decode fX7_init.2.1 69 = .ok (.castore, 1) := by decide +kernel
theorem dX7_init_70 : decode fX7_init.2.1 70 = .ok (.dup, 1) := by decide +kernel
theorem dX7_init_71 : decode fX7_init.2.1 71 = .ok (.iconst 2, 1) := by decide +kernel
theorem dX7_init_72 : decode fX7_init.2.1 72 = .ok (.bipush 110, 2) := by decide +kernel
theorem dX7_init_74 : decode fX7_init.2.1 74 = .ok (.castore, 1) := by decide +kernel
theorem dX7_init_75 : decode fX7_init.2.1 75 = .ok (.dup, 1) := by decide +kernel
theorem dX7_init_76 : decode fX7_init.2.1 76 = .ok (.iconst 3, 1) := by decide +kernel
theorem dX7_init_77 : decode fX7_init.2.1 77 = .ok (.bipush 116, 2) := by decide +kernel
theorem dX7_init_79 : decode fX7_init.2.1 79 = .ok (.castore, 1) := by decide +kernel
theorem dX7_init_80 : decode fX7_init.2.1 80 = .ok (.dup, 1) := by decide +kernel
theorem dX7_init_81 : decode fX7_init.2.1 81 = .ok (.iconst 4, 1) := by decide +kernel
theorem dX7_init_82 : decode fX7_init.2.1 82 = .ok (.bipush 102, 2) := by decide +kernel
theorem dX7_init_84 : decode fX7_init.2.1 84 = .ok (.castore, 1) := by decide +kernel
theorem dX7_init_85 : decode fX7_init.2.1 85 = .ok (.dup, 1) := by decide +kernel
theorem dX7_init_86 : decode fX7_init.2.1 86 = .ok (.iconst 5, 1) := by decide +kernel
theorem dX7_init_87 : decode fX7_init.2.1 87 = .ok (.bipush 101, 2) := by decide +kernel
theorem dX7_init_89 : decode fX7_init.2.1 89 = .ok (.castore, 1) := by decide +kernel
theorem dX7_init_90 : decode fX7_init.2.1 90 = .ok (.dup, 1) := by decide +kernel
theorem dX7_init_91 : decode fX7_init.2.1 91 = .ok (.bipush 6, 2) := by decide +kernel
theorem dX7_init_93 : decode fX7_init.2.1 93 = .ok (.bipush 101, 2) := by decide +kernel
theorem dX7_init_95 : decode fX7_init.2.1 95 = .ok (.castore, 1) := by decide +kernel
theorem dX7_init_96 : decode fX7_init.2.1 96 = .ok (.dup, 1) := by decide +kernel
theorem dX7_init_97 : decode fX7_init.2.1 97 = .ok (.bipush 7, 2) := by decide +kernel
theorem dX7_init_99 : decode fX7_init.2.1 99 = .ok (.bipush 102, 2) := by decide +kernel
theorem dX7_init_101 : decode fX7_init.2.1 101 = .ok (.castore, 1) := by decide +kernel
theorem dX7_init_102 : decode fX7_init.2.1 102 = .ok (.dup, 1) := by decide +kernel
theorem dX7_init_103 : decode fX7_init.2.1 103 = .ok (.bipush 8, 2) := by decide +kernel
theorem dX7_init_105 : decode fX7_init.2.1 105 = .ok (.bipush 105, 2) := by decide +kernel
theorem dX7_init_107 : decode fX7_init.2.1 107 = .ok (.castore, 1) := by decide +kernel
theorem dX7_init_108 : decode fX7_init.2.1 108 = .ok (.dup, 1) := by decide +kernel
theorem dX7_init_109 : decode fX7_init.2.1 109 = .ok (.bipush 9, 2) := by decide +kernel
theorem dX7_init_111 : decode fX7_init.2.1 111 = .ok (.bipush 110, 2) := by decide +kernel
theorem dX7_init_113 : decode fX7_init.2.1 113 = .ok (.castore, 1) := by decide +kernel
theorem dX7_init_114 : decode fX7_init.2.1 114 = .ok (.dup, 1) := by decide +kernel
theorem dX7_init_115 : decode fX7_init.2.1 115 = .ok (.bipush 10, 2) := by decide +kernel
theorem dX7_init_117 : decode fX7_init.2.1 117 = .ok (.bipush 101, 2) := by decide +kernel
theorem dX7_init_119 : decode fX7_init.2.1 119 = .ok (.castore, 1) := by decide +kernel
theorem dX7_init_120 : decode fX7_init.2.1 120 = .ok (.putfield 28, 3) := by decide +kernel
theorem dX7_init_123 : decode fX7_init.2.1 123 = .ok (.aload_n 0, 1) := by decide +kernel
theorem dX7_init_124 : decode fX7_init.2.1 124 = .ok (.iconst 4, 1) := by decide +kernel
theorem dX7_init_125 : decode fX7_init.2.1 125 = .ok (.newarray .int, 2) := by decide +kernel
theorem dX7_init_127 : decode fX7_init.2.1 127 = .ok (.dup, 1) := by decide +kernel
theorem dX7_init_128 : decode fX7_init.2.1 128 = .ok (.iconst 0, 1) := by decide +kernel
theorem dX7_init_129 : decode fX7_init.2.1 129 = .ok (.iconst 0, 1) := by decide +kernel
theorem dX7_init_130 : decode fX7_init.2.1 130 = .ok (.iastore, 1) := by decide +kernel
theorem dX7_init_131 : decode fX7_init.2.1 131 = .ok (.dup, 1) := by decide +kernel
theorem dX7_init_132 : decode fX7_init.2.1 132 = .ok (.iconst 1, 1) := by decide +kernel
theorem dX7_init_133 : decode fX7_init.2.1 133 = .ok (.iconst 4, 1) := by decide +kernel
theorem dX7_init_134 : decode fX7_init.2.1 134 = .ok (.iastore, 1) := by decide +kernel
theorem dX7_init_135 : decode fX7_init.2.1 135 = .ok (.dup, 1) := by decide +kernel
theorem dX7_init_136 : decode fX7_init.2.1 136 = .ok (.iconst 2, 1) := by decide +kernel
theorem dX7_init_137 : decode fX7_init.2.1 137 = .ok (.bipush 7, 2) := by decide +kernel
theorem dX7_init_139 : decode fX7_init.2.1 139 = .ok (.iastore, 1) := by decide +kernel
theorem dX7_init_140 : decode fX7_init.2.1 140 = .ok (.dup, 1) := by decide +kernel
theorem dX7_init_141 : decode fX7_init.2.1 141 = .ok (.iconst 3, 1) := by decide +kernel
theorem dX7_init_142 : decode fX7_init.2.1 142 = .ok (.bipush 11, 2) := by decide +kernel
theorem dX7_init_144 : decode fX7_init.2.1 144 = .ok (.iastore, 1) := by decide +kernel
theorem dX7_init_145 : decode fX7_init.2.1 145 = .ok (.putfield 32, 3) := by decide +kernel
theorem dX7_init_148 : decode fX7_init.2.1 148 = .ok (.aload_n 0, 1) := by decide +kernel
theorem dX7_init_149 : decode fX7_init.2.1 149 = .ok (.bipush 96, 2) := by decide +kernel
theorem dX7_init_151 : decode fX7_init.2.1 151 = .ok (.newarray .int, 2) := by decide +kernel
theorem dX7_init_153 : decode fX7_init.2.1 153 = .ok (.putfield 35, 3) := by decide +kernel
theorem dX7_init_156 : decode fX7_init.2.1 156 = .ok (.aload_n 0, 1) := by decide +kernel
theorem dX7_init_157 : decode fX7_init.2.1 157 = .ok (.bipush 96, 2) := by decide +kernel
theorem dX7_init_159 : decode fX7_init.2.1 159 = .ok (.newarray .int, 2) := by decide +kernel
theorem dX7_init_161 : decode fX7_init.2.1 161 = .ok (.putfield 38, 3) := by decide +kernel
theorem dX7_init_164 : decode fX7_init.2.1 164 = .ok (.aload_n 0, 1) := by decide +kernel
theorem dX7_init_165 : decode fX7_init.2.1 165 = .ok (.bipush 10, 2) := by decide +kernel
theorem dX7_init_167 : decode fX7_init.2.1 167 = .ok (.newarray .boolean, 2) := by decide +kernel
theorem dX7_init_169 : decode fX7_init.2.1 169 = .ok (.putfield 41, 3) := by decide +kernel
theorem dX7_init_172 : decode fX7_init.2.1 172 = .ok (.aload_n 0, 1) := by decide +kernel
theorem dX7_init_173 : decode fX7_init.2.1 173 = .ok (.bipush 96, 2) := by decide +kernel
theorem dX7_init_175 : decode fX7_init.2.1 175 = .ok (.newarray .int, 2) := by decide +kernel
theorem dX7_init_177 : decode fX7_init.2.1 177 = .ok (.putfield 45, 3) := by decide +kernel
theorem dX7_init_180 : decode fX7_init.2.1 180 = .ok (.aload_n 0, 1) := by decide +kernel
theorem dX7_init_181 : decode fX7_init.2.1 181 = .ok (.iconst 4, 1) := by decide +kernel
theorem dX7_init_182 : decode fX7_init.2.1 182 = .ok (.newarray .int, 2) := by decide +kernel
theorem dX7_init_184 : decode fX7_init.2.1 184 = .ok (.putfield 48, 3) := by decide +kernel
theorem dX7_init_187 : decode fX7_init.2.1 187 = .ok (.aload_n 0, 1) := by decide +kernel
theorem dX7_init_188 : decode fX7_init.2.1 188 = .ok (.iconst 4, 1) := by decide +kernel
theorem dX7_init_189 : decode fX7_init.2.1 189 = .ok (.newarray .int, 2) := by decide +kernel
theorem dX7_init_191 : decode fX7_init.2.1 191 = .ok (.dup, 1) := by decide +kernel
theorem dX7_init_192 : decode fX7_init.2.1 192 = .ok (.iconst 0, 1) := by decide +kernel
theorem dX7_init_193 : decode fX7_init.2.1 193 = .ok (.iconst (-1), 1) := by decide +kernel
theorem dX7_init_194 : decode fX7_init.2.1 194 = .ok (.iastore, 1) := by decide +kernel
theorem dX7_init_195 : decode fX7_init.2.1 195 = .ok (.dup, 1) := by decide +kernel
theorem dX7_init_196 : decode fX7_init.2.1 196 = .ok (.iconst 1, 1) := by decide +kernel
theorem dX7_init_197 : decode fX7_init.2.1 197 = .ok (.iconst (-1), 1) := by decide +kernel
theorem dX7_init_198 : decode fX7_init.2.1 198 = .ok (.iastore, 1) := by decide +kernel
theorem dX7_init_199 : decode fX7_init.2.1 199 = .ok (.dup, 1) := by decide +kernel
theorem dX7_init_200 : decode fX7_init.2.1 200 = .ok (.iconst 2, 1) := by decide +kernel
theorem dX7_init_201 : decode fX7_init.2.1 201 = .ok (.iconst (-1), 1) := by decide +kernel
theorem dX7_init_202 : decode fX7_init.2.1 202 = .ok (.iastore, 1) := by decide +kernel
theorem dX7_init_203 : decode fX7_init.2.1 203 = .ok (.dup, 1) := by decide +kernel
theorem dX7_init_204 : decode fX7_init.2.1 204 = .ok (.iconst 3, 1) := by decide +kernel
theorem dX7_init_205 : decode fX7_init.2.1 205 = .ok (.iconst (-1), 1) := by decide +kernel
theorem dX7_init_206 : decode fX7_init.2.1 206 = .ok (.iastore, 1) := by decide +kernel
theorem dX7_init_207 : decode fX7_init.2.1 207 = .ok (.putfield 51, 3) := by decide +kernel
theorem dX7_init_210 : decode fX7_init.2.1 210 = .ok (.aload_n 0, 1) := by decide +kernel
theorem dX7_init_211 : decode fX7_init.2.1 211 = .ok (.iconst 4, 1) := by decide +kernel
theorem dX7_init_212 : decode fX7_init.2.1 212 = .ok (.newarray .int, 2) := by decide +kernel
theorem dX7_init_214 : decode fX7_init.2.1 214 = .ok (.putfield 54, 3) := by decide +kernel
theorem dX7_init_217 : decode fX7_init.2.1 217 = .ok (.aload_n 0, 1) := by decide +kernel
theorem dX7_init_218 : decode fX7_init.2.1 218 = .ok (.bipush 96, 2) := by decide +kernel
theorem dX7_init_220 : decode fX7_init.2.1 220 = .ok (.newarray .int, 2) := by decide +kernel
theorem dX7_init_222 : decode fX7_init.2.1 222 = .ok (.putfield 57, 3) := by decide +kernel
theorem dX7_init_225 : decode fX7_init.2.1 225 = .ok (.aload_n 0, 1) := by decide +kernel
theorem dX7_init_226 : decode fX7_init.2.1 226 = .ok (.iconst 5, 1) := by decide +kernel
theorem dX7_init_227 : decode fX7_init.2.1 227 = .ok (.newarray .int, 2) := by decide +kernel
theorem dX7_init_229 : decode fX7_init.2.1 229 = .ok (.putfield 60, 3) := by decide +kernel
theorem dX7_init_232 : decode fX7_init.2.1 232 = .ok (.aload_n 0, 1) := by decide +kernel
theorem dX7_init_233 : decode fX7_init.2.1 233 = .ok (.iconst 5, 1) := by decide +kernel
theorem dX7_init_234 : decode fX7_init.2.1 234 = .ok (.newarray .int, 2) := by decide +kernel
theorem dX7_init_236 : decode fX7_init.2.1 236 = .ok (.putfield 63, 3) := by decide +kernel
theorem dX7_init_239 : decode fX7_init.2.1 239 = .ok (.aload_n 0, 1) := by decide +kernel
theorem dX7_init_240 : decode fX7_init.2.1 240 = .ok (.iconst 5, 1) := by decide +kernel
theorem dX7_init_241 : decode fX7_init.2.1 241 = .ok (.newarray .int, 2) := by decide +kernel
theorem dX7_init_243 : decode fX7_init.2.1 243 = .ok (.putfield 66, 3) := by decide +kernel
theorem dX7_init_246 : decode fX7_init.2.1 246 = .ok (.aload_n 0, 1) := by decide +kernel
theorem dX7_init_247 : decode fX7_init.2.1 247 = .ok (.bipush 120, 2) := by decide +kernel
theorem dX7_init_249 : decode fX7_init.2.1 249 = .ok (.newarray .int, 2) := by decide +kernel
theorem dX7_init_251 : decode fX7_init.2.1 251 = .ok (.putfield 69, 3) := by decide +kernel
theorem dX7_init_254 : decode fX7_init.2.1 254 = .ok (.aload_n 0, 1) := by decide +kernel
theorem dX7_init_255 : decode fX7_init.2.1 255 = .ok (.bipush 24, 2) := by decide +kernel
theorem dX7_init_257 : decode fX7_init.2.1 257 = .ok (.newarray .int, 2) := by decide +kernel
theorem dX7_init_259 : decode fX7_init.2.1 259 = .ok (.putfield 72, 3) := by decide +kernel
theorem dX7_init_262 : decode fX7_init.2.1 262 = .ok (.aload_n 0, 1) := by decide +kernel
theorem dX7_init_263 : decode fX7_init.2.1 263 = .ok (.bipush 60, 2) := by decide +kernel
theorem dX7_init_265 : decode fX7_init.2.1 265 = .ok (.newarray .int, 2) := by decide +kernel
theorem dX7_init_267 : decode fX7_init.2.1 267 = .ok (.putfield 75, 3) := by decide +kernel
theorem dX7_init_270 : decode fX7_init.2.1 270 = .ok (.aload_n 0, 1) := by decide +kernel
theorem dX7_init_271 : decode fX7_init.2.1 271 = .ok (.getfield 9, 3) := by decide +kernel
theorem dX7_init_274 : decode fX7_init.2.1 274 = .ok (.iconst 0, 1) := by decide +kernel
theorem dX7_init_275 : decode fX7_init.2.1 275 = .ok (.iconst 1, 1) := by decide +kernel
theorem dX7_init_276 : decode fX7_init.2.1 276 = .ok (.iastore, 1) := by decide +kernel
theorem dX7_init_277 : decode fX7_init.2.1 277 = .ok (.aload_n 0, 1) := by decide +kernel
theorem dX7_init_278 : decode fX7_init.2.1 278 = .ok (.getfield 9, 3) := by decide +kernel
theorem dX7_init_281 : decode fX7_init.2.1 281 = .ok (.bipush 6, 2) := by decide +kernel
theorem dX7_init_283 : decode fX7_init.2.1 283 = .ok (.bipush 10, 2) := by decide +kernel
theorem dX7_init_285 : decode fX7_init.2.1 285 = .ok (.iastore, 1) := by decide +kernel
theorem dX7_init_286 : decode fX7_init.2.1 286 = .ok (.aload_n 0, 1) := by decide +kernel
theorem dX7_init_287 : decode fX7_init.2.1 287 = .ok (.getfield 9, 3) := by decide +kernel
theorem dX7_init_290 : decode fX7_init.2.1 290 = .ok (.bipush 8, 2) := by decide +kernel
theorem dX7_init_292 : decode fX7_init.2.1 292 = .ok (.bipush 50, 2) := by decide +kernel
theorem dX7_init_294 : decode fX7_init.2.1 294 = .ok (.iastore, 1) := by decide +kernel
theorem dX7_init_295 : decode fX7_init.2.1 295 = .ok (.iconst 0, 1) := by decide +kernel
theorem dX7_init_296 : decode fX7_init.2.1 296 = .ok (.istore_n 1, 1) := by decide +kernel
theorem dX7_init_297 : decode fX7_init.2.1 297 = .ok (.iload_n 1, 1) := by decide +kernel
theorem dX7_init_298 : decode fX7_init.2.1 298 = .ok (.bipush 8, 2) := by decide +kernel
theorem dX7_init_300 : decode fX7_init.2.1 300 = .ok (.if_icmp .ge 31, 3) := by decide +kernel
theorem dX7_init_303 : decode fX7_init.2.1 303 = .ok (.aload_n 0, 1) := by decide +kernel
theorem dX7_init_304 : decode fX7_init.2.1 304 = .ok (.getfield 9, 3) := by decide +kernel
theorem dX7_init_307 : decode fX7_init.2.1 307 = .ok (.bipush 10, 2) := by decide +kernel
theorem dX7_init_309 : decode fX7_init.2.1 309 = .ok (.iload_n 1, 1) := by decide +kernel
theorem dX7_init_310 : decode fX7_init.2.1 310 = .ok (.iadd, 1) := by decide +kernel
theorem dX7_init_311 : decode fX7_init.2.1 311 = .ok (.iconst 3, 1) := by decide +kernel
theorem dX7_init_312 : decode fX7_init.2.1 312 = .ok (.iload_n 1, 1) := by decide +kernel
theorem dX7_init_313 : decode fX7_init.2.1 313 = .ok (.imul, 1) := by decide +kernel
theorem dX7_init_314 : decode fX7_init.2.1 314 = .ok (.iastore, 1) := by decide +kernel
theorem dX7_init_315 : decode fX7_init.2.1 315 = .ok (.aload_n 0, 1) := by decide +kernel
theorem dX7_init_316 : decode fX7_init.2.1 316 = .ok (.getfield 9, 3) := by decide +kernel
theorem dX7_init_319 : decode fX7_init.2.1 319 = .ok (.bipush 18, 2) := by decide +kernel
theorem dX7_init_321 : decode fX7_init.2.1 321 = .ok (.iload_n 1, 1) := by decide +kernel
theorem dX7_init_322 : decode fX7_init.2.1 322 = .ok (.iadd, 1) := by decide +kernel
theorem dX7_init_323 : decode fX7_init.2.1 323 = .ok (.iconst 5, 1) := by decide +kernel
theorem dX7_init_324 : decode fX7_init.2.1 324 = .ok (.iastore, 1) := by decide +kernel
theorem dX7_init_325 : decode fX7_init.2.1 325 = .ok (.iinc 1 1, 3) := by decide +kernel
theorem dX7_init_328 : decode fX7_init.2.1 328 = .ok (.goto (-31), 3) := by decide +kernel
theorem dX7_init_331 : decode fX7_init.2.1 331 = .ok (.return_, 1) := by decide +kernel
set_option maxRecDepth 100000 in
set_option maxHeartbeats 40000000 in
theorem ok_X7_init {X : Xb} {S : Sg} {mi : Mem} {o : Nat} (hq : Kd S o 7 0) (h1 : S.1 = o + 1) : Ok 1 22 5066 fX7_init X [rf X o] S mi (fun r S' m => r = none ∧ MiP S mi o S' m) := by
  refine Ok.go [some (rf X o), none] (by decide) (by simp [Value.category]) (Nat.le_of_ble_eq_true rfl) rfl ?_
  have p0 : MdP 0 S o := ⟨hq, by rw [h1], fun j hj => absurd hj (Nat.not_lt_zero j)⟩
  have q0 : MmZ mi o 0 mi := ⟨fun _ _ => rfl, fun j hj => absurd hj (Nat.not_lt_zero j)⟩
  have x0 : Ext o S S := Ext.rf o S
  have lp : ∀ U (m0 m : Mem), MdP 22 U o → Ext o S U → MmZ mi o 22 m0 → (∀ a, a ≠ o + 1 → m a = m0 a) → m (o + 1) = nowR 0 → MW X fX7_init (rmOf 1 22 5066) 22 5066 297 [some (rf X o), some (.int (nI 0))] [] U m (mQ X 22 5066 (fun r S' m => r = none ∧ MiP S mi o S' m)) := by
    intro U m0 m1 hp hx hm ha0 h0
    have kn : Kd U (o + 1) 8 1438 := (hp.2.2 0 (by decide)).2
    have rn : U.2.2 o 0 = some (o + 1) := (hp.2.2 0 (by decide)).1
    have kx := hp.1
    have lp2 : ∀ f k, f + k = 8 → ∀ m, (∀ a, a ≠ o + 1 → m a = m0 a) → m (o + 1) = nowR k → MW X fX7_init (rmOf 1 22 5066) 22 5066 297 [some (rf X o), some (.int (nI k))] [] U m (mQ X 22 5066 (fun r S' m => r = none ∧ MiP S mi o S' m)) := by
      intro f
      induction f with
      | zero =>
        intro k hk m ha hn
        obtain rfl : k = 8 := by omega
        refine mw_iload_n dX7_init_297 rfl ?_
        refine mw_bipush (v := 8) dX7_init_298 (by decide) ?_
        refine mw_icmp_ge (tgt := 331) dX7_init_300 (by decide) (fun h300 => ?_) (fun h300 => ?_)
        · skip
          refine mw_vret dX7_init_331 rfl (by decide) (by decide) ⟨rfl, hp.2.1, mdp_a hp, hx, fun a h => by rw [ha a (by omega)]; exact hm.1 a h, fun j hj => ?_⟩
          by_cases c : j = 0
          · subst c; exact hn
          · rw [ha (o + 1 + j) (by omega), hm.2 j hj, iniR, if_neg c]
        · skip
          exact absurd (by decide) h300
      | succ f ih =>
        intro k hk m ha hn
        have e3 : (3 : Int32) * nI k = nI (3 * k) := by show nI 3 * nI k = _; rw [nI_mul]
        refine mw_iload_n dX7_init_297 rfl ?_
        refine mw_bipush (v := 8) dX7_init_298 (by decide) ?_
        refine mw_icmp_ge (tgt := 331) dX7_init_300 (by decide) (fun h300 => ?_) (fun h300 => ?_)
        · skip
          exact absurd h300 (nI_ge (b := 8) (by omega) (by decide))
        · skip
          refine mw_aload_n dX7_init_303 rfl ?_
          refine mw_getr dX7_init_304 fl_X7_9 rfl (kx) (rn) ?_
          refine mw_bipush (v := 10) dX7_init_307 (by decide) ?_
          refine mw_iload_n dX7_init_309 rfl ?_
          refine mw_iadd dX7_init_310 ?_
          rw [ix10]
          refine mw_iconst (v := 3) dX7_init_311 (by decide) ?_
          refine mw_iload_n dX7_init_312 rfl ?_
          refine mw_imul dX7_init_313 ?_
          rw [e3]
          refine mw_iastK (k := 10 + k) dX7_init_314 (kn) (rfl) (by omega) (by decide) ?_
          refine mw_aload_n dX7_init_315 rfl ?_
          refine mw_getr dX7_init_316 fl_X7_9 rfl (kx) (rn) ?_
          refine mw_bipush (v := 18) dX7_init_319 (by decide) ?_
          refine mw_iload_n dX7_init_321 rfl ?_
          refine mw_iadd dX7_init_322 ?_
          rw [ix18]
          refine mw_iconst (v := 5) dX7_init_323 (by decide) ?_
          refine mw_iastK (k := 18 + k) dX7_init_324 (kn) (rfl) (by omega) (by decide) ?_
          refine mw_iincK (k := k) dX7_init_325 rfl rfl (by decide) ?_
          refine mw_goto (tgt := 297) dX7_init_328 (by decide) ?_
          refine MW.sub (by simp [lsub]) (ih (k + 1) (by omega) _ (fun a h => by rw [m_up_ne h, m_up_ne h]; exact ha a h) ?_)
          rw [m_up_row, m_up_row, hn]
          funext j
          simp only [upd, nowR]
          by_cases c1 : j = 18 + k
          · rw [if_pos c1, if_neg (show ¬ (10 ≤ j ∧ j < 10 + (k + 1)) by omega), if_pos (show 18 ≤ j ∧ j < 18 + (k + 1) by omega)]
          · rw [if_neg c1]
            by_cases c2 : j = 10 + k
            · rw [if_pos c2, if_pos (show 10 ≤ j ∧ j < 10 + (k + 1) by omega), show j - 10 = k by omega]
            · rw [if_neg c2]
              by_cases c3 : 10 ≤ j ∧ j < 10 + k
              · rw [if_pos c3, if_pos (show 10 ≤ j ∧ j < 10 + (k + 1) by omega)]
              · rw [if_neg c3, if_neg (show ¬ (10 ≤ j ∧ j < 10 + (k + 1)) by omega)]
                by_cases c4 : 18 ≤ j ∧ j < 18 + k
                · rw [if_pos c4, if_pos (show 18 ≤ j ∧ j < 18 + (k + 1) by omega)]
                · rw [if_neg c4, if_neg (show ¬ (18 ≤ j ∧ j < 18 + (k + 1)) by omega)]
    exact lp2 8 0 rfl m1 ha0 h0
  refine mw_aload_n dX7_init_0 rfl ?_
  refine mw_objI dX7_init_1 ml_X7_1 (Nat.le_of_ble_eq_true rfl) ⟨by decide, by decide⟩ ?_
  refine mw_aload_n dX7_init_4 rfl ?_
  refine mw_sipush (v := 1438) dX7_init_5 (by decide) ?_
  refine mw_newi (S := S) (N := 1438) dX7_init_8 arr_int (by decide) (by decide) (by decide) (by decide) (by decide) ?_
  rw [p0.2.1]
  have w0 := wr_n (m := mi) p0.2.1
  have kz0 : Kd (nwS S 8 1438) (o + 1 + 0) 8 1438 := by (have g := Kd_nw0 S 8 1438; rw [p0.2.1] at g; exact g)
  generalize nwM S mi = n0 at w0 ⊢
  refine mw_putFr (S := nwS S 8 1438) (a := o + 1 + 0) dX7_init_10 fl_X7_9 ft_7_0 rfl (fun q h => by cases h; rfl) rfl rfl rfl (Kd_nw p0.1) ?_
  have p1 : MdP 1 (alS S o 0 8 1438) o := mdp_s p0 (by decide)
  have x1 : Ext o S (alS S o 0 8 1438) := x0.tr (Ext.al S o 0 8 1438)
  have hz0 : ((nwS S 8 1438).1, (nwS S 8 1438).2.1, r_up (nwS S 8 1438).2.2 o 0 (some (o + 1 + 0))) = (alS S o 0 8 1438) := by (rw [alS, p0.2.1])
  rw [hz0]
  generalize (alS S o 0 8 1438) = U1 at p1 x1 ⊢
  have q1 : MmZ mi o 1 n0 := mmz_s q0 w0 rfl
  generalize n0 = m1 at q1 ⊢
  refine mw_aload_n dX7_init_13 rfl ?_
  refine mw_sipush (v := 1438) dX7_init_14 (by decide) ?_
  refine mw_newi (S := U1) (N := 1438) dX7_init_17 arr_int (by decide) (by decide) (by decide) (by decide) (by decide) ?_
  rw [p1.2.1]
  have w1 := wr_n (m := m1) p1.2.1
  have kz1 : Kd (nwS U1 8 1438) (o + 1 + 1) 8 1438 := by (have g := Kd_nw0 U1 8 1438; rw [p1.2.1] at g; exact g)
  generalize nwM U1 m1 = n1 at w1 ⊢
  refine mw_putFr (S := nwS U1 8 1438) (a := o + 1 + 1) dX7_init_19 fl_X7_13 ft_7_1 rfl (fun q h => by cases h; rfl) rfl rfl rfl (Kd_nw p1.1) ?_
  have p2 : MdP 2 (alS U1 o 1 8 1438) o := mdp_s p1 (by decide)
  have x2 : Ext o S (alS U1 o 1 8 1438) := x1.tr (Ext.al U1 o 1 8 1438)
  have hz1 : ((nwS U1 8 1438).1, (nwS U1 8 1438).2.1, r_up (nwS U1 8 1438).2.2 o 1 (some (o + 1 + 1))) = (alS U1 o 1 8 1438) := by (rw [alS, p1.2.1])
  rw [hz1]
  generalize (alS U1 o 1 8 1438) = U2 at p2 x2 ⊢
  have q2 : MmZ mi o 2 n1 := mmz_s q1 w1 rfl
  generalize n1 = m2 at q2 ⊢
  refine mw_aload_n dX7_init_22 rfl ?_
  refine mw_sipush (v := 1438) dX7_init_23 (by decide) ?_
  refine mw_newi (S := U2) (N := 1438) dX7_init_26 arr_int (by decide) (by decide) (by decide) (by decide) (by decide) ?_
  rw [p2.2.1]
  have w2 := wr_n (m := m2) p2.2.1
  have kz2 : Kd (nwS U2 8 1438) (o + 1 + 2) 8 1438 := by (have g := Kd_nw0 U2 8 1438; rw [p2.2.1] at g; exact g)
  generalize nwM U2 m2 = n2 at w2 ⊢
  refine mw_putFr (S := nwS U2 8 1438) (a := o + 1 + 2) dX7_init_28 fl_X7_16 ft_7_2 rfl (fun q h => by cases h; rfl) rfl rfl rfl (Kd_nw p2.1) ?_
  have p3 : MdP 3 (alS U2 o 2 8 1438) o := mdp_s p2 (by decide)
  have x3 : Ext o S (alS U2 o 2 8 1438) := x2.tr (Ext.al U2 o 2 8 1438)
  have hz2 : ((nwS U2 8 1438).1, (nwS U2 8 1438).2.1, r_up (nwS U2 8 1438).2.2 o 2 (some (o + 1 + 2))) = (alS U2 o 2 8 1438) := by (rw [alS, p2.2.1])
  rw [hz2]
  generalize (alS U2 o 2 8 1438) = U3 at p3 x3 ⊢
  have q3 : MmZ mi o 3 n2 := mmz_s q2 w2 rfl
  generalize n2 = m3 at q3 ⊢
  refine mw_aload_n dX7_init_31 rfl ?_
  refine mw_bipush (v := 8) dX7_init_32 (by decide) ?_
  refine mw_newi (S := U3) (N := 8) dX7_init_34 arr_int (by decide) (by decide) (by decide) (by decide) (by decide) ?_
  rw [p3.2.1]
  have w3 := wr_n (m := m3) p3.2.1
  have kz3 : Kd (nwS U3 8 8) (o + 1 + 3) 8 8 := by (have g := Kd_nw0 U3 8 8; rw [p3.2.1] at g; exact g)
  generalize nwM U3 m3 = n3 at w3 ⊢
  refine mw_putFr (S := nwS U3 8 8) (a := o + 1 + 3) dX7_init_36 fl_X7_19 ft_7_4 rfl (fun q h => by cases h; rfl) rfl rfl rfl (Kd_nw p3.1) ?_
  have p4 : MdP 4 (alS U3 o 4 8 8) o := mdp_s p3 (by decide)
  have x4 : Ext o S (alS U3 o 4 8 8) := x3.tr (Ext.al U3 o 4 8 8)
  have hz3 : ((nwS U3 8 8).1, (nwS U3 8 8).2.1, r_up (nwS U3 8 8).2.2 o 4 (some (o + 1 + 3))) = (alS U3 o 4 8 8) := by (rw [alS, p3.2.1])
  rw [hz3]
  generalize (alS U3 o 4 8 8) = U4 at p4 x4 ⊢
  have q4 : MmZ mi o 4 n3 := mmz_s q3 w3 rfl
  generalize n3 = m4 at q4 ⊢
  refine mw_aload_n dX7_init_39 rfl ?_
  refine mw_bipush (v := 8) dX7_init_40 (by decide) ?_
  refine mw_newi (S := U4) (N := 8) dX7_init_42 arr_int (by decide) (by decide) (by decide) (by decide) (by decide) ?_
  rw [p4.2.1]
  have w4 := wr_n (m := m4) p4.2.1
  have kz4 : Kd (nwS U4 8 8) (o + 1 + 4) 8 8 := by (have g := Kd_nw0 U4 8 8; rw [p4.2.1] at g; exact g)
  generalize nwM U4 m4 = n4 at w4 ⊢
  refine mw_putFr (S := nwS U4 8 8) (a := o + 1 + 4) dX7_init_44 fl_X7_22 ft_7_5 rfl (fun q h => by cases h; rfl) rfl rfl rfl (Kd_nw p4.1) ?_
  have p5 : MdP 5 (alS U4 o 5 8 8) o := mdp_s p4 (by decide)
  have x5 : Ext o S (alS U4 o 5 8 8) := x4.tr (Ext.al U4 o 5 8 8)
  have hz4 : ((nwS U4 8 8).1, (nwS U4 8 8).2.1, r_up (nwS U4 8 8).2.2 o 5 (some (o + 1 + 4))) = (alS U4 o 5 8 8) := by (rw [alS, p4.2.1])
  rw [hz4]
  generalize (alS U4 o 5 8 8) = U5 at p5 x5 ⊢
  have q5 : MmZ mi o 5 n4 := mmz_s q4 w4 rfl
  generalize n4 = m5 at q5 ⊢
  refine mw_aload_n dX7_init_47 rfl ?_
  refine mw_bipush (v := 96) dX7_init_48 (by decide) ?_
  refine mw_newi (S := U5) (N := 96) dX7_init_50 arr_int (by decide) (by decide) (by decide) (by decide) (by decide) ?_
  rw [p5.2.1]
  have w5 := wr_n (m := m5) p5.2.1
  have kz5 : Kd (nwS U5 8 96) (o + 1 + 5) 8 96 := by (have g := Kd_nw0 U5 8 96; rw [p5.2.1] at g; exact g)
  generalize nwM U5 m5 = n5 at w5 ⊢
  refine mw_putFr (S := nwS U5 8 96) (a := o + 1 + 5) dX7_init_52 fl_X7_25 ft_7_6 rfl (fun q h => by cases h; rfl) rfl rfl rfl (Kd_nw p5.1) ?_
  have p6 : MdP 6 (alS U5 o 6 8 96) o := mdp_s p5 (by decide)
  have x6 : Ext o S (alS U5 o 6 8 96) := x5.tr (Ext.al U5 o 6 8 96)
  have hz5 : ((nwS U5 8 96).1, (nwS U5 8 96).2.1, r_up (nwS U5 8 96).2.2 o 6 (some (o + 1 + 5))) = (alS U5 o 6 8 96) := by (rw [alS, p5.2.1])
  rw [hz5]
  generalize (alS U5 o 6 8 96) = U6 at p6 x6 ⊢
  have q6 : MmZ mi o 6 n5 := mmz_s q5 w5 rfl
  generalize n5 = m6 at q6 ⊢
  refine mw_aload_n dX7_init_55 rfl ?_
  refine mw_bipush (v := 11) dX7_init_56 (by decide) ?_
  refine mw_newc (S := U6) (N := 11) dX7_init_58 arr_char (by decide) (by decide) (by decide) (by decide) (by decide) ?_
  rw [p6.2.1]
  have w6 := wr_n (m := m6) p6.2.1
  have kz6 : Kd (nwS U6 10 11) (o + 1 + 6) 10 11 := by (have g := Kd_nw0 U6 10 11; rw [p6.2.1] at g; exact g)
  generalize nwM U6 m6 = n6 at w6 ⊢
  refine mw_dup dX7_init_60 rfl ?_
  refine mw_iconst (v := 0) dX7_init_61 (by decide) ?_
  refine mw_bipush (v := 119) dX7_init_62 (by decide) ?_
  refine mw_cast dX7_init_64 kz6 (vp_in_nI (show 0 < 11 by decide) (by decide)) (by decide) ?_
  rw [show Int32.toNatClampNeg 0 = 0 from by decide]
  have w6_0 := wr_u (k := 0) (v := 119) w6
  generalize m_up n6 (o + 1 + 6) 0 119 = n6_0 at w6_0 ⊢
  refine mw_dup dX7_init_65 rfl ?_
  refine mw_iconst (v := 1) dX7_init_66 (by decide) ?_
  refine mw_bipush (v := 97) dX7_init_67 (by decide) ?_
  refine mw_cast dX7_init_69 kz6 (vp_in_nI (show 1 < 11 by decide) (by decide)) (by decide) ?_
  rw [show Int32.toNatClampNeg 1 = 1 from by decide]
  have w6_1 := wr_u (k := 1) (v := 97) w6_0
  generalize m_up n6_0 (o + 1 + 6) 1 97 = n6_1 at w6_1 ⊢
  refine mw_dup dX7_init_70 rfl ?_
  refine mw_iconst (v := 2) dX7_init_71 (by decide) ?_
  refine mw_bipush (v := 110) dX7_init_72 (by decide) ?_
  refine mw_cast dX7_init_74 kz6 (vp_in_nI (show 2 < 11 by decide) (by decide)) (by decide) ?_
  rw [show Int32.toNatClampNeg 2 = 2 from by decide]
  have w6_2 := wr_u (k := 2) (v := 110) w6_1
  generalize m_up n6_1 (o + 1 + 6) 2 110 = n6_2 at w6_2 ⊢
  refine mw_dup dX7_init_75 rfl ?_
  refine mw_iconst (v := 3) dX7_init_76 (by decide) ?_
  refine mw_bipush (v := 116) dX7_init_77 (by decide) ?_
  refine mw_cast dX7_init_79 kz6 (vp_in_nI (show 3 < 11 by decide) (by decide)) (by decide) ?_
  rw [show Int32.toNatClampNeg 3 = 3 from by decide]
  have w6_3 := wr_u (k := 3) (v := 116) w6_2
  generalize m_up n6_2 (o + 1 + 6) 3 116 = n6_3 at w6_3 ⊢
  refine mw_dup dX7_init_80 rfl ?_
  refine mw_iconst (v := 4) dX7_init_81 (by decide) ?_
  refine mw_bipush (v := 102) dX7_init_82 (by decide) ?_
  refine mw_cast dX7_init_84 kz6 (vp_in_nI (show 4 < 11 by decide) (by decide)) (by decide) ?_
  rw [show Int32.toNatClampNeg 4 = 4 from by decide]
  have w6_4 := wr_u (k := 4) (v := 102) w6_3
  generalize m_up n6_3 (o + 1 + 6) 4 102 = n6_4 at w6_4 ⊢
  refine mw_dup dX7_init_85 rfl ?_
  refine mw_iconst (v := 5) dX7_init_86 (by decide) ?_
  refine mw_bipush (v := 101) dX7_init_87 (by decide) ?_
  refine mw_cast dX7_init_89 kz6 (vp_in_nI (show 5 < 11 by decide) (by decide)) (by decide) ?_
  rw [show Int32.toNatClampNeg 5 = 5 from by decide]
  have w6_5 := wr_u (k := 5) (v := 101) w6_4
  generalize m_up n6_4 (o + 1 + 6) 5 101 = n6_5 at w6_5 ⊢
  refine mw_dup dX7_init_90 rfl ?_
  refine mw_bipush (v := 6) dX7_init_91 (by decide) ?_
  refine mw_bipush (v := 101) dX7_init_93 (by decide) ?_
  refine mw_cast dX7_init_95 kz6 (vp_in_nI (show 6 < 11 by decide) (by decide)) (by decide) ?_
  rw [show Int32.toNatClampNeg 6 = 6 from by decide]
  have w6_6 := wr_u (k := 6) (v := 101) w6_5
  generalize m_up n6_5 (o + 1 + 6) 6 101 = n6_6 at w6_6 ⊢
  refine mw_dup dX7_init_96 rfl ?_
  refine mw_bipush (v := 7) dX7_init_97 (by decide) ?_
  refine mw_bipush (v := 102) dX7_init_99 (by decide) ?_
  refine mw_cast dX7_init_101 kz6 (vp_in_nI (show 7 < 11 by decide) (by decide)) (by decide) ?_
  rw [show Int32.toNatClampNeg 7 = 7 from by decide]
  have w6_7 := wr_u (k := 7) (v := 102) w6_6
  generalize m_up n6_6 (o + 1 + 6) 7 102 = n6_7 at w6_7 ⊢
  refine mw_dup dX7_init_102 rfl ?_
  refine mw_bipush (v := 8) dX7_init_103 (by decide) ?_
  refine mw_bipush (v := 105) dX7_init_105 (by decide) ?_
  refine mw_cast dX7_init_107 kz6 (vp_in_nI (show 8 < 11 by decide) (by decide)) (by decide) ?_
  rw [show Int32.toNatClampNeg 8 = 8 from by decide]
  have w6_8 := wr_u (k := 8) (v := 105) w6_7
  generalize m_up n6_7 (o + 1 + 6) 8 105 = n6_8 at w6_8 ⊢
  refine mw_dup dX7_init_108 rfl ?_
  refine mw_bipush (v := 9) dX7_init_109 (by decide) ?_
  refine mw_bipush (v := 110) dX7_init_111 (by decide) ?_
  refine mw_cast dX7_init_113 kz6 (vp_in_nI (show 9 < 11 by decide) (by decide)) (by decide) ?_
  rw [show Int32.toNatClampNeg 9 = 9 from by decide]
  have w6_9 := wr_u (k := 9) (v := 110) w6_8
  generalize m_up n6_8 (o + 1 + 6) 9 110 = n6_9 at w6_9 ⊢
  refine mw_dup dX7_init_114 rfl ?_
  refine mw_bipush (v := 10) dX7_init_115 (by decide) ?_
  refine mw_bipush (v := 101) dX7_init_117 (by decide) ?_
  refine mw_cast dX7_init_119 kz6 (vp_in_nI (show 10 < 11 by decide) (by decide)) (by decide) ?_
  rw [show Int32.toNatClampNeg 10 = 10 from by decide]
  have w6_10 := wr_u (k := 10) (v := 101) w6_9
  generalize m_up n6_9 (o + 1 + 6) 10 101 = n6_10 at w6_10 ⊢
  refine mw_putFr (S := nwS U6 10 11) (a := o + 1 + 6) dX7_init_120 fl_X7_28 ft_7_14 rfl (fun q h => by cases h; rfl) rfl rfl rfl (Kd_nw p6.1) ?_
  have p7 : MdP 7 (alS U6 o 14 10 11) o := mdp_s p6 (by decide)
  have x7 : Ext o S (alS U6 o 14 10 11) := x6.tr (Ext.al U6 o 14 10 11)
  have hz6 : ((nwS U6 10 11).1, (nwS U6 10 11).2.1, r_up (nwS U6 10 11).2.2 o 14 (some (o + 1 + 6))) = (alS U6 o 14 10 11) := by (rw [alS, p6.2.1])
  rw [hz6]
  generalize (alS U6 o 14 10 11) = U7 at p7 x7 ⊢
  have q7 : MmZ mi o 7 n6_10 := mmz_s q6 w6_10 rfl
  generalize n6_10 = m7 at q7 ⊢
  refine mw_aload_n dX7_init_123 rfl ?_
  refine mw_iconst (v := 4) dX7_init_124 (by decide) ?_
  refine mw_newi (S := U7) (N := 4) dX7_init_125 arr_int (by decide) (by decide) (by decide) (by decide) (by decide) ?_
  rw [p7.2.1]
  have w7 := wr_n (m := m7) p7.2.1
  have kz7 : Kd (nwS U7 8 4) (o + 1 + 7) 8 4 := by (have g := Kd_nw0 U7 8 4; rw [p7.2.1] at g; exact g)
  generalize nwM U7 m7 = n7 at w7 ⊢
  refine mw_dup dX7_init_127 rfl ?_
  refine mw_iconst (v := 0) dX7_init_128 (by decide) ?_
  refine mw_iconst (v := 0) dX7_init_129 (by decide) ?_
  refine mw_iast dX7_init_130 kz7 (vp_in_nI (show 0 < 4 by decide) (by decide)) ?_
  rw [show Int32.toNatClampNeg 0 = 0 from by decide]
  have w7_0 := wr_u (k := 0) (v := 0) w7
  generalize m_up n7 (o + 1 + 7) 0 0 = n7_0 at w7_0 ⊢
  refine mw_dup dX7_init_131 rfl ?_
  refine mw_iconst (v := 1) dX7_init_132 (by decide) ?_
  refine mw_iconst (v := 4) dX7_init_133 (by decide) ?_
  refine mw_iast dX7_init_134 kz7 (vp_in_nI (show 1 < 4 by decide) (by decide)) ?_
  rw [show Int32.toNatClampNeg 1 = 1 from by decide]
  have w7_1 := wr_u (k := 1) (v := 4) w7_0
  generalize m_up n7_0 (o + 1 + 7) 1 4 = n7_1 at w7_1 ⊢
  refine mw_dup dX7_init_135 rfl ?_
  refine mw_iconst (v := 2) dX7_init_136 (by decide) ?_
  refine mw_bipush (v := 7) dX7_init_137 (by decide) ?_
  refine mw_iast dX7_init_139 kz7 (vp_in_nI (show 2 < 4 by decide) (by decide)) ?_
  rw [show Int32.toNatClampNeg 2 = 2 from by decide]
  have w7_2 := wr_u (k := 2) (v := 7) w7_1
  generalize m_up n7_1 (o + 1 + 7) 2 7 = n7_2 at w7_2 ⊢
  refine mw_dup dX7_init_140 rfl ?_
  refine mw_iconst (v := 3) dX7_init_141 (by decide) ?_
  refine mw_bipush (v := 11) dX7_init_142 (by decide) ?_
  refine mw_iast dX7_init_144 kz7 (vp_in_nI (show 3 < 4 by decide) (by decide)) ?_
  rw [show Int32.toNatClampNeg 3 = 3 from by decide]
  have w7_3 := wr_u (k := 3) (v := 11) w7_2
  generalize m_up n7_2 (o + 1 + 7) 3 11 = n7_3 at w7_3 ⊢
  refine mw_putFr (S := nwS U7 8 4) (a := o + 1 + 7) dX7_init_145 fl_X7_32 ft_7_15 rfl (fun q h => by cases h; rfl) rfl rfl rfl (Kd_nw p7.1) ?_
  have p8 : MdP 8 (alS U7 o 15 8 4) o := mdp_s p7 (by decide)
  have x8 : Ext o S (alS U7 o 15 8 4) := x7.tr (Ext.al U7 o 15 8 4)
  have hz7 : ((nwS U7 8 4).1, (nwS U7 8 4).2.1, r_up (nwS U7 8 4).2.2 o 15 (some (o + 1 + 7))) = (alS U7 o 15 8 4) := by (rw [alS, p7.2.1])
  rw [hz7]
  generalize (alS U7 o 15 8 4) = U8 at p8 x8 ⊢
  have q8 : MmZ mi o 8 n7_3 := mmz_s q7 w7_3 rfl
  generalize n7_3 = m8 at q8 ⊢
  refine mw_aload_n dX7_init_148 rfl ?_
  refine mw_bipush (v := 96) dX7_init_149 (by decide) ?_
  refine mw_newi (S := U8) (N := 96) dX7_init_151 arr_int (by decide) (by decide) (by decide) (by decide) (by decide) ?_
  rw [p8.2.1]
  have w8 := wr_n (m := m8) p8.2.1
  have kz8 : Kd (nwS U8 8 96) (o + 1 + 8) 8 96 := by (have g := Kd_nw0 U8 8 96; rw [p8.2.1] at g; exact g)
  generalize nwM U8 m8 = n8 at w8 ⊢
  refine mw_putFr (S := nwS U8 8 96) (a := o + 1 + 8) dX7_init_153 fl_X7_35 ft_7_16 rfl (fun q h => by cases h; rfl) rfl rfl rfl (Kd_nw p8.1) ?_
  have p9 : MdP 9 (alS U8 o 16 8 96) o := mdp_s p8 (by decide)
  have x9 : Ext o S (alS U8 o 16 8 96) := x8.tr (Ext.al U8 o 16 8 96)
  have hz8 : ((nwS U8 8 96).1, (nwS U8 8 96).2.1, r_up (nwS U8 8 96).2.2 o 16 (some (o + 1 + 8))) = (alS U8 o 16 8 96) := by (rw [alS, p8.2.1])
  rw [hz8]
  generalize (alS U8 o 16 8 96) = U9 at p9 x9 ⊢
  have q9 : MmZ mi o 9 n8 := mmz_s q8 w8 rfl
  generalize n8 = m9 at q9 ⊢
  refine mw_aload_n dX7_init_156 rfl ?_
  refine mw_bipush (v := 96) dX7_init_157 (by decide) ?_
  refine mw_newi (S := U9) (N := 96) dX7_init_159 arr_int (by decide) (by decide) (by decide) (by decide) (by decide) ?_
  rw [p9.2.1]
  have w9 := wr_n (m := m9) p9.2.1
  have kz9 : Kd (nwS U9 8 96) (o + 1 + 9) 8 96 := by (have g := Kd_nw0 U9 8 96; rw [p9.2.1] at g; exact g)
  generalize nwM U9 m9 = n9 at w9 ⊢
  refine mw_putFr (S := nwS U9 8 96) (a := o + 1 + 9) dX7_init_161 fl_X7_38 ft_7_19 rfl (fun q h => by cases h; rfl) rfl rfl rfl (Kd_nw p9.1) ?_
  have p10 : MdP 10 (alS U9 o 19 8 96) o := mdp_s p9 (by decide)
  have x10 : Ext o S (alS U9 o 19 8 96) := x9.tr (Ext.al U9 o 19 8 96)
  have hz9 : ((nwS U9 8 96).1, (nwS U9 8 96).2.1, r_up (nwS U9 8 96).2.2 o 19 (some (o + 1 + 9))) = (alS U9 o 19 8 96) := by (rw [alS, p9.2.1])
  rw [hz9]
  generalize (alS U9 o 19 8 96) = U10 at p10 x10 ⊢
  have q10 : MmZ mi o 10 n9 := mmz_s q9 w9 rfl
  generalize n9 = m10 at q10 ⊢
  refine mw_aload_n dX7_init_164 rfl ?_
  refine mw_bipush (v := 10) dX7_init_165 (by decide) ?_
  refine mw_newz (S := U10) (N := 10) dX7_init_167 arr_boolean (by decide) (by decide) (by decide) (by decide) (by decide) ?_
  rw [p10.2.1]
  have w10 := wr_n (m := m10) p10.2.1
  have kz10 : Kd (nwS U10 9 10) (o + 1 + 10) 9 10 := by (have g := Kd_nw0 U10 9 10; rw [p10.2.1] at g; exact g)
  generalize nwM U10 m10 = n10 at w10 ⊢
  refine mw_putFr (S := nwS U10 9 10) (a := o + 1 + 10) dX7_init_169 fl_X7_41 ft_7_21 rfl (fun q h => by cases h; rfl) rfl rfl rfl (Kd_nw p10.1) ?_
  have p11 : MdP 11 (alS U10 o 21 9 10) o := mdp_s p10 (by decide)
  have x11 : Ext o S (alS U10 o 21 9 10) := x10.tr (Ext.al U10 o 21 9 10)
  have hz10 : ((nwS U10 9 10).1, (nwS U10 9 10).2.1, r_up (nwS U10 9 10).2.2 o 21 (some (o + 1 + 10))) = (alS U10 o 21 9 10) := by (rw [alS, p10.2.1])
  rw [hz10]
  generalize (alS U10 o 21 9 10) = U11 at p11 x11 ⊢
  have q11 : MmZ mi o 11 n10 := mmz_s q10 w10 rfl
  generalize n10 = m11 at q11 ⊢
  refine mw_aload_n dX7_init_172 rfl ?_
  refine mw_bipush (v := 96) dX7_init_173 (by decide) ?_
  refine mw_newi (S := U11) (N := 96) dX7_init_175 arr_int (by decide) (by decide) (by decide) (by decide) (by decide) ?_
  rw [p11.2.1]
  have w11 := wr_n (m := m11) p11.2.1
  have kz11 : Kd (nwS U11 8 96) (o + 1 + 11) 8 96 := by (have g := Kd_nw0 U11 8 96; rw [p11.2.1] at g; exact g)
  generalize nwM U11 m11 = n11 at w11 ⊢
  refine mw_putFr (S := nwS U11 8 96) (a := o + 1 + 11) dX7_init_177 fl_X7_45 ft_7_22 rfl (fun q h => by cases h; rfl) rfl rfl rfl (Kd_nw p11.1) ?_
  have p12 : MdP 12 (alS U11 o 22 8 96) o := mdp_s p11 (by decide)
  have x12 : Ext o S (alS U11 o 22 8 96) := x11.tr (Ext.al U11 o 22 8 96)
  have hz11 : ((nwS U11 8 96).1, (nwS U11 8 96).2.1, r_up (nwS U11 8 96).2.2 o 22 (some (o + 1 + 11))) = (alS U11 o 22 8 96) := by (rw [alS, p11.2.1])
  rw [hz11]
  generalize (alS U11 o 22 8 96) = U12 at p12 x12 ⊢
  have q12 : MmZ mi o 12 n11 := mmz_s q11 w11 rfl
  generalize n11 = m12 at q12 ⊢
  refine mw_aload_n dX7_init_180 rfl ?_
  refine mw_iconst (v := 4) dX7_init_181 (by decide) ?_
  refine mw_newi (S := U12) (N := 4) dX7_init_182 arr_int (by decide) (by decide) (by decide) (by decide) (by decide) ?_
  rw [p12.2.1]
  have w12 := wr_n (m := m12) p12.2.1
  have kz12 : Kd (nwS U12 8 4) (o + 1 + 12) 8 4 := by (have g := Kd_nw0 U12 8 4; rw [p12.2.1] at g; exact g)
  generalize nwM U12 m12 = n12 at w12 ⊢
  refine mw_putFr (S := nwS U12 8 4) (a := o + 1 + 12) dX7_init_184 fl_X7_48 ft_7_23 rfl (fun q h => by cases h; rfl) rfl rfl rfl (Kd_nw p12.1) ?_
  have p13 : MdP 13 (alS U12 o 23 8 4) o := mdp_s p12 (by decide)
  have x13 : Ext o S (alS U12 o 23 8 4) := x12.tr (Ext.al U12 o 23 8 4)
  have hz12 : ((nwS U12 8 4).1, (nwS U12 8 4).2.1, r_up (nwS U12 8 4).2.2 o 23 (some (o + 1 + 12))) = (alS U12 o 23 8 4) := by (rw [alS, p12.2.1])
  rw [hz12]
  generalize (alS U12 o 23 8 4) = U13 at p13 x13 ⊢
  have q13 : MmZ mi o 13 n12 := mmz_s q12 w12 rfl
  generalize n12 = m13 at q13 ⊢
  refine mw_aload_n dX7_init_187 rfl ?_
  refine mw_iconst (v := 4) dX7_init_188 (by decide) ?_
  refine mw_newi (S := U13) (N := 4) dX7_init_189 arr_int (by decide) (by decide) (by decide) (by decide) (by decide) ?_
  rw [p13.2.1]
  have w13 := wr_n (m := m13) p13.2.1
  have kz13 : Kd (nwS U13 8 4) (o + 1 + 13) 8 4 := by (have g := Kd_nw0 U13 8 4; rw [p13.2.1] at g; exact g)
  generalize nwM U13 m13 = n13 at w13 ⊢
  refine mw_dup dX7_init_191 rfl ?_
  refine mw_iconst (v := 0) dX7_init_192 (by decide) ?_
  refine mw_iconst (v := (-1)) dX7_init_193 (by decide) ?_
  refine mw_iast dX7_init_194 kz13 (vp_in_nI (show 0 < 4 by decide) (by decide)) ?_
  rw [show Int32.toNatClampNeg 0 = 0 from by decide]
  have w13_0 := wr_u (k := 0) (v := (-1)) w13
  generalize m_up n13 (o + 1 + 13) 0 (-1) = n13_0 at w13_0 ⊢
  refine mw_dup dX7_init_195 rfl ?_
  refine mw_iconst (v := 1) dX7_init_196 (by decide) ?_
  refine mw_iconst (v := (-1)) dX7_init_197 (by decide) ?_
  refine mw_iast dX7_init_198 kz13 (vp_in_nI (show 1 < 4 by decide) (by decide)) ?_
  rw [show Int32.toNatClampNeg 1 = 1 from by decide]
  have w13_1 := wr_u (k := 1) (v := (-1)) w13_0
  generalize m_up n13_0 (o + 1 + 13) 1 (-1) = n13_1 at w13_1 ⊢
  refine mw_dup dX7_init_199 rfl ?_
  refine mw_iconst (v := 2) dX7_init_200 (by decide) ?_
  refine mw_iconst (v := (-1)) dX7_init_201 (by decide) ?_
  refine mw_iast dX7_init_202 kz13 (vp_in_nI (show 2 < 4 by decide) (by decide)) ?_
  rw [show Int32.toNatClampNeg 2 = 2 from by decide]
  have w13_2 := wr_u (k := 2) (v := (-1)) w13_1
  generalize m_up n13_1 (o + 1 + 13) 2 (-1) = n13_2 at w13_2 ⊢
  refine mw_dup dX7_init_203 rfl ?_
  refine mw_iconst (v := 3) dX7_init_204 (by decide) ?_
  refine mw_iconst (v := (-1)) dX7_init_205 (by decide) ?_
  refine mw_iast dX7_init_206 kz13 (vp_in_nI (show 3 < 4 by decide) (by decide)) ?_
  rw [show Int32.toNatClampNeg 3 = 3 from by decide]
  have w13_3 := wr_u (k := 3) (v := (-1)) w13_2
  generalize m_up n13_2 (o + 1 + 13) 3 (-1) = n13_3 at w13_3 ⊢
  refine mw_putFr (S := nwS U13 8 4) (a := o + 1 + 13) dX7_init_207 fl_X7_51 ft_7_24 rfl (fun q h => by cases h; rfl) rfl rfl rfl (Kd_nw p13.1) ?_
  have p14 : MdP 14 (alS U13 o 24 8 4) o := mdp_s p13 (by decide)
  have x14 : Ext o S (alS U13 o 24 8 4) := x13.tr (Ext.al U13 o 24 8 4)
  have hz13 : ((nwS U13 8 4).1, (nwS U13 8 4).2.1, r_up (nwS U13 8 4).2.2 o 24 (some (o + 1 + 13))) = (alS U13 o 24 8 4) := by (rw [alS, p13.2.1])
  rw [hz13]
  generalize (alS U13 o 24 8 4) = U14 at p14 x14 ⊢
  have q14 : MmZ mi o 14 n13_3 := mmz_s q13 w13_3 rfl
  generalize n13_3 = m14 at q14 ⊢
  refine mw_aload_n dX7_init_210 rfl ?_
  refine mw_iconst (v := 4) dX7_init_211 (by decide) ?_
  refine mw_newi (S := U14) (N := 4) dX7_init_212 arr_int (by decide) (by decide) (by decide) (by decide) (by decide) ?_
  rw [p14.2.1]
  have w14 := wr_n (m := m14) p14.2.1
  have kz14 : Kd (nwS U14 8 4) (o + 1 + 14) 8 4 := by (have g := Kd_nw0 U14 8 4; rw [p14.2.1] at g; exact g)
  generalize nwM U14 m14 = n14 at w14 ⊢
  refine mw_putFr (S := nwS U14 8 4) (a := o + 1 + 14) dX7_init_214 fl_X7_54 ft_7_25 rfl (fun q h => by cases h; rfl) rfl rfl rfl (Kd_nw p14.1) ?_
  have p15 : MdP 15 (alS U14 o 25 8 4) o := mdp_s p14 (by decide)
  have x15 : Ext o S (alS U14 o 25 8 4) := x14.tr (Ext.al U14 o 25 8 4)
  have hz14 : ((nwS U14 8 4).1, (nwS U14 8 4).2.1, r_up (nwS U14 8 4).2.2 o 25 (some (o + 1 + 14))) = (alS U14 o 25 8 4) := by (rw [alS, p14.2.1])
  rw [hz14]
  generalize (alS U14 o 25 8 4) = U15 at p15 x15 ⊢
  have q15 : MmZ mi o 15 n14 := mmz_s q14 w14 rfl
  generalize n14 = m15 at q15 ⊢
  refine mw_aload_n dX7_init_217 rfl ?_
  refine mw_bipush (v := 96) dX7_init_218 (by decide) ?_
  refine mw_newi (S := U15) (N := 96) dX7_init_220 arr_int (by decide) (by decide) (by decide) (by decide) (by decide) ?_
  rw [p15.2.1]
  have w15 := wr_n (m := m15) p15.2.1
  have kz15 : Kd (nwS U15 8 96) (o + 1 + 15) 8 96 := by (have g := Kd_nw0 U15 8 96; rw [p15.2.1] at g; exact g)
  generalize nwM U15 m15 = n15 at w15 ⊢
  refine mw_putFr (S := nwS U15 8 96) (a := o + 1 + 15) dX7_init_222 fl_X7_57 ft_7_26 rfl (fun q h => by cases h; rfl) rfl rfl rfl (Kd_nw p15.1) ?_
  have p16 : MdP 16 (alS U15 o 26 8 96) o := mdp_s p15 (by decide)
  have x16 : Ext o S (alS U15 o 26 8 96) := x15.tr (Ext.al U15 o 26 8 96)
  have hz15 : ((nwS U15 8 96).1, (nwS U15 8 96).2.1, r_up (nwS U15 8 96).2.2 o 26 (some (o + 1 + 15))) = (alS U15 o 26 8 96) := by (rw [alS, p15.2.1])
  rw [hz15]
  generalize (alS U15 o 26 8 96) = U16 at p16 x16 ⊢
  have q16 : MmZ mi o 16 n15 := mmz_s q15 w15 rfl
  generalize n15 = m16 at q16 ⊢
  refine mw_aload_n dX7_init_225 rfl ?_
  refine mw_iconst (v := 5) dX7_init_226 (by decide) ?_
  refine mw_newi (S := U16) (N := 5) dX7_init_227 arr_int (by decide) (by decide) (by decide) (by decide) (by decide) ?_
  rw [p16.2.1]
  have w16 := wr_n (m := m16) p16.2.1
  have kz16 : Kd (nwS U16 8 5) (o + 1 + 16) 8 5 := by (have g := Kd_nw0 U16 8 5; rw [p16.2.1] at g; exact g)
  generalize nwM U16 m16 = n16 at w16 ⊢
  refine mw_putFr (S := nwS U16 8 5) (a := o + 1 + 16) dX7_init_229 fl_X7_60 ft_7_27 rfl (fun q h => by cases h; rfl) rfl rfl rfl (Kd_nw p16.1) ?_
  have p17 : MdP 17 (alS U16 o 27 8 5) o := mdp_s p16 (by decide)
  have x17 : Ext o S (alS U16 o 27 8 5) := x16.tr (Ext.al U16 o 27 8 5)
  have hz16 : ((nwS U16 8 5).1, (nwS U16 8 5).2.1, r_up (nwS U16 8 5).2.2 o 27 (some (o + 1 + 16))) = (alS U16 o 27 8 5) := by (rw [alS, p16.2.1])
  rw [hz16]
  generalize (alS U16 o 27 8 5) = U17 at p17 x17 ⊢
  have q17 : MmZ mi o 17 n16 := mmz_s q16 w16 rfl
  generalize n16 = m17 at q17 ⊢
  refine mw_aload_n dX7_init_232 rfl ?_
  refine mw_iconst (v := 5) dX7_init_233 (by decide) ?_
  refine mw_newi (S := U17) (N := 5) dX7_init_234 arr_int (by decide) (by decide) (by decide) (by decide) (by decide) ?_
  rw [p17.2.1]
  have w17 := wr_n (m := m17) p17.2.1
  have kz17 : Kd (nwS U17 8 5) (o + 1 + 17) 8 5 := by (have g := Kd_nw0 U17 8 5; rw [p17.2.1] at g; exact g)
  generalize nwM U17 m17 = n17 at w17 ⊢
  refine mw_putFr (S := nwS U17 8 5) (a := o + 1 + 17) dX7_init_236 fl_X7_63 ft_7_28 rfl (fun q h => by cases h; rfl) rfl rfl rfl (Kd_nw p17.1) ?_
  have p18 : MdP 18 (alS U17 o 28 8 5) o := mdp_s p17 (by decide)
  have x18 : Ext o S (alS U17 o 28 8 5) := x17.tr (Ext.al U17 o 28 8 5)
  have hz17 : ((nwS U17 8 5).1, (nwS U17 8 5).2.1, r_up (nwS U17 8 5).2.2 o 28 (some (o + 1 + 17))) = (alS U17 o 28 8 5) := by (rw [alS, p17.2.1])
  rw [hz17]
  generalize (alS U17 o 28 8 5) = U18 at p18 x18 ⊢
  have q18 : MmZ mi o 18 n17 := mmz_s q17 w17 rfl
  generalize n17 = m18 at q18 ⊢
  refine mw_aload_n dX7_init_239 rfl ?_
  refine mw_iconst (v := 5) dX7_init_240 (by decide) ?_
  refine mw_newi (S := U18) (N := 5) dX7_init_241 arr_int (by decide) (by decide) (by decide) (by decide) (by decide) ?_
  rw [p18.2.1]
  have w18 := wr_n (m := m18) p18.2.1
  have kz18 : Kd (nwS U18 8 5) (o + 1 + 18) 8 5 := by (have g := Kd_nw0 U18 8 5; rw [p18.2.1] at g; exact g)
  generalize nwM U18 m18 = n18 at w18 ⊢
  refine mw_putFr (S := nwS U18 8 5) (a := o + 1 + 18) dX7_init_243 fl_X7_66 ft_7_29 rfl (fun q h => by cases h; rfl) rfl rfl rfl (Kd_nw p18.1) ?_
  have p19 : MdP 19 (alS U18 o 29 8 5) o := mdp_s p18 (by decide)
  have x19 : Ext o S (alS U18 o 29 8 5) := x18.tr (Ext.al U18 o 29 8 5)
  have hz18 : ((nwS U18 8 5).1, (nwS U18 8 5).2.1, r_up (nwS U18 8 5).2.2 o 29 (some (o + 1 + 18))) = (alS U18 o 29 8 5) := by (rw [alS, p18.2.1])
  rw [hz18]
  generalize (alS U18 o 29 8 5) = U19 at p19 x19 ⊢
  have q19 : MmZ mi o 19 n18 := mmz_s q18 w18 rfl
  generalize n18 = m19 at q19 ⊢
  refine mw_aload_n dX7_init_246 rfl ?_
  refine mw_bipush (v := 120) dX7_init_247 (by decide) ?_
  refine mw_newi (S := U19) (N := 120) dX7_init_249 arr_int (by decide) (by decide) (by decide) (by decide) (by decide) ?_
  rw [p19.2.1]
  have w19 := wr_n (m := m19) p19.2.1
  have kz19 : Kd (nwS U19 8 120) (o + 1 + 19) 8 120 := by (have g := Kd_nw0 U19 8 120; rw [p19.2.1] at g; exact g)
  generalize nwM U19 m19 = n19 at w19 ⊢
  refine mw_putFr (S := nwS U19 8 120) (a := o + 1 + 19) dX7_init_251 fl_X7_69 ft_7_30 rfl (fun q h => by cases h; rfl) rfl rfl rfl (Kd_nw p19.1) ?_
  have p20 : MdP 20 (alS U19 o 30 8 120) o := mdp_s p19 (by decide)
  have x20 : Ext o S (alS U19 o 30 8 120) := x19.tr (Ext.al U19 o 30 8 120)
  have hz19 : ((nwS U19 8 120).1, (nwS U19 8 120).2.1, r_up (nwS U19 8 120).2.2 o 30 (some (o + 1 + 19))) = (alS U19 o 30 8 120) := by (rw [alS, p19.2.1])
  rw [hz19]
  generalize (alS U19 o 30 8 120) = U20 at p20 x20 ⊢
  have q20 : MmZ mi o 20 n19 := mmz_s q19 w19 rfl
  generalize n19 = m20 at q20 ⊢
  refine mw_aload_n dX7_init_254 rfl ?_
  refine mw_bipush (v := 24) dX7_init_255 (by decide) ?_
  refine mw_newi (S := U20) (N := 24) dX7_init_257 arr_int (by decide) (by decide) (by decide) (by decide) (by decide) ?_
  rw [p20.2.1]
  have w20 := wr_n (m := m20) p20.2.1
  have kz20 : Kd (nwS U20 8 24) (o + 1 + 20) 8 24 := by (have g := Kd_nw0 U20 8 24; rw [p20.2.1] at g; exact g)
  generalize nwM U20 m20 = n20 at w20 ⊢
  refine mw_putFr (S := nwS U20 8 24) (a := o + 1 + 20) dX7_init_259 fl_X7_72 ft_7_31 rfl (fun q h => by cases h; rfl) rfl rfl rfl (Kd_nw p20.1) ?_
  have p21 : MdP 21 (alS U20 o 31 8 24) o := mdp_s p20 (by decide)
  have x21 : Ext o S (alS U20 o 31 8 24) := x20.tr (Ext.al U20 o 31 8 24)
  have hz20 : ((nwS U20 8 24).1, (nwS U20 8 24).2.1, r_up (nwS U20 8 24).2.2 o 31 (some (o + 1 + 20))) = (alS U20 o 31 8 24) := by (rw [alS, p20.2.1])
  rw [hz20]
  generalize (alS U20 o 31 8 24) = U21 at p21 x21 ⊢
  have q21 : MmZ mi o 21 n20 := mmz_s q20 w20 rfl
  generalize n20 = m21 at q21 ⊢
  refine mw_aload_n dX7_init_262 rfl ?_
  refine mw_bipush (v := 60) dX7_init_263 (by decide) ?_
  refine mw_newi (S := U21) (N := 60) dX7_init_265 arr_int (by decide) (by decide) (by decide) (by decide) (by decide) ?_
  rw [p21.2.1]
  have w21 := wr_n (m := m21) p21.2.1
  have kz21 : Kd (nwS U21 8 60) (o + 1 + 21) 8 60 := by (have g := Kd_nw0 U21 8 60; rw [p21.2.1] at g; exact g)
  generalize nwM U21 m21 = n21 at w21 ⊢
  refine mw_putFr (S := nwS U21 8 60) (a := o + 1 + 21) dX7_init_267 fl_X7_75 ft_7_32 rfl (fun q h => by cases h; rfl) rfl rfl rfl (Kd_nw p21.1) ?_
  have p22 : MdP 22 (alS U21 o 32 8 60) o := mdp_s p21 (by decide)
  have x22 : Ext o S (alS U21 o 32 8 60) := x21.tr (Ext.al U21 o 32 8 60)
  have hz21 : ((nwS U21 8 60).1, (nwS U21 8 60).2.1, r_up (nwS U21 8 60).2.2 o 32 (some (o + 1 + 21))) = (alS U21 o 32 8 60) := by (rw [alS, p21.2.1])
  rw [hz21]
  generalize (alS U21 o 32 8 60) = U22 at p22 x22 ⊢
  have q22 : MmZ mi o 22 n21 := mmz_s q21 w21 rfl
  generalize n21 = m22 at q22 ⊢
  refine mw_aload_n dX7_init_270 rfl ?_
  refine mw_getr dX7_init_271 fl_X7_9 rfl (p22.1) ((p22.2.2 0 (by decide)).1) ?_
  refine mw_iconst (v := 0) dX7_init_274 (by decide) ?_
  refine mw_iconst (v := 1) dX7_init_275 (by decide) ?_
  refine mw_iastK (k := 0) dX7_init_276 ((p22.2.2 0 (by decide)).2) (rfl) (by decide) (by decide) ?_
  refine mw_aload_n dX7_init_277 rfl ?_
  refine mw_getr dX7_init_278 fl_X7_9 rfl (p22.1) ((p22.2.2 0 (by decide)).1) ?_
  refine mw_bipush (v := 6) dX7_init_281 (by decide) ?_
  refine mw_bipush (v := 10) dX7_init_283 (by decide) ?_
  refine mw_iastK (k := 6) dX7_init_285 ((p22.2.2 0 (by decide)).2) (rfl) (by decide) (by decide) ?_
  refine mw_aload_n dX7_init_286 rfl ?_
  refine mw_getr dX7_init_287 fl_X7_9 rfl (p22.1) ((p22.2.2 0 (by decide)).1) ?_
  refine mw_bipush (v := 8) dX7_init_290 (by decide) ?_
  refine mw_bipush (v := 50) dX7_init_292 (by decide) ?_
  refine mw_iastK (k := 8) dX7_init_294 ((p22.2.2 0 (by decide)).2) (rfl) (by decide) (by decide) ?_
  refine mw_iconst (v := 0) dX7_init_295 (by decide) ?_
  refine mw_istN 1 dX7_init_296 rfl (by decide) ?_
  refine MW.sub (by simp [lsub, nI_0]) (lp U22 m22 _ p22 x22 q22 (fun a h => by rw [m_up_ne h, m_up_ne h, m_up_ne h]) ?_)
  rw [m_up_row, m_up_row, m_up_row, show m22 (o + 1) = iniZ 0 from q22.2 0 (by decide)]
  funext j
  simp only [nowR]
  rw [if_neg (by omega), if_neg (by omega)]
  rfl
