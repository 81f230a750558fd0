/-! a law on its pile -/
def cJoin (s a b : Int32) : Int32 := if s = 124 then (if a = 0 ∧ b = 0 then 0 else 1) else if s = 38 then (if a = 0 ∨ b = 0 then 0 else 1) else if s = 60 then (if a < b then 1 else 0) else if s = 61 then (if a = b then 1 else 0) else if s = 62 then (if b < a then 1 else 0) else if s = 43 then a + b else if s = 45 then a - b else if s = 42 then a * b else if s = 47 then (if b = 0 then 0 else a / b) else 0
theorem dX4_joined_0 : decode fX4_joined.2.1 0 = .ok (.iload_n 0, 1) := by decide +kernel
theorem dX4_joined_1 : decode fX4_joined.2.1 1 = .ok (.lookupswitch 168 #[(38, 97), (42, 152), (43, 144), (45, 148), (47, 156), (60, 111), (61, 122), (62, 133), (124, 83)], 83) := by decide +kernel
theorem dX4_joined_84 : decode fX4_joined.2.1 84 = .ok (.iload_n 1, 1) := by decide +kernel
theorem dX4_joined_85 : decode fX4_joined.2.1 85 = .ok (.ifCond .ne 7, 3) := by decide +kernel
theorem dX4_joined_88 : decode fX4_joined.2.1 88 = .ok (.iload_n 2, 1) := by decide +kernel
theorem dX4_joined_89 : decode fX4_joined.2.1 89 = .ok (.ifCond .eq 7, 3) := by decide +kernel
theorem dX4_joined_92 : decode fX4_joined.2.1 92 = .ok (.iconst 1, 1) := by decide +kernel
theorem dX4_joined_93 : decode fX4_joined.2.1 93 = .ok (.goto 4, 3) := by decide +kernel
theorem dX4_joined_96 : decode fX4_joined.2.1 96 = .ok (.iconst 0, 1) := by decide +kernel
theorem dX4_joined_97 : decode fX4_joined.2.1 97 = .ok (.ireturn, 1) := by decide +kernel
theorem dX4_joined_98 : decode fX4_joined.2.1 98 = .ok (.iload_n 1, 1) := by decide +kernel
theorem dX4_joined_99 : decode fX4_joined.2.1 99 = .ok (.ifCond .eq 11, 3) := by decide +kernel
theorem dX4_joined_102 : decode fX4_joined.2.1 102 = .ok (.iload_n 2, 1) := by decide +kernel
theorem dX4_joined_103 : decode fX4_joined.2.1 103 = .ok (.ifCond .eq 7, 3) := by decide +kernel
theorem dX4_joined_106 : decode fX4_joined.2.1 106 = .ok (.iconst 1, 1) := by decide +kernel
theorem dX4_joined_107 : decode fX4_joined.2.1 107 = .ok (.goto 4, 3) := by decide +kernel
theorem dX4_joined_110 : decode fX4_joined.2.1 110 = .ok (.iconst 0, 1) := by decide +kernel
theorem dX4_joined_111 : decode fX4_joined.2.1 111 = .ok (.ireturn, 1) := by decide +kernel
theorem dX4_joined_112 : decode fX4_joined.2.1 112 = .ok (.iload_n 1, 1) := by decide +kernel
theorem dX4_joined_113 : decode fX4_joined.2.1 113 = .ok (.iload_n 2, 1) := by decide +kernel
theorem dX4_joined_114 : decode fX4_joined.2.1 114 = .ok (.if_icmp .ge 7, 3) := by decide +kernel
theorem dX4_joined_117 : decode fX4_joined.2.1 117 = .ok (.iconst 1, 1) := by decide +kernel
theorem dX4_joined_118 : decode fX4_joined.2.1 118 = .ok (.goto 4, 3) := by decide +kernel
theorem dX4_joined_121 : decode fX4_joined.2.1 121 = .ok (.iconst 0, 1) := by decide +kernel
theorem dX4_joined_122 : decode fX4_joined.2.1 122 = .ok (.ireturn, 1) := by decide +kernel
theorem dX4_joined_123 : decode fX4_joined.2.1 123 = .ok (.iload_n 1, 1) := by decide +kernel
theorem dX4_joined_124 : decode fX4_joined.2.1 124 = .ok (.iload_n 2, 1) := by decide +kernel
theorem dX4_joined_125 : decode fX4_joined.2.1 125 = .ok (.if_icmp .ne 7, 3) := by decide +kernel
theorem dX4_joined_128 : decode fX4_joined.2.1 128 = .ok (.iconst 1, 1) := by decide +kernel
theorem dX4_joined_129 : decode fX4_joined.2.1 129 = .ok (.goto 4, 3) := by decide +kernel
theorem dX4_joined_132 : decode fX4_joined.2.1 132 = .ok (.iconst 0, 1) := by decide +kernel
theorem dX4_joined_133 : decode fX4_joined.2.1 133 = .ok (.ireturn, 1) := by decide +kernel
theorem dX4_joined_134 : decode fX4_joined.2.1 134 = .ok (.iload_n 1, 1) := by decide +kernel
theorem dX4_joined_135 : decode fX4_joined.2.1 135 = .ok (.iload_n 2, 1) := by decide +kernel
theorem dX4_joined_136 : decode fX4_joined.2.1 136 = .ok (.if_icmp .le 7, 3) := by decide +kernel
theorem dX4_joined_139 : decode fX4_joined.2.1 139 = .ok (.iconst 1, 1) := by decide +kernel
theorem dX4_joined_140 : decode fX4_joined.2.1 140 = .ok (.goto 4, 3) := by decide +kernel
theorem dX4_joined_143 : decode fX4_joined.2.1 143 = .ok (.iconst 0, 1) := by decide +kernel
theorem dX4_joined_144 : decode fX4_joined.2.1 144 = .ok (.ireturn, 1) := by decide +kernel
theorem dX4_joined_145 : decode fX4_joined.2.1 145 = .ok (.iload_n 1, 1) := by decide +kernel
theorem dX4_joined_146 : decode fX4_joined.2.1 146 = .ok (.iload_n 2, 1) := by decide +kernel
theorem dX4_joined_147 : decode fX4_joined.2.1 147 = .ok (.iadd, 1) := by decide +kernel
theorem dX4_joined_148 : decode fX4_joined.2.1 148 = .ok (.ireturn, 1) := by decide +kernel
theorem dX4_joined_149 : decode fX4_joined.2.1 149 = .ok (.iload_n 1, 1) := by decide +kernel
theorem dX4_joined_150 : decode fX4_joined.2.1 150 = .ok (.iload_n 2, 1) := by decide +kernel
theorem dX4_joined_151 : decode fX4_joined.2.1 151 = .ok (.isub, 1) := by decide +kernel
theorem dX4_joined_152 : decode fX4_joined.2.1 152 = .ok (.ireturn, 1) := by decide +kernel
theorem dX4_joined_153 : decode fX4_joined.2.1 153 = .ok (.iload_n 1, 1) := by decide +kernel
theorem dX4_joined_154 : decode fX4_joined.2.1 154 = .ok (.iload_n 2, 1) := by decide +kernel
theorem dX4_joined_155 : decode fX4_joined.2.1 155 = .ok (.imul, 1) := by decide +kernel
theorem dX4_joined_156 : decode fX4_joined.2.1 156 = .ok (.ireturn, 1) := by decide +kernel
theorem dX4_joined_157 : decode fX4_joined.2.1 157 = .ok (.iload_n 2, 1) := by decide +kernel
theorem dX4_joined_158 : decode fX4_joined.2.1 158 = .ok (.ifCond .ne 7, 3) := by decide +kernel
theorem dX4_joined_161 : decode fX4_joined.2.1 161 = .ok (.iconst 0, 1) := by decide +kernel
theorem dX4_joined_162 : decode fX4_joined.2.1 162 = .ok (.goto 6, 3) := by decide +kernel
theorem dX4_joined_165 : decode fX4_joined.2.1 165 = .ok (.iload_n 1, 1) := by decide +kernel
theorem dX4_joined_166 : decode fX4_joined.2.1 166 = .ok (.iload_n 2, 1) := by decide +kernel
theorem dX4_joined_167 : decode fX4_joined.2.1 167 = .ok (.idiv, 1) := by decide +kernel
theorem dX4_joined_168 : decode fX4_joined.2.1 168 = .ok (.ireturn, 1) := by decide +kernel
theorem dX4_joined_169 : decode fX4_joined.2.1 169 = .ok (.iconst 0, 1) := by decide +kernel
theorem dX4_joined_170 : decode fX4_joined.2.1 170 = .ok (.ireturn, 1) := by decide +kernel
set_option maxRecDepth 100000 in
set_option maxHeartbeats 4000000 in
theorem ok_X4_joined {X : Xb} {S : Sg} {mi : Mem} {s a b : Int32} : OkI 0 fX4_joined X [.int s, .int a, .int b] S mi (cJoin s a b) mi := by
  refine Ok.go [some (.int s), some (.int a), some (.int b)] (by decide) (by simp [Value.category]) (Nat.le_of_ble_eq_true rfl) rfl ?_
  refine mw_iload_n dX4_joined_0 rfl ?_
  refine mw_ls1 dX4_joined_1 (by decide) 38 98 (by decide) (fun h1_38 => ?_) (fun h1_38 => ?_)
  · skip
    refine mw_iload_n dX4_joined_98 rfl ?_
    refine mw_if_eq (tgt := 110) dX4_joined_99 (by decide) (fun h99 => ?_) (fun h99 => ?_)
    · skip
      refine mw_iconst (v := 0) dX4_joined_110 (by decide) ?_
      exact mw_iret dX4_joined_111 rfl (by decide) (by decide) (⟨by grind [cJoin], rfl, rfl⟩)
    · skip
      refine mw_iload_n dX4_joined_102 rfl ?_
      refine mw_if_eq (tgt := 110) dX4_joined_103 (by decide) (fun h103 => ?_) (fun h103 => ?_)
      · skip
        refine mw_iconst (v := 0) dX4_joined_110 (by decide) ?_
        exact mw_iret dX4_joined_111 rfl (by decide) (by decide) (⟨by grind [cJoin], rfl, rfl⟩)
      · skip
        refine mw_iconst (v := 1) dX4_joined_106 (by decide) ?_
        refine mw_goto (tgt := 111) dX4_joined_107 (by decide) ?_
        exact mw_iret dX4_joined_111 rfl (by decide) (by decide) (⟨by grind [cJoin], rfl, rfl⟩)
  refine mw_ls1 dX4_joined_1 (by decide) 42 153 (by decide) (fun h1_42 => ?_) (fun h1_42 => ?_)
  · skip
    refine mw_iload_n dX4_joined_153 rfl ?_
    refine mw_iload_n dX4_joined_154 rfl ?_
    refine mw_imul dX4_joined_155 ?_
    exact mw_iret dX4_joined_156 rfl (by decide) (by decide) (⟨by grind [cJoin], rfl, rfl⟩)
  refine mw_ls1 dX4_joined_1 (by decide) 43 145 (by decide) (fun h1_43 => ?_) (fun h1_43 => ?_)
  · skip
    refine mw_iload_n dX4_joined_145 rfl ?_
    refine mw_iload_n dX4_joined_146 rfl ?_
    refine mw_iadd dX4_joined_147 ?_
    exact mw_iret dX4_joined_148 rfl (by decide) (by decide) (⟨by grind [cJoin], rfl, rfl⟩)
  refine mw_ls1 dX4_joined_1 (by decide) 45 149 (by decide) (fun h1_45 => ?_) (fun h1_45 => ?_)
  · skip
    refine mw_iload_n dX4_joined_149 rfl ?_
    refine mw_iload_n dX4_joined_150 rfl ?_
    refine mw_isub dX4_joined_151 ?_
    exact mw_iret dX4_joined_152 rfl (by decide) (by decide) (⟨by grind [cJoin], rfl, rfl⟩)
  refine mw_ls1 dX4_joined_1 (by decide) 47 157 (by decide) (fun h1_47 => ?_) (fun h1_47 => ?_)
  · skip
    refine mw_iload_n dX4_joined_157 rfl ?_
    refine mw_if_ne (tgt := 165) dX4_joined_158 (by decide) (fun h158 => ?_) (fun h158 => ?_)
    · skip
      refine mw_iload_n dX4_joined_165 rfl ?_
      refine mw_iload_n dX4_joined_166 rfl ?_
      refine mw_idiv dX4_joined_167 (h158) ?_
      exact mw_iret dX4_joined_168 rfl (by decide) (by decide) (⟨by grind [cJoin], rfl, rfl⟩)
    · skip
      refine mw_iconst (v := 0) dX4_joined_161 (by decide) ?_
      refine mw_goto (tgt := 168) dX4_joined_162 (by decide) ?_
      exact mw_iret dX4_joined_168 rfl (by decide) (by decide) (⟨by grind [cJoin], rfl, rfl⟩)
  refine mw_ls1 dX4_joined_1 (by decide) 60 112 (by decide) (fun h1_60 => ?_) (fun h1_60 => ?_)
  · skip
    refine mw_iload_n dX4_joined_112 rfl ?_
    refine mw_iload_n dX4_joined_113 rfl ?_
    refine mw_icmp_ge (tgt := 121) dX4_joined_114 (by decide) (fun h114 => ?_) (fun h114 => ?_)
    · skip
      refine mw_iconst (v := 0) dX4_joined_121 (by decide) ?_
      exact mw_iret dX4_joined_122 rfl (by decide) (by decide) (⟨by grind [cJoin], rfl, rfl⟩)
    · skip
      refine mw_iconst (v := 1) dX4_joined_117 (by decide) ?_
      refine mw_goto (tgt := 122) dX4_joined_118 (by decide) ?_
      exact mw_iret dX4_joined_122 rfl (by decide) (by decide) (⟨by grind [cJoin], rfl, rfl⟩)
  refine mw_ls1 dX4_joined_1 (by decide) 61 123 (by decide) (fun h1_61 => ?_) (fun h1_61 => ?_)
  · skip
    refine mw_iload_n dX4_joined_123 rfl ?_
    refine mw_iload_n dX4_joined_124 rfl ?_
    refine mw_icmp_ne (tgt := 132) dX4_joined_125 (by decide) (fun h125 => ?_) (fun h125 => ?_)
    · skip
      refine mw_iconst (v := 0) dX4_joined_132 (by decide) ?_
      exact mw_iret dX4_joined_133 rfl (by decide) (by decide) (⟨by grind [cJoin], rfl, rfl⟩)
    · skip
      refine mw_iconst (v := 1) dX4_joined_128 (by decide) ?_
      refine mw_goto (tgt := 133) dX4_joined_129 (by decide) ?_
      exact mw_iret dX4_joined_133 rfl (by decide) (by decide) (⟨by grind [cJoin], rfl, rfl⟩)
  refine mw_ls1 dX4_joined_1 (by decide) 62 134 (by decide) (fun h1_62 => ?_) (fun h1_62 => ?_)
  · skip
    refine mw_iload_n dX4_joined_134 rfl ?_
    refine mw_iload_n dX4_joined_135 rfl ?_
    refine mw_icmp_le (tgt := 143) dX4_joined_136 (by decide) (fun h136 => ?_) (fun h136 => ?_)
    · skip
      refine mw_iconst (v := 0) dX4_joined_143 (by decide) ?_
      exact mw_iret dX4_joined_144 rfl (by decide) (by decide) (⟨by grind [cJoin], rfl, rfl⟩)
    · skip
      refine mw_iconst (v := 1) dX4_joined_139 (by decide) ?_
      refine mw_goto (tgt := 144) dX4_joined_140 (by decide) ?_
      exact mw_iret dX4_joined_144 rfl (by decide) (by decide) (⟨by grind [cJoin], rfl, rfl⟩)
  refine mw_ls1 dX4_joined_1 (by decide) 124 84 (by decide) (fun h1_124 => ?_) (fun h1_124 => ?_)
  · skip
    refine mw_iload_n dX4_joined_84 rfl ?_
    refine mw_if_ne (tgt := 92) dX4_joined_85 (by decide) (fun h85 => ?_) (fun h85 => ?_)
    · skip
      refine mw_iconst (v := 1) dX4_joined_92 (by decide) ?_
      refine mw_goto (tgt := 97) dX4_joined_93 (by decide) ?_
      exact mw_iret dX4_joined_97 rfl (by decide) (by decide) (⟨by grind [cJoin], rfl, rfl⟩)
    · skip
      refine mw_iload_n dX4_joined_88 rfl ?_
      refine mw_if_eq (tgt := 96) dX4_joined_89 (by decide) (fun h89 => ?_) (fun h89 => ?_)
      · skip
        refine mw_iconst (v := 0) dX4_joined_96 (by decide) ?_
        exact mw_iret dX4_joined_97 rfl (by decide) (by decide) (⟨by grind [cJoin], rfl, rfl⟩)
      · skip
        refine mw_iconst (v := 1) dX4_joined_92 (by decide) ?_
        refine mw_goto (tgt := 97) dX4_joined_93 (by decide) ?_
        exact mw_iret dX4_joined_97 rfl (by decide) (by decide) (⟨by grind [cJoin], rfl, rfl⟩)
  refine mw_ls0 dX4_joined_1 (by decide) 169 (by decide) (by have e0 := ne_toI (n := 38) (by decide) h1_38; have e1 := ne_toI (n := 42) (by decide) h1_42; have e2 := ne_toI (n := 43) (by decide) h1_43; have e3 := ne_toI (n := 45) (by decide) h1_45; have e4 := ne_toI (n := 47) (by decide) h1_47; have e5 := ne_toI (n := 60) (by decide) h1_60; have e6 := ne_toI (n := 61) (by decide) h1_61; have e7 := ne_toI (n := 62) (by decide) h1_62; have e8 := ne_toI (n := 124) (by decide) h1_124; simp; omega) ?_
  refine mw_iconst (v := 0) dX4_joined_169 (by decide) ?_
  exact mw_iret dX4_joined_170 rfl (by decide) (by decide) (⟨by grind [cJoin], rfl, rfl⟩)
def mTwo (s a b : Int32) : Int32 := if s = -1 then (if a = 0 ∧ b = 0 then 0 else 1) else if s = -2 then (if a = 0 ∨ b = 0 then 0 else 1) else if s = -3 then (if a < b then 1 else 0) else if s = -4 then (if a = b then 1 else 0) else if s = -5 then (if b < a then 1 else 0) else if s = -6 then a + b else if s = -7 then a - b else if s = -8 then a * b else (if b = 0 then 0 else a / b)
theorem dX7_two_0 : decode fX7_two.2.1 0 = .ok (.iload_n 0, 1) := by decide +kernel
theorem dX7_two_1 : decode fX7_two.2.1 1 = .ok (.tableswitch 120 (-8) (-1) #[116, 112, 108, 97, 86, 75, 61, 47], 47) := by decide +kernel
theorem dX7_two_48 : decode fX7_two.2.1 48 = .ok (.iload_n 1, 1) := by decide +kernel
theorem dX7_two_49 : decode fX7_two.2.1 49 = .ok (.ifCond .ne 7, 3) := by decide +kernel
theorem dX7_two_52 : decode fX7_two.2.1 52 = .ok (.iload_n 2, 1) := by decide +kernel
theorem dX7_two_53 : decode fX7_two.2.1 53 = .ok (.ifCond .eq 7, 3) := by decide +kernel
theorem dX7_two_56 : decode fX7_two.2.1 56 = .ok (.iconst 1, 1) := by decide +kernel
theorem dX7_two_57 : decode fX7_two.2.1 57 = .ok (.goto 4, 3) := by decide +kernel
theorem dX7_two_60 : decode fX7_two.2.1 60 = .ok (.iconst 0, 1) := by decide +kernel
theorem dX7_two_61 : decode fX7_two.2.1 61 = .ok (.ireturn, 1) := by decide +kernel
theorem dX7_two_62 : decode fX7_two.2.1 62 = .ok (.iload_n 1, 1) := by decide +kernel
theorem dX7_two_63 : decode fX7_two.2.1 63 = .ok (.ifCond .eq 11, 3) := by decide +kernel
theorem dX7_two_66 : decode fX7_two.2.1 66 = .ok (.iload_n 2, 1) := by decide +kernel
theorem dX7_two_67 : decode fX7_two.2.1 67 = .ok (.ifCond .eq 7, 3) := by decide +kernel
theorem dX7_two_70 : decode fX7_two.2.1 70 = .ok (.iconst 1, 1) := by decide +kernel
theorem dX7_two_71 : decode fX7_two.2.1 71 = .ok (.goto 4, 3) := by decide +kernel
theorem dX7_two_74 : decode fX7_two.2.1 74 = .ok (.iconst 0, 1) := by decide +kernel
theorem dX7_two_75 : decode fX7_two.2.1 75 = .ok (.ireturn, 1) := by decide +kernel
theorem dX7_two_76 : decode fX7_two.2.1 76 = .ok (.iload_n 1, 1) := by decide +kernel
theorem dX7_two_77 : decode fX7_two.2.1 77 = .ok (.iload_n 2, 1) := by decide +kernel
theorem dX7_two_78 : decode fX7_two.2.1 78 = .ok (.if_icmp .ge 7, 3) := by decide +kernel
theorem dX7_two_81 : decode fX7_two.2.1 81 = .ok (.iconst 1, 1) := by decide +kernel
theorem dX7_two_82 : decode fX7_two.2.1 82 = .ok (.goto 4, 3) := by decide +kernel
theorem dX7_two_85 : decode fX7_two.2.1 85 = .ok (.iconst 0, 1) := by decide +kernel
theorem dX7_two_86 : decode fX7_two.2.1 86 = .ok (.ireturn, 1) := by decide +kernel
theorem dX7_two_87 : decode fX7_two.2.1 87 = .ok (.iload_n 1, 1) := by decide +kernel
theorem dX7_two_88 : decode fX7_two.2.1 88 = .ok (.iload_n 2, 1) := by decide +kernel
theorem dX7_two_89 : decode fX7_two.2.1 89 = .ok (.if_icmp .ne 7, 3) := by decide +kernel
theorem dX7_two_92 : decode fX7_two.2.1 92 = .ok (.iconst 1, 1) := by decide +kernel
theorem dX7_two_93 : decode fX7_two.2.1 93 = .ok (.goto 4, 3) := by decide +kernel
theorem dX7_two_96 : decode fX7_two.2.1 96 = .ok (.iconst 0, 1) := by decide +kernel
theorem dX7_two_97 : decode fX7_two.2.1 97 = .ok (.ireturn, 1) := by decide +kernel
theorem dX7_two_98 : decode fX7_two.2.1 98 = .ok (.iload_n 1, 1) := by decide +kernel
theorem dX7_two_99 : decode fX7_two.2.1 99 = .ok (.iload_n 2, 1) := by decide +kernel
theorem dX7_two_100 : decode fX7_two.2.1 100 = .ok (.if_icmp .le 7, 3) := by decide +kernel
theorem dX7_two_103 : decode fX7_two.2.1 103 = .ok (.iconst 1, 1) := by decide +kernel
theorem dX7_two_104 : decode fX7_two.2.1 104 = .ok (.goto 4, 3) := by decide +kernel
theorem dX7_two_107 : decode fX7_two.2.1 107 = .ok (.iconst 0, 1) := by decide +kernel
theorem dX7_two_108 : decode fX7_two.2.1 108 = .ok (.ireturn, 1) := by decide +kernel
theorem dX7_two_109 : decode fX7_two.2.1 109 = .ok (.iload_n 1, 1) := by decide +kernel
theorem dX7_two_110 : decode fX7_two.2.1 110 = .ok (.iload_n 2, 1) := by decide +kernel
theorem dX7_two_111 : decode fX7_two.2.1 111 = .ok (.iadd, 1) := by decide +kernel
theorem dX7_two_112 : decode fX7_two.2.1 112 = .ok (.ireturn, 1) := by decide +kernel
theorem dX7_two_113 : decode fX7_two.2.1 113 = .ok (.iload_n 1, 1) := by decide +kernel
theorem dX7_two_114 : decode fX7_two.2.1 114 = .ok (.iload_n 2, 1) := by decide +kernel
theorem dX7_two_115 : decode fX7_two.2.1 115 = .ok (.isub, 1) := by decide +kernel
theorem dX7_two_116 : decode fX7_two.2.1 116 = .ok (.ireturn, 1) := by decide +kernel
theorem dX7_two_117 : decode fX7_two.2.1 117 = .ok (.iload_n 1, 1) := by decide +kernel
theorem dX7_two_118 : decode fX7_two.2.1 118 = .ok (.iload_n 2, 1) := by decide +kernel
theorem dX7_two_119 : decode fX7_two.2.1 119 = .ok (.imul, 1) := by decide +kernel
theorem dX7_two_120 : decode fX7_two.2.1 120 = .ok (.ireturn, 1) := by decide +kernel
theorem dX7_two_121 : decode fX7_two.2.1 121 = .ok (.iload_n 2, 1) := by decide +kernel
theorem dX7_two_122 : decode fX7_two.2.1 122 = .ok (.ifCond .ne 7, 3) := by decide +kernel
theorem dX7_two_125 : decode fX7_two.2.1 125 = .ok (.iconst 0, 1) := by decide +kernel
theorem dX7_two_126 : decode fX7_two.2.1 126 = .ok (.goto 6, 3) := by decide +kernel
theorem dX7_two_129 : decode fX7_two.2.1 129 = .ok (.iload_n 1, 1) := by decide +kernel
theorem dX7_two_130 : decode fX7_two.2.1 130 = .ok (.iload_n 2, 1) := by decide +kernel
theorem dX7_two_131 : decode fX7_two.2.1 131 = .ok (.idiv, 1) := by decide +kernel
theorem dX7_two_132 : decode fX7_two.2.1 132 = .ok (.ireturn, 1) := by decide +kernel
set_option maxRecDepth 100000 in
set_option maxHeartbeats 4000000 in
theorem ok_X7_two {X : Xb} {S : Sg} {mi : Mem} {s a b : Int32} : OkI 0 fX7_two X [.int s, .int a, .int b] S mi (mTwo s a b) mi := by
  refine Ok.go [some (.int s), some (.int a), some (.int b)] (by decide) (by simp [Value.category]) (Nat.le_of_ble_eq_true rfl) rfl ?_
  refine mw_iload_n dX7_two_0 rfl ?_
  refine mw_ts1 dX7_two_1 (by decide) (-8) 117 (by decide) (fun h1_m8 => ?_) (fun h1_m8 => ?_)
  · skip
    refine mw_iload_n dX7_two_117 rfl ?_
    refine mw_iload_n dX7_two_118 rfl ?_
    refine mw_imul dX7_two_119 ?_
    exact mw_iret dX7_two_120 rfl (by decide) (by decide) (⟨by grind [mTwo], rfl, rfl⟩)
  refine mw_ts1 dX7_two_1 (by decide) (-7) 113 (by decide) (fun h1_m7 => ?_) (fun h1_m7 => ?_)
  · skip
    refine mw_iload_n dX7_two_113 rfl ?_
    refine mw_iload_n dX7_two_114 rfl ?_
    refine mw_isub dX7_two_115 ?_
    exact mw_iret dX7_two_116 rfl (by decide) (by decide) (⟨by grind [mTwo], rfl, rfl⟩)
  refine mw_ts1 dX7_two_1 (by decide) (-6) 109 (by decide) (fun h1_m6 => ?_) (fun h1_m6 => ?_)
  · skip
    refine mw_iload_n dX7_two_109 rfl ?_
    refine mw_iload_n dX7_two_110 rfl ?_
    refine mw_iadd dX7_two_111 ?_
    exact mw_iret dX7_two_112 rfl (by decide) (by decide) (⟨by grind [mTwo], rfl, rfl⟩)
  refine mw_ts1 dX7_two_1 (by decide) (-5) 98 (by decide) (fun h1_m5 => ?_) (fun h1_m5 => ?_)
  · skip
    refine mw_iload_n dX7_two_98 rfl ?_
    refine mw_iload_n dX7_two_99 rfl ?_
    refine mw_icmp_le (tgt := 107) dX7_two_100 (by decide) (fun h100 => ?_) (fun h100 => ?_)
    · skip
      refine mw_iconst (v := 0) dX7_two_107 (by decide) ?_
      exact mw_iret dX7_two_108 rfl (by decide) (by decide) (⟨by grind [mTwo], rfl, rfl⟩)
    · skip
      refine mw_iconst (v := 1) dX7_two_103 (by decide) ?_
      refine mw_goto (tgt := 108) dX7_two_104 (by decide) ?_
      exact mw_iret dX7_two_108 rfl (by decide) (by decide) (⟨by grind [mTwo], rfl, rfl⟩)
  refine mw_ts1 dX7_two_1 (by decide) (-4) 87 (by decide) (fun h1_m4 => ?_) (fun h1_m4 => ?_)
  · skip
    refine mw_iload_n dX7_two_87 rfl ?_
    refine mw_iload_n dX7_two_88 rfl ?_
    refine mw_icmp_ne (tgt := 96) dX7_two_89 (by decide) (fun h89 => ?_) (fun h89 => ?_)
    · skip
      refine mw_iconst (v := 0) dX7_two_96 (by decide) ?_
      exact mw_iret dX7_two_97 rfl (by decide) (by decide) (⟨by grind [mTwo], rfl, rfl⟩)
    · skip
      refine mw_iconst (v := 1) dX7_two_92 (by decide) ?_
      refine mw_goto (tgt := 97) dX7_two_93 (by decide) ?_
      exact mw_iret dX7_two_97 rfl (by decide) (by decide) (⟨by grind [mTwo], rfl, rfl⟩)
  refine mw_ts1 dX7_two_1 (by decide) (-3) 76 (by decide) (fun h1_m3 => ?_) (fun h1_m3 => ?_)
  · skip
    refine mw_iload_n dX7_two_76 rfl ?_
    refine mw_iload_n dX7_two_77 rfl ?_
    refine mw_icmp_ge (tgt := 85) dX7_two_78 (by decide) (fun h78 => ?_) (fun h78 => ?_)
    · skip
      refine mw_iconst (v := 0) dX7_two_85 (by decide) ?_
      exact mw_iret dX7_two_86 rfl (by decide) (by decide) (⟨by grind [mTwo], rfl, rfl⟩)
    · skip
      refine mw_iconst (v := 1) dX7_two_81 (by decide) ?_
      refine mw_goto (tgt := 86) dX7_two_82 (by decide) ?_
      exact mw_iret dX7_two_86 rfl (by decide) (by decide) (⟨by grind [mTwo], rfl, rfl⟩)
  refine mw_ts1 dX7_two_1 (by decide) (-2) 62 (by decide) (fun h1_m2 => ?_) (fun h1_m2 => ?_)
  · skip
    refine mw_iload_n dX7_two_62 rfl ?_
    refine mw_if_eq (tgt := 74) dX7_two_63 (by decide) (fun h63 => ?_) (fun h63 => ?_)
    · skip
      refine mw_iconst (v := 0) dX7_two_74 (by decide) ?_
      exact mw_iret dX7_two_75 rfl (by decide) (by decide) (⟨by grind [mTwo], rfl, rfl⟩)
    · skip
      refine mw_iload_n dX7_two_66 rfl ?_
      refine mw_if_eq (tgt := 74) dX7_two_67 (by decide) (fun h67 => ?_) (fun h67 => ?_)
      · skip
        refine mw_iconst (v := 0) dX7_two_74 (by decide) ?_
        exact mw_iret dX7_two_75 rfl (by decide) (by decide) (⟨by grind [mTwo], rfl, rfl⟩)
      · skip
        refine mw_iconst (v := 1) dX7_two_70 (by decide) ?_
        refine mw_goto (tgt := 75) dX7_two_71 (by decide) ?_
        exact mw_iret dX7_two_75 rfl (by decide) (by decide) (⟨by grind [mTwo], rfl, rfl⟩)
  refine mw_ts1 dX7_two_1 (by decide) (-1) 48 (by decide) (fun h1_m1 => ?_) (fun h1_m1 => ?_)
  · skip
    refine mw_iload_n dX7_two_48 rfl ?_
    refine mw_if_ne (tgt := 56) dX7_two_49 (by decide) (fun h49 => ?_) (fun h49 => ?_)
    · skip
      refine mw_iconst (v := 1) dX7_two_56 (by decide) ?_
      refine mw_goto (tgt := 61) dX7_two_57 (by decide) ?_
      exact mw_iret dX7_two_61 rfl (by decide) (by decide) (⟨by grind [mTwo], rfl, rfl⟩)
    · skip
      refine mw_iload_n dX7_two_52 rfl ?_
      refine mw_if_eq (tgt := 60) dX7_two_53 (by decide) (fun h53 => ?_) (fun h53 => ?_)
      · skip
        refine mw_iconst (v := 0) dX7_two_60 (by decide) ?_
        exact mw_iret dX7_two_61 rfl (by decide) (by decide) (⟨by grind [mTwo], rfl, rfl⟩)
      · skip
        refine mw_iconst (v := 1) dX7_two_56 (by decide) ?_
        refine mw_goto (tgt := 61) dX7_two_57 (by decide) ?_
        exact mw_iret dX7_two_61 rfl (by decide) (by decide) (⟨by grind [mTwo], rfl, rfl⟩)
  refine mw_ts0 dX7_two_1 (by decide) 121 (by decide) (by have e0 := ne_toI (n := -8) (by decide) h1_m8; have e1 := ne_toI (n := -7) (by decide) h1_m7; have e2 := ne_toI (n := -6) (by decide) h1_m6; have e3 := ne_toI (n := -5) (by decide) h1_m5; have e4 := ne_toI (n := -4) (by decide) h1_m4; have e5 := ne_toI (n := -3) (by decide) h1_m3; have e6 := ne_toI (n := -2) (by decide) h1_m2; have e7 := ne_toI (n := -1) (by decide) h1_m1; omega) ?_
  refine mw_iload_n dX7_two_121 rfl ?_
  refine mw_if_ne (tgt := 129) dX7_two_122 (by decide) (fun h122 => ?_) (fun h122 => ?_)
  · skip
    refine mw_iload_n dX7_two_129 rfl ?_
    refine mw_iload_n dX7_two_130 rfl ?_
    refine mw_idiv dX7_two_131 (h122) ?_
    exact mw_iret dX7_two_132 rfl (by decide) (by decide) (⟨by grind [mTwo], rfl, rfl⟩)
  · skip
    refine mw_iconst (v := 0) dX7_two_125 (by decide) ?_
    refine mw_goto (tgt := 132) dX7_two_126 (by decide) ?_
    exact mw_iret dX7_two_132 rfl (by decide) (by decide) (⟨by grind [mTwo], rfl, rfl⟩)
theorem m_row_ne {mi : Mem} {q a : Nat} {f : Nat → Int32} (h : a ≠ q) : m_row mi q f a = mi a := by
  funext k; simp [m_row, h]
theorem m_row_self (mi : Mem) (q : Nat) (f : Nat → Int32) : m_row mi q f q = f := by
  funext k; simp [m_row]
theorem m_up_mrow (mi : Mem) (q k : Nat) (f : Nat → Int32) (v : Int32) : m_up (m_row mi q f) q k v = m_row mi q (upd f k v) := by
  funext a b; simp only [m_up, m_row, upd]; grind
theorem m_row_id (mi : Mem) (q : Nat) : m_row mi q (mi q) = mi := by
  funext a b; simp only [m_row]; grind
theorem nmIx {x : Int32} (h1 : ¬ x < -4) (h2 : x < 0) : vp_in (-1 - x) 4 := by
  have e1 : ¬ x.toInt < -4 := fun h => h1 (Int32.lt_iff_toInt_lt.mpr h)
  have e2 : x.toInt < 0 := Int32.lt_iff_toInt_lt.mp h2
  have : x = -1 ∨ x = -2 ∨ x = -3 ∨ x = -4 := by
    have c1 : (-1 : Int32).toInt = -1 := by decide
    have c2 : (-2 : Int32).toInt = -2 := by decide
    have c3 : (-3 : Int32).toInt = -3 := by decide
    have c4 : (-4 : Int32).toInt = -4 := by decide
    rw [← Int32.toInt_inj, ← Int32.toInt_inj, ← Int32.toInt_inj, ← Int32.toInt_inj, c1, c2, c3, c4]
    omega
  rcases this with rfl | rfl | rfl | rfl <;> (unfold vp_in; decide)
def gStep (nm : Nat → Int32) (st : Nat × (Nat → Int32)) (x : Int32) : Nat × (Nat → Int32) :=
  if x < -4 then
    if x = -33 then (if st.1 < 1 then st else (st.1, upd st.2 (st.1 - 1) (if st.2 (st.1 - 1) = 0 then 1 else 0)))
    else if st.1 < 2 then st else (st.1 - 1, upd st.2 (st.1 - 2) (cJoin (-x) (st.2 (st.1 - 2)) (st.2 (st.1 - 1))))
  else if st.1 < 96 then (st.1 + 1, upd st.2 st.1 (if x < 0 then nm (-1 - x).toNatClampNeg else x)) else st
def gRun (nm s p : Nat → Int32) : Nat → Nat × (Nat → Int32)
  | 0 => (0, p)
  | k + 1 => gStep nm (gRun nm s p k) (s k)
theorem gRun_le (nm s p : Nat → Int32) : ∀ k, (gRun nm s p k).1 ≤ 96
  | 0 => by simp [gRun]
  | k + 1 => by
    have := gRun_le nm s p k
    simp only [gRun, gStep]
    grind
theorem nI_sub1 {h : Nat} (hh : 1 ≤ h) : nI h - 1 = nI (h - 1) := by
  obtain ⟨j, rfl⟩ : ∃ j, h = j + 1 := ⟨h - 1, by omega⟩
  rw [nI_pred]; rfl
theorem nI_dec {h : Nat} (hh : 1 ≤ h) : nI h + Int32.ofInt (-1) = nI (h - 1) := by
  have e : Int32.ofInt (-1) = -1 := by decide
  rw [e, ← Int32.sub_eq_add_neg, nI_sub1 hh]
theorem nI_lt1 {h : Nat} (hh : h < 2 ^ 31) (j : Nat) (hj : j < 2 ^ 31) : nI h < nI j ↔ h < j := nI_ltI hh hj
theorem dX4_gives_0 : decode fX4_gives.2.1 0 = .ok (.iconst 0, 1) := by decide +kernel
theorem dX4_gives_1 : decode fX4_gives.2.1 1 = .ok (.istore_n 3, 1) := by decide +kernel
theorem dX4_gives_2 : decode fX4_gives.2.1 2 = .ok (.iconst 0, 1) := by decide +kernel
theorem dX4_gives_3 : decode fX4_gives.2.1 3 = .ok (.istore 4, 2) := by decide +kernel
theorem dX4_gives_5 : decode fX4_gives.2.1 5 = .ok (.iload 4, 2) := by decide +kernel
theorem dX4_gives_7 : decode fX4_gives.2.1 7 = .ok (.aload_n 0, 1) := by decide +kernel
theorem dX4_gives_8 : decode fX4_gives.2.1 8 = .ok (.getfield 16, 3) := by decide +kernel
theorem dX4_gives_11 : decode fX4_gives.2.1 11 = .ok (.arraylength, 1) := by decide +kernel
theorem dX4_gives_12 : decode fX4_gives.2.1 12 = .ok (.if_icmp .ge 116, 3) := by decide +kernel
theorem dX4_gives_15 : decode fX4_gives.2.1 15 = .ok (.aload_n 0, 1) := by decide +kernel
theorem dX4_gives_16 : decode fX4_gives.2.1 16 = .ok (.getfield 16, 3) := by decide +kernel
theorem dX4_gives_19 : decode fX4_gives.2.1 19 = .ok (.iload 4, 2) := by decide +kernel
theorem dX4_gives_21 : decode fX4_gives.2.1 21 = .ok (.iaload, 1) := by decide +kernel
theorem dX4_gives_22 : decode fX4_gives.2.1 22 = .ok (.istore 5, 2) := by decide +kernel
theorem dX4_gives_24 : decode fX4_gives.2.1 24 = .ok (.iload 5, 2) := by decide +kernel
theorem dX4_gives_26 : decode fX4_gives.2.1 26 = .ok (.bipush (-4), 2) := by decide +kernel
theorem dX4_gives_28 : decode fX4_gives.2.1 28 = .ok (.if_icmp .lt 34, 3) := by decide +kernel
theorem dX4_gives_31 : decode fX4_gives.2.1 31 = .ok (.iload_n 3, 1) := by decide +kernel
theorem dX4_gives_32 : decode fX4_gives.2.1 32 = .ok (.aload_n 2, 1) := by decide +kernel
theorem dX4_gives_33 : decode fX4_gives.2.1 33 = .ok (.arraylength, 1) := by decide +kernel
theorem dX4_gives_34 : decode fX4_gives.2.1 34 = .ok (.if_icmp .ge 88, 3) := by decide +kernel
theorem dX4_gives_37 : decode fX4_gives.2.1 37 = .ok (.aload_n 2, 1) := by decide +kernel
theorem dX4_gives_38 : decode fX4_gives.2.1 38 = .ok (.iload_n 3, 1) := by decide +kernel
theorem dX4_gives_39 : decode fX4_gives.2.1 39 = .ok (.iload 5, 2) := by decide +kernel
theorem dX4_gives_41 : decode fX4_gives.2.1 41 = .ok (.ifCond .lt 8, 3) := by decide +kernel
theorem dX4_gives_44 : decode fX4_gives.2.1 44 = .ok (.iload 5, 2) := by decide +kernel
theorem dX4_gives_46 : decode fX4_gives.2.1 46 = .ok (.goto 9, 3) := by decide +kernel
theorem dX4_gives_49 : decode fX4_gives.2.1 49 = .ok (.aload_n 1, 1) := by decide +kernel
theorem dX4_gives_50 : decode fX4_gives.2.1 50 = .ok (.iconst (-1), 1) := by decide +kernel
theorem dX4_gives_51 : decode fX4_gives.2.1 51 = .ok (.iload 5, 2) := by decide +kernel
theorem dX4_gives_53 : decode fX4_gives.2.1 53 = .ok (.isub, 1) := by decide +kernel
theorem dX4_gives_54 : decode fX4_gives.2.1 54 = .ok (.iaload, 1) := by decide +kernel
theorem dX4_gives_55 : decode fX4_gives.2.1 55 = .ok (.iastore, 1) := by decide +kernel
theorem dX4_gives_56 : decode fX4_gives.2.1 56 = .ok (.iinc 3 1, 3) := by decide +kernel
theorem dX4_gives_59 : decode fX4_gives.2.1 59 = .ok (.goto 63, 3) := by decide +kernel
theorem dX4_gives_62 : decode fX4_gives.2.1 62 = .ok (.iload 5, 2) := by decide +kernel
theorem dX4_gives_64 : decode fX4_gives.2.1 64 = .ok (.bipush (-33), 2) := by decide +kernel
theorem dX4_gives_66 : decode fX4_gives.2.1 66 = .ok (.if_icmp .ne 29, 3) := by decide +kernel
theorem dX4_gives_69 : decode fX4_gives.2.1 69 = .ok (.iload_n 3, 1) := by decide +kernel
theorem dX4_gives_70 : decode fX4_gives.2.1 70 = .ok (.iconst 1, 1) := by decide +kernel
theorem dX4_gives_71 : decode fX4_gives.2.1 71 = .ok (.if_icmp .lt 51, 3) := by decide +kernel
theorem dX4_gives_74 : decode fX4_gives.2.1 74 = .ok (.aload_n 2, 1) := by decide +kernel
theorem dX4_gives_75 : decode fX4_gives.2.1 75 = .ok (.iload_n 3, 1) := by decide +kernel
theorem dX4_gives_76 : decode fX4_gives.2.1 76 = .ok (.iconst 1, 1) := by decide +kernel
theorem dX4_gives_77 : decode fX4_gives.2.1 77 = .ok (.isub, 1) := by decide +kernel
theorem dX4_gives_78 : decode fX4_gives.2.1 78 = .ok (.aload_n 2, 1) := by decide +kernel
theorem dX4_gives_79 : decode fX4_gives.2.1 79 = .ok (.iload_n 3, 1) := by decide +kernel
theorem dX4_gives_80 : decode fX4_gives.2.1 80 = .ok (.iconst 1, 1) := by decide +kernel
theorem dX4_gives_81 : decode fX4_gives.2.1 81 = .ok (.isub, 1) := by decide +kernel
theorem dX4_gives_82 : decode fX4_gives.2.1 82 = .ok (.iaload, 1) := by decide +kernel
theorem dX4_gives_83 : decode fX4_gives.2.1 83 = .ok (.ifCond .ne 7, 3) := by decide +kernel
theorem dX4_gives_86 : decode fX4_gives.2.1 86 = .ok (.iconst 1, 1) := by decide +kernel
theorem dX4_gives_87 : decode fX4_gives.2.1 87 = .ok (.goto 4, 3) := by decide +kernel
theorem dX4_gives_90 : decode fX4_gives.2.1 90 = .ok (.iconst 0, 1) := by decide +kernel
theorem dX4_gives_91 : decode fX4_gives.2.1 91 = .ok (.iastore, 1) := by decide +kernel
theorem dX4_gives_92 : decode fX4_gives.2.1 92 = .ok (.goto 30, 3) := by decide +kernel
theorem dX4_gives_95 : decode fX4_gives.2.1 95 = .ok (.iload_n 3, 1) := by decide +kernel
theorem dX4_gives_96 : decode fX4_gives.2.1 96 = .ok (.iconst 2, 1) := by decide +kernel
theorem dX4_gives_97 : decode fX4_gives.2.1 97 = .ok (.if_icmp .lt 25, 3) := by decide +kernel
theorem dX4_gives_100 : decode fX4_gives.2.1 100 = .ok (.iinc 3 (-1), 3) := by decide +kernel
theorem dX4_gives_103 : decode fX4_gives.2.1 103 = .ok (.aload_n 2, 1) := by decide +kernel
theorem dX4_gives_104 : decode fX4_gives.2.1 104 = .ok (.iload_n 3, 1) := by decide +kernel
theorem dX4_gives_105 : decode fX4_gives.2.1 105 = .ok (.iconst 1, 1) := by decide +kernel
theorem dX4_gives_106 : decode fX4_gives.2.1 106 = .ok (.isub, 1) := by decide +kernel
theorem dX4_gives_107 : decode fX4_gives.2.1 107 = .ok (.iload 5, 2) := by decide +kernel
theorem dX4_gives_109 : decode fX4_gives.2.1 109 = .ok (.ineg, 1) := by decide +kernel
theorem dX4_gives_110 : decode fX4_gives.2.1 110 = .ok (.aload_n 2, 1) := by decide +kernel
theorem dX4_gives_111 : decode fX4_gives.2.1 111 = .ok (.iload_n 3, 1) := by decide +kernel
theorem dX4_gives_112 : decode fX4_gives.2.1 112 = .ok (.iconst 1, 1) := by decide +kernel
theorem dX4_gives_113 : decode fX4_gives.2.1 113 = .ok (.isub, 1) := by decide +kernel
theorem dX4_gives_114 : decode fX4_gives.2.1 114 = .ok (.iaload, 1) := by decide +kernel
theorem dX4_gives_115 : decode fX4_gives.2.1 115 = .ok (.aload_n 2, 1) := by decide +kernel
theorem dX4_gives_116 : decode fX4_gives.2.1 116 = .ok (.iload_n 3, 1) := by decide +kernel
theorem dX4_gives_117 : decode fX4_gives.2.1 117 = .ok (.iaload, 1) := by decide +kernel
theorem dX4_gives_118 : decode fX4_gives.2.1 118 = .ok (.invokestatic 26, 3) := by decide +kernel
theorem dX4_gives_121 : decode fX4_gives.2.1 121 = .ok (.iastore, 1) := by decide +kernel
theorem dX4_gives_122 : decode fX4_gives.2.1 122 = .ok (.iinc 4 1, 3) := by decide +kernel
theorem dX4_gives_125 : decode fX4_gives.2.1 125 = .ok (.goto (-120), 3) := by decide +kernel
theorem dX4_gives_128 : decode fX4_gives.2.1 128 = .ok (.aload_n 2, 1) := by decide +kernel
theorem dX4_gives_129 : decode fX4_gives.2.1 129 = .ok (.iconst 0, 1) := by decide +kernel
theorem dX4_gives_130 : decode fX4_gives.2.1 130 = .ok (.iaload, 1) := by decide +kernel
theorem dX4_gives_131 : decode fX4_gives.2.1 131 = .ok (.ireturn, 1) := by decide +kernel
set_option maxRecDepth 100000 in
set_option maxHeartbeats 4000000 in
theorem ok_X4_gives {X : Xb} {S : Sg} {mi : Mem} {p nq pq len : Nat} (hp : Kd S p 4 0) (hr : S.2.2 p 2 = some (p + 1)) (hs : Kd S (p + 1) 8 len) (hl : len < 2 ^ 31) (hn : Kd S nq 8 4) (hq : Kd S pq 8 96) (h1 : p + 1 ≠ pq) (h2 : nq ≠ pq) : OkI 1 fX4_gives X [rf X p, rf X nq, rf X pq] S mi ((gRun (mi nq) (mi (p + 1)) (mi pq) len).2 0) (m_row mi pq (gRun (mi nq) (mi (p + 1)) (mi pq) len).2) := by
  refine Ok.go [some (rf X p), some (rf X nq), some (rf X pq), none, none, none] (by decide) (by simp [Value.category]) (Nat.le_of_ble_eq_true rfl) rfl ?_
  have lp := mw_dn (P := fun k => MW X fX4_gives (rmOf 1 0 0) 0 0 5 [some (rf X p), some (rf X nq), some (rf X pq), some (.int (nI (gRun (mi nq) (mi (p + 1)) (mi pq) k).1)), some (.int (nI k)), none] [] S (m_row mi pq (gRun (mi nq) (mi (p + 1)) (mi pq) k).2) (mQ X 0 0 (pI ((gRun (mi nq) (mi (p + 1)) (mi pq) len).2 0) S (m_row mi pq (gRun (mi nq) (mi (p + 1)) (mi pq) len).2)))) len (by
    refine mw_iload dX4_gives_5 rfl ?_
    refine mw_aload_n dX4_gives_7 rfl ?_
    refine mw_getr dX4_gives_8 fl_X4_16 rfl (by assumption) (by assumption) ?_
    refine mw_alen dX4_gives_11 (by assumption) rfl ?_
    refine mw_icmp_ge (tgt := 128) dX4_gives_12 (by decide) (fun h12 => ?_) (fun h12 => ?_)
    · skip
      refine mw_aload_n dX4_gives_128 rfl ?_
      refine mw_iconst (v := 0) dX4_gives_129 (by decide) ?_
      refine mw_ialdK (k := 0) dX4_gives_130 (by assumption) (rfl) (by decide) (by decide) ?_
      exact mw_iret dX4_gives_131 rfl (by decide) (by decide) (⟨by rw [m_row_self], rfl, rfl⟩)
    · skip
      exact absurd (Int32.le_refl _) h12) (fun k hk ih => by
    have hle := gRun_le (mi nq) (mi (p + 1)) (mi pq) k
    have hrun : gRun (mi nq) (mi (p + 1)) (mi pq) (k + 1) = gStep (mi nq) (gRun (mi nq) (mi (p + 1)) (mi pq) k) (mi (p + 1) k) := rfl
    rw [hrun] at ih
    generalize gRun (mi nq) (mi (p + 1)) (mi pq) k = g at ih hle ⊢
    obtain ⟨h, f⟩ := g
    generalize hx : mi (p + 1) k = x at ih
    simp only at ih hle ⊢
    have q1 := nI_lt1 (h := h) (by omega) 1 (by decide)
    have q2 := nI_lt1 (h := h) (by omega) 2 (by decide)
    have q9 : Int32.ofNat 96 ≤ nI h ↔ 96 ≤ h := nI_leI (by decide) (by omega)
    refine mw_iload dX4_gives_5 rfl ?_
    refine mw_aload_n dX4_gives_7 rfl ?_
    refine mw_getr dX4_gives_8 fl_X4_16 rfl (by assumption) (by assumption) ?_
    refine mw_alen dX4_gives_11 (by assumption) rfl ?_
    refine mw_icmp_ge (tgt := 128) dX4_gives_12 (by decide) (fun h12 => ?_) (fun h12 => ?_)
    · skip
      exact absurd h12 (nI_ge hk hl)
    · skip
      refine mw_aload_n dX4_gives_15 rfl ?_
      refine mw_getr dX4_gives_16 fl_X4_16 rfl (by assumption) (by assumption) ?_
      refine mw_iload dX4_gives_19 rfl ?_
      refine mw_ialdK (k := k) dX4_gives_21 (by assumption) (rfl) (hk) (hl) ?_
      rw [m_row_ne h1, hx]
      refine mw_istore dX4_gives_22 (by decide) ?_
      refine mw_iload dX4_gives_24 rfl ?_
      refine mw_bipush (v := (-4)) dX4_gives_26 (by decide) ?_
      refine mw_icmp_lt (tgt := 62) dX4_gives_28 (by decide) (fun h28 => ?_) (fun h28 => ?_)
      · skip
        refine mw_iload dX4_gives_62 rfl ?_
        refine mw_bipush (v := (-33)) dX4_gives_64 (by decide) ?_
        refine mw_icmp_ne (tgt := 95) dX4_gives_66 (by decide) (fun h66 => ?_) (fun h66 => ?_)
        · skip
          refine mw_iload_n dX4_gives_95 rfl ?_
          refine mw_iconst (v := 2) dX4_gives_96 (by decide) ?_
          refine mw_icmp_lt (tgt := 122) dX4_gives_97 (by decide) (fun h97 => ?_) (fun h97 => ?_)
          · skip
            refine mw_iincK (k := k) dX4_gives_122 rfl rfl (by decide) ?_
            refine mw_goto (tgt := 5) dX4_gives_125 (by decide) ?_
            refine MW.back ih ?_
            try rw [show (1 : Int32) = nI 1 from rfl, q1] at h71
            try rw [show (2 : Int32) = nI 2 from rfl, q2] at h97
            try rw [q9] at h34
            simp [lsub, gStep, m_up_mrow, *] <;> grind
          · skip
            have hh : 2 ≤ h := Nat.not_lt.mp fun q => h97 (nI_lt (b := 2) q (by decide))
            have e1 : nI h + Int32.ofInt (-1) = nI (h - 1) := nI_dec (by omega)
            refine mw_iinc dX4_gives_100 rfl (by decide) e1 ?_
            refine mw_aload_n dX4_gives_103 rfl ?_
            refine mw_iload_n dX4_gives_104 rfl ?_
            refine mw_iconst (v := 1) dX4_gives_105 (by decide) ?_
            refine mw_isub dX4_gives_106 ?_
            refine mw_iload dX4_gives_107 rfl ?_
            refine mw_ineg dX4_gives_109 ?_
            refine mw_aload_n dX4_gives_110 rfl ?_
            refine mw_iload_n dX4_gives_111 rfl ?_
            refine mw_iconst (v := 1) dX4_gives_112 (by decide) ?_
            refine mw_isub dX4_gives_113 ?_
            refine mw_ialdK (k := h - 2) dX4_gives_114 (by assumption) (by rw [nI_sub1 (by omega)]; rfl) (by omega) (by decide) ?_
            rw [m_row_self]
            refine mw_aload_n dX4_gives_115 rfl ?_
            refine mw_iload_n dX4_gives_116 rfl ?_
            refine mw_ialdK (k := h - 1) dX4_gives_117 (by assumption) (rfl) (by omega) (by decide) ?_
            rw [m_row_self]
            refine mw_cSI (g := fX4_joined) dX4_gives_118 ml_X4_26 mfX4_joined (ok_X4_joined) rfl rfl (Nat.le_of_ble_eq_true rfl) ⟨by decide, by decide⟩ ⟨by decide, by decide⟩ ?_
            refine mw_iastK (k := h - 2) dX4_gives_121 (by assumption) (by rw [nI_sub1 (by omega)]; rfl) (by omega) (by decide) ?_
            refine mw_iincK (k := k) dX4_gives_122 rfl rfl (by decide) ?_
            refine mw_goto (tgt := 5) dX4_gives_125 (by decide) ?_
            refine MW.back ih ?_
            try rw [show (1 : Int32) = nI 1 from rfl, q1] at h71
            try rw [show (2 : Int32) = nI 2 from rfl, q2] at h97
            try rw [q9] at h34
            simp [lsub, gStep, m_up_mrow, *] <;> grind
        · skip
          refine mw_iload_n dX4_gives_69 rfl ?_
          refine mw_iconst (v := 1) dX4_gives_70 (by decide) ?_
          refine mw_icmp_lt (tgt := 122) dX4_gives_71 (by decide) (fun h71 => ?_) (fun h71 => ?_)
          · skip
            refine mw_iincK (k := k) dX4_gives_122 rfl rfl (by decide) ?_
            refine mw_goto (tgt := 5) dX4_gives_125 (by decide) ?_
            refine MW.back ih ?_
            try rw [show (1 : Int32) = nI 1 from rfl, q1] at h71
            try rw [show (2 : Int32) = nI 2 from rfl, q2] at h97
            try rw [q9] at h34
            simp [lsub, gStep, m_up_mrow, *] <;> grind
          · skip
            have hh : 1 ≤ h := Nat.not_lt.mp fun q => h71 (nI_lt (b := 1) q (by decide))
            refine mw_aload_n dX4_gives_74 rfl ?_
            refine mw_iload_n dX4_gives_75 rfl ?_
            refine mw_iconst (v := 1) dX4_gives_76 (by decide) ?_
            refine mw_isub dX4_gives_77 ?_
            refine mw_aload_n dX4_gives_78 rfl ?_
            refine mw_iload_n dX4_gives_79 rfl ?_
            refine mw_iconst (v := 1) dX4_gives_80 (by decide) ?_
            refine mw_isub dX4_gives_81 ?_
            refine mw_ialdK (k := h - 1) dX4_gives_82 (by assumption) (nI_sub1 hh) (by omega) (by decide) ?_
            rw [m_row_self]
            refine mw_if_ne (tgt := 90) dX4_gives_83 (by decide) (fun h83 => ?_) (fun h83 => ?_)
            · skip
              refine mw_iconst (v := 0) dX4_gives_90 (by decide) ?_
              refine mw_iastK (k := h - 1) dX4_gives_91 (by assumption) (nI_sub1 hh) (by omega) (by decide) ?_
              refine mw_goto (tgt := 122) dX4_gives_92 (by decide) ?_
              refine mw_iincK (k := k) dX4_gives_122 rfl rfl (by decide) ?_
              refine mw_goto (tgt := 5) dX4_gives_125 (by decide) ?_
              refine MW.back ih ?_
              try rw [show (1 : Int32) = nI 1 from rfl, q1] at h71
              try rw [show (2 : Int32) = nI 2 from rfl, q2] at h97
              try rw [q9] at h34
              simp [lsub, gStep, m_up_mrow, *] <;> grind
            · skip
              refine mw_iconst (v := 1) dX4_gives_86 (by decide) ?_
              refine mw_goto (tgt := 91) dX4_gives_87 (by decide) ?_
              refine mw_iastK (k := h - 1) dX4_gives_91 (by assumption) (nI_sub1 hh) (by omega) (by decide) ?_
              refine mw_goto (tgt := 122) dX4_gives_92 (by decide) ?_
              refine mw_iincK (k := k) dX4_gives_122 rfl rfl (by decide) ?_
              refine mw_goto (tgt := 5) dX4_gives_125 (by decide) ?_
              refine MW.back ih ?_
              try rw [show (1 : Int32) = nI 1 from rfl, q1] at h71
              try rw [show (2 : Int32) = nI 2 from rfl, q2] at h97
              try rw [q9] at h34
              simp [lsub, gStep, m_up_mrow, *] <;> grind
      · skip
        refine mw_iload_n dX4_gives_31 rfl ?_
        refine mw_aload_n dX4_gives_32 rfl ?_
        refine mw_alen dX4_gives_33 (by assumption) rfl ?_
        refine mw_icmp_ge (tgt := 122) dX4_gives_34 (by decide) (fun h34 => ?_) (fun h34 => ?_)
        · skip
          refine mw_iincK (k := k) dX4_gives_122 rfl rfl (by decide) ?_
          refine mw_goto (tgt := 5) dX4_gives_125 (by decide) ?_
          refine MW.back ih ?_
          try rw [show (1 : Int32) = nI 1 from rfl, q1] at h71
          try rw [show (2 : Int32) = nI 2 from rfl, q2] at h97
          try rw [q9] at h34
          simp [lsub, gStep, m_up_mrow, *] <;> grind
        · skip
          have hh : h < 96 := Nat.not_le.mp fun q => h34 (nI_le q (by omega))
          refine mw_aload_n dX4_gives_37 rfl ?_
          refine mw_iload_n dX4_gives_38 rfl ?_
          refine mw_iload dX4_gives_39 rfl ?_
          refine mw_if_lt (tgt := 49) dX4_gives_41 (by decide) (fun h41 => ?_) (fun h41 => ?_)
          · skip
            have hix := nmIx h28 h41
            refine mw_aload_n dX4_gives_49 rfl ?_
            refine mw_iconst (v := (-1)) dX4_gives_50 (by decide) ?_
            refine mw_iload dX4_gives_51 rfl ?_
            refine mw_isub dX4_gives_53 ?_
            refine mw_iald dX4_gives_54 hn hix ?_
            rw [m_row_ne h2]
            refine mw_iastK (k := h) dX4_gives_55 (by assumption) (rfl) (hh) (by decide) ?_
            refine mw_iincK (k := h) dX4_gives_56 rfl rfl (by decide) ?_
            refine mw_goto (tgt := 122) dX4_gives_59 (by decide) ?_
            refine mw_iincK (k := k) dX4_gives_122 rfl rfl (by decide) ?_
            refine mw_goto (tgt := 5) dX4_gives_125 (by decide) ?_
            refine MW.back ih ?_
            try rw [show (1 : Int32) = nI 1 from rfl, q1] at h71
            try rw [show (2 : Int32) = nI 2 from rfl, q2] at h97
            try rw [q9] at h34
            simp [lsub, gStep, m_up_mrow, *] <;> grind
          · skip
            refine mw_iload dX4_gives_44 rfl ?_
            refine mw_goto (tgt := 55) dX4_gives_46 (by decide) ?_
            refine mw_iastK (k := h) dX4_gives_55 (by assumption) (rfl) (hh) (by decide) ?_
            refine mw_iincK (k := h) dX4_gives_56 rfl rfl (by decide) ?_
            refine mw_goto (tgt := 122) dX4_gives_59 (by decide) ?_
            refine mw_iincK (k := k) dX4_gives_122 rfl rfl (by decide) ?_
            refine mw_goto (tgt := 5) dX4_gives_125 (by decide) ?_
            refine MW.back ih ?_
            try rw [show (1 : Int32) = nI 1 from rfl, q1] at h71
            try rw [show (2 : Int32) = nI 2 from rfl, q2] at h97
            try rw [q9] at h34
            simp [lsub, gStep, m_up_mrow, *] <;> grind)
  refine mw_iconst (v := 0) dX4_gives_0 (by decide) ?_
  refine mw_istN 3 dX4_gives_1 rfl (by decide) ?_
  refine mw_iconst (v := 0) dX4_gives_2 (by decide) ?_
  refine mw_istore dX4_gives_3 (by decide) ?_
  refine MW.back lp ⟨by simp [lsub, nI_0, gRun], rfl, rfl, ?_⟩
  simp only [gRun, m_row_id]
