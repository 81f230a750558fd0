/-! the constructor of a town -/
def TwP (S : Sg) (mi : Mem) (t : Nat) (S' : Sg) (m : Mem) : Prop := S'.1 = t + 17 ∧ Ext t S S' ∧ TwA S' t ∧ (∀ i, i < 14 → S'.2.2 (t + 4) i = none) ∧ (∀ a, a < t → m a = mi a) ∧ m t = upd (upd (upd (mi t) 5 10) 7 50) 11 1 ∧ (∀ j, j < 8 → m (t + 1) j = nI (3 * j) ∧ m (t + 2) j = 5) ∧ ∀ j, j < 3 → m (t + 5) j = -1
theorem dX5_init_0 : decode fX5_init.2.1 0 = .ok (.aload_n 0, 1) := by decide +kernel
theorem dX5_init_1 : decode fX5_init.2.1 1 = .ok (.invokespecial 3, 3) := by decide +kernel
theorem dX5_init_4 : decode fX5_init.2.1 4 = .ok (.aload_n 0, 1) := by decide +kernel
theorem dX5_init_5 : decode fX5_init.2.1 5 = .ok (.bipush 8, 2) := by decide +kernel
theorem dX5_init_7 : decode fX5_init.2.1 7 = .ok (.newarray .int, 2) := by decide +kernel
theorem dX5_init_9 : decode fX5_init.2.1 9 = .ok (.putfield 9, 3) := by decide +kernel
theorem dX5_init_12 : decode fX5_init.2.1 12 = .ok (.aload_n 0, 1) := by decide +kernel
theorem dX5_init_13 : decode fX5_init.2.1 13 = .ok (.bipush 8, 2) := by decide +kernel
theorem dX5_init_15 : decode fX5_init.2.1 15 = .ok (.newarray .int, 2) := by decide +kernel
theorem dX5_init_17 : decode fX5_init.2.1 17 = .ok (.putfield 15, 3) := by decide +kernel
theorem dX5_init_20 : decode fX5_init.2.1 20 = .ok (.aload_n 0, 1) := by decide +kernel
theorem dX5_init_21 : decode fX5_init.2.1 21 = .ok (.bipush 8, 2) := by decide +kernel
theorem dX5_init_23 : decode fX5_init.2.1 23 = .ok (.anewarray 18, 3) := by decide +kernel
theorem dX5_init_26 : decode fX5_init.2.1 26 = .ok (.putfield 20, 3) := by decide +kernel
theorem dX5_init_29 : decode fX5_init.2.1 29 = .ok (.aload_n 0, 1) := by decide +kernel
theorem dX5_init_30 : decode fX5_init.2.1 30 = .ok (.bipush 10, 2) := by decide +kernel
theorem dX5_init_32 : decode fX5_init.2.1 32 = .ok (.putfield 24, 3) := by decide +kernel
theorem dX5_init_35 : decode fX5_init.2.1 35 = .ok (.aload_n 0, 1) := by decide +kernel
theorem dX5_init_36 : decode fX5_init.2.1 36 = .ok (.bipush 50, 2) := by decide +kernel
theorem dX5_init_38 : decode fX5_init.2.1 38 = .ok (.putfield 28, 3) := by decide +kernel
theorem dX5_init_41 : decode fX5_init.2.1 41 = .ok (.aload_n 0, 1) := by decide +kernel
theorem dX5_init_42 : decode fX5_init.2.1 42 = .ok (.iconst 1, 1) := by decide +kernel
theorem dX5_init_43 : decode fX5_init.2.1 43 = .ok (.putfield 31, 3) := by decide +kernel
theorem dX5_init_46 : decode fX5_init.2.1 46 = .ok (.aload_n 0, 1) := by decide +kernel
theorem dX5_init_47 : decode fX5_init.2.1 47 = .ok (.bipush 14, 2) := by decide +kernel
theorem dX5_init_49 : decode fX5_init.2.1 49 = .ok (.anewarray 34, 3) := by decide +kernel
theorem dX5_init_52 : decode fX5_init.2.1 52 = .ok (.putfield 36, 3) := by decide +kernel
theorem dX5_init_55 : decode fX5_init.2.1 55 = .ok (.aload_n 0, 1) := by decide +kernel
theorem dX5_init_56 : decode fX5_init.2.1 56 = .ok (.iconst 3, 1) := by decide +kernel
theorem dX5_init_57 : decode fX5_init.2.1 57 = .ok (.newarray .int, 2) := by decide +kernel
theorem dX5_init_59 : decode fX5_init.2.1 59 = .ok (.putfield 40, 3) := by decide +kernel
theorem dX5_init_62 : decode fX5_init.2.1 62 = .ok (.aload_n 0, 1) := by decide +kernel
theorem dX5_init_63 : decode fX5_init.2.1 63 = .ok (.iconst 4, 1) := by decide +kernel
theorem dX5_init_64 : decode fX5_init.2.1 64 = .ok (.newarray .int, 2) := by decide +kernel
theorem dX5_init_66 : decode fX5_init.2.1 66 = .ok (.putfield 43, 3) := by decide +kernel
theorem dX5_init_69 : decode fX5_init.2.1 69 = .ok (.aload_n 0, 1) := by decide +kernel
theorem dX5_init_70 : decode fX5_init.2.1 70 = .ok (.bipush 96, 2) := by decide +kernel
theorem dX5_init_72 : decode fX5_init.2.1 72 = .ok (.newarray .int, 2) := by decide +kernel
theorem dX5_init_74 : decode fX5_init.2.1 74 = .ok (.putfield 46, 3) := by decide +kernel
theorem dX5_init_77 : decode fX5_init.2.1 77 = .ok (.aload_n 0, 1) := by decide +kernel
theorem dX5_init_78 : decode fX5_init.2.1 78 = .ok (.bipush 8, 2) := by decide +kernel
theorem dX5_init_80 : decode fX5_init.2.1 80 = .ok (.newarray .int, 2) := by decide +kernel
theorem dX5_init_82 : decode fX5_init.2.1 82 = .ok (.putfield 49, 3) := by decide +kernel
theorem dX5_init_85 : decode fX5_init.2.1 85 = .ok (.iconst 0, 1) := by decide +kernel
theorem dX5_init_86 : decode fX5_init.2.1 86 = .ok (.istore_n 1, 1) := by decide +kernel
theorem dX5_init_87 : decode fX5_init.2.1 87 = .ok (.iload_n 1, 1) := by decide +kernel
theorem dX5_init_88 : decode fX5_init.2.1 88 = .ok (.bipush 8, 2) := by decide +kernel
theorem dX5_init_90 : decode fX5_init.2.1 90 = .ok (.if_icmp .ge 25, 3) := by decide +kernel
theorem dX5_init_93 : decode fX5_init.2.1 93 = .ok (.aload_n 0, 1) := by decide +kernel
theorem dX5_init_94 : decode fX5_init.2.1 94 = .ok (.getfield 9, 3) := by decide +kernel
theorem dX5_init_97 : decode fX5_init.2.1 97 = .ok (.iload_n 1, 1) := by decide +kernel
theorem dX5_init_98 : decode fX5_init.2.1 98 = .ok (.iconst 3, 1) := by decide +kernel
theorem dX5_init_99 : decode fX5_init.2.1 99 = .ok (.iload_n 1, 1) := by decide +kernel
theorem dX5_init_100 : decode fX5_init.2.1 100 = .ok (.imul, 1) := by decide +kernel
theorem dX5_init_101 : decode fX5_init.2.1 101 = .ok (.iastore, 1) := by decide +kernel
theorem dX5_init_102 : decode fX5_init.2.1 102 = .ok (.aload_n 0, 1) := by decide +kernel
theorem dX5_init_103 : decode fX5_init.2.1 103 = .ok (.getfield 15, 3) := by decide +kernel
theorem dX5_init_106 : decode fX5_init.2.1 106 = .ok (.iload_n 1, 1) := by decide +kernel
theorem dX5_init_107 : decode fX5_init.2.1 107 = .ok (.iconst 5, 1) := by decide +kernel
theorem dX5_init_108 : decode fX5_init.2.1 108 = .ok (.iastore, 1) := by decide +kernel
theorem dX5_init_109 : decode fX5_init.2.1 109 = .ok (.iinc 1 1, 3) := by decide +kernel
theorem dX5_init_112 : decode fX5_init.2.1 112 = .ok (.goto (-25), 3) := by decide +kernel
theorem dX5_init_115 : decode fX5_init.2.1 115 = .ok (.iconst 0, 1) := by decide +kernel
theorem dX5_init_116 : decode fX5_init.2.1 116 = .ok (.istore_n 1, 1) := by decide +kernel
theorem dX5_init_117 : decode fX5_init.2.1 117 = .ok (.iload_n 1, 1) := by decide +kernel
theorem dX5_init_118 : decode fX5_init.2.1 118 = .ok (.bipush 8, 2) := by decide +kernel
theorem dX5_init_120 : decode fX5_init.2.1 120 = .ok (.if_icmp .ge 22, 3) := by decide +kernel
theorem dX5_init_123 : decode fX5_init.2.1 123 = .ok (.aload_n 0, 1) := by decide +kernel
theorem dX5_init_124 : decode fX5_init.2.1 124 = .ok (.getfield 20, 3) := by decide +kernel
theorem dX5_init_127 : decode fX5_init.2.1 127 = .ok (.iload_n 1, 1) := by decide +kernel
theorem dX5_init_128 : decode fX5_init.2.1 128 = .ok (.new 18, 3) := by decide +kernel
theorem dX5_init_131 : decode fX5_init.2.1 131 = .ok (.dup, 1) := by decide +kernel
theorem dX5_init_132 : decode fX5_init.2.1 132 = .ok (.invokespecial 52, 3) := by decide +kernel
theorem dX5_init_135 : decode fX5_init.2.1 135 = .ok (.aastore, 1) := by decide +kernel
theorem dX5_init_136 : decode fX5_init.2.1 136 = .ok (.iinc 1 1, 3) := by decide +kernel
theorem dX5_init_139 : decode fX5_init.2.1 139 = .ok (.goto (-22), 3) := by decide +kernel
theorem dX5_init_142 : decode fX5_init.2.1 142 = .ok (.iconst 0, 1) := by decide +kernel
theorem dX5_init_143 : decode fX5_init.2.1 143 = .ok (.istore_n 1, 1) := by decide +kernel
theorem dX5_init_144 : decode fX5_init.2.1 144 = .ok (.iload_n 1, 1) := by decide +kernel
theorem dX5_init_145 : decode fX5_init.2.1 145 = .ok (.iconst 3, 1) := by decide +kernel
theorem dX5_init_146 : decode fX5_init.2.1 146 = .ok (.if_icmp .ge 16, 3) := by decide +kernel
theorem dX5_init_149 : decode fX5_init.2.1 149 = .ok (.aload_n 0, 1) := by decide +kernel
theorem dX5_init_150 : decode fX5_init.2.1 150 = .ok (.getfield 40, 3) := by decide +kernel
theorem dX5_init_153 : decode fX5_init.2.1 153 = .ok (.iload_n 1, 1) := by decide +kernel
theorem dX5_init_154 : decode fX5_init.2.1 154 = .ok (.iconst (-1), 1) := by decide +kernel
theorem dX5_init_155 : decode fX5_init.2.1 155 = .ok (.iastore, 1) := by decide +kernel
theorem dX5_init_156 : decode fX5_init.2.1 156 = .ok (.iinc 1 1, 3) := by decide +kernel
theorem dX5_init_159 : decode fX5_init.2.1 159 = .ok (.goto (-15), 3) := by decide +kernel
theorem dX5_init_162 : decode fX5_init.2.1 162 = .ok (.return_, 1) := by decide +kernel
set_option maxRecDepth 100000 in
set_option maxHeartbeats 4000000 in
theorem ok_X5_init {X : Xb} {S : Sg} {mi : Mem} {t : Nat} (hq : Kd S t 5 0) (h1 : S.1 = t + 1) : Ok 2 16 189 fX5_init X [rf X t] S mi (fun r S' m => r = none ∧ TwP S mi t S' m) := by
  refine Ok.go [some (rf X t), none] (by decide) (by simp [Value.category]) (Nat.le_of_ble_eq_true rfl) rfl ?_
  have l1 : (alS S t 0 8 8).1 = t + 2 := by rw [al_1, h1]
  have l2 : (alS (alS S t 0 8 8) t 1 8 8).1 = t + 3 := by rw [al_1, l1]
  have l3 : (alS (alS (alS S t 0 8 8) t 1 8 8) t 2 11 8).1 = t + 4 := by rw [al_1, l2]
  have l4 : (alS (alS (alS (alS S t 0 8 8) t 1 8 8) t 2 11 8) t 12 14 14).1 = t + 5 := by rw [al_1, l3]
  have l5 : (alS (alS (alS (alS (alS S t 0 8 8) t 1 8 8) t 2 11 8) t 12 14 14) t 14 8 3).1 = t + 6 := by rw [al_1, l4]
  have l6 : (alS (alS (alS (alS (alS (alS S t 0 8 8) t 1 8 8) t 2 11 8) t 12 14 14) t 14 8 3) t 15 8 4).1 = t + 7 := by rw [al_1, l5]
  have l7 : (alS (alS (alS (alS (alS (alS (alS S t 0 8 8) t 1 8 8) t 2 11 8) t 12 14 14) t 14 8 3) t 15 8 4) t 16 8 96).1 = t + 8 := by rw [al_1, l6]
  have l8 : (alS (alS (alS (alS (alS (alS (alS (alS S t 0 8 8) t 1 8 8) t 2 11 8) t 12 14 14) t 14 8 3) t 15 8 4) t 16 8 96) t 17 8 8).1 = t + 9 := by rw [al_1, l7]
  have k0 := hq
  have k1 : Kd (alS S t 0 8 8) t 5 0 := al_kd k0
  have k2 : Kd (alS (alS S t 0 8 8) t 1 8 8) t 5 0 := al_kd k1
  have k3 : Kd (alS (alS (alS S t 0 8 8) t 1 8 8) t 2 11 8) t 5 0 := al_kd k2
  have k4 : Kd (alS (alS (alS (alS S t 0 8 8) t 1 8 8) t 2 11 8) t 12 14 14) t 5 0 := al_kd k3
  have k5 : Kd (alS (alS (alS (alS (alS S t 0 8 8) t 1 8 8) t 2 11 8) t 12 14 14) t 14 8 3) t 5 0 := al_kd k4
  have k6 : Kd (alS (alS (alS (alS (alS (alS S t 0 8 8) t 1 8 8) t 2 11 8) t 12 14 14) t 14 8 3) t 15 8 4) t 5 0 := al_kd k5
  have k7 : Kd (alS (alS (alS (alS (alS (alS (alS S t 0 8 8) t 1 8 8) t 2 11 8) t 12 14 14) t 14 8 3) t 15 8 4) t 16 8 96) t 5 0 := al_kd k6
  have k8 : Kd (alS (alS (alS (alS (alS (alS (alS (alS S t 0 8 8) t 1 8 8) t 2 11 8) t 12 14 14) t 14 8 3) t 15 8 4) t 16 8 96) t 17 8 8) t 5 0 := al_kd k7
  have w1 : Kd (nwS S 8 8) t 5 0 := Kd_nw k0
  have w2 : Kd (nwS (alS S t 0 8 8) 8 8) t 5 0 := Kd_nw k1
  have w3 : Kd (nwS (alS (alS S t 0 8 8) t 1 8 8) 11 8) t 5 0 := Kd_nw k2
  have w4 : Kd (nwS (alS (alS (alS S t 0 8 8) t 1 8 8) t 2 11 8) 14 14) t 5 0 := Kd_nw k3
  have w5 : Kd (nwS (alS (alS (alS (alS S t 0 8 8) t 1 8 8) t 2 11 8) t 12 14 14) 8 3) t 5 0 := Kd_nw k4
  have w6 : Kd (nwS (alS (alS (alS (alS (alS S t 0 8 8) t 1 8 8) t 2 11 8) t 12 14 14) t 14 8 3) 8 4) t 5 0 := Kd_nw k5
  have w7 : Kd (nwS (alS (alS (alS (alS (alS (alS S t 0 8 8) t 1 8 8) t 2 11 8) t 12 14 14) t 14 8 3) t 15 8 4) 8 96) t 5 0 := Kd_nw k6
  have w8 : Kd (nwS (alS (alS (alS (alS (alS (alS (alS S t 0 8 8) t 1 8 8) t 2 11 8) t 12 14 14) t 14 8 3) t 15 8 4) t 16 8 96) 8 8) t 5 0 := Kd_nw k7
  have kd1 : Kd (alS (alS (alS (alS (alS (alS (alS (alS S t 0 8 8) t 1 8 8) t 2 11 8) t 12 14 14) t 14 8 3) t 15 8 4) t 16 8 96) t 17 8 8) (t + 1) 8 8 := by
    have g := al_kd0 S t 0 8 8
    rw [h1] at g
    exact al_kd (al_kd (al_kd (al_kd (al_kd (al_kd (al_kd (g)))))))
  have r1 : (alS (alS (alS (alS (alS (alS (alS (alS S t 0 8 8) t 1 8 8) t 2 11 8) t 12 14 14) t 14 8 3) t 15 8 4) t 16 8 96) t 17 8 8).2.2 t 0 = some (t + 1) := by rw [al_r (by rw [l7]; omega) (fun g => absurd g.2 (by decide)), al_r (by rw [l6]; omega) (fun g => absurd g.2 (by decide)), al_r (by rw [l5]; omega) (fun g => absurd g.2 (by decide)), al_r (by rw [l4]; omega) (fun g => absurd g.2 (by decide)), al_r (by rw [l3]; omega) (fun g => absurd g.2 (by decide)), al_r (by rw [l2]; omega) (fun g => absurd g.2 (by decide)), al_r (by rw [l1]; omega) (fun g => absurd g.2 (by decide)), al_r0, h1]
  have kd2 : Kd (alS (alS (alS (alS (alS (alS (alS (alS S t 0 8 8) t 1 8 8) t 2 11 8) t 12 14 14) t 14 8 3) t 15 8 4) t 16 8 96) t 17 8 8) (t + 2) 8 8 := by
    have g := al_kd0 (alS S t 0 8 8) t 1 8 8
    rw [l1] at g
    exact al_kd (al_kd (al_kd (al_kd (al_kd (al_kd (g))))))
  have r2 : (alS (alS (alS (alS (alS (alS (alS (alS S t 0 8 8) t 1 8 8) t 2 11 8) t 12 14 14) t 14 8 3) t 15 8 4) t 16 8 96) t 17 8 8).2.2 t 1 = some (t + 2) := by rw [al_r (by rw [l7]; omega) (fun g => absurd g.2 (by decide)), al_r (by rw [l6]; omega) (fun g => absurd g.2 (by decide)), al_r (by rw [l5]; omega) (fun g => absurd g.2 (by decide)), al_r (by rw [l4]; omega) (fun g => absurd g.2 (by decide)), al_r (by rw [l3]; omega) (fun g => absurd g.2 (by decide)), al_r (by rw [l2]; omega) (fun g => absurd g.2 (by decide)), al_r0, l1]
  have kd3 : Kd (alS (alS (alS (alS (alS (alS (alS (alS S t 0 8 8) t 1 8 8) t 2 11 8) t 12 14 14) t 14 8 3) t 15 8 4) t 16 8 96) t 17 8 8) (t + 3) 11 8 := by
    have g := al_kd0 (alS (alS S t 0 8 8) t 1 8 8) t 2 11 8
    rw [l2] at g
    exact al_kd (al_kd (al_kd (al_kd (al_kd (g)))))
  have r3 : (alS (alS (alS (alS (alS (alS (alS (alS S t 0 8 8) t 1 8 8) t 2 11 8) t 12 14 14) t 14 8 3) t 15 8 4) t 16 8 96) t 17 8 8).2.2 t 2 = some (t + 3) := by rw [al_r (by rw [l7]; omega) (fun g => absurd g.2 (by decide)), al_r (by rw [l6]; omega) (fun g => absurd g.2 (by decide)), al_r (by rw [l5]; omega) (fun g => absurd g.2 (by decide)), al_r (by rw [l4]; omega) (fun g => absurd g.2 (by decide)), al_r (by rw [l3]; omega) (fun g => absurd g.2 (by decide)), al_r0, l2]
  have kd4 : Kd (alS (alS (alS (alS (alS (alS (alS (alS S t 0 8 8) t 1 8 8) t 2 11 8) t 12 14 14) t 14 8 3) t 15 8 4) t 16 8 96) t 17 8 8) (t + 4) 14 14 := by
    have g := al_kd0 (alS (alS (alS S t 0 8 8) t 1 8 8) t 2 11 8) t 12 14 14
    rw [l3] at g
    exact al_kd (al_kd (al_kd (al_kd (g))))
  have r4 : (alS (alS (alS (alS (alS (alS (alS (alS S t 0 8 8) t 1 8 8) t 2 11 8) t 12 14 14) t 14 8 3) t 15 8 4) t 16 8 96) t 17 8 8).2.2 t 12 = some (t + 4) := by rw [al_r (by rw [l7]; omega) (fun g => absurd g.2 (by decide)), al_r (by rw [l6]; omega) (fun g => absurd g.2 (by decide)), al_r (by rw [l5]; omega) (fun g => absurd g.2 (by decide)), al_r (by rw [l4]; omega) (fun g => absurd g.2 (by decide)), al_r0, l3]
  have kd5 : Kd (alS (alS (alS (alS (alS (alS (alS (alS S t 0 8 8) t 1 8 8) t 2 11 8) t 12 14 14) t 14 8 3) t 15 8 4) t 16 8 96) t 17 8 8) (t + 5) 8 3 := by
    have g := al_kd0 (alS (alS (alS (alS S t 0 8 8) t 1 8 8) t 2 11 8) t 12 14 14) t 14 8 3
    rw [l4] at g
    exact al_kd (al_kd (al_kd (g)))
  have r5 : (alS (alS (alS (alS (alS (alS (alS (alS S t 0 8 8) t 1 8 8) t 2 11 8) t 12 14 14) t 14 8 3) t 15 8 4) t 16 8 96) t 17 8 8).2.2 t 14 = some (t + 5) := by rw [al_r (by rw [l7]; omega) (fun g => absurd g.2 (by decide)), al_r (by rw [l6]; omega) (fun g => absurd g.2 (by decide)), al_r (by rw [l5]; omega) (fun g => absurd g.2 (by decide)), al_r0, l4]
  have kd6 : Kd (alS (alS (alS (alS (alS (alS (alS (alS S t 0 8 8) t 1 8 8) t 2 11 8) t 12 14 14) t 14 8 3) t 15 8 4) t 16 8 96) t 17 8 8) (t + 6) 8 4 := by
    have g := al_kd0 (alS (alS (alS (alS (alS S t 0 8 8) t 1 8 8) t 2 11 8) t 12 14 14) t 14 8 3) t 15 8 4
    rw [l5] at g
    exact al_kd (al_kd (g))
  have r6 : (alS (alS (alS (alS (alS (alS (alS (alS S t 0 8 8) t 1 8 8) t 2 11 8) t 12 14 14) t 14 8 3) t 15 8 4) t 16 8 96) t 17 8 8).2.2 t 15 = some (t + 6) := by rw [al_r (by rw [l7]; omega) (fun g => absurd g.2 (by decide)), al_r (by rw [l6]; omega) (fun g => absurd g.2 (by decide)), al_r0, l5]
  have kd7 : Kd (alS (alS (alS (alS (alS (alS (alS (alS S t 0 8 8) t 1 8 8) t 2 11 8) t 12 14 14) t 14 8 3) t 15 8 4) t 16 8 96) t 17 8 8) (t + 7) 8 96 := by
    have g := al_kd0 (alS (alS (alS (alS (alS (alS S t 0 8 8) t 1 8 8) t 2 11 8) t 12 14 14) t 14 8 3) t 15 8 4) t 16 8 96
    rw [l6] at g
    exact al_kd (g)
  have r7 : (alS (alS (alS (alS (alS (alS (alS (alS S t 0 8 8) t 1 8 8) t 2 11 8) t 12 14 14) t 14 8 3) t 15 8 4) t 16 8 96) t 17 8 8).2.2 t 16 = some (t + 7) := by rw [al_r (by rw [l7]; omega) (fun g => absurd g.2 (by decide)), al_r0, l6]
  have kd8 : Kd (alS (alS (alS (alS (alS (alS (alS (alS S t 0 8 8) t 1 8 8) t 2 11 8) t 12 14 14) t 14 8 3) t 15 8 4) t 16 8 96) t 17 8 8) (t + 8) 8 8 := by
    have g := al_kd0 (alS (alS (alS (alS (alS (alS (alS S t 0 8 8) t 1 8 8) t 2 11 8) t 12 14 14) t 14 8 3) t 15 8 4) t 16 8 96) t 17 8 8
    rw [l7] at g
    exact g
  have r8 : (alS (alS (alS (alS (alS (alS (alS (alS S t 0 8 8) t 1 8 8) t 2 11 8) t 12 14 14) t 14 8 3) t 15 8 4) t 16 8 96) t 17 8 8).2.2 t 17 = some (t + 8) := by rw [al_r0, l7]
  have tx : ∀ i, i < 14 → (alS (alS (alS (alS (alS (alS (alS (alS S t 0 8 8) t 1 8 8) t 2 11 8) t 12 14 14) t 14 8 3) t 15 8 4) t 16 8 96) t 17 8 8).2.2 (t + 4) i = none := by
    intro i hi
    rw [al_r (by rw [l7]; omega) (by omega), al_r (by rw [l6]; omega) (by omega), al_r (by rw [l5]; omega) (by omega), al_r (by rw [l4]; omega) (by omega)]
    show r_up (nwS (alS (alS (alS S t 0 8 8) t 1 8 8) t 2 11 8) 14 14).2.2 t 12 (some (alS (alS (alS S t 0 8 8) t 1 8 8) t 2 11 8).1) (t + 4) i = none
    rw [r_up_ne (by omega)]
    show (if t + 4 = (alS (alS (alS S t 0 8 8) t 1 8 8) t 2 11 8).1 then none else _) = none
    rw [if_pos l3.symm]
  have ex8 : Ext t S (alS (alS (alS (alS (alS (alS (alS (alS S t 0 8 8) t 1 8 8) t 2 11 8) t 12 14 14) t 14 8 3) t 15 8 4) t 16 8 96) t 17 8 8) := ((((((((Ext.al S t 0 8 8).tr (Ext.al _ t 1 8 8)).tr (Ext.al _ t 2 11 8)).tr (Ext.al _ t 12 14 14)).tr (Ext.al _ t 14 8 3)).tr (Ext.al _ t 15 8 4)).tr (Ext.al _ t 16 8 96)).tr (Ext.al _ t 17 8 8))
  have ma : ∀ a, a < t → (nwM (alS (alS (alS (alS (alS (alS (alS S t 0 8 8) t 1 8 8) t 2 11 8) t 12 14 14) t 14 8 3) t 15 8 4) t 16 8 96) (nwM (alS (alS (alS (alS (alS (alS S t 0 8 8) t 1 8 8) t 2 11 8) t 12 14 14) t 14 8 3) t 15 8 4) (nwM (alS (alS (alS (alS (alS S t 0 8 8) t 1 8 8) t 2 11 8) t 12 14 14) t 14 8 3) (nwM (alS (alS (alS (alS S t 0 8 8) t 1 8 8) t 2 11 8) t 12 14 14) (nwM (alS (alS (alS S t 0 8 8) t 1 8 8) t 2 11 8) (m_up (m_up (m_up (nwM (alS (alS S t 0 8 8) t 1 8 8) (nwM (alS S t 0 8 8) (nwM S mi))) t 5 10) t 7 50) t 11 1)))))) a = mi a := fun a ha => by
    rw [nw_m (by rw [l7]; omega), nw_m (by rw [l6]; omega), nw_m (by rw [l5]; omega), nw_m (by rw [l4]; omega), nw_m (by rw [l3]; omega), m_up_ne (by omega), m_up_ne (by omega), m_up_ne (by omega), nw_m (by rw [l2]; omega), nw_m (by rw [l1]; omega), nw_m (by rw [h1]; omega)]
  have mt : (nwM (alS (alS (alS (alS (alS (alS (alS S t 0 8 8) t 1 8 8) t 2 11 8) t 12 14 14) t 14 8 3) t 15 8 4) t 16 8 96) (nwM (alS (alS (alS (alS (alS (alS S t 0 8 8) t 1 8 8) t 2 11 8) t 12 14 14) t 14 8 3) t 15 8 4) (nwM (alS (alS (alS (alS (alS S t 0 8 8) t 1 8 8) t 2 11 8) t 12 14 14) t 14 8 3) (nwM (alS (alS (alS (alS S t 0 8 8) t 1 8 8) t 2 11 8) t 12 14 14) (nwM (alS (alS (alS S t 0 8 8) t 1 8 8) t 2 11 8) (m_up (m_up (m_up (nwM (alS (alS S t 0 8 8) t 1 8 8) (nwM (alS S t 0 8 8) (nwM S mi))) t 5 10) t 7 50) t 11 1)))))) t = upd (upd (upd (mi t) 5 10) 7 50) 11 1 := by
    rw [nw_m (by rw [l7]; omega), nw_m (by rw [l6]; omega), nw_m (by rw [l5]; omega), nw_m (by rw [l4]; omega), nw_m (by rw [l3]; omega), m_up_row, m_up_row, m_up_row, nw_m (by rw [l2]; omega), nw_m (by rw [l1]; omega), nw_m (by rw [h1]; omega)]
  generalize hN8 : (alS (alS (alS (alS (alS (alS (alS (alS S t 0 8 8) t 1 8 8) t 2 11 8) t 12 14 14) t 14 8 3) t 15 8 4) t 16 8 96) t 17 8 8) = N8 at kd1 kd2 kd3 kd4 kd5 kd6 kd7 kd8 r1 r2 r3 r4 r5 r6 r7 r8 tx ex8 l8 k8
  generalize hMM : (nwM (alS (alS (alS (alS (alS (alS (alS S t 0 8 8) t 1 8 8) t 2 11 8) t 12 14 14) t 14 8 3) t 15 8 4) t 16 8 96) (nwM (alS (alS (alS (alS (alS (alS S t 0 8 8) t 1 8 8) t 2 11 8) t 12 14 14) t 14 8 3) t 15 8 4) (nwM (alS (alS (alS (alS (alS S t 0 8 8) t 1 8 8) t 2 11 8) t 12 14 14) t 14 8 3) (nwM (alS (alS (alS (alS S t 0 8 8) t 1 8 8) t 2 11 8) t 12 14 14) (nwM (alS (alS (alS S t 0 8 8) t 1 8 8) t 2 11 8) (m_up (m_up (m_up (nwM (alS (alS S t 0 8 8) t 1 8 8) (nwM (alS S t 0 8 8) (nwM S mi))) t 5 10) t 7 50) t 11 1)))))) = MM at ma mt
  have fin : ∀ S' m, S'.1 = t + 17 → (∀ a, a < t + 9 → S'.2.1 a = N8.2.1 a) → (∀ a, a < t + 9 → a ≠ t + 3 → S'.2.2 a = N8.2.2 a) → (∀ i, i < 8 → S'.2.2 (t + 3) i = some (t + 9 + i) ∧ Kd S' (t + 9 + i) 0 0) → (∀ a, a < t + 1 → m a = MM a) → (∀ j, j < 8 → m (t + 1) j = nI (3 * j) ∧ m (t + 2) j = 5) → (∀ j, j < 3 → m (t + 5) j = -1) → TwP S mi t S' m := by
    intro S' m g1 g2 g3 g4 g5 g6 g7
    have kk : ∀ {i c z : Nat}, i < t + 9 → Kd N8 i c z → Kd S' i c z := fun hi h => ⟨by rw [g1]; omega, by rw [g2 _ hi]; exact h.2⟩
    refine ⟨g1, ⟨by rw [g1, h1]; omega, fun a ha => by rw [g2 a (by omega)]; exact ex8.2.1 a ha, fun a ha hne => by rw [g3 a (by omega) (by omega)]; exact ex8.2.2 a ha hne⟩, ⟨kk (by omega) k8, ⟨by rw [g3 t (by omega) (by omega)]; exact r1, kk (by omega) kd1⟩, ⟨by rw [g3 t (by omega) (by omega)]; exact r2, kk (by omega) kd2⟩, ⟨by rw [g3 t (by omega) (by omega)]; exact r3, kk (by omega) kd3⟩, ⟨by rw [g3 t (by omega) (by omega)]; exact r4, kk (by omega) kd4⟩, ⟨by rw [g3 t (by omega) (by omega)]; exact r5, kk (by omega) kd5⟩, ⟨by rw [g3 t (by omega) (by omega)]; exact r6, kk (by omega) kd6⟩, ⟨by rw [g3 t (by omega) (by omega)]; exact r7, kk (by omega) kd7⟩, ⟨by rw [g3 t (by omega) (by omega)]; exact r8, kk (by omega) kd8⟩, g4⟩, fun i hi => by rw [g3 (t + 4) (by omega) (by omega)]; exact tx i hi, fun a ha => by rw [g5 a (by omega)]; exact ma a ha, by rw [g5 t (by omega)]; exact mt, g6, g7⟩
  have lp144 : ∀ S' m, S'.1 = t + 17 → (∀ a, a < t + 9 → S'.2.1 a = N8.2.1 a) → (∀ a, a < t + 9 → a ≠ t + 3 → S'.2.2 a = N8.2.2 a) → (∀ i, i < 8 → S'.2.2 (t + 3) i = some (t + 9 + i) ∧ Kd S' (t + 9 + i) 0 0) → (∀ a, a < t + 1 → m a = MM a) → (∀ j, j < 8 → m (t + 1) j = nI (3 * j) ∧ m (t + 2) j = 5) → MW X fX5_init (rmOf 2 16 189) 16 189 144 [some (rf X t), some (.int (nI 0))] [] S' m (mQ X 16 189 (fun r S' m => r = none ∧ TwP S mi t S' m)) := by
    intro S' m0 g1 g2 g3 g4 g5 g6
    have kt : Kd S' t 5 0 := ⟨by rw [g1]; omega, by rw [g2 t (by omega)]; exact k8.2⟩
    have kc : Kd S' (t + 5) 8 3 := ⟨by rw [g1]; omega, by rw [g2 (t + 5) (by omega)]; exact kd5.2⟩
    have rc : S'.2.2 t 14 = some (t + 5) := by rw [g3 t (by omega) (by omega)]; exact r5
    have lp : ∀ f k, f + k = 3 → ∀ m, (∀ a, a ≠ t + 5 → m a = m0 a) → (∀ j, j < k → m (t + 5) j = -1) → MW X fX5_init (rmOf 2 16 189) 16 189 144 [some (rf X t), some (.int (nI k))] [] S' m (mQ X 16 189 (fun r S' m => r = none ∧ TwP S mi t S' m)) := by
      intro f
      induction f with
      | zero =>
        intro k hk m hm hj
        obtain rfl : k = 3 := by omega
        refine mw_iload_n dX5_init_144 rfl ?_
        refine mw_iconst (v := 3) dX5_init_145 (by decide) ?_
        refine mw_icmp_ge (tgt := 162) dX5_init_146 (by decide) (fun h146 => ?_) (fun h146 => ?_)
        · skip
          exact mw_vret dX5_init_162 rfl (by decide) (by decide) (⟨rfl, fin S' m g1 g2 g3 g4 (fun a ha => by rw [hm a (by omega)]; exact g5 a ha) (fun j hj' => by rw [hm (t + 1) (by omega), hm (t + 2) (by omega)]; exact g6 j hj') hj⟩)
        · skip
          exact absurd (by decide) h146
      | succ f ih =>
        intro k hk m hm hj
        refine mw_iload_n dX5_init_144 rfl ?_
        refine mw_iconst (v := 3) dX5_init_145 (by decide) ?_
        refine mw_icmp_ge (tgt := 162) dX5_init_146 (by decide) (fun h146 => ?_) (fun h146 => ?_)
        · skip
          exact absurd h146 (nI_ge (b := 3) (by omega) (by decide))
        · skip
          refine mw_aload_n dX5_init_149 rfl ?_
          refine mw_getr dX5_init_150 fl_X5_40 rfl (kt) (rc) ?_
          refine mw_iload_n dX5_init_153 rfl ?_
          refine mw_iconst (v := (-1)) dX5_init_154 (by decide) ?_
          refine mw_iastK (k := k) dX5_init_155 (kc) (rfl) (by omega) (by decide) ?_
          refine mw_iincK (k := k) dX5_init_156 rfl rfl (by decide) ?_
          refine mw_goto (tgt := 144) dX5_init_159 (by decide) ?_
          refine MW.sub (by simp [lsub]) (ih (k + 1) (by omega) _ (fun a ha => by rw [m_up_ne ha]; exact hm a ha) (fun j hj' => ?_))
          by_cases c : j = k
          · subst c; rw [m_up_at]
          · rw [m_up_of c]; exact hj j (by omega)
    exact lp 3 0 rfl m0 (fun _ _ => rfl) (fun j hj => absurd hj (Nat.not_lt_zero j))
  have lp117 : ∀ f k, f + k = 8 → ∀ S' m, S'.1 = t + 9 + k → (∀ a, a < t + 9 → S'.2.1 a = N8.2.1 a) → (∀ a, a < t + 9 → a ≠ t + 3 → S'.2.2 a = N8.2.2 a) → (∀ i, i < k → S'.2.2 (t + 3) i = some (t + 9 + i) ∧ Kd S' (t + 9 + i) 0 0) → (∀ a, a < t + 1 → m a = MM a) → (∀ j, j < 8 → m (t + 1) j = nI (3 * j) ∧ m (t + 2) j = 5) → MW X fX5_init (rmOf 2 16 189) (8 + k) (149 + 5 * k) 117 [some (rf X t), some (.int (nI k))] [] S' m (mQ X 16 189 (fun r S' m => r = none ∧ TwP S mi t S' m)) := by
    intro f
    induction f with
    | zero =>
      intro k hk S' m g1 g2 g3 g4 g5 g6
      obtain rfl : k = 8 := by omega
      refine mw_iload_n dX5_init_117 rfl ?_
      refine mw_bipush (v := 8) dX5_init_118 (by decide) ?_
      refine mw_icmp_ge (tgt := 142) dX5_init_120 (by decide) (fun h120 => ?_) (fun h120 => ?_)
      · skip
        refine mw_iconst (v := 0) dX5_init_142 (by decide) ?_
        refine mw_istN 1 dX5_init_143 rfl (by decide) ?_
        exact MW.sub (by simp [lsub, nI_0]) (lp144 S' m (by rw [g1]) g2 g3 g4 g5 g6)
      · skip
        exact absurd (by decide) h120
    | succ f ih =>
      intro k hk S' m g1 g2 g3 g4 g5 g6
      have kt : Kd S' t 5 0 := ⟨by rw [g1]; omega, by rw [g2 t (by omega)]; exact k8.2⟩
      have ka : Kd (nwS S' 0 0) (t + 3) 11 8 := Kd_nw ⟨by rw [g1]; omega, by rw [g2 (t + 3) (by omega)]; exact kd3.2⟩
      have rc : S'.2.2 t 2 = some (t + 3) := by rw [g3 t (by omega) (by omega)]; exact r3
      have kn : Kd (nwS S' 0 0) (t + 9 + k) 0 0 := by have g := Kd_nw0 S' 0 0; rw [g1] at g; exact g
      refine mw_iload_n dX5_init_117 rfl ?_
      refine mw_bipush (v := 8) dX5_init_118 (by decide) ?_
      refine mw_icmp_ge (tgt := 142) dX5_init_120 (by decide) (fun h120 => ?_) (fun h120 => ?_)
      · skip
        exact absurd h120 (nI_ge (b := 8) (by omega) (by decide))
      · skip
        refine mw_aload_n dX5_init_123 rfl ?_
        refine mw_getr dX5_init_124 fl_X5_20 rfl (kt) (rc) ?_
        refine mw_iload_n dX5_init_127 rfl ?_
        refine mw_new (ci := 0) dX5_init_128 rfl cl_X5_18 (by dsimp only [rmOf]; omega) (by show 149 + 5 * k + 5 ≤ 189; omega) ?_
        rw [g1]
        refine mw_dup dX5_init_131 rfl ?_
        refine mw_callIN (g := fX0_init) dX5_init_132 nl_X5_52 mfX0_init (ok_X0_init (S := nwS S' 0 0) (mi := nwM S' m) (a := t + 9 + k)) rfl rfl (Nat.le_of_ble_eq_true rfl) ⟨by decide, by decide⟩ ⟨by dsimp only [rmOf]; omega, by show 149 + 5 * k + 5 + 0 ≤ 189; omega⟩ (fun r S2 m2 hp => ?_)
        obtain ⟨rfl, e1, e2⟩ := hp
        rw [e1, e2]
        refine mw_aast (t0 := 3) dX5_init_135 ka kn (by simp [aTy]) (vp_in_nI (show k < 8 by omega) (by decide)) ?_
        rw [nI_clamp (by omega)]
        refine mw_iincK (k := k) dX5_init_136 rfl rfl (by decide) ?_
        refine mw_goto (tgt := 117) dX5_init_139 (by decide) ?_
        refine MW.sub (by simp [lsub]) (ih (k + 1) (by omega) _ _ (by show S'.1 + 1 = _; omega) (fun a ha => ?_) (fun a ha hne => ?_) (fun i hi => ?_) (fun a ha => by rw [nw_m (by rw [g1]; omega)]; exact g5 a ha) (fun j hj => by rw [nw_m (by rw [g1]; omega), nw_m (by rw [g1]; omega)]; exact g6 j hj))
        · show (if a = S'.1 then _ else S'.2.1 a) = _; rw [if_neg (by omega)]; exact g2 a ha
        · show r_up (nwS S' 0 0).2.2 (t + 3) k (some (t + 9 + k)) a = _; rw [r_up_ne hne]; rw [← g3 a ha hne]; funext j; exact nw_r (by rw [g1]; omega) j
        · by_cases c : i = k
          · subst c; exact ⟨by show r_up _ (t + 3) i (some (t + 9 + i)) (t + 3) i = _; simp [r_up], kn⟩
          · refine ⟨?_, Kd_nw (g4 i (by omega)).2⟩
            show r_up (nwS S' 0 0).2.2 (t + 3) k (some (t + 9 + k)) (t + 3) i = _
            simp only [r_up, c, and_false, if_false]
            rw [show (nwS S' 0 0).2.2 (t + 3) i = S'.2.2 (t + 3) i from nw_r (by rw [g1]; omega) i]; exact (g4 i (by omega)).1
  have lp87 : ∀ f k, f + k = 8 → ∀ m, (∀ a, a < t + 1 → m a = MM a) → (∀ j, j < k → m (t + 1) j = nI (3 * j) ∧ m (t + 2) j = 5) → MW X fX5_init (rmOf 2 16 189) 8 149 87 [some (rf X t), some (.int (nI k))] [] N8 m (mQ X 16 189 (fun r S' m => r = none ∧ TwP S mi t S' m)) := by
    intro f
    induction f with
    | zero =>
      intro k hk m hm hj
      obtain rfl : k = 8 := by omega
      refine mw_iload_n dX5_init_87 rfl ?_
      refine mw_bipush (v := 8) dX5_init_88 (by decide) ?_
      refine mw_icmp_ge (tgt := 115) dX5_init_90 (by decide) (fun h90 => ?_) (fun h90 => ?_)
      · skip
        refine mw_iconst (v := 0) dX5_init_115 (by decide) ?_
        refine mw_istN 1 dX5_init_116 rfl (by decide) ?_
        exact MW.sub (by simp [lsub, nI_0]) (lp117 8 0 rfl N8 m (by rw [l8]) (fun _ _ => rfl) (fun _ _ _ => rfl) (fun i hi => absurd hi (Nat.not_lt_zero i)) hm hj)
      · skip
        exact absurd (by decide) h90
    | succ f ih =>
      intro k hk m hm hj
      have e3 : (3 : Int32) * nI k = nI (3 * k) := by show nI 3 * nI k = _; rw [nI_mul]
      refine mw_iload_n dX5_init_87 rfl ?_
      refine mw_bipush (v := 8) dX5_init_88 (by decide) ?_
      refine mw_icmp_ge (tgt := 115) dX5_init_90 (by decide) (fun h90 => ?_) (fun h90 => ?_)
      · skip
        exact absurd h90 (nI_ge (b := 8) (by omega) (by decide))
      · skip
        refine mw_aload_n dX5_init_93 rfl ?_
        refine mw_getr dX5_init_94 fl_X5_9 rfl (k8) (r1) ?_
        refine mw_iload_n dX5_init_97 rfl ?_
        refine mw_iconst (v := 3) dX5_init_98 (by decide) ?_
        refine mw_iload_n dX5_init_99 rfl ?_
        refine mw_imul dX5_init_100 ?_
        rw [e3]
        refine mw_iastK (k := k) dX5_init_101 (kd1) (rfl) (by omega) (by decide) ?_
        refine mw_aload_n dX5_init_102 rfl ?_
        refine mw_getr dX5_init_103 fl_X5_15 rfl (k8) (r2) ?_
        refine mw_iload_n dX5_init_106 rfl ?_
        refine mw_iconst (v := 5) dX5_init_107 (by decide) ?_
        refine mw_iastK (k := k) dX5_init_108 (kd2) (rfl) (by omega) (by decide) ?_
        refine mw_iincK (k := k) dX5_init_109 rfl rfl (by decide) ?_
        refine mw_goto (tgt := 87) dX5_init_112 (by decide) ?_
        refine MW.sub (by simp [lsub]) (ih (k + 1) (by omega) _ (fun a ha => by rw [m_up_ne (by omega), m_up_ne (by omega)]; exact hm a ha) (fun j hj' => ?_))
        by_cases c : j = k
        · subst c; exact ⟨by rw [m_up_ne (by omega), m_up_at], by rw [m_up_at]⟩
        · exact ⟨by rw [m_up_ne (by omega), m_up_of c]; exact (hj j (by omega)).1, by rw [m_up_of c, m_up_ne (by omega)]; exact (hj j (by omega)).2⟩
  refine mw_aload_n dX5_init_0 rfl ?_
  refine mw_objI dX5_init_1 ml_X5_3 (Nat.le_of_ble_eq_true rfl) ⟨by decide, by decide⟩ ?_
  refine mw_aload_n dX5_init_4 rfl ?_
  refine mw_bipush (v := 8) dX5_init_5 (by decide) ?_
  refine mw_newi (S := S) (N := 8) dX5_init_7 arr_int (by decide) (by decide) (by decide) (by decide) (by decide) ?_
  refine mw_putFr (S := nwS S 8 8) (a := S.1) dX5_init_9 fl_X5_9 ft_5_0 rfl (fun q h => by cases h; rfl) rfl rfl rfl w1 ?_
  refine mw_aload_n dX5_init_12 rfl ?_
  refine mw_bipush (v := 8) dX5_init_13 (by decide) ?_
  refine mw_newi (S := (alS S t 0 8 8)) (N := 8) dX5_init_15 arr_int (by decide) (by decide) (by decide) (by decide) (by decide) ?_
  refine mw_putFr (S := nwS (alS S t 0 8 8) 8 8) (a := (alS S t 0 8 8).1) dX5_init_17 fl_X5_15 ft_5_1 rfl (fun q h => by cases h; rfl) rfl rfl rfl w2 ?_
  refine mw_aload_n dX5_init_20 rfl ?_
  refine mw_bipush (v := 8) dX5_init_21 (by decide) ?_
  refine mw_anew (S := (alS (alS S t 0 8 8) t 1 8 8)) (ci := 0) (c0 := 11) (t0 := 3) (N := 8) dX5_init_23 rfl (by simp [aTy]) cl_X5_18 (by decide) (by decide) (by decide) (by decide) (by decide) (by decide) ?_
  refine mw_putFr (S := nwS (alS (alS S t 0 8 8) t 1 8 8) 11 8) (a := (alS (alS S t 0 8 8) t 1 8 8).1) dX5_init_26 fl_X5_20 ft_5_2 rfl (fun q h => by cases h; rfl) rfl rfl rfl w3 ?_
  refine mw_aload_n dX5_init_29 rfl ?_
  refine mw_bipush (v := 10) dX5_init_30 (by decide) ?_
  refine mw_puti dX5_init_32 fl_X5_24 ft_5_5 rfl (rfl) rfl (k3) ?_
  refine mw_aload_n dX5_init_35 rfl ?_
  refine mw_bipush (v := 50) dX5_init_36 (by decide) ?_
  refine mw_puti dX5_init_38 fl_X5_28 ft_5_7 rfl (rfl) rfl (k3) ?_
  refine mw_aload_n dX5_init_41 rfl ?_
  refine mw_iconst (v := 1) dX5_init_42 (by decide) ?_
  refine mw_puti dX5_init_43 fl_X5_31 ft_5_11 rfl (rfl) rfl (k3) ?_
  refine mw_aload_n dX5_init_46 rfl ?_
  refine mw_bipush (v := 14) dX5_init_47 (by decide) ?_
  refine mw_anew (S := (alS (alS (alS S t 0 8 8) t 1 8 8) t 2 11 8)) (ci := 4) (c0 := 14) (t0 := 6) (N := 14) dX5_init_49 rfl (by simp [aTy]) cl_X5_34 (by decide) (by decide) (by decide) (by decide) (by decide) (by decide) ?_
  refine mw_putFr (S := nwS (alS (alS (alS S t 0 8 8) t 1 8 8) t 2 11 8) 14 14) (a := (alS (alS (alS S t 0 8 8) t 1 8 8) t 2 11 8).1) dX5_init_52 fl_X5_36 ft_5_12 rfl (fun q h => by cases h; rfl) rfl rfl rfl w4 ?_
  refine mw_aload_n dX5_init_55 rfl ?_
  refine mw_iconst (v := 3) dX5_init_56 (by decide) ?_
  refine mw_newi (S := (alS (alS (alS (alS S t 0 8 8) t 1 8 8) t 2 11 8) t 12 14 14)) (N := 3) dX5_init_57 arr_int (by decide) (by decide) (by decide) (by decide) (by decide) ?_
  refine mw_putFr (S := nwS (alS (alS (alS (alS S t 0 8 8) t 1 8 8) t 2 11 8) t 12 14 14) 8 3) (a := (alS (alS (alS (alS S t 0 8 8) t 1 8 8) t 2 11 8) t 12 14 14).1) dX5_init_59 fl_X5_40 ft_5_14 rfl (fun q h => by cases h; rfl) rfl rfl rfl w5 ?_
  refine mw_aload_n dX5_init_62 rfl ?_
  refine mw_iconst (v := 4) dX5_init_63 (by decide) ?_
  refine mw_newi (S := (alS (alS (alS (alS (alS S t 0 8 8) t 1 8 8) t 2 11 8) t 12 14 14) t 14 8 3)) (N := 4) dX5_init_64 arr_int (by decide) (by decide) (by decide) (by decide) (by decide) ?_
  refine mw_putFr (S := nwS (alS (alS (alS (alS (alS S t 0 8 8) t 1 8 8) t 2 11 8) t 12 14 14) t 14 8 3) 8 4) (a := (alS (alS (alS (alS (alS S t 0 8 8) t 1 8 8) t 2 11 8) t 12 14 14) t 14 8 3).1) dX5_init_66 fl_X5_43 ft_5_15 rfl (fun q h => by cases h; rfl) rfl rfl rfl w6 ?_
  refine mw_aload_n dX5_init_69 rfl ?_
  refine mw_bipush (v := 96) dX5_init_70 (by decide) ?_
  refine mw_newi (S := (alS (alS (alS (alS (alS (alS S t 0 8 8) t 1 8 8) t 2 11 8) t 12 14 14) t 14 8 3) t 15 8 4)) (N := 96) dX5_init_72 arr_int (by decide) (by decide) (by decide) (by decide) (by decide) ?_
  refine mw_putFr (S := nwS (alS (alS (alS (alS (alS (alS S t 0 8 8) t 1 8 8) t 2 11 8) t 12 14 14) t 14 8 3) t 15 8 4) 8 96) (a := (alS (alS (alS (alS (alS (alS S t 0 8 8) t 1 8 8) t 2 11 8) t 12 14 14) t 14 8 3) t 15 8 4).1) dX5_init_74 fl_X5_46 ft_5_16 rfl (fun q h => by cases h; rfl) rfl rfl rfl w7 ?_
  refine mw_aload_n dX5_init_77 rfl ?_
  refine mw_bipush (v := 8) dX5_init_78 (by decide) ?_
  refine mw_newi (S := (alS (alS (alS (alS (alS (alS (alS S t 0 8 8) t 1 8 8) t 2 11 8) t 12 14 14) t 14 8 3) t 15 8 4) t 16 8 96)) (N := 8) dX5_init_80 arr_int (by decide) (by decide) (by decide) (by decide) (by decide) ?_
  refine mw_putFr (S := nwS (alS (alS (alS (alS (alS (alS (alS S t 0 8 8) t 1 8 8) t 2 11 8) t 12 14 14) t 14 8 3) t 15 8 4) t 16 8 96) 8 8) (a := (alS (alS (alS (alS (alS (alS (alS S t 0 8 8) t 1 8 8) t 2 11 8) t 12 14 14) t 14 8 3) t 15 8 4) t 16 8 96).1) dX5_init_82 fl_X5_49 ft_5_17 rfl (fun q h => by cases h; rfl) rfl rfl rfl w8 ?_
  refine mw_iconst (v := 0) dX5_init_85 (by decide) ?_
  refine mw_istN 1 dX5_init_86 rfl (by decide) ?_
  rw [← hN8, ← hMM] at lp87
  exact MW.sub (by simp [lsub, nI_0]) (lp87 8 0 rfl _ (fun _ _ => rfl) (fun j hj => absurd hj (Nat.not_lt_zero j)))
