/-! Town: what it reads -/
def sWide (hour kind width : Int32) : Int32 := if kind = 1 ∨ kind = 3 then width / 2 + 1 else if kind = 2 then width + 2 else if kind = 4 then minI 24 (2 * (width + 2)) else if kind = 5 then (if jr hour 2 = 0 then width else 0) else width
def sHide (chim kind : Int32) : Int32 := if kind = 2 then chim &&& 11184810 else if kind = 4 then 0 else chim
def nz1 (z : Int32) : Int32 := z * 1103515245 + 12345
theorem dX5_draw_0 : decode fX5_draw.2.1 0 = .ok (.aload_n 0, 1) := by decide +kernel
theorem dX5_draw_1 : decode fX5_draw.2.1 1 = .ok (.aload_n 0, 1) := by decide +kernel
theorem dX5_draw_2 : decode fX5_draw.2.1 2 = .ok (.getfield 31, 3) := by decide +kernel
theorem dX5_draw_5 : decode fX5_draw.2.1 5 = .ok (.ldc 100, 2) := by decide +kernel
theorem dX5_draw_7 : decode fX5_draw.2.1 7 = .ok (.imul, 1) := by decide +kernel
theorem dX5_draw_8 : decode fX5_draw.2.1 8 = .ok (.sipush 12345, 3) := by decide +kernel
theorem dX5_draw_11 : decode fX5_draw.2.1 11 = .ok (.iadd, 1) := by decide +kernel
theorem dX5_draw_12 : decode fX5_draw.2.1 12 = .ok (.putfield 31, 3) := by decide +kernel
theorem dX5_draw_15 : decode fX5_draw.2.1 15 = .ok (.aload_n 0, 1) := by decide +kernel
theorem dX5_draw_16 : decode fX5_draw.2.1 16 = .ok (.getfield 31, 3) := by decide +kernel
theorem dX5_draw_19 : decode fX5_draw.2.1 19 = .ok (.bipush 8, 2) := by decide +kernel
theorem dX5_draw_21 : decode fX5_draw.2.1 21 = .ok (.iushr, 1) := by decide +kernel
theorem dX5_draw_22 : decode fX5_draw.2.1 22 = .ok (.ireturn, 1) := by decide +kernel
set_option maxRecDepth 100000 in
set_option maxHeartbeats 4000000 in
theorem ok_X5_draw {X : Xb} {S : Sg} {mi : Mem} {t : Nat} (hT : TwA S t) : OkI 0 fX5_draw X [rf X t] S mi (jus (nz1 (mi t 11)) 8) (m_up mi t 11 (nz1 (mi t 11))) := by
  refine Ok.go [some (rf X t)] (by decide) (by simp [Value.category]) (Nat.le_of_ble_eq_true rfl) rfl ?_
  obtain ⟨k_t, ⟨r_t_home, k_t_home⟩, ⟨r_t_price, k_t_price⟩, ⟨r_t_attics, k_t_attics⟩, ⟨r_t_texts, k_t_texts⟩, ⟨r_t_counting, k_t_counting⟩, ⟨r_t_names, k_t_names⟩, ⟨r_t_pile, k_t_pile⟩, ⟨r_t_views, k_t_views⟩, a_t⟩ := id hT
  refine mw_aload_n dX5_draw_0 rfl ?_
  refine mw_aload_n dX5_draw_1 rfl ?_
  refine mw_geti dX5_draw_2 fl_X5_31 rfl (by assumption) ?_
  refine mw_ldc dX5_draw_5 cn_X5_100 ?_
  refine mw_imul dX5_draw_7 ?_
  refine mw_sipush (v := 12345) dX5_draw_8 (by decide) ?_
  refine mw_iadd dX5_draw_11 ?_
  refine mw_puti dX5_draw_12 fl_X5_31 ft_5_11 rfl (rfl) rfl (by assumption) ?_
  refine mw_aload_n dX5_draw_15 rfl ?_
  refine mw_geti dX5_draw_16 fl_X5_31 rfl (by assumption) ?_
  refine mw_bipush (v := 8) dX5_draw_19 (by decide) ?_
  refine mw_iushr dX5_draw_21 ?_
  exact mw_iret dX5_draw_22 rfl (by decide) (by decide) (⟨by simp [m_up, nz1], rfl, rfl⟩)
theorem dX5_bearingOf_0 : decode fX5_bearingOf.2.1 0 = .ok (.aload_n 0, 1) := by decide +kernel
theorem dX5_bearingOf_1 : decode fX5_bearingOf.2.1 1 = .ok (.getfield 9, 3) := by decide +kernel
theorem dX5_bearingOf_4 : decode fX5_bearingOf.2.1 4 = .ok (.iload_n 1, 1) := by decide +kernel
theorem dX5_bearingOf_5 : decode fX5_bearingOf.2.1 5 = .ok (.iaload, 1) := by decide +kernel
theorem dX5_bearingOf_6 : decode fX5_bearingOf.2.1 6 = .ok (.aload_n 0, 1) := by decide +kernel
theorem dX5_bearingOf_7 : decode fX5_bearingOf.2.1 7 = .ok (.getfield 78, 3) := by decide +kernel
theorem dX5_bearingOf_10 : decode fX5_bearingOf.2.1 10 = .ok (.iadd, 1) := by decide +kernel
theorem dX5_bearingOf_11 : decode fX5_bearingOf.2.1 11 = .ok (.bipush 24, 2) := by decide +kernel
theorem dX5_bearingOf_13 : decode fX5_bearingOf.2.1 13 = .ok (.irem, 1) := by decide +kernel
theorem dX5_bearingOf_14 : decode fX5_bearingOf.2.1 14 = .ok (.ireturn, 1) := by decide +kernel
set_option maxRecDepth 100000 in
set_option maxHeartbeats 4000000 in
theorem ok_X5_bearingOf {X : Xb} {S : Sg} {mi : Mem} {t k : Nat} (hT : TwA S t) (hk : k < 8) : OkI 0 fX5_bearingOf X [rf X t, .int (nI k)] S mi (jr (mi (t + 1) k + mi t 10) 24) mi := by
  refine Ok.go [some (rf X t), some (.int (nI k))] (by decide) (by simp [Value.category]) (Nat.le_of_ble_eq_true rfl) rfl ?_
  obtain ⟨k_t, ⟨r_t_home, k_t_home⟩, ⟨r_t_price, k_t_price⟩, ⟨r_t_attics, k_t_attics⟩, ⟨r_t_texts, k_t_texts⟩, ⟨r_t_counting, k_t_counting⟩, ⟨r_t_names, k_t_names⟩, ⟨r_t_pile, k_t_pile⟩, ⟨r_t_views, k_t_views⟩, a_t⟩ := id hT
  refine mw_aload_n dX5_bearingOf_0 rfl ?_
  refine mw_getr dX5_bearingOf_1 fl_X5_9 rfl (by assumption) (by assumption) ?_
  refine mw_iload_n dX5_bearingOf_4 rfl ?_
  refine mw_ialdK (k := k) dX5_bearingOf_5 (by assumption) (rfl) (hk) (by decide) ?_
  refine mw_aload_n dX5_bearingOf_6 rfl ?_
  refine mw_geti dX5_bearingOf_7 fl_X5_78 rfl (by assumption) ?_
  refine mw_iadd dX5_bearingOf_10 ?_
  refine mw_bipush (v := 24) dX5_bearingOf_11 (by decide) ?_
  refine mw_irem dX5_bearingOf_13 (by decide) ?_
  exact mw_iret dX5_bearingOf_14 rfl (by decide) (by decide) (⟨rfl, rfl, rfl⟩)
theorem dX5_wideOf_0 : decode fX5_wideOf.2.1 0 = .ok (.aload_n 1, 1) := by decide +kernel
theorem dX5_wideOf_1 : decode fX5_wideOf.2.1 1 = .ok (.getfield 120, 3) := by decide +kernel
theorem dX5_wideOf_4 : decode fX5_wideOf.2.1 4 = .ok (.tableswitch 84 1 5 #[36, 45, 36, 52, 66], 36) := by decide +kernel
theorem dX5_wideOf_40 : decode fX5_wideOf.2.1 40 = .ok (.aload_n 1, 1) := by decide +kernel
theorem dX5_wideOf_41 : decode fX5_wideOf.2.1 41 = .ok (.getfield 123, 3) := by decide +kernel
theorem dX5_wideOf_44 : decode fX5_wideOf.2.1 44 = .ok (.iconst 2, 1) := by decide +kernel
theorem dX5_wideOf_45 : decode fX5_wideOf.2.1 45 = .ok (.idiv, 1) := by decide +kernel
theorem dX5_wideOf_46 : decode fX5_wideOf.2.1 46 = .ok (.iconst 1, 1) := by decide +kernel
theorem dX5_wideOf_47 : decode fX5_wideOf.2.1 47 = .ok (.iadd, 1) := by decide +kernel
theorem dX5_wideOf_48 : decode fX5_wideOf.2.1 48 = .ok (.ireturn, 1) := by decide +kernel
theorem dX5_wideOf_49 : decode fX5_wideOf.2.1 49 = .ok (.aload_n 1, 1) := by decide +kernel
theorem dX5_wideOf_50 : decode fX5_wideOf.2.1 50 = .ok (.getfield 123, 3) := by decide +kernel
theorem dX5_wideOf_53 : decode fX5_wideOf.2.1 53 = .ok (.iconst 2, 1) := by decide +kernel
theorem dX5_wideOf_54 : decode fX5_wideOf.2.1 54 = .ok (.iadd, 1) := by decide +kernel
theorem dX5_wideOf_55 : decode fX5_wideOf.2.1 55 = .ok (.ireturn, 1) := by decide +kernel
theorem dX5_wideOf_56 : decode fX5_wideOf.2.1 56 = .ok (.bipush 24, 2) := by decide +kernel
theorem dX5_wideOf_58 : decode fX5_wideOf.2.1 58 = .ok (.iconst 2, 1) := by decide +kernel
theorem dX5_wideOf_59 : decode fX5_wideOf.2.1 59 = .ok (.aload_n 1, 1) := by decide +kernel
theorem dX5_wideOf_60 : decode fX5_wideOf.2.1 60 = .ok (.getfield 123, 3) := by decide +kernel
theorem dX5_wideOf_63 : decode fX5_wideOf.2.1 63 = .ok (.iconst 2, 1) := by decide +kernel
theorem dX5_wideOf_64 : decode fX5_wideOf.2.1 64 = .ok (.iadd, 1) := by decide +kernel
theorem dX5_wideOf_65 : decode fX5_wideOf.2.1 65 = .ok (.imul, 1) := by decide +kernel
theorem dX5_wideOf_66 : decode fX5_wideOf.2.1 66 = .ok (.invokestatic 126, 3) := by decide +kernel
theorem dX5_wideOf_69 : decode fX5_wideOf.2.1 69 = .ok (.ireturn, 1) := by decide +kernel
theorem dX5_wideOf_70 : decode fX5_wideOf.2.1 70 = .ok (.aload_n 0, 1) := by decide +kernel
theorem dX5_wideOf_71 : decode fX5_wideOf.2.1 71 = .ok (.getfield 78, 3) := by decide +kernel
theorem dX5_wideOf_74 : decode fX5_wideOf.2.1 74 = .ok (.iconst 2, 1) := by decide +kernel
theorem dX5_wideOf_75 : decode fX5_wideOf.2.1 75 = .ok (.irem, 1) := by decide +kernel
theorem dX5_wideOf_76 : decode fX5_wideOf.2.1 76 = .ok (.ifCond .ne 10, 3) := by decide +kernel
theorem dX5_wideOf_79 : decode fX5_wideOf.2.1 79 = .ok (.aload_n 1, 1) := by decide +kernel
theorem dX5_wideOf_80 : decode fX5_wideOf.2.1 80 = .ok (.getfield 123, 3) := by decide +kernel
theorem dX5_wideOf_83 : decode fX5_wideOf.2.1 83 = .ok (.goto 4, 3) := by decide +kernel
theorem dX5_wideOf_86 : decode fX5_wideOf.2.1 86 = .ok (.iconst 0, 1) := by decide +kernel
theorem dX5_wideOf_87 : decode fX5_wideOf.2.1 87 = .ok (.ireturn, 1) := by decide +kernel
theorem dX5_wideOf_88 : decode fX5_wideOf.2.1 88 = .ok (.aload_n 1, 1) := by decide +kernel
theorem dX5_wideOf_89 : decode fX5_wideOf.2.1 89 = .ok (.getfield 123, 3) := by decide +kernel
theorem dX5_wideOf_92 : decode fX5_wideOf.2.1 92 = .ok (.ireturn, 1) := by decide +kernel
set_option maxRecDepth 100000 in
set_option maxHeartbeats 4000000 in
theorem ok_X5_wideOf {X : Xb} {S : Sg} {mi : Mem} {t q : Nat} (hT : TwA S t) (hq : Kd S q 0 0) : OkI 1 fX5_wideOf X [rf X t, rf X q] S mi (sWide (mi t 10) (mi q 0) (mi q 2)) mi := by
  refine Ok.go [some (rf X t), some (rf X q)] (by decide) (by simp [Value.category]) (Nat.le_of_ble_eq_true rfl) rfl ?_
  obtain ⟨k_t, ⟨r_t_home, k_t_home⟩, ⟨r_t_price, k_t_price⟩, ⟨r_t_attics, k_t_attics⟩, ⟨r_t_texts, k_t_texts⟩, ⟨r_t_counting, k_t_counting⟩, ⟨r_t_names, k_t_names⟩, ⟨r_t_pile, k_t_pile⟩, ⟨r_t_views, k_t_views⟩, a_t⟩ := id hT
  refine mw_aload_n dX5_wideOf_0 rfl ?_
  refine mw_geti dX5_wideOf_1 fl_X5_120 rfl (by assumption) ?_
  refine mw_ts1 dX5_wideOf_4 (by decide) 1 40 (by decide) (fun h4_1 => ?_) (fun h4_1 => ?_)
  · skip
    refine mw_aload_n dX5_wideOf_40 rfl ?_
    refine mw_geti dX5_wideOf_41 fl_X5_123 rfl (by assumption) ?_
    refine mw_iconst (v := 2) dX5_wideOf_44 (by decide) ?_
    refine mw_idiv dX5_wideOf_45 (by decide) ?_
    refine mw_iconst (v := 1) dX5_wideOf_46 (by decide) ?_
    refine mw_iadd dX5_wideOf_47 ?_
    exact mw_iret dX5_wideOf_48 rfl (by decide) (by decide) (⟨by simp [sWide, minI, *], rfl, rfl⟩)
  refine mw_ts1 dX5_wideOf_4 (by decide) 2 49 (by decide) (fun h4_2 => ?_) (fun h4_2 => ?_)
  · skip
    refine mw_aload_n dX5_wideOf_49 rfl ?_
    refine mw_geti dX5_wideOf_50 fl_X5_123 rfl (by assumption) ?_
    refine mw_iconst (v := 2) dX5_wideOf_53 (by decide) ?_
    refine mw_iadd dX5_wideOf_54 ?_
    exact mw_iret dX5_wideOf_55 rfl (by decide) (by decide) (⟨by simp [sWide, minI, *], rfl, rfl⟩)
  refine mw_ts1 dX5_wideOf_4 (by decide) 3 40 (by decide) (fun h4_3 => ?_) (fun h4_3 => ?_)
  · skip
    refine mw_aload_n dX5_wideOf_40 rfl ?_
    refine mw_geti dX5_wideOf_41 fl_X5_123 rfl (by assumption) ?_
    refine mw_iconst (v := 2) dX5_wideOf_44 (by decide) ?_
    refine mw_idiv dX5_wideOf_45 (by decide) ?_
    refine mw_iconst (v := 1) dX5_wideOf_46 (by decide) ?_
    refine mw_iadd dX5_wideOf_47 ?_
    exact mw_iret dX5_wideOf_48 rfl (by decide) (by decide) (⟨by simp [sWide, minI, *], rfl, rfl⟩)
  refine mw_ts1 dX5_wideOf_4 (by decide) 4 56 (by decide) (fun h4_4 => ?_) (fun h4_4 => ?_)
  · skip
    refine mw_bipush (v := 24) dX5_wideOf_56 (by decide) ?_
    refine mw_iconst (v := 2) dX5_wideOf_58 (by decide) ?_
    refine mw_aload_n dX5_wideOf_59 rfl ?_
    refine mw_geti dX5_wideOf_60 fl_X5_123 rfl (by assumption) ?_
    refine mw_iconst (v := 2) dX5_wideOf_63 (by decide) ?_
    refine mw_iadd dX5_wideOf_64 ?_
    refine mw_imul dX5_wideOf_65 ?_
    refine mw_mmin dX5_wideOf_66 ml_X5_126 (Nat.le_of_ble_eq_true rfl) ⟨by decide, by decide⟩ ⟨by decide, by decide⟩ ?_
    exact mw_iret dX5_wideOf_69 rfl (by decide) (by decide) (⟨by simp [sWide, minI, *], rfl, rfl⟩)
  refine mw_ts1 dX5_wideOf_4 (by decide) 5 70 (by decide) (fun h4_5 => ?_) (fun h4_5 => ?_)
  · skip
    refine mw_aload_n dX5_wideOf_70 rfl ?_
    refine mw_geti dX5_wideOf_71 fl_X5_78 rfl (by assumption) ?_
    refine mw_iconst (v := 2) dX5_wideOf_74 (by decide) ?_
    refine mw_irem dX5_wideOf_75 (by decide) ?_
    refine mw_if_ne (tgt := 86) dX5_wideOf_76 (by decide) (fun h76 => ?_) (fun h76 => ?_)
    · skip
      refine mw_iconst (v := 0) dX5_wideOf_86 (by decide) ?_
      exact mw_iret dX5_wideOf_87 rfl (by decide) (by decide) (⟨by simp [sWide, minI, *], rfl, rfl⟩)
    · skip
      refine mw_aload_n dX5_wideOf_79 rfl ?_
      refine mw_geti dX5_wideOf_80 fl_X5_123 rfl (by assumption) ?_
      refine mw_goto (tgt := 87) dX5_wideOf_83 (by decide) ?_
      exact mw_iret dX5_wideOf_87 rfl (by decide) (by decide) (⟨by simp [sWide, minI, *], rfl, rfl⟩)
  refine mw_ts0 dX5_wideOf_4 (by decide) 88 (by decide) (by have e0 := ne_toI (n := 1) (by decide) h4_1; have e1 := ne_toI (n := 2) (by decide) h4_2; have e2 := ne_toI (n := 3) (by decide) h4_3; have e3 := ne_toI (n := 4) (by decide) h4_4; have e4 := ne_toI (n := 5) (by decide) h4_5; omega) ?_
  refine mw_aload_n dX5_wideOf_88 rfl ?_
  refine mw_geti dX5_wideOf_89 fl_X5_123 rfl (by assumption) ?_
  exact mw_iret dX5_wideOf_92 rfl (by decide) (by decide) (⟨by simp [sWide, minI, *], rfl, rfl⟩)
theorem dX5_hidingFrom_0 : decode fX5_hidingFrom.2.1 0 = .ok (.aload_n 1, 1) := by decide +kernel
theorem dX5_hidingFrom_1 : decode fX5_hidingFrom.2.1 1 = .ok (.getfield 120, 3) := by decide +kernel
theorem dX5_hidingFrom_4 : decode fX5_hidingFrom.2.1 4 = .ok (.lookupswitch 38 #[(2, 28), (4, 36)], 28) := by decide +kernel
theorem dX5_hidingFrom_32 : decode fX5_hidingFrom.2.1 32 = .ok (.aload_n 0, 1) := by decide +kernel
theorem dX5_hidingFrom_33 : decode fX5_hidingFrom.2.1 33 = .ok (.getfield 66, 3) := by decide +kernel
theorem dX5_hidingFrom_36 : decode fX5_hidingFrom.2.1 36 = .ok (.ldc 132, 2) := by decide +kernel
theorem dX5_hidingFrom_38 : decode fX5_hidingFrom.2.1 38 = .ok (.iand, 1) := by decide +kernel
theorem dX5_hidingFrom_39 : decode fX5_hidingFrom.2.1 39 = .ok (.ireturn, 1) := by decide +kernel
theorem dX5_hidingFrom_40 : decode fX5_hidingFrom.2.1 40 = .ok (.iconst 0, 1) := by decide +kernel
theorem dX5_hidingFrom_41 : decode fX5_hidingFrom.2.1 41 = .ok (.ireturn, 1) := by decide +kernel
theorem dX5_hidingFrom_42 : decode fX5_hidingFrom.2.1 42 = .ok (.aload_n 0, 1) := by decide +kernel
theorem dX5_hidingFrom_43 : decode fX5_hidingFrom.2.1 43 = .ok (.getfield 66, 3) := by decide +kernel
theorem dX5_hidingFrom_46 : decode fX5_hidingFrom.2.1 46 = .ok (.ireturn, 1) := by decide +kernel
set_option maxRecDepth 100000 in
set_option maxHeartbeats 4000000 in
theorem ok_X5_hidingFrom {X : Xb} {S : Sg} {mi : Mem} {t q : Nat} (hT : TwA S t) (hq : Kd S q 0 0) : OkI 0 fX5_hidingFrom X [rf X t, rf X q] S mi (sHide (mi t 4) (mi q 0)) mi := by
  refine Ok.go [some (rf X t), some (rf X q)] (by decide) (by simp [Value.category]) (Nat.le_of_ble_eq_true rfl) rfl ?_
  obtain ⟨k_t, ⟨r_t_home, k_t_home⟩, ⟨r_t_price, k_t_price⟩, ⟨r_t_attics, k_t_attics⟩, ⟨r_t_texts, k_t_texts⟩, ⟨r_t_counting, k_t_counting⟩, ⟨r_t_names, k_t_names⟩, ⟨r_t_pile, k_t_pile⟩, ⟨r_t_views, k_t_views⟩, a_t⟩ := id hT
  refine mw_aload_n dX5_hidingFrom_0 rfl ?_
  refine mw_geti dX5_hidingFrom_1 fl_X5_120 rfl (by assumption) ?_
  refine mw_ls1 dX5_hidingFrom_4 (by decide) 2 32 (by decide) (fun h4_2 => ?_) (fun h4_2 => ?_)
  · skip
    refine mw_aload_n dX5_hidingFrom_32 rfl ?_
    refine mw_geti dX5_hidingFrom_33 fl_X5_66 rfl (by assumption) ?_
    refine mw_ldc dX5_hidingFrom_36 cn_X5_132 ?_
    refine mw_iand dX5_hidingFrom_38 ?_
    exact mw_iret dX5_hidingFrom_39 rfl (by decide) (by decide) (⟨by simp [sHide, *], rfl, rfl⟩)
  refine mw_ls1 dX5_hidingFrom_4 (by decide) 4 40 (by decide) (fun h4_4 => ?_) (fun h4_4 => ?_)
  · skip
    refine mw_iconst (v := 0) dX5_hidingFrom_40 (by decide) ?_
    exact mw_iret dX5_hidingFrom_41 rfl (by decide) (by decide) (⟨by simp [sHide, *], rfl, rfl⟩)
  refine mw_ls0 dX5_hidingFrom_4 (by decide) 42 (by decide) (by have e0 := ne_toI (n := 2) (by decide) h4_2; have e1 := ne_toI (n := 4) (by decide) h4_4; simp; omega) ?_
  refine mw_aload_n dX5_hidingFrom_42 rfl ?_
  refine mw_geti dX5_hidingFrom_43 fl_X5_66 rfl (by assumption) ?_
  exact mw_iret dX5_hidingFrom_46 rfl (by decide) (by decide) (⟨by simp [sHide, *], rfl, rfl⟩)
/-- the stars that are seen, up to star n -/
def cSee (home : Nat → Int32) (hour chim kind faces width : Int32) (k : Nat) : Prop := jr (jr (home k + hour) 24 - faces + 24) 24 < sWide hour kind width ∧ (sHide chim kind >>> (jr (home k + hour) 24 &&& 31)) &&& 1 = 0
def seesTo (p : Nat → Bool) : Nat → Int32
  | 0 => 0
  | n + 1 => if p n then seesTo p n ||| (1 <<< (nI n &&& 31)) else seesTo p n
def cSeeB (home : Nat → Int32) (hour chim kind faces width : Int32) (k : Nat) : Bool := decide (jr (jr (home k + hour) 24 - faces + 24) 24 < sWide hour kind width) && decide ((sHide chim kind >>> (jr (home k + hour) 24 &&& 31)) &&& 1 = 0)
def cSees (home : Nat → Int32) (hour chim kind faces width : Int32) : Int32 := seesTo (cSeeB home hour chim kind faces width) 8
theorem dX5_seenBy_0 : decode fX5_seenBy.2.1 0 = .ok (.aload_n 0, 1) := by decide +kernel
theorem dX5_seenBy_1 : decode fX5_seenBy.2.1 1 = .ok (.aload_n 1, 1) := by decide +kernel
theorem dX5_seenBy_2 : decode fX5_seenBy.2.1 2 = .ok (.invokevirtual 133, 3) := by decide +kernel
theorem dX5_seenBy_5 : decode fX5_seenBy.2.1 5 = .ok (.istore_n 2, 1) := by decide +kernel
theorem dX5_seenBy_6 : decode fX5_seenBy.2.1 6 = .ok (.aload_n 0, 1) := by decide +kernel
theorem dX5_seenBy_7 : decode fX5_seenBy.2.1 7 = .ok (.aload_n 1, 1) := by decide +kernel
theorem dX5_seenBy_8 : decode fX5_seenBy.2.1 8 = .ok (.invokevirtual 136, 3) := by decide +kernel
theorem dX5_seenBy_11 : decode fX5_seenBy.2.1 11 = .ok (.istore_n 3, 1) := by decide +kernel
theorem dX5_seenBy_12 : decode fX5_seenBy.2.1 12 = .ok (.iconst 0, 1) := by decide +kernel
theorem dX5_seenBy_13 : decode fX5_seenBy.2.1 13 = .ok (.istore 4, 2) := by decide +kernel
theorem dX5_seenBy_15 : decode fX5_seenBy.2.1 15 = .ok (.iconst 0, 1) := by decide +kernel
theorem dX5_seenBy_16 : decode fX5_seenBy.2.1 16 = .ok (.istore 5, 2) := by decide +kernel
theorem dX5_seenBy_18 : decode fX5_seenBy.2.1 18 = .ok (.iload 5, 2) := by decide +kernel
theorem dX5_seenBy_20 : decode fX5_seenBy.2.1 20 = .ok (.bipush 8, 2) := by decide +kernel
theorem dX5_seenBy_22 : decode fX5_seenBy.2.1 22 = .ok (.if_icmp .ge 56, 3) := by decide +kernel
theorem dX5_seenBy_25 : decode fX5_seenBy.2.1 25 = .ok (.aload_n 0, 1) := by decide +kernel
theorem dX5_seenBy_26 : decode fX5_seenBy.2.1 26 = .ok (.iload 5, 2) := by decide +kernel
theorem dX5_seenBy_28 : decode fX5_seenBy.2.1 28 = .ok (.invokevirtual 139, 3) := by decide +kernel
theorem dX5_seenBy_31 : decode fX5_seenBy.2.1 31 = .ok (.istore 6, 2) := by decide +kernel
theorem dX5_seenBy_33 : decode fX5_seenBy.2.1 33 = .ok (.iload 6, 2) := by decide +kernel
theorem dX5_seenBy_35 : decode fX5_seenBy.2.1 35 = .ok (.aload_n 1, 1) := by decide +kernel
theorem dX5_seenBy_36 : decode fX5_seenBy.2.1 36 = .ok (.getfield 117, 3) := by decide +kernel
theorem dX5_seenBy_39 : decode fX5_seenBy.2.1 39 = .ok (.isub, 1) := by decide +kernel
theorem dX5_seenBy_40 : decode fX5_seenBy.2.1 40 = .ok (.bipush 24, 2) := by decide +kernel
theorem dX5_seenBy_42 : decode fX5_seenBy.2.1 42 = .ok (.iadd, 1) := by decide +kernel
theorem dX5_seenBy_43 : decode fX5_seenBy.2.1 43 = .ok (.bipush 24, 2) := by decide +kernel
theorem dX5_seenBy_45 : decode fX5_seenBy.2.1 45 = .ok (.irem, 1) := by decide +kernel
theorem dX5_seenBy_46 : decode fX5_seenBy.2.1 46 = .ok (.istore 7, 2) := by decide +kernel
theorem dX5_seenBy_48 : decode fX5_seenBy.2.1 48 = .ok (.iload 7, 2) := by decide +kernel
theorem dX5_seenBy_50 : decode fX5_seenBy.2.1 50 = .ok (.iload_n 2, 1) := by decide +kernel
theorem dX5_seenBy_51 : decode fX5_seenBy.2.1 51 = .ok (.if_icmp .ge 21, 3) := by decide +kernel
theorem dX5_seenBy_54 : decode fX5_seenBy.2.1 54 = .ok (.iload_n 3, 1) := by decide +kernel
theorem dX5_seenBy_55 : decode fX5_seenBy.2.1 55 = .ok (.iload 6, 2) := by decide +kernel
theorem dX5_seenBy_57 : decode fX5_seenBy.2.1 57 = .ok (.ishr, 1) := by decide +kernel
theorem dX5_seenBy_58 : decode fX5_seenBy.2.1 58 = .ok (.iconst 1, 1) := by decide +kernel
theorem dX5_seenBy_59 : decode fX5_seenBy.2.1 59 = .ok (.iand, 1) := by decide +kernel
theorem dX5_seenBy_60 : decode fX5_seenBy.2.1 60 = .ok (.ifCond .ne 12, 3) := by decide +kernel
theorem dX5_seenBy_63 : decode fX5_seenBy.2.1 63 = .ok (.iload 4, 2) := by decide +kernel
theorem dX5_seenBy_65 : decode fX5_seenBy.2.1 65 = .ok (.iconst 1, 1) := by decide +kernel
theorem dX5_seenBy_66 : decode fX5_seenBy.2.1 66 = .ok (.iload 5, 2) := by decide +kernel
theorem dX5_seenBy_68 : decode fX5_seenBy.2.1 68 = .ok (.ishl, 1) := by decide +kernel
theorem dX5_seenBy_69 : decode fX5_seenBy.2.1 69 = .ok (.ior, 1) := by decide +kernel
theorem dX5_seenBy_70 : decode fX5_seenBy.2.1 70 = .ok (.istore 4, 2) := by decide +kernel
theorem dX5_seenBy_72 : decode fX5_seenBy.2.1 72 = .ok (.iinc 5 1, 3) := by decide +kernel
theorem dX5_seenBy_75 : decode fX5_seenBy.2.1 75 = .ok (.goto (-57), 3) := by decide +kernel
theorem dX5_seenBy_78 : decode fX5_seenBy.2.1 78 = .ok (.iload 4, 2) := by decide +kernel
theorem dX5_seenBy_80 : decode fX5_seenBy.2.1 80 = .ok (.ireturn, 1) := by decide +kernel
set_option maxRecDepth 100000 in
set_option maxHeartbeats 4000000 in
theorem ok_X5_seenBy {X : Xb} {S : Sg} {mi : Mem} {t q : Nat} (hT : TwA S t) (hq : Kd S q 0 0) : OkI 2 fX5_seenBy X [rf X t, rf X q] S mi (cSees (mi (t + 1)) (mi t 10) (mi t 4) (mi q 0) (mi q 1) (mi q 2)) mi := by
  refine Ok.go [some (rf X t), some (rf X q), none, none, none, none, none, none] (by decide) (by simp [Value.category]) (Nat.le_of_ble_eq_true rfl) rfl ?_
  obtain ⟨k_t, ⟨r_t_home, k_t_home⟩, ⟨r_t_price, k_t_price⟩, ⟨r_t_attics, k_t_attics⟩, ⟨r_t_texts, k_t_texts⟩, ⟨r_t_counting, k_t_counting⟩, ⟨r_t_names, k_t_names⟩, ⟨r_t_pile, k_t_pile⟩, ⟨r_t_views, k_t_views⟩, a_t⟩ := id hT
  have loop : ∀ (n k : Nat), n + k = 8 → MW X fX5_seenBy (rmOf 2 0 0) 0 0 18 [some (rf X t), some (rf X q), some (.int (sWide (mi t 10) (mi q 0) (mi q 2))), some (.int (sHide (mi t 4) (mi q 0))), some (.int (seesTo (cSeeB (mi (t + 1)) (mi t 10) (mi t 4) (mi q 0) (mi q 1) (mi q 2)) k)), some (.int (nI k)), none, none] [] S mi (mQ X 0 0 (pI (cSees (mi (t + 1)) (mi t 10) (mi t 4) (mi q 0) (mi q 1) (mi q 2)) S mi)) := by
    intro n
    induction n with
    | zero =>
      intro k hk
      obtain rfl : k = 8 := by omega
      refine mw_iload dX5_seenBy_18 rfl ?_
      refine mw_bipush (v := 8) dX5_seenBy_20 (by decide) ?_
      refine mw_icmp_ge (tgt := 78) dX5_seenBy_22 (by decide) (fun h22 => ?_) (fun h22 => ?_)
      · skip
        refine mw_iload dX5_seenBy_78 rfl ?_
        exact mw_iret dX5_seenBy_80 rfl (by decide) (by decide) (⟨rfl, rfl, rfl⟩)
      · skip
        exact absurd (by decide) h22
    | succ n ih =>
      intro k hk
      refine mw_iload dX5_seenBy_18 rfl ?_
      refine mw_bipush (v := 8) dX5_seenBy_20 (by decide) ?_
      refine mw_icmp_ge (tgt := 78) dX5_seenBy_22 (by decide) (fun h22 => ?_) (fun h22 => ?_)
      · skip
        exact absurd h22 (nI_ge (b := 8) (by omega) (by decide))
      · skip
        refine mw_aload_n dX5_seenBy_25 rfl ?_
        refine mw_iload dX5_seenBy_26 rfl ?_
        refine mw_cVI (g := fX5_bearingOf) dX5_seenBy_28 ml_X5_139 mfX5_bearingOf (ok_X5_bearingOf hT (k := k) (by omega)) (by assumption) rfl rfl (Nat.le_of_ble_eq_true rfl) ⟨by decide, by decide⟩ ⟨by decide, by decide⟩ ?_
        refine mw_istore dX5_seenBy_31 (by decide) ?_
        refine mw_iload dX5_seenBy_33 rfl ?_
        refine mw_aload_n dX5_seenBy_35 rfl ?_
        refine mw_geti dX5_seenBy_36 fl_X5_117 rfl (by assumption) ?_
        refine mw_isub dX5_seenBy_39 ?_
        refine mw_bipush (v := 24) dX5_seenBy_40 (by decide) ?_
        refine mw_iadd dX5_seenBy_42 ?_
        refine mw_bipush (v := 24) dX5_seenBy_43 (by decide) ?_
        refine mw_irem dX5_seenBy_45 (by decide) ?_
        refine mw_istore dX5_seenBy_46 (by decide) ?_
        refine mw_iload dX5_seenBy_48 rfl ?_
        refine mw_iload_n dX5_seenBy_50 rfl ?_
        refine mw_icmp_ge (tgt := 72) dX5_seenBy_51 (by decide) (fun h51 => ?_) (fun h51 => ?_)
        · skip
          refine mw_iincK (k := k) dX5_seenBy_72 rfl rfl (by decide) ?_
          refine mw_goto (tgt := 18) dX5_seenBy_75 (by decide) ?_
          refine MW.back (ih (k + 1) (by omega)) ?_
          simp [lsub, seesTo, cSeeB]
          grind
        · skip
          refine mw_iload_n dX5_seenBy_54 rfl ?_
          refine mw_iload dX5_seenBy_55 rfl ?_
          refine mw_ishr dX5_seenBy_57 ?_
          refine mw_iconst (v := 1) dX5_seenBy_58 (by decide) ?_
          refine mw_iand dX5_seenBy_59 ?_
          refine mw_if_ne (tgt := 72) dX5_seenBy_60 (by decide) (fun h60 => ?_) (fun h60 => ?_)
          · skip
            refine mw_iincK (k := k) dX5_seenBy_72 rfl rfl (by decide) ?_
            refine mw_goto (tgt := 18) dX5_seenBy_75 (by decide) ?_
            refine MW.back (ih (k + 1) (by omega)) ?_
            simp [lsub, seesTo, cSeeB]
            grind
          · skip
            refine mw_iload dX5_seenBy_63 rfl ?_
            refine mw_iconst (v := 1) dX5_seenBy_65 (by decide) ?_
            refine mw_iload dX5_seenBy_66 rfl ?_
            refine mw_ishl dX5_seenBy_68 ?_
            refine mw_ior dX5_seenBy_69 ?_
            refine mw_istore dX5_seenBy_70 (by decide) ?_
            refine mw_iincK (k := k) dX5_seenBy_72 rfl rfl (by decide) ?_
            refine mw_goto (tgt := 18) dX5_seenBy_75 (by decide) ?_
            refine MW.back (ih (k + 1) (by omega)) ?_
            simp [lsub, seesTo, cSeeB]
            grind
  refine mw_aload_n dX5_seenBy_0 rfl ?_
  refine mw_aload_n dX5_seenBy_1 rfl ?_
  refine mw_cVI (g := fX5_wideOf) dX5_seenBy_2 ml_X5_133 mfX5_wideOf (ok_X5_wideOf hT hq) (by assumption) rfl rfl (Nat.le_of_ble_eq_true rfl) ⟨by decide, by decide⟩ ⟨by decide, by decide⟩ ?_
  refine mw_istN 2 dX5_seenBy_5 rfl (by decide) ?_
  refine mw_aload_n dX5_seenBy_6 rfl ?_
  refine mw_aload_n dX5_seenBy_7 rfl ?_
  refine mw_cVI (g := fX5_hidingFrom) dX5_seenBy_8 ml_X5_136 mfX5_hidingFrom (ok_X5_hidingFrom hT hq) (by assumption) rfl rfl (Nat.le_of_ble_eq_true rfl) ⟨by decide, by decide⟩ ⟨by decide, by decide⟩ ?_
  refine mw_istN 3 dX5_seenBy_11 rfl (by decide) ?_
  refine mw_iconst (v := 0) dX5_seenBy_12 (by decide) ?_
  refine mw_istore dX5_seenBy_13 (by decide) ?_
  refine mw_iconst (v := 0) dX5_seenBy_15 (by decide) ?_
  refine mw_istore dX5_seenBy_16 (by decide) ?_
  exact MW.back (loop 8 0 (by omega)) (by simp [lsub, seesTo, nI_0])
