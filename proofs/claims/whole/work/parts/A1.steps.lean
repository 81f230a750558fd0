/-! the steps: a row's calls -/
theorem st_attic {X : Xb} {S : Sg} {m : Mem} {x : Nat} (hI : Inv S m x) (k : Int32) (f : Int32) (w : Int32) : CStep 2 0 0 2 fX6_attic fX7_attic X [.int k, .int f, .int w] S m x := by
  obtain ⟨n, h, c, q⟩ := hI.2.1
  have n8 := q.2.2.1.1
  have T := q.2.2.2.2
  have h9 := q.2.2.2.1
  refine stp_gen hI q (newR_attic k f w q.2.1 q.2.2.1 h9) ((ok_X6_attic hI.1.1 n8 q.1 q.2.1).post (fun _ _ _ hp => PS.ce hp)) (fun S1 m1 hM fm => ?_)
  have k7 := ok_X7_attic (X := X) (k := k) (f := f) (w := w) hM n8 (fm _ (by omega)) q.2.1
  exact k7.post (fun _ _ _ hp => PM.me hp)
theorem st_turns {X : Xb} {S : Sg} {m : Mem} {x : Nat} (hI : Inv S m x) (v : Int32) (k : Int32) : CStep 2 0 0 2 fX6_turns fX7_turns X [.int v, .int k] S m x := by
  obtain ⟨n, h, c, q⟩ := hI.2.1
  have n8 := q.2.2.1.1
  have T := q.2.2.2.2
  have h9 := q.2.2.2.1
  refine stp_gen hI q (newR_turns v k q.2.1 q.2.2.1 h9) ((ok_X6_turns hI.1.1 n8 q.1 q.2.1).post (fun _ _ _ hp => PS.ce hp)) (fun S1 m1 hM fm => ?_)
  have k7 := ok_X7_turns (X := X) (v := v) (k := k) hM n8 (fm _ (by omega)) q.2.1
  exact k7.post (fun _ _ _ hp => PM.me hp)
theorem st_set {X : Xb} {S : Sg} {m : Mem} {x : Nat} (hI : Inv S m x) (v : Int32) (w : Int32) (y : Int32) : CStep 2 0 0 2 fX6_set fX7_set X [.int v, .int w, .int y] S m x := by
  obtain ⟨n, h, c, q⟩ := hI.2.1
  have n8 := q.2.2.1.1
  have T := q.2.2.2.2
  have h9 := q.2.2.2.1
  refine stp_gen hI q (newR_set v w y q.2.1 q.2.2.1 h9) ((ok_X6_set hI.1.1 n8 q.1 q.2.1).post (fun _ _ _ hp => PS.ce hp)) (fun S1 m1 hM fm => ?_)
  have k7 := ok_X7_set (X := X) (v := v) (w := w) (y := y) hM n8 (fm _ (by omega)) q.2.1
  exact k7.post (fun _ _ _ hp => PM.me hp)
theorem st_star {X : Xb} {S : Sg} {m : Mem} {x : Nat} (hI : Inv S m x) (v : Int32) (w : Int32) (y : Int32) : CStep 2 0 0 2 fX6_star fX7_star X [.int v, .int w, .int y] S m x := by
  obtain ⟨n, h, c, q⟩ := hI.2.1
  have n8 := q.2.2.1.1
  have T := q.2.2.2.2
  have h9 := q.2.2.2.1
  refine stp_gen hI q (newR_star v w y q.2.1 q.2.2.1 h9) ((ok_X6_star hI.1.1 n8 q.1 q.2.1).post (fun _ _ _ hp => PS.ce hp)) (fun S1 m1 hM fm => ?_)
  have k7 := ok_X7_star (X := X) (v := v) (w := w) (y := y) hM n8 (fm _ (by omega)) q.2.1
  exact k7.post (fun _ _ _ hp => PM.me hp)
theorem st_rule {X : Xb} {S : Sg} {m : Mem} {x : Nat} (hI : Inv S m x) (w : Int32) (y : Int32) : CStep 2 0 0 2 fX6_rule fX7_rule X [.int w, .int y] S m x := by
  obtain ⟨n, h, c, q⟩ := hI.2.1
  have n8 := q.2.2.1.1
  have T := q.2.2.2.2
  have h9 := q.2.2.2.1
  refine stp_gen hI q (newR_rule w y q.2.1 q.2.2.1 h9) ((ok_X6_rule hI.1.1 n8 q.1 q.2.1).post (fun _ _ _ hp => PS.ce hp)) (fun S1 m1 hM fm => ?_)
  have k7 := ok_X7_rule (X := X) (w := w) (y := y) hM n8 (fm _ (by omega)) q.2.1
  exact k7.post (fun _ _ _ hp => PM.me hp)
theorem st_seed {X : Xb} {S : Sg} {m : Mem} {x : Nat} (hI : Inv S m x) (v : Int32) : CStep 2 0 0 2 fX6_seed fX7_seed X [.int v] S m x := by
  obtain ⟨n, h, c, q⟩ := hI.2.1
  have n8 := q.2.2.1.1
  have T := q.2.2.2.2
  have h9 := q.2.2.2.1
  refine stp_gen hI q (newR_seed v q.2.1 q.2.2.1 h9) ((ok_X6_seed hI.1.1 n8 q.1 q.2.1).post (fun _ _ _ hp => PS.ce hp)) (fun S1 m1 hM fm => ?_)
  have k7 := ok_X7_seed (X := X) (v := v) hM n8 (fm _ (by omega)) q.2.1
  exact k7.post (fun _ _ _ hp => PM.me hp)
theorem st_deal {X : Xb} {S : Sg} {m : Mem} {x : Nat} (hI : Inv S m x) (v : Int32) : CStep 3 0 0 3 fX6_deal fX7_deal X [.int v] S m x := by
  obtain ⟨n, h, c, q⟩ := hI.2.1
  have n8 := q.2.2.1.1
  have T := q.2.2.2.2
  have h9 := q.2.2.2.1
  refine stp_gen hI q (newR_deal v q.2.1 q.2.2.1 h9) ((ok_X6_deal hI.1.1 n8 q.1 q.2.1).post (fun _ _ _ hp => PS.ce hp)) (fun S1 m1 hM fm => ?_)
  have k7 := ok_X7_deal (X := X) (v := v) hM n8 (fm _ (by omega)) q.2.1
  exact k7.post (fun _ _ _ hp => PM.me hp)
theorem st_chimney {X : Xb} {S : Sg} {m : Mem} {x : Nat} (hI : Inv S m x) (b : Int32) (v : Int32) : CStep 2 0 0 2 fX6_chimney fX7_chimney X [.int b, .int v] S m x := by
  obtain ⟨n, h, c, q⟩ := hI.2.1
  have n8 := q.2.2.1.1
  have T := q.2.2.2.2
  have h9 := q.2.2.2.1
  refine stp_gen hI q (newR_chim b v q.2.1 q.2.2.1 h9) ((ok_X6_chimney hI.1.1 n8 q.1 q.2.1).post (fun _ _ _ hp => PS.ce hp)) (fun S1 m1 hM fm => ?_)
  have k7 := ok_X7_chimney (X := X) (b := b) (v := v) hM n8 (fm _ (by omega)) q.2.1
  rw [chim_eq] at k7
  exact k7.post (fun _ _ _ hp => PM.me hp)
theorem st_smokes {X : Xb} {S : Sg} {m : Mem} {x : Nat} (hI : Inv S m x) (b : Int32) : CStep 2 0 0 2 fX6_smokes fX7_smokes X [.int b] S m x := by
  obtain ⟨n, h, c, q⟩ := hI.2.1
  have n8 := q.2.2.1.1
  have T := q.2.2.2.2
  have h9 := q.2.2.2.1
  refine stp_gen hI q (newR_id q.2.1 q.2.2.1 h9) ((ok_X6_smokes hI.1.1 n8 q.1 q.2.1).post (fun _ _ _ hp => PS.ce hp)) (fun S1 m1 hM fm => ?_)
  have k7 := ok_X7_smokes (X := X) (b := b) hM n8 (fm _ (by omega)) q.2.1
  exact k7.post (fun _ _ _ hp => PM.me hp)
theorem st_as {X : Xb} {S : Sg} {m : Mem} {x : Nat} (hI : Inv S m x) (v : Int32) (k : Int32) : CStep 2 0 0 2 fX6_as fX7_as X [.int v, .int k] S m x := by
  obtain ⟨n, h, c, q⟩ := hI.2.1
  have n8 := q.2.2.1.1
  have T := q.2.2.2.2
  have h9 := q.2.2.2.1
  refine stp_gen hI q (newR_id q.2.1 q.2.2.1 h9) ((ok_X6_as hI.1.1 n8 q.1 q.2.1 (fun a ha => by obtain ⟨z, z1, z2⟩ := rg_kind q.2.2.1 ha; exact ⟨z, by omega, z2⟩)).post (fun _ _ _ hp => PS.ce hp)) (fun S1 m1 hM fm => ?_)
  have k7 := ok_X7_as (X := X) (v := v) (k := k) hM n8 (fm _ (by omega)) q.2.1
  exact k7.post (fun _ _ _ hp => PM.me hp)
theorem st_starOf {X : Xb} {S : Sg} {m : Mem} {x : Nat} (hI : Inv S m x) (v : Int32) (w : Int32) : CStep 4 0 0 5 fX6_starOf fX7_starOf X [.int v, .int w] S m x := by
  obtain ⟨n, h, c, q⟩ := hI.2.1
  have n8 := q.2.2.1.1
  have T := q.2.2.2.2
  have h9 := q.2.2.2.1
  refine stp_gen hI q (newR_id q.2.1 q.2.2.1 h9) ((ok_X6_starOf hI.1.1 n8 q.1 q.2.1).post (fun _ _ _ hp => PS.ce hp)) (fun S1 m1 hM fm => ?_)
  have k7 := ok_X7_starOf (X := X) (v := v) (w := w) hM n8 (fm _ (by omega)) q.2.1
  rw [starOf_eq q.2.2.1 (by omega)] at k7
  exact k7.post (fun _ _ _ hp => PM.me hp)
theorem st_told {X : Xb} {S : Sg} {m : Mem} {x : Nat} (hI : Inv S m x) (v : Int32) (w : Int32) : CStep 4 0 0 5 fX6_told fX7_told X [.int v, .int w] S m x := by
  obtain ⟨n, h, c, q⟩ := hI.2.1
  have n8 := q.2.2.1.1
  have T := q.2.2.2.2
  have h9 := q.2.2.2.1
  have hl0 : lwC S m (x + 1) 0 = lwM (m (x + 88)) 0 c := txi_lw T (by decide)
  refine stp_gen hI q (newR_id q.2.1 q.2.2.1 h9) ((ok_X6_told hI.1.1 n8 q.1 q.2.1 (txi_ok T (by decide)) hl0).post (fun _ _ _ hp => PS.ce hp)) (fun S1 m1 hM fm => ?_)
  have k7 := ok_X7_told (X := X) (v := v) (w := w) hM n8 (fm _ (by omega)) q.2.1 T.2.1 T.1 (txi_mt T) rfl
  rw [told_eq q.2.2.1 (by omega)] at k7
  exact k7.post (fun _ _ _ hp => PM.me hp)
theorem st_town {X : Xb} {S : Sg} {m : Mem} {x : Nat} (hI : Inv S m x) (w : Int32) : CStep 5 0 0 6 fX6_town fX7_town X [.int w] S m x := by
  obtain ⟨n, h, c, q⟩ := hI.2.1
  have n8 := q.2.2.1.1
  have T := q.2.2.2.2
  have h9 := q.2.2.2.1
  have hl0 : lwC S m (x + 1) 0 = lwM (m (x + 88)) 0 c := txi_lw T (by decide)
  refine stp_gen hI q (newR_id q.2.1 q.2.2.1 h9) ((ok_X6_town hI.1.1 n8 q.1 q.2.1 (txi_ok T (by decide)) hl0).post (fun _ _ _ hp => PS.ce hp)) (fun S1 m1 hM fm => ?_)
  have k7 := ok_X7_town (X := X) (w := w) hM n8 (fm _ (by omega)) q.2.1 T.2.1 T.1 (txi_mt T) rfl
  rw [town_eq q.2.2.1 (by omega)] at k7
  exact k7.post (fun _ _ _ hp => PM.me hp)
theorem st_hours {X : Xb} {S : Sg} {m : Mem} {x : Nat} (hI : Inv S m x) (v : Int32) : CStep 5 0 0 8 fX6_hours fX7_hours X [.int v] S m x := by
  obtain ⟨n, h, c, q⟩ := hI.2.1
  have n8 := q.2.2.1.1
  have T := q.2.2.2.2
  have h9 := q.2.2.2.1
  have hl0 : lwC S m (x + 1) 0 = lwM (m (x + 88)) 0 c := txi_lw T (by decide)
  refine stp_gen hI q (newR_hours v q.2.1 q.2.2.1 h9) ((ok_X6_hours hI.1.1 n8 q.1 q.2.1 q.2.2.1.2.1 h9 (txi_ok T (by decide)) hl0).post (fun _ _ _ hp => PS.ce hp)) (fun S1 m1 hM fm => ?_)
  have k7 := ok_X7_hours (X := X) (v := v) hM n8 (fm _ (by omega)) q.2.1 T.2.1 T.1 (txi_mt T) rfl q.2.2.1.2.1 h9
  rw [hoursS_eq q.2.2.1 h9] at k7
  exact k7.post (fun _ _ _ hp => PM.me hp)
theorem st_behind {X : Xb} {S : Sg} {m : Mem} {x : Nat} (hI : Inv S m x) (v : Int32) (w : Int32) : CStep 5 0 0 8 fX6_behind fX7_behind X [.int v, .int w] S m x := by
  obtain ⟨n, h, c, q⟩ := hI.2.1
  have n8 := q.2.2.1.1
  have T := q.2.2.2.2
  have h9 := q.2.2.2.1
  have hl0 : lwC S m (x + 1) 0 = lwM (m (x + 88)) 0 c := txi_lw T (by decide)
  refine stp_gen hI q (newR_id q.2.1 q.2.2.1 h9) ((ok_X6_behind hI.1.1 n8 q.1 q.2.1 (txi_ok T (by decide)) hl0 T.2.2.1).post (fun _ _ _ hp => PT.ce n8 q.1 hp)) (fun S1 m1 hM fm => ?_)
  have k7 := ok_X7_behind (X := X) (v := v) (w := w) hM n8 (fm _ (by omega)) q.2.1 T.2.1 T.1 (txi_mt T) rfl
  rw [behind_eq q.2.2.1 h9] at k7
  exact k7.post (fun _ _ _ hp => PK.me (fm _ (by omega)) hp)
theorem st_debt {X : Xb} {S : Sg} {m : Mem} {x : Nat} (hI : Inv S m x) (v : Int32) (y : Int32) : CStep 5 0 0 7 fX6_debt fX7_debt X [.int v, .int y] S m x := by
  obtain ⟨n, h, c, q⟩ := hI.2.1
  have n8 := q.2.2.1.1
  have T := q.2.2.2.2
  have h9 := q.2.2.2.1
  have hl0 : lwC S m (x + 1) 0 = lwM (m (x + 88)) 0 c := txi_lw T (by decide)
  refine stp_gen hI q (newR_id q.2.1 q.2.2.1 h9) ((ok_X6_debt hI.1.1 n8 q.1 q.2.1 (txi_ok T (by decide)) hl0 T.2.2.1).post (fun _ _ _ hp => PT.ce n8 q.1 hp)) (fun S1 m1 hM fm => ?_)
  have k7 := ok_X7_debt (X := X) (v := v) (y := y) hM n8 (fm _ (by omega)) q.2.1 T.2.1 T.1 (txi_mt T) rfl
  rw [debt_eq q.2.2.1 h9] at k7
  exact k7.post (fun _ _ _ hp => PK.me (fm _ (by omega)) hp)
theorem st_rises {X : Xb} {S : Sg} {m : Mem} {x : Nat} (hI : Inv S m x) (v : Int32) (y : Int32) : CStep 5 0 0 7 fX6_rises fX7_rises X [.int v, .int y] S m x := by
  obtain ⟨n, h, c, q⟩ := hI.2.1
  have n8 := q.2.2.1.1
  have T := q.2.2.2.2
  have h9 := q.2.2.2.1
  have hl0 : lwC S m (x + 1) 0 = lwM (m (x + 88)) 0 c := txi_lw T (by decide)
  refine stp_gen hI q (newR_id q.2.1 q.2.2.1 h9) ((ok_X6_rises hI.1.1 n8 q.1 q.2.1 (txi_ok T (by decide)) hl0 T.2.2.1).post (fun _ _ _ hp => PT.ce n8 q.1 hp)) (fun S1 m1 hM fm => ?_)
  have k7 := ok_X7_rises (X := X) (v := v) (y := y) hM n8 (fm _ (by omega)) q.2.1 T.2.1 T.1 (txi_mt T) rfl
  rw [rises_eq q.2.2.1 h9] at k7
  exact k7.post (fun _ _ _ hp => PK.me (fm _ (by omega)) hp)
theorem st_turned {X : Xb} {S : Sg} {m : Mem} {x : Nat} (hI : Inv S m x) (v : Int32) (u : Int32) (w : Int32) : CStep 6 0 0 9 fX6_turned fX7_turned X [.int v, .int u, .int w] S m x := by
  obtain ⟨n, h, c, q⟩ := hI.2.1
  have n8 := q.2.2.1.1
  have T := q.2.2.2.2
  have h9 := q.2.2.2.1
  have hl0 : lwC S m (x + 1) 0 = lwM (m (x + 88)) 0 c := txi_lw T (by decide)
  refine stp_gen hI q (newR_id q.2.1 q.2.2.1 h9) ((ok_X6_turned hI.1.1 n8 q.1 q.2.1 (txi_ok T (by decide)) hl0 T.2.2.1).post (fun _ _ _ hp => PT.ce n8 q.1 hp)) (fun S1 m1 hM fm => ?_)
  have k7 := ok_X7_turned (X := X) (v := v) (q := u) (w := w) hM n8 (fm _ (by omega)) q.2.1 T.2.1 T.1 (txi_mt T) rfl
  rw [turned_eq q.2.2.1 h9] at k7
  exact k7.post (fun _ _ _ hp => PK.me (fm _ (by omega)) hp)
theorem st_becomes {X : Xb} {S : Sg} {m : Mem} {x : Nat} (hI : Inv S m x) (v : Int32) (u : Int32) (w : Int32) : CStep 6 0 0 9 fX6_becomes fX7_becomes X [.int v, .int u, .int w] S m x := by
  obtain ⟨n, h, c, q⟩ := hI.2.1
  have n8 := q.2.2.1.1
  have T := q.2.2.2.2
  have h9 := q.2.2.2.1
  have hl0 : lwC S m (x + 1) 0 = lwM (m (x + 88)) 0 c := txi_lw T (by decide)
  refine stp_gen hI q (newR_id q.2.1 q.2.2.1 h9) ((ok_X6_becomes hI.1.1 n8 q.1 q.2.1 (txi_ok T (by decide)) hl0 T.2.2.1).post (fun _ _ _ hp => PT.ce n8 q.1 hp)) (fun S1 m1 hM fm => ?_)
  have k7 := ok_X7_becomes (X := X) (v := v) (q := u) (w := w) hM n8 (fm _ (by omega)) q.2.1 T.2.1 T.1 (txi_mt T) rfl
  rw [becomes_eq q.2.2.1 h9] at k7
  exact k7.post (fun _ _ _ hp => PK.me (fm _ (by omega)) hp)
theorem st_stands {X : Xb} {S : Sg} {m : Mem} {x : Nat} (hI : Inv S m x) (u : Int32) (w : Int32) : CStep 6 0 0 8 fX6_stands fX7_stands X [.int u, .int w] S m x := by
  obtain ⟨n, h, c, q⟩ := hI.2.1
  have n8 := q.2.2.1.1
  have T := q.2.2.2.2
  have h9 := q.2.2.2.1
  have hl0 : lwC S m (x + 1) 0 = lwM (m (x + 88)) 0 c := txi_lw T (by decide)
  refine stp_gen hI q (newR_id q.2.1 q.2.2.1 h9) ((ok_X6_stands hI.1.1 n8 q.1 q.2.1 (txi_ok T (by decide)) hl0 T.2.2.1).post (fun _ _ _ hp => PT.ce n8 q.1 hp)) (fun S1 m1 hM fm => ?_)
  have k7 := ok_X7_stands (X := X) (q := u) (w := w) hM n8 (fm _ (by omega)) q.2.1 T.2.1 T.1 (txi_mt T) rfl
  rw [stands_eq q.2.2.1 h9] at k7
  exact k7.post (fun _ _ _ hp => PK.me (fm _ (by omega)) hp)
theorem st_cover {X : Xb} {S : Sg} {m : Mem} {x : Nat} (hI : Inv S m x) (v : Int32) : CStep 4 0 0 4 fX6_cover fX7_cover X [.int v] S m x := by
  obtain ⟨n, h, c, q⟩ := hI.2.1
  have n8 := q.2.2.1.1
  have T := q.2.2.2.2
  have h9 := q.2.2.2.1
  refine stp_gen hI q (newR_id q.2.1 q.2.2.1 h9) ((ok_X6_cover hI.1.1 n8 q.1 q.2.1).post (fun _ _ _ hp => PS.ce hp)) (fun S1 m1 hM fm => ?_)
  have k7 := ok_X7_cover (X := X) (v := v) hM n8 (fm _ (by omega)) q.2.1
  rw [cover_eq q.2.2.1 (by omega)] at k7
  exact k7.post (fun _ _ _ hp => ⟨hp.1, hp.2.1, (hp.2.2 _ (by omega)).trans (fm _ (by omega)), fun a h1 h2 h3 h4 => hp.2.2 a (by omega)⟩)
