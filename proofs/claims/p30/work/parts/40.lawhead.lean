def lw_P (b : Addr) (xs : List Int32) (args : Array Value) (s : State) : Prop := args = #[.ref b] ∧ s.IntsAt b xs ∧ xs.length ≤ 3072 ∧ (Jvm.Cond.and given_1 narrow_1).before args s = true
def lw_Q (_ : Array Value) (s : State) (o : Outcome) (t : State) : Prop := o = .returned (some (.int 1)) ∧ Framed s o t [] 600000 7302250
def lw_Z (below : List Frame) (a : Array Value) (s : State) : State → Prop := fun t => ∃ o, t.status = .running ∧ Ended t below o ∧ lw_Q a s o t
/-- the law's own end, with 1 on the stack, nothing written that was there before, its room as the claim has it -/
theorem lw_ret {p : Program} {l : Launch} {e : Env} {s : State} {m : MethodId} {below : List Frame} {meth : Method} {c : Code} {b : Nat} (hx : p.tables.exec = Jvm.exec) (hb : c.code = code) (hr : meth.sig.returnType = ret) (hlocks : meth.locks = false) {pc : Nat} {H : Heap} {ls : Array Slot} (hdg : decode code pc = .ok (.ireturn, 1)) : W p l e room_1 s m #[Value.ref b] below meth c H [] 600000 7302250 (lw_Z below #[Value.ref b] s) (F0 m pc ls [.int 1]) := by
  intro T hT X
  obtain ⟨fs, hret, hrun, hended, hW, hframe⟩ := X.leave (v := some (.int 1)) (hlocks := hlocks) (fun h => by rw [hr] at h; cases h)
  have hmeth' : T.vm.method? m = some meth := X.method'
  refine ⟨T.setFrames fs, ?_, .returned (some (.int 1)), hrun, hended, rfl, ⟨_, rfl⟩, hW, hframe⟩
  jvm_step X.here [X.here.top, hx, hb, hdg, hmeth', hr, ret, narrow_b1]
  (try refine ⟨rfl, ?_⟩); (try refine ⟨rfl, ?_⟩)
  first | (intro acts; rw [hret _ acts rfl rfl rfl]) | rw [hret _ _ rfl rfl rfl]
  exact Steps.refl _
/-- what holds at the law's entry: the machine, the code, the tables' words (any of lw_tbl by 'hts w (by decide +kernel)'), the script of L ints xs at the cell b, what the Statement gives of the start (any of its parts by flat_of_before) -/
def lw_At (p : Program) (s : State) (m : MethodId) (meth : Method) (c : Code) (b L : Nat) (xs : Nat → Int32) : Prop :=
  p.tables.exec = Jvm.exec ∧ c.code = code ∧ meth.sig.returnType = ret ∧ c.maxLocals = 4 ∧ s.vm.findClass R_law = some m.cls ∧ (∀ w ∈ lw_tbl, w.before #[Value.ref b] s = true) ∧ va_X b L xs s s.heap ∧ b < s.heap.size ∧ meth.locks = false ∧ (Jvm.Cond.and given_1 narrow_1).before #[Value.ref b] s = true
set_option maxRecDepth 20000 in
set_option maxHeartbeats 4000000 in
theorem tz_N_of {s : State} {b : Nat} (hts : ∀ w ∈ lw_tbl, w.before #[Value.ref b] s = true) (hgv : (Jvm.Cond.and given_1 narrow_1).before #[Value.ref b] s = true) : tz_N s := by
  have hs := flat_of_before _ hgv
  obtain ⟨a, c, cA, kA, q1, -⟩ := Cond.exactly_spec (args := #[Value.ref b]) (first := s) (o := none) (s := s) (idx := []) (t := .string RX5 60) (cls := "java/lang/String") (hs (.exactly (.string RX5 60) "java/lang/String") (by decide +kernel))
  exact ⟨⟨va_Nw.of rfl (hts (.methodLinkNest RX11 9 yX4_init "ThriceCounted") (by decide +kernel)), va_Nw.of rfl (hts (.methodLinkNest RX11 12 yX1_init "ThriceCounted") (by decide +kernel)), va_Nw.of rfl (hts (.methodLinkNest RX11 15 yX10_init "ThriceCounted") (by decide +kernel)), va_Nw.of rfl (hts (.methodLinkNest RX11 18 yX3_init "ThriceCounted") (by decide +kernel)), va_Nw.of rfl (hts (.methodLinkNest RX11 21 yX9_init "ThriceCounted") (by decide +kernel)), va_Nw.of rfl (hts (.methodLinkNest RX11 24 yX8_init "ThriceCounted") (by decide +kernel)), va_Nw.of rfl (hts (.methodLinkNest RX11 48 yX7_init "ThriceCounted") (by decide +kernel)), va_Nw.of rfl (hts (.methodLinkNest RX11 55 yX5_init "ThriceCounted") (by decide +kernel)), va_Nw.of rfl (hts (.methodLinkNest RX11 62 yX2_init "ThriceCounted") (by decide +kernel))⟩, ⟨va_Nw.of rfl (hts (.methodLinkNest RX1 1 yX4_init "ThriceCounted") (by decide +kernel)), va_Nw.of rfl (hts (.methodLinkNest RX10 1 yX4_init "ThriceCounted") (by decide +kernel)), va_Nw.of rfl (hts (.methodLinkNest RX9 1 yX4_init "ThriceCounted") (by decide +kernel)), va_Nw.of rfl (hts (.methodLinkNest RX3 1 yX10_init "ThriceCounted") (by decide +kernel)), va_Nw.of rfl (hts (.methodLinkNest RX8 1 yX9_init "ThriceCounted") (by decide +kernel))⟩, ⟨va_AO.of (hts (.arrayOver (.object RX0)) (by decide +kernel)), va_AO.of (hts (.arrayOver (.object RX4)) (by decide +kernel)), va_AO.of (hts (.arrayOver (.object RX6)) (by decide +kernel))⟩, ⟨va_Nw.of rfl (hts (.castable RX1 RX4) (by decide +kernel)), va_Nw.of rfl (hts (.castable RX10 RX4) (by decide +kernel)), va_Nw.of rfl (hts (.castable RX3 RX4) (by decide +kernel)), va_Nw.of rfl (hts (.castable RX9 RX4) (by decide +kernel)), va_Nw.of rfl (hts (.castable RX8 RX4) (by decide +kernel))⟩, a, vk_R.of (hts (.stringRef RX5 60 "bank") (by decide +kernel)) q1⟩
theorem tz_way {na nb : Int32} : (if 0 ≤ na ∧ na ≤ 5 then (if 0 ≤ nb ∧ nb ≤ 21 then (if 20 ≤ nb then (if nb = 20 then zM na else zN (zS na) 0 20) else zS na nb) else (-100)) else (-100)) = (if 0 ≤ na ∧ na ≤ 5 then (if 0 ≤ nb ∧ nb ≤ 21 then (if nb = 20 then zM na else if nb = 21 then zN (yS na) 0 20 else yS na nb) else (-100)) else (-100)) := by
  by_cases h1 : 0 ≤ na ∧ na ≤ 5
  · rw [if_pos h1, if_pos h1]
    by_cases h2 : 0 ≤ nb ∧ nb ≤ 21
    · rw [if_pos h2, if_pos h2]
      obtain ⟨j, hj, rfl⟩ := tz_pick (n := 22) h2.1 h2.2 (by decide)
      by_cases h3 : (20 : Int32) ≤ nI j
      · rw [if_pos h3]
        have h4 : 20 ≤ j := (nI_leI (a := 20) (b := j) (by decide) (by omega)).mp h3
        rcases (show j = 20 ∨ j = 21 by omega) with rfl | rfl
        · rfl
        · rw [if_neg (by decide), if_neg (by decide), if_pos (by decide)]
          exact (tz_zN_congr (tz_yz h1) 0 20 (by decide)).symm
      · rw [if_neg h3]
        have h4 : ¬ 20 ≤ j := fun q => h3 ((nI_leI (a := 20) (b := j) (by decide) (by omega)).mpr q)
        rw [if_neg (fun q => h4 (by have := (nI_eq (a := j) (b := 20) (by omega) (by decide)).mp q; omega)), if_neg (fun q => h4 (by have := (nI_eq (a := j) (b := 21) (by omega) (by decide)).mp q; omega))]
        exact (tz_yz h1 j (by omega)).symm
    · rw [if_neg h2, if_neg h2]
  · rw [if_neg h1, if_neg h1]
theorem tz_odds {na nb : Int32} : (if 0 ≤ na ∧ na ≤ 5 then (if (-40) ≤ nb ∧ nb ≤ 40 then zN (zS na) nb 20 else (-2)) else (-2)) = (if 0 ≤ na ∧ na ≤ 5 then (if (-40) ≤ nb ∧ nb ≤ 40 then zN (yS na) nb 20 else (-2)) else (-2)) := by
  by_cases h1 : 0 ≤ na ∧ na ≤ 5
  · rw [if_pos h1, if_pos h1, tz_zN_congr (tz_yz h1) nb 20 (by decide)]
  · rw [if_neg h1, if_neg h1]
theorem tz_lawc {i L : Nat} (hL : L ≤ 3072) (hi : i ≤ 4000) (h : ¬ (nI L - 6) < nI i) : i + 6 ≤ L := by
  have e : (nI L - 6).toInt = (L : Int) - 6 := pk_sub_toInt (a := L) (b := 6) (by omega) (by decide)
  have h1 := tz_nlt h
  rw [Int32.le_iff_toInt_le, e, nI_toInt (by omega)] at h1
  omega
set_option maxRecDepth 20000 in
set_option maxHeartbeats 4000000 in
theorem tz_Z_of {s : State} {b : Nat} (hts : ∀ w ∈ lw_tbl, w.before #[Value.ref b] s = true) (hgv : (Jvm.Cond.and given_1 narrow_1).before #[Value.ref b] s = true) {A : Nat → Prop} (hA : ∀ a : Nat, a < s.heap.size → ¬ A a) : va_Z "java/lang/String" "COMPACT_STRINGS" "Z" (.int 1) A s s.heap ∧ va_Zq "jdk/internal/util/Preconditions" "SIOOBE_FORMATTER" "Ljava/util/function/BiFunction;" A s s.heap := by
  have hs := flat_of_before _ hgv
  exact ⟨va_Zof (hts (.laysStatic "java/lang/String" "COMPACT_STRINGS" "Z") (by decide +kernel)) (hts (.initialized "java/lang/String") (by decide +kernel)) (va_eqt (hs (.eq (.static "java/lang/String" "COMPACT_STRINGS" "Z") (.int 1)) (by decide +kernel))) hA, va_Zqof (hts (.laysStatic "jdk/internal/util/Preconditions" "SIOOBE_FORMATTER" "Ljava/util/function/BiFunction;") (by decide +kernel)) (hts (.initialized "jdk/internal/util/Preconditions") (by decide +kernel)) (hs (.isRef (.static "jdk/internal/util/Preconditions" "SIOOBE_FORMATTER" "Ljava/util/function/BiFunction;")) (by decide +kernel)) hA⟩
set_option maxRecDepth 20000 in
set_option maxHeartbeats 4000000 in
theorem tz_V0_of {s : State} {b : Nat} (hts : ∀ w ∈ lw_tbl, w.before #[Value.ref b] s = true) (hgv : (Jvm.Cond.and given_1 narrow_1).before #[Value.ref b] s = true) {A : Nat → Prop} (hA : ∀ a : Nat, a < s.heap.size → ¬ A a) : ∃ q v : Nat, vk_R RX5 60 "bank" q s ∧ tz_St q v 4 (tz_sf 0) A s s.heap := by
  have hs := flat_of_before _ hgv
  obtain ⟨adK, adV, hS, hT⟩ := vk_Sof (args := #[Value.ref b]) (s := s) (N := 1) (tm := fun _ => (.string RX5 60)) (len := [4]) (byt := [[98, 97, 110, 107]]) (A := A) (by decide) (fun _ _ => hs (.exactly (.string RX5 60) "java/lang/String") (by decide +kernel)) (fun _ _ => hs (.eq (.field (.string RX5 60) "java/lang/String" "coder" "B") (.int 0)) (by decide +kernel)) (fun _ _ => hs (.arrayOf (.field (.string RX5 60) "java/lang/String" "value" "[B") .byte) (by decide +kernel)) (fun i hi => by
    obtain rfl : i = 0 := by omega
    exact hs (.eq (.length (.field (.string RX5 60) "java/lang/String" "value" "[B")) (.int 4)) (by decide +kernel)) (fun i hi j hj => by
    obtain rfl : i = 0 := by omega
    have hj' : j < 4 := hj
    rcases (show j = 0 ∨ j = 1 ∨ j = 2 ∨ j = 3 by omega) with rfl | rfl | rfl | rfl
    · exact hs (.eq (.elem (.field (.string RX5 60) "java/lang/String" "value" "[B") (.int 0)) (.int 98)) (by decide +kernel)
    · exact hs (.eq (.elem (.field (.string RX5 60) "java/lang/String" "value" "[B") (.int 1)) (.int 97)) (by decide +kernel)
    · exact hs (.eq (.elem (.field (.string RX5 60) "java/lang/String" "value" "[B") (.int 2)) (.int 110)) (by decide +kernel)
    · exact hs (.eq (.elem (.field (.string RX5 60) "java/lang/String" "value" "[B") (.int 3)) (.int 107)) (by decide +kernel)) (fun i j hi hj h => absurd (show i = j by omega) h) hA
  obtain ⟨hz, hq⟩ := tz_Z_of hts hgv hA
  obtain ⟨a1, a2, a3, a4⟩ := hS.1 0 (by decide)
  exact ⟨adK 0, adV 0, vk_R.of (hts (.stringRef RX5 60 "bank") (by decide +kernel)) (hT 0 (by decide)), a1, a2, a3, a4, hz, hq⟩
set_option maxRecDepth 20000 in
set_option maxHeartbeats 4000000 in
theorem tz_V1_of {s : State} {b : Nat} (hts : ∀ w ∈ lw_tbl, w.before #[Value.ref b] s = true) (hgv : (Jvm.Cond.and given_1 narrow_1).before #[Value.ref b] s = true) {A : Nat → Prop} (hA : ∀ a : Nat, a < s.heap.size → ¬ A a) : ∃ q v : Nat, vk_R RX5 73 "clerk" q s ∧ tz_St q v 5 (tz_sf 1) A s s.heap := by
  have hs := flat_of_before _ hgv
  obtain ⟨adK, adV, hS, hT⟩ := vk_Sof (args := #[Value.ref b]) (s := s) (N := 1) (tm := fun _ => (.string RX5 73)) (len := [5]) (byt := [[99, 108, 101, 114, 107]]) (A := A) (by decide) (fun _ _ => hs (.exactly (.string RX5 73) "java/lang/String") (by decide +kernel)) (fun _ _ => hs (.eq (.field (.string RX5 73) "java/lang/String" "coder" "B") (.int 0)) (by decide +kernel)) (fun _ _ => hs (.arrayOf (.field (.string RX5 73) "java/lang/String" "value" "[B") .byte) (by decide +kernel)) (fun i hi => by
    obtain rfl : i = 0 := by omega
    exact hs (.eq (.length (.field (.string RX5 73) "java/lang/String" "value" "[B")) (.int 5)) (by decide +kernel)) (fun i hi j hj => by
    obtain rfl : i = 0 := by omega
    have hj' : j < 5 := hj
    rcases (show j = 0 ∨ j = 1 ∨ j = 2 ∨ j = 3 ∨ j = 4 by omega) with rfl | rfl | rfl | rfl | rfl
    · exact hs (.eq (.elem (.field (.string RX5 73) "java/lang/String" "value" "[B") (.int 0)) (.int 99)) (by decide +kernel)
    · exact hs (.eq (.elem (.field (.string RX5 73) "java/lang/String" "value" "[B") (.int 1)) (.int 108)) (by decide +kernel)
    · exact hs (.eq (.elem (.field (.string RX5 73) "java/lang/String" "value" "[B") (.int 2)) (.int 101)) (by decide +kernel)
    · exact hs (.eq (.elem (.field (.string RX5 73) "java/lang/String" "value" "[B") (.int 3)) (.int 114)) (by decide +kernel)
    · exact hs (.eq (.elem (.field (.string RX5 73) "java/lang/String" "value" "[B") (.int 4)) (.int 107)) (by decide +kernel)) (fun i j hi hj h => absurd (show i = j by omega) h) hA
  obtain ⟨hz, hq⟩ := tz_Z_of hts hgv hA
  obtain ⟨a1, a2, a3, a4⟩ := hS.1 0 (by decide)
  exact ⟨adK 0, adV 0, vk_R.of (hts (.stringRef RX5 73 "clerk") (by decide +kernel)) (hT 0 (by decide)), a1, a2, a3, a4, hz, hq⟩
set_option maxRecDepth 20000 in
set_option maxHeartbeats 4000000 in
theorem tz_V2_of {s : State} {b : Nat} (hts : ∀ w ∈ lw_tbl, w.before #[Value.ref b] s = true) (hgv : (Jvm.Cond.and given_1 narrow_1).before #[Value.ref b] s = true) {A : Nat → Prop} (hA : ∀ a : Nat, a < s.heap.size → ¬ A a) : ∃ q v : Nat, vk_R RX5 87 "bundle" q s ∧ tz_St q v 6 (tz_sf 2) A s s.heap := by
  have hs := flat_of_before _ hgv
  obtain ⟨adK, adV, hS, hT⟩ := vk_Sof (args := #[Value.ref b]) (s := s) (N := 1) (tm := fun _ => (.string RX5 87)) (len := [6]) (byt := [[98, 117, 110, 100, 108, 101]]) (A := A) (by decide) (fun _ _ => hs (.exactly (.string RX5 87) "java/lang/String") (by decide +kernel)) (fun _ _ => hs (.eq (.field (.string RX5 87) "java/lang/String" "coder" "B") (.int 0)) (by decide +kernel)) (fun _ _ => hs (.arrayOf (.field (.string RX5 87) "java/lang/String" "value" "[B") .byte) (by decide +kernel)) (fun i hi => by
    obtain rfl : i = 0 := by omega
    exact hs (.eq (.length (.field (.string RX5 87) "java/lang/String" "value" "[B")) (.int 6)) (by decide +kernel)) (fun i hi j hj => by
    obtain rfl : i = 0 := by omega
    have hj' : j < 6 := hj
    rcases (show j = 0 ∨ j = 1 ∨ j = 2 ∨ j = 3 ∨ j = 4 ∨ j = 5 by omega) with rfl | rfl | rfl | rfl | rfl | rfl
    · exact hs (.eq (.elem (.field (.string RX5 87) "java/lang/String" "value" "[B") (.int 0)) (.int 98)) (by decide +kernel)
    · exact hs (.eq (.elem (.field (.string RX5 87) "java/lang/String" "value" "[B") (.int 1)) (.int 117)) (by decide +kernel)
    · exact hs (.eq (.elem (.field (.string RX5 87) "java/lang/String" "value" "[B") (.int 2)) (.int 110)) (by decide +kernel)
    · exact hs (.eq (.elem (.field (.string RX5 87) "java/lang/String" "value" "[B") (.int 3)) (.int 100)) (by decide +kernel)
    · exact hs (.eq (.elem (.field (.string RX5 87) "java/lang/String" "value" "[B") (.int 4)) (.int 108)) (by decide +kernel)
    · exact hs (.eq (.elem (.field (.string RX5 87) "java/lang/String" "value" "[B") (.int 5)) (.int 101)) (by decide +kernel)) (fun i j hi hj h => absurd (show i = j by omega) h) hA
  obtain ⟨hz, hq⟩ := tz_Z_of hts hgv hA
  obtain ⟨a1, a2, a3, a4⟩ := hS.1 0 (by decide)
  exact ⟨adK 0, adV 0, vk_R.of (hts (.stringRef RX5 87 "bundle") (by decide +kernel)) (hT 0 (by decide)), a1, a2, a3, a4, hz, hq⟩
set_option maxRecDepth 20000 in
set_option maxHeartbeats 4000000 in
theorem tz_V3_of {s : State} {b : Nat} (hts : ∀ w ∈ lw_tbl, w.before #[Value.ref b] s = true) (hgv : (Jvm.Cond.and given_1 narrow_1).before #[Value.ref b] s = true) {A : Nat → Prop} (hA : ∀ a : Nat, a < s.heap.size → ¬ A a) : ∃ q v : Nat, vk_R RX5 95 "band" q s ∧ tz_St q v 4 (tz_sf 3) A s s.heap := by
  have hs := flat_of_before _ hgv
  obtain ⟨adK, adV, hS, hT⟩ := vk_Sof (args := #[Value.ref b]) (s := s) (N := 1) (tm := fun _ => (.string RX5 95)) (len := [4]) (byt := [[98, 97, 110, 100]]) (A := A) (by decide) (fun _ _ => hs (.exactly (.string RX5 95) "java/lang/String") (by decide +kernel)) (fun _ _ => hs (.eq (.field (.string RX5 95) "java/lang/String" "coder" "B") (.int 0)) (by decide +kernel)) (fun _ _ => hs (.arrayOf (.field (.string RX5 95) "java/lang/String" "value" "[B") .byte) (by decide +kernel)) (fun i hi => by
    obtain rfl : i = 0 := by omega
    exact hs (.eq (.length (.field (.string RX5 95) "java/lang/String" "value" "[B")) (.int 4)) (by decide +kernel)) (fun i hi j hj => by
    obtain rfl : i = 0 := by omega
    have hj' : j < 4 := hj
    rcases (show j = 0 ∨ j = 1 ∨ j = 2 ∨ j = 3 by omega) with rfl | rfl | rfl | rfl
    · exact hs (.eq (.elem (.field (.string RX5 95) "java/lang/String" "value" "[B") (.int 0)) (.int 98)) (by decide +kernel)
    · exact hs (.eq (.elem (.field (.string RX5 95) "java/lang/String" "value" "[B") (.int 1)) (.int 97)) (by decide +kernel)
    · exact hs (.eq (.elem (.field (.string RX5 95) "java/lang/String" "value" "[B") (.int 2)) (.int 110)) (by decide +kernel)
    · exact hs (.eq (.elem (.field (.string RX5 95) "java/lang/String" "value" "[B") (.int 3)) (.int 100)) (by decide +kernel)) (fun i j hi hj h => absurd (show i = j by omega) h) hA
  obtain ⟨hz, hq⟩ := tz_Z_of hts hgv hA
  obtain ⟨a1, a2, a3, a4⟩ := hS.1 0 (by decide)
  exact ⟨adK 0, adV 0, vk_R.of (hts (.stringRef RX5 95 "band") (by decide +kernel)) (hT 0 (by decide)), a1, a2, a3, a4, hz, hq⟩
set_option maxRecDepth 20000 in
set_option maxHeartbeats 4000000 in
theorem tz_V4_of {s : State} {b : Nat} (hts : ∀ w ∈ lw_tbl, w.before #[Value.ref b] s = true) (hgv : (Jvm.Cond.and given_1 narrow_1).before #[Value.ref b] s = true) {A : Nat → Prop} (hA : ∀ a : Nat, a < s.heap.size → ¬ A a) : ∃ q v : Nat, vk_R RX5 100 "count" q s ∧ tz_St q v 5 (tz_sf 4) A s s.heap := by
  have hs := flat_of_before _ hgv
  obtain ⟨adK, adV, hS, hT⟩ := vk_Sof (args := #[Value.ref b]) (s := s) (N := 1) (tm := fun _ => (.string RX5 100)) (len := [5]) (byt := [[99, 111, 117, 110, 116]]) (A := A) (by decide) (fun _ _ => hs (.exactly (.string RX5 100) "java/lang/String") (by decide +kernel)) (fun _ _ => hs (.eq (.field (.string RX5 100) "java/lang/String" "coder" "B") (.int 0)) (by decide +kernel)) (fun _ _ => hs (.arrayOf (.field (.string RX5 100) "java/lang/String" "value" "[B") .byte) (by decide +kernel)) (fun i hi => by
    obtain rfl : i = 0 := by omega
    exact hs (.eq (.length (.field (.string RX5 100) "java/lang/String" "value" "[B")) (.int 5)) (by decide +kernel)) (fun i hi j hj => by
    obtain rfl : i = 0 := by omega
    have hj' : j < 5 := hj
    rcases (show j = 0 ∨ j = 1 ∨ j = 2 ∨ j = 3 ∨ j = 4 by omega) with rfl | rfl | rfl | rfl | rfl
    · exact hs (.eq (.elem (.field (.string RX5 100) "java/lang/String" "value" "[B") (.int 0)) (.int 99)) (by decide +kernel)
    · exact hs (.eq (.elem (.field (.string RX5 100) "java/lang/String" "value" "[B") (.int 1)) (.int 111)) (by decide +kernel)
    · exact hs (.eq (.elem (.field (.string RX5 100) "java/lang/String" "value" "[B") (.int 2)) (.int 117)) (by decide +kernel)
    · exact hs (.eq (.elem (.field (.string RX5 100) "java/lang/String" "value" "[B") (.int 3)) (.int 110)) (by decide +kernel)
    · exact hs (.eq (.elem (.field (.string RX5 100) "java/lang/String" "value" "[B") (.int 4)) (.int 116)) (by decide +kernel)) (fun i j hi hj h => absurd (show i = j by omega) h) hA
  obtain ⟨hz, hq⟩ := tz_Z_of hts hgv hA
  obtain ⟨a1, a2, a3, a4⟩ := hS.1 0 (by decide)
  exact ⟨adK 0, adV 0, vk_R.of (hts (.stringRef RX5 100 "count") (by decide +kernel)) (hT 0 (by decide)), a1, a2, a3, a4, hz, hq⟩
theorem tz_V_of {s : State} {b : Nat} (hts : ∀ w ∈ lw_tbl, w.before #[Value.ref b] s = true) (hgv : (Jvm.Cond.and given_1 narrow_1).before #[Value.ref b] s = true) {A : Nat → Prop} (hA : ∀ a : Nat, a < s.heap.size → ¬ A a) : tz_V A s s.heap := fun i hi => by
  rcases (show i = 0 ∨ i = 1 ∨ i = 2 ∨ i = 3 ∨ i = 4 by omega) with rfl | rfl | rfl | rfl | rfl
  · exact tz_V0_of hts hgv hA
  · exact tz_V1_of hts hgv hA
  · exact tz_V2_of hts hgv hA
  · exact tz_V3_of hts hgv hA
  · exact tz_V4_of hts hgv hA
